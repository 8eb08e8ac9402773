theorem flI_app {T : Nat → Nat} {a i : Nat} : ∀ k, flI T a (i + k) = flI T a i ++ flI T (a + i) k := by
  intro k
  induction k with
  | zero => rw [Nat.add_zero]; exact (List.append_nil _).symm
  | succ k ih => rw [← Nat.add_assoc, flI_s, ih, flI_s, List.append_assoc, Nat.add_assoc]
def flF (T : Nat → Nat) (a i : Nat) : Nat := (flI T a i).length
theorem flF_le {T : Nat → Nat} {a i j : Nat} (h : i ≤ j) : flF T a i ≤ flF T a j := by
  unfold flF
  rw [show j = i + (j - i) by omega, flI_app, List.length_append]
  omega
theorem flF_w {T : Nat → Nat} {a i : Nat} (h : T (a + i) = 32 ∨ T (a + i) = 9 ∨ T (a + i) = 10) : flF T a (i + 1) = flF T a i := by
  unfold flF
  rw [flI_s, if_pos h, List.append_nil]
theorem flF_k {T : Nat → Nat} {a i : Nat} (h : ¬ (T (a + i) = 32 ∨ T (a + i) = 9 ∨ T (a + i) = 10)) : flF T a (i + 1) = flF T a i + 1 := by
  unfold flF
  rw [flI_s, if_neg h, List.length_append]
  rfl
theorem flT_k {T : Nat → Nat} {a i k : Nat} (h : ¬ (T (a + i) = 32 ∨ T (a + i) = 9 ∨ T (a + i) = 10)) (hi : i < k) : flF T a i < flF T a k ∧ flT T a k (flF T a i) = T (a + i) := by
  have h1 := flF_k h
  have h2 := flF_le (T := T) (a := a) (show i + 1 ≤ k by omega)
  have h3 : flF T a i < flF T a k := by omega
  refine ⟨h3, ?_⟩
  unfold flT
  rw [if_pos (show flF T a i < (flI T a k).length from h3)]
  have h4 : flI T a k = flI T a i ++ flI T (a + i) (k - i) := by
    rw [← flI_app, show i + (k - i) = k by omega]
  have h5 : flI T (a + i) (k - i) = [a + i] ++ flI T (a + i + 1) (k - i - 1) := by
    conv => lhs; rw [show k - i = 1 + (k - i - 1) by omega, flI_app]
    congr 1
    show flI T (a + i) 0 ++ _ = _
    rw [Nat.add_zero, if_neg h]
    rfl
  rw [h4, h5]
  have h6 : (flI T a i ++ ([a + i] ++ flI T (a + i + 1) (k - i - 1))).getD (flI T a i).length 0 = ([a + i] ++ flI T (a + i + 1) (k - i - 1)).getD 0 0 := apl_r (W := [a + i] ++ flI T (a + i + 1) (k - i - 1)) (flI T a i) 0
  show T ((flI T a i ++ ([a + i] ++ flI T (a + i + 1) (k - i - 1))).getD (flI T a i).length 0) = _
  rw [h6]
  rfl
theorem fl_pos {T : Nat → Nat} {a : Nat} : ∀ k m, m < flF T a k → ∃ p, p < k ∧ flF T a p = m ∧ ¬ (T (a + p) = 32 ∨ T (a + p) = 9 ∨ T (a + p) = 10) ∧ flT T a k m = T (a + p) := by
  intro k
  induction k with
  | zero => intro m h; exact absurd h (Nat.not_lt_zero _)
  | succ k ih =>
    intro m h
    by_cases c : T (a + k) = 32 ∨ T (a + k) = 9 ∨ T (a + k) = 10
    · rw [flF_w c] at h
      obtain ⟨p, h1, h2, h3, h4⟩ := ih m h
      refine ⟨p, by omega, h2, h3, ?_⟩
      rw [← h2]
      exact (flT_k h3 (by omega)).2
    · rw [flF_k c] at h
      rcases Nat.lt_or_ge m (flF T a k) with q | q
      · obtain ⟨p, h1, h2, h3, h4⟩ := ih m q
        refine ⟨p, by omega, h2, h3, ?_⟩
        rw [← h2]
        exact (flT_k h3 (by omega)).2
      · refine ⟨k, by omega, by omega, c, ?_⟩
        rw [show m = flF T a k by omega]
        exact (flT_k c (by omega)).2
theorem flF_inj {T : Nat → Nat} {a i j : Nat} (h : flF T a i < flF T a j) : i < j := Nat.not_le.mp (fun q => by
  have h9 := flF_le (T := T) (a := a) q
  omega)
theorem fd_y {T : Nat → Nat} {c a b : Nat} (h : a ≤ b) : (fdT T c a b = b ∨ T (fdT T c a b) = c) ∧ ∀ i, a ≤ i → i < fdT T c a b → ¬ T i = c := by
  have key : ∀ d a, (fdw T c d a = a + d ∨ T (fdw T c d a) = c) ∧ ∀ i, a ≤ i → i < fdw T c d a → ¬ T i = c := by
    intro d
    induction d with
    | zero => intro a; exact ⟨Or.inl rfl, fun i h1 h2 => absurd h2 (by show ¬ i < a; omega)⟩
    | succ d ih =>
      intro a
      by_cases q : T a = c
      · have e : fdw T c (d + 1) a = a := if_pos q
        rw [e]
        exact ⟨Or.inr q, fun i h1 h2 => absurd h2 (by omega)⟩
      · have e : fdw T c (d + 1) a = fdw T c d (a + 1) := if_neg q
        rw [e]
        obtain ⟨h1, h2⟩ := ih (a + 1)
        refine ⟨h1.imp (fun w => by omega) id, fun i a1 a2 => ?_⟩
        rcases Nat.lt_or_ge a i with w | w
        · exact h2 i (by omega) a2
        · rw [show i = a by omega]
          exact q
  have h9 := key (b - a) a
  rw [show a + (b - a) = b by omega] at h9
  exact h9
theorem fd_flt {T : Nat → Nat} {a k c i j : Nat} (hc : ¬ (c = 32 ∨ c = 9 ∨ c = 10)) (hij : i ≤ j) (hj : j ≤ k) : fdT (flT T a k) c (flF T a i) (flF T a j) = flF T a (fdT T c (a + i) (a + j) - a) := by
  have h1 := fd_ge (T := T) (c := c) (a := a + i) (b := a + j) (by omega)
  obtain ⟨h2, h3⟩ := fd_y (T := T) (c := c) (a := a + i) (b := a + j) (by omega)
  generalize fdT T c (a + i) (a + j) = q at h1 h2 h3 ⊢
  refine fd_at (flF_le (by omega)) (flF_le (by omega)) (fun m m1 m2 => ?_) ?_
  · obtain ⟨p, p1, p2, p3, p4⟩ := fl_pos k m (Nat.lt_of_lt_of_le m2 (flF_le (by omega)))
    rw [p4]
    have p5 : p < q - a := flF_inj (T := T) (a := a) (by rw [p2]; exact m2)
    have p6 : i ≤ p := Nat.not_lt.mp (fun w => by
      have w1 := flF_k p3
      have w2 := flF_le (T := T) (a := a) (show p + 1 ≤ i by omega)
      omega)
    exact h3 (a + p) (by omega) (by omega)
  · rcases h2 with h2 | h2
    · exact Or.inl (by rw [show q - a = j by omega])
    · rcases Nat.lt_or_ge q (a + j) with w | w
      · refine Or.inr ?_
        have h4 := flT_k (T := T) (a := a) (i := q - a) (k := k) (by rw [show a + (q - a) = q by omega, h2]; exact hc) (by omega)
        rw [h4.2, show a + (q - a) = q by omega]
        exact h2
      · exact Or.inl (by rw [show q - a = j by omega])
theorem ltb_f {T : Nat → Nat} {a k i s : Nat} (h1 : i ≤ s) (h2 : s ≤ k) : LTB T (a + i) (a + s) ↔ ISL (flT T a k) (flF T a i) (flF T a s) [98] := by
  have e1 : flI T a s = flI T a i ++ flI T (a + i) (s - i) := by rw [← flI_app, show i + (s - i) = s by omega]
  have e2 : flF T a s = flF T a i + (flI T (a + i) (s - i)).length := by
    unfold flF
    rw [e1, List.length_append]
  have e3 : ∀ p, flI T (a + i) (s - i) = [p] → flT T a k (flF T a i) = T p := fun p hp => by
    rw [hp] at e2
    have e4 : flF T a i < flF T a s := by rw [e2]; exact Nat.lt_succ_self _
    have e5 := flF_le (T := T) (a := a) h2
    unfold flT
    rw [if_pos (show flF T a i < (flI T a k).length from Nat.lt_of_lt_of_le e4 e5)]
    have e6 : flI T a k = flI T a i ++ ([p] ++ flI T (a + s) (k - s)) := by
      rw [← hp, ← List.append_assoc, ← e1, ← flI_app, show s + (k - s) = k by omega]
    have e7 := apl_r (W := [p] ++ flI T (a + s) (k - s)) (flI T a i) 0
    rw [Nat.add_zero] at e7
    rw [e6]
    show T ((flI T a i ++ ([p] ++ flI T (a + s) (k - s))).getD (flI T a i).length 0) = _
    rw [e7]
    rfl
  unfold LTB ISL LIT
  rw [show a + s - (a + i) = s - i by omega]
  constructor
  · rintro ⟨p, q1, q2⟩
    refine ⟨by rw [e2, q1]; rfl, fun j hj => ?_⟩
    obtain rfl : j = 0 := by
      have h9 : j < 1 := hj
      omega
    rw [Nat.add_zero, e3 p q1, q2]
    rfl
  · rintro ⟨q1, q2⟩
    have q3 : (flI T (a + i) (s - i)).length = 1 := by
      have h9 : flF T a i + 1 = flF T a s := q1
      omega
    obtain ⟨p, hp⟩ := List.length_eq_one_iff.mp q3
    refine ⟨p, hp, ?_⟩
    have q4 := q2 0 (by decide)
    rw [Nat.add_zero, e3 p hp] at q4
    exact q4
def HSB (T : Nat → Nat) (g : Nat → Nat → Nat) (n : Nat) : Prop := TGE T g n [98]
noncomputable def owl (T : Nat → Nat) (e : Nat) : Nat → Nat → Option (Nat × Nat)
  | 0, _ => none
  | k + 1, a => if e < a then none else match owl T e k (fdT T 59 a e + 1) with
    | some r => some r
    | none => @ite (Option (Nat × Nat)) (LTB T a (fdT T 61 a (fdT T 59 a e))) (Classical.propDecidable _) (some (fdT T 61 a (fdT T 59 a e) + 1, fdT T 59 a e)) none
theorem owl_d {T : Nat → Nat} {e a : Nat} (h : e < a) : ∀ k, owl T e k a = none
  | 0 => rfl
  | _ + 1 => if_pos h
theorem owl_s {T : Nat → Nat} {e k a q : Nat} (h : a ≤ e) (hq : fdT T 59 a e = q) : owl T e (k + 1) a = match owl T e k (q + 1) with
    | some r => some r
    | none => @ite (Option (Nat × Nat)) (LTB T a (fdT T 61 a q)) (Classical.propDecidable _) (some (fdT T 61 a q + 1, q)) none := by
  show (if e < a then none else match owl T e k (fdT T 59 a e + 1) with
    | some r => some r
    | none => @ite (Option (Nat × Nat)) (LTB T a (fdT T 61 a (fdT T 59 a e))) (Classical.propDecidable _) (some (fdT T 61 a (fdT T 59 a e) + 1, fdT T 59 a e)) none) = _
  rw [if_neg (by omega), hq]
theorem owl_f {T : Nat → Nat} {e : Nat} : ∀ k m a, e + 1 - a ≤ k → e + 1 - a ≤ m → owl T e k a = owl T e m a := by
  intro k
  induction k with
  | zero =>
    intro m a h1 h2
    rw [owl_d (by omega), owl_d (by omega)]
  | succ k ih =>
    intro m a h1 h2
    cases m with
    | zero => rw [owl_d (by omega), owl_d (by omega)]
    | succ m =>
      by_cases c : e < a
      · rw [owl_d c, owl_d c]
      · have h9 := fd_ge (T := T) (c := 59) (a := a) (b := e) (by omega)
        rw [owl_s (by omega) rfl, owl_s (by omega) rfl, ih m (fdT T 59 a e + 1) (by omega) (by omega)]
noncomputable def owL (T : Nat → Nat) (a e : Nat) : Option (Nat × Nat) := owl T e (e + 1 - a) a
theorem owL_c {T : Nat → Nat} {a e q : Nat} (h : a ≤ e) (hq : fdT T 59 a e = q) : owL T a e = match owL T (q + 1) e with
    | some r => some r
    | none => @ite (Option (Nat × Nat)) (LTB T a (fdT T 61 a q)) (Classical.propDecidable _) (some (fdT T 61 a q + 1, q)) none := by
  have h9 := fd_ge (T := T) (c := 59) (a := a) (b := e) h
  unfold owL
  rw [show e + 1 - a = (e - a) + 1 by omega, owl_s h hq, owl_f (e - a) (e + 1 - (q + 1)) (q + 1) (by omega) (by omega)]
theorem owL_n {T : Nat → Nat} {a e : Nat} (h : e < a) : owL T a e = none := owl_d h _
theorem hsb_add {T : Nat → Nat} {g : Nat → Nat → Nat} {n a q e : Nat} : HSB T (gpt g n a q e) (n + 1) ↔ HSB T g n ∨ ISL T a q [98] := by
  constructor
  · rintro ⟨k, h1, h2⟩
    by_cases c : k = n
    · subst c
      rw [gpt_0, gpt_1] at h2
      exact Or.inr h2
    · rw [gpt_ne c, gpt_ne c] at h2
      exact Or.inl ⟨k, by omega, h2⟩
  · rintro (⟨k, h1, h2⟩ | h)
    · exact ⟨k, by omega, by rw [gpt_ne (show k ≠ n by omega), gpt_ne (show k ≠ n by omega)]; exact h2⟩
    · exact ⟨n, by omega, by rw [gpt_0, gpt_1]; exact h⟩
theorem hsb_known {T : Nat → Nat} {g : Nat → Nat → Nat} {n a q : Nat} (h : HSB T g n) (hi : ISL T a q [98]) : KNW T g n a q := by
  obtain ⟨k, h1, h2⟩ := h
  refine ⟨k, h1, ?_, fun i hh => ?_⟩
  · have e1 : g 0 k + 1 = g 1 k := h2.1
    have e2 : a + 1 = q := hi.1
    omega
  · have e2 : a + 1 = q := hi.1
    obtain rfl : i = 0 := by omega
    have e3 := h2.2 0 (by decide)
    have e4 := hi.2 0 (by decide)
    rw [e3, e4]
theorem ow_end {T : Nat → Nat} {a k i : Nat} (hi : i ≤ k) (h : flF T a k ≤ flF T a i) : owS T (a + i) (a + k) = none ∧ owL T (a + i) (a + k) = none := by
  have hw : ∀ p, i ≤ p → p < k → (T (a + p) = 32 ∨ T (a + p) = 9 ∨ T (a + p) = 10) := fun p h1 h2 => Classical.byContradiction (fun c => by
    have w1 := flF_k c
    have w2 := flF_le (T := T) (a := a) h1
    have w3 := flF_le (T := T) (a := a) (show p + 1 ≤ k by omega)
    omega)
  have hq : fdT T 59 (a + i) (a + k) = a + k := fd_at (by omega) (Nat.le_refl _) (fun p h1 h2 q => by
    have h9 := hw (p - a) (by omega) (by omega)
    rw [show a + (p - a) = p by omega, q] at h9
    omega) (Or.inl rfl)
  have h61 := fd_ge (T := T) (c := 61) (a := a + i) (b := a + k) (by omega)
  have hn : ¬ LTB T (a + i) (fdT T 61 (a + i) (a + k)) := fun c => by
    obtain ⟨p, q1, q2⟩ := c
    have h8 : 0 < (flI T (a + i) (fdT T 61 (a + i) (a + k) - (a + i))).length := by rw [q1]; exact Nat.zero_lt_one
    have h9 := flI_in (T := T) (a := a + i) (fdT T 61 (a + i) (a + k) - (a + i)) 0 h8
    rw [q1] at h9
    have h7 : a + i ≤ p ∧ p < a + i + (fdT T 61 (a + i) (a + k) - (a + i)) := h9
    have h6 := hw (p - a) (by omega) (by omega)
    rw [show a + (p - a) = p by omega, q2] at h6
    omega
  constructor
  · rw [owS_c (by omega) hq, if_neg hn]
    exact owS_n (by omega)
  · rw [owL_c (by omega) hq, owL_n (show a + k < a + k + 1 by omega)]
    exact if_neg hn
theorem ow_uq {T : Nat → Nat} {a k : Nat} {gg : TGG} : ∀ d i n g, k + 1 - i ≤ d → (i ≤ k ∨ i = k + 1) → (∀ f, tgw (flT T a k) (flF T a k) f (if i ≤ k then flF T a i else flF T a k + 1) n g = some gg → flF T a k - (if i ≤ k then flF T a i else flF T a k + 1) ≤ f → (HSB (flT T a k) g n → owL T (a + i) (a + k) = none) ∧ owL T (a + i) (a + k) = owS T (a + i) (a + k) ∧ (¬ HSB (flT T a k) g n → TGE (flT T a k) gg.2 gg.1 [98] → ∃ s q, owS T (a + i) (a + k) = some (s, q) ∧ s ≤ q ∧ a + i < s ∧ q ≤ a + k)) := by
  intro d
  induction d with
  | zero =>
    intro i n g hd hi f ht hf
    have hik : i = k + 1 := by omega
    rw [if_neg (show ¬ i ≤ k by omega)] at ht
    rw [tgw_d (by omega)] at ht
    have h9 := Option.some.inj ht
    refine ⟨fun _ => owL_n (by omega), (owL_n (by omega)).trans (owS_n (by omega)).symm, fun h1 h2 => ?_⟩
    rw [← h9] at h2
    exact absurd h2 h1
  | succ d ih =>
    intro i n g hd hi f ht hf
    rcases hi with hi | hi
    · rw [if_pos hi] at ht hf
      rcases Nat.lt_or_ge (flF T a i) (flF T a k) with c | c
      · obtain ⟨f2, rfl⟩ : ∃ f2, f = f2 + 1 := ⟨f - 1, by omega⟩
        have hq1 := fd_ge (T := T) (c := 59) (a := a + i) (b := a + k) (by omega)
        obtain ⟨hq2, hq3⟩ := fd_y (T := T) (c := 59) (a := a + i) (b := a + k) (by omega)
        have hqf := fd_flt (T := T) (a := a) (k := k) (c := 59) (i := i) (j := k) (by omega) hi (Nat.le_refl _)
        generalize hqe : fdT T 59 (a + i) (a + k) = q at hq1 hq2 hq3 hqf
        rw [tgw_s, if_neg (by omega), hqf] at ht
        by_cases hQ : TGQ (flT T a k) (flF T a i) (flF T a (q - a)) n g
        · rw [if_pos hQ] at ht
          have hs1 := fd_ge (T := T) (c := 61) (a := a + i) (b := q) (by omega)
          have hsf := fd_flt (T := T) (a := a) (k := k) (c := 61) (i := i) (j := q - a) (by omega) (by omega) (by omega)
          rw [show a + (q - a) = q by omega] at hsf
          generalize hse : fdT T 61 (a + i) q = s at hs1 hsf
          rw [hsf] at ht
          have hlb := ltb_f (T := T) (a := a) (k := k) (i := i) (s := s - a) (by omega) (by omega)
          rw [show a + (s - a) = s by omega] at hlb
          have hlt : s < q := by
            have h9 := hQ.2.1
            rw [hsf] at h9
            have h8 := flF_inj h9
            omega
          have hx : flF T a (q - a) + 1 = (if q - a + 1 ≤ k then flF T a (q - a + 1) else flF T a k + 1) := by
            rcases Nat.lt_or_ge q (a + k) with w | w
            · rw [if_pos (by omega), flF_k]
              rw [show a + (q - a) = q by omega]
              rcases hq2 with w2 | w2
              · omega
              · omega
            · rw [if_neg (by omega), show q - a = k by omega]
          rw [hx] at ht
          have hrec := ih (q - a + 1) (n + 1) (gpt g n (flF T a i) (flF T a (s - a)) (flF T a (q - a))) (by omega) (by omega) f2 ht (by rw [← hx]; have h9 := flF_le (T := T) (a := a) (show i ≤ q - a by omega); omega)
          rw [show a + (q - a + 1) = q + 1 by omega] at hrec
          obtain ⟨r1, r2, r3⟩ := hrec
          have oL := owL_c (T := T) (a := a + i) (e := a + k) (by omega) hqe
          have oS := owS_c (T := T) (a := a + i) (e := a + k) (by omega) hqe
          rw [hse] at oL oS
          by_cases hB : LTB T (a + i) s
          · have hI := hlb.mp hB
            have hr := r1 (hsb_add.mpr (Or.inr hI))
            rw [hr] at oL
            have oL2 : owL T (a + i) (a + k) = some (s + 1, q) := oL.trans (if_pos hB)
            have oS2 : owS T (a + i) (a + k) = some (s + 1, q) := oS.trans (if_pos hB)
            refine ⟨fun hH => ?_, oL2.trans oS2.symm, fun _ _ => ⟨s + 1, q, oS2, by omega, by omega, by omega⟩⟩
            have hk := hsb_known hH hI
            have h9 := hQ.2.2.2.2.2
            rw [hsf] at h9
            exact absurd hk h9
          · have hNI : ¬ ISL (flT T a k) (flF T a i) (flF T a (s - a)) [98] := fun w => hB (hlb.mpr w)
            have oS2 : owS T (a + i) (a + k) = owS T (q + 1) (a + k) := oS.trans (if_neg hB)
            have oL2 : owL T (a + i) (a + k) = owL T (q + 1) (a + k) := by
              rw [oL]
              cases owL T (q + 1) (a + k) with
              | some r => rfl
              | none => exact if_neg hB
            refine ⟨fun hH => ?_, ?_, fun hH hG => ?_⟩
            · rw [oL2]
              exact r1 (hsb_add.mpr (Or.inl hH))
            · rw [oL2, oS2]
              exact r2
            · obtain ⟨x, y, z1, z2, z3, z4⟩ := r3 (fun w => (hsb_add.mp w).elim hH hNI) hG
              exact ⟨x, y, oS2.trans z1, z2, by omega, z4⟩
        · rw [if_neg hQ] at ht
          exact nomatch ht
      · obtain ⟨e1, e2⟩ := ow_end (T := T) (a := a) hi c
        rw [tgw_d c] at ht
        have h9 := Option.some.inj ht
        refine ⟨fun _ => e2, e2.trans e1.symm, fun h1 h2 => ?_⟩
        rw [← h9] at h2
        exact absurd h2 h1
    · rw [if_neg (show ¬ i ≤ k by omega)] at ht
      rw [tgw_d (by omega)] at ht
      have h9 := Option.some.inj ht
      refine ⟨fun _ => owL_n (by omega), (owL_n (by omega)).trans (owS_n (by omega)).symm, fun h1 h2 => ?_⟩
      rw [← h9] at h2
      exact absurd h2 h1
theorem hsb_0 {T : Nat → Nat} {g : Nat → Nat → Nat} : ¬ HSB T g 0 := fun h => by
  obtain ⟨k, h1, -⟩ := h
  omega
theorem ow_well {T : Nat → Nat} {a k : Nat} {gg : TGG} (h : tgT (flT T a k) (flI T a k).length = some gg) (hb : DCD (flT T a k) (tgA gg.2 (tgR (flT T a k) gg.2 [98] gg.1)) (tgB gg.2 (tgR (flT T a k) gg.2 [98] gg.1)) 64) : owL T a (a + k) = owS T a (a + k) ∧ ∃ s q, owS T a (a + k) = some (s, q) ∧ s ≤ q ∧ a < s ∧ q ≤ a + k := by
  have hB : TGE (flT T a k) gg.2 gg.1 [98] := tge_R.mpr (fun q => by
    rw [q] at hb
    have h9 : 0 + (64 + 2) / 3 * 4 = 0 := hb.1
    exact absurd h9 (by decide))
  have h0 : tgw (flT T a k) (flF T a k) (flF T a k) (if 0 ≤ k then flF T a 0 else flF T a k + 1) 0 gz = some gg := by
    rw [if_pos (Nat.zero_le _)]
    exact h
  obtain ⟨-, h2, h3⟩ := ow_uq (T := T) (a := a) (k := k) (gg := gg) (k + 1) 0 0 gz (by omega) (Or.inl (Nat.zero_le _)) (flF T a k) h0 (by rw [if_pos (Nat.zero_le _)]; omega)
  rw [Nat.add_zero] at h2 h3
  exact ⟨h2, h3 hsb_0 hB⟩
theorem nmd_frm {F : Nat → va_E} {x y0 y1 rx zm i kb kc : Nat} {o : Int32} {c0 c1 c2 : ClassId} {m0 m1 m2 : Nat} {fL sA sB : Nat → Int32} (hx : F x = .inr (0, [.ref rx, .int (nI zm), .int o])) (hr : F rx = .inl (c0, m0, .inl fL)) (h0 : F y0 = .inl (c1, m1, .inl sA)) (h1 : F y1 = .inl (c2, m2, .inl sB)) (a0 : sA i = nI kb) (a1 : sB i = nI kc) (hi : i < 20) (hb : kb < kc) (hc : kc ≤ zm) (hz : zm ≤ 3000) : nmd F x y0 y1 (cct [102, 114, 111, 109]) 4 i ↔ FRM (TC fL zm) kb kc := by
  have g0 : gA (F y0) i = nI kb := gA_of h0 (by rw [nI_clamp (by omega)]; exact a0) (by omega)
  have g1 : gA (F y1) i = nI kc := gA_of h1 (by rw [nI_clamp (by omega)]; exact a1) (by omega)
  have hl : ∀ j, j < 4 → chv (cct [102, 114, 111, 109] j) = nI (FRO.getD j 0) ∧ FRO.getD j 0 < 128 := by decide +kernel
  have e1 : (nI kc - nI kb = nI 4) ↔ kb + 4 = kc := by
    rw [show nI kc - nI kb = nI (kc - kb) from pk_sub (by omega)]
    exact ⟨fun q => by have h9 := (nI_eq (by omega) (by omega)).mp q; omega, fun q => by rw [show kc - kb = 4 by omega]⟩
  have e2 : kb + 4 = kc → ∀ j, j < 4 → (smv (atv F x (nI kb + nI j)) = chv (cct [102, 114, 111, 109] j) ↔ smc (TC fL zm (kb + j)) = FRO.getD j 0) := fun q j hj => by
    rw [nI_add, at_in hx hr (nI_pos (by omega)) ((nI_ltI (by omega) (by omega)).mpr (show kb + j < zm by omega)), nI_clamp (by omega), (hl j hj).1, tcn_in (show kb + j < zm by omega)]
    exact smx_cd (hl j hj).2
  unfold nmd FRM
  rw [g0, g1]
  constructor
  · rintro ⟨q1, q2⟩
    have q3 := e1.mp q1
    exact ⟨q3, fun j hj => (e2 q3 j hj).mp (q2 j hj)⟩
  · rintro ⟨q1, q2⟩
    exact ⟨e1.mpr q1, fun j hj => (e2 q1 j hj).mpr (q2 j hj)⟩
theorem cnt_no {P : Nat → Prop} : ∀ n, CNT P n 0 → ∀ i, i < n → ¬ P i := by
  intro n
  induction n with
  | zero => intro _ i hi; exact absurd hi (Nat.not_lt_zero _)
  | succ n ih =>
    intro h i hi q
    rcases h with ⟨h1, v, h2, h3⟩ | ⟨h1, h2⟩
    · omega
    · rcases Nat.lt_or_ge i n with w | w
      · exact ih h2 i w q
      · rw [show i = n by omega] at q
        exact h1 q
def XPD (T : Nat → Nat) (g : Nat → Nat → Nat) (n nw : Nat) : Prop := ∃ w, tgM T g (tgR T g [120] n) = some w ∧ w < nw
noncomputable def dmL (T : Nat → Nat) (g : Nat → Nat → Nat) (n : Nat) : List Nat := rgT T (tgA g (tgR T g [100] n)) (tgB g (tgR T g [100] n) - tgA g (tgR T g [100] n))
noncomputable def uK (T : Nat → Nat) (g : Nat → Nat → Nat) (n : Nat) : List Nat := rgT T (tgA g (tgR T g [115] n)) (tgB g (tgR T g [115] n) - tgA g (tgR T g [115] n)) ++ [46, 95, 100, 111, 109, 97, 105, 110, 107, 101, 121, 46] ++ rgL (dmL T g n) 0 ((dmL T g n).length - 0)
noncomputable def sgB (T : Nat → Nat) (g : Nat → Nat → Nat) (n : Nat) : Nat → Nat := dcB T (tgA g (tgR T g [98] n)) 64
noncomputable def wkL (TT T1 T : Nat → Nat) (gb gc gd : Nat → Nat) (nm jf : Nat) (g : Nat → Nat → Nat) (n s e : Nat) : List (Nat × Nat) := (adl TT T1 T gb gc gd nm (frx T g n) (hsG T (tgA g (tgR T g [104] n)) (tgB g (tgR T g [104] n)))).2 ++ FPW TT (frx T g n) (gb jf) (gc jf) (gd jf) s e
def SJB (fm : Nat → Int32) (zm nm bs jf : Nat) (gb gc gd : Nat → Nat) (d : ETY) (T : Nat → Nat) (g : Nat → Nat → Nat) (n : Nat) (r : Int32) : Prop := ∃ N fo, BDC (evs fm) (clf fm) (brx T g n) bs zm N fo ∧ ((¬ BHO T g n N fo ∧ r = 3) ∨ (BHO T g n N fo ∧ ∃ s e fw, owS (TC fm zm) (gc jf + 1) (gd jf) = some (s, e) ∧ OUTS fm fw (wkL (clf fm) (TC fm zm) T gb gc gd nm jf g n s e) ∧ ((SGO (sgB T g n) (kyM d) (shN fw (wkL (clf fm) (TC fm zm) T gb gc gd nm jf g n s e).length) ∧ r = 2) ∨ (¬ SGO (sgB T g n) (kyM d) (shN fw (wkL (clf fm) (TC fm zm) T gb gc gd nm jf g n s e).length) ∧ r = 3))))
def SJK (fm : Nat → Int32) (zm nm bs jf : Nat) (gb gc gd : Nat → Nat) (D : Nat → ETY) (cn nw : Nat) (T : Nat → Nat) (g : Nat → Nat → Nat) (n : Nat) (r : Int32) : Prop := (XPD T g n nw ∧ r = 3) ∨ (¬ XPD T g n nw ∧ ∃ gk rk, KYX D cn (uK T g n) gk rk ∧ ((¬ rk = 2 ∧ r = rk) ∨ (rk = 2 ∧ SJB fm zm nm bs jf gb gc gd (D gk) T g n r)))
def SJR (fm : Nat → Int32) (zm nm bs jf : Nat) (gb gc gd : Nat → Nat) (D : Nat → ETY) (cn nw : Nat) (T : Nat → Nat) (Y : Nat) (FE : Prop) (r : Int32) : Prop := (¬ (SWL T Y ∧ FE) ∧ r = 1) ∨ (FE ∧ ∃ gg, tgT T Y = some gg ∧ SWB T gg.2 gg.1 ∧ SJK fm zm nm bs jf gb gc gd D cn nw T gg.2 gg.1 r)
set_option maxHeartbeats 4000000 in
set_option maxRecDepth 100000 in
theorem s_X7_judge_e (l : Launch) (dC : Nat → ClassId) (dI : Nat → Nat → Nat) (cs : Nat → ClassId) (ty : TyM) (L : List Nat) (sz : Nat) (F : Nat → va_E) (h0 : Nat) (ρ : Nat) (d : Nat) (δ : Nat) (ea : Nat) (sl : Nat) (sx : Nat) (sy0 : Nat) (sy1 : Nat) (sy2 : Nat) (ke : Nat) (kx : Nat) (ky0 : Nat) (ky1 : Nat) (ky2 : Nat) (w0 : Nat) (w1 : Nat) (w2 : Nat) (w3 : Nat) (w4 : Nat) (w5 : Nat) (w6 : Nat) (w7 : Nat) (w8 : Nat) (tk : Nat) (hs : Nat) (ha : Nat) (hbb : Nat) (hcc : Nat) (pw : Nat) (px : Nat) (py : Nat) (pz : Nat) (pu : Nat) (rsx : Nat) (rkx : Nat) (rw0 : Nat) (rw1 : Nat) (rw2 : Nat) (rw3 : Nat) (rw4 : Nat) (rw5 : Nat) (rw6 : Nat) (rw7 : Nat) (rw8 : Nat) (mg : Nat) (μ : Nat) (mx : Nat) (m0 : Nat) (m1 : Nat) (m2 : Nat) (rm : Nat) (zm : Nat) (nn : Nat) (bs : Nat) (cn : Nat) (fm : Nat → Int32) (e0 : Nat → Int32) (e1 : Nat → Int32) (e2 : Nat → Int32) (gb : Nat → Nat) (gc : Nat → Nat) (gd : Nat → Nat) (D : Nat → ETY) (jf : Nat) (nw : Nat) (hW : WT ty L) (hL_h0 : h0 ∈ L) (hT_h0 : ty h0 = (7, ρ, [d, δ, ea, sl, sx, sy0, sy1, sy2, ke, kx, ky0, ky1, ky2, w0, w1, w2, w3, w4, w5, w6, w7, w8, tk, hs, ha, hbb, hcc, pw, px, py, pz, pu])) (hL_sx : sx ∈ L) (hT_sx : ty sx = (0, ρ + 3, [rsx, 3000])) (hL_w0 : w0 ∈ L) (hT_w0 : ty w0 = (0, ρ + 82, [rw0, 60])) (hL_w1 : w1 ∈ L) (hT_w1 : ty w1 = (0, ρ + 83, [rw1, 60])) (hL_w2 : w2 ∈ L) (hT_w2 : ty w2 = (0, ρ + 84, [rw2, 32])) (hL_w3 : w3 ∈ L) (hT_w3 : ty w3 = (0, ρ + 85, [rw3, 64])) (hL_w4 : w4 ∈ L) (hT_w4 : ty w4 = (0, ρ + 86, [rw4, 64])) (hL_kx : kx ∈ L) (hT_kx : ty kx = (0, ρ + 5, [rkx, 700])) (hL_w5 : w5 ∈ L) (hT_w5 : ty w5 = (0, ρ + 87, [rw5, 32])) (hL_w6 : w6 ∈ L) (hT_w6 : ty w6 = (0, ρ + 88, [rw6, 64])) (hL_w7 : w7 ∈ L) (hT_w7 : ty w7 = (0, ρ + 89, [rw7, 64])) (hL_w8 : w8 ∈ L) (hT_w8 : ty w8 = (0, ρ + 90, [rw8, 6100])) (hL_mg : mg ∈ L) (hT_mg : ty mg = (4, μ, [mx, m0, m1, m2])) (hL_mx : mx ∈ L) (hT_mx : ty mx = (0, μ + 1, [rm, 3000])) (hFe : F mg = .inr (4, [.ref mx, .ref m0, .ref m1, .ref m2, .int (nI nn), .int (nI bs)])) (hFx : F mx = .inr (0, [.ref rm, .int (nI zm), .int 0])) (hFrm : F rm = .inl (cs 16, 3000, .inl fm)) (hFm0 : F m0 = .inl (cs 16, 20, .inl e0)) (hFm1 : F m1 = .inl (cs 16, 20, .inl e1)) (hFm2 : F m2 = .inl (cs 16, 20, .inl e2)) (hz3 : zm ≤ 3000) (hn20 : nn ≤ 20) (hpos : ∀ j, j < nn → e0 j = nI (gb j) ∧ e1 j = nI (gc j) ∧ e2 j = nI (gd j) ∧ gb j < gc j ∧ gc j < gd j ∧ gd j ≤ zm) (hord : ∀ j, j + 1 < nn → gd j ≤ gb (j + 1)) (hbs : bs ≤ zm) (hFd : F d = .inr (2, [.ref ea, .int (nI cn)])) (hcnn : cn ≤ 40) (hDI : DIRC cs F ea cn D) (hdl : δ + 4 = ρ) (hmu : μ = ρ + 13 ∨ μ = ρ + 23) (hjf : jf < nn) (hnw : nw < 2147483648) : Met l yX7_judge (.code yX7_judge cX7_judge 5 (some .int) :: tb) ({ frames := 9, cells := 0, slots := 0, locals := 199 }) (va_Pc [.ref h0, .ref mg, .int (nI jf), .int (nI nw)] (PTE (dC, dI) cs ty L F sz [])) (va_Qi (fun (r : Int32) (_ : Unit) => SJR fm zm nn bs jf gb gc gd D cn nw (flT (TC fm zm) (gc jf + 1) (gd jf - (gc jf + 1))) (flI (TC fm zm) (gc jf + 1) (gd jf - (gc jf + 1))).length (∃ i, i < nn ∧ FRM (TC fm zm) (gb i) (gc i)) r) (fun _ T9 => ∃ F2 : Nat → va_E, QT (dC, dI) cs ty L [ρ, ρ + 2, ρ + 3, ρ + 4, ρ + 5, ρ + 6, ρ + 7, ρ + 72, ρ + 73, ρ + 74, ρ + 75, ρ + 82, ρ + 83, ρ + 84, ρ + 85, ρ + 86, ρ + 87, ρ + 88, ρ + 89, ρ + 90, ρ + 91, ρ + 92, ρ + 93, ρ + 94, ρ + 95] F F2 (va_A (va_pl L F) sz) T9 ∧ (∀ g9, tgT (flT (TC fm zm) (gc jf + 1) (gd jf - (gc jf + 1))) (flI (TC fm zm) (gc jf + 1) (gd jf - (gc jf + 1))).length = some g9 → SWB (flT (TC fm zm) (gc jf + 1) (gd jf - (gc jf + 1))) g9.2 g9.1 → (∃ i, i < nn ∧ FRM (TC fm zm) (gb i) (gc i)) → TXE cs F2 w0 60 (dmL (flT (TC fm zm) (gc jf + 1) (gd jf - (gc jf + 1))) g9.2 g9.1))) (va_A (va_pl L F) sz)) 0 0 (va_A (va_pl L F) sz) := by
  refine Met.ofW (cc := cX7_judge) (maxL := 5) (ret := (some .int)) (by decide) rfl ?_
  intro p e s m args below meth c s₁ B hml hv
  obtain ⟨rfl, ⟨hsz, hP, hK, hD0, hE, hO⟩, hG, hX⟩ := hv
  have hx := B.exec
  have hb := B.bytes
  have hr := B.returns
  have hts : ∀ w ∈ tb, w.before _ s = true := fun w h => atoms_spec (ws := .code yX7_judge cX7_judge 5 (some .int) :: tb) B.pre w (List.mem_cons_of_mem _ h)
  have hown : s.vm.findClass RX7 = some m.cls := findClass_of_methodNamed B.named
  have hlocks := B.notSynchronized
  subst hsz
  have hD := hD0.self (sz := s.heap.size)
  generalize hAe : va_A (va_pl L F) s.heap.size = A at hD hG hX ⊢
  have hA : ∀ q : Nat, s.heap.size ≤ q → A q := fun q h => by rw [← hAe]; exact Or.inr h
  have hS : va_S A s.heap s.heap [] := va_S.rf
  have hR : FR ty [ρ, ρ + 2, ρ + 3, ρ + 4, ρ + 5, ρ + 6, ρ + 7, ρ + 72, ρ + 73, ρ + 74, ρ + 75, ρ + 82, ρ + 83, ρ + 84, ρ + 85, ρ + 86, ρ + 87, ρ + 88, ρ + 89, ρ + 90, ρ + 91, ρ + 92, ρ + 93, ρ + 94, ρ + 95] F F := FR.refl
  have hl := lv_entry ([.ref h0, .ref mg, .int (nI jf), .int (nI nw)]) (n := 5) (Nat.le_of_ble_eq_true rfl)
  rw [lg_entry_eq]
  generalize (lg_sl ([.ref h0, .ref mg, .int (nI jf), .int (nI nw)]) ++ List.replicate (5 - (lg_sl ([.ref h0, .ref mg, .int (nI jf), .int (nI nw)])).length) Slot.unset).toArray = ls at hl ⊢
  have hl : lv_has ls 5 [(0, .ref h0), (1, .ref mg), (2, .int (nI jf)), (3, .int (nI nw))] := hl
  obtain ⟨hi_1, ht_2, hi_3, ht_4, hi_5, ht_6, _, _, _, _, _, _, _, _, _, _, _, _, _, _, _, _, _, _, hi_7, ht_8, hi_9, ht_10, hi_11, ht_12⟩ := hW.slr hL_h0 hT_h0
  obtain ⟨_, hi_13, hi_14, hi_15, _, ht_16, ht_17, ht_18⟩ := hW.tags hi_3 ht_4
  have ht_17 : ty sy1 = (24, ρ + 72, [40]) := ht_17
  have ht_18 : ty sy2 = (24, ρ + 73, [40]) := ht_18
  obtain ⟨hi_19, ht_20, hq_21⟩ := hW.bytes hL_sx hT_sx
  obtain ⟨_, hi_22, hi_23, hi_24, _, ht_25, ht_26, ht_27⟩ := hW.tags hi_5 ht_6
  have ht_26 : ty ky1 = (24, ρ + 74, [40]) := ht_26
  have ht_27 : ty ky2 = (24, ρ + 75, [40]) := ht_27
  obtain ⟨hi_28, ht_29, hq_30⟩ := hW.bytes hL_kx hT_kx
  obtain ⟨_, hi_31, hi_32, hi_33, _, ht_34, ht_35, ht_36⟩ := hW.msg hL_mg hT_mg
  obtain ⟨hi_37, ht_38, hq_39⟩ := hW.bytes hL_mx hT_mx
  obtain ⟨hi_40, ht_41⟩ := hW.dir hi_1 ht_2
  obtain ⟨hi_42, hi_43, hi_44, ht_45, ht_46, ht_47⟩ := hW.sha hi_9 ht_10
  obtain ⟨hi_48, hi_49, hi_50, hi_51, ht_52, ht_53, ht_54, ht_55⟩ := hW.power hi_11 ht_12
  have ht_52 : ty px = (19, ρ + 92, [16]) := ht_52
  have ht_53 : ty py = (19, ρ + 93, [16]) := ht_53
  have ht_54 : ty pz = (19, ρ + 94, [16]) := ht_54
  have ht_55 : ty pu = (19, ρ + 95, [18]) := ht_55
  obtain ⟨hi_56, ht_57, hq_58⟩ := hW.bytes hL_w0 hT_w0
  obtain ⟨hi_59, ht_60, hq_61⟩ := hW.bytes hL_w1 hT_w1
  obtain ⟨hi_62, ht_63, hq_64⟩ := hW.bytes hL_w2 hT_w2
  obtain ⟨hi_65, ht_66, hq_67⟩ := hW.bytes hL_w3 hT_w3
  obtain ⟨hi_68, ht_69, hq_70⟩ := hW.bytes hL_w4 hT_w4
  obtain ⟨hi_71, ht_72, hq_73⟩ := hW.bytes hL_w5 hT_w5
  obtain ⟨hi_74, ht_75, hq_76⟩ := hW.bytes hL_w6 hT_w6
  obtain ⟨hi_77, ht_78, hq_79⟩ := hW.bytes hL_w7 hT_w7
  obtain ⟨hi_80, ht_81, hq_82⟩ := hW.bytes hL_w8 hT_w8
  obtain ⟨f_83, hF_84, hq_85⟩ := hO.rentry hi_40 ht_41
  obtain ⟨v0_86, v1_87, hF_88⟩ := hO.slr hL_h0 hT_h0
  have hO0 := hO
  have he0 := hF_84
  obtain ⟨q0, q1, q2, q3, q4, q5⟩ := hpos jf hjf
  refine lv_aload_n hx hb dX7_judge_0 rfl (lv_at hl 0 rfl) ?_
  refine lv_aload_n hx hb dX7_judge_1 rfl (lv_at hl 1 rfl) ?_
  refine lv_iload_n hx hb dX7_judge_2 rfl (lv_at hl 2 rfl) ?_
  have hFc := pg_free hD hS hA
  refine va_calli (va_runV (As := [.ref mg, .int (nI jf)]) (rest := []) ⟨hx, hb, hml, hown, hts⟩ (s_X7_isWell_e l dC dI cs ty L s.heap.size F h0 ρ d δ ea sl sx sy0 sy1 sy2 ke kx ky0 ky1 ky2 w0 w1 w2 w3 w4 w5 w6 w7 w8 tk hs ha hbb hcc pw px py pz pu rsx rw2 rw3 jf (gc jf) (gd jf) mg μ mx m0 m1 m2 rm zm nn fm e0 e1 e2 (nI bs) hW hL_h0 hT_h0 hL_sx hT_sx hL_w2 hT_w2 hL_w3 hT_w3 hL_mg hT_mg hL_mx hT_mx hFe hFx hFrm hFm0 hFm1 hFm2 (by omega) (by omega) (hjf) (q1) (q2) (q4) (q5) (hmu)) ⟨callB_of 2 hts (gi kt_428) rfl rfl rfl (hts _ kt_322) (hts _ kt_429) (by decide +kernel) ⟨Nat.le_of_ble_eq_true rfl, Nat.le_of_ble_eq_true rfl⟩, (hts _ kt_430), (hts _ kt_431)⟩ ⟨fun a U g mk q => ⟨q.1, PTE.calling q.2⟩, pg_recv hK hP hL_h0 hF_88 (q := (RX7, TX7, 17)) rfl, fun U hU hWm => ⟨rfl, PTE.mk hU hWm hP hK hD hE hO hG (fun x hx => absurd hx List.not_mem_nil) hS hFc⟩⟩ rfl rfl hl.1 rfl (lv_room (Nat.le_of_ble_eq_true rfl)) dX7_judge_3 ⟨by show _ + 0 ≤ 0; omega, by show _ + 0 ≤ 0; omega⟩) hS (fun q _ h => hFc q h) hFc (fun r_90 gg_89 t H1 locs ht hvm hw hB hz1 hk1 hS => ?_)
  obtain ⟨F_91, p0_92, p1_93, p2_94, fc_95, fb_96, fs_97, u0_98, u1_99, hB1, hq_100, hq_101, hq_102, hq_103, hq_104, hq_105, hq_106, hq_107, hq_108, hq_109, hq_110⟩ := hB
  obtain ⟨hP, hD, hO, hR⟩ := QT.back hB1 ht hFc hR (fun q h => by simp only [List.mem_cons, List.not_mem_nil, or_false] at h ⊢; omega)
  have hF_111 : F_91 mg = .inr (4, [.ref mx, .ref m0, .ref m1, .ref m2, .int (nI nn), .int (nI bs)]) := (hB1.2.2.2 mg (by rw [hT_mg]; simp only [List.mem_cons, List.not_mem_nil, or_false]; omega)).trans hFe
  have hF_112 : F_91 mx = .inr (0, [.ref rm, .int (nI zm), .int 0]) := (hB1.2.2.2 mx (by rw [hT_mx]; simp only [List.mem_cons, List.not_mem_nil, or_false]; omega)).trans hFx
  have hF_113 : F_91 rm = .inl (cs 16, 3000, .inl fm) := (hB1.2.2.2 rm (by rw [ht_38]; simp only [List.mem_cons, List.not_mem_nil, or_false]; omega)).trans hFrm
  have hF_114 : F_91 m0 = .inl (cs 16, 20, .inl e0) := (hB1.2.2.2 m0 (by rw [ht_34]; simp only [List.mem_cons, List.not_mem_nil, or_false]; omega)).trans hFm0
  have hF_115 : F_91 m1 = .inl (cs 16, 20, .inl e1) := (hB1.2.2.2 m1 (by rw [ht_35]; simp only [List.mem_cons, List.not_mem_nil, or_false]; omega)).trans hFm1
  have hF_116 : F_91 m2 = .inl (cs 16, 20, .inl e2) := (hB1.2.2.2 m2 (by rw [ht_36]; simp only [List.mem_cons, List.not_mem_nil, or_false]; omega)).trans hFm2
  have hF_117 : F_91 d = .inr (2, [.ref ea, .int (nI cn)]) := (hB1.2.2.2 d (by rw [ht_2]; simp only [List.mem_cons, List.not_mem_nil, or_false]; omega)).trans hFd
  have hF_118 : F_91 ea = .inl (cs 21, 40, .inr (.inr (.inr (.inr f_83)))) := (hB1.2.2.2 ea (by rw [ht_41]; simp only [List.mem_cons, List.not_mem_nil, or_false]; omega)).trans hF_84
  generalize H1 = H at hP hS ⊢
  have hw : (r_90 = 1 ∧ tgT (flT (TC fm zm) ((gc jf) + 1) ((gd jf) - ((gc jf) + 1))) (flI (TC fm zm) ((gc jf) + 1) ((gd jf) - ((gc jf) + 1))).length = some gg_89 ∧ SWB (flT (TC fm zm) ((gc jf) + 1) ((gd jf) - ((gc jf) + 1))) gg_89.2 gg_89.1) ∨ (r_90 = 0 ∧ ¬ SWL (flT (TC fm zm) ((gc jf) + 1) ((gd jf) - ((gc jf) + 1))) (flI (TC fm zm) ((gc jf) + 1) ((gd jf) - ((gc jf) + 1))).length) := hw
  have hw_119 := hw
  have hWL := hw_119
  have hTC := hq_107
  have hHL := hq_108
  obtain ⟨hti1, hti2, hti3⟩ := hq_109
  have hSB := hq_110
  refine lv_if_eq (tgt := 18) hx hb dX7_judge_6 (by decide) (fun c_120 => ?_) (fun c_120 => ?_)
  ·
    have hNW : ¬ SWL (flT (TC fm zm) (gc jf + 1) (gd jf - (gc jf + 1))) (flI (TC fm zm) (gc jf + 1) (gd jf - (gc jf + 1))).length := by rcases hWL with q | q; exact absurd (q.1.symm.trans c_120) (by decide); exact q.2
    refine lv_iconst (v := 1) hx hb dX7_judge_18 (by decide) ?_
    refine W.widen (k := 0) (n := 0) (by omega) (by omega) ?_
    exact W.iret (v := 1) hx hb hr (fun t ht hWm => ⟨⟨1, (), rfl, (Or.inl ⟨fun q => hNW q.1, rfl⟩), ⟨F_91, QT.mk ht hP hD hO hR, (fun g9 q1 q2 _ => absurd ⟨g9, q1, q2⟩ hNW)⟩⟩, hS.F ht⟩) hS.2.2 dX7_judge_19
  ·
    obtain ⟨hgt, hsw⟩ : tgT (flT (TC fm zm) (gc jf + 1) (gd jf - (gc jf + 1))) (flI (TC fm zm) (gc jf + 1) (gd jf - (gc jf + 1))).length = some gg_89 ∧ SWB (flT (TC fm zm) (gc jf + 1) (gd jf - (gc jf + 1))) gg_89.2 gg_89.1 := by rcases hWL with q | q; exact q.2; exact absurd q.1 c_120
    obtain ⟨hu0, hu1, hw2a, hw2b, hw2c, hw3a, hw3b, hw3c⟩ := hSB hgt hsw
    rw [← hTC] at hsw hu0 hu1 hw2c hw3c
    refine lv_aload_n hx hb dX7_judge_9 rfl (lv_at hl 1 rfl) ?_
    obtain ⟨q_121, v_122, hr_q_121, hXc_q_121⟩ := hG.2.2.2.2 ("PostGate$Sealer", 89, "from", [102, 114, 111, 109]) (by decide +kernel)
    have hXc_q_121 : SXc q_121 v_122 4 (cct [102, 114, 111, 109]) A s s.heap := hXc_q_121
    have hX_q_121 : SX q_121 v_122 4 A s s.heap := hXc_q_121.sx
    obtain ⟨xo_q_121, xc_q_121, xv_q_121, xt_q_121, xn_q_121⟩ := id hXc_q_121
    have hr_q_121 : vk_R "PostGate$Sealer" 89 "from" q_121 s := hr_q_121
    refine va_ldcS hx hb hown hr_q_121 dX7_judge_10 ?_
    have hFc := pg_free hD hS hA
    refine va_calli (va_runV (As := [.ref q_121]) (rest := []) ⟨hx, hb, hml, hown, hts⟩ (s_X4_countOf_e l dC dI cs ty L H.size F_91 mg μ mx m0 m1 m2 q_121 v_122 4 (cct [102, 114, 111, 109]) nn (nI bs) hW hL_mg hT_mg hF_111 (by omega)) ⟨callB_of 1 hts (gi kt_432) rfl rfl rfl (hts _ kt_211) (hts _ kt_433) (by decide +kernel) ⟨Nat.le_of_ble_eq_true rfl, Nat.le_of_ble_eq_true rfl⟩, (hts _ kt_434), (hts _ kt_435)⟩ ⟨fun a U g mk q => ⟨q.1, PTC.calling q.2⟩, pg_recv hK hP hL_mg hF_111 (q := (RX4, TX4, 6)) rfl, fun U hU hWm => ⟨rfl, PTC.mk hU hWm hP hK hD hE hO hG hXc_q_121 hS hFc⟩⟩ rfl rfl hl.1 rfl (lv_room (Nat.le_of_ble_eq_true rfl)) dX7_judge_12 ⟨by show _ + 0 ≤ 0; omega, by show _ + 0 ≤ 0; omega⟩) hS (fun q _ h => hFc q h) hFc (fun r_123 u t H1 locs ht hvm hw hB hz1 hk1 hS => ?_)
    obtain ⟨F_124, hB1⟩ := hB
    obtain rfl : F_91 = F_124 := (funext (fun a => hB1.2.2.2 a List.not_mem_nil)).symm
    obtain ⟨hP, hD, hO, hR⟩ := QT.back hB1 ht hFc hR (fun q h => absurd h List.not_mem_nil)
    generalize H1 = H at hP hS ⊢
    have hw : (∃ w : Nat, r_123 = nI w ∧ CNT (fun i => nmd F_91 mx m0 m1 (cct [102, 114, 111, 109]) 4 i) nn w) := hw
    have hw_125 := hw
    obtain ⟨wc, hwc, hcnt⟩ := hw_125
    have hwn := cntp_le nn wc hcnt
    subst hwc
    refine lv_if_ne (tgt := 20) hx hb dX7_judge_15 (by decide) (fun c_126 => ?_) (fun c_126 => ?_)
    ·
      have hw0 : 0 < wc := Nat.pos_of_ne_zero (fun q => c_126 (by rw [q]; rfl))
      have hFE : (∃ i, i < nn ∧ FRM (TC fm zm) (gb i) (gc i)) := by obtain ⟨i9, hi9, q9⟩ := cnt_ex nn wc hcnt hw0; exact ⟨i9, hi9, (nmd_frm hF_112 hF_113 hF_114 hF_115 (hpos i9 hi9).1 (hpos i9 hi9).2.1 (by omega) (hpos i9 hi9).2.2.2.1 (by have h9 := hpos i9 hi9; omega) hz3).mp q9⟩
      refine lv_aload_n hx hb dX7_judge_20 rfl (lv_at hl 0 rfl) ?_
      refine pg_get (ci := 7) (v := .ref w0) (C := RX7) (T := TX7) (N := 17) hx hb hts it_7 hown hK hP hL_h0 hq_106 rfl 3 (by decide) (hts _ kt_371) (fun _ h9 => h9) rfl dX7_judge_21 ?_
      have hFc := pg_free hD hS hA
      obtain ⟨z_128, o_129, hF_130, hq_131, hq_132⟩ := hO.bytes hL_w0 hT_w0
      refine va_callv (va_runV (As := []) (rest := []) ⟨hx, hb, hml, hown, hts⟩ (s_X0_clear l dC dI cs ty L H.size F_91 w0 (ρ + 82) rw0 60 hW hL_w0 hT_w0) ⟨callB_of 0 hts (gi kt_32) rfl rfl rfl (hts _ kt_1) (hts _ kt_361) (by decide +kernel) ⟨Nat.le_of_ble_eq_true rfl, Nat.le_of_ble_eq_true rfl⟩, (hts _ kt_34), (hts _ kt_35)⟩ ⟨fun a U g mk q => ⟨q.1, PT.calling q.2⟩, pg_recv hK hP hL_w0 hF_130 (q := (RX0, TX0, 3)) rfl, fun U hU hWm => ⟨rfl, PT.mk hU hWm hP hK hD hE hO⟩⟩ rfl rfl hl.1 rfl (lv_room (Nat.le_of_ble_eq_true rfl)) dX7_judge_24 ⟨by show _ + 0 ≤ 0; omega, by show _ + 0 ≤ 0; omega⟩) hS (fun q _ h => hFc q h) hFc (fun u t H1 locs ht hvm hw hB hz1 hk1 hS => ?_)
      obtain ⟨F_134, hB1, hq_135⟩ := hB
      obtain ⟨hP, hD, hO, hR⟩ := QT.back hB1 ht hFc hR (fun q h => by simp only [List.mem_cons, List.not_mem_nil, or_false] at h ⊢; omega)
      have hF_136 : F_134 mg = .inr (4, [.ref mx, .ref m0, .ref m1, .ref m2, .int (nI nn), .int (nI bs)]) := (hB1.2.2.2 mg (by rw [hT_mg]; simp only [List.mem_cons, List.not_mem_nil, or_false]; omega)).trans hF_111
      have hF_137 : F_134 mx = .inr (0, [.ref rm, .int (nI zm), .int 0]) := (hB1.2.2.2 mx (by rw [hT_mx]; simp only [List.mem_cons, List.not_mem_nil, or_false]; omega)).trans hF_112
      have hF_138 : F_134 rm = .inl (cs 16, 3000, .inl fm) := (hB1.2.2.2 rm (by rw [ht_38]; simp only [List.mem_cons, List.not_mem_nil, or_false]; omega)).trans hF_113
      have hF_139 : F_134 m0 = .inl (cs 16, 20, .inl e0) := (hB1.2.2.2 m0 (by rw [ht_34]; simp only [List.mem_cons, List.not_mem_nil, or_false]; omega)).trans hF_114
      have hF_140 : F_134 m1 = .inl (cs 16, 20, .inl e1) := (hB1.2.2.2 m1 (by rw [ht_35]; simp only [List.mem_cons, List.not_mem_nil, or_false]; omega)).trans hF_115
      have hF_141 : F_134 m2 = .inl (cs 16, 20, .inl e2) := (hB1.2.2.2 m2 (by rw [ht_36]; simp only [List.mem_cons, List.not_mem_nil, or_false]; omega)).trans hF_116
      have hF_142 : F_134 d = .inr (2, [.ref ea, .int (nI cn)]) := (hB1.2.2.2 d (by rw [ht_2]; simp only [List.mem_cons, List.not_mem_nil, or_false]; omega)).trans hF_117
      have hF_143 : F_134 ea = .inl (cs 21, 40, .inr (.inr (.inr (.inr f_83)))) := (hB1.2.2.2 ea (by rw [ht_41]; simp only [List.mem_cons, List.not_mem_nil, or_false]; omega)).trans hF_118
      have hF_144 : F_134 sl = .inr (9, [.ref sx, .ref sy0, .ref sy1, .ref sy2, .int (nI gg_89.1)]) := (hB1.2.2.2 sl (by rw [ht_4]; simp)).trans hq_100
      have hF_145 : F_134 sx = .inr (0, [.ref rsx, .int (nI (flI (TC fm zm) ((gc jf) + 1) ((gd jf) - ((gc jf) + 1))).length), .int 0]) := (hB1.2.2.2 sx (by rw [hT_sx]; simp)).trans hq_101
      have hF_146 : F_134 rsx = .inl (cs 16, 3000, .inl fc_95) := (hB1.2.2.2 rsx (by rw [ht_20]; simp)).trans hq_102
      have hF_147 : F_134 sy0 = .inl (cs 16, 40, .inl p0_92) := (hB1.2.2.2 sy0 (by rw [ht_16]; simp)).trans hq_103
      have hF_148 : F_134 sy1 = .inl (cs 16, 40, .inl p1_93) := (hB1.2.2.2 sy1 (by rw [ht_17]; simp)).trans hq_104
      have hF_149 : F_134 sy2 = .inl (cs 16, 40, .inl p2_94) := (hB1.2.2.2 sy2 (by rw [ht_18]; simp)).trans hq_105
      have hF_150 : F_134 h0 = .inr (7, [.ref d, .ref sl, .ref ke, .ref w0, .ref w1, .ref w2, .ref w3, .ref w4, .ref w5, .ref w6, .ref w7, .ref w8, .ref tk, .ref hs, .ref pw, .int u0_98, .int u1_99]) := (hB1.2.2.2 h0 (by rw [hT_h0]; simp)).trans hq_106
      have hF_151 : F_134 w2 = .inr (0, [.ref rw2, .int (nI 32), .int 0]) := (hB1.2.2.2 w2 (by rw [hT_w2]; simp)).trans hw2a
      have hF_152 : F_134 rw2 = .inl (cs 16, 32, .inl fb_96) := (hB1.2.2.2 rw2 (by rw [ht_63]; simp)).trans hw2b
      have hF_153 : F_134 w3 = .inr (0, [.ref rw3, .int (nI 64), .int 0]) := (hB1.2.2.2 w3 (by rw [hT_w3]; simp)).trans hw3a
      have hF_154 : F_134 rw3 = .inl (cs 16, 64, .inl fs_97) := (hB1.2.2.2 rw3 (by rw [ht_66]; simp)).trans hw3b
      generalize H1 = H at hP hS ⊢
      obtain ⟨f_155, hF_156⟩ := hO.ints hi_56 ht_57
      refine lv_aload_n hx hb dX7_judge_27 rfl (lv_at hl 0 rfl) ?_
      refine pg_get (ci := 7) (v := .ref w0) (C := RX7) (T := TX7) (N := 17) hx hb hts it_7 hown hK hP hL_h0 hF_150 rfl 3 (by decide) (hts _ kt_371) (fun _ h9 => h9) rfl dX7_judge_28 ?_
      refine lv_aload_n hx hb dX7_judge_31 rfl (lv_at hl 0 rfl) ?_
      refine pg_get (ci := 7) (v := .ref sl) (C := RX7) (T := TX7) (N := 17) hx hb hts it_7 hown hK hP hL_h0 hF_150 rfl 1 (by decide) (hts _ kt_307) (fun _ h9 => h9) rfl dX7_judge_32 ?_
      refine pg_getN (ci := 9) (v := .ref sx) (C := RX9) (T := TX9) (N := 5) hx hb hts it_9 hown hK hP hi_3 hF_144 rfl 0 (by decide) (hE.nest kn_7) (fun _ h9 => h9) rfl dX7_judge_35 ?_
      refine lv_aload_n hx hb dX7_judge_38 rfl (lv_at hl 0 rfl) ?_
      refine pg_get (ci := 7) (v := .ref sl) (C := RX7) (T := TX7) (N := 17) hx hb hts it_7 hown hK hP hL_h0 hF_150 rfl 1 (by decide) (hts _ kt_307) (fun _ h9 => h9) rfl dX7_judge_39 ?_
      obtain ⟨q_157, v_158, hr_q_157, hXc_q_157⟩ := hG.2.2.2.2 ("PostGate$Sealer", 101, "d", [100]) (by decide +kernel)
      have hXc_q_157 : SXc q_157 v_158 1 (cct [100]) A s s.heap := hXc_q_157
      have hX_q_157 : SX q_157 v_158 1 A s s.heap := hXc_q_157.sx
      obtain ⟨xo_q_157, xc_q_157, xv_q_157, xt_q_157, xn_q_157⟩ := id hXc_q_157
      have hr_q_157 : vk_R "PostGate$Sealer" 101 "d" q_157 s := hr_q_157
      refine va_ldcS hx hb hown hr_q_157 dX7_judge_42 ?_
      have hFc := pg_free hD hS hA
      refine va_calli (va_runV (As := [.ref q_157]) (rest := [.ref sx, .ref w0]) ⟨hx, hb, hml, hown, hts⟩ (s_X9_startOf_e l dC dI cs ty L H.size F_134 sl (ρ + 2) sx 3000 sy0 sy1 sy2 rsx ((flI (TC fm zm) ((gc jf) + 1) ((gd jf) - ((gc jf) + 1))).length) gg_89.1 fc_95 p0_92 p1_93 p2_94 gg_89.2 q_157 v_158 1 (cct [100]) ([100]) hW hi_3 ht_4 hL_sx hT_sx hF_144 hF_145 hF_146 hF_147 hF_148 hF_149 (hti3) (by omega) (hti2) (hHL) (hti1) (⟨rfl, by decide +kernel⟩)) ⟨callB_of 1 hts (gi kt_170) rfl rfl rfl (hts _ kt_164) (hts _ kt_318) (by decide +kernel) ⟨Nat.le_of_ble_eq_true rfl, Nat.le_of_ble_eq_true rfl⟩, (hts _ kt_172), (hts _ kt_173)⟩ ⟨fun a U g mk q => ⟨q.1, PTC.calling q.2⟩, pg_recv hK hP hi_3 hF_144 (q := (RX9, TX9, 5)) rfl, fun U hU hWm => ⟨rfl, PTC.mk hU hWm hP hK hD hE hO hG hXc_q_157 hS hFc⟩⟩ rfl rfl hl.1 rfl (lv_room (Nat.le_of_ble_eq_true rfl)) dX7_judge_44 ⟨by show _ + 0 ≤ 0; omega, by show _ + 0 ≤ 0; omega⟩) hS (fun q _ h => hFc q h) hFc (fun r_159 u t H1 locs ht hvm hw hB hz1 hk1 hS => ?_)
      obtain ⟨F_160, hB1⟩ := hB
      obtain rfl : F_134 = F_160 := (funext (fun a => hB1.2.2.2 a List.not_mem_nil)).symm
      obtain ⟨hP, hD, hO, hR⟩ := QT.back hB1 ht hFc hR (fun q h => absurd h List.not_mem_nil)
      generalize H1 = H at hP hS ⊢
      have hw : r_159 = nI (tgA gg_89.2 (tgR (TC fc_95 (flI (TC fm zm) ((gc jf) + 1) ((gd jf) - ((gc jf) + 1))).length) gg_89.2 [100] gg_89.1)) := hw
      have hw_161 := hw
      have hq9 : r_159 = nI (tgA gg_89.2 (tgR (TC fc_95 (flI (TC fm zm) (gc jf + 1) (gd jf - (gc jf + 1))).length) gg_89.2 [100] gg_89.1)) := hw_161
      subst hq9
      refine lv_aload_n hx hb dX7_judge_47 rfl (lv_at hl 0 rfl) ?_
      refine pg_get (ci := 7) (v := .ref sl) (C := RX7) (T := TX7) (N := 17) hx hb hts it_7 hown hK hP hL_h0 hF_150 rfl 1 (by decide) (hts _ kt_307) (fun _ h9 => h9) rfl dX7_judge_48 ?_
      refine va_ldcS hx hb hown hr_q_157 dX7_judge_51 ?_
      have hFc := pg_free hD hS hA
      refine va_calli (va_runV (As := [.ref q_157]) (rest := [.int (nI (tgA gg_89.2 (tgR (TC fc_95 (flI (TC fm zm) (gc jf + 1) (gd jf - (gc jf + 1))).length) gg_89.2 [100] gg_89.1))), .ref sx, .ref w0]) ⟨hx, hb, hml, hown, hts⟩ (s_X9_endOf_e l dC dI cs ty L H.size F_134 sl (ρ + 2) sx 3000 sy0 sy1 sy2 rsx ((flI (TC fm zm) ((gc jf) + 1) ((gd jf) - ((gc jf) + 1))).length) gg_89.1 fc_95 p0_92 p1_93 p2_94 gg_89.2 q_157 v_158 1 (cct [100]) ([100]) hW hi_3 ht_4 hL_sx hT_sx hF_144 hF_145 hF_146 hF_147 hF_148 hF_149 (hti3) (by omega) (hti2) (hHL) (hti1) (⟨rfl, by decide +kernel⟩)) ⟨callB_of 1 hts (gi kt_174) rfl rfl rfl (hts _ kt_164) (hts _ kt_319) (by decide +kernel) ⟨Nat.le_of_ble_eq_true rfl, Nat.le_of_ble_eq_true rfl⟩, (hts _ kt_176), (hts _ kt_177)⟩ ⟨fun a U g mk q => ⟨q.1, PTC.calling q.2⟩, pg_recv hK hP hi_3 hF_144 (q := (RX9, TX9, 5)) rfl, fun U hU hWm => ⟨rfl, PTC.mk hU hWm hP hK hD hE hO hG hXc_q_157 hS hFc⟩⟩ rfl rfl hl.1 rfl (lv_room (Nat.le_of_ble_eq_true rfl)) dX7_judge_53 ⟨by show _ + 0 ≤ 0; omega, by show _ + 0 ≤ 0; omega⟩) hS (fun q _ h => hFc q h) hFc (fun r_162 u t H1 locs ht hvm hw hB hz1 hk1 hS => ?_)
      obtain ⟨F_163, hB1⟩ := hB
      obtain rfl : F_134 = F_163 := (funext (fun a => hB1.2.2.2 a List.not_mem_nil)).symm
      obtain ⟨hP, hD, hO, hR⟩ := QT.back hB1 ht hFc hR (fun q h => absurd h List.not_mem_nil)
      generalize H1 = H at hP hS ⊢
      have hw : r_162 = nI (tgB gg_89.2 (tgR (TC fc_95 (flI (TC fm zm) ((gc jf) + 1) ((gd jf) - ((gc jf) + 1))).length) gg_89.2 [100] gg_89.1)) := hw
      have hw_164 := hw
      have hq9 : r_162 = nI (tgB gg_89.2 (tgR (TC fc_95 (flI (TC fm zm) (gc jf + 1) (gd jf - (gc jf + 1))).length) gg_89.2 [100] gg_89.1)) := hw_164
      subst hq9
      obtain ⟨hab9, hbz9⟩ := tgAB (T := (TC fc_95 (flI (TC fm zm) (gc jf + 1) (gd jf - (gc jf + 1))).length)) (l := [100]) hti1
      have hFc := pg_free hD hS hA
      refine va_callv (va_runV (As := [.ref sx, .int (nI (tgA gg_89.2 (tgR (TC fc_95 (flI (TC fm zm) (gc jf + 1) (gd jf - (gc jf + 1))).length) gg_89.2 [100] gg_89.1))), .int (nI (tgB gg_89.2 (tgR (TC fc_95 (flI (TC fm zm) (gc jf + 1) (gd jf - (gc jf + 1))).length) gg_89.2 [100] gg_89.1)))]) (rest := []) ⟨hx, hb, hml, hown, hts⟩ (s_X0_addRange_q l dC dI cs ty L H.size F_134 w0 (ρ + 82) rw0 60 sx (ρ + 3) rsx 3000 0 ((flI (TC fm zm) ((gc jf) + 1) ((gd jf) - ((gc jf) + 1))).length) (tgA gg_89.2 (tgR (TC fc_95 (flI (TC fm zm) (gc jf + 1) (gd jf - (gc jf + 1))).length) gg_89.2 [100] gg_89.1)) (tgB gg_89.2 (tgR (TC fc_95 (flI (TC fm zm) (gc jf + 1) (gd jf - (gc jf + 1))).length) gg_89.2 [100] gg_89.1)) f_155 fc_95 (TC fc_95 (flI (TC fm zm) (gc jf + 1) (gd jf - (gc jf + 1))).length) 0 ([]) hW hL_w0 hT_w0 hL_sx hT_sx hq_135 hF_156 (by omega) (⟨rfl, rfl, fun j h => absurd h (Nat.not_lt_zero _)⟩) hF_145 hF_146 (by omega) (by omega) (hab9) (hbz9) (fun j h1 h2 => tc_nI (by omega) (nmc_cd hsw.2.2.1 tc_or h1 h2))) ⟨callB_of 3 hts (gi kt_36) rfl rfl rfl (hts _ kt_1) (hts _ kt_365) (by decide +kernel) ⟨Nat.le_of_ble_eq_true rfl, Nat.le_of_ble_eq_true rfl⟩, (hts _ kt_38), (hts _ kt_39)⟩ ⟨fun a U g mk q => ⟨q.1, PT.calling q.2⟩, pg_recv hK hP hL_w0 hq_135 (q := (RX0, TX0, 3)) rfl, fun U hU hWm => ⟨rfl, PT.mk hU hWm hP hK hD hE hO⟩⟩ rfl rfl hl.1 rfl (lv_room (Nat.le_of_ble_eq_true rfl)) dX7_judge_56 ⟨by show _ + 0 ≤ 0; omega, by show _ + 0 ≤ 0; omega⟩) hS (fun q _ h => hFc q h) hFc (fun u t H1 locs ht hvm hw hB hz1 hk1 hS => ?_)
      obtain ⟨F_166, y2_167, oo2_168, f2_169, hB1, hq_170, hq_171, hq_172⟩ := hB
      obtain ⟨hP, hD, hO, hR⟩ := QT.back hB1 ht hFc hR (fun q h => by simp only [List.mem_cons, List.not_mem_nil, or_false] at h ⊢; omega)
      have hF_173 : F_166 mg = .inr (4, [.ref mx, .ref m0, .ref m1, .ref m2, .int (nI nn), .int (nI bs)]) := (hB1.2.2.2 mg (by rw [hT_mg]; simp only [List.mem_cons, List.not_mem_nil, or_false]; omega)).trans hF_136
      have hF_174 : F_166 mx = .inr (0, [.ref rm, .int (nI zm), .int 0]) := (hB1.2.2.2 mx (by rw [hT_mx]; simp only [List.mem_cons, List.not_mem_nil, or_false]; omega)).trans hF_137
      have hF_175 : F_166 rm = .inl (cs 16, 3000, .inl fm) := (hB1.2.2.2 rm (by rw [ht_38]; simp only [List.mem_cons, List.not_mem_nil, or_false]; omega)).trans hF_138
      have hF_176 : F_166 m0 = .inl (cs 16, 20, .inl e0) := (hB1.2.2.2 m0 (by rw [ht_34]; simp only [List.mem_cons, List.not_mem_nil, or_false]; omega)).trans hF_139
      have hF_177 : F_166 m1 = .inl (cs 16, 20, .inl e1) := (hB1.2.2.2 m1 (by rw [ht_35]; simp only [List.mem_cons, List.not_mem_nil, or_false]; omega)).trans hF_140
      have hF_178 : F_166 m2 = .inl (cs 16, 20, .inl e2) := (hB1.2.2.2 m2 (by rw [ht_36]; simp only [List.mem_cons, List.not_mem_nil, or_false]; omega)).trans hF_141
      have hF_179 : F_166 d = .inr (2, [.ref ea, .int (nI cn)]) := (hB1.2.2.2 d (by rw [ht_2]; simp only [List.mem_cons, List.not_mem_nil, or_false]; omega)).trans hF_142
      have hF_180 : F_166 ea = .inl (cs 21, 40, .inr (.inr (.inr (.inr f_83)))) := (hB1.2.2.2 ea (by rw [ht_41]; simp only [List.mem_cons, List.not_mem_nil, or_false]; omega)).trans hF_143
      have hF_181 : F_166 sl = .inr (9, [.ref sx, .ref sy0, .ref sy1, .ref sy2, .int (nI gg_89.1)]) := (hB1.2.2.2 sl (by rw [ht_4]; simp)).trans hF_144
      have hF_182 : F_166 sx = .inr (0, [.ref rsx, .int (nI (flI (TC fm zm) ((gc jf) + 1) ((gd jf) - ((gc jf) + 1))).length), .int 0]) := (hB1.2.2.2 sx (by rw [hT_sx]; simp)).trans hF_145
      have hF_183 : F_166 rsx = .inl (cs 16, 3000, .inl fc_95) := (hB1.2.2.2 rsx (by rw [ht_20]; simp)).trans hF_146
      have hF_184 : F_166 sy0 = .inl (cs 16, 40, .inl p0_92) := (hB1.2.2.2 sy0 (by rw [ht_16]; simp)).trans hF_147
      have hF_185 : F_166 sy1 = .inl (cs 16, 40, .inl p1_93) := (hB1.2.2.2 sy1 (by rw [ht_17]; simp)).trans hF_148
      have hF_186 : F_166 sy2 = .inl (cs 16, 40, .inl p2_94) := (hB1.2.2.2 sy2 (by rw [ht_18]; simp)).trans hF_149
      have hF_187 : F_166 h0 = .inr (7, [.ref d, .ref sl, .ref ke, .ref w0, .ref w1, .ref w2, .ref w3, .ref w4, .ref w5, .ref w6, .ref w7, .ref w8, .ref tk, .ref hs, .ref pw, .int u0_98, .int u1_99]) := (hB1.2.2.2 h0 (by rw [hT_h0]; simp)).trans hF_150
      have hF_188 : F_166 w2 = .inr (0, [.ref rw2, .int (nI 32), .int 0]) := (hB1.2.2.2 w2 (by rw [hT_w2]; simp)).trans hF_151
      have hF_189 : F_166 rw2 = .inl (cs 16, 32, .inl fb_96) := (hB1.2.2.2 rw2 (by rw [ht_63]; simp)).trans hF_152
      have hF_190 : F_166 w3 = .inr (0, [.ref rw3, .int (nI 64), .int 0]) := (hB1.2.2.2 w3 (by rw [hT_w3]; simp)).trans hF_153
      have hF_191 : F_166 rw3 = .inl (cs 16, 64, .inl fs_97) := (hB1.2.2.2 rw3 (by rw [ht_66]; simp)).trans hF_154
      generalize H1 = H at hP hS ⊢
      have hdl9 := nmc_len hsw.2.2.1
      obtain ⟨hoo0, hsrc⟩ : oo2_168 = 0 ∧ SRC (dmL (TC fc_95 (flI (TC fm zm) (gc jf + 1) (gd jf - (gc jf + 1))).length) gg_89.2 gg_89.1) y2_167 f2_169 := tga_src (U := (dmL (TC fc_95 (flI (TC fm zm) (gc jf + 1) (gd jf - (gc jf + 1))).length) gg_89.2 gg_89.1)) hq_172 (by show (rgT _ _ _).length ≤ 60; rw [rgT_len]; omega) (fun j hj => by have hj2 : j < (rgT (TC fc_95 (flI (TC fm zm) (gc jf + 1) (gd jf - (gc jf + 1))).length) (tgA gg_89.2 (tgR (TC fc_95 (flI (TC fm zm) (gc jf + 1) (gd jf - (gc jf + 1))).length) gg_89.2 [100] gg_89.1)) ((tgB gg_89.2 (tgR (TC fc_95 (flI (TC fm zm) (gc jf + 1) (gd jf - (gc jf + 1))).length) gg_89.2 [100] gg_89.1)) - (tgA gg_89.2 (tgR (TC fc_95 (flI (TC fm zm) (gc jf + 1) (gd jf - (gc jf + 1))).length) gg_89.2 [100] gg_89.1)))).length := hj; rw [rgT_len] at hj2; show (rgT _ _ _).getD j 0 < 128; rw [rgT_get _ _ _ hj2]; exact nmc_cd hsw.2.2.1 tc_or (by omega) (by omega))
      subst hoo0
      have hF_192 : F_166 w0 = .inr (0, [.ref rw0, .int (nI y2_167), .int 0]) := hq_170
      have hTX0 : TXE cs F_166 w0 60 (dmL (TC fc_95 (flI (TC fm zm) (gc jf + 1) (gd jf - (gc jf + 1))).length) gg_89.2 gg_89.1) := ⟨_, _, _, hF_192, hq_171, hsrc, by have h9 := hsrc.1; have h8 : (dmL (TC fc_95 (flI (TC fm zm) (gc jf + 1) (gd jf - (gc jf + 1))).length) gg_89.2 gg_89.1).length ≤ 60 := (by show (rgT _ _ _).length ≤ 60; rw [rgT_len]; omega); omega⟩
      refine lv_aload_n hx hb dX7_judge_59 rfl (lv_at hl 0 rfl) ?_
      refine pg_get (ci := 7) (v := .ref sl) (C := RX7) (T := TX7) (N := 17) hx hb hts it_7 hown hK hP hL_h0 hF_187 rfl 1 (by decide) (hts _ kt_307) (fun _ h9 => h9) rfl dX7_judge_60 ?_
      obtain ⟨q_193, v_194, hr_q_193, hXc_q_193⟩ := hG.2.2.2.2 ("PostGate$Sealer", 113, "x", [120]) (by decide +kernel)
      have hXc_q_193 : SXc q_193 v_194 1 (cct [120]) A s s.heap := hXc_q_193
      have hX_q_193 : SX q_193 v_194 1 A s s.heap := hXc_q_193.sx
      obtain ⟨xo_q_193, xc_q_193, xv_q_193, xt_q_193, xn_q_193⟩ := id hXc_q_193
      have hr_q_193 : vk_R "PostGate$Sealer" 113 "x" q_193 s := hr_q_193
      refine va_ldcS hx hb hown hr_q_193 dX7_judge_63 ?_
      have hFc := pg_free hD hS hA
      refine va_calli (va_runV (As := [.ref q_193]) (rest := []) ⟨hx, hb, hml, hown, hts⟩ (s_X9_has_e l dC dI cs ty L H.size F_166 sl (ρ + 2) sx 3000 sy0 sy1 sy2 rsx ((flI (TC fm zm) ((gc jf) + 1) ((gd jf) - ((gc jf) + 1))).length) gg_89.1 fc_95 p0_92 p1_93 p2_94 gg_89.2 q_193 v_194 1 (cct [120]) ([120]) hW hi_3 ht_4 hL_sx hT_sx hF_181 hF_182 hF_183 hF_184 hF_185 hF_186 (hti3) (by omega) (hti2) (hHL) (hti1) (⟨rfl, by decide +kernel⟩)) ⟨callB_of 1 hts (gi kt_308) rfl rfl rfl (hts _ kt_164) (hts _ kt_309) (by decide +kernel) ⟨Nat.le_of_ble_eq_true rfl, Nat.le_of_ble_eq_true rfl⟩, (hts _ kt_310), (hts _ kt_311)⟩ ⟨fun a U g mk q => ⟨q.1, PTC.calling q.2⟩, pg_recv hK hP hi_3 hF_181 (q := (RX9, TX9, 5)) rfl, fun U hU hWm => ⟨rfl, PTC.mk hU hWm hP hK hD hE hO hG hXc_q_193 hS hFc⟩⟩ rfl rfl hl.1 rfl (lv_room (Nat.le_of_ble_eq_true rfl)) dX7_judge_65 ⟨by show _ + 0 ≤ 0; omega, by show _ + 0 ≤ 0; omega⟩) hS (fun q _ h => hFc q h) hFc (fun r_195 u t H1 locs ht hvm hw hB hz1 hk1 hS => ?_)
      obtain ⟨F_196, hB1⟩ := hB
      obtain rfl : F_166 = F_196 := (funext (fun a => hB1.2.2.2 a List.not_mem_nil)).symm
      obtain ⟨hP, hD, hO, hR⟩ := QT.back hB1 ht hFc hR (fun q h => absurd h List.not_mem_nil)
      generalize H1 = H at hP hS ⊢
      have hw : (r_195 = 1 ∧ TGE (TC fc_95 (flI (TC fm zm) ((gc jf) + 1) ((gd jf) - ((gc jf) + 1))).length) gg_89.2 gg_89.1 [120]) ∨ (r_195 = 0 ∧ ¬ TGE (TC fc_95 (flI (TC fm zm) ((gc jf) + 1) ((gd jf) - ((gc jf) + 1))).length) gg_89.2 gg_89.1 [120]) := hw
      have hw_197 := hw
      refine lv_if_eq (tgt := 86) hx hb dX7_judge_68 (by decide) (fun c_198 => ?_) (fun c_198 => ?_)
      ·
        have hXP : ¬ XPD (TC fc_95 (flI (TC fm zm) (gc jf + 1) (gd jf - (gc jf + 1))).length) gg_89.2 gg_89.1 nw := fun q => by obtain ⟨w, w1, w2⟩ := q; rw [nom_h (orp0 hw_197 c_198)] at w1; exact nomatch w1
        have hDI2 := DIRC.fr hDI hO0 hW hi_40 ht_41 hcnn hR (hF_180.trans he0.symm) (fun k hk => by simp only [List.mem_cons, List.not_mem_nil, or_false]; omega)
        have hTX1 : TXE cs F_166 w0 60 (dmL (TC fc_95 (flI (TC fm zm) (gc jf + 1) (gd jf - (gc jf + 1))).length) gg_89.2 gg_89.1) := ⟨_, _, _, hF_192, hq_171, hsrc, by have h9 := hsrc.1; have h8 : (dmL (TC fc_95 (flI (TC fm zm) (gc jf + 1) (gd jf - (gc jf + 1))).length) gg_89.2 gg_89.1).length ≤ 60 := (by show (rgT _ _ _).length ≤ 60; rw [rgT_len]; omega); omega⟩
        refine lv_aload_n hx hb dX7_judge_86 rfl (lv_at hl 0 rfl) ?_
        have hFc := pg_free hD hS hA
        refine va_calli (va_runV (As := []) (rest := []) ⟨hx, hb, hml, hown, hts⟩ (s_X7_readKey_e l dC dI cs ty L H.size F_166 h0 ρ d δ ea sl sx sy0 sy1 sy2 ke kx ky0 ky1 ky2 w0 w1 w2 w3 w4 w5 w6 w7 w8 tk hs ha hbb hcc pw px py pz pu rsx ((flI (TC fm zm) ((gc jf) + 1) ((gd jf) - ((gc jf) + 1))).length) gg_89.1 fc_95 p0_92 p1_93 p2_94 gg_89.2 u0_98 u1_99 rw0 rw1 rw4 rkx cn (dmL (TC fc_95 (flI (TC fm zm) (gc jf + 1) (gd jf - (gc jf + 1))).length) gg_89.2 gg_89.1) D hW hL_h0 hT_h0 hL_sx hT_sx hL_w0 hT_w0 hL_w1 hT_w1 hL_w4 hT_w4 hL_kx hT_kx hF_187 hF_181 hF_182 hF_183 hF_184 hF_185 hF_186 (hti3) (hti2) (hHL) (hti1) (hsw.2.2.2.1) (hTX1) hF_179 (hcnn) (hDI2) (hdl)) ⟨callB_of 0 hts (gi kt_436) rfl rfl rfl (hts _ kt_322) (hts _ kt_437) (by decide +kernel) ⟨Nat.le_of_ble_eq_true rfl, Nat.le_of_ble_eq_true rfl⟩, (hts _ kt_438), (hts _ kt_439)⟩ ⟨fun a U g mk q => ⟨q.1, PTE.calling q.2⟩, pg_recv hK hP hL_h0 hF_187 (q := (RX7, TX7, 17)) rfl, fun U hU hWm => ⟨rfl, PTE.mk hU hWm hP hK hD hE hO hG (fun x hx => absurd hx List.not_mem_nil) hS hFc⟩⟩ rfl rfl hl.1 rfl (lv_room (Nat.le_of_ble_eq_true rfl)) dX7_judge_87 ⟨by show _ + 0 ≤ 0; omega, by show _ + 0 ≤ 0; omega⟩) hS (fun q _ h => hFc q h) hFc (fun r_200 gk_199 t H1 locs ht hvm hw hB hz1 hk1 hS => ?_)
        obtain ⟨F_201, fM_202, hB1, hq_203⟩ := hB
        obtain ⟨hP, hD, hO, hR⟩ := QT.back hB1 ht hFc hR (fun q h => by simp only [List.mem_cons, List.not_mem_nil, or_false] at h ⊢; omega)
        have hF_204 : F_201 mg = .inr (4, [.ref mx, .ref m0, .ref m1, .ref m2, .int (nI nn), .int (nI bs)]) := (hB1.2.2.2 mg (by rw [hT_mg]; simp only [List.mem_cons, List.not_mem_nil, or_false]; omega)).trans hF_173
        have hF_205 : F_201 mx = .inr (0, [.ref rm, .int (nI zm), .int 0]) := (hB1.2.2.2 mx (by rw [hT_mx]; simp only [List.mem_cons, List.not_mem_nil, or_false]; omega)).trans hF_174
        have hF_206 : F_201 rm = .inl (cs 16, 3000, .inl fm) := (hB1.2.2.2 rm (by rw [ht_38]; simp only [List.mem_cons, List.not_mem_nil, or_false]; omega)).trans hF_175
        have hF_207 : F_201 m0 = .inl (cs 16, 20, .inl e0) := (hB1.2.2.2 m0 (by rw [ht_34]; simp only [List.mem_cons, List.not_mem_nil, or_false]; omega)).trans hF_176
        have hF_208 : F_201 m1 = .inl (cs 16, 20, .inl e1) := (hB1.2.2.2 m1 (by rw [ht_35]; simp only [List.mem_cons, List.not_mem_nil, or_false]; omega)).trans hF_177
        have hF_209 : F_201 m2 = .inl (cs 16, 20, .inl e2) := (hB1.2.2.2 m2 (by rw [ht_36]; simp only [List.mem_cons, List.not_mem_nil, or_false]; omega)).trans hF_178
        have hF_210 : F_201 d = .inr (2, [.ref ea, .int (nI cn)]) := (hB1.2.2.2 d (by rw [ht_2]; simp only [List.mem_cons, List.not_mem_nil, or_false]; omega)).trans hF_179
        have hF_211 : F_201 ea = .inl (cs 21, 40, .inr (.inr (.inr (.inr f_83)))) := (hB1.2.2.2 ea (by rw [ht_41]; simp only [List.mem_cons, List.not_mem_nil, or_false]; omega)).trans hF_180
        have hF_212 : F_201 sl = .inr (9, [.ref sx, .ref sy0, .ref sy1, .ref sy2, .int (nI gg_89.1)]) := (hB1.2.2.2 sl (by rw [ht_4]; simp)).trans hF_181
        have hF_213 : F_201 sx = .inr (0, [.ref rsx, .int (nI (flI (TC fm zm) ((gc jf) + 1) ((gd jf) - ((gc jf) + 1))).length), .int 0]) := (hB1.2.2.2 sx (by rw [hT_sx]; simp)).trans hF_182
        have hF_214 : F_201 rsx = .inl (cs 16, 3000, .inl fc_95) := (hB1.2.2.2 rsx (by rw [ht_20]; simp)).trans hF_183
        have hF_215 : F_201 sy0 = .inl (cs 16, 40, .inl p0_92) := (hB1.2.2.2 sy0 (by rw [ht_16]; simp)).trans hF_184
        have hF_216 : F_201 sy1 = .inl (cs 16, 40, .inl p1_93) := (hB1.2.2.2 sy1 (by rw [ht_17]; simp)).trans hF_185
        have hF_217 : F_201 sy2 = .inl (cs 16, 40, .inl p2_94) := (hB1.2.2.2 sy2 (by rw [ht_18]; simp)).trans hF_186
        have hF_218 : F_201 h0 = .inr (7, [.ref d, .ref sl, .ref ke, .ref w0, .ref w1, .ref w2, .ref w3, .ref w4, .ref w5, .ref w6, .ref w7, .ref w8, .ref tk, .ref hs, .ref pw, .int u0_98, .int u1_99]) := (hB1.2.2.2 h0 (by rw [hT_h0]; simp)).trans hF_187
        have hF_219 : F_201 w2 = .inr (0, [.ref rw2, .int (nI 32), .int 0]) := (hB1.2.2.2 w2 (by rw [hT_w2]; simp)).trans hF_188
        have hF_220 : F_201 rw2 = .inl (cs 16, 32, .inl fb_96) := (hB1.2.2.2 rw2 (by rw [ht_63]; simp)).trans hF_189
        have hF_221 : F_201 w3 = .inr (0, [.ref rw3, .int (nI 64), .int 0]) := (hB1.2.2.2 w3 (by rw [hT_w3]; simp)).trans hF_190
        have hF_222 : F_201 rw3 = .inl (cs 16, 64, .inl fs_97) := (hB1.2.2.2 rw3 (by rw [ht_66]; simp)).trans hF_191
        have hF_223 : F_201 w0 = .inr (0, [.ref rw0, .int (nI y2_167), .int 0]) := (hB1.2.2.2 w0 (by rw [hT_w0]; simp)).trans hF_192
        have hF_224 : F_201 rw0 = .inl (cs 16, 60, .inl f2_169) := (hB1.2.2.2 rw0 (by rw [ht_57]; simp)).trans hq_171
        generalize H1 = H at hP hS ⊢
        have hw : KYX D cn (rgT (TC fc_95 (flI (TC fm zm) ((gc jf) + 1) ((gd jf) - ((gc jf) + 1))).length) (tgA gg_89.2 (tgR (TC fc_95 (flI (TC fm zm) ((gc jf) + 1) ((gd jf) - ((gc jf) + 1))).length) gg_89.2 [115] gg_89.1)) ((tgB gg_89.2 (tgR (TC fc_95 (flI (TC fm zm) ((gc jf) + 1) ((gd jf) - ((gc jf) + 1))).length) gg_89.2 [115] gg_89.1)) - (tgA gg_89.2 (tgR (TC fc_95 (flI (TC fm zm) ((gc jf) + 1) ((gd jf) - ((gc jf) + 1))).length) gg_89.2 [115] gg_89.1))) ++ [46, 95, 100, 111, 109, 97, 105, 110, 107, 101, 121, 46] ++ rgL (dmL (TC fc_95 (flI (TC fm zm) (gc jf + 1) (gd jf - (gc jf + 1))).length) gg_89.2 gg_89.1) 0 ((dmL (TC fc_95 (flI (TC fm zm) (gc jf + 1) (gd jf - (gc jf + 1))).length) gg_89.2 gg_89.1).length - 0)) gk_199 r_200 := hw
        have hw_225 := hw
        have hKY : KYX D cn (uK (TC fc_95 (flI (TC fm zm) (gc jf + 1) (gd jf - (gc jf + 1))).length) gg_89.2 gg_89.1) gk_199 r_200 := hw_225
        have hKM := hq_203
        refine lv_istore (lv' := [(4, .int r_200), (0, .ref h0), (1, .ref mg), (2, .int (nI jf)), (3, .int (nI nw))]) hx hb dX7_judge_90 hl (by decide) rfl (fun ls hl => ?_)
        refine lv_iload hx hb dX7_judge_92 (lv_at hl 0 rfl) ?_
        refine lv_iconst (v := 2) hx hb dX7_judge_94 (by decide) ?_
        refine lv_icmp_eq (tgt := 101) hx hb dX7_judge_95 (by decide) (fun c_226 => ?_) (fun c_226 => ?_)
        ·
          have hKY2 := hKY
          rw [c_226] at hKY2
          obtain ⟨hM1, hM2, hM3⟩ := hKM hKY2
          obtain ⟨hgk, hKO⟩ := kyx_2 hKY2 rfl
          obtain ⟨hkm0, hkm1⟩ : 128 ≤ kyM (D gk_199) 0 ∧ kyM (D gk_199) 63 % 2 = 1 := by obtain ⟨g9, k1, k2⟩ := hKO; rw [kyM_e k1]; exact ⟨k2.2.2.2.1, k2.2.2.2.2⟩
          refine lv_aload_n hx hb dX7_judge_101 rfl (lv_at hl 1 rfl) ?_
          refine lv_aload_n hx hb dX7_judge_102 rfl (lv_at hl 2 rfl) ?_
          have hFc := pg_free hD hS hA
          refine va_calli (va_runV (As := [.ref mg]) (rest := []) ⟨hx, hb, hml, hown, hts⟩ (s_X7_isBodyRight_e l dC dI cs ty L H.size F_201 h0 ρ d δ ea sl sx sy0 sy1 sy2 ke kx ky0 ky1 ky2 w0 w1 w2 w3 w4 w5 w6 w7 w8 tk hs ha hbb hcc pw px py pz pu rsx ((flI (TC fm zm) ((gc jf) + 1) ((gd jf) - ((gc jf) + 1))).length) gg_89.1 fc_95 p0_92 p1_93 p2_94 gg_89.2 u0_98 u1_99 mg μ mx m0 m1 m2 rm zm nn bs rw2 rw5 rw8 fm e0 e1 e2 fb_96 hW hL_h0 hT_h0 hL_sx hT_sx hL_w2 hT_w2 hL_w5 hT_w5 hL_w8 hT_w8 hL_mg hT_mg hL_mx hT_mx hF_218 hF_212 hF_213 hF_214 hF_215 hF_216 hF_217 (hti3) (hti2) (hHL) (hti1) hF_204 hF_206 hF_207 hF_208 hF_209 (by omega) (by omega) hF_205 (hbs) (hmu) (hsw.2.2.2.2.2.2.2.2.1) hF_219 hF_220 (hw2c)) ⟨callB_of 1 hts (gi kt_440) rfl rfl rfl (hts _ kt_322) (hts _ kt_441) (by decide +kernel) ⟨Nat.le_of_ble_eq_true rfl, Nat.le_of_ble_eq_true rfl⟩, (hts _ kt_442), (hts _ kt_443)⟩ ⟨fun a U g mk q => ⟨q.1, PTE.calling q.2⟩, pg_recv hK hP hL_h0 hF_218 (q := (RX7, TX7, 17)) rfl, fun U hU hWm => ⟨rfl, PTE.mk hU hWm hP hK hD hE hO hG (fun x hx => absurd hx List.not_mem_nil) hS hFc⟩⟩ rfl rfl hl.1 rfl (lv_room (Nat.le_of_ble_eq_true rfl)) dX7_judge_103 ⟨by show _ + 0 ≤ 0; omega, by show _ + 0 ≤ 0; omega⟩) hS (fun q _ h => hFc q h) hFc (fun r_228 gB_227 t H1 locs ht hvm hw hB hz1 hk1 hS => ?_)
          obtain ⟨F_229, hB1, hq_230⟩ := hB
          obtain ⟨hP, hD, hO, hR⟩ := QT.back hB1 ht hFc hR (fun q h => by simp only [List.mem_cons, List.not_mem_nil, or_false] at h ⊢; omega)
          have hF_231 : F_229 mg = .inr (4, [.ref mx, .ref m0, .ref m1, .ref m2, .int (nI nn), .int (nI bs)]) := (hB1.2.2.2 mg (by rw [hT_mg]; simp only [List.mem_cons, List.not_mem_nil, or_false]; omega)).trans hF_204
          have hF_232 : F_229 mx = .inr (0, [.ref rm, .int (nI zm), .int 0]) := (hB1.2.2.2 mx (by rw [hT_mx]; simp only [List.mem_cons, List.not_mem_nil, or_false]; omega)).trans hF_205
          have hF_233 : F_229 rm = .inl (cs 16, 3000, .inl fm) := (hB1.2.2.2 rm (by rw [ht_38]; simp only [List.mem_cons, List.not_mem_nil, or_false]; omega)).trans hF_206
          have hF_234 : F_229 m0 = .inl (cs 16, 20, .inl e0) := (hB1.2.2.2 m0 (by rw [ht_34]; simp only [List.mem_cons, List.not_mem_nil, or_false]; omega)).trans hF_207
          have hF_235 : F_229 m1 = .inl (cs 16, 20, .inl e1) := (hB1.2.2.2 m1 (by rw [ht_35]; simp only [List.mem_cons, List.not_mem_nil, or_false]; omega)).trans hF_208
          have hF_236 : F_229 m2 = .inl (cs 16, 20, .inl e2) := (hB1.2.2.2 m2 (by rw [ht_36]; simp only [List.mem_cons, List.not_mem_nil, or_false]; omega)).trans hF_209
          have hF_237 : F_229 d = .inr (2, [.ref ea, .int (nI cn)]) := (hB1.2.2.2 d (by rw [ht_2]; simp only [List.mem_cons, List.not_mem_nil, or_false]; omega)).trans hF_210
          have hF_238 : F_229 ea = .inl (cs 21, 40, .inr (.inr (.inr (.inr f_83)))) := (hB1.2.2.2 ea (by rw [ht_41]; simp only [List.mem_cons, List.not_mem_nil, or_false]; omega)).trans hF_211
          have hF_239 : F_229 sl = .inr (9, [.ref sx, .ref sy0, .ref sy1, .ref sy2, .int (nI gg_89.1)]) := (hB1.2.2.2 sl (by rw [ht_4]; simp)).trans hF_212
          have hF_240 : F_229 sx = .inr (0, [.ref rsx, .int (nI (flI (TC fm zm) ((gc jf) + 1) ((gd jf) - ((gc jf) + 1))).length), .int 0]) := (hB1.2.2.2 sx (by rw [hT_sx]; simp)).trans hF_213
          have hF_241 : F_229 rsx = .inl (cs 16, 3000, .inl fc_95) := (hB1.2.2.2 rsx (by rw [ht_20]; simp)).trans hF_214
          have hF_242 : F_229 sy0 = .inl (cs 16, 40, .inl p0_92) := (hB1.2.2.2 sy0 (by rw [ht_16]; simp)).trans hF_215
          have hF_243 : F_229 sy1 = .inl (cs 16, 40, .inl p1_93) := (hB1.2.2.2 sy1 (by rw [ht_17]; simp)).trans hF_216
          have hF_244 : F_229 sy2 = .inl (cs 16, 40, .inl p2_94) := (hB1.2.2.2 sy2 (by rw [ht_18]; simp)).trans hF_217
          have hF_245 : F_229 h0 = .inr (7, [.ref d, .ref sl, .ref ke, .ref w0, .ref w1, .ref w2, .ref w3, .ref w4, .ref w5, .ref w6, .ref w7, .ref w8, .ref tk, .ref hs, .ref pw, .int u0_98, .int u1_99]) := (hB1.2.2.2 h0 (by rw [hT_h0]; simp)).trans hF_218
          have hF_246 : F_229 w2 = .inr (0, [.ref rw2, .int (nI 32), .int 0]) := (hB1.2.2.2 w2 (by rw [hT_w2]; simp)).trans hF_219
          have hF_247 : F_229 rw2 = .inl (cs 16, 32, .inl fb_96) := (hB1.2.2.2 rw2 (by rw [ht_63]; simp)).trans hF_220
          have hF_248 : F_229 w3 = .inr (0, [.ref rw3, .int (nI 64), .int 0]) := (hB1.2.2.2 w3 (by rw [hT_w3]; simp)).trans hF_221
          have hF_249 : F_229 rw3 = .inl (cs 16, 64, .inl fs_97) := (hB1.2.2.2 rw3 (by rw [ht_66]; simp)).trans hF_222
          have hF_250 : F_229 w0 = .inr (0, [.ref rw0, .int (nI y2_167), .int 0]) := (hB1.2.2.2 w0 (by rw [hT_w0]; simp)).trans hF_223
          have hF_251 : F_229 rw0 = .inl (cs 16, 60, .inl f2_169) := (hB1.2.2.2 rw0 (by rw [ht_57]; simp)).trans hF_224
          have hF_252 : F_229 w4 = .inr (0, [.ref rw4, .int (nI 64), .int 0]) := (hB1.2.2.2 w4 (by rw [hT_w4]; simp)).trans hM1
          have hF_253 : F_229 rw4 = .inl (cs 16, 64, .inl fM_202) := (hB1.2.2.2 rw4 (by rw [ht_69]; simp)).trans hM2
          generalize H1 = H at hP hS ⊢
          have hw : (r_228 = 1 ∧ BHO (TC fc_95 (flI (TC fm zm) ((gc jf) + 1) ((gd jf) - ((gc jf) + 1))).length) gg_89.2 gg_89.1 gB_227.1 gB_227.2) ∨ (r_228 = 0 ∧ ¬ BHO (TC fc_95 (flI (TC fm zm) ((gc jf) + 1) ((gd jf) - ((gc jf) + 1))).length) gg_89.2 gg_89.1 gB_227.1 gB_227.2) := hw
          have hw_254 := hw
          have hBD := hq_230
          have hBR := hw_254
          refine lv_if_ne (tgt := 111) hx hb dX7_judge_106 (by decide) (fun c_255 => ?_) (fun c_255 => ?_)
          ·
            have hBH : BHO (TC fc_95 (flI (TC fm zm) (gc jf + 1) (gd jf - (gc jf + 1))).length) gg_89.2 gg_89.1 gB_227.1 gB_227.2 := orp1 hBR c_255
            obtain ⟨howe, os, oe, how1, how2, how3, how4⟩ : owL (TC fm zm) (gc jf + 1) (gd jf) = owS (TC fm zm) (gc jf + 1) (gd jf) ∧ ∃ s q, owS (TC fm zm) (gc jf + 1) (gd jf) = some (s, q) ∧ s ≤ q ∧ gc jf + 1 < s ∧ q ≤ gd jf := by have h9 := ow_well (T := (TC fm zm)) (a := gc jf + 1) (k := gd jf - (gc jf + 1)) hgt (by have h8 := hsw.2.2.2.2.2.1; rw [hTC] at h8; exact h8); rw [show gc jf + 1 + (gd jf - (gc jf + 1)) = gd jf by omega] at h9; exact h9
            refine lv_aload_n hx hb dX7_judge_111 rfl (lv_at hl 1 rfl) ?_
            refine pg_get (ci := 7) (v := .ref w8) (C := RX7) (T := TX7) (N := 17) hx hb hts it_7 hown hK hP hL_h0 hF_245 rfl 11 (by decide) (hts _ kt_391) (fun _ h9 => h9) rfl dX7_judge_112 ?_
            have hFc := pg_free hD hS hA
            obtain ⟨z_256, o_257, hF_258, hq_259, hq_260⟩ := hO.bytes hL_w8 hT_w8
            refine va_callv (va_runV (As := []) (rest := []) ⟨hx, hb, hml, hown, hts⟩ (s_X0_clear l dC dI cs ty L H.size F_229 w8 (ρ + 90) rw8 6100 hW hL_w8 hT_w8) ⟨callB_of 0 hts (gi kt_32) rfl rfl rfl (hts _ kt_1) (hts _ kt_361) (by decide +kernel) ⟨Nat.le_of_ble_eq_true rfl, Nat.le_of_ble_eq_true rfl⟩, (hts _ kt_34), (hts _ kt_35)⟩ ⟨fun a U g mk q => ⟨q.1, PT.calling q.2⟩, pg_recv hK hP hL_w8 hF_258 (q := (RX0, TX0, 3)) rfl, fun U hU hWm => ⟨rfl, PT.mk hU hWm hP hK hD hE hO⟩⟩ rfl rfl hl.1 rfl (lv_room (Nat.le_of_ble_eq_true rfl)) dX7_judge_115 ⟨by show _ + 0 ≤ 0; omega, by show _ + 0 ≤ 0; omega⟩) hS (fun q _ h => hFc q h) hFc (fun u t H1 locs ht hvm hw hB hz1 hk1 hS => ?_)
            obtain ⟨F_262, hB1, hq_263⟩ := hB
            obtain ⟨hP, hD, hO, hR⟩ := QT.back hB1 ht hFc hR (fun q h => by simp only [List.mem_cons, List.not_mem_nil, or_false] at h ⊢; omega)
            have hF_264 : F_262 mg = .inr (4, [.ref mx, .ref m0, .ref m1, .ref m2, .int (nI nn), .int (nI bs)]) := (hB1.2.2.2 mg (by rw [hT_mg]; simp only [List.mem_cons, List.not_mem_nil, or_false]; omega)).trans hF_231
            have hF_265 : F_262 mx = .inr (0, [.ref rm, .int (nI zm), .int 0]) := (hB1.2.2.2 mx (by rw [hT_mx]; simp only [List.mem_cons, List.not_mem_nil, or_false]; omega)).trans hF_232
            have hF_266 : F_262 rm = .inl (cs 16, 3000, .inl fm) := (hB1.2.2.2 rm (by rw [ht_38]; simp only [List.mem_cons, List.not_mem_nil, or_false]; omega)).trans hF_233
            have hF_267 : F_262 m0 = .inl (cs 16, 20, .inl e0) := (hB1.2.2.2 m0 (by rw [ht_34]; simp only [List.mem_cons, List.not_mem_nil, or_false]; omega)).trans hF_234
            have hF_268 : F_262 m1 = .inl (cs 16, 20, .inl e1) := (hB1.2.2.2 m1 (by rw [ht_35]; simp only [List.mem_cons, List.not_mem_nil, or_false]; omega)).trans hF_235
            have hF_269 : F_262 m2 = .inl (cs 16, 20, .inl e2) := (hB1.2.2.2 m2 (by rw [ht_36]; simp only [List.mem_cons, List.not_mem_nil, or_false]; omega)).trans hF_236
            have hF_270 : F_262 d = .inr (2, [.ref ea, .int (nI cn)]) := (hB1.2.2.2 d (by rw [ht_2]; simp only [List.mem_cons, List.not_mem_nil, or_false]; omega)).trans hF_237
            have hF_271 : F_262 ea = .inl (cs 21, 40, .inr (.inr (.inr (.inr f_83)))) := (hB1.2.2.2 ea (by rw [ht_41]; simp only [List.mem_cons, List.not_mem_nil, or_false]; omega)).trans hF_238
            have hF_272 : F_262 sl = .inr (9, [.ref sx, .ref sy0, .ref sy1, .ref sy2, .int (nI gg_89.1)]) := (hB1.2.2.2 sl (by rw [ht_4]; simp)).trans hF_239
            have hF_273 : F_262 sx = .inr (0, [.ref rsx, .int (nI (flI (TC fm zm) ((gc jf) + 1) ((gd jf) - ((gc jf) + 1))).length), .int 0]) := (hB1.2.2.2 sx (by rw [hT_sx]; simp)).trans hF_240
            have hF_274 : F_262 rsx = .inl (cs 16, 3000, .inl fc_95) := (hB1.2.2.2 rsx (by rw [ht_20]; simp)).trans hF_241
            have hF_275 : F_262 sy0 = .inl (cs 16, 40, .inl p0_92) := (hB1.2.2.2 sy0 (by rw [ht_16]; simp)).trans hF_242
            have hF_276 : F_262 sy1 = .inl (cs 16, 40, .inl p1_93) := (hB1.2.2.2 sy1 (by rw [ht_17]; simp)).trans hF_243
            have hF_277 : F_262 sy2 = .inl (cs 16, 40, .inl p2_94) := (hB1.2.2.2 sy2 (by rw [ht_18]; simp)).trans hF_244
            have hF_278 : F_262 h0 = .inr (7, [.ref d, .ref sl, .ref ke, .ref w0, .ref w1, .ref w2, .ref w3, .ref w4, .ref w5, .ref w6, .ref w7, .ref w8, .ref tk, .ref hs, .ref pw, .int u0_98, .int u1_99]) := (hB1.2.2.2 h0 (by rw [hT_h0]; simp)).trans hF_245
            have hF_279 : F_262 w2 = .inr (0, [.ref rw2, .int (nI 32), .int 0]) := (hB1.2.2.2 w2 (by rw [hT_w2]; simp)).trans hF_246
            have hF_280 : F_262 rw2 = .inl (cs 16, 32, .inl fb_96) := (hB1.2.2.2 rw2 (by rw [ht_63]; simp)).trans hF_247
            have hF_281 : F_262 w3 = .inr (0, [.ref rw3, .int (nI 64), .int 0]) := (hB1.2.2.2 w3 (by rw [hT_w3]; simp)).trans hF_248
            have hF_282 : F_262 rw3 = .inl (cs 16, 64, .inl fs_97) := (hB1.2.2.2 rw3 (by rw [ht_66]; simp)).trans hF_249
            have hF_283 : F_262 w0 = .inr (0, [.ref rw0, .int (nI y2_167), .int 0]) := (hB1.2.2.2 w0 (by rw [hT_w0]; simp)).trans hF_250
            have hF_284 : F_262 rw0 = .inl (cs 16, 60, .inl f2_169) := (hB1.2.2.2 rw0 (by rw [ht_57]; simp)).trans hF_251
            have hF_285 : F_262 w4 = .inr (0, [.ref rw4, .int (nI 64), .int 0]) := (hB1.2.2.2 w4 (by rw [hT_w4]; simp)).trans hF_252
            have hF_286 : F_262 rw4 = .inl (cs 16, 64, .inl fM_202) := (hB1.2.2.2 rw4 (by rw [ht_69]; simp)).trans hF_253
            generalize H1 = H at hP hS ⊢
            obtain ⟨f_287, hF_288⟩ := hO.ints hi_80 ht_81
            refine lv_aload_n hx hb dX7_judge_118 rfl (lv_at hl 1 rfl) ?_
            refine lv_aload_n hx hb dX7_judge_119 rfl (lv_at hl 2 rfl) ?_
            have hFc := pg_free hD hS hA
            refine va_callv (va_runV (As := [.ref mg]) (rest := []) ⟨hx, hb, hml, hown, hts⟩ (s_X7_addListed_e l dC dI cs ty L H.size F_262 h0 ρ d δ ea sl sx sy0 sy1 sy2 ke kx ky0 ky1 ky2 w0 w1 w2 w3 w4 w5 w6 w7 w8 tk hs ha hbb hcc pw px py pz pu rsx ((flI (TC fm zm) ((gc jf) + 1) ((gd jf) - ((gc jf) + 1))).length) gg_89.1 fc_95 p0_92 p1_93 p2_94 gg_89.2 u0_98 u1_99 mg μ mx m0 m1 m2 rm zm nn rw8 fm e0 e1 e2 f_287 (nI bs) gb gc gd hW hL_h0 hT_h0 hL_sx hT_sx hL_w8 hT_w8 hL_mg hT_mg hL_mx hT_mx hF_278 hF_272 hF_273 hF_274 hF_275 hF_276 hF_277 (hti3) (hti2) (hHL) (hti1) hF_264 hF_266 hF_267 hF_268 hF_269 (by omega) (by omega) (hpos) (hord) hF_265 hq_263 hF_288 (hsw.2.2.2.2.2.2.1.1) (hmu)) ⟨callB_of 1 hts (gi kt_444) rfl rfl rfl (hts _ kt_322) (hts _ kt_445) (by decide +kernel) ⟨Nat.le_of_ble_eq_true rfl, Nat.le_of_ble_eq_true rfl⟩, (hts _ kt_446), (hts _ kt_447)⟩ ⟨fun a U g mk q => ⟨q.1, PTE.calling q.2⟩, pg_recv hK hP hL_h0 hF_278 (q := (RX7, TX7, 17)) rfl, fun U hU hWm => ⟨rfl, PTE.mk hU hWm hP hK hD hE hO hG (fun x hx => absurd hx List.not_mem_nil) hS hFc⟩⟩ rfl rfl hl.1 rfl (lv_room (Nat.le_of_ble_eq_true rfl)) dX7_judge_120 ⟨by show _ + 0 ≤ 0; omega, by show _ + 0 ≤ 0; omega⟩) hS (fun q _ h => hFc q h) hFc (fun u t H1 locs ht hvm hw hB hz1 hk1 hS => ?_)
            obtain ⟨F_290, fo2_291, hB1, hq_292, hq_293, hq_294, hq_295⟩ := hB
            obtain ⟨hP, hD, hO, hR⟩ := QT.back hB1 ht hFc hR (fun q h => by simp only [List.mem_cons, List.not_mem_nil, or_false] at h ⊢; omega)
            have hF_296 : F_290 mg = .inr (4, [.ref mx, .ref m0, .ref m1, .ref m2, .int (nI nn), .int (nI bs)]) := (hB1.2.2.2 mg (by rw [hT_mg]; simp only [List.mem_cons, List.not_mem_nil, or_false]; omega)).trans hF_264
            have hF_297 : F_290 mx = .inr (0, [.ref rm, .int (nI zm), .int 0]) := (hB1.2.2.2 mx (by rw [hT_mx]; simp only [List.mem_cons, List.not_mem_nil, or_false]; omega)).trans hF_265
            have hF_298 : F_290 rm = .inl (cs 16, 3000, .inl fm) := (hB1.2.2.2 rm (by rw [ht_38]; simp only [List.mem_cons, List.not_mem_nil, or_false]; omega)).trans hF_266
            have hF_299 : F_290 m0 = .inl (cs 16, 20, .inl e0) := (hB1.2.2.2 m0 (by rw [ht_34]; simp only [List.mem_cons, List.not_mem_nil, or_false]; omega)).trans hF_267
            have hF_300 : F_290 m1 = .inl (cs 16, 20, .inl e1) := (hB1.2.2.2 m1 (by rw [ht_35]; simp only [List.mem_cons, List.not_mem_nil, or_false]; omega)).trans hF_268
            have hF_301 : F_290 m2 = .inl (cs 16, 20, .inl e2) := (hB1.2.2.2 m2 (by rw [ht_36]; simp only [List.mem_cons, List.not_mem_nil, or_false]; omega)).trans hF_269
            have hF_302 : F_290 d = .inr (2, [.ref ea, .int (nI cn)]) := (hB1.2.2.2 d (by rw [ht_2]; simp only [List.mem_cons, List.not_mem_nil, or_false]; omega)).trans hF_270
            have hF_303 : F_290 ea = .inl (cs 21, 40, .inr (.inr (.inr (.inr f_83)))) := (hB1.2.2.2 ea (by rw [ht_41]; simp only [List.mem_cons, List.not_mem_nil, or_false]; omega)).trans hF_271
            have hF_304 : F_290 sl = .inr (9, [.ref sx, .ref sy0, .ref sy1, .ref sy2, .int (nI gg_89.1)]) := (hB1.2.2.2 sl (by rw [ht_4]; simp)).trans hF_272
            have hF_305 : F_290 sx = .inr (0, [.ref rsx, .int (nI (flI (TC fm zm) ((gc jf) + 1) ((gd jf) - ((gc jf) + 1))).length), .int 0]) := (hB1.2.2.2 sx (by rw [hT_sx]; simp)).trans hF_273
            have hF_306 : F_290 rsx = .inl (cs 16, 3000, .inl fc_95) := (hB1.2.2.2 rsx (by rw [ht_20]; simp)).trans hF_274
            have hF_307 : F_290 sy0 = .inl (cs 16, 40, .inl p0_92) := (hB1.2.2.2 sy0 (by rw [ht_16]; simp)).trans hF_275
            have hF_308 : F_290 sy1 = .inl (cs 16, 40, .inl p1_93) := (hB1.2.2.2 sy1 (by rw [ht_17]; simp)).trans hF_276
            have hF_309 : F_290 sy2 = .inl (cs 16, 40, .inl p2_94) := (hB1.2.2.2 sy2 (by rw [ht_18]; simp)).trans hF_277
            have hF_310 : F_290 h0 = .inr (7, [.ref d, .ref sl, .ref ke, .ref w0, .ref w1, .ref w2, .ref w3, .ref w4, .ref w5, .ref w6, .ref w7, .ref w8, .ref tk, .ref hs, .ref pw, .int u0_98, .int u1_99]) := (hB1.2.2.2 h0 (by rw [hT_h0]; simp)).trans hF_278
            have hF_311 : F_290 w2 = .inr (0, [.ref rw2, .int (nI 32), .int 0]) := (hB1.2.2.2 w2 (by rw [hT_w2]; simp)).trans hF_279
            have hF_312 : F_290 rw2 = .inl (cs 16, 32, .inl fb_96) := (hB1.2.2.2 rw2 (by rw [ht_63]; simp)).trans hF_280
            have hF_313 : F_290 w3 = .inr (0, [.ref rw3, .int (nI 64), .int 0]) := (hB1.2.2.2 w3 (by rw [hT_w3]; simp)).trans hF_281
            have hF_314 : F_290 rw3 = .inl (cs 16, 64, .inl fs_97) := (hB1.2.2.2 rw3 (by rw [ht_66]; simp)).trans hF_282
            have hF_315 : F_290 w0 = .inr (0, [.ref rw0, .int (nI y2_167), .int 0]) := (hB1.2.2.2 w0 (by rw [hT_w0]; simp)).trans hF_283
            have hF_316 : F_290 rw0 = .inl (cs 16, 60, .inl f2_169) := (hB1.2.2.2 rw0 (by rw [ht_57]; simp)).trans hF_284
            have hF_317 : F_290 w4 = .inr (0, [.ref rw4, .int (nI 64), .int 0]) := (hB1.2.2.2 w4 (by rw [hT_w4]; simp)).trans hF_285
            have hF_318 : F_290 rw4 = .inl (cs 16, 64, .inl fM_202) := (hB1.2.2.2 rw4 (by rw [ht_69]; simp)).trans hF_286
            generalize H1 = H at hP hS ⊢
            have hAL := hq_295
            refine lv_aload_n hx hb dX7_judge_123 rfl (lv_at hl 1 rfl) ?_
            refine lv_aload_n hx hb dX7_judge_124 rfl (lv_at hl 2 rfl) ?_
            refine lv_iload_n hx hb dX7_judge_125 rfl (lv_at hl 3 rfl) ?_
            have hFc := pg_free hD hS hA
            refine va_callv (va_runV (As := [.ref mg, .int (nI jf)]) (rest := []) ⟨hx, hb, hml, hown, hts⟩ (s_X7_addOwn_e l dC dI cs ty L H.size F_290 h0 ρ d δ ea sl sx sy0 sy1 sy2 ke kx ky0 ky1 ky2 w0 w1 w2 w3 w4 w5 w6 w7 w8 tk hs ha hbb hcc pw px py pz pu u0_98 u1_99 mg μ mx m0 m1 m2 rm zm nn fm e0 e1 e2 (nI bs) gb gc gd rw8 jf os oe fo2_291 ((adl (clf fm) (TC fm zm) (TC fc_95 (flI (TC fm zm) (gc jf + 1) (gd jf - (gc jf + 1))).length) gb gc gd nn u0_98 (hsG (TC fc_95 (flI (TC fm zm) (gc jf + 1) (gd jf - (gc jf + 1))).length) (tgA gg_89.2 (tgR (TC fc_95 (flI (TC fm zm) (gc jf + 1) (gd jf - (gc jf + 1))).length) gg_89.2 [104] gg_89.1)) (tgB gg_89.2 (tgR (TC fc_95 (flI (TC fm zm) (gc jf + 1) (gd jf - (gc jf + 1))).length) gg_89.2 [104] gg_89.1)))).2) hW hL_h0 hT_h0 hL_w8 hT_w8 hL_mg hT_mg hL_mx hT_mx hF_310 hF_296 hF_297 hF_298 hF_299 hF_300 hF_301 (by omega) (by omega) (hpos) hq_292 hq_293 (hq_294) (hjf) (how1) (how2) (by omega) (hmu)) ⟨callB_of 2 hts (gi kt_448) rfl rfl rfl (hts _ kt_322) (hts _ kt_449) (by decide +kernel) ⟨Nat.le_of_ble_eq_true rfl, Nat.le_of_ble_eq_true rfl⟩, (hts _ kt_450), (hts _ kt_451)⟩ ⟨fun a U g mk q => ⟨q.1, PT.calling q.2⟩, pg_recv hK hP hL_h0 hF_310 (q := (RX7, TX7, 17)) rfl, fun U hU hWm => ⟨rfl, PT.mk hU hWm hP hK hD hE hO⟩⟩ rfl rfl hl.1 rfl (lv_room (Nat.le_of_ble_eq_true rfl)) dX7_judge_126 ⟨by show _ + 0 ≤ 0; omega, by show _ + 0 ≤ 0; omega⟩) hS (fun q _ h => hFc q h) hFc (fun u t H1 locs ht hvm hw hB hz1 hk1 hS => ?_)
            obtain ⟨F_320, fo2_321, hB1, hq_322, hq_323, hq_324⟩ := hB
            obtain ⟨hP, hD, hO, hR⟩ := QT.back hB1 ht hFc hR (fun q h => by simp only [List.mem_cons, List.not_mem_nil, or_false] at h ⊢; omega)
            have hF_325 : F_320 mg = .inr (4, [.ref mx, .ref m0, .ref m1, .ref m2, .int (nI nn), .int (nI bs)]) := (hB1.2.2.2 mg (by rw [hT_mg]; simp only [List.mem_cons, List.not_mem_nil, or_false]; omega)).trans hF_296
            have hF_326 : F_320 mx = .inr (0, [.ref rm, .int (nI zm), .int 0]) := (hB1.2.2.2 mx (by rw [hT_mx]; simp only [List.mem_cons, List.not_mem_nil, or_false]; omega)).trans hF_297
            have hF_327 : F_320 rm = .inl (cs 16, 3000, .inl fm) := (hB1.2.2.2 rm (by rw [ht_38]; simp only [List.mem_cons, List.not_mem_nil, or_false]; omega)).trans hF_298
            have hF_328 : F_320 m0 = .inl (cs 16, 20, .inl e0) := (hB1.2.2.2 m0 (by rw [ht_34]; simp only [List.mem_cons, List.not_mem_nil, or_false]; omega)).trans hF_299
            have hF_329 : F_320 m1 = .inl (cs 16, 20, .inl e1) := (hB1.2.2.2 m1 (by rw [ht_35]; simp only [List.mem_cons, List.not_mem_nil, or_false]; omega)).trans hF_300
            have hF_330 : F_320 m2 = .inl (cs 16, 20, .inl e2) := (hB1.2.2.2 m2 (by rw [ht_36]; simp only [List.mem_cons, List.not_mem_nil, or_false]; omega)).trans hF_301
            have hF_331 : F_320 d = .inr (2, [.ref ea, .int (nI cn)]) := (hB1.2.2.2 d (by rw [ht_2]; simp only [List.mem_cons, List.not_mem_nil, or_false]; omega)).trans hF_302
            have hF_332 : F_320 ea = .inl (cs 21, 40, .inr (.inr (.inr (.inr f_83)))) := (hB1.2.2.2 ea (by rw [ht_41]; simp only [List.mem_cons, List.not_mem_nil, or_false]; omega)).trans hF_303
            have hF_333 : F_320 sl = .inr (9, [.ref sx, .ref sy0, .ref sy1, .ref sy2, .int (nI gg_89.1)]) := (hB1.2.2.2 sl (by rw [ht_4]; simp)).trans hF_304
            have hF_334 : F_320 sx = .inr (0, [.ref rsx, .int (nI (flI (TC fm zm) ((gc jf) + 1) ((gd jf) - ((gc jf) + 1))).length), .int 0]) := (hB1.2.2.2 sx (by rw [hT_sx]; simp)).trans hF_305
            have hF_335 : F_320 rsx = .inl (cs 16, 3000, .inl fc_95) := (hB1.2.2.2 rsx (by rw [ht_20]; simp)).trans hF_306
            have hF_336 : F_320 sy0 = .inl (cs 16, 40, .inl p0_92) := (hB1.2.2.2 sy0 (by rw [ht_16]; simp)).trans hF_307
            have hF_337 : F_320 sy1 = .inl (cs 16, 40, .inl p1_93) := (hB1.2.2.2 sy1 (by rw [ht_17]; simp)).trans hF_308
            have hF_338 : F_320 sy2 = .inl (cs 16, 40, .inl p2_94) := (hB1.2.2.2 sy2 (by rw [ht_18]; simp)).trans hF_309
            have hF_339 : F_320 h0 = .inr (7, [.ref d, .ref sl, .ref ke, .ref w0, .ref w1, .ref w2, .ref w3, .ref w4, .ref w5, .ref w6, .ref w7, .ref w8, .ref tk, .ref hs, .ref pw, .int u0_98, .int u1_99]) := (hB1.2.2.2 h0 (by rw [hT_h0]; simp)).trans hF_310
            have hF_340 : F_320 w2 = .inr (0, [.ref rw2, .int (nI 32), .int 0]) := (hB1.2.2.2 w2 (by rw [hT_w2]; simp)).trans hF_311
            have hF_341 : F_320 rw2 = .inl (cs 16, 32, .inl fb_96) := (hB1.2.2.2 rw2 (by rw [ht_63]; simp)).trans hF_312
            have hF_342 : F_320 w3 = .inr (0, [.ref rw3, .int (nI 64), .int 0]) := (hB1.2.2.2 w3 (by rw [hT_w3]; simp)).trans hF_313
            have hF_343 : F_320 rw3 = .inl (cs 16, 64, .inl fs_97) := (hB1.2.2.2 rw3 (by rw [ht_66]; simp)).trans hF_314
            have hF_344 : F_320 w0 = .inr (0, [.ref rw0, .int (nI y2_167), .int 0]) := (hB1.2.2.2 w0 (by rw [hT_w0]; simp)).trans hF_315
            have hF_345 : F_320 rw0 = .inl (cs 16, 60, .inl f2_169) := (hB1.2.2.2 rw0 (by rw [ht_57]; simp)).trans hF_316
            have hF_346 : F_320 w4 = .inr (0, [.ref rw4, .int (nI 64), .int 0]) := (hB1.2.2.2 w4 (by rw [hT_w4]; simp)).trans hF_317
            have hF_347 : F_320 rw4 = .inl (cs 16, 64, .inl fM_202) := (hB1.2.2.2 rw4 (by rw [ht_69]; simp)).trans hF_318
            generalize H1 = H at hP hS ⊢
            have hF_348 : F_320 w8 = .inr (0, [.ref rw8, .int (nI (wkL (clf fm) (TC fm zm) (TC fc_95 (flI (TC fm zm) (gc jf + 1) (gd jf - (gc jf + 1))).length) gb gc gd nn jf gg_89.2 gg_89.1 os oe).length), .int 0]) := by have h9 := hq_322; rw [hu0] at h9; exact h9
            have hOUW : OUTS fm fo2_321 (wkL (clf fm) (TC fm zm) (TC fc_95 (flI (TC fm zm) (gc jf + 1) (gd jf - (gc jf + 1))).length) gb gc gd nn jf gg_89.2 gg_89.1 os oe) := by have h9 := hq_324; rw [hu0] at h9; exact h9
            have hWKl : (wkL (clf fm) (TC fm zm) (TC fc_95 (flI (TC fm zm) (gc jf + 1) (gd jf - (gc jf + 1))).length) gb gc gd nn jf gg_89.2 gg_89.1 os oe).length ≤ 6100 := by have h9 := FPW_len (T := clf fm) (x := frx (TC fc_95 (flI (TC fm zm) (gc jf + 1) (gd jf - (gc jf + 1))).length) gg_89.2 gg_89.1) q3 q4 (Or.inr ⟨show gc jf < os by omega, how2, how4⟩); have h8 := hAL; rw [hu0] at h8; show ((adl _ _ _ _ _ _ _ _ _).2 ++ _).length ≤ 6100; rw [List.length_append]; omega
            refine lv_aload_n hx hb dX7_judge_129 rfl (lv_at hl 1 rfl) ?_
            have hFc := pg_free hD hS hA
            refine va_calli (va_runV (As := []) (rest := []) ⟨hx, hb, hml, hown, hts⟩ (s_X7_isSigned_e l dC dI cs ty L H.size F_320 h0 ρ d δ ea sl sx sy0 sy1 sy2 ke kx ky0 ky1 ky2 w0 w1 w2 w3 w4 w5 w6 w7 w8 tk hs ha hbb hcc pw px py pz pu rw3 rw4 rw5 rw6 rw7 rw8 ((wkL (clf fm) (TC fm zm) (TC fc_95 (flI (TC fm zm) (gc jf + 1) (gd jf - (gc jf + 1))).length) gb gc gd nn jf gg_89.2 gg_89.1 os oe).length) fs_97 fM_202 fo2_321 (sgB (TC fc_95 (flI (TC fm zm) (gc jf + 1) (gd jf - (gc jf + 1))).length) gg_89.2 gg_89.1) (kyM (D gk_199)) hW hL_h0 hT_h0 hL_w3 hT_w3 hL_w4 hT_w4 hL_w5 hT_w5 hL_w6 hT_w6 hL_w7 hT_w7 hL_w8 hT_w8 hF_342 hF_343 (hw3c) hF_346 hF_347 (hM3) (hkm1) (hkm0) hF_348 hq_323 (hWKl)) ⟨callB_of 0 hts (gi kt_452) rfl rfl rfl (hts _ kt_322) (hts _ kt_453) (by decide +kernel) ⟨Nat.le_of_ble_eq_true rfl, Nat.le_of_ble_eq_true rfl⟩, (hts _ kt_454), (hts _ kt_455)⟩ ⟨fun a U g mk q => ⟨q.1, PTE.calling q.2⟩, pg_recv hK hP hL_h0 hF_339 (q := (RX7, TX7, 17)) rfl, fun U hU hWm => ⟨rfl, PTE.mk hU hWm hP hK hD hE hO hG (fun x hx => absurd hx List.not_mem_nil) hS hFc⟩⟩ rfl rfl hl.1 rfl (lv_room (Nat.le_of_ble_eq_true rfl)) dX7_judge_130 ⟨by show _ + 0 ≤ 0; omega, by show _ + 0 ≤ 0; omega⟩) hS (fun q _ h => hFc q h) hFc (fun r_349 u t H1 locs ht hvm hw hB hz1 hk1 hS => ?_)
            obtain ⟨F_350, hB1⟩ := hB
            obtain ⟨hP, hD, hO, hR⟩ := QT.back hB1 ht hFc hR (fun q h => by simp only [List.mem_cons, List.not_mem_nil, or_false] at h ⊢; omega)
            have hF_351 : F_350 mg = .inr (4, [.ref mx, .ref m0, .ref m1, .ref m2, .int (nI nn), .int (nI bs)]) := (hB1.2.2.2 mg (by rw [hT_mg]; simp only [List.mem_cons, List.not_mem_nil, or_false]; omega)).trans hF_325
            have hF_352 : F_350 mx = .inr (0, [.ref rm, .int (nI zm), .int 0]) := (hB1.2.2.2 mx (by rw [hT_mx]; simp only [List.mem_cons, List.not_mem_nil, or_false]; omega)).trans hF_326
            have hF_353 : F_350 rm = .inl (cs 16, 3000, .inl fm) := (hB1.2.2.2 rm (by rw [ht_38]; simp only [List.mem_cons, List.not_mem_nil, or_false]; omega)).trans hF_327
            have hF_354 : F_350 m0 = .inl (cs 16, 20, .inl e0) := (hB1.2.2.2 m0 (by rw [ht_34]; simp only [List.mem_cons, List.not_mem_nil, or_false]; omega)).trans hF_328
            have hF_355 : F_350 m1 = .inl (cs 16, 20, .inl e1) := (hB1.2.2.2 m1 (by rw [ht_35]; simp only [List.mem_cons, List.not_mem_nil, or_false]; omega)).trans hF_329
            have hF_356 : F_350 m2 = .inl (cs 16, 20, .inl e2) := (hB1.2.2.2 m2 (by rw [ht_36]; simp only [List.mem_cons, List.not_mem_nil, or_false]; omega)).trans hF_330
            have hF_357 : F_350 d = .inr (2, [.ref ea, .int (nI cn)]) := (hB1.2.2.2 d (by rw [ht_2]; simp only [List.mem_cons, List.not_mem_nil, or_false]; omega)).trans hF_331
            have hF_358 : F_350 ea = .inl (cs 21, 40, .inr (.inr (.inr (.inr f_83)))) := (hB1.2.2.2 ea (by rw [ht_41]; simp only [List.mem_cons, List.not_mem_nil, or_false]; omega)).trans hF_332
            have hF_359 : F_350 sl = .inr (9, [.ref sx, .ref sy0, .ref sy1, .ref sy2, .int (nI gg_89.1)]) := (hB1.2.2.2 sl (by rw [ht_4]; simp)).trans hF_333
            have hF_360 : F_350 sx = .inr (0, [.ref rsx, .int (nI (flI (TC fm zm) ((gc jf) + 1) ((gd jf) - ((gc jf) + 1))).length), .int 0]) := (hB1.2.2.2 sx (by rw [hT_sx]; simp)).trans hF_334
            have hF_361 : F_350 rsx = .inl (cs 16, 3000, .inl fc_95) := (hB1.2.2.2 rsx (by rw [ht_20]; simp)).trans hF_335
            have hF_362 : F_350 sy0 = .inl (cs 16, 40, .inl p0_92) := (hB1.2.2.2 sy0 (by rw [ht_16]; simp)).trans hF_336
            have hF_363 : F_350 sy1 = .inl (cs 16, 40, .inl p1_93) := (hB1.2.2.2 sy1 (by rw [ht_17]; simp)).trans hF_337
            have hF_364 : F_350 sy2 = .inl (cs 16, 40, .inl p2_94) := (hB1.2.2.2 sy2 (by rw [ht_18]; simp)).trans hF_338
            have hF_365 : F_350 h0 = .inr (7, [.ref d, .ref sl, .ref ke, .ref w0, .ref w1, .ref w2, .ref w3, .ref w4, .ref w5, .ref w6, .ref w7, .ref w8, .ref tk, .ref hs, .ref pw, .int u0_98, .int u1_99]) := (hB1.2.2.2 h0 (by rw [hT_h0]; simp)).trans hF_339
            have hF_366 : F_350 w2 = .inr (0, [.ref rw2, .int (nI 32), .int 0]) := (hB1.2.2.2 w2 (by rw [hT_w2]; simp)).trans hF_340
            have hF_367 : F_350 rw2 = .inl (cs 16, 32, .inl fb_96) := (hB1.2.2.2 rw2 (by rw [ht_63]; simp)).trans hF_341
            have hF_368 : F_350 w3 = .inr (0, [.ref rw3, .int (nI 64), .int 0]) := (hB1.2.2.2 w3 (by rw [hT_w3]; simp)).trans hF_342
            have hF_369 : F_350 rw3 = .inl (cs 16, 64, .inl fs_97) := (hB1.2.2.2 rw3 (by rw [ht_66]; simp)).trans hF_343
            have hF_370 : F_350 w0 = .inr (0, [.ref rw0, .int (nI y2_167), .int 0]) := (hB1.2.2.2 w0 (by rw [hT_w0]; simp)).trans hF_344
            have hF_371 : F_350 rw0 = .inl (cs 16, 60, .inl f2_169) := (hB1.2.2.2 rw0 (by rw [ht_57]; simp)).trans hF_345
            have hF_372 : F_350 w4 = .inr (0, [.ref rw4, .int (nI 64), .int 0]) := (hB1.2.2.2 w4 (by rw [hT_w4]; simp)).trans hF_346
            have hF_373 : F_350 rw4 = .inl (cs 16, 64, .inl fM_202) := (hB1.2.2.2 rw4 (by rw [ht_69]; simp)).trans hF_347
            have hF_374 : F_350 w8 = .inr (0, [.ref rw8, .int (nI (wkL (clf fm) (TC fm zm) (TC fc_95 (flI (TC fm zm) (gc jf + 1) (gd jf - (gc jf + 1))).length) gb gc gd nn jf gg_89.2 gg_89.1 os oe).length), .int 0]) := (hB1.2.2.2 w8 (by rw [hT_w8]; simp)).trans hF_348
            have hF_375 : F_350 rw8 = .inl (cs 16, 6100, .inl fo2_321) := (hB1.2.2.2 rw8 (by rw [ht_81]; simp)).trans hq_323
            generalize H1 = H at hP hS ⊢
            have hw : (r_349 = 1 ∧ SGO (sgB (TC fc_95 (flI (TC fm zm) (gc jf + 1) (gd jf - (gc jf + 1))).length) gg_89.2 gg_89.1) (kyM (D gk_199)) (shN fo2_321 (wkL (clf fm) (TC fm zm) (TC fc_95 (flI (TC fm zm) (gc jf + 1) (gd jf - (gc jf + 1))).length) gb gc gd nn jf gg_89.2 gg_89.1 os oe).length)) ∨ (r_349 = 0 ∧ ¬ SGO (sgB (TC fc_95 (flI (TC fm zm) (gc jf + 1) (gd jf - (gc jf + 1))).length) gg_89.2 gg_89.1) (kyM (D gk_199)) (shN fo2_321 (wkL (clf fm) (TC fm zm) (TC fc_95 (flI (TC fm zm) (gc jf + 1) (gd jf - (gc jf + 1))).length) gb gc gd nn jf gg_89.2 gg_89.1 os oe).length)) := hw
            have hw_376 := hw
            refine lv_if_eq (tgt := 140) hx hb dX7_judge_133 (by decide) (fun c_377 => ?_) (fun c_377 => ?_)
            ·
              refine lv_iconst (v := 3) hx hb dX7_judge_140 (by decide) ?_
              refine W.widen (k := 0) (n := 0) (by omega) (by omega) ?_
              exact W.iret (v := 3) hx hb hr (fun t ht hWm => ⟨⟨3, (), rfl, (Or.inr ⟨hFE, _, hgt, (by rw [← hTC]; exact hsw), (by rw [← hTC]; exact Or.inr ⟨hXP, gk_199, _, hKY, Or.inr ⟨c_226, gB_227.1, gB_227.2, (by rw [← hu1]; exact hBD), Or.inr ⟨hBH, os, oe, _, how1, hOUW, Or.inr ⟨orp0 hw_376 c_377, rfl⟩⟩⟩⟩)⟩), ⟨F_350, QT.mk ht hP hD hO hR, (fun g9 q1 _ _ => by obtain rfl := Option.some.inj (hgt.symm.trans q1); rw [← hTC]; exact ⟨_, _, _, hF_370, hF_371, hsrc, by have h9 := hsrc.1; have h8 : (dmL (TC fc_95 (flI (TC fm zm) (gc jf + 1) (gd jf - (gc jf + 1))).length) gg_89.2 gg_89.1).length ≤ 60 := (by show (rgT _ _ _).length ≤ 60; rw [rgT_len]; omega); omega⟩)⟩⟩, hS.F ht⟩) hS.2.2 dX7_judge_141
            ·
              refine lv_iconst (v := 2) hx hb dX7_judge_136 (by decide) ?_
              refine lv_goto (tgt := 141) hx hb dX7_judge_137 (by decide) ?_
              refine W.widen (k := 0) (n := 0) (by omega) (by omega) ?_
              exact W.iret (v := 2) hx hb hr (fun t ht hWm => ⟨⟨2, (), rfl, (Or.inr ⟨hFE, _, hgt, (by rw [← hTC]; exact hsw), (by rw [← hTC]; exact Or.inr ⟨hXP, gk_199, _, hKY, Or.inr ⟨c_226, gB_227.1, gB_227.2, (by rw [← hu1]; exact hBD), Or.inr ⟨hBH, os, oe, _, how1, hOUW, Or.inl ⟨orp1 hw_376 c_377, rfl⟩⟩⟩⟩)⟩), ⟨F_350, QT.mk ht hP hD hO hR, (fun g9 q1 _ _ => by obtain rfl := Option.some.inj (hgt.symm.trans q1); rw [← hTC]; exact ⟨_, _, _, hF_370, hF_371, hsrc, by have h9 := hsrc.1; have h8 : (dmL (TC fc_95 (flI (TC fm zm) (gc jf + 1) (gd jf - (gc jf + 1))).length) gg_89.2 gg_89.1).length ≤ 60 := (by show (rgT _ _ _).length ≤ 60; rw [rgT_len]; omega); omega⟩)⟩⟩, hS.F ht⟩) hS.2.2 dX7_judge_141
          ·
            have hBH : ¬ BHO (TC fc_95 (flI (TC fm zm) (gc jf + 1) (gd jf - (gc jf + 1))).length) gg_89.2 gg_89.1 gB_227.1 gB_227.2 := orp0 hBR c_255
            refine lv_iconst (v := 3) hx hb dX7_judge_109 (by decide) ?_
            refine W.widen (k := 0) (n := 0) (by omega) (by omega) ?_
            exact W.iret (v := 3) hx hb hr (fun t ht hWm => ⟨⟨3, (), rfl, (Or.inr ⟨hFE, _, hgt, (by rw [← hTC]; exact hsw), (by rw [← hTC]; exact Or.inr ⟨hXP, gk_199, _, hKY, Or.inr ⟨c_226, gB_227.1, gB_227.2, (by rw [← hu1]; exact hBD), Or.inl ⟨hBH, rfl⟩⟩⟩)⟩), ⟨F_229, QT.mk ht hP hD hO hR, (fun g9 q1 _ _ => by obtain rfl := Option.some.inj (hgt.symm.trans q1); rw [← hTC]; exact ⟨_, _, _, hF_250, hF_251, hsrc, by have h9 := hsrc.1; have h8 : (dmL (TC fc_95 (flI (TC fm zm) (gc jf + 1) (gd jf - (gc jf + 1))).length) gg_89.2 gg_89.1).length ≤ 60 := (by show (rgT _ _ _).length ≤ 60; rw [rgT_len]; omega); omega⟩)⟩⟩, hS.F ht⟩) hS.2.2 dX7_judge_110
        ·
          refine lv_iload hx hb dX7_judge_98 (lv_at hl 0 rfl) ?_
          refine W.widen (k := 0) (n := 0) (by omega) (by omega) ?_
          exact W.iret (v := r_200) hx hb hr (fun t ht hWm => ⟨⟨r_200, (), rfl, (Or.inr ⟨hFE, _, hgt, (by rw [← hTC]; exact hsw), (by rw [← hTC]; exact Or.inr ⟨hXP, gk_199, _, hKY, Or.inl ⟨c_226, rfl⟩⟩)⟩), ⟨F_201, QT.mk ht hP hD hO hR, (fun g9 q1 _ _ => by obtain rfl := Option.some.inj (hgt.symm.trans q1); rw [← hTC]; exact ⟨_, _, _, hF_223, hF_224, hsrc, by have h9 := hsrc.1; have h8 : (dmL (TC fc_95 (flI (TC fm zm) (gc jf + 1) (gd jf - (gc jf + 1))).length) gg_89.2 gg_89.1).length ≤ 60 := (by show (rgT _ _ _).length ≤ 60; rw [rgT_len]; omega); omega⟩)⟩⟩, hS.F ht⟩) hS.2.2 dX7_judge_100
      ·
        refine lv_iload_n hx hb dX7_judge_71 rfl (lv_at hl 3 rfl) ?_
        refine lv_aload_n hx hb dX7_judge_72 rfl (lv_at hl 0 rfl) ?_
        refine pg_get (ci := 7) (v := .ref sl) (C := RX7) (T := TX7) (N := 17) hx hb hts it_7 hown hK hP hL_h0 hF_187 rfl 1 (by decide) (hts _ kt_307) (fun _ h9 => h9) rfl dX7_judge_73 ?_
        refine va_ldcS hx hb hown hr_q_193 dX7_judge_76 ?_
        have hFc := pg_free hD hS hA
        refine va_calli (va_runV (As := [.ref q_193]) (rest := [.int (nI nw)]) ⟨hx, hb, hml, hown, hts⟩ (s_X9_numberAt_e l dC dI cs ty L H.size F_166 sl (ρ + 2) sx 3000 sy0 sy1 sy2 rsx ((flI (TC fm zm) ((gc jf) + 1) ((gd jf) - ((gc jf) + 1))).length) gg_89.1 fc_95 p0_92 p1_93 p2_94 gg_89.2 q_193 v_194 1 (cct [120]) ([120]) hW hi_3 ht_4 hL_sx hT_sx hF_181 hF_182 hF_183 hF_184 hF_185 hF_186 (hti3) (by omega) (hti2) (hHL) (hti1) (⟨rfl, by decide +kernel⟩)) ⟨callB_of 1 hts (gi kt_312) rfl rfl rfl (hts _ kt_164) (hts _ kt_313) (by decide +kernel) ⟨Nat.le_of_ble_eq_true rfl, Nat.le_of_ble_eq_true rfl⟩, (hts _ kt_314), (hts _ kt_315)⟩ ⟨fun a U g mk q => ⟨q.1, PTC.calling q.2⟩, pg_recv hK hP hi_3 hF_181 (q := (RX9, TX9, 5)) rfl, fun U hU hWm => ⟨rfl, PTC.mk hU hWm hP hK hD hE hO hG hXc_q_193 hS hFc⟩⟩ rfl rfl hl.1 rfl (lv_room (Nat.le_of_ble_eq_true rfl)) dX7_judge_78 ⟨by show _ + 0 ≤ 0; omega, by show _ + 0 ≤ 0; omega⟩) hS (fun q _ h => hFc q h) hFc (fun r_378 u t H1 locs ht hvm hw hB hz1 hk1 hS => ?_)
        obtain ⟨F_379, hB1⟩ := hB
        obtain rfl : F_166 = F_379 := (funext (fun a => hB1.2.2.2 a List.not_mem_nil)).symm
        obtain ⟨hP, hD, hO, hR⟩ := QT.back hB1 ht hFc hR (fun q h => absurd h List.not_mem_nil)
        generalize H1 = H at hP hS ⊢
        have hw : r_378 = nbv (tgM (TC fc_95 (flI (TC fm zm) ((gc jf) + 1) ((gd jf) - ((gc jf) + 1))).length) gg_89.2 (tgR (TC fc_95 (flI (TC fm zm) ((gc jf) + 1) ((gd jf) - ((gc jf) + 1))).length) gg_89.2 [120] gg_89.1)) := hw
        have hw_380 := hw
        obtain ⟨xw, hxw1, hxw2⟩ := nom_s hsw.2.2.2.2.2.2.2.2.2 (orp1 hw_197 c_198)
        have hxw3 : r_378 = nI xw := by rw [hw_380, hxw1]; rfl
        subst hxw3
        refine lv_icmp_le (tgt := 86) hx hb dX7_judge_81 (by decide) (fun c_381 => ?_) (fun c_381 => ?_)
        ·
          have hXP : ¬ XPD (TC fc_95 (flI (TC fm zm) (gc jf + 1) (gd jf - (gc jf + 1))).length) gg_89.2 gg_89.1 nw := fun q => by obtain ⟨w, w1, w2⟩ := q; obtain rfl := Option.some.inj (hxw1.symm.trans w1); have h9 : nw ≤ xw := (nI_leI (by omega) (by omega)).mp c_381; omega
          have hDI2 := DIRC.fr hDI hO0 hW hi_40 ht_41 hcnn hR (hF_180.trans he0.symm) (fun k hk => by simp only [List.mem_cons, List.not_mem_nil, or_false]; omega)
          have hTX1 : TXE cs F_166 w0 60 (dmL (TC fc_95 (flI (TC fm zm) (gc jf + 1) (gd jf - (gc jf + 1))).length) gg_89.2 gg_89.1) := ⟨_, _, _, hF_192, hq_171, hsrc, by have h9 := hsrc.1; have h8 : (dmL (TC fc_95 (flI (TC fm zm) (gc jf + 1) (gd jf - (gc jf + 1))).length) gg_89.2 gg_89.1).length ≤ 60 := (by show (rgT _ _ _).length ≤ 60; rw [rgT_len]; omega); omega⟩
          refine lv_aload_n hx hb dX7_judge_86 rfl (lv_at hl 0 rfl) ?_
          have hFc := pg_free hD hS hA
          refine va_calli (va_runV (As := []) (rest := []) ⟨hx, hb, hml, hown, hts⟩ (s_X7_readKey_e l dC dI cs ty L H.size F_166 h0 ρ d δ ea sl sx sy0 sy1 sy2 ke kx ky0 ky1 ky2 w0 w1 w2 w3 w4 w5 w6 w7 w8 tk hs ha hbb hcc pw px py pz pu rsx ((flI (TC fm zm) ((gc jf) + 1) ((gd jf) - ((gc jf) + 1))).length) gg_89.1 fc_95 p0_92 p1_93 p2_94 gg_89.2 u0_98 u1_99 rw0 rw1 rw4 rkx cn (dmL (TC fc_95 (flI (TC fm zm) (gc jf + 1) (gd jf - (gc jf + 1))).length) gg_89.2 gg_89.1) D hW hL_h0 hT_h0 hL_sx hT_sx hL_w0 hT_w0 hL_w1 hT_w1 hL_w4 hT_w4 hL_kx hT_kx hF_187 hF_181 hF_182 hF_183 hF_184 hF_185 hF_186 (hti3) (hti2) (hHL) (hti1) (hsw.2.2.2.1) (hTX1) hF_179 (hcnn) (hDI2) (hdl)) ⟨callB_of 0 hts (gi kt_436) rfl rfl rfl (hts _ kt_322) (hts _ kt_437) (by decide +kernel) ⟨Nat.le_of_ble_eq_true rfl, Nat.le_of_ble_eq_true rfl⟩, (hts _ kt_438), (hts _ kt_439)⟩ ⟨fun a U g mk q => ⟨q.1, PTE.calling q.2⟩, pg_recv hK hP hL_h0 hF_187 (q := (RX7, TX7, 17)) rfl, fun U hU hWm => ⟨rfl, PTE.mk hU hWm hP hK hD hE hO hG (fun x hx => absurd hx List.not_mem_nil) hS hFc⟩⟩ rfl rfl hl.1 rfl (lv_room (Nat.le_of_ble_eq_true rfl)) dX7_judge_87 ⟨by show _ + 0 ≤ 0; omega, by show _ + 0 ≤ 0; omega⟩) hS (fun q _ h => hFc q h) hFc (fun r_384 gk_383 t H1 locs ht hvm hw hB hz1 hk1 hS => ?_)
          obtain ⟨F_385, fM_386, hB1, hq_387⟩ := hB
          obtain ⟨hP, hD, hO, hR⟩ := QT.back hB1 ht hFc hR (fun q h => by simp only [List.mem_cons, List.not_mem_nil, or_false] at h ⊢; omega)
          have hF_388 : F_385 mg = .inr (4, [.ref mx, .ref m0, .ref m1, .ref m2, .int (nI nn), .int (nI bs)]) := (hB1.2.2.2 mg (by rw [hT_mg]; simp only [List.mem_cons, List.not_mem_nil, or_false]; omega)).trans hF_173
          have hF_389 : F_385 mx = .inr (0, [.ref rm, .int (nI zm), .int 0]) := (hB1.2.2.2 mx (by rw [hT_mx]; simp only [List.mem_cons, List.not_mem_nil, or_false]; omega)).trans hF_174
          have hF_390 : F_385 rm = .inl (cs 16, 3000, .inl fm) := (hB1.2.2.2 rm (by rw [ht_38]; simp only [List.mem_cons, List.not_mem_nil, or_false]; omega)).trans hF_175
          have hF_391 : F_385 m0 = .inl (cs 16, 20, .inl e0) := (hB1.2.2.2 m0 (by rw [ht_34]; simp only [List.mem_cons, List.not_mem_nil, or_false]; omega)).trans hF_176
          have hF_392 : F_385 m1 = .inl (cs 16, 20, .inl e1) := (hB1.2.2.2 m1 (by rw [ht_35]; simp only [List.mem_cons, List.not_mem_nil, or_false]; omega)).trans hF_177
          have hF_393 : F_385 m2 = .inl (cs 16, 20, .inl e2) := (hB1.2.2.2 m2 (by rw [ht_36]; simp only [List.mem_cons, List.not_mem_nil, or_false]; omega)).trans hF_178
          have hF_394 : F_385 d = .inr (2, [.ref ea, .int (nI cn)]) := (hB1.2.2.2 d (by rw [ht_2]; simp only [List.mem_cons, List.not_mem_nil, or_false]; omega)).trans hF_179
          have hF_395 : F_385 ea = .inl (cs 21, 40, .inr (.inr (.inr (.inr f_83)))) := (hB1.2.2.2 ea (by rw [ht_41]; simp only [List.mem_cons, List.not_mem_nil, or_false]; omega)).trans hF_180
          have hF_396 : F_385 sl = .inr (9, [.ref sx, .ref sy0, .ref sy1, .ref sy2, .int (nI gg_89.1)]) := (hB1.2.2.2 sl (by rw [ht_4]; simp)).trans hF_181
          have hF_397 : F_385 sx = .inr (0, [.ref rsx, .int (nI (flI (TC fm zm) ((gc jf) + 1) ((gd jf) - ((gc jf) + 1))).length), .int 0]) := (hB1.2.2.2 sx (by rw [hT_sx]; simp)).trans hF_182
          have hF_398 : F_385 rsx = .inl (cs 16, 3000, .inl fc_95) := (hB1.2.2.2 rsx (by rw [ht_20]; simp)).trans hF_183
          have hF_399 : F_385 sy0 = .inl (cs 16, 40, .inl p0_92) := (hB1.2.2.2 sy0 (by rw [ht_16]; simp)).trans hF_184
          have hF_400 : F_385 sy1 = .inl (cs 16, 40, .inl p1_93) := (hB1.2.2.2 sy1 (by rw [ht_17]; simp)).trans hF_185
          have hF_401 : F_385 sy2 = .inl (cs 16, 40, .inl p2_94) := (hB1.2.2.2 sy2 (by rw [ht_18]; simp)).trans hF_186
          have hF_402 : F_385 h0 = .inr (7, [.ref d, .ref sl, .ref ke, .ref w0, .ref w1, .ref w2, .ref w3, .ref w4, .ref w5, .ref w6, .ref w7, .ref w8, .ref tk, .ref hs, .ref pw, .int u0_98, .int u1_99]) := (hB1.2.2.2 h0 (by rw [hT_h0]; simp)).trans hF_187
          have hF_403 : F_385 w2 = .inr (0, [.ref rw2, .int (nI 32), .int 0]) := (hB1.2.2.2 w2 (by rw [hT_w2]; simp)).trans hF_188
          have hF_404 : F_385 rw2 = .inl (cs 16, 32, .inl fb_96) := (hB1.2.2.2 rw2 (by rw [ht_63]; simp)).trans hF_189
          have hF_405 : F_385 w3 = .inr (0, [.ref rw3, .int (nI 64), .int 0]) := (hB1.2.2.2 w3 (by rw [hT_w3]; simp)).trans hF_190
          have hF_406 : F_385 rw3 = .inl (cs 16, 64, .inl fs_97) := (hB1.2.2.2 rw3 (by rw [ht_66]; simp)).trans hF_191
          have hF_407 : F_385 w0 = .inr (0, [.ref rw0, .int (nI y2_167), .int 0]) := (hB1.2.2.2 w0 (by rw [hT_w0]; simp)).trans hF_192
          have hF_408 : F_385 rw0 = .inl (cs 16, 60, .inl f2_169) := (hB1.2.2.2 rw0 (by rw [ht_57]; simp)).trans hq_171
          generalize H1 = H at hP hS ⊢
          have hw : KYX D cn (rgT (TC fc_95 (flI (TC fm zm) ((gc jf) + 1) ((gd jf) - ((gc jf) + 1))).length) (tgA gg_89.2 (tgR (TC fc_95 (flI (TC fm zm) ((gc jf) + 1) ((gd jf) - ((gc jf) + 1))).length) gg_89.2 [115] gg_89.1)) ((tgB gg_89.2 (tgR (TC fc_95 (flI (TC fm zm) ((gc jf) + 1) ((gd jf) - ((gc jf) + 1))).length) gg_89.2 [115] gg_89.1)) - (tgA gg_89.2 (tgR (TC fc_95 (flI (TC fm zm) ((gc jf) + 1) ((gd jf) - ((gc jf) + 1))).length) gg_89.2 [115] gg_89.1))) ++ [46, 95, 100, 111, 109, 97, 105, 110, 107, 101, 121, 46] ++ rgL (dmL (TC fc_95 (flI (TC fm zm) (gc jf + 1) (gd jf - (gc jf + 1))).length) gg_89.2 gg_89.1) 0 ((dmL (TC fc_95 (flI (TC fm zm) (gc jf + 1) (gd jf - (gc jf + 1))).length) gg_89.2 gg_89.1).length - 0)) gk_383 r_384 := hw
          have hw_409 := hw
          have hKY : KYX D cn (uK (TC fc_95 (flI (TC fm zm) (gc jf + 1) (gd jf - (gc jf + 1))).length) gg_89.2 gg_89.1) gk_383 r_384 := hw_409
          have hKM := hq_387
          refine lv_istore (lv' := [(4, .int r_384), (0, .ref h0), (1, .ref mg), (2, .int (nI jf)), (3, .int (nI nw))]) hx hb dX7_judge_90 hl (by decide) rfl (fun ls hl => ?_)
          refine lv_iload hx hb dX7_judge_92 (lv_at hl 0 rfl) ?_
          refine lv_iconst (v := 2) hx hb dX7_judge_94 (by decide) ?_
          refine lv_icmp_eq (tgt := 101) hx hb dX7_judge_95 (by decide) (fun c_410 => ?_) (fun c_410 => ?_)
          ·
            have hKY2 := hKY
            rw [c_410] at hKY2
            obtain ⟨hM1, hM2, hM3⟩ := hKM hKY2
            obtain ⟨hgk, hKO⟩ := kyx_2 hKY2 rfl
            obtain ⟨hkm0, hkm1⟩ : 128 ≤ kyM (D gk_383) 0 ∧ kyM (D gk_383) 63 % 2 = 1 := by obtain ⟨g9, k1, k2⟩ := hKO; rw [kyM_e k1]; exact ⟨k2.2.2.2.1, k2.2.2.2.2⟩
            refine lv_aload_n hx hb dX7_judge_101 rfl (lv_at hl 1 rfl) ?_
            refine lv_aload_n hx hb dX7_judge_102 rfl (lv_at hl 2 rfl) ?_
            have hFc := pg_free hD hS hA
            refine va_calli (va_runV (As := [.ref mg]) (rest := []) ⟨hx, hb, hml, hown, hts⟩ (s_X7_isBodyRight_e l dC dI cs ty L H.size F_385 h0 ρ d δ ea sl sx sy0 sy1 sy2 ke kx ky0 ky1 ky2 w0 w1 w2 w3 w4 w5 w6 w7 w8 tk hs ha hbb hcc pw px py pz pu rsx ((flI (TC fm zm) ((gc jf) + 1) ((gd jf) - ((gc jf) + 1))).length) gg_89.1 fc_95 p0_92 p1_93 p2_94 gg_89.2 u0_98 u1_99 mg μ mx m0 m1 m2 rm zm nn bs rw2 rw5 rw8 fm e0 e1 e2 fb_96 hW hL_h0 hT_h0 hL_sx hT_sx hL_w2 hT_w2 hL_w5 hT_w5 hL_w8 hT_w8 hL_mg hT_mg hL_mx hT_mx hF_402 hF_396 hF_397 hF_398 hF_399 hF_400 hF_401 (hti3) (hti2) (hHL) (hti1) hF_388 hF_390 hF_391 hF_392 hF_393 (by omega) (by omega) hF_389 (hbs) (hmu) (hsw.2.2.2.2.2.2.2.2.1) hF_403 hF_404 (hw2c)) ⟨callB_of 1 hts (gi kt_440) rfl rfl rfl (hts _ kt_322) (hts _ kt_441) (by decide +kernel) ⟨Nat.le_of_ble_eq_true rfl, Nat.le_of_ble_eq_true rfl⟩, (hts _ kt_442), (hts _ kt_443)⟩ ⟨fun a U g mk q => ⟨q.1, PTE.calling q.2⟩, pg_recv hK hP hL_h0 hF_402 (q := (RX7, TX7, 17)) rfl, fun U hU hWm => ⟨rfl, PTE.mk hU hWm hP hK hD hE hO hG (fun x hx => absurd hx List.not_mem_nil) hS hFc⟩⟩ rfl rfl hl.1 rfl (lv_room (Nat.le_of_ble_eq_true rfl)) dX7_judge_103 ⟨by show _ + 0 ≤ 0; omega, by show _ + 0 ≤ 0; omega⟩) hS (fun q _ h => hFc q h) hFc (fun r_412 gB_411 t H1 locs ht hvm hw hB hz1 hk1 hS => ?_)
            obtain ⟨F_413, hB1, hq_414⟩ := hB
            obtain ⟨hP, hD, hO, hR⟩ := QT.back hB1 ht hFc hR (fun q h => by simp only [List.mem_cons, List.not_mem_nil, or_false] at h ⊢; omega)
            have hF_415 : F_413 mg = .inr (4, [.ref mx, .ref m0, .ref m1, .ref m2, .int (nI nn), .int (nI bs)]) := (hB1.2.2.2 mg (by rw [hT_mg]; simp only [List.mem_cons, List.not_mem_nil, or_false]; omega)).trans hF_388
            have hF_416 : F_413 mx = .inr (0, [.ref rm, .int (nI zm), .int 0]) := (hB1.2.2.2 mx (by rw [hT_mx]; simp only [List.mem_cons, List.not_mem_nil, or_false]; omega)).trans hF_389
            have hF_417 : F_413 rm = .inl (cs 16, 3000, .inl fm) := (hB1.2.2.2 rm (by rw [ht_38]; simp only [List.mem_cons, List.not_mem_nil, or_false]; omega)).trans hF_390
            have hF_418 : F_413 m0 = .inl (cs 16, 20, .inl e0) := (hB1.2.2.2 m0 (by rw [ht_34]; simp only [List.mem_cons, List.not_mem_nil, or_false]; omega)).trans hF_391
            have hF_419 : F_413 m1 = .inl (cs 16, 20, .inl e1) := (hB1.2.2.2 m1 (by rw [ht_35]; simp only [List.mem_cons, List.not_mem_nil, or_false]; omega)).trans hF_392
            have hF_420 : F_413 m2 = .inl (cs 16, 20, .inl e2) := (hB1.2.2.2 m2 (by rw [ht_36]; simp only [List.mem_cons, List.not_mem_nil, or_false]; omega)).trans hF_393
            have hF_421 : F_413 d = .inr (2, [.ref ea, .int (nI cn)]) := (hB1.2.2.2 d (by rw [ht_2]; simp only [List.mem_cons, List.not_mem_nil, or_false]; omega)).trans hF_394
            have hF_422 : F_413 ea = .inl (cs 21, 40, .inr (.inr (.inr (.inr f_83)))) := (hB1.2.2.2 ea (by rw [ht_41]; simp only [List.mem_cons, List.not_mem_nil, or_false]; omega)).trans hF_395
            have hF_423 : F_413 sl = .inr (9, [.ref sx, .ref sy0, .ref sy1, .ref sy2, .int (nI gg_89.1)]) := (hB1.2.2.2 sl (by rw [ht_4]; simp)).trans hF_396
            have hF_424 : F_413 sx = .inr (0, [.ref rsx, .int (nI (flI (TC fm zm) ((gc jf) + 1) ((gd jf) - ((gc jf) + 1))).length), .int 0]) := (hB1.2.2.2 sx (by rw [hT_sx]; simp)).trans hF_397
            have hF_425 : F_413 rsx = .inl (cs 16, 3000, .inl fc_95) := (hB1.2.2.2 rsx (by rw [ht_20]; simp)).trans hF_398
            have hF_426 : F_413 sy0 = .inl (cs 16, 40, .inl p0_92) := (hB1.2.2.2 sy0 (by rw [ht_16]; simp)).trans hF_399
            have hF_427 : F_413 sy1 = .inl (cs 16, 40, .inl p1_93) := (hB1.2.2.2 sy1 (by rw [ht_17]; simp)).trans hF_400
            have hF_428 : F_413 sy2 = .inl (cs 16, 40, .inl p2_94) := (hB1.2.2.2 sy2 (by rw [ht_18]; simp)).trans hF_401
            have hF_429 : F_413 h0 = .inr (7, [.ref d, .ref sl, .ref ke, .ref w0, .ref w1, .ref w2, .ref w3, .ref w4, .ref w5, .ref w6, .ref w7, .ref w8, .ref tk, .ref hs, .ref pw, .int u0_98, .int u1_99]) := (hB1.2.2.2 h0 (by rw [hT_h0]; simp)).trans hF_402
            have hF_430 : F_413 w2 = .inr (0, [.ref rw2, .int (nI 32), .int 0]) := (hB1.2.2.2 w2 (by rw [hT_w2]; simp)).trans hF_403
            have hF_431 : F_413 rw2 = .inl (cs 16, 32, .inl fb_96) := (hB1.2.2.2 rw2 (by rw [ht_63]; simp)).trans hF_404
            have hF_432 : F_413 w3 = .inr (0, [.ref rw3, .int (nI 64), .int 0]) := (hB1.2.2.2 w3 (by rw [hT_w3]; simp)).trans hF_405
            have hF_433 : F_413 rw3 = .inl (cs 16, 64, .inl fs_97) := (hB1.2.2.2 rw3 (by rw [ht_66]; simp)).trans hF_406
            have hF_434 : F_413 w0 = .inr (0, [.ref rw0, .int (nI y2_167), .int 0]) := (hB1.2.2.2 w0 (by rw [hT_w0]; simp)).trans hF_407
            have hF_435 : F_413 rw0 = .inl (cs 16, 60, .inl f2_169) := (hB1.2.2.2 rw0 (by rw [ht_57]; simp)).trans hF_408
            have hF_436 : F_413 w4 = .inr (0, [.ref rw4, .int (nI 64), .int 0]) := (hB1.2.2.2 w4 (by rw [hT_w4]; simp)).trans hM1
            have hF_437 : F_413 rw4 = .inl (cs 16, 64, .inl fM_386) := (hB1.2.2.2 rw4 (by rw [ht_69]; simp)).trans hM2
            generalize H1 = H at hP hS ⊢
            have hw : (r_412 = 1 ∧ BHO (TC fc_95 (flI (TC fm zm) ((gc jf) + 1) ((gd jf) - ((gc jf) + 1))).length) gg_89.2 gg_89.1 gB_411.1 gB_411.2) ∨ (r_412 = 0 ∧ ¬ BHO (TC fc_95 (flI (TC fm zm) ((gc jf) + 1) ((gd jf) - ((gc jf) + 1))).length) gg_89.2 gg_89.1 gB_411.1 gB_411.2) := hw
            have hw_438 := hw
            have hBD := hq_414
            have hBR := hw_438
            refine lv_if_ne (tgt := 111) hx hb dX7_judge_106 (by decide) (fun c_439 => ?_) (fun c_439 => ?_)
            ·
              have hBH : BHO (TC fc_95 (flI (TC fm zm) (gc jf + 1) (gd jf - (gc jf + 1))).length) gg_89.2 gg_89.1 gB_411.1 gB_411.2 := orp1 hBR c_439
              obtain ⟨howe, os, oe, how1, how2, how3, how4⟩ : owL (TC fm zm) (gc jf + 1) (gd jf) = owS (TC fm zm) (gc jf + 1) (gd jf) ∧ ∃ s q, owS (TC fm zm) (gc jf + 1) (gd jf) = some (s, q) ∧ s ≤ q ∧ gc jf + 1 < s ∧ q ≤ gd jf := by have h9 := ow_well (T := (TC fm zm)) (a := gc jf + 1) (k := gd jf - (gc jf + 1)) hgt (by have h8 := hsw.2.2.2.2.2.1; rw [hTC] at h8; exact h8); rw [show gc jf + 1 + (gd jf - (gc jf + 1)) = gd jf by omega] at h9; exact h9
              refine lv_aload_n hx hb dX7_judge_111 rfl (lv_at hl 1 rfl) ?_
              refine pg_get (ci := 7) (v := .ref w8) (C := RX7) (T := TX7) (N := 17) hx hb hts it_7 hown hK hP hL_h0 hF_429 rfl 11 (by decide) (hts _ kt_391) (fun _ h9 => h9) rfl dX7_judge_112 ?_
              have hFc := pg_free hD hS hA
              obtain ⟨z_440, o_441, hF_442, hq_443, hq_444⟩ := hO.bytes hL_w8 hT_w8
              refine va_callv (va_runV (As := []) (rest := []) ⟨hx, hb, hml, hown, hts⟩ (s_X0_clear l dC dI cs ty L H.size F_413 w8 (ρ + 90) rw8 6100 hW hL_w8 hT_w8) ⟨callB_of 0 hts (gi kt_32) rfl rfl rfl (hts _ kt_1) (hts _ kt_361) (by decide +kernel) ⟨Nat.le_of_ble_eq_true rfl, Nat.le_of_ble_eq_true rfl⟩, (hts _ kt_34), (hts _ kt_35)⟩ ⟨fun a U g mk q => ⟨q.1, PT.calling q.2⟩, pg_recv hK hP hL_w8 hF_442 (q := (RX0, TX0, 3)) rfl, fun U hU hWm => ⟨rfl, PT.mk hU hWm hP hK hD hE hO⟩⟩ rfl rfl hl.1 rfl (lv_room (Nat.le_of_ble_eq_true rfl)) dX7_judge_115 ⟨by show _ + 0 ≤ 0; omega, by show _ + 0 ≤ 0; omega⟩) hS (fun q _ h => hFc q h) hFc (fun u t H1 locs ht hvm hw hB hz1 hk1 hS => ?_)
              obtain ⟨F_446, hB1, hq_447⟩ := hB
              obtain ⟨hP, hD, hO, hR⟩ := QT.back hB1 ht hFc hR (fun q h => by simp only [List.mem_cons, List.not_mem_nil, or_false] at h ⊢; omega)
              have hF_448 : F_446 mg = .inr (4, [.ref mx, .ref m0, .ref m1, .ref m2, .int (nI nn), .int (nI bs)]) := (hB1.2.2.2 mg (by rw [hT_mg]; simp only [List.mem_cons, List.not_mem_nil, or_false]; omega)).trans hF_415
              have hF_449 : F_446 mx = .inr (0, [.ref rm, .int (nI zm), .int 0]) := (hB1.2.2.2 mx (by rw [hT_mx]; simp only [List.mem_cons, List.not_mem_nil, or_false]; omega)).trans hF_416
              have hF_450 : F_446 rm = .inl (cs 16, 3000, .inl fm) := (hB1.2.2.2 rm (by rw [ht_38]; simp only [List.mem_cons, List.not_mem_nil, or_false]; omega)).trans hF_417
              have hF_451 : F_446 m0 = .inl (cs 16, 20, .inl e0) := (hB1.2.2.2 m0 (by rw [ht_34]; simp only [List.mem_cons, List.not_mem_nil, or_false]; omega)).trans hF_418
              have hF_452 : F_446 m1 = .inl (cs 16, 20, .inl e1) := (hB1.2.2.2 m1 (by rw [ht_35]; simp only [List.mem_cons, List.not_mem_nil, or_false]; omega)).trans hF_419
              have hF_453 : F_446 m2 = .inl (cs 16, 20, .inl e2) := (hB1.2.2.2 m2 (by rw [ht_36]; simp only [List.mem_cons, List.not_mem_nil, or_false]; omega)).trans hF_420
              have hF_454 : F_446 d = .inr (2, [.ref ea, .int (nI cn)]) := (hB1.2.2.2 d (by rw [ht_2]; simp only [List.mem_cons, List.not_mem_nil, or_false]; omega)).trans hF_421
              have hF_455 : F_446 ea = .inl (cs 21, 40, .inr (.inr (.inr (.inr f_83)))) := (hB1.2.2.2 ea (by rw [ht_41]; simp only [List.mem_cons, List.not_mem_nil, or_false]; omega)).trans hF_422
              have hF_456 : F_446 sl = .inr (9, [.ref sx, .ref sy0, .ref sy1, .ref sy2, .int (nI gg_89.1)]) := (hB1.2.2.2 sl (by rw [ht_4]; simp)).trans hF_423
              have hF_457 : F_446 sx = .inr (0, [.ref rsx, .int (nI (flI (TC fm zm) ((gc jf) + 1) ((gd jf) - ((gc jf) + 1))).length), .int 0]) := (hB1.2.2.2 sx (by rw [hT_sx]; simp)).trans hF_424
              have hF_458 : F_446 rsx = .inl (cs 16, 3000, .inl fc_95) := (hB1.2.2.2 rsx (by rw [ht_20]; simp)).trans hF_425
              have hF_459 : F_446 sy0 = .inl (cs 16, 40, .inl p0_92) := (hB1.2.2.2 sy0 (by rw [ht_16]; simp)).trans hF_426
              have hF_460 : F_446 sy1 = .inl (cs 16, 40, .inl p1_93) := (hB1.2.2.2 sy1 (by rw [ht_17]; simp)).trans hF_427
              have hF_461 : F_446 sy2 = .inl (cs 16, 40, .inl p2_94) := (hB1.2.2.2 sy2 (by rw [ht_18]; simp)).trans hF_428
              have hF_462 : F_446 h0 = .inr (7, [.ref d, .ref sl, .ref ke, .ref w0, .ref w1, .ref w2, .ref w3, .ref w4, .ref w5, .ref w6, .ref w7, .ref w8, .ref tk, .ref hs, .ref pw, .int u0_98, .int u1_99]) := (hB1.2.2.2 h0 (by rw [hT_h0]; simp)).trans hF_429
              have hF_463 : F_446 w2 = .inr (0, [.ref rw2, .int (nI 32), .int 0]) := (hB1.2.2.2 w2 (by rw [hT_w2]; simp)).trans hF_430
              have hF_464 : F_446 rw2 = .inl (cs 16, 32, .inl fb_96) := (hB1.2.2.2 rw2 (by rw [ht_63]; simp)).trans hF_431
              have hF_465 : F_446 w3 = .inr (0, [.ref rw3, .int (nI 64), .int 0]) := (hB1.2.2.2 w3 (by rw [hT_w3]; simp)).trans hF_432
              have hF_466 : F_446 rw3 = .inl (cs 16, 64, .inl fs_97) := (hB1.2.2.2 rw3 (by rw [ht_66]; simp)).trans hF_433
              have hF_467 : F_446 w0 = .inr (0, [.ref rw0, .int (nI y2_167), .int 0]) := (hB1.2.2.2 w0 (by rw [hT_w0]; simp)).trans hF_434
              have hF_468 : F_446 rw0 = .inl (cs 16, 60, .inl f2_169) := (hB1.2.2.2 rw0 (by rw [ht_57]; simp)).trans hF_435
              have hF_469 : F_446 w4 = .inr (0, [.ref rw4, .int (nI 64), .int 0]) := (hB1.2.2.2 w4 (by rw [hT_w4]; simp)).trans hF_436
              have hF_470 : F_446 rw4 = .inl (cs 16, 64, .inl fM_386) := (hB1.2.2.2 rw4 (by rw [ht_69]; simp)).trans hF_437
              generalize H1 = H at hP hS ⊢
              obtain ⟨f_471, hF_472⟩ := hO.ints hi_80 ht_81
              refine lv_aload_n hx hb dX7_judge_118 rfl (lv_at hl 1 rfl) ?_
              refine lv_aload_n hx hb dX7_judge_119 rfl (lv_at hl 2 rfl) ?_
              have hFc := pg_free hD hS hA
              refine va_callv (va_runV (As := [.ref mg]) (rest := []) ⟨hx, hb, hml, hown, hts⟩ (s_X7_addListed_e l dC dI cs ty L H.size F_446 h0 ρ d δ ea sl sx sy0 sy1 sy2 ke kx ky0 ky1 ky2 w0 w1 w2 w3 w4 w5 w6 w7 w8 tk hs ha hbb hcc pw px py pz pu rsx ((flI (TC fm zm) ((gc jf) + 1) ((gd jf) - ((gc jf) + 1))).length) gg_89.1 fc_95 p0_92 p1_93 p2_94 gg_89.2 u0_98 u1_99 mg μ mx m0 m1 m2 rm zm nn rw8 fm e0 e1 e2 f_471 (nI bs) gb gc gd hW hL_h0 hT_h0 hL_sx hT_sx hL_w8 hT_w8 hL_mg hT_mg hL_mx hT_mx hF_462 hF_456 hF_457 hF_458 hF_459 hF_460 hF_461 (hti3) (hti2) (hHL) (hti1) hF_448 hF_450 hF_451 hF_452 hF_453 (by omega) (by omega) (hpos) (hord) hF_449 hq_447 hF_472 (hsw.2.2.2.2.2.2.1.1) (hmu)) ⟨callB_of 1 hts (gi kt_444) rfl rfl rfl (hts _ kt_322) (hts _ kt_445) (by decide +kernel) ⟨Nat.le_of_ble_eq_true rfl, Nat.le_of_ble_eq_true rfl⟩, (hts _ kt_446), (hts _ kt_447)⟩ ⟨fun a U g mk q => ⟨q.1, PTE.calling q.2⟩, pg_recv hK hP hL_h0 hF_462 (q := (RX7, TX7, 17)) rfl, fun U hU hWm => ⟨rfl, PTE.mk hU hWm hP hK hD hE hO hG (fun x hx => absurd hx List.not_mem_nil) hS hFc⟩⟩ rfl rfl hl.1 rfl (lv_room (Nat.le_of_ble_eq_true rfl)) dX7_judge_120 ⟨by show _ + 0 ≤ 0; omega, by show _ + 0 ≤ 0; omega⟩) hS (fun q _ h => hFc q h) hFc (fun u t H1 locs ht hvm hw hB hz1 hk1 hS => ?_)
              obtain ⟨F_474, fo2_475, hB1, hq_476, hq_477, hq_478, hq_479⟩ := hB
              obtain ⟨hP, hD, hO, hR⟩ := QT.back hB1 ht hFc hR (fun q h => by simp only [List.mem_cons, List.not_mem_nil, or_false] at h ⊢; omega)
              have hF_480 : F_474 mg = .inr (4, [.ref mx, .ref m0, .ref m1, .ref m2, .int (nI nn), .int (nI bs)]) := (hB1.2.2.2 mg (by rw [hT_mg]; simp only [List.mem_cons, List.not_mem_nil, or_false]; omega)).trans hF_448
              have hF_481 : F_474 mx = .inr (0, [.ref rm, .int (nI zm), .int 0]) := (hB1.2.2.2 mx (by rw [hT_mx]; simp only [List.mem_cons, List.not_mem_nil, or_false]; omega)).trans hF_449
              have hF_482 : F_474 rm = .inl (cs 16, 3000, .inl fm) := (hB1.2.2.2 rm (by rw [ht_38]; simp only [List.mem_cons, List.not_mem_nil, or_false]; omega)).trans hF_450
              have hF_483 : F_474 m0 = .inl (cs 16, 20, .inl e0) := (hB1.2.2.2 m0 (by rw [ht_34]; simp only [List.mem_cons, List.not_mem_nil, or_false]; omega)).trans hF_451
              have hF_484 : F_474 m1 = .inl (cs 16, 20, .inl e1) := (hB1.2.2.2 m1 (by rw [ht_35]; simp only [List.mem_cons, List.not_mem_nil, or_false]; omega)).trans hF_452
              have hF_485 : F_474 m2 = .inl (cs 16, 20, .inl e2) := (hB1.2.2.2 m2 (by rw [ht_36]; simp only [List.mem_cons, List.not_mem_nil, or_false]; omega)).trans hF_453
              have hF_486 : F_474 d = .inr (2, [.ref ea, .int (nI cn)]) := (hB1.2.2.2 d (by rw [ht_2]; simp only [List.mem_cons, List.not_mem_nil, or_false]; omega)).trans hF_454
              have hF_487 : F_474 ea = .inl (cs 21, 40, .inr (.inr (.inr (.inr f_83)))) := (hB1.2.2.2 ea (by rw [ht_41]; simp only [List.mem_cons, List.not_mem_nil, or_false]; omega)).trans hF_455
              have hF_488 : F_474 sl = .inr (9, [.ref sx, .ref sy0, .ref sy1, .ref sy2, .int (nI gg_89.1)]) := (hB1.2.2.2 sl (by rw [ht_4]; simp)).trans hF_456
              have hF_489 : F_474 sx = .inr (0, [.ref rsx, .int (nI (flI (TC fm zm) ((gc jf) + 1) ((gd jf) - ((gc jf) + 1))).length), .int 0]) := (hB1.2.2.2 sx (by rw [hT_sx]; simp)).trans hF_457
              have hF_490 : F_474 rsx = .inl (cs 16, 3000, .inl fc_95) := (hB1.2.2.2 rsx (by rw [ht_20]; simp)).trans hF_458
              have hF_491 : F_474 sy0 = .inl (cs 16, 40, .inl p0_92) := (hB1.2.2.2 sy0 (by rw [ht_16]; simp)).trans hF_459
              have hF_492 : F_474 sy1 = .inl (cs 16, 40, .inl p1_93) := (hB1.2.2.2 sy1 (by rw [ht_17]; simp)).trans hF_460
              have hF_493 : F_474 sy2 = .inl (cs 16, 40, .inl p2_94) := (hB1.2.2.2 sy2 (by rw [ht_18]; simp)).trans hF_461
              have hF_494 : F_474 h0 = .inr (7, [.ref d, .ref sl, .ref ke, .ref w0, .ref w1, .ref w2, .ref w3, .ref w4, .ref w5, .ref w6, .ref w7, .ref w8, .ref tk, .ref hs, .ref pw, .int u0_98, .int u1_99]) := (hB1.2.2.2 h0 (by rw [hT_h0]; simp)).trans hF_462
              have hF_495 : F_474 w2 = .inr (0, [.ref rw2, .int (nI 32), .int 0]) := (hB1.2.2.2 w2 (by rw [hT_w2]; simp)).trans hF_463
              have hF_496 : F_474 rw2 = .inl (cs 16, 32, .inl fb_96) := (hB1.2.2.2 rw2 (by rw [ht_63]; simp)).trans hF_464
              have hF_497 : F_474 w3 = .inr (0, [.ref rw3, .int (nI 64), .int 0]) := (hB1.2.2.2 w3 (by rw [hT_w3]; simp)).trans hF_465
              have hF_498 : F_474 rw3 = .inl (cs 16, 64, .inl fs_97) := (hB1.2.2.2 rw3 (by rw [ht_66]; simp)).trans hF_466
              have hF_499 : F_474 w0 = .inr (0, [.ref rw0, .int (nI y2_167), .int 0]) := (hB1.2.2.2 w0 (by rw [hT_w0]; simp)).trans hF_467
              have hF_500 : F_474 rw0 = .inl (cs 16, 60, .inl f2_169) := (hB1.2.2.2 rw0 (by rw [ht_57]; simp)).trans hF_468
              have hF_501 : F_474 w4 = .inr (0, [.ref rw4, .int (nI 64), .int 0]) := (hB1.2.2.2 w4 (by rw [hT_w4]; simp)).trans hF_469
              have hF_502 : F_474 rw4 = .inl (cs 16, 64, .inl fM_386) := (hB1.2.2.2 rw4 (by rw [ht_69]; simp)).trans hF_470
              generalize H1 = H at hP hS ⊢
              have hAL := hq_479
              refine lv_aload_n hx hb dX7_judge_123 rfl (lv_at hl 1 rfl) ?_
              refine lv_aload_n hx hb dX7_judge_124 rfl (lv_at hl 2 rfl) ?_
              refine lv_iload_n hx hb dX7_judge_125 rfl (lv_at hl 3 rfl) ?_
              have hFc := pg_free hD hS hA
              refine va_callv (va_runV (As := [.ref mg, .int (nI jf)]) (rest := []) ⟨hx, hb, hml, hown, hts⟩ (s_X7_addOwn_e l dC dI cs ty L H.size F_474 h0 ρ d δ ea sl sx sy0 sy1 sy2 ke kx ky0 ky1 ky2 w0 w1 w2 w3 w4 w5 w6 w7 w8 tk hs ha hbb hcc pw px py pz pu u0_98 u1_99 mg μ mx m0 m1 m2 rm zm nn fm e0 e1 e2 (nI bs) gb gc gd rw8 jf os oe fo2_475 ((adl (clf fm) (TC fm zm) (TC fc_95 (flI (TC fm zm) (gc jf + 1) (gd jf - (gc jf + 1))).length) gb gc gd nn u0_98 (hsG (TC fc_95 (flI (TC fm zm) (gc jf + 1) (gd jf - (gc jf + 1))).length) (tgA gg_89.2 (tgR (TC fc_95 (flI (TC fm zm) (gc jf + 1) (gd jf - (gc jf + 1))).length) gg_89.2 [104] gg_89.1)) (tgB gg_89.2 (tgR (TC fc_95 (flI (TC fm zm) (gc jf + 1) (gd jf - (gc jf + 1))).length) gg_89.2 [104] gg_89.1)))).2) hW hL_h0 hT_h0 hL_w8 hT_w8 hL_mg hT_mg hL_mx hT_mx hF_494 hF_480 hF_481 hF_482 hF_483 hF_484 hF_485 (by omega) (by omega) (hpos) hq_476 hq_477 (hq_478) (hjf) (how1) (how2) (by omega) (hmu)) ⟨callB_of 2 hts (gi kt_448) rfl rfl rfl (hts _ kt_322) (hts _ kt_449) (by decide +kernel) ⟨Nat.le_of_ble_eq_true rfl, Nat.le_of_ble_eq_true rfl⟩, (hts _ kt_450), (hts _ kt_451)⟩ ⟨fun a U g mk q => ⟨q.1, PT.calling q.2⟩, pg_recv hK hP hL_h0 hF_494 (q := (RX7, TX7, 17)) rfl, fun U hU hWm => ⟨rfl, PT.mk hU hWm hP hK hD hE hO⟩⟩ rfl rfl hl.1 rfl (lv_room (Nat.le_of_ble_eq_true rfl)) dX7_judge_126 ⟨by show _ + 0 ≤ 0; omega, by show _ + 0 ≤ 0; omega⟩) hS (fun q _ h => hFc q h) hFc (fun u t H1 locs ht hvm hw hB hz1 hk1 hS => ?_)
              obtain ⟨F_504, fo2_505, hB1, hq_506, hq_507, hq_508⟩ := hB
              obtain ⟨hP, hD, hO, hR⟩ := QT.back hB1 ht hFc hR (fun q h => by simp only [List.mem_cons, List.not_mem_nil, or_false] at h ⊢; omega)
              have hF_509 : F_504 mg = .inr (4, [.ref mx, .ref m0, .ref m1, .ref m2, .int (nI nn), .int (nI bs)]) := (hB1.2.2.2 mg (by rw [hT_mg]; simp only [List.mem_cons, List.not_mem_nil, or_false]; omega)).trans hF_480
              have hF_510 : F_504 mx = .inr (0, [.ref rm, .int (nI zm), .int 0]) := (hB1.2.2.2 mx (by rw [hT_mx]; simp only [List.mem_cons, List.not_mem_nil, or_false]; omega)).trans hF_481
              have hF_511 : F_504 rm = .inl (cs 16, 3000, .inl fm) := (hB1.2.2.2 rm (by rw [ht_38]; simp only [List.mem_cons, List.not_mem_nil, or_false]; omega)).trans hF_482
              have hF_512 : F_504 m0 = .inl (cs 16, 20, .inl e0) := (hB1.2.2.2 m0 (by rw [ht_34]; simp only [List.mem_cons, List.not_mem_nil, or_false]; omega)).trans hF_483
              have hF_513 : F_504 m1 = .inl (cs 16, 20, .inl e1) := (hB1.2.2.2 m1 (by rw [ht_35]; simp only [List.mem_cons, List.not_mem_nil, or_false]; omega)).trans hF_484
              have hF_514 : F_504 m2 = .inl (cs 16, 20, .inl e2) := (hB1.2.2.2 m2 (by rw [ht_36]; simp only [List.mem_cons, List.not_mem_nil, or_false]; omega)).trans hF_485
              have hF_515 : F_504 d = .inr (2, [.ref ea, .int (nI cn)]) := (hB1.2.2.2 d (by rw [ht_2]; simp only [List.mem_cons, List.not_mem_nil, or_false]; omega)).trans hF_486
              have hF_516 : F_504 ea = .inl (cs 21, 40, .inr (.inr (.inr (.inr f_83)))) := (hB1.2.2.2 ea (by rw [ht_41]; simp only [List.mem_cons, List.not_mem_nil, or_false]; omega)).trans hF_487
              have hF_517 : F_504 sl = .inr (9, [.ref sx, .ref sy0, .ref sy1, .ref sy2, .int (nI gg_89.1)]) := (hB1.2.2.2 sl (by rw [ht_4]; simp)).trans hF_488
              have hF_518 : F_504 sx = .inr (0, [.ref rsx, .int (nI (flI (TC fm zm) ((gc jf) + 1) ((gd jf) - ((gc jf) + 1))).length), .int 0]) := (hB1.2.2.2 sx (by rw [hT_sx]; simp)).trans hF_489
              have hF_519 : F_504 rsx = .inl (cs 16, 3000, .inl fc_95) := (hB1.2.2.2 rsx (by rw [ht_20]; simp)).trans hF_490
              have hF_520 : F_504 sy0 = .inl (cs 16, 40, .inl p0_92) := (hB1.2.2.2 sy0 (by rw [ht_16]; simp)).trans hF_491
              have hF_521 : F_504 sy1 = .inl (cs 16, 40, .inl p1_93) := (hB1.2.2.2 sy1 (by rw [ht_17]; simp)).trans hF_492
              have hF_522 : F_504 sy2 = .inl (cs 16, 40, .inl p2_94) := (hB1.2.2.2 sy2 (by rw [ht_18]; simp)).trans hF_493
              have hF_523 : F_504 h0 = .inr (7, [.ref d, .ref sl, .ref ke, .ref w0, .ref w1, .ref w2, .ref w3, .ref w4, .ref w5, .ref w6, .ref w7, .ref w8, .ref tk, .ref hs, .ref pw, .int u0_98, .int u1_99]) := (hB1.2.2.2 h0 (by rw [hT_h0]; simp)).trans hF_494
              have hF_524 : F_504 w2 = .inr (0, [.ref rw2, .int (nI 32), .int 0]) := (hB1.2.2.2 w2 (by rw [hT_w2]; simp)).trans hF_495
              have hF_525 : F_504 rw2 = .inl (cs 16, 32, .inl fb_96) := (hB1.2.2.2 rw2 (by rw [ht_63]; simp)).trans hF_496
              have hF_526 : F_504 w3 = .inr (0, [.ref rw3, .int (nI 64), .int 0]) := (hB1.2.2.2 w3 (by rw [hT_w3]; simp)).trans hF_497
              have hF_527 : F_504 rw3 = .inl (cs 16, 64, .inl fs_97) := (hB1.2.2.2 rw3 (by rw [ht_66]; simp)).trans hF_498
              have hF_528 : F_504 w0 = .inr (0, [.ref rw0, .int (nI y2_167), .int 0]) := (hB1.2.2.2 w0 (by rw [hT_w0]; simp)).trans hF_499
              have hF_529 : F_504 rw0 = .inl (cs 16, 60, .inl f2_169) := (hB1.2.2.2 rw0 (by rw [ht_57]; simp)).trans hF_500
              have hF_530 : F_504 w4 = .inr (0, [.ref rw4, .int (nI 64), .int 0]) := (hB1.2.2.2 w4 (by rw [hT_w4]; simp)).trans hF_501
              have hF_531 : F_504 rw4 = .inl (cs 16, 64, .inl fM_386) := (hB1.2.2.2 rw4 (by rw [ht_69]; simp)).trans hF_502
              generalize H1 = H at hP hS ⊢
              have hF_532 : F_504 w8 = .inr (0, [.ref rw8, .int (nI (wkL (clf fm) (TC fm zm) (TC fc_95 (flI (TC fm zm) (gc jf + 1) (gd jf - (gc jf + 1))).length) gb gc gd nn jf gg_89.2 gg_89.1 os oe).length), .int 0]) := by have h9 := hq_506; rw [hu0] at h9; exact h9
              have hOUW : OUTS fm fo2_505 (wkL (clf fm) (TC fm zm) (TC fc_95 (flI (TC fm zm) (gc jf + 1) (gd jf - (gc jf + 1))).length) gb gc gd nn jf gg_89.2 gg_89.1 os oe) := by have h9 := hq_508; rw [hu0] at h9; exact h9
              have hWKl : (wkL (clf fm) (TC fm zm) (TC fc_95 (flI (TC fm zm) (gc jf + 1) (gd jf - (gc jf + 1))).length) gb gc gd nn jf gg_89.2 gg_89.1 os oe).length ≤ 6100 := by have h9 := FPW_len (T := clf fm) (x := frx (TC fc_95 (flI (TC fm zm) (gc jf + 1) (gd jf - (gc jf + 1))).length) gg_89.2 gg_89.1) q3 q4 (Or.inr ⟨show gc jf < os by omega, how2, how4⟩); have h8 := hAL; rw [hu0] at h8; show ((adl _ _ _ _ _ _ _ _ _).2 ++ _).length ≤ 6100; rw [List.length_append]; omega
              refine lv_aload_n hx hb dX7_judge_129 rfl (lv_at hl 1 rfl) ?_
              have hFc := pg_free hD hS hA
              refine va_calli (va_runV (As := []) (rest := []) ⟨hx, hb, hml, hown, hts⟩ (s_X7_isSigned_e l dC dI cs ty L H.size F_504 h0 ρ d δ ea sl sx sy0 sy1 sy2 ke kx ky0 ky1 ky2 w0 w1 w2 w3 w4 w5 w6 w7 w8 tk hs ha hbb hcc pw px py pz pu rw3 rw4 rw5 rw6 rw7 rw8 ((wkL (clf fm) (TC fm zm) (TC fc_95 (flI (TC fm zm) (gc jf + 1) (gd jf - (gc jf + 1))).length) gb gc gd nn jf gg_89.2 gg_89.1 os oe).length) fs_97 fM_386 fo2_505 (sgB (TC fc_95 (flI (TC fm zm) (gc jf + 1) (gd jf - (gc jf + 1))).length) gg_89.2 gg_89.1) (kyM (D gk_383)) hW hL_h0 hT_h0 hL_w3 hT_w3 hL_w4 hT_w4 hL_w5 hT_w5 hL_w6 hT_w6 hL_w7 hT_w7 hL_w8 hT_w8 hF_526 hF_527 (hw3c) hF_530 hF_531 (hM3) (hkm1) (hkm0) hF_532 hq_507 (hWKl)) ⟨callB_of 0 hts (gi kt_452) rfl rfl rfl (hts _ kt_322) (hts _ kt_453) (by decide +kernel) ⟨Nat.le_of_ble_eq_true rfl, Nat.le_of_ble_eq_true rfl⟩, (hts _ kt_454), (hts _ kt_455)⟩ ⟨fun a U g mk q => ⟨q.1, PTE.calling q.2⟩, pg_recv hK hP hL_h0 hF_523 (q := (RX7, TX7, 17)) rfl, fun U hU hWm => ⟨rfl, PTE.mk hU hWm hP hK hD hE hO hG (fun x hx => absurd hx List.not_mem_nil) hS hFc⟩⟩ rfl rfl hl.1 rfl (lv_room (Nat.le_of_ble_eq_true rfl)) dX7_judge_130 ⟨by show _ + 0 ≤ 0; omega, by show _ + 0 ≤ 0; omega⟩) hS (fun q _ h => hFc q h) hFc (fun r_533 u t H1 locs ht hvm hw hB hz1 hk1 hS => ?_)
              obtain ⟨F_534, hB1⟩ := hB
              obtain ⟨hP, hD, hO, hR⟩ := QT.back hB1 ht hFc hR (fun q h => by simp only [List.mem_cons, List.not_mem_nil, or_false] at h ⊢; omega)
              have hF_535 : F_534 mg = .inr (4, [.ref mx, .ref m0, .ref m1, .ref m2, .int (nI nn), .int (nI bs)]) := (hB1.2.2.2 mg (by rw [hT_mg]; simp only [List.mem_cons, List.not_mem_nil, or_false]; omega)).trans hF_509
              have hF_536 : F_534 mx = .inr (0, [.ref rm, .int (nI zm), .int 0]) := (hB1.2.2.2 mx (by rw [hT_mx]; simp only [List.mem_cons, List.not_mem_nil, or_false]; omega)).trans hF_510
              have hF_537 : F_534 rm = .inl (cs 16, 3000, .inl fm) := (hB1.2.2.2 rm (by rw [ht_38]; simp only [List.mem_cons, List.not_mem_nil, or_false]; omega)).trans hF_511
              have hF_538 : F_534 m0 = .inl (cs 16, 20, .inl e0) := (hB1.2.2.2 m0 (by rw [ht_34]; simp only [List.mem_cons, List.not_mem_nil, or_false]; omega)).trans hF_512
              have hF_539 : F_534 m1 = .inl (cs 16, 20, .inl e1) := (hB1.2.2.2 m1 (by rw [ht_35]; simp only [List.mem_cons, List.not_mem_nil, or_false]; omega)).trans hF_513
              have hF_540 : F_534 m2 = .inl (cs 16, 20, .inl e2) := (hB1.2.2.2 m2 (by rw [ht_36]; simp only [List.mem_cons, List.not_mem_nil, or_false]; omega)).trans hF_514
              have hF_541 : F_534 d = .inr (2, [.ref ea, .int (nI cn)]) := (hB1.2.2.2 d (by rw [ht_2]; simp only [List.mem_cons, List.not_mem_nil, or_false]; omega)).trans hF_515
              have hF_542 : F_534 ea = .inl (cs 21, 40, .inr (.inr (.inr (.inr f_83)))) := (hB1.2.2.2 ea (by rw [ht_41]; simp only [List.mem_cons, List.not_mem_nil, or_false]; omega)).trans hF_516
              have hF_543 : F_534 sl = .inr (9, [.ref sx, .ref sy0, .ref sy1, .ref sy2, .int (nI gg_89.1)]) := (hB1.2.2.2 sl (by rw [ht_4]; simp)).trans hF_517
              have hF_544 : F_534 sx = .inr (0, [.ref rsx, .int (nI (flI (TC fm zm) ((gc jf) + 1) ((gd jf) - ((gc jf) + 1))).length), .int 0]) := (hB1.2.2.2 sx (by rw [hT_sx]; simp)).trans hF_518
              have hF_545 : F_534 rsx = .inl (cs 16, 3000, .inl fc_95) := (hB1.2.2.2 rsx (by rw [ht_20]; simp)).trans hF_519
              have hF_546 : F_534 sy0 = .inl (cs 16, 40, .inl p0_92) := (hB1.2.2.2 sy0 (by rw [ht_16]; simp)).trans hF_520
              have hF_547 : F_534 sy1 = .inl (cs 16, 40, .inl p1_93) := (hB1.2.2.2 sy1 (by rw [ht_17]; simp)).trans hF_521
              have hF_548 : F_534 sy2 = .inl (cs 16, 40, .inl p2_94) := (hB1.2.2.2 sy2 (by rw [ht_18]; simp)).trans hF_522
              have hF_549 : F_534 h0 = .inr (7, [.ref d, .ref sl, .ref ke, .ref w0, .ref w1, .ref w2, .ref w3, .ref w4, .ref w5, .ref w6, .ref w7, .ref w8, .ref tk, .ref hs, .ref pw, .int u0_98, .int u1_99]) := (hB1.2.2.2 h0 (by rw [hT_h0]; simp)).trans hF_523
              have hF_550 : F_534 w2 = .inr (0, [.ref rw2, .int (nI 32), .int 0]) := (hB1.2.2.2 w2 (by rw [hT_w2]; simp)).trans hF_524
              have hF_551 : F_534 rw2 = .inl (cs 16, 32, .inl fb_96) := (hB1.2.2.2 rw2 (by rw [ht_63]; simp)).trans hF_525
              have hF_552 : F_534 w3 = .inr (0, [.ref rw3, .int (nI 64), .int 0]) := (hB1.2.2.2 w3 (by rw [hT_w3]; simp)).trans hF_526
              have hF_553 : F_534 rw3 = .inl (cs 16, 64, .inl fs_97) := (hB1.2.2.2 rw3 (by rw [ht_66]; simp)).trans hF_527
              have hF_554 : F_534 w0 = .inr (0, [.ref rw0, .int (nI y2_167), .int 0]) := (hB1.2.2.2 w0 (by rw [hT_w0]; simp)).trans hF_528
              have hF_555 : F_534 rw0 = .inl (cs 16, 60, .inl f2_169) := (hB1.2.2.2 rw0 (by rw [ht_57]; simp)).trans hF_529
              have hF_556 : F_534 w4 = .inr (0, [.ref rw4, .int (nI 64), .int 0]) := (hB1.2.2.2 w4 (by rw [hT_w4]; simp)).trans hF_530
              have hF_557 : F_534 rw4 = .inl (cs 16, 64, .inl fM_386) := (hB1.2.2.2 rw4 (by rw [ht_69]; simp)).trans hF_531
              have hF_558 : F_534 w8 = .inr (0, [.ref rw8, .int (nI (wkL (clf fm) (TC fm zm) (TC fc_95 (flI (TC fm zm) (gc jf + 1) (gd jf - (gc jf + 1))).length) gb gc gd nn jf gg_89.2 gg_89.1 os oe).length), .int 0]) := (hB1.2.2.2 w8 (by rw [hT_w8]; simp)).trans hF_532
              have hF_559 : F_534 rw8 = .inl (cs 16, 6100, .inl fo2_505) := (hB1.2.2.2 rw8 (by rw [ht_81]; simp)).trans hq_507
              generalize H1 = H at hP hS ⊢
              have hw : (r_533 = 1 ∧ SGO (sgB (TC fc_95 (flI (TC fm zm) (gc jf + 1) (gd jf - (gc jf + 1))).length) gg_89.2 gg_89.1) (kyM (D gk_383)) (shN fo2_505 (wkL (clf fm) (TC fm zm) (TC fc_95 (flI (TC fm zm) (gc jf + 1) (gd jf - (gc jf + 1))).length) gb gc gd nn jf gg_89.2 gg_89.1 os oe).length)) ∨ (r_533 = 0 ∧ ¬ SGO (sgB (TC fc_95 (flI (TC fm zm) (gc jf + 1) (gd jf - (gc jf + 1))).length) gg_89.2 gg_89.1) (kyM (D gk_383)) (shN fo2_505 (wkL (clf fm) (TC fm zm) (TC fc_95 (flI (TC fm zm) (gc jf + 1) (gd jf - (gc jf + 1))).length) gb gc gd nn jf gg_89.2 gg_89.1 os oe).length)) := hw
              have hw_560 := hw
              refine lv_if_eq (tgt := 140) hx hb dX7_judge_133 (by decide) (fun c_561 => ?_) (fun c_561 => ?_)
              ·
                refine lv_iconst (v := 3) hx hb dX7_judge_140 (by decide) ?_
                refine W.widen (k := 0) (n := 0) (by omega) (by omega) ?_
                exact W.iret (v := 3) hx hb hr (fun t ht hWm => ⟨⟨3, (), rfl, (Or.inr ⟨hFE, _, hgt, (by rw [← hTC]; exact hsw), (by rw [← hTC]; exact Or.inr ⟨hXP, gk_383, _, hKY, Or.inr ⟨c_410, gB_411.1, gB_411.2, (by rw [← hu1]; exact hBD), Or.inr ⟨hBH, os, oe, _, how1, hOUW, Or.inr ⟨orp0 hw_560 c_561, rfl⟩⟩⟩⟩)⟩), ⟨F_534, QT.mk ht hP hD hO hR, (fun g9 q1 _ _ => by obtain rfl := Option.some.inj (hgt.symm.trans q1); rw [← hTC]; exact ⟨_, _, _, hF_554, hF_555, hsrc, by have h9 := hsrc.1; have h8 : (dmL (TC fc_95 (flI (TC fm zm) (gc jf + 1) (gd jf - (gc jf + 1))).length) gg_89.2 gg_89.1).length ≤ 60 := (by show (rgT _ _ _).length ≤ 60; rw [rgT_len]; omega); omega⟩)⟩⟩, hS.F ht⟩) hS.2.2 dX7_judge_141
              ·
                refine lv_iconst (v := 2) hx hb dX7_judge_136 (by decide) ?_
                refine lv_goto (tgt := 141) hx hb dX7_judge_137 (by decide) ?_
                refine W.widen (k := 0) (n := 0) (by omega) (by omega) ?_
                exact W.iret (v := 2) hx hb hr (fun t ht hWm => ⟨⟨2, (), rfl, (Or.inr ⟨hFE, _, hgt, (by rw [← hTC]; exact hsw), (by rw [← hTC]; exact Or.inr ⟨hXP, gk_383, _, hKY, Or.inr ⟨c_410, gB_411.1, gB_411.2, (by rw [← hu1]; exact hBD), Or.inr ⟨hBH, os, oe, _, how1, hOUW, Or.inl ⟨orp1 hw_560 c_561, rfl⟩⟩⟩⟩)⟩), ⟨F_534, QT.mk ht hP hD hO hR, (fun g9 q1 _ _ => by obtain rfl := Option.some.inj (hgt.symm.trans q1); rw [← hTC]; exact ⟨_, _, _, hF_554, hF_555, hsrc, by have h9 := hsrc.1; have h8 : (dmL (TC fc_95 (flI (TC fm zm) (gc jf + 1) (gd jf - (gc jf + 1))).length) gg_89.2 gg_89.1).length ≤ 60 := (by show (rgT _ _ _).length ≤ 60; rw [rgT_len]; omega); omega⟩)⟩⟩, hS.F ht⟩) hS.2.2 dX7_judge_141
            ·
              have hBH : ¬ BHO (TC fc_95 (flI (TC fm zm) (gc jf + 1) (gd jf - (gc jf + 1))).length) gg_89.2 gg_89.1 gB_411.1 gB_411.2 := orp0 hBR c_439
              refine lv_iconst (v := 3) hx hb dX7_judge_109 (by decide) ?_
              refine W.widen (k := 0) (n := 0) (by omega) (by omega) ?_
              exact W.iret (v := 3) hx hb hr (fun t ht hWm => ⟨⟨3, (), rfl, (Or.inr ⟨hFE, _, hgt, (by rw [← hTC]; exact hsw), (by rw [← hTC]; exact Or.inr ⟨hXP, gk_383, _, hKY, Or.inr ⟨c_410, gB_411.1, gB_411.2, (by rw [← hu1]; exact hBD), Or.inl ⟨hBH, rfl⟩⟩⟩)⟩), ⟨F_413, QT.mk ht hP hD hO hR, (fun g9 q1 _ _ => by obtain rfl := Option.some.inj (hgt.symm.trans q1); rw [← hTC]; exact ⟨_, _, _, hF_434, hF_435, hsrc, by have h9 := hsrc.1; have h8 : (dmL (TC fc_95 (flI (TC fm zm) (gc jf + 1) (gd jf - (gc jf + 1))).length) gg_89.2 gg_89.1).length ≤ 60 := (by show (rgT _ _ _).length ≤ 60; rw [rgT_len]; omega); omega⟩)⟩⟩, hS.F ht⟩) hS.2.2 dX7_judge_110
          ·
            refine lv_iload hx hb dX7_judge_98 (lv_at hl 0 rfl) ?_
            refine W.widen (k := 0) (n := 0) (by omega) (by omega) ?_
            exact W.iret (v := r_384) hx hb hr (fun t ht hWm => ⟨⟨r_384, (), rfl, (Or.inr ⟨hFE, _, hgt, (by rw [← hTC]; exact hsw), (by rw [← hTC]; exact Or.inr ⟨hXP, gk_383, _, hKY, Or.inl ⟨c_410, rfl⟩⟩)⟩), ⟨F_385, QT.mk ht hP hD hO hR, (fun g9 q1 _ _ => by obtain rfl := Option.some.inj (hgt.symm.trans q1); rw [← hTC]; exact ⟨_, _, _, hF_407, hF_408, hsrc, by have h9 := hsrc.1; have h8 : (dmL (TC fc_95 (flI (TC fm zm) (gc jf + 1) (gd jf - (gc jf + 1))).length) gg_89.2 gg_89.1).length ≤ 60 := (by show (rgT _ _ _).length ≤ 60; rw [rgT_len]; omega); omega⟩)⟩⟩, hS.F ht⟩) hS.2.2 dX7_judge_100
        ·
          have hXP : XPD (TC fc_95 (flI (TC fm zm) (gc jf + 1) (gd jf - (gc jf + 1))).length) gg_89.2 gg_89.1 nw := ⟨xw, hxw1, Nat.not_le.mp (fun q => c_381 ((nI_leI (by omega) (by omega)).mpr q))⟩
          refine lv_iconst (v := 3) hx hb dX7_judge_84 (by decide) ?_
          refine W.widen (k := 0) (n := 0) (by omega) (by omega) ?_
          exact W.iret (v := 3) hx hb hr (fun t ht hWm => ⟨⟨3, (), rfl, (Or.inr ⟨hFE, _, hgt, (by rw [← hTC]; exact hsw), (by rw [← hTC]; exact Or.inl ⟨hXP, rfl⟩)⟩), ⟨F_166, QT.mk ht hP hD hO hR, (fun g9 q1 _ _ => by obtain rfl := Option.some.inj (hgt.symm.trans q1); rw [← hTC]; exact ⟨_, _, _, hF_192, hq_171, hsrc, by have h9 := hsrc.1; have h8 : (dmL (TC fc_95 (flI (TC fm zm) (gc jf + 1) (gd jf - (gc jf + 1))).length) gg_89.2 gg_89.1).length ≤ 60 := (by show (rgT _ _ _).length ≤ 60; rw [rgT_len]; omega); omega⟩)⟩⟩, hS.F ht⟩) hS.2.2 dX7_judge_85
    ·
      have hw0 : wc = 0 := (nI_eq (b := 0) (by omega) (by omega)).mp c_126
      have hFE : ¬ (∃ i, i < nn ∧ FRM (TC fm zm) (gb i) (gc i)) := fun q => by obtain ⟨i9, hi9, q9⟩ := q; rw [hw0] at hcnt; exact cnt_no nn hcnt i9 hi9 ((nmd_frm hF_112 hF_113 hF_114 hF_115 (hpos i9 hi9).1 (hpos i9 hi9).2.1 (by omega) (hpos i9 hi9).2.2.2.1 (by have h9 := hpos i9 hi9; omega) hz3).mpr q9)
      refine lv_iconst (v := 1) hx hb dX7_judge_18 (by decide) ?_
      refine W.widen (k := 0) (n := 0) (by omega) (by omega) ?_
      exact W.iret (v := 1) hx hb hr (fun t ht hWm => ⟨⟨1, (), rfl, (Or.inl ⟨fun q => hFE q.2, rfl⟩), ⟨F_91, QT.mk ht hP hD hO hR, (fun _ _ _ q => absurd q hFE)⟩⟩, hS.F ht⟩) hS.2.2 dX7_judge_19
