def NOM (T : Nat → Nat) (g : Nat → Nat → Nat) (n : Nat) (l : List Nat) : Prop := tgR T g l n = none ∨ ¬ tgM T g (tgR T g l n) = none
theorem nom_h {T : Nat → Nat} {g : Nat → Nat → Nat} {n : Nat} {l : List Nat} (h : ¬ TGE T g n l) : tgR T g l n = none := Classical.byContradiction (fun q => h (tge_R.mpr q))
def RLX : List Nat := [114, 101, 108, 97, 120, 101, 100]
def SRL_ : List Nat := [47, 114, 101, 108, 97, 120, 101, 100]
def SPL : List Nat := [115, 105, 109, 112, 108, 101]
def SSP : List Nat := [47, 115, 105, 109, 112, 108, 101]
noncomputable def cA (T : Nat → Nat) (g : Nat → Nat → Nat) (n : Nat) : Nat := tgA g (tgR T g [99] n)
noncomputable def cB (T : Nat → Nat) (g : Nat → Nat → Nat) (n : Nat) : Nat := tgB g (tgR T g [99] n)
noncomputable def cS (T : Nat → Nat) (g : Nat → Nat → Nat) (n : Nat) : Nat := fdT T 47 (cA T g n) (cB T g n)
noncomputable def frx (T : Nat → Nat) (g : Nat → Nat → Nat) (n : Nat) : Int32 := @ite Int32 (¬ tgR T g [99] n = none ∧ ISL T (cA T g n) (cS T g n) RLX) (Classical.propDecidable _) 1 0
noncomputable def brx (T : Nat → Nat) (g : Nat → Nat → Nat) (n : Nat) : Int32 := @ite Int32 (¬ tgR T g [99] n = none ∧ ISL T (cS T g n) (cB T g n) SRL_) (Classical.propDecidable _) 1 0
def PLO (T : Nat → Nat) (g : Nat → Nat → Nat) (n : Nat) : Prop := tgR T g [99] n = none ∨ ((ISL T (cA T g n) (cS T g n) RLX ∨ ISL T (cA T g n) (cS T g n) SPL) ∧ (ISL T (cS T g n) (cB T g n) SRL_ ∨ cS T g n = cB T g n ∨ ISL T (cS T g n) (cB T g n) SSP))
theorem frx_0 {T : Nat → Nat} {g : Nat → Nat → Nat} {n : Nat} (h : tgR T g [99] n = none) : (0 : Int32) = frx T g n := (if_neg (fun q => q.1 h)).symm
theorem brx_0 {T : Nat → Nat} {g : Nat → Nat → Nat} {n : Nat} (h : tgR T g [99] n = none) : (0 : Int32) = brx T g n := (if_neg (fun q => q.1 h)).symm
theorem frx_r {T : Nat → Nat} {g : Nat → Nat → Nat} {n : Nat} {r : Int32} (h : ¬ tgR T g [99] n = none) (hr : (r = 1 ∧ ISL T (cA T g n) (cS T g n) RLX) ∨ (r = 0 ∧ ¬ ISL T (cA T g n) (cS T g n) RLX)) : r = frx T g n := by
  rcases hr with ⟨h1, h2⟩ | ⟨h1, h2⟩
  · exact h1.trans (if_pos ⟨h, h2⟩).symm
  · exact h1.trans (if_neg (fun q => h2 q.2)).symm
theorem brx_r {T : Nat → Nat} {g : Nat → Nat → Nat} {n : Nat} {r : Int32} (h : ¬ tgR T g [99] n = none) (hr : (r = 1 ∧ ISL T (cS T g n) (cB T g n) SRL_) ∨ (r = 0 ∧ ¬ ISL T (cS T g n) (cB T g n) SRL_)) : r = brx T g n := by
  rcases hr with ⟨h1, h2⟩ | ⟨h1, h2⟩
  · exact h1.trans (if_pos ⟨h, h2⟩).symm
  · exact h1.trans (if_neg (fun q => h2 q.2)).symm
def FSC (c : Nat) : Prop := (97 ≤ smc c ∧ smc c ≤ 122) ∨ (48 ≤ c ∧ c ≤ 57) ∨ c = 45
def FNC (T : Nat → Nat) (a b : Nat) : Prop := a + 1 ≤ b ∧ b ≤ a + 20 ∧ ∀ j, a ≤ j → j < b → FSC (T j)
theorem fsc_k : ∀ k, k < 128 → (FSG (nI k) = true ↔ ((97 ≤ smc k ∧ smc k ≤ 122) ∨ (48 ≤ k ∧ k ≤ 57) ∨ k = 45)) := by decide +kernel
theorem fsc_x (x : Int32) : FSG x = true ↔ FSC (cdv x) := by
  by_cases c : cdv x < 128
  · have h := fsc_k (cdv x) c
    rw [← cdv_in c] at h
    exact h
  · rw [cdv_200 c]
    constructor
    · intro q
      have q9 := of_decide_eq_true q
      rw [smv_out c] at q9
      rcases q9 with q9 | q9 | q9
      · have h9 := (cdv_rng (x := x) (a := 97) (b := 122) (by omega) (by omega)).mpr ⟨Int32.not_lt.mpr q9.1, Int32.not_lt.mpr q9.2⟩
        omega
      · have h9 := (cdv_rng (x := x) (a := 48) (b := 57) (by omega) (by omega)).mpr ⟨Int32.not_lt.mpr q9.1, Int32.not_lt.mpr q9.2⟩
        omega
      · exact absurd (cd_eq (a := 45) (by omega) q9) c
    · intro q
      unfold FSC at q
      rw [smc_200] at q
      omega
theorem clf_3 {f : Nat → Int32} {j : Nat} : clf f j = 3 ↔ FSG (f j) = true := by
  show clg FSG (f j) = 3 ↔ _
  unfold clg
  by_cases c1 : f j = 10
  · rw [if_pos c1, c1]
    exact ⟨fun q => absurd q (by decide), fun q => absurd q (by decide +kernel)⟩
  rw [if_neg c1]
  by_cases c2 : f j = 32 ∨ f j = 9
  · rw [if_pos c2]
    refine ⟨fun q => absurd q (by decide), fun q => ?_⟩
    rcases c2 with c2 | c2 <;> rw [c2] at q <;> exact absurd q (by decide +kernel)
  rw [if_neg c2]
  by_cases c3 : f j = 58
  · rw [if_pos c3, c3]
    exact ⟨fun q => absurd q (by decide), fun q => absurd q (by decide +kernel)⟩
  rw [if_neg c3]
  by_cases c4 : FSG (f j) = true
  · rw [if_pos c4]
    exact ⟨fun _ => c4, fun _ => rfl⟩
  · rw [if_neg c4]
    exact ⟨fun q => absurd q (by decide), fun q => absurd q c4⟩
theorem fnc_of {f : Nat → Int32} {z a b : Nat} (hb : b ≤ z) : FNM (clf f) a b ↔ FNC (TC f z) a b := by
  have e : ∀ j, j < b → (clf f j = 3 ↔ FSC (TC f z j)) := fun j hj => by
    rw [clf_3, tcn_in (by omega)]
    exact fsc_x _
  constructor
  · rintro ⟨h1, h2, h3⟩
    exact ⟨h1, h2, fun j a1 a2 => (e j a2).mp (h3 j a1 a2)⟩
  · rintro ⟨h1, h2, h3⟩
    exact ⟨h1, h2, fun j a1 a2 => (e j a2).mpr (h3 j a1 a2)⟩
def FRO : List Nat := [102, 114, 111, 109]
def FRM (T : Nat → Nat) (a b : Nat) : Prop := a + 4 = b ∧ ∀ i, i < 4 → smc (T (a + i)) = FRO.getD i 0
theorem smx_cd {x : Int32} {c : Nat} (hc : c < 128) : smv x = nI c ↔ smc (cdv x) = c := by
  by_cases h : cdv x < 128
  · have h9 := cdv_in h
    constructor
    · intro q
      rw [h9, smv_all _ h] at q
      exact (nI_eq (by have h8 := smc_lt h; omega) (by omega)).mp q
    · intro q
      rw [h9, smv_all _ h, q]
  · rw [smv_out h, cdv_200 h, smc_200]
    constructor
    · intro q
      exact absurd (by rw [q, cdv_nI hc]; exact hc) h
    · intro q
      omega
def FRI (T : Nat → Nat) (a b j : Nat) (u : Int32) : Prop := (u = 1 ∧ a + 4 = b ∧ ∀ i, i < j → smc (T (a + i)) = FRO.getD i 0) ∨ (u = 0 ∧ ¬ FRM T a b)
theorem fri_s {T : Nat → Nat} {a b j : Nat} (h : a + 4 = b ∧ ∀ i, i < j → smc (T (a + i)) = FRO.getD i 0) (hj : smc (T (a + j)) = FRO.getD j 0) : FRI T a b (j + 1) 1 := Or.inl ⟨rfl, h.1, fun i hi => by
  rcases Nat.lt_or_ge i j with q | q
  · exact h.2 i q
  · rw [show i = j by omega]
    exact hj⟩
theorem fri_n {T : Nat → Nat} {a b j k : Nat} (hj : j < 4) (hn : ¬ smc (T (a + j)) = FRO.getD j 0) : FRI T a b k 0 := Or.inr ⟨rfl, fun q => hn (q.2 j hj)⟩
theorem fri_1 {T : Nat → Nat} {a b j : Nat} {u : Int32} (h : FRI T a b j u) (c : ¬ u = 0) : u = 1 ∧ a + 4 = b ∧ ∀ i, i < j → smc (T (a + i)) = FRO.getD i 0 := by
  rcases h with h | h
  · exact h
  · exact absurd h.1 c
theorem fri_0 {T : Nat → Nat} {a b j : Nat} {u : Int32} (h : FRI T a b j u) (c : u = 0) : ¬ FRM T a b := by
  rcases h with h | h
  · exact absurd (h.1.symm.trans c) (by decide)
  · exact h.2
theorem fri_e {T : Nat → Nat} {a b : Nat} {u : Int32} (h : FRI T a b 4 u) : (u = 1 ∧ FRM T a b) ∨ (u = 0 ∧ ¬ FRM T a b) := by
  rcases h with h | h
  · exact Or.inl ⟨h.1, h.2⟩
  · exact Or.inr h
def hsg (T : Nat → Nat) (e : Nat) : Nat → Nat → List (Nat × Nat)
  | 0, _ => []
  | k + 1, a => if e < a then [] else (a, fdT T 58 a e) :: hsg T e k (fdT T 58 a e + 1)
theorem hsg_d {T : Nat → Nat} {e a : Nat} (h : e < a) : ∀ k, hsg T e k a = []
  | 0 => rfl
  | _ + 1 => if_pos h
theorem hsg_f {T : Nat → Nat} {e : Nat} : ∀ k m a, e + 1 - a ≤ k → e + 1 - a ≤ m → hsg T e k a = hsg T e m a := by
  intro k
  induction k with
  | zero =>
    intro m a h1 h2
    rw [hsg_d (by omega), hsg_d (by omega)]
  | succ k ih =>
    intro m a h1 h2
    cases m with
    | zero => rw [hsg_d (by omega), hsg_d (by omega)]
    | succ m =>
      by_cases c : e < a
      · rw [hsg_d c, hsg_d c]
      · show (if e < a then [] else (a, fdT T 58 a e) :: hsg T e k (fdT T 58 a e + 1)) = (if e < a then [] else (a, fdT T 58 a e) :: hsg T e m (fdT T 58 a e + 1))
        have h9 := fd_ge (T := T) (c := 58) (a := a) (b := e) (by omega)
        rw [if_neg c, if_neg c, ih m (fdT T 58 a e + 1) (by omega) (by omega)]
def hsG (T : Nat → Nat) (a e : Nat) : List (Nat × Nat) := hsg T e (e + 1 - a) a
theorem hsG_c {T : Nat → Nat} {a e q : Nat} (h : a ≤ e) (hq : fdT T 58 a e = q) : hsG T a e = (a, q) :: hsG T (q + 1) e := by
  have h9 := fd_ge (T := T) (c := 58) (a := a) (b := e) h
  unfold hsG
  rw [show e + 1 - a = (e - a) + 1 by omega]
  show (if e < a then [] else (a, fdT T 58 a e) :: hsg T e (e - a) (fdT T 58 a e + 1)) = _
  rw [if_neg (by omega), hq, hsg_f (e - a) (e + 1 - (q + 1)) (q + 1) (by omega) (by omega)]
theorem hsG_n {T : Nat → Nat} {a e : Nat} (h : e < a) : hsG T a e = [] := hsg_d h _
def HLO (T : Nat → Nat) (a e : Nat) : Prop := (∀ s, s ∈ hsG T a e → FNC T s.1 s.2) ∧ ∃ s, s ∈ hsG T a e ∧ FRM T s.1 s.2
def HLI (T : Nat → Nat) (a e w : Nat) (u : Int32) (pre : List (Nat × Nat)) : Prop := pre ++ hsG T w e = hsG T a e ∧ (∀ s, s ∈ pre → FNC T s.1 s.2) ∧ ((u = 1 ∧ ∃ s, s ∈ pre ∧ FRM T s.1 s.2) ∨ (u = 0 ∧ ∀ s, s ∈ pre → ¬ FRM T s.1 s.2))
theorem hli_0 {T : Nat → Nat} {a e : Nat} : HLI T a e a 0 [] := ⟨rfl, fun s hs => absurd hs List.not_mem_nil, Or.inr ⟨rfl, fun s hs => absurd hs List.not_mem_nil⟩⟩
theorem hli_p {T : Nat → Nat} {a e w q : Nat} {pre : List (Nat × Nat)} {u : Int32} (h : HLI T a e w u pre) (hw : w ≤ e) (hq : fdT T 58 w e = q) : (pre ++ [(w, q)]) ++ hsG T (q + 1) e = hsG T a e := by
  have h1 := h.1
  rw [hsG_c hw hq] at h1
  rw [List.append_assoc]
  exact h1
theorem hli_y {T : Nat → Nat} {a e w q : Nat} {pre : List (Nat × Nat)} {u : Int32} (h : HLI T a e w u pre) (hw : w ≤ e) (hq : fdT T 58 w e = q) (hf : FNC T w q) (hu : (∃ s, s ∈ pre ∧ FRM T s.1 s.2) ∨ FRM T w q) : HLI T a e (q + 1) 1 (pre ++ [(w, q)]) := by
  refine ⟨hli_p h hw hq, fun s hs => ?_, Or.inl ⟨rfl, ?_⟩⟩
  · rcases List.mem_append.mp hs with c | c
    · exact h.2.1 s c
    · rw [List.mem_singleton.mp c]
      exact hf
  · rcases hu with ⟨s, h1, h2⟩ | h1
    · exact ⟨s, List.mem_append.mpr (Or.inl h1), h2⟩
    · exact ⟨(w, q), List.mem_append.mpr (Or.inr (List.mem_singleton.mpr rfl)), h1⟩
theorem hli_z {T : Nat → Nat} {a e w q : Nat} {pre : List (Nat × Nat)} {u : Int32} (h : HLI T a e w u pre) (hw : w ≤ e) (hq : fdT T 58 w e = q) (hf : FNC T w q) (hu : u = 0) (hr : ¬ FRM T w q) : HLI T a e (q + 1) 0 (pre ++ [(w, q)]) := by
  have h9 : ∀ s, s ∈ pre → ¬ FRM T s.1 s.2 := by
    rcases h.2.2 with c | c
    · exact absurd (c.1.symm.trans hu) (by decide)
    · exact c.2
  refine ⟨hli_p h hw hq, fun s hs => ?_, Or.inr ⟨rfl, fun s hs => ?_⟩⟩
  · rcases List.mem_append.mp hs with c | c
    · exact h.2.1 s c
    · rw [List.mem_singleton.mp c]
      exact hf
  · rcases List.mem_append.mp hs with c | c
    · exact h9 s c
    · rw [List.mem_singleton.mp c]
      exact hr
theorem hli_u {T : Nat → Nat} {a e w : Nat} {pre : List (Nat × Nat)} {u : Int32} (h : HLI T a e w u pre) (hu : ¬ u = 0) : ∃ s, s ∈ pre ∧ FRM T s.1 s.2 := by
  rcases h.2.2 with c | c
  · exact c.2
  · exact absurd c.1 hu
theorem hli_n {T : Nat → Nat} {a e w q : Nat} {pre : List (Nat × Nat)} {u : Int32} (h : HLI T a e w u pre) (hw : w ≤ e) (hq : fdT T 58 w e = q) (hf : ¬ FNC T w q) : ¬ HLO T a e := fun c => by
  refine hf (c.1 (w, q) ?_)
  rw [← h.1, hsG_c hw hq]
  exact List.mem_append.mpr (Or.inr List.mem_cons_self)
theorem hli_e {T : Nat → Nat} {a e w : Nat} {pre : List (Nat × Nat)} {u : Int32} (h : HLI T a e w u pre) (hw : e < w) : (u = 1 ∧ HLO T a e) ∨ (u = 0 ∧ ¬ HLO T a e) := by
  obtain ⟨h1, h2, h3⟩ := h
  rw [hsG_n hw, List.append_nil] at h1
  unfold HLO
  rw [← h1]
  rcases h3 with c | c
  · exact Or.inl ⟨c.1, h2, c.2⟩
  · exact Or.inr ⟨c.1, fun q => by obtain ⟨-, s, q1, q2⟩ := q; exact c.2 s q1 q2⟩
def RS2 : List Nat := [114, 115, 97, 45, 115, 104, 97, 50, 53, 54]
def SWB (T : Nat → Nat) (g : Nat → Nat → Nat) (n : Nat) : Prop := TGV T g n [118] [49] ∧ TGV T g n [97] RS2 ∧ NMC T (tgA g (tgR T g [100] n)) (tgB g (tgR T g [100] n)) = true ∧ NMC T (tgA g (tgR T g [115] n)) (tgB g (tgR T g [115] n)) = true ∧ DCD T (tgA g (tgR T g [98, 104] n)) (tgB g (tgR T g [98, 104] n)) 32 ∧ DCD T (tgA g (tgR T g [98] n)) (tgB g (tgR T g [98] n)) 64 ∧ HLO T (tgA g (tgR T g [104] n)) (tgB g (tgR T g [104] n)) ∧ PLO T g n ∧ NOM T g n [108] ∧ NOM T g n [120]
def SWL (T : Nat → Nat) (z : Nat) : Prop := ∃ gg, tgT T z = some gg ∧ SWB T gg.2 gg.1
theorem swl_n {T : Nat → Nat} {z : Nat} {gg : TGG} (h : tgT T z = some gg) (hn : ¬ SWB T gg.2 gg.1) : ¬ SWL T z := fun q => by
  obtain ⟨g2, q1, q2⟩ := q
  obtain rfl := Option.some.inj (h.symm.trans q1)
  exact hn q2
theorem swl_0 {T : Nat → Nat} {z : Nat} (h : tgT T z = none) : ¬ SWL T z := fun q => by
  obtain ⟨g2, q1, q2⟩ := q
  exact nomatch h.symm.trans q1
set_option maxHeartbeats 4000000 in
set_option maxRecDepth 100000 in
theorem s_X7_isNumberOrMisses_e (l : Launch) (dC : Nat → ClassId) (dI : Nat → Nat → Nat) (cs : Nat → ClassId) (ty : TyM) (L : List Nat) (sz : Nat) (F : Nat → va_E) (h0 : Nat) (ρ : Nat) (d : Nat) (δ : Nat) (ea : Nat) (sl : Nat) (sx : Nat) (sy0 : Nat) (sy1 : Nat) (sy2 : Nat) (ke : Nat) (kx : Nat) (ky0 : Nat) (ky1 : Nat) (ky2 : Nat) (w0 : Nat) (w1 : Nat) (w2 : Nat) (w3 : Nat) (w4 : Nat) (w5 : Nat) (w6 : Nat) (w7 : Nat) (w8 : Nat) (tk : Nat) (hs : Nat) (ha : Nat) (hbb : Nat) (hcc : Nat) (pw : Nat) (px : Nat) (py : Nat) (pz : Nat) (pu : Nat) (rsx : Nat) (z : Nat) (nn : Nat) (f : Nat → Int32) (e0 : Nat → Int32) (e1 : Nat → Int32) (e2 : Nat → Int32) (gq : Nat → Nat → Nat) (v0 : Int32) (v1 : Int32) (q : Nat) (v : Nat) (k0 : Nat) (C : Nat → Int32) (ll : List Nat) (hW : WT ty L) (hL_h0 : h0 ∈ L) (hT_h0 : ty h0 = (7, ρ, [d, δ, ea, sl, sx, sy0, sy1, sy2, ke, kx, ky0, ky1, ky2, w0, w1, w2, w3, w4, w5, w6, w7, w8, tk, hs, ha, hbb, hcc, pw, px, py, pz, pu])) (hL_sx : sx ∈ L) (hT_sx : ty sx = (0, ρ + 3, [rsx, 3000])) (hFs : F h0 = .inr (7, [.ref d, .ref sl, .ref ke, .ref w0, .ref w1, .ref w2, .ref w3, .ref w4, .ref w5, .ref w6, .ref w7, .ref w8, .ref tk, .ref hs, .ref pw, .int v0, .int v1])) (hFl : F sl = .inr (9, [.ref sx, .ref sy0, .ref sy1, .ref sy2, .int (nI nn)])) (hFx : F sx = .inr (0, [.ref rsx, .int (nI z), .int 0])) (hFr : F rsx = .inl (cs 16, 3000, .inl f)) (hFy0 : F sy0 = .inl (cs 16, 40, .inl e0)) (hFy1 : F sy1 = .inl (cs 16, 40, .inl e1)) (hFy2 : F sy2 = .inl (cs 16, 40, .inl e2)) (hzn : z ≤ 3000) (hcn : nn ≤ 40) (hhl : HLD e0 e1 e2 nn gq) (hTG : TGI z nn gq) (hCL : CLI C k0 ll) : Met l yX7_isNumberOrMisses (.code yX7_isNumberOrMisses cX7_isNumberOrMisses 2 (some .boolean) :: tb) ({ frames := 7, cells := 0, slots := 0, locals := 153 }) (va_Pc [.ref h0, .ref q] (PTC (dC, dI) cs ty L F sz q v k0 C)) (va_Qi (fun (r : Int32) (_ : Unit) => (r = 1 ∧ NOM (TC f z) gq nn ll) ∨ (r = 0 ∧ ¬ NOM (TC f z) gq nn ll)) (fun _ T9 => ∃ F2 : Nat → va_E, QT (dC, dI) cs ty L [] F F2 (va_A (va_pl L F) sz) T9) (va_A (va_pl L F) sz)) 0 0 (va_A (va_pl L F) sz) := by
  refine Met.ofW (cc := cX7_isNumberOrMisses) (maxL := 2) (ret := (some .boolean)) (by decide) rfl ?_
  intro p e s m args below meth c s₁ B hml hv
  obtain ⟨rfl, ⟨hsz, hP, hK, hD0, hE, hO⟩, hG, hX⟩ := hv
  have hx := B.exec
  have hb := B.bytes
  have hr := B.returns
  have hts : ∀ w ∈ tb, w.before _ s = true := fun w h => atoms_spec (ws := .code yX7_isNumberOrMisses cX7_isNumberOrMisses 2 (some .boolean) :: tb) B.pre w (List.mem_cons_of_mem _ h)
  have hown : s.vm.findClass RX7 = some m.cls := findClass_of_methodNamed B.named
  have hlocks := B.notSynchronized
  subst hsz
  have hD := hD0.self (sz := s.heap.size)
  generalize hAe : va_A (va_pl L F) s.heap.size = A at hD hG hX ⊢
  have hX_q : SX q v k0 A s s.heap := hX.sx
  obtain ⟨xo_q, xc_q, xv_q, xt_q, xn_q⟩ := id hX
  have hA : ∀ q : Nat, s.heap.size ≤ q → A q := fun q h => by rw [← hAe]; exact Or.inr h
  have hS : va_S A s.heap s.heap [] := va_S.rf
  have hR : FR ty [] F F := FR.refl
  have hl := lv_entry ([.ref h0, .ref q]) (n := 2) (Nat.le_of_ble_eq_true rfl)
  rw [lg_entry_eq]
  generalize (lg_sl ([.ref h0, .ref q]) ++ List.replicate (2 - (lg_sl ([.ref h0, .ref q])).length) Slot.unset).toArray = ls at hl ⊢
  have hl : lv_has ls 2 [(0, .ref h0), (1, .ref q)] := hl
  obtain ⟨hi_1, ht_2, hi_3, ht_4, hi_5, ht_6, hi_7, ⟨r_8, ht_9⟩, hi_10, ⟨r_11, ht_12⟩, hi_13, ⟨r_14, ht_15⟩, hi_16, ⟨r_17, ht_18⟩, hi_19, ⟨r_20, ht_21⟩, hi_22, ⟨r_23, ht_24⟩, hi_25, ⟨r_26, ht_27⟩, hi_28, ⟨r_29, ht_30⟩, hi_31, ⟨r_32, ht_33⟩, hi_34, ht_35, hi_36, ht_37, hi_38, ht_39⟩ := hW.slr hL_h0 hT_h0
  obtain ⟨_, hi_40, hi_41, hi_42, _, ht_43, ht_44, ht_45⟩ := hW.tags hi_3 ht_4
  have ht_44 : ty sy1 = (24, ρ + 72, [40]) := ht_44
  have ht_45 : ty sy2 = (24, ρ + 73, [40]) := ht_45
  obtain ⟨hi_46, ht_47, hq_48⟩ := hW.bytes hL_sx hT_sx
  refine lv_aload_n hx hb dX7_isNumberOrMisses_0 rfl (lv_at hl 0 rfl) ?_
  refine pg_get (ci := 7) (v := .ref sl) (C := RX7) (T := TX7) (N := 17) hx hb hts it_7 hown hK hP hL_h0 hFs rfl 1 (by decide) (hts _ kt_307) (fun _ h9 => h9) rfl dX7_isNumberOrMisses_1 ?_
  refine lv_aload_n hx hb dX7_isNumberOrMisses_4 rfl (lv_at hl 1 rfl) ?_
  have hFc := pg_free hD hS hA
  refine va_calli (va_runV (As := [.ref q]) (rest := []) ⟨hx, hb, hml, hown, hts⟩ (s_X9_has_e l dC dI cs ty L s.heap.size F sl (ρ + 2) sx 3000 sy0 sy1 sy2 rsx z nn f e0 e1 e2 gq q v k0 C ll hW hi_3 ht_4 hL_sx hT_sx hFl hFx hFr hFy0 hFy1 hFy2 (hzn) (by omega) (hcn) (hhl) (hTG) (hCL)) ⟨callB_of 1 hts (gi kt_308) rfl rfl rfl (hts _ kt_164) (hts _ kt_309) (by decide +kernel) ⟨Nat.le_of_ble_eq_true rfl, Nat.le_of_ble_eq_true rfl⟩, (hts _ kt_310), (hts _ kt_311)⟩ ⟨fun a U g mk q => ⟨q.1, PTC.calling q.2⟩, pg_recv hK hP hi_3 hFl (q := (RX9, TX9, 5)) rfl, fun U hU hWm => ⟨rfl, PTC.mk hU hWm hP hK hD hE hO hG hX hS hFc⟩⟩ rfl rfl hl.1 rfl (lv_room (Nat.le_of_ble_eq_true rfl)) dX7_isNumberOrMisses_5 ⟨by show _ + 0 ≤ 0; omega, by show _ + 0 ≤ 0; omega⟩) hS (fun q _ h => hFc q h) hFc (fun r_49 u t H1 locs ht hvm hw hB hz1 hk1 hS => ?_)
  obtain ⟨F_50, hB1⟩ := hB
  obtain rfl : F = F_50 := (funext (fun a => hB1.2.2.2 a List.not_mem_nil)).symm
  obtain ⟨hP, hD, hO, hR⟩ := QT.back hB1 ht hFc hR (fun q h => absurd h List.not_mem_nil)
  generalize H1 = H at hP hS ⊢
  have hw : (r_49 = 1 ∧ TGE (TC f z) gq nn ll) ∨ (r_49 = 0 ∧ ¬ TGE (TC f z) gq nn ll) := hw
  have hw_51 := hw
  refine lv_if_eq (tgt := 22) hx hb dX7_isNumberOrMisses_8 (by decide) (fun c_52 => ?_) (fun c_52 => ?_)
  ·
    refine lv_iconst (v := 1) hx hb dX7_isNumberOrMisses_22 (by decide) ?_
    refine lv_goto (tgt := 27) hx hb dX7_isNumberOrMisses_23 (by decide) ?_
    refine W.widen (k := 0) (n := 0) (by omega) (by omega) ?_
    exact W.zret (v := 1) (ty := .boolean) hx hb hr (by decide) (fun t ht hWm => ⟨⟨1, (), rfl, (Or.inl ⟨rfl, Or.inl (nom_h (orp0 hw_51 c_52))⟩), ⟨F, QT.mk ht hP hD hO hR⟩⟩, hS.F ht⟩) hS.2.2 dX7_isNumberOrMisses_27
  ·
    refine lv_aload_n hx hb dX7_isNumberOrMisses_11 rfl (lv_at hl 0 rfl) ?_
    refine pg_get (ci := 7) (v := .ref sl) (C := RX7) (T := TX7) (N := 17) hx hb hts it_7 hown hK hP hL_h0 hFs rfl 1 (by decide) (hts _ kt_307) (fun _ h9 => h9) rfl dX7_isNumberOrMisses_12 ?_
    refine lv_aload_n hx hb dX7_isNumberOrMisses_15 rfl (lv_at hl 1 rfl) ?_
    have hFc := pg_free hD hS hA
    refine va_calli (va_runV (As := [.ref q]) (rest := []) ⟨hx, hb, hml, hown, hts⟩ (s_X9_numberAt_e l dC dI cs ty L H.size F sl (ρ + 2) sx 3000 sy0 sy1 sy2 rsx z nn f e0 e1 e2 gq q v k0 C ll hW hi_3 ht_4 hL_sx hT_sx hFl hFx hFr hFy0 hFy1 hFy2 (hzn) (by omega) (hcn) (hhl) (hTG) (hCL)) ⟨callB_of 1 hts (gi kt_312) rfl rfl rfl (hts _ kt_164) (hts _ kt_313) (by decide +kernel) ⟨Nat.le_of_ble_eq_true rfl, Nat.le_of_ble_eq_true rfl⟩, (hts _ kt_314), (hts _ kt_315)⟩ ⟨fun a U g mk q => ⟨q.1, PTC.calling q.2⟩, pg_recv hK hP hi_3 hFl (q := (RX9, TX9, 5)) rfl, fun U hU hWm => ⟨rfl, PTC.mk hU hWm hP hK hD hE hO hG hX hS hFc⟩⟩ rfl rfl hl.1 rfl (lv_room (Nat.le_of_ble_eq_true rfl)) dX7_isNumberOrMisses_16 ⟨by show _ + 0 ≤ 0; omega, by show _ + 0 ≤ 0; omega⟩) hS (fun q _ h => hFc q h) hFc (fun r_53 u t H1 locs ht hvm hw hB hz1 hk1 hS => ?_)
    obtain ⟨F_54, hB1⟩ := hB
    obtain rfl : F = F_54 := (funext (fun a => hB1.2.2.2 a List.not_mem_nil)).symm
    obtain ⟨hP, hD, hO, hR⟩ := QT.back hB1 ht hFc hR (fun q h => absurd h List.not_mem_nil)
    generalize H1 = H at hP hS ⊢
    have hw : r_53 = nbv (tgM (TC f z) gq (tgR (TC f z) gq ll nn)) := hw
    have hw_55 := hw
    refine lv_if_lt (tgt := 26) hx hb dX7_isNumberOrMisses_19 (by decide) (fun c_56 => ?_) (fun c_56 => ?_)
    ·
      refine lv_iconst (v := 0) hx hb dX7_isNumberOrMisses_26 (by decide) ?_
      refine W.widen (k := 0) (n := 0) (by omega) (by omega) ?_
      exact W.zret (v := 0) (ty := .boolean) hx hb hr (by decide) (fun t ht hWm => ⟨⟨0, (), rfl, (Or.inr ⟨rfl, fun q => q.elim (fun q => tge_R.mp (orp1 hw_51 c_52) q) (fun q => q (nbv_m tgM_lt (by rw [← hw_55]; exact c_56)))⟩), ⟨F, QT.mk ht hP hD hO hR⟩⟩, hS.F ht⟩) hS.2.2 dX7_isNumberOrMisses_27
    ·
      refine lv_iconst (v := 1) hx hb dX7_isNumberOrMisses_22 (by decide) ?_
      refine lv_goto (tgt := 27) hx hb dX7_isNumberOrMisses_23 (by decide) ?_
      refine W.widen (k := 0) (n := 0) (by omega) (by omega) ?_
      exact W.zret (v := 1) (ty := .boolean) hx hb hr (by decide) (fun t ht hWm => ⟨⟨1, (), rfl, (Or.inl ⟨rfl, Or.inr (fun q => c_56 (by rw [hw_55, q]; show (-1 : Int32) < 0; decide))⟩), ⟨F, QT.mk ht hP hD hO hR⟩⟩, hS.F ht⟩) hS.2.2 dX7_isNumberOrMisses_27
set_option maxHeartbeats 4000000 in
set_option maxRecDepth 100000 in
theorem s_X7_readPlainness_e (l : Launch) (dC : Nat → ClassId) (dI : Nat → Nat → Nat) (cs : Nat → ClassId) (ty : TyM) (L : List Nat) (sz : Nat) (F : Nat → va_E) (h0 : Nat) (ρ : Nat) (d : Nat) (δ : Nat) (ea : Nat) (sl : Nat) (sx : Nat) (sy0 : Nat) (sy1 : Nat) (sy2 : Nat) (ke : Nat) (kx : Nat) (ky0 : Nat) (ky1 : Nat) (ky2 : Nat) (w0 : Nat) (w1 : Nat) (w2 : Nat) (w3 : Nat) (w4 : Nat) (w5 : Nat) (w6 : Nat) (w7 : Nat) (w8 : Nat) (tk : Nat) (hs : Nat) (ha : Nat) (hbb : Nat) (hcc : Nat) (pw : Nat) (px : Nat) (py : Nat) (pz : Nat) (pu : Nat) (rsx : Nat) (z : Nat) (nn : Nat) (f : Nat → Int32) (e0 : Nat → Int32) (e1 : Nat → Int32) (e2 : Nat → Int32) (gq : Nat → Nat → Nat) (v0 : Int32) (v1 : Int32) (hW : WT ty L) (hL_h0 : h0 ∈ L) (hT_h0 : ty h0 = (7, ρ, [d, δ, ea, sl, sx, sy0, sy1, sy2, ke, kx, ky0, ky1, ky2, w0, w1, w2, w3, w4, w5, w6, w7, w8, tk, hs, ha, hbb, hcc, pw, px, py, pz, pu])) (hL_sx : sx ∈ L) (hT_sx : ty sx = (0, ρ + 3, [rsx, 3000])) (hFs : F h0 = .inr (7, [.ref d, .ref sl, .ref ke, .ref w0, .ref w1, .ref w2, .ref w3, .ref w4, .ref w5, .ref w6, .ref w7, .ref w8, .ref tk, .ref hs, .ref pw, .int v0, .int v1])) (hFl : F sl = .inr (9, [.ref sx, .ref sy0, .ref sy1, .ref sy2, .int (nI nn)])) (hFx : F sx = .inr (0, [.ref rsx, .int (nI z), .int 0])) (hFr : F rsx = .inl (cs 16, 3000, .inl f)) (hFy0 : F sy0 = .inl (cs 16, 40, .inl e0)) (hFy1 : F sy1 = .inl (cs 16, 40, .inl e1)) (hFy2 : F sy2 = .inl (cs 16, 40, .inl e2)) (hzn : z ≤ 3000) (hcn : nn ≤ 40) (hhl : HLD e0 e1 e2 nn gq) (hTG : TGI z nn gq) : Met l yX7_readPlainness (.code yX7_readPlainness cX7_readPlainness 4 (some .boolean) :: tb) ({ frames := 7, cells := 0, slots := 0, locals := 153 }) (va_Pc [.ref h0] (PTE (dC, dI) cs ty L F sz [])) (va_Qi (fun (r : Int32) (_ : Unit) => (r = 1 ∧ PLO (TC f z) gq nn) ∨ (r = 0 ∧ ¬ PLO (TC f z) gq nn)) (fun _ T9 => ∃ F2 : Nat → va_E, QT (dC, dI) cs ty L [ρ] F F2 (va_A (va_pl L F) sz) T9 ∧ F2 h0 = .inr (7, [.ref d, .ref sl, .ref ke, .ref w0, .ref w1, .ref w2, .ref w3, .ref w4, .ref w5, .ref w6, .ref w7, .ref w8, .ref tk, .ref hs, .ref pw, .int (frx (TC f z) gq nn), .int (brx (TC f z) gq nn)])) (va_A (va_pl L F) sz)) 0 0 (va_A (va_pl L F) sz) := by
  refine Met.ofW (cc := cX7_readPlainness) (maxL := 4) (ret := (some .boolean)) (by decide) rfl ?_
  intro p e s m args below meth c s₁ B hml hv
  obtain ⟨rfl, ⟨hsz, hP, hK, hD0, hE, hO⟩, hG, hX⟩ := hv
  have hx := B.exec
  have hb := B.bytes
  have hr := B.returns
  have hts : ∀ w ∈ tb, w.before _ s = true := fun w h => atoms_spec (ws := .code yX7_readPlainness cX7_readPlainness 4 (some .boolean) :: tb) B.pre w (List.mem_cons_of_mem _ h)
  have hown : s.vm.findClass RX7 = some m.cls := findClass_of_methodNamed B.named
  have hlocks := B.notSynchronized
  subst hsz
  have hD := hD0.self (sz := s.heap.size)
  generalize hAe : va_A (va_pl L F) s.heap.size = A at hD hG hX ⊢
  have hA : ∀ q : Nat, s.heap.size ≤ q → A q := fun q h => by rw [← hAe]; exact Or.inr h
  have hS : va_S A s.heap s.heap [] := va_S.rf
  have hR : FR ty [ρ] F F := FR.refl
  have hl := lv_entry ([.ref h0]) (n := 4) (Nat.le_of_ble_eq_true rfl)
  rw [lg_entry_eq]
  generalize (lg_sl ([.ref h0]) ++ List.replicate (4 - (lg_sl ([.ref h0])).length) Slot.unset).toArray = ls at hl ⊢
  have hl : lv_has ls 4 [(0, .ref h0)] := hl
  obtain ⟨hi_1, ht_2, hi_3, ht_4, hi_5, ht_6, hi_7, ⟨r_8, ht_9⟩, hi_10, ⟨r_11, ht_12⟩, hi_13, ⟨r_14, ht_15⟩, hi_16, ⟨r_17, ht_18⟩, hi_19, ⟨r_20, ht_21⟩, hi_22, ⟨r_23, ht_24⟩, hi_25, ⟨r_26, ht_27⟩, hi_28, ⟨r_29, ht_30⟩, hi_31, ⟨r_32, ht_33⟩, hi_34, ht_35, hi_36, ht_37, hi_38, ht_39⟩ := hW.slr hL_h0 hT_h0
  obtain ⟨_, hi_40, hi_41, hi_42, _, ht_43, ht_44, ht_45⟩ := hW.tags hi_3 ht_4
  have ht_44 : ty sy1 = (24, ρ + 72, [40]) := ht_44
  have ht_45 : ty sy2 = (24, ρ + 73, [40]) := ht_45
  obtain ⟨hi_46, ht_47, hq_48⟩ := hW.bytes hL_sx hT_sx
  refine lv_aload_n hx hb dX7_readPlainness_0 rfl (lv_at hl 0 rfl) ?_
  refine lv_iconst (v := 0) hx hb dX7_readPlainness_1 (by decide) ?_
  refine pg_put (ci := 7) (v := .int 0) (ty := .boolean) (C := RX7) (T := TX7) (N := 17) hx hb hts it_7 tyX7 tyX7_ok nmX7 hown hK hP hD hS hL_h0 hFs rfl 15 (by decide) (hts _ kt_326) (fun _ h9 => h9) rfl (by decide +kernel) (rfl) (rfl) (Nat.le_of_ble_eq_true rfl) dX7_readPlainness_2 (fun H locs hP hD hS => ?_)
  obtain ⟨F_49, he_50, hP, hD, hO, hR⟩ : ∃ G, G = va_up F h0 (.inr (7, [.ref d, .ref sl, .ref ke, .ref w0, .ref w1, .ref w2, .ref w3, .ref w4, .ref w5, .ref w6, .ref w7, .ref w8, .ref tk, .ref hs, .ref pw, .int 0, .int v1])) ∧ va_P (dC, dI) vwCl (va_pl L G) H ∧ va_D A (va_pl L G) ∧ OK cs ty L G ∧ FR ty [ρ] F G := ⟨_, rfl, hP, hD, hO.up (sh.slr hT_h0 ⟨0, v1, rfl⟩), hR.up hT_h0 (by simp)⟩
  have hF_51 : F_49 h0 = .inr (7, [.ref d, .ref sl, .ref ke, .ref w0, .ref w1, .ref w2, .ref w3, .ref w4, .ref w5, .ref w6, .ref w7, .ref w8, .ref tk, .ref hs, .ref pw, .int 0, .int v1]) := by rw [he_50]; exact up_self
  have hF_52 : F_49 sl = .inr (9, [.ref sx, .ref sy0, .ref sy1, .ref sy2, .int (nI nn)]) := by rw [he_50, up_ne (ne_ty ht_4 hT_h0 (by simp))]; exact hFl
  have hF_53 : F_49 sx = .inr (0, [.ref rsx, .int (nI z), .int 0]) := by rw [he_50, up_ne (ne_ty hT_sx hT_h0 (by simp))]; exact hFx
  have hF_54 : F_49 rsx = .inl (cs 16, 3000, .inl f) := by rw [he_50, up_ne (ne_ty ht_47 hT_h0 (by simp))]; exact hFr
  have hF_55 : F_49 sy0 = .inl (cs 16, 40, .inl e0) := by rw [he_50, up_ne (ne_ty ht_43 hT_h0 (by simp))]; exact hFy0
  have hF_56 : F_49 sy1 = .inl (cs 16, 40, .inl e1) := by rw [he_50, up_ne (ne_ty ht_44 hT_h0 (by simp))]; exact hFy1
  have hF_57 : F_49 sy2 = .inl (cs 16, 40, .inl e2) := by rw [he_50, up_ne (ne_ty ht_45 hT_h0 (by simp))]; exact hFy2
  refine lv_aload_n hx hb dX7_readPlainness_5 rfl (lv_at hl 0 rfl) ?_
  refine lv_iconst (v := 0) hx hb dX7_readPlainness_6 (by decide) ?_
  refine pg_put (ci := 7) (v := .int 0) (ty := .boolean) (C := RX7) (T := TX7) (N := 17) hx hb hts it_7 tyX7 tyX7_ok nmX7 hown hK hP hD hS hL_h0 hF_51 rfl 16 (by decide) (hts _ kt_327) (fun _ h9 => h9) rfl (by decide +kernel) (rfl) (rfl) (Nat.le_of_ble_eq_true rfl) dX7_readPlainness_7 (fun H locs hP hD hS => ?_)
  obtain ⟨F_58, he_59, hP, hD, hO, hR⟩ : ∃ G, G = va_up F_49 h0 (.inr (7, [.ref d, .ref sl, .ref ke, .ref w0, .ref w1, .ref w2, .ref w3, .ref w4, .ref w5, .ref w6, .ref w7, .ref w8, .ref tk, .ref hs, .ref pw, .int 0, .int 0])) ∧ va_P (dC, dI) vwCl (va_pl L G) H ∧ va_D A (va_pl L G) ∧ OK cs ty L G ∧ FR ty [ρ] F G := ⟨_, rfl, hP, hD, hO.up (sh.slr hT_h0 ⟨0, 0, rfl⟩), hR.up hT_h0 (by simp)⟩
  have hF_60 : F_58 h0 = .inr (7, [.ref d, .ref sl, .ref ke, .ref w0, .ref w1, .ref w2, .ref w3, .ref w4, .ref w5, .ref w6, .ref w7, .ref w8, .ref tk, .ref hs, .ref pw, .int 0, .int 0]) := by rw [he_59]; exact up_self
  have hF_61 : F_58 sl = .inr (9, [.ref sx, .ref sy0, .ref sy1, .ref sy2, .int (nI nn)]) := by rw [he_59, up_ne (ne_ty ht_4 hT_h0 (by simp))]; exact hF_52
  have hF_62 : F_58 sx = .inr (0, [.ref rsx, .int (nI z), .int 0]) := by rw [he_59, up_ne (ne_ty hT_sx hT_h0 (by simp))]; exact hF_53
  have hF_63 : F_58 rsx = .inl (cs 16, 3000, .inl f) := by rw [he_59, up_ne (ne_ty ht_47 hT_h0 (by simp))]; exact hF_54
  have hF_64 : F_58 sy0 = .inl (cs 16, 40, .inl e0) := by rw [he_59, up_ne (ne_ty ht_43 hT_h0 (by simp))]; exact hF_55
  have hF_65 : F_58 sy1 = .inl (cs 16, 40, .inl e1) := by rw [he_59, up_ne (ne_ty ht_44 hT_h0 (by simp))]; exact hF_56
  have hF_66 : F_58 sy2 = .inl (cs 16, 40, .inl e2) := by rw [he_59, up_ne (ne_ty ht_45 hT_h0 (by simp))]; exact hF_57
  refine lv_aload_n hx hb dX7_readPlainness_10 rfl (lv_at hl 0 rfl) ?_
  refine pg_get (ci := 7) (v := .ref sl) (C := RX7) (T := TX7) (N := 17) hx hb hts it_7 hown hK hP hL_h0 hF_60 rfl 1 (by decide) (hts _ kt_307) (fun _ h9 => h9) rfl dX7_readPlainness_11 ?_
  obtain ⟨q_67, v_68, hr_q_67, hXc_q_67⟩ := hG.2.2.2.2 ("PostGate$Sealer", 190, "c", [99]) (by decide +kernel)
  have hXc_q_67 : SXc q_67 v_68 1 (cct [99]) A s s.heap := hXc_q_67
  have hX_q_67 : SX q_67 v_68 1 A s s.heap := hXc_q_67.sx
  obtain ⟨xo_q_67, xc_q_67, xv_q_67, xt_q_67, xn_q_67⟩ := id hXc_q_67
  have hr_q_67 : vk_R "PostGate$Sealer" 190 "c" q_67 s := hr_q_67
  refine va_ldcS hx hb hown hr_q_67 dX7_readPlainness_14 ?_
  have hFc := pg_free hD hS hA
  refine va_calli (va_runV (As := [.ref q_67]) (rest := []) ⟨hx, hb, hml, hown, hts⟩ (s_X9_has_e l dC dI cs ty L H.size F_58 sl (ρ + 2) sx 3000 sy0 sy1 sy2 rsx z nn f e0 e1 e2 gq q_67 v_68 1 (cct [99]) ([99]) hW hi_3 ht_4 hL_sx hT_sx hF_61 hF_62 hF_63 hF_64 hF_65 hF_66 (hzn) (by omega) (hcn) (hhl) (hTG) (⟨rfl, by decide +kernel⟩)) ⟨callB_of 1 hts (gi kt_308) rfl rfl rfl (hts _ kt_164) (hts _ kt_309) (by decide +kernel) ⟨Nat.le_of_ble_eq_true rfl, Nat.le_of_ble_eq_true rfl⟩, (hts _ kt_310), (hts _ kt_311)⟩ ⟨fun a U g mk q => ⟨q.1, PTC.calling q.2⟩, pg_recv hK hP hi_3 hF_61 (q := (RX9, TX9, 5)) rfl, fun U hU hWm => ⟨rfl, PTC.mk hU hWm hP hK hD hE hO hG hXc_q_67 hS hFc⟩⟩ rfl rfl hl.1 rfl (lv_room (Nat.le_of_ble_eq_true rfl)) dX7_readPlainness_16 ⟨by show _ + 0 ≤ 0; omega, by show _ + 0 ≤ 0; omega⟩) hS (fun q _ h => hFc q h) hFc (fun r_69 u t H1 locs ht hvm hw hB hz1 hk1 hS => ?_)
  obtain ⟨F_70, hB1⟩ := hB
  obtain rfl : F_58 = F_70 := (funext (fun a => hB1.2.2.2 a List.not_mem_nil)).symm
  obtain ⟨hP, hD, hO, hR⟩ := QT.back hB1 ht hFc hR (fun q h => absurd h List.not_mem_nil)
  generalize H1 = H at hP hS ⊢
  have hw : (r_69 = 1 ∧ TGE (TC f z) gq nn [99]) ∨ (r_69 = 0 ∧ ¬ TGE (TC f z) gq nn [99]) := hw
  have hw_71 := hw
  refine lv_if_ne (tgt := 24) hx hb dX7_readPlainness_19 (by decide) (fun c_72 => ?_) (fun c_72 => ?_)
  ·
    have hcn1 : ¬ (tgR (TC f z) gq [99] nn) = none := tge_R.mp (orp1 hw_71 c_72)
    refine lv_aload_n hx hb dX7_readPlainness_24 rfl (lv_at hl 0 rfl) ?_
    refine pg_get (ci := 7) (v := .ref sl) (C := RX7) (T := TX7) (N := 17) hx hb hts it_7 hown hK hP hL_h0 hF_60 rfl 1 (by decide) (hts _ kt_307) (fun _ h9 => h9) rfl dX7_readPlainness_25 ?_
    refine va_ldcS hx hb hown hr_q_67 dX7_readPlainness_28 ?_
    have hFc := pg_free hD hS hA
    refine va_calli (va_runV (As := [.ref q_67]) (rest := []) ⟨hx, hb, hml, hown, hts⟩ (s_X9_endOf_e l dC dI cs ty L H.size F_58 sl (ρ + 2) sx 3000 sy0 sy1 sy2 rsx z nn f e0 e1 e2 gq q_67 v_68 1 (cct [99]) ([99]) hW hi_3 ht_4 hL_sx hT_sx hF_61 hF_62 hF_63 hF_64 hF_65 hF_66 (hzn) (by omega) (hcn) (hhl) (hTG) (⟨rfl, by decide +kernel⟩)) ⟨callB_of 1 hts (gi kt_174) rfl rfl rfl (hts _ kt_164) (hts _ kt_319) (by decide +kernel) ⟨Nat.le_of_ble_eq_true rfl, Nat.le_of_ble_eq_true rfl⟩, (hts _ kt_176), (hts _ kt_177)⟩ ⟨fun a U g mk q => ⟨q.1, PTC.calling q.2⟩, pg_recv hK hP hi_3 hF_61 (q := (RX9, TX9, 5)) rfl, fun U hU hWm => ⟨rfl, PTC.mk hU hWm hP hK hD hE hO hG hXc_q_67 hS hFc⟩⟩ rfl rfl hl.1 rfl (lv_room (Nat.le_of_ble_eq_true rfl)) dX7_readPlainness_30 ⟨by show _ + 0 ≤ 0; omega, by show _ + 0 ≤ 0; omega⟩) hS (fun q _ h => hFc q h) hFc (fun r_73 u t H1 locs ht hvm hw hB hz1 hk1 hS => ?_)
    obtain ⟨F_74, hB1⟩ := hB
    obtain rfl : F_58 = F_74 := (funext (fun a => hB1.2.2.2 a List.not_mem_nil)).symm
    obtain ⟨hP, hD, hO, hR⟩ := QT.back hB1 ht hFc hR (fun q h => absurd h List.not_mem_nil)
    generalize H1 = H at hP hS ⊢
    have hw : r_73 = nI (tgB gq (tgR (TC f z) gq [99] nn)) := hw
    have hw_75 := hw
    have hq9 : r_73 = nI (cB (TC f z) gq nn) := hw_75
    subst hq9
    refine lv_istore_n (lv' := [(1, .int (nI (cB (TC f z) gq nn))), (0, .ref h0)]) hx hb dX7_readPlainness_33 rfl hl (by decide) rfl (fun ls hl => ?_)
    refine lv_aload_n hx hb dX7_readPlainness_34 rfl (lv_at hl 1 rfl) ?_
    refine pg_get (ci := 7) (v := .ref sl) (C := RX7) (T := TX7) (N := 17) hx hb hts it_7 hown hK hP hL_h0 hF_60 rfl 1 (by decide) (hts _ kt_307) (fun _ h9 => h9) rfl dX7_readPlainness_35 ?_
    refine va_ldcS hx hb hown hr_q_67 dX7_readPlainness_38 ?_
    have hFc := pg_free hD hS hA
    refine va_calli (va_runV (As := [.ref q_67]) (rest := []) ⟨hx, hb, hml, hown, hts⟩ (s_X9_startOf_e l dC dI cs ty L H.size F_58 sl (ρ + 2) sx 3000 sy0 sy1 sy2 rsx z nn f e0 e1 e2 gq q_67 v_68 1 (cct [99]) ([99]) hW hi_3 ht_4 hL_sx hT_sx hF_61 hF_62 hF_63 hF_64 hF_65 hF_66 (hzn) (by omega) (hcn) (hhl) (hTG) (⟨rfl, by decide +kernel⟩)) ⟨callB_of 1 hts (gi kt_170) rfl rfl rfl (hts _ kt_164) (hts _ kt_318) (by decide +kernel) ⟨Nat.le_of_ble_eq_true rfl, Nat.le_of_ble_eq_true rfl⟩, (hts _ kt_172), (hts _ kt_173)⟩ ⟨fun a U g mk q => ⟨q.1, PTC.calling q.2⟩, pg_recv hK hP hi_3 hF_61 (q := (RX9, TX9, 5)) rfl, fun U hU hWm => ⟨rfl, PTC.mk hU hWm hP hK hD hE hO hG hXc_q_67 hS hFc⟩⟩ rfl rfl hl.1 rfl (lv_room (Nat.le_of_ble_eq_true rfl)) dX7_readPlainness_40 ⟨by show _ + 0 ≤ 0; omega, by show _ + 0 ≤ 0; omega⟩) hS (fun q _ h => hFc q h) hFc (fun r_76 u t H1 locs ht hvm hw hB hz1 hk1 hS => ?_)
    obtain ⟨F_77, hB1⟩ := hB
    obtain rfl : F_58 = F_77 := (funext (fun a => hB1.2.2.2 a List.not_mem_nil)).symm
    obtain ⟨hP, hD, hO, hR⟩ := QT.back hB1 ht hFc hR (fun q h => absurd h List.not_mem_nil)
    generalize H1 = H at hP hS ⊢
    have hw : r_76 = nI (tgA gq (tgR (TC f z) gq [99] nn)) := hw
    have hw_78 := hw
    have hq9 : r_76 = nI (cA (TC f z) gq nn) := hw_78
    subst hq9
    refine lv_istore_n (lv' := [(2, .int (nI (cA (TC f z) gq nn))), (1, .int (nI (cB (TC f z) gq nn))), (0, .ref h0)]) hx hb dX7_readPlainness_43 rfl hl (by decide) rfl (fun ls hl => ?_)
    obtain ⟨hab9, hbz9⟩ : (cA (TC f z) gq nn) ≤ (cB (TC f z) gq nn) ∧ (cB (TC f z) gq nn) ≤ z := tgAB (T := (TC f z)) (l := [99]) hTG
    refine lv_aload_n hx hb dX7_readPlainness_44 rfl (lv_at hl 2 rfl) ?_
    refine pg_get (ci := 7) (v := .ref sl) (C := RX7) (T := TX7) (N := 17) hx hb hts it_7 hown hK hP hL_h0 hF_60 rfl 1 (by decide) (hts _ kt_307) (fun _ h9 => h9) rfl dX7_readPlainness_45 ?_
    refine pg_getN (ci := 9) (v := .ref sx) (C := RX9) (T := TX9) (N := 5) hx hb hts it_9 hown hK hP hi_3 hF_61 rfl 0 (by decide) (hE.nest kn_7) (fun _ h9 => h9) rfl dX7_readPlainness_48 ?_
    refine lv_bipush (v := 47) hx hb dX7_readPlainness_51 (by decide) ?_
    refine lv_iload_n hx hb dX7_readPlainness_53 rfl (lv_at hl 0 rfl) ?_
    refine lv_iload_n hx hb dX7_readPlainness_54 rfl (lv_at hl 1 rfl) ?_
    have hFc := pg_free hD hS hA
    refine va_calli (va_runV (As := [.int 47, .int (nI (cA (TC f z) gq nn)), .int (nI (cB (TC f z) gq nn))]) (rest := []) ⟨hx, hb, hml, hown, hts⟩ (s_X0_find_g l dC dI cs ty L H.size F_58 sx (ρ + 3) rsx 3000 z (cA (TC f z) gq nn) (cB (TC f z) gq nn) f 47 hW hL_sx hT_sx hF_62 hF_63 (by omega) (by omega) (hab9) (hbz9)) ⟨callB_of 3 hts (gi kt_122) rfl rfl rfl (hts _ kt_1) (hts _ kt_328) (by decide +kernel) ⟨Nat.le_of_ble_eq_true rfl, Nat.le_of_ble_eq_true rfl⟩, (hts _ kt_124), (hts _ kt_125)⟩ ⟨fun a U g mk q => ⟨q.1, PT.calling q.2⟩, pg_recv hK hP hL_sx hF_62 (q := (RX0, TX0, 3)) rfl, fun U hU hWm => ⟨rfl, PT.mk hU hWm hP hK hD hE hO⟩⟩ rfl rfl hl.1 rfl (lv_room (Nat.le_of_ble_eq_true rfl)) dX7_readPlainness_55 ⟨by show _ + 0 ≤ 0; omega, by show _ + 0 ≤ 0; omega⟩) hS (fun q _ h => hFc q h) hFc (fun r_79 u t H1 locs ht hvm hw hB hz1 hk1 hS => ?_)
    obtain ⟨F_80, hB1⟩ := hB
    obtain rfl : F_58 = F_80 := (funext (fun a => hB1.2.2.2 a List.not_mem_nil)).symm
    obtain ⟨hP, hD, hO, hR⟩ := QT.back hB1 ht hFc hR (fun q h => absurd h List.not_mem_nil)
    generalize H1 = H at hP hS ⊢
    have hw : (∃ k : Nat, r_79 = nI k ∧ FSX f 47 (cA (TC f z) gq nn) (cB (TC f z) gq nn) k) := hw
    have hw_81 := hw
    obtain ⟨k9, hk9, hfs⟩ := hw_81
    obtain rfl : (cS (TC f z) gq nn) = k9 := (fd_of (c := 47) hfs hbz9 (by omega)).symm
    subst hk9
    have hfl : (cA (TC f z) gq nn) ≤ (cS (TC f z) gq nn) ∧ (cS (TC f z) gq nn) ≤ (cB (TC f z) gq nn) := fd_ge hab9
    refine lv_istore_n (lv' := [(3, .int (nI (cS (TC f z) gq nn))), (2, .int (nI (cA (TC f z) gq nn))), (1, .int (nI (cB (TC f z) gq nn))), (0, .ref h0)]) hx hb dX7_readPlainness_58 rfl hl (by decide) rfl (fun ls hl => ?_)
    refine lv_aload_n hx hb dX7_readPlainness_59 rfl (lv_at hl 3 rfl) ?_
    refine lv_aload_n hx hb dX7_readPlainness_60 rfl (lv_at hl 3 rfl) ?_
    refine pg_get (ci := 7) (v := .ref sl) (C := RX7) (T := TX7) (N := 17) hx hb hts it_7 hown hK hP hL_h0 hF_60 rfl 1 (by decide) (hts _ kt_307) (fun _ h9 => h9) rfl dX7_readPlainness_61 ?_
    refine pg_getN (ci := 9) (v := .ref sx) (C := RX9) (T := TX9) (N := 5) hx hb hts it_9 hown hK hP hi_3 hF_61 rfl 0 (by decide) (hE.nest kn_7) (fun _ h9 => h9) rfl dX7_readPlainness_64 ?_
    refine lv_iload_n hx hb dX7_readPlainness_67 rfl (lv_at hl 1 rfl) ?_
    refine lv_iload_n hx hb dX7_readPlainness_68 rfl (lv_at hl 0 rfl) ?_
    obtain ⟨q_82, v_83, hr_q_82, hXc_q_82⟩ := hG.2.2.2.2 ("PostGate$Sealer", 196, "relaxed", [114, 101, 108, 97, 120, 101, 100]) (by decide +kernel)
    have hXc_q_82 : SXc q_82 v_83 7 (cct [114, 101, 108, 97, 120, 101, 100]) A s s.heap := hXc_q_82
    have hX_q_82 : SX q_82 v_83 7 A s s.heap := hXc_q_82.sx
    obtain ⟨xo_q_82, xc_q_82, xv_q_82, xt_q_82, xn_q_82⟩ := id hXc_q_82
    have hr_q_82 : vk_R "PostGate$Sealer" 196 "relaxed" q_82 s := hr_q_82
    refine va_ldcS hx hb hown hr_q_82 dX7_readPlainness_69 ?_
    have hFc := pg_free hD hS hA
    refine va_calli (va_runV (As := [.int (nI (cA (TC f z) gq nn)), .int (nI (cS (TC f z) gq nn)), .ref q_82]) (rest := [.ref h0]) ⟨hx, hb, hml, hown, hts⟩ (s_X0_is_e l dC dI cs ty L H.size F_58 sx (ρ + 3) rsx 3000 q_82 v_83 7 (cct [114, 101, 108, 97, 120, 101, 100]) z (cA (TC f z) gq nn) (cS (TC f z) gq nn) f RLX hW hL_sx hT_sx hF_62 hF_63 (by omega) (by omega) (hfl.1) (by omega) (⟨rfl, by decide +kernel⟩)) ⟨callB_of 3 hts (gi kt_79) rfl rfl rfl (hts _ kt_1) (hts _ kt_329) (by decide +kernel) ⟨Nat.le_of_ble_eq_true rfl, Nat.le_of_ble_eq_true rfl⟩, (hts _ kt_81), (hts _ kt_82)⟩ ⟨fun a U g mk q => ⟨q.1, PTC.calling q.2⟩, pg_recv hK hP hL_sx hF_62 (q := (RX0, TX0, 3)) rfl, fun U hU hWm => ⟨rfl, PTC.mk hU hWm hP hK hD hE hO hG hXc_q_82 hS hFc⟩⟩ rfl rfl hl.1 rfl (lv_room (Nat.le_of_ble_eq_true rfl)) dX7_readPlainness_71 ⟨by show _ + 0 ≤ 0; omega, by show _ + 0 ≤ 0; omega⟩) hS (fun q _ h => hFc q h) hFc (fun r_84 u t H1 locs ht hvm hw hB hz1 hk1 hS => ?_)
    obtain ⟨F_85, hB1⟩ := hB
    obtain rfl : F_58 = F_85 := (funext (fun a => hB1.2.2.2 a List.not_mem_nil)).symm
    obtain ⟨hP, hD, hO, hR⟩ := QT.back hB1 ht hFc hR (fun q h => absurd h List.not_mem_nil)
    generalize H1 = H at hP hS ⊢
    have hw : (r_84 = 1 ∧ ((cA (TC f z) gq nn) + 7 = (cS (TC f z) gq nn) ∧ LIT (TC f z) (cA (TC f z) gq nn) RLX)) ∨ (r_84 = 0 ∧ ¬ ((cA (TC f z) gq nn) + 7 = (cS (TC f z) gq nn) ∧ LIT (TC f z) (cA (TC f z) gq nn) RLX)) := hw
    have hw_86 := hw
    have hs1 : (r_84 = 1 ∧ ISL (TC f z) (cA (TC f z) gq nn) (cS (TC f z) gq nn) RLX) ∨ (r_84 = 0 ∧ ¬ ISL (TC f z) (cA (TC f z) gq nn) (cS (TC f z) gq nn) RLX) := hw_86
    refine pg_put (ci := 7) (v := .int r_84) (ty := .boolean) (C := RX7) (T := TX7) (N := 17) hx hb hts it_7 tyX7 tyX7_ok nmX7 hown hK hP hD hS hL_h0 hF_60 rfl 15 (by decide) (hts _ kt_326) (fun _ h9 => h9) rfl (by decide +kernel) (bitN (bit2 hs1)) (bitF (bit2 hs1)) (Nat.le_of_ble_eq_true rfl) dX7_readPlainness_74 (fun H locs hP hD hS => ?_)
    obtain ⟨F_87, he_88, hP, hD, hO, hR⟩ : ∃ G, G = va_up F_58 h0 (.inr (7, [.ref d, .ref sl, .ref ke, .ref w0, .ref w1, .ref w2, .ref w3, .ref w4, .ref w5, .ref w6, .ref w7, .ref w8, .ref tk, .ref hs, .ref pw, .int r_84, .int 0])) ∧ va_P (dC, dI) vwCl (va_pl L G) H ∧ va_D A (va_pl L G) ∧ OK cs ty L G ∧ FR ty [ρ] F G := ⟨_, rfl, hP, hD, hO.up (sh.slr hT_h0 ⟨r_84, 0, rfl⟩), hR.up hT_h0 (by simp)⟩
    have hF_89 : F_87 h0 = .inr (7, [.ref d, .ref sl, .ref ke, .ref w0, .ref w1, .ref w2, .ref w3, .ref w4, .ref w5, .ref w6, .ref w7, .ref w8, .ref tk, .ref hs, .ref pw, .int r_84, .int 0]) := by rw [he_88]; exact up_self
    have hF_90 : F_87 sl = .inr (9, [.ref sx, .ref sy0, .ref sy1, .ref sy2, .int (nI nn)]) := by rw [he_88, up_ne (ne_ty ht_4 hT_h0 (by simp))]; exact hF_61
    have hF_91 : F_87 sx = .inr (0, [.ref rsx, .int (nI z), .int 0]) := by rw [he_88, up_ne (ne_ty hT_sx hT_h0 (by simp))]; exact hF_62
    have hF_92 : F_87 rsx = .inl (cs 16, 3000, .inl f) := by rw [he_88, up_ne (ne_ty ht_47 hT_h0 (by simp))]; exact hF_63
    have hF_93 : F_87 sy0 = .inl (cs 16, 40, .inl e0) := by rw [he_88, up_ne (ne_ty ht_43 hT_h0 (by simp))]; exact hF_64
    have hF_94 : F_87 sy1 = .inl (cs 16, 40, .inl e1) := by rw [he_88, up_ne (ne_ty ht_44 hT_h0 (by simp))]; exact hF_65
    have hF_95 : F_87 sy2 = .inl (cs 16, 40, .inl e2) := by rw [he_88, up_ne (ne_ty ht_45 hT_h0 (by simp))]; exact hF_66
    refine lv_aload_n hx hb dX7_readPlainness_77 rfl (lv_at hl 3 rfl) ?_
    refine lv_aload_n hx hb dX7_readPlainness_78 rfl (lv_at hl 3 rfl) ?_
    refine pg_get (ci := 7) (v := .ref sl) (C := RX7) (T := TX7) (N := 17) hx hb hts it_7 hown hK hP hL_h0 hF_89 rfl 1 (by decide) (hts _ kt_307) (fun _ h9 => h9) rfl dX7_readPlainness_79 ?_
    refine pg_getN (ci := 9) (v := .ref sx) (C := RX9) (T := TX9) (N := 5) hx hb hts it_9 hown hK hP hi_3 hF_90 rfl 0 (by decide) (hE.nest kn_7) (fun _ h9 => h9) rfl dX7_readPlainness_82 ?_
    refine lv_iload_n hx hb dX7_readPlainness_85 rfl (lv_at hl 0 rfl) ?_
    refine lv_iload_n hx hb dX7_readPlainness_86 rfl (lv_at hl 2 rfl) ?_
    obtain ⟨q_96, v_97, hr_q_96, hXc_q_96⟩ := hG.2.2.2.2 ("PostGate$Sealer", 201, "/relaxed", [47, 114, 101, 108, 97, 120, 101, 100]) (by decide +kernel)
    have hXc_q_96 : SXc q_96 v_97 8 (cct [47, 114, 101, 108, 97, 120, 101, 100]) A s s.heap := hXc_q_96
    have hX_q_96 : SX q_96 v_97 8 A s s.heap := hXc_q_96.sx
    obtain ⟨xo_q_96, xc_q_96, xv_q_96, xt_q_96, xn_q_96⟩ := id hXc_q_96
    have hr_q_96 : vk_R "PostGate$Sealer" 201 "/relaxed" q_96 s := hr_q_96
    refine va_ldcS hx hb hown hr_q_96 dX7_readPlainness_87 ?_
    have hFc := pg_free hD hS hA
    refine va_calli (va_runV (As := [.int (nI (cS (TC f z) gq nn)), .int (nI (cB (TC f z) gq nn)), .ref q_96]) (rest := [.ref h0]) ⟨hx, hb, hml, hown, hts⟩ (s_X0_is_e l dC dI cs ty L H.size F_87 sx (ρ + 3) rsx 3000 q_96 v_97 8 (cct [47, 114, 101, 108, 97, 120, 101, 100]) z (cS (TC f z) gq nn) (cB (TC f z) gq nn) f SRL_ hW hL_sx hT_sx hF_91 hF_92 (by omega) (by omega) (hfl.2) (hbz9) (⟨rfl, by decide +kernel⟩)) ⟨callB_of 3 hts (gi kt_79) rfl rfl rfl (hts _ kt_1) (hts _ kt_329) (by decide +kernel) ⟨Nat.le_of_ble_eq_true rfl, Nat.le_of_ble_eq_true rfl⟩, (hts _ kt_81), (hts _ kt_82)⟩ ⟨fun a U g mk q => ⟨q.1, PTC.calling q.2⟩, pg_recv hK hP hL_sx hF_91 (q := (RX0, TX0, 3)) rfl, fun U hU hWm => ⟨rfl, PTC.mk hU hWm hP hK hD hE hO hG hXc_q_96 hS hFc⟩⟩ rfl rfl hl.1 rfl (lv_room (Nat.le_of_ble_eq_true rfl)) dX7_readPlainness_89 ⟨by show _ + 0 ≤ 0; omega, by show _ + 0 ≤ 0; omega⟩) hS (fun q _ h => hFc q h) hFc (fun r_98 u t H1 locs ht hvm hw hB hz1 hk1 hS => ?_)
    obtain ⟨F_99, hB1⟩ := hB
    obtain rfl : F_87 = F_99 := (funext (fun a => hB1.2.2.2 a List.not_mem_nil)).symm
    obtain ⟨hP, hD, hO, hR⟩ := QT.back hB1 ht hFc hR (fun q h => absurd h List.not_mem_nil)
    generalize H1 = H at hP hS ⊢
    have hw : (r_98 = 1 ∧ ((cS (TC f z) gq nn) + 8 = (cB (TC f z) gq nn) ∧ LIT (TC f z) (cS (TC f z) gq nn) SRL_)) ∨ (r_98 = 0 ∧ ¬ ((cS (TC f z) gq nn) + 8 = (cB (TC f z) gq nn) ∧ LIT (TC f z) (cS (TC f z) gq nn) SRL_)) := hw
    have hw_100 := hw
    have hs2 : (r_98 = 1 ∧ ISL (TC f z) (cS (TC f z) gq nn) (cB (TC f z) gq nn) SRL_) ∨ (r_98 = 0 ∧ ¬ ISL (TC f z) (cS (TC f z) gq nn) (cB (TC f z) gq nn) SRL_) := hw_100
    refine pg_put (ci := 7) (v := .int r_98) (ty := .boolean) (C := RX7) (T := TX7) (N := 17) hx hb hts it_7 tyX7 tyX7_ok nmX7 hown hK hP hD hS hL_h0 hF_89 rfl 16 (by decide) (hts _ kt_327) (fun _ h9 => h9) rfl (by decide +kernel) (bitN (bit2 hs2)) (bitF (bit2 hs2)) (Nat.le_of_ble_eq_true rfl) dX7_readPlainness_92 (fun H locs hP hD hS => ?_)
    obtain ⟨F_101, he_102, hP, hD, hO, hR⟩ : ∃ G, G = va_up F_87 h0 (.inr (7, [.ref d, .ref sl, .ref ke, .ref w0, .ref w1, .ref w2, .ref w3, .ref w4, .ref w5, .ref w6, .ref w7, .ref w8, .ref tk, .ref hs, .ref pw, .int r_84, .int r_98])) ∧ va_P (dC, dI) vwCl (va_pl L G) H ∧ va_D A (va_pl L G) ∧ OK cs ty L G ∧ FR ty [ρ] F G := ⟨_, rfl, hP, hD, hO.up (sh.slr hT_h0 ⟨r_84, r_98, rfl⟩), hR.up hT_h0 (by simp)⟩
    have hF_103 : F_101 h0 = .inr (7, [.ref d, .ref sl, .ref ke, .ref w0, .ref w1, .ref w2, .ref w3, .ref w4, .ref w5, .ref w6, .ref w7, .ref w8, .ref tk, .ref hs, .ref pw, .int r_84, .int r_98]) := by rw [he_102]; exact up_self
    have hF_104 : F_101 sl = .inr (9, [.ref sx, .ref sy0, .ref sy1, .ref sy2, .int (nI nn)]) := by rw [he_102, up_ne (ne_ty ht_4 hT_h0 (by simp))]; exact hF_90
    have hF_105 : F_101 sx = .inr (0, [.ref rsx, .int (nI z), .int 0]) := by rw [he_102, up_ne (ne_ty hT_sx hT_h0 (by simp))]; exact hF_91
    have hF_106 : F_101 rsx = .inl (cs 16, 3000, .inl f) := by rw [he_102, up_ne (ne_ty ht_47 hT_h0 (by simp))]; exact hF_92
    have hF_107 : F_101 sy0 = .inl (cs 16, 40, .inl e0) := by rw [he_102, up_ne (ne_ty ht_43 hT_h0 (by simp))]; exact hF_93
    have hF_108 : F_101 sy1 = .inl (cs 16, 40, .inl e1) := by rw [he_102, up_ne (ne_ty ht_44 hT_h0 (by simp))]; exact hF_94
    have hF_109 : F_101 sy2 = .inl (cs 16, 40, .inl e2) := by rw [he_102, up_ne (ne_ty ht_45 hT_h0 (by simp))]; exact hF_95
    refine lv_aload_n hx hb dX7_readPlainness_95 rfl (lv_at hl 3 rfl) ?_
    refine pg_get (ci := 7) (v := .int r_84) (C := RX7) (T := TX7) (N := 17) hx hb hts it_7 hown hK hP hL_h0 hF_103 rfl 15 (by decide) (hts _ kt_326) (fun _ h9 => h9) rfl dX7_readPlainness_96 ?_
    refine lv_if_ne (tgt := 119) hx hb dX7_readPlainness_99 (by decide) (fun c_110 => ?_) (fun c_110 => ?_)
    ·
      refine lv_aload_n hx hb dX7_readPlainness_119 rfl (lv_at hl 3 rfl) ?_
      refine pg_get (ci := 7) (v := .int r_98) (C := RX7) (T := TX7) (N := 17) hx hb hts it_7 hown hK hP hL_h0 hF_103 rfl 16 (by decide) (hts _ kt_327) (fun _ h9 => h9) rfl dX7_readPlainness_120 ?_
      refine lv_if_ne (tgt := 148) hx hb dX7_readPlainness_123 (by decide) (fun c_111 => ?_) (fun c_111 => ?_)
      ·
        refine lv_iconst (v := 1) hx hb dX7_readPlainness_148 (by decide) ?_
        refine lv_goto (tgt := 153) hx hb dX7_readPlainness_149 (by decide) ?_
        refine W.widen (k := 0) (n := 0) (by omega) (by omega) ?_
        exact W.zret (v := 1) (ty := .boolean) hx hb hr (by decide) (fun t ht hWm => ⟨⟨1, (), rfl, (Or.inl ⟨rfl, Or.inr ⟨Or.inl (orp1 hs1 c_110), Or.inl (orp1 hs2 c_111)⟩⟩), ⟨F_101, QT.mk ht hP hD hO hR, (by rw [← frx_r hcn1 hs1, ← brx_r hcn1 hs2]; exact hF_103)⟩⟩, hS.F ht⟩) hS.2.2 dX7_readPlainness_153
      ·
        refine lv_iload_n hx hb dX7_readPlainness_126 rfl (lv_at hl 0 rfl) ?_
        refine lv_iload_n hx hb dX7_readPlainness_127 rfl (lv_at hl 2 rfl) ?_
        refine lv_icmp_eq (tgt := 148) hx hb dX7_readPlainness_128 (by decide) (fun c_112 => ?_) (fun c_112 => ?_)
        ·
          have hse : (cS (TC f z) gq nn) = (cB (TC f z) gq nn) := (nI_eq (by omega) (by omega)).mp c_112
          refine lv_iconst (v := 1) hx hb dX7_readPlainness_148 (by decide) ?_
          refine lv_goto (tgt := 153) hx hb dX7_readPlainness_149 (by decide) ?_
          refine W.widen (k := 0) (n := 0) (by omega) (by omega) ?_
          exact W.zret (v := 1) (ty := .boolean) hx hb hr (by decide) (fun t ht hWm => ⟨⟨1, (), rfl, (Or.inl ⟨rfl, Or.inr ⟨Or.inl (orp1 hs1 c_110), Or.inr (Or.inl hse)⟩⟩), ⟨F_101, QT.mk ht hP hD hO hR, (by rw [← frx_r hcn1 hs1, ← brx_r hcn1 hs2]; exact hF_103)⟩⟩, hS.F ht⟩) hS.2.2 dX7_readPlainness_153
        ·
          have hse : ¬ (cS (TC f z) gq nn) = (cB (TC f z) gq nn) := fun q => c_112 (by rw [q])
          refine lv_aload_n hx hb dX7_readPlainness_131 rfl (lv_at hl 3 rfl) ?_
          refine pg_get (ci := 7) (v := .ref sl) (C := RX7) (T := TX7) (N := 17) hx hb hts it_7 hown hK hP hL_h0 hF_103 rfl 1 (by decide) (hts _ kt_307) (fun _ h9 => h9) rfl dX7_readPlainness_132 ?_
          refine pg_getN (ci := 9) (v := .ref sx) (C := RX9) (T := TX9) (N := 5) hx hb hts it_9 hown hK hP hi_3 hF_104 rfl 0 (by decide) (hE.nest kn_7) (fun _ h9 => h9) rfl dX7_readPlainness_135 ?_
          refine lv_iload_n hx hb dX7_readPlainness_138 rfl (lv_at hl 0 rfl) ?_
          refine lv_iload_n hx hb dX7_readPlainness_139 rfl (lv_at hl 2 rfl) ?_
          obtain ⟨q_115, v_116, hr_q_115, hXc_q_115⟩ := hG.2.2.2.2 ("PostGate$Sealer", 205, "/simple", [47, 115, 105, 109, 112, 108, 101]) (by decide +kernel)
          have hXc_q_115 : SXc q_115 v_116 7 (cct [47, 115, 105, 109, 112, 108, 101]) A s s.heap := hXc_q_115
          have hX_q_115 : SX q_115 v_116 7 A s s.heap := hXc_q_115.sx
          obtain ⟨xo_q_115, xc_q_115, xv_q_115, xt_q_115, xn_q_115⟩ := id hXc_q_115
          have hr_q_115 : vk_R "PostGate$Sealer" 205 "/simple" q_115 s := hr_q_115
          refine va_ldcS hx hb hown hr_q_115 dX7_readPlainness_140 ?_
          have hFc := pg_free hD hS hA
          refine va_calli (va_runV (As := [.int (nI (cS (TC f z) gq nn)), .int (nI (cB (TC f z) gq nn)), .ref q_115]) (rest := []) ⟨hx, hb, hml, hown, hts⟩ (s_X0_is_e l dC dI cs ty L H.size F_101 sx (ρ + 3) rsx 3000 q_115 v_116 7 (cct [47, 115, 105, 109, 112, 108, 101]) z (cS (TC f z) gq nn) (cB (TC f z) gq nn) f SSP hW hL_sx hT_sx hF_105 hF_106 (by omega) (by omega) (hfl.2) (hbz9) (⟨rfl, by decide +kernel⟩)) ⟨callB_of 3 hts (gi kt_79) rfl rfl rfl (hts _ kt_1) (hts _ kt_329) (by decide +kernel) ⟨Nat.le_of_ble_eq_true rfl, Nat.le_of_ble_eq_true rfl⟩, (hts _ kt_81), (hts _ kt_82)⟩ ⟨fun a U g mk q => ⟨q.1, PTC.calling q.2⟩, pg_recv hK hP hL_sx hF_105 (q := (RX0, TX0, 3)) rfl, fun U hU hWm => ⟨rfl, PTC.mk hU hWm hP hK hD hE hO hG hXc_q_115 hS hFc⟩⟩ rfl rfl hl.1 rfl (lv_room (Nat.le_of_ble_eq_true rfl)) dX7_readPlainness_142 ⟨by show _ + 0 ≤ 0; omega, by show _ + 0 ≤ 0; omega⟩) hS (fun q _ h => hFc q h) hFc (fun r_117 u t H1 locs ht hvm hw hB hz1 hk1 hS => ?_)
          obtain ⟨F_118, hB1⟩ := hB
          obtain rfl : F_101 = F_118 := (funext (fun a => hB1.2.2.2 a List.not_mem_nil)).symm
          obtain ⟨hP, hD, hO, hR⟩ := QT.back hB1 ht hFc hR (fun q h => absurd h List.not_mem_nil)
          generalize H1 = H at hP hS ⊢
          have hw : (r_117 = 1 ∧ ((cS (TC f z) gq nn) + 7 = (cB (TC f z) gq nn) ∧ LIT (TC f z) (cS (TC f z) gq nn) SSP)) ∨ (r_117 = 0 ∧ ¬ ((cS (TC f z) gq nn) + 7 = (cB (TC f z) gq nn) ∧ LIT (TC f z) (cS (TC f z) gq nn) SSP)) := hw
          have hw_119 := hw
          have hs4 : (r_117 = 1 ∧ ISL (TC f z) (cS (TC f z) gq nn) (cB (TC f z) gq nn) SSP) ∨ (r_117 = 0 ∧ ¬ ISL (TC f z) (cS (TC f z) gq nn) (cB (TC f z) gq nn) SSP) := hw_119
          refine lv_if_eq (tgt := 152) hx hb dX7_readPlainness_145 (by decide) (fun c_120 => ?_) (fun c_120 => ?_)
          ·
            refine lv_iconst (v := 0) hx hb dX7_readPlainness_152 (by decide) ?_
            refine W.widen (k := 0) (n := 0) (by omega) (by omega) ?_
            exact W.zret (v := 0) (ty := .boolean) hx hb hr (by decide) (fun t ht hWm => ⟨⟨0, (), rfl, (Or.inr ⟨rfl, fun q => q.elim hcn1 (fun q => q.2.elim (orp0 hs2 c_111) (fun q => q.elim hse (orp0 hs4 c_120)))⟩), ⟨F_101, QT.mk ht hP hD hO hR, (by rw [← frx_r hcn1 hs1, ← brx_r hcn1 hs2]; exact hF_103)⟩⟩, hS.F ht⟩) hS.2.2 dX7_readPlainness_153
          ·
            refine lv_iconst (v := 1) hx hb dX7_readPlainness_148 (by decide) ?_
            refine lv_goto (tgt := 153) hx hb dX7_readPlainness_149 (by decide) ?_
            refine W.widen (k := 0) (n := 0) (by omega) (by omega) ?_
            exact W.zret (v := 1) (ty := .boolean) hx hb hr (by decide) (fun t ht hWm => ⟨⟨1, (), rfl, (Or.inl ⟨rfl, Or.inr ⟨Or.inl (orp1 hs1 c_110), Or.inr (Or.inr (orp1 hs4 c_120))⟩⟩), ⟨F_101, QT.mk ht hP hD hO hR, (by rw [← frx_r hcn1 hs1, ← brx_r hcn1 hs2]; exact hF_103)⟩⟩, hS.F ht⟩) hS.2.2 dX7_readPlainness_153
    ·
      refine lv_aload_n hx hb dX7_readPlainness_102 rfl (lv_at hl 3 rfl) ?_
      refine pg_get (ci := 7) (v := .ref sl) (C := RX7) (T := TX7) (N := 17) hx hb hts it_7 hown hK hP hL_h0 hF_103 rfl 1 (by decide) (hts _ kt_307) (fun _ h9 => h9) rfl dX7_readPlainness_103 ?_
      refine pg_getN (ci := 9) (v := .ref sx) (C := RX9) (T := TX9) (N := 5) hx hb hts it_9 hown hK hP hi_3 hF_104 rfl 0 (by decide) (hE.nest kn_7) (fun _ h9 => h9) rfl dX7_readPlainness_106 ?_
      refine lv_iload_n hx hb dX7_readPlainness_109 rfl (lv_at hl 1 rfl) ?_
      refine lv_iload_n hx hb dX7_readPlainness_110 rfl (lv_at hl 0 rfl) ?_
      obtain ⟨q_121, v_122, hr_q_121, hXc_q_121⟩ := hG.2.2.2.2 ("PostGate$Sealer", 203, "simple", [115, 105, 109, 112, 108, 101]) (by decide +kernel)
      have hXc_q_121 : SXc q_121 v_122 6 (cct [115, 105, 109, 112, 108, 101]) A s s.heap := hXc_q_121
      have hX_q_121 : SX q_121 v_122 6 A s s.heap := hXc_q_121.sx
      obtain ⟨xo_q_121, xc_q_121, xv_q_121, xt_q_121, xn_q_121⟩ := id hXc_q_121
      have hr_q_121 : vk_R "PostGate$Sealer" 203 "simple" q_121 s := hr_q_121
      refine va_ldcS hx hb hown hr_q_121 dX7_readPlainness_111 ?_
      have hFc := pg_free hD hS hA
      refine va_calli (va_runV (As := [.int (nI (cA (TC f z) gq nn)), .int (nI (cS (TC f z) gq nn)), .ref q_121]) (rest := []) ⟨hx, hb, hml, hown, hts⟩ (s_X0_is_e l dC dI cs ty L H.size F_101 sx (ρ + 3) rsx 3000 q_121 v_122 6 (cct [115, 105, 109, 112, 108, 101]) z (cA (TC f z) gq nn) (cS (TC f z) gq nn) f SPL hW hL_sx hT_sx hF_105 hF_106 (by omega) (by omega) (hfl.1) (by omega) (⟨rfl, by decide +kernel⟩)) ⟨callB_of 3 hts (gi kt_79) rfl rfl rfl (hts _ kt_1) (hts _ kt_329) (by decide +kernel) ⟨Nat.le_of_ble_eq_true rfl, Nat.le_of_ble_eq_true rfl⟩, (hts _ kt_81), (hts _ kt_82)⟩ ⟨fun a U g mk q => ⟨q.1, PTC.calling q.2⟩, pg_recv hK hP hL_sx hF_105 (q := (RX0, TX0, 3)) rfl, fun U hU hWm => ⟨rfl, PTC.mk hU hWm hP hK hD hE hO hG hXc_q_121 hS hFc⟩⟩ rfl rfl hl.1 rfl (lv_room (Nat.le_of_ble_eq_true rfl)) dX7_readPlainness_113 ⟨by show _ + 0 ≤ 0; omega, by show _ + 0 ≤ 0; omega⟩) hS (fun q _ h => hFc q h) hFc (fun r_123 u t H1 locs ht hvm hw hB hz1 hk1 hS => ?_)
      obtain ⟨F_124, hB1⟩ := hB
      obtain rfl : F_101 = F_124 := (funext (fun a => hB1.2.2.2 a List.not_mem_nil)).symm
      obtain ⟨hP, hD, hO, hR⟩ := QT.back hB1 ht hFc hR (fun q h => absurd h List.not_mem_nil)
      generalize H1 = H at hP hS ⊢
      have hw : (r_123 = 1 ∧ ((cA (TC f z) gq nn) + 6 = (cS (TC f z) gq nn) ∧ LIT (TC f z) (cA (TC f z) gq nn) SPL)) ∨ (r_123 = 0 ∧ ¬ ((cA (TC f z) gq nn) + 6 = (cS (TC f z) gq nn) ∧ LIT (TC f z) (cA (TC f z) gq nn) SPL)) := hw
      have hw_125 := hw
      have hs3 : (r_123 = 1 ∧ ISL (TC f z) (cA (TC f z) gq nn) (cS (TC f z) gq nn) SPL) ∨ (r_123 = 0 ∧ ¬ ISL (TC f z) (cA (TC f z) gq nn) (cS (TC f z) gq nn) SPL) := hw_125
      refine lv_if_eq (tgt := 152) hx hb dX7_readPlainness_116 (by decide) (fun c_126 => ?_) (fun c_126 => ?_)
      ·
        refine lv_iconst (v := 0) hx hb dX7_readPlainness_152 (by decide) ?_
        refine W.widen (k := 0) (n := 0) (by omega) (by omega) ?_
        exact W.zret (v := 0) (ty := .boolean) hx hb hr (by decide) (fun t ht hWm => ⟨⟨0, (), rfl, (Or.inr ⟨rfl, fun q => q.elim hcn1 (fun q => q.1.elim (orp0 hs1 c_110) (orp0 hs3 c_126))⟩), ⟨F_101, QT.mk ht hP hD hO hR, (by rw [← frx_r hcn1 hs1, ← brx_r hcn1 hs2]; exact hF_103)⟩⟩, hS.F ht⟩) hS.2.2 dX7_readPlainness_153
      ·
        refine lv_aload_n hx hb dX7_readPlainness_119 rfl (lv_at hl 3 rfl) ?_
        refine pg_get (ci := 7) (v := .int r_98) (C := RX7) (T := TX7) (N := 17) hx hb hts it_7 hown hK hP hL_h0 hF_103 rfl 16 (by decide) (hts _ kt_327) (fun _ h9 => h9) rfl dX7_readPlainness_120 ?_
        refine lv_if_ne (tgt := 148) hx hb dX7_readPlainness_123 (by decide) (fun c_127 => ?_) (fun c_127 => ?_)
        ·
          refine lv_iconst (v := 1) hx hb dX7_readPlainness_148 (by decide) ?_
          refine lv_goto (tgt := 153) hx hb dX7_readPlainness_149 (by decide) ?_
          refine W.widen (k := 0) (n := 0) (by omega) (by omega) ?_
          exact W.zret (v := 1) (ty := .boolean) hx hb hr (by decide) (fun t ht hWm => ⟨⟨1, (), rfl, (Or.inl ⟨rfl, Or.inr ⟨Or.inr (orp1 hs3 c_126), Or.inl (orp1 hs2 c_127)⟩⟩), ⟨F_101, QT.mk ht hP hD hO hR, (by rw [← frx_r hcn1 hs1, ← brx_r hcn1 hs2]; exact hF_103)⟩⟩, hS.F ht⟩) hS.2.2 dX7_readPlainness_153
        ·
          refine lv_iload_n hx hb dX7_readPlainness_126 rfl (lv_at hl 0 rfl) ?_
          refine lv_iload_n hx hb dX7_readPlainness_127 rfl (lv_at hl 2 rfl) ?_
          refine lv_icmp_eq (tgt := 148) hx hb dX7_readPlainness_128 (by decide) (fun c_128 => ?_) (fun c_128 => ?_)
          ·
            have hse : (cS (TC f z) gq nn) = (cB (TC f z) gq nn) := (nI_eq (by omega) (by omega)).mp c_128
            refine lv_iconst (v := 1) hx hb dX7_readPlainness_148 (by decide) ?_
            refine lv_goto (tgt := 153) hx hb dX7_readPlainness_149 (by decide) ?_
            refine W.widen (k := 0) (n := 0) (by omega) (by omega) ?_
            exact W.zret (v := 1) (ty := .boolean) hx hb hr (by decide) (fun t ht hWm => ⟨⟨1, (), rfl, (Or.inl ⟨rfl, Or.inr ⟨Or.inr (orp1 hs3 c_126), Or.inr (Or.inl hse)⟩⟩), ⟨F_101, QT.mk ht hP hD hO hR, (by rw [← frx_r hcn1 hs1, ← brx_r hcn1 hs2]; exact hF_103)⟩⟩, hS.F ht⟩) hS.2.2 dX7_readPlainness_153
          ·
            have hse : ¬ (cS (TC f z) gq nn) = (cB (TC f z) gq nn) := fun q => c_128 (by rw [q])
            refine lv_aload_n hx hb dX7_readPlainness_131 rfl (lv_at hl 3 rfl) ?_
            refine pg_get (ci := 7) (v := .ref sl) (C := RX7) (T := TX7) (N := 17) hx hb hts it_7 hown hK hP hL_h0 hF_103 rfl 1 (by decide) (hts _ kt_307) (fun _ h9 => h9) rfl dX7_readPlainness_132 ?_
            refine pg_getN (ci := 9) (v := .ref sx) (C := RX9) (T := TX9) (N := 5) hx hb hts it_9 hown hK hP hi_3 hF_104 rfl 0 (by decide) (hE.nest kn_7) (fun _ h9 => h9) rfl dX7_readPlainness_135 ?_
            refine lv_iload_n hx hb dX7_readPlainness_138 rfl (lv_at hl 0 rfl) ?_
            refine lv_iload_n hx hb dX7_readPlainness_139 rfl (lv_at hl 2 rfl) ?_
            obtain ⟨q_131, v_132, hr_q_131, hXc_q_131⟩ := hG.2.2.2.2 ("PostGate$Sealer", 205, "/simple", [47, 115, 105, 109, 112, 108, 101]) (by decide +kernel)
            have hXc_q_131 : SXc q_131 v_132 7 (cct [47, 115, 105, 109, 112, 108, 101]) A s s.heap := hXc_q_131
            have hX_q_131 : SX q_131 v_132 7 A s s.heap := hXc_q_131.sx
            obtain ⟨xo_q_131, xc_q_131, xv_q_131, xt_q_131, xn_q_131⟩ := id hXc_q_131
            have hr_q_131 : vk_R "PostGate$Sealer" 205 "/simple" q_131 s := hr_q_131
            refine va_ldcS hx hb hown hr_q_131 dX7_readPlainness_140 ?_
            have hFc := pg_free hD hS hA
            refine va_calli (va_runV (As := [.int (nI (cS (TC f z) gq nn)), .int (nI (cB (TC f z) gq nn)), .ref q_131]) (rest := []) ⟨hx, hb, hml, hown, hts⟩ (s_X0_is_e l dC dI cs ty L H.size F_101 sx (ρ + 3) rsx 3000 q_131 v_132 7 (cct [47, 115, 105, 109, 112, 108, 101]) z (cS (TC f z) gq nn) (cB (TC f z) gq nn) f SSP hW hL_sx hT_sx hF_105 hF_106 (by omega) (by omega) (hfl.2) (hbz9) (⟨rfl, by decide +kernel⟩)) ⟨callB_of 3 hts (gi kt_79) rfl rfl rfl (hts _ kt_1) (hts _ kt_329) (by decide +kernel) ⟨Nat.le_of_ble_eq_true rfl, Nat.le_of_ble_eq_true rfl⟩, (hts _ kt_81), (hts _ kt_82)⟩ ⟨fun a U g mk q => ⟨q.1, PTC.calling q.2⟩, pg_recv hK hP hL_sx hF_105 (q := (RX0, TX0, 3)) rfl, fun U hU hWm => ⟨rfl, PTC.mk hU hWm hP hK hD hE hO hG hXc_q_131 hS hFc⟩⟩ rfl rfl hl.1 rfl (lv_room (Nat.le_of_ble_eq_true rfl)) dX7_readPlainness_142 ⟨by show _ + 0 ≤ 0; omega, by show _ + 0 ≤ 0; omega⟩) hS (fun q _ h => hFc q h) hFc (fun r_133 u t H1 locs ht hvm hw hB hz1 hk1 hS => ?_)
            obtain ⟨F_134, hB1⟩ := hB
            obtain rfl : F_101 = F_134 := (funext (fun a => hB1.2.2.2 a List.not_mem_nil)).symm
            obtain ⟨hP, hD, hO, hR⟩ := QT.back hB1 ht hFc hR (fun q h => absurd h List.not_mem_nil)
            generalize H1 = H at hP hS ⊢
            have hw : (r_133 = 1 ∧ ((cS (TC f z) gq nn) + 7 = (cB (TC f z) gq nn) ∧ LIT (TC f z) (cS (TC f z) gq nn) SSP)) ∨ (r_133 = 0 ∧ ¬ ((cS (TC f z) gq nn) + 7 = (cB (TC f z) gq nn) ∧ LIT (TC f z) (cS (TC f z) gq nn) SSP)) := hw
            have hw_135 := hw
            have hs4 : (r_133 = 1 ∧ ISL (TC f z) (cS (TC f z) gq nn) (cB (TC f z) gq nn) SSP) ∨ (r_133 = 0 ∧ ¬ ISL (TC f z) (cS (TC f z) gq nn) (cB (TC f z) gq nn) SSP) := hw_135
            refine lv_if_eq (tgt := 152) hx hb dX7_readPlainness_145 (by decide) (fun c_136 => ?_) (fun c_136 => ?_)
            ·
              refine lv_iconst (v := 0) hx hb dX7_readPlainness_152 (by decide) ?_
              refine W.widen (k := 0) (n := 0) (by omega) (by omega) ?_
              exact W.zret (v := 0) (ty := .boolean) hx hb hr (by decide) (fun t ht hWm => ⟨⟨0, (), rfl, (Or.inr ⟨rfl, fun q => q.elim hcn1 (fun q => q.2.elim (orp0 hs2 c_127) (fun q => q.elim hse (orp0 hs4 c_136)))⟩), ⟨F_101, QT.mk ht hP hD hO hR, (by rw [← frx_r hcn1 hs1, ← brx_r hcn1 hs2]; exact hF_103)⟩⟩, hS.F ht⟩) hS.2.2 dX7_readPlainness_153
            ·
              refine lv_iconst (v := 1) hx hb dX7_readPlainness_148 (by decide) ?_
              refine lv_goto (tgt := 153) hx hb dX7_readPlainness_149 (by decide) ?_
              refine W.widen (k := 0) (n := 0) (by omega) (by omega) ?_
              exact W.zret (v := 1) (ty := .boolean) hx hb hr (by decide) (fun t ht hWm => ⟨⟨1, (), rfl, (Or.inl ⟨rfl, Or.inr ⟨Or.inr (orp1 hs3 c_126), Or.inr (Or.inr (orp1 hs4 c_136))⟩⟩), ⟨F_101, QT.mk ht hP hD hO hR, (by rw [← frx_r hcn1 hs1, ← brx_r hcn1 hs2]; exact hF_103)⟩⟩, hS.F ht⟩) hS.2.2 dX7_readPlainness_153
  ·
    have hcn0 : (tgR (TC f z) gq [99] nn) = none := nom_h (orp0 hw_71 c_72)
    refine lv_iconst (v := 1) hx hb dX7_readPlainness_22 (by decide) ?_
    refine W.widen (k := 0) (n := 0) (by omega) (by omega) ?_
    exact W.zret (v := 1) (ty := .boolean) hx hb hr (by decide) (fun t ht hWm => ⟨⟨1, (), rfl, (Or.inl ⟨rfl, Or.inl hcn0⟩), ⟨F_58, QT.mk ht hP hD hO hR, (by rw [← frx_0 hcn0, ← brx_0 hcn0]; exact hF_60)⟩⟩, hS.F ht⟩) hS.2.2 dX7_readPlainness_23
set_option maxHeartbeats 4000000 in
set_option maxRecDepth 100000 in
theorem s_X7_isFrom_e (l : Launch) (dC : Nat → ClassId) (dI : Nat → Nat → Nat) (cs : Nat → ClassId) (ty : TyM) (L : List Nat) (sz : Nat) (F : Nat → va_E) (h0 : Nat) (ρ : Nat) (d : Nat) (δ : Nat) (ea : Nat) (sl : Nat) (sx : Nat) (sy0 : Nat) (sy1 : Nat) (sy2 : Nat) (ke : Nat) (kx : Nat) (ky0 : Nat) (ky1 : Nat) (ky2 : Nat) (w0 : Nat) (w1 : Nat) (w2 : Nat) (w3 : Nat) (w4 : Nat) (w5 : Nat) (w6 : Nat) (w7 : Nat) (w8 : Nat) (tk : Nat) (hs : Nat) (ha : Nat) (hbb : Nat) (hcc : Nat) (pw : Nat) (px : Nat) (py : Nat) (pz : Nat) (pu : Nat) (rsx : Nat) (z : Nat) (nn : Nat) (f : Nat → Int32) (e0 : Nat → Int32) (e1 : Nat → Int32) (e2 : Nat → Int32) (gq : Nat → Nat → Nat) (v0 : Int32) (v1 : Int32) (a : Nat) (b : Nat) (hW : WT ty L) (hL_h0 : h0 ∈ L) (hT_h0 : ty h0 = (7, ρ, [d, δ, ea, sl, sx, sy0, sy1, sy2, ke, kx, ky0, ky1, ky2, w0, w1, w2, w3, w4, w5, w6, w7, w8, tk, hs, ha, hbb, hcc, pw, px, py, pz, pu])) (hL_sx : sx ∈ L) (hT_sx : ty sx = (0, ρ + 3, [rsx, 3000])) (hFs : F h0 = .inr (7, [.ref d, .ref sl, .ref ke, .ref w0, .ref w1, .ref w2, .ref w3, .ref w4, .ref w5, .ref w6, .ref w7, .ref w8, .ref tk, .ref hs, .ref pw, .int v0, .int v1])) (hFl : F sl = .inr (9, [.ref sx, .ref sy0, .ref sy1, .ref sy2, .int (nI nn)])) (hFx : F sx = .inr (0, [.ref rsx, .int (nI z), .int 0])) (hFr : F rsx = .inl (cs 16, 3000, .inl f)) (hFy0 : F sy0 = .inl (cs 16, 40, .inl e0)) (hFy1 : F sy1 = .inl (cs 16, 40, .inl e1)) (hFy2 : F sy2 = .inl (cs 16, 40, .inl e2)) (hzn : z ≤ 3000) (hcn : nn ≤ 40) (hhl : HLD e0 e1 e2 nn gq) (hTG : TGI z nn gq) (hab : a ≤ b) (hbz : b ≤ z) : Met l yX7_isFrom (.code yX7_isFrom cX7_isFrom 5 (some .boolean) :: tb) ({ frames := 4, cells := 0, slots := 0, locals := 85 }) (va_Pc [.ref h0, .int (nI a), .int (nI b)] (PTE (dC, dI) cs ty L F sz [])) (va_Qi (fun (r : Int32) (_ : Unit) => (r = 1 ∧ FRM (TC f z) a b) ∨ (r = 0 ∧ ¬ FRM (TC f z) a b)) (fun _ T9 => ∃ F2 : Nat → va_E, QT (dC, dI) cs ty L [] F F2 (va_A (va_pl L F) sz) T9) (va_A (va_pl L F) sz)) 0 0 (va_A (va_pl L F) sz) := by
  refine Met.ofW (cc := cX7_isFrom) (maxL := 5) (ret := (some .boolean)) (by decide) rfl ?_
  intro p e s m args below meth c s₁ B hml hv
  obtain ⟨rfl, ⟨hsz, hP, hK, hD0, hE, hO⟩, hG, hX⟩ := hv
  have hx := B.exec
  have hb := B.bytes
  have hr := B.returns
  have hts : ∀ w ∈ tb, w.before _ s = true := fun w h => atoms_spec (ws := .code yX7_isFrom cX7_isFrom 5 (some .boolean) :: tb) B.pre w (List.mem_cons_of_mem _ h)
  have hown : s.vm.findClass RX7 = some m.cls := findClass_of_methodNamed B.named
  have hlocks := B.notSynchronized
  subst hsz
  have hD := hD0.self (sz := s.heap.size)
  generalize hAe : va_A (va_pl L F) s.heap.size = A at hD hG hX ⊢
  have hA : ∀ q : Nat, s.heap.size ≤ q → A q := fun q h => by rw [← hAe]; exact Or.inr h
  have hS : va_S A s.heap s.heap [] := va_S.rf
  have hR : FR ty [] F F := FR.refl
  have hl := lv_entry ([.ref h0, .int (nI a), .int (nI b)]) (n := 5) (Nat.le_of_ble_eq_true rfl)
  rw [lg_entry_eq]
  generalize (lg_sl ([.ref h0, .int (nI a), .int (nI b)]) ++ List.replicate (5 - (lg_sl ([.ref h0, .int (nI a), .int (nI b)])).length) Slot.unset).toArray = ls at hl ⊢
  have hl : lv_has ls 5 [(0, .ref h0), (1, .int (nI a)), (2, .int (nI b))] := hl
  obtain ⟨hi_1, ht_2, hi_3, ht_4, hi_5, ht_6, hi_7, ⟨r_8, ht_9⟩, hi_10, ⟨r_11, ht_12⟩, hi_13, ⟨r_14, ht_15⟩, hi_16, ⟨r_17, ht_18⟩, hi_19, ⟨r_20, ht_21⟩, hi_22, ⟨r_23, ht_24⟩, hi_25, ⟨r_26, ht_27⟩, hi_28, ⟨r_29, ht_30⟩, hi_31, ⟨r_32, ht_33⟩, hi_34, ht_35, hi_36, ht_37, hi_38, ht_39⟩ := hW.slr hL_h0 hT_h0
  obtain ⟨_, hi_40, hi_41, hi_42, _, ht_43, ht_44, ht_45⟩ := hW.tags hi_3 ht_4
  have ht_44 : ty sy1 = (24, ρ + 72, [40]) := ht_44
  have ht_45 : ty sy2 = (24, ρ + 73, [40]) := ht_45
  obtain ⟨hi_46, ht_47, hq_48⟩ := hW.bytes hL_sx hT_sx
  refine lv_iload_n hx hb dX7_isFrom_0 rfl (lv_at hl 2 rfl) ?_
  refine lv_iload_n hx hb dX7_isFrom_1 rfl (lv_at hl 1 rfl) ?_
  refine lv_isub hx hb dX7_isFrom_2 ?_
  refine lv_topi (fun x_49 ex_49 => ?_)
  obtain rfl : x_49 = (nI (b - a)) := ex_49.trans (pk_sub hab)
  refine lv_iconst (v := 4) hx hb dX7_isFrom_3 (by decide) ?_
  refine lv_icmp_ne (tgt := 11) hx hb dX7_isFrom_4 (by decide) (fun c_50 => ?_) (fun c_50 => ?_)
  ·
    have h4n : ¬ a + 4 = b := fun q => c_50 (by rw [show b - a = 4 by omega]; rfl)
    refine lv_iconst (v := 0) hx hb dX7_isFrom_11 (by decide) ?_
    refine lv_istore_n (lv' := [(3, .int 0), (0, .ref h0), (1, .int (nI a)), (2, .int (nI b))]) hx hb dX7_isFrom_12 rfl hl (by decide) rfl (fun ls hl => ?_)
    refine lv_iconst (v := 0) hx hb dX7_isFrom_13 (by decide) ?_
    refine lv_istore (lv' := [(4, .int 0), (3, .int 0), (0, .ref h0), (1, .int (nI a)), (2, .int (nI b))]) hx hb dX7_isFrom_14 hl (by decide) rfl (fun ls hl => ?_)
    refine W.widen (k := 0) (n := 0) (by omega) (by omega) ?_
    refine pl_loop (σ := Nat × Int32) A (dC, dI) cs ty L [] F 16 5 (fun (j, u3) => [(4, .int (nI j)), (3, .int u3), (0, .ref h0), (1, .int (nI a)), (2, .int (nI b))]) (fun (j, u3) => []) (fun (j, u3) _ => j ≤ 4 ∧ FRI (TC f z) a b j u3) (fun (j, u3) => 4 - j) ?_ (0, 0) F (⟨by omega, Or.inr ⟨rfl, fun q => h4n q.1⟩⟩) hO hR _ _ hP hD hS ls (lv_sub hl [0, 1, 2, 3, 4] rfl)
    rintro ⟨j, u3⟩ F_52 hv_53 hO hR ih_54 H locs hP hD hS ls hl
    have hl : lv_has ls 5 [(4, .int (nI j)), (3, .int u3), (0, .ref h0), (1, .int (nI a)), (2, .int (nI b))] := hl
    have hv_53 : j ≤ 4 ∧ FRI (TC f z) a b j u3 := hv_53
    refine W.eq (g2 := F0 m 16 ls []) rfl ?_
    obtain rfl : F = F_52 := (funext (fun a => hR a List.not_mem_nil)).symm
    obtain ⟨hv1, hv2⟩ := id hv_53
    refine lv_iload_n hx hb dX7_isFrom_16 rfl (lv_at hl 1 rfl) ?_
    refine lv_if_eq (tgt := 65) hx hb dX7_isFrom_17 (by decide) (fun c_55 => ?_) (fun c_55 => ?_)
    ·
      refine lv_iload_n hx hb dX7_isFrom_65 rfl (lv_at hl 1 rfl) ?_
      refine W.widen (k := 0) (n := 0) (by omega) (by omega) ?_
      exact W.zret (v := u3) (ty := .boolean) hx hb hr (by rcases hv2 with q | q <;> rw [q.1] <;> decide) (fun t ht hWm => ⟨⟨u3, (), rfl, (Or.inr ⟨c_55, fri_0 hv2 c_55⟩), ⟨F, QT.mk ht hP hD hO hR⟩⟩, hS.F ht⟩) hS.2.2 dX7_isFrom_66
    ·
      have hfr := fri_1 hv2 c_55
      refine lv_iload hx hb dX7_isFrom_20 (lv_at hl 0 rfl) ?_
      refine lv_iconst (v := 4) hx hb dX7_isFrom_22 (by decide) ?_
      refine lv_icmp_ge (tgt := 65) hx hb dX7_isFrom_23 (by decide) (fun c_56 => ?_) (fun c_56 => ?_)
      ·
        have hi_57 : 4 ≤ j := leN (N := 4) c_56
        have hj4 : 4 ≤ j := (nI_leI (by omega) (by omega)).mp c_56
        refine lv_iload_n hx hb dX7_isFrom_65 rfl (lv_at hl 1 rfl) ?_
        refine W.widen (k := 0) (n := 0) (by omega) (by omega) ?_
        exact W.zret (v := u3) (ty := .boolean) hx hb hr (by rcases hv2 with q | q <;> rw [q.1] <;> decide) (fun t ht hWm => ⟨⟨u3, (), rfl, (fri_e (by rw [show j = 4 by omega] at hv2; exact hv2)), ⟨F, QT.mk ht hP hD hO hR⟩⟩, hS.F ht⟩) hS.2.2 dX7_isFrom_66
      ·
        have hi_58 : j < 4 := ltN (N := 4) c_56
        have hj4 : j < 4 := Nat.not_le.mp (fun q => c_56 ((nI_leI (by omega) (by omega)).mpr q))
        refine lv_aload_n hx hb dX7_isFrom_26 rfl (lv_at hl 2 rfl) ?_
        refine pg_get (ci := 7) (v := .ref sl) (C := RX7) (T := TX7) (N := 17) hx hb hts it_7 hown hK hP hL_h0 hFs rfl 1 (by decide) (hts _ kt_307) (fun _ h9 => h9) rfl dX7_isFrom_27 ?_
        refine pg_getN (ci := 9) (v := .ref sx) (C := RX9) (T := TX9) (N := 5) hx hb hts it_9 hown hK hP hi_3 hFl rfl 0 (by decide) (hE.nest kn_7) (fun _ h9 => h9) rfl dX7_isFrom_30 ?_
        refine lv_iload_n hx hb dX7_isFrom_33 rfl (lv_at hl 3 rfl) ?_
        refine lv_iload hx hb dX7_isFrom_34 (lv_at hl 0 rfl) ?_
        refine lv_iadd hx hb dX7_isFrom_36 ?_
        refine lv_topi (fun x_59 ex_59 => ?_)
        obtain rfl : x_59 = (nI (a + j)) := ex_59.trans (nI_add a j)
        have hFc := pg_free hD hS hA
        refine va_calli (va_runV (As := [.int (nI (a + j))]) (rest := []) ⟨hx, hb, hml, hown, hts⟩ (s_X0_at_e l dC dI cs ty L H.size F sx (ρ + 3) rsx 3000 z (a + j) f hW hL_sx hT_sx hFx hFr (by omega) (by omega) (by omega)) ⟨callB_of 1 hts (gi kt_21) rfl rfl rfl (hts _ kt_1) (hts _ kt_305) (by decide +kernel) ⟨Nat.le_of_ble_eq_true rfl, Nat.le_of_ble_eq_true rfl⟩, (hts _ kt_23), (hts _ kt_24)⟩ ⟨fun a U g mk q => ⟨q.1, PT.calling q.2⟩, pg_recv hK hP hL_sx hFx (q := (RX0, TX0, 3)) rfl, fun U hU hWm => ⟨rfl, PT.mk hU hWm hP hK hD hE hO⟩⟩ rfl rfl hl.1 rfl (lv_room (Nat.le_of_ble_eq_true rfl)) dX7_isFrom_37 ⟨by show _ + 0 ≤ 0; omega, by show _ + 0 ≤ 0; omega⟩) hS (fun q _ h => hFc q h) hFc (fun r_60 u t H1 locs ht hvm hw hB hz1 hk1 hS => ?_)
        obtain ⟨F_61, hB1⟩ := hB
        obtain rfl : F = F_61 := (funext (fun a => hB1.2.2.2 a List.not_mem_nil)).symm
        obtain ⟨hP, hD, hO, hR⟩ := QT.back hB1 ht hFc hR (fun q h => absurd h List.not_mem_nil)
        generalize H1 = H at hP hS ⊢
        have hw : r_60 = f (a + j) := hw
        have hw_62 := hw
        subst hw_62
        have hFc := pg_free hD hS hA
        refine va_calli (va_runS (As := [.int (f (a + j))]) (rest := []) ⟨hx, hb, hml, hown, hts⟩ (s_X0_smallOf_x l dC dI cs ty L H.size F (f (a + j)) hW ) ⟨callB_of 1 hts (gi kt_0) rfl rfl rfl (hts _ kt_1) (hts _ kt_316) (by decide +kernel) ⟨Nat.le_of_ble_eq_true rfl, Nat.le_of_ble_eq_true rfl⟩, (hts _ kt_3)⟩ ⟨fun a U g mk q => ⟨q.1, PT.calling q.2⟩, fun U hU hWm => ⟨rfl, PT.mk hU hWm hP hK hD hE hO⟩⟩ rfl rfl hl.1 rfl (lv_room (Nat.le_of_ble_eq_true rfl)) dX7_isFrom_40 ⟨by show _ + 0 ≤ 0; omega, by show _ + 0 ≤ 0; omega⟩) hS (fun q _ h => hFc q h) hFc (fun r_63 u t H1 locs ht hvm hw hB hz1 hk1 hS => ?_)
        obtain ⟨F_64, hB1⟩ := hB
        obtain rfl : F = F_64 := (funext (fun a => hB1.2.2.2 a List.not_mem_nil)).symm
        obtain ⟨hP, hD, hO, hR⟩ := QT.back hB1 ht hFc hR (fun q h => absurd h List.not_mem_nil)
        generalize H1 = H at hP hS ⊢
        have hw : r_63 = smv (f (a + j)) := hw
        have hw_65 := hw
        subst hw_65
        obtain ⟨q_66, v_67, hr_q_66, hXc_q_66⟩ := hG.2.2.2.2 ("PostGate$Sealer", 89, "from", [102, 114, 111, 109]) (by decide +kernel)
        have hXc_q_66 : SXc q_66 v_67 4 (cct [102, 114, 111, 109]) A s s.heap := hXc_q_66
        have hX_q_66 : SX q_66 v_67 4 A s s.heap := hXc_q_66.sx
        obtain ⟨xo_q_66, xc_q_66, xv_q_66, xt_q_66, xn_q_66⟩ := id hXc_q_66
        have hr_q_66 : vk_R "PostGate$Sealer" 89 "from" q_66 s := hr_q_66
        refine va_ldcS hx hb hown hr_q_66 dX7_isFrom_43 ?_
        refine lv_iload hx hb dX7_isFrom_45 (lv_at hl 0 rfl) ?_
        have hFc := pg_free hD hS hA
        refine va_calli (va_runV (As := [.int (nI j)]) (rest := [.int (smv (f (a + j)))]) ⟨hx, hb, hml, hown, hts⟩ (s_J0_charAt_x l dC dI cs ty L H.size F q_66 v_67 4 (cct [102, 114, 111, 109]) j hW (hj4)) ⟨callB_of 1 hts (gi kt_75) rfl rfl rfl (hts _ kt_51) (hts _ kt_317) (by decide +kernel) ⟨Nat.le_of_ble_eq_true rfl, Nat.le_of_ble_eq_true rfl⟩, (hts _ kt_77), (hts _ kt_78)⟩ ⟨fun a U g mk q => ⟨q.1, PTC.calling q.2⟩, sx_recv hX_q_66 hS, fun U hU hWm => ⟨rfl, PTC.mk hU hWm hP hK hD hE hO hG hXc_q_66 hS hFc⟩⟩ rfl rfl hl.1 rfl (lv_room (Nat.le_of_ble_eq_true rfl)) dX7_isFrom_47 ⟨by show _ + 0 ≤ 0; omega, by show _ + 0 ≤ 0; omega⟩) hS (fun q _ h => hFc q h) hFc (fun r_68 u t H1 locs ht hvm hw hB hz1 hk1 hS => ?_)
        obtain ⟨F_69, hB1⟩ := hB
        obtain rfl : F = F_69 := (funext (fun a => hB1.2.2.2 a List.not_mem_nil)).symm
        obtain ⟨hP, hD, hO, hR⟩ := QT.back hB1 ht hFc hR (fun q h => absurd h List.not_mem_nil)
        generalize H1 = H at hP hS ⊢
        have hw : r_68 = chv ((cct [102, 114, 111, 109]) j) := hw
        have hw_70 := hw
        obtain ⟨hch, hcl8⟩ := (show CLI (cct [102, 114, 111, 109]) 4 FRO from ⟨rfl, by decide +kernel⟩).2 j hj4
        have hcc : r_68 = nI (FRO.getD j 0) := hw_70.trans hch
        subst hcc
        refine lv_icmp_ne (tgt := 57) hx hb dX7_isFrom_50 (by decide) (fun c_71 => ?_) (fun c_71 => ?_)
        ·
          have hce : ¬ smc ((TC f z) (a + j)) = FRO.getD j 0 := by rw [tcn_in (show a + j < z by omega)]; exact fun q => c_71 ((smx_cd hcl8).mpr q)
          refine lv_iconst (v := 0) hx hb dX7_isFrom_57 (by decide) ?_
          refine lv_istore_n (lv' := [(3, .int 0), (4, .int (nI j)), (0, .ref h0), (1, .int (nI a)), (2, .int (nI b))]) hx hb dX7_isFrom_58 rfl hl (by decide) rfl (fun ls hl => ?_)
          refine lv_iinc (v := (nI (j + 1))) (lv' := [(4, .int (nI (j + 1))), (3, .int 0), (0, .ref h0), (1, .int (nI a)), (2, .int (nI b))]) hx hb dX7_isFrom_59 hl (k := 1) rfl (nI_1 _) (by decide) rfl (fun ls hl => ?_)
          refine lv_goto (tgt := 16) hx hb dX7_isFrom_62 (by decide) ?_
          refine W.widen (k := 0) (n := 0) (by omega) (by omega) ?_
          exact ih_54 ((j + 1), 0) F (⟨by omega, fri_n hj4 hce⟩) (by show 4 - (j + 1) < 4 - j; omega) hO hR _ _ hP hD hS ls (lv_sub hl [0, 1, 2, 3, 4] rfl)
        ·
          have hce : smc ((TC f z) (a + j)) = FRO.getD j 0 := by rw [tcn_in (show a + j < z by omega)]; exact (smx_cd hcl8).mp c_71
          refine lv_iconst (v := 1) hx hb dX7_isFrom_53 (by decide) ?_
          refine lv_goto (tgt := 58) hx hb dX7_isFrom_54 (by decide) ?_
          refine lv_istore_n (lv' := [(3, .int 1), (4, .int (nI j)), (0, .ref h0), (1, .int (nI a)), (2, .int (nI b))]) hx hb dX7_isFrom_58 rfl hl (by decide) rfl (fun ls hl => ?_)
          refine lv_iinc (v := (nI (j + 1))) (lv' := [(4, .int (nI (j + 1))), (3, .int 1), (0, .ref h0), (1, .int (nI a)), (2, .int (nI b))]) hx hb dX7_isFrom_59 hl (k := 1) rfl (nI_1 _) (by decide) rfl (fun ls hl => ?_)
          refine lv_goto (tgt := 16) hx hb dX7_isFrom_62 (by decide) ?_
          refine W.widen (k := 0) (n := 0) (by omega) (by omega) ?_
          exact ih_54 ((j + 1), 1) F (⟨by omega, fri_s hfr.2 hce⟩) (by show 4 - (j + 1) < 4 - j; omega) hO hR _ _ hP hD hS ls (lv_sub hl [0, 1, 2, 3, 4] rfl)
  ·
    have h4y : a + 4 = b := by have h9 := (nI_eq (b := 4) (by omega) (by omega)).mp c_50; omega
    refine lv_iconst (v := 1) hx hb dX7_isFrom_7 (by decide) ?_
    refine lv_goto (tgt := 12) hx hb dX7_isFrom_8 (by decide) ?_
    refine lv_istore_n (lv' := [(3, .int 1), (0, .ref h0), (1, .int (nI a)), (2, .int (nI b))]) hx hb dX7_isFrom_12 rfl hl (by decide) rfl (fun ls hl => ?_)
    refine lv_iconst (v := 0) hx hb dX7_isFrom_13 (by decide) ?_
    refine lv_istore (lv' := [(4, .int 0), (3, .int 1), (0, .ref h0), (1, .int (nI a)), (2, .int (nI b))]) hx hb dX7_isFrom_14 hl (by decide) rfl (fun ls hl => ?_)
    refine W.widen (k := 0) (n := 0) (by omega) (by omega) ?_
    refine pl_loop (σ := Nat × Int32) A (dC, dI) cs ty L [] F 16 5 (fun (j, u3) => [(4, .int (nI j)), (3, .int u3), (0, .ref h0), (1, .int (nI a)), (2, .int (nI b))]) (fun (j, u3) => []) (fun (j, u3) _ => j ≤ 4 ∧ FRI (TC f z) a b j u3) (fun (j, u3) => 4 - j) ?_ (0, 1) F (⟨by omega, Or.inl ⟨rfl, h4y, fun i hi => absurd hi (Nat.not_lt_zero _)⟩⟩) hO hR _ _ hP hD hS ls (lv_sub hl [0, 1, 2, 3, 4] rfl)
    rintro ⟨j, u3⟩ F_73 hv_74 hO hR ih_75 H locs hP hD hS ls hl
    have hl : lv_has ls 5 [(4, .int (nI j)), (3, .int u3), (0, .ref h0), (1, .int (nI a)), (2, .int (nI b))] := hl
    have hv_74 : j ≤ 4 ∧ FRI (TC f z) a b j u3 := hv_74
    refine W.eq (g2 := F0 m 16 ls []) rfl ?_
    obtain rfl : F = F_73 := (funext (fun a => hR a List.not_mem_nil)).symm
    obtain ⟨hv1, hv2⟩ := id hv_74
    refine lv_iload_n hx hb dX7_isFrom_16 rfl (lv_at hl 1 rfl) ?_
    refine lv_if_eq (tgt := 65) hx hb dX7_isFrom_17 (by decide) (fun c_76 => ?_) (fun c_76 => ?_)
    ·
      refine lv_iload_n hx hb dX7_isFrom_65 rfl (lv_at hl 1 rfl) ?_
      refine W.widen (k := 0) (n := 0) (by omega) (by omega) ?_
      exact W.zret (v := u3) (ty := .boolean) hx hb hr (by rcases hv2 with q | q <;> rw [q.1] <;> decide) (fun t ht hWm => ⟨⟨u3, (), rfl, (Or.inr ⟨c_76, fri_0 hv2 c_76⟩), ⟨F, QT.mk ht hP hD hO hR⟩⟩, hS.F ht⟩) hS.2.2 dX7_isFrom_66
    ·
      have hfr := fri_1 hv2 c_76
      refine lv_iload hx hb dX7_isFrom_20 (lv_at hl 0 rfl) ?_
      refine lv_iconst (v := 4) hx hb dX7_isFrom_22 (by decide) ?_
      refine lv_icmp_ge (tgt := 65) hx hb dX7_isFrom_23 (by decide) (fun c_77 => ?_) (fun c_77 => ?_)
      ·
        have hi_78 : 4 ≤ j := leN (N := 4) c_77
        have hj4 : 4 ≤ j := (nI_leI (by omega) (by omega)).mp c_77
        refine lv_iload_n hx hb dX7_isFrom_65 rfl (lv_at hl 1 rfl) ?_
        refine W.widen (k := 0) (n := 0) (by omega) (by omega) ?_
        exact W.zret (v := u3) (ty := .boolean) hx hb hr (by rcases hv2 with q | q <;> rw [q.1] <;> decide) (fun t ht hWm => ⟨⟨u3, (), rfl, (fri_e (by rw [show j = 4 by omega] at hv2; exact hv2)), ⟨F, QT.mk ht hP hD hO hR⟩⟩, hS.F ht⟩) hS.2.2 dX7_isFrom_66
      ·
        have hi_79 : j < 4 := ltN (N := 4) c_77
        have hj4 : j < 4 := Nat.not_le.mp (fun q => c_77 ((nI_leI (by omega) (by omega)).mpr q))
        refine lv_aload_n hx hb dX7_isFrom_26 rfl (lv_at hl 2 rfl) ?_
        refine pg_get (ci := 7) (v := .ref sl) (C := RX7) (T := TX7) (N := 17) hx hb hts it_7 hown hK hP hL_h0 hFs rfl 1 (by decide) (hts _ kt_307) (fun _ h9 => h9) rfl dX7_isFrom_27 ?_
        refine pg_getN (ci := 9) (v := .ref sx) (C := RX9) (T := TX9) (N := 5) hx hb hts it_9 hown hK hP hi_3 hFl rfl 0 (by decide) (hE.nest kn_7) (fun _ h9 => h9) rfl dX7_isFrom_30 ?_
        refine lv_iload_n hx hb dX7_isFrom_33 rfl (lv_at hl 3 rfl) ?_
        refine lv_iload hx hb dX7_isFrom_34 (lv_at hl 0 rfl) ?_
        refine lv_iadd hx hb dX7_isFrom_36 ?_
        refine lv_topi (fun x_80 ex_80 => ?_)
        obtain rfl : x_80 = (nI (a + j)) := ex_80.trans (nI_add a j)
        have hFc := pg_free hD hS hA
        refine va_calli (va_runV (As := [.int (nI (a + j))]) (rest := []) ⟨hx, hb, hml, hown, hts⟩ (s_X0_at_e l dC dI cs ty L H.size F sx (ρ + 3) rsx 3000 z (a + j) f hW hL_sx hT_sx hFx hFr (by omega) (by omega) (by omega)) ⟨callB_of 1 hts (gi kt_21) rfl rfl rfl (hts _ kt_1) (hts _ kt_305) (by decide +kernel) ⟨Nat.le_of_ble_eq_true rfl, Nat.le_of_ble_eq_true rfl⟩, (hts _ kt_23), (hts _ kt_24)⟩ ⟨fun a U g mk q => ⟨q.1, PT.calling q.2⟩, pg_recv hK hP hL_sx hFx (q := (RX0, TX0, 3)) rfl, fun U hU hWm => ⟨rfl, PT.mk hU hWm hP hK hD hE hO⟩⟩ rfl rfl hl.1 rfl (lv_room (Nat.le_of_ble_eq_true rfl)) dX7_isFrom_37 ⟨by show _ + 0 ≤ 0; omega, by show _ + 0 ≤ 0; omega⟩) hS (fun q _ h => hFc q h) hFc (fun r_81 u t H1 locs ht hvm hw hB hz1 hk1 hS => ?_)
        obtain ⟨F_82, hB1⟩ := hB
        obtain rfl : F = F_82 := (funext (fun a => hB1.2.2.2 a List.not_mem_nil)).symm
        obtain ⟨hP, hD, hO, hR⟩ := QT.back hB1 ht hFc hR (fun q h => absurd h List.not_mem_nil)
        generalize H1 = H at hP hS ⊢
        have hw : r_81 = f (a + j) := hw
        have hw_83 := hw
        subst hw_83
        have hFc := pg_free hD hS hA
        refine va_calli (va_runS (As := [.int (f (a + j))]) (rest := []) ⟨hx, hb, hml, hown, hts⟩ (s_X0_smallOf_x l dC dI cs ty L H.size F (f (a + j)) hW ) ⟨callB_of 1 hts (gi kt_0) rfl rfl rfl (hts _ kt_1) (hts _ kt_316) (by decide +kernel) ⟨Nat.le_of_ble_eq_true rfl, Nat.le_of_ble_eq_true rfl⟩, (hts _ kt_3)⟩ ⟨fun a U g mk q => ⟨q.1, PT.calling q.2⟩, fun U hU hWm => ⟨rfl, PT.mk hU hWm hP hK hD hE hO⟩⟩ rfl rfl hl.1 rfl (lv_room (Nat.le_of_ble_eq_true rfl)) dX7_isFrom_40 ⟨by show _ + 0 ≤ 0; omega, by show _ + 0 ≤ 0; omega⟩) hS (fun q _ h => hFc q h) hFc (fun r_84 u t H1 locs ht hvm hw hB hz1 hk1 hS => ?_)
        obtain ⟨F_85, hB1⟩ := hB
        obtain rfl : F = F_85 := (funext (fun a => hB1.2.2.2 a List.not_mem_nil)).symm
        obtain ⟨hP, hD, hO, hR⟩ := QT.back hB1 ht hFc hR (fun q h => absurd h List.not_mem_nil)
        generalize H1 = H at hP hS ⊢
        have hw : r_84 = smv (f (a + j)) := hw
        have hw_86 := hw
        subst hw_86
        obtain ⟨q_87, v_88, hr_q_87, hXc_q_87⟩ := hG.2.2.2.2 ("PostGate$Sealer", 89, "from", [102, 114, 111, 109]) (by decide +kernel)
        have hXc_q_87 : SXc q_87 v_88 4 (cct [102, 114, 111, 109]) A s s.heap := hXc_q_87
        have hX_q_87 : SX q_87 v_88 4 A s s.heap := hXc_q_87.sx
        obtain ⟨xo_q_87, xc_q_87, xv_q_87, xt_q_87, xn_q_87⟩ := id hXc_q_87
        have hr_q_87 : vk_R "PostGate$Sealer" 89 "from" q_87 s := hr_q_87
        refine va_ldcS hx hb hown hr_q_87 dX7_isFrom_43 ?_
        refine lv_iload hx hb dX7_isFrom_45 (lv_at hl 0 rfl) ?_
        have hFc := pg_free hD hS hA
        refine va_calli (va_runV (As := [.int (nI j)]) (rest := [.int (smv (f (a + j)))]) ⟨hx, hb, hml, hown, hts⟩ (s_J0_charAt_x l dC dI cs ty L H.size F q_87 v_88 4 (cct [102, 114, 111, 109]) j hW (hj4)) ⟨callB_of 1 hts (gi kt_75) rfl rfl rfl (hts _ kt_51) (hts _ kt_317) (by decide +kernel) ⟨Nat.le_of_ble_eq_true rfl, Nat.le_of_ble_eq_true rfl⟩, (hts _ kt_77), (hts _ kt_78)⟩ ⟨fun a U g mk q => ⟨q.1, PTC.calling q.2⟩, sx_recv hX_q_87 hS, fun U hU hWm => ⟨rfl, PTC.mk hU hWm hP hK hD hE hO hG hXc_q_87 hS hFc⟩⟩ rfl rfl hl.1 rfl (lv_room (Nat.le_of_ble_eq_true rfl)) dX7_isFrom_47 ⟨by show _ + 0 ≤ 0; omega, by show _ + 0 ≤ 0; omega⟩) hS (fun q _ h => hFc q h) hFc (fun r_89 u t H1 locs ht hvm hw hB hz1 hk1 hS => ?_)
        obtain ⟨F_90, hB1⟩ := hB
        obtain rfl : F = F_90 := (funext (fun a => hB1.2.2.2 a List.not_mem_nil)).symm
        obtain ⟨hP, hD, hO, hR⟩ := QT.back hB1 ht hFc hR (fun q h => absurd h List.not_mem_nil)
        generalize H1 = H at hP hS ⊢
        have hw : r_89 = chv ((cct [102, 114, 111, 109]) j) := hw
        have hw_91 := hw
        obtain ⟨hch, hcl8⟩ := (show CLI (cct [102, 114, 111, 109]) 4 FRO from ⟨rfl, by decide +kernel⟩).2 j hj4
        have hcc : r_89 = nI (FRO.getD j 0) := hw_91.trans hch
        subst hcc
        refine lv_icmp_ne (tgt := 57) hx hb dX7_isFrom_50 (by decide) (fun c_92 => ?_) (fun c_92 => ?_)
        ·
          have hce : ¬ smc ((TC f z) (a + j)) = FRO.getD j 0 := by rw [tcn_in (show a + j < z by omega)]; exact fun q => c_92 ((smx_cd hcl8).mpr q)
          refine lv_iconst (v := 0) hx hb dX7_isFrom_57 (by decide) ?_
          refine lv_istore_n (lv' := [(3, .int 0), (4, .int (nI j)), (0, .ref h0), (1, .int (nI a)), (2, .int (nI b))]) hx hb dX7_isFrom_58 rfl hl (by decide) rfl (fun ls hl => ?_)
          refine lv_iinc (v := (nI (j + 1))) (lv' := [(4, .int (nI (j + 1))), (3, .int 0), (0, .ref h0), (1, .int (nI a)), (2, .int (nI b))]) hx hb dX7_isFrom_59 hl (k := 1) rfl (nI_1 _) (by decide) rfl (fun ls hl => ?_)
          refine lv_goto (tgt := 16) hx hb dX7_isFrom_62 (by decide) ?_
          refine W.widen (k := 0) (n := 0) (by omega) (by omega) ?_
          exact ih_75 ((j + 1), 0) F (⟨by omega, fri_n hj4 hce⟩) (by show 4 - (j + 1) < 4 - j; omega) hO hR _ _ hP hD hS ls (lv_sub hl [0, 1, 2, 3, 4] rfl)
        ·
          have hce : smc ((TC f z) (a + j)) = FRO.getD j 0 := by rw [tcn_in (show a + j < z by omega)]; exact (smx_cd hcl8).mp c_92
          refine lv_iconst (v := 1) hx hb dX7_isFrom_53 (by decide) ?_
          refine lv_goto (tgt := 58) hx hb dX7_isFrom_54 (by decide) ?_
          refine lv_istore_n (lv' := [(3, .int 1), (4, .int (nI j)), (0, .ref h0), (1, .int (nI a)), (2, .int (nI b))]) hx hb dX7_isFrom_58 rfl hl (by decide) rfl (fun ls hl => ?_)
          refine lv_iinc (v := (nI (j + 1))) (lv' := [(4, .int (nI (j + 1))), (3, .int 1), (0, .ref h0), (1, .int (nI a)), (2, .int (nI b))]) hx hb dX7_isFrom_59 hl (k := 1) rfl (nI_1 _) (by decide) rfl (fun ls hl => ?_)
          refine lv_goto (tgt := 16) hx hb dX7_isFrom_62 (by decide) ?_
          refine W.widen (k := 0) (n := 0) (by omega) (by omega) ?_
          exact ih_75 ((j + 1), 1) F (⟨by omega, fri_s hfr.2 hce⟩) (by show 4 - (j + 1) < 4 - j; omega) hO hR _ _ hP hD hS ls (lv_sub hl [0, 1, 2, 3, 4] rfl)
set_option maxHeartbeats 4000000 in
set_option maxRecDepth 100000 in
theorem s_X7_isFieldList_e (l : Launch) (dC : Nat → ClassId) (dI : Nat → Nat → Nat) (cs : Nat → ClassId) (ty : TyM) (L : List Nat) (sz : Nat) (F : Nat → va_E) (h0 : Nat) (ρ : Nat) (d : Nat) (δ : Nat) (ea : Nat) (sl : Nat) (sx : Nat) (sy0 : Nat) (sy1 : Nat) (sy2 : Nat) (ke : Nat) (kx : Nat) (ky0 : Nat) (ky1 : Nat) (ky2 : Nat) (w0 : Nat) (w1 : Nat) (w2 : Nat) (w3 : Nat) (w4 : Nat) (w5 : Nat) (w6 : Nat) (w7 : Nat) (w8 : Nat) (tk : Nat) (hs : Nat) (ha : Nat) (hbb : Nat) (hcc : Nat) (pw : Nat) (px : Nat) (py : Nat) (pz : Nat) (pu : Nat) (rsx : Nat) (z : Nat) (nn : Nat) (f : Nat → Int32) (e0 : Nat → Int32) (e1 : Nat → Int32) (e2 : Nat → Int32) (gq : Nat → Nat → Nat) (v0 : Int32) (v1 : Int32) (hW : WT ty L) (hL_h0 : h0 ∈ L) (hT_h0 : ty h0 = (7, ρ, [d, δ, ea, sl, sx, sy0, sy1, sy2, ke, kx, ky0, ky1, ky2, w0, w1, w2, w3, w4, w5, w6, w7, w8, tk, hs, ha, hbb, hcc, pw, px, py, pz, pu])) (hL_sx : sx ∈ L) (hT_sx : ty sx = (0, ρ + 3, [rsx, 3000])) (hFs : F h0 = .inr (7, [.ref d, .ref sl, .ref ke, .ref w0, .ref w1, .ref w2, .ref w3, .ref w4, .ref w5, .ref w6, .ref w7, .ref w8, .ref tk, .ref hs, .ref pw, .int v0, .int v1])) (hFl : F sl = .inr (9, [.ref sx, .ref sy0, .ref sy1, .ref sy2, .int (nI nn)])) (hFx : F sx = .inr (0, [.ref rsx, .int (nI z), .int 0])) (hFr : F rsx = .inl (cs 16, 3000, .inl f)) (hFy0 : F sy0 = .inl (cs 16, 40, .inl e0)) (hFy1 : F sy1 = .inl (cs 16, 40, .inl e1)) (hFy2 : F sy2 = .inl (cs 16, 40, .inl e2)) (hzn : z ≤ 3000) (hcn : nn ≤ 40) (hhl : HLD e0 e1 e2 nn gq) (hTG : TGI z nn gq) : Met l yX7_isFieldList (.code yX7_isFieldList cX7_isFieldList 5 (some .boolean) :: tb) ({ frames := 7, cells := 0, slots := 0, locals := 153 }) (va_Pc [.ref h0] (PTE (dC, dI) cs ty L F sz [])) (va_Qi (fun (r : Int32) (_ : Unit) => (r = 1 ∧ HLO (TC f z) (tgA gq (tgR (TC f z) gq [104] nn)) (tgB gq (tgR (TC f z) gq [104] nn))) ∨ (r = 0 ∧ ¬ HLO (TC f z) (tgA gq (tgR (TC f z) gq [104] nn)) (tgB gq (tgR (TC f z) gq [104] nn)))) (fun _ T9 => ∃ F2 : Nat → va_E, QT (dC, dI) cs ty L [] F F2 (va_A (va_pl L F) sz) T9) (va_A (va_pl L F) sz)) 0 0 (va_A (va_pl L F) sz) := by
  refine Met.ofW (cc := cX7_isFieldList) (maxL := 5) (ret := (some .boolean)) (by decide) rfl ?_
  intro p e s m args below meth c s₁ B hml hv
  obtain ⟨rfl, ⟨hsz, hP, hK, hD0, hE, hO⟩, hG, hX⟩ := hv
  have hx := B.exec
  have hb := B.bytes
  have hr := B.returns
  have hts : ∀ w ∈ tb, w.before _ s = true := fun w h => atoms_spec (ws := .code yX7_isFieldList cX7_isFieldList 5 (some .boolean) :: tb) B.pre w (List.mem_cons_of_mem _ h)
  have hown : s.vm.findClass RX7 = some m.cls := findClass_of_methodNamed B.named
  have hlocks := B.notSynchronized
  subst hsz
  have hD := hD0.self (sz := s.heap.size)
  generalize hAe : va_A (va_pl L F) s.heap.size = A at hD hG hX ⊢
  have hA : ∀ q : Nat, s.heap.size ≤ q → A q := fun q h => by rw [← hAe]; exact Or.inr h
  have hS : va_S A s.heap s.heap [] := va_S.rf
  have hR : FR ty [] F F := FR.refl
  have hl := lv_entry ([.ref h0]) (n := 5) (Nat.le_of_ble_eq_true rfl)
  rw [lg_entry_eq]
  generalize (lg_sl ([.ref h0]) ++ List.replicate (5 - (lg_sl ([.ref h0])).length) Slot.unset).toArray = ls at hl ⊢
  have hl : lv_has ls 5 [(0, .ref h0)] := hl
  obtain ⟨hi_1, ht_2, hi_3, ht_4, hi_5, ht_6, hi_7, ⟨r_8, ht_9⟩, hi_10, ⟨r_11, ht_12⟩, hi_13, ⟨r_14, ht_15⟩, hi_16, ⟨r_17, ht_18⟩, hi_19, ⟨r_20, ht_21⟩, hi_22, ⟨r_23, ht_24⟩, hi_25, ⟨r_26, ht_27⟩, hi_28, ⟨r_29, ht_30⟩, hi_31, ⟨r_32, ht_33⟩, hi_34, ht_35, hi_36, ht_37, hi_38, ht_39⟩ := hW.slr hL_h0 hT_h0
  obtain ⟨_, hi_40, hi_41, hi_42, _, ht_43, ht_44, ht_45⟩ := hW.tags hi_3 ht_4
  have ht_44 : ty sy1 = (24, ρ + 72, [40]) := ht_44
  have ht_45 : ty sy2 = (24, ρ + 73, [40]) := ht_45
  obtain ⟨hi_46, ht_47, hq_48⟩ := hW.bytes hL_sx hT_sx
  refine lv_iconst (v := 0) hx hb dX7_isFieldList_0 (by decide) ?_
  refine lv_istore_n (lv' := [(1, .int 0), (0, .ref h0)]) hx hb dX7_isFieldList_1 rfl hl (by decide) rfl (fun ls hl => ?_)
  refine lv_aload_n hx hb dX7_isFieldList_2 rfl (lv_at hl 1 rfl) ?_
  refine pg_get (ci := 7) (v := .ref sl) (C := RX7) (T := TX7) (N := 17) hx hb hts it_7 hown hK hP hL_h0 hFs rfl 1 (by decide) (hts _ kt_307) (fun _ h9 => h9) rfl dX7_isFieldList_3 ?_
  obtain ⟨q_49, v_50, hr_q_49, hXc_q_49⟩ := hG.2.2.2.2 ("PostGate$Sealer", 207, "h", [104]) (by decide +kernel)
  have hXc_q_49 : SXc q_49 v_50 1 (cct [104]) A s s.heap := hXc_q_49
  have hX_q_49 : SX q_49 v_50 1 A s s.heap := hXc_q_49.sx
  obtain ⟨xo_q_49, xc_q_49, xv_q_49, xt_q_49, xn_q_49⟩ := id hXc_q_49
  have hr_q_49 : vk_R "PostGate$Sealer" 207 "h" q_49 s := hr_q_49
  refine va_ldcS hx hb hown hr_q_49 dX7_isFieldList_6 ?_
  have hFc := pg_free hD hS hA
  refine va_calli (va_runV (As := [.ref q_49]) (rest := []) ⟨hx, hb, hml, hown, hts⟩ (s_X9_startOf_e l dC dI cs ty L s.heap.size F sl (ρ + 2) sx 3000 sy0 sy1 sy2 rsx z nn f e0 e1 e2 gq q_49 v_50 1 (cct [104]) ([104]) hW hi_3 ht_4 hL_sx hT_sx hFl hFx hFr hFy0 hFy1 hFy2 (hzn) (by omega) (hcn) (hhl) (hTG) (⟨rfl, by decide +kernel⟩)) ⟨callB_of 1 hts (gi kt_170) rfl rfl rfl (hts _ kt_164) (hts _ kt_318) (by decide +kernel) ⟨Nat.le_of_ble_eq_true rfl, Nat.le_of_ble_eq_true rfl⟩, (hts _ kt_172), (hts _ kt_173)⟩ ⟨fun a U g mk q => ⟨q.1, PTC.calling q.2⟩, pg_recv hK hP hi_3 hFl (q := (RX9, TX9, 5)) rfl, fun U hU hWm => ⟨rfl, PTC.mk hU hWm hP hK hD hE hO hG hXc_q_49 hS hFc⟩⟩ rfl rfl hl.1 rfl (lv_room (Nat.le_of_ble_eq_true rfl)) dX7_isFieldList_8 ⟨by show _ + 0 ≤ 0; omega, by show _ + 0 ≤ 0; omega⟩) hS (fun q _ h => hFc q h) hFc (fun r_51 u t H1 locs ht hvm hw hB hz1 hk1 hS => ?_)
  obtain ⟨F_52, hB1⟩ := hB
  obtain rfl : F = F_52 := (funext (fun a => hB1.2.2.2 a List.not_mem_nil)).symm
  obtain ⟨hP, hD, hO, hR⟩ := QT.back hB1 ht hFc hR (fun q h => absurd h List.not_mem_nil)
  generalize H1 = H at hP hS ⊢
  have hw : r_51 = nI (tgA gq (tgR (TC f z) gq [104] nn)) := hw
  have hw_53 := hw
  have hq9 : r_51 = nI (tgA gq (tgR (TC f z) gq [104] nn)) := hw_53
  subst hq9
  refine lv_istore_n (lv' := [(2, .int (nI (tgA gq (tgR (TC f z) gq [104] nn)))), (1, .int 0), (0, .ref h0)]) hx hb dX7_isFieldList_11 rfl hl (by decide) rfl (fun ls hl => ?_)
  refine lv_aload_n hx hb dX7_isFieldList_12 rfl (lv_at hl 2 rfl) ?_
  refine pg_get (ci := 7) (v := .ref sl) (C := RX7) (T := TX7) (N := 17) hx hb hts it_7 hown hK hP hL_h0 hFs rfl 1 (by decide) (hts _ kt_307) (fun _ h9 => h9) rfl dX7_isFieldList_13 ?_
  refine va_ldcS hx hb hown hr_q_49 dX7_isFieldList_16 ?_
  have hFc := pg_free hD hS hA
  refine va_calli (va_runV (As := [.ref q_49]) (rest := []) ⟨hx, hb, hml, hown, hts⟩ (s_X9_endOf_e l dC dI cs ty L H.size F sl (ρ + 2) sx 3000 sy0 sy1 sy2 rsx z nn f e0 e1 e2 gq q_49 v_50 1 (cct [104]) ([104]) hW hi_3 ht_4 hL_sx hT_sx hFl hFx hFr hFy0 hFy1 hFy2 (hzn) (by omega) (hcn) (hhl) (hTG) (⟨rfl, by decide +kernel⟩)) ⟨callB_of 1 hts (gi kt_174) rfl rfl rfl (hts _ kt_164) (hts _ kt_319) (by decide +kernel) ⟨Nat.le_of_ble_eq_true rfl, Nat.le_of_ble_eq_true rfl⟩, (hts _ kt_176), (hts _ kt_177)⟩ ⟨fun a U g mk q => ⟨q.1, PTC.calling q.2⟩, pg_recv hK hP hi_3 hFl (q := (RX9, TX9, 5)) rfl, fun U hU hWm => ⟨rfl, PTC.mk hU hWm hP hK hD hE hO hG hXc_q_49 hS hFc⟩⟩ rfl rfl hl.1 rfl (lv_room (Nat.le_of_ble_eq_true rfl)) dX7_isFieldList_18 ⟨by show _ + 0 ≤ 0; omega, by show _ + 0 ≤ 0; omega⟩) hS (fun q _ h => hFc q h) hFc (fun r_54 u t H1 locs ht hvm hw hB hz1 hk1 hS => ?_)
  obtain ⟨F_55, hB1⟩ := hB
  obtain rfl : F = F_55 := (funext (fun a => hB1.2.2.2 a List.not_mem_nil)).symm
  obtain ⟨hP, hD, hO, hR⟩ := QT.back hB1 ht hFc hR (fun q h => absurd h List.not_mem_nil)
  generalize H1 = H at hP hS ⊢
  have hw : r_54 = nI (tgB gq (tgR (TC f z) gq [104] nn)) := hw
  have hw_56 := hw
  have hq9 : r_54 = nI (tgB gq (tgR (TC f z) gq [104] nn)) := hw_56
  subst hq9
  refine lv_istore_n (lv' := [(3, .int (nI (tgB gq (tgR (TC f z) gq [104] nn)))), (2, .int (nI (tgA gq (tgR (TC f z) gq [104] nn)))), (1, .int 0), (0, .ref h0)]) hx hb dX7_isFieldList_21 rfl hl (by decide) rfl (fun ls hl => ?_)
  obtain ⟨hab9, hbz9⟩ := tgAB (T := (TC f z)) (l := [104]) hTG
  refine lv_iload_n hx hb dX7_isFieldList_22 rfl (lv_at hl 1 rfl) ?_
  refine lv_istore (lv' := [(4, .int (nI (tgA gq (tgR (TC f z) gq [104] nn)))), (3, .int (nI (tgB gq (tgR (TC f z) gq [104] nn)))), (2, .int (nI (tgA gq (tgR (TC f z) gq [104] nn)))), (1, .int 0), (0, .ref h0)]) hx hb dX7_isFieldList_23 hl (by decide) rfl (fun ls hl => ?_)
  refine W.widen (k := 0) (n := 0) (by omega) (by omega) ?_
  refine pl_loop (σ := Nat × Nat × Int32 × (List (Nat × Nat))) A (dC, dI) cs ty L [] F 25 5 (fun (j, wj, u1, pre) => [(4, .int (nI j)), (3, .int (nI (tgB gq (tgR (TC f z) gq [104] nn)))), (2, .int (nI wj)), (1, .int u1), (0, .ref h0)]) (fun (j, wj, u1, pre) => []) (fun (j, wj, u1, pre) _ => wj ≤ j ∧ (tgA gq (tgR (TC f z) gq [104] nn)) ≤ wj ∧ j ≤ (tgB gq (tgR (TC f z) gq [104] nn)) + 1 ∧ (j ≤ (tgB gq (tgR (TC f z) gq [104] nn)) ∨ (tgB gq (tgR (TC f z) gq [104] nn)) < wj) ∧ (∀ i, wj ≤ i → i < j → ¬ (TC f z) i = 58) ∧ HLI (TC f z) (tgA gq (tgR (TC f z) gq [104] nn)) (tgB gq (tgR (TC f z) gq [104] nn)) wj u1 pre) (fun (j, wj, u1, pre) => (tgB gq (tgR (TC f z) gq [104] nn)) + 1 - j) ?_ ((tgA gq (tgR (TC f z) gq [104] nn)), (tgA gq (tgR (TC f z) gq [104] nn)), 0, []) F (⟨Nat.le_refl _, Nat.le_refl _, by omega, Or.inl hab9, fun i h1 h2 => absurd h2 (by omega), hli_0⟩) hO hR _ _ hP hD hS ls (lv_sub hl [0, 1, 2, 3, 4] rfl)
  rintro ⟨j, wj, u1, pre⟩ F_57 hv_58 hO hR ih_59 H locs hP hD hS ls hl
  have hl : lv_has ls 5 [(4, .int (nI j)), (3, .int (nI (tgB gq (tgR (TC f z) gq [104] nn)))), (2, .int (nI wj)), (1, .int u1), (0, .ref h0)] := hl
  have hv_58 : wj ≤ j ∧ (tgA gq (tgR (TC f z) gq [104] nn)) ≤ wj ∧ j ≤ (tgB gq (tgR (TC f z) gq [104] nn)) + 1 ∧ (j ≤ (tgB gq (tgR (TC f z) gq [104] nn)) ∨ (tgB gq (tgR (TC f z) gq [104] nn)) < wj) ∧ (∀ i, wj ≤ i → i < j → ¬ (TC f z) i = 58) ∧ HLI (TC f z) (tgA gq (tgR (TC f z) gq [104] nn)) (tgB gq (tgR (TC f z) gq [104] nn)) wj u1 pre := hv_58
  refine W.eq (g2 := F0 m 25 ls []) rfl ?_
  obtain rfl : F = F_57 := (funext (fun a => hR a List.not_mem_nil)).symm
  obtain ⟨hv1, hv2, hv3, hv4, hv5, hv6⟩ := id hv_58
  refine lv_iload hx hb dX7_isFieldList_25 (lv_at hl 0 rfl) ?_
  refine lv_iload_n hx hb dX7_isFieldList_27 rfl (lv_at hl 1 rfl) ?_
  refine lv_icmp_gt (tgt := 106) hx hb dX7_isFieldList_28 (by decide) (fun c_60 => ?_) (fun c_60 => ?_)
  ·
    have hi_61 : (tgB gq (tgR (TC f z) gq [104] nn)) < j := (nI_ltI (a := (tgB gq (tgR (TC f z) gq [104] nn))) (b := j) (by omega) (by omega)).mp c_60
    have hje : (tgB gq (tgR (TC f z) gq [104] nn)) < j := (nI_ltI (by omega) (by omega)).mp c_60
    refine lv_iload_n hx hb dX7_isFieldList_106 rfl (lv_at hl 3 rfl) ?_
    refine W.widen (k := 0) (n := 0) (by omega) (by omega) ?_
    exact W.zret (v := u1) (ty := .boolean) hx hb hr (by rcases hv6.2.2 with q | q <;> rw [q.1] <;> decide) (fun t ht hWm => ⟨⟨u1, (), rfl, (hli_e hv6 (by omega)), ⟨F, QT.mk ht hP hD hO hR⟩⟩, hS.F ht⟩) hS.2.2 dX7_isFieldList_107
  ·
    have hi_62 : j ≤ (tgB gq (tgR (TC f z) gq [104] nn)) := Nat.not_lt.mp (fun q => c_60 ((nI_ltI (a := (tgB gq (tgR (TC f z) gq [104] nn))) (b := j) (by omega) (by omega)).mpr q))
    have hje : j ≤ (tgB gq (tgR (TC f z) gq [104] nn)) := Nat.not_lt.mp (fun q => c_60 ((nI_ltI (by omega) (by omega)).mpr q))
    refine W.widen (k := 0) (n := 0) (by omega) (by omega) ?_
    refine pl_cut (σ := Unit) A (dC, dI) cs ty L [] F 57 5 (fun u0 => [(4, .int (nI j)), (3, .int (nI (tgB gq (tgR (TC f z) gq [104] nn)))), (2, .int (nI wj)), (1, .int u1), (0, .ref h0)]) (fun u0 => []) (fun u0 _ => fdT (TC f z) 58 wj (tgB gq (tgR (TC f z) gq [104] nn)) = j) ?_ (fun jn_63 => ?_)
    ·
      rintro u0 F_64 hv_65 hO hR H locs hP hD hS ls hl
      have hl : lv_has ls 5 [(4, .int (nI j)), (3, .int (nI (tgB gq (tgR (TC f z) gq [104] nn)))), (2, .int (nI wj)), (1, .int u1), (0, .ref h0)] := hl
      have hv_65 : fdT (TC f z) 58 wj (tgB gq (tgR (TC f z) gq [104] nn)) = j := hv_65
      refine W.eq (g2 := F0 m 57 ls []) rfl ?_
      obtain rfl : F = F_64 := (funext (fun a => hR a List.not_mem_nil)).symm
      have hfd : fdT (TC f z) 58 wj (tgB gq (tgR (TC f z) gq [104] nn)) = j := hv_65
      refine lv_aload_n hx hb dX7_isFieldList_57 rfl (lv_at hl 4 rfl) ?_
      refine pg_get (ci := 7) (v := .ref sl) (C := RX7) (T := TX7) (N := 17) hx hb hts it_7 hown hK hP hL_h0 hFs rfl 1 (by decide) (hts _ kt_307) (fun _ h9 => h9) rfl dX7_isFieldList_58 ?_
      refine pg_getN (ci := 9) (v := .ref sx) (C := RX9) (T := TX9) (N := 5) hx hb hts it_9 hown hK hP hi_3 hFl rfl 0 (by decide) (hE.nest kn_7) (fun _ h9 => h9) rfl dX7_isFieldList_61 ?_
      refine lv_iload_n hx hb dX7_isFieldList_64 rfl (lv_at hl 2 rfl) ?_
      refine lv_iload hx hb dX7_isFieldList_65 (lv_at hl 0 rfl) ?_
      have hFc := pg_free hD hS hA
      refine va_calli (va_runS (As := [.ref sx, .int (nI wj), .int (nI j)]) (rest := []) ⟨hx, hb, hml, hown, hts⟩ (s_X4_isFieldName_e l dC dI cs ty L H.size F sx (ρ + 3) rsx 3000 z wj j f hW hL_sx hT_sx hFx hFr (by omega) (by omega) (by omega) (by omega)) ⟨callB_of 3 hts (gi kt_217) rfl rfl rfl (hts _ kt_211) (hts _ kt_320) (by decide +kernel) ⟨Nat.le_of_ble_eq_true rfl, Nat.le_of_ble_eq_true rfl⟩, (hts _ kt_219)⟩ ⟨fun a U g mk q => ⟨q.1, PT.calling q.2⟩, fun U hU hWm => ⟨rfl, PT.mk hU hWm hP hK hD hE hO⟩⟩ rfl rfl hl.1 rfl (lv_room (Nat.le_of_ble_eq_true rfl)) dX7_isFieldList_67 ⟨by show _ + 0 ≤ 0; omega, by show _ + 0 ≤ 0; omega⟩) hS (fun q _ h => hFc q h) hFc (fun r_66 u t H1 locs ht hvm hw hB hz1 hk1 hS => ?_)
      obtain ⟨F_67, hB1⟩ := hB
      obtain rfl : F = F_67 := (funext (fun a => hB1.2.2.2 a List.not_mem_nil)).symm
      obtain ⟨hP, hD, hO, hR⟩ := QT.back hB1 ht hFc hR (fun q h => absurd h List.not_mem_nil)
      generalize H1 = H at hP hS ⊢
      have hw : (r_66 = 1 ∧ FNM (clf f) wj j) ∨ (r_66 = 0 ∧ ¬ FNM (clf f) wj j) := hw
      have hw_68 := hw
      refine lv_if_ne (tgt := 75) hx hb dX7_isFieldList_70 (by decide) (fun c_69 => ?_) (fun c_69 => ?_)
      ·
        have hFN : FNC (TC f z) wj j := (fnc_of (by omega)).mp (orp1 hw_68 c_69)
        refine W.widen (k := 0) (n := 0) (by omega) (by omega) ?_
        refine pl_cut (σ := Int32) A (dC, dI) cs ty L [] F 94 5 (fun un => [(4, .int (nI j)), (3, .int (nI (tgB gq (tgR (TC f z) gq [104] nn)))), (2, .int (nI wj)), (1, .int u1), (0, .ref h0)]) (fun un => [.int un]) (fun un _ => HLI (TC f z) (tgA gq (tgR (TC f z) gq [104] nn)) (tgB gq (tgR (TC f z) gq [104] nn)) (j + 1) un (pre ++ [(wj, j)])) ?_ (fun jn_70 => ?_)
        ·
          rintro un F_71 hv_72 hO hR H locs hP hD hS ls hl
          have hl : lv_has ls 5 [(4, .int (nI j)), (3, .int (nI (tgB gq (tgR (TC f z) gq [104] nn)))), (2, .int (nI wj)), (1, .int u1), (0, .ref h0)] := hl
          have hv_72 : HLI (TC f z) (tgA gq (tgR (TC f z) gq [104] nn)) (tgB gq (tgR (TC f z) gq [104] nn)) (j + 1) un (pre ++ [(wj, j)]) := hv_72
          refine W.eq (g2 := F0 m 94 ls [.int un]) rfl ?_
          obtain rfl : F = F_71 := (funext (fun a => hR a List.not_mem_nil)).symm
          have hlj : HLI (TC f z) (tgA gq (tgR (TC f z) gq [104] nn)) (tgB gq (tgR (TC f z) gq [104] nn)) (j + 1) un (pre ++ [(wj, j)]) := hv_72
          refine lv_istore_n (lv' := [(1, .int un), (4, .int (nI j)), (3, .int (nI (tgB gq (tgR (TC f z) gq [104] nn)))), (2, .int (nI wj)), (0, .ref h0)]) hx hb dX7_isFieldList_94 rfl hl (by decide) rfl (fun ls hl => ?_)
          refine lv_iload hx hb dX7_isFieldList_95 (lv_at hl 1 rfl) ?_
          refine lv_iconst (v := 1) hx hb dX7_isFieldList_97 (by decide) ?_
          refine lv_iadd hx hb dX7_isFieldList_98 ?_
          refine lv_topi (fun x_73 ex_73 => ?_)
          obtain rfl : x_73 = (nI (j + 1)) := ex_73.trans (nI_1 j)
          refine lv_istore_n (lv' := [(2, .int (nI (j + 1))), (1, .int un), (4, .int (nI j)), (3, .int (nI (tgB gq (tgR (TC f z) gq [104] nn)))), (0, .ref h0)]) hx hb dX7_isFieldList_99 rfl hl (by decide) rfl (fun ls hl => ?_)
          refine lv_iinc (v := (nI (j + 1))) (lv' := [(4, .int (nI (j + 1))), (2, .int (nI (j + 1))), (1, .int un), (3, .int (nI (tgB gq (tgR (TC f z) gq [104] nn)))), (0, .ref h0)]) hx hb dX7_isFieldList_100 hl (k := 2) rfl (nI_1 _) (by decide) rfl (fun ls hl => ?_)
          refine lv_goto (tgt := 25) hx hb dX7_isFieldList_103 (by decide) ?_
          refine W.widen (k := 0) (n := 0) (by omega) (by omega) ?_
          exact ih_59 ((j + 1), (j + 1), un, (pre ++ [(wj, j)])) F (⟨Nat.le_refl _, by omega, by omega, by omega, fun i h1 h2 => absurd h2 (by omega), hlj⟩) (by show (tgB gq (tgR (TC f z) gq [104] nn)) + 1 - (j + 1) < (tgB gq (tgR (TC f z) gq [104] nn)) + 1 - j; omega) hO hR _ _ hP hD hS ls (lv_sub hl [0, 3, 1, 2, 4] rfl)
        ·
          refine lv_iload_n hx hb dX7_isFieldList_75 rfl (lv_at hl 3 rfl) ?_
          refine lv_if_ne (tgt := 89) hx hb dX7_isFieldList_76 (by decide) (fun c_74 => ?_) (fun c_74 => ?_)
          ·
            refine lv_iconst (v := 1) hx hb dX7_isFieldList_89 (by decide) ?_
            refine lv_goto (tgt := 94) hx hb dX7_isFieldList_90 (by decide) ?_
            refine W.widen (k := 0) (n := 0) (by omega) (by omega) ?_
            exact jn_70 1 F (hli_y hv6 (by omega) hfd hFN (Or.inl (hli_u hv6 c_74))) hO hR _ _ hP hD hS ls (lv_sub hl [0, 1, 2, 3, 4] rfl)
          ·
            refine lv_aload_n hx hb dX7_isFieldList_79 rfl (lv_at hl 4 rfl) ?_
            refine lv_iload_n hx hb dX7_isFieldList_80 rfl (lv_at hl 2 rfl) ?_
            refine lv_iload hx hb dX7_isFieldList_81 (lv_at hl 0 rfl) ?_
            have hFc := pg_free hD hS hA
            refine va_calli (va_runV (As := [.int (nI wj), .int (nI j)]) (rest := []) ⟨hx, hb, hml, hown, hts⟩ (s_X7_isFrom_e l dC dI cs ty L H.size F h0 ρ d δ ea sl sx sy0 sy1 sy2 ke kx ky0 ky1 ky2 w0 w1 w2 w3 w4 w5 w6 w7 w8 tk hs ha hbb hcc pw px py pz pu rsx z nn f e0 e1 e2 gq v0 v1 wj j hW hL_h0 hT_h0 hL_sx hT_sx hFs hFl hFx hFr hFy0 hFy1 hFy2 (hzn) (hcn) (hhl) (hTG) (by omega) (by omega)) ⟨callB_of 2 hts (gi kt_321) rfl rfl rfl (hts _ kt_322) (hts _ kt_323) (by decide +kernel) ⟨Nat.le_of_ble_eq_true rfl, Nat.le_of_ble_eq_true rfl⟩, (hts _ kt_324), (hts _ kt_325)⟩ ⟨fun a U g mk q => ⟨q.1, PTE.calling q.2⟩, pg_recv hK hP hL_h0 hFs (q := (RX7, TX7, 17)) rfl, fun U hU hWm => ⟨rfl, PTE.mk hU hWm hP hK hD hE hO hG (fun x hx => absurd hx List.not_mem_nil) hS hFc⟩⟩ rfl rfl hl.1 rfl (lv_room (Nat.le_of_ble_eq_true rfl)) dX7_isFieldList_83 ⟨by show _ + 0 ≤ 0; omega, by show _ + 0 ≤ 0; omega⟩) hS (fun q _ h => hFc q h) hFc (fun r_75 u t H1 locs ht hvm hw hB hz1 hk1 hS => ?_)
            obtain ⟨F_76, hB1⟩ := hB
            obtain rfl : F = F_76 := (funext (fun a => hB1.2.2.2 a List.not_mem_nil)).symm
            obtain ⟨hP, hD, hO, hR⟩ := QT.back hB1 ht hFc hR (fun q h => absurd h List.not_mem_nil)
            generalize H1 = H at hP hS ⊢
            have hw : (r_75 = 1 ∧ FRM (TC f z) wj j) ∨ (r_75 = 0 ∧ ¬ FRM (TC f z) wj j) := hw
            have hw_77 := hw
            refine lv_if_eq (tgt := 93) hx hb dX7_isFieldList_86 (by decide) (fun c_78 => ?_) (fun c_78 => ?_)
            ·
              refine lv_iconst (v := 0) hx hb dX7_isFieldList_93 (by decide) ?_
              refine W.widen (k := 0) (n := 0) (by omega) (by omega) ?_
              exact jn_70 0 F (hli_z hv6 (by omega) hfd hFN c_74 (orp0 hw_77 c_78)) hO hR _ _ hP hD hS ls (lv_sub hl [0, 1, 2, 3, 4] rfl)
            ·
              refine lv_iconst (v := 1) hx hb dX7_isFieldList_89 (by decide) ?_
              refine lv_goto (tgt := 94) hx hb dX7_isFieldList_90 (by decide) ?_
              refine W.widen (k := 0) (n := 0) (by omega) (by omega) ?_
              exact jn_70 1 F (hli_y hv6 (by omega) hfd hFN (Or.inr (orp1 hw_77 c_78))) hO hR _ _ hP hD hS ls (lv_sub hl [0, 1, 2, 3, 4] rfl)
      ·
        have hFN : ¬ FNC (TC f z) wj j := fun q => orp0 hw_68 c_69 ((fnc_of (by omega)).mpr q)
        refine lv_iconst (v := 0) hx hb dX7_isFieldList_73 (by decide) ?_
        refine W.widen (k := 0) (n := 0) (by omega) (by omega) ?_
        exact W.zret (v := 0) (ty := .boolean) hx hb hr (by decide) (fun t ht hWm => ⟨⟨0, (), rfl, (Or.inr ⟨rfl, hli_n hv6 (by omega) hfd hFN⟩), ⟨F, QT.mk ht hP hD hO hR⟩⟩, hS.F ht⟩) hS.2.2 dX7_isFieldList_74
    ·
      refine lv_iload hx hb dX7_isFieldList_31 (lv_at hl 0 rfl) ?_
      refine lv_iload_n hx hb dX7_isFieldList_33 rfl (lv_at hl 1 rfl) ?_
      refine lv_icmp_ge (tgt := 57) hx hb dX7_isFieldList_34 (by decide) (fun c_79 => ?_) (fun c_79 => ?_)
      ·
        have hi_80 : (tgB gq (tgR (TC f z) gq [104] nn)) ≤ j := leN (N := (tgB gq (tgR (TC f z) gq [104] nn))) c_79
        have hjq : j = (tgB gq (tgR (TC f z) gq [104] nn)) := by have h9 : (tgB gq (tgR (TC f z) gq [104] nn)) ≤ j := (nI_leI (by omega) (by omega)).mp c_79; omega
        have hfd : fdT (TC f z) 58 wj (tgB gq (tgR (TC f z) gq [104] nn)) = j := fd_at (by omega) (by omega) hv5 (Or.inl hjq)
        refine W.widen (k := 0) (n := 0) (by omega) (by omega) ?_
        exact jn_63 () F (hfd) hO hR _ _ hP hD hS ls (lv_sub hl [0, 1, 2, 3, 4] rfl)
      ·
        have hi_81 : j < (tgB gq (tgR (TC f z) gq [104] nn)) := ltN (N := (tgB gq (tgR (TC f z) gq [104] nn))) c_79
        have hjq : j < (tgB gq (tgR (TC f z) gq [104] nn)) := Nat.not_le.mp (fun q => c_79 ((nI_leI (by omega) (by omega)).mpr q))
        refine lv_aload_n hx hb dX7_isFieldList_37 rfl (lv_at hl 4 rfl) ?_
        refine pg_get (ci := 7) (v := .ref sl) (C := RX7) (T := TX7) (N := 17) hx hb hts it_7 hown hK hP hL_h0 hFs rfl 1 (by decide) (hts _ kt_307) (fun _ h9 => h9) rfl dX7_isFieldList_38 ?_
        refine pg_getN (ci := 9) (v := .ref sx) (C := RX9) (T := TX9) (N := 5) hx hb hts it_9 hown hK hP hi_3 hFl rfl 0 (by decide) (hE.nest kn_7) (fun _ h9 => h9) rfl dX7_isFieldList_41 ?_
        refine lv_iload hx hb dX7_isFieldList_44 (lv_at hl 0 rfl) ?_
        have hFc := pg_free hD hS hA
        refine va_calli (va_runV (As := [.int (nI j)]) (rest := []) ⟨hx, hb, hml, hown, hts⟩ (s_X0_at_e l dC dI cs ty L H.size F sx (ρ + 3) rsx 3000 z j f hW hL_sx hT_sx hFx hFr (by omega) (by omega) (by omega)) ⟨callB_of 1 hts (gi kt_21) rfl rfl rfl (hts _ kt_1) (hts _ kt_305) (by decide +kernel) ⟨Nat.le_of_ble_eq_true rfl, Nat.le_of_ble_eq_true rfl⟩, (hts _ kt_23), (hts _ kt_24)⟩ ⟨fun a U g mk q => ⟨q.1, PT.calling q.2⟩, pg_recv hK hP hL_sx hFx (q := (RX0, TX0, 3)) rfl, fun U hU hWm => ⟨rfl, PT.mk hU hWm hP hK hD hE hO⟩⟩ rfl rfl hl.1 rfl (lv_room (Nat.le_of_ble_eq_true rfl)) dX7_isFieldList_46 ⟨by show _ + 0 ≤ 0; omega, by show _ + 0 ≤ 0; omega⟩) hS (fun q _ h => hFc q h) hFc (fun r_82 u t H1 locs ht hvm hw hB hz1 hk1 hS => ?_)
        obtain ⟨F_83, hB1⟩ := hB
        obtain rfl : F = F_83 := (funext (fun a => hB1.2.2.2 a List.not_mem_nil)).symm
        obtain ⟨hP, hD, hO, hR⟩ := QT.back hB1 ht hFc hR (fun q h => absurd h List.not_mem_nil)
        generalize H1 = H at hP hS ⊢
        have hw : r_82 = f j := hw
        have hw_84 := hw
        subst hw_84
        refine lv_bipush (v := 58) hx hb dX7_isFieldList_49 (by decide) ?_
        refine lv_icmp_eq (tgt := 57) hx hb dX7_isFieldList_51 (by decide) (fun c_85 => ?_) (fun c_85 => ?_)
        ·
          have hfd : fdT (TC f z) 58 wj (tgB gq (tgR (TC f z) gq [104] nn)) = j := fd_at (by omega) (by omega) hv5 (Or.inr ((tcc (show j < z by omega) 58 (by omega)).mpr c_85))
          refine W.widen (k := 0) (n := 0) (by omega) (by omega) ?_
          exact jn_63 () F (hfd) hO hR _ _ hP hD hS ls (lv_sub hl [0, 1, 2, 3, 4] rfl)
        ·
          have hnc2 : ∀ i, wj ≤ i → i < j + 1 → ¬ (TC f z) i = 58 := fun i h1 h2 => by rcases Nat.lt_or_ge i j with w9 | w9; exact hv5 i h1 w9; rw [show i = j by omega]; exact fun q => c_85 ((tcc (show j < z by omega) 58 (by omega)).mp q)
          refine lv_goto (tgt := 100) hx hb dX7_isFieldList_54 (by decide) ?_
          refine lv_iinc (v := (nI (j + 1))) (lv' := [(4, .int (nI (j + 1))), (3, .int (nI (tgB gq (tgR (TC f z) gq [104] nn)))), (2, .int (nI wj)), (1, .int u1), (0, .ref h0)]) hx hb dX7_isFieldList_100 hl (k := 0) rfl (nI_1 _) (by decide) rfl (fun ls hl => ?_)
          refine lv_goto (tgt := 25) hx hb dX7_isFieldList_103 (by decide) ?_
          refine W.widen (k := 0) (n := 0) (by omega) (by omega) ?_
          exact ih_59 ((j + 1), wj, u1, pre) F (⟨by omega, by omega, by omega, by omega, hnc2, hv6⟩) (by show (tgB gq (tgR (TC f z) gq [104] nn)) + 1 - (j + 1) < (tgB gq (tgR (TC f z) gq [104] nn)) + 1 - j; omega) hO hR _ _ hP hD hS ls (lv_sub hl [0, 1, 2, 3, 4] rfl)
