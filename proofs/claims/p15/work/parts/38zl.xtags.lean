theorem tcn_in {f : Nat → Int32} {z i : Nat} (h : i < z) : TC f z i = cdv (f i) := by
  show cdv (atn f z i) = _
  rw [show atn f z i = f i from if_pos h]
theorem tcn_ou {f : Nat → Int32} {z i : Nat} (h : ¬ i < z) : TC f z i = 200 := by
  show cdv (atn f z i) = _
  rw [show atn f z i = (-1) from if_neg h]
  decide
theorem tcq_eq {f : Nat → Int32} {z i j : Nat} (hi : i < z) (hj : j < z) (h : SML (TC f z j)) : f i = f j ↔ TC f z i = TC f z j := by
  rw [tcn_in hi, tcn_in hj]
  rw [tcn_in hj] at h
  have hc : cdv (f j) < 128 := by
    have h9 := h.2
    omega
  constructor
  · intro q
    rw [q]
  · intro q
    rw [(cdv_eq hc).mp q]
    exact (cdv_in hc).symm
theorem tcc {f : Nat → Int32} {z i : Nat} (hi : i < z) (c : Nat) (hc : c < 128) : TC f z i = c ↔ f i = nI c := by
  rw [tcn_in hi]
  exact cdv_eq hc
def flI (T : Nat → Nat) (a : Nat) : Nat → List Nat
  | 0 => []
  | k + 1 => flI T a k ++ (if T (a + k) = 32 ∨ T (a + k) = 9 ∨ T (a + k) = 10 then [] else [a + k])
theorem flI_s {T : Nat → Nat} {a k : Nat} : flI T a (k + 1) = flI T a k ++ (if T (a + k) = 32 ∨ T (a + k) = 9 ∨ T (a + k) = 10 then [] else [a + k]) := rfl
theorem flI_len {T : Nat → Nat} {a : Nat} : ∀ k, (flI T a k).length ≤ k
  | 0 => Nat.le_refl _
  | k + 1 => by
    have h := flI_len (T := T) (a := a) k
    rw [flI_s, List.length_append]
    split
    · show _ + 0 ≤ _
      omega
    · show _ + 1 ≤ _
      omega
theorem flI_in {T : Nat → Nat} {a : Nat} : ∀ k j, j < (flI T a k).length → a ≤ (flI T a k).getD j 0 ∧ (flI T a k).getD j 0 < a + k := by
  intro k
  induction k with
  | zero => intro j h; exact absurd h (Nat.not_lt_zero _)
  | succ k ih =>
    intro j h
    rw [flI_s] at h ⊢
    rcases Nat.lt_or_ge j (flI T a k).length with q | q
    · rw [apl_l _ _ q]
      have h9 := ih j q
      omega
    · by_cases c : T (a + k) = 32 ∨ T (a + k) = 9 ∨ T (a + k) = 10
      · rw [if_pos c, List.append_nil] at h
        omega
      · rw [if_neg c] at h ⊢
        rw [List.length_append] at h
        have h8 : j = (flI T a k).length + 0 := by
          have h7 : [a + k].length = 1 := rfl
          omega
        rw [h8, apl_r]
        show a ≤ a + k ∧ a + k < a + (k + 1)
        omega
def flT (T : Nat → Nat) (a k : Nat) : Nat → Nat := fun j => if j < (flI T a k).length then T ((flI T a k).getD j 0) else 200
def FLA (fs : Nat → Int32) (I : List Nat) (y : Nat) (f : Nat → Int32) : Prop := y = I.length ∧ ∀ j, j < y → f j = fs (I.getD j 0)
theorem FLA.nil {fs f : Nat → Int32} : FLA fs [] 0 f := ⟨rfl, fun _ h => absurd h (Nat.not_lt_zero _)⟩
theorem FLA.add {fs f : Nat → Int32} {I : List Nat} {y i : Nat} (h : FLA fs I y f) : FLA fs (I ++ [i]) (y + 1) (upd f y (fs i)) := by
  obtain ⟨h1, h2⟩ := h
  refine ⟨by rw [List.length_append, ← h1]; rfl, fun j hj => ?_⟩
  by_cases e : j = y
  · subst e
    rw [updc_at]
    have h9 := apl_r (W := [i]) I 0
    rw [Nat.add_zero, ← h1] at h9
    rw [h9]
    rfl
  · rw [updc_ne e, h2 j (by omega), apl_l I j (by omega)]
theorem fla_w {fs f : Nat → Int32} {T : Nat → Nat} {a i y : Nat} (h : FLA fs (flI T a (i - a)) y f) (ha : a ≤ i) (hw : T i = 32 ∨ T i = 9 ∨ T i = 10) : FLA fs (flI T a (i + 1 - a)) y f := by
  rw [show i + 1 - a = (i - a) + 1 by omega, flI_s, show a + (i - a) = i by omega, if_pos hw, List.append_nil]
  exact h
theorem fla_a {fs f : Nat → Int32} {T : Nat → Nat} {a i y : Nat} (h : FLA fs (flI T a (i - a)) y f) (ha : a ≤ i) (hw : ¬ (T i = 32 ∨ T i = 9 ∨ T i = 10)) : FLA fs (flI T a (i + 1 - a)) (y + 1) (upd f y (fs i)) := by
  rw [show i + 1 - a = (i - a) + 1 by omega, flI_s, show a + (i - a) = i by omega, if_neg hw]
  exact h.add
theorem fla_tc {fs f : Nat → Int32} {z a k y : Nat} (h : FLA fs (flI (TC fs z) a k) y f) (hz : a + k ≤ z) : TC f y = flT (TC fs z) a k := by
  obtain ⟨h1, h2⟩ := h
  funext j
  unfold flT
  by_cases c : j < y
  · have h9 := flI_in (T := TC fs z) (a := a) k j (by omega)
    rw [if_pos (by omega), tcn_in c, h2 j c, tcn_in (by omega)]
  · rw [if_neg (by omega), tcn_ou c]
def MCH (T : Nat → Nat) (g : Nat → Nat → Nat) (a q k : Nat) : Prop := g 1 k - g 0 k = q - a ∧ ∀ i, i < q - a → T (g 0 k + i) = T (a + i)
def KNW (T : Nat → Nat) (g : Nat → Nat → Nat) (n a q : Nat) : Prop := ∃ k, k < n ∧ MCH T g a q k
def TGI (z n : Nat) (g : Nat → Nat → Nat) : Prop := ∀ j, j < n → g 0 j ≤ g 1 j ∧ g 1 j < g 2 j ∧ g 2 j ≤ z
def TGQ (T : Nat → Nat) (a e n : Nat) (g : Nat → Nat → Nat) : Prop := n < 40 ∧ fdT T 61 a e < e ∧ a + 1 ≤ fdT T 61 a e ∧ fdT T 61 a e ≤ a + 8 ∧ (∀ i, a ≤ i → i < fdT T 61 a e → SML (T i)) ∧ ¬ KNW T g n a (fdT T 61 a e)
abbrev TGG := Nat × (Nat → Nat → Nat)
noncomputable def tgw (T : Nat → Nat) (z : Nat) : Nat → Nat → Nat → (Nat → Nat → Nat) → Option TGG
  | 0, _, n, g => some (n, g)
  | k + 1, a, n, g => if z ≤ a then some (n, g) else @ite (Option TGG) (TGQ T a (fdT T 59 a z) n g) (Classical.propDecidable _) (tgw T z k (fdT T 59 a z + 1) (n + 1) (gpt g n a (fdT T 61 a (fdT T 59 a z)) (fdT T 59 a z))) none
theorem tgw_s {T : Nat → Nat} {z k a n : Nat} {g : Nat → Nat → Nat} : tgw T z (k + 1) a n g = if z ≤ a then some (n, g) else @ite (Option TGG) (TGQ T a (fdT T 59 a z) n g) (Classical.propDecidable _) (tgw T z k (fdT T 59 a z + 1) (n + 1) (gpt g n a (fdT T 61 a (fdT T 59 a z)) (fdT T 59 a z))) none := rfl
noncomputable def tgT (T : Nat → Nat) (z : Nat) : Option TGG := tgw T z z 0 0 gz
theorem tgw_d {T : Nat → Nat} {z a n : Nat} {g : Nat → Nat → Nat} (h : z ≤ a) : ∀ k, tgw T z k a n g = some (n, g)
  | 0 => rfl
  | _ + 1 => if_pos h
theorem fd_ge {T : Nat → Nat} {c a b : Nat} (h : a ≤ b) : a ≤ fdT T c a b ∧ fdT T c a b ≤ b := by
  have h9 : a ≤ fdT T c a b ∧ fdT T c a b ≤ a + (b - a) := fdT_le (b - a) a
  omega
theorem tgw_f {T : Nat → Nat} {z : Nat} : ∀ k m a n g, z - a ≤ k → z - a ≤ m → tgw T z k a n g = tgw T z m a n g := by
  intro k
  induction k with
  | zero =>
    intro m a n g h1 h2
    rw [tgw_d (by omega), tgw_d (by omega)]
  | succ k ih =>
    intro m a n g h1 h2
    cases m with
    | zero => rw [tgw_d (by omega), tgw_d (by omega)]
    | succ m =>
      rw [tgw_s, tgw_s]
      by_cases c : z ≤ a
      · rw [if_pos c, if_pos c]
      · rw [if_neg c, if_neg c]
        have h9 := fd_ge (T := T) (c := 59) (a := a) (b := z) (by omega)
        rw [ih m (fdT T 59 a z + 1) (n + 1) _ (by omega) (by omega)]
theorem tgw_y {T : Nat → Nat} {z a n e w : Nat} {g : Nat → Nat → Nat} {X : Option TGG} (h : tgw T z (z - a) a n g = X) (ha : a < z) (he : fdT T 59 a z = e) (hq : TGQ T a e n g) (hw : w = e + 1 ∨ (z ≤ e ∧ z ≤ w)) : tgw T z (z - w) w (n + 1) (gpt g n a (fdT T 61 a e) e) = X := by
  have h9 := fd_ge (T := T) (c := 59) (a := a) (b := z) (by omega)
  rw [show z - a = (z - a - 1) + 1 by omega, tgw_s, if_neg (by omega), he, if_pos hq] at h
  rw [← h]
  rcases hw with q | ⟨q1, q2⟩
  · rw [q]
    exact tgw_f _ _ _ _ _ (by omega) (by omega)
  · rw [tgw_d q2, tgw_d (by omega)]
theorem tgw_n {T : Nat → Nat} {z a n e : Nat} {g : Nat → Nat → Nat} {X : Option TGG} (h : tgw T z (z - a) a n g = X) (ha : a < z) (he : fdT T 59 a z = e) (hq : ¬ TGQ T a e n g) : X = none := by
  rw [show z - a = (z - a - 1) + 1 by omega, tgw_s, if_neg (by omega), he, if_neg hq] at h
  exact h.symm
theorem tgw_e {T : Nat → Nat} {z a n : Nat} {g : Nat → Nat → Nat} {X : Option TGG} (h : tgw T z (z - a) a n g = X) (ha : z ≤ a) : X = some (n, g) := by
  rw [tgw_d ha] at h
  exact h.symm
theorem fd_at {T : Nat → Nat} {c a b e : Nat} (h1 : a ≤ e) (h2 : e ≤ b) (h3 : ∀ i, a ≤ i → i < e → ¬ T i = c) (h4 : e = b ∨ T e = c) : fdT T c a b = e := fdw_of (b - a) a h1 (by omega) h3 (h4.imp (fun q => by omega) id)
theorem TGI.add {T : Nat → Nat} {z a e n : Nat} {g : Nat → Nat → Nat} (h : TGI z n g) (hq : TGQ T a e n g) (he : e ≤ z) : TGI z (n + 1) (gpt g n a (fdT T 61 a e) e) := by
  intro j hj
  by_cases c : j = n
  · subst c
    rw [gpt_0, gpt_1, gpt_2]
    have h1 := hq.2.1
    have h2 := hq.2.2.1
    omega
  · rw [gpt_ne c, gpt_ne c, gpt_ne c]
    exact h j (by omega)
def TKR (T : Nat → Nat) (a e n : Nat) (g : Nat → Nat → Nat) (gg : TGG) (r : Int32) : Prop := (r = 1 ∧ TGQ T a e n g ∧ gg = (n + 1, gpt g n a (fdT T 61 a e) e)) ∨ (r = 0 ∧ ¬ TGQ T a e n g ∧ gg = (n, g))
theorem tkr1 {T : Nat → Nat} {a e n : Nat} {g : Nat → Nat → Nat} {gg : TGG} {r : Int32} (h : TKR T a e n g gg r) (c : ¬ r = 0) : TGQ T a e n g ∧ gg = (n + 1, gpt g n a (fdT T 61 a e) e) := by
  rcases h with h | h
  · exact h.2
  · exact absurd h.1 c
theorem tkr0 {T : Nat → Nat} {a e n : Nat} {g : Nat → Nat → Nat} {gg : TGG} {r : Int32} (h : TKR T a e n g gg r) (c : r = 0) : ¬ TGQ T a e n g ∧ gg = (n, g) := by
  rcases h with h | h
  · exact absurd (h.1.symm.trans c) (by decide)
  · exact h.2
theorem tkr_i {T : Nat → Nat} {z a e n : Nat} {g : Nat → Nat → Nat} {gg : TGG} {r : Int32} (h : TKR T a e n g gg r) (hi : TGI z n g) (hn : n ≤ 40) (he : e ≤ z) : TGI z gg.1 gg.2 ∧ gg.1 ≤ 40 := by
  rcases h with ⟨-, h2, h3⟩ | ⟨-, -, h3⟩
  · rw [h3]
    have h9 := h2.1
    exact ⟨hi.add h2 he, by show n + 1 ≤ 40; omega⟩
  · rw [h3]
    exact ⟨hi, hn⟩
theorem tkr_y {T : Nat → Nat} {z a e n w : Nat} {g : Nat → Nat → Nat} {gg : TGG} {r : Int32} {X : Option TGG} (h : TKR T a e n g gg r) (c : ¬ r = 0) (hX : tgw T z (z - a) a n g = X) (ha : a < z) (he : fdT T 59 a z = e) (hw : w = e + 1 ∨ (z ≤ e ∧ z ≤ w)) : tgw T z (z - w) w gg.1 gg.2 = X := by
  obtain ⟨h1, h2⟩ := tkr1 h c
  rw [h2]
  exact tgw_y hX ha he h1 hw
def TGX (T : Nat → Nat) (z : Nat) (r : Int32) (gg : TGG) : Prop := (r = 1 ∧ tgT T z = some gg) ∨ (r = 0 ∧ tgT T z = none)
def ISL (T : Nat → Nat) (a b : Nat) (l : List Nat) : Prop := a + l.length = b ∧ LIT T a l
def RWX (T : Nat → Nat) (g : Nat → Nat → Nat) (n : Nat) (l : List Nat) (r : Int32) : Prop := (r = (-1) ∧ ∀ k, k < n → ¬ ISL T (g 0 k) (g 1 k) l) ∨ ∃ k, k < n ∧ r = nI k ∧ ISL T (g 0 k) (g 1 k) l ∧ ∀ j, j < k → ¬ ISL T (g 0 j) (g 1 j) l
def TGE (T : Nat → Nat) (g : Nat → Nat → Nat) (n : Nat) (l : List Nat) : Prop := ∃ k, k < n ∧ ISL T (g 0 k) (g 1 k) l
def TGV (T : Nat → Nat) (g : Nat → Nat → Nat) (n : Nat) (l m : List Nat) : Prop := ∃ k, k < n ∧ ISL T (g 0 k) (g 1 k) l ∧ (∀ j, j < k → ¬ ISL T (g 0 j) (g 1 j) l) ∧ ISL T (g 1 k + 1) (g 2 k) m
theorem rwx_n {T : Nat → Nat} {g : Nat → Nat → Nat} {n : Nat} {l : List Nat} {r : Int32} (h : RWX T g n l r) (hn : n ≤ 40) (c : r < 0) : ∀ k, k < n → ¬ ISL T (g 0 k) (g 1 k) l := by
  rcases h with h | ⟨k, h1, h2, -⟩
  · exact h.2
  · rw [h2] at c
    exact absurd c (nI_pos (by omega))
theorem rwx_y {T : Nat → Nat} {g : Nat → Nat → Nat} {n : Nat} {l : List Nat} {r : Int32} (h : RWX T g n l r) (c : ¬ r < 0) : ∃ k, k < n ∧ r = nI k ∧ ISL T (g 0 k) (g 1 k) l ∧ ∀ j, j < k → ¬ ISL T (g 0 j) (g 1 j) l := by
  rcases h with h | h
  · rw [h.1] at c
    exact absurd (show (-1 : Int32) < 0 by decide) c
  · exact h
theorem tge_n {T : Nat → Nat} {g : Nat → Nat → Nat} {n : Nat} {l : List Nat} (h : ∀ k, k < n → ¬ ISL T (g 0 k) (g 1 k) l) : ¬ TGE T g n l := fun q => by
  obtain ⟨k, h1, h2⟩ := q
  exact h k h1 h2
theorem tgv_n {T : Nat → Nat} {g : Nat → Nat → Nat} {n : Nat} {l m : List Nat} (h : ∀ k, k < n → ¬ ISL T (g 0 k) (g 1 k) l) : ¬ TGV T g n l m := fun q => by
  obtain ⟨k, h1, h2, -⟩ := q
  exact h k h1 h2
theorem tgv_d {T : Nat → Nat} {g : Nat → Nat → Nat} {n k : Nat} {l m : List Nat} (h1 : ISL T (g 0 k) (g 1 k) l) (h2 : ∀ j, j < k → ¬ ISL T (g 0 j) (g 1 j) l) (h3 : ¬ ISL T (g 1 k + 1) (g 2 k) m) : ¬ TGV T g n l m := fun q => by
  obtain ⟨k2, -, q2, q3, q4⟩ := q
  rcases Nat.lt_trichotomy k k2 with c | c | c
  · exact q3 k c h1
  · subst c
    exact h3 q4
  · exact h2 k2 c q2
def PTD (D : va_G) (cs : Nat → ClassId) (ty : TyM) (L : List Nat) (F : Nat → va_E) (sz q v n : Nat) (C : Nat → Int32) (q2 v2 n2 : Nat) (C2 : Nat → Int32) (U : State) : Prop := PTC D cs ty L F sz q v n C U ∧ SXc q2 v2 n2 C2 (va_A (va_pl L F) sz) U U.heap
theorem PTD.calling {D : va_G} {cs : Nat → ClassId} {ty : TyM} {L : List Nat} {F : Nat → va_E} {sz q v n : Nat} {C : Nat → Int32} {q2 v2 n2 : Nat} {C2 : Nat → Int32} {U : State} {g : JFrame} {mk : MethodId} {a : Array Value} (h : PTD D cs ty L F sz q v n C q2 v2 n2 C2 U) : PTD D cs ty L F sz q v n C q2 v2 n2 C2 (U.calling g mk a) :=
  ⟨h.1.calling, SXc.moved (u := U) (U := U.calling g mk a) (Vm.Alike.refl U.vm) h.2⟩
theorem PTD.mk {D : va_G} {cs : Nat → ClassId} {ty : TyM} {L : List Nat} {F : Nat → va_E} {q v n : Nat} {C : Nat → Int32} {q2 v2 n2 : Nat} {C2 : Nat → Int32} {s U : State} {H : Heap} {A : Nat → Prop} {locs : List Loc} (hU : U.heap = H) (hW : s.WarmedH U.vm) (hP : va_P D vwCl (va_pl L F) H) (hK : va_K D vwCl (TYS cs) s) (hD : va_D A (va_pl L F)) (hE : ENV s) (hO : OK cs ty L F) (hG : GV A s s.heap) (hX : SXc q v n C A s s.heap) (hX2 : SXc q2 v2 n2 C2 A s s.heap) (hS : va_S A s.heap H locs) (hF : ∀ q, va_A (va_pl L F) H.size q → A q) : PTD D cs ty L F H.size q v n C q2 v2 n2 C2 U :=
  ⟨PTC.mk hU hW hP hK hD hE hO hG hX hS hF, hX2.pass hS hF hU hW.alike⟩
set_option maxHeartbeats 4000000 in
set_option maxRecDepth 100000 in
theorem s_X9_isKnown_e (l : Launch) (dC : Nat → ClassId) (dI : Nat → Nat → Nat) (cs : Nat → ClassId) (ty : TyM) (L : List Nat) (sz : Nat) (F : Nat → va_E) (h0 : Nat) (ρ : Nat) (tx : Nat) (n : Nat) (y0 : Nat) (y1 : Nat) (y2 : Nat) (rx : Nat) (z : Nat) (nn : Nat) (f : Nat → Int32) (e0 : Nat → Int32) (e1 : Nat → Int32) (e2 : Nat → Int32) (gq : Nat → Nat → Nat) (a1 : Nat) (b1 : Nat) (hW : WT ty L) (hL_h0 : h0 ∈ L) (hT_h0 : ty h0 = (9, ρ, [tx, n, y0, y1, y2])) (hL_tx : tx ∈ L) (hT_tx : ty tx = (0, ρ + 1, [rx, n])) (hF0 : F h0 = .inr (9, [.ref tx, .ref y0, .ref y1, .ref y2, .int (nI nn)])) (hFx : F tx = .inr (0, [.ref rx, .int (nI z), .int 0])) (hFr : F rx = .inl (cs 16, n, .inl f)) (hFy0 : F y0 = .inl (cs 16, 40, .inl e0)) (hFy1 : F y1 = .inl (cs 16, 40, .inl e1)) (hFy2 : F y2 = .inl (cs 16, 40, .inl e2)) (hzn : z ≤ n) (hn9 : n ≤ 10000) (hcn : nn ≤ 40) (hhl : HLD e0 e1 e2 nn gq) (hTG : TGI z nn gq) (hab : a1 ≤ b1) (hbz : b1 ≤ z) (hsm : ∀ i, a1 ≤ i → i < b1 → SML ((TC f z) i)) : Met l yX9_isKnown (.code yX9_isKnown cX9_isKnown 6 (some .boolean) :: tb) ({ frames := 1, cells := 0, slots := 0, locals := 21 }) (va_Pc [.ref h0, .int (nI a1), .int (nI b1)] (PT (dC, dI) cs ty L F sz)) (va_Qi (fun (r : Int32) (_ : Unit) => (r = 1 ∧ KNW (TC f z) gq nn a1 b1) ∨ (r = 0 ∧ ¬ KNW (TC f z) gq nn a1 b1)) (fun _ T9 => ∃ F2 : Nat → va_E, QT (dC, dI) cs ty L [] F F2 (va_A (va_pl L F) sz) T9) (va_A (va_pl L F) sz)) 0 0 (va_A (va_pl L F) sz) := by
  refine Met.ofW (cc := cX9_isKnown) (maxL := 6) (ret := (some .boolean)) (by decide) rfl ?_
  intro p e s m args below meth c s₁ B hml hv
  obtain ⟨rfl, hsz, hP, hK, hD0, hE, hO⟩ := hv
  have hx := B.exec
  have hb := B.bytes
  have hr := B.returns
  have hts : ∀ w ∈ tb, w.before _ s = true := fun w h => atoms_spec (ws := .code yX9_isKnown cX9_isKnown 6 (some .boolean) :: tb) B.pre w (List.mem_cons_of_mem _ h)
  have hown : s.vm.findClass RX9 = some m.cls := findClass_of_methodNamed B.named
  have hlocks := B.notSynchronized
  subst hsz
  have hD := hD0.self (sz := s.heap.size)
  generalize hAe : va_A (va_pl L F) s.heap.size = A at hD ⊢
  have hA : ∀ q : Nat, s.heap.size ≤ q → A q := fun q h => by rw [← hAe]; exact Or.inr h
  have hS : va_S A s.heap s.heap [] := va_S.rf
  have hR : FR ty [] F F := FR.refl
  have hl := lv_entry ([.ref h0, .int (nI a1), .int (nI b1)]) (n := 6) (Nat.le_of_ble_eq_true rfl)
  rw [lg_entry_eq]
  generalize (lg_sl ([.ref h0, .int (nI a1), .int (nI b1)]) ++ List.replicate (6 - (lg_sl ([.ref h0, .int (nI a1), .int (nI b1)])).length) Slot.unset).toArray = ls at hl ⊢
  have hl : lv_has ls 6 [(0, .ref h0), (1, .int (nI a1)), (2, .int (nI b1))] := hl
  obtain ⟨_, hi_1, hi_2, hi_3, _, ht_4, ht_5, ht_6⟩ := hW.tags hL_h0 hT_h0
  refine lv_iconst (v := 0) hx hb dX9_isKnown_0 (by decide) ?_
  refine lv_istore_n (lv' := [(3, .int 0), (0, .ref h0), (1, .int (nI a1)), (2, .int (nI b1))]) hx hb dX9_isKnown_1 rfl hl (by decide) rfl (fun ls hl => ?_)
  refine W.widen (k := 0) (n := 0) (by omega) (by omega) ?_
  refine pl_loop (σ := Nat) A (dC, dI) cs ty L [] F 2 6 (fun j => [(3, .int (nI j)), (0, .ref h0), (1, .int (nI a1)), (2, .int (nI b1))]) (fun j => []) (fun j _ => j ≤ nn ∧ ∀ k, k < j → ¬ MCH (TC f z) gq a1 b1 k) (fun j => nn - j) ?_ 0 F (⟨Nat.zero_le _, fun k hk => absurd hk (Nat.not_lt_zero _)⟩) hO hR _ _ hP hD hS ls (lv_sub hl [0, 1, 2, 3] rfl)
  rintro j F_7 hv_8 hO hR ih_9 H locs hP hD hS ls hl
  have hl : lv_has ls 6 [(3, .int (nI j)), (0, .ref h0), (1, .int (nI a1)), (2, .int (nI b1))] := hl
  have hv_8 : j ≤ nn ∧ ∀ k, k < j → ¬ MCH (TC f z) gq a1 b1 k := hv_8
  refine W.eq (g2 := F0 m 2 ls []) rfl ?_
  obtain rfl : F = F_7 := (funext (fun a => hR a List.not_mem_nil)).symm
  obtain ⟨hv1, hv2⟩ := id hv_8
  refine lv_iload_n hx hb dX9_isKnown_2 rfl (lv_at hl 0 rfl) ?_
  refine lv_aload_n hx hb dX9_isKnown_3 rfl (lv_at hl 1 rfl) ?_
  refine pg_get (ci := 9) (v := .int (nI nn)) (C := RX9) (T := TX9) (N := 5) hx hb hts it_9 hown hK hP hL_h0 hF0 rfl 4 (by decide) (hts _ kt_158) (fun _ h9 => h9) rfl dX9_isKnown_4 ?_
  refine lv_icmp_ge (tgt := 108) hx hb dX9_isKnown_7 (by decide) (fun c_10 => ?_) (fun c_10 => ?_)
  ·
    have hi_11 : nn ≤ j := leN (N := nn) c_10
    have hjz : nn ≤ j := (nI_leI (by omega) (by omega)).mp c_10
    refine lv_iconst (v := 0) hx hb dX9_isKnown_108 (by decide) ?_
    refine W.widen (k := 0) (n := 0) (by omega) (by omega) ?_
    exact W.zret (v := 0) (ty := .boolean) hx hb hr (by decide) (fun t ht hWm => ⟨⟨0, (), rfl, (Or.inr ⟨rfl, fun q => by obtain ⟨k9, h8, h9⟩ := q; exact hv2 k9 (by omega) h9⟩), ⟨F, QT.mk ht hP hD hO hR⟩⟩, hS.F ht⟩) hS.2.2 dX9_isKnown_109
  ·
    have hi_12 : j < nn := ltN (N := nn) c_10
    have hjz : j < nn := Nat.not_le.mp (fun q => c_10 ((nI_leI (by omega) (by omega)).mpr q))
    obtain ⟨hg1, hg2, hg3⟩ := hTG j hjz
    refine W.widen (k := 0) (n := 0) (by omega) (by omega) ?_
    refine pl_cut (σ := Int32) A (dC, dI) cs ty L [] F 34 6 (fun s0 => [(3, .int (nI j)), (0, .ref h0), (1, .int (nI a1)), (2, .int (nI b1))]) (fun s0 => [.int s0]) (fun s0 _ => (s0 = 1 ∧ gq 1 j - gq 0 j = b1 - a1) ∨ (s0 = 0 ∧ ¬ gq 1 j - gq 0 j = b1 - a1)) ?_ (fun jn_13 => ?_)
    ·
      rintro s0 F_14 hv_15 hO hR H locs hP hD hS ls hl
      have hl : lv_has ls 6 [(3, .int (nI j)), (0, .ref h0), (1, .int (nI a1)), (2, .int (nI b1))] := hl
      have hv_15 : (s0 = 1 ∧ gq 1 j - gq 0 j = b1 - a1) ∨ (s0 = 0 ∧ ¬ gq 1 j - gq 0 j = b1 - a1) := hv_15
      refine W.eq (g2 := F0 m 34 ls [.int s0]) rfl ?_
      obtain rfl : F = F_14 := (funext (fun a => hR a List.not_mem_nil)).symm
      have hcu := hv_15
      refine lv_istore (lv' := [(4, .int s0), (3, .int (nI j)), (0, .ref h0), (1, .int (nI a1)), (2, .int (nI b1))]) hx hb dX9_isKnown_34 hl (by decide) rfl (fun ls hl => ?_)
      refine lv_iconst (v := 0) hx hb dX9_isKnown_36 (by decide) ?_
      refine lv_istore (lv' := [(5, .int 0), (4, .int s0), (3, .int (nI j)), (0, .ref h0), (1, .int (nI a1)), (2, .int (nI b1))]) hx hb dX9_isKnown_37 hl (by decide) rfl (fun ls hl => ?_)
      refine W.widen (k := 0) (n := 0) (by omega) (by omega) ?_
      refine pl_loop (σ := Nat × Int32) A (dC, dI) cs ty L [] F 39 6 (fun (i, w4) => [(5, .int (nI i)), (4, .int w4), (3, .int (nI j)), (0, .ref h0), (1, .int (nI a1)), (2, .int (nI b1))]) (fun (i, w4) => []) (fun (i, w4) _ => (w4 = 1 ∧ i ≤ b1 - a1 ∧ gq 1 j - gq 0 j = b1 - a1 ∧ ∀ i9, i9 < i → (TC f z) (gq 0 j + i9) = (TC f z) (a1 + i9)) ∨ (w4 = 0 ∧ i ≤ b1 - a1 + 1 ∧ ¬ MCH (TC f z) gq a1 b1 j)) (fun (i, w4) => b1 - a1 + 1 - i) ?_ (0, s0) F (hcu.imp (fun q => ⟨q.1, Nat.zero_le _, q.2, fun i9 h9 => absurd h9 (Nat.not_lt_zero _)⟩) (fun q => ⟨q.1, Nat.zero_le _, fun q9 => q.2 q9.1⟩)) hO hR _ _ hP hD hS ls (lv_sub hl [0, 1, 2, 3, 4, 5] rfl)
      rintro ⟨i, w4⟩ F_16 hv_17 hO hR ih_18 H locs hP hD hS ls hl
      have hl : lv_has ls 6 [(5, .int (nI i)), (4, .int w4), (3, .int (nI j)), (0, .ref h0), (1, .int (nI a1)), (2, .int (nI b1))] := hl
      have hv_17 : (w4 = 1 ∧ i ≤ b1 - a1 ∧ gq 1 j - gq 0 j = b1 - a1 ∧ ∀ i9, i9 < i → (TC f z) (gq 0 j + i9) = (TC f z) (a1 + i9)) ∨ (w4 = 0 ∧ i ≤ b1 - a1 + 1 ∧ ¬ MCH (TC f z) gq a1 b1 j) := hv_17
      refine W.eq (g2 := F0 m 39 ls []) rfl ?_
      obtain rfl : F = F_16 := (funext (fun a => hR a List.not_mem_nil)).symm
      have hvi := hv_17
      refine lv_iload hx hb dX9_isKnown_39 (lv_at hl 1 rfl) ?_
      refine lv_if_eq (tgt := 95) hx hb dX9_isKnown_41 (by decide) (fun c_19 => ?_) (fun c_19 => ?_)
      ·
        obtain ⟨-, hw2, hw3⟩ := hvi.resolve_left (fun q => absurd (q.1.symm.trans c_19) (by decide))
        refine lv_iload hx hb dX9_isKnown_95 (lv_at hl 1 rfl) ?_
        refine lv_if_eq (tgt := 102) hx hb dX9_isKnown_97 (by decide) (fun c_20 => ?_) (fun c_20 => absurd (c_19) c_20)
        refine lv_iinc (v := (nI (j + 1))) (lv' := [(3, .int (nI (j + 1))), (5, .int (nI i)), (4, .int w4), (0, .ref h0), (1, .int (nI a1)), (2, .int (nI b1))]) hx hb dX9_isKnown_102 hl (k := 2) rfl (nI_1 _) (by decide) rfl (fun ls hl => ?_)
        refine lv_goto (tgt := 2) hx hb dX9_isKnown_105 (by decide) ?_
        refine W.widen (k := 0) (n := 0) (by omega) (by omega) ?_
        exact ih_9 (j + 1) F (⟨by omega, all_step hv2 hw3⟩) (by show nn - (j + 1) < nn - j; omega) hO hR _ _ hP hD hS ls (lv_sub hl [0, 3, 4, 5] rfl)
      ·
        obtain ⟨hw1, hw2, hw3, hw4⟩ := hvi.resolve_right (fun q => c_19 q.1)
        refine lv_iload hx hb dX9_isKnown_44 (lv_at hl 0 rfl) ?_
        refine lv_iload_n hx hb dX9_isKnown_46 rfl (lv_at hl 5 rfl) ?_
        refine lv_iload_n hx hb dX9_isKnown_47 rfl (lv_at hl 4 rfl) ?_
        refine lv_isub hx hb dX9_isKnown_48 ?_
        refine lv_topi (fun x_21 ex_21 => ?_)
        obtain rfl : x_21 = (nI (b1 - a1)) := ex_21.trans (pk_sub hab)
        refine lv_icmp_ge (tgt := 95) hx hb dX9_isKnown_49 (by decide) (fun c_22 => ?_) (fun c_22 => ?_)
        ·
          have hi_23 : (b1 - a1) ≤ i := leN (N := (b1 - a1)) c_22
          have hii : b1 - a1 ≤ i := (nI_leI (by omega) (by omega)).mp c_22
          refine lv_iload hx hb dX9_isKnown_95 (lv_at hl 1 rfl) ?_
          refine lv_if_eq (tgt := 102) hx hb dX9_isKnown_97 (by decide) (fun c_24 => absurd c_24 (c_19)) (fun c_24 => ?_)
          refine lv_iconst (v := 1) hx hb dX9_isKnown_100 (by decide) ?_
          refine W.widen (k := 0) (n := 0) (by omega) (by omega) ?_
          exact W.zret (v := 1) (ty := .boolean) hx hb hr (by decide) (fun t ht hWm => ⟨⟨1, (), rfl, (Or.inl ⟨rfl, j, hjz, hw3, fun i9 h9 => hw4 i9 (by omega)⟩), ⟨F, QT.mk ht hP hD hO hR⟩⟩, hS.F ht⟩) hS.2.2 dX9_isKnown_101
        ·
          have hi_25 : i < (b1 - a1) := ltN (N := (b1 - a1)) c_22
          have hii : i < b1 - a1 := Nat.not_le.mp (fun q => c_22 ((nI_leI (by omega) (by omega)).mpr q))
          refine lv_aload_n hx hb dX9_isKnown_52 rfl (lv_at hl 3 rfl) ?_
          refine pg_get (ci := 9) (v := .ref tx) (C := RX9) (T := TX9) (N := 5) hx hb hts it_9 hown hK hP hL_h0 hF0 rfl 0 (by decide) (hts _ kt_159) (fun _ h9 => h9) rfl dX9_isKnown_53 ?_
          refine lv_aload_n hx hb dX9_isKnown_56 rfl (lv_at hl 3 rfl) ?_
          refine pg_get (ci := 9) (v := .ref y0) (C := RX9) (T := TX9) (N := 5) hx hb hts it_9 hown hK hP hL_h0 hF0 rfl 1 (by decide) (hts _ kt_160) (fun _ h9 => h9) rfl dX9_isKnown_57 ?_
          refine lv_iload_n hx hb dX9_isKnown_60 rfl (lv_at hl 2 rfl) ?_
          refine pg_iald hx hb hK hP hi_1 0 hFy0 rfl (vp_in_nI (by omega) (by omega)) dX9_isKnown_61 ?_
          refine lv_topi (fun x_26 ex_26 => ?_)
          obtain rfl : x_26 = (nI (gq 0 j)) := ex_26.trans (((congrArg e0 (nI_clamp (by omega))).trans (hhl j hjz).1))
          refine lv_iload hx hb dX9_isKnown_62 (lv_at hl 0 rfl) ?_
          refine lv_iadd hx hb dX9_isKnown_64 ?_
          refine lv_topi (fun x_27 ex_27 => ?_)
          obtain rfl : x_27 = (nI (gq 0 j + i)) := ex_27.trans (nI_add _ i)
          obtain ⟨hi_28, ht_29, hq_30⟩ := hW.bytes hL_tx hT_tx
          have hFc := pg_free hD hS hA
          refine va_calli (va_runV (As := [.int (nI (gq 0 j + i))]) (rest := []) ⟨hx, hb, hml, hown, hts⟩ (s_X0_at_e l dC dI cs ty L H.size F tx (ρ + 1) rx n z (gq 0 j + i) f hW hL_tx hT_tx hFx hFr (by omega) (by omega) (by omega)) ⟨callB_of 1 hts (gi kt_21) rfl rfl rfl (hts _ kt_1) (hts _ kt_183) (by decide +kernel) ⟨Nat.le_of_ble_eq_true rfl, Nat.le_of_ble_eq_true rfl⟩, (hts _ kt_23), (hts _ kt_24)⟩ ⟨fun a U g mk q => ⟨q.1, PT.calling q.2⟩, pg_recv hK hP hL_tx hFx (q := (RX0, TX0, 3)) rfl, fun U hU hWm => ⟨rfl, PT.mk hU hWm hP hK hD hE hO⟩⟩ rfl rfl hl.1 rfl (lv_room (Nat.le_of_ble_eq_true rfl)) dX9_isKnown_65 ⟨by show _ + 0 ≤ 0; omega, by show _ + 0 ≤ 0; omega⟩) hS (fun q _ h => hFc q h) hFc (fun r_31 u t H1 locs ht hvm hw hB hz1 hk1 hS => ?_)
          obtain ⟨F_32, hB1⟩ := hB
          obtain rfl : F = F_32 := (funext (fun a => hB1.2.2.2 a List.not_mem_nil)).symm
          obtain ⟨hP, hD, hO, hR⟩ := QT.back hB1 ht hFc hR (fun q h => absurd h List.not_mem_nil)
          generalize H1 = H at hP hS ⊢
          have hw : r_31 = f (gq 0 j + i) := hw
          have hw_33 := hw
          subst hw_33
          refine lv_aload_n hx hb dX9_isKnown_68 rfl (lv_at hl 3 rfl) ?_
          refine pg_get (ci := 9) (v := .ref tx) (C := RX9) (T := TX9) (N := 5) hx hb hts it_9 hown hK hP hL_h0 hF0 rfl 0 (by decide) (hts _ kt_159) (fun _ h9 => h9) rfl dX9_isKnown_69 ?_
          refine lv_iload_n hx hb dX9_isKnown_72 rfl (lv_at hl 4 rfl) ?_
          refine lv_iload hx hb dX9_isKnown_73 (lv_at hl 0 rfl) ?_
          refine lv_iadd hx hb dX9_isKnown_75 ?_
          refine lv_topi (fun x_34 ex_34 => ?_)
          obtain rfl : x_34 = (nI (a1 + i)) := ex_34.trans (nI_add a1 i)
          have hFc := pg_free hD hS hA
          refine va_calli (va_runV (As := [.int (nI (a1 + i))]) (rest := [.int (f (gq 0 j + i))]) ⟨hx, hb, hml, hown, hts⟩ (s_X0_at_e l dC dI cs ty L H.size F tx (ρ + 1) rx n z (a1 + i) f hW hL_tx hT_tx hFx hFr (by omega) (by omega) (by omega)) ⟨callB_of 1 hts (gi kt_21) rfl rfl rfl (hts _ kt_1) (hts _ kt_183) (by decide +kernel) ⟨Nat.le_of_ble_eq_true rfl, Nat.le_of_ble_eq_true rfl⟩, (hts _ kt_23), (hts _ kt_24)⟩ ⟨fun a U g mk q => ⟨q.1, PT.calling q.2⟩, pg_recv hK hP hL_tx hFx (q := (RX0, TX0, 3)) rfl, fun U hU hWm => ⟨rfl, PT.mk hU hWm hP hK hD hE hO⟩⟩ rfl rfl hl.1 rfl (lv_room (Nat.le_of_ble_eq_true rfl)) dX9_isKnown_76 ⟨by show _ + 0 ≤ 0; omega, by show _ + 0 ≤ 0; omega⟩) hS (fun q _ h => hFc q h) hFc (fun r_35 u t H1 locs ht hvm hw hB hz1 hk1 hS => ?_)
          obtain ⟨F_36, hB1⟩ := hB
          obtain rfl : F = F_36 := (funext (fun a => hB1.2.2.2 a List.not_mem_nil)).symm
          obtain ⟨hP, hD, hO, hR⟩ := QT.back hB1 ht hFc hR (fun q h => absurd h List.not_mem_nil)
          generalize H1 = H at hP hS ⊢
          have hw : r_35 = f (a1 + i) := hw
          have hw_37 := hw
          subst hw_37
          refine lv_icmp_ne (tgt := 86) hx hb dX9_isKnown_79 (by decide) (fun c_38 => ?_) (fun c_38 => ?_)
          ·
            have hee : ¬ (TC f z) (gq 0 j + i) = (TC f z) (a1 + i) := fun q => c_38 ((tcq_eq (show gq 0 j + i < z by omega) (show a1 + i < z by omega) (hsm _ (by omega) (by omega))).mpr q)
            refine lv_iconst (v := 0) hx hb dX9_isKnown_86 (by decide) ?_
            refine lv_istore (lv' := [(4, .int 0), (5, .int (nI i)), (3, .int (nI j)), (0, .ref h0), (1, .int (nI a1)), (2, .int (nI b1))]) hx hb dX9_isKnown_87 hl (by decide) rfl (fun ls hl => ?_)
            refine lv_iinc (v := (nI (i + 1))) (lv' := [(5, .int (nI (i + 1))), (4, .int 0), (3, .int (nI j)), (0, .ref h0), (1, .int (nI a1)), (2, .int (nI b1))]) hx hb dX9_isKnown_89 hl (k := 1) rfl (nI_1 _) (by decide) rfl (fun ls hl => ?_)
            refine lv_goto (tgt := 39) hx hb dX9_isKnown_92 (by decide) ?_
            refine W.widen (k := 0) (n := 0) (by omega) (by omega) ?_
            exact ih_18 ((i + 1), 0) F (Or.inr ⟨rfl, by omega, fun q => hee (q.2 i hii)⟩) (by show b1 - a1 + 1 - (i + 1) < b1 - a1 + 1 - i; omega) hO hR _ _ hP hD hS ls (lv_sub hl [0, 1, 2, 3, 4, 5] rfl)
          ·
            have hee : (TC f z) (gq 0 j + i) = (TC f z) (a1 + i) := (tcq_eq (show gq 0 j + i < z by omega) (show a1 + i < z by omega) (hsm _ (by omega) (by omega))).mp c_38
            refine lv_iconst (v := 1) hx hb dX9_isKnown_82 (by decide) ?_
            refine lv_goto (tgt := 87) hx hb dX9_isKnown_83 (by decide) ?_
            refine lv_istore (lv' := [(4, .int 1), (5, .int (nI i)), (3, .int (nI j)), (0, .ref h0), (1, .int (nI a1)), (2, .int (nI b1))]) hx hb dX9_isKnown_87 hl (by decide) rfl (fun ls hl => ?_)
            refine lv_iinc (v := (nI (i + 1))) (lv' := [(5, .int (nI (i + 1))), (4, .int 1), (3, .int (nI j)), (0, .ref h0), (1, .int (nI a1)), (2, .int (nI b1))]) hx hb dX9_isKnown_89 hl (k := 1) rfl (nI_1 _) (by decide) rfl (fun ls hl => ?_)
            refine lv_goto (tgt := 39) hx hb dX9_isKnown_92 (by decide) ?_
            refine W.widen (k := 0) (n := 0) (by omega) (by omega) ?_
            exact ih_18 ((i + 1), 1) F (Or.inl ⟨rfl, by omega, hw3, all_step hw4 hee⟩) (by show b1 - a1 + 1 - (i + 1) < b1 - a1 + 1 - i; omega) hO hR _ _ hP hD hS ls (lv_sub hl [0, 1, 2, 3, 4, 5] rfl)
    ·
      refine lv_aload_n hx hb dX9_isKnown_10 rfl (lv_at hl 1 rfl) ?_
      refine pg_get (ci := 9) (v := .ref y1) (C := RX9) (T := TX9) (N := 5) hx hb hts it_9 hown hK hP hL_h0 hF0 rfl 2 (by decide) (hts _ kt_161) (fun _ h9 => h9) rfl dX9_isKnown_11 ?_
      refine lv_iload_n hx hb dX9_isKnown_14 rfl (lv_at hl 0 rfl) ?_
      refine pg_iald hx hb hK hP hi_2 0 hFy1 rfl (vp_in_nI (by omega) (by omega)) dX9_isKnown_15 ?_
      refine lv_topi (fun x_39 ex_39 => ?_)
      obtain rfl : x_39 = (nI (gq 1 j)) := ex_39.trans (((congrArg e1 (nI_clamp (by omega))).trans (hhl j hjz).2.1))
      refine lv_aload_n hx hb dX9_isKnown_16 rfl (lv_at hl 1 rfl) ?_
      refine pg_get (ci := 9) (v := .ref y0) (C := RX9) (T := TX9) (N := 5) hx hb hts it_9 hown hK hP hL_h0 hF0 rfl 1 (by decide) (hts _ kt_160) (fun _ h9 => h9) rfl dX9_isKnown_17 ?_
      refine lv_iload_n hx hb dX9_isKnown_20 rfl (lv_at hl 0 rfl) ?_
      refine pg_iald hx hb hK hP hi_1 0 hFy0 rfl (vp_in_nI (by omega) (by omega)) dX9_isKnown_21 ?_
      refine lv_topi (fun x_40 ex_40 => ?_)
      obtain rfl : x_40 = (nI (gq 0 j)) := ex_40.trans (((congrArg e0 (nI_clamp (by omega))).trans (hhl j hjz).1))
      refine lv_isub hx hb dX9_isKnown_22 ?_
      refine lv_topi (fun x_41 ex_41 => ?_)
      obtain rfl : x_41 = (nI (gq 1 j - gq 0 j)) := ex_41.trans (pk_sub hg1)
      refine lv_iload_n hx hb dX9_isKnown_23 rfl (lv_at hl 3 rfl) ?_
      refine lv_iload_n hx hb dX9_isKnown_24 rfl (lv_at hl 2 rfl) ?_
      refine lv_isub hx hb dX9_isKnown_25 ?_
      refine lv_topi (fun x_42 ex_42 => ?_)
      obtain rfl : x_42 = (nI (b1 - a1)) := ex_42.trans (pk_sub hab)
      refine lv_icmp_ne (tgt := 33) hx hb dX9_isKnown_26 (by decide) (fun c_43 => ?_) (fun c_43 => ?_)
      ·
        have hle : ¬ gq 1 j - gq 0 j = b1 - a1 := fun q => c_43 (by rw [q])
        refine lv_iconst (v := 0) hx hb dX9_isKnown_33 (by decide) ?_
        refine W.widen (k := 0) (n := 0) (by omega) (by omega) ?_
        exact jn_13 0 F (Or.inr ⟨rfl, hle⟩) hO hR _ _ hP hD hS ls (lv_sub hl [0, 1, 2, 3] rfl)
      ·
        have hle : gq 1 j - gq 0 j = b1 - a1 := (nI_eq (by omega) (by omega)).mp c_43
        refine lv_iconst (v := 1) hx hb dX9_isKnown_29 (by decide) ?_
        refine lv_goto (tgt := 34) hx hb dX9_isKnown_30 (by decide) ?_
        refine W.widen (k := 0) (n := 0) (by omega) (by omega) ?_
        exact jn_13 1 F (Or.inl ⟨rfl, hle⟩) hO hR _ _ hP hD hS ls (lv_sub hl [0, 1, 2, 3] rfl)
set_option maxHeartbeats 4000000 in
set_option maxRecDepth 100000 in
theorem s_X9_take_e (l : Launch) (dC : Nat → ClassId) (dI : Nat → Nat → Nat) (cs : Nat → ClassId) (ty : TyM) (L : List Nat) (sz : Nat) (F : Nat → va_E) (h0 : Nat) (ρ : Nat) (tx : Nat) (n : Nat) (y0 : Nat) (y1 : Nat) (y2 : Nat) (rx : Nat) (z : Nat) (nn : Nat) (f : Nat → Int32) (e0 : Nat → Int32) (e1 : Nat → Int32) (e2 : Nat → Int32) (gq : Nat → Nat → Nat) (a1 : Nat) (b1 : Nat) (hW : WT ty L) (hL_h0 : h0 ∈ L) (hT_h0 : ty h0 = (9, ρ, [tx, n, y0, y1, y2])) (hL_tx : tx ∈ L) (hT_tx : ty tx = (0, ρ + 1, [rx, n])) (hF0 : F h0 = .inr (9, [.ref tx, .ref y0, .ref y1, .ref y2, .int (nI nn)])) (hFx : F tx = .inr (0, [.ref rx, .int (nI z), .int 0])) (hFr : F rx = .inl (cs 16, n, .inl f)) (hFy0 : F y0 = .inl (cs 16, 40, .inl e0)) (hFy1 : F y1 = .inl (cs 16, 40, .inl e1)) (hFy2 : F y2 = .inl (cs 16, 40, .inl e2)) (hzn : z ≤ n) (hn9 : n ≤ 10000) (hcn : nn ≤ 40) (hhl : HLD e0 e1 e2 nn gq) (hTG : TGI z nn gq) (hab : a1 ≤ b1) (hbz : b1 ≤ z) : Met l yX9_take (.code yX9_take cX9_take 5 (some .boolean) :: tb) ({ frames := 2, cells := 0, slots := 0, locals := 46 }) (va_Pc [.ref h0, .int (nI a1), .int (nI b1)] (PT (dC, dI) cs ty L F sz)) (va_Qi (fun (r : Int32) (gg : TGG) => TKR (TC f z) a1 b1 nn gq gg r) (fun (gg : TGG) T9 => ∃ F2 : Nat → va_E, ∃ p0 : Nat → Int32, ∃ p1 : Nat → Int32, ∃ p2 : Nat → Int32, QT (dC, dI) cs ty L [ρ, ρ + 70, ρ + 71] F F2 (va_A (va_pl L F) sz) T9 ∧ F2 h0 = .inr (9, [.ref tx, .ref y0, .ref y1, .ref y2, .int (nI gg.1)]) ∧ F2 y0 = .inl (cs 16, 40, .inl p0) ∧ F2 y1 = .inl (cs 16, 40, .inl p1) ∧ F2 y2 = .inl (cs 16, 40, .inl p2) ∧ HLD p0 p1 p2 gg.1 gg.2) (va_A (va_pl L F) sz)) 0 0 (va_A (va_pl L F) sz) := by
  refine Met.ofW (cc := cX9_take) (maxL := 5) (ret := (some .boolean)) (by decide) rfl ?_
  intro p e s m args below meth c s₁ B hml hv
  obtain ⟨rfl, hsz, hP, hK, hD0, hE, hO⟩ := hv
  have hx := B.exec
  have hb := B.bytes
  have hr := B.returns
  have hts : ∀ w ∈ tb, w.before _ s = true := fun w h => atoms_spec (ws := .code yX9_take cX9_take 5 (some .boolean) :: tb) B.pre w (List.mem_cons_of_mem _ h)
  have hown : s.vm.findClass RX9 = some m.cls := findClass_of_methodNamed B.named
  have hlocks := B.notSynchronized
  subst hsz
  have hD := hD0.self (sz := s.heap.size)
  generalize hAe : va_A (va_pl L F) s.heap.size = A at hD ⊢
  have hA : ∀ q : Nat, s.heap.size ≤ q → A q := fun q h => by rw [← hAe]; exact Or.inr h
  have hS : va_S A s.heap s.heap [] := va_S.rf
  have hR : FR ty [ρ, ρ + 70, ρ + 71] F F := FR.refl
  have hl := lv_entry ([.ref h0, .int (nI a1), .int (nI b1)]) (n := 5) (Nat.le_of_ble_eq_true rfl)
  rw [lg_entry_eq]
  generalize (lg_sl ([.ref h0, .int (nI a1), .int (nI b1)]) ++ List.replicate (5 - (lg_sl ([.ref h0, .int (nI a1), .int (nI b1)])).length) Slot.unset).toArray = ls at hl ⊢
  have hl : lv_has ls 5 [(0, .ref h0), (1, .int (nI a1)), (2, .int (nI b1))] := hl
  obtain ⟨_, hi_1, hi_2, hi_3, _, ht_4, ht_5, ht_6⟩ := hW.tags hL_h0 hT_h0
  obtain ⟨hi_7, ht_8, hq_9⟩ := hW.bytes hL_tx hT_tx
  have hq_10 := ix_of hFy0 (hO.idx hi_1 ht_4)
  have hq_11 := ix_of hFy1 (hO.idx hi_2 ht_5)
  have hq_12 := ix_of hFy2 (hO.idx hi_3 ht_6)
  refine lv_aload_n hx hb dX9_take_0 rfl (lv_at hl 0 rfl) ?_
  refine pg_get (ci := 9) (v := .ref tx) (C := RX9) (T := TX9) (N := 5) hx hb hts it_9 hown hK hP hL_h0 hF0 rfl 0 (by decide) (hts _ kt_159) (fun _ h9 => h9) rfl dX9_take_1 ?_
  refine lv_bipush (v := 61) hx hb dX9_take_4 (by decide) ?_
  refine lv_iload_n hx hb dX9_take_6 rfl (lv_at hl 1 rfl) ?_
  refine lv_iload_n hx hb dX9_take_7 rfl (lv_at hl 2 rfl) ?_
  have hFc := pg_free hD hS hA
  refine va_calli (va_runV (As := [.int 61, .int (nI a1), .int (nI b1)]) (rest := []) ⟨hx, hb, hml, hown, hts⟩ (s_X0_find_g l dC dI cs ty L s.heap.size F tx (ρ + 1) rx n z a1 b1 f 61 hW hL_tx hT_tx hFx hFr (by omega) (by omega) (hab) (hbz)) ⟨callB_of 3 hts (gi kt_122) rfl rfl rfl (hts _ kt_1) (hts _ kt_184) (by decide +kernel) ⟨Nat.le_of_ble_eq_true rfl, Nat.le_of_ble_eq_true rfl⟩, (hts _ kt_124), (hts _ kt_125)⟩ ⟨fun a U g mk q => ⟨q.1, PT.calling q.2⟩, pg_recv hK hP hL_tx hFx (q := (RX0, TX0, 3)) rfl, fun U hU hWm => ⟨rfl, PT.mk hU hWm hP hK hD hE hO⟩⟩ rfl rfl hl.1 rfl (lv_room (Nat.le_of_ble_eq_true rfl)) dX9_take_8 ⟨by show _ + 0 ≤ 0; omega, by show _ + 0 ≤ 0; omega⟩) hS (fun q _ h => hFc q h) hFc (fun r_13 u t H1 locs ht hvm hw hB hz1 hk1 hS => ?_)
  obtain ⟨F_14, hB1⟩ := hB
  obtain rfl : F = F_14 := (funext (fun a => hB1.2.2.2 a List.not_mem_nil)).symm
  obtain ⟨hP, hD, hO, hR⟩ := QT.back hB1 ht hFc hR (fun q h => absurd h List.not_mem_nil)
  generalize H1 = H at hP hS ⊢
  have hw : (∃ k : Nat, r_13 = nI k ∧ FSX f 61 a1 b1 k) := hw
  have hw_15 := hw
  obtain ⟨k9, e9, hfx⟩ := hw_15
  obtain rfl := fd_of (c := 61) hfx hbz (by omega)
  subst e9
  have hfl : a1 ≤ (fdT (TC f z) 61 a1 b1) ∧ (fdT (TC f z) 61 a1 b1) ≤ b1 := fd_ge hab
  refine lv_istore_n (lv' := [(3, .int (nI (fdT (TC f z) 61 a1 b1))), (0, .ref h0), (1, .int (nI a1)), (2, .int (nI b1))]) hx hb dX9_take_11 rfl hl (by decide) rfl (fun ls hl => ?_)
  refine lv_aload_n hx hb dX9_take_12 rfl (lv_at hl 1 rfl) ?_
  refine pg_get (ci := 9) (v := .int (nI nn)) (C := RX9) (T := TX9) (N := 5) hx hb hts it_9 hown hK hP hL_h0 hF0 rfl 4 (by decide) (hts _ kt_158) (fun _ h9 => h9) rfl dX9_take_13 ?_
  refine lv_bipush (v := 40) hx hb dX9_take_16 (by decide) ?_
  refine lv_icmp_eq (tgt := 41) hx hb dX9_take_18 (by decide) (fun c_16 => ?_) (fun c_16 => ?_)
  ·
    have hc40 : ¬ nn < 40 := by have h9 : nn = 40 := (nI_eq (b := 40) (by omega) (by omega)).mp c_16; omega
    refine lv_iconst (v := 0) hx hb dX9_take_41 (by decide) ?_
    refine W.widen (k := 0) (n := 0) (by omega) (by omega) ?_
    exact W.zret (v := 0) (ty := .boolean) hx hb hr (by decide) (fun t ht hWm => ⟨⟨0, (nn, gq), rfl, (Or.inr ⟨rfl, fun q => hc40 q.1, rfl⟩), ⟨F, e0, e1, e2, QT.mk ht hP hD hO hR, hF0, hFy0, hFy1, hFy2, hhl⟩⟩, hS.F ht⟩) hS.2.2 dX9_take_42
  ·
    have hc40 : nn < 40 := by have h9 : nn ≠ 40 := fun h => c_16 (by rw [h]; rfl); omega
    refine lv_iload_n hx hb dX9_take_21 rfl (lv_at hl 0 rfl) ?_
    refine lv_iload_n hx hb dX9_take_22 rfl (lv_at hl 3 rfl) ?_
    refine lv_icmp_eq (tgt := 41) hx hb dX9_take_23 (by decide) (fun c_19 => ?_) (fun c_19 => ?_)
    ·
      have hke : (fdT (TC f z) 61 a1 b1) = b1 := (nI_eq (by omega) (by omega)).mp c_19
      refine lv_iconst (v := 0) hx hb dX9_take_41 (by decide) ?_
      refine W.widen (k := 0) (n := 0) (by omega) (by omega) ?_
      exact W.zret (v := 0) (ty := .boolean) hx hb hr (by decide) (fun t ht hWm => ⟨⟨0, (nn, gq), rfl, (Or.inr ⟨rfl, fun q => absurd q.2.1 (by omega), rfl⟩), ⟨F, e0, e1, e2, QT.mk ht hP hD hO hR, hF0, hFy0, hFy1, hFy2, hhl⟩⟩, hS.F ht⟩) hS.2.2 dX9_take_42
    ·
      have hke : (fdT (TC f z) 61 a1 b1) ≠ b1 := fun h => c_19 (by rw [h])
      refine lv_iload_n hx hb dX9_take_26 rfl (lv_at hl 0 rfl) ?_
      refine lv_iload_n hx hb dX9_take_27 rfl (lv_at hl 2 rfl) ?_
      refine lv_isub hx hb dX9_take_28 ?_
      refine lv_topi (fun x_22 ex_22 => ?_)
      obtain rfl : x_22 = (nI ((fdT (TC f z) 61 a1 b1) - a1)) := ex_22.trans (pk_sub hfl.1)
      refine lv_iconst (v := 1) hx hb dX9_take_29 (by decide) ?_
      refine lv_icmp_lt (tgt := 41) hx hb dX9_take_30 (by decide) (fun c_23 => ?_) (fun c_23 => ?_)
      ·
        have hi_24 : ((fdT (TC f z) 61 a1 b1) - a1) < 1 := ltN (N := 1) (Int32.not_le.mpr c_23)
        have hkk1 : (fdT (TC f z) 61 a1 b1) - a1 < 1 := (nI_ltI (b := 1) (by omega) (by omega)).mp c_23
        refine lv_iconst (v := 0) hx hb dX9_take_41 (by decide) ?_
        refine W.widen (k := 0) (n := 0) (by omega) (by omega) ?_
        exact W.zret (v := 0) (ty := .boolean) hx hb hr (by decide) (fun t ht hWm => ⟨⟨0, (nn, gq), rfl, (Or.inr ⟨rfl, fun q => absurd q.2.2.1 (by omega), rfl⟩), ⟨F, e0, e1, e2, QT.mk ht hP hD hO hR, hF0, hFy0, hFy1, hFy2, hhl⟩⟩, hS.F ht⟩) hS.2.2 dX9_take_42
      ·
        have hi_25 : 1 ≤ ((fdT (TC f z) 61 a1 b1) - a1) := leN (N := 1) (Int32.not_lt.mp c_23)
        have hkk1 : 1 ≤ (fdT (TC f z) 61 a1 b1) - a1 := Nat.not_lt.mp (fun q => c_23 ((nI_ltI (b := 1) (by omega) (by omega)).mpr q))
        refine lv_iload_n hx hb dX9_take_33 rfl (lv_at hl 0 rfl) ?_
        refine lv_iload_n hx hb dX9_take_34 rfl (lv_at hl 2 rfl) ?_
        refine lv_isub hx hb dX9_take_35 ?_
        refine lv_topi (fun x_26 ex_26 => ?_)
        obtain rfl : x_26 = (nI ((fdT (TC f z) 61 a1 b1) - a1)) := ex_26.trans (pk_sub hfl.1)
        refine lv_bipush (v := 8) hx hb dX9_take_36 (by decide) ?_
        refine lv_icmp_le (tgt := 43) hx hb dX9_take_38 (by decide) (fun c_27 => ?_) (fun c_27 => ?_)
        ·
          have hk8 : (fdT (TC f z) 61 a1 b1) - a1 ≤ 8 := (nI_leI (b := 8) (by omega) (by omega)).mp c_27
          refine lv_iload_n hx hb dX9_take_43 rfl (lv_at hl 2 rfl) ?_
          refine lv_istore (lv' := [(4, .int (nI a1)), (3, .int (nI (fdT (TC f z) 61 a1 b1))), (0, .ref h0), (1, .int (nI a1)), (2, .int (nI b1))]) hx hb dX9_take_44 hl (by decide) rfl (fun ls hl => ?_)
          refine W.widen (k := 0) (n := 0) (by omega) (by omega) ?_
          have hF_30 : F tx = .inr (0, [.ref rx, .int (nI z), .int 0]) := (hR tx (by rw [hT_tx]; simp)).symm.trans hFx
          have hF_31 : F rx = .inl (cs 16, n, .inl f) := (hR rx (by rw [ht_8]; simp)).symm.trans hFr
          refine pl_loop (σ := Nat) A (dC, dI) cs ty L [ρ, ρ + 70, ρ + 71] F 46 5 (fun i => [(4, .int (nI i)), (3, .int (nI (fdT (TC f z) 61 a1 b1))), (0, .ref h0), (1, .int (nI a1)), (2, .int (nI b1))]) (fun i => []) (fun i FF => a1 ≤ i ∧ i ≤ (fdT (TC f z) 61 a1 b1) ∧ (∀ q9, a1 ≤ q9 → q9 < i → SML ((TC f z) q9)) ∧ FF h0 = .inr (9, [.ref tx, .ref y0, .ref y1, .ref y2, .int (nI nn)]) ∧ FF y0 = .inl (cs 16, 40, .inl e0) ∧ FF y1 = .inl (cs 16, 40, .inl e1) ∧ FF y2 = .inl (cs 16, 40, .inl e2)) (fun i => (fdT (TC f z) 61 a1 b1) - i) ?_ a1 F (⟨Nat.le_refl _, hfl.1, fun q9 h1 h2 => absurd h2 (by omega), hF0, hFy0, hFy1, hFy2⟩) hO hR _ _ hP hD hS ls (lv_sub hl [0, 1, 2, 3, 4] rfl)
          rintro i F_29 hv_32 hO hR ih_33 H locs hP hD hS ls hl
          have hl : lv_has ls 5 [(4, .int (nI i)), (3, .int (nI (fdT (TC f z) 61 a1 b1))), (0, .ref h0), (1, .int (nI a1)), (2, .int (nI b1))] := hl
          have hv_32 : a1 ≤ i ∧ i ≤ (fdT (TC f z) 61 a1 b1) ∧ (∀ q9, a1 ≤ q9 → q9 < i → SML ((TC f z) q9)) ∧ F_29 h0 = .inr (9, [.ref tx, .ref y0, .ref y1, .ref y2, .int (nI nn)]) ∧ F_29 y0 = .inl (cs 16, 40, .inl e0) ∧ F_29 y1 = .inl (cs 16, 40, .inl e1) ∧ F_29 y2 = .inl (cs 16, 40, .inl e2) := hv_32
          refine W.eq (g2 := F0 m 46 ls []) rfl ?_
          have hF_34 : F_29 tx = .inr (0, [.ref rx, .int (nI z), .int 0]) := (hR tx (by rw [hT_tx]; simp)).trans hF_30
          have hF_35 : F_29 rx = .inl (cs 16, n, .inl f) := (hR rx (by rw [ht_8]; simp)).trans hF_31
          obtain ⟨hv1, hv2, hv3, hN0, hN1, hN2, hN3⟩ := id hv_32
          refine lv_iload hx hb dX9_take_46 (lv_at hl 0 rfl) ?_
          refine lv_iload_n hx hb dX9_take_48 rfl (lv_at hl 1 rfl) ?_
          refine lv_icmp_ge (tgt := 75) hx hb dX9_take_49 (by decide) (fun c_36 => ?_) (fun c_36 => ?_)
          ·
            have hi_37 : (fdT (TC f z) 61 a1 b1) ≤ i := leN (N := (fdT (TC f z) 61 a1 b1)) c_36
            have hie : (fdT (TC f z) 61 a1 b1) ≤ i := (nI_leI (by omega) (by omega)).mp c_36
            refine lv_aload_n hx hb dX9_take_75 rfl (lv_at hl 2 rfl) ?_
            refine lv_iload_n hx hb dX9_take_76 rfl (lv_at hl 3 rfl) ?_
            refine lv_iload_n hx hb dX9_take_77 rfl (lv_at hl 1 rfl) ?_
            have hFc := pg_free hD hS hA
            refine va_calli (va_runV (As := [.int (nI a1), .int (nI (fdT (TC f z) 61 a1 b1))]) (rest := []) ⟨hx, hb, hml, hown, hts⟩ (s_X9_isKnown_e l dC dI cs ty L H.size F_29 h0 ρ tx n y0 y1 y2 rx z nn f e0 e1 e2 gq a1 (fdT (TC f z) 61 a1 b1) hW hL_h0 hT_h0 hL_tx hT_tx hN0 hF_34 hF_35 hN1 hN2 hN3 (by omega) (by omega) (by omega) (hhl) (hTG) (hfl.1) (by omega) (fun i9 h1 h2 => hv3 i9 h1 (by omega))) ⟨callB_of 2 hts (gi kt_185) rfl rfl rfl (hts _ kt_164) (hts _ kt_186) (by decide +kernel) ⟨Nat.le_of_ble_eq_true rfl, Nat.le_of_ble_eq_true rfl⟩, (hts _ kt_187), (hts _ kt_188)⟩ ⟨fun a U g mk q => ⟨q.1, PT.calling q.2⟩, pg_recv hK hP hL_h0 hN0 (q := (RX9, TX9, 5)) rfl, fun U hU hWm => ⟨rfl, PT.mk hU hWm hP hK hD hE hO⟩⟩ rfl rfl hl.1 rfl (lv_room (Nat.le_of_ble_eq_true rfl)) dX9_take_78 ⟨by show _ + 0 ≤ 0; omega, by show _ + 0 ≤ 0; omega⟩) hS (fun q _ h => hFc q h) hFc (fun r_38 u t H1 locs ht hvm hw hB hz1 hk1 hS => ?_)
            obtain ⟨F_39, hB1⟩ := hB
            obtain rfl : F_29 = F_39 := (funext (fun a => hB1.2.2.2 a List.not_mem_nil)).symm
            obtain ⟨hP, hD, hO, hR⟩ := QT.back hB1 ht hFc hR (fun q h => absurd h List.not_mem_nil)
            generalize H1 = H at hP hS ⊢
            have hw : (r_38 = 1 ∧ KNW (TC f z) gq nn a1 (fdT (TC f z) 61 a1 b1)) ∨ (r_38 = 0 ∧ ¬ KNW (TC f z) gq nn a1 (fdT (TC f z) 61 a1 b1)) := hw
            have hw_40 := hw
            refine lv_if_eq (tgt := 86) hx hb dX9_take_81 (by decide) (fun c_41 => ?_) (fun c_41 => ?_)
            ·
              refine lv_aload_n hx hb dX9_take_86 rfl (lv_at hl 2 rfl) ?_
              refine pg_get (ci := 9) (v := .ref y0) (C := RX9) (T := TX9) (N := 5) hx hb hts it_9 hown hK hP hL_h0 hN0 rfl 1 (by decide) (hts _ kt_160) (fun _ h9 => h9) rfl dX9_take_87 ?_
              refine lv_aload_n hx hb dX9_take_90 rfl (lv_at hl 2 rfl) ?_
              refine pg_get (ci := 9) (v := .int (nI nn)) (C := RX9) (T := TX9) (N := 5) hx hb hts it_9 hown hK hP hL_h0 hN0 rfl 4 (by decide) (hts _ kt_158) (fun _ h9 => h9) rfl dX9_take_91 ?_
              refine lv_iload_n hx hb dX9_take_94 rfl (lv_at hl 3 rfl) ?_
              refine pg_iast hx hb hK hP hD hS hi_1 0 hN1 rfl (vp_in_nI (by omega) (by omega)) dX9_take_95 (fun H locs hP hD hS => ?_)
              obtain ⟨F_42, he_43, hP, hD, hO, hR⟩ : ∃ G, G = va_up F_29 y0 (.inl (cs 16, 40, .inl (upd e0 ((nI nn)).toNatClampNeg ((nI a1))))) ∧ va_P (dC, dI) vwCl (va_pl L G) H ∧ va_D A (va_pl L G) ∧ OK cs ty L G ∧ FR ty [ρ, ρ + 70, ρ + 71] F G := ⟨_, rfl, hP, hD, hO.up (sh.idx ht_4 ⟨_, rfl, ix_upd hq_10 _ _ (by omega)⟩), hR.up ht_4 (by simp)⟩
              have hF_44 : F_42 y0 = .inl (cs 16, 40, .inl (upd e0 ((nI nn)).toNatClampNeg ((nI a1)))) := by rw [he_43]; exact up_self
              have hF_45 : F_42 tx = .inr (0, [.ref rx, .int (nI z), .int 0]) := by rw [he_43, up_ne (ne_ty hT_tx ht_4 (by simp))]; exact hF_34
              have hF_46 : F_42 rx = .inl (cs 16, n, .inl f) := by rw [he_43, up_ne (ne_ty ht_8 ht_4 (by simp))]; exact hF_35
              have hF_47 : F_42 h0 = .inr (9, [.ref tx, .ref y0, .ref y1, .ref y2, .int (nI nn)]) := by rw [he_43, up_ne (ne_ty hT_h0 ht_4 (by simp))]; exact hN0
              have hF_48 : F_42 y1 = .inl (cs 16, 40, .inl e1) := by rw [he_43, up_ne (ne_ty3 ht_5 ht_4 (by show ρ + 70 ≠ ρ; omega))]; exact hN2
              have hF_49 : F_42 y2 = .inl (cs 16, 40, .inl e2) := by rw [he_43, up_ne (ne_ty3 ht_6 ht_4 (by show ρ + 71 ≠ ρ; omega))]; exact hN3
              obtain ⟨f_50, hF_44, hq_51, hfe_52⟩ : ∃ f : Nat → Int32, F_42 y0 = .inl (cs 16, 40, .inl f) ∧ IX f ∧ f = upd e0 ((nI nn)).toNatClampNeg ((nI a1)) := ⟨_, hF_44, ix_upd hq_10 _ _ (by omega), rfl⟩
              refine lv_aload_n hx hb dX9_take_96 rfl (lv_at hl 2 rfl) ?_
              refine pg_get (ci := 9) (v := .ref y1) (C := RX9) (T := TX9) (N := 5) hx hb hts it_9 hown hK hP hL_h0 hF_47 rfl 2 (by decide) (hts _ kt_161) (fun _ h9 => h9) rfl dX9_take_97 ?_
              refine lv_aload_n hx hb dX9_take_100 rfl (lv_at hl 2 rfl) ?_
              refine pg_get (ci := 9) (v := .int (nI nn)) (C := RX9) (T := TX9) (N := 5) hx hb hts it_9 hown hK hP hL_h0 hF_47 rfl 4 (by decide) (hts _ kt_158) (fun _ h9 => h9) rfl dX9_take_101 ?_
              refine lv_iload_n hx hb dX9_take_104 rfl (lv_at hl 1 rfl) ?_
              refine pg_iast hx hb hK hP hD hS hi_2 0 hF_48 rfl (vp_in_nI (by omega) (by omega)) dX9_take_105 (fun H locs hP hD hS => ?_)
              obtain ⟨F_53, he_54, hP, hD, hO, hR⟩ : ∃ G, G = va_up F_42 y1 (.inl (cs 16, 40, .inl (upd e1 ((nI nn)).toNatClampNeg ((nI (fdT (TC f z) 61 a1 b1)))))) ∧ va_P (dC, dI) vwCl (va_pl L G) H ∧ va_D A (va_pl L G) ∧ OK cs ty L G ∧ FR ty [ρ, ρ + 70, ρ + 71] F G := ⟨_, rfl, hP, hD, hO.up (sh.idx ht_5 ⟨_, rfl, ix_upd hq_11 _ _ (by omega)⟩), hR.up ht_5 (by simp)⟩
              have hF_55 : F_53 y1 = .inl (cs 16, 40, .inl (upd e1 ((nI nn)).toNatClampNeg ((nI (fdT (TC f z) 61 a1 b1))))) := by rw [he_54]; exact up_self
              have hF_56 : F_53 y0 = .inl (cs 16, 40, .inl f_50) := by rw [he_54, up_ne (ne_ty3 ht_4 ht_5 (by show ρ ≠ ρ + 70; omega))]; exact hF_44
              have hF_57 : F_53 tx = .inr (0, [.ref rx, .int (nI z), .int 0]) := by rw [he_54, up_ne (ne_ty hT_tx ht_5 (by simp))]; exact hF_45
              have hF_58 : F_53 rx = .inl (cs 16, n, .inl f) := by rw [he_54, up_ne (ne_ty ht_8 ht_5 (by simp))]; exact hF_46
              have hF_59 : F_53 h0 = .inr (9, [.ref tx, .ref y0, .ref y1, .ref y2, .int (nI nn)]) := by rw [he_54, up_ne (ne_ty hT_h0 ht_5 (by simp))]; exact hF_47
              have hF_60 : F_53 y2 = .inl (cs 16, 40, .inl e2) := by rw [he_54, up_ne (ne_ty3 ht_6 ht_5 (by show ρ + 71 ≠ ρ + 70; omega))]; exact hF_49
              obtain ⟨f_61, hF_55, hq_62, hfe_63⟩ : ∃ f9 : Nat → Int32, F_53 y1 = .inl (cs 16, 40, .inl f9) ∧ IX f9 ∧ f9 = upd e1 ((nI nn)).toNatClampNeg ((nI (fdT (TC f z) 61 a1 b1))) := ⟨_, hF_55, ix_upd hq_11 _ _ (by omega), rfl⟩
              refine lv_aload_n hx hb dX9_take_106 rfl (lv_at hl 2 rfl) ?_
              refine pg_get (ci := 9) (v := .ref y2) (C := RX9) (T := TX9) (N := 5) hx hb hts it_9 hown hK hP hL_h0 hF_59 rfl 3 (by decide) (hts _ kt_168) (fun _ h9 => h9) rfl dX9_take_107 ?_
              refine lv_aload_n hx hb dX9_take_110 rfl (lv_at hl 2 rfl) ?_
              refine pg_get (ci := 9) (v := .int (nI nn)) (C := RX9) (T := TX9) (N := 5) hx hb hts it_9 hown hK hP hL_h0 hF_59 rfl 4 (by decide) (hts _ kt_158) (fun _ h9 => h9) rfl dX9_take_111 ?_
              refine lv_iload_n hx hb dX9_take_114 rfl (lv_at hl 4 rfl) ?_
              refine pg_iast hx hb hK hP hD hS hi_3 0 hF_60 rfl (vp_in_nI (by omega) (by omega)) dX9_take_115 (fun H locs hP hD hS => ?_)
              obtain ⟨F_64, he_65, hP, hD, hO, hR⟩ : ∃ G, G = va_up F_53 y2 (.inl (cs 16, 40, .inl (upd e2 ((nI nn)).toNatClampNeg ((nI b1))))) ∧ va_P (dC, dI) vwCl (va_pl L G) H ∧ va_D A (va_pl L G) ∧ OK cs ty L G ∧ FR ty [ρ, ρ + 70, ρ + 71] F G := ⟨_, rfl, hP, hD, hO.up (sh.idx ht_6 ⟨_, rfl, ix_upd hq_12 _ _ (by omega)⟩), hR.up ht_6 (by simp)⟩
              have hF_66 : F_64 y2 = .inl (cs 16, 40, .inl (upd e2 ((nI nn)).toNatClampNeg ((nI b1)))) := by rw [he_65]; exact up_self
              have hF_67 : F_64 y1 = .inl (cs 16, 40, .inl f_61) := by rw [he_65, up_ne (ne_ty3 ht_5 ht_6 (by show ρ + 70 ≠ ρ + 71; omega))]; exact hF_55
              have hF_68 : F_64 y0 = .inl (cs 16, 40, .inl f_50) := by rw [he_65, up_ne (ne_ty3 ht_4 ht_6 (by show ρ ≠ ρ + 71; omega))]; exact hF_56
              have hF_69 : F_64 tx = .inr (0, [.ref rx, .int (nI z), .int 0]) := by rw [he_65, up_ne (ne_ty hT_tx ht_6 (by simp))]; exact hF_57
              have hF_70 : F_64 rx = .inl (cs 16, n, .inl f) := by rw [he_65, up_ne (ne_ty ht_8 ht_6 (by simp))]; exact hF_58
              have hF_71 : F_64 h0 = .inr (9, [.ref tx, .ref y0, .ref y1, .ref y2, .int (nI nn)]) := by rw [he_65, up_ne (ne_ty hT_h0 ht_6 (by simp))]; exact hF_59
              obtain ⟨f_72, hF_66, hq_73, hfe_74⟩ : ∃ f : Nat → Int32, F_64 y2 = .inl (cs 16, 40, .inl f) ∧ IX f ∧ f = upd e2 ((nI nn)).toNatClampNeg ((nI b1)) := ⟨_, hF_66, ix_upd hq_12 _ _ (by omega), rfl⟩
              refine lv_aload_n hx hb dX9_take_116 rfl (lv_at hl 2 rfl) ?_
              refine lv_dup hx hb dX9_take_117 rfl ?_
              refine pg_get (ci := 9) (v := .int (nI nn)) (C := RX9) (T := TX9) (N := 5) hx hb hts it_9 hown hK hP hL_h0 hF_71 rfl 4 (by decide) (hts _ kt_158) (fun _ h9 => h9) rfl dX9_take_118 ?_
              refine lv_iconst (v := 1) hx hb dX9_take_121 (by decide) ?_
              refine lv_iadd hx hb dX9_take_122 ?_
              refine lv_topi (fun x_75 ex_75 => ?_)
              obtain rfl : x_75 = (nI (nn + 1)) := ex_75.trans (nI_1 _)
              refine pg_put (ci := 9) (v := .int (nI (nn + 1))) (ty := .int) (C := RX9) (T := TX9) (N := 5) hx hb hts it_9 tyX9 tyX9_ok nmX9 hown hK hP hD hS hL_h0 hF_71 rfl 4 (by decide) (hts _ kt_158) (fun _ h9 => h9) rfl (by decide +kernel) (rfl) (rfl) (Nat.le_of_ble_eq_true rfl) dX9_take_123 (fun H locs hP hD hS => ?_)
              obtain ⟨F_76, he_77, hP, hD, hO, hR⟩ : ∃ G, G = va_up F_64 h0 (.inr (9, [.ref tx, .ref y0, .ref y1, .ref y2, .int (nI (nn + 1))])) ∧ va_P (dC, dI) vwCl (va_pl L G) H ∧ va_D A (va_pl L G) ∧ OK cs ty L G ∧ FR ty [ρ, ρ + 70, ρ + 71] F G := ⟨_, rfl, hP, hD, hO.up (sh.tags hT_h0 ⟨(nn + 1), rfl, (by first | omega | assumption | exact Or.inl rfl | exact Or.inr rfl)⟩), hR.up hT_h0 (by simp)⟩
              have hF_78 : F_76 h0 = .inr (9, [.ref tx, .ref y0, .ref y1, .ref y2, .int (nI (nn + 1))]) := by rw [he_77]; exact up_self
              have hF_79 : F_76 y2 = .inl (cs 16, 40, .inl f_72) := by rw [he_77, up_ne (ne_ty ht_6 hT_h0 (by simp))]; exact hF_66
              have hF_80 : F_76 y1 = .inl (cs 16, 40, .inl f_61) := by rw [he_77, up_ne (ne_ty ht_5 hT_h0 (by simp))]; exact hF_67
              have hF_81 : F_76 y0 = .inl (cs 16, 40, .inl f_50) := by rw [he_77, up_ne (ne_ty ht_4 hT_h0 (by simp))]; exact hF_68
              have hF_82 : F_76 tx = .inr (0, [.ref rx, .int (nI z), .int 0]) := by rw [he_77, up_ne (ne_ty hT_tx hT_h0 (by simp))]; exact hF_69
              have hF_83 : F_76 rx = .inl (cs 16, n, .inl f) := by rw [he_77, up_ne (ne_ty ht_8 hT_h0 (by simp))]; exact hF_70
              refine lv_iconst (v := 1) hx hb dX9_take_126 (by decide) ?_
              refine W.widen (k := 0) (n := 0) (by omega) (by omega) ?_
              exact W.zret (v := 1) (ty := .boolean) hx hb hr (by decide) (fun t ht hWm => ⟨⟨1, (nn + 1, gpt gq nn a1 (fdT (TC f z) 61 a1 b1) b1), rfl, (Or.inl ⟨rfl, ⟨hc40, by omega, by omega, by omega, fun i9 h1 h2 => hv3 i9 h1 (by omega), orp0 hw_40 c_41⟩, rfl⟩), ⟨F_76, f_50, f_61, f_72, QT.mk ht hP hD hO hR, hF_78, hF_81, hF_80, hF_79, (by rw [hfe_52, hfe_63, hfe_74, nI_clamp (by omega)]; exact hhl.add)⟩⟩, hS.F ht⟩) hS.2.2 dX9_take_127
            ·
              refine lv_iconst (v := 0) hx hb dX9_take_84 (by decide) ?_
              refine W.widen (k := 0) (n := 0) (by omega) (by omega) ?_
              exact W.zret (v := 0) (ty := .boolean) hx hb hr (by decide) (fun t ht hWm => ⟨⟨0, (nn, gq), rfl, (Or.inr ⟨rfl, fun q => q.2.2.2.2.2 (orp1 hw_40 c_41), rfl⟩), ⟨F_29, e0, e1, e2, QT.mk ht hP hD hO hR, hN0, hN1, hN2, hN3, hhl⟩⟩, hS.F ht⟩) hS.2.2 dX9_take_85
          ·
            have hi_84 : i < (fdT (TC f z) 61 a1 b1) := ltN (N := (fdT (TC f z) 61 a1 b1)) c_36
            have hie : i < (fdT (TC f z) 61 a1 b1) := Nat.not_le.mp (fun q => c_36 ((nI_leI (by omega) (by omega)).mpr q))
            refine lv_aload_n hx hb dX9_take_52 rfl (lv_at hl 2 rfl) ?_
            refine pg_get (ci := 9) (v := .ref tx) (C := RX9) (T := TX9) (N := 5) hx hb hts it_9 hown hK hP hL_h0 hN0 rfl 0 (by decide) (hts _ kt_159) (fun _ h9 => h9) rfl dX9_take_53 ?_
            refine lv_iload hx hb dX9_take_56 (lv_at hl 0 rfl) ?_
            have hFc := pg_free hD hS hA
            refine va_calli (va_runV (As := [.int (nI i)]) (rest := []) ⟨hx, hb, hml, hown, hts⟩ (s_X0_at_e l dC dI cs ty L H.size F_29 tx (ρ + 1) rx n z i f hW hL_tx hT_tx hF_34 hF_35 (by omega) (by omega) (by omega)) ⟨callB_of 1 hts (gi kt_21) rfl rfl rfl (hts _ kt_1) (hts _ kt_183) (by decide +kernel) ⟨Nat.le_of_ble_eq_true rfl, Nat.le_of_ble_eq_true rfl⟩, (hts _ kt_23), (hts _ kt_24)⟩ ⟨fun a U g mk q => ⟨q.1, PT.calling q.2⟩, pg_recv hK hP hL_tx hF_34 (q := (RX0, TX0, 3)) rfl, fun U hU hWm => ⟨rfl, PT.mk hU hWm hP hK hD hE hO⟩⟩ rfl rfl hl.1 rfl (lv_room (Nat.le_of_ble_eq_true rfl)) dX9_take_58 ⟨by show _ + 0 ≤ 0; omega, by show _ + 0 ≤ 0; omega⟩) hS (fun q _ h => hFc q h) hFc (fun r_85 u t H1 locs ht hvm hw hB hz1 hk1 hS => ?_)
            obtain ⟨F_86, hB1⟩ := hB
            obtain rfl : F_29 = F_86 := (funext (fun a => hB1.2.2.2 a List.not_mem_nil)).symm
            obtain ⟨hP, hD, hO, hR⟩ := QT.back hB1 ht hFc hR (fun q h => absurd h List.not_mem_nil)
            generalize H1 = H at hP hS ⊢
            have hw : r_85 = f i := hw
            have hw_87 := hw
            subst hw_87
            have hFc := pg_free hD hS hA
            refine va_calli (va_runS (As := [.int (f i)]) (rest := []) ⟨hx, hb, hml, hown, hts⟩ (s_X0_isSmall_e l dC dI cs ty L H.size F_29 (f i) hW ) ⟨callB_of 1 hts (gi kt_4) rfl rfl rfl (hts _ kt_1) (hts _ kt_189) (by decide +kernel) ⟨Nat.le_of_ble_eq_true rfl, Nat.le_of_ble_eq_true rfl⟩, (hts _ kt_6)⟩ ⟨fun a U g mk q => ⟨q.1, PT.calling q.2⟩, fun U hU hWm => ⟨rfl, PT.mk hU hWm hP hK hD hE hO⟩⟩ rfl rfl hl.1 rfl (lv_room (Nat.le_of_ble_eq_true rfl)) dX9_take_61 ⟨by show _ + 0 ≤ 0; omega, by show _ + 0 ≤ 0; omega⟩) hS (fun q _ h => hFc q h) hFc (fun r_88 u t H1 locs ht hvm hw hB hz1 hk1 hS => ?_)
            obtain ⟨F_89, hB1⟩ := hB
            obtain rfl : F_29 = F_89 := (funext (fun a => hB1.2.2.2 a List.not_mem_nil)).symm
            obtain ⟨hP, hD, hO, hR⟩ := QT.back hB1 ht hFc hR (fun q h => absurd h List.not_mem_nil)
            generalize H1 = H at hP hS ⊢
            have hw : r_88 = (if 97 ≤ (f i) ∧ (f i) ≤ 122 then 1 else 0) := hw
            have hw_90 := hw
            refine lv_if_ne (tgt := 69) hx hb dX9_take_64 (by decide) (fun c_91 => ?_) (fun c_91 => ?_)
            ·
              have hsi : SML ((TC f z) i) := by rw [tcn_in (show i < z by omega)]; exact sms_d hw_90 c_91
              refine lv_iinc (v := (nI (i + 1))) (lv' := [(4, .int (nI (i + 1))), (3, .int (nI (fdT (TC f z) 61 a1 b1))), (0, .ref h0), (1, .int (nI a1)), (2, .int (nI b1))]) hx hb dX9_take_69 hl (k := 0) rfl (nI_1 _) (by decide) rfl (fun ls hl => ?_)
              refine lv_goto (tgt := 46) hx hb dX9_take_72 (by decide) ?_
              refine W.widen (k := 0) (n := 0) (by omega) (by omega) ?_
              exact ih_33 (i + 1) F_29 (⟨by omega, by omega, fun q9 h1 h2 => by rcases Nat.lt_or_ge q9 i with w9 | w9; exact hv3 q9 h1 w9; rw [show q9 = i by omega]; exact hsi, hN0, hN1, hN2, hN3⟩) (by show (fdT (TC f z) 61 a1 b1) - (i + 1) < (fdT (TC f z) 61 a1 b1) - i; omega) hO hR _ _ hP hD hS ls (lv_sub hl [0, 1, 2, 3, 4] rfl)
            ·
              have hsi : ¬ SML ((TC f z) i) := by rw [tcn_in (show i < z by omega)]; exact sms_n hw_90 c_91
              refine lv_iconst (v := 0) hx hb dX9_take_67 (by decide) ?_
              refine W.widen (k := 0) (n := 0) (by omega) (by omega) ?_
              exact W.zret (v := 0) (ty := .boolean) hx hb hr (by decide) (fun t ht hWm => ⟨⟨0, (nn, gq), rfl, (Or.inr ⟨rfl, fun q => hsi (q.2.2.2.2.1 i (by omega) hie), rfl⟩), ⟨F_29, e0, e1, e2, QT.mk ht hP hD hO hR, hN0, hN1, hN2, hN3, hhl⟩⟩, hS.F ht⟩) hS.2.2 dX9_take_68
        ·
          have hk8 : 8 < (fdT (TC f z) 61 a1 b1) - a1 := Nat.not_le.mp (fun q => c_27 ((nI_leI (b := 8) (by omega) (by omega)).mpr q))
          refine lv_iconst (v := 0) hx hb dX9_take_41 (by decide) ?_
          refine W.widen (k := 0) (n := 0) (by omega) (by omega) ?_
          exact W.zret (v := 0) (ty := .boolean) hx hb hr (by decide) (fun t ht hWm => ⟨⟨0, (nn, gq), rfl, (Or.inr ⟨rfl, fun q => absurd q.2.2.2.1 (by omega), rfl⟩), ⟨F, e0, e1, e2, QT.mk ht hP hD hO hR, hF0, hFy0, hFy1, hFy2, hhl⟩⟩, hS.F ht⟩) hS.2.2 dX9_take_42
set_option maxHeartbeats 4000000 in
set_option maxRecDepth 100000 in
theorem s_X9_read_e (l : Launch) (dC : Nat → ClassId) (dI : Nat → Nat → Nat) (cs : Nat → ClassId) (ty : TyM) (L : List Nat) (sz : Nat) (F : Nat → va_E) (h0 : Nat) (ρ : Nat) (tx : Nat) (n : Nat) (y0 : Nat) (y1 : Nat) (y2 : Nat) (g1 : Nat) (σ : Nat) (r1 : Nat) (n1 : Nat) (rx : Nat) (z : Nat) (a : Nat) (b : Nat) (f : Nat → Int32) (hW : WT ty L) (hL_h0 : h0 ∈ L) (hT_h0 : ty h0 = (9, ρ, [tx, n, y0, y1, y2])) (hL_tx : tx ∈ L) (hT_tx : ty tx = (0, ρ + 1, [rx, n])) (hL_g1 : g1 ∈ L) (hT_g1 : ty g1 = (0, σ, [r1, n1])) (hFg : F g1 = .inr (0, [.ref r1, .int (nI z), .int 0])) (hFr : F r1 = .inl (cs 16, n1, .inl f)) (hzn : z ≤ n1) (hn9 : n1 ≤ 10000) (hab : a ≤ b) (hbz : b ≤ z) (hfit : b - a ≤ n) (hm9 : n ≤ 10000) (hs0 : σ ≠ ρ) (hs1 : σ ≠ ρ + 1) (hs2 : σ ≠ ρ + 70) (hs3 : σ ≠ ρ + 71) : Met l yX9_read (.code yX9_read cX9_read 7 (some .boolean) :: tb) ({ frames := 3, cells := 0, slots := 0, locals := 70 }) (va_Pc [.ref h0, .ref g1, .int (nI a), .int (nI b)] (PT (dC, dI) cs ty L F sz)) (va_Qi (fun (r : Int32) (gg : TGG) => TGX (flT (TC f z) a (b - a)) (flI (TC f z) a (b - a)).length r gg) (fun (gg : TGG) T9 => ∃ F2 : Nat → va_E, ∃ p0 : Nat → Int32, ∃ p1 : Nat → Int32, ∃ p2 : Nat → Int32, ∃ fc : Nat → Int32, QT (dC, dI) cs ty L [ρ, ρ + 1, ρ + 70, ρ + 71] F F2 (va_A (va_pl L F) sz) T9 ∧ F2 h0 = .inr (9, [.ref tx, .ref y0, .ref y1, .ref y2, .int (nI gg.1)]) ∧ F2 tx = .inr (0, [.ref rx, .int (nI (flI (TC f z) a (b - a)).length), .int 0]) ∧ F2 rx = .inl (cs 16, n, .inl fc) ∧ F2 y0 = .inl (cs 16, 40, .inl p0) ∧ F2 y1 = .inl (cs 16, 40, .inl p1) ∧ F2 y2 = .inl (cs 16, 40, .inl p2) ∧ TC fc (flI (TC f z) a (b - a)).length = (flT (TC f z) a (b - a)) ∧ HLD p0 p1 p2 gg.1 gg.2 ∧ (TGI (flI (TC f z) a (b - a)).length gg.1 gg.2 ∧ gg.1 ≤ 40 ∧ (flI (TC f z) a (b - a)).length ≤ n)) (va_A (va_pl L F) sz)) 0 0 (va_A (va_pl L F) sz) := by
  refine Met.ofW (cc := cX9_read) (maxL := 7) (ret := (some .boolean)) (by decide) rfl ?_
  intro p e s m args below meth c s₁ B hml hv
  obtain ⟨rfl, hsz, hP, hK, hD0, hE, hO⟩ := hv
  have hx := B.exec
  have hb := B.bytes
  have hr := B.returns
  have hts : ∀ w ∈ tb, w.before _ s = true := fun w h => atoms_spec (ws := .code yX9_read cX9_read 7 (some .boolean) :: tb) B.pre w (List.mem_cons_of_mem _ h)
  have hown : s.vm.findClass RX9 = some m.cls := findClass_of_methodNamed B.named
  have hlocks := B.notSynchronized
  subst hsz
  have hD := hD0.self (sz := s.heap.size)
  generalize hAe : va_A (va_pl L F) s.heap.size = A at hD ⊢
  have hA : ∀ q : Nat, s.heap.size ≤ q → A q := fun q h => by rw [← hAe]; exact Or.inr h
  have hS : va_S A s.heap s.heap [] := va_S.rf
  have hR : FR ty [ρ, ρ + 1, ρ + 70, ρ + 71] F F := FR.refl
  have hl := lv_entry ([.ref h0, .ref g1, .int (nI a), .int (nI b)]) (n := 7) (Nat.le_of_ble_eq_true rfl)
  rw [lg_entry_eq]
  generalize (lg_sl ([.ref h0, .ref g1, .int (nI a), .int (nI b)]) ++ List.replicate (7 - (lg_sl ([.ref h0, .ref g1, .int (nI a), .int (nI b)])).length) Slot.unset).toArray = ls at hl ⊢
  have hl : lv_has ls 7 [(0, .ref h0), (1, .ref g1), (2, .int (nI a)), (3, .int (nI b))] := hl
  obtain ⟨_, hi_1, hi_2, hi_3, _, ht_4, ht_5, ht_6⟩ := hW.tags hL_h0 hT_h0
  obtain ⟨hi_7, ht_8, hq_9⟩ := hW.bytes hL_tx hT_tx
  obtain ⟨hi_10, ht_11, hq_12⟩ := hW.bytes hL_g1 hT_g1
  refine lv_aload_n hx hb dX9_read_0 rfl (lv_at hl 0 rfl) ?_
  obtain ⟨z_13, hF_14, hq_15⟩ := hO.tags hL_h0 hT_h0
  refine pg_get (ci := 9) (v := .ref tx) (C := RX9) (T := TX9) (N := 5) hx hb hts it_9 hown hK hP hL_h0 hF_14 rfl 0 (by decide) (hts _ kt_159) (fun _ h9 => h9) rfl dX9_read_1 ?_
  have hFc := pg_free hD hS hA
  obtain ⟨z_16, o_17, hF_18, hq_19, hq_20⟩ := hO.bytes hL_tx hT_tx
  refine va_callv (va_runV (As := []) (rest := []) ⟨hx, hb, hml, hown, hts⟩ (s_X0_clear l dC dI cs ty L s.heap.size F tx (ρ + 1) rx n hW hL_tx hT_tx) ⟨callB_of 0 hts (gi kt_32) rfl rfl rfl (hts _ kt_1) (hts _ kt_190) (by decide +kernel) ⟨Nat.le_of_ble_eq_true rfl, Nat.le_of_ble_eq_true rfl⟩, (hts _ kt_34), (hts _ kt_35)⟩ ⟨fun a U g mk q => ⟨q.1, PT.calling q.2⟩, pg_recv hK hP hL_tx hF_18 (q := (RX0, TX0, 3)) rfl, fun U hU hWm => ⟨rfl, PT.mk hU hWm hP hK hD hE hO⟩⟩ rfl rfl hl.1 rfl (lv_room (Nat.le_of_ble_eq_true rfl)) dX9_read_4 ⟨by show _ + 0 ≤ 0; omega, by show _ + 0 ≤ 0; omega⟩) hS (fun q _ h => hFc q h) hFc (fun u t H1 locs ht hvm hw hB hz1 hk1 hS => ?_)
  obtain ⟨F_22, hB1, hq_23⟩ := hB
  obtain ⟨hP, hD, hO, hR⟩ := QT.back hB1 ht hFc hR (fun q h => by simp only [List.mem_cons, List.not_mem_nil, or_false] at h ⊢; omega)
  have hF_24 : F_22 g1 = .inr (0, [.ref r1, .int (nI z), .int 0]) := (hB1.2.2.2 g1 (by rw [hT_g1]; simp only [List.mem_cons, List.not_mem_nil, or_false]; omega)).trans hFg
  have hF_25 : F_22 r1 = .inl (cs 16, n1, .inl f) := (hB1.2.2.2 r1 (by rw [ht_11]; simp only [List.mem_cons, List.not_mem_nil, or_false]; omega)).trans hFr
  have hF_26 : F_22 h0 = .inr (9, [.ref tx, .ref y0, .ref y1, .ref y2, .int (nI z_13)]) := (hB1.2.2.2 h0 (by rw [hT_h0]; simp)).trans hF_14
  generalize H1 = H at hP hS ⊢
  refine lv_iload_n hx hb dX9_read_7 rfl (lv_at hl 2 rfl) ?_
  refine lv_istore (lv' := [(4, .int (nI a)), (0, .ref h0), (1, .ref g1), (2, .int (nI a)), (3, .int (nI b))]) hx hb dX9_read_8 hl (by decide) rfl (fun ls hl => ?_)
  obtain ⟨f_27, hF_28⟩ := hO.ints hi_7 ht_8
  refine W.widen (k := 0) (n := 0) (by omega) (by omega) ?_
  have hF_30 : F g1 = .inr (0, [.ref r1, .int (nI z), .int 0]) := (hR g1 (by rw [hT_g1]; simp only [List.mem_cons, List.not_mem_nil, or_false]; omega)).symm.trans hF_24
  have hF_31 : F r1 = .inl (cs 16, n1, .inl f) := (hR r1 (by rw [ht_11]; simp only [List.mem_cons, List.not_mem_nil, or_false]; omega)).symm.trans hF_25
  refine pl_loop (σ := Nat × Nat × (Nat → Int32)) A (dC, dI) cs ty L [ρ, ρ + 1, ρ + 70, ρ + 71] F 10 7 (fun (i, yy, fq) => [(4, .int (nI i)), (0, .ref h0), (1, .ref g1), (2, .int (nI a)), (3, .int (nI b))]) (fun (i, yy, fq) => []) (fun (i, yy, fq) FF => a ≤ i ∧ i ≤ b ∧ FF tx = .inr (0, [.ref rx, .int (nI yy), .int 0]) ∧ FF rx = .inl (cs 16, n, .inl fq) ∧ FLA f (flI (TC f z) a (i - a)) yy fq) (fun (i, yy, fq) => b - i) ?_ (a, 0, f_27) F_22 (⟨Nat.le_refl _, hab, hq_23, hF_28, by rw [Nat.sub_self]; exact FLA.nil⟩) hO hR _ _ hP hD hS ls (lv_sub hl [0, 1, 2, 3, 4] rfl)
  rintro ⟨i, yy, fq⟩ F_29 hv_32 hO hR ih_33 H locs hP hD hS ls hl
  have hl : lv_has ls 7 [(4, .int (nI i)), (0, .ref h0), (1, .ref g1), (2, .int (nI a)), (3, .int (nI b))] := hl
  have hv_32 : a ≤ i ∧ i ≤ b ∧ F_29 tx = .inr (0, [.ref rx, .int (nI yy), .int 0]) ∧ F_29 rx = .inl (cs 16, n, .inl fq) ∧ FLA f (flI (TC f z) a (i - a)) yy fq := hv_32
  refine W.eq (g2 := F0 m 10 ls []) rfl ?_
  have hF_34 : F_29 g1 = .inr (0, [.ref r1, .int (nI z), .int 0]) := (hR g1 (by rw [hT_g1]; simp only [List.mem_cons, List.not_mem_nil, or_false]; omega)).trans hF_30
  have hF_35 : F_29 r1 = .inl (cs 16, n1, .inl f) := (hR r1 (by rw [ht_11]; simp only [List.mem_cons, List.not_mem_nil, or_false]; omega)).trans hF_31
  obtain ⟨hu1, hu2, hu3, hu4, hu5⟩ := id hv_32
  have hyl := flI_len (T := TC f z) (a := a) (i - a)
  have hyy := hu5.1
  refine lv_iload hx hb dX9_read_10 (lv_at hl 0 rfl) ?_
  refine lv_iload_n hx hb dX9_read_12 rfl (lv_at hl 4 rfl) ?_
  refine lv_icmp_ge (tgt := 54) hx hb dX9_read_13 (by decide) (fun c_36 => ?_) (fun c_36 => ?_)
  ·
    have hi_37 : b ≤ i := leN (N := b) c_36
    have hie : i = b := by have h9 : b ≤ i := (nI_leI (by omega) (by omega)).mp c_36; omega
    rw [hie] at hu5
    have hTC := fla_tc hu5 (by omega)
    have hYY := hu5.1
    obtain ⟨z_38, hF_39, hq_40⟩ := hO.tags hL_h0 hT_h0
    have hyn : yy ≤ n := by omega
    refine lv_aload_n hx hb dX9_read_54 rfl (lv_at hl 1 rfl) ?_
    refine lv_iconst (v := 0) hx hb dX9_read_55 (by decide) ?_
    refine pg_put (ci := 9) (v := .int 0) (ty := .int) (C := RX9) (T := TX9) (N := 5) hx hb hts it_9 tyX9 tyX9_ok nmX9 hown hK hP hD hS hL_h0 hF_39 rfl 4 (by decide) (hts _ kt_158) (fun _ h9 => h9) rfl (by decide +kernel) (rfl) (rfl) (Nat.le_of_ble_eq_true rfl) dX9_read_56 (fun H locs hP hD hS => ?_)
    obtain ⟨F_41, he_42, hP, hD, hO, hR⟩ : ∃ G, G = va_up F_29 h0 (.inr (9, [.ref tx, .ref y0, .ref y1, .ref y2, .int 0])) ∧ va_P (dC, dI) vwCl (va_pl L G) H ∧ va_D A (va_pl L G) ∧ OK cs ty L G ∧ FR ty [ρ, ρ + 1, ρ + 70, ρ + 71] F G := ⟨_, rfl, hP, hD, hO.up (sh.tags hT_h0 ⟨0, rfl, (by first | omega | assumption | exact Or.inl rfl | exact Or.inr rfl)⟩), hR.up hT_h0 (by simp)⟩
    have hF_43 : F_41 h0 = .inr (9, [.ref tx, .ref y0, .ref y1, .ref y2, .int 0]) := by rw [he_42]; exact up_self
    have hF_44 : F_41 g1 = .inr (0, [.ref r1, .int (nI z), .int 0]) := by rw [he_42, up_ne (ne_ty hT_g1 hT_h0 (by simp))]; exact hF_34
    have hF_45 : F_41 r1 = .inl (cs 16, n1, .inl f) := by rw [he_42, up_ne (ne_ty ht_11 hT_h0 (by simp))]; exact hF_35
    have hF_46 : F_41 tx = .inr (0, [.ref rx, .int (nI yy), .int 0]) := by rw [he_42, up_ne (ne_ty hT_tx hT_h0 (by simp))]; exact hu3
    have hF_47 : F_41 rx = .inl (cs 16, n, .inl fq) := by rw [he_42, up_ne (ne_ty ht_8 hT_h0 (by simp))]; exact hu4
    refine lv_iconst (v := 0) hx hb dX9_read_59 (by decide) ?_
    refine lv_istore (lv' := [(4, .int 0), (0, .ref h0), (1, .ref g1), (2, .int (nI a)), (3, .int (nI b))]) hx hb dX9_read_60 hl (by decide) rfl (fun ls hl => ?_)
    refine lv_iconst (v := 0) hx hb dX9_read_62 (by decide) ?_
    refine lv_istore (lv' := [(5, .int 0), (4, .int 0), (0, .ref h0), (1, .ref g1), (2, .int (nI a)), (3, .int (nI b))]) hx hb dX9_read_63 hl (by decide) rfl (fun ls hl => ?_)
    obtain ⟨f_48, hF_49, hq_50⟩ := hO.idx hi_1 ht_4
    obtain ⟨f_51, hF_52, hq_53⟩ := hO.idx hi_2 ht_5
    obtain ⟨f_54, hF_55, hq_56⟩ := hO.idx hi_3 ht_6
    refine W.widen (k := 0) (n := 0) (by omega) (by omega) ?_
    have hF_58 : F g1 = .inr (0, [.ref r1, .int (nI z), .int 0]) := (hR g1 (by rw [hT_g1]; simp only [List.mem_cons, List.not_mem_nil, or_false]; omega)).symm.trans hF_44
    have hF_59 : F r1 = .inl (cs 16, n1, .inl f) := (hR r1 (by rw [ht_11]; simp only [List.mem_cons, List.not_mem_nil, or_false]; omega)).symm.trans hF_45
    refine pl_loop (σ := Nat × Nat × Nat × (Nat → Nat → Nat) × (Nat → Int32) × (Nat → Int32) × (Nat → Int32)) A (dC, dI) cs ty L [ρ, ρ + 1, ρ + 70, ρ + 71] F 65 7 (fun (j, w4, cn, gq, e0, e1, e2) => [(5, .int (nI j)), (4, .int (nI w4)), (0, .ref h0), (1, .ref g1), (2, .int (nI a)), (3, .int (nI b))]) (fun (j, w4, cn, gq, e0, e1, e2) => []) (fun (j, w4, cn, gq, e0, e1, e2) FF => cn ≤ 40 ∧ w4 ≤ j ∧ j ≤ yy ∧ (j < yy ∨ yy ≤ w4) ∧ (∀ i, w4 ≤ i → i < j → ¬ (TC fq yy) i = 59) ∧ tgw (TC fq yy) yy (yy - w4) w4 cn gq = tgT (TC fq yy) yy ∧ FF h0 = .inr (9, [.ref tx, .ref y0, .ref y1, .ref y2, .int (nI cn)]) ∧ FF tx = .inr (0, [.ref rx, .int (nI yy), .int 0]) ∧ FF rx = .inl (cs 16, n, .inl fq) ∧ FF y0 = .inl (cs 16, 40, .inl e0) ∧ FF y1 = .inl (cs 16, 40, .inl e1) ∧ FF y2 = .inl (cs 16, 40, .inl e2) ∧ HLD e0 e1 e2 cn gq ∧ TGI yy cn gq) (fun (j, w4, cn, gq, e0, e1, e2) => yy - j) ?_ (0, 0, 0, gz, f_48, f_51, f_54) F_41 (⟨Nat.zero_le _, Nat.le_refl _, Nat.zero_le _, by omega, fun i h1 h2 => absurd h2 (Nat.not_lt_zero _), rfl, hF_43, hF_46, hF_47, hF_49, hF_52, hF_55, HLD.nil, (fun j9 h9 => absurd h9 (Nat.not_lt_zero _))⟩) hO hR _ _ hP hD hS ls (lv_sub hl [0, 1, 2, 3, 4, 5] rfl)
    rintro ⟨j, w4, cn, gq, e0, e1, e2⟩ F_57 hv_60 hO hR ih_61 H locs hP hD hS ls hl
    have hl : lv_has ls 7 [(5, .int (nI j)), (4, .int (nI w4)), (0, .ref h0), (1, .ref g1), (2, .int (nI a)), (3, .int (nI b))] := hl
    have hv_60 : cn ≤ 40 ∧ w4 ≤ j ∧ j ≤ yy ∧ (j < yy ∨ yy ≤ w4) ∧ (∀ i, w4 ≤ i → i < j → ¬ (TC fq yy) i = 59) ∧ tgw (TC fq yy) yy (yy - w4) w4 cn gq = tgT (TC fq yy) yy ∧ F_57 h0 = .inr (9, [.ref tx, .ref y0, .ref y1, .ref y2, .int (nI cn)]) ∧ F_57 tx = .inr (0, [.ref rx, .int (nI yy), .int 0]) ∧ F_57 rx = .inl (cs 16, n, .inl fq) ∧ F_57 y0 = .inl (cs 16, 40, .inl e0) ∧ F_57 y1 = .inl (cs 16, 40, .inl e1) ∧ F_57 y2 = .inl (cs 16, 40, .inl e2) ∧ HLD e0 e1 e2 cn gq ∧ TGI yy cn gq := hv_60
    refine W.eq (g2 := F0 m 65 ls []) rfl ?_
    have hF_62 : F_57 g1 = .inr (0, [.ref r1, .int (nI z), .int 0]) := (hR g1 (by rw [hT_g1]; simp only [List.mem_cons, List.not_mem_nil, or_false]; omega)).trans hF_58
    have hF_63 : F_57 r1 = .inl (cs 16, n1, .inl f) := (hR r1 (by rw [ht_11]; simp only [List.mem_cons, List.not_mem_nil, or_false]; omega)).trans hF_59
    obtain ⟨hv1, hv2, hv3, hv4, hv5, hv6, hN0, hN1, hN2, hN3, hN4, hN5, hN6, hN7⟩ := id hv_60
    refine lv_iload hx hb dX9_read_65 (lv_at hl 0 rfl) ?_
    refine lv_aload_n hx hb dX9_read_67 rfl (lv_at hl 2 rfl) ?_
    refine pg_get (ci := 9) (v := .ref tx) (C := RX9) (T := TX9) (N := 5) hx hb hts it_9 hown hK hP hL_h0 hN0 rfl 0 (by decide) (hts _ kt_159) (fun _ h9 => h9) rfl dX9_read_68 ?_
    refine pg_getN (ci := 0) (v := .int (nI yy)) (C := RX0) (T := TX0) (N := 3) hx hb hts it_0 hown hK hP hL_tx hN1 rfl 1 (by decide) (hE.nest kn_5) (fun _ h9 => h9) rfl dX9_read_71 ?_
    refine lv_icmp_ge (tgt := 157) hx hb dX9_read_74 (by decide) (fun c_64 => ?_) (fun c_64 => ?_)
    ·
      have hi_65 : yy ≤ j := leN (N := yy) c_64
      have hjz : yy ≤ j := (nI_leI (by omega) (by omega)).mp c_64
      refine lv_iconst (v := 1) hx hb dX9_read_157 (by decide) ?_
      refine W.widen (k := 0) (n := 0) (by omega) (by omega) ?_
      exact W.zret (v := 1) (ty := .boolean) hx hb hr (by decide) (fun t ht hWm => ⟨⟨1, (cn, gq), rfl, (by have h9 := tgw_e hv6 (by omega); rw [hTC, hYY] at h9; exact Or.inl ⟨rfl, h9⟩), ⟨F_57, e0, e1, e2, fq, QT.mk ht hP hD hO hR, hN0, (by rw [← hYY]; exact hN1), hN2, hN3, hN4, hN5, (by rw [← hYY]; exact hTC), hN6, (by rw [← hYY]; exact ⟨hN7, hv1, hyn⟩)⟩⟩, hS.F ht⟩) hS.2.2 dX9_read_158
    ·
      have hi_66 : j < yy := ltN (N := yy) c_64
      have hjz : j < yy := Nat.not_le.mp (fun q => c_64 ((nI_leI (by omega) (by omega)).mpr q))
      refine lv_aload_n hx hb dX9_read_77 rfl (lv_at hl 2 rfl) ?_
      refine pg_get (ci := 9) (v := .ref tx) (C := RX9) (T := TX9) (N := 5) hx hb hts it_9 hown hK hP hL_h0 hN0 rfl 0 (by decide) (hts _ kt_159) (fun _ h9 => h9) rfl dX9_read_78 ?_
      refine lv_iload hx hb dX9_read_81 (lv_at hl 0 rfl) ?_
      have hFc := pg_free hD hS hA
      refine va_calli (va_runV (As := [.int (nI j)]) (rest := []) ⟨hx, hb, hml, hown, hts⟩ (s_X0_at_e l dC dI cs ty L H.size F_57 tx (ρ + 1) rx n yy j fq hW hL_tx hT_tx hN1 hN2 (by omega) (by omega) (by omega)) ⟨callB_of 1 hts (gi kt_21) rfl rfl rfl (hts _ kt_1) (hts _ kt_183) (by decide +kernel) ⟨Nat.le_of_ble_eq_true rfl, Nat.le_of_ble_eq_true rfl⟩, (hts _ kt_23), (hts _ kt_24)⟩ ⟨fun a U g mk q => ⟨q.1, PT.calling q.2⟩, pg_recv hK hP hL_tx hN1 (q := (RX0, TX0, 3)) rfl, fun U hU hWm => ⟨rfl, PT.mk hU hWm hP hK hD hE hO⟩⟩ rfl rfl hl.1 rfl (lv_room (Nat.le_of_ble_eq_true rfl)) dX9_read_83 ⟨by show _ + 0 ≤ 0; omega, by show _ + 0 ≤ 0; omega⟩) hS (fun q _ h => hFc q h) hFc (fun r_67 u t H1 locs ht hvm hw hB hz1 hk1 hS => ?_)
      obtain ⟨F_68, hB1⟩ := hB
      obtain rfl : F_57 = F_68 := (funext (fun a => hB1.2.2.2 a List.not_mem_nil)).symm
      obtain ⟨hP, hD, hO, hR⟩ := QT.back hB1 ht hFc hR (fun q h => absurd h List.not_mem_nil)
      generalize H1 = H at hP hS ⊢
      have hw : r_67 = fq j := hw
      have hw_69 := hw
      subst hw_69
      refine lv_bipush (v := 59) hx hb dX9_read_86 (by decide) ?_
      refine lv_icmp_ne (tgt := 95) hx hb dX9_read_88 (by decide) (fun c_70 => ?_) (fun c_70 => ?_)
      ·
        have hnc2 : ∀ i, w4 ≤ i → i < j + 1 → ¬ (TC fq yy) i = 59 := fun i h1 h2 => by rcases Nat.lt_or_ge i j with w9 | w9; exact hv5 i h1 w9; rw [show i = j by omega]; exact fun q => c_70 ((tcc hjz 59 (by omega)).mp q)
        refine lv_iconst (v := 0) hx hb dX9_read_95 (by decide) ?_
        refine lv_istore (lv' := [(6, .int 0), (5, .int (nI j)), (4, .int (nI w4)), (0, .ref h0), (1, .ref g1), (2, .int (nI a)), (3, .int (nI b))]) hx hb dX9_read_96 hl (by decide) rfl (fun ls hl => ?_)
        refine lv_iload hx hb dX9_read_98 (lv_at hl 0 rfl) ?_
        refine lv_if_ne (tgt := 120) hx hb dX9_read_100 (by decide) (fun c_71 => absurd (by decide) c_71) (fun c_71 => ?_)
        refine lv_iload hx hb dX9_read_103 (lv_at hl 1 rfl) ?_
        refine lv_iconst (v := 1) hx hb dX9_read_105 (by decide) ?_
        refine lv_iadd hx hb dX9_read_106 ?_
        refine lv_topi (fun x_72 ex_72 => ?_)
        obtain rfl : x_72 = (nI (j + 1)) := ex_72.trans (nI_1 j)
        refine lv_aload_n hx hb dX9_read_107 rfl (lv_at hl 3 rfl) ?_
        refine pg_get (ci := 9) (v := .ref tx) (C := RX9) (T := TX9) (N := 5) hx hb hts it_9 hown hK hP hL_h0 hN0 rfl 0 (by decide) (hts _ kt_159) (fun _ h9 => h9) rfl dX9_read_108 ?_
        refine pg_getN (ci := 0) (v := .int (nI yy)) (C := RX0) (T := TX0) (N := 3) hx hb hts it_0 hown hK hP hL_tx hN1 rfl 1 (by decide) (hE.nest kn_5) (fun _ h9 => h9) rfl dX9_read_111 ?_
        refine lv_icmp_ge (tgt := 120) hx hb dX9_read_114 (by decide) (fun c_73 => ?_) (fun c_73 => ?_)
        ·
          have hi_74 : yy ≤ (j + 1) := leN (N := yy) c_73
          have hje : j + 1 = yy := by have h9 : yy ≤ j + 1 := (nI_leI (by omega) (by omega)).mp c_73; omega
          refine lv_aload_n hx hb dX9_read_120 rfl (lv_at hl 3 rfl) ?_
          refine lv_iload hx hb dX9_read_121 (lv_at hl 2 rfl) ?_
          refine lv_iload hx hb dX9_read_123 (lv_at hl 0 rfl) ?_
          refine lv_if_eq (tgt := 133) hx hb dX9_read_125 (by decide) (fun c_75 => ?_) (fun c_75 => absurd (by decide) c_75)
          refine lv_iload hx hb dX9_read_133 (lv_at hl 1 rfl) ?_
          refine lv_iconst (v := 1) hx hb dX9_read_135 (by decide) ?_
          refine lv_iadd hx hb dX9_read_136 ?_
          refine lv_topi (fun x_76 ex_76 => ?_)
          obtain rfl : x_76 = (nI (j + 1)) := ex_76.trans (nI_1 j)
          have hFc := pg_free hD hS hA
          refine va_calli (va_runV (As := [.int (nI w4), .int (nI (j + 1))]) (rest := []) ⟨hx, hb, hml, hown, hts⟩ (s_X9_take_e l dC dI cs ty L H.size F_57 h0 ρ tx n y0 y1 y2 rx yy cn fq e0 e1 e2 gq w4 (j + 1) hW hL_h0 hT_h0 hL_tx hT_tx hN0 hN1 hN2 hN3 hN4 hN5 (hyn) (by omega) (hv1) (hN6) (hN7) (by omega) (by omega)) ⟨callB_of 2 hts (gi kt_191) rfl rfl rfl (hts _ kt_164) (hts _ kt_192) (by decide +kernel) ⟨Nat.le_of_ble_eq_true rfl, Nat.le_of_ble_eq_true rfl⟩, (hts _ kt_193), (hts _ kt_194)⟩ ⟨fun a U g mk q => ⟨q.1, PT.calling q.2⟩, pg_recv hK hP hL_h0 hN0 (q := (RX9, TX9, 5)) rfl, fun U hU hWm => ⟨rfl, PT.mk hU hWm hP hK hD hE hO⟩⟩ rfl rfl hl.1 rfl (lv_room (Nat.le_of_ble_eq_true rfl)) dX9_read_137 ⟨by show _ + 0 ≤ 0; omega, by show _ + 0 ≤ 0; omega⟩) hS (fun q _ h => hFc q h) hFc (fun r_78 gg_77 t H1 locs ht hvm hw hB hz1 hk1 hS => ?_)
          obtain ⟨F_79, p0_80, p1_81, p2_82, hB1, hq_83, hq_84, hq_85, hq_86, hq_87⟩ := hB
          obtain ⟨hP, hD, hO, hR⟩ := QT.back hB1 ht hFc hR (fun q h => by simp only [List.mem_cons, List.not_mem_nil, or_false] at h ⊢; omega)
          have hF_88 : F_79 g1 = .inr (0, [.ref r1, .int (nI z), .int 0]) := (hB1.2.2.2 g1 (by rw [hT_g1]; simp only [List.mem_cons, List.not_mem_nil, or_false]; omega)).trans hF_62
          have hF_89 : F_79 r1 = .inl (cs 16, n1, .inl f) := (hB1.2.2.2 r1 (by rw [ht_11]; simp only [List.mem_cons, List.not_mem_nil, or_false]; omega)).trans hF_63
          have hF_90 : F_79 tx = .inr (0, [.ref rx, .int (nI yy), .int 0]) := (hB1.2.2.2 tx (by rw [hT_tx]; simp)).trans hN1
          have hF_91 : F_79 rx = .inl (cs 16, n, .inl fq) := (hB1.2.2.2 rx (by rw [ht_8]; simp)).trans hN2
          generalize H1 = H at hP hS ⊢
          have hw : TKR (TC fq yy) w4 (j + 1) cn gq gg_77 r_78 := hw
          have hw_92 := hw
          refine lv_if_ne (tgt := 145) hx hb dX9_read_140 (by decide) (fun c_93 => ?_) (fun c_93 => ?_)
          ·
            refine lv_iload hx hb dX9_read_145 (lv_at hl 1 rfl) ?_
            refine lv_iconst (v := 1) hx hb dX9_read_147 (by decide) ?_
            refine lv_iadd hx hb dX9_read_148 ?_
            refine lv_topi (fun x_94 ex_94 => ?_)
            obtain rfl : x_94 = (nI (j + 1)) := ex_94.trans (nI_1 j)
            refine lv_istore (lv' := [(4, .int (nI (j + 1))), (6, .int 0), (5, .int (nI j)), (0, .ref h0), (1, .ref g1), (2, .int (nI a)), (3, .int (nI b))]) hx hb dX9_read_149 hl (by decide) rfl (fun ls hl => ?_)
            refine lv_iinc (v := (nI (j + 1))) (lv' := [(5, .int (nI (j + 1))), (4, .int (nI (j + 1))), (6, .int 0), (0, .ref h0), (1, .ref g1), (2, .int (nI a)), (3, .int (nI b))]) hx hb dX9_read_151 hl (k := 2) rfl (nI_1 _) (by decide) rfl (fun ls hl => ?_)
            refine lv_goto (tgt := 65) hx hb dX9_read_154 (by decide) ?_
            refine W.widen (k := 0) (n := 0) (by omega) (by omega) ?_
            exact ih_61 ((j + 1), (j + 1), gg_77.1, gg_77.2, p0_80, p1_81, p2_82) F_79 (⟨(tkr_i hw_92 hN7 hv1 (by omega)).2, Nat.le_refl _, by omega, by omega, fun i h1 h2 => absurd h2 (by omega), tkr_y hw_92 c_93 hv6 (by omega) (fd_at (by omega) (by omega) hnc2 (Or.inl hje)) (Or.inr ⟨by omega, by omega⟩), hq_83, hF_90, hF_91, hq_84, hq_85, hq_86, hq_87, (tkr_i hw_92 hN7 hv1 (by omega)).1⟩) (by show yy - (j + 1) < yy - j; omega) hO hR _ _ hP hD hS ls (lv_sub hl [0, 1, 3, 4, 5, 6] rfl)
          ·
            refine lv_iconst (v := 0) hx hb dX9_read_143 (by decide) ?_
            refine W.widen (k := 0) (n := 0) (by omega) (by omega) ?_
            exact W.zret (v := 0) (ty := .boolean) hx hb hr (by decide) (fun t ht hWm => ⟨⟨0, (gg_77.1, gg_77.2), rfl, (by have h9 := tgw_n hv6 (by omega) (fd_at (by omega) (by omega) hnc2 (Or.inl hje)) (tkr0 hw_92 c_93).1; rw [hTC, hYY] at h9; exact Or.inr ⟨rfl, h9⟩), ⟨F_79, p0_80, p1_81, p2_82, fq, QT.mk ht hP hD hO hR, hq_83, (by rw [← hYY]; exact hF_90), hF_91, hq_84, hq_85, hq_86, (by rw [← hYY]; exact hTC), hq_87, (by rw [← hYY]; exact ⟨(tkr_i hw_92 hN7 hv1 (by omega)).1, (tkr_i hw_92 hN7 hv1 (by omega)).2, hyn⟩)⟩⟩, hS.F ht⟩) hS.2.2 dX9_read_144
        ·
          have hi_95 : (j + 1) < yy := ltN (N := yy) c_73
          have hje : j + 1 < yy := Nat.not_le.mp (fun q => c_73 ((nI_leI (by omega) (by omega)).mpr q))
          refine lv_goto (tgt := 151) hx hb dX9_read_117 (by decide) ?_
          refine lv_iinc (v := (nI (j + 1))) (lv' := [(5, .int (nI (j + 1))), (6, .int 0), (4, .int (nI w4)), (0, .ref h0), (1, .ref g1), (2, .int (nI a)), (3, .int (nI b))]) hx hb dX9_read_151 hl (k := 1) rfl (nI_1 _) (by decide) rfl (fun ls hl => ?_)
          refine lv_goto (tgt := 65) hx hb dX9_read_154 (by decide) ?_
          refine W.widen (k := 0) (n := 0) (by omega) (by omega) ?_
          exact ih_61 ((j + 1), w4, cn, gq, e0, e1, e2) F_57 (⟨hv1, by omega, by omega, by omega, hnc2, hv6, hN0, hN1, hN2, hN3, hN4, hN5, hN6, hN7⟩) (by show yy - (j + 1) < yy - j; omega) hO hR _ _ hP hD hS ls (lv_sub hl [0, 2, 3, 4, 5, 6] rfl)
      ·
        have hnc := hv5
        have hce : (TC fq yy) j = 59 := (tcc hjz 59 (by omega)).mpr c_70
        refine lv_iconst (v := 1) hx hb dX9_read_91 (by decide) ?_
        refine lv_goto (tgt := 96) hx hb dX9_read_92 (by decide) ?_
        refine lv_istore (lv' := [(6, .int 1), (5, .int (nI j)), (4, .int (nI w4)), (0, .ref h0), (1, .ref g1), (2, .int (nI a)), (3, .int (nI b))]) hx hb dX9_read_96 hl (by decide) rfl (fun ls hl => ?_)
        refine lv_iload hx hb dX9_read_98 (lv_at hl 0 rfl) ?_
        refine lv_if_ne (tgt := 120) hx hb dX9_read_100 (by decide) (fun c_96 => ?_) (fun c_96 => absurd c_96 (by decide))
        refine lv_aload_n hx hb dX9_read_120 rfl (lv_at hl 3 rfl) ?_
        refine lv_iload hx hb dX9_read_121 (lv_at hl 2 rfl) ?_
        refine lv_iload hx hb dX9_read_123 (lv_at hl 0 rfl) ?_
        refine lv_if_eq (tgt := 133) hx hb dX9_read_125 (by decide) (fun c_97 => absurd c_97 (by decide)) (fun c_97 => ?_)
        refine lv_iload hx hb dX9_read_128 (lv_at hl 1 rfl) ?_
        refine lv_goto (tgt := 137) hx hb dX9_read_130 (by decide) ?_
        have hFc := pg_free hD hS hA
        refine va_calli (va_runV (As := [.int (nI w4), .int (nI j)]) (rest := []) ⟨hx, hb, hml, hown, hts⟩ (s_X9_take_e l dC dI cs ty L H.size F_57 h0 ρ tx n y0 y1 y2 rx yy cn fq e0 e1 e2 gq w4 j hW hL_h0 hT_h0 hL_tx hT_tx hN0 hN1 hN2 hN3 hN4 hN5 (hyn) (by omega) (hv1) (hN6) (hN7) (by omega) (by omega)) ⟨callB_of 2 hts (gi kt_191) rfl rfl rfl (hts _ kt_164) (hts _ kt_192) (by decide +kernel) ⟨Nat.le_of_ble_eq_true rfl, Nat.le_of_ble_eq_true rfl⟩, (hts _ kt_193), (hts _ kt_194)⟩ ⟨fun a U g mk q => ⟨q.1, PT.calling q.2⟩, pg_recv hK hP hL_h0 hN0 (q := (RX9, TX9, 5)) rfl, fun U hU hWm => ⟨rfl, PT.mk hU hWm hP hK hD hE hO⟩⟩ rfl rfl hl.1 rfl (lv_room (Nat.le_of_ble_eq_true rfl)) dX9_read_137 ⟨by show _ + 0 ≤ 0; omega, by show _ + 0 ≤ 0; omega⟩) hS (fun q _ h => hFc q h) hFc (fun r_99 gg_98 t H1 locs ht hvm hw hB hz1 hk1 hS => ?_)
        obtain ⟨F_100, p0_101, p1_102, p2_103, hB1, hq_104, hq_105, hq_106, hq_107, hq_108⟩ := hB
        obtain ⟨hP, hD, hO, hR⟩ := QT.back hB1 ht hFc hR (fun q h => by simp only [List.mem_cons, List.not_mem_nil, or_false] at h ⊢; omega)
        have hF_109 : F_100 g1 = .inr (0, [.ref r1, .int (nI z), .int 0]) := (hB1.2.2.2 g1 (by rw [hT_g1]; simp only [List.mem_cons, List.not_mem_nil, or_false]; omega)).trans hF_62
        have hF_110 : F_100 r1 = .inl (cs 16, n1, .inl f) := (hB1.2.2.2 r1 (by rw [ht_11]; simp only [List.mem_cons, List.not_mem_nil, or_false]; omega)).trans hF_63
        have hF_111 : F_100 tx = .inr (0, [.ref rx, .int (nI yy), .int 0]) := (hB1.2.2.2 tx (by rw [hT_tx]; simp)).trans hN1
        have hF_112 : F_100 rx = .inl (cs 16, n, .inl fq) := (hB1.2.2.2 rx (by rw [ht_8]; simp)).trans hN2
        generalize H1 = H at hP hS ⊢
        have hw : TKR (TC fq yy) w4 j cn gq gg_98 r_99 := hw
        have hw_113 := hw
        refine lv_if_ne (tgt := 145) hx hb dX9_read_140 (by decide) (fun c_114 => ?_) (fun c_114 => ?_)
        ·
          refine lv_iload hx hb dX9_read_145 (lv_at hl 1 rfl) ?_
          refine lv_iconst (v := 1) hx hb dX9_read_147 (by decide) ?_
          refine lv_iadd hx hb dX9_read_148 ?_
          refine lv_topi (fun x_115 ex_115 => ?_)
          obtain rfl : x_115 = (nI (j + 1)) := ex_115.trans (nI_1 j)
          refine lv_istore (lv' := [(4, .int (nI (j + 1))), (6, .int 1), (5, .int (nI j)), (0, .ref h0), (1, .ref g1), (2, .int (nI a)), (3, .int (nI b))]) hx hb dX9_read_149 hl (by decide) rfl (fun ls hl => ?_)
          refine lv_iinc (v := (nI (j + 1))) (lv' := [(5, .int (nI (j + 1))), (4, .int (nI (j + 1))), (6, .int 1), (0, .ref h0), (1, .ref g1), (2, .int (nI a)), (3, .int (nI b))]) hx hb dX9_read_151 hl (k := 2) rfl (nI_1 _) (by decide) rfl (fun ls hl => ?_)
          refine lv_goto (tgt := 65) hx hb dX9_read_154 (by decide) ?_
          refine W.widen (k := 0) (n := 0) (by omega) (by omega) ?_
          exact ih_61 ((j + 1), (j + 1), gg_98.1, gg_98.2, p0_101, p1_102, p2_103) F_100 (⟨(tkr_i hw_113 hN7 hv1 (by omega)).2, Nat.le_refl _, by omega, by omega, fun i h1 h2 => absurd h2 (by omega), tkr_y hw_113 c_114 hv6 (by omega) (fd_at (by omega) (by omega) hnc (Or.inr hce)) (Or.inl rfl), hq_104, hF_111, hF_112, hq_105, hq_106, hq_107, hq_108, (tkr_i hw_113 hN7 hv1 (by omega)).1⟩) (by show yy - (j + 1) < yy - j; omega) hO hR _ _ hP hD hS ls (lv_sub hl [0, 1, 3, 4, 5, 6] rfl)
        ·
          refine lv_iconst (v := 0) hx hb dX9_read_143 (by decide) ?_
          refine W.widen (k := 0) (n := 0) (by omega) (by omega) ?_
          exact W.zret (v := 0) (ty := .boolean) hx hb hr (by decide) (fun t ht hWm => ⟨⟨0, (gg_98.1, gg_98.2), rfl, (by have h9 := tgw_n hv6 (by omega) (fd_at (by omega) (by omega) hnc (Or.inr hce)) (tkr0 hw_113 c_114).1; rw [hTC, hYY] at h9; exact Or.inr ⟨rfl, h9⟩), ⟨F_100, p0_101, p1_102, p2_103, fq, QT.mk ht hP hD hO hR, hq_104, (by rw [← hYY]; exact hF_111), hF_112, hq_105, hq_106, hq_107, (by rw [← hYY]; exact hTC), hq_108, (by rw [← hYY]; exact ⟨(tkr_i hw_113 hN7 hv1 (by omega)).1, (tkr_i hw_113 hN7 hv1 (by omega)).2, hyn⟩)⟩⟩, hS.F ht⟩) hS.2.2 dX9_read_144
  ·
    have hi_116 : i < b := ltN (N := b) c_36
    have hie : i < b := Nat.not_le.mp (fun q => c_36 ((nI_leI (by omega) (by omega)).mpr q))
    have hiz : i < z := by omega
    refine lv_aload_n hx hb dX9_read_16 rfl (lv_at hl 2 rfl) ?_
    refine lv_iload hx hb dX9_read_17 (lv_at hl 0 rfl) ?_
    have hFc := pg_free hD hS hA
    refine va_calli (va_runV (As := [.int (nI i)]) (rest := []) ⟨hx, hb, hml, hown, hts⟩ (s_X0_at_e l dC dI cs ty L H.size F_29 g1 σ r1 n1 z i f hW hL_g1 hT_g1 hF_34 hF_35 (by omega) (by omega) (by omega)) ⟨callB_of 1 hts (gi kt_21) rfl rfl rfl (hts _ kt_1) (hts _ kt_183) (by decide +kernel) ⟨Nat.le_of_ble_eq_true rfl, Nat.le_of_ble_eq_true rfl⟩, (hts _ kt_23), (hts _ kt_24)⟩ ⟨fun a U g mk q => ⟨q.1, PT.calling q.2⟩, pg_recv hK hP hL_g1 hF_34 (q := (RX0, TX0, 3)) rfl, fun U hU hWm => ⟨rfl, PT.mk hU hWm hP hK hD hE hO⟩⟩ rfl rfl hl.1 rfl (lv_room (Nat.le_of_ble_eq_true rfl)) dX9_read_19 ⟨by show _ + 0 ≤ 0; omega, by show _ + 0 ≤ 0; omega⟩) hS (fun q _ h => hFc q h) hFc (fun r_117 u t H1 locs ht hvm hw hB hz1 hk1 hS => ?_)
    obtain ⟨F_118, hB1⟩ := hB
    obtain rfl : F_29 = F_118 := (funext (fun a => hB1.2.2.2 a List.not_mem_nil)).symm
    obtain ⟨hP, hD, hO, hR⟩ := QT.back hB1 ht hFc hR (fun q h => absurd h List.not_mem_nil)
    generalize H1 = H at hP hS ⊢
    have hw : r_117 = f i := hw
    have hw_119 := hw
    subst hw_119
    refine lv_istore (lv' := [(5, .int (f i)), (4, .int (nI i)), (0, .ref h0), (1, .ref g1), (2, .int (nI a)), (3, .int (nI b))]) hx hb dX9_read_22 hl (by decide) rfl (fun ls hl => ?_)
    refine lv_iload hx hb dX9_read_24 (lv_at hl 0 rfl) ?_
    have hFc := pg_free hD hS hA
    refine va_calli (va_runS (As := [.int (f i)]) (rest := []) ⟨hx, hb, hml, hown, hts⟩ (s_X0_isWhite_e l dC dI cs ty L H.size F_29 (f i) hW ) ⟨callB_of 1 hts (gi kt_195) rfl rfl rfl (hts _ kt_1) (hts _ kt_196) (by decide +kernel) ⟨Nat.le_of_ble_eq_true rfl, Nat.le_of_ble_eq_true rfl⟩, (hts _ kt_197)⟩ ⟨fun a U g mk q => ⟨q.1, PT.calling q.2⟩, fun U hU hWm => ⟨rfl, PT.mk hU hWm hP hK hD hE hO⟩⟩ rfl rfl hl.1 rfl (lv_room (Nat.le_of_ble_eq_true rfl)) dX9_read_26 ⟨by show _ + 0 ≤ 0; omega, by show _ + 0 ≤ 0; omega⟩) hS (fun q _ h => hFc q h) hFc (fun r_120 u t H1 locs ht hvm hw hB hz1 hk1 hS => ?_)
    obtain ⟨F_121, hB1⟩ := hB
    obtain rfl : F_29 = F_121 := (funext (fun a => hB1.2.2.2 a List.not_mem_nil)).symm
    obtain ⟨hP, hD, hO, hR⟩ := QT.back hB1 ht hFc hR (fun q h => absurd h List.not_mem_nil)
    generalize H1 = H at hP hS ⊢
    have hw : r_120 = (if (f i) = 32 ∨ (f i) = 9 then 1 else 0) := hw
    have hw_122 := hw
    refine lv_if_ne (tgt := 48) hx hb dX9_read_29 (by decide) (fun c_123 => ?_) (fun c_123 => ?_)
    ·
      refine lv_iinc (v := (nI (i + 1))) (lv' := [(4, .int (nI (i + 1))), (5, .int (f i)), (0, .ref h0), (1, .ref g1), (2, .int (nI a)), (3, .int (nI b))]) hx hb dX9_read_48 hl (k := 1) rfl (nI_1 _) (by decide) rfl (fun ls hl => ?_)
      refine lv_goto (tgt := 10) hx hb dX9_read_51 (by decide) ?_
      refine W.widen (k := 0) (n := 0) (by omega) (by omega) ?_
      exact ih_33 ((i + 1), yy, fq) F_29 (⟨by omega, by omega, hu3, hu4, fla_w hu5 hu1 ((ifb1 hw_122 c_123).imp (fun q => (tcc hiz 32 (by omega)).mpr q) (fun q => Or.inl ((tcc hiz 9 (by omega)).mpr q)))⟩) (by show b - (i + 1) < b - i; omega) hO hR _ _ hP hD hS ls (lv_sub hl [0, 2, 3, 4, 5] rfl)
    ·
      refine lv_iload hx hb dX9_read_32 (lv_at hl 0 rfl) ?_
      refine lv_bipush (v := 10) hx hb dX9_read_34 (by decide) ?_
      refine lv_icmp_eq (tgt := 48) hx hb dX9_read_36 (by decide) (fun c_124 => ?_) (fun c_124 => ?_)
      ·
        refine lv_iinc (v := (nI (i + 1))) (lv' := [(4, .int (nI (i + 1))), (5, .int (f i)), (0, .ref h0), (1, .ref g1), (2, .int (nI a)), (3, .int (nI b))]) hx hb dX9_read_48 hl (k := 1) rfl (nI_1 _) (by decide) rfl (fun ls hl => ?_)
        refine lv_goto (tgt := 10) hx hb dX9_read_51 (by decide) ?_
        refine W.widen (k := 0) (n := 0) (by omega) (by omega) ?_
        exact ih_33 ((i + 1), yy, fq) F_29 (⟨by omega, by omega, hu3, hu4, fla_w hu5 hu1 (Or.inr (Or.inr ((tcc hiz 10 (by omega)).mpr c_124)))⟩) (by show b - (i + 1) < b - i; omega) hO hR _ _ hP hD hS ls (lv_sub hl [0, 2, 3, 4, 5] rfl)
      ·
        refine lv_aload_n hx hb dX9_read_39 rfl (lv_at hl 2 rfl) ?_
        obtain ⟨z_125, hF_126, hq_127⟩ := hO.tags hL_h0 hT_h0
        refine pg_get (ci := 9) (v := .ref tx) (C := RX9) (T := TX9) (N := 5) hx hb hts it_9 hown hK hP hL_h0 hF_126 rfl 0 (by decide) (hts _ kt_159) (fun _ h9 => h9) rfl dX9_read_40 ?_
        refine lv_iload hx hb dX9_read_43 (lv_at hl 0 rfl) ?_
        have hFc := pg_free hD hS hA
        refine va_callv (va_runV (As := [.int (f i)]) (rest := []) ⟨hx, hb, hml, hown, hts⟩ (s_X0_add_e l dC dI cs ty L H.size F_29 tx (ρ + 1) rx n yy fq (f i) hW hL_tx hT_tx hu3 hu4 (by omega) (by omega)) ⟨callB_of 1 hts (gi kt_13) rfl rfl rfl (hts _ kt_1) (hts _ kt_198) (by decide +kernel) ⟨Nat.le_of_ble_eq_true rfl, Nat.le_of_ble_eq_true rfl⟩, (hts _ kt_15), (hts _ kt_16)⟩ ⟨fun a U g mk q => ⟨q.1, PT.calling q.2⟩, pg_recv hK hP hL_tx hu3 (q := (RX0, TX0, 3)) rfl, fun U hU hWm => ⟨rfl, PT.mk hU hWm hP hK hD hE hO⟩⟩ rfl rfl hl.1 rfl (lv_room (Nat.le_of_ble_eq_true rfl)) dX9_read_45 ⟨by show _ + 0 ≤ 0; omega, by show _ + 0 ≤ 0; omega⟩) hS (fun q _ h => hFc q h) hFc (fun u t H1 locs ht hvm hw hB hz1 hk1 hS => ?_)
        obtain ⟨F_129, hB1, hq_130, hq_131⟩ := hB
        obtain ⟨hP, hD, hO, hR⟩ := QT.back hB1 ht hFc hR (fun q h => by simp only [List.mem_cons, List.not_mem_nil, or_false] at h ⊢; omega)
        have hF_132 : F_129 g1 = .inr (0, [.ref r1, .int (nI z), .int 0]) := (hB1.2.2.2 g1 (by rw [hT_g1]; simp only [List.mem_cons, List.not_mem_nil, or_false]; omega)).trans hF_34
        have hF_133 : F_129 r1 = .inl (cs 16, n1, .inl f) := (hB1.2.2.2 r1 (by rw [ht_11]; simp only [List.mem_cons, List.not_mem_nil, or_false]; omega)).trans hF_35
        have hF_134 : F_129 h0 = .inr (9, [.ref tx, .ref y0, .ref y1, .ref y2, .int (nI z_125)]) := (hB1.2.2.2 h0 (by rw [hT_h0]; simp)).trans hF_126
        generalize H1 = H at hP hS ⊢
        refine lv_iinc (v := (nI (i + 1))) (lv' := [(4, .int (nI (i + 1))), (5, .int (f i)), (0, .ref h0), (1, .ref g1), (2, .int (nI a)), (3, .int (nI b))]) hx hb dX9_read_48 hl (k := 1) rfl (nI_1 _) (by decide) rfl (fun ls hl => ?_)
        refine lv_goto (tgt := 10) hx hb dX9_read_51 (by decide) ?_
        refine W.widen (k := 0) (n := 0) (by omega) (by omega) ?_
        exact ih_33 ((i + 1), (yy + 1), (upd fq yy (f i))) F_129 (⟨by omega, by omega, hq_130, hq_131, fla_a hu5 hu1 (fun q => by rcases q with q | q | q; exact ifb0 hw_122 c_123 (Or.inl ((tcc hiz 32 (by omega)).mp q)); exact ifb0 hw_122 c_123 (Or.inr ((tcc hiz 9 (by omega)).mp q)); exact c_124 ((tcc hiz 10 (by omega)).mp q))⟩) (by show b - (i + 1) < b - i; omega) hO hR _ _ hP hD hS ls (lv_sub hl [0, 2, 3, 4, 5] rfl)
set_option maxHeartbeats 4000000 in
set_option maxRecDepth 100000 in
theorem s_X9_rowOf_e (l : Launch) (dC : Nat → ClassId) (dI : Nat → Nat → Nat) (cs : Nat → ClassId) (ty : TyM) (L : List Nat) (sz : Nat) (F : Nat → va_E) (h0 : Nat) (ρ : Nat) (tx : Nat) (n : Nat) (y0 : Nat) (y1 : Nat) (y2 : Nat) (rx : Nat) (z : Nat) (nn : Nat) (f : Nat → Int32) (e0 : Nat → Int32) (e1 : Nat → Int32) (e2 : Nat → Int32) (gq : Nat → Nat → Nat) (q : Nat) (v : Nat) (k0 : Nat) (C : Nat → Int32) (ll : List Nat) (hW : WT ty L) (hL_h0 : h0 ∈ L) (hT_h0 : ty h0 = (9, ρ, [tx, n, y0, y1, y2])) (hL_tx : tx ∈ L) (hT_tx : ty tx = (0, ρ + 1, [rx, n])) (hF0 : F h0 = .inr (9, [.ref tx, .ref y0, .ref y1, .ref y2, .int (nI nn)])) (hFx : F tx = .inr (0, [.ref rx, .int (nI z), .int 0])) (hFr : F rx = .inl (cs 16, n, .inl f)) (hFy0 : F y0 = .inl (cs 16, 40, .inl e0)) (hFy1 : F y1 = .inl (cs 16, 40, .inl e1)) (hFy2 : F y2 = .inl (cs 16, 40, .inl e2)) (hzn : z ≤ n) (hn9 : n ≤ 10000) (hcn : nn ≤ 40) (hhl : HLD e0 e1 e2 nn gq) (hTG : TGI z nn gq) (hCL : CLI C k0 ll) : Met l yX9_rowOf (.code yX9_rowOf cX9_rowOf 3 (some .int) :: tb) ({ frames := 5, cells := 0, slots := 0, locals := 109 }) (va_Pc [.ref h0, .ref q] (PTC (dC, dI) cs ty L F sz q v k0 C)) (va_Qi (fun (r : Int32) (_ : Unit) => RWX (TC f z) gq nn ll r) (fun _ T9 => ∃ F2 : Nat → va_E, QT (dC, dI) cs ty L [] F F2 (va_A (va_pl L F) sz) T9) (va_A (va_pl L F) sz)) 0 0 (va_A (va_pl L F) sz) := by
  refine Met.ofW (cc := cX9_rowOf) (maxL := 3) (ret := (some .int)) (by decide) rfl ?_
  intro p e s m args below meth c s₁ B hml hv
  obtain ⟨rfl, ⟨hsz, hP, hK, hD0, hE, hO⟩, hG, hX⟩ := hv
  have hx := B.exec
  have hb := B.bytes
  have hr := B.returns
  have hts : ∀ w ∈ tb, w.before _ s = true := fun w h => atoms_spec (ws := .code yX9_rowOf cX9_rowOf 3 (some .int) :: tb) B.pre w (List.mem_cons_of_mem _ h)
  have hown : s.vm.findClass RX9 = some m.cls := findClass_of_methodNamed B.named
  have hlocks := B.notSynchronized
  subst hsz
  have hD := hD0.self (sz := s.heap.size)
  generalize hAe : va_A (va_pl L F) s.heap.size = A at hD hG hX ⊢
  have hX_q : SX q v k0 A s s.heap := hX.sx
  obtain ⟨xo_q, xc_q, xv_q, xt_q, xn_q⟩ := id hX
  have hA : ∀ q : Nat, s.heap.size ≤ q → A q := fun q h => by rw [← hAe]; exact Or.inr h
  have hS : va_S A s.heap s.heap [] := va_S.rf
  have hR : FR ty [] F F := FR.refl
  have hl := lv_entry ([.ref h0, .ref q]) (n := 3) (Nat.le_of_ble_eq_true rfl)
  rw [lg_entry_eq]
  generalize (lg_sl ([.ref h0, .ref q]) ++ List.replicate (3 - (lg_sl ([.ref h0, .ref q])).length) Slot.unset).toArray = ls at hl ⊢
  have hl : lv_has ls 3 [(0, .ref h0), (1, .ref q)] := hl
  obtain ⟨_, hi_1, hi_2, hi_3, _, ht_4, ht_5, ht_6⟩ := hW.tags hL_h0 hT_h0
  refine lv_iconst (v := 0) hx hb dX9_rowOf_0 (by decide) ?_
  refine lv_istore_n (lv' := [(2, .int 0), (0, .ref h0), (1, .ref q)]) hx hb dX9_rowOf_1 rfl hl (by decide) rfl (fun ls hl => ?_)
  refine W.widen (k := 0) (n := 0) (by omega) (by omega) ?_
  refine pl_loop (σ := Nat) A (dC, dI) cs ty L [] F 2 3 (fun j => [(2, .int (nI j)), (0, .ref h0), (1, .ref q)]) (fun j => []) (fun j _ => j ≤ nn ∧ ∀ k, k < j → ¬ ISL (TC f z) (gq 0 k) (gq 1 k) ll) (fun j => nn - j) ?_ 0 F (⟨Nat.zero_le _, fun k hk => absurd hk (Nat.not_lt_zero _)⟩) hO hR _ _ hP hD hS ls (lv_sub hl [0, 1, 2] rfl)
  rintro j F_7 hv_8 hO hR ih_9 H locs hP hD hS ls hl
  have hl : lv_has ls 3 [(2, .int (nI j)), (0, .ref h0), (1, .ref q)] := hl
  have hv_8 : j ≤ nn ∧ ∀ k, k < j → ¬ ISL (TC f z) (gq 0 k) (gq 1 k) ll := hv_8
  refine W.eq (g2 := F0 m 2 ls []) rfl ?_
  obtain rfl : F = F_7 := (funext (fun a => hR a List.not_mem_nil)).symm
  obtain ⟨hv1, hv2⟩ := id hv_8
  refine lv_iload_n hx hb dX9_rowOf_2 rfl (lv_at hl 0 rfl) ?_
  refine lv_aload_n hx hb dX9_rowOf_3 rfl (lv_at hl 1 rfl) ?_
  refine pg_get (ci := 9) (v := .int (nI nn)) (C := RX9) (T := TX9) (N := 5) hx hb hts it_9 hown hK hP hL_h0 hF0 rfl 4 (by decide) (hts _ kt_158) (fun _ h9 => h9) rfl dX9_rowOf_4 ?_
  refine lv_icmp_ge (tgt := 41) hx hb dX9_rowOf_7 (by decide) (fun c_10 => ?_) (fun c_10 => ?_)
  ·
    have hi_11 : nn ≤ j := leN (N := nn) c_10
    have hjz : nn ≤ j := (nI_leI (by omega) (by omega)).mp c_10
    refine lv_iconst (v := (-1)) hx hb dX9_rowOf_41 (by decide) ?_
    refine W.widen (k := 0) (n := 0) (by omega) (by omega) ?_
    exact W.iret (v := (-1)) hx hb hr (fun t ht hWm => ⟨⟨(-1), (), rfl, (Or.inl ⟨rfl, fun k9 h9 => hv2 k9 (by omega)⟩), ⟨F, QT.mk ht hP hD hO hR⟩⟩, hS.F ht⟩) hS.2.2 dX9_rowOf_42
  ·
    have hi_12 : j < nn := ltN (N := nn) c_10
    have hjz : j < nn := Nat.not_le.mp (fun q => c_10 ((nI_leI (by omega) (by omega)).mpr q))
    obtain ⟨hg1, hg2, hg3⟩ := hTG j hjz
    refine lv_aload_n hx hb dX9_rowOf_10 rfl (lv_at hl 1 rfl) ?_
    refine pg_get (ci := 9) (v := .ref tx) (C := RX9) (T := TX9) (N := 5) hx hb hts it_9 hown hK hP hL_h0 hF0 rfl 0 (by decide) (hts _ kt_159) (fun _ h9 => h9) rfl dX9_rowOf_11 ?_
    refine lv_aload_n hx hb dX9_rowOf_14 rfl (lv_at hl 1 rfl) ?_
    refine pg_get (ci := 9) (v := .ref y0) (C := RX9) (T := TX9) (N := 5) hx hb hts it_9 hown hK hP hL_h0 hF0 rfl 1 (by decide) (hts _ kt_160) (fun _ h9 => h9) rfl dX9_rowOf_15 ?_
    refine lv_iload_n hx hb dX9_rowOf_18 rfl (lv_at hl 0 rfl) ?_
    refine pg_iald hx hb hK hP hi_1 0 hFy0 rfl (vp_in_nI (by omega) (by omega)) dX9_rowOf_19 ?_
    refine lv_topi (fun x_13 ex_13 => ?_)
    obtain rfl : x_13 = (nI (gq 0 j)) := ex_13.trans (((congrArg e0 (nI_clamp (by omega))).trans (hhl j hjz).1))
    refine lv_aload_n hx hb dX9_rowOf_20 rfl (lv_at hl 1 rfl) ?_
    refine pg_get (ci := 9) (v := .ref y1) (C := RX9) (T := TX9) (N := 5) hx hb hts it_9 hown hK hP hL_h0 hF0 rfl 2 (by decide) (hts _ kt_161) (fun _ h9 => h9) rfl dX9_rowOf_21 ?_
    refine lv_iload_n hx hb dX9_rowOf_24 rfl (lv_at hl 0 rfl) ?_
    refine pg_iald hx hb hK hP hi_2 0 hFy1 rfl (vp_in_nI (by omega) (by omega)) dX9_rowOf_25 ?_
    refine lv_topi (fun x_14 ex_14 => ?_)
    obtain rfl : x_14 = (nI (gq 1 j)) := ex_14.trans (((congrArg e1 (nI_clamp (by omega))).trans (hhl j hjz).2.1))
    refine lv_aload_n hx hb dX9_rowOf_26 rfl (lv_at hl 2 rfl) ?_
    obtain ⟨hi_15, ht_16, hq_17⟩ := hW.bytes hL_tx hT_tx
    have hFc := pg_free hD hS hA
    refine va_calli (va_runV (As := [.int (nI (gq 0 j)), .int (nI (gq 1 j)), .ref q]) (rest := []) ⟨hx, hb, hml, hown, hts⟩ (s_X0_is_e l dC dI cs ty L H.size F tx (ρ + 1) rx n q v k0 C z (gq 0 j) (gq 1 j) f ll hW hL_tx hT_tx hFx hFr (by omega) (by omega) (hg1) (by omega) (hCL)) ⟨callB_of 3 hts (gi kt_79) rfl rfl rfl (hts _ kt_1) (hts _ kt_162) (by decide +kernel) ⟨Nat.le_of_ble_eq_true rfl, Nat.le_of_ble_eq_true rfl⟩, (hts _ kt_81), (hts _ kt_82)⟩ ⟨fun a U g mk q => ⟨q.1, PTC.calling q.2⟩, pg_recv hK hP hL_tx hFx (q := (RX0, TX0, 3)) rfl, fun U hU hWm => ⟨rfl, PTC.mk hU hWm hP hK hD hE hO hG hX hS hFc⟩⟩ rfl rfl hl.1 rfl (lv_room (Nat.le_of_ble_eq_true rfl)) dX9_rowOf_27 ⟨by show _ + 0 ≤ 0; omega, by show _ + 0 ≤ 0; omega⟩) hS (fun q _ h => hFc q h) hFc (fun r_18 u t H1 locs ht hvm hw hB hz1 hk1 hS => ?_)
    obtain ⟨F_19, hB1⟩ := hB
    obtain rfl : F = F_19 := (funext (fun a => hB1.2.2.2 a List.not_mem_nil)).symm
    obtain ⟨hP, hD, hO, hR⟩ := QT.back hB1 ht hFc hR (fun q h => absurd h List.not_mem_nil)
    generalize H1 = H at hP hS ⊢
    have hw : (r_18 = 1 ∧ ((gq 0 j) + k0 = (gq 1 j) ∧ LIT (TC f z) (gq 0 j) ll)) ∨ (r_18 = 0 ∧ ¬ ((gq 0 j) + k0 = (gq 1 j) ∧ LIT (TC f z) (gq 0 j) ll)) := hw
    have hw_20 := hw
    refine lv_if_eq (tgt := 35) hx hb dX9_rowOf_30 (by decide) (fun c_21 => ?_) (fun c_21 => ?_)
    ·
      refine lv_iinc (v := (nI (j + 1))) (lv' := [(2, .int (nI (j + 1))), (0, .ref h0), (1, .ref q)]) hx hb dX9_rowOf_35 hl (k := 0) rfl (nI_1 _) (by decide) rfl (fun ls hl => ?_)
      refine lv_goto (tgt := 2) hx hb dX9_rowOf_38 (by decide) ?_
      refine W.widen (k := 0) (n := 0) (by omega) (by omega) ?_
      exact ih_9 (j + 1) F (⟨by omega, all_step hv2 (fun q => orp0 hw_20 c_21 ⟨by have h9 := q.1; rw [hCL.1] at h9; exact h9, q.2⟩)⟩) (by show nn - (j + 1) < nn - j; omega) hO hR _ _ hP hD hS ls (lv_sub hl [0, 1, 2] rfl)
    ·
      refine lv_iload_n hx hb dX9_rowOf_33 rfl (lv_at hl 0 rfl) ?_
      refine W.widen (k := 0) (n := 0) (by omega) (by omega) ?_
      exact W.iret (v := (nI j)) hx hb hr (fun t ht hWm => ⟨⟨(nI j), (), rfl, (Or.inr ⟨j, hjz, rfl, (by have h9 := orp1 hw_20 c_21; exact ⟨by rw [hCL.1]; exact h9.1, h9.2⟩), hv2⟩), ⟨F, QT.mk ht hP hD hO hR⟩⟩, hS.F ht⟩) hS.2.2 dX9_rowOf_34
set_option maxHeartbeats 4000000 in
set_option maxRecDepth 100000 in
theorem s_X9_has_e (l : Launch) (dC : Nat → ClassId) (dI : Nat → Nat → Nat) (cs : Nat → ClassId) (ty : TyM) (L : List Nat) (sz : Nat) (F : Nat → va_E) (h0 : Nat) (ρ : Nat) (tx : Nat) (n : Nat) (y0 : Nat) (y1 : Nat) (y2 : Nat) (rx : Nat) (z : Nat) (nn : Nat) (f : Nat → Int32) (e0 : Nat → Int32) (e1 : Nat → Int32) (e2 : Nat → Int32) (gq : Nat → Nat → Nat) (q : Nat) (v : Nat) (k0 : Nat) (C : Nat → Int32) (ll : List Nat) (hW : WT ty L) (hL_h0 : h0 ∈ L) (hT_h0 : ty h0 = (9, ρ, [tx, n, y0, y1, y2])) (hL_tx : tx ∈ L) (hT_tx : ty tx = (0, ρ + 1, [rx, n])) (hF0 : F h0 = .inr (9, [.ref tx, .ref y0, .ref y1, .ref y2, .int (nI nn)])) (hFx : F tx = .inr (0, [.ref rx, .int (nI z), .int 0])) (hFr : F rx = .inl (cs 16, n, .inl f)) (hFy0 : F y0 = .inl (cs 16, 40, .inl e0)) (hFy1 : F y1 = .inl (cs 16, 40, .inl e1)) (hFy2 : F y2 = .inl (cs 16, 40, .inl e2)) (hzn : z ≤ n) (hn9 : n ≤ 10000) (hcn : nn ≤ 40) (hhl : HLD e0 e1 e2 nn gq) (hTG : TGI z nn gq) (hCL : CLI C k0 ll) : Met l yX9_has (.code yX9_has cX9_has 2 (some .boolean) :: tb) ({ frames := 6, cells := 0, slots := 0, locals := 131 }) (va_Pc [.ref h0, .ref q] (PTC (dC, dI) cs ty L F sz q v k0 C)) (va_Qi (fun (r : Int32) (_ : Unit) => (r = 1 ∧ TGE (TC f z) gq nn ll) ∨ (r = 0 ∧ ¬ TGE (TC f z) gq nn ll)) (fun _ T9 => ∃ F2 : Nat → va_E, QT (dC, dI) cs ty L [] F F2 (va_A (va_pl L F) sz) T9) (va_A (va_pl L F) sz)) 0 0 (va_A (va_pl L F) sz) := by
  refine Met.ofW (cc := cX9_has) (maxL := 2) (ret := (some .boolean)) (by decide) rfl ?_
  intro p e s m args below meth c s₁ B hml hv
  obtain ⟨rfl, ⟨hsz, hP, hK, hD0, hE, hO⟩, hG, hX⟩ := hv
  have hx := B.exec
  have hb := B.bytes
  have hr := B.returns
  have hts : ∀ w ∈ tb, w.before _ s = true := fun w h => atoms_spec (ws := .code yX9_has cX9_has 2 (some .boolean) :: tb) B.pre w (List.mem_cons_of_mem _ h)
  have hown : s.vm.findClass RX9 = some m.cls := findClass_of_methodNamed B.named
  have hlocks := B.notSynchronized
  subst hsz
  have hD := hD0.self (sz := s.heap.size)
  generalize hAe : va_A (va_pl L F) s.heap.size = A at hD hG hX ⊢
  have hX_q : SX q v k0 A s s.heap := hX.sx
  obtain ⟨xo_q, xc_q, xv_q, xt_q, xn_q⟩ := id hX
  have hA : ∀ q : Nat, s.heap.size ≤ q → A q := fun q h => by rw [← hAe]; exact Or.inr h
  have hS : va_S A s.heap s.heap [] := va_S.rf
  have hR : FR ty [] F F := FR.refl
  have hl := lv_entry ([.ref h0, .ref q]) (n := 2) (Nat.le_of_ble_eq_true rfl)
  rw [lg_entry_eq]
  generalize (lg_sl ([.ref h0, .ref q]) ++ List.replicate (2 - (lg_sl ([.ref h0, .ref q])).length) Slot.unset).toArray = ls at hl ⊢
  have hl : lv_has ls 2 [(0, .ref h0), (1, .ref q)] := hl
  obtain ⟨_, hi_1, hi_2, hi_3, _, ht_4, ht_5, ht_6⟩ := hW.tags hL_h0 hT_h0
  refine lv_aload_n hx hb dX9_has_0 rfl (lv_at hl 0 rfl) ?_
  refine lv_aload_n hx hb dX9_has_1 rfl (lv_at hl 1 rfl) ?_
  obtain ⟨hi_7, ht_8, hq_9⟩ := hW.bytes hL_tx hT_tx
  have hFc := pg_free hD hS hA
  refine va_calli (va_runV (As := [.ref q]) (rest := []) ⟨hx, hb, hml, hown, hts⟩ (s_X9_rowOf_e l dC dI cs ty L s.heap.size F h0 ρ tx n y0 y1 y2 rx z nn f e0 e1 e2 gq q v k0 C ll hW hL_h0 hT_h0 hL_tx hT_tx hF0 hFx hFr hFy0 hFy1 hFy2 (hzn) (hn9) (hcn) (hhl) (hTG) (hCL)) ⟨callB_of 1 hts (gi kt_163) rfl rfl rfl (hts _ kt_164) (hts _ kt_165) (by decide +kernel) ⟨Nat.le_of_ble_eq_true rfl, Nat.le_of_ble_eq_true rfl⟩, (hts _ kt_166), (hts _ kt_167)⟩ ⟨fun a U g mk q => ⟨q.1, PTC.calling q.2⟩, pg_recv hK hP hL_h0 hF0 (q := (RX9, TX9, 5)) rfl, fun U hU hWm => ⟨rfl, PTC.mk hU hWm hP hK hD hE hO hG hX hS hFc⟩⟩ rfl rfl hl.1 rfl (lv_room (Nat.le_of_ble_eq_true rfl)) dX9_has_2 ⟨by show _ + 0 ≤ 0; omega, by show _ + 0 ≤ 0; omega⟩) hS (fun q _ h => hFc q h) hFc (fun r_10 u t H1 locs ht hvm hw hB hz1 hk1 hS => ?_)
  obtain ⟨F_11, hB1⟩ := hB
  obtain rfl : F = F_11 := (funext (fun a => hB1.2.2.2 a List.not_mem_nil)).symm
  obtain ⟨hP, hD, hO, hR⟩ := QT.back hB1 ht hFc hR (fun q h => absurd h List.not_mem_nil)
  generalize H1 = H at hP hS ⊢
  have hw : RWX (TC f z) gq nn ll r_10 := hw
  have hw_12 := hw
  refine lv_if_lt (tgt := 12) hx hb dX9_has_5 (by decide) (fun c_13 => ?_) (fun c_13 => ?_)
  ·
    refine lv_iconst (v := 0) hx hb dX9_has_12 (by decide) ?_
    refine W.widen (k := 0) (n := 0) (by omega) (by omega) ?_
    exact W.zret (v := 0) (ty := .boolean) hx hb hr (by decide) (fun t ht hWm => ⟨⟨0, (), rfl, (Or.inr ⟨rfl, tge_n (rwx_n hw_12 hcn c_13)⟩), ⟨F, QT.mk ht hP hD hO hR⟩⟩, hS.F ht⟩) hS.2.2 dX9_has_13
  ·
    refine lv_iconst (v := 1) hx hb dX9_has_8 (by decide) ?_
    refine lv_goto (tgt := 13) hx hb dX9_has_9 (by decide) ?_
    refine W.widen (k := 0) (n := 0) (by omega) (by omega) ?_
    exact W.zret (v := 1) (ty := .boolean) hx hb hr (by decide) (fun t ht hWm => ⟨⟨1, (), rfl, (Or.inl ⟨rfl, by obtain ⟨k9, h1, -, h3, -⟩ := rwx_y hw_12 c_13; exact ⟨k9, h1, h3⟩⟩), ⟨F, QT.mk ht hP hD hO hR⟩⟩, hS.F ht⟩) hS.2.2 dX9_has_13
set_option maxHeartbeats 4000000 in
set_option maxRecDepth 100000 in
theorem s_X9_is_e (l : Launch) (dC : Nat → ClassId) (dI : Nat → Nat → Nat) (cs : Nat → ClassId) (ty : TyM) (L : List Nat) (sz : Nat) (F : Nat → va_E) (h0 : Nat) (ρ : Nat) (tx : Nat) (n : Nat) (y0 : Nat) (y1 : Nat) (y2 : Nat) (rx : Nat) (z : Nat) (nn : Nat) (f : Nat → Int32) (e0 : Nat → Int32) (e1 : Nat → Int32) (e2 : Nat → Int32) (gq : Nat → Nat → Nat) (q : Nat) (v : Nat) (k0 : Nat) (C : Nat → Int32) (q2 : Nat) (v2 : Nat) (k2 : Nat) (C2 : Nat → Int32) (ll : List Nat) (mm : List Nat) (hW : WT ty L) (hL_h0 : h0 ∈ L) (hT_h0 : ty h0 = (9, ρ, [tx, n, y0, y1, y2])) (hL_tx : tx ∈ L) (hT_tx : ty tx = (0, ρ + 1, [rx, n])) (hF0 : F h0 = .inr (9, [.ref tx, .ref y0, .ref y1, .ref y2, .int (nI nn)])) (hFx : F tx = .inr (0, [.ref rx, .int (nI z), .int 0])) (hFr : F rx = .inl (cs 16, n, .inl f)) (hFy0 : F y0 = .inl (cs 16, 40, .inl e0)) (hFy1 : F y1 = .inl (cs 16, 40, .inl e1)) (hFy2 : F y2 = .inl (cs 16, 40, .inl e2)) (hzn : z ≤ n) (hn9 : n ≤ 10000) (hcn : nn ≤ 40) (hhl : HLD e0 e1 e2 nn gq) (hTG : TGI z nn gq) (hCL : CLI C k0 ll) (hCM : CLI C2 k2 mm) : Met l yX9_is (.code yX9_is cX9_is 4 (some .boolean) :: tb) ({ frames := 6, cells := 0, slots := 0, locals := 131 }) (va_Pc [.ref h0, .ref q, .ref q2] (PTD (dC, dI) cs ty L F sz q v k0 C q2 v2 k2 C2)) (va_Qi (fun (r : Int32) (_ : Unit) => (r = 1 ∧ TGV (TC f z) gq nn ll mm) ∨ (r = 0 ∧ ¬ TGV (TC f z) gq nn ll mm)) (fun _ T9 => ∃ F2 : Nat → va_E, QT (dC, dI) cs ty L [] F F2 (va_A (va_pl L F) sz) T9) (va_A (va_pl L F) sz)) 0 0 (va_A (va_pl L F) sz) := by
  refine Met.ofW (cc := cX9_is) (maxL := 4) (ret := (some .boolean)) (by decide) rfl ?_
  intro p e s m args below meth c s₁ B hml hv
  obtain ⟨rfl, ⟨⟨hsz, hP, hK, hD0, hE, hO⟩, hG, hX⟩, hX2⟩ := hv
  have hx := B.exec
  have hb := B.bytes
  have hr := B.returns
  have hts : ∀ w ∈ tb, w.before _ s = true := fun w h => atoms_spec (ws := .code yX9_is cX9_is 4 (some .boolean) :: tb) B.pre w (List.mem_cons_of_mem _ h)
  have hown : s.vm.findClass RX9 = some m.cls := findClass_of_methodNamed B.named
  have hlocks := B.notSynchronized
  subst hsz
  have hD := hD0.self (sz := s.heap.size)
  generalize hAe : va_A (va_pl L F) s.heap.size = A at hD hG hX hX2 ⊢
  have hX_q : SX q v k0 A s s.heap := hX.sx
  obtain ⟨xo_q, xc_q, xv_q, xt_q, xn_q⟩ := id hX
  have hX_q2 : SX q2 v2 k2 A s s.heap := hX2.sx
  obtain ⟨xo_q2, xc_q2, xv_q2, xt_q2, xn_q2⟩ := id hX2
  have hA : ∀ q : Nat, s.heap.size ≤ q → A q := fun q h => by rw [← hAe]; exact Or.inr h
  have hS : va_S A s.heap s.heap [] := va_S.rf
  have hR : FR ty [] F F := FR.refl
  have hl := lv_entry ([.ref h0, .ref q, .ref q2]) (n := 4) (Nat.le_of_ble_eq_true rfl)
  rw [lg_entry_eq]
  generalize (lg_sl ([.ref h0, .ref q, .ref q2]) ++ List.replicate (4 - (lg_sl ([.ref h0, .ref q, .ref q2])).length) Slot.unset).toArray = ls at hl ⊢
  have hl : lv_has ls 4 [(0, .ref h0), (1, .ref q), (2, .ref q2)] := hl
  obtain ⟨_, hi_1, hi_2, hi_3, _, ht_4, ht_5, ht_6⟩ := hW.tags hL_h0 hT_h0
  refine lv_aload_n hx hb dX9_is_0 rfl (lv_at hl 0 rfl) ?_
  refine lv_aload_n hx hb dX9_is_1 rfl (lv_at hl 1 rfl) ?_
  obtain ⟨hi_7, ht_8, hq_9⟩ := hW.bytes hL_tx hT_tx
  have hFc := pg_free hD hS hA
  refine va_calli (va_runV (As := [.ref q]) (rest := []) ⟨hx, hb, hml, hown, hts⟩ (s_X9_rowOf_e l dC dI cs ty L s.heap.size F h0 ρ tx n y0 y1 y2 rx z nn f e0 e1 e2 gq q v k0 C ll hW hL_h0 hT_h0 hL_tx hT_tx hF0 hFx hFr hFy0 hFy1 hFy2 (hzn) (hn9) (hcn) (hhl) (hTG) (hCL)) ⟨callB_of 1 hts (gi kt_163) rfl rfl rfl (hts _ kt_164) (hts _ kt_165) (by decide +kernel) ⟨Nat.le_of_ble_eq_true rfl, Nat.le_of_ble_eq_true rfl⟩, (hts _ kt_166), (hts _ kt_167)⟩ ⟨fun a U g mk q => ⟨q.1, PTC.calling q.2⟩, pg_recv hK hP hL_h0 hF0 (q := (RX9, TX9, 5)) rfl, fun U hU hWm => ⟨rfl, PTC.mk hU hWm hP hK hD hE hO hG hX hS hFc⟩⟩ rfl rfl hl.1 rfl (lv_room (Nat.le_of_ble_eq_true rfl)) dX9_is_2 ⟨by show _ + 0 ≤ 0; omega, by show _ + 0 ≤ 0; omega⟩) hS (fun q _ h => hFc q h) hFc (fun r_10 u t H1 locs ht hvm hw hB hz1 hk1 hS => ?_)
  obtain ⟨F_11, hB1⟩ := hB
  obtain rfl : F = F_11 := (funext (fun a => hB1.2.2.2 a List.not_mem_nil)).symm
  obtain ⟨hP, hD, hO, hR⟩ := QT.back hB1 ht hFc hR (fun q h => absurd h List.not_mem_nil)
  generalize H1 = H at hP hS ⊢
  have hw : RWX (TC f z) gq nn ll r_10 := hw
  have hw_12 := hw
  refine lv_istore_n (lv' := [(3, .int r_10), (0, .ref h0), (1, .ref q), (2, .ref q2)]) hx hb dX9_is_5 rfl hl (by decide) rfl (fun ls hl => ?_)
  refine lv_iload_n hx hb dX9_is_6 rfl (lv_at hl 0 rfl) ?_
  refine lv_if_lt (tgt := 39) hx hb dX9_is_7 (by decide) (fun c_13 => ?_) (fun c_13 => ?_)
  ·
    refine lv_iconst (v := 0) hx hb dX9_is_39 (by decide) ?_
    refine W.widen (k := 0) (n := 0) (by omega) (by omega) ?_
    exact W.zret (v := 0) (ty := .boolean) hx hb hr (by decide) (fun t ht hWm => ⟨⟨0, (), rfl, (Or.inr ⟨rfl, tgv_n (rwx_n hw_12 hcn c_13)⟩), ⟨F, QT.mk ht hP hD hO hR⟩⟩, hS.F ht⟩) hS.2.2 dX9_is_40
  ·
    obtain ⟨j, hjz, ej, hj1, hj2⟩ := rwx_y hw_12 c_13
    subst ej
    obtain ⟨hg1, hg2, hg3⟩ := hTG j hjz
    refine lv_aload_n hx hb dX9_is_10 rfl (lv_at hl 1 rfl) ?_
    refine pg_get (ci := 9) (v := .ref tx) (C := RX9) (T := TX9) (N := 5) hx hb hts it_9 hown hK hP hL_h0 hF0 rfl 0 (by decide) (hts _ kt_159) (fun _ h9 => h9) rfl dX9_is_11 ?_
    refine lv_aload_n hx hb dX9_is_14 rfl (lv_at hl 1 rfl) ?_
    refine pg_get (ci := 9) (v := .ref y1) (C := RX9) (T := TX9) (N := 5) hx hb hts it_9 hown hK hP hL_h0 hF0 rfl 2 (by decide) (hts _ kt_161) (fun _ h9 => h9) rfl dX9_is_15 ?_
    refine lv_iload_n hx hb dX9_is_18 rfl (lv_at hl 0 rfl) ?_
    refine pg_iald hx hb hK hP hi_2 0 hFy1 rfl (vp_in_nI (by omega) (by omega)) dX9_is_19 ?_
    refine lv_topi (fun x_14 ex_14 => ?_)
    obtain rfl : x_14 = (nI (gq 1 j)) := ex_14.trans (((congrArg e1 (nI_clamp (by omega))).trans (hhl j hjz).2.1))
    refine lv_iconst (v := 1) hx hb dX9_is_20 (by decide) ?_
    refine lv_iadd hx hb dX9_is_21 ?_
    refine lv_topi (fun x_15 ex_15 => ?_)
    obtain rfl : x_15 = (nI (gq 1 j + 1)) := ex_15.trans (nI_1 _)
    refine lv_aload_n hx hb dX9_is_22 rfl (lv_at hl 1 rfl) ?_
    refine pg_get (ci := 9) (v := .ref y2) (C := RX9) (T := TX9) (N := 5) hx hb hts it_9 hown hK hP hL_h0 hF0 rfl 3 (by decide) (hts _ kt_168) (fun _ h9 => h9) rfl dX9_is_23 ?_
    refine lv_iload_n hx hb dX9_is_26 rfl (lv_at hl 0 rfl) ?_
    refine pg_iald hx hb hK hP hi_3 0 hFy2 rfl (vp_in_nI (by omega) (by omega)) dX9_is_27 ?_
    refine lv_topi (fun x_16 ex_16 => ?_)
    obtain rfl : x_16 = (nI (gq 2 j)) := ex_16.trans (((congrArg e2 (nI_clamp (by omega))).trans (hhl j hjz).2.2))
    refine lv_aload_n hx hb dX9_is_28 rfl (lv_at hl 3 rfl) ?_
    have hFc := pg_free hD hS hA
    refine va_calli (va_runV (As := [.int (nI (gq 1 j + 1)), .int (nI (gq 2 j)), .ref q2]) (rest := []) ⟨hx, hb, hml, hown, hts⟩ (s_X0_is_e l dC dI cs ty L H.size F tx (ρ + 1) rx n q2 v2 k2 C2 z (gq 1 j + 1) (gq 2 j) f mm hW hL_tx hT_tx hFx hFr (by omega) (by omega) (hg2) (hg3) (hCM)) ⟨callB_of 3 hts (gi kt_79) rfl rfl rfl (hts _ kt_1) (hts _ kt_162) (by decide +kernel) ⟨Nat.le_of_ble_eq_true rfl, Nat.le_of_ble_eq_true rfl⟩, (hts _ kt_81), (hts _ kt_82)⟩ ⟨fun a U g mk q => ⟨q.1, PTC.calling q.2⟩, pg_recv hK hP hL_tx hFx (q := (RX0, TX0, 3)) rfl, fun U hU hWm => ⟨rfl, PTC.mk hU hWm hP hK hD hE hO hG hX2 hS hFc⟩⟩ rfl rfl hl.1 rfl (lv_room (Nat.le_of_ble_eq_true rfl)) dX9_is_29 ⟨by show _ + 0 ≤ 0; omega, by show _ + 0 ≤ 0; omega⟩) hS (fun q _ h => hFc q h) hFc (fun r_17 u t H1 locs ht hvm hw hB hz1 hk1 hS => ?_)
    obtain ⟨F_18, hB1⟩ := hB
    obtain rfl : F = F_18 := (funext (fun a => hB1.2.2.2 a List.not_mem_nil)).symm
    obtain ⟨hP, hD, hO, hR⟩ := QT.back hB1 ht hFc hR (fun q h => absurd h List.not_mem_nil)
    generalize H1 = H at hP hS ⊢
    have hw : (r_17 = 1 ∧ ((gq 1 j + 1) + k2 = (gq 2 j) ∧ LIT (TC f z) (gq 1 j + 1) mm)) ∨ (r_17 = 0 ∧ ¬ ((gq 1 j + 1) + k2 = (gq 2 j) ∧ LIT (TC f z) (gq 1 j + 1) mm)) := hw
    have hw_19 := hw
    refine lv_if_eq (tgt := 39) hx hb dX9_is_32 (by decide) (fun c_20 => ?_) (fun c_20 => ?_)
    ·
      refine lv_iconst (v := 0) hx hb dX9_is_39 (by decide) ?_
      refine W.widen (k := 0) (n := 0) (by omega) (by omega) ?_
      exact W.zret (v := 0) (ty := .boolean) hx hb hr (by decide) (fun t ht hWm => ⟨⟨0, (), rfl, (Or.inr ⟨rfl, tgv_d hj1 hj2 (fun q => orp0 hw_19 c_20 ⟨by have h9 := q.1; rw [hCM.1] at h9; exact h9, q.2⟩)⟩), ⟨F, QT.mk ht hP hD hO hR⟩⟩, hS.F ht⟩) hS.2.2 dX9_is_40
    ·
      refine lv_iconst (v := 1) hx hb dX9_is_35 (by decide) ?_
      refine lv_goto (tgt := 40) hx hb dX9_is_36 (by decide) ?_
      refine W.widen (k := 0) (n := 0) (by omega) (by omega) ?_
      exact W.zret (v := 1) (ty := .boolean) hx hb hr (by decide) (fun t ht hWm => ⟨⟨1, (), rfl, (Or.inl ⟨rfl, j, hjz, hj1, hj2, (by have h9 := orp1 hw_19 c_20; exact ⟨by rw [hCM.1]; exact h9.1, h9.2⟩)⟩), ⟨F, QT.mk ht hP hD hO hR⟩⟩, hS.F ht⟩) hS.2.2 dX9_is_40
