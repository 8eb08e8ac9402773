def sxT (c : Nat) : Nat := if 65 ≤ c ∧ c ≤ 90 then c - 65 else if 97 ≤ c ∧ c ≤ 122 then c - 97 + 26 else if 48 ≤ c ∧ c ≤ 57 then c - 48 + 52 else if c = 43 then 62 else if c = 47 then 63 else 64
theorem sxT_le (c : Nat) : sxT c ≤ 64 := by
  unfold sxT
  split
  · omega
  split
  · omega
  split
  · omega
  split
  · omega
  split <;> omega
def SXR (c : Nat) (r : Int32) : Prop := (r = (-1) ∧ sxT c = 64) ∨ (r = nI (sxT c) ∧ sxT c < 64)
theorem sxr_a {x : Int32} (h1 : ¬ x < 65) (h2 : ¬ 90 < x) : SXR (cdv x) (x - 65) := by
  have h := (cdv_rng (x := x) (a := 65) (b := 90) (by omega) (by omega)).mpr ⟨h1, h2⟩
  have h9 := cdv_in (x := x) (by omega)
  have e : sxT (cdv x) = cdv x - 65 := if_pos h
  refine Or.inr ⟨?_, by omega⟩
  rw [e]
  exact (congrArg (fun q => q - 65) h9).trans (pk_sub (b := 65) (by omega))
theorem sxr_s {x : Int32} (h0 : ¬ (65 ≤ cdv x ∧ cdv x ≤ 90)) (h : 97 ≤ cdv x ∧ cdv x ≤ 122) : SXR (cdv x) (x - 97 + 26) := by
  have h9 := cdv_in (x := x) (by omega)
  have e : sxT (cdv x) = cdv x - 97 + 26 := (if_neg h0).trans (if_pos h)
  refine Or.inr ⟨?_, by omega⟩
  rw [e]
  refine (congrArg (fun q => q - 97 + 26) h9).trans ?_
  show nI (cdv x) - 97 + 26 = _
  rw [show nI (cdv x) - 97 = nI (cdv x - 97) from pk_sub (b := 97) (by omega)]
  exact nI_add (cdv x - 97) 26
theorem sxr_d {x : Int32} (h0 : ¬ (65 ≤ cdv x ∧ cdv x ≤ 90)) (h1 : ¬ (97 ≤ cdv x ∧ cdv x ≤ 122)) (h : 48 ≤ cdv x ∧ cdv x ≤ 57) : SXR (cdv x) (x - 48 + 52) := by
  have h9 := cdv_in (x := x) (by omega)
  have e : sxT (cdv x) = cdv x - 48 + 52 := (if_neg h0).trans ((if_neg h1).trans (if_pos h))
  refine Or.inr ⟨?_, by omega⟩
  rw [e]
  refine (congrArg (fun q => q - 48 + 52) h9).trans ?_
  show nI (cdv x) - 48 + 52 = _
  rw [show nI (cdv x) - 48 = nI (cdv x - 48) from pk_sub (b := 48) (by omega)]
  exact nI_add (cdv x - 48) 52
theorem sxr_o {c : Nat} (h0 : ¬ (65 ≤ c ∧ c ≤ 90)) (h1 : ¬ (97 ≤ c ∧ c ≤ 122)) (h2 : ¬ (48 ≤ c ∧ c ≤ 57)) : sxT c = if c = 43 then 62 else if c = 47 then 63 else 64 := (if_neg h0).trans ((if_neg h1).trans (if_neg h2))
theorem sxr_p {x : Int32} (h0 : ¬ (65 ≤ cdv x ∧ cdv x ≤ 90)) (h1 : ¬ (97 ≤ cdv x ∧ cdv x ≤ 122)) (h2 : ¬ (48 ≤ cdv x ∧ cdv x ≤ 57)) (h : x = 43) : SXR (cdv x) 62 := by
  have e : sxT (cdv x) = 62 := (sxr_o h0 h1 h2).trans (if_pos ((cdv_eq (by decide)).mpr h))
  exact Or.inr ⟨by rw [e]; rfl, by rw [e]; decide⟩
theorem sxr_l {x : Int32} (h0 : ¬ (65 ≤ cdv x ∧ cdv x ≤ 90)) (h1 : ¬ (97 ≤ cdv x ∧ cdv x ≤ 122)) (h2 : ¬ (48 ≤ cdv x ∧ cdv x ≤ 57)) (h3 : ¬ x = 43) (h : x = 47) : SXR (cdv x) 63 := by
  have e : sxT (cdv x) = 63 := (sxr_o h0 h1 h2).trans ((if_neg (fun q => h3 ((cdv_eq (by decide)).mp q))).trans (if_pos ((cdv_eq (by decide)).mpr h)))
  exact Or.inr ⟨by rw [e]; rfl, by rw [e]; decide⟩
theorem sxr_n {x : Int32} (h0 : ¬ (65 ≤ cdv x ∧ cdv x ≤ 90)) (h1 : ¬ (97 ≤ cdv x ∧ cdv x ≤ 122)) (h2 : ¬ (48 ≤ cdv x ∧ cdv x ≤ 57)) (h3 : ¬ x = 43) (h : ¬ x = 47) : SXR (cdv x) (-1) := Or.inl ⟨rfl, (sxr_o h0 h1 h2).trans ((if_neg (fun q => h3 ((cdv_eq (by decide)).mp q))).trans (if_neg (fun q => h ((cdv_eq (by decide)).mp q))))⟩
def dst (T : Nat → Nat) (a : Nat) : Nat → Nat × List Nat
  | 0 => (0, [])
  | k + 1 => if 8 ≤ 6 * k % 8 + 6 then (((dst T a k).1 * 64 + sxT (T (a + k))) % 2 ^ (6 * k % 8 + 6 - 8), (dst T a k).2 ++ [((dst T a k).1 * 64 + sxT (T (a + k))) / 2 ^ (6 * k % 8 + 6 - 8)]) else ((dst T a k).1 * 64 + sxT (T (a + k)), (dst T a k).2)
theorem dst_y {T : Nat → Nat} {a k : Nat} (h : 8 ≤ 6 * k % 8 + 6) : dst T a (k + 1) = (((dst T a k).1 * 64 + sxT (T (a + k))) % 2 ^ (6 * k % 8 + 6 - 8), (dst T a k).2 ++ [((dst T a k).1 * 64 + sxT (T (a + k))) / 2 ^ (6 * k % 8 + 6 - 8)]) := if_pos h
theorem dst_n {T : Nat → Nat} {a k : Nat} (h : ¬ 8 ≤ 6 * k % 8 + 6) : dst T a (k + 1) = ((dst T a k).1 * 64 + sxT (T (a + k)), (dst T a k).2) := if_neg h
theorem dst_len {T : Nat → Nat} {a : Nat} : ∀ k, (dst T a k).2.length = 6 * k / 8
  | 0 => rfl
  | k + 1 => by
    have h := dst_len (T := T) (a := a) k
    by_cases c : 8 ≤ 6 * k % 8 + 6
    · rw [dst_y c]
      show ((dst T a k).2 ++ [_]).length = _
      rw [List.length_append, h]
      show 6 * k / 8 + 1 = _
      omega
    · rw [dst_n c]
      show (dst T a k).2.length = _
      rw [h]
      omega
theorem b6_c (k : Nat) : 6 * k % 8 = 0 ∨ 6 * k % 8 = 2 ∨ 6 * k % 8 = 4 ∨ 6 * k % 8 = 6 := by omega
theorem dst_lt {T : Nat → Nat} {a : Nat} : ∀ k, (∀ i, i < k → sxT (T (a + i)) < 64) → (dst T a k).1 < 2 ^ (6 * k % 8)
  | 0, _ => by show (0 : Nat) < 2 ^ (6 * 0 % 8); decide
  | k + 1, hs => by
    have h := dst_lt (T := T) (a := a) k (fun i hi => hs i (by omega))
    have h9 := hs k (by omega)
    rcases b6_c k with e | e | e | e
    · rw [dst_n (by omega), show 6 * (k + 1) % 8 = 6 by omega]
      rw [e] at h
      show (dst T a k).1 * 64 + sxT (T (a + k)) < 64
      have h8 : (dst T a k).1 < 1 := h
      omega
    · rw [dst_y (by omega), show 6 * (k + 1) % 8 = 0 by omega, e]
      exact Nat.mod_lt _ (by decide)
    · rw [dst_y (by omega), show 6 * (k + 1) % 8 = 2 by omega, e]
      exact Nat.mod_lt _ (by decide)
    · rw [dst_y (by omega), show 6 * (k + 1) % 8 = 4 by omega, e]
      exact Nat.mod_lt _ (by decide)
theorem dst_h {T : Nat → Nat} {a k : Nat} (hs : ∀ i, i < k → sxT (T (a + i)) < 64) : (dst T a k).1 < 64 := by
  have h := dst_lt k hs
  rcases b6_c k with e | e | e | e <;> rw [e] at h
  · have h8 : (dst T a k).1 < 1 := h
    omega
  · have h8 : (dst T a k).1 < 4 := h
    omega
  · have h8 : (dst T a k).1 < 16 := h
    omega
  · exact h
theorem dst_b {T : Nat → Nat} {a k : Nat} (hs : ∀ i, i < k → sxT (T (a + i)) < 64) (h6 : sxT (T (a + k)) < 64) (c : 8 ≤ 6 * k % 8 + 6) : ((dst T a k).1 * 64 + sxT (T (a + k))) / 2 ^ (6 * k % 8 + 6 - 8) < 256 := by
  have h := dst_lt k hs
  rcases b6_c k with e | e | e | e <;> rw [e] at h ⊢
  · omega
  · have h8 : (dst T a k).1 < 4 := h
    show _ / 1 < 256
    omega
  · have h8 : (dst T a k).1 < 16 := h
    show _ / 4 < 256
    omega
  · have h8 : (dst T a k).1 < 64 := h
    show _ / 16 < 256
    omega
theorem or6 : ∀ h, h < 64 → ∀ s, s < 64 → shl (nI h) 6 ||| nI s = nI (h * 64 + s) := by decide +kernel
theorem sr_0p : ∀ u, u < 64 → ∀ v, v < 64 → ush (nI (u * 64 + v)) (nI 0) = nI ((u * 64 + v) / 2 ^ 0) ∧ nI (u * 64 + v) &&& (shl 1 (nI 0) - 1) = nI ((u * 64 + v) % 2 ^ 0) := by decide +kernel
theorem sr_0 : ∀ h, h < 4096 → ush (nI h) (nI 0) = nI (h / 2 ^ 0) ∧ nI h &&& (shl 1 (nI 0) - 1) = nI (h % 2 ^ 0) := fun h hh => by
  have h9 := sr_0p (h / 64) (by omega) (h % 64) (by omega)
  rw [show h / 64 * 64 + h % 64 = h by omega] at h9
  exact h9
theorem sr_2p : ∀ u, u < 64 → ∀ v, v < 64 → ush (nI (u * 64 + v)) (nI 2) = nI ((u * 64 + v) / 2 ^ 2) ∧ nI (u * 64 + v) &&& (shl 1 (nI 2) - 1) = nI ((u * 64 + v) % 2 ^ 2) := by decide +kernel
theorem sr_2 : ∀ h, h < 4096 → ush (nI h) (nI 2) = nI (h / 2 ^ 2) ∧ nI h &&& (shl 1 (nI 2) - 1) = nI (h % 2 ^ 2) := fun h hh => by
  have h9 := sr_2p (h / 64) (by omega) (h % 64) (by omega)
  rw [show h / 64 * 64 + h % 64 = h by omega] at h9
  exact h9
theorem sr_4p : ∀ u, u < 64 → ∀ v, v < 64 → ush (nI (u * 64 + v)) (nI 4) = nI ((u * 64 + v) / 2 ^ 4) ∧ nI (u * 64 + v) &&& (shl 1 (nI 4) - 1) = nI ((u * 64 + v) % 2 ^ 4) := by decide +kernel
theorem sr_4 : ∀ h, h < 4096 → ush (nI h) (nI 4) = nI (h / 2 ^ 4) ∧ nI h &&& (shl 1 (nI 4) - 1) = nI (h % 2 ^ 4) := fun h hh => by
  have h9 := sr_4p (h / 64) (by omega) (h % 64) (by omega)
  rw [show h / 64 * 64 + h % 64 = h by omega] at h9
  exact h9
theorem sr_k {h k : Nat} (hh : h < 4096) (c : 8 ≤ 6 * k % 8 + 6) : ush (nI h) (nI (6 * k % 8 + 6 - 8)) = nI (h / 2 ^ (6 * k % 8 + 6 - 8)) ∧ nI h &&& (shl 1 (nI (6 * k % 8 + 6 - 8)) - 1) = nI (h % 2 ^ (6 * k % 8 + 6 - 8)) := by
  rcases b6_c k with e | e | e | e <;> rw [e] at c ⊢
  · omega
  · exact sr_0 h hh
  · exact sr_2 h hh
  · exact sr_4 h hh
def DCI (T : Nat → Nat) (a k : Nat) (h y : Nat) (fo : Nat → Int32) : Prop := (∀ i, i < k → sxT (T (a + i)) < 64) ∧ h = (dst T a k).1 ∧ y = (dst T a k).2.length ∧ ∀ j, j < y → (dst T a k).2.getD j 0 < 256 ∧ fo j = nI ((dst T a k).2.getD j 0)
theorem dci_0 {T : Nat → Nat} {a : Nat} {fo : Nat → Int32} : DCI T a 0 0 0 fo := ⟨fun i hi => absurd hi (Nat.not_lt_zero _), rfl, rfl, fun j hj => absurd hj (Nat.not_lt_zero _)⟩
theorem dci_all {T : Nat → Nat} {a k : Nat} (h1 : ∀ i, i < k → sxT (T (a + i)) < 64) (h6 : sxT (T (a + k)) < 64) : ∀ i, i < k + 1 → sxT (T (a + i)) < 64 := fun i hi => by
  rcases Nat.lt_or_ge i k with q | q
  · exact h1 i q
  · rw [show i = k by omega]
    exact h6
theorem dci_n {T : Nat → Nat} {a k h y : Nat} {fo : Nat → Int32} (H : DCI T a k h y fo) (h6 : sxT (T (a + k)) < 64) (c : ¬ 8 ≤ 6 * k % 8 + 6) : DCI T a (k + 1) (h * 64 + sxT (T (a + k))) y fo := by
  obtain ⟨h1, h2, h3, h4⟩ := H
  refine ⟨dci_all h1 h6, ?_⟩
  rw [dst_n c]
  exact ⟨by rw [h2], h3, h4⟩
theorem dci_y {T : Nat → Nat} {a k h y : Nat} {fo : Nat → Int32} {x : Int32} (H : DCI T a k h y fo) (h6 : sxT (T (a + k)) < 64) (c : 8 ≤ 6 * k % 8 + 6) (hx : x = nI ((h * 64 + sxT (T (a + k))) / 2 ^ (6 * k % 8 + 6 - 8))) : DCI T a (k + 1) ((h * 64 + sxT (T (a + k))) % 2 ^ (6 * k % 8 + 6 - 8)) (y + 1) (upd fo y x) := by
  obtain ⟨h1, h2, h3, h4⟩ := H
  refine ⟨dci_all h1 h6, ?_⟩
  have hb := dst_b h1 h6 c
  rw [dst_y c]
  rw [← h2] at hb ⊢
  refine ⟨rfl, by show y + 1 = ((dst T a k).2 ++ [_]).length; rw [List.length_append, ← h3]; rfl, fun j hj => ?_⟩
  show ((dst T a k).2 ++ [_]).getD j 0 < 256 ∧ _ = nI (((dst T a k).2 ++ [_]).getD j 0)
  by_cases e : j = y
  · have h9 : ((dst T a k).2 ++ [(h * 64 + sxT (T (a + k))) / 2 ^ (6 * k % 8 + 6 - 8)]).getD y 0 = (h * 64 + sxT (T (a + k))) / 2 ^ (6 * k % 8 + 6 - 8) := by
      have h8 := apl_r (W := [(h * 64 + sxT (T (a + k))) / 2 ^ (6 * k % 8 + 6 - 8)]) (dst T a k).2 0
      rw [← h3] at h8
      exact h8
    rw [e, h9, updc_at]
    exact ⟨hb, hx⟩
  · rw [apl_l _ _ (by omega), updc_ne e]
    exact h4 j (by omega)
def DCD (T : Nat → Nat) (a e w : Nat) : Prop := a + (w + 2) / 3 * 4 = e ∧ (∀ i, i < (w * 4 + 2) / 3 → sxT (T (a + i)) < 64) ∧ (∀ i, a + (w * 4 + 2) / 3 ≤ i → i < e → T i = 61) ∧ (dst T a ((w * 4 + 2) / 3)).1 = 0
def dcB (T : Nat → Nat) (a w : Nat) : Nat → Nat := fun j => (dst T a ((w * 4 + 2) / 3)).2.getD j 0
theorem dci_e {T : Nat → Nat} {a k h y w : Nat} {fo : Nat → Int32} (H : DCI T a k h y fo) (hk : k = (w * 4 + 2) / 3) (hw : w = 32 ∨ w = 64) : y = w ∧ BYT (dcB T a w) w fo := by
  obtain ⟨h1, h2, h3, h4⟩ := H
  have hy : y = w := by
    rw [h3, dst_len]
    omega
  subst hk
  rw [hy] at h4
  exact ⟨hy, h4⟩
set_option maxHeartbeats 4000000 in
set_option maxRecDepth 100000 in
theorem s_X0_sixOf_e (l : Launch) (dC : Nat → ClassId) (dI : Nat → Nat → Nat) (cs : Nat → ClassId) (ty : TyM) (L : List Nat) (sz : Nat) (F : Nat → va_E) (x1 : Int32) (hW : WT ty L) : Met l yX0_sixOf (.code yX0_sixOf cX0_sixOf 1 (some .int) :: tb) ({ frames := 1, cells := 0, slots := 0, locals := 20 }) (va_Pc [.int x1] (PT (dC, dI) cs ty L F sz)) (va_Qi (fun (r : Int32) (_ : Unit) => SXR (cdv x1) r) (fun _ T9 => ∃ F2 : Nat → va_E, QT (dC, dI) cs ty L [] F F2 (va_A (va_pl L F) sz) T9) (va_A (va_pl L F) sz)) 0 0 (va_A (va_pl L F) sz) := by
  refine Met.ofW (cc := cX0_sixOf) (maxL := 1) (ret := (some .int)) (by decide) rfl ?_
  intro p e s m args below meth c s₁ B hml hv
  obtain ⟨rfl, hsz, hP, hK, hD0, hE, hO⟩ := hv
  have hx := B.exec
  have hb := B.bytes
  have hr := B.returns
  have hts : ∀ w ∈ tb, w.before _ s = true := fun w h => atoms_spec (ws := .code yX0_sixOf cX0_sixOf 1 (some .int) :: tb) B.pre w (List.mem_cons_of_mem _ h)
  have hown : s.vm.findClass RX0 = some m.cls := findClass_of_methodNamed B.named
  have hlocks := B.notSynchronized
  subst hsz
  have hD := hD0.self (sz := s.heap.size)
  generalize hAe : va_A (va_pl L F) s.heap.size = A at hD ⊢
  have hA : ∀ q : Nat, s.heap.size ≤ q → A q := fun q h => by rw [← hAe]; exact Or.inr h
  have hS : va_S A s.heap s.heap [] := va_S.rf
  have hR : FR ty [] F F := FR.refl
  have hl := lv_entry ([.int x1]) (n := 1) (Nat.le_of_ble_eq_true rfl)
  rw [lg_entry_eq]
  generalize (lg_sl ([.int x1]) ++ List.replicate (1 - (lg_sl ([.int x1])).length) Slot.unset).toArray = ls at hl ⊢
  have hl : lv_has ls 1 [(0, .int x1)] := hl
  refine lv_iload_n hx hb dX0_sixOf_0 rfl (lv_at hl 0 rfl) ?_
  refine lv_bipush (v := 65) hx hb dX0_sixOf_1 (by decide) ?_
  refine lv_icmp_lt (tgt := 17) hx hb dX0_sixOf_3 (by decide) (fun c_1 => ?_) (fun c_1 => ?_)
  ·
    have hn0 : ¬ (65 ≤ cdv x1 ∧ cdv x1 ≤ 90) := fun q => ((cdv_rng (a := 65) (b := 90) (by omega) (by omega)).mp q).1 c_1
    refine lv_iload_n hx hb dX0_sixOf_17 rfl (lv_at hl 0 rfl) ?_
    have hFc := pg_free hD hS hA
    refine va_calli (va_runS (As := [.int x1]) (rest := []) ⟨hx, hb, hml, hown, hts⟩ (s_X0_isSmall_e l dC dI cs ty L s.heap.size F x1 hW ) ⟨callB_of 1 hts (gi kt_4) rfl rfl rfl (hts _ kt_1) (hts _ kt_5) (by decide +kernel) ⟨Nat.le_of_ble_eq_true rfl, Nat.le_of_ble_eq_true rfl⟩, (hts _ kt_6)⟩ ⟨fun a U g mk q => ⟨q.1, PT.calling q.2⟩, fun U hU hWm => ⟨rfl, PT.mk hU hWm hP hK hD hE hO⟩⟩ rfl rfl hl.1 rfl (lv_room (Nat.le_of_ble_eq_true rfl)) dX0_sixOf_18 ⟨by show _ + 0 ≤ 0; omega, by show _ + 0 ≤ 0; omega⟩) hS (fun q _ h => hFc q h) hFc (fun r_2 u t H1 locs ht hvm hw hB hz1 hk1 hS => ?_)
    obtain ⟨F_3, hB1⟩ := hB
    obtain rfl : F = F_3 := (funext (fun a => hB1.2.2.2 a List.not_mem_nil)).symm
    obtain ⟨hP, hD, hO, hR⟩ := QT.back hB1 ht hFc hR (fun q h => absurd h List.not_mem_nil)
    generalize H1 = H at hP hS ⊢
    have hw : r_2 = (if 97 ≤ x1 ∧ x1 ≤ 122 then 1 else 0) := hw
    have hw_4 := hw
    refine lv_if_eq (tgt := 32) hx hb dX0_sixOf_21 (by decide) (fun c_5 => ?_) (fun c_5 => ?_)
    ·
      refine lv_iload_n hx hb dX0_sixOf_32 rfl (lv_at hl 0 rfl) ?_
      have hFc := pg_free hD hS hA
      refine va_calli (va_runS (As := [.int x1]) (rest := []) ⟨hx, hb, hml, hown, hts⟩ (s_X0_isDigit_e l dC dI cs ty L H.size F x1 hW ) ⟨callB_of 1 hts (gi kt_7) rfl rfl rfl (hts _ kt_1) (hts _ kt_8) (by decide +kernel) ⟨Nat.le_of_ble_eq_true rfl, Nat.le_of_ble_eq_true rfl⟩, (hts _ kt_9)⟩ ⟨fun a U g mk q => ⟨q.1, PT.calling q.2⟩, fun U hU hWm => ⟨rfl, PT.mk hU hWm hP hK hD hE hO⟩⟩ rfl rfl hl.1 rfl (lv_room (Nat.le_of_ble_eq_true rfl)) dX0_sixOf_33 ⟨by show _ + 0 ≤ 0; omega, by show _ + 0 ≤ 0; omega⟩) hS (fun q _ h => hFc q h) hFc (fun r_6 u t H1 locs ht hvm hw hB hz1 hk1 hS => ?_)
      obtain ⟨F_7, hB1⟩ := hB
      obtain rfl : F = F_7 := (funext (fun a => hB1.2.2.2 a List.not_mem_nil)).symm
      obtain ⟨hP, hD, hO, hR⟩ := QT.back hB1 ht hFc hR (fun q h => absurd h List.not_mem_nil)
      generalize H1 = H at hP hS ⊢
      have hw : r_6 = (if 48 ≤ x1 ∧ x1 ≤ 57 then 1 else 0) := hw
      have hw_8 := hw
      refine lv_if_eq (tgt := 47) hx hb dX0_sixOf_36 (by decide) (fun c_9 => ?_) (fun c_9 => ?_)
      ·
        refine lv_iload_n hx hb dX0_sixOf_47 rfl (lv_at hl 0 rfl) ?_
        refine lv_bipush (v := 43) hx hb dX0_sixOf_48 (by decide) ?_
        refine lv_icmp_ne (tgt := 58) hx hb dX0_sixOf_50 (by decide) (fun c_10 => ?_) (fun c_10 => ?_)
        ·
          refine lv_iload_n hx hb dX0_sixOf_58 rfl (lv_at hl 0 rfl) ?_
          refine lv_bipush (v := 47) hx hb dX0_sixOf_59 (by decide) ?_
          refine lv_icmp_ne (tgt := 69) hx hb dX0_sixOf_61 (by decide) (fun c_11 => ?_) (fun c_11 => ?_)
          ·
            refine lv_iconst (v := (-1)) hx hb dX0_sixOf_69 (by decide) ?_
            refine W.widen (k := 0) (n := 0) (by omega) (by omega) ?_
            exact W.iret (v := (-1)) hx hb hr (fun t ht hWm => ⟨⟨(-1), (), rfl, (sxr_n hn0 (sms_n hw_4 c_5) (sme_n hw_8 c_9) c_10 c_11), ⟨F, QT.mk ht hP hD hO hR⟩⟩, hS.F ht⟩) hS.2.2 dX0_sixOf_70
          ·
            refine lv_bipush (v := 63) hx hb dX0_sixOf_64 (by decide) ?_
            refine lv_goto (tgt := 70) hx hb dX0_sixOf_66 (by decide) ?_
            refine W.widen (k := 0) (n := 0) (by omega) (by omega) ?_
            exact W.iret (v := 63) hx hb hr (fun t ht hWm => ⟨⟨63, (), rfl, (sxr_l hn0 (sms_n hw_4 c_5) (sme_n hw_8 c_9) c_10 c_11), ⟨F, QT.mk ht hP hD hO hR⟩⟩, hS.F ht⟩) hS.2.2 dX0_sixOf_70
        ·
          refine lv_bipush (v := 62) hx hb dX0_sixOf_53 (by decide) ?_
          refine lv_goto (tgt := 70) hx hb dX0_sixOf_55 (by decide) ?_
          refine W.widen (k := 0) (n := 0) (by omega) (by omega) ?_
          exact W.iret (v := 62) hx hb hr (fun t ht hWm => ⟨⟨62, (), rfl, (sxr_p hn0 (sms_n hw_4 c_5) (sme_n hw_8 c_9) c_10), ⟨F, QT.mk ht hP hD hO hR⟩⟩, hS.F ht⟩) hS.2.2 dX0_sixOf_70
      ·
        refine lv_iload_n hx hb dX0_sixOf_39 rfl (lv_at hl 0 rfl) ?_
        refine lv_bipush (v := 48) hx hb dX0_sixOf_40 (by decide) ?_
        refine lv_isub hx hb dX0_sixOf_42 ?_
        refine lv_topi (fun x_12 ex_12 => ?_)
        obtain rfl : x_12 = (x1 - 48) := ex_12.trans (rfl)
        refine lv_bipush (v := 52) hx hb dX0_sixOf_43 (by decide) ?_
        refine lv_iadd hx hb dX0_sixOf_45 ?_
        refine lv_topi (fun x_13 ex_13 => ?_)
        obtain rfl : x_13 = ((x1 - 48) + 52) := ex_13.trans (rfl)
        refine W.widen (k := 0) (n := 0) (by omega) (by omega) ?_
        exact W.iret (v := ((x1 - 48) + 52)) hx hb hr (fun t ht hWm => ⟨⟨((x1 - 48) + 52), (), rfl, (sxr_d hn0 (sms_n hw_4 c_5) (sme_d hw_8 c_9)), ⟨F, QT.mk ht hP hD hO hR⟩⟩, hS.F ht⟩) hS.2.2 dX0_sixOf_46
    ·
      refine lv_iload_n hx hb dX0_sixOf_24 rfl (lv_at hl 0 rfl) ?_
      refine lv_bipush (v := 97) hx hb dX0_sixOf_25 (by decide) ?_
      refine lv_isub hx hb dX0_sixOf_27 ?_
      refine lv_topi (fun x_14 ex_14 => ?_)
      obtain rfl : x_14 = (x1 - 97) := ex_14.trans (rfl)
      refine lv_bipush (v := 26) hx hb dX0_sixOf_28 (by decide) ?_
      refine lv_iadd hx hb dX0_sixOf_30 ?_
      refine lv_topi (fun x_15 ex_15 => ?_)
      obtain rfl : x_15 = ((x1 - 97) + 26) := ex_15.trans (rfl)
      refine W.widen (k := 0) (n := 0) (by omega) (by omega) ?_
      exact W.iret (v := ((x1 - 97) + 26)) hx hb hr (fun t ht hWm => ⟨⟨((x1 - 97) + 26), (), rfl, (sxr_s hn0 (sms_d hw_4 c_5)), ⟨F, QT.mk ht hP hD hO hR⟩⟩, hS.F ht⟩) hS.2.2 dX0_sixOf_31
  ·
    refine lv_iload_n hx hb dX0_sixOf_6 rfl (lv_at hl 0 rfl) ?_
    refine lv_bipush (v := 90) hx hb dX0_sixOf_7 (by decide) ?_
    refine lv_icmp_gt (tgt := 17) hx hb dX0_sixOf_9 (by decide) (fun c_16 => ?_) (fun c_16 => ?_)
    ·
      have hn0 : ¬ (65 ≤ cdv x1 ∧ cdv x1 ≤ 90) := fun q => ((cdv_rng (a := 65) (b := 90) (by omega) (by omega)).mp q).2 c_16
      refine lv_iload_n hx hb dX0_sixOf_17 rfl (lv_at hl 0 rfl) ?_
      have hFc := pg_free hD hS hA
      refine va_calli (va_runS (As := [.int x1]) (rest := []) ⟨hx, hb, hml, hown, hts⟩ (s_X0_isSmall_e l dC dI cs ty L s.heap.size F x1 hW ) ⟨callB_of 1 hts (gi kt_4) rfl rfl rfl (hts _ kt_1) (hts _ kt_5) (by decide +kernel) ⟨Nat.le_of_ble_eq_true rfl, Nat.le_of_ble_eq_true rfl⟩, (hts _ kt_6)⟩ ⟨fun a U g mk q => ⟨q.1, PT.calling q.2⟩, fun U hU hWm => ⟨rfl, PT.mk hU hWm hP hK hD hE hO⟩⟩ rfl rfl hl.1 rfl (lv_room (Nat.le_of_ble_eq_true rfl)) dX0_sixOf_18 ⟨by show _ + 0 ≤ 0; omega, by show _ + 0 ≤ 0; omega⟩) hS (fun q _ h => hFc q h) hFc (fun r_17 u t H1 locs ht hvm hw hB hz1 hk1 hS => ?_)
      obtain ⟨F_18, hB1⟩ := hB
      obtain rfl : F = F_18 := (funext (fun a => hB1.2.2.2 a List.not_mem_nil)).symm
      obtain ⟨hP, hD, hO, hR⟩ := QT.back hB1 ht hFc hR (fun q h => absurd h List.not_mem_nil)
      generalize H1 = H at hP hS ⊢
      have hw : r_17 = (if 97 ≤ x1 ∧ x1 ≤ 122 then 1 else 0) := hw
      have hw_19 := hw
      refine lv_if_eq (tgt := 32) hx hb dX0_sixOf_21 (by decide) (fun c_20 => ?_) (fun c_20 => ?_)
      ·
        refine lv_iload_n hx hb dX0_sixOf_32 rfl (lv_at hl 0 rfl) ?_
        have hFc := pg_free hD hS hA
        refine va_calli (va_runS (As := [.int x1]) (rest := []) ⟨hx, hb, hml, hown, hts⟩ (s_X0_isDigit_e l dC dI cs ty L H.size F x1 hW ) ⟨callB_of 1 hts (gi kt_7) rfl rfl rfl (hts _ kt_1) (hts _ kt_8) (by decide +kernel) ⟨Nat.le_of_ble_eq_true rfl, Nat.le_of_ble_eq_true rfl⟩, (hts _ kt_9)⟩ ⟨fun a U g mk q => ⟨q.1, PT.calling q.2⟩, fun U hU hWm => ⟨rfl, PT.mk hU hWm hP hK hD hE hO⟩⟩ rfl rfl hl.1 rfl (lv_room (Nat.le_of_ble_eq_true rfl)) dX0_sixOf_33 ⟨by show _ + 0 ≤ 0; omega, by show _ + 0 ≤ 0; omega⟩) hS (fun q _ h => hFc q h) hFc (fun r_21 u t H1 locs ht hvm hw hB hz1 hk1 hS => ?_)
        obtain ⟨F_22, hB1⟩ := hB
        obtain rfl : F = F_22 := (funext (fun a => hB1.2.2.2 a List.not_mem_nil)).symm
        obtain ⟨hP, hD, hO, hR⟩ := QT.back hB1 ht hFc hR (fun q h => absurd h List.not_mem_nil)
        generalize H1 = H at hP hS ⊢
        have hw : r_21 = (if 48 ≤ x1 ∧ x1 ≤ 57 then 1 else 0) := hw
        have hw_23 := hw
        refine lv_if_eq (tgt := 47) hx hb dX0_sixOf_36 (by decide) (fun c_24 => ?_) (fun c_24 => ?_)
        ·
          refine lv_iload_n hx hb dX0_sixOf_47 rfl (lv_at hl 0 rfl) ?_
          refine lv_bipush (v := 43) hx hb dX0_sixOf_48 (by decide) ?_
          refine lv_icmp_ne (tgt := 58) hx hb dX0_sixOf_50 (by decide) (fun c_25 => ?_) (fun c_25 => ?_)
          ·
            refine lv_iload_n hx hb dX0_sixOf_58 rfl (lv_at hl 0 rfl) ?_
            refine lv_bipush (v := 47) hx hb dX0_sixOf_59 (by decide) ?_
            refine lv_icmp_ne (tgt := 69) hx hb dX0_sixOf_61 (by decide) (fun c_26 => ?_) (fun c_26 => ?_)
            ·
              refine lv_iconst (v := (-1)) hx hb dX0_sixOf_69 (by decide) ?_
              refine W.widen (k := 0) (n := 0) (by omega) (by omega) ?_
              exact W.iret (v := (-1)) hx hb hr (fun t ht hWm => ⟨⟨(-1), (), rfl, (sxr_n hn0 (sms_n hw_19 c_20) (sme_n hw_23 c_24) c_25 c_26), ⟨F, QT.mk ht hP hD hO hR⟩⟩, hS.F ht⟩) hS.2.2 dX0_sixOf_70
            ·
              refine lv_bipush (v := 63) hx hb dX0_sixOf_64 (by decide) ?_
              refine lv_goto (tgt := 70) hx hb dX0_sixOf_66 (by decide) ?_
              refine W.widen (k := 0) (n := 0) (by omega) (by omega) ?_
              exact W.iret (v := 63) hx hb hr (fun t ht hWm => ⟨⟨63, (), rfl, (sxr_l hn0 (sms_n hw_19 c_20) (sme_n hw_23 c_24) c_25 c_26), ⟨F, QT.mk ht hP hD hO hR⟩⟩, hS.F ht⟩) hS.2.2 dX0_sixOf_70
          ·
            refine lv_bipush (v := 62) hx hb dX0_sixOf_53 (by decide) ?_
            refine lv_goto (tgt := 70) hx hb dX0_sixOf_55 (by decide) ?_
            refine W.widen (k := 0) (n := 0) (by omega) (by omega) ?_
            exact W.iret (v := 62) hx hb hr (fun t ht hWm => ⟨⟨62, (), rfl, (sxr_p hn0 (sms_n hw_19 c_20) (sme_n hw_23 c_24) c_25), ⟨F, QT.mk ht hP hD hO hR⟩⟩, hS.F ht⟩) hS.2.2 dX0_sixOf_70
        ·
          refine lv_iload_n hx hb dX0_sixOf_39 rfl (lv_at hl 0 rfl) ?_
          refine lv_bipush (v := 48) hx hb dX0_sixOf_40 (by decide) ?_
          refine lv_isub hx hb dX0_sixOf_42 ?_
          refine lv_topi (fun x_27 ex_27 => ?_)
          obtain rfl : x_27 = (x1 - 48) := ex_27.trans (rfl)
          refine lv_bipush (v := 52) hx hb dX0_sixOf_43 (by decide) ?_
          refine lv_iadd hx hb dX0_sixOf_45 ?_
          refine lv_topi (fun x_28 ex_28 => ?_)
          obtain rfl : x_28 = ((x1 - 48) + 52) := ex_28.trans (rfl)
          refine W.widen (k := 0) (n := 0) (by omega) (by omega) ?_
          exact W.iret (v := ((x1 - 48) + 52)) hx hb hr (fun t ht hWm => ⟨⟨((x1 - 48) + 52), (), rfl, (sxr_d hn0 (sms_n hw_19 c_20) (sme_d hw_23 c_24)), ⟨F, QT.mk ht hP hD hO hR⟩⟩, hS.F ht⟩) hS.2.2 dX0_sixOf_46
      ·
        refine lv_iload_n hx hb dX0_sixOf_24 rfl (lv_at hl 0 rfl) ?_
        refine lv_bipush (v := 97) hx hb dX0_sixOf_25 (by decide) ?_
        refine lv_isub hx hb dX0_sixOf_27 ?_
        refine lv_topi (fun x_29 ex_29 => ?_)
        obtain rfl : x_29 = (x1 - 97) := ex_29.trans (rfl)
        refine lv_bipush (v := 26) hx hb dX0_sixOf_28 (by decide) ?_
        refine lv_iadd hx hb dX0_sixOf_30 ?_
        refine lv_topi (fun x_30 ex_30 => ?_)
        obtain rfl : x_30 = ((x1 - 97) + 26) := ex_30.trans (rfl)
        refine W.widen (k := 0) (n := 0) (by omega) (by omega) ?_
        exact W.iret (v := ((x1 - 97) + 26)) hx hb hr (fun t ht hWm => ⟨⟨((x1 - 97) + 26), (), rfl, (sxr_s hn0 (sms_d hw_19 c_20)), ⟨F, QT.mk ht hP hD hO hR⟩⟩, hS.F ht⟩) hS.2.2 dX0_sixOf_31
    ·
      refine lv_iload_n hx hb dX0_sixOf_12 rfl (lv_at hl 0 rfl) ?_
      refine lv_bipush (v := 65) hx hb dX0_sixOf_13 (by decide) ?_
      refine lv_isub hx hb dX0_sixOf_15 ?_
      refine lv_topi (fun x_31 ex_31 => ?_)
      obtain rfl : x_31 = (x1 - 65) := ex_31.trans (rfl)
      refine W.widen (k := 0) (n := 0) (by omega) (by omega) ?_
      exact W.iret (v := (x1 - 65)) hx hb hr (fun t ht hWm => ⟨⟨(x1 - 65), (), rfl, (sxr_a c_1 c_16), ⟨F, QT.mk ht hP hD hO hR⟩⟩, hS.F ht⟩) hS.2.2 dX0_sixOf_16
set_option maxHeartbeats 4000000 in
set_option maxRecDepth 100000 in
theorem s_X0_decode_e (l : Launch) (dC : Nat → ClassId) (dI : Nat → Nat → Nat) (cs : Nat → ClassId) (ty : TyM) (L : List Nat) (sz : Nat) (F : Nat → va_E) (h0 : Nat) (ρ : Nat) (r0 : Nat) (n : Nat) (g1 : Nat) (σ : Nat) (r1 : Nat) (n1 : Nat) (z : Nat) (a : Nat) (e1 : Nat) (w : Nat) (f : Nat → Int32) (hW : WT ty L) (hL_h0 : h0 ∈ L) (hT_h0 : ty h0 = (0, ρ, [r0, n])) (hL_g1 : g1 ∈ L) (hT_g1 : ty g1 = (0, σ, [r1, n1])) (hFg : F g1 = .inr (0, [.ref r1, .int (nI z), .int 0])) (hFr : F r1 = .inl (cs 16, n1, .inl f)) (hzn : z ≤ n1) (hn9 : n1 ≤ 10000) (hab : a ≤ e1) (hez : e1 ≤ z) (hw2 : w = 32 ∨ w = 64) (hwn : w ≤ n) (hm9 : n ≤ 10000) (hsr : σ ≠ ρ) : Met l yX0_decode (.code yX0_decode cX0_decode 10 (some .boolean) :: tb) ({ frames := 2, cells := 0, slots := 0, locals := 40 }) (va_Pc [.ref h0, .ref g1, .int (nI a), .int (nI e1), .int (nI w)] (PT (dC, dI) cs ty L F sz)) (va_Qi (fun (r : Int32) (gz : Nat) => (r = 1 ∧ DCD (TC f z) a e1 w ∧ gz = w) ∨ (r = 0 ∧ ¬ DCD (TC f z) a e1 w)) (fun (gz : Nat) T9 => ∃ F2 : Nat → va_E, ∃ f2 : Nat → Int32, QT (dC, dI) cs ty L [ρ] F F2 (va_A (va_pl L F) sz) T9 ∧ F2 h0 = .inr (0, [.ref r0, .int (nI gz), .int 0]) ∧ F2 r0 = .inl (cs 16, n, .inl f2) ∧ (DCD (TC f z) a e1 w → BYT (dcB (TC f z) a w) w f2)) (va_A (va_pl L F) sz)) 0 0 (va_A (va_pl L F) sz) := by
  refine Met.ofW (cc := cX0_decode) (maxL := 10) (ret := (some .boolean)) (by decide) rfl ?_
  intro p e s m args below meth c s₁ B hml hv
  obtain ⟨rfl, hsz, hP, hK, hD0, hE, hO⟩ := hv
  have hx := B.exec
  have hb := B.bytes
  have hr := B.returns
  have hts : ∀ w ∈ tb, w.before _ s = true := fun w h => atoms_spec (ws := .code yX0_decode cX0_decode 10 (some .boolean) :: tb) B.pre w (List.mem_cons_of_mem _ h)
  have hown : s.vm.findClass RX0 = some m.cls := findClass_of_methodNamed B.named
  have hlocks := B.notSynchronized
  subst hsz
  have hD := hD0.self (sz := s.heap.size)
  generalize hAe : va_A (va_pl L F) s.heap.size = A at hD ⊢
  have hA : ∀ q : Nat, s.heap.size ≤ q → A q := fun q h => by rw [← hAe]; exact Or.inr h
  have hS : va_S A s.heap s.heap [] := va_S.rf
  have hR : FR ty [ρ] F F := FR.refl
  have hl := lv_entry ([.ref h0, .ref g1, .int (nI a), .int (nI e1), .int (nI w)]) (n := 10) (Nat.le_of_ble_eq_true rfl)
  rw [lg_entry_eq]
  generalize (lg_sl ([.ref h0, .ref g1, .int (nI a), .int (nI e1), .int (nI w)]) ++ List.replicate (10 - (lg_sl ([.ref h0, .ref g1, .int (nI a), .int (nI e1), .int (nI w)])).length) Slot.unset).toArray = ls at hl ⊢
  have hl : lv_has ls 10 [(0, .ref h0), (1, .ref g1), (2, .int (nI a)), (3, .int (nI e1)), (4, .int (nI w))] := hl
  obtain ⟨hi_1, ht_2, hq_3⟩ := hW.bytes hL_h0 hT_h0
  obtain ⟨hi_4, ht_5, hq_6⟩ := hW.bytes hL_g1 hT_g1
  refine lv_aload_n hx hb dX0_decode_0 rfl (lv_at hl 0 rfl) ?_
  have hFc := pg_free hD hS hA
  obtain ⟨z_7, o_8, hF_9, hq_10, hq_11⟩ := hO.bytes hL_h0 hT_h0
  refine va_callv (va_runV (As := []) (rest := []) ⟨hx, hb, hml, hown, hts⟩ (s_X0_clear l dC dI cs ty L s.heap.size F h0 ρ r0 n hW hL_h0 hT_h0) ⟨callB_of 0 hts (gi kt_32) rfl rfl rfl (hts _ kt_1) (hts _ kt_33) (by decide +kernel) ⟨Nat.le_of_ble_eq_true rfl, Nat.le_of_ble_eq_true rfl⟩, (hts _ kt_34), (hts _ kt_35)⟩ ⟨fun a U g mk q => ⟨q.1, PT.calling q.2⟩, pg_recv hK hP hL_h0 hF_9 (q := (RX0, TX0, 3)) rfl, fun U hU hWm => ⟨rfl, PT.mk hU hWm hP hK hD hE hO⟩⟩ rfl rfl hl.1 rfl (lv_room (Nat.le_of_ble_eq_true rfl)) dX0_decode_1 ⟨by show _ + 0 ≤ 0; omega, by show _ + 0 ≤ 0; omega⟩) hS (fun q _ h => hFc q h) hFc (fun u t H1 locs ht hvm hw hB hz1 hk1 hS => ?_)
  obtain ⟨F_13, hB1, hq_14⟩ := hB
  obtain ⟨hP, hD, hO, hR⟩ := QT.back hB1 ht hFc hR (fun q h => by simp only [List.mem_cons, List.not_mem_nil, or_false] at h ⊢; omega)
  have hF_15 : F_13 g1 = .inr (0, [.ref r1, .int (nI z), .int 0]) := (hB1.2.2.2 g1 (by rw [hT_g1]; simp only [List.mem_cons, List.not_mem_nil, or_false]; omega)).trans hFg
  have hF_16 : F_13 r1 = .inl (cs 16, n1, .inl f) := (hB1.2.2.2 r1 (by rw [ht_5]; simp only [List.mem_cons, List.not_mem_nil, or_false]; omega)).trans hFr
  generalize H1 = H at hP hS ⊢
  refine lv_iload hx hb dX0_decode_4 (lv_at hl 4 rfl) ?_
  refine lv_iconst (v := 4) hx hb dX0_decode_6 (by decide) ?_
  refine lv_imul hx hb dX0_decode_7 ?_
  refine lv_topi (fun x_17 ex_17 => ?_)
  obtain rfl : x_17 = (nI (w * 4)) := ex_17.trans (pk_mul w 4)
  refine lv_iconst (v := 2) hx hb dX0_decode_8 (by decide) ?_
  refine lv_iadd hx hb dX0_decode_9 ?_
  refine lv_topi (fun x_18 ex_18 => ?_)
  obtain rfl : x_18 = (nI (w * 4 + 2)) := ex_18.trans (nI_add (w * 4) 2)
  refine lv_iconst (v := 3) hx hb dX0_decode_10 (by decide) ?_
  refine lv_idiv hx hb dX0_decode_11 (by decide) ?_
  refine lv_topi (fun x_19 ex_19 => ?_)
  obtain rfl : x_19 = (nI ((w * 4 + 2) / 3)) := ex_19.trans (pk_div (d := 3) (by omega) (by omega) (by omega))
  refine lv_istore (lv' := [(5, .int (nI ((w * 4 + 2) / 3))), (0, .ref h0), (1, .ref g1), (2, .int (nI a)), (3, .int (nI e1)), (4, .int (nI w))]) hx hb dX0_decode_12 hl (by decide) rfl (fun ls hl => ?_)
  refine lv_iload_n hx hb dX0_decode_14 rfl (lv_at hl 4 rfl) ?_
  refine lv_iload_n hx hb dX0_decode_15 rfl (lv_at hl 3 rfl) ?_
  refine lv_isub hx hb dX0_decode_16 ?_
  refine lv_topi (fun x_20 ex_20 => ?_)
  obtain rfl : x_20 = (nI (e1 - a)) := ex_20.trans (pk_sub hab)
  refine lv_iload hx hb dX0_decode_17 (lv_at hl 5 rfl) ?_
  refine lv_iconst (v := 2) hx hb dX0_decode_19 (by decide) ?_
  refine lv_iadd hx hb dX0_decode_20 ?_
  refine lv_topi (fun x_21 ex_21 => ?_)
  obtain rfl : x_21 = (nI (w + 2)) := ex_21.trans (nI_add w 2)
  refine lv_iconst (v := 3) hx hb dX0_decode_21 (by decide) ?_
  refine lv_idiv hx hb dX0_decode_22 (by decide) ?_
  refine lv_topi (fun x_22 ex_22 => ?_)
  obtain rfl : x_22 = (nI ((w + 2) / 3)) := ex_22.trans (pk_div (d := 3) (by omega) (by omega) (by omega))
  refine lv_iconst (v := 4) hx hb dX0_decode_23 (by decide) ?_
  refine lv_imul hx hb dX0_decode_24 ?_
  refine lv_topi (fun x_23 ex_23 => ?_)
  obtain rfl : x_23 = (nI ((w + 2) / 3 * 4)) := ex_23.trans (pk_mul ((w + 2) / 3) 4)
  refine lv_icmp_eq (tgt := 30) hx hb dX0_decode_25 (by decide) (fun c_24 => ?_) (fun c_24 => ?_)
  ·
    have hle : a + (w + 2) / 3 * 4 = e1 := by have h9 := (nI_eq (by omega) (by omega)).mp c_24; omega
    refine lv_iconst (v := 0) hx hb dX0_decode_30 (by decide) ?_
    refine lv_istore (lv' := [(6, .int 0), (5, .int (nI ((w * 4 + 2) / 3))), (0, .ref h0), (1, .ref g1), (2, .int (nI a)), (3, .int (nI e1)), (4, .int (nI w))]) hx hb dX0_decode_31 hl (by decide) rfl (fun ls hl => ?_)
    refine lv_iconst (v := 0) hx hb dX0_decode_33 (by decide) ?_
    refine lv_istore (lv' := [(7, .int 0), (6, .int 0), (5, .int (nI ((w * 4 + 2) / 3))), (0, .ref h0), (1, .ref g1), (2, .int (nI a)), (3, .int (nI e1)), (4, .int (nI w))]) hx hb dX0_decode_34 hl (by decide) rfl (fun ls hl => ?_)
    refine lv_iload_n hx hb dX0_decode_36 rfl (lv_at hl 5 rfl) ?_
    refine lv_istore (lv' := [(8, .int (nI a)), (7, .int 0), (6, .int 0), (5, .int (nI ((w * 4 + 2) / 3))), (0, .ref h0), (1, .ref g1), (2, .int (nI a)), (3, .int (nI e1)), (4, .int (nI w))]) hx hb dX0_decode_37 hl (by decide) rfl (fun ls hl => ?_)
    obtain ⟨f_26, hF_27⟩ := hO.ints hi_1 ht_2
    refine W.widen (k := 0) (n := 0) (by omega) (by omega) ?_
    have hF_29 : F g1 = .inr (0, [.ref r1, .int (nI z), .int 0]) := (hR g1 (by rw [hT_g1]; simp only [List.mem_cons, List.not_mem_nil, or_false]; omega)).symm.trans hF_15
    have hF_30 : F r1 = .inl (cs 16, n1, .inl f) := (hR r1 (by rw [ht_5]; simp only [List.mem_cons, List.not_mem_nil, or_false]; omega)).symm.trans hF_16
    refine pl_loop (σ := Nat × Nat × Nat × Nat × (Nat → Int32)) A (dC, dI) cs ty L [ρ] F 39 10 (fun (i, hh, bb, yy, fq) => [(8, .int (nI i)), (7, .int (nI bb)), (6, .int (nI hh)), (5, .int (nI ((w * 4 + 2) / 3))), (0, .ref h0), (1, .ref g1), (2, .int (nI a)), (3, .int (nI e1)), (4, .int (nI w))]) (fun (i, hh, bb, yy, fq) => []) (fun (i, hh, bb, yy, fq) FF => a ≤ i ∧ i ≤ a + ((w * 4 + 2) / 3) ∧ bb = 6 * (i - a) % 8 ∧ FF h0 = .inr (0, [.ref r0, .int (nI yy), .int 0]) ∧ FF r0 = .inl (cs 16, n, .inl fq) ∧ DCI (TC f z) a (i - a) hh yy fq) (fun (i, hh, bb, yy, fq) => a + ((w * 4 + 2) / 3) - i) ?_ (a, 0, 0, 0, f_26) F_13 (⟨by omega, by omega, by omega, hq_14, hF_27, by rw [Nat.sub_self]; exact dci_0⟩) hO hR _ _ hP hD hS ls (lv_sub hl [0, 1, 2, 3, 4, 5, 6, 7, 8] rfl)
    rintro ⟨i, hh, bb, yy, fq⟩ F_28 hv_31 hO hR ih_32 H locs hP hD hS ls hl
    have hl : lv_has ls 10 [(8, .int (nI i)), (7, .int (nI bb)), (6, .int (nI hh)), (5, .int (nI ((w * 4 + 2) / 3))), (0, .ref h0), (1, .ref g1), (2, .int (nI a)), (3, .int (nI e1)), (4, .int (nI w))] := hl
    have hv_31 : a ≤ i ∧ i ≤ a + ((w * 4 + 2) / 3) ∧ bb = 6 * (i - a) % 8 ∧ F_28 h0 = .inr (0, [.ref r0, .int (nI yy), .int 0]) ∧ F_28 r0 = .inl (cs 16, n, .inl fq) ∧ DCI (TC f z) a (i - a) hh yy fq := hv_31
    refine W.eq (g2 := F0 m 39 ls []) rfl ?_
    have hF_33 : F_28 g1 = .inr (0, [.ref r1, .int (nI z), .int 0]) := (hR g1 (by rw [hT_g1]; simp only [List.mem_cons, List.not_mem_nil, or_false]; omega)).trans hF_29
    have hF_34 : F_28 r1 = .inl (cs 16, n1, .inl f) := (hR r1 (by rw [ht_5]; simp only [List.mem_cons, List.not_mem_nil, or_false]; omega)).trans hF_30
    obtain ⟨hv1, hv2, hv3, hv4, hv5, hv6⟩ := id hv_31
    have hyl : yy = 6 * (i - a) / 8 := by rw [hv6.2.2.1, dst_len]
    have hh6 : hh < 64 := by rw [hv6.2.1]; exact dst_h hv6.1
    refine lv_iload hx hb dX0_decode_39 (lv_at hl 0 rfl) ?_
    refine lv_iload_n hx hb dX0_decode_41 rfl (lv_at hl 6 rfl) ?_
    refine lv_iload hx hb dX0_decode_42 (lv_at hl 3 rfl) ?_
    refine lv_iadd hx hb dX0_decode_44 ?_
    refine lv_topi (fun x_35 ex_35 => ?_)
    obtain rfl : x_35 = (nI (a + ((w * 4 + 2) / 3))) := ex_35.trans (nI_add a ((w * 4 + 2) / 3))
    refine lv_icmp_ge (tgt := 115) hx hb dX0_decode_45 (by decide) (fun c_36 => ?_) (fun c_36 => ?_)
    ·
      have hi_37 : (a + ((w * 4 + 2) / 3)) ≤ i := leN (N := (a + ((w * 4 + 2) / 3))) c_36
      have hig : (a + ((w * 4 + 2) / 3)) ≤ i := (nI_leI (by omega) (by omega)).mp c_36
      have hig2 : i - a = ((w * 4 + 2) / 3) := by omega
      rw [hig2] at hv6
      obtain ⟨hyw, hBY⟩ := dci_e hv6 rfl hw2
      refine lv_iload_n hx hb dX0_decode_115 rfl (lv_at hl 6 rfl) ?_
      refine lv_iload hx hb dX0_decode_116 (lv_at hl 3 rfl) ?_
      refine lv_iadd hx hb dX0_decode_118 ?_
      refine lv_topi (fun x_38 ex_38 => ?_)
      obtain rfl : x_38 = (nI (a + ((w * 4 + 2) / 3))) := ex_38.trans (nI_add a ((w * 4 + 2) / 3))
      refine lv_istore (lv' := [(8, .int (nI (a + ((w * 4 + 2) / 3)))), (7, .int (nI bb)), (6, .int (nI hh)), (5, .int (nI ((w * 4 + 2) / 3))), (0, .ref h0), (1, .ref g1), (2, .int (nI a)), (3, .int (nI e1)), (4, .int (nI w))]) hx hb dX0_decode_119 hl (by decide) rfl (fun ls hl => ?_)
      refine W.widen (k := 0) (n := 0) (by omega) (by omega) ?_
      have hF_40 : F g1 = .inr (0, [.ref r1, .int (nI z), .int 0]) := (hR g1 (by rw [hT_g1]; simp only [List.mem_cons, List.not_mem_nil, or_false]; omega)).symm.trans hF_33
      have hF_41 : F r1 = .inl (cs 16, n1, .inl f) := (hR r1 (by rw [ht_5]; simp only [List.mem_cons, List.not_mem_nil, or_false]; omega)).symm.trans hF_34
      refine pl_loop (σ := Nat) A (dC, dI) cs ty L [ρ] F 121 10 (fun i2 => [(8, .int (nI i2)), (7, .int (nI bb)), (6, .int (nI hh)), (5, .int (nI ((w * 4 + 2) / 3))), (0, .ref h0), (1, .ref g1), (2, .int (nI a)), (3, .int (nI e1)), (4, .int (nI w))]) (fun i2 => []) (fun i2 FF => a + ((w * 4 + 2) / 3) ≤ i2 ∧ i2 ≤ e1 ∧ (∀ q9, a + ((w * 4 + 2) / 3) ≤ q9 → q9 < i2 → (TC f z) q9 = 61) ∧ FF h0 = .inr (0, [.ref r0, .int (nI yy), .int 0]) ∧ FF r0 = .inl (cs 16, n, .inl fq)) (fun i2 => e1 - i2) ?_ (a + ((w * 4 + 2) / 3)) F_28 (⟨Nat.le_refl _, by omega, fun q9 h1 h2 => absurd h2 (by omega), hv4, hv5⟩) hO hR _ _ hP hD hS ls (lv_sub hl [0, 1, 2, 3, 4, 5, 6, 7, 8] rfl)
      rintro i2 F_39 hv_42 hO hR ih_43 H locs hP hD hS ls hl
      have hl : lv_has ls 10 [(8, .int (nI i2)), (7, .int (nI bb)), (6, .int (nI hh)), (5, .int (nI ((w * 4 + 2) / 3))), (0, .ref h0), (1, .ref g1), (2, .int (nI a)), (3, .int (nI e1)), (4, .int (nI w))] := hl
      have hv_42 : a + ((w * 4 + 2) / 3) ≤ i2 ∧ i2 ≤ e1 ∧ (∀ q9, a + ((w * 4 + 2) / 3) ≤ q9 → q9 < i2 → (TC f z) q9 = 61) ∧ F_39 h0 = .inr (0, [.ref r0, .int (nI yy), .int 0]) ∧ F_39 r0 = .inl (cs 16, n, .inl fq) := hv_42
      refine W.eq (g2 := F0 m 121 ls []) rfl ?_
      have hF_44 : F_39 g1 = .inr (0, [.ref r1, .int (nI z), .int 0]) := (hR g1 (by rw [hT_g1]; simp only [List.mem_cons, List.not_mem_nil, or_false]; omega)).trans hF_40
      have hF_45 : F_39 r1 = .inl (cs 16, n1, .inl f) := (hR r1 (by rw [ht_5]; simp only [List.mem_cons, List.not_mem_nil, or_false]; omega)).trans hF_41
      obtain ⟨hu1, hu2, hu3, hu4, hu5⟩ := id hv_42
      refine lv_iload hx hb dX0_decode_121 (lv_at hl 0 rfl) ?_
      refine lv_iload_n hx hb dX0_decode_123 rfl (lv_at hl 7 rfl) ?_
      refine lv_icmp_ge (tgt := 146) hx hb dX0_decode_124 (by decide) (fun c_46 => ?_) (fun c_46 => ?_)
      ·
        have hi_47 : e1 ≤ i2 := leN (N := e1) c_46
        have hie : e1 ≤ i2 := (nI_leI (by omega) (by omega)).mp c_46
        refine lv_iload hx hb dX0_decode_146 (lv_at hl 2 rfl) ?_
        refine lv_if_ne (tgt := 155) hx hb dX0_decode_148 (by decide) (fun c_48 => ?_) (fun c_48 => ?_)
        ·
          have hh0 : ¬ hh = 0 := fun q => c_48 (by rw [q]; rfl)
          refine lv_iconst (v := 0) hx hb dX0_decode_155 (by decide) ?_
          refine W.widen (k := 0) (n := 0) (by omega) (by omega) ?_
          exact W.zret (v := 0) (ty := .boolean) hx hb hr (by decide) (fun t ht hWm => ⟨⟨0, yy, rfl, (Or.inr ⟨rfl, (fun q => hh0 (by rw [hv6.2.1]; exact q.2.2.2))⟩), ⟨F_39, fq, QT.mk ht hP hD hO hR, hu4, hu5, (fun q => absurd q (fun q => hh0 (by rw [hv6.2.1]; exact q.2.2.2)))⟩⟩, hS.F ht⟩) hS.2.2 dX0_decode_156
        ·
          have hh0 : hh = 0 := (nI_eq (b := 0) (by omega) (by omega)).mp c_48
          refine lv_iconst (v := 1) hx hb dX0_decode_151 (by decide) ?_
          refine lv_goto (tgt := 156) hx hb dX0_decode_152 (by decide) ?_
          refine W.widen (k := 0) (n := 0) (by omega) (by omega) ?_
          exact W.zret (v := 1) (ty := .boolean) hx hb hr (by decide) (fun t ht hWm => ⟨⟨1, yy, rfl, (Or.inl ⟨rfl, ⟨hle, hv6.1, fun q9 h1 h2 => hu3 q9 h1 (by omega), (by rw [← hv6.2.1]; exact hh0)⟩, hyw⟩), ⟨F_39, fq, QT.mk ht hP hD hO hR, hu4, hu5, (fun _ => hBY)⟩⟩, hS.F ht⟩) hS.2.2 dX0_decode_156
      ·
        have hi_51 : i2 < e1 := ltN (N := e1) c_46
        have hie : i2 < e1 := Nat.not_le.mp (fun q => c_46 ((nI_leI (by omega) (by omega)).mpr q))
        refine lv_aload_n hx hb dX0_decode_127 rfl (lv_at hl 5 rfl) ?_
        refine lv_iload hx hb dX0_decode_128 (lv_at hl 0 rfl) ?_
        have hFc := pg_free hD hS hA
        refine va_calli (va_runV (As := [.int (nI i2)]) (rest := []) ⟨hx, hb, hml, hown, hts⟩ (s_X0_at_e l dC dI cs ty L H.size F_39 g1 σ r1 n1 z i2 f hW hL_g1 hT_g1 hF_44 hF_45 (by omega) (by omega) (by omega)) ⟨callB_of 1 hts (gi kt_21) rfl rfl rfl (hts _ kt_1) (hts _ kt_22) (by decide +kernel) ⟨Nat.le_of_ble_eq_true rfl, Nat.le_of_ble_eq_true rfl⟩, (hts _ kt_23), (hts _ kt_24)⟩ ⟨fun a U g mk q => ⟨q.1, PT.calling q.2⟩, pg_recv hK hP hL_g1 hF_44 (q := (RX0, TX0, 3)) rfl, fun U hU hWm => ⟨rfl, PT.mk hU hWm hP hK hD hE hO⟩⟩ rfl rfl hl.1 rfl (lv_room (Nat.le_of_ble_eq_true rfl)) dX0_decode_130 ⟨by show _ + 0 ≤ 0; omega, by show _ + 0 ≤ 0; omega⟩) hS (fun q _ h => hFc q h) hFc (fun r_52 u t H1 locs ht hvm hw hB hz1 hk1 hS => ?_)
        obtain ⟨F_53, hB1⟩ := hB
        obtain rfl : F_39 = F_53 := (funext (fun a => hB1.2.2.2 a List.not_mem_nil)).symm
        obtain ⟨hP, hD, hO, hR⟩ := QT.back hB1 ht hFc hR (fun q h => absurd h List.not_mem_nil)
        generalize H1 = H at hP hS ⊢
        have hw : r_52 = f i2 := hw
        have hw_54 := hw
        subst hw_54
        refine lv_bipush (v := 61) hx hb dX0_decode_133 (by decide) ?_
        refine lv_icmp_eq (tgt := 140) hx hb dX0_decode_135 (by decide) (fun c_55 => ?_) (fun c_55 => ?_)
        ·
          have heq : (TC f z) i2 = 61 := (tcc (show i2 < z by omega) 61 (by omega)).mpr c_55
          refine lv_iinc (v := (nI (i2 + 1))) (lv' := [(8, .int (nI (i2 + 1))), (7, .int (nI bb)), (6, .int (nI hh)), (5, .int (nI ((w * 4 + 2) / 3))), (0, .ref h0), (1, .ref g1), (2, .int (nI a)), (3, .int (nI e1)), (4, .int (nI w))]) hx hb dX0_decode_140 hl (k := 0) rfl (nI_1 _) (by decide) rfl (fun ls hl => ?_)
          refine lv_goto (tgt := 121) hx hb dX0_decode_143 (by decide) ?_
          refine W.widen (k := 0) (n := 0) (by omega) (by omega) ?_
          exact ih_43 (i2 + 1) F_39 (⟨by omega, by omega, fun q9 h1 h2 => by rcases Nat.lt_or_ge q9 i2 with w9 | w9; exact hu3 q9 h1 w9; rw [show q9 = i2 by omega]; exact heq, hu4, hu5⟩) (by show e1 - (i2 + 1) < e1 - i2; omega) hO hR _ _ hP hD hS ls (lv_sub hl [0, 1, 2, 3, 4, 5, 6, 7, 8] rfl)
        ·
          have heq : ¬ (TC f z) i2 = 61 := fun q => c_55 ((tcc (show i2 < z by omega) 61 (by omega)).mp q)
          refine lv_iconst (v := 0) hx hb dX0_decode_138 (by decide) ?_
          refine W.widen (k := 0) (n := 0) (by omega) (by omega) ?_
          exact W.zret (v := 0) (ty := .boolean) hx hb hr (by decide) (fun t ht hWm => ⟨⟨0, yy, rfl, (Or.inr ⟨rfl, (fun q => heq (q.2.2.1 i2 hu1 hie))⟩), ⟨F_39, fq, QT.mk ht hP hD hO hR, hu4, hu5, (fun q => absurd q (fun q => heq (q.2.2.1 i2 hu1 hie)))⟩⟩, hS.F ht⟩) hS.2.2 dX0_decode_139
    ·
      have hi_56 : i < (a + ((w * 4 + 2) / 3)) := ltN (N := (a + ((w * 4 + 2) / 3))) c_36
      have hig : i < (a + ((w * 4 + 2) / 3)) := Nat.not_le.mp (fun q => c_36 ((nI_leI (by omega) (by omega)).mpr q))
      refine lv_aload_n hx hb dX0_decode_48 rfl (lv_at hl 5 rfl) ?_
      refine lv_iload hx hb dX0_decode_49 (lv_at hl 0 rfl) ?_
      have hFc := pg_free hD hS hA
      refine va_calli (va_runV (As := [.int (nI i)]) (rest := []) ⟨hx, hb, hml, hown, hts⟩ (s_X0_at_e l dC dI cs ty L H.size F_28 g1 σ r1 n1 z i f hW hL_g1 hT_g1 hF_33 hF_34 (by omega) (by omega) (by omega)) ⟨callB_of 1 hts (gi kt_21) rfl rfl rfl (hts _ kt_1) (hts _ kt_22) (by decide +kernel) ⟨Nat.le_of_ble_eq_true rfl, Nat.le_of_ble_eq_true rfl⟩, (hts _ kt_23), (hts _ kt_24)⟩ ⟨fun a U g mk q => ⟨q.1, PT.calling q.2⟩, pg_recv hK hP hL_g1 hF_33 (q := (RX0, TX0, 3)) rfl, fun U hU hWm => ⟨rfl, PT.mk hU hWm hP hK hD hE hO⟩⟩ rfl rfl hl.1 rfl (lv_room (Nat.le_of_ble_eq_true rfl)) dX0_decode_51 ⟨by show _ + 0 ≤ 0; omega, by show _ + 0 ≤ 0; omega⟩) hS (fun q _ h => hFc q h) hFc (fun r_57 u t H1 locs ht hvm hw hB hz1 hk1 hS => ?_)
      obtain ⟨F_58, hB1⟩ := hB
      obtain rfl : F_28 = F_58 := (funext (fun a => hB1.2.2.2 a List.not_mem_nil)).symm
      obtain ⟨hP, hD, hO, hR⟩ := QT.back hB1 ht hFc hR (fun q h => absurd h List.not_mem_nil)
      generalize H1 = H at hP hS ⊢
      have hw : r_57 = f i := hw
      have hw_59 := hw
      subst hw_59
      have hFc := pg_free hD hS hA
      refine va_calli (va_runS (As := [.int (f i)]) (rest := []) ⟨hx, hb, hml, hown, hts⟩ (s_X0_sixOf_e l dC dI cs ty L H.size F_28 (f i) hW ) ⟨callB_of 1 hts (gi kt_44) rfl rfl rfl (hts _ kt_1) (hts _ kt_45) (by decide +kernel) ⟨Nat.le_of_ble_eq_true rfl, Nat.le_of_ble_eq_true rfl⟩, (hts _ kt_46)⟩ ⟨fun a U g mk q => ⟨q.1, PT.calling q.2⟩, fun U hU hWm => ⟨rfl, PT.mk hU hWm hP hK hD hE hO⟩⟩ rfl rfl hl.1 rfl (lv_room (Nat.le_of_ble_eq_true rfl)) dX0_decode_54 ⟨by show _ + 0 ≤ 0; omega, by show _ + 0 ≤ 0; omega⟩) hS (fun q _ h => hFc q h) hFc (fun r_60 u t H1 locs ht hvm hw hB hz1 hk1 hS => ?_)
      obtain ⟨F_61, hB1⟩ := hB
      obtain rfl : F_28 = F_61 := (funext (fun a => hB1.2.2.2 a List.not_mem_nil)).symm
      obtain ⟨hP, hD, hO, hR⟩ := QT.back hB1 ht hFc hR (fun q h => absurd h List.not_mem_nil)
      generalize H1 = H at hP hS ⊢
      have hw : SXR (cdv (f i)) r_60 := hw
      have hw_62 := hw
      refine lv_istore (lv' := [(9, .int r_60), (8, .int (nI i)), (7, .int (nI bb)), (6, .int (nI hh)), (5, .int (nI ((w * 4 + 2) / 3))), (0, .ref h0), (1, .ref g1), (2, .int (nI a)), (3, .int (nI e1)), (4, .int (nI w))]) hx hb dX0_decode_57 hl (by decide) rfl (fun ls hl => ?_)
      refine lv_iload hx hb dX0_decode_59 (lv_at hl 0 rfl) ?_
      refine lv_if_ge (tgt := 66) hx hb dX0_decode_61 (by decide) (fun c_63 => ?_) (fun c_63 => ?_)
      ·
        obtain ⟨hse, h6s⟩ : r_60 = nI (sxT ((TC f z) (a + (i - a)))) ∧ sxT ((TC f z) (a + (i - a))) < 64 := by rw [show a + (i - a) = i by omega, tcn_in (show i < z by omega)]; rcases hw_62 with q | q; rw [q.1] at c_63; exact absurd c_63 (by decide); exact q
        subst hse
        refine lv_iload hx hb dX0_decode_66 (lv_at hl 3 rfl) ?_
        refine lv_bipush (v := 6) hx hb dX0_decode_68 (by decide) ?_
        refine lv_ishl hx hb dX0_decode_70 ?_
        refine lv_topi (fun x_64 ex_64 => ?_)
        obtain rfl : x_64 = (shl (nI hh) 6) := ex_64.trans (rfl)
        refine lv_iload hx hb dX0_decode_71 (lv_at hl 0 rfl) ?_
        refine lv_ior hx hb dX0_decode_73 ?_
        refine lv_topi (fun x_65 ex_65 => ?_)
        obtain rfl : x_65 = (nI (hh * 64 + sxT ((TC f z) (a + (i - a))))) := ex_65.trans (or6 hh hh6 _ h6s)
        refine lv_istore (lv' := [(6, .int (nI (hh * 64 + sxT ((TC f z) (a + (i - a)))))), (9, .int (nI (sxT ((TC f z) (a + (i - a)))))), (8, .int (nI i)), (7, .int (nI bb)), (5, .int (nI ((w * 4 + 2) / 3))), (0, .ref h0), (1, .ref g1), (2, .int (nI a)), (3, .int (nI e1)), (4, .int (nI w))]) hx hb dX0_decode_74 hl (by decide) rfl (fun ls hl => ?_)
        refine lv_iinc (v := (nI (bb + 6))) (lv' := [(7, .int (nI (bb + 6))), (6, .int (nI (hh * 64 + sxT ((TC f z) (a + (i - a)))))), (9, .int (nI (sxT ((TC f z) (a + (i - a)))))), (8, .int (nI i)), (5, .int (nI ((w * 4 + 2) / 3))), (0, .ref h0), (1, .ref g1), (2, .int (nI a)), (3, .int (nI e1)), (4, .int (nI w))]) hx hb dX0_decode_76 hl (k := 3) rfl (nI_add bb 6) (by decide) rfl (fun ls hl => ?_)
        refine lv_iload hx hb dX0_decode_79 (lv_at hl 0 rfl) ?_
        refine lv_bipush (v := 8) hx hb dX0_decode_81 (by decide) ?_
        refine lv_icmp_lt (tgt := 109) hx hb dX0_decode_83 (by decide) (fun c_66 => ?_) (fun c_66 => ?_)
        ·
          have hi_67 : (bb + 6) < 8 := ltN (N := 8) (Int32.not_le.mpr c_66)
          have hc8 : ¬ 8 ≤ 6 * (i - a) % 8 + 6 := fun q => by have h9 := (nI_ltI (b := 8) (by omega) (by omega)).mp c_66; omega
          refine lv_iinc (v := (nI (i + 1))) (lv' := [(8, .int (nI (i + 1))), (7, .int (nI (bb + 6))), (6, .int (nI (hh * 64 + sxT ((TC f z) (a + (i - a)))))), (9, .int (nI (sxT ((TC f z) (a + (i - a)))))), (5, .int (nI ((w * 4 + 2) / 3))), (0, .ref h0), (1, .ref g1), (2, .int (nI a)), (3, .int (nI e1)), (4, .int (nI w))]) hx hb dX0_decode_109 hl (k := 3) rfl (nI_1 _) (by decide) rfl (fun ls hl => ?_)
          refine lv_goto (tgt := 39) hx hb dX0_decode_112 (by decide) ?_
          refine W.widen (k := 0) (n := 0) (by omega) (by omega) ?_
          exact ih_32 ((i + 1), (hh * 64 + sxT ((TC f z) (a + (i - a)))), (bb + 6), yy, fq) F_28 (⟨by omega, by omega, by omega, hv4, hv5, (by rw [show i + 1 - a = (i - a) + 1 by omega]; exact dci_n hv6 h6s (by omega))⟩) (by show a + ((w * 4 + 2) / 3) - (i + 1) < a + ((w * 4 + 2) / 3) - i; omega) hO hR _ _ hP hD hS ls (lv_sub hl [0, 1, 2, 4, 5, 6, 7, 8, 9] rfl)
        ·
          have hi_68 : 8 ≤ (bb + 6) := leN (N := 8) (Int32.not_lt.mp c_66)
          have hc8 : 8 ≤ 6 * (i - a) % 8 + 6 := Nat.not_lt.mp (fun q => c_66 ((nI_ltI (b := 8) (by omega) (by omega)).mpr (by omega)))
          have hsrk := sr_k (h := (hh * 64 + sxT ((TC f z) (a + (i - a))))) (k := i - a) (by omega) hc8
          rw [← hv3] at hsrk
          refine lv_iinc (v := (nI (bb + 6 - 8))) (lv' := [(7, .int (nI (bb + 6 - 8))), (6, .int (nI (hh * 64 + sxT ((TC f z) (a + (i - a)))))), (9, .int (nI (sxT ((TC f z) (a + (i - a)))))), (8, .int (nI i)), (5, .int (nI ((w * 4 + 2) / 3))), (0, .ref h0), (1, .ref g1), (2, .int (nI a)), (3, .int (nI e1)), (4, .int (nI w))]) hx hb dX0_decode_86 hl (k := 0) rfl (by rw [show Int32.ofInt (-8) = -(8 : Int32) by decide, ← Int32.sub_eq_add_neg]; exact pk_sub (b := 8) (by omega)) (by decide) rfl (fun ls hl => ?_)
          refine lv_aload_n hx hb dX0_decode_89 rfl (lv_at hl 5 rfl) ?_
          refine lv_iload hx hb dX0_decode_90 (lv_at hl 1 rfl) ?_
          refine lv_iload hx hb dX0_decode_92 (lv_at hl 0 rfl) ?_
          refine lv_iushr hx hb dX0_decode_94 rfl ?_
          refine lv_topi (fun x_70 ex_70 => ?_)
          obtain rfl : x_70 = (ush (nI (hh * 64 + sxT ((TC f z) (a + (i - a))))) (nI (bb + 6 - 8))) := ex_70.trans (rfl)
          have hFc := pg_free hD hS hA
          refine va_callv (va_runV (As := [.int (ush (nI (hh * 64 + sxT ((TC f z) (a + (i - a))))) (nI (bb + 6 - 8)))]) (rest := []) ⟨hx, hb, hml, hown, hts⟩ (s_X0_add_e l dC dI cs ty L H.size F_28 h0 ρ r0 n yy fq (ush (nI (hh * 64 + sxT ((TC f z) (a + (i - a))))) (nI (bb + 6 - 8))) hW hL_h0 hT_h0 hv4 hv5 (by omega) (by omega)) ⟨callB_of 1 hts (gi kt_13) rfl rfl rfl (hts _ kt_1) (hts _ kt_14) (by decide +kernel) ⟨Nat.le_of_ble_eq_true rfl, Nat.le_of_ble_eq_true rfl⟩, (hts _ kt_15), (hts _ kt_16)⟩ ⟨fun a U g mk q => ⟨q.1, PT.calling q.2⟩, pg_recv hK hP hL_h0 hv4 (q := (RX0, TX0, 3)) rfl, fun U hU hWm => ⟨rfl, PT.mk hU hWm hP hK hD hE hO⟩⟩ rfl rfl hl.1 rfl (lv_room (Nat.le_of_ble_eq_true rfl)) dX0_decode_95 ⟨by show _ + 0 ≤ 0; omega, by show _ + 0 ≤ 0; omega⟩) hS (fun q _ h => hFc q h) hFc (fun u t H1 locs ht hvm hw hB hz1 hk1 hS => ?_)
          obtain ⟨F_72, hB1, hq_73, hq_74⟩ := hB
          obtain ⟨hP, hD, hO, hR⟩ := QT.back hB1 ht hFc hR (fun q h => by simp only [List.mem_cons, List.not_mem_nil, or_false] at h ⊢; omega)
          have hF_75 : F_72 g1 = .inr (0, [.ref r1, .int (nI z), .int 0]) := (hB1.2.2.2 g1 (by rw [hT_g1]; simp only [List.mem_cons, List.not_mem_nil, or_false]; omega)).trans hF_33
          have hF_76 : F_72 r1 = .inl (cs 16, n1, .inl f) := (hB1.2.2.2 r1 (by rw [ht_5]; simp only [List.mem_cons, List.not_mem_nil, or_false]; omega)).trans hF_34
          generalize H1 = H at hP hS ⊢
          refine lv_iload hx hb dX0_decode_98 (lv_at hl 1 rfl) ?_
          refine lv_iconst (v := 1) hx hb dX0_decode_100 (by decide) ?_
          refine lv_iload hx hb dX0_decode_101 (lv_at hl 0 rfl) ?_
          refine lv_ishl hx hb dX0_decode_103 ?_
          refine lv_topi (fun x_77 ex_77 => ?_)
          obtain rfl : x_77 = (shl 1 (nI (bb + 6 - 8))) := ex_77.trans (rfl)
          refine lv_iconst (v := 1) hx hb dX0_decode_104 (by decide) ?_
          refine lv_isub hx hb dX0_decode_105 ?_
          refine lv_topi (fun x_78 ex_78 => ?_)
          obtain rfl : x_78 = (shl 1 (nI (bb + 6 - 8)) - 1) := ex_78.trans (rfl)
          refine lv_iand hx hb dX0_decode_106 ?_
          refine lv_topi (fun x_79 ex_79 => ?_)
          obtain rfl : x_79 = (nI ((hh * 64 + sxT ((TC f z) (a + (i - a)))) % 2 ^ (bb + 6 - 8))) := ex_79.trans (hsrk.2)
          refine lv_istore (lv' := [(6, .int (nI ((hh * 64 + sxT ((TC f z) (a + (i - a)))) % 2 ^ (bb + 6 - 8)))), (7, .int (nI (bb + 6 - 8))), (9, .int (nI (sxT ((TC f z) (a + (i - a)))))), (8, .int (nI i)), (5, .int (nI ((w * 4 + 2) / 3))), (0, .ref h0), (1, .ref g1), (2, .int (nI a)), (3, .int (nI e1)), (4, .int (nI w))]) hx hb dX0_decode_107 hl (by decide) rfl (fun ls hl => ?_)
          refine lv_iinc (v := (nI (i + 1))) (lv' := [(8, .int (nI (i + 1))), (6, .int (nI ((hh * 64 + sxT ((TC f z) (a + (i - a)))) % 2 ^ (bb + 6 - 8)))), (7, .int (nI (bb + 6 - 8))), (9, .int (nI (sxT ((TC f z) (a + (i - a)))))), (5, .int (nI ((w * 4 + 2) / 3))), (0, .ref h0), (1, .ref g1), (2, .int (nI a)), (3, .int (nI e1)), (4, .int (nI w))]) hx hb dX0_decode_109 hl (k := 3) rfl (nI_1 _) (by decide) rfl (fun ls hl => ?_)
          refine lv_goto (tgt := 39) hx hb dX0_decode_112 (by decide) ?_
          refine W.widen (k := 0) (n := 0) (by omega) (by omega) ?_
          exact ih_32 ((i + 1), ((hh * 64 + sxT ((TC f z) (a + (i - a)))) % 2 ^ (bb + 6 - 8)), (bb + 6 - 8), (yy + 1), (upd fq yy (ush (nI (hh * 64 + sxT ((TC f z) (a + (i - a))))) (nI (bb + 6 - 8))))) F_72 (⟨by omega, by omega, by omega, hq_73, hq_74, (by rw [show i + 1 - a = (i - a) + 1 by omega]; have h8 := dci_y hv6 h6s hc8 (show ush (nI (hh * 64 + sxT ((TC f z) (a + (i - a))))) (nI (bb + 6 - 8)) = nI ((hh * 64 + sxT ((TC f z) (a + (i - a)))) / 2 ^ (6 * (i - a) % 8 + 6 - 8)) by rw [← hv3]; exact hsrk.1); rw [← hv3] at h8; exact h8)⟩) (by show a + ((w * 4 + 2) / 3) - (i + 1) < a + ((w * 4 + 2) / 3) - i; omega) hO hR _ _ hP hD hS ls (lv_sub hl [0, 2, 1, 4, 5, 6, 7, 8, 9] rfl)
      ·
        have h6n : ¬ sxT ((TC f z) (a + (i - a))) < 64 := by rw [show a + (i - a) = i by omega, tcn_in (show i < z by omega)]; rcases hw_62 with q | q; rw [q.2]; decide; exact absurd (by rw [q.1]; exact Int32.not_lt.mp (nI_pos (by omega))) c_63
        refine lv_iconst (v := 0) hx hb dX0_decode_64 (by decide) ?_
        refine W.widen (k := 0) (n := 0) (by omega) (by omega) ?_
        exact W.zret (v := 0) (ty := .boolean) hx hb hr (by decide) (fun t ht hWm => ⟨⟨0, yy, rfl, (Or.inr ⟨rfl, (fun q => h6n (q.2.1 (i - a) (by omega)))⟩), ⟨F_28, fq, QT.mk ht hP hD hO hR, hv4, hv5, (fun q => absurd q (fun q => h6n (q.2.1 (i - a) (by omega))))⟩⟩, hS.F ht⟩) hS.2.2 dX0_decode_65
  ·
    have hle : ¬ a + (w + 2) / 3 * 4 = e1 := fun q => c_24 (by rw [show e1 - a = (w + 2) / 3 * 4 by omega])
    refine lv_iconst (v := 0) hx hb dX0_decode_28 (by decide) ?_
    refine W.widen (k := 0) (n := 0) (by omega) (by omega) ?_
    obtain ⟨f_81, hF_82⟩ := hO.ints hi_1 ht_2
    exact W.zret (v := 0) (ty := .boolean) hx hb hr (by decide) (fun t ht hWm => ⟨⟨0, 0, rfl, (Or.inr ⟨rfl, (fun q => hle q.1)⟩), ⟨F_13, f_81, QT.mk ht hP hD hO hR, hq_14, hF_82, (fun q => absurd q (fun q => hle q.1))⟩⟩, hS.F ht⟩) hS.2.2 dX0_decode_29
theorem nbw_ltq {T : Nat → Nat} : ∀ (k i v w d : Nat), nbw T k i v = some w → v < 10 ^ d → w < 10 ^ (d + k) := by
  intro k
  induction k with
  | zero =>
    intro i v w d h hv
    have h9 : v = w := Option.some.inj h
    rw [← h9]
    exact hv
  | succ k ih =>
    intro i v w d h hv
    by_cases c : 48 ≤ T i ∧ T i ≤ 57
    · have h9 : nbw T k (i + 1) (v * 10 + T i - 48) = some w := (if_pos c).symm.trans h
      have h8 := ih (i + 1) _ w (d + 1) h9 (by rw [Nat.pow_succ]; omega)
      rw [show d + (k + 1) = d + 1 + k by omega]
      exact h8
    · have h9 : none = some w := (if_neg c).symm.trans h
      exact nomatch h9
theorem nbT_ltq {T : Nat → Nat} {a b w : Nat} (h : nbT T a b 9 = some w) : w < 1000000000 := by
  unfold nbT at h
  by_cases c : a + 1 ≤ b ∧ b ≤ a + 9
  · rw [if_pos c] at h
    have h9 := nbw_ltq (b - a) a 0 w 0 h (by decide)
    rw [Nat.zero_add] at h9
    exact Nat.lt_of_lt_of_le h9 (Nat.le_trans (Nat.pow_le_pow_right (by decide) (show b - a ≤ 9 by omega)) (by decide))
  · rw [if_neg c] at h
    exact nomatch h
def NB9 (a i vv : Nat) : Prop := vv < 10 ^ (i - a)
theorem nb9_0 (a : Nat) : NB9 a a 0 := by
  unfold NB9
  rw [Nat.sub_self]
  decide
theorem nb9_le {a i vv : Nat} (h : NB9 a i vv) (h3 : i - a ≤ 8) : vv ≤ 99999999 := by
  have h9 : 10 ^ (i - a) ≤ 10 ^ 8 := Nat.pow_le_pow_right (by decide) h3
  have h8 : (10 : Nat) ^ 8 = 100000000 := by decide
  unfold NB9 at h
  omega
theorem nb9_s {T : Nat → Nat} {a i vv : Nat} (h : NB9 a i vv) (ha : a ≤ i) (hd : 48 ≤ T i ∧ T i ≤ 57) : NB9 a (i + 1) (vv * 10 + T i - 48) := by
  unfold NB9 at h ⊢
  rw [show i + 1 - a = (i - a) + 1 by omega, Nat.pow_succ]
  omega
theorem nbv_p {o : Option Nat} (hl : ∀ w, o = some w → w < 1000000000) (c : ¬ nbv o < 0) : ∃ w, o = some w ∧ w < 1000000000 ∧ nbv o = nI w := by
  cases o with
  | none => exact absurd (show (-1 : Int32) < 0 by decide) c
  | some w => exact ⟨w, rfl, hl w rfl, rfl⟩
theorem nbv_m {o : Option Nat} (hl : ∀ w, o = some w → w < 1000000000) (c : nbv o < 0) : o = none := by
  cases o with
  | none => rfl
  | some w => exact absurd c (nI_pos (by have h9 := hl w rfl; omega))
set_option maxHeartbeats 4000000 in
set_option maxRecDepth 100000 in
theorem s_X10_numberOf_n (l : Launch) (dC : Nat → ClassId) (dI : Nat → Nat → Nat) (cs : Nat → ClassId) (ty : TyM) (L : List Nat) (sz : Nat) (F : Nat → va_E) (g1 : Nat) (σ : Nat) (r1 : Nat) (n1 : Nat) (z : Nat) (a : Nat) (b : Nat) (f : Nat → Int32) (hW : WT ty L) (hL_g1 : g1 ∈ L) (hT_g1 : ty g1 = (0, σ, [r1, n1])) (hFg : F g1 = .inr (0, [.ref r1, .int (nI z), .int 0])) (hFr : F r1 = .inl (cs 16, n1, .inl f)) (hzn : z ≤ n1) (hn9 : n1 ≤ 10000) (hab : a ≤ b) (hb9 : b ≤ 10000) : Met l yX10_numberOf (.code yX10_numberOf cX10_numberOf 6 (some .int) :: tb) ({ frames := 1, cells := 0, slots := 0, locals := 21 }) (va_Pc [.ref g1, .int (nI a), .int (nI b), .int 9] (PT (dC, dI) cs ty L F sz)) (va_Qi (fun (r : Int32) (_ : Unit) => r = nbv (nbT (TC f z) a b 9)) (fun _ T9 => ∃ F2 : Nat → va_E, QT (dC, dI) cs ty L [] F F2 (va_A (va_pl L F) sz) T9) (va_A (va_pl L F) sz)) 0 0 (va_A (va_pl L F) sz) := by
  refine Met.ofW (cc := cX10_numberOf) (maxL := 6) (ret := (some .int)) (by decide) rfl ?_
  intro p e s m args below meth c s₁ B hml hv
  obtain ⟨rfl, hsz, hP, hK, hD0, hE, hO⟩ := hv
  have hx := B.exec
  have hb := B.bytes
  have hr := B.returns
  have hts : ∀ w ∈ tb, w.before _ s = true := fun w h => atoms_spec (ws := .code yX10_numberOf cX10_numberOf 6 (some .int) :: tb) B.pre w (List.mem_cons_of_mem _ h)
  have hown : s.vm.findClass RX10 = some m.cls := findClass_of_methodNamed B.named
  have hlocks := B.notSynchronized
  subst hsz
  have hD := hD0.self (sz := s.heap.size)
  generalize hAe : va_A (va_pl L F) s.heap.size = A at hD ⊢
  have hA : ∀ q : Nat, s.heap.size ≤ q → A q := fun q h => by rw [← hAe]; exact Or.inr h
  have hS : va_S A s.heap s.heap [] := va_S.rf
  have hR : FR ty [] F F := FR.refl
  have hl := lv_entry ([.ref g1, .int (nI a), .int (nI b), .int 9]) (n := 6) (Nat.le_of_ble_eq_true rfl)
  rw [lg_entry_eq]
  generalize (lg_sl ([.ref g1, .int (nI a), .int (nI b), .int 9]) ++ List.replicate (6 - (lg_sl ([.ref g1, .int (nI a), .int (nI b), .int 9])).length) Slot.unset).toArray = ls at hl ⊢
  have hl : lv_has ls 6 [(0, .ref g1), (1, .int (nI a)), (2, .int (nI b)), (3, .int 9)] := hl
  obtain ⟨hi_1, ht_2, hq_3⟩ := hW.bytes hL_g1 hT_g1
  refine lv_iload_n hx hb dX10_numberOf_0 rfl (lv_at hl 2 rfl) ?_
  refine lv_iload_n hx hb dX10_numberOf_1 rfl (lv_at hl 1 rfl) ?_
  refine lv_isub hx hb dX10_numberOf_2 ?_
  refine lv_topi (fun x_4 ex_4 => ?_)
  obtain rfl : x_4 = (nI (b - a)) := ex_4.trans (pk_sub hab)
  refine lv_iconst (v := 1) hx hb dX10_numberOf_3 (by decide) ?_
  refine lv_icmp_lt (tgt := 14) hx hb dX10_numberOf_4 (by decide) (fun c_5 => ?_) (fun c_5 => ?_)
  ·
    have hi_6 : (b - a) < 1 := ltN (N := 1) (Int32.not_le.mpr c_5)
    have hl1 : b - a < 1 := (nI_ltI (b := 1) (by omega) (by omega)).mp c_5
    refine lv_iconst (v := (-1)) hx hb dX10_numberOf_14 (by decide) ?_
    refine W.widen (k := 0) (n := 0) (by omega) (by omega) ?_
    exact W.iret (v := (-1)) hx hb hr (fun t ht hWm => ⟨⟨(-1), (), rfl, (show (-1 : Int32) = nbv (nbT (TC f z) a b 9) by unfold nbT; rw [if_neg (fun q => by have q1 := q.1; omega)]; rfl), ⟨F, QT.mk ht hP hD hO hR⟩⟩, hS.F ht⟩) hS.2.2 dX10_numberOf_15
  ·
    have hi_7 : 1 ≤ (b - a) := leN (N := 1) (Int32.not_lt.mp c_5)
    have hl1 : 1 ≤ b - a := Nat.not_lt.mp (fun q => c_5 ((nI_ltI (b := 1) (by omega) (by omega)).mpr q))
    refine lv_iload_n hx hb dX10_numberOf_7 rfl (lv_at hl 2 rfl) ?_
    refine lv_iload_n hx hb dX10_numberOf_8 rfl (lv_at hl 1 rfl) ?_
    refine lv_isub hx hb dX10_numberOf_9 ?_
    refine lv_topi (fun x_8 ex_8 => ?_)
    obtain rfl : x_8 = (nI (b - a)) := ex_8.trans (pk_sub hab)
    refine lv_iload_n hx hb dX10_numberOf_10 rfl (lv_at hl 3 rfl) ?_
    refine lv_icmp_le (tgt := 16) hx hb dX10_numberOf_11 (by decide) (fun c_9 => ?_) (fun c_9 => ?_)
    ·
      have hl2 : b - a ≤ 9 := (nI_leI (b := 9) (by omega) (by omega)).mp c_9
      refine lv_iconst (v := 0) hx hb dX10_numberOf_16 (by decide) ?_
      refine lv_istore (lv' := [(4, .int 0), (0, .ref g1), (1, .int (nI a)), (2, .int (nI b)), (3, .int 9)]) hx hb dX10_numberOf_17 hl (by decide) rfl (fun ls hl => ?_)
      refine lv_iload_n hx hb dX10_numberOf_19 rfl (lv_at hl 2 rfl) ?_
      refine lv_istore (lv' := [(5, .int (nI a)), (4, .int 0), (0, .ref g1), (1, .int (nI a)), (2, .int (nI b)), (3, .int 9)]) hx hb dX10_numberOf_20 hl (by decide) rfl (fun ls hl => ?_)
      refine W.widen (k := 0) (n := 0) (by omega) (by omega) ?_
      refine pl_loop (σ := Nat × Nat) A (dC, dI) cs ty L [] F 22 6 (fun (i, vv) => [(5, .int (nI i)), (4, .int (nI vv)), (0, .ref g1), (1, .int (nI a)), (2, .int (nI b)), (3, .int 9)]) (fun (i, vv) => []) (fun (i, vv) _ => a ≤ i ∧ i ≤ b ∧ NB9 a i vv ∧ nbw (TC f z) (b - i) i vv = nbw (TC f z) (b - a) a 0) (fun (i, vv) => b - i) ?_ (a, 0) F (⟨Nat.le_refl _, hab, nb9_0 a, rfl⟩) hO hR _ _ hP hD hS ls (lv_sub hl [0, 1, 2, 3, 4, 5] rfl)
      rintro ⟨i, vv⟩ F_11 hv_12 hO hR ih_13 H locs hP hD hS ls hl
      have hl : lv_has ls 6 [(5, .int (nI i)), (4, .int (nI vv)), (0, .ref g1), (1, .int (nI a)), (2, .int (nI b)), (3, .int 9)] := hl
      have hv_12 : a ≤ i ∧ i ≤ b ∧ NB9 a i vv ∧ nbw (TC f z) (b - i) i vv = nbw (TC f z) (b - a) a 0 := hv_12
      refine W.eq (g2 := F0 m 22 ls []) rfl ?_
      obtain rfl : F = F_11 := (funext (fun a => hR a List.not_mem_nil)).symm
      obtain ⟨hv1, hv2, hv3, hv4⟩ := id hv_12
      refine lv_iload hx hb dX10_numberOf_22 (lv_at hl 0 rfl) ?_
      refine lv_iload_n hx hb dX10_numberOf_24 rfl (lv_at hl 4 rfl) ?_
      refine lv_icmp_ge (tgt := 65) hx hb dX10_numberOf_25 (by decide) (fun c_14 => ?_) (fun c_14 => ?_)
      ·
        have hi_15 : b ≤ i := leN (N := b) c_14
        have hib : b ≤ i := (nI_leI (by omega) (by omega)).mp c_14
        refine lv_iload hx hb dX10_numberOf_65 (lv_at hl 1 rfl) ?_
        refine W.widen (k := 0) (n := 0) (by omega) (by omega) ?_
        exact W.iret (v := (nI vv)) hx hb hr (fun t ht hWm => ⟨⟨(nI vv), (), rfl, nbT_y hv4 hib (by omega) (by omega), ⟨F, QT.mk ht hP hD hO hR⟩⟩, hS.F ht⟩) hS.2.2 dX10_numberOf_67
      ·
        have hi_16 : i < b := ltN (N := b) c_14
        have hib : i < b := Nat.not_le.mp (fun q => c_14 ((nI_leI (by omega) (by omega)).mpr q))
        have hvv : vv ≤ 99999999 := nb9_le hv3 (by omega)
        refine lv_aload_n hx hb dX10_numberOf_28 rfl (lv_at hl 2 rfl) ?_
        refine lv_iload hx hb dX10_numberOf_29 (lv_at hl 0 rfl) ?_
        have hFc := pg_free hD hS hA
        refine va_calli (va_runV (As := [.int (nI i)]) (rest := []) ⟨hx, hb, hml, hown, hts⟩ (s_X0_at_g l dC dI cs ty L H.size F g1 σ r1 n1 z i f hW hL_g1 hT_g1 hFg hFr (by omega) (by omega) (by omega)) ⟨callB_of 1 hts (gi kt_21) rfl rfl rfl (hts _ kt_1) (hts _ kt_120) (by decide +kernel) ⟨Nat.le_of_ble_eq_true rfl, Nat.le_of_ble_eq_true rfl⟩, (hts _ kt_23), (hts _ kt_24)⟩ ⟨fun a U g mk q => ⟨q.1, PT.calling q.2⟩, pg_recv hK hP hL_g1 hFg (q := (RX0, TX0, 3)) rfl, fun U hU hWm => ⟨rfl, PT.mk hU hWm hP hK hD hE hO⟩⟩ rfl rfl hl.1 rfl (lv_room (Nat.le_of_ble_eq_true rfl)) dX10_numberOf_31 ⟨by show _ + 0 ≤ 0; omega, by show _ + 0 ≤ 0; omega⟩) hS (fun q _ h => hFc q h) hFc (fun r_17 u t H1 locs ht hvm hw hB hz1 hk1 hS => ?_)
        obtain ⟨F_18, hB1⟩ := hB
        obtain rfl : F = F_18 := (funext (fun a => hB1.2.2.2 a List.not_mem_nil)).symm
        obtain ⟨hP, hD, hO, hR⟩ := QT.back hB1 ht hFc hR (fun q h => absurd h List.not_mem_nil)
        generalize H1 = H at hP hS ⊢
        have hw : r_17 = atn f z i := hw
        have hw_19 := hw
        subst hw_19
        have hFc := pg_free hD hS hA
        refine va_calli (va_runS (As := [.int (atn f z i)]) (rest := []) ⟨hx, hb, hml, hown, hts⟩ (s_X0_isDigit_e l dC dI cs ty L H.size F (atn f z i) hW ) ⟨callB_of 1 hts (gi kt_7) rfl rfl rfl (hts _ kt_1) (hts _ kt_121) (by decide +kernel) ⟨Nat.le_of_ble_eq_true rfl, Nat.le_of_ble_eq_true rfl⟩, (hts _ kt_9)⟩ ⟨fun a U g mk q => ⟨q.1, PT.calling q.2⟩, fun U hU hWm => ⟨rfl, PT.mk hU hWm hP hK hD hE hO⟩⟩ rfl rfl hl.1 rfl (lv_room (Nat.le_of_ble_eq_true rfl)) dX10_numberOf_34 ⟨by show _ + 0 ≤ 0; omega, by show _ + 0 ≤ 0; omega⟩) hS (fun q _ h => hFc q h) hFc (fun r_20 u t H1 locs ht hvm hw hB hz1 hk1 hS => ?_)
        obtain ⟨F_21, hB1⟩ := hB
        obtain rfl : F = F_21 := (funext (fun a => hB1.2.2.2 a List.not_mem_nil)).symm
        obtain ⟨hP, hD, hO, hR⟩ := QT.back hB1 ht hFc hR (fun q h => absurd h List.not_mem_nil)
        generalize H1 = H at hP hS ⊢
        have hw : r_20 = (if 48 ≤ (atn f z i) ∧ (atn f z i) ≤ 57 then 1 else 0) := hw
        have hw_22 := hw
        refine lv_if_ne (tgt := 42) hx hb dX10_numberOf_37 (by decide) (fun c_23 => ?_) (fun c_23 => ?_)
        ·
          have hdg : 48 ≤ (TC f z) i ∧ (TC f z) i ≤ 57 := sme_d hw_22 c_23
          have hcd : atn f z i = nI ((TC f z) i) := cdv_in (by show (TC f z) i < 128; omega)
          refine lv_iload hx hb dX10_numberOf_42 (lv_at hl 1 rfl) ?_
          refine lv_bipush (v := 10) hx hb dX10_numberOf_44 (by decide) ?_
          refine lv_imul hx hb dX10_numberOf_46 ?_
          refine lv_topi (fun x_24 ex_24 => ?_)
          obtain rfl : x_24 = (nI (vv * 10)) := ex_24.trans (pk_mul vv 10)
          refine lv_aload_n hx hb dX10_numberOf_47 rfl (lv_at hl 2 rfl) ?_
          refine lv_iload hx hb dX10_numberOf_48 (lv_at hl 0 rfl) ?_
          have hFc := pg_free hD hS hA
          refine va_calli (va_runV (As := [.int (nI i)]) (rest := [.int (nI (vv * 10))]) ⟨hx, hb, hml, hown, hts⟩ (s_X0_at_g l dC dI cs ty L H.size F g1 σ r1 n1 z i f hW hL_g1 hT_g1 hFg hFr (by omega) (by omega) (by omega)) ⟨callB_of 1 hts (gi kt_21) rfl rfl rfl (hts _ kt_1) (hts _ kt_120) (by decide +kernel) ⟨Nat.le_of_ble_eq_true rfl, Nat.le_of_ble_eq_true rfl⟩, (hts _ kt_23), (hts _ kt_24)⟩ ⟨fun a U g mk q => ⟨q.1, PT.calling q.2⟩, pg_recv hK hP hL_g1 hFg (q := (RX0, TX0, 3)) rfl, fun U hU hWm => ⟨rfl, PT.mk hU hWm hP hK hD hE hO⟩⟩ rfl rfl hl.1 rfl (lv_room (Nat.le_of_ble_eq_true rfl)) dX10_numberOf_50 ⟨by show _ + 0 ≤ 0; omega, by show _ + 0 ≤ 0; omega⟩) hS (fun q _ h => hFc q h) hFc (fun r_25 u t H1 locs ht hvm hw hB hz1 hk1 hS => ?_)
          obtain ⟨F_26, hB1⟩ := hB
          obtain rfl : F = F_26 := (funext (fun a => hB1.2.2.2 a List.not_mem_nil)).symm
          obtain ⟨hP, hD, hO, hR⟩ := QT.back hB1 ht hFc hR (fun q h => absurd h List.not_mem_nil)
          generalize H1 = H at hP hS ⊢
          have hw : r_25 = atn f z i := hw
          have hw_27 := hw
          subst hw_27
          refine lv_iadd hx hb dX10_numberOf_53 ?_
          refine lv_topi (fun x_28 ex_28 => ?_)
          obtain rfl : x_28 = (nI (vv * 10 + (TC f z) i)) := ex_28.trans ((congrArg (fun q => nI (vv * 10) + q) hcd).trans (nI_add (vv * 10) ((TC f z) i)))
          refine lv_bipush (v := 48) hx hb dX10_numberOf_54 (by decide) ?_
          refine lv_isub hx hb dX10_numberOf_56 ?_
          refine lv_topi (fun x_29 ex_29 => ?_)
          obtain rfl : x_29 = (nI (vv * 10 + (TC f z) i - 48)) := ex_29.trans (pk_sub (b := 48) (by omega))
          refine lv_istore (lv' := [(4, .int (nI (vv * 10 + (TC f z) i - 48))), (5, .int (nI i)), (0, .ref g1), (1, .int (nI a)), (2, .int (nI b)), (3, .int 9)]) hx hb dX10_numberOf_57 hl (by decide) rfl (fun ls hl => ?_)
          refine lv_iinc (v := (nI (i + 1))) (lv' := [(5, .int (nI (i + 1))), (4, .int (nI (vv * 10 + (TC f z) i - 48))), (0, .ref g1), (1, .int (nI a)), (2, .int (nI b)), (3, .int 9)]) hx hb dX10_numberOf_59 hl (k := 1) rfl (nI_1 _) (by decide) rfl (fun ls hl => ?_)
          refine lv_goto (tgt := 22) hx hb dX10_numberOf_62 (by decide) ?_
          refine W.widen (k := 0) (n := 0) (by omega) (by omega) ?_
          exact ih_13 ((i + 1), (vv * 10 + (TC f z) i - 48)) F (⟨by omega, by omega, nb9_s hv3 hv1 hdg, nbw_y hv4 hib hdg⟩) (by show b - (i + 1) < b - i; omega) hO hR _ _ hP hD hS ls (lv_sub hl [0, 1, 2, 3, 4, 5] rfl)
        ·
          have hdg : ¬ (48 ≤ (TC f z) i ∧ (TC f z) i ≤ 57) := sme_n hw_22 c_23
          refine lv_iconst (v := (-1)) hx hb dX10_numberOf_40 (by decide) ?_
          refine W.widen (k := 0) (n := 0) (by omega) (by omega) ?_
          exact W.iret (v := (-1)) hx hb hr (fun t ht hWm => ⟨⟨(-1), (), rfl, nbT_n hv4 hib hdg (by omega) (by omega), ⟨F, QT.mk ht hP hD hO hR⟩⟩, hS.F ht⟩) hS.2.2 dX10_numberOf_41
    ·
      have hl2 : 9 < b - a := Nat.not_le.mp (fun q => c_9 ((nI_leI (b := 9) (by omega) (by omega)).mpr q))
      refine lv_iconst (v := (-1)) hx hb dX10_numberOf_14 (by decide) ?_
      refine W.widen (k := 0) (n := 0) (by omega) (by omega) ?_
      exact W.iret (v := (-1)) hx hb hr (fun t ht hWm => ⟨⟨(-1), (), rfl, (show (-1 : Int32) = nbv (nbT (TC f z) a b 9) by unfold nbT; rw [if_neg (fun q => by have q1 := q.2; omega)]; rfl), ⟨F, QT.mk ht hP hD hO hR⟩⟩, hS.F ht⟩) hS.2.2 dX10_numberOf_15
noncomputable def tgR (T : Nat → Nat) (g : Nat → Nat → Nat) (l : List Nat) : Nat → Option Nat
  | 0 => none
  | n + 1 => match tgR T g l n with
    | some k => some k
    | none => @ite (Option Nat) (ISL T (g 0 n) (g 1 n) l) (Classical.propDecidable _) (some n) none
theorem tgR_o {T : Nat → Nat} {g : Nat → Nat → Nat} {l : List Nat} {n k : Nat} (h : tgR T g l n = some k) : tgR T g l (n + 1) = some k := by
  show (match tgR T g l n with | some k => some k | none => @ite (Option Nat) (ISL T (g 0 n) (g 1 n) l) (Classical.propDecidable _) (some n) none) = _
  rw [h]
theorem tgR_a {T : Nat → Nat} {g : Nat → Nat → Nat} {l : List Nat} {n : Nat} (h : tgR T g l n = none) : tgR T g l (n + 1) = @ite (Option Nat) (ISL T (g 0 n) (g 1 n) l) (Classical.propDecidable _) (some n) none := by
  show (match tgR T g l n with | some k => some k | none => @ite (Option Nat) (ISL T (g 0 n) (g 1 n) l) (Classical.propDecidable _) (some n) none) = _
  rw [h]
theorem tgR_n {T : Nat → Nat} {g : Nat → Nat → Nat} {l : List Nat} : ∀ n, (∀ k, k < n → ¬ ISL T (g 0 k) (g 1 k) l) → tgR T g l n = none := by
  intro n
  induction n with
  | zero => intro _; rfl
  | succ n ih =>
    intro h
    rw [tgR_a (ih (fun k hk => h k (by omega))), if_neg (h n (by omega))]
theorem tgR_y {T : Nat → Nat} {g : Nat → Nat → Nat} {l : List Nat} {k : Nat} (h : ISL T (g 0 k) (g 1 k) l) (hf : ∀ j, j < k → ¬ ISL T (g 0 j) (g 1 j) l) : ∀ n, k < n → tgR T g l n = some k := by
  intro n
  induction n with
  | zero => intro hk; exact absurd hk (Nat.not_lt_zero _)
  | succ n ih =>
    intro hk
    rcases Nat.lt_or_ge k n with q | q
    · exact tgR_o (ih q)
    · obtain rfl : k = n := by omega
      rw [tgR_a (tgR_n k hf), if_pos h]
theorem tgR_lt {T : Nat → Nat} {g : Nat → Nat → Nat} {l : List Nat} {k : Nat} : ∀ n, tgR T g l n = some k → k < n ∧ ISL T (g 0 k) (g 1 k) l ∧ ∀ j, j < k → ¬ ISL T (g 0 j) (g 1 j) l := by
  intro n
  induction n with
  | zero => intro h; exact nomatch h
  | succ n ih =>
    intro h
    cases e : tgR T g l n with
    | some k2 =>
      rw [tgR_o e] at h
      obtain ⟨a1, a2, a3⟩ := ih (e.trans h)
      exact ⟨by omega, a2, a3⟩
    | none =>
      rw [tgR_a e] at h
      by_cases c : ISL T (g 0 n) (g 1 n) l
      · rw [if_pos c] at h
        obtain rfl := Option.some.inj h
        refine ⟨by omega, c, fun j hj q => ?_⟩
        have h9 : ∀ m, m ≤ n → ∀ j, j < m → ISL T (g 0 j) (g 1 j) l → ¬ tgR T g l m = none := by
          intro m
          induction m with
          | zero => intro _ j hj; exact absurd hj (Nat.not_lt_zero _)
          | succ m ihm =>
            intro hm j hj hI q9
            cases e2 : tgR T g l m with
            | some k3 => exact nomatch (tgR_o e2).symm.trans q9
            | none =>
              rcases Nat.lt_or_ge j m with w | w
              · exact ihm (by omega) j w hI e2
              · obtain rfl : j = m := by omega
                rw [tgR_a e2, if_pos hI] at q9
                exact nomatch q9
        exact h9 n (Nat.le_refl _) j hj q e
      · rw [if_neg c] at h
        exact nomatch h
theorem rwx_R {T : Nat → Nat} {g : Nat → Nat → Nat} {n : Nat} {l : List Nat} {r : Int32} (h : RWX T g n l r) (hn : n ≤ 40) (c : r < 0) : tgR T g l n = none := tgR_n n (rwx_n h hn c)
theorem tge_R {T : Nat → Nat} {g : Nat → Nat → Nat} {n : Nat} {l : List Nat} : TGE T g n l ↔ ¬ tgR T g l n = none := by
  constructor
  · rintro ⟨k, h1, h2⟩ q
    have key : ∀ m, ∀ j, j < m → ISL T (g 0 j) (g 1 j) l → ¬ tgR T g l m = none := by
      intro m
      induction m with
      | zero => intro j hj; exact absurd hj (Nat.not_lt_zero _)
      | succ m ihm =>
        intro j hj hI q9
        cases e2 : tgR T g l m with
        | some k3 => exact nomatch (tgR_o e2).symm.trans q9
        | none =>
          rcases Nat.lt_or_ge j m with w | w
          · exact ihm j w hI e2
          · obtain rfl : j = m := by omega
            rw [tgR_a e2, if_pos hI] at q9
            exact nomatch q9
    exact key n k h1 h2 q
  · intro q
    cases e : tgR T g l n with
    | none => exact absurd e q
    | some k =>
      obtain ⟨a1, a2, -⟩ := tgR_lt n e
      exact ⟨k, a1, a2⟩
def tgA (g : Nat → Nat → Nat) : Option Nat → Nat
  | none => 0
  | some k => g 1 k + 1
def tgB (g : Nat → Nat → Nat) : Option Nat → Nat
  | none => 0
  | some k => g 2 k
def tgM (T : Nat → Nat) (g : Nat → Nat → Nat) : Option Nat → Option Nat
  | none => none
  | some k => nbT T (g 1 k + 1) (g 2 k) 9
theorem tgM_lt {T : Nat → Nat} {g : Nat → Nat → Nat} {o : Option Nat} : ∀ w, tgM T g o = some w → w < 1000000000 := by
  intro w h
  cases o with
  | none => exact nomatch h
  | some k => exact nbT_ltq h
theorem tgAB {T : Nat → Nat} {g : Nat → Nat → Nat} {l : List Nat} {z n : Nat} (h : TGI z n g) : tgA g (tgR T g l n) ≤ tgB g (tgR T g l n) ∧ tgB g (tgR T g l n) ≤ z := by
  cases e : tgR T g l n with
  | none => exact ⟨Nat.le_refl _, Nat.zero_le _⟩
  | some k =>
    obtain ⟨h1, h2, h3⟩ := h k (tgR_lt n e).1
    exact ⟨h2, h3⟩
def NMC (T : Nat → Nat) (a b : Nat) : Bool := NM (fun j => nI (T j)) a b
theorem ok_cl (x : Int32) : OKC x = OKC (nI (cdv x)) ∧ (x = 46 ↔ nI (cdv x) = 46) := by
  by_cases c : cdv x < 128
  · rw [← cdv_in c]
    exact ⟨rfl, Iff.rfl⟩
  · rw [cdv_200 c, okc_200.1]
    refine ⟨?_, fun q => ?_, fun q => absurd q okc_200.2⟩
    · cases e : OKC x with
      | true => exact absurd (okc_cd e) c
      | false => rfl
    · exact absurd (cd_eq (a := 46) (by omega) q) c
theorem nmc_of {f : Nat → Int32} {z a b : Nat} (hb : b ≤ z) : NM f a b = NMC (TC f z) a b := NM_cg (fun j h1 h2 => by
  show _ = OKC (nI (TC f z j)) ∧ (_ ↔ nI (TC f z j) = 46)
  rw [tcn_in (by omega)]
  exact ok_cl _)
set_option maxHeartbeats 4000000 in
set_option maxRecDepth 100000 in
theorem s_X9_startOf_e (l : Launch) (dC : Nat → ClassId) (dI : Nat → Nat → Nat) (cs : Nat → ClassId) (ty : TyM) (L : List Nat) (sz : Nat) (F : Nat → va_E) (h0 : Nat) (ρ : Nat) (tx : Nat) (n : Nat) (y0 : Nat) (y1 : Nat) (y2 : Nat) (rx : Nat) (z : Nat) (nn : Nat) (f : Nat → Int32) (e0 : Nat → Int32) (e1 : Nat → Int32) (e2 : Nat → Int32) (gq : Nat → Nat → Nat) (q : Nat) (v : Nat) (k0 : Nat) (C : Nat → Int32) (ll : List Nat) (hW : WT ty L) (hL_h0 : h0 ∈ L) (hT_h0 : ty h0 = (9, ρ, [tx, n, y0, y1, y2])) (hL_tx : tx ∈ L) (hT_tx : ty tx = (0, ρ + 1, [rx, n])) (hF0 : F h0 = .inr (9, [.ref tx, .ref y0, .ref y1, .ref y2, .int (nI nn)])) (hFx : F tx = .inr (0, [.ref rx, .int (nI z), .int 0])) (hFr : F rx = .inl (cs 16, n, .inl f)) (hFy0 : F y0 = .inl (cs 16, 40, .inl e0)) (hFy1 : F y1 = .inl (cs 16, 40, .inl e1)) (hFy2 : F y2 = .inl (cs 16, 40, .inl e2)) (hzn : z ≤ n) (hn9 : n ≤ 10000) (hcn : nn ≤ 40) (hhl : HLD e0 e1 e2 nn gq) (hTG : TGI z nn gq) (hCL : CLI C k0 ll) : Met l yX9_startOf (.code yX9_startOf cX9_startOf 3 (some .int) :: tb) ({ frames := 6, cells := 0, slots := 0, locals := 131 }) (va_Pc [.ref h0, .ref q] (PTC (dC, dI) cs ty L F sz q v k0 C)) (va_Qi (fun (r : Int32) (_ : Unit) => r = nI (tgA gq (tgR (TC f z) gq ll nn))) (fun _ T9 => ∃ F2 : Nat → va_E, QT (dC, dI) cs ty L [] F F2 (va_A (va_pl L F) sz) T9) (va_A (va_pl L F) sz)) 0 0 (va_A (va_pl L F) sz) := by
  refine Met.ofW (cc := cX9_startOf) (maxL := 3) (ret := (some .int)) (by decide) rfl ?_
  intro p e s m args below meth c s₁ B hml hv
  obtain ⟨rfl, ⟨hsz, hP, hK, hD0, hE, hO⟩, hG, hX⟩ := hv
  have hx := B.exec
  have hb := B.bytes
  have hr := B.returns
  have hts : ∀ w ∈ tb, w.before _ s = true := fun w h => atoms_spec (ws := .code yX9_startOf cX9_startOf 3 (some .int) :: tb) B.pre w (List.mem_cons_of_mem _ h)
  have hown : s.vm.findClass RX9 = some m.cls := findClass_of_methodNamed B.named
  have hlocks := B.notSynchronized
  subst hsz
  have hD := hD0.self (sz := s.heap.size)
  generalize hAe : va_A (va_pl L F) s.heap.size = A at hD hG hX ⊢
  have hX_q : SX q v k0 A s s.heap := hX.sx
  obtain ⟨xo_q, xc_q, xv_q, xt_q, xn_q⟩ := id hX
  have hA : ∀ q : Nat, s.heap.size ≤ q → A q := fun q h => by rw [← hAe]; exact Or.inr h
  have hS : va_S A s.heap s.heap [] := va_S.rf
  have hR : FR ty [] F F := FR.refl
  have hl := lv_entry ([.ref h0, .ref q]) (n := 3) (Nat.le_of_ble_eq_true rfl)
  rw [lg_entry_eq]
  generalize (lg_sl ([.ref h0, .ref q]) ++ List.replicate (3 - (lg_sl ([.ref h0, .ref q])).length) Slot.unset).toArray = ls at hl ⊢
  have hl : lv_has ls 3 [(0, .ref h0), (1, .ref q)] := hl
  obtain ⟨_, hi_1, hi_2, hi_3, _, ht_4, ht_5, ht_6⟩ := hW.tags hL_h0 hT_h0
  refine lv_aload_n hx hb dX9_startOf_0 rfl (lv_at hl 0 rfl) ?_
  refine lv_aload_n hx hb dX9_startOf_1 rfl (lv_at hl 1 rfl) ?_
  obtain ⟨hi_7, ht_8, hq_9⟩ := hW.bytes hL_tx hT_tx
  have hFc := pg_free hD hS hA
  refine va_calli (va_runV (As := [.ref q]) (rest := []) ⟨hx, hb, hml, hown, hts⟩ (s_X9_rowOf_e l dC dI cs ty L s.heap.size F h0 ρ tx n y0 y1 y2 rx z nn f e0 e1 e2 gq q v k0 C ll hW hL_h0 hT_h0 hL_tx hT_tx hF0 hFx hFr hFy0 hFy1 hFy2 (hzn) (hn9) (hcn) (hhl) (hTG) (hCL)) ⟨callB_of 1 hts (gi kt_163) rfl rfl rfl (hts _ kt_164) (hts _ kt_165) (by decide +kernel) ⟨Nat.le_of_ble_eq_true rfl, Nat.le_of_ble_eq_true rfl⟩, (hts _ kt_166), (hts _ kt_167)⟩ ⟨fun a U g mk q => ⟨q.1, PTC.calling q.2⟩, pg_recv hK hP hL_h0 hF0 (q := (RX9, TX9, 5)) rfl, fun U hU hWm => ⟨rfl, PTC.mk hU hWm hP hK hD hE hO hG hX hS hFc⟩⟩ rfl rfl hl.1 rfl (lv_room (Nat.le_of_ble_eq_true rfl)) dX9_startOf_2 ⟨by show _ + 0 ≤ 0; omega, by show _ + 0 ≤ 0; omega⟩) hS (fun q _ h => hFc q h) hFc (fun r_10 u t H1 locs ht hvm hw hB hz1 hk1 hS => ?_)
  obtain ⟨F_11, hB1⟩ := hB
  obtain rfl : F = F_11 := (funext (fun a => hB1.2.2.2 a List.not_mem_nil)).symm
  obtain ⟨hP, hD, hO, hR⟩ := QT.back hB1 ht hFc hR (fun q h => absurd h List.not_mem_nil)
  generalize H1 = H at hP hS ⊢
  have hw : RWX (TC f z) gq nn ll r_10 := hw
  have hw_12 := hw
  refine lv_istore_n (lv' := [(2, .int r_10), (0, .ref h0), (1, .ref q)]) hx hb dX9_startOf_5 rfl hl (by decide) rfl (fun ls hl => ?_)
  refine lv_iload_n hx hb dX9_startOf_6 rfl (lv_at hl 0 rfl) ?_
  refine lv_if_ge (tgt := 14) hx hb dX9_startOf_7 (by decide) (fun c_13 => ?_) (fun c_13 => ?_)
  ·
    obtain ⟨j, hjz, ej, hj1, hj2⟩ := rwx_y hw_12 (Int32.not_lt.mpr c_13)
    subst ej
    obtain ⟨hg1, hg2, hg3⟩ := hTG j hjz
    have hR9 : (tgR (TC f z) gq ll nn) = some j := tgR_y hj1 hj2 nn hjz
    refine lv_aload_n hx hb dX9_startOf_14 rfl (lv_at hl 1 rfl) ?_
    refine pg_get (ci := 9) (v := .ref y1) (C := RX9) (T := TX9) (N := 5) hx hb hts it_9 hown hK hP hL_h0 hF0 rfl 2 (by decide) (hts _ kt_161) (fun _ h9 => h9) rfl dX9_startOf_15 ?_
    refine lv_iload_n hx hb dX9_startOf_18 rfl (lv_at hl 0 rfl) ?_
    refine pg_iald hx hb hK hP hi_2 0 hFy1 rfl (vp_in_nI (by omega) (by omega)) dX9_startOf_19 ?_
    refine lv_topi (fun x_14 ex_14 => ?_)
    obtain rfl : x_14 = (nI (gq 1 j)) := ex_14.trans (((congrArg e1 (nI_clamp (by omega))).trans (hhl j hjz).2.1))
    refine lv_iconst (v := 1) hx hb dX9_startOf_20 (by decide) ?_
    refine lv_iadd hx hb dX9_startOf_21 ?_
    refine lv_topi (fun x_15 ex_15 => ?_)
    obtain rfl : x_15 = (nI (gq 1 j + 1)) := ex_15.trans (nI_1 _)
    refine W.widen (k := 0) (n := 0) (by omega) (by omega) ?_
    exact W.iret (v := (nI (gq 1 j + 1))) hx hb hr (fun t ht hWm => ⟨⟨(nI (gq 1 j + 1)), (), rfl, (by rw [hR9]; rfl), ⟨F, QT.mk ht hP hD hO hR⟩⟩, hS.F ht⟩) hS.2.2 dX9_startOf_22
  ·
    have hR9 : (tgR (TC f z) gq ll nn) = none := rwx_R hw_12 hcn (Int32.not_le.mp c_13)
    refine lv_iconst (v := 0) hx hb dX9_startOf_10 (by decide) ?_
    refine lv_goto (tgt := 22) hx hb dX9_startOf_11 (by decide) ?_
    refine W.widen (k := 0) (n := 0) (by omega) (by omega) ?_
    exact W.iret (v := 0) hx hb hr (fun t ht hWm => ⟨⟨0, (), rfl, (by rw [hR9]; rfl), ⟨F, QT.mk ht hP hD hO hR⟩⟩, hS.F ht⟩) hS.2.2 dX9_startOf_22
set_option maxHeartbeats 4000000 in
set_option maxRecDepth 100000 in
theorem s_X9_endOf_e (l : Launch) (dC : Nat → ClassId) (dI : Nat → Nat → Nat) (cs : Nat → ClassId) (ty : TyM) (L : List Nat) (sz : Nat) (F : Nat → va_E) (h0 : Nat) (ρ : Nat) (tx : Nat) (n : Nat) (y0 : Nat) (y1 : Nat) (y2 : Nat) (rx : Nat) (z : Nat) (nn : Nat) (f : Nat → Int32) (e0 : Nat → Int32) (e1 : Nat → Int32) (e2 : Nat → Int32) (gq : Nat → Nat → Nat) (q : Nat) (v : Nat) (k0 : Nat) (C : Nat → Int32) (ll : List Nat) (hW : WT ty L) (hL_h0 : h0 ∈ L) (hT_h0 : ty h0 = (9, ρ, [tx, n, y0, y1, y2])) (hL_tx : tx ∈ L) (hT_tx : ty tx = (0, ρ + 1, [rx, n])) (hF0 : F h0 = .inr (9, [.ref tx, .ref y0, .ref y1, .ref y2, .int (nI nn)])) (hFx : F tx = .inr (0, [.ref rx, .int (nI z), .int 0])) (hFr : F rx = .inl (cs 16, n, .inl f)) (hFy0 : F y0 = .inl (cs 16, 40, .inl e0)) (hFy1 : F y1 = .inl (cs 16, 40, .inl e1)) (hFy2 : F y2 = .inl (cs 16, 40, .inl e2)) (hzn : z ≤ n) (hn9 : n ≤ 10000) (hcn : nn ≤ 40) (hhl : HLD e0 e1 e2 nn gq) (hTG : TGI z nn gq) (hCL : CLI C k0 ll) : Met l yX9_endOf (.code yX9_endOf cX9_endOf 3 (some .int) :: tb) ({ frames := 6, cells := 0, slots := 0, locals := 131 }) (va_Pc [.ref h0, .ref q] (PTC (dC, dI) cs ty L F sz q v k0 C)) (va_Qi (fun (r : Int32) (_ : Unit) => r = nI (tgB gq (tgR (TC f z) gq ll nn))) (fun _ T9 => ∃ F2 : Nat → va_E, QT (dC, dI) cs ty L [] F F2 (va_A (va_pl L F) sz) T9) (va_A (va_pl L F) sz)) 0 0 (va_A (va_pl L F) sz) := by
  refine Met.ofW (cc := cX9_endOf) (maxL := 3) (ret := (some .int)) (by decide) rfl ?_
  intro p e s m args below meth c s₁ B hml hv
  obtain ⟨rfl, ⟨hsz, hP, hK, hD0, hE, hO⟩, hG, hX⟩ := hv
  have hx := B.exec
  have hb := B.bytes
  have hr := B.returns
  have hts : ∀ w ∈ tb, w.before _ s = true := fun w h => atoms_spec (ws := .code yX9_endOf cX9_endOf 3 (some .int) :: tb) B.pre w (List.mem_cons_of_mem _ h)
  have hown : s.vm.findClass RX9 = some m.cls := findClass_of_methodNamed B.named
  have hlocks := B.notSynchronized
  subst hsz
  have hD := hD0.self (sz := s.heap.size)
  generalize hAe : va_A (va_pl L F) s.heap.size = A at hD hG hX ⊢
  have hX_q : SX q v k0 A s s.heap := hX.sx
  obtain ⟨xo_q, xc_q, xv_q, xt_q, xn_q⟩ := id hX
  have hA : ∀ q : Nat, s.heap.size ≤ q → A q := fun q h => by rw [← hAe]; exact Or.inr h
  have hS : va_S A s.heap s.heap [] := va_S.rf
  have hR : FR ty [] F F := FR.refl
  have hl := lv_entry ([.ref h0, .ref q]) (n := 3) (Nat.le_of_ble_eq_true rfl)
  rw [lg_entry_eq]
  generalize (lg_sl ([.ref h0, .ref q]) ++ List.replicate (3 - (lg_sl ([.ref h0, .ref q])).length) Slot.unset).toArray = ls at hl ⊢
  have hl : lv_has ls 3 [(0, .ref h0), (1, .ref q)] := hl
  obtain ⟨_, hi_1, hi_2, hi_3, _, ht_4, ht_5, ht_6⟩ := hW.tags hL_h0 hT_h0
  refine lv_aload_n hx hb dX9_endOf_0 rfl (lv_at hl 0 rfl) ?_
  refine lv_aload_n hx hb dX9_endOf_1 rfl (lv_at hl 1 rfl) ?_
  obtain ⟨hi_7, ht_8, hq_9⟩ := hW.bytes hL_tx hT_tx
  have hFc := pg_free hD hS hA
  refine va_calli (va_runV (As := [.ref q]) (rest := []) ⟨hx, hb, hml, hown, hts⟩ (s_X9_rowOf_e l dC dI cs ty L s.heap.size F h0 ρ tx n y0 y1 y2 rx z nn f e0 e1 e2 gq q v k0 C ll hW hL_h0 hT_h0 hL_tx hT_tx hF0 hFx hFr hFy0 hFy1 hFy2 (hzn) (hn9) (hcn) (hhl) (hTG) (hCL)) ⟨callB_of 1 hts (gi kt_163) rfl rfl rfl (hts _ kt_164) (hts _ kt_165) (by decide +kernel) ⟨Nat.le_of_ble_eq_true rfl, Nat.le_of_ble_eq_true rfl⟩, (hts _ kt_166), (hts _ kt_167)⟩ ⟨fun a U g mk q => ⟨q.1, PTC.calling q.2⟩, pg_recv hK hP hL_h0 hF0 (q := (RX9, TX9, 5)) rfl, fun U hU hWm => ⟨rfl, PTC.mk hU hWm hP hK hD hE hO hG hX hS hFc⟩⟩ rfl rfl hl.1 rfl (lv_room (Nat.le_of_ble_eq_true rfl)) dX9_endOf_2 ⟨by show _ + 0 ≤ 0; omega, by show _ + 0 ≤ 0; omega⟩) hS (fun q _ h => hFc q h) hFc (fun r_10 u t H1 locs ht hvm hw hB hz1 hk1 hS => ?_)
  obtain ⟨F_11, hB1⟩ := hB
  obtain rfl : F = F_11 := (funext (fun a => hB1.2.2.2 a List.not_mem_nil)).symm
  obtain ⟨hP, hD, hO, hR⟩ := QT.back hB1 ht hFc hR (fun q h => absurd h List.not_mem_nil)
  generalize H1 = H at hP hS ⊢
  have hw : RWX (TC f z) gq nn ll r_10 := hw
  have hw_12 := hw
  refine lv_istore_n (lv' := [(2, .int r_10), (0, .ref h0), (1, .ref q)]) hx hb dX9_endOf_5 rfl hl (by decide) rfl (fun ls hl => ?_)
  refine lv_iload_n hx hb dX9_endOf_6 rfl (lv_at hl 0 rfl) ?_
  refine lv_if_ge (tgt := 14) hx hb dX9_endOf_7 (by decide) (fun c_13 => ?_) (fun c_13 => ?_)
  ·
    obtain ⟨j, hjz, ej, hj1, hj2⟩ := rwx_y hw_12 (Int32.not_lt.mpr c_13)
    subst ej
    obtain ⟨hg1, hg2, hg3⟩ := hTG j hjz
    have hR9 : (tgR (TC f z) gq ll nn) = some j := tgR_y hj1 hj2 nn hjz
    refine lv_aload_n hx hb dX9_endOf_14 rfl (lv_at hl 1 rfl) ?_
    refine pg_get (ci := 9) (v := .ref y2) (C := RX9) (T := TX9) (N := 5) hx hb hts it_9 hown hK hP hL_h0 hF0 rfl 3 (by decide) (hts _ kt_168) (fun _ h9 => h9) rfl dX9_endOf_15 ?_
    refine lv_iload_n hx hb dX9_endOf_18 rfl (lv_at hl 0 rfl) ?_
    refine pg_iald hx hb hK hP hi_3 0 hFy2 rfl (vp_in_nI (by omega) (by omega)) dX9_endOf_19 ?_
    refine lv_topi (fun x_14 ex_14 => ?_)
    obtain rfl : x_14 = (nI (gq 2 j)) := ex_14.trans (((congrArg e2 (nI_clamp (by omega))).trans (hhl j hjz).2.2))
    refine W.widen (k := 0) (n := 0) (by omega) (by omega) ?_
    exact W.iret (v := (nI (gq 2 j))) hx hb hr (fun t ht hWm => ⟨⟨(nI (gq 2 j)), (), rfl, (by rw [hR9]; rfl), ⟨F, QT.mk ht hP hD hO hR⟩⟩, hS.F ht⟩) hS.2.2 dX9_endOf_20
  ·
    have hR9 : (tgR (TC f z) gq ll nn) = none := rwx_R hw_12 hcn (Int32.not_le.mp c_13)
    refine lv_iconst (v := 0) hx hb dX9_endOf_10 (by decide) ?_
    refine lv_goto (tgt := 20) hx hb dX9_endOf_11 (by decide) ?_
    refine W.widen (k := 0) (n := 0) (by omega) (by omega) ?_
    exact W.iret (v := 0) hx hb hr (fun t ht hWm => ⟨⟨0, (), rfl, (by rw [hR9]; rfl), ⟨F, QT.mk ht hP hD hO hR⟩⟩, hS.F ht⟩) hS.2.2 dX9_endOf_20
set_option maxHeartbeats 4000000 in
set_option maxRecDepth 100000 in
theorem s_X9_numberAt_e (l : Launch) (dC : Nat → ClassId) (dI : Nat → Nat → Nat) (cs : Nat → ClassId) (ty : TyM) (L : List Nat) (sz : Nat) (F : Nat → va_E) (h0 : Nat) (ρ : Nat) (tx : Nat) (n : Nat) (y0 : Nat) (y1 : Nat) (y2 : Nat) (rx : Nat) (z : Nat) (nn : Nat) (f : Nat → Int32) (e0 : Nat → Int32) (e1 : Nat → Int32) (e2 : Nat → Int32) (gq : Nat → Nat → Nat) (q : Nat) (v : Nat) (k0 : Nat) (C : Nat → Int32) (ll : List Nat) (hW : WT ty L) (hL_h0 : h0 ∈ L) (hT_h0 : ty h0 = (9, ρ, [tx, n, y0, y1, y2])) (hL_tx : tx ∈ L) (hT_tx : ty tx = (0, ρ + 1, [rx, n])) (hF0 : F h0 = .inr (9, [.ref tx, .ref y0, .ref y1, .ref y2, .int (nI nn)])) (hFx : F tx = .inr (0, [.ref rx, .int (nI z), .int 0])) (hFr : F rx = .inl (cs 16, n, .inl f)) (hFy0 : F y0 = .inl (cs 16, 40, .inl e0)) (hFy1 : F y1 = .inl (cs 16, 40, .inl e1)) (hFy2 : F y2 = .inl (cs 16, 40, .inl e2)) (hzn : z ≤ n) (hn9 : n ≤ 10000) (hcn : nn ≤ 40) (hhl : HLD e0 e1 e2 nn gq) (hTG : TGI z nn gq) (hCL : CLI C k0 ll) : Met l yX9_numberAt (.code yX9_numberAt cX9_numberAt 3 (some .int) :: tb) ({ frames := 6, cells := 0, slots := 0, locals := 131 }) (va_Pc [.ref h0, .ref q] (PTC (dC, dI) cs ty L F sz q v k0 C)) (va_Qi (fun (r : Int32) (_ : Unit) => r = nbv (tgM (TC f z) gq (tgR (TC f z) gq ll nn))) (fun _ T9 => ∃ F2 : Nat → va_E, QT (dC, dI) cs ty L [] F F2 (va_A (va_pl L F) sz) T9) (va_A (va_pl L F) sz)) 0 0 (va_A (va_pl L F) sz) := by
  refine Met.ofW (cc := cX9_numberAt) (maxL := 3) (ret := (some .int)) (by decide) rfl ?_
  intro p e s m args below meth c s₁ B hml hv
  obtain ⟨rfl, ⟨hsz, hP, hK, hD0, hE, hO⟩, hG, hX⟩ := hv
  have hx := B.exec
  have hb := B.bytes
  have hr := B.returns
  have hts : ∀ w ∈ tb, w.before _ s = true := fun w h => atoms_spec (ws := .code yX9_numberAt cX9_numberAt 3 (some .int) :: tb) B.pre w (List.mem_cons_of_mem _ h)
  have hown : s.vm.findClass RX9 = some m.cls := findClass_of_methodNamed B.named
  have hlocks := B.notSynchronized
  subst hsz
  have hD := hD0.self (sz := s.heap.size)
  generalize hAe : va_A (va_pl L F) s.heap.size = A at hD hG hX ⊢
  have hX_q : SX q v k0 A s s.heap := hX.sx
  obtain ⟨xo_q, xc_q, xv_q, xt_q, xn_q⟩ := id hX
  have hA : ∀ q : Nat, s.heap.size ≤ q → A q := fun q h => by rw [← hAe]; exact Or.inr h
  have hS : va_S A s.heap s.heap [] := va_S.rf
  have hR : FR ty [] F F := FR.refl
  have hl := lv_entry ([.ref h0, .ref q]) (n := 3) (Nat.le_of_ble_eq_true rfl)
  rw [lg_entry_eq]
  generalize (lg_sl ([.ref h0, .ref q]) ++ List.replicate (3 - (lg_sl ([.ref h0, .ref q])).length) Slot.unset).toArray = ls at hl ⊢
  have hl : lv_has ls 3 [(0, .ref h0), (1, .ref q)] := hl
  obtain ⟨_, hi_1, hi_2, hi_3, _, ht_4, ht_5, ht_6⟩ := hW.tags hL_h0 hT_h0
  refine lv_aload_n hx hb dX9_numberAt_0 rfl (lv_at hl 0 rfl) ?_
  refine lv_aload_n hx hb dX9_numberAt_1 rfl (lv_at hl 1 rfl) ?_
  obtain ⟨hi_7, ht_8, hq_9⟩ := hW.bytes hL_tx hT_tx
  have hFc := pg_free hD hS hA
  refine va_calli (va_runV (As := [.ref q]) (rest := []) ⟨hx, hb, hml, hown, hts⟩ (s_X9_rowOf_e l dC dI cs ty L s.heap.size F h0 ρ tx n y0 y1 y2 rx z nn f e0 e1 e2 gq q v k0 C ll hW hL_h0 hT_h0 hL_tx hT_tx hF0 hFx hFr hFy0 hFy1 hFy2 (hzn) (hn9) (hcn) (hhl) (hTG) (hCL)) ⟨callB_of 1 hts (gi kt_163) rfl rfl rfl (hts _ kt_164) (hts _ kt_165) (by decide +kernel) ⟨Nat.le_of_ble_eq_true rfl, Nat.le_of_ble_eq_true rfl⟩, (hts _ kt_166), (hts _ kt_167)⟩ ⟨fun a U g mk q => ⟨q.1, PTC.calling q.2⟩, pg_recv hK hP hL_h0 hF0 (q := (RX9, TX9, 5)) rfl, fun U hU hWm => ⟨rfl, PTC.mk hU hWm hP hK hD hE hO hG hX hS hFc⟩⟩ rfl rfl hl.1 rfl (lv_room (Nat.le_of_ble_eq_true rfl)) dX9_numberAt_2 ⟨by show _ + 0 ≤ 0; omega, by show _ + 0 ≤ 0; omega⟩) hS (fun q _ h => hFc q h) hFc (fun r_10 u t H1 locs ht hvm hw hB hz1 hk1 hS => ?_)
  obtain ⟨F_11, hB1⟩ := hB
  obtain rfl : F = F_11 := (funext (fun a => hB1.2.2.2 a List.not_mem_nil)).symm
  obtain ⟨hP, hD, hO, hR⟩ := QT.back hB1 ht hFc hR (fun q h => absurd h List.not_mem_nil)
  generalize H1 = H at hP hS ⊢
  have hw : RWX (TC f z) gq nn ll r_10 := hw
  have hw_12 := hw
  refine lv_istore_n (lv' := [(2, .int r_10), (0, .ref h0), (1, .ref q)]) hx hb dX9_numberAt_5 rfl hl (by decide) rfl (fun ls hl => ?_)
  refine lv_iload_n hx hb dX9_numberAt_6 rfl (lv_at hl 0 rfl) ?_
  refine lv_if_ge (tgt := 14) hx hb dX9_numberAt_7 (by decide) (fun c_13 => ?_) (fun c_13 => ?_)
  ·
    obtain ⟨j, hjz, ej, hj1, hj2⟩ := rwx_y hw_12 (Int32.not_lt.mpr c_13)
    subst ej
    obtain ⟨hg1, hg2, hg3⟩ := hTG j hjz
    have hR9 : (tgR (TC f z) gq ll nn) = some j := tgR_y hj1 hj2 nn hjz
    refine lv_aload_n hx hb dX9_numberAt_14 rfl (lv_at hl 1 rfl) ?_
    refine pg_get (ci := 9) (v := .ref tx) (C := RX9) (T := TX9) (N := 5) hx hb hts it_9 hown hK hP hL_h0 hF0 rfl 0 (by decide) (hts _ kt_159) (fun _ h9 => h9) rfl dX9_numberAt_15 ?_
    refine lv_aload_n hx hb dX9_numberAt_18 rfl (lv_at hl 1 rfl) ?_
    refine pg_get (ci := 9) (v := .ref y1) (C := RX9) (T := TX9) (N := 5) hx hb hts it_9 hown hK hP hL_h0 hF0 rfl 2 (by decide) (hts _ kt_161) (fun _ h9 => h9) rfl dX9_numberAt_19 ?_
    refine lv_iload_n hx hb dX9_numberAt_22 rfl (lv_at hl 0 rfl) ?_
    refine pg_iald hx hb hK hP hi_2 0 hFy1 rfl (vp_in_nI (by omega) (by omega)) dX9_numberAt_23 ?_
    refine lv_topi (fun x_14 ex_14 => ?_)
    obtain rfl : x_14 = (nI (gq 1 j)) := ex_14.trans (((congrArg e1 (nI_clamp (by omega))).trans (hhl j hjz).2.1))
    refine lv_iconst (v := 1) hx hb dX9_numberAt_24 (by decide) ?_
    refine lv_iadd hx hb dX9_numberAt_25 ?_
    refine lv_topi (fun x_15 ex_15 => ?_)
    obtain rfl : x_15 = (nI (gq 1 j + 1)) := ex_15.trans (nI_1 _)
    refine lv_aload_n hx hb dX9_numberAt_26 rfl (lv_at hl 1 rfl) ?_
    refine pg_get (ci := 9) (v := .ref y2) (C := RX9) (T := TX9) (N := 5) hx hb hts it_9 hown hK hP hL_h0 hF0 rfl 3 (by decide) (hts _ kt_168) (fun _ h9 => h9) rfl dX9_numberAt_27 ?_
    refine lv_iload_n hx hb dX9_numberAt_30 rfl (lv_at hl 0 rfl) ?_
    refine pg_iald hx hb hK hP hi_3 0 hFy2 rfl (vp_in_nI (by omega) (by omega)) dX9_numberAt_31 ?_
    refine lv_topi (fun x_16 ex_16 => ?_)
    obtain rfl : x_16 = (nI (gq 2 j)) := ex_16.trans (((congrArg e2 (nI_clamp (by omega))).trans (hhl j hjz).2.2))
    refine lv_bipush (v := 9) hx hb dX9_numberAt_32 (by decide) ?_
    have hFc := pg_free hD hS hA
    refine va_calli (va_runS (As := [.ref tx, .int (nI (gq 1 j + 1)), .int (nI (gq 2 j)), .int 9]) (rest := []) ⟨hx, hb, hml, hown, hts⟩ (s_X10_numberOf_n l dC dI cs ty L H.size F tx (ρ + 1) rx n z (gq 1 j + 1) (gq 2 j) f hW hL_tx hT_tx hFx hFr (by omega) (by omega) (hg2) (by omega)) ⟨callB_of 4 hts (gi kt_132) rfl rfl rfl (hts _ kt_90) (hts _ kt_169) (by decide +kernel) ⟨Nat.le_of_ble_eq_true rfl, Nat.le_of_ble_eq_true rfl⟩, (hts _ kt_134)⟩ ⟨fun a U g mk q => ⟨q.1, PT.calling q.2⟩, fun U hU hWm => ⟨rfl, PT.mk hU hWm hP hK hD hE hO⟩⟩ rfl rfl hl.1 rfl (lv_room (Nat.le_of_ble_eq_true rfl)) dX9_numberAt_34 ⟨by show _ + 0 ≤ 0; omega, by show _ + 0 ≤ 0; omega⟩) hS (fun q _ h => hFc q h) hFc (fun r_17 u t H1 locs ht hvm hw hB hz1 hk1 hS => ?_)
    obtain ⟨F_18, hB1⟩ := hB
    obtain rfl : F = F_18 := (funext (fun a => hB1.2.2.2 a List.not_mem_nil)).symm
    obtain ⟨hP, hD, hO, hR⟩ := QT.back hB1 ht hFc hR (fun q h => absurd h List.not_mem_nil)
    generalize H1 = H at hP hS ⊢
    have hw : r_17 = nbv (nbT (TC f z) (gq 1 j + 1) (gq 2 j) 9) := hw
    have hw_19 := hw
    refine W.widen (k := 0) (n := 0) (by omega) (by omega) ?_
    exact W.iret (v := r_17) hx hb hr (fun t ht hWm => ⟨⟨r_17, (), rfl, (by rw [hR9]; exact hw_19), ⟨F, QT.mk ht hP hD hO hR⟩⟩, hS.F ht⟩) hS.2.2 dX9_numberAt_37
  ·
    have hR9 : (tgR (TC f z) gq ll nn) = none := rwx_R hw_12 hcn (Int32.not_le.mp c_13)
    refine lv_iconst (v := (-1)) hx hb dX9_numberAt_10 (by decide) ?_
    refine lv_goto (tgt := 37) hx hb dX9_numberAt_11 (by decide) ?_
    refine W.widen (k := 0) (n := 0) (by omega) (by omega) ?_
    exact W.iret (v := (-1)) hx hb hr (fun t ht hWm => ⟨⟨(-1), (), rfl, (by rw [hR9]; rfl), ⟨F, QT.mk ht hP hD hO hR⟩⟩, hS.F ht⟩) hS.2.2 dX9_numberAt_37
set_option maxHeartbeats 4000000 in
set_option maxRecDepth 100000 in
theorem s_X9_isOrMisses_e (l : Launch) (dC : Nat → ClassId) (dI : Nat → Nat → Nat) (cs : Nat → ClassId) (ty : TyM) (L : List Nat) (sz : Nat) (F : Nat → va_E) (h0 : Nat) (ρ : Nat) (tx : Nat) (n : Nat) (y0 : Nat) (y1 : Nat) (y2 : Nat) (rx : Nat) (z : Nat) (nn : Nat) (f : Nat → Int32) (e0 : Nat → Int32) (e1 : Nat → Int32) (e2 : Nat → Int32) (gq : Nat → Nat → Nat) (q : Nat) (v : Nat) (k0 : Nat) (C : Nat → Int32) (q2 : Nat) (v2 : Nat) (k2 : Nat) (C2 : Nat → Int32) (ll : List Nat) (mm : List Nat) (hW : WT ty L) (hL_h0 : h0 ∈ L) (hT_h0 : ty h0 = (9, ρ, [tx, n, y0, y1, y2])) (hL_tx : tx ∈ L) (hT_tx : ty tx = (0, ρ + 1, [rx, n])) (hF0 : F h0 = .inr (9, [.ref tx, .ref y0, .ref y1, .ref y2, .int (nI nn)])) (hFx : F tx = .inr (0, [.ref rx, .int (nI z), .int 0])) (hFr : F rx = .inl (cs 16, n, .inl f)) (hFy0 : F y0 = .inl (cs 16, 40, .inl e0)) (hFy1 : F y1 = .inl (cs 16, 40, .inl e1)) (hFy2 : F y2 = .inl (cs 16, 40, .inl e2)) (hzn : z ≤ n) (hn9 : n ≤ 10000) (hcn : nn ≤ 40) (hhl : HLD e0 e1 e2 nn gq) (hTG : TGI z nn gq) (hCL : CLI C k0 ll) (hCM : CLI C2 k2 mm) : Met l yX9_isOrMisses (.code yX9_isOrMisses cX9_isOrMisses 4 (some .boolean) :: tb) ({ frames := 6, cells := 0, slots := 0, locals := 131 }) (va_Pc [.ref h0, .ref q, .ref q2] (PTD (dC, dI) cs ty L F sz q v k0 C q2 v2 k2 C2)) (va_Qi (fun (r : Int32) (_ : Unit) => (r = 1 ∧ (¬ TGE (TC f z) gq nn ll ∨ TGV (TC f z) gq nn ll mm)) ∨ (r = 0 ∧ ¬ (¬ TGE (TC f z) gq nn ll ∨ TGV (TC f z) gq nn ll mm))) (fun _ T9 => ∃ F2 : Nat → va_E, QT (dC, dI) cs ty L [] F F2 (va_A (va_pl L F) sz) T9) (va_A (va_pl L F) sz)) 0 0 (va_A (va_pl L F) sz) := by
  refine Met.ofW (cc := cX9_isOrMisses) (maxL := 4) (ret := (some .boolean)) (by decide) rfl ?_
  intro p e s m args below meth c s₁ B hml hv
  obtain ⟨rfl, ⟨⟨hsz, hP, hK, hD0, hE, hO⟩, hG, hX⟩, hX2⟩ := hv
  have hx := B.exec
  have hb := B.bytes
  have hr := B.returns
  have hts : ∀ w ∈ tb, w.before _ s = true := fun w h => atoms_spec (ws := .code yX9_isOrMisses cX9_isOrMisses 4 (some .boolean) :: tb) B.pre w (List.mem_cons_of_mem _ h)
  have hown : s.vm.findClass RX9 = some m.cls := findClass_of_methodNamed B.named
  have hlocks := B.notSynchronized
  subst hsz
  have hD := hD0.self (sz := s.heap.size)
  generalize hAe : va_A (va_pl L F) s.heap.size = A at hD hG hX hX2 ⊢
  have hX_q : SX q v k0 A s s.heap := hX.sx
  obtain ⟨xo_q, xc_q, xv_q, xt_q, xn_q⟩ := id hX
  have hX_q2 : SX q2 v2 k2 A s s.heap := hX2.sx
  obtain ⟨xo_q2, xc_q2, xv_q2, xt_q2, xn_q2⟩ := id hX2
  have hA : ∀ q : Nat, s.heap.size ≤ q → A q := fun q h => by rw [← hAe]; exact Or.inr h
  have hS : va_S A s.heap s.heap [] := va_S.rf
  have hR : FR ty [] F F := FR.refl
  have hl := lv_entry ([.ref h0, .ref q, .ref q2]) (n := 4) (Nat.le_of_ble_eq_true rfl)
  rw [lg_entry_eq]
  generalize (lg_sl ([.ref h0, .ref q, .ref q2]) ++ List.replicate (4 - (lg_sl ([.ref h0, .ref q, .ref q2])).length) Slot.unset).toArray = ls at hl ⊢
  have hl : lv_has ls 4 [(0, .ref h0), (1, .ref q), (2, .ref q2)] := hl
  obtain ⟨_, hi_1, hi_2, hi_3, _, ht_4, ht_5, ht_6⟩ := hW.tags hL_h0 hT_h0
  refine lv_aload_n hx hb dX9_isOrMisses_0 rfl (lv_at hl 0 rfl) ?_
  refine lv_aload_n hx hb dX9_isOrMisses_1 rfl (lv_at hl 1 rfl) ?_
  obtain ⟨hi_7, ht_8, hq_9⟩ := hW.bytes hL_tx hT_tx
  have hFc := pg_free hD hS hA
  refine va_calli (va_runV (As := [.ref q]) (rest := []) ⟨hx, hb, hml, hown, hts⟩ (s_X9_rowOf_e l dC dI cs ty L s.heap.size F h0 ρ tx n y0 y1 y2 rx z nn f e0 e1 e2 gq q v k0 C ll hW hL_h0 hT_h0 hL_tx hT_tx hF0 hFx hFr hFy0 hFy1 hFy2 (hzn) (hn9) (hcn) (hhl) (hTG) (hCL)) ⟨callB_of 1 hts (gi kt_163) rfl rfl rfl (hts _ kt_164) (hts _ kt_165) (by decide +kernel) ⟨Nat.le_of_ble_eq_true rfl, Nat.le_of_ble_eq_true rfl⟩, (hts _ kt_166), (hts _ kt_167)⟩ ⟨fun a U g mk q => ⟨q.1, PTC.calling q.2⟩, pg_recv hK hP hL_h0 hF0 (q := (RX9, TX9, 5)) rfl, fun U hU hWm => ⟨rfl, PTC.mk hU hWm hP hK hD hE hO hG hX hS hFc⟩⟩ rfl rfl hl.1 rfl (lv_room (Nat.le_of_ble_eq_true rfl)) dX9_isOrMisses_2 ⟨by show _ + 0 ≤ 0; omega, by show _ + 0 ≤ 0; omega⟩) hS (fun q _ h => hFc q h) hFc (fun r_10 u t H1 locs ht hvm hw hB hz1 hk1 hS => ?_)
  obtain ⟨F_11, hB1⟩ := hB
  obtain rfl : F = F_11 := (funext (fun a => hB1.2.2.2 a List.not_mem_nil)).symm
  obtain ⟨hP, hD, hO, hR⟩ := QT.back hB1 ht hFc hR (fun q h => absurd h List.not_mem_nil)
  generalize H1 = H at hP hS ⊢
  have hw : RWX (TC f z) gq nn ll r_10 := hw
  have hw_12 := hw
  refine lv_istore_n (lv' := [(3, .int r_10), (0, .ref h0), (1, .ref q), (2, .ref q2)]) hx hb dX9_isOrMisses_5 rfl hl (by decide) rfl (fun ls hl => ?_)
  refine lv_iload_n hx hb dX9_isOrMisses_6 rfl (lv_at hl 0 rfl) ?_
  refine lv_if_lt (tgt := 35) hx hb dX9_isOrMisses_7 (by decide) (fun c_13 => ?_) (fun c_13 => ?_)
  ·
    have hR9 : (tgR (TC f z) gq ll nn) = none := rwx_R hw_12 hcn c_13
    refine lv_iconst (v := 1) hx hb dX9_isOrMisses_35 (by decide) ?_
    refine lv_goto (tgt := 40) hx hb dX9_isOrMisses_36 (by decide) ?_
    refine W.widen (k := 0) (n := 0) (by omega) (by omega) ?_
    exact W.zret (v := 1) (ty := .boolean) hx hb hr (by decide) (fun t ht hWm => ⟨⟨1, (), rfl, (Or.inl ⟨rfl, Or.inl (fun q => tge_R.mp q hR9)⟩), ⟨F, QT.mk ht hP hD hO hR⟩⟩, hS.F ht⟩) hS.2.2 dX9_isOrMisses_40
  ·
    obtain ⟨j, hjz, ej, hj1, hj2⟩ := rwx_y hw_12 c_13
    subst ej
    obtain ⟨hg1, hg2, hg3⟩ := hTG j hjz
    have hR9 : (tgR (TC f z) gq ll nn) = some j := tgR_y hj1 hj2 nn hjz
    refine lv_aload_n hx hb dX9_isOrMisses_10 rfl (lv_at hl 1 rfl) ?_
    refine pg_get (ci := 9) (v := .ref tx) (C := RX9) (T := TX9) (N := 5) hx hb hts it_9 hown hK hP hL_h0 hF0 rfl 0 (by decide) (hts _ kt_159) (fun _ h9 => h9) rfl dX9_isOrMisses_11 ?_
    refine lv_aload_n hx hb dX9_isOrMisses_14 rfl (lv_at hl 1 rfl) ?_
    refine pg_get (ci := 9) (v := .ref y1) (C := RX9) (T := TX9) (N := 5) hx hb hts it_9 hown hK hP hL_h0 hF0 rfl 2 (by decide) (hts _ kt_161) (fun _ h9 => h9) rfl dX9_isOrMisses_15 ?_
    refine lv_iload_n hx hb dX9_isOrMisses_18 rfl (lv_at hl 0 rfl) ?_
    refine pg_iald hx hb hK hP hi_2 0 hFy1 rfl (vp_in_nI (by omega) (by omega)) dX9_isOrMisses_19 ?_
    refine lv_topi (fun x_14 ex_14 => ?_)
    obtain rfl : x_14 = (nI (gq 1 j)) := ex_14.trans (((congrArg e1 (nI_clamp (by omega))).trans (hhl j hjz).2.1))
    refine lv_iconst (v := 1) hx hb dX9_isOrMisses_20 (by decide) ?_
    refine lv_iadd hx hb dX9_isOrMisses_21 ?_
    refine lv_topi (fun x_15 ex_15 => ?_)
    obtain rfl : x_15 = (nI (gq 1 j + 1)) := ex_15.trans (nI_1 _)
    refine lv_aload_n hx hb dX9_isOrMisses_22 rfl (lv_at hl 1 rfl) ?_
    refine pg_get (ci := 9) (v := .ref y2) (C := RX9) (T := TX9) (N := 5) hx hb hts it_9 hown hK hP hL_h0 hF0 rfl 3 (by decide) (hts _ kt_168) (fun _ h9 => h9) rfl dX9_isOrMisses_23 ?_
    refine lv_iload_n hx hb dX9_isOrMisses_26 rfl (lv_at hl 0 rfl) ?_
    refine pg_iald hx hb hK hP hi_3 0 hFy2 rfl (vp_in_nI (by omega) (by omega)) dX9_isOrMisses_27 ?_
    refine lv_topi (fun x_16 ex_16 => ?_)
    obtain rfl : x_16 = (nI (gq 2 j)) := ex_16.trans (((congrArg e2 (nI_clamp (by omega))).trans (hhl j hjz).2.2))
    refine lv_aload_n hx hb dX9_isOrMisses_28 rfl (lv_at hl 3 rfl) ?_
    have hFc := pg_free hD hS hA
    refine va_calli (va_runV (As := [.int (nI (gq 1 j + 1)), .int (nI (gq 2 j)), .ref q2]) (rest := []) ⟨hx, hb, hml, hown, hts⟩ (s_X0_is_e l dC dI cs ty L H.size F tx (ρ + 1) rx n q2 v2 k2 C2 z (gq 1 j + 1) (gq 2 j) f mm hW hL_tx hT_tx hFx hFr (by omega) (by omega) (hg2) (hg3) (hCM)) ⟨callB_of 3 hts (gi kt_79) rfl rfl rfl (hts _ kt_1) (hts _ kt_162) (by decide +kernel) ⟨Nat.le_of_ble_eq_true rfl, Nat.le_of_ble_eq_true rfl⟩, (hts _ kt_81), (hts _ kt_82)⟩ ⟨fun a U g mk q => ⟨q.1, PTC.calling q.2⟩, pg_recv hK hP hL_tx hFx (q := (RX0, TX0, 3)) rfl, fun U hU hWm => ⟨rfl, PTC.mk hU hWm hP hK hD hE hO hG hX2 hS hFc⟩⟩ rfl rfl hl.1 rfl (lv_room (Nat.le_of_ble_eq_true rfl)) dX9_isOrMisses_29 ⟨by show _ + 0 ≤ 0; omega, by show _ + 0 ≤ 0; omega⟩) hS (fun q _ h => hFc q h) hFc (fun r_17 u t H1 locs ht hvm hw hB hz1 hk1 hS => ?_)
    obtain ⟨F_18, hB1⟩ := hB
    obtain rfl : F = F_18 := (funext (fun a => hB1.2.2.2 a List.not_mem_nil)).symm
    obtain ⟨hP, hD, hO, hR⟩ := QT.back hB1 ht hFc hR (fun q h => absurd h List.not_mem_nil)
    generalize H1 = H at hP hS ⊢
    have hw : (r_17 = 1 ∧ ((gq 1 j + 1) + k2 = (gq 2 j) ∧ LIT (TC f z) (gq 1 j + 1) mm)) ∨ (r_17 = 0 ∧ ¬ ((gq 1 j + 1) + k2 = (gq 2 j) ∧ LIT (TC f z) (gq 1 j + 1) mm)) := hw
    have hw_19 := hw
    refine lv_if_eq (tgt := 39) hx hb dX9_isOrMisses_32 (by decide) (fun c_20 => ?_) (fun c_20 => ?_)
    ·
      refine lv_iconst (v := 0) hx hb dX9_isOrMisses_39 (by decide) ?_
      refine W.widen (k := 0) (n := 0) (by omega) (by omega) ?_
      exact W.zret (v := 0) (ty := .boolean) hx hb hr (by decide) (fun t ht hWm => ⟨⟨0, (), rfl, (Or.inr ⟨rfl, fun q => q.elim (fun q => q ⟨j, hjz, hj1⟩) (tgv_d hj1 hj2 (fun q => orp0 hw_19 c_20 ⟨by have h9 := q.1; rw [hCM.1] at h9; exact h9, q.2⟩))⟩), ⟨F, QT.mk ht hP hD hO hR⟩⟩, hS.F ht⟩) hS.2.2 dX9_isOrMisses_40
    ·
      refine lv_iconst (v := 1) hx hb dX9_isOrMisses_35 (by decide) ?_
      refine lv_goto (tgt := 40) hx hb dX9_isOrMisses_36 (by decide) ?_
      refine W.widen (k := 0) (n := 0) (by omega) (by omega) ?_
      exact W.zret (v := 1) (ty := .boolean) hx hb hr (by decide) (fun t ht hWm => ⟨⟨1, (), rfl, (Or.inl ⟨rfl, Or.inr ⟨j, hjz, hj1, hj2, (by have h9 := orp1 hw_19 c_20; exact ⟨by rw [hCM.1]; exact h9.1, h9.2⟩)⟩⟩), ⟨F, QT.mk ht hP hD hO hR⟩⟩, hS.F ht⟩) hS.2.2 dX9_isOrMisses_40
theorem ifb_or {P : Prop} [Decidable P] {r : Int32} (h : r = (if P then 1 else 0)) : r = 1 ∨ r = 0 := by
  by_cases c : P
  · rw [if_pos c] at h
    exact Or.inl h
  · rw [if_neg c] at h
    exact Or.inr h
set_option maxHeartbeats 4000000 in
set_option maxRecDepth 100000 in
theorem s_X9_isNameAt_e (l : Launch) (dC : Nat → ClassId) (dI : Nat → Nat → Nat) (cs : Nat → ClassId) (ty : TyM) (L : List Nat) (sz : Nat) (F : Nat → va_E) (h0 : Nat) (ρ : Nat) (tx : Nat) (n : Nat) (y0 : Nat) (y1 : Nat) (y2 : Nat) (rx : Nat) (z : Nat) (nn : Nat) (f : Nat → Int32) (e0 : Nat → Int32) (e1 : Nat → Int32) (e2 : Nat → Int32) (gq : Nat → Nat → Nat) (q : Nat) (v : Nat) (k0 : Nat) (C : Nat → Int32) (ll : List Nat) (hW : WT ty L) (hL_h0 : h0 ∈ L) (hT_h0 : ty h0 = (9, ρ, [tx, n, y0, y1, y2])) (hL_tx : tx ∈ L) (hT_tx : ty tx = (0, ρ + 1, [rx, n])) (hF0 : F h0 = .inr (9, [.ref tx, .ref y0, .ref y1, .ref y2, .int (nI nn)])) (hFx : F tx = .inr (0, [.ref rx, .int (nI z), .int 0])) (hFr : F rx = .inl (cs 16, n, .inl f)) (hFy0 : F y0 = .inl (cs 16, 40, .inl e0)) (hFy1 : F y1 = .inl (cs 16, 40, .inl e1)) (hFy2 : F y2 = .inl (cs 16, 40, .inl e2)) (hzn : z ≤ n) (hn9 : n ≤ 10000) (hcn : nn ≤ 40) (hhl : HLD e0 e1 e2 nn gq) (hTG : TGI z nn gq) (hCL : CLI C k0 ll) : Met l yX9_isNameAt (.code yX9_isNameAt cX9_isNameAt 2 (some .boolean) :: tb) ({ frames := 7, cells := 0, slots := 0, locals := 153 }) (va_Pc [.ref h0, .ref q] (PTC (dC, dI) cs ty L F sz q v k0 C)) (va_Qi (fun (r : Int32) (_ : Unit) => r = (if NMC (TC f z) (tgA gq (tgR (TC f z) gq ll nn)) (tgB gq (tgR (TC f z) gq ll nn)) = true then 1 else 0)) (fun _ T9 => ∃ F2 : Nat → va_E, QT (dC, dI) cs ty L [] F F2 (va_A (va_pl L F) sz) T9) (va_A (va_pl L F) sz)) 0 0 (va_A (va_pl L F) sz) := by
  refine Met.ofW (cc := cX9_isNameAt) (maxL := 2) (ret := (some .boolean)) (by decide) rfl ?_
  intro p e s m args below meth c s₁ B hml hv
  obtain ⟨rfl, ⟨hsz, hP, hK, hD0, hE, hO⟩, hG, hX⟩ := hv
  have hx := B.exec
  have hb := B.bytes
  have hr := B.returns
  have hts : ∀ w ∈ tb, w.before _ s = true := fun w h => atoms_spec (ws := .code yX9_isNameAt cX9_isNameAt 2 (some .boolean) :: tb) B.pre w (List.mem_cons_of_mem _ h)
  have hown : s.vm.findClass RX9 = some m.cls := findClass_of_methodNamed B.named
  have hlocks := B.notSynchronized
  subst hsz
  have hD := hD0.self (sz := s.heap.size)
  generalize hAe : va_A (va_pl L F) s.heap.size = A at hD hG hX ⊢
  have hX_q : SX q v k0 A s s.heap := hX.sx
  obtain ⟨xo_q, xc_q, xv_q, xt_q, xn_q⟩ := id hX
  have hA : ∀ q : Nat, s.heap.size ≤ q → A q := fun q h => by rw [← hAe]; exact Or.inr h
  have hS : va_S A s.heap s.heap [] := va_S.rf
  have hR : FR ty [] F F := FR.refl
  have hl := lv_entry ([.ref h0, .ref q]) (n := 2) (Nat.le_of_ble_eq_true rfl)
  rw [lg_entry_eq]
  generalize (lg_sl ([.ref h0, .ref q]) ++ List.replicate (2 - (lg_sl ([.ref h0, .ref q])).length) Slot.unset).toArray = ls at hl ⊢
  have hl : lv_has ls 2 [(0, .ref h0), (1, .ref q)] := hl
  obtain ⟨_, hi_1, hi_2, hi_3, _, ht_4, ht_5, ht_6⟩ := hW.tags hL_h0 hT_h0
  refine lv_aload_n hx hb dX9_isNameAt_0 rfl (lv_at hl 0 rfl) ?_
  refine pg_get (ci := 9) (v := .ref tx) (C := RX9) (T := TX9) (N := 5) hx hb hts it_9 hown hK hP hL_h0 hF0 rfl 0 (by decide) (hts _ kt_159) (fun _ h9 => h9) rfl dX9_isNameAt_1 ?_
  refine lv_aload_n hx hb dX9_isNameAt_4 rfl (lv_at hl 0 rfl) ?_
  refine lv_aload_n hx hb dX9_isNameAt_5 rfl (lv_at hl 1 rfl) ?_
  obtain ⟨hi_7, ht_8, hq_9⟩ := hW.bytes hL_tx hT_tx
  have hFc := pg_free hD hS hA
  refine va_calli (va_runV (As := [.ref q]) (rest := [.ref tx]) ⟨hx, hb, hml, hown, hts⟩ (s_X9_startOf_e l dC dI cs ty L s.heap.size F h0 ρ tx n y0 y1 y2 rx z nn f e0 e1 e2 gq q v k0 C ll hW hL_h0 hT_h0 hL_tx hT_tx hF0 hFx hFr hFy0 hFy1 hFy2 (hzn) (hn9) (hcn) (hhl) (hTG) (hCL)) ⟨callB_of 1 hts (gi kt_170) rfl rfl rfl (hts _ kt_164) (hts _ kt_171) (by decide +kernel) ⟨Nat.le_of_ble_eq_true rfl, Nat.le_of_ble_eq_true rfl⟩, (hts _ kt_172), (hts _ kt_173)⟩ ⟨fun a U g mk q => ⟨q.1, PTC.calling q.2⟩, pg_recv hK hP hL_h0 hF0 (q := (RX9, TX9, 5)) rfl, fun U hU hWm => ⟨rfl, PTC.mk hU hWm hP hK hD hE hO hG hX hS hFc⟩⟩ rfl rfl hl.1 rfl (lv_room (Nat.le_of_ble_eq_true rfl)) dX9_isNameAt_6 ⟨by show _ + 0 ≤ 0; omega, by show _ + 0 ≤ 0; omega⟩) hS (fun q _ h => hFc q h) hFc (fun r_10 u t H1 locs ht hvm hw hB hz1 hk1 hS => ?_)
  obtain ⟨F_11, hB1⟩ := hB
  obtain rfl : F = F_11 := (funext (fun a => hB1.2.2.2 a List.not_mem_nil)).symm
  obtain ⟨hP, hD, hO, hR⟩ := QT.back hB1 ht hFc hR (fun q h => absurd h List.not_mem_nil)
  generalize H1 = H at hP hS ⊢
  have hw : r_10 = nI (tgA gq (tgR (TC f z) gq ll nn)) := hw
  have hw_12 := hw
  subst hw_12
  refine lv_aload_n hx hb dX9_isNameAt_9 rfl (lv_at hl 0 rfl) ?_
  refine lv_aload_n hx hb dX9_isNameAt_10 rfl (lv_at hl 1 rfl) ?_
  have hFc := pg_free hD hS hA
  refine va_calli (va_runV (As := [.ref q]) (rest := [.int (nI (tgA gq (tgR (TC f z) gq ll nn))), .ref tx]) ⟨hx, hb, hml, hown, hts⟩ (s_X9_endOf_e l dC dI cs ty L H.size F h0 ρ tx n y0 y1 y2 rx z nn f e0 e1 e2 gq q v k0 C ll hW hL_h0 hT_h0 hL_tx hT_tx hF0 hFx hFr hFy0 hFy1 hFy2 (hzn) (hn9) (hcn) (hhl) (hTG) (hCL)) ⟨callB_of 1 hts (gi kt_174) rfl rfl rfl (hts _ kt_164) (hts _ kt_175) (by decide +kernel) ⟨Nat.le_of_ble_eq_true rfl, Nat.le_of_ble_eq_true rfl⟩, (hts _ kt_176), (hts _ kt_177)⟩ ⟨fun a U g mk q => ⟨q.1, PTC.calling q.2⟩, pg_recv hK hP hL_h0 hF0 (q := (RX9, TX9, 5)) rfl, fun U hU hWm => ⟨rfl, PTC.mk hU hWm hP hK hD hE hO hG hX hS hFc⟩⟩ rfl rfl hl.1 rfl (lv_room (Nat.le_of_ble_eq_true rfl)) dX9_isNameAt_11 ⟨by show _ + 0 ≤ 0; omega, by show _ + 0 ≤ 0; omega⟩) hS (fun q _ h => hFc q h) hFc (fun r_13 u t H1 locs ht hvm hw hB hz1 hk1 hS => ?_)
  obtain ⟨F_14, hB1⟩ := hB
  obtain rfl : F = F_14 := (funext (fun a => hB1.2.2.2 a List.not_mem_nil)).symm
  obtain ⟨hP, hD, hO, hR⟩ := QT.back hB1 ht hFc hR (fun q h => absurd h List.not_mem_nil)
  generalize H1 = H at hP hS ⊢
  have hw : r_13 = nI (tgB gq (tgR (TC f z) gq ll nn)) := hw
  have hw_15 := hw
  subst hw_15
  obtain ⟨hab9, hbz9⟩ := tgAB (T := (TC f z)) (l := ll) hTG
  have hFc := pg_free hD hS hA
  refine va_calli (va_runV (As := [.int (nI (tgA gq (tgR (TC f z) gq ll nn))), .int (nI (tgB gq (tgR (TC f z) gq ll nn)))]) (rest := []) ⟨hx, hb, hml, hown, hts⟩ (s_X0_isName_e l dC dI cs ty L H.size F tx (ρ + 1) rx n z (tgA gq (tgR (TC f z) gq ll nn)) (tgB gq (tgR (TC f z) gq ll nn)) f hW hL_tx hT_tx hFx hFr (by omega) (by omega) (hab9) (hbz9)) ⟨callB_of 2 hts (gi kt_108) rfl rfl rfl (hts _ kt_1) (hts _ kt_178) (by decide +kernel) ⟨Nat.le_of_ble_eq_true rfl, Nat.le_of_ble_eq_true rfl⟩, (hts _ kt_110), (hts _ kt_111)⟩ ⟨fun a U g mk q => ⟨q.1, PT.calling q.2⟩, pg_recv hK hP hL_tx hFx (q := (RX0, TX0, 3)) rfl, fun U hU hWm => ⟨rfl, PT.mk hU hWm hP hK hD hE hO⟩⟩ rfl rfl hl.1 rfl (lv_room (Nat.le_of_ble_eq_true rfl)) dX9_isNameAt_14 ⟨by show _ + 0 ≤ 0; omega, by show _ + 0 ≤ 0; omega⟩) hS (fun q _ h => hFc q h) hFc (fun r_16 u t H1 locs ht hvm hw hB hz1 hk1 hS => ?_)
  obtain ⟨F_17, hB1⟩ := hB
  obtain rfl : F = F_17 := (funext (fun a => hB1.2.2.2 a List.not_mem_nil)).symm
  obtain ⟨hP, hD, hO, hR⟩ := QT.back hB1 ht hFc hR (fun q h => absurd h List.not_mem_nil)
  generalize H1 = H at hP hS ⊢
  have hw : r_16 = (if NM f (tgA gq (tgR (TC f z) gq ll nn)) (tgB gq (tgR (TC f z) gq ll nn)) = true then 1 else 0) := hw
  have hw_18 := hw
  refine W.widen (k := 0) (n := 0) (by omega) (by omega) ?_
  exact W.zret (v := r_16) (ty := .boolean) hx hb hr (by rcases ifb_or hw_18 with q | q <;> rw [q] <;> decide) (fun t ht hWm => ⟨⟨r_16, (), rfl, (by rw [← nmc_of (f := f) (z := z) hbz9]; exact hw_18), ⟨F, QT.mk ht hP hD hO hR⟩⟩, hS.F ht⟩) hS.2.2 dX9_isNameAt_17
set_option maxHeartbeats 4000000 in
set_option maxRecDepth 100000 in
theorem s_X9_decode_e (l : Launch) (dC : Nat → ClassId) (dI : Nat → Nat → Nat) (cs : Nat → ClassId) (ty : TyM) (L : List Nat) (sz : Nat) (F : Nat → va_E) (h0 : Nat) (ρ : Nat) (tx : Nat) (n : Nat) (y0 : Nat) (y1 : Nat) (y2 : Nat) (rx : Nat) (z : Nat) (nn : Nat) (f : Nat → Int32) (e0 : Nat → Int32) (e1 : Nat → Int32) (e2 : Nat → Int32) (gq : Nat → Nat → Nat) (q : Nat) (v : Nat) (k0 : Nat) (C : Nat → Int32) (ll : List Nat) (g2 : Nat) (τ : Nat) (r2 : Nat) (n2 : Nat) (w : Nat) (hW : WT ty L) (hL_h0 : h0 ∈ L) (hT_h0 : ty h0 = (9, ρ, [tx, n, y0, y1, y2])) (hL_tx : tx ∈ L) (hT_tx : ty tx = (0, ρ + 1, [rx, n])) (hL_g2 : g2 ∈ L) (hT_g2 : ty g2 = (0, τ, [r2, n2])) (hF0 : F h0 = .inr (9, [.ref tx, .ref y0, .ref y1, .ref y2, .int (nI nn)])) (hFx : F tx = .inr (0, [.ref rx, .int (nI z), .int 0])) (hFr : F rx = .inl (cs 16, n, .inl f)) (hFy0 : F y0 = .inl (cs 16, 40, .inl e0)) (hFy1 : F y1 = .inl (cs 16, 40, .inl e1)) (hFy2 : F y2 = .inl (cs 16, 40, .inl e2)) (hzn : z ≤ n) (hn9 : n ≤ 10000) (hcn : nn ≤ 40) (hhl : HLD e0 e1 e2 nn gq) (hTG : TGI z nn gq) (hCL : CLI C k0 ll) (hw2 : w = 32 ∨ w = 64) (hwn : w ≤ n2) (hm9 : n2 ≤ 10000) (htr : τ ≠ ρ + 1 ∧ τ ≠ ρ ∧ τ ≠ ρ + 70 ∧ τ ≠ ρ + 71) : Met l yX9_decode (.code yX9_decode cX9_decode 4 (some .boolean) :: tb) ({ frames := 7, cells := 0, slots := 0, locals := 153 }) (va_Pc [.ref h0, .ref q, .ref g2, .int (nI w)] (PTC (dC, dI) cs ty L F sz q v k0 C)) (va_Qi (fun (r : Int32) (gz : Nat) => (r = 1 ∧ DCD (TC f z) (tgA gq (tgR (TC f z) gq ll nn)) (tgB gq (tgR (TC f z) gq ll nn)) w ∧ gz = w) ∨ (r = 0 ∧ ¬ DCD (TC f z) (tgA gq (tgR (TC f z) gq ll nn)) (tgB gq (tgR (TC f z) gq ll nn)) w)) (fun (gz : Nat) T9 => ∃ F2 : Nat → va_E, ∃ f2 : Nat → Int32, QT (dC, dI) cs ty L [τ] F F2 (va_A (va_pl L F) sz) T9 ∧ F2 g2 = .inr (0, [.ref r2, .int (nI gz), .int 0]) ∧ F2 r2 = .inl (cs 16, n2, .inl f2) ∧ (DCD (TC f z) (tgA gq (tgR (TC f z) gq ll nn)) (tgB gq (tgR (TC f z) gq ll nn)) w → BYT (dcB (TC f z) (tgA gq (tgR (TC f z) gq ll nn)) w) w f2)) (va_A (va_pl L F) sz)) 0 0 (va_A (va_pl L F) sz) := by
  refine Met.ofW (cc := cX9_decode) (maxL := 4) (ret := (some .boolean)) (by decide) rfl ?_
  intro p e s m args below meth c s₁ B hml hv
  obtain ⟨rfl, ⟨hsz, hP, hK, hD0, hE, hO⟩, hG, hX⟩ := hv
  have hx := B.exec
  have hb := B.bytes
  have hr := B.returns
  have hts : ∀ w ∈ tb, w.before _ s = true := fun w h => atoms_spec (ws := .code yX9_decode cX9_decode 4 (some .boolean) :: tb) B.pre w (List.mem_cons_of_mem _ h)
  have hown : s.vm.findClass RX9 = some m.cls := findClass_of_methodNamed B.named
  have hlocks := B.notSynchronized
  subst hsz
  have hD := hD0.self (sz := s.heap.size)
  generalize hAe : va_A (va_pl L F) s.heap.size = A at hD hG hX ⊢
  have hX_q : SX q v k0 A s s.heap := hX.sx
  obtain ⟨xo_q, xc_q, xv_q, xt_q, xn_q⟩ := id hX
  have hA : ∀ q : Nat, s.heap.size ≤ q → A q := fun q h => by rw [← hAe]; exact Or.inr h
  have hS : va_S A s.heap s.heap [] := va_S.rf
  have hR : FR ty [τ] F F := FR.refl
  have hl := lv_entry ([.ref h0, .ref q, .ref g2, .int (nI w)]) (n := 4) (Nat.le_of_ble_eq_true rfl)
  rw [lg_entry_eq]
  generalize (lg_sl ([.ref h0, .ref q, .ref g2, .int (nI w)]) ++ List.replicate (4 - (lg_sl ([.ref h0, .ref q, .ref g2, .int (nI w)])).length) Slot.unset).toArray = ls at hl ⊢
  have hl : lv_has ls 4 [(0, .ref h0), (1, .ref q), (2, .ref g2), (3, .int (nI w))] := hl
  obtain ⟨_, hi_1, hi_2, hi_3, _, ht_4, ht_5, ht_6⟩ := hW.tags hL_h0 hT_h0
  obtain ⟨hi_7, ht_8, hq_9⟩ := hW.bytes hL_g2 hT_g2
  refine lv_aload_n hx hb dX9_decode_0 rfl (lv_at hl 2 rfl) ?_
  refine lv_aload_n hx hb dX9_decode_1 rfl (lv_at hl 0 rfl) ?_
  refine pg_get (ci := 9) (v := .ref tx) (C := RX9) (T := TX9) (N := 5) hx hb hts it_9 hown hK hP hL_h0 hF0 rfl 0 (by decide) (hts _ kt_159) (fun _ h9 => h9) rfl dX9_decode_2 ?_
  refine lv_aload_n hx hb dX9_decode_5 rfl (lv_at hl 0 rfl) ?_
  refine lv_aload_n hx hb dX9_decode_6 rfl (lv_at hl 1 rfl) ?_
  obtain ⟨hi_10, ht_11, hq_12⟩ := hW.bytes hL_tx hT_tx
  have hFc := pg_free hD hS hA
  refine va_calli (va_runV (As := [.ref q]) (rest := [.ref tx, .ref g2]) ⟨hx, hb, hml, hown, hts⟩ (s_X9_startOf_e l dC dI cs ty L s.heap.size F h0 ρ tx n y0 y1 y2 rx z nn f e0 e1 e2 gq q v k0 C ll hW hL_h0 hT_h0 hL_tx hT_tx hF0 hFx hFr hFy0 hFy1 hFy2 (hzn) (hn9) (hcn) (hhl) (hTG) (hCL)) ⟨callB_of 1 hts (gi kt_170) rfl rfl rfl (hts _ kt_164) (hts _ kt_171) (by decide +kernel) ⟨Nat.le_of_ble_eq_true rfl, Nat.le_of_ble_eq_true rfl⟩, (hts _ kt_172), (hts _ kt_173)⟩ ⟨fun a U g mk q => ⟨q.1, PTC.calling q.2⟩, pg_recv hK hP hL_h0 hF0 (q := (RX9, TX9, 5)) rfl, fun U hU hWm => ⟨rfl, PTC.mk hU hWm hP hK hD hE hO hG hX hS hFc⟩⟩ rfl rfl hl.1 rfl (lv_room (Nat.le_of_ble_eq_true rfl)) dX9_decode_7 ⟨by show _ + 0 ≤ 0; omega, by show _ + 0 ≤ 0; omega⟩) hS (fun q _ h => hFc q h) hFc (fun r_13 u t H1 locs ht hvm hw hB hz1 hk1 hS => ?_)
  obtain ⟨F_14, hB1⟩ := hB
  obtain rfl : F = F_14 := (funext (fun a => hB1.2.2.2 a List.not_mem_nil)).symm
  obtain ⟨hP, hD, hO, hR⟩ := QT.back hB1 ht hFc hR (fun q h => absurd h List.not_mem_nil)
  generalize H1 = H at hP hS ⊢
  have hw : r_13 = nI (tgA gq (tgR (TC f z) gq ll nn)) := hw
  have hw_15 := hw
  subst hw_15
  refine lv_aload_n hx hb dX9_decode_10 rfl (lv_at hl 0 rfl) ?_
  refine lv_aload_n hx hb dX9_decode_11 rfl (lv_at hl 1 rfl) ?_
  have hFc := pg_free hD hS hA
  refine va_calli (va_runV (As := [.ref q]) (rest := [.int (nI (tgA gq (tgR (TC f z) gq ll nn))), .ref tx, .ref g2]) ⟨hx, hb, hml, hown, hts⟩ (s_X9_endOf_e l dC dI cs ty L H.size F h0 ρ tx n y0 y1 y2 rx z nn f e0 e1 e2 gq q v k0 C ll hW hL_h0 hT_h0 hL_tx hT_tx hF0 hFx hFr hFy0 hFy1 hFy2 (hzn) (hn9) (hcn) (hhl) (hTG) (hCL)) ⟨callB_of 1 hts (gi kt_174) rfl rfl rfl (hts _ kt_164) (hts _ kt_175) (by decide +kernel) ⟨Nat.le_of_ble_eq_true rfl, Nat.le_of_ble_eq_true rfl⟩, (hts _ kt_176), (hts _ kt_177)⟩ ⟨fun a U g mk q => ⟨q.1, PTC.calling q.2⟩, pg_recv hK hP hL_h0 hF0 (q := (RX9, TX9, 5)) rfl, fun U hU hWm => ⟨rfl, PTC.mk hU hWm hP hK hD hE hO hG hX hS hFc⟩⟩ rfl rfl hl.1 rfl (lv_room (Nat.le_of_ble_eq_true rfl)) dX9_decode_12 ⟨by show _ + 0 ≤ 0; omega, by show _ + 0 ≤ 0; omega⟩) hS (fun q _ h => hFc q h) hFc (fun r_16 u t H1 locs ht hvm hw hB hz1 hk1 hS => ?_)
  obtain ⟨F_17, hB1⟩ := hB
  obtain rfl : F = F_17 := (funext (fun a => hB1.2.2.2 a List.not_mem_nil)).symm
  obtain ⟨hP, hD, hO, hR⟩ := QT.back hB1 ht hFc hR (fun q h => absurd h List.not_mem_nil)
  generalize H1 = H at hP hS ⊢
  have hw : r_16 = nI (tgB gq (tgR (TC f z) gq ll nn)) := hw
  have hw_18 := hw
  subst hw_18
  obtain ⟨hab9, hbz9⟩ := tgAB (T := (TC f z)) (l := ll) hTG
  refine lv_iload_n hx hb dX9_decode_15 rfl (lv_at hl 3 rfl) ?_
  have hFc := pg_free hD hS hA
  obtain ⟨z_19, o_20, hF_21, hq_22, hq_23⟩ := hO.bytes hL_g2 hT_g2
  refine va_calli (va_runV (As := [.ref tx, .int (nI (tgA gq (tgR (TC f z) gq ll nn))), .int (nI (tgB gq (tgR (TC f z) gq ll nn))), .int (nI w)]) (rest := []) ⟨hx, hb, hml, hown, hts⟩ (s_X0_decode_e l dC dI cs ty L H.size F g2 τ r2 n2 tx (ρ + 1) rx n z (tgA gq (tgR (TC f z) gq ll nn)) (tgB gq (tgR (TC f z) gq ll nn)) w f hW hL_g2 hT_g2 hL_tx hT_tx hFx hFr (by omega) (by omega) (hab9) (hbz9) (hw2) (by omega) (by omega) (by omega)) ⟨callB_of 4 hts (gi kt_179) rfl rfl rfl (hts _ kt_1) (hts _ kt_180) (by decide +kernel) ⟨Nat.le_of_ble_eq_true rfl, Nat.le_of_ble_eq_true rfl⟩, (hts _ kt_181), (hts _ kt_182)⟩ ⟨fun a U g mk q => ⟨q.1, PT.calling q.2⟩, pg_recv hK hP hL_g2 hF_21 (q := (RX0, TX0, 3)) rfl, fun U hU hWm => ⟨rfl, PT.mk hU hWm hP hK hD hE hO⟩⟩ rfl rfl hl.1 rfl (lv_room (Nat.le_of_ble_eq_true rfl)) dX9_decode_16 ⟨by show _ + 0 ≤ 0; omega, by show _ + 0 ≤ 0; omega⟩) hS (fun q _ h => hFc q h) hFc (fun r_25 gz_24 t H1 locs ht hvm hw hB hz1 hk1 hS => ?_)
  obtain ⟨F_26, f2_27, hB1, hq_28, hq_29, hq_30⟩ := hB
  obtain ⟨hP, hD, hO, hR⟩ := QT.back hB1 ht hFc hR (fun q h => by simp only [List.mem_cons, List.not_mem_nil, or_false] at h ⊢; omega)
  have hF_31 : F_26 h0 = .inr (9, [.ref tx, .ref y0, .ref y1, .ref y2, .int (nI nn)]) := (hB1.2.2.2 h0 (by rw [hT_h0]; simp only [List.mem_cons, List.not_mem_nil, or_false]; omega)).trans hF0
  have hF_32 : F_26 tx = .inr (0, [.ref rx, .int (nI z), .int 0]) := (hB1.2.2.2 tx (by rw [hT_tx]; simp only [List.mem_cons, List.not_mem_nil, or_false]; omega)).trans hFx
  have hF_33 : F_26 rx = .inl (cs 16, n, .inl f) := (hB1.2.2.2 rx (by rw [ht_11]; simp only [List.mem_cons, List.not_mem_nil, or_false]; omega)).trans hFr
  have hF_34 : F_26 y0 = .inl (cs 16, 40, .inl e0) := (hB1.2.2.2 y0 (by rw [ht_4]; simp only [List.mem_cons, List.not_mem_nil, or_false]; omega)).trans hFy0
  have hF_35 : F_26 y1 = .inl (cs 16, 40, .inl e1) := (hB1.2.2.2 y1 (by rw [ht_5]; simp only [List.mem_cons, List.not_mem_nil, or_false]; omega)).trans hFy1
  have hF_36 : F_26 y2 = .inl (cs 16, 40, .inl e2) := (hB1.2.2.2 y2 (by rw [ht_6]; simp only [List.mem_cons, List.not_mem_nil, or_false]; omega)).trans hFy2
  generalize H1 = H at hP hS ⊢
  have hw : (r_25 = 1 ∧ DCD (TC f z) (tgA gq (tgR (TC f z) gq ll nn)) (tgB gq (tgR (TC f z) gq ll nn)) w ∧ gz_24 = w) ∨ (r_25 = 0 ∧ ¬ DCD (TC f z) (tgA gq (tgR (TC f z) gq ll nn)) (tgB gq (tgR (TC f z) gq ll nn)) w) := hw
  have hw_37 := hw
  refine W.widen (k := 0) (n := 0) (by omega) (by omega) ?_
  exact W.zret (v := r_25) (ty := .boolean) hx hb hr (by rcases hw_37 with q | q <;> rw [q.1] <;> decide) (fun t ht hWm => ⟨⟨r_25, gz_24, rfl, hw_37, ⟨F_26, f2_27, QT.mk ht hP hD hO hR, hq_28, hq_29, hq_30⟩⟩, hS.F ht⟩) hS.2.2 dX9_decode_19
def FTX (D : Nat → ETY) (cn : Nat) (oo : Int32) (y : Nat) (fa : Nat → Int32) (r : Int32) : Prop := (r = (-1) ∧ ¬ HAS D cn 0 oo y fa) ∨ ∃ k, k < cn ∧ r = nI k ∧ (D k).1 = 0 ∧ SAMN (D k) oo y fa ∧ ¬ HAS D k 0 oo y fa
set_option maxHeartbeats 4000000 in
set_option maxRecDepth 100000 in
theorem s_X2_firstText_e (l : Launch) (dC : Nat → ClassId) (dI : Nat → Nat → Nat) (cs : Nat → ClassId) (ty : TyM) (L : List Nat) (sz : Nat) (F : Nat → va_E) (h0 : Nat) (ρ : Nat) (ea : Nat) (g1 : Nat) (σ : Nat) (r1 : Nat) (n1 : Nat) (y : Nat) (cn : Nat) (fa : Nat → Int32) (D : Nat → ETY) (oo : Int32) (hW : WT ty L) (hL_h0 : h0 ∈ L) (hT_h0 : ty h0 = (2, ρ, [ea])) (hL_g1 : g1 ∈ L) (hT_g1 : ty g1 = (0, σ, [r1, n1])) (hFd : F h0 = .inr (2, [.ref ea, .int (nI cn)])) (hcn : cn ≤ 40) (hFg : F g1 = .inr (0, [.ref r1, .int (nI y), .int oo])) (hFr1 : F r1 = .inl (cs 16, n1, .inl fa)) (hyn : y ≤ n1) (hm9 : n1 ≤ 10000) (hDI : DIRC cs F ea cn D) : Met l yX2_firstText (.code yX2_firstText cX2_firstText 3 (some .int) :: tb) ({ frames := 1, cells := 0, slots := 0, locals := 22 }) (va_Pc [.ref h0, .ref g1] (PT (dC, dI) cs ty L F sz)) (va_Qi (fun (r : Int32) (_ : Unit) => FTX D cn oo y fa r) (fun _ T9 => ∃ F2 : Nat → va_E, QT (dC, dI) cs ty L [] F F2 (va_A (va_pl L F) sz) T9) (va_A (va_pl L F) sz)) 0 0 (va_A (va_pl L F) sz) := by
  refine Met.ofW (cc := cX2_firstText) (maxL := 3) (ret := (some .int)) (by decide) rfl ?_
  intro p e s m args below meth c s₁ B hml hv
  obtain ⟨rfl, hsz, hP, hK, hD0, hE, hO⟩ := hv
  have hx := B.exec
  have hb := B.bytes
  have hr := B.returns
  have hts : ∀ w ∈ tb, w.before _ s = true := fun w h => atoms_spec (ws := .code yX2_firstText cX2_firstText 3 (some .int) :: tb) B.pre w (List.mem_cons_of_mem _ h)
  have hown : s.vm.findClass RX2 = some m.cls := findClass_of_methodNamed B.named
  have hlocks := B.notSynchronized
  subst hsz
  have hD := hD0.self (sz := s.heap.size)
  generalize hAe : va_A (va_pl L F) s.heap.size = A at hD ⊢
  have hA : ∀ q : Nat, s.heap.size ≤ q → A q := fun q h => by rw [← hAe]; exact Or.inr h
  have hS : va_S A s.heap s.heap [] := va_S.rf
  have hR : FR ty [] F F := FR.refl
  have hl := lv_entry ([.ref h0, .ref g1]) (n := 3) (Nat.le_of_ble_eq_true rfl)
  rw [lg_entry_eq]
  generalize (lg_sl ([.ref h0, .ref g1]) ++ List.replicate (3 - (lg_sl ([.ref h0, .ref g1])).length) Slot.unset).toArray = ls at hl ⊢
  have hl : lv_has ls 3 [(0, .ref h0), (1, .ref g1)] := hl
  obtain ⟨hi_1, ht_2⟩ := hW.dir hL_h0 hT_h0
  obtain ⟨f_3, hF_4, hq_5⟩ := hO.rentry hi_1 ht_2
  obtain ⟨hi_6, ht_7, hq_8⟩ := hW.bytes hL_g1 hT_g1
  refine lv_iconst (v := 0) hx hb dX2_firstText_0 (by decide) ?_
  refine lv_istore_n (lv' := [(2, .int 0), (0, .ref h0), (1, .ref g1)]) hx hb dX2_firstText_1 rfl hl (by decide) rfl (fun ls hl => ?_)
  refine W.widen (k := 0) (n := 0) (by omega) (by omega) ?_
  refine pl_loop (σ := Nat) A (dC, dI) cs ty L [] F 2 3 (fun j => [(2, .int (nI j)), (0, .ref h0), (1, .ref g1)]) (fun j => []) (fun j _ => j ≤ cn ∧ ¬ HAS D j 0 oo y fa) (fun j => cn - j) ?_ 0 F (⟨Nat.zero_le _, fun q => by obtain ⟨k, hk, -⟩ := q; omega⟩) hO hR _ _ hP hD hS ls (lv_sub hl [0, 1, 2] rfl)
  rintro j F_9 hv_10 hO hR ih_11 H locs hP hD hS ls hl
  have hl : lv_has ls 3 [(2, .int (nI j)), (0, .ref h0), (1, .ref g1)] := hl
  have hv_10 : j ≤ cn ∧ ¬ HAS D j 0 oo y fa := hv_10
  refine W.eq (g2 := F0 m 2 ls []) rfl ?_
  obtain rfl : F = F_9 := (funext (fun a => hR a List.not_mem_nil)).symm
  obtain ⟨hv1, hv2⟩ := id hv_10
  refine lv_iload_n hx hb dX2_firstText_2 rfl (lv_at hl 0 rfl) ?_
  refine lv_aload_n hx hb dX2_firstText_3 rfl (lv_at hl 1 rfl) ?_
  refine pg_get (ci := 2) (v := .int (nI cn)) (C := RX2) (T := TX2) (N := 2) hx hb hts it_2 hown hK hP hL_h0 hFd rfl 1 (by decide) (hts _ kt_83) (fun _ h9 => h9) rfl dX2_firstText_4 ?_
  refine lv_icmp_ge (tgt := 46) hx hb dX2_firstText_7 (by decide) (fun c_12 => ?_) (fun c_12 => ?_)
  ·
    have hi_13 : cn ≤ j := leN (N := cn) c_12
    have hjc : j = cn := by have h9 : cn ≤ j := (nI_leI (by omega) (by omega)).mp c_12; omega
    refine lv_iconst (v := (-1)) hx hb dX2_firstText_46 (by decide) ?_
    refine W.widen (k := 0) (n := 0) (by omega) (by omega) ?_
    exact W.iret (v := (-1)) hx hb hr (fun t ht hWm => ⟨⟨(-1), (), rfl, (Or.inl ⟨rfl, by rw [← hjc]; exact hv2⟩), ⟨F, QT.mk ht hP hD hO hR⟩⟩, hS.F ht⟩) hS.2.2 dX2_firstText_47
  ·
    have hi_14 : j < cn := ltN (N := cn) c_12
    have hjz : j < cn := Nat.not_le.mp (fun q => c_12 ((nI_leI (by omega) (by omega)).mpr q))
    refine lv_aload_n hx hb dX2_firstText_10 rfl (lv_at hl 1 rfl) ?_
    refine pg_get (ci := 2) (v := .ref ea) (C := RX2) (T := TX2) (N := 2) hx hb hts it_2 hown hK hP hL_h0 hFd rfl 0 (by decide) (hts _ kt_84) (fun _ h9 => h9) rfl dX2_firstText_11 ?_
    refine lv_iload_n hx hb dX2_firstText_14 rfl (lv_at hl 0 rfl) ?_
    obtain ⟨b_15, x_16, y_17, hbf_18, hi_19, ht_20⟩ := hq_5 j (by omega)
    refine pg_aald (r := b_15) hx hb hK hP hi_1 5 hF_4 rfl (vp_in_nI (by omega) (by omega)) (show f_3 ((nI j) : Int32).toNatClampNeg = _ from by rw [show ((nI j) : Int32) = nI j from rfl, nI_clamp (by omega)]; exact hbf_18) dX2_firstText_15 ?_
    obtain ⟨hi_21, hi_22, ⟨r_23, ht_24⟩, ⟨r_25, ht_26⟩⟩ := hW.entry hi_19 ht_20
    have ht_24 : ty x_16 = (0, ρ + j + j + j + 101, [r_23, 60]) := ht_24
    have ht_26 : ty y_17 = (0, ρ + j + j + j + 102, [r_25, 700]) := ht_26
    obtain ⟨hen1, hen2, hen3, hen4, hen5⟩ := DIRC.get hDI hO hF_4 hjz hbf_18 hi_19 ht_20
    obtain ⟨hen6, hen7⟩ := hen2 _ _ hi_21 ht_24
    obtain ⟨hi_27, ht_28, hq_29⟩ := hW.bytes hi_21 ht_24
    refine pg_getN (ci := 3) (v := .int ((D j).1)) (C := RX3) (T := TX3) (N := 4) hx hb hts it_3 hown hK hP hi_19 hen1 rfl 2 (by decide) (hE.nest kn_0) (fun _ h9 => h9) rfl dX2_firstText_16 ?_
    refine lv_if_ne (tgt := 40) hx hb dX2_firstText_19 (by decide) (fun c_30 => ?_) (fun c_30 => ?_)
    ·
      refine lv_iinc (v := (nI (j + 1))) (lv' := [(2, .int (nI (j + 1))), (0, .ref h0), (1, .ref g1)]) hx hb dX2_firstText_40 hl (k := 0) rfl (nI_1 _) (by decide) rfl (fun ls hl => ?_)
      refine lv_goto (tgt := 2) hx hb dX2_firstText_43 (by decide) ?_
      refine W.widen (k := 0) (n := 0) (by omega) (by omega) ?_
      exact ih_11 (j + 1) F (⟨by omega, has_s hv2 (fun q => c_30 q.1)⟩) (by show cn - (j + 1) < cn - j; omega) hO hR _ _ hP hD hS ls (lv_sub hl [0, 1, 2] rfl)
    ·
      refine lv_aload_n hx hb dX2_firstText_22 rfl (lv_at hl 1 rfl) ?_
      refine pg_get (ci := 2) (v := .ref ea) (C := RX2) (T := TX2) (N := 2) hx hb hts it_2 hown hK hP hL_h0 hFd rfl 0 (by decide) (hts _ kt_84) (fun _ h9 => h9) rfl dX2_firstText_23 ?_
      refine lv_iload_n hx hb dX2_firstText_26 rfl (lv_at hl 0 rfl) ?_
      refine pg_aald (r := b_15) hx hb hK hP hi_1 5 hF_4 rfl (vp_in_nI (by omega) (by omega)) (show f_3 ((nI j) : Int32).toNatClampNeg = _ from by rw [show ((nI j) : Int32) = nI j from rfl, nI_clamp (by omega)]; exact hbf_18) dX2_firstText_27 ?_
      refine pg_getN (ci := 3) (v := .ref x_16) (C := RX3) (T := TX3) (N := 4) hx hb hts it_3 hown hK hP hi_19 hen1 rfl 0 (by decide) (hE.nest kn_1) (fun _ h9 => h9) rfl dX2_firstText_28 ?_
      refine lv_aload_n hx hb dX2_firstText_31 rfl (lv_at hl 2 rfl) ?_
      have hFc := pg_free hD hS hA
      refine va_calli (va_runV (As := [.ref g1]) (rest := []) ⟨hx, hb, hml, hown, hts⟩ (s_X0_same_e l dC dI cs ty L H.size F x_16 (ρ + j + j + j + 101) r_23 60 g1 σ r1 n1 ((D j).2.2.1) y ((D j).2.2.2.1) fa oo hW hi_21 ht_24 hL_g1 hT_g1 hen6 hen7 hFg hFr1 (by omega) (by omega) (by omega) (by omega)) ⟨callB_of 1 hts (gi kt_85) rfl rfl rfl (hts _ kt_1) (hts _ kt_86) (by decide +kernel) ⟨Nat.le_of_ble_eq_true rfl, Nat.le_of_ble_eq_true rfl⟩, (hts _ kt_87), (hts _ kt_88)⟩ ⟨fun a U g mk q => ⟨q.1, PT.calling q.2⟩, pg_recv hK hP hi_21 hen6 (q := (RX0, TX0, 3)) rfl, fun U hU hWm => ⟨rfl, PT.mk hU hWm hP hK hD hE hO⟩⟩ rfl rfl hl.1 rfl (lv_room (Nat.le_of_ble_eq_true rfl)) dX2_firstText_32 ⟨by show _ + 0 ≤ 0; omega, by show _ + 0 ≤ 0; omega⟩) hS (fun q _ h => hFc q h) hFc (fun r_31 u t H1 locs ht hvm hw hB hz1 hk1 hS => ?_)
      obtain ⟨F_32, hB1⟩ := hB
      obtain rfl : F = F_32 := (funext (fun a => hB1.2.2.2 a List.not_mem_nil)).symm
      obtain ⟨hP, hD, hO, hR⟩ := QT.back hB1 ht hFc hR (fun q h => absurd h List.not_mem_nil)
      generalize H1 = H at hP hS ⊢
      have hw : (r_31 = 1 ∧ ((oo : Int32) = 0 ∧ (D j).2.2.1 = y ∧ ∀ j9, j9 < (D j).2.2.1 → (D j).2.2.2.1 j9 = fa j9)) ∨ (r_31 = 0 ∧ ¬ ((oo : Int32) = 0 ∧ (D j).2.2.1 = y ∧ ∀ j9, j9 < (D j).2.2.1 → (D j).2.2.2.1 j9 = fa j9)) := hw
      have hw_33 := hw
      refine lv_if_eq (tgt := 40) hx hb dX2_firstText_35 (by decide) (fun c_34 => ?_) (fun c_34 => ?_)
      ·
        refine lv_iinc (v := (nI (j + 1))) (lv' := [(2, .int (nI (j + 1))), (0, .ref h0), (1, .ref g1)]) hx hb dX2_firstText_40 hl (k := 0) rfl (nI_1 _) (by decide) rfl (fun ls hl => ?_)
        refine lv_goto (tgt := 2) hx hb dX2_firstText_43 (by decide) ?_
        refine W.widen (k := 0) (n := 0) (by omega) (by omega) ?_
        exact ih_11 (j + 1) F (⟨by omega, has_s hv2 (fun q => orp0 hw_33 c_34 q.2)⟩) (by show cn - (j + 1) < cn - j; omega) hO hR _ _ hP hD hS ls (lv_sub hl [0, 1, 2] rfl)
      ·
        refine lv_iload_n hx hb dX2_firstText_38 rfl (lv_at hl 0 rfl) ?_
        refine W.widen (k := 0) (n := 0) (by omega) (by omega) ?_
        exact W.iret (v := (nI j)) hx hb hr (fun t ht hWm => ⟨⟨(nI j), (), rfl, (Or.inr ⟨j, hjz, rfl, c_30, orp1 hw_33 c_34, hv2⟩), ⟨F, QT.mk ht hP hD hO hR⟩⟩, hS.F ht⟩) hS.2.2 dX2_firstText_39
