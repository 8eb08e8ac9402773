def LTB (T : Nat → Nat) (a s : Nat) : Prop := ∃ p, flI T a (s - a) = [p] ∧ T p = 98
def LBI (T : Nat → Nat) (a i n : Nat) (w : Int32) : Prop := n = (flI T a (i - a)).length ∧ ((w = 1 ∧ ∀ p, p ∈ flI T a (i - a) → T p = 98) ∨ (w = 0 ∧ ∃ p, p ∈ flI T a (i - a) ∧ ¬ T p = 98))
theorem lbi_0 {T : Nat → Nat} {a : Nat} : LBI T a a 0 1 := by
  unfold LBI
  rw [Nat.sub_self]
  exact ⟨rfl, Or.inl ⟨rfl, fun p hp => absurd hp List.not_mem_nil⟩⟩
theorem lbi_w {T : Nat → Nat} {a i n : Nat} {w : Int32} (h : LBI T a i n w) (ha : a ≤ i) (hw : T i = 32 ∨ T i = 9 ∨ T i = 10) : LBI T a (i + 1) n w := by
  unfold LBI
  rw [show i + 1 - a = (i - a) + 1 by omega, flI_s, show a + (i - a) = i by omega, if_pos hw, List.append_nil]
  exact h
theorem lbi_a {T : Nat → Nat} {a i : Nat} (ha : a ≤ i) (hw : ¬ (T i = 32 ∨ T i = 9 ∨ T i = 10)) : flI T a (i + 1 - a) = flI T a (i - a) ++ [i] := by
  rw [show i + 1 - a = (i - a) + 1 by omega, flI_s, show a + (i - a) = i by omega, if_neg hw]
theorem lbi_y {T : Nat → Nat} {a i n : Nat} {w : Int32} (h : LBI T a i n w) (ha : a ≤ i) (hw : ¬ (T i = 32 ∨ T i = 9 ∨ T i = 10)) (hr : ¬ w = 0) (hb : T i = 98) : LBI T a (i + 1) (n + 1) 1 := by
  obtain ⟨h1, h2⟩ := h
  unfold LBI
  rw [lbi_a ha hw]
  refine ⟨by rw [List.length_append, ← h1]; rfl, Or.inl ⟨rfl, fun p hp => ?_⟩⟩
  rcases List.mem_append.mp hp with q | q
  · rcases h2 with h2 | h2
    · exact h2.2 p q
    · exact absurd h2.1 hr
  · rw [List.mem_singleton.mp q]
    exact hb
theorem lbi_n {T : Nat → Nat} {a i n : Nat} {w : Int32} (h : LBI T a i n w) (ha : a ≤ i) (hw : ¬ (T i = 32 ∨ T i = 9 ∨ T i = 10)) (hb : w = 0 ∨ ¬ T i = 98) : LBI T a (i + 1) (n + 1) 0 := by
  obtain ⟨h1, h2⟩ := h
  unfold LBI
  rw [lbi_a ha hw]
  refine ⟨by rw [List.length_append, ← h1]; rfl, Or.inr ⟨rfl, ?_⟩⟩
  rcases hb with hb | hb
  · rcases h2 with h2 | ⟨-, p, q1, q2⟩
    · exact absurd (h2.1.symm.trans hb) (by decide)
    · exact ⟨p, List.mem_append.mpr (Or.inl q1), q2⟩
  · exact ⟨i, List.mem_append.mpr (Or.inr (List.mem_singleton.mpr rfl)), hb⟩
theorem lbi_le {T : Nat → Nat} {a i n : Nat} {w : Int32} (h : LBI T a i n w) : n ≤ i - a := by
  rw [h.1]
  exact flI_len _
theorem lbi_t {T : Nat → Nat} {a s n : Nat} {w : Int32} (h : LBI T a s n w) (hw : ¬ w = 0) (hn : n = 1) : LTB T a s := by
  obtain ⟨h1, h2⟩ := h
  have h3 : (flI T a (s - a)).length = 1 := h1.symm.trans hn
  obtain ⟨p, hp⟩ := List.length_eq_one_iff.mp h3
  refine ⟨p, hp, ?_⟩
  rcases h2 with h2 | h2
  · exact h2.2 p (by rw [hp]; exact List.mem_singleton.mpr rfl)
  · exact absurd h2.1 hw
theorem lbi_f {T : Nat → Nat} {a s n : Nat} {w : Int32} (h : LBI T a s n w) (hb : w = 0 ∨ ¬ n = 1) : ¬ LTB T a s := fun q => by
  obtain ⟨p, q1, q2⟩ := q
  obtain ⟨h1, h2⟩ := h
  rw [q1] at h1 h2
  rcases hb with hb | hb
  · rcases h2 with h2 | ⟨-, p2, c1, c2⟩
    · exact absurd (h2.1.symm.trans hb) (by decide)
    · rw [List.mem_singleton.mp c1] at c2
      exact c2 q2
  · exact hb h1
noncomputable def ows (T : Nat → Nat) (e : Nat) : Nat → Nat → Option (Nat × Nat)
  | 0, _ => none
  | k + 1, a => if e < a then none else @ite (Option (Nat × Nat)) (LTB T a (fdT T 61 a (fdT T 59 a e))) (Classical.propDecidable _) (some (fdT T 61 a (fdT T 59 a e) + 1, fdT T 59 a e)) (ows T e k (fdT T 59 a e + 1))
theorem ows_d {T : Nat → Nat} {e a : Nat} (h : e < a) : ∀ k, ows T e k a = none
  | 0 => rfl
  | _ + 1 => if_pos h
theorem ows_f {T : Nat → Nat} {e : Nat} : ∀ k m a, e + 1 - a ≤ k → e + 1 - a ≤ m → ows T e k a = ows T e m a := by
  intro k
  induction k with
  | zero =>
    intro m a h1 h2
    rw [ows_d (by omega), ows_d (by omega)]
  | succ k ih =>
    intro m a h1 h2
    cases m with
    | zero => rw [ows_d (by omega), ows_d (by omega)]
    | succ m =>
      by_cases c : e < a
      · rw [ows_d c, ows_d c]
      · have h9 := fd_ge (T := T) (c := 59) (a := a) (b := e) (by omega)
        show (if e < a then none else @ite (Option (Nat × Nat)) (LTB T a (fdT T 61 a (fdT T 59 a e))) (Classical.propDecidable _) (some (fdT T 61 a (fdT T 59 a e) + 1, fdT T 59 a e)) (ows T e k (fdT T 59 a e + 1))) = (if e < a then none else @ite (Option (Nat × Nat)) (LTB T a (fdT T 61 a (fdT T 59 a e))) (Classical.propDecidable _) (some (fdT T 61 a (fdT T 59 a e) + 1, fdT T 59 a e)) (ows T e m (fdT T 59 a e + 1)))
        rw [ih m (fdT T 59 a e + 1) (by omega) (by omega)]
noncomputable def owS (T : Nat → Nat) (a e : Nat) : Option (Nat × Nat) := ows T e (e + 1 - a) a
theorem owS_c {T : Nat → Nat} {a e q : Nat} (h : a ≤ e) (hq : fdT T 59 a e = q) : owS T a e = @ite (Option (Nat × Nat)) (LTB T a (fdT T 61 a q)) (Classical.propDecidable _) (some (fdT T 61 a q + 1, q)) (owS T (q + 1) e) := by
  have h9 := fd_ge (T := T) (c := 59) (a := a) (b := e) h
  unfold owS
  rw [show e + 1 - a = (e - a) + 1 by omega]
  show (if e < a then none else @ite (Option (Nat × Nat)) (LTB T a (fdT T 61 a (fdT T 59 a e))) (Classical.propDecidable _) (some (fdT T 61 a (fdT T 59 a e) + 1, fdT T 59 a e)) (ows T e (e - a) (fdT T 59 a e + 1))) = _
  rw [if_neg (by omega), hq, ows_f (e - a) (e + 1 - (q + 1)) (q + 1) (by omega) (by omega)]
theorem owS_n {T : Nat → Nat} {a e : Nat} (h : e < a) : owS T a e = none := ows_d h _
theorem owS_y {T : Nat → Nat} {a e q ks ke : Nat} (hS : owS T a e = some (ks, ke)) (h : a ≤ e) (hq : fdT T 59 a e = q) (hb : LTB T a (fdT T 61 a q)) : fdT T 61 a q + 1 = ks ∧ q = ke := by
  rw [owS_c h hq, if_pos hb] at hS
  have h9 := Option.some.inj hS
  exact ⟨congrArg Prod.fst h9, congrArg Prod.snd h9⟩
theorem owS_x {T : Nat → Nat} {a e q ks ke : Nat} (hS : owS T a e = some (ks, ke)) (h : a ≤ e) (hq : fdT T 59 a e = q) (hb : ¬ LTB T a (fdT T 61 a q)) : owS T (q + 1) e = some (ks, ke) := by
  rw [owS_c h hq, if_neg hb] at hS
  exact hS
set_option maxHeartbeats 4000000 in
set_option maxRecDepth 100000 in
theorem s_X7_isLetterB_e (l : Launch) (dC : Nat → ClassId) (dI : Nat → Nat → Nat) (cs : Nat → ClassId) (ty : TyM) (L : List Nat) (sz : Nat) (F : Nat → va_E) (g1 : Nat) (σ : Nat) (r1 : Nat) (n1 : Nat) (z : Nat) (a : Nat) (b : Nat) (f : Nat → Int32) (oo : Int32) (hW : WT ty L) (hL_g1 : g1 ∈ L) (hT_g1 : ty g1 = (0, σ, [r1, n1])) (hFg : F g1 = .inr (0, [.ref r1, .int (nI z), .int oo])) (hFr : F r1 = .inl (cs 16, n1, .inl f)) (hzn : z ≤ n1) (hn9 : n1 ≤ 10000) (hab : a ≤ b) (hbz : b ≤ z) : Met l yX7_isLetterB (.code yX7_isLetterB cX7_isLetterB 7 (some .boolean) :: tb) ({ frames := 1, cells := 0, slots := 0, locals := 21 }) (va_Pc [.ref g1, .int (nI a), .int (nI b)] (PT (dC, dI) cs ty L F sz)) (va_Qi (fun (r : Int32) (_ : Unit) => (r = 1 ∧ LTB (TC f z) a b) ∨ (r = 0 ∧ ¬ LTB (TC f z) a b)) (fun _ T9 => ∃ F2 : Nat → va_E, QT (dC, dI) cs ty L [] F F2 (va_A (va_pl L F) sz) T9) (va_A (va_pl L F) sz)) 0 0 (va_A (va_pl L F) sz) := by
  refine Met.ofW (cc := cX7_isLetterB) (maxL := 7) (ret := (some .boolean)) (by decide) rfl ?_
  intro p e s m args below meth c s₁ B hml hv
  obtain ⟨rfl, hsz, hP, hK, hD0, hE, hO⟩ := hv
  have hx := B.exec
  have hb := B.bytes
  have hr := B.returns
  have hts : ∀ w ∈ tb, w.before _ s = true := fun w h => atoms_spec (ws := .code yX7_isLetterB cX7_isLetterB 7 (some .boolean) :: tb) B.pre w (List.mem_cons_of_mem _ h)
  have hown : s.vm.findClass RX7 = some m.cls := findClass_of_methodNamed B.named
  have hlocks := B.notSynchronized
  subst hsz
  have hD := hD0.self (sz := s.heap.size)
  generalize hAe : va_A (va_pl L F) s.heap.size = A at hD ⊢
  have hA : ∀ q : Nat, s.heap.size ≤ q → A q := fun q h => by rw [← hAe]; exact Or.inr h
  have hS : va_S A s.heap s.heap [] := va_S.rf
  have hR : FR ty [] F F := FR.refl
  have hl := lv_entry ([.ref g1, .int (nI a), .int (nI b)]) (n := 7) (Nat.le_of_ble_eq_true rfl)
  rw [lg_entry_eq]
  generalize (lg_sl ([.ref g1, .int (nI a), .int (nI b)]) ++ List.replicate (7 - (lg_sl ([.ref g1, .int (nI a), .int (nI b)])).length) Slot.unset).toArray = ls at hl ⊢
  have hl : lv_has ls 7 [(0, .ref g1), (1, .int (nI a)), (2, .int (nI b))] := hl
  obtain ⟨hi_1, ht_2, hq_3⟩ := hW.bytes hL_g1 hT_g1
  refine lv_iconst (v := 0) hx hb dX7_isLetterB_0 (by decide) ?_
  refine lv_istore_n (lv' := [(3, .int 0), (0, .ref g1), (1, .int (nI a)), (2, .int (nI b))]) hx hb dX7_isLetterB_1 rfl hl (by decide) rfl (fun ls hl => ?_)
  refine lv_iconst (v := 1) hx hb dX7_isLetterB_2 (by decide) ?_
  refine lv_istore (lv' := [(4, .int 1), (3, .int 0), (0, .ref g1), (1, .int (nI a)), (2, .int (nI b))]) hx hb dX7_isLetterB_3 hl (by decide) rfl (fun ls hl => ?_)
  refine lv_iload_n hx hb dX7_isLetterB_5 rfl (lv_at hl 3 rfl) ?_
  refine lv_istore (lv' := [(5, .int (nI a)), (4, .int 1), (3, .int 0), (0, .ref g1), (1, .int (nI a)), (2, .int (nI b))]) hx hb dX7_isLetterB_6 hl (by decide) rfl (fun ls hl => ?_)
  refine W.widen (k := 0) (n := 0) (by omega) (by omega) ?_
  refine pl_loop (σ := Nat × Nat × Int32) A (dC, dI) cs ty L [] F 8 7 (fun (i, n3, w4) => [(5, .int (nI i)), (4, .int w4), (3, .int (nI n3)), (0, .ref g1), (1, .int (nI a)), (2, .int (nI b))]) (fun (i, n3, w4) => []) (fun (i, n3, w4) _ => a ≤ i ∧ i ≤ b ∧ LBI (TC f z) a i n3 w4) (fun (i, n3, w4) => b - i) ?_ (a, 0, 1) F (⟨Nat.le_refl _, hab, lbi_0⟩) hO hR _ _ hP hD hS ls (lv_sub hl [0, 1, 2, 3, 4, 5] rfl)
  rintro ⟨i, n3, w4⟩ F_4 hv_5 hO hR ih_6 H locs hP hD hS ls hl
  have hl : lv_has ls 7 [(5, .int (nI i)), (4, .int w4), (3, .int (nI n3)), (0, .ref g1), (1, .int (nI a)), (2, .int (nI b))] := hl
  have hv_5 : a ≤ i ∧ i ≤ b ∧ LBI (TC f z) a i n3 w4 := hv_5
  refine W.eq (g2 := F0 m 8 ls []) rfl ?_
  obtain rfl : F = F_4 := (funext (fun a => hR a List.not_mem_nil)).symm
  obtain ⟨hv1, hv2, hv3⟩ := id hv_5
  have hnl := lbi_le hv3
  refine lv_iload hx hb dX7_isLetterB_8 (lv_at hl 0 rfl) ?_
  refine lv_iload_n hx hb dX7_isLetterB_10 rfl (lv_at hl 5 rfl) ?_
  refine lv_icmp_ge (tgt := 68) hx hb dX7_isLetterB_11 (by decide) (fun c_7 => ?_) (fun c_7 => ?_)
  ·
    have hi_8 : b ≤ i := leN (N := b) c_7
    have hie : i = b := by have h9 : b ≤ i := (nI_leI (by omega) (by omega)).mp c_7; omega
    subst hie
    refine lv_iload hx hb dX7_isLetterB_68 (lv_at hl 1 rfl) ?_
    refine lv_if_eq (tgt := 82) hx hb dX7_isLetterB_70 (by decide) (fun c_9 => ?_) (fun c_9 => ?_)
    ·
      refine lv_iconst (v := 0) hx hb dX7_isLetterB_82 (by decide) ?_
      refine W.widen (k := 0) (n := 0) (by omega) (by omega) ?_
      exact W.zret (v := 0) (ty := .boolean) hx hb hr (by decide) (fun t ht hWm => ⟨⟨0, (), rfl, (Or.inr ⟨rfl, lbi_f hv3 (Or.inl c_9)⟩), ⟨F, QT.mk ht hP hD hO hR⟩⟩, hS.F ht⟩) hS.2.2 dX7_isLetterB_83
    ·
      refine lv_iload_n hx hb dX7_isLetterB_73 rfl (lv_at hl 2 rfl) ?_
      refine lv_iconst (v := 1) hx hb dX7_isLetterB_74 (by decide) ?_
      refine lv_icmp_ne (tgt := 82) hx hb dX7_isLetterB_75 (by decide) (fun c_10 => ?_) (fun c_10 => ?_)
      ·
        have hn1 : ¬ n3 = 1 := fun q => c_10 (by rw [q]; rfl)
        refine lv_iconst (v := 0) hx hb dX7_isLetterB_82 (by decide) ?_
        refine W.widen (k := 0) (n := 0) (by omega) (by omega) ?_
        exact W.zret (v := 0) (ty := .boolean) hx hb hr (by decide) (fun t ht hWm => ⟨⟨0, (), rfl, (Or.inr ⟨rfl, lbi_f hv3 (Or.inr hn1)⟩), ⟨F, QT.mk ht hP hD hO hR⟩⟩, hS.F ht⟩) hS.2.2 dX7_isLetterB_83
      ·
        have hn1 : n3 = 1 := (nI_eq (b := 1) (by omega) (by omega)).mp c_10
        refine lv_iconst (v := 1) hx hb dX7_isLetterB_78 (by decide) ?_
        refine lv_goto (tgt := 83) hx hb dX7_isLetterB_79 (by decide) ?_
        refine W.widen (k := 0) (n := 0) (by omega) (by omega) ?_
        exact W.zret (v := 1) (ty := .boolean) hx hb hr (by decide) (fun t ht hWm => ⟨⟨1, (), rfl, (Or.inl ⟨rfl, lbi_t hv3 c_9 hn1⟩), ⟨F, QT.mk ht hP hD hO hR⟩⟩, hS.F ht⟩) hS.2.2 dX7_isLetterB_83
  ·
    have hi_13 : i < b := ltN (N := b) c_7
    have hie : i < b := Nat.not_le.mp (fun q => c_7 ((nI_leI (by omega) (by omega)).mpr q))
    have hiz : i < z := by omega
    refine lv_aload_n hx hb dX7_isLetterB_14 rfl (lv_at hl 3 rfl) ?_
    refine lv_iload hx hb dX7_isLetterB_15 (lv_at hl 0 rfl) ?_
    have hFc := pg_free hD hS hA
    refine va_calli (va_runV (As := [.int (nI i)]) (rest := []) ⟨hx, hb, hml, hown, hts⟩ (s_X0_at_o l dC dI cs ty L H.size F g1 σ r1 n1 z i f oo hW hL_g1 hT_g1 hFg hFr (by omega) (by omega) (by omega)) ⟨callB_of 1 hts (gi kt_21) rfl rfl rfl (hts _ kt_1) (hts _ kt_305) (by decide +kernel) ⟨Nat.le_of_ble_eq_true rfl, Nat.le_of_ble_eq_true rfl⟩, (hts _ kt_23), (hts _ kt_24)⟩ ⟨fun a U g mk q => ⟨q.1, PT.calling q.2⟩, pg_recv hK hP hL_g1 hFg (q := (RX0, TX0, 3)) rfl, fun U hU hWm => ⟨rfl, PT.mk hU hWm hP hK hD hE hO⟩⟩ rfl rfl hl.1 rfl (lv_room (Nat.le_of_ble_eq_true rfl)) dX7_isLetterB_17 ⟨by show _ + 0 ≤ 0; omega, by show _ + 0 ≤ 0; omega⟩) hS (fun q _ h => hFc q h) hFc (fun r_14 u t H1 locs ht hvm hw hB hz1 hk1 hS => ?_)
    obtain ⟨F_15, hB1⟩ := hB
    obtain rfl : F = F_15 := (funext (fun a => hB1.2.2.2 a List.not_mem_nil)).symm
    obtain ⟨hP, hD, hO, hR⟩ := QT.back hB1 ht hFc hR (fun q h => absurd h List.not_mem_nil)
    generalize H1 = H at hP hS ⊢
    have hw : r_14 = f i := hw
    have hw_16 := hw
    subst hw_16
    refine lv_istore (lv' := [(6, .int (f i)), (5, .int (nI i)), (4, .int w4), (3, .int (nI n3)), (0, .ref g1), (1, .int (nI a)), (2, .int (nI b))]) hx hb dX7_isLetterB_20 hl (by decide) rfl (fun ls hl => ?_)
    refine lv_iload hx hb dX7_isLetterB_22 (lv_at hl 0 rfl) ?_
    have hFc := pg_free hD hS hA
    refine va_calli (va_runS (As := [.int (f i)]) (rest := []) ⟨hx, hb, hml, hown, hts⟩ (s_X0_isWhite_e l dC dI cs ty L H.size F (f i) hW ) ⟨callB_of 1 hts (gi kt_195) rfl rfl rfl (hts _ kt_1) (hts _ kt_306) (by decide +kernel) ⟨Nat.le_of_ble_eq_true rfl, Nat.le_of_ble_eq_true rfl⟩, (hts _ kt_197)⟩ ⟨fun a U g mk q => ⟨q.1, PT.calling q.2⟩, fun U hU hWm => ⟨rfl, PT.mk hU hWm hP hK hD hE hO⟩⟩ rfl rfl hl.1 rfl (lv_room (Nat.le_of_ble_eq_true rfl)) dX7_isLetterB_24 ⟨by show _ + 0 ≤ 0; omega, by show _ + 0 ≤ 0; omega⟩) hS (fun q _ h => hFc q h) hFc (fun r_17 u t H1 locs ht hvm hw hB hz1 hk1 hS => ?_)
    obtain ⟨F_18, hB1⟩ := hB
    obtain rfl : F = F_18 := (funext (fun a => hB1.2.2.2 a List.not_mem_nil)).symm
    obtain ⟨hP, hD, hO, hR⟩ := QT.back hB1 ht hFc hR (fun q h => absurd h List.not_mem_nil)
    generalize H1 = H at hP hS ⊢
    have hw : r_17 = (if (f i) = 32 ∨ (f i) = 9 then 1 else 0) := hw
    have hw_19 := hw
    refine lv_if_ne (tgt := 62) hx hb dX7_isLetterB_27 (by decide) (fun c_20 => ?_) (fun c_20 => ?_)
    ·
      refine lv_iinc (v := (nI (i + 1))) (lv' := [(5, .int (nI (i + 1))), (6, .int (f i)), (4, .int w4), (3, .int (nI n3)), (0, .ref g1), (1, .int (nI a)), (2, .int (nI b))]) hx hb dX7_isLetterB_62 hl (k := 1) rfl (nI_1 _) (by decide) rfl (fun ls hl => ?_)
      refine lv_goto (tgt := 8) hx hb dX7_isLetterB_65 (by decide) ?_
      refine W.widen (k := 0) (n := 0) (by omega) (by omega) ?_
      exact ih_6 ((i + 1), n3, w4) F (⟨by omega, by omega, lbi_w hv3 hv1 ((ifb1 hw_19 c_20).imp (fun q => (tcc hiz 32 (by omega)).mpr q) (fun q => Or.inl ((tcc hiz 9 (by omega)).mpr q)))⟩) (by show b - (i + 1) < b - i; omega) hO hR _ _ hP hD hS ls (lv_sub hl [0, 2, 3, 4, 5, 6] rfl)
    ·
      refine lv_iload hx hb dX7_isLetterB_30 (lv_at hl 0 rfl) ?_
      refine lv_bipush (v := 10) hx hb dX7_isLetterB_32 (by decide) ?_
      refine lv_icmp_ne (tgt := 40) hx hb dX7_isLetterB_34 (by decide) (fun c_21 => ?_) (fun c_21 => ?_)
      ·
        have hnw : ¬ ((TC f z) i = 32 ∨ (TC f z) i = 9 ∨ (TC f z) i = 10) := fun q => by rcases q with q | q | q; exact ifb0 hw_19 c_20 (Or.inl ((tcc hiz 32 (by omega)).mp q)); exact ifb0 hw_19 c_20 (Or.inr ((tcc hiz 9 (by omega)).mp q)); exact c_21 ((tcc hiz 10 (by omega)).mp q)
        refine lv_iinc (v := (nI (n3 + 1))) (lv' := [(3, .int (nI (n3 + 1))), (6, .int (f i)), (5, .int (nI i)), (4, .int w4), (0, .ref g1), (1, .int (nI a)), (2, .int (nI b))]) hx hb dX7_isLetterB_40 hl (k := 3) rfl (nI_1 n3) (by decide) rfl (fun ls hl => ?_)
        refine lv_iload hx hb dX7_isLetterB_43 (lv_at hl 3 rfl) ?_
        refine lv_if_eq (tgt := 59) hx hb dX7_isLetterB_45 (by decide) (fun c_22 => ?_) (fun c_22 => ?_)
        ·
          refine lv_iconst (v := 0) hx hb dX7_isLetterB_59 (by decide) ?_
          refine lv_istore (lv' := [(4, .int 0), (3, .int (nI (n3 + 1))), (6, .int (f i)), (5, .int (nI i)), (0, .ref g1), (1, .int (nI a)), (2, .int (nI b))]) hx hb dX7_isLetterB_60 hl (by decide) rfl (fun ls hl => ?_)
          refine lv_iinc (v := (nI (i + 1))) (lv' := [(5, .int (nI (i + 1))), (4, .int 0), (3, .int (nI (n3 + 1))), (6, .int (f i)), (0, .ref g1), (1, .int (nI a)), (2, .int (nI b))]) hx hb dX7_isLetterB_62 hl (k := 3) rfl (nI_1 _) (by decide) rfl (fun ls hl => ?_)
          refine lv_goto (tgt := 8) hx hb dX7_isLetterB_65 (by decide) ?_
          refine W.widen (k := 0) (n := 0) (by omega) (by omega) ?_
          exact ih_6 ((i + 1), (n3 + 1), 0) F (⟨by omega, by omega, lbi_n hv3 hv1 hnw (Or.inl c_22)⟩) (by show b - (i + 1) < b - i; omega) hO hR _ _ hP hD hS ls (lv_sub hl [0, 1, 2, 4, 5, 6] rfl)
        ·
          refine lv_iload hx hb dX7_isLetterB_48 (lv_at hl 1 rfl) ?_
          refine lv_bipush (v := 98) hx hb dX7_isLetterB_50 (by decide) ?_
          refine lv_icmp_ne (tgt := 59) hx hb dX7_isLetterB_52 (by decide) (fun c_23 => ?_) (fun c_23 => ?_)
          ·
            refine lv_iconst (v := 0) hx hb dX7_isLetterB_59 (by decide) ?_
            refine lv_istore (lv' := [(4, .int 0), (3, .int (nI (n3 + 1))), (6, .int (f i)), (5, .int (nI i)), (0, .ref g1), (1, .int (nI a)), (2, .int (nI b))]) hx hb dX7_isLetterB_60 hl (by decide) rfl (fun ls hl => ?_)
            refine lv_iinc (v := (nI (i + 1))) (lv' := [(5, .int (nI (i + 1))), (4, .int 0), (3, .int (nI (n3 + 1))), (6, .int (f i)), (0, .ref g1), (1, .int (nI a)), (2, .int (nI b))]) hx hb dX7_isLetterB_62 hl (k := 3) rfl (nI_1 _) (by decide) rfl (fun ls hl => ?_)
            refine lv_goto (tgt := 8) hx hb dX7_isLetterB_65 (by decide) ?_
            refine W.widen (k := 0) (n := 0) (by omega) (by omega) ?_
            exact ih_6 ((i + 1), (n3 + 1), 0) F (⟨by omega, by omega, lbi_n hv3 hv1 hnw (Or.inr (fun q => c_23 ((tcc hiz 98 (by omega)).mp q)))⟩) (by show b - (i + 1) < b - i; omega) hO hR _ _ hP hD hS ls (lv_sub hl [0, 1, 2, 4, 5, 6] rfl)
          ·
            refine lv_iconst (v := 1) hx hb dX7_isLetterB_55 (by decide) ?_
            refine lv_goto (tgt := 60) hx hb dX7_isLetterB_56 (by decide) ?_
            refine lv_istore (lv' := [(4, .int 1), (3, .int (nI (n3 + 1))), (6, .int (f i)), (5, .int (nI i)), (0, .ref g1), (1, .int (nI a)), (2, .int (nI b))]) hx hb dX7_isLetterB_60 hl (by decide) rfl (fun ls hl => ?_)
            refine lv_iinc (v := (nI (i + 1))) (lv' := [(5, .int (nI (i + 1))), (4, .int 1), (3, .int (nI (n3 + 1))), (6, .int (f i)), (0, .ref g1), (1, .int (nI a)), (2, .int (nI b))]) hx hb dX7_isLetterB_62 hl (k := 3) rfl (nI_1 _) (by decide) rfl (fun ls hl => ?_)
            refine lv_goto (tgt := 8) hx hb dX7_isLetterB_65 (by decide) ?_
            refine W.widen (k := 0) (n := 0) (by omega) (by omega) ?_
            exact ih_6 ((i + 1), (n3 + 1), 1) F (⟨by omega, by omega, lbi_y hv3 hv1 hnw c_22 ((tcc hiz 98 (by omega)).mpr c_23)⟩) (by show b - (i + 1) < b - i; omega) hO hR _ _ hP hD hS ls (lv_sub hl [0, 1, 2, 4, 5, 6] rfl)
      ·
        refine lv_goto (tgt := 62) hx hb dX7_isLetterB_37 (by decide) ?_
        refine lv_iinc (v := (nI (i + 1))) (lv' := [(5, .int (nI (i + 1))), (6, .int (f i)), (4, .int w4), (3, .int (nI n3)), (0, .ref g1), (1, .int (nI a)), (2, .int (nI b))]) hx hb dX7_isLetterB_62 hl (k := 1) rfl (nI_1 _) (by decide) rfl (fun ls hl => ?_)
        refine lv_goto (tgt := 8) hx hb dX7_isLetterB_65 (by decide) ?_
        refine W.widen (k := 0) (n := 0) (by omega) (by omega) ?_
        exact ih_6 ((i + 1), n3, w4) F (⟨by omega, by omega, lbi_w hv3 hv1 (Or.inr (Or.inr ((tcc hiz 10 (by omega)).mpr c_21)))⟩) (by show b - (i + 1) < b - i; omega) hO hR _ _ hP hD hS ls (lv_sub hl [0, 2, 3, 4, 5, 6] rfl)
set_option maxHeartbeats 4000000 in
set_option maxRecDepth 100000 in
theorem s_X7_addOwn_e (l : Launch) (dC : Nat → ClassId) (dI : Nat → Nat → Nat) (cs : Nat → ClassId) (ty : TyM) (L : List Nat) (sz : Nat) (F : Nat → va_E) (h0 : Nat) (ρ : Nat) (d : Nat) (δ : Nat) (ea : Nat) (sl : Nat) (sx : Nat) (sy0 : Nat) (sy1 : Nat) (sy2 : Nat) (ke : Nat) (kx : Nat) (ky0 : Nat) (ky1 : Nat) (ky2 : Nat) (w0 : Nat) (w1 : Nat) (w2 : Nat) (w3 : Nat) (w4 : Nat) (w5 : Nat) (w6 : Nat) (w7 : Nat) (w8 : Nat) (tk : Nat) (hs : Nat) (ha : Nat) (hbb : Nat) (hcc : Nat) (pw : Nat) (px : Nat) (py : Nat) (pz : Nat) (pu : Nat) (v0 : Int32) (v1 : Int32) (mg : Nat) (μ : Nat) (mx : Nat) (m0 : Nat) (m1 : Nat) (m2 : Nat) (rm : Nat) (zm : Nat) (nn : Nat) (fm : Nat → Int32) (e0 : Nat → Int32) (e1 : Nat → Int32) (e2 : Nat → Int32) (bb : Int32) (gb : Nat → Nat) (gc : Nat → Nat) (gd : Nat → Nat) (rw8 : Nat) (jf : Nat) (kS : Nat) (kE : Nat) (fo : Nat → Int32) (ac : List (Nat × Nat)) (hW : WT ty L) (hL_h0 : h0 ∈ L) (hT_h0 : ty h0 = (7, ρ, [d, δ, ea, sl, sx, sy0, sy1, sy2, ke, kx, ky0, ky1, ky2, w0, w1, w2, w3, w4, w5, w6, w7, w8, tk, hs, ha, hbb, hcc, pw, px, py, pz, pu])) (hL_w8 : w8 ∈ L) (hT_w8 : ty w8 = (0, ρ + 90, [rw8, 6100])) (hL_mg : mg ∈ L) (hT_mg : ty mg = (4, μ, [mx, m0, m1, m2])) (hL_mx : mx ∈ L) (hT_mx : ty mx = (0, μ + 1, [rm, 3000])) (hFs : F h0 = .inr (7, [.ref d, .ref sl, .ref ke, .ref w0, .ref w1, .ref w2, .ref w3, .ref w4, .ref w5, .ref w6, .ref w7, .ref w8, .ref tk, .ref hs, .ref pw, .int v0, .int v1])) (hFe : F mg = .inr (4, [.ref mx, .ref m0, .ref m1, .ref m2, .int (nI nn), .int bb])) (hFx : F mx = .inr (0, [.ref rm, .int (nI zm), .int 0])) (hFrm : F rm = .inl (cs 16, 3000, .inl fm)) (hFm0 : F m0 = .inl (cs 16, 20, .inl e0)) (hFm1 : F m1 = .inl (cs 16, 20, .inl e1)) (hFm2 : F m2 = .inl (cs 16, 20, .inl e2)) (hz3 : zm ≤ 3000) (hn20 : nn ≤ 20) (hpos : ∀ j, j < nn → e0 j = nI (gb j) ∧ e1 j = nI (gc j) ∧ e2 j = nI (gd j) ∧ gb j < gc j ∧ gc j < gd j ∧ gd j ≤ zm) (hFw : F w8 = .inr (0, [.ref rw8, .int (nI ac.length), .int 0])) (hFrw : F rw8 = .inl (cs 16, 6100, .inl fo)) (hou : OUTS fm fo ac) (hjf : jf < nn) (hOW : owS (TC fm zm) (gc jf + 1) (gd jf) = some (kS, kE)) (hke : kS ≤ kE) (hacl : ac.length + zm ≤ 6100) (hmu : μ = ρ + 13 ∨ μ = ρ + 23) : Met l yX7_addOwn (.code yX7_addOwn cX7_addOwn 8 none :: tb) ({ frames := 3, cells := 0, slots := 0, locals := 100 }) (va_Pc [.ref h0, .ref mg, .int (nI jf)] (PT (dC, dI) cs ty L F sz)) (va_Qv (fun _ : Unit => True) (fun _ T9 => ∃ F2 : Nat → va_E, ∃ fo2 : Nat → Int32, QT (dC, dI) cs ty L [ρ + 90] F F2 (va_A (va_pl L F) sz) T9 ∧ F2 w8 = .inr (0, [.ref rw8, .int (nI (ac ++ (FPW (clf fm) v0 (gb jf) (gc jf) (gd jf) kS kE)).length), .int 0]) ∧ F2 rw8 = .inl (cs 16, 6100, .inl fo2) ∧ OUTS fm fo2 (ac ++ (FPW (clf fm) v0 (gb jf) (gc jf) (gd jf) kS kE))) (va_A (va_pl L F) sz)) 0 0 (va_A (va_pl L F) sz) := by
  refine Met.ofW (cc := cX7_addOwn) (maxL := 8) (ret := none) (by decide) rfl ?_
  intro p e s m args below meth c s₁ B hml hv
  obtain ⟨rfl, hsz, hP, hK, hD0, hE, hO⟩ := hv
  have hx := B.exec
  have hb := B.bytes
  have hr := B.returns
  have hts : ∀ w ∈ tb, w.before _ s = true := fun w h => atoms_spec (ws := .code yX7_addOwn cX7_addOwn 8 none :: tb) B.pre w (List.mem_cons_of_mem _ h)
  have hown : s.vm.findClass RX7 = some m.cls := findClass_of_methodNamed B.named
  have hlocks := B.notSynchronized
  subst hsz
  have hD := hD0.self (sz := s.heap.size)
  generalize hAe : va_A (va_pl L F) s.heap.size = A at hD ⊢
  have hA : ∀ q : Nat, s.heap.size ≤ q → A q := fun q h => by rw [← hAe]; exact Or.inr h
  have hS : va_S A s.heap s.heap [] := va_S.rf
  have hR : FR ty [ρ + 90] F F := FR.refl
  have hl := lv_entry ([.ref h0, .ref mg, .int (nI jf)]) (n := 8) (Nat.le_of_ble_eq_true rfl)
  rw [lg_entry_eq]
  generalize (lg_sl ([.ref h0, .ref mg, .int (nI jf)]) ++ List.replicate (8 - (lg_sl ([.ref h0, .ref mg, .int (nI jf)])).length) Slot.unset).toArray = ls at hl ⊢
  have hl : lv_has ls 8 [(0, .ref h0), (1, .ref mg), (2, .int (nI jf))] := hl
  obtain ⟨hi_1, ht_2, hi_3, ht_4, hi_5, ht_6, hi_7, ⟨r_8, ht_9⟩, hi_10, ⟨r_11, ht_12⟩, hi_13, ⟨r_14, ht_15⟩, hi_16, ⟨r_17, ht_18⟩, hi_19, ⟨r_20, ht_21⟩, hi_22, ⟨r_23, ht_24⟩, hi_25, ⟨r_26, ht_27⟩, hi_28, ⟨r_29, ht_30⟩, _, _, hi_31, ht_32, hi_33, ht_34, hi_35, ht_36⟩ := hW.slr hL_h0 hT_h0
  obtain ⟨hi_37, ht_38, hq_39⟩ := hW.bytes hL_w8 hT_w8
  obtain ⟨_, hi_40, hi_41, hi_42, _, ht_43, ht_44, ht_45⟩ := hW.msg hL_mg hT_mg
  obtain ⟨hi_46, ht_47, hq_48⟩ := hW.bytes hL_mx hT_mx
  obtain ⟨q0, q1, q2, q3, q4, q5⟩ := hpos jf hjf
  refine lv_aload_n hx hb dX7_addOwn_0 rfl (lv_at hl 1 rfl) ?_
  refine pg_getN (ci := 4) (v := .ref mx) (C := RX4) (T := TX4) (N := 6) hx hb hts it_4 hown hK hP hL_mg hFe rfl 0 (by decide) (hE.nest kn_8) (fun _ h9 => h9) rfl dX7_addOwn_1 ?_
  refine lv_astore_n (lv' := [(3, .ref mx), (0, .ref h0), (1, .ref mg), (2, .int (nI jf))]) hx hb dX7_addOwn_4 rfl hl (by decide) rfl (fun ls hl => ?_)
  refine lv_aload_n hx hb dX7_addOwn_5 rfl (lv_at hl 2 rfl) ?_
  refine pg_getN (ci := 4) (v := .ref m2) (C := RX4) (T := TX4) (N := 6) hx hb hts it_4 hown hK hP hL_mg hFe rfl 3 (by decide) (hE.nest kn_10) (fun _ h9 => h9) rfl dX7_addOwn_6 ?_
  refine lv_iload_n hx hb dX7_addOwn_9 rfl (lv_at hl 3 rfl) ?_
  refine pg_iald hx hb hK hP hi_42 0 hFm2 rfl (vp_in_nI (by omega) (by omega)) dX7_addOwn_10 ?_
  refine lv_topi (fun x_49 ex_49 => ?_)
  obtain rfl : x_49 = (nI (gd jf)) := ex_49.trans (((congrArg e2 (nI_clamp (by omega))).trans q2))
  refine lv_istore (lv' := [(4, .int (nI (gd jf))), (3, .ref mx), (0, .ref h0), (1, .ref mg), (2, .int (nI jf))]) hx hb dX7_addOwn_11 hl (by decide) rfl (fun ls hl => ?_)
  refine lv_aload_n hx hb dX7_addOwn_13 rfl (lv_at hl 3 rfl) ?_
  refine pg_getN (ci := 4) (v := .ref m1) (C := RX4) (T := TX4) (N := 6) hx hb hts it_4 hown hK hP hL_mg hFe rfl 2 (by decide) (hE.nest kn_9) (fun _ h9 => h9) rfl dX7_addOwn_14 ?_
  refine lv_iload_n hx hb dX7_addOwn_17 rfl (lv_at hl 4 rfl) ?_
  refine pg_iald hx hb hK hP hi_41 0 hFm1 rfl (vp_in_nI (by omega) (by omega)) dX7_addOwn_18 ?_
  refine lv_topi (fun x_50 ex_50 => ?_)
  obtain rfl : x_50 = (nI (gc jf)) := ex_50.trans (((congrArg e1 (nI_clamp (by omega))).trans q1))
  refine lv_iconst (v := 1) hx hb dX7_addOwn_19 (by decide) ?_
  refine lv_iadd hx hb dX7_addOwn_20 ?_
  refine lv_topi (fun x_51 ex_51 => ?_)
  obtain rfl : x_51 = (nI (gc jf + 1)) := ex_51.trans (nI_1 _)
  refine lv_istore (lv' := [(5, .int (nI (gc jf + 1))), (4, .int (nI (gd jf))), (3, .ref mx), (0, .ref h0), (1, .ref mg), (2, .int (nI jf))]) hx hb dX7_addOwn_21 hl (by decide) rfl (fun ls hl => ?_)
  refine lv_iload hx hb dX7_addOwn_23 (lv_at hl 0 rfl) ?_
  refine lv_istore (lv' := [(6, .int (nI (gc jf + 1))), (5, .int (nI (gc jf + 1))), (4, .int (nI (gd jf))), (3, .ref mx), (0, .ref h0), (1, .ref mg), (2, .int (nI jf))]) hx hb dX7_addOwn_25 hl (by decide) rfl (fun ls hl => ?_)
  refine W.widen (k := 0) (n := 0) (by omega) (by omega) ?_
  have hF_53 : F h0 = .inr (7, [.ref d, .ref sl, .ref ke, .ref w0, .ref w1, .ref w2, .ref w3, .ref w4, .ref w5, .ref w6, .ref w7, .ref w8, .ref tk, .ref hs, .ref pw, .int v0, .int v1]) := (hR h0 (by rw [hT_h0]; simp)).symm.trans hFs
  have hF_54 : F mg = .inr (4, [.ref mx, .ref m0, .ref m1, .ref m2, .int (nI nn), .int bb]) := (hR mg (by rw [hT_mg]; simp only [List.mem_cons, List.not_mem_nil, or_false]; omega)).symm.trans hFe
  have hF_55 : F mx = .inr (0, [.ref rm, .int (nI zm), .int 0]) := (hR mx (by rw [hT_mx]; simp only [List.mem_cons, List.not_mem_nil, or_false]; omega)).symm.trans hFx
  have hF_56 : F rm = .inl (cs 16, 3000, .inl fm) := (hR rm (by rw [ht_47]; simp only [List.mem_cons, List.not_mem_nil, or_false]; omega)).symm.trans hFrm
  have hF_57 : F m0 = .inl (cs 16, 20, .inl e0) := (hR m0 (by rw [ht_43]; simp only [List.mem_cons, List.not_mem_nil, or_false]; omega)).symm.trans hFm0
  have hF_58 : F m1 = .inl (cs 16, 20, .inl e1) := (hR m1 (by rw [ht_44]; simp only [List.mem_cons, List.not_mem_nil, or_false]; omega)).symm.trans hFm1
  have hF_59 : F m2 = .inl (cs 16, 20, .inl e2) := (hR m2 (by rw [ht_45]; simp only [List.mem_cons, List.not_mem_nil, or_false]; omega)).symm.trans hFm2
  refine pl_loop (σ := Nat × Nat) A (dC, dI) cs ty L [ρ + 90] F 27 8 (fun (j, wj) => [(6, .int (nI j)), (5, .int (nI wj)), (4, .int (nI (gd jf))), (3, .ref mx), (0, .ref h0), (1, .ref mg), (2, .int (nI jf))]) (fun (j, wj) => []) (fun (j, wj) FF => wj ≤ j ∧ gc jf + 1 ≤ wj ∧ j ≤ gd jf + 1 ∧ (j ≤ gd jf ∨ gd jf < wj) ∧ (∀ i, wj ≤ i → i < j → ¬ (TC fm zm) i = 59) ∧ owS (TC fm zm) wj (gd jf) = some (kS, kE) ∧ FF w8 = .inr (0, [.ref rw8, .int (nI ac.length), .int 0]) ∧ FF rw8 = .inl (cs 16, 6100, .inl fo)) (fun (j, wj) => gd jf + 1 - j) ?_ ((gc jf + 1), (gc jf + 1)) F (⟨Nat.le_refl _, Nat.le_refl _, by omega, Or.inl (by omega), fun i h1 h2 => absurd h2 (by omega), hOW, hFw, hFrw⟩) hO hR _ _ hP hD hS ls (lv_sub hl [0, 1, 2, 3, 4, 5, 6] rfl)
  rintro ⟨j, wj⟩ F_52 hv_60 hO hR ih_61 H locs hP hD hS ls hl
  have hl : lv_has ls 8 [(6, .int (nI j)), (5, .int (nI wj)), (4, .int (nI (gd jf))), (3, .ref mx), (0, .ref h0), (1, .ref mg), (2, .int (nI jf))] := hl
  have hv_60 : wj ≤ j ∧ gc jf + 1 ≤ wj ∧ j ≤ gd jf + 1 ∧ (j ≤ gd jf ∨ gd jf < wj) ∧ (∀ i, wj ≤ i → i < j → ¬ (TC fm zm) i = 59) ∧ owS (TC fm zm) wj (gd jf) = some (kS, kE) ∧ F_52 w8 = .inr (0, [.ref rw8, .int (nI ac.length), .int 0]) ∧ F_52 rw8 = .inl (cs 16, 6100, .inl fo) := hv_60
  refine W.eq (g2 := F0 m 27 ls []) rfl ?_
  have hF_62 : F_52 h0 = .inr (7, [.ref d, .ref sl, .ref ke, .ref w0, .ref w1, .ref w2, .ref w3, .ref w4, .ref w5, .ref w6, .ref w7, .ref w8, .ref tk, .ref hs, .ref pw, .int v0, .int v1]) := (hR h0 (by rw [hT_h0]; simp)).trans hF_53
  have hF_63 : F_52 mg = .inr (4, [.ref mx, .ref m0, .ref m1, .ref m2, .int (nI nn), .int bb]) := (hR mg (by rw [hT_mg]; simp only [List.mem_cons, List.not_mem_nil, or_false]; omega)).trans hF_54
  have hF_64 : F_52 mx = .inr (0, [.ref rm, .int (nI zm), .int 0]) := (hR mx (by rw [hT_mx]; simp only [List.mem_cons, List.not_mem_nil, or_false]; omega)).trans hF_55
  have hF_65 : F_52 rm = .inl (cs 16, 3000, .inl fm) := (hR rm (by rw [ht_47]; simp only [List.mem_cons, List.not_mem_nil, or_false]; omega)).trans hF_56
  have hF_66 : F_52 m0 = .inl (cs 16, 20, .inl e0) := (hR m0 (by rw [ht_43]; simp only [List.mem_cons, List.not_mem_nil, or_false]; omega)).trans hF_57
  have hF_67 : F_52 m1 = .inl (cs 16, 20, .inl e1) := (hR m1 (by rw [ht_44]; simp only [List.mem_cons, List.not_mem_nil, or_false]; omega)).trans hF_58
  have hF_68 : F_52 m2 = .inl (cs 16, 20, .inl e2) := (hR m2 (by rw [ht_45]; simp only [List.mem_cons, List.not_mem_nil, or_false]; omega)).trans hF_59
  obtain ⟨hv1, hv2, hv3, hv4, hv5, hv6, hN2, hN3⟩ := id hv_60
  refine lv_iload hx hb dX7_addOwn_27 (lv_at hl 0 rfl) ?_
  refine lv_iload hx hb dX7_addOwn_29 (lv_at hl 2 rfl) ?_
  refine lv_icmp_gt (tgt := 110) hx hb dX7_addOwn_31 (by decide) (fun c_69 => ?_) (fun c_69 => ?_)
  ·
    have hi_70 : (gd jf) < j := (nI_ltI (a := (gd jf)) (b := j) (by omega) (by omega)).mp c_69
    have hje : gd jf < j := (nI_ltI (by omega) (by omega)).mp c_69
    rw [owS_n (show gd jf < wj by omega)] at hv6
    exact nomatch hv6
  ·
    have hi_71 : j ≤ (gd jf) := Nat.not_lt.mp (fun q => c_69 ((nI_ltI (a := (gd jf)) (b := j) (by omega) (by omega)).mpr q))
    have hje : j ≤ gd jf := Nat.not_lt.mp (fun q => c_69 ((nI_ltI (by omega) (by omega)).mpr q))
    refine lv_iload hx hb dX7_addOwn_34 (lv_at hl 0 rfl) ?_
    refine lv_iload hx hb dX7_addOwn_36 (lv_at hl 2 rfl) ?_
    refine lv_icmp_ge (tgt := 55) hx hb dX7_addOwn_38 (by decide) (fun c_72 => ?_) (fun c_72 => ?_)
    ·
      have hi_73 : (gd jf) ≤ j := leN (N := (gd jf)) c_72
      have hjq : j = gd jf := by have h9 : gd jf ≤ j := (nI_leI (by omega) (by omega)).mp c_72; omega
      have hfd : fdT (TC fm zm) 59 wj (gd jf) = j := fd_at (by omega) (by omega) hv5 (Or.inl hjq)
      refine lv_aload_n hx hb dX7_addOwn_55 rfl (lv_at hl 3 rfl) ?_
      refine lv_bipush (v := 61) hx hb dX7_addOwn_56 (by decide) ?_
      refine lv_iload hx hb dX7_addOwn_58 (lv_at hl 1 rfl) ?_
      refine lv_iload hx hb dX7_addOwn_60 (lv_at hl 0 rfl) ?_
      have hFc := pg_free hD hS hA
      refine va_calli (va_runV (As := [.int 61, .int (nI wj), .int (nI j)]) (rest := []) ⟨hx, hb, hml, hown, hts⟩ (s_X0_find_g l dC dI cs ty L H.size F_52 mx (μ + 1) rm 3000 zm wj j fm 61 hW hL_mx hT_mx hF_64 hF_65 (by omega) (by omega) (by omega) (by omega)) ⟨callB_of 3 hts (gi kt_122) rfl rfl rfl (hts _ kt_1) (hts _ kt_328) (by decide +kernel) ⟨Nat.le_of_ble_eq_true rfl, Nat.le_of_ble_eq_true rfl⟩, (hts _ kt_124), (hts _ kt_125)⟩ ⟨fun a U g mk q => ⟨q.1, PT.calling q.2⟩, pg_recv hK hP hL_mx hF_64 (q := (RX0, TX0, 3)) rfl, fun U hU hWm => ⟨rfl, PT.mk hU hWm hP hK hD hE hO⟩⟩ rfl rfl hl.1 rfl (lv_room (Nat.le_of_ble_eq_true rfl)) dX7_addOwn_62 ⟨by show _ + 0 ≤ 0; omega, by show _ + 0 ≤ 0; omega⟩) hS (fun q _ h => hFc q h) hFc (fun r_74 u t H1 locs ht hvm hw hB hz1 hk1 hS => ?_)
      obtain ⟨F_75, hB1⟩ := hB
      obtain rfl : F_52 = F_75 := (funext (fun a => hB1.2.2.2 a List.not_mem_nil)).symm
      obtain ⟨hP, hD, hO, hR⟩ := QT.back hB1 ht hFc hR (fun q h => absurd h List.not_mem_nil)
      generalize H1 = H at hP hS ⊢
      have hw : (∃ k : Nat, r_74 = nI k ∧ FSX fm 61 wj j k) := hw
      have hw_76 := hw
      obtain ⟨k9, hk9, hfs⟩ := hw_76
      obtain rfl : (fdT (TC fm zm) 61 wj j) = k9 := (fd_of (c := 61) hfs (by omega) (by omega)).symm
      subst hk9
      have hfl : wj ≤ (fdT (TC fm zm) 61 wj j) ∧ (fdT (TC fm zm) 61 wj j) ≤ j := fd_ge (by omega)
      refine lv_istore (lv' := [(7, .int (nI (fdT (TC fm zm) 61 wj j))), (6, .int (nI j)), (5, .int (nI wj)), (4, .int (nI (gd jf))), (3, .ref mx), (0, .ref h0), (1, .ref mg), (2, .int (nI jf))]) hx hb dX7_addOwn_65 hl (by decide) rfl (fun ls hl => ?_)
      refine lv_aload_n hx hb dX7_addOwn_67 rfl (lv_at hl 4 rfl) ?_
      refine lv_iload hx hb dX7_addOwn_68 (lv_at hl 2 rfl) ?_
      refine lv_iload hx hb dX7_addOwn_70 (lv_at hl 0 rfl) ?_
      have hFc := pg_free hD hS hA
      refine va_calli (va_runS (As := [.ref mx, .int (nI wj), .int (nI (fdT (TC fm zm) 61 wj j))]) (rest := []) ⟨hx, hb, hml, hown, hts⟩ (s_X7_isLetterB_e l dC dI cs ty L H.size F_52 mx (μ + 1) rm 3000 zm wj (fdT (TC fm zm) 61 wj j) fm 0 hW hL_mx hT_mx hF_64 hF_65 (by omega) (by omega) (hfl.1) (by omega)) ⟨callB_of 3 hts (gi kt_425) rfl rfl rfl (hts _ kt_322) (hts _ kt_426) (by decide +kernel) ⟨Nat.le_of_ble_eq_true rfl, Nat.le_of_ble_eq_true rfl⟩, (hts _ kt_427)⟩ ⟨fun a U g mk q => ⟨q.1, PT.calling q.2⟩, fun U hU hWm => ⟨rfl, PT.mk hU hWm hP hK hD hE hO⟩⟩ rfl rfl hl.1 rfl (lv_room (Nat.le_of_ble_eq_true rfl)) dX7_addOwn_72 ⟨by show _ + 0 ≤ 0; omega, by show _ + 0 ≤ 0; omega⟩) hS (fun q _ h => hFc q h) hFc (fun r_77 u t H1 locs ht hvm hw hB hz1 hk1 hS => ?_)
      obtain ⟨F_78, hB1⟩ := hB
      obtain rfl : F_52 = F_78 := (funext (fun a => hB1.2.2.2 a List.not_mem_nil)).symm
      obtain ⟨hP, hD, hO, hR⟩ := QT.back hB1 ht hFc hR (fun q h => absurd h List.not_mem_nil)
      generalize H1 = H at hP hS ⊢
      have hw : (r_77 = 1 ∧ LTB (TC fm zm) wj (fdT (TC fm zm) 61 wj j)) ∨ (r_77 = 0 ∧ ¬ LTB (TC fm zm) wj (fdT (TC fm zm) 61 wj j)) := hw
      have hw_79 := hw
      refine lv_if_eq (tgt := 98) hx hb dX7_addOwn_75 (by decide) (fun c_80 => ?_) (fun c_80 => ?_)
      ·
        refine lv_iload hx hb dX7_addOwn_98 (lv_at hl 1 rfl) ?_
        refine lv_iconst (v := 1) hx hb dX7_addOwn_100 (by decide) ?_
        refine lv_iadd hx hb dX7_addOwn_101 ?_
        refine lv_topi (fun x_81 ex_81 => ?_)
        obtain rfl : x_81 = (nI (j + 1)) := ex_81.trans (nI_1 j)
        refine lv_istore (lv' := [(5, .int (nI (j + 1))), (7, .int (nI (fdT (TC fm zm) 61 wj j))), (6, .int (nI j)), (4, .int (nI (gd jf))), (3, .ref mx), (0, .ref h0), (1, .ref mg), (2, .int (nI jf))]) hx hb dX7_addOwn_102 hl (by decide) rfl (fun ls hl => ?_)
        refine lv_iinc (v := (nI (j + 1))) (lv' := [(6, .int (nI (j + 1))), (5, .int (nI (j + 1))), (7, .int (nI (fdT (TC fm zm) 61 wj j))), (4, .int (nI (gd jf))), (3, .ref mx), (0, .ref h0), (1, .ref mg), (2, .int (nI jf))]) hx hb dX7_addOwn_104 hl (k := 2) rfl (nI_1 _) (by decide) rfl (fun ls hl => ?_)
        refine lv_goto (tgt := 27) hx hb dX7_addOwn_107 (by decide) ?_
        refine W.widen (k := 0) (n := 0) (by omega) (by omega) ?_
        exact ih_61 ((j + 1), (j + 1)) F_52 (⟨Nat.le_refl _, by omega, by omega, by omega, fun i h1 h2 => absurd h2 (by omega), owS_x hv6 (by omega) hfd (orp0 hw_79 c_80), hN2, hN3⟩) (by show gd jf + 1 - (j + 1) < gd jf + 1 - j; omega) hO hR _ _ hP hD hS ls (lv_sub hl [0, 1, 3, 4, 5, 6, 7] rfl)
      ·
        obtain ⟨hs1, hs2⟩ := owS_y hv6 (by omega) hfd (orp1 hw_79 c_80)
        refine lv_aload_n hx hb dX7_addOwn_78 rfl (lv_at hl 6 rfl) ?_
        refine lv_aload_n hx hb dX7_addOwn_79 rfl (lv_at hl 5 rfl) ?_
        refine pg_get (ci := 7) (v := .ref w8) (C := RX7) (T := TX7) (N := 17) hx hb hts it_7 hown hK hP hL_h0 hF_62 rfl 11 (by decide) (hts _ kt_391) (fun _ h9 => h9) rfl dX7_addOwn_80 ?_
        refine lv_iload_n hx hb dX7_addOwn_83 rfl (lv_at hl 7 rfl) ?_
        refine lv_aload_n hx hb dX7_addOwn_84 rfl (lv_at hl 5 rfl) ?_
        refine pg_get (ci := 7) (v := .int v0) (C := RX7) (T := TX7) (N := 17) hx hb hts it_7 hown hK hP hL_h0 hF_62 rfl 15 (by decide) (hts _ kt_326) (fun _ h9 => h9) rfl dX7_addOwn_85 ?_
        refine lv_iload hx hb dX7_addOwn_88 (lv_at hl 0 rfl) ?_
        refine lv_iconst (v := 1) hx hb dX7_addOwn_90 (by decide) ?_
        refine lv_iadd hx hb dX7_addOwn_91 ?_
        refine lv_topi (fun x_82 ex_82 => ?_)
        obtain rfl : x_82 = (nI ((fdT (TC fm zm) 61 wj j) + 1)) := ex_82.trans (nI_1 _)
        refine lv_iload hx hb dX7_addOwn_92 (lv_at hl 1 rfl) ?_
        have hl94 := hl
        refine W.eq (g2 := F0 m 94 ls [.int (nI kE), .int (nI kS), .int v0, .int (nI jf), .ref w8, .ref mg]) (by rw [← hs1, ← hs2]) ?_
        have hFc := pg_free hD hS hA
        refine va_callv (va_runV (As := [.ref w8, .int (nI jf), .int v0, .int (nI kS), .int (nI kE)]) (rest := []) ⟨hx, hb, hml, hown, hts⟩ (s_X4_addFieldWithout_w l dC dI cs ty L H.size F_52 mg μ mx m0 m1 m2 w8 (ρ + 90) rw8 6100 rm zm nn jf (gb jf) (gc jf) (gd jf) fm e0 e1 e2 fo bb 0 kS kE ac v0 hW hL_mg hT_mg hL_mx hT_mx hL_w8 hT_w8 hF_63 hF_64 hF_65 hF_67 hF_68 hF_66 hN2 hN3 (hjf) (by omega) (q3) (q4) (q5) (by omega) (by omega) (by omega) (Or.inr ⟨by omega, hke, by omega⟩) (by omega) (by omega) (q0) (q1) (q2) (hou)) ⟨callB_of 5 hts (gi kt_417) rfl rfl rfl (hts _ kt_211) (hts _ kt_418) (by decide +kernel) ⟨Nat.le_of_ble_eq_true rfl, Nat.le_of_ble_eq_true rfl⟩, (hts _ kt_419), (hts _ kt_420)⟩ ⟨fun a U g mk q => ⟨q.1, PT.calling q.2⟩, pg_recv hK hP hL_mg hF_63 (q := (RX4, TX4, 6)) rfl, fun U hU hWm => ⟨rfl, PT.mk hU hWm hP hK hD hE hO⟩⟩ rfl rfl hl.1 rfl (lv_room (Nat.le_of_ble_eq_true rfl)) dX7_addOwn_94 ⟨by show _ + 0 ≤ 0; omega, by show _ + 0 ≤ 0; omega⟩) hS (fun q _ h => hFc q h) hFc (fun u t H1 locs ht hvm hw hB hz1 hk1 hS => ?_)
        obtain ⟨F_84, fo2_85, hB1, hq_86, hq_87, hq_88⟩ := hB
        obtain ⟨hP, hD, hO, hR⟩ := QT.back hB1 ht hFc hR (fun q h => by simp only [List.mem_cons, List.not_mem_nil, or_false] at h ⊢; omega)
        have hF_89 : F_84 h0 = .inr (7, [.ref d, .ref sl, .ref ke, .ref w0, .ref w1, .ref w2, .ref w3, .ref w4, .ref w5, .ref w6, .ref w7, .ref w8, .ref tk, .ref hs, .ref pw, .int v0, .int v1]) := (hB1.2.2.2 h0 (by rw [hT_h0]; simp)).trans hF_62
        have hF_90 : F_84 mg = .inr (4, [.ref mx, .ref m0, .ref m1, .ref m2, .int (nI nn), .int bb]) := (hB1.2.2.2 mg (by rw [hT_mg]; simp only [List.mem_cons, List.not_mem_nil, or_false]; omega)).trans hF_63
        have hF_91 : F_84 mx = .inr (0, [.ref rm, .int (nI zm), .int 0]) := (hB1.2.2.2 mx (by rw [hT_mx]; simp only [List.mem_cons, List.not_mem_nil, or_false]; omega)).trans hF_64
        have hF_92 : F_84 rm = .inl (cs 16, 3000, .inl fm) := (hB1.2.2.2 rm (by rw [ht_47]; simp only [List.mem_cons, List.not_mem_nil, or_false]; omega)).trans hF_65
        have hF_93 : F_84 m0 = .inl (cs 16, 20, .inl e0) := (hB1.2.2.2 m0 (by rw [ht_43]; simp only [List.mem_cons, List.not_mem_nil, or_false]; omega)).trans hF_66
        have hF_94 : F_84 m1 = .inl (cs 16, 20, .inl e1) := (hB1.2.2.2 m1 (by rw [ht_44]; simp only [List.mem_cons, List.not_mem_nil, or_false]; omega)).trans hF_67
        have hF_95 : F_84 m2 = .inl (cs 16, 20, .inl e2) := (hB1.2.2.2 m2 (by rw [ht_45]; simp only [List.mem_cons, List.not_mem_nil, or_false]; omega)).trans hF_68
        generalize H1 = H at hP hS ⊢
        refine W.widen (k := 0) (n := 0) (by omega) (by omega) ?_
        exact W.vret hx hb hr (fun t ht hWm => ⟨⟨(), rfl, trivial, ⟨F_84, fo2_85, QT.mk ht hP hD hO hR, hq_86, hq_87, hq_88⟩⟩, hS.F ht⟩) hS.2.2 dX7_addOwn_97
    ·
      have hi_96 : j < (gd jf) := ltN (N := (gd jf)) c_72
      have hjq : j < gd jf := Nat.not_le.mp (fun q => c_72 ((nI_leI (by omega) (by omega)).mpr q))
      refine lv_aload_n hx hb dX7_addOwn_41 rfl (lv_at hl 3 rfl) ?_
      refine lv_iload hx hb dX7_addOwn_42 (lv_at hl 0 rfl) ?_
      have hFc := pg_free hD hS hA
      refine va_calli (va_runV (As := [.int (nI j)]) (rest := []) ⟨hx, hb, hml, hown, hts⟩ (s_X0_at_e l dC dI cs ty L H.size F_52 mx (μ + 1) rm 3000 zm j fm hW hL_mx hT_mx hF_64 hF_65 (by omega) (by omega) (by omega)) ⟨callB_of 1 hts (gi kt_21) rfl rfl rfl (hts _ kt_1) (hts _ kt_305) (by decide +kernel) ⟨Nat.le_of_ble_eq_true rfl, Nat.le_of_ble_eq_true rfl⟩, (hts _ kt_23), (hts _ kt_24)⟩ ⟨fun a U g mk q => ⟨q.1, PT.calling q.2⟩, pg_recv hK hP hL_mx hF_64 (q := (RX0, TX0, 3)) rfl, fun U hU hWm => ⟨rfl, PT.mk hU hWm hP hK hD hE hO⟩⟩ rfl rfl hl.1 rfl (lv_room (Nat.le_of_ble_eq_true rfl)) dX7_addOwn_44 ⟨by show _ + 0 ≤ 0; omega, by show _ + 0 ≤ 0; omega⟩) hS (fun q _ h => hFc q h) hFc (fun r_97 u t H1 locs ht hvm hw hB hz1 hk1 hS => ?_)
      obtain ⟨F_98, hB1⟩ := hB
      obtain rfl : F_52 = F_98 := (funext (fun a => hB1.2.2.2 a List.not_mem_nil)).symm
      obtain ⟨hP, hD, hO, hR⟩ := QT.back hB1 ht hFc hR (fun q h => absurd h List.not_mem_nil)
      generalize H1 = H at hP hS ⊢
      have hw : r_97 = fm j := hw
      have hw_99 := hw
      subst hw_99
      refine lv_bipush (v := 59) hx hb dX7_addOwn_47 (by decide) ?_
      refine lv_icmp_eq (tgt := 55) hx hb dX7_addOwn_49 (by decide) (fun c_100 => ?_) (fun c_100 => ?_)
      ·
        have hfd : fdT (TC fm zm) 59 wj (gd jf) = j := fd_at (by omega) (by omega) hv5 (Or.inr ((tcc (show j < zm by omega) 59 (by omega)).mpr c_100))
        refine lv_aload_n hx hb dX7_addOwn_55 rfl (lv_at hl 3 rfl) ?_
        refine lv_bipush (v := 61) hx hb dX7_addOwn_56 (by decide) ?_
        refine lv_iload hx hb dX7_addOwn_58 (lv_at hl 1 rfl) ?_
        refine lv_iload hx hb dX7_addOwn_60 (lv_at hl 0 rfl) ?_
        have hFc := pg_free hD hS hA
        refine va_calli (va_runV (As := [.int 61, .int (nI wj), .int (nI j)]) (rest := []) ⟨hx, hb, hml, hown, hts⟩ (s_X0_find_g l dC dI cs ty L H.size F_52 mx (μ + 1) rm 3000 zm wj j fm 61 hW hL_mx hT_mx hF_64 hF_65 (by omega) (by omega) (by omega) (by omega)) ⟨callB_of 3 hts (gi kt_122) rfl rfl rfl (hts _ kt_1) (hts _ kt_328) (by decide +kernel) ⟨Nat.le_of_ble_eq_true rfl, Nat.le_of_ble_eq_true rfl⟩, (hts _ kt_124), (hts _ kt_125)⟩ ⟨fun a U g mk q => ⟨q.1, PT.calling q.2⟩, pg_recv hK hP hL_mx hF_64 (q := (RX0, TX0, 3)) rfl, fun U hU hWm => ⟨rfl, PT.mk hU hWm hP hK hD hE hO⟩⟩ rfl rfl hl.1 rfl (lv_room (Nat.le_of_ble_eq_true rfl)) dX7_addOwn_62 ⟨by show _ + 0 ≤ 0; omega, by show _ + 0 ≤ 0; omega⟩) hS (fun q _ h => hFc q h) hFc (fun r_101 u t H1 locs ht hvm hw hB hz1 hk1 hS => ?_)
        obtain ⟨F_102, hB1⟩ := hB
        obtain rfl : F_52 = F_102 := (funext (fun a => hB1.2.2.2 a List.not_mem_nil)).symm
        obtain ⟨hP, hD, hO, hR⟩ := QT.back hB1 ht hFc hR (fun q h => absurd h List.not_mem_nil)
        generalize H1 = H at hP hS ⊢
        have hw : (∃ k : Nat, r_101 = nI k ∧ FSX fm 61 wj j k) := hw
        have hw_103 := hw
        obtain ⟨k9, hk9, hfs⟩ := hw_103
        obtain rfl : (fdT (TC fm zm) 61 wj j) = k9 := (fd_of (c := 61) hfs (by omega) (by omega)).symm
        subst hk9
        have hfl : wj ≤ (fdT (TC fm zm) 61 wj j) ∧ (fdT (TC fm zm) 61 wj j) ≤ j := fd_ge (by omega)
        refine lv_istore (lv' := [(7, .int (nI (fdT (TC fm zm) 61 wj j))), (6, .int (nI j)), (5, .int (nI wj)), (4, .int (nI (gd jf))), (3, .ref mx), (0, .ref h0), (1, .ref mg), (2, .int (nI jf))]) hx hb dX7_addOwn_65 hl (by decide) rfl (fun ls hl => ?_)
        refine lv_aload_n hx hb dX7_addOwn_67 rfl (lv_at hl 4 rfl) ?_
        refine lv_iload hx hb dX7_addOwn_68 (lv_at hl 2 rfl) ?_
        refine lv_iload hx hb dX7_addOwn_70 (lv_at hl 0 rfl) ?_
        have hFc := pg_free hD hS hA
        refine va_calli (va_runS (As := [.ref mx, .int (nI wj), .int (nI (fdT (TC fm zm) 61 wj j))]) (rest := []) ⟨hx, hb, hml, hown, hts⟩ (s_X7_isLetterB_e l dC dI cs ty L H.size F_52 mx (μ + 1) rm 3000 zm wj (fdT (TC fm zm) 61 wj j) fm 0 hW hL_mx hT_mx hF_64 hF_65 (by omega) (by omega) (hfl.1) (by omega)) ⟨callB_of 3 hts (gi kt_425) rfl rfl rfl (hts _ kt_322) (hts _ kt_426) (by decide +kernel) ⟨Nat.le_of_ble_eq_true rfl, Nat.le_of_ble_eq_true rfl⟩, (hts _ kt_427)⟩ ⟨fun a U g mk q => ⟨q.1, PT.calling q.2⟩, fun U hU hWm => ⟨rfl, PT.mk hU hWm hP hK hD hE hO⟩⟩ rfl rfl hl.1 rfl (lv_room (Nat.le_of_ble_eq_true rfl)) dX7_addOwn_72 ⟨by show _ + 0 ≤ 0; omega, by show _ + 0 ≤ 0; omega⟩) hS (fun q _ h => hFc q h) hFc (fun r_104 u t H1 locs ht hvm hw hB hz1 hk1 hS => ?_)
        obtain ⟨F_105, hB1⟩ := hB
        obtain rfl : F_52 = F_105 := (funext (fun a => hB1.2.2.2 a List.not_mem_nil)).symm
        obtain ⟨hP, hD, hO, hR⟩ := QT.back hB1 ht hFc hR (fun q h => absurd h List.not_mem_nil)
        generalize H1 = H at hP hS ⊢
        have hw : (r_104 = 1 ∧ LTB (TC fm zm) wj (fdT (TC fm zm) 61 wj j)) ∨ (r_104 = 0 ∧ ¬ LTB (TC fm zm) wj (fdT (TC fm zm) 61 wj j)) := hw
        have hw_106 := hw
        refine lv_if_eq (tgt := 98) hx hb dX7_addOwn_75 (by decide) (fun c_107 => ?_) (fun c_107 => ?_)
        ·
          refine lv_iload hx hb dX7_addOwn_98 (lv_at hl 1 rfl) ?_
          refine lv_iconst (v := 1) hx hb dX7_addOwn_100 (by decide) ?_
          refine lv_iadd hx hb dX7_addOwn_101 ?_
          refine lv_topi (fun x_108 ex_108 => ?_)
          obtain rfl : x_108 = (nI (j + 1)) := ex_108.trans (nI_1 j)
          refine lv_istore (lv' := [(5, .int (nI (j + 1))), (7, .int (nI (fdT (TC fm zm) 61 wj j))), (6, .int (nI j)), (4, .int (nI (gd jf))), (3, .ref mx), (0, .ref h0), (1, .ref mg), (2, .int (nI jf))]) hx hb dX7_addOwn_102 hl (by decide) rfl (fun ls hl => ?_)
          refine lv_iinc (v := (nI (j + 1))) (lv' := [(6, .int (nI (j + 1))), (5, .int (nI (j + 1))), (7, .int (nI (fdT (TC fm zm) 61 wj j))), (4, .int (nI (gd jf))), (3, .ref mx), (0, .ref h0), (1, .ref mg), (2, .int (nI jf))]) hx hb dX7_addOwn_104 hl (k := 2) rfl (nI_1 _) (by decide) rfl (fun ls hl => ?_)
          refine lv_goto (tgt := 27) hx hb dX7_addOwn_107 (by decide) ?_
          refine W.widen (k := 0) (n := 0) (by omega) (by omega) ?_
          exact ih_61 ((j + 1), (j + 1)) F_52 (⟨Nat.le_refl _, by omega, by omega, by omega, fun i h1 h2 => absurd h2 (by omega), owS_x hv6 (by omega) hfd (orp0 hw_106 c_107), hN2, hN3⟩) (by show gd jf + 1 - (j + 1) < gd jf + 1 - j; omega) hO hR _ _ hP hD hS ls (lv_sub hl [0, 1, 3, 4, 5, 6, 7] rfl)
        ·
          obtain ⟨hs1, hs2⟩ := owS_y hv6 (by omega) hfd (orp1 hw_106 c_107)
          refine lv_aload_n hx hb dX7_addOwn_78 rfl (lv_at hl 6 rfl) ?_
          refine lv_aload_n hx hb dX7_addOwn_79 rfl (lv_at hl 5 rfl) ?_
          refine pg_get (ci := 7) (v := .ref w8) (C := RX7) (T := TX7) (N := 17) hx hb hts it_7 hown hK hP hL_h0 hF_62 rfl 11 (by decide) (hts _ kt_391) (fun _ h9 => h9) rfl dX7_addOwn_80 ?_
          refine lv_iload_n hx hb dX7_addOwn_83 rfl (lv_at hl 7 rfl) ?_
          refine lv_aload_n hx hb dX7_addOwn_84 rfl (lv_at hl 5 rfl) ?_
          refine pg_get (ci := 7) (v := .int v0) (C := RX7) (T := TX7) (N := 17) hx hb hts it_7 hown hK hP hL_h0 hF_62 rfl 15 (by decide) (hts _ kt_326) (fun _ h9 => h9) rfl dX7_addOwn_85 ?_
          refine lv_iload hx hb dX7_addOwn_88 (lv_at hl 0 rfl) ?_
          refine lv_iconst (v := 1) hx hb dX7_addOwn_90 (by decide) ?_
          refine lv_iadd hx hb dX7_addOwn_91 ?_
          refine lv_topi (fun x_109 ex_109 => ?_)
          obtain rfl : x_109 = (nI ((fdT (TC fm zm) 61 wj j) + 1)) := ex_109.trans (nI_1 _)
          refine lv_iload hx hb dX7_addOwn_92 (lv_at hl 1 rfl) ?_
          have hl94 := hl
          refine W.eq (g2 := F0 m 94 ls [.int (nI kE), .int (nI kS), .int v0, .int (nI jf), .ref w8, .ref mg]) (by rw [← hs1, ← hs2]) ?_
          have hFc := pg_free hD hS hA
          refine va_callv (va_runV (As := [.ref w8, .int (nI jf), .int v0, .int (nI kS), .int (nI kE)]) (rest := []) ⟨hx, hb, hml, hown, hts⟩ (s_X4_addFieldWithout_w l dC dI cs ty L H.size F_52 mg μ mx m0 m1 m2 w8 (ρ + 90) rw8 6100 rm zm nn jf (gb jf) (gc jf) (gd jf) fm e0 e1 e2 fo bb 0 kS kE ac v0 hW hL_mg hT_mg hL_mx hT_mx hL_w8 hT_w8 hF_63 hF_64 hF_65 hF_67 hF_68 hF_66 hN2 hN3 (hjf) (by omega) (q3) (q4) (q5) (by omega) (by omega) (by omega) (Or.inr ⟨by omega, hke, by omega⟩) (by omega) (by omega) (q0) (q1) (q2) (hou)) ⟨callB_of 5 hts (gi kt_417) rfl rfl rfl (hts _ kt_211) (hts _ kt_418) (by decide +kernel) ⟨Nat.le_of_ble_eq_true rfl, Nat.le_of_ble_eq_true rfl⟩, (hts _ kt_419), (hts _ kt_420)⟩ ⟨fun a U g mk q => ⟨q.1, PT.calling q.2⟩, pg_recv hK hP hL_mg hF_63 (q := (RX4, TX4, 6)) rfl, fun U hU hWm => ⟨rfl, PT.mk hU hWm hP hK hD hE hO⟩⟩ rfl rfl hl.1 rfl (lv_room (Nat.le_of_ble_eq_true rfl)) dX7_addOwn_94 ⟨by show _ + 0 ≤ 0; omega, by show _ + 0 ≤ 0; omega⟩) hS (fun q _ h => hFc q h) hFc (fun u t H1 locs ht hvm hw hB hz1 hk1 hS => ?_)
          obtain ⟨F_111, fo2_112, hB1, hq_113, hq_114, hq_115⟩ := hB
          obtain ⟨hP, hD, hO, hR⟩ := QT.back hB1 ht hFc hR (fun q h => by simp only [List.mem_cons, List.not_mem_nil, or_false] at h ⊢; omega)
          have hF_116 : F_111 h0 = .inr (7, [.ref d, .ref sl, .ref ke, .ref w0, .ref w1, .ref w2, .ref w3, .ref w4, .ref w5, .ref w6, .ref w7, .ref w8, .ref tk, .ref hs, .ref pw, .int v0, .int v1]) := (hB1.2.2.2 h0 (by rw [hT_h0]; simp)).trans hF_62
          have hF_117 : F_111 mg = .inr (4, [.ref mx, .ref m0, .ref m1, .ref m2, .int (nI nn), .int bb]) := (hB1.2.2.2 mg (by rw [hT_mg]; simp only [List.mem_cons, List.not_mem_nil, or_false]; omega)).trans hF_63
          have hF_118 : F_111 mx = .inr (0, [.ref rm, .int (nI zm), .int 0]) := (hB1.2.2.2 mx (by rw [hT_mx]; simp only [List.mem_cons, List.not_mem_nil, or_false]; omega)).trans hF_64
          have hF_119 : F_111 rm = .inl (cs 16, 3000, .inl fm) := (hB1.2.2.2 rm (by rw [ht_47]; simp only [List.mem_cons, List.not_mem_nil, or_false]; omega)).trans hF_65
          have hF_120 : F_111 m0 = .inl (cs 16, 20, .inl e0) := (hB1.2.2.2 m0 (by rw [ht_43]; simp only [List.mem_cons, List.not_mem_nil, or_false]; omega)).trans hF_66
          have hF_121 : F_111 m1 = .inl (cs 16, 20, .inl e1) := (hB1.2.2.2 m1 (by rw [ht_44]; simp only [List.mem_cons, List.not_mem_nil, or_false]; omega)).trans hF_67
          have hF_122 : F_111 m2 = .inl (cs 16, 20, .inl e2) := (hB1.2.2.2 m2 (by rw [ht_45]; simp only [List.mem_cons, List.not_mem_nil, or_false]; omega)).trans hF_68
          generalize H1 = H at hP hS ⊢
          refine W.widen (k := 0) (n := 0) (by omega) (by omega) ?_
          exact W.vret hx hb hr (fun t ht hWm => ⟨⟨(), rfl, trivial, ⟨F_111, fo2_112, QT.mk ht hP hD hO hR, hq_113, hq_114, hq_115⟩⟩, hS.F ht⟩) hS.2.2 dX7_addOwn_97
      ·
        have hnc2 : ∀ i, wj ≤ i → i < j + 1 → ¬ (TC fm zm) i = 59 := fun i h1 h2 => by rcases Nat.lt_or_ge i j with w9 | w9; exact hv5 i h1 w9; rw [show i = j by omega]; exact fun q => c_100 ((tcc (show j < zm by omega) 59 (by omega)).mp q)
        refine lv_goto (tgt := 104) hx hb dX7_addOwn_52 (by decide) ?_
        refine lv_iinc (v := (nI (j + 1))) (lv' := [(6, .int (nI (j + 1))), (5, .int (nI wj)), (4, .int (nI (gd jf))), (3, .ref mx), (0, .ref h0), (1, .ref mg), (2, .int (nI jf))]) hx hb dX7_addOwn_104 hl (k := 0) rfl (nI_1 _) (by decide) rfl (fun ls hl => ?_)
        refine lv_goto (tgt := 27) hx hb dX7_addOwn_107 (by decide) ?_
        refine W.widen (k := 0) (n := 0) (by omega) (by omega) ?_
        exact ih_61 ((j + 1), wj) F_52 (⟨by omega, by omega, by omega, by omega, hnc2, hv6, hN2, hN3⟩) (by show gd jf + 1 - (j + 1) < gd jf + 1 - j; omega) hO hR _ _ hP hD hS ls (lv_sub hl [0, 1, 2, 3, 4, 5, 6] rfl)
set_option maxHeartbeats 4000000 in
set_option maxRecDepth 100000 in
theorem s_X8_sumOf_l (l : Launch) (dC : Nat → ClassId) (dI : Nat → Nat → Nat) (cs : Nat → ClassId) (ty : TyM) (L : List Nat) (sz : Nat) (F : Nat → va_E) (h0 : Nat) (ρ : Nat) (wa : Nat) (sa : Nat) (ta : Nat) (g1 : Nat) (σ : Nat) (r1 : Nat) (n1 : Nat) (g2 : Nat) (τ : Nat) (r2 : Nat) (n2 : Nat) (z : Nat) (nl : Nat) (f : Nat → Int32) (hW : WT ty L) (hL_h0 : h0 ∈ L) (hT_h0 : ty h0 = (8, ρ, [wa, sa, ta])) (hL_g1 : g1 ∈ L) (hT_g1 : ty g1 = (0, σ, [r1, n1])) (hL_g2 : g2 ∈ L) (hT_g2 : ty g2 = (0, τ, [r2, n2])) (hn2 : 32 ≤ n2) (hFg : F g1 = .inr (0, [.ref r1, .int (nI z), .int 0])) (hFr : F r1 = .inl (cs 16, n1, .inl f)) (hzn : z ≤ n1) (hn9 : n1 ≤ 10000) (hnl : nl ≤ z) (hz3 : z ≤ 6100) (hm9 : n2 ≤ 10000) (hsr : σ ≠ ρ) (hst : σ ≠ τ) (htr : τ ≠ ρ) : Met l yX8_sumOf (.code yX8_sumOf cX8_sumOf 7 none :: tb) ({ frames := 2, cells := 0, slots := 0, locals := 73 }) (va_Pc [.ref h0, .ref g1, .int (nI nl), .ref g2] (PTE (dC, dI) cs ty L F sz [])) (va_Qv (fun _ : Unit => True) (fun _ T9 => ∃ F2 : Nat → va_E, ∃ f2 : Nat → Int32, QT (dC, dI) cs ty L [ρ, τ] F F2 (va_A (va_pl L F) sz) T9 ∧ F2 g2 = .inr (0, [.ref r2, .int (nI 32), .int 0]) ∧ F2 r2 = .inl (cs 16, n2, .inl f2) ∧ (∀ j, j < 32 → f2 j = dgb (stt f nl ((nl + 72) / 64)) j)) (va_A (va_pl L F) sz)) 0 0 (va_A (va_pl L F) sz) := by
  refine Met.ofW (cc := cX8_sumOf) (maxL := 7) (ret := none) (by decide) rfl ?_
  intro p e s m args below meth c s₁ B hml hv
  obtain ⟨rfl, ⟨hsz, hP, hK, hD0, hE, hO⟩, hG, hX⟩ := hv
  have hx := B.exec
  have hb := B.bytes
  have hr := B.returns
  have hts : ∀ w ∈ tb, w.before _ s = true := fun w h => atoms_spec (ws := .code yX8_sumOf cX8_sumOf 7 none :: tb) B.pre w (List.mem_cons_of_mem _ h)
  have hown : s.vm.findClass RX8 = some m.cls := findClass_of_methodNamed B.named
  have hlocks := B.notSynchronized
  subst hsz
  have hD := hD0.self (sz := s.heap.size)
  generalize hAe : va_A (va_pl L F) s.heap.size = A at hD hG hX ⊢
  have hA : ∀ q : Nat, s.heap.size ≤ q → A q := fun q h => by rw [← hAe]; exact Or.inr h
  have hS : va_S A s.heap s.heap [] := va_S.rf
  have hR : FR ty [ρ, τ] F F := FR.refl
  have hl := lv_entry ([.ref h0, .ref g1, .int (nI nl), .ref g2]) (n := 7) (Nat.le_of_ble_eq_true rfl)
  rw [lg_entry_eq]
  generalize (lg_sl ([.ref h0, .ref g1, .int (nI nl), .ref g2]) ++ List.replicate (7 - (lg_sl ([.ref h0, .ref g1, .int (nI nl), .ref g2])).length) Slot.unset).toArray = ls at hl ⊢
  have hl : lv_has ls 7 [(0, .ref h0), (1, .ref g1), (2, .int (nI nl)), (3, .ref g2)] := hl
  obtain ⟨hi_1, hi_2, hi_3, ht_4, ht_5, ht_6⟩ := hW.sha hL_h0 hT_h0
  obtain ⟨hi_7, ht_8, hq_9⟩ := hW.bytes hL_g1 hT_g1
  obtain ⟨hi_10, ht_11, hq_12⟩ := hW.bytes hL_g2 hT_g2
  obtain ⟨aB, aF, fB, fF, ⟨rfl, rfl⟩, zB, tB, zF, tF⟩ := id hG.2.2.1
  refine va_gets hx hb zB hS hown (hts _ kt_255) (fun _ h9 => h9) dX8_sumOf_0 ?_
  refine lv_iconst (v := 0) hx hb dX8_sumOf_3 (by decide) ?_
  refine lv_aload_n hx hb dX8_sumOf_4 rfl (lv_at hl 0 rfl) ?_
  have hF_13 := hO.sha hL_h0 hT_h0
  refine pg_get (ci := 8) (v := .ref sa) (C := RX8) (T := TX8) (N := 3) hx hb hts it_8 hown hK hP hL_h0 hF_13 rfl 1 (by decide) (hts _ kt_247) (fun _ h9 => h9) rfl dX8_sumOf_5 ?_
  refine lv_iconst (v := 0) hx hb dX8_sumOf_8 (by decide) ?_
  refine lv_bipush (v := 8) hx hb dX8_sumOf_9 (by decide) ?_
  obtain ⟨f_14, hF_15⟩ := hO.ints hi_2 ht_5
  refine pg_copyt hx hb (by rw [hml]; exact hl.1.symm) hown (hts _ kt_248) (hts _ kt_29) (hts _ kt_30) (hts _ kt_31) hK hP hD hS tB hi_2 0 hF_15 rfl (by decide) (by decide) (by decide) (by decide) (by decide) (Nat.le_of_ble_eq_true rfl) (by decide) dX8_sumOf_11 (fun H locs hP hD hS => ?_)
  obtain ⟨F_16, he_17, hP, hD, hO, hR⟩ : ∃ G, G = va_up F sa (.inl (cs 16, 8, .inl (va_cpy shB f_14 (0 : Int32).toNatClampNeg (0 : Int32).toNatClampNeg (8 : Int32).toNatClampNeg))) ∧ va_P (dC, dI) vwCl (va_pl L G) H ∧ va_D A (va_pl L G) ∧ OK cs ty L G ∧ FR ty [ρ, τ] F G := ⟨_, rfl, hP, hD, hO.up (sh.ints ht_5 ⟨_, rfl⟩), hR.up ht_5 (by simp)⟩
  have hF_18 : F_16 sa = .inl (cs 16, 8, .inl (va_cpy shB f_14 (0 : Int32).toNatClampNeg (0 : Int32).toNatClampNeg (8 : Int32).toNatClampNeg)) := by rw [he_17]; exact up_self
  have hF_19 : F_16 g1 = .inr (0, [.ref r1, .int (nI z), .int 0]) := by rw [he_17, up_ne (ne_ty hT_g1 ht_5 (by simp))]; exact hFg
  have hF_20 : F_16 r1 = .inl (cs 16, n1, .inl f) := by rw [he_17, up_ne (ne_ty3 ht_8 ht_5 (by show σ ≠ ρ; omega))]; exact hFr
  have hF_21 : F_16 h0 = .inr (8, [.ref wa, .ref sa, .ref ta]) := by rw [he_17, up_ne (ne_ty hT_h0 ht_5 (by simp))]; exact hF_13
  refine lv_iload_n hx hb dX8_sumOf_14 rfl (lv_at hl 2 rfl) ?_
  refine lv_bipush (v := 9) hx hb dX8_sumOf_15 (by decide) ?_
  refine lv_iadd hx hb dX8_sumOf_17 ?_
  refine lv_topi (fun x_22 ex_22 => ?_)
  obtain rfl : x_22 = (nI (nl + 9)) := ex_22.trans (nI_add nl 9)
  refine lv_bipush (v := 63) hx hb dX8_sumOf_18 (by decide) ?_
  refine lv_iadd hx hb dX8_sumOf_20 ?_
  refine lv_topi (fun x_23 ex_23 => ?_)
  obtain rfl : x_23 = (nI (nl + 72)) := ex_23.trans ((nI_add (nl + 9) 63).trans (by rw [show nl + 9 + 63 = nl + 72 by omega]))
  refine lv_bipush (v := 64) hx hb dX8_sumOf_21 (by decide) ?_
  refine lv_idiv hx hb dX8_sumOf_23 (by decide) ?_
  refine lv_topi (fun x_24 ex_24 => ?_)
  obtain rfl : x_24 = (nI ((nl + 72) / 64)) := ex_24.trans (pk_div (d := 64) (by omega) (by omega) (by omega))
  refine lv_istore (lv' := [(4, .int (nI ((nl + 72) / 64))), (0, .ref h0), (1, .ref g1), (2, .int (nI nl)), (3, .ref g2)]) hx hb dX8_sumOf_24 hl (by decide) rfl (fun ls hl => ?_)
  refine lv_iconst (v := 0) hx hb dX8_sumOf_26 (by decide) ?_
  refine lv_istore (lv' := [(5, .int 0), (4, .int (nI ((nl + 72) / 64))), (0, .ref h0), (1, .ref g1), (2, .int (nI nl)), (3, .ref g2)]) hx hb dX8_sumOf_27 hl (by decide) rfl (fun ls hl => ?_)
  refine W.widen (k := 0) (n := 0) (by omega) (by omega) ?_
  have hF_26 : F g1 = .inr (0, [.ref r1, .int (nI z), .int 0]) := (hR g1 (by rw [hT_g1]; simp only [List.mem_cons, List.not_mem_nil, or_false]; omega)).symm.trans hF_19
  have hF_27 : F r1 = .inl (cs 16, n1, .inl f) := (hR r1 (by rw [ht_8]; simp only [List.mem_cons, List.not_mem_nil, or_false]; omega)).symm.trans hF_20
  refine pl_loop (σ := Nat) A (dC, dI) cs ty L [ρ, τ] F 29 7 (fun b => [(5, .int (nI b)), (4, .int (nI ((nl + 72) / 64))), (0, .ref h0), (1, .ref g1), (2, .int (nI nl)), (3, .ref g2)]) (fun b => []) (fun b FF => b ≤ ((nl + 72) / 64) ∧ ∃ f9 : Nat → Int32, FF sa = .inl (cs 16, 8, .inl f9) ∧ ∀ j, j < 8 → f9 j = stt f nl b j) (fun b => ((nl + 72) / 64) - b) ?_ 0 F_16 (⟨by omega, _, hF_18, st_0⟩) hO hR _ _ hP hD hS ls (lv_sub hl [0, 1, 2, 3, 4, 5] rfl)
  rintro b F_25 hv_28 hO hR ih_29 H locs hP hD hS ls hl
  have hl : lv_has ls 7 [(5, .int (nI b)), (4, .int (nI ((nl + 72) / 64))), (0, .ref h0), (1, .ref g1), (2, .int (nI nl)), (3, .ref g2)] := hl
  have hv_28 : b ≤ ((nl + 72) / 64) ∧ ∃ f9 : Nat → Int32, F_25 sa = .inl (cs 16, 8, .inl f9) ∧ ∀ j, j < 8 → f9 j = stt f nl b j := hv_28
  refine W.eq (g2 := F0 m 29 ls []) rfl ?_
  have hF_30 : F_25 g1 = .inr (0, [.ref r1, .int (nI z), .int 0]) := (hR g1 (by rw [hT_g1]; simp only [List.mem_cons, List.not_mem_nil, or_false]; omega)).trans hF_26
  have hF_31 : F_25 r1 = .inl (cs 16, n1, .inl f) := (hR r1 (by rw [ht_8]; simp only [List.mem_cons, List.not_mem_nil, or_false]; omega)).trans hF_27
  obtain ⟨hv1, f9, hv2, hv3⟩ := id hv_28
  refine lv_iload hx hb dX8_sumOf_29 (lv_at hl 0 rfl) ?_
  refine lv_iload hx hb dX8_sumOf_31 (lv_at hl 1 rfl) ?_
  refine lv_icmp_ge (tgt := 104) hx hb dX8_sumOf_33 (by decide) (fun c_32 => ?_) (fun c_32 => ?_)
  ·
    have hi_33 : ((nl + 72) / 64) ≤ b := leN (N := ((nl + 72) / 64)) c_32
    have hbn : ((nl + 72) / 64) ≤ b := (nI_leI (by omega) (by omega)).mp c_32
    have hbN : b = ((nl + 72) / 64) := by omega
    rw [hbN] at hv3
    refine lv_aload_n hx hb dX8_sumOf_104 rfl (lv_at hl 5 rfl) ?_
    have hFc := pg_free hD hS hA
    obtain ⟨z_34, o_35, hF_36, hq_37, hq_38⟩ := hO.bytes hL_g2 hT_g2
    refine va_callv (va_runV (As := []) (rest := []) ⟨hx, hb, hml, hown, hts⟩ (s_X0_clear l dC dI cs ty L H.size F_25 g2 τ r2 n2 hW hL_g2 hT_g2) ⟨callB_of 0 hts (gi kt_32) rfl rfl rfl (hts _ kt_1) (hts _ kt_256) (by decide +kernel) ⟨Nat.le_of_ble_eq_true rfl, Nat.le_of_ble_eq_true rfl⟩, (hts _ kt_34), (hts _ kt_35)⟩ ⟨fun a U g mk q => ⟨q.1, PT.calling q.2⟩, pg_recv hK hP hL_g2 hF_36 (q := (RX0, TX0, 3)) rfl, fun U hU hWm => ⟨rfl, PT.mk hU hWm hP hK hD hE hO⟩⟩ rfl rfl hl.1 rfl (lv_room (Nat.le_of_ble_eq_true rfl)) dX8_sumOf_105 ⟨by show _ + 0 ≤ 0; omega, by show _ + 0 ≤ 0; omega⟩) hS (fun q _ h => hFc q h) hFc (fun u t H1 locs ht hvm hw hB hz1 hk1 hS => ?_)
    obtain ⟨F_40, hB1, hq_41⟩ := hB
    obtain ⟨hP, hD, hO, hR⟩ := QT.back hB1 ht hFc hR (fun q h => by simp only [List.mem_cons, List.not_mem_nil, or_false] at h ⊢; omega)
    have hF_42 : F_40 g1 = .inr (0, [.ref r1, .int (nI z), .int 0]) := (hB1.2.2.2 g1 (by rw [hT_g1]; simp only [List.mem_cons, List.not_mem_nil, or_false]; omega)).trans hF_30
    have hF_43 : F_40 r1 = .inl (cs 16, n1, .inl f) := (hB1.2.2.2 r1 (by rw [ht_8]; simp only [List.mem_cons, List.not_mem_nil, or_false]; omega)).trans hF_31
    have hF_44 : F_40 sa = .inl (cs 16, 8, .inl f9) := (hB1.2.2.2 sa (by rw [ht_5]; simp only [List.mem_cons, List.not_mem_nil, or_false]; omega)).trans hv2
    generalize H1 = H at hP hS ⊢
    refine lv_iconst (v := 0) hx hb dX8_sumOf_108 (by decide) ?_
    refine lv_istore (lv' := [(5, .int 0), (4, .int (nI ((nl + 72) / 64))), (0, .ref h0), (1, .ref g1), (2, .int (nI nl)), (3, .ref g2)]) hx hb dX8_sumOf_109 hl (by decide) rfl (fun ls hl => ?_)
    refine W.widen (k := 0) (n := 0) (by omega) (by omega) ?_
    have hF_46 : F g1 = .inr (0, [.ref r1, .int (nI z), .int 0]) := (hR g1 (by rw [hT_g1]; simp only [List.mem_cons, List.not_mem_nil, or_false]; omega)).symm.trans hF_42
    have hF_47 : F r1 = .inl (cs 16, n1, .inl f) := (hR r1 (by rw [ht_8]; simp only [List.mem_cons, List.not_mem_nil, or_false]; omega)).symm.trans hF_43
    obtain ⟨f_48, hF_49⟩ := hO.ints hi_10 ht_11
    refine pl_loop (σ := Nat) A (dC, dI) cs ty L [ρ, τ] F 111 7 (fun k => [(5, .int (nI k)), (4, .int (nI ((nl + 72) / 64))), (0, .ref h0), (1, .ref g1), (2, .int (nI nl)), (3, .ref g2)]) (fun k => []) (fun k FF => k ≤ 8 ∧ FF sa = .inl (cs 16, 8, .inl f9) ∧ FF g2 = .inr (0, [.ref r2, .int (nI (4 * k)), .int 0]) ∧ ∃ fo : Nat → Int32, FF r2 = .inl (cs 16, n2, .inl fo) ∧ ∀ j, j < 4 * k → fo j = dgb (stt f nl ((nl + 72) / 64)) j) (fun k => 8 - k) ?_ 0 F_40 (⟨by omega, hF_44, hq_41, _, hF_49, fun j hj => absurd hj (by omega)⟩) hO hR _ _ hP hD hS ls (lv_sub hl [0, 1, 2, 3, 4, 5] rfl)
    rintro k F_45 hv_50 hO hR ih_51 H locs hP hD hS ls hl
    have hl : lv_has ls 7 [(5, .int (nI k)), (4, .int (nI ((nl + 72) / 64))), (0, .ref h0), (1, .ref g1), (2, .int (nI nl)), (3, .ref g2)] := hl
    have hv_50 : k ≤ 8 ∧ F_45 sa = .inl (cs 16, 8, .inl f9) ∧ F_45 g2 = .inr (0, [.ref r2, .int (nI (4 * k)), .int 0]) ∧ ∃ fo : Nat → Int32, F_45 r2 = .inl (cs 16, n2, .inl fo) ∧ ∀ j, j < 4 * k → fo j = dgb (stt f nl ((nl + 72) / 64)) j := hv_50
    refine W.eq (g2 := F0 m 111 ls []) rfl ?_
    have hF_52 : F_45 g1 = .inr (0, [.ref r1, .int (nI z), .int 0]) := (hR g1 (by rw [hT_g1]; simp only [List.mem_cons, List.not_mem_nil, or_false]; omega)).trans hF_46
    have hF_53 : F_45 r1 = .inl (cs 16, n1, .inl f) := (hR r1 (by rw [ht_8]; simp only [List.mem_cons, List.not_mem_nil, or_false]; omega)).trans hF_47
    obtain ⟨hr1, hr2, hr3, fo, hr4, hr5⟩ := id hv_50
    refine lv_iload hx hb dX8_sumOf_111 (lv_at hl 0 rfl) ?_
    refine lv_bipush (v := 8) hx hb dX8_sumOf_113 (by decide) ?_
    refine lv_icmp_ge (tgt := 135) hx hb dX8_sumOf_115 (by decide) (fun c_54 => ?_) (fun c_54 => ?_)
    ·
      have hi_55 : 8 ≤ k := leN (N := 8) c_54
      have hk8 : 8 ≤ k := (nI_leI (by omega) (by omega)).mp c_54
      refine W.widen (k := 0) (n := 0) (by omega) (by omega) ?_
      exact W.vret hx hb hr (fun t ht hWm => ⟨⟨(), rfl, trivial, ⟨F_45, fo, QT.mk ht hP hD hO hR, (by rw [hr3, show 4 * k = 32 by omega]), hr4, (fun j hj => hr5 j (by omega))⟩⟩, hS.F ht⟩) hS.2.2 dX8_sumOf_135
    ·
      have hi_56 : k < 8 := ltN (N := 8) c_54
      have hk8 : k < 8 := Nat.not_le.mp (fun q => c_54 ((nI_leI (by omega) (by omega)).mpr q))
      refine lv_aload_n hx hb dX8_sumOf_118 rfl (lv_at hl 5 rfl) ?_
      refine lv_aload_n hx hb dX8_sumOf_119 rfl (lv_at hl 2 rfl) ?_
      have hF_57 := hO.sha hL_h0 hT_h0
      refine pg_get (ci := 8) (v := .ref sa) (C := RX8) (T := TX8) (N := 3) hx hb hts it_8 hown hK hP hL_h0 hF_57 rfl 1 (by decide) (hts _ kt_247) (fun _ h9 => h9) rfl dX8_sumOf_120 ?_
      refine lv_iload hx hb dX8_sumOf_123 (lv_at hl 0 rfl) ?_
      refine pg_iald hx hb hK hP hi_2 0 hr2 rfl (vp_in_nI (by omega) (by omega)) dX8_sumOf_125 ?_
      refine lv_topi (fun x_58 ex_58 => ?_)
      obtain rfl : x_58 = (f9 k) := ex_58.trans (congrArg f9 (nI_clamp (by omega)))
      have hFc := pg_free hD hS hA
      refine va_callv (va_runV (As := [.int (f9 k)]) (rest := []) ⟨hx, hb, hml, hown, hts⟩ (s_X0_addFour_e l dC dI cs ty L H.size F_45 g2 τ r2 n2 (4 * k) fo (f9 k) hW hL_g2 hT_g2 hr3 hr4 (by omega) (by omega)) ⟨callB_of 1 hts (gi kt_257) rfl rfl rfl (hts _ kt_1) (hts _ kt_258) (by decide +kernel) ⟨Nat.le_of_ble_eq_true rfl, Nat.le_of_ble_eq_true rfl⟩, (hts _ kt_259), (hts _ kt_260)⟩ ⟨fun a U g mk q => ⟨q.1, PT.calling q.2⟩, pg_recv hK hP hL_g2 hr3 (q := (RX0, TX0, 3)) rfl, fun U hU hWm => ⟨rfl, PT.mk hU hWm hP hK hD hE hO⟩⟩ rfl rfl hl.1 rfl (lv_room (Nat.le_of_ble_eq_true rfl)) dX8_sumOf_126 ⟨by show _ + 0 ≤ 0; omega, by show _ + 0 ≤ 0; omega⟩) hS (fun q _ h => hFc q h) hFc (fun u t H1 locs ht hvm hw hB hz1 hk1 hS => ?_)
      obtain ⟨F_60, hB1, hq_61, hq_62⟩ := hB
      obtain ⟨hP, hD, hO, hR⟩ := QT.back hB1 ht hFc hR (fun q h => by simp only [List.mem_cons, List.not_mem_nil, or_false] at h ⊢; omega)
      have hF_63 : F_60 g1 = .inr (0, [.ref r1, .int (nI z), .int 0]) := (hB1.2.2.2 g1 (by rw [hT_g1]; simp only [List.mem_cons, List.not_mem_nil, or_false]; omega)).trans hF_52
      have hF_64 : F_60 r1 = .inl (cs 16, n1, .inl f) := (hB1.2.2.2 r1 (by rw [ht_8]; simp only [List.mem_cons, List.not_mem_nil, or_false]; omega)).trans hF_53
      have hF_65 : F_60 sa = .inl (cs 16, 8, .inl f9) := (hB1.2.2.2 sa (by rw [ht_5]; simp only [List.mem_cons, List.not_mem_nil, or_false]; omega)).trans hr2
      have hF_66 : F_60 h0 = .inr (8, [.ref wa, .ref sa, .ref ta]) := (hB1.2.2.2 h0 (by rw [hT_h0]; simp only [List.mem_cons, List.not_mem_nil, or_false]; omega)).trans hF_57
      generalize H1 = H at hP hS ⊢
      refine lv_iinc (v := (nI (k + 1))) (lv' := [(5, .int (nI (k + 1))), (4, .int (nI ((nl + 72) / 64))), (0, .ref h0), (1, .ref g1), (2, .int (nI nl)), (3, .ref g2)]) hx hb dX8_sumOf_129 hl (k := 0) rfl (nI_1 _) (by decide) rfl (fun ls hl => ?_)
      refine lv_goto (tgt := 111) hx hb dX8_sumOf_132 (by decide) ?_
      refine W.widen (k := 0) (n := 0) (by omega) (by omega) ?_
      exact ih_51 (k + 1) F_60 (⟨by omega, hF_65, by rw [show 4 * (k + 1) = 4 * k + 4 by omega]; exact hq_61, _, hq_62, dg_up hr5 (hv3 k (by omega))⟩) (by show 8 - (k + 1) < 8 - k; omega) hO hR _ _ hP hD hS ls (lv_sub hl [0, 1, 2, 3, 4, 5] rfl)
  ·
    have hi_67 : b < ((nl + 72) / 64) := ltN (N := ((nl + 72) / 64)) c_32
    have hbn : b < ((nl + 72) / 64) := Nat.not_le.mp (fun q => c_32 ((nI_leI (by omega) (by omega)).mpr q))
    refine lv_iconst (v := 0) hx hb dX8_sumOf_36 (by decide) ?_
    refine lv_istore (lv' := [(6, .int 0), (5, .int (nI b)), (4, .int (nI ((nl + 72) / 64))), (0, .ref h0), (1, .ref g1), (2, .int (nI nl)), (3, .ref g2)]) hx hb dX8_sumOf_37 hl (by decide) rfl (fun ls hl => ?_)
    refine W.widen (k := 0) (n := 0) (by omega) (by omega) ?_
    have hF_69 : F g1 = .inr (0, [.ref r1, .int (nI z), .int 0]) := (hR g1 (by rw [hT_g1]; simp only [List.mem_cons, List.not_mem_nil, or_false]; omega)).symm.trans hF_30
    have hF_70 : F r1 = .inl (cs 16, n1, .inl f) := (hR r1 (by rw [ht_8]; simp only [List.mem_cons, List.not_mem_nil, or_false]; omega)).symm.trans hF_31
    obtain ⟨f_71, hF_72⟩ := hO.ints hi_1 ht_4
    refine pl_loop (σ := Nat) A (dC, dI) cs ty L [ρ, τ] F 39 7 (fun i1 => [(6, .int (nI i1)), (5, .int (nI b)), (4, .int (nI ((nl + 72) / 64))), (0, .ref h0), (1, .ref g1), (2, .int (nI nl)), (3, .ref g2)]) (fun i1 => []) (fun i1 FF => i1 ≤ 16 ∧ ∃ fw : Nat → Int32, FF wa = .inl (cs 16, 64, .inl fw) ∧ (∀ i, i < i1 → fw i = wdk (byt f nl) (b * 64 + i * 4) 4) ∧ FF sa = .inl (cs 16, 8, .inl f9)) (fun i1 => 16 - i1) ?_ 0 F_25 (⟨by omega, _, hF_72, fun i hi => absurd hi (Nat.not_lt_zero _), hv2⟩) hO hR _ _ hP hD hS ls (lv_sub hl [0, 1, 2, 3, 4, 5, 6] rfl)
    rintro i1 F_68 hv_73 hO hR ih_74 H locs hP hD hS ls hl
    have hl : lv_has ls 7 [(6, .int (nI i1)), (5, .int (nI b)), (4, .int (nI ((nl + 72) / 64))), (0, .ref h0), (1, .ref g1), (2, .int (nI nl)), (3, .ref g2)] := hl
    have hv_73 : i1 ≤ 16 ∧ ∃ fw : Nat → Int32, F_68 wa = .inl (cs 16, 64, .inl fw) ∧ (∀ i, i < i1 → fw i = wdk (byt f nl) (b * 64 + i * 4) 4) ∧ F_68 sa = .inl (cs 16, 8, .inl f9) := hv_73
    refine W.eq (g2 := F0 m 39 ls []) rfl ?_
    have hF_75 : F_68 g1 = .inr (0, [.ref r1, .int (nI z), .int 0]) := (hR g1 (by rw [hT_g1]; simp only [List.mem_cons, List.not_mem_nil, or_false]; omega)).trans hF_69
    have hF_76 : F_68 r1 = .inl (cs 16, n1, .inl f) := (hR r1 (by rw [ht_8]; simp only [List.mem_cons, List.not_mem_nil, or_false]; omega)).trans hF_70
    obtain ⟨hp1, fw, hp2, hp3, hp4⟩ := id hv_73
    refine lv_iload hx hb dX8_sumOf_39 (lv_at hl 0 rfl) ?_
    refine lv_bipush (v := 16) hx hb dX8_sumOf_41 (by decide) ?_
    refine lv_icmp_ge (tgt := 74) hx hb dX8_sumOf_43 (by decide) (fun c_77 => ?_) (fun c_77 => ?_)
    ·
      have hi_78 : 16 ≤ i1 := leN (N := 16) c_77
      have hi6 : 16 ≤ i1 := (nI_leI (by omega) (by omega)).mp c_77
      have hF_81 : F g1 = .inr (0, [.ref r1, .int (nI z), .int 0]) := (hR g1 (by rw [hT_g1]; simp only [List.mem_cons, List.not_mem_nil, or_false]; omega)).symm.trans hF_75
      have hF_82 : F r1 = .inl (cs 16, n1, .inl f) := (hR r1 (by rw [ht_8]; simp only [List.mem_cons, List.not_mem_nil, or_false]; omega)).symm.trans hF_76
      refine W.widen (k := 0) (n := 0) (by omega) (by omega) ?_
      refine pl_cut (σ := Unit) A (dC, dI) cs ty L [ρ, τ] F 94 7 (fun u0 => [(5, .int (nI b)), (4, .int (nI ((nl + 72) / 64))), (0, .ref h0), (1, .ref g1), (2, .int (nI nl)), (3, .ref g2)]) (fun u0 => []) (fun u0 FF => ∃ fx : Nat → Int32, FF wa = .inl (cs 16, 64, .inl fx) ∧ (∀ i, i < 16 → fx i = wrb f nl b i) ∧ FF sa = .inl (cs 16, 8, .inl f9)) ?_ (fun jn_79 => ?_)
      ·
        rintro u0 F_80 hv_83 hO hR H locs hP hD hS ls hl
        have hl : lv_has ls 7 [(5, .int (nI b)), (4, .int (nI ((nl + 72) / 64))), (0, .ref h0), (1, .ref g1), (2, .int (nI nl)), (3, .ref g2)] := hl
        have hv_83 : ∃ fx : Nat → Int32, F_80 wa = .inl (cs 16, 64, .inl fx) ∧ (∀ i, i < 16 → fx i = wrb f nl b i) ∧ F_80 sa = .inl (cs 16, 8, .inl f9) := hv_83
        refine W.eq (g2 := F0 m 94 ls []) rfl ?_
        have hF_84 : F_80 g1 = .inr (0, [.ref r1, .int (nI z), .int 0]) := (hR g1 (by rw [hT_g1]; simp only [List.mem_cons, List.not_mem_nil, or_false]; omega)).trans hF_81
        have hF_85 : F_80 r1 = .inl (cs 16, n1, .inl f) := (hR r1 (by rw [ht_8]; simp only [List.mem_cons, List.not_mem_nil, or_false]; omega)).trans hF_82
        obtain ⟨fx, hq1, hq2, hq3⟩ := id hv_83
        refine lv_aload_n hx hb dX8_sumOf_94 rfl (lv_at hl 2 rfl) ?_
        have hFc := pg_free hD hS hA
        have hF_86 := hO.sha hL_h0 hT_h0
        refine va_callv (va_runV (As := []) (rest := []) ⟨hx, hb, hml, hown, hts⟩ (s_X8_mix_e l dC dI cs ty L H.size F_80 h0 ρ wa sa ta fx f9 hW hL_h0 hT_h0 hq1 hq3) ⟨callB_of 0 hts (gi kt_261) rfl rfl rfl (hts _ kt_250) (hts _ kt_262) (by decide +kernel) ⟨Nat.le_of_ble_eq_true rfl, Nat.le_of_ble_eq_true rfl⟩, (hts _ kt_263), (hts _ kt_264)⟩ ⟨fun a U g mk q => ⟨q.1, PTE.calling q.2⟩, pg_recv hK hP hL_h0 hF_86 (q := (RX8, TX8, 3)) rfl, fun U hU hWm => ⟨rfl, PTE.mk hU hWm hP hK hD hE hO hG (fun x hx => absurd hx List.not_mem_nil) hS hFc⟩⟩ rfl rfl hl.1 rfl (lv_room (Nat.le_of_ble_eq_true rfl)) dX8_sumOf_95 ⟨by show _ + 0 ≤ 0; omega, by show _ + 0 ≤ 0; omega⟩) hS (fun q _ h => hFc q h) hFc (fun u t H1 locs ht hvm hw hB hz1 hk1 hS => ?_)
        obtain ⟨F_88, f2_89, hB1, hq_90, hq_91⟩ := hB
        obtain ⟨hP, hD, hO, hR⟩ := QT.back hB1 ht hFc hR (fun q h => by simp only [List.mem_cons, List.not_mem_nil, or_false] at h ⊢; omega)
        have hF_92 : F_88 g1 = .inr (0, [.ref r1, .int (nI z), .int 0]) := (hB1.2.2.2 g1 (by rw [hT_g1]; simp only [List.mem_cons, List.not_mem_nil, or_false]; omega)).trans hF_84
        have hF_93 : F_88 r1 = .inl (cs 16, n1, .inl f) := (hB1.2.2.2 r1 (by rw [ht_8]; simp only [List.mem_cons, List.not_mem_nil, or_false]; omega)).trans hF_85
        generalize H1 = H at hP hS ⊢
        refine lv_iinc (v := (nI (b + 1))) (lv' := [(5, .int (nI (b + 1))), (4, .int (nI ((nl + 72) / 64))), (0, .ref h0), (1, .ref g1), (2, .int (nI nl)), (3, .ref g2)]) hx hb dX8_sumOf_98 hl (k := 0) rfl (nI_1 _) (by decide) rfl (fun ls hl => ?_)
        refine lv_goto (tgt := 29) hx hb dX8_sumOf_101 (by decide) ?_
        refine W.widen (k := 0) (n := 0) (by omega) (by omega) ?_
        exact ih_29 (b + 1) F_88 (⟨by omega, _, hq_90, st_up hq2 hv3 hq_91⟩) (by show ((nl + 72) / 64) - (b + 1) < ((nl + 72) / 64) - b; omega) hO hR _ _ hP hD hS ls (lv_sub hl [0, 1, 2, 3, 4, 5] rfl)
      ·
        have h16 : i1 = 16 := by omega
        subst h16
        refine lv_iload hx hb dX8_sumOf_74 (lv_at hl 1 rfl) ?_
        refine lv_iload hx hb dX8_sumOf_76 (lv_at hl 2 rfl) ?_
        refine lv_iconst (v := 1) hx hb dX8_sumOf_78 (by decide) ?_
        refine lv_isub hx hb dX8_sumOf_79 ?_
        refine lv_topi (fun x_94 ex_94 => ?_)
        obtain rfl : x_94 = (nI (((nl + 72) / 64) - 1)) := ex_94.trans (pk_sub (b := 1) (by omega))
        refine lv_icmp_ne (tgt := 94) hx hb dX8_sumOf_80 (by decide) (fun c_95 => ?_) (fun c_95 => ?_)
        ·
          have hbl : b + 1 ≠ ((nl + 72) / 64) := fun q => c_95 (by rw [← q]; rfl)
          refine W.widen (k := 0) (n := 0) (by omega) (by omega) ?_
          exact jn_79 () F_68 (⟨_, hp2, wr_n hp3 hbl, hp4⟩) hO hR _ _ hP hD hS ls (lv_sub hl [1, 2, 3, 4, 5, 6] rfl)
        ·
          have hbl : b + 1 = ((nl + 72) / 64) := by have h9 := (nI_eq (a := b) (b := ((nl + 72) / 64) - 1) (by omega) (by omega)).mp c_95; omega
          refine lv_aload_n hx hb dX8_sumOf_83 rfl (lv_at hl 3 rfl) ?_
          have hF_98 := hO.sha hL_h0 hT_h0
          refine pg_get (ci := 8) (v := .ref wa) (C := RX8) (T := TX8) (N := 3) hx hb hts it_8 hown hK hP hL_h0 hF_98 rfl 0 (by decide) (hts _ kt_246) (fun _ h9 => h9) rfl dX8_sumOf_84 ?_
          refine lv_bipush (v := 15) hx hb dX8_sumOf_87 (by decide) ?_
          refine lv_iload_n hx hb dX8_sumOf_89 rfl (lv_at hl 5 rfl) ?_
          refine lv_bipush (v := 8) hx hb dX8_sumOf_90 (by decide) ?_
          refine lv_imul hx hb dX8_sumOf_92 ?_
          refine lv_topi (fun x_99 ex_99 => ?_)
          obtain rfl : x_99 = (nI (nl * 8)) := ex_99.trans (pk_mul nl 8)
          refine pg_iast hx hb hK hP hD hS hi_1 0 hp2 rfl (show vp_in (15 : Int32) 64 from (show vp_in (nI 15) 64 from vp_in_nI (by omega) (by omega))) dX8_sumOf_93 (fun H locs hP hD hS => ?_)
          obtain ⟨F_100, he_101, hP, hD, hO, hR⟩ : ∃ G, G = va_up F_68 wa (.inl (cs 16, 64, .inl (upd fw (15 : Int32).toNatClampNeg ((nI (nl * 8)))))) ∧ va_P (dC, dI) vwCl (va_pl L G) H ∧ va_D A (va_pl L G) ∧ OK cs ty L G ∧ FR ty [ρ, τ] F G := ⟨_, rfl, hP, hD, hO.up (sh.ints ht_4 ⟨_, rfl⟩), hR.up ht_4 (by simp)⟩
          have hF_102 : F_100 wa = .inl (cs 16, 64, .inl (upd fw (15 : Int32).toNatClampNeg ((nI (nl * 8))))) := by rw [he_101]; exact up_self
          have hF_103 : F_100 g1 = .inr (0, [.ref r1, .int (nI z), .int 0]) := by rw [he_101, up_ne (ne_ty hT_g1 ht_4 (by simp))]; exact hF_75
          have hF_104 : F_100 r1 = .inl (cs 16, n1, .inl f) := by rw [he_101, up_ne (ne_ty3 ht_8 ht_4 (by show σ ≠ ρ; omega))]; exact hF_76
          have hF_105 : F_100 sa = .inl (cs 16, 8, .inl f9) := by rw [he_101, up_ne (ne_tyn ht_5 ht_4 (by simp))]; exact hp4
          have hF_106 : F_100 h0 = .inr (8, [.ref wa, .ref sa, .ref ta]) := by rw [he_101, up_ne (ne_ty hT_h0 ht_4 (by simp))]; exact hF_98
          have hF_107 : F_100 wa = .inl (cs 16, 64, .inl (upd fw 15 (nI (nl * 8)))) := by have h9 := hF_102; rwa [show (15 : Int32).toNatClampNeg = 15 by decide] at h9
          refine W.widen (k := 0) (n := 0) (by omega) (by omega) ?_
          exact jn_79 () F_100 (⟨_, hF_107, wr_y hp3 hbl, hF_105⟩) hO hR _ _ hP hD hS ls (lv_sub hl [1, 2, 3, 4, 5, 6] rfl)
    ·
      have hi_108 : i1 < 16 := ltN (N := 16) c_77
      have hi6 : i1 < 16 := Nat.not_le.mp (fun q => c_77 ((nI_leI (by omega) (by omega)).mpr q))
      refine lv_aload_n hx hb dX8_sumOf_46 rfl (lv_at hl 3 rfl) ?_
      have hF_109 := hO.sha hL_h0 hT_h0
      refine pg_get (ci := 8) (v := .ref wa) (C := RX8) (T := TX8) (N := 3) hx hb hts it_8 hown hK hP hL_h0 hF_109 rfl 0 (by decide) (hts _ kt_246) (fun _ h9 => h9) rfl dX8_sumOf_47 ?_
      refine lv_iload hx hb dX8_sumOf_50 (lv_at hl 0 rfl) ?_
      refine lv_aload_n hx hb dX8_sumOf_52 rfl (lv_at hl 4 rfl) ?_
      refine lv_iload_n hx hb dX8_sumOf_53 rfl (lv_at hl 5 rfl) ?_
      refine lv_iload hx hb dX8_sumOf_54 (lv_at hl 1 rfl) ?_
      refine lv_bipush (v := 64) hx hb dX8_sumOf_56 (by decide) ?_
      refine lv_imul hx hb dX8_sumOf_58 ?_
      refine lv_topi (fun x_110 ex_110 => ?_)
      obtain rfl : x_110 = (nI (b * 64)) := ex_110.trans (pk_mul b 64)
      refine lv_iload hx hb dX8_sumOf_59 (lv_at hl 0 rfl) ?_
      refine lv_iconst (v := 4) hx hb dX8_sumOf_61 (by decide) ?_
      refine lv_imul hx hb dX8_sumOf_62 ?_
      refine lv_topi (fun x_111 ex_111 => ?_)
      obtain rfl : x_111 = (nI (i1 * 4)) := ex_111.trans (pk_mul i1 4)
      refine lv_iadd hx hb dX8_sumOf_63 ?_
      refine lv_topi (fun x_112 ex_112 => ?_)
      obtain rfl : x_112 = (nI (b * 64 + i1 * 4)) := ex_112.trans (nI_add (b * 64) (i1 * 4))
      have hFc := pg_free hD hS hA
      refine va_calli (va_runS (As := [.ref g1, .int (nI nl), .int (nI (b * 64 + i1 * 4))]) (rest := [.int (nI i1), .ref wa]) ⟨hx, hb, hml, hown, hts⟩ (s_X8_wordAt_e l dC dI cs ty L H.size F_68 g1 σ r1 n1 z nl (b * 64 + i1 * 4) f hW hL_g1 hT_g1 hF_75 hF_76 (by omega) (by omega) (hnl) (by omega)) ⟨callB_of 3 hts (gi kt_265) rfl rfl rfl (hts _ kt_250) (hts _ kt_266) (by decide +kernel) ⟨Nat.le_of_ble_eq_true rfl, Nat.le_of_ble_eq_true rfl⟩, (hts _ kt_267)⟩ ⟨fun a U g mk q => ⟨q.1, PT.calling q.2⟩, fun U hU hWm => ⟨rfl, PT.mk hU hWm hP hK hD hE hO⟩⟩ rfl rfl hl.1 rfl (lv_room (Nat.le_of_ble_eq_true rfl)) dX8_sumOf_64 ⟨by show _ + 0 ≤ 0; omega, by show _ + 0 ≤ 0; omega⟩) hS (fun q _ h => hFc q h) hFc (fun r_113 u t H1 locs ht hvm hw hB hz1 hk1 hS => ?_)
      obtain ⟨F_114, hB1⟩ := hB
      obtain rfl : F_68 = F_114 := (funext (fun a => hB1.2.2.2 a List.not_mem_nil)).symm
      obtain ⟨hP, hD, hO, hR⟩ := QT.back hB1 ht hFc hR (fun q h => absurd h List.not_mem_nil)
      generalize H1 = H at hP hS ⊢
      have hw : r_113 = wdk (byt f nl) (b * 64 + i1 * 4) 4 := hw
      have hw_115 := hw
      subst hw_115
      refine pg_iast hx hb hK hP hD hS hi_1 0 hp2 rfl (vp_in_nI (by omega) (by omega)) dX8_sumOf_67 (fun H locs hP hD hS => ?_)
      obtain ⟨F_116, he_117, hP, hD, hO, hR⟩ : ∃ G, G = va_up F_68 wa (.inl (cs 16, 64, .inl (upd fw ((nI i1)).toNatClampNeg ((wdk (byt f nl) (b * 64 + i1 * 4) 4))))) ∧ va_P (dC, dI) vwCl (va_pl L G) H ∧ va_D A (va_pl L G) ∧ OK cs ty L G ∧ FR ty [ρ, τ] F G := ⟨_, rfl, hP, hD, hO.up (sh.ints ht_4 ⟨_, rfl⟩), hR.up ht_4 (by simp)⟩
      have hF_118 : F_116 wa = .inl (cs 16, 64, .inl (upd fw ((nI i1)).toNatClampNeg ((wdk (byt f nl) (b * 64 + i1 * 4) 4)))) := by rw [he_117]; exact up_self
      have hF_119 : F_116 g1 = .inr (0, [.ref r1, .int (nI z), .int 0]) := by rw [he_117, up_ne (ne_ty hT_g1 ht_4 (by simp))]; exact hF_75
      have hF_120 : F_116 r1 = .inl (cs 16, n1, .inl f) := by rw [he_117, up_ne (ne_ty3 ht_8 ht_4 (by show σ ≠ ρ; omega))]; exact hF_76
      have hF_121 : F_116 sa = .inl (cs 16, 8, .inl f9) := by rw [he_117, up_ne (ne_tyn ht_5 ht_4 (by simp))]; exact hp4
      have hF_122 : F_116 h0 = .inr (8, [.ref wa, .ref sa, .ref ta]) := by rw [he_117, up_ne (ne_ty hT_h0 ht_4 (by simp))]; exact hF_109
      have hF_123 : F_116 wa = .inl (cs 16, 64, .inl (upd fw i1 (wdk (byt f nl) (b * 64 + i1 * 4) 4))) := by have h9 := hF_118; rwa [nI_clamp (by omega)] at h9
      refine lv_iinc (v := (nI (i1 + 1))) (lv' := [(6, .int (nI (i1 + 1))), (5, .int (nI b)), (4, .int (nI ((nl + 72) / 64))), (0, .ref h0), (1, .ref g1), (2, .int (nI nl)), (3, .ref g2)]) hx hb dX8_sumOf_68 hl (k := 0) rfl (nI_1 _) (by decide) rfl (fun ls hl => ?_)
      refine lv_goto (tgt := 39) hx hb dX8_sumOf_71 (by decide) ?_
      refine W.widen (k := 0) (n := 0) (by omega) (by omega) ?_
      exact ih_74 (i1 + 1) F_116 (⟨by omega, _, hF_123, wr_in hp3, hF_121⟩) (by show 16 - (i1 + 1) < 16 - i1; omega) hO hR _ _ hP hD hS ls (lv_sub hl [0, 1, 2, 3, 4, 5, 6] rfl)
noncomputable def lnW (T : Nat → Nat) (g : Nat → Nat → Nat) (n N : Nat) : Nat := match tgM T g (tgR T g [108] n) with
  | none => N
  | some w => w
theorem lnW_n {T : Nat → Nat} {g : Nat → Nat → Nat} {n N : Nat} (h : tgR T g [108] n = none) : lnW T g n N = N := by
  unfold lnW
  rw [h]
  rfl
theorem lnW_s {T : Nat → Nat} {g : Nat → Nat → Nat} {n N w : Nat} (h : tgM T g (tgR T g [108] n) = some w) : lnW T g n N = w := by
  unfold lnW
  rw [h]
theorem nom_s {T : Nat → Nat} {g : Nat → Nat → Nat} {n : Nat} {l : List Nat} (h : NOM T g n l) (hh : TGE T g n l) : ∃ w, tgM T g (tgR T g l n) = some w ∧ w < 1000000000 := by
  rcases h with h | h
  · exact absurd h (tge_R.mp hh)
  · cases e : tgM T g (tgR T g l n) with
    | none => exact absurd e h
    | some w => exact ⟨w, rfl, tgM_lt w e⟩
def shN (f : Nat → Int32) (n : Nat) : Nat → Nat := dgN (stt f n ((n + 72) / 64))
def BHO (T : Nat → Nat) (g : Nat → Nat → Nat) (n N : Nat) (fo : Nat → Int32) : Prop := lnW T g n N ≤ N ∧ ∀ j, j < 32 → shN fo (lnW T g n N) j = dcB T (tgA g (tgR T g [98, 104] n)) 32 j
theorem byq_iff {x y : Int32} {c d : Nat} (hx : x = nI c) (hy : y = nI d) (hc : c < 256) (hd : d < 256) : x = y ↔ c = d := by
  rw [hx, hy]
  exact ⟨fun q => (nI_eq (by omega) (by omega)).mp q, fun q => by rw [q]⟩
theorem by_all {f g : Nat → Int32} {b c : Nat → Nat} {n : Nat} (hf : BYT b n f) (hg : BYT c n g) : (∀ j, j < n → f j = g j) ↔ ∀ j, j < n → b j = c j := by
  constructor
  · intro h j hj
    exact (byq_iff (hf j hj).2 (hg j hj).2 (hf j hj).1 (hg j hj).1).mp (h j hj)
  · intro h j hj
    exact (byq_iff (hf j hj).2 (hg j hj).2 (hf j hj).1 (hg j hj).1).mpr (h j hj)
theorem sh_byt {f f2 : Nat → Int32} {n : Nat} (h : ∀ j, j < 32 → f2 j = dgb (stt f n ((n + 72) / 64)) j) : BYT (shN f n) 32 f2 := fun j hj => ⟨dgN_lt _ _, (h j hj).trans (dgb_N _ _)⟩
set_option maxHeartbeats 4000000 in
set_option maxRecDepth 100000 in
theorem s_X7_isBodyRight_e (l : Launch) (dC : Nat → ClassId) (dI : Nat → Nat → Nat) (cs : Nat → ClassId) (ty : TyM) (L : List Nat) (sz : Nat) (F : Nat → va_E) (h0 : Nat) (ρ : Nat) (d : Nat) (δ : Nat) (ea : Nat) (sl : Nat) (sx : Nat) (sy0 : Nat) (sy1 : Nat) (sy2 : Nat) (ke : Nat) (kx : Nat) (ky0 : Nat) (ky1 : Nat) (ky2 : Nat) (w0 : Nat) (w1 : Nat) (w2 : Nat) (w3 : Nat) (w4 : Nat) (w5 : Nat) (w6 : Nat) (w7 : Nat) (w8 : Nat) (tk : Nat) (hs : Nat) (ha : Nat) (hbb : Nat) (hcc : Nat) (pw : Nat) (px : Nat) (py : Nat) (pz : Nat) (pu : Nat) (rsx : Nat) (z : Nat) (nn : Nat) (f : Nat → Int32) (e0 : Nat → Int32) (e1 : Nat → Int32) (e2 : Nat → Int32) (gq : Nat → Nat → Nat) (v0 : Int32) (v1 : Int32) (mg : Nat) (μ : Nat) (mx : Nat) (m0 : Nat) (m1 : Nat) (m2 : Nat) (rm : Nat) (zm : Nat) (nm : Nat) (bs : Nat) (rw2 : Nat) (rw5 : Nat) (rw8 : Nat) (fm : Nat → Int32) (a0 : Nat → Int32) (a1 : Nat → Int32) (a2 : Nat → Int32) (fb : Nat → Int32) (hW : WT ty L) (hL_h0 : h0 ∈ L) (hT_h0 : ty h0 = (7, ρ, [d, δ, ea, sl, sx, sy0, sy1, sy2, ke, kx, ky0, ky1, ky2, w0, w1, w2, w3, w4, w5, w6, w7, w8, tk, hs, ha, hbb, hcc, pw, px, py, pz, pu])) (hL_sx : sx ∈ L) (hT_sx : ty sx = (0, ρ + 3, [rsx, 3000])) (hL_w2 : w2 ∈ L) (hT_w2 : ty w2 = (0, ρ + 84, [rw2, 32])) (hL_w5 : w5 ∈ L) (hT_w5 : ty w5 = (0, ρ + 87, [rw5, 32])) (hL_w8 : w8 ∈ L) (hT_w8 : ty w8 = (0, ρ + 90, [rw8, 6100])) (hL_mg : mg ∈ L) (hT_mg : ty mg = (4, μ, [mx, m0, m1, m2])) (hL_mx : mx ∈ L) (hT_mx : ty mx = (0, μ + 1, [rm, 3000])) (hFs : F h0 = .inr (7, [.ref d, .ref sl, .ref ke, .ref w0, .ref w1, .ref w2, .ref w3, .ref w4, .ref w5, .ref w6, .ref w7, .ref w8, .ref tk, .ref hs, .ref pw, .int v0, .int v1])) (hFl : F sl = .inr (9, [.ref sx, .ref sy0, .ref sy1, .ref sy2, .int (nI nn)])) (hFx : F sx = .inr (0, [.ref rsx, .int (nI z), .int 0])) (hFr : F rsx = .inl (cs 16, 3000, .inl f)) (hFy0 : F sy0 = .inl (cs 16, 40, .inl e0)) (hFy1 : F sy1 = .inl (cs 16, 40, .inl e1)) (hFy2 : F sy2 = .inl (cs 16, 40, .inl e2)) (hzn : z ≤ 3000) (hcn : nn ≤ 40) (hhl : HLD e0 e1 e2 nn gq) (hTG : TGI z nn gq) (hFe : F mg = .inr (4, [.ref mx, .ref m0, .ref m1, .ref m2, .int (nI nm), .int (nI bs)])) (hFrm : F rm = .inl (cs 16, 3000, .inl fm)) (hFm0 : F m0 = .inl (cs 16, 20, .inl a0)) (hFm1 : F m1 = .inl (cs 16, 20, .inl a1)) (hFm2 : F m2 = .inl (cs 16, 20, .inl a2)) (hz3 : zm ≤ 3000) (hn20 : nm ≤ 20) (hFxm : F mx = .inr (0, [.ref rm, .int (nI zm), .int 0])) (hbs : bs ≤ zm) (hmu : μ = ρ + 13 ∨ μ = ρ + 23) (hNl : NOM (TC f z) gq nn [108]) (hF2 : F w2 = .inr (0, [.ref rw2, .int (nI 32), .int 0])) (hFr2 : F rw2 = .inl (cs 16, 32, .inl fb)) (hBY : BYT (dcB (TC f z) (tgA gq (tgR (TC f z) gq [98, 104] nn)) 32) 32 fb) : Met l yX7_isBodyRight (.code yX7_isBodyRight cX7_isBodyRight 3 (some .boolean) :: tb) ({ frames := 7, cells := 0, slots := 0, locals := 153 }) (va_Pc [.ref h0, .ref mg] (PTE (dC, dI) cs ty L F sz [])) (va_Qi (fun (r : Int32) (gB : Nat × (Nat → Int32)) => (r = 1 ∧ BHO (TC f z) gq nn gB.1 gB.2) ∨ (r = 0 ∧ ¬ BHO (TC f z) gq nn gB.1 gB.2)) (fun (gB : Nat × (Nat → Int32)) T9 => ∃ F2 : Nat → va_E, QT (dC, dI) cs ty L [ρ + 6, ρ + 87, ρ + 90] F F2 (va_A (va_pl L F) sz) T9 ∧ BDC (evs fm) (clf fm) v1 bs zm gB.1 gB.2) (va_A (va_pl L F) sz)) 0 0 (va_A (va_pl L F) sz) := by
  refine Met.ofW (cc := cX7_isBodyRight) (maxL := 3) (ret := (some .boolean)) (by decide) rfl ?_
  intro p e s m args below meth c s₁ B hml hv
  obtain ⟨rfl, ⟨hsz, hP, hK, hD0, hE, hO⟩, hG, hX⟩ := hv
  have hx := B.exec
  have hb := B.bytes
  have hr := B.returns
  have hts : ∀ w ∈ tb, w.before _ s = true := fun w h => atoms_spec (ws := .code yX7_isBodyRight cX7_isBodyRight 3 (some .boolean) :: tb) B.pre w (List.mem_cons_of_mem _ h)
  have hown : s.vm.findClass RX7 = some m.cls := findClass_of_methodNamed B.named
  have hlocks := B.notSynchronized
  subst hsz
  have hD := hD0.self (sz := s.heap.size)
  generalize hAe : va_A (va_pl L F) s.heap.size = A at hD hG hX ⊢
  have hA : ∀ q : Nat, s.heap.size ≤ q → A q := fun q h => by rw [← hAe]; exact Or.inr h
  have hS : va_S A s.heap s.heap [] := va_S.rf
  have hR : FR ty [ρ + 6, ρ + 87, ρ + 90] F F := FR.refl
  have hl := lv_entry ([.ref h0, .ref mg]) (n := 3) (Nat.le_of_ble_eq_true rfl)
  rw [lg_entry_eq]
  generalize (lg_sl ([.ref h0, .ref mg]) ++ List.replicate (3 - (lg_sl ([.ref h0, .ref mg])).length) Slot.unset).toArray = ls at hl ⊢
  have hl : lv_has ls 3 [(0, .ref h0), (1, .ref mg)] := hl
  obtain ⟨hi_1, ht_2, hi_3, ht_4, hi_5, ht_6, hi_7, ⟨r_8, ht_9⟩, hi_10, ⟨r_11, ht_12⟩, _, _, hi_13, ⟨r_14, ht_15⟩, hi_16, ⟨r_17, ht_18⟩, _, _, hi_19, ⟨r_20, ht_21⟩, hi_22, ⟨r_23, ht_24⟩, _, _, hi_25, ht_26, hi_27, ht_28, hi_29, ht_30⟩ := hW.slr hL_h0 hT_h0
  obtain ⟨_, hi_31, hi_32, hi_33, _, ht_34, ht_35, ht_36⟩ := hW.tags hi_3 ht_4
  have ht_35 : ty sy1 = (24, ρ + 72, [40]) := ht_35
  have ht_36 : ty sy2 = (24, ρ + 73, [40]) := ht_36
  obtain ⟨hi_37, ht_38, hq_39⟩ := hW.bytes hL_sx hT_sx
  obtain ⟨hi_40, ht_41, hq_42⟩ := hW.bytes hL_w2 hT_w2
  obtain ⟨hi_43, ht_44, hq_45⟩ := hW.bytes hL_w5 hT_w5
  obtain ⟨hi_46, ht_47, hq_48⟩ := hW.bytes hL_w8 hT_w8
  obtain ⟨_, hi_49, hi_50, hi_51, _, ht_52, ht_53, ht_54⟩ := hW.msg hL_mg hT_mg
  obtain ⟨hi_55, ht_56, hq_57⟩ := hW.bytes hL_mx hT_mx
  obtain ⟨hi_58, hi_59, hi_60, ht_61, ht_62, ht_63⟩ := hW.sha hi_27 ht_28
  refine lv_aload_n hx hb dX7_isBodyRight_0 rfl (lv_at hl 0 rfl) ?_
  refine pg_get (ci := 7) (v := .ref w8) (C := RX7) (T := TX7) (N := 17) hx hb hts it_7 hown hK hP hL_h0 hFs rfl 11 (by decide) (hts _ kt_391) (fun _ h9 => h9) rfl dX7_isBodyRight_1 ?_
  have hFc := pg_free hD hS hA
  obtain ⟨z_64, o_65, hF_66, hq_67, hq_68⟩ := hO.bytes hL_w8 hT_w8
  refine va_callv (va_runV (As := []) (rest := []) ⟨hx, hb, hml, hown, hts⟩ (s_X0_clear l dC dI cs ty L s.heap.size F w8 (ρ + 90) rw8 6100 hW hL_w8 hT_w8) ⟨callB_of 0 hts (gi kt_32) rfl rfl rfl (hts _ kt_1) (hts _ kt_361) (by decide +kernel) ⟨Nat.le_of_ble_eq_true rfl, Nat.le_of_ble_eq_true rfl⟩, (hts _ kt_34), (hts _ kt_35)⟩ ⟨fun a U g mk q => ⟨q.1, PT.calling q.2⟩, pg_recv hK hP hL_w8 hF_66 (q := (RX0, TX0, 3)) rfl, fun U hU hWm => ⟨rfl, PT.mk hU hWm hP hK hD hE hO⟩⟩ rfl rfl hl.1 rfl (lv_room (Nat.le_of_ble_eq_true rfl)) dX7_isBodyRight_4 ⟨by show _ + 0 ≤ 0; omega, by show _ + 0 ≤ 0; omega⟩) hS (fun q _ h => hFc q h) hFc (fun u t H1 locs ht hvm hw hB hz1 hk1 hS => ?_)
  obtain ⟨F_70, hB1, hq_71⟩ := hB
  obtain ⟨hP, hD, hO, hR⟩ := QT.back hB1 ht hFc hR (fun q h => by simp only [List.mem_cons, List.not_mem_nil, or_false] at h ⊢; omega)
  have hF_72 : F_70 h0 = .inr (7, [.ref d, .ref sl, .ref ke, .ref w0, .ref w1, .ref w2, .ref w3, .ref w4, .ref w5, .ref w6, .ref w7, .ref w8, .ref tk, .ref hs, .ref pw, .int v0, .int v1]) := (hB1.2.2.2 h0 (by rw [hT_h0]; simp)).trans hFs
  have hF_73 : F_70 sl = .inr (9, [.ref sx, .ref sy0, .ref sy1, .ref sy2, .int (nI nn)]) := (hB1.2.2.2 sl (by rw [ht_4]; simp)).trans hFl
  have hF_74 : F_70 sx = .inr (0, [.ref rsx, .int (nI z), .int 0]) := (hB1.2.2.2 sx (by rw [hT_sx]; simp)).trans hFx
  have hF_75 : F_70 rsx = .inl (cs 16, 3000, .inl f) := (hB1.2.2.2 rsx (by rw [ht_38]; simp)).trans hFr
  have hF_76 : F_70 sy0 = .inl (cs 16, 40, .inl e0) := (hB1.2.2.2 sy0 (by rw [ht_34]; simp)).trans hFy0
  have hF_77 : F_70 sy1 = .inl (cs 16, 40, .inl e1) := (hB1.2.2.2 sy1 (by rw [ht_35]; simp)).trans hFy1
  have hF_78 : F_70 sy2 = .inl (cs 16, 40, .inl e2) := (hB1.2.2.2 sy2 (by rw [ht_36]; simp)).trans hFy2
  have hF_79 : F_70 mg = .inr (4, [.ref mx, .ref m0, .ref m1, .ref m2, .int (nI nm), .int (nI bs)]) := (hB1.2.2.2 mg (by rw [hT_mg]; simp only [List.mem_cons, List.not_mem_nil, or_false]; omega)).trans hFe
  have hF_80 : F_70 rm = .inl (cs 16, 3000, .inl fm) := (hB1.2.2.2 rm (by rw [ht_56]; simp only [List.mem_cons, List.not_mem_nil, or_false]; omega)).trans hFrm
  have hF_81 : F_70 m0 = .inl (cs 16, 20, .inl a0) := (hB1.2.2.2 m0 (by rw [ht_52]; simp only [List.mem_cons, List.not_mem_nil, or_false]; omega)).trans hFm0
  have hF_82 : F_70 m1 = .inl (cs 16, 20, .inl a1) := (hB1.2.2.2 m1 (by rw [ht_53]; simp only [List.mem_cons, List.not_mem_nil, or_false]; omega)).trans hFm1
  have hF_83 : F_70 m2 = .inl (cs 16, 20, .inl a2) := (hB1.2.2.2 m2 (by rw [ht_54]; simp only [List.mem_cons, List.not_mem_nil, or_false]; omega)).trans hFm2
  have hF_84 : F_70 mx = .inr (0, [.ref rm, .int (nI zm), .int 0]) := (hB1.2.2.2 mx (by rw [hT_mx]; simp only [List.mem_cons, List.not_mem_nil, or_false]; omega)).trans hFxm
  have hF_85 : F_70 w2 = .inr (0, [.ref rw2, .int (nI 32), .int 0]) := (hB1.2.2.2 w2 (by rw [hT_w2]; simp)).trans hF2
  have hF_86 : F_70 rw2 = .inl (cs 16, 32, .inl fb) := (hB1.2.2.2 rw2 (by rw [ht_41]; simp)).trans hFr2
  generalize H1 = H at hP hS ⊢
  obtain ⟨f_87, hF_88⟩ := hO.ints hi_46 ht_47
  refine lv_aload_n hx hb dX7_isBodyRight_7 rfl (lv_at hl 1 rfl) ?_
  refine lv_aload_n hx hb dX7_isBodyRight_8 rfl (lv_at hl 0 rfl) ?_
  refine pg_get (ci := 7) (v := .ref w8) (C := RX7) (T := TX7) (N := 17) hx hb hts it_7 hown hK hP hL_h0 hF_72 rfl 11 (by decide) (hts _ kt_391) (fun _ h9 => h9) rfl dX7_isBodyRight_9 ?_
  refine lv_aload_n hx hb dX7_isBodyRight_12 rfl (lv_at hl 0 rfl) ?_
  refine pg_get (ci := 7) (v := .int v1) (C := RX7) (T := TX7) (N := 17) hx hb hts it_7 hown hK hP hL_h0 hF_72 rfl 16 (by decide) (hts _ kt_327) (fun _ h9 => h9) rfl dX7_isBodyRight_13 ?_
  have hFc := pg_free hD hS hA
  refine va_callv (va_runV (As := [.ref w8, .int v1]) (rest := []) ⟨hx, hb, hml, hown, hts⟩ (s_X4_addBody_c l dC dI cs ty L H.size F_70 mg μ mx m0 m1 m2 w8 (ρ + 90) rw8 6100 rm zm nm bs fm f_87 0 v1 hW hL_mg hT_mg hL_mx hT_mx hL_w8 hT_w8 hF_79 hF_84 hF_80 hq_71 hF_88 (hbs) (hz3) (by omega) (by omega) (by omega)) ⟨callB_of 2 hts (gi kt_392) rfl rfl rfl (hts _ kt_211) (hts _ kt_393) (by decide +kernel) ⟨Nat.le_of_ble_eq_true rfl, Nat.le_of_ble_eq_true rfl⟩, (hts _ kt_394), (hts _ kt_395)⟩ ⟨fun a U g mk q => ⟨q.1, PT.calling q.2⟩, pg_recv hK hP hL_mg hF_79 (q := (RX4, TX4, 6)) rfl, fun U hU hWm => ⟨rfl, PT.mk hU hWm hP hK hD hE hO⟩⟩ rfl rfl hl.1 rfl (lv_room (Nat.le_of_ble_eq_true rfl)) dX7_isBodyRight_16 ⟨by show _ + 0 ≤ 0; omega, by show _ + 0 ≤ 0; omega⟩) hS (fun q _ h => hFc q h) hFc (fun u t H1 locs ht hvm hw hB hz1 hk1 hS => ?_)
  obtain ⟨F_90, NN_91, fo2_92, hB1, hq_93, hq_94, hq_95, hq_96⟩ := hB
  obtain ⟨hP, hD, hO, hR⟩ := QT.back hB1 ht hFc hR (fun q h => by simp only [List.mem_cons, List.not_mem_nil, or_false] at h ⊢; omega)
  have hF_97 : F_90 h0 = .inr (7, [.ref d, .ref sl, .ref ke, .ref w0, .ref w1, .ref w2, .ref w3, .ref w4, .ref w5, .ref w6, .ref w7, .ref w8, .ref tk, .ref hs, .ref pw, .int v0, .int v1]) := (hB1.2.2.2 h0 (by rw [hT_h0]; simp)).trans hF_72
  have hF_98 : F_90 sl = .inr (9, [.ref sx, .ref sy0, .ref sy1, .ref sy2, .int (nI nn)]) := (hB1.2.2.2 sl (by rw [ht_4]; simp)).trans hF_73
  have hF_99 : F_90 sx = .inr (0, [.ref rsx, .int (nI z), .int 0]) := (hB1.2.2.2 sx (by rw [hT_sx]; simp)).trans hF_74
  have hF_100 : F_90 rsx = .inl (cs 16, 3000, .inl f) := (hB1.2.2.2 rsx (by rw [ht_38]; simp)).trans hF_75
  have hF_101 : F_90 sy0 = .inl (cs 16, 40, .inl e0) := (hB1.2.2.2 sy0 (by rw [ht_34]; simp)).trans hF_76
  have hF_102 : F_90 sy1 = .inl (cs 16, 40, .inl e1) := (hB1.2.2.2 sy1 (by rw [ht_35]; simp)).trans hF_77
  have hF_103 : F_90 sy2 = .inl (cs 16, 40, .inl e2) := (hB1.2.2.2 sy2 (by rw [ht_36]; simp)).trans hF_78
  have hF_104 : F_90 mg = .inr (4, [.ref mx, .ref m0, .ref m1, .ref m2, .int (nI nm), .int (nI bs)]) := (hB1.2.2.2 mg (by rw [hT_mg]; simp only [List.mem_cons, List.not_mem_nil, or_false]; omega)).trans hF_79
  have hF_105 : F_90 rm = .inl (cs 16, 3000, .inl fm) := (hB1.2.2.2 rm (by rw [ht_56]; simp only [List.mem_cons, List.not_mem_nil, or_false]; omega)).trans hF_80
  have hF_106 : F_90 m0 = .inl (cs 16, 20, .inl a0) := (hB1.2.2.2 m0 (by rw [ht_52]; simp only [List.mem_cons, List.not_mem_nil, or_false]; omega)).trans hF_81
  have hF_107 : F_90 m1 = .inl (cs 16, 20, .inl a1) := (hB1.2.2.2 m1 (by rw [ht_53]; simp only [List.mem_cons, List.not_mem_nil, or_false]; omega)).trans hF_82
  have hF_108 : F_90 m2 = .inl (cs 16, 20, .inl a2) := (hB1.2.2.2 m2 (by rw [ht_54]; simp only [List.mem_cons, List.not_mem_nil, or_false]; omega)).trans hF_83
  have hF_109 : F_90 mx = .inr (0, [.ref rm, .int (nI zm), .int 0]) := (hB1.2.2.2 mx (by rw [hT_mx]; simp only [List.mem_cons, List.not_mem_nil, or_false]; omega)).trans hF_84
  have hF_110 : F_90 w2 = .inr (0, [.ref rw2, .int (nI 32), .int 0]) := (hB1.2.2.2 w2 (by rw [hT_w2]; simp)).trans hF_85
  have hF_111 : F_90 rw2 = .inl (cs 16, 32, .inl fb) := (hB1.2.2.2 rw2 (by rw [ht_41]; simp)).trans hF_86
  generalize H1 = H at hP hS ⊢
  have hBD := hq_96
  have hNN := bdc_le hBD
  refine lv_aload_n hx hb dX7_isBodyRight_19 rfl (lv_at hl 0 rfl) ?_
  refine pg_get (ci := 7) (v := .ref sl) (C := RX7) (T := TX7) (N := 17) hx hb hts it_7 hown hK hP hL_h0 hF_97 rfl 1 (by decide) (hts _ kt_307) (fun _ h9 => h9) rfl dX7_isBodyRight_20 ?_
  obtain ⟨q_112, v_113, hr_q_112, hXc_q_112⟩ := hG.2.2.2.2 ("PostGate$Sealer", 185, "l", [108]) (by decide +kernel)
  have hXc_q_112 : SXc q_112 v_113 1 (cct [108]) A s s.heap := hXc_q_112
  have hX_q_112 : SX q_112 v_113 1 A s s.heap := hXc_q_112.sx
  obtain ⟨xo_q_112, xc_q_112, xv_q_112, xt_q_112, xn_q_112⟩ := id hXc_q_112
  have hr_q_112 : vk_R "PostGate$Sealer" 185 "l" q_112 s := hr_q_112
  refine va_ldcS hx hb hown hr_q_112 dX7_isBodyRight_23 ?_
  have hFc := pg_free hD hS hA
  refine va_calli (va_runV (As := [.ref q_112]) (rest := []) ⟨hx, hb, hml, hown, hts⟩ (s_X9_has_e l dC dI cs ty L H.size F_90 sl (ρ + 2) sx 3000 sy0 sy1 sy2 rsx z nn f e0 e1 e2 gq q_112 v_113 1 (cct [108]) ([108]) hW hi_3 ht_4 hL_sx hT_sx hF_98 hF_99 hF_100 hF_101 hF_102 hF_103 (hzn) (by omega) (hcn) (hhl) (hTG) (⟨rfl, by decide +kernel⟩)) ⟨callB_of 1 hts (gi kt_308) rfl rfl rfl (hts _ kt_164) (hts _ kt_309) (by decide +kernel) ⟨Nat.le_of_ble_eq_true rfl, Nat.le_of_ble_eq_true rfl⟩, (hts _ kt_310), (hts _ kt_311)⟩ ⟨fun a U g mk q => ⟨q.1, PTC.calling q.2⟩, pg_recv hK hP hi_3 hF_98 (q := (RX9, TX9, 5)) rfl, fun U hU hWm => ⟨rfl, PTC.mk hU hWm hP hK hD hE hO hG hXc_q_112 hS hFc⟩⟩ rfl rfl hl.1 rfl (lv_room (Nat.le_of_ble_eq_true rfl)) dX7_isBodyRight_25 ⟨by show _ + 0 ≤ 0; omega, by show _ + 0 ≤ 0; omega⟩) hS (fun q _ h => hFc q h) hFc (fun r_114 u t H1 locs ht hvm hw hB hz1 hk1 hS => ?_)
  obtain ⟨F_115, hB1⟩ := hB
  obtain rfl : F_90 = F_115 := (funext (fun a => hB1.2.2.2 a List.not_mem_nil)).symm
  obtain ⟨hP, hD, hO, hR⟩ := QT.back hB1 ht hFc hR (fun q h => absurd h List.not_mem_nil)
  generalize H1 = H at hP hS ⊢
  have hw : (r_114 = 1 ∧ TGE (TC f z) gq nn [108]) ∨ (r_114 = 0 ∧ ¬ TGE (TC f z) gq nn [108]) := hw
  have hw_116 := hw
  refine lv_if_eq (tgt := 43) hx hb dX7_isBodyRight_28 (by decide) (fun c_117 => ?_) (fun c_117 => ?_)
  ·
    refine lv_aload_n hx hb dX7_isBodyRight_43 rfl (lv_at hl 0 rfl) ?_
    refine pg_get (ci := 7) (v := .ref w8) (C := RX7) (T := TX7) (N := 17) hx hb hts it_7 hown hK hP hL_h0 hF_97 rfl 11 (by decide) (hts _ kt_391) (fun _ h9 => h9) rfl dX7_isBodyRight_44 ?_
    refine pg_getN (ci := 0) (v := .int (nI NN_91)) (C := RX0) (T := TX0) (N := 3) hx hb hts it_0 hown hK hP hL_w8 hq_93 rfl 1 (by decide) (hE.nest kn_11) (fun _ h9 => h9) rfl dX7_isBodyRight_47 ?_
    refine lv_istore_n (lv' := [(2, .int (nI NN_91)), (0, .ref h0), (1, .ref mg)]) hx hb dX7_isBodyRight_50 rfl hl (by decide) rfl (fun ls hl => ?_)
    have hln : lnW (TC f z) gq nn NN_91 = NN_91 := lnW_n (nom_h (orp0 hw_116 c_117))
    refine lv_iload_n hx hb dX7_isBodyRight_51 rfl (lv_at hl 0 rfl) ?_
    refine lv_aload_n hx hb dX7_isBodyRight_52 rfl (lv_at hl 1 rfl) ?_
    refine pg_get (ci := 7) (v := .ref w8) (C := RX7) (T := TX7) (N := 17) hx hb hts it_7 hown hK hP hL_h0 hF_97 rfl 11 (by decide) (hts _ kt_391) (fun _ h9 => h9) rfl dX7_isBodyRight_53 ?_
    refine pg_getN (ci := 0) (v := .int (nI NN_91)) (C := RX0) (T := TX0) (N := 3) hx hb hts it_0 hown hK hP hL_w8 hq_93 rfl 1 (by decide) (hE.nest kn_11) (fun _ h9 => h9) rfl dX7_isBodyRight_56 ?_
    refine lv_icmp_le (tgt := 64) hx hb dX7_isBodyRight_59 (by decide) (fun c_118 => ?_) (fun c_118 => ?_)
    ·
      have hlN : NN_91 ≤ NN_91 := (nI_leI (by omega) (by omega)).mp c_118
      refine lv_aload_n hx hb dX7_isBodyRight_64 rfl (lv_at hl 1 rfl) ?_
      refine pg_get (ci := 7) (v := .ref hs) (C := RX7) (T := TX7) (N := 17) hx hb hts it_7 hown hK hP hL_h0 hF_97 rfl 13 (by decide) (hts _ kt_396) (fun _ h9 => h9) rfl dX7_isBodyRight_65 ?_
      refine lv_aload_n hx hb dX7_isBodyRight_68 rfl (lv_at hl 1 rfl) ?_
      refine pg_get (ci := 7) (v := .ref w8) (C := RX7) (T := TX7) (N := 17) hx hb hts it_7 hown hK hP hL_h0 hF_97 rfl 11 (by decide) (hts _ kt_391) (fun _ h9 => h9) rfl dX7_isBodyRight_69 ?_
      refine lv_iload_n hx hb dX7_isBodyRight_72 rfl (lv_at hl 0 rfl) ?_
      refine lv_aload_n hx hb dX7_isBodyRight_73 rfl (lv_at hl 1 rfl) ?_
      refine pg_get (ci := 7) (v := .ref w5) (C := RX7) (T := TX7) (N := 17) hx hb hts it_7 hown hK hP hL_h0 hF_97 rfl 8 (by decide) (hts _ kt_364) (fun _ h9 => h9) rfl dX7_isBodyRight_74 ?_
      have hFc := pg_free hD hS hA
      have hF_120 := hO.sha hi_27 ht_28
      refine va_callv (va_runV (As := [.ref w8, .int (nI NN_91), .ref w5]) (rest := []) ⟨hx, hb, hml, hown, hts⟩ (s_X8_sumOf_l l dC dI cs ty L H.size F_90 hs (ρ + 6) ha hbb hcc w8 (ρ + 90) rw8 6100 w5 (ρ + 87) rw5 32 NN_91 NN_91 fo2_92 hW hi_27 ht_28 hL_w8 hT_w8 hL_w5 hT_w5 (by omega) hq_93 hq_95 (by omega) (by omega) (hlN) (by omega) (by omega) (by omega) (by omega) (by omega)) ⟨callB_of 3 hts (gi kt_397) rfl rfl rfl (hts _ kt_250) (hts _ kt_398) (by decide +kernel) ⟨Nat.le_of_ble_eq_true rfl, Nat.le_of_ble_eq_true rfl⟩, (hts _ kt_399), (hts _ kt_400)⟩ ⟨fun a U g mk q => ⟨q.1, PTE.calling q.2⟩, pg_recv hK hP hi_27 hF_120 (q := (RX8, TX8, 3)) rfl, fun U hU hWm => ⟨rfl, PTE.mk hU hWm hP hK hD hE hO hG (fun x hx => absurd hx List.not_mem_nil) hS hFc⟩⟩ rfl rfl hl.1 rfl (lv_room (Nat.le_of_ble_eq_true rfl)) dX7_isBodyRight_77 ⟨by show _ + 0 ≤ 0; omega, by show _ + 0 ≤ 0; omega⟩) hS (fun q _ h => hFc q h) hFc (fun u t H1 locs ht hvm hw hB hz1 hk1 hS => ?_)
      obtain ⟨F_122, f2_123, hB1, hq_124, hq_125, hq_126⟩ := hB
      obtain ⟨hP, hD, hO, hR⟩ := QT.back hB1 ht hFc hR (fun q h => by simp only [List.mem_cons, List.not_mem_nil, or_false] at h ⊢; omega)
      have hF_127 : F_122 h0 = .inr (7, [.ref d, .ref sl, .ref ke, .ref w0, .ref w1, .ref w2, .ref w3, .ref w4, .ref w5, .ref w6, .ref w7, .ref w8, .ref tk, .ref hs, .ref pw, .int v0, .int v1]) := (hB1.2.2.2 h0 (by rw [hT_h0]; simp)).trans hF_97
      have hF_128 : F_122 sl = .inr (9, [.ref sx, .ref sy0, .ref sy1, .ref sy2, .int (nI nn)]) := (hB1.2.2.2 sl (by rw [ht_4]; simp)).trans hF_98
      have hF_129 : F_122 sx = .inr (0, [.ref rsx, .int (nI z), .int 0]) := (hB1.2.2.2 sx (by rw [hT_sx]; simp)).trans hF_99
      have hF_130 : F_122 rsx = .inl (cs 16, 3000, .inl f) := (hB1.2.2.2 rsx (by rw [ht_38]; simp)).trans hF_100
      have hF_131 : F_122 sy0 = .inl (cs 16, 40, .inl e0) := (hB1.2.2.2 sy0 (by rw [ht_34]; simp)).trans hF_101
      have hF_132 : F_122 sy1 = .inl (cs 16, 40, .inl e1) := (hB1.2.2.2 sy1 (by rw [ht_35]; simp)).trans hF_102
      have hF_133 : F_122 sy2 = .inl (cs 16, 40, .inl e2) := (hB1.2.2.2 sy2 (by rw [ht_36]; simp)).trans hF_103
      have hF_134 : F_122 mg = .inr (4, [.ref mx, .ref m0, .ref m1, .ref m2, .int (nI nm), .int (nI bs)]) := (hB1.2.2.2 mg (by rw [hT_mg]; simp only [List.mem_cons, List.not_mem_nil, or_false]; omega)).trans hF_104
      have hF_135 : F_122 rm = .inl (cs 16, 3000, .inl fm) := (hB1.2.2.2 rm (by rw [ht_56]; simp only [List.mem_cons, List.not_mem_nil, or_false]; omega)).trans hF_105
      have hF_136 : F_122 m0 = .inl (cs 16, 20, .inl a0) := (hB1.2.2.2 m0 (by rw [ht_52]; simp only [List.mem_cons, List.not_mem_nil, or_false]; omega)).trans hF_106
      have hF_137 : F_122 m1 = .inl (cs 16, 20, .inl a1) := (hB1.2.2.2 m1 (by rw [ht_53]; simp only [List.mem_cons, List.not_mem_nil, or_false]; omega)).trans hF_107
      have hF_138 : F_122 m2 = .inl (cs 16, 20, .inl a2) := (hB1.2.2.2 m2 (by rw [ht_54]; simp only [List.mem_cons, List.not_mem_nil, or_false]; omega)).trans hF_108
      have hF_139 : F_122 mx = .inr (0, [.ref rm, .int (nI zm), .int 0]) := (hB1.2.2.2 mx (by rw [hT_mx]; simp only [List.mem_cons, List.not_mem_nil, or_false]; omega)).trans hF_109
      have hF_140 : F_122 w2 = .inr (0, [.ref rw2, .int (nI 32), .int 0]) := (hB1.2.2.2 w2 (by rw [hT_w2]; simp)).trans hF_110
      have hF_141 : F_122 rw2 = .inl (cs 16, 32, .inl fb) := (hB1.2.2.2 rw2 (by rw [ht_41]; simp)).trans hF_111
      have hF_142 : F_122 w8 = .inr (0, [.ref rw8, .int (nI NN_91), .int 0]) := (hB1.2.2.2 w8 (by rw [hT_w8]; simp)).trans hq_93
      have hF_143 : F_122 rw8 = .inl (cs 16, 6100, .inl fo2_92) := (hB1.2.2.2 rw8 (by rw [ht_47]; simp)).trans hq_95
      generalize H1 = H at hP hS ⊢
      have hSB := sh_byt hq_126
      refine lv_aload_n hx hb dX7_isBodyRight_80 rfl (lv_at hl 1 rfl) ?_
      refine pg_get (ci := 7) (v := .ref w5) (C := RX7) (T := TX7) (N := 17) hx hb hts it_7 hown hK hP hL_h0 hF_127 rfl 8 (by decide) (hts _ kt_364) (fun _ h9 => h9) rfl dX7_isBodyRight_81 ?_
      refine lv_aload_n hx hb dX7_isBodyRight_84 rfl (lv_at hl 1 rfl) ?_
      refine pg_get (ci := 7) (v := .ref w2) (C := RX7) (T := TX7) (N := 17) hx hb hts it_7 hown hK hP hL_h0 hF_127 rfl 5 (by decide) (hts _ kt_342) (fun _ h9 => h9) rfl dX7_isBodyRight_85 ?_
      have hFc := pg_free hD hS hA
      refine va_calli (va_runV (As := [.ref w2]) (rest := []) ⟨hx, hb, hml, hown, hts⟩ (s_X0_same_e l dC dI cs ty L H.size F_122 w5 (ρ + 87) rw5 32 w2 (ρ + 84) rw2 32 32 32 f2_123 fb 0 hW hL_w5 hT_w5 hL_w2 hT_w2 hq_124 hq_125 hF_140 hF_141 (by omega) (by omega) (by omega) (by omega)) ⟨callB_of 1 hts (gi kt_85) rfl rfl rfl (hts _ kt_1) (hts _ kt_401) (by decide +kernel) ⟨Nat.le_of_ble_eq_true rfl, Nat.le_of_ble_eq_true rfl⟩, (hts _ kt_87), (hts _ kt_88)⟩ ⟨fun a U g mk q => ⟨q.1, PT.calling q.2⟩, pg_recv hK hP hL_w5 hq_124 (q := (RX0, TX0, 3)) rfl, fun U hU hWm => ⟨rfl, PT.mk hU hWm hP hK hD hE hO⟩⟩ rfl rfl hl.1 rfl (lv_room (Nat.le_of_ble_eq_true rfl)) dX7_isBodyRight_88 ⟨by show _ + 0 ≤ 0; omega, by show _ + 0 ≤ 0; omega⟩) hS (fun q _ h => hFc q h) hFc (fun r_144 u t H1 locs ht hvm hw hB hz1 hk1 hS => ?_)
      obtain ⟨F_145, hB1⟩ := hB
      obtain rfl : F_122 = F_145 := (funext (fun a => hB1.2.2.2 a List.not_mem_nil)).symm
      obtain ⟨hP, hD, hO, hR⟩ := QT.back hB1 ht hFc hR (fun q h => absurd h List.not_mem_nil)
      generalize H1 = H at hP hS ⊢
      have hw : (r_144 = 1 ∧ ((0 : Int32) = 0 ∧ 32 = 32 ∧ ∀ j9, j9 < 32 → f2_123 j9 = fb j9)) ∨ (r_144 = 0 ∧ ¬ ((0 : Int32) = 0 ∧ 32 = 32 ∧ ∀ j9, j9 < 32 → f2_123 j9 = fb j9)) := hw
      have hw_146 := hw
      refine W.widen (k := 0) (n := 0) (by omega) (by omega) ?_
      exact W.zret (v := r_144) (ty := .boolean) hx hb hr (by rcases hw_146 with q | q <;> rw [q.1] <;> decide) (fun t ht hWm => ⟨⟨r_144, (NN_91, fo2_92), rfl, (by rcases hw_146 with q | q; exact Or.inl ⟨q.1, by rw [hln]; exact hlN, by rw [hln]; exact (by_all hSB hBY).mp q.2.2.2⟩; exact Or.inr ⟨q.1, fun w => q.2 ⟨rfl, rfl, by have h9 := w.2; rw [hln] at h9; exact (by_all hSB hBY).mpr h9⟩⟩), ⟨F_122, QT.mk ht hP hD hO hR, hBD⟩⟩, hS.F ht⟩) hS.2.2 dX7_isBodyRight_91
    ·
      have hlN : NN_91 < NN_91 := Nat.not_le.mp (fun q => c_118 ((nI_leI (by omega) (by omega)).mpr q))
      refine lv_iconst (v := 0) hx hb dX7_isBodyRight_62 (by decide) ?_
      refine W.widen (k := 0) (n := 0) (by omega) (by omega) ?_
      exact W.zret (v := 0) (ty := .boolean) hx hb hr (by decide) (fun t ht hWm => ⟨⟨0, (NN_91, fo2_92), rfl, (Or.inr ⟨rfl, fun q => by have h9 := q.1; rw [hln] at h9; omega⟩), ⟨F_90, QT.mk ht hP hD hO hR, hBD⟩⟩, hS.F ht⟩) hS.2.2 dX7_isBodyRight_63
  ·
    refine lv_aload_n hx hb dX7_isBodyRight_31 rfl (lv_at hl 0 rfl) ?_
    refine pg_get (ci := 7) (v := .ref sl) (C := RX7) (T := TX7) (N := 17) hx hb hts it_7 hown hK hP hL_h0 hF_97 rfl 1 (by decide) (hts _ kt_307) (fun _ h9 => h9) rfl dX7_isBodyRight_32 ?_
    refine va_ldcS hx hb hown hr_q_112 dX7_isBodyRight_35 ?_
    have hFc := pg_free hD hS hA
    refine va_calli (va_runV (As := [.ref q_112]) (rest := []) ⟨hx, hb, hml, hown, hts⟩ (s_X9_numberAt_e l dC dI cs ty L H.size F_90 sl (ρ + 2) sx 3000 sy0 sy1 sy2 rsx z nn f e0 e1 e2 gq q_112 v_113 1 (cct [108]) ([108]) hW hi_3 ht_4 hL_sx hT_sx hF_98 hF_99 hF_100 hF_101 hF_102 hF_103 (hzn) (by omega) (hcn) (hhl) (hTG) (⟨rfl, by decide +kernel⟩)) ⟨callB_of 1 hts (gi kt_312) rfl rfl rfl (hts _ kt_164) (hts _ kt_313) (by decide +kernel) ⟨Nat.le_of_ble_eq_true rfl, Nat.le_of_ble_eq_true rfl⟩, (hts _ kt_314), (hts _ kt_315)⟩ ⟨fun a U g mk q => ⟨q.1, PTC.calling q.2⟩, pg_recv hK hP hi_3 hF_98 (q := (RX9, TX9, 5)) rfl, fun U hU hWm => ⟨rfl, PTC.mk hU hWm hP hK hD hE hO hG hXc_q_112 hS hFc⟩⟩ rfl rfl hl.1 rfl (lv_room (Nat.le_of_ble_eq_true rfl)) dX7_isBodyRight_37 ⟨by show _ + 0 ≤ 0; omega, by show _ + 0 ≤ 0; omega⟩) hS (fun q _ h => hFc q h) hFc (fun r_148 u t H1 locs ht hvm hw hB hz1 hk1 hS => ?_)
    obtain ⟨F_149, hB1⟩ := hB
    obtain rfl : F_90 = F_149 := (funext (fun a => hB1.2.2.2 a List.not_mem_nil)).symm
    obtain ⟨hP, hD, hO, hR⟩ := QT.back hB1 ht hFc hR (fun q h => absurd h List.not_mem_nil)
    generalize H1 = H at hP hS ⊢
    have hw : r_148 = nbv (tgM (TC f z) gq (tgR (TC f z) gq [108] nn)) := hw
    have hw_150 := hw
    obtain ⟨lw, hlw1, hlw2⟩ := nom_s hNl (orp1 hw_116 c_117)
    have hlw3 : r_148 = nI lw := by rw [hw_150, hlw1]; rfl
    subst hlw3
    refine lv_goto (tgt := 50) hx hb dX7_isBodyRight_40 (by decide) ?_
    refine lv_istore_n (lv' := [(2, .int (nI lw)), (0, .ref h0), (1, .ref mg)]) hx hb dX7_isBodyRight_50 rfl hl (by decide) rfl (fun ls hl => ?_)
    have hln : lnW (TC f z) gq nn NN_91 = lw := lnW_s hlw1
    refine lv_iload_n hx hb dX7_isBodyRight_51 rfl (lv_at hl 0 rfl) ?_
    refine lv_aload_n hx hb dX7_isBodyRight_52 rfl (lv_at hl 1 rfl) ?_
    refine pg_get (ci := 7) (v := .ref w8) (C := RX7) (T := TX7) (N := 17) hx hb hts it_7 hown hK hP hL_h0 hF_97 rfl 11 (by decide) (hts _ kt_391) (fun _ h9 => h9) rfl dX7_isBodyRight_53 ?_
    refine pg_getN (ci := 0) (v := .int (nI NN_91)) (C := RX0) (T := TX0) (N := 3) hx hb hts it_0 hown hK hP hL_w8 hq_93 rfl 1 (by decide) (hE.nest kn_11) (fun _ h9 => h9) rfl dX7_isBodyRight_56 ?_
    refine lv_icmp_le (tgt := 64) hx hb dX7_isBodyRight_59 (by decide) (fun c_151 => ?_) (fun c_151 => ?_)
    ·
      have hlN : lw ≤ NN_91 := (nI_leI (by omega) (by omega)).mp c_151
      refine lv_aload_n hx hb dX7_isBodyRight_64 rfl (lv_at hl 1 rfl) ?_
      refine pg_get (ci := 7) (v := .ref hs) (C := RX7) (T := TX7) (N := 17) hx hb hts it_7 hown hK hP hL_h0 hF_97 rfl 13 (by decide) (hts _ kt_396) (fun _ h9 => h9) rfl dX7_isBodyRight_65 ?_
      refine lv_aload_n hx hb dX7_isBodyRight_68 rfl (lv_at hl 1 rfl) ?_
      refine pg_get (ci := 7) (v := .ref w8) (C := RX7) (T := TX7) (N := 17) hx hb hts it_7 hown hK hP hL_h0 hF_97 rfl 11 (by decide) (hts _ kt_391) (fun _ h9 => h9) rfl dX7_isBodyRight_69 ?_
      refine lv_iload_n hx hb dX7_isBodyRight_72 rfl (lv_at hl 0 rfl) ?_
      refine lv_aload_n hx hb dX7_isBodyRight_73 rfl (lv_at hl 1 rfl) ?_
      refine pg_get (ci := 7) (v := .ref w5) (C := RX7) (T := TX7) (N := 17) hx hb hts it_7 hown hK hP hL_h0 hF_97 rfl 8 (by decide) (hts _ kt_364) (fun _ h9 => h9) rfl dX7_isBodyRight_74 ?_
      have hFc := pg_free hD hS hA
      have hF_153 := hO.sha hi_27 ht_28
      refine va_callv (va_runV (As := [.ref w8, .int (nI lw), .ref w5]) (rest := []) ⟨hx, hb, hml, hown, hts⟩ (s_X8_sumOf_l l dC dI cs ty L H.size F_90 hs (ρ + 6) ha hbb hcc w8 (ρ + 90) rw8 6100 w5 (ρ + 87) rw5 32 NN_91 lw fo2_92 hW hi_27 ht_28 hL_w8 hT_w8 hL_w5 hT_w5 (by omega) hq_93 hq_95 (by omega) (by omega) (hlN) (by omega) (by omega) (by omega) (by omega) (by omega)) ⟨callB_of 3 hts (gi kt_397) rfl rfl rfl (hts _ kt_250) (hts _ kt_398) (by decide +kernel) ⟨Nat.le_of_ble_eq_true rfl, Nat.le_of_ble_eq_true rfl⟩, (hts _ kt_399), (hts _ kt_400)⟩ ⟨fun a U g mk q => ⟨q.1, PTE.calling q.2⟩, pg_recv hK hP hi_27 hF_153 (q := (RX8, TX8, 3)) rfl, fun U hU hWm => ⟨rfl, PTE.mk hU hWm hP hK hD hE hO hG (fun x hx => absurd hx List.not_mem_nil) hS hFc⟩⟩ rfl rfl hl.1 rfl (lv_room (Nat.le_of_ble_eq_true rfl)) dX7_isBodyRight_77 ⟨by show _ + 0 ≤ 0; omega, by show _ + 0 ≤ 0; omega⟩) hS (fun q _ h => hFc q h) hFc (fun u t H1 locs ht hvm hw hB hz1 hk1 hS => ?_)
      obtain ⟨F_155, f2_156, hB1, hq_157, hq_158, hq_159⟩ := hB
      obtain ⟨hP, hD, hO, hR⟩ := QT.back hB1 ht hFc hR (fun q h => by simp only [List.mem_cons, List.not_mem_nil, or_false] at h ⊢; omega)
      have hF_160 : F_155 h0 = .inr (7, [.ref d, .ref sl, .ref ke, .ref w0, .ref w1, .ref w2, .ref w3, .ref w4, .ref w5, .ref w6, .ref w7, .ref w8, .ref tk, .ref hs, .ref pw, .int v0, .int v1]) := (hB1.2.2.2 h0 (by rw [hT_h0]; simp)).trans hF_97
      have hF_161 : F_155 sl = .inr (9, [.ref sx, .ref sy0, .ref sy1, .ref sy2, .int (nI nn)]) := (hB1.2.2.2 sl (by rw [ht_4]; simp)).trans hF_98
      have hF_162 : F_155 sx = .inr (0, [.ref rsx, .int (nI z), .int 0]) := (hB1.2.2.2 sx (by rw [hT_sx]; simp)).trans hF_99
      have hF_163 : F_155 rsx = .inl (cs 16, 3000, .inl f) := (hB1.2.2.2 rsx (by rw [ht_38]; simp)).trans hF_100
      have hF_164 : F_155 sy0 = .inl (cs 16, 40, .inl e0) := (hB1.2.2.2 sy0 (by rw [ht_34]; simp)).trans hF_101
      have hF_165 : F_155 sy1 = .inl (cs 16, 40, .inl e1) := (hB1.2.2.2 sy1 (by rw [ht_35]; simp)).trans hF_102
      have hF_166 : F_155 sy2 = .inl (cs 16, 40, .inl e2) := (hB1.2.2.2 sy2 (by rw [ht_36]; simp)).trans hF_103
      have hF_167 : F_155 mg = .inr (4, [.ref mx, .ref m0, .ref m1, .ref m2, .int (nI nm), .int (nI bs)]) := (hB1.2.2.2 mg (by rw [hT_mg]; simp only [List.mem_cons, List.not_mem_nil, or_false]; omega)).trans hF_104
      have hF_168 : F_155 rm = .inl (cs 16, 3000, .inl fm) := (hB1.2.2.2 rm (by rw [ht_56]; simp only [List.mem_cons, List.not_mem_nil, or_false]; omega)).trans hF_105
      have hF_169 : F_155 m0 = .inl (cs 16, 20, .inl a0) := (hB1.2.2.2 m0 (by rw [ht_52]; simp only [List.mem_cons, List.not_mem_nil, or_false]; omega)).trans hF_106
      have hF_170 : F_155 m1 = .inl (cs 16, 20, .inl a1) := (hB1.2.2.2 m1 (by rw [ht_53]; simp only [List.mem_cons, List.not_mem_nil, or_false]; omega)).trans hF_107
      have hF_171 : F_155 m2 = .inl (cs 16, 20, .inl a2) := (hB1.2.2.2 m2 (by rw [ht_54]; simp only [List.mem_cons, List.not_mem_nil, or_false]; omega)).trans hF_108
      have hF_172 : F_155 mx = .inr (0, [.ref rm, .int (nI zm), .int 0]) := (hB1.2.2.2 mx (by rw [hT_mx]; simp only [List.mem_cons, List.not_mem_nil, or_false]; omega)).trans hF_109
      have hF_173 : F_155 w2 = .inr (0, [.ref rw2, .int (nI 32), .int 0]) := (hB1.2.2.2 w2 (by rw [hT_w2]; simp)).trans hF_110
      have hF_174 : F_155 rw2 = .inl (cs 16, 32, .inl fb) := (hB1.2.2.2 rw2 (by rw [ht_41]; simp)).trans hF_111
      have hF_175 : F_155 w8 = .inr (0, [.ref rw8, .int (nI NN_91), .int 0]) := (hB1.2.2.2 w8 (by rw [hT_w8]; simp)).trans hq_93
      have hF_176 : F_155 rw8 = .inl (cs 16, 6100, .inl fo2_92) := (hB1.2.2.2 rw8 (by rw [ht_47]; simp)).trans hq_95
      generalize H1 = H at hP hS ⊢
      have hSB := sh_byt hq_159
      refine lv_aload_n hx hb dX7_isBodyRight_80 rfl (lv_at hl 1 rfl) ?_
      refine pg_get (ci := 7) (v := .ref w5) (C := RX7) (T := TX7) (N := 17) hx hb hts it_7 hown hK hP hL_h0 hF_160 rfl 8 (by decide) (hts _ kt_364) (fun _ h9 => h9) rfl dX7_isBodyRight_81 ?_
      refine lv_aload_n hx hb dX7_isBodyRight_84 rfl (lv_at hl 1 rfl) ?_
      refine pg_get (ci := 7) (v := .ref w2) (C := RX7) (T := TX7) (N := 17) hx hb hts it_7 hown hK hP hL_h0 hF_160 rfl 5 (by decide) (hts _ kt_342) (fun _ h9 => h9) rfl dX7_isBodyRight_85 ?_
      have hFc := pg_free hD hS hA
      refine va_calli (va_runV (As := [.ref w2]) (rest := []) ⟨hx, hb, hml, hown, hts⟩ (s_X0_same_e l dC dI cs ty L H.size F_155 w5 (ρ + 87) rw5 32 w2 (ρ + 84) rw2 32 32 32 f2_156 fb 0 hW hL_w5 hT_w5 hL_w2 hT_w2 hq_157 hq_158 hF_173 hF_174 (by omega) (by omega) (by omega) (by omega)) ⟨callB_of 1 hts (gi kt_85) rfl rfl rfl (hts _ kt_1) (hts _ kt_401) (by decide +kernel) ⟨Nat.le_of_ble_eq_true rfl, Nat.le_of_ble_eq_true rfl⟩, (hts _ kt_87), (hts _ kt_88)⟩ ⟨fun a U g mk q => ⟨q.1, PT.calling q.2⟩, pg_recv hK hP hL_w5 hq_157 (q := (RX0, TX0, 3)) rfl, fun U hU hWm => ⟨rfl, PT.mk hU hWm hP hK hD hE hO⟩⟩ rfl rfl hl.1 rfl (lv_room (Nat.le_of_ble_eq_true rfl)) dX7_isBodyRight_88 ⟨by show _ + 0 ≤ 0; omega, by show _ + 0 ≤ 0; omega⟩) hS (fun q _ h => hFc q h) hFc (fun r_177 u t H1 locs ht hvm hw hB hz1 hk1 hS => ?_)
      obtain ⟨F_178, hB1⟩ := hB
      obtain rfl : F_155 = F_178 := (funext (fun a => hB1.2.2.2 a List.not_mem_nil)).symm
      obtain ⟨hP, hD, hO, hR⟩ := QT.back hB1 ht hFc hR (fun q h => absurd h List.not_mem_nil)
      generalize H1 = H at hP hS ⊢
      have hw : (r_177 = 1 ∧ ((0 : Int32) = 0 ∧ 32 = 32 ∧ ∀ j9, j9 < 32 → f2_156 j9 = fb j9)) ∨ (r_177 = 0 ∧ ¬ ((0 : Int32) = 0 ∧ 32 = 32 ∧ ∀ j9, j9 < 32 → f2_156 j9 = fb j9)) := hw
      have hw_179 := hw
      refine W.widen (k := 0) (n := 0) (by omega) (by omega) ?_
      exact W.zret (v := r_177) (ty := .boolean) hx hb hr (by rcases hw_179 with q | q <;> rw [q.1] <;> decide) (fun t ht hWm => ⟨⟨r_177, (NN_91, fo2_92), rfl, (by rcases hw_179 with q | q; exact Or.inl ⟨q.1, by rw [hln]; exact hlN, by rw [hln]; exact (by_all hSB hBY).mp q.2.2.2⟩; exact Or.inr ⟨q.1, fun w => q.2 ⟨rfl, rfl, by have h9 := w.2; rw [hln] at h9; exact (by_all hSB hBY).mpr h9⟩⟩), ⟨F_155, QT.mk ht hP hD hO hR, hBD⟩⟩, hS.F ht⟩) hS.2.2 dX7_isBodyRight_91
    ·
      have hlN : NN_91 < lw := Nat.not_le.mp (fun q => c_151 ((nI_leI (by omega) (by omega)).mpr q))
      refine lv_iconst (v := 0) hx hb dX7_isBodyRight_62 (by decide) ?_
      refine W.widen (k := 0) (n := 0) (by omega) (by omega) ?_
      exact W.zret (v := 0) (ty := .boolean) hx hb hr (by decide) (fun t ht hWm => ⟨⟨0, (NN_91, fo2_92), rfl, (Or.inr ⟨rfl, fun q => by have h9 := q.1; rw [hln] at h9; omega⟩), ⟨F_90, QT.mk ht hP hD hO hR, hBD⟩⟩, hS.F ht⟩) hS.2.2 dX7_isBodyRight_63
def duL : List Nat := [0, 1, 255, 255, 255, 255, 255, 255, 255, 255, 255, 255, 0, 48, 49, 48, 13, 6, 9, 96, 134, 72, 1, 101, 3, 4, 2, 1, 5, 0, 4, 32]
def duW (h : Nat → Nat) (j : Nat) : Nat := if j < 32 then duL.getD j 0 else h (j - 32)
def DUI (k : Nat) (f : Nat → Int32) : Prop := ∀ i, i < k → f i = nI (duL.getD i 0)
theorem dui_0 {f : Nat → Int32} : DUI 0 f := fun i hi => absurd hi (Nat.not_lt_zero _)
theorem dui_s {k : Nat} {f : Nat → Int32} {x : Int32} (h : DUI k f) (hx : x = nI (duL.getD k 0)) : DUI (k + 1) (upd f k x) := by
  intro i hi
  by_cases c : i = k
  · rw [c, updc_at]
    exact hx
  · rw [updc_ne c]
    exact h i (by omega)
theorem du_ff : ∀ j, j < 10 → (255 : Int32) = nI (duL.getD (2 + j) 0) := by decide +kernel
theorem du_di : ∀ j, j < 19 → dgI j = nI (duL.getD (13 + j) 0) := by decide +kernel
theorem du_lt : ∀ j, j < 32 → duL.getD j 0 < 256 := by decide +kernel
theorem du_byt {h : Nat → Nat} {f f2 fs : Nat → Int32} (hd : DUI 32 f) (h1 : ∀ j, j < 32 → f2 j = f j) (h2 : ∀ j, j < 32 → f2 (32 + j) = fs (0 + j)) (hs : BYT h 32 fs) : BYT (duW h) 64 f2 := by
  intro j hj
  unfold duW
  by_cases c : j < 32
  · rw [if_pos c, h1 j c, hd j c]
    exact ⟨du_lt j c, rfl⟩
  · rw [if_neg c]
    have h9 := h2 (j - 32) (by omega)
    rw [show 32 + (j - 32) = j by omega, Nat.zero_add] at h9
    rw [h9]
    exact hs (j - 32) (by omega)
set_option maxHeartbeats 4000000 in
set_option maxRecDepth 100000 in
theorem s_X7_writeDue_e (l : Launch) (dC : Nat → ClassId) (dI : Nat → Nat → Nat) (cs : Nat → ClassId) (ty : TyM) (L : List Nat) (sz : Nat) (F : Nat → va_E) (h0 : Nat) (ρ : Nat) (d : Nat) (δ : Nat) (ea : Nat) (sl : Nat) (sx : Nat) (sy0 : Nat) (sy1 : Nat) (sy2 : Nat) (ke : Nat) (kx : Nat) (ky0 : Nat) (ky1 : Nat) (ky2 : Nat) (w0 : Nat) (w1 : Nat) (w2 : Nat) (w3 : Nat) (w4 : Nat) (w5 : Nat) (w6 : Nat) (w7 : Nat) (w8 : Nat) (tk : Nat) (hs : Nat) (ha : Nat) (hbb : Nat) (hcc : Nat) (pw : Nat) (px : Nat) (py : Nat) (pz : Nat) (pu : Nat) (rw5 : Nat) (rw7 : Nat) (fs : Nat → Int32) (h : Nat → Nat) (hW : WT ty L) (hL_h0 : h0 ∈ L) (hT_h0 : ty h0 = (7, ρ, [d, δ, ea, sl, sx, sy0, sy1, sy2, ke, kx, ky0, ky1, ky2, w0, w1, w2, w3, w4, w5, w6, w7, w8, tk, hs, ha, hbb, hcc, pw, px, py, pz, pu])) (hL_w5 : w5 ∈ L) (hT_w5 : ty w5 = (0, ρ + 87, [rw5, 32])) (hL_w7 : w7 ∈ L) (hT_w7 : ty w7 = (0, ρ + 89, [rw7, 64])) (hF5 : F w5 = .inr (0, [.ref rw5, .int (nI 32), .int 0])) (hFr5 : F rw5 = .inl (cs 16, 32, .inl fs)) (hBY : BYT h 32 fs) : Met l yX7_writeDue (.code yX7_writeDue cX7_writeDue 2 none :: tb) ({ frames := 2, cells := 0, slots := 0, locals := 74 }) (va_Pc [.ref h0] (PTE (dC, dI) cs ty L F sz [])) (va_Qv (fun _ : Unit => True) (fun _ T9 => ∃ F2 : Nat → va_E, ∃ f2 : Nat → Int32, QT (dC, dI) cs ty L [ρ + 89] F F2 (va_A (va_pl L F) sz) T9 ∧ F2 w7 = .inr (0, [.ref rw7, .int (nI 64), .int 0]) ∧ F2 rw7 = .inl (cs 16, 64, .inl f2) ∧ BYT (duW h) 64 f2) (va_A (va_pl L F) sz)) 0 0 (va_A (va_pl L F) sz) := by
  refine Met.ofW (cc := cX7_writeDue) (maxL := 2) (ret := none) (by decide) rfl ?_
  intro p e s m args below meth c s₁ B hml hv
  obtain ⟨rfl, ⟨hsz, hP, hK, hD0, hE, hO⟩, hG, hX⟩ := hv
  have hx := B.exec
  have hb := B.bytes
  have hr := B.returns
  have hts : ∀ w ∈ tb, w.before _ s = true := fun w h => atoms_spec (ws := .code yX7_writeDue cX7_writeDue 2 none :: tb) B.pre w (List.mem_cons_of_mem _ h)
  have hown : s.vm.findClass RX7 = some m.cls := findClass_of_methodNamed B.named
  have hlocks := B.notSynchronized
  subst hsz
  have hD := hD0.self (sz := s.heap.size)
  generalize hAe : va_A (va_pl L F) s.heap.size = A at hD hG hX ⊢
  have hA : ∀ q : Nat, s.heap.size ≤ q → A q := fun q h => by rw [← hAe]; exact Or.inr h
  have hS : va_S A s.heap s.heap [] := va_S.rf
  have hR : FR ty [ρ + 89] F F := FR.refl
  have hl := lv_entry ([.ref h0]) (n := 2) (Nat.le_of_ble_eq_true rfl)
  rw [lg_entry_eq]
  generalize (lg_sl ([.ref h0]) ++ List.replicate (2 - (lg_sl ([.ref h0])).length) Slot.unset).toArray = ls at hl ⊢
  have hl : lv_has ls 2 [(0, .ref h0)] := hl
  obtain ⟨hi_1, ht_2, hi_3, ht_4, hi_5, ht_6, hi_7, ⟨r_8, ht_9⟩, hi_10, ⟨r_11, ht_12⟩, hi_13, ⟨r_14, ht_15⟩, hi_16, ⟨r_17, ht_18⟩, hi_19, ⟨r_20, ht_21⟩, _, _, hi_22, ⟨r_23, ht_24⟩, _, _, hi_25, ⟨r_26, ht_27⟩, hi_28, ht_29, hi_30, ht_31, hi_32, ht_33⟩ := hW.slr hL_h0 hT_h0
  obtain ⟨hi_34, ht_35, hq_36⟩ := hW.bytes hL_w5 hT_w5
  obtain ⟨hi_37, ht_38, hq_39⟩ := hW.bytes hL_w7 hT_w7
  refine lv_aload_n hx hb dX7_writeDue_0 rfl (lv_at hl 0 rfl) ?_
  obtain ⟨v0_40, v1_41, hF_42⟩ := hO.slr hL_h0 hT_h0
  refine pg_get (ci := 7) (v := .ref w7) (C := RX7) (T := TX7) (N := 17) hx hb hts it_7 hown hK hP hL_h0 hF_42 rfl 10 (by decide) (hts _ kt_360) (fun _ h9 => h9) rfl dX7_writeDue_1 ?_
  have hFc := pg_free hD hS hA
  obtain ⟨z_43, o_44, hF_45, hq_46, hq_47⟩ := hO.bytes hL_w7 hT_w7
  refine va_callv (va_runV (As := []) (rest := []) ⟨hx, hb, hml, hown, hts⟩ (s_X0_clear l dC dI cs ty L s.heap.size F w7 (ρ + 89) rw7 64 hW hL_w7 hT_w7) ⟨callB_of 0 hts (gi kt_32) rfl rfl rfl (hts _ kt_1) (hts _ kt_361) (by decide +kernel) ⟨Nat.le_of_ble_eq_true rfl, Nat.le_of_ble_eq_true rfl⟩, (hts _ kt_34), (hts _ kt_35)⟩ ⟨fun a U g mk q => ⟨q.1, PT.calling q.2⟩, pg_recv hK hP hL_w7 hF_45 (q := (RX0, TX0, 3)) rfl, fun U hU hWm => ⟨rfl, PT.mk hU hWm hP hK hD hE hO⟩⟩ rfl rfl hl.1 rfl (lv_room (Nat.le_of_ble_eq_true rfl)) dX7_writeDue_4 ⟨by show _ + 0 ≤ 0; omega, by show _ + 0 ≤ 0; omega⟩) hS (fun q _ h => hFc q h) hFc (fun u t H1 locs ht hvm hw hB hz1 hk1 hS => ?_)
  obtain ⟨F_49, hB1, hq_50⟩ := hB
  obtain ⟨hP, hD, hO, hR⟩ := QT.back hB1 ht hFc hR (fun q h => by simp only [List.mem_cons, List.not_mem_nil, or_false] at h ⊢; omega)
  have hF_51 : F_49 w5 = .inr (0, [.ref rw5, .int (nI 32), .int 0]) := (hB1.2.2.2 w5 (by rw [hT_w5]; simp)).trans hF5
  have hF_52 : F_49 rw5 = .inl (cs 16, 32, .inl fs) := (hB1.2.2.2 rw5 (by rw [ht_35]; simp)).trans hFr5
  have hF_53 : F_49 h0 = .inr (7, [.ref d, .ref sl, .ref ke, .ref w0, .ref w1, .ref w2, .ref w3, .ref w4, .ref w5, .ref w6, .ref w7, .ref w8, .ref tk, .ref hs, .ref pw, .int v0_40, .int v1_41]) := (hB1.2.2.2 h0 (by rw [hT_h0]; simp)).trans hF_42
  generalize H1 = H at hP hS ⊢
  obtain ⟨f_54, hF_55⟩ := hO.ints hi_37 ht_38
  have hdu0 : DUI 0 f_54 := dui_0
  refine lv_aload_n hx hb dX7_writeDue_7 rfl (lv_at hl 0 rfl) ?_
  refine pg_get (ci := 7) (v := .ref w7) (C := RX7) (T := TX7) (N := 17) hx hb hts it_7 hown hK hP hL_h0 hF_53 rfl 10 (by decide) (hts _ kt_360) (fun _ h9 => h9) rfl dX7_writeDue_8 ?_
  refine lv_iconst (v := 0) hx hb dX7_writeDue_11 (by decide) ?_
  have hFc := pg_free hD hS hA
  refine va_callv (va_runV (As := [.int 0]) (rest := []) ⟨hx, hb, hml, hown, hts⟩ (s_X0_add_e l dC dI cs ty L H.size F_49 w7 (ρ + 89) rw7 64 0 f_54 0 hW hL_w7 hT_w7 hq_50 hF_55 (by omega) (by omega)) ⟨callB_of 1 hts (gi kt_13) rfl rfl rfl (hts _ kt_1) (hts _ kt_362) (by decide +kernel) ⟨Nat.le_of_ble_eq_true rfl, Nat.le_of_ble_eq_true rfl⟩, (hts _ kt_15), (hts _ kt_16)⟩ ⟨fun a U g mk q => ⟨q.1, PT.calling q.2⟩, pg_recv hK hP hL_w7 hq_50 (q := (RX0, TX0, 3)) rfl, fun U hU hWm => ⟨rfl, PT.mk hU hWm hP hK hD hE hO⟩⟩ rfl rfl hl.1 rfl (lv_room (Nat.le_of_ble_eq_true rfl)) dX7_writeDue_12 ⟨by show _ + 0 ≤ 0; omega, by show _ + 0 ≤ 0; omega⟩) hS (fun q _ h => hFc q h) hFc (fun u t H1 locs ht hvm hw hB hz1 hk1 hS => ?_)
  obtain ⟨F_57, hB1, hq_58, hq_59⟩ := hB
  obtain ⟨hP, hD, hO, hR⟩ := QT.back hB1 ht hFc hR (fun q h => by simp only [List.mem_cons, List.not_mem_nil, or_false] at h ⊢; omega)
  have hF_60 : F_57 w5 = .inr (0, [.ref rw5, .int (nI 32), .int 0]) := (hB1.2.2.2 w5 (by rw [hT_w5]; simp)).trans hF_51
  have hF_61 : F_57 rw5 = .inl (cs 16, 32, .inl fs) := (hB1.2.2.2 rw5 (by rw [ht_35]; simp)).trans hF_52
  have hF_62 : F_57 h0 = .inr (7, [.ref d, .ref sl, .ref ke, .ref w0, .ref w1, .ref w2, .ref w3, .ref w4, .ref w5, .ref w6, .ref w7, .ref w8, .ref tk, .ref hs, .ref pw, .int v0_40, .int v1_41]) := (hB1.2.2.2 h0 (by rw [hT_h0]; simp)).trans hF_53
  generalize H1 = H at hP hS ⊢
  have hdu_63 := dui_s hdu0 (show (0 : Int32) = nI (duL.getD 0 0) by decide)
  refine lv_aload_n hx hb dX7_writeDue_15 rfl (lv_at hl 0 rfl) ?_
  refine pg_get (ci := 7) (v := .ref w7) (C := RX7) (T := TX7) (N := 17) hx hb hts it_7 hown hK hP hL_h0 hF_62 rfl 10 (by decide) (hts _ kt_360) (fun _ h9 => h9) rfl dX7_writeDue_16 ?_
  refine lv_iconst (v := 1) hx hb dX7_writeDue_19 (by decide) ?_
  have hFc := pg_free hD hS hA
  refine va_callv (va_runV (As := [.int 1]) (rest := []) ⟨hx, hb, hml, hown, hts⟩ (s_X0_add_e l dC dI cs ty L H.size F_57 w7 (ρ + 89) rw7 64 1 (upd f_54 0 0) 1 hW hL_w7 hT_w7 hq_58 hq_59 (by omega) (by omega)) ⟨callB_of 1 hts (gi kt_13) rfl rfl rfl (hts _ kt_1) (hts _ kt_362) (by decide +kernel) ⟨Nat.le_of_ble_eq_true rfl, Nat.le_of_ble_eq_true rfl⟩, (hts _ kt_15), (hts _ kt_16)⟩ ⟨fun a U g mk q => ⟨q.1, PT.calling q.2⟩, pg_recv hK hP hL_w7 hq_58 (q := (RX0, TX0, 3)) rfl, fun U hU hWm => ⟨rfl, PT.mk hU hWm hP hK hD hE hO⟩⟩ rfl rfl hl.1 rfl (lv_room (Nat.le_of_ble_eq_true rfl)) dX7_writeDue_20 ⟨by show _ + 0 ≤ 0; omega, by show _ + 0 ≤ 0; omega⟩) hS (fun q _ h => hFc q h) hFc (fun u t H1 locs ht hvm hw hB hz1 hk1 hS => ?_)
  obtain ⟨F_65, hB1, hq_66, hq_67⟩ := hB
  obtain ⟨hP, hD, hO, hR⟩ := QT.back hB1 ht hFc hR (fun q h => by simp only [List.mem_cons, List.not_mem_nil, or_false] at h ⊢; omega)
  have hF_68 : F_65 w5 = .inr (0, [.ref rw5, .int (nI 32), .int 0]) := (hB1.2.2.2 w5 (by rw [hT_w5]; simp)).trans hF_60
  have hF_69 : F_65 rw5 = .inl (cs 16, 32, .inl fs) := (hB1.2.2.2 rw5 (by rw [ht_35]; simp)).trans hF_61
  have hF_70 : F_65 h0 = .inr (7, [.ref d, .ref sl, .ref ke, .ref w0, .ref w1, .ref w2, .ref w3, .ref w4, .ref w5, .ref w6, .ref w7, .ref w8, .ref tk, .ref hs, .ref pw, .int v0_40, .int v1_41]) := (hB1.2.2.2 h0 (by rw [hT_h0]; simp)).trans hF_62
  generalize H1 = H at hP hS ⊢
  have hdu_71 := dui_s hdu_63 (show (1 : Int32) = nI (duL.getD 1 0) by decide)
  refine lv_iconst (v := 0) hx hb dX7_writeDue_23 (by decide) ?_
  refine lv_istore_n (lv' := [(1, .int 0), (0, .ref h0)]) hx hb dX7_writeDue_24 rfl hl (by decide) rfl (fun ls hl => ?_)
  refine W.widen (k := 0) (n := 0) (by omega) (by omega) ?_
  have hF_73 : F w5 = .inr (0, [.ref rw5, .int (nI 32), .int 0]) := (hR w5 (by rw [hT_w5]; simp)).symm.trans hF_68
  have hF_74 : F rw5 = .inl (cs 16, 32, .inl fs) := (hR rw5 (by rw [ht_35]; simp)).symm.trans hF_69
  have hF_75 : F h0 = .inr (7, [.ref d, .ref sl, .ref ke, .ref w0, .ref w1, .ref w2, .ref w3, .ref w4, .ref w5, .ref w6, .ref w7, .ref w8, .ref tk, .ref hs, .ref pw, .int v0_40, .int v1_41]) := (hR h0 (by rw [hT_h0]; simp)).symm.trans hF_70
  refine pl_loop (σ := Nat × (Nat → Int32)) A (dC, dI) cs ty L [ρ + 89] F 25 2 (fun (j, fha) => [(1, .int (nI j)), (0, .ref h0)]) (fun (j, fha) => []) (fun (j, fha) FF => j ≤ 10 ∧ FF w7 = .inr (0, [.ref rw7, .int (nI (2 + j)), .int 0]) ∧ FF rw7 = .inl (cs 16, 64, .inl fha) ∧ DUI (2 + j) fha) (fun (j, fha) => 10 - j) ?_ (0, (upd (upd f_54 0 0) 1 1)) F_65 (⟨by omega, hq_66, hq_67, hdu_71⟩) hO hR _ _ hP hD hS ls (lv_sub hl [0, 1] rfl)
  rintro ⟨j, fha⟩ F_72 hv_76 hO hR ih_77 H locs hP hD hS ls hl
  have hl : lv_has ls 2 [(1, .int (nI j)), (0, .ref h0)] := hl
  have hv_76 : j ≤ 10 ∧ F_72 w7 = .inr (0, [.ref rw7, .int (nI (2 + j)), .int 0]) ∧ F_72 rw7 = .inl (cs 16, 64, .inl fha) ∧ DUI (2 + j) fha := hv_76
  refine W.eq (g2 := F0 m 25 ls []) rfl ?_
  have hF_78 : F_72 w5 = .inr (0, [.ref rw5, .int (nI 32), .int 0]) := (hR w5 (by rw [hT_w5]; simp)).trans hF_73
  have hF_79 : F_72 rw5 = .inl (cs 16, 32, .inl fs) := (hR rw5 (by rw [ht_35]; simp)).trans hF_74
  have hF_80 : F_72 h0 = .inr (7, [.ref d, .ref sl, .ref ke, .ref w0, .ref w1, .ref w2, .ref w3, .ref w4, .ref w5, .ref w6, .ref w7, .ref w8, .ref tk, .ref hs, .ref pw, .int v0_40, .int v1_41]) := (hR h0 (by rw [hT_h0]; simp)).trans hF_75
  obtain ⟨ha1, ha2, ha3, ha4⟩ := id hv_76
  refine lv_iload_n hx hb dX7_writeDue_25 rfl (lv_at hl 0 rfl) ?_
  refine lv_bipush (v := 10) hx hb dX7_writeDue_26 (by decide) ?_
  refine lv_icmp_ge (tgt := 47) hx hb dX7_writeDue_28 (by decide) (fun c_81 => ?_) (fun c_81 => ?_)
  ·
    have hi_82 : 10 ≤ j := leN (N := 10) c_81
    have hj10 : 10 ≤ j := (nI_leI (by omega) (by omega)).mp c_81
    have hj9 : 2 + j = 12 := by omega
    rw [hj9] at ha2 ha4
    refine lv_aload_n hx hb dX7_writeDue_47 rfl (lv_at hl 1 rfl) ?_
    refine pg_get (ci := 7) (v := .ref w7) (C := RX7) (T := TX7) (N := 17) hx hb hts it_7 hown hK hP hL_h0 hF_80 rfl 10 (by decide) (hts _ kt_360) (fun _ h9 => h9) rfl dX7_writeDue_48 ?_
    refine lv_iconst (v := 0) hx hb dX7_writeDue_51 (by decide) ?_
    have hFc := pg_free hD hS hA
    refine va_callv (va_runV (As := [.int 0]) (rest := []) ⟨hx, hb, hml, hown, hts⟩ (s_X0_add_e l dC dI cs ty L H.size F_72 w7 (ρ + 89) rw7 64 12 fha 0 hW hL_w7 hT_w7 ha2 ha3 (by omega) (by omega)) ⟨callB_of 1 hts (gi kt_13) rfl rfl rfl (hts _ kt_1) (hts _ kt_362) (by decide +kernel) ⟨Nat.le_of_ble_eq_true rfl, Nat.le_of_ble_eq_true rfl⟩, (hts _ kt_15), (hts _ kt_16)⟩ ⟨fun a U g mk q => ⟨q.1, PT.calling q.2⟩, pg_recv hK hP hL_w7 ha2 (q := (RX0, TX0, 3)) rfl, fun U hU hWm => ⟨rfl, PT.mk hU hWm hP hK hD hE hO⟩⟩ rfl rfl hl.1 rfl (lv_room (Nat.le_of_ble_eq_true rfl)) dX7_writeDue_52 ⟨by show _ + 0 ≤ 0; omega, by show _ + 0 ≤ 0; omega⟩) hS (fun q _ h => hFc q h) hFc (fun u t H1 locs ht hvm hw hB hz1 hk1 hS => ?_)
    obtain ⟨F_84, hB1, hq_85, hq_86⟩ := hB
    obtain ⟨hP, hD, hO, hR⟩ := QT.back hB1 ht hFc hR (fun q h => by simp only [List.mem_cons, List.not_mem_nil, or_false] at h ⊢; omega)
    have hF_87 : F_84 w5 = .inr (0, [.ref rw5, .int (nI 32), .int 0]) := (hB1.2.2.2 w5 (by rw [hT_w5]; simp)).trans hF_78
    have hF_88 : F_84 rw5 = .inl (cs 16, 32, .inl fs) := (hB1.2.2.2 rw5 (by rw [ht_35]; simp)).trans hF_79
    have hF_89 : F_84 h0 = .inr (7, [.ref d, .ref sl, .ref ke, .ref w0, .ref w1, .ref w2, .ref w3, .ref w4, .ref w5, .ref w6, .ref w7, .ref w8, .ref tk, .ref hs, .ref pw, .int v0_40, .int v1_41]) := (hB1.2.2.2 h0 (by rw [hT_h0]; simp)).trans hF_80
    generalize H1 = H at hP hS ⊢
    have hdu_90 := dui_s ha4 (show (0 : Int32) = nI (duL.getD 12 0) by decide)
    refine lv_iconst (v := 0) hx hb dX7_writeDue_55 (by decide) ?_
    refine lv_istore_n (lv' := [(1, .int 0), (0, .ref h0)]) hx hb dX7_writeDue_56 rfl hl (by decide) rfl (fun ls hl => ?_)
    refine W.widen (k := 0) (n := 0) (by omega) (by omega) ?_
    have hF_92 : F w5 = .inr (0, [.ref rw5, .int (nI 32), .int 0]) := (hR w5 (by rw [hT_w5]; simp)).symm.trans hF_87
    have hF_93 : F rw5 = .inl (cs 16, 32, .inl fs) := (hR rw5 (by rw [ht_35]; simp)).symm.trans hF_88
    have hF_94 : F h0 = .inr (7, [.ref d, .ref sl, .ref ke, .ref w0, .ref w1, .ref w2, .ref w3, .ref w4, .ref w5, .ref w6, .ref w7, .ref w8, .ref tk, .ref hs, .ref pw, .int v0_40, .int v1_41]) := (hR h0 (by rw [hT_h0]; simp)).symm.trans hF_89
    refine pl_loop (σ := Nat × (Nat → Int32)) A (dC, dI) cs ty L [ρ + 89] F 57 2 (fun (j2, fhc) => [(1, .int (nI j2)), (0, .ref h0)]) (fun (j2, fhc) => []) (fun (j2, fhc) FF => j2 ≤ 19 ∧ FF w7 = .inr (0, [.ref rw7, .int (nI (13 + j2)), .int 0]) ∧ FF rw7 = .inl (cs 16, 64, .inl fhc) ∧ DUI (13 + j2) fhc) (fun (j2, fhc) => 19 - j2) ?_ (0, (upd fha 12 0)) F_84 (⟨by omega, hq_85, hq_86, hdu_90⟩) hO hR _ _ hP hD hS ls (lv_sub hl [0, 1] rfl)
    rintro ⟨j2, fhc⟩ F_91 hv_95 hO hR ih_96 H locs hP hD hS ls hl
    have hl : lv_has ls 2 [(1, .int (nI j2)), (0, .ref h0)] := hl
    have hv_95 : j2 ≤ 19 ∧ F_91 w7 = .inr (0, [.ref rw7, .int (nI (13 + j2)), .int 0]) ∧ F_91 rw7 = .inl (cs 16, 64, .inl fhc) ∧ DUI (13 + j2) fhc := hv_95
    refine W.eq (g2 := F0 m 57 ls []) rfl ?_
    have hF_97 : F_91 w5 = .inr (0, [.ref rw5, .int (nI 32), .int 0]) := (hR w5 (by rw [hT_w5]; simp)).trans hF_92
    have hF_98 : F_91 rw5 = .inl (cs 16, 32, .inl fs) := (hR rw5 (by rw [ht_35]; simp)).trans hF_93
    have hF_99 : F_91 h0 = .inr (7, [.ref d, .ref sl, .ref ke, .ref w0, .ref w1, .ref w2, .ref w3, .ref w4, .ref w5, .ref w6, .ref w7, .ref w8, .ref tk, .ref hs, .ref pw, .int v0_40, .int v1_41]) := (hR h0 (by rw [hT_h0]; simp)).trans hF_94
    obtain ⟨hc1, hc2, hc3, hc4⟩ := id hv_95
    refine lv_iload_n hx hb dX7_writeDue_57 rfl (lv_at hl 0 rfl) ?_
    obtain ⟨aD, fD, rfl, zD, tD⟩ := id hG.2.2.2.1
    refine va_gets hx hb zD hS hown (hts _ kt_363) (fun _ h9 => h9) dX7_writeDue_58 ?_
    refine va_tlen (v := 19) hx hb tD hS rfl dX7_writeDue_61 ?_
    refine lv_icmp_ge (tgt := 83) hx hb dX7_writeDue_62 (by decide) (fun c_100 => ?_) (fun c_100 => ?_)
    ·
      have hi_101 : 19 ≤ j2 := leN (N := 19) c_100
      have hj19 : 19 ≤ j2 := (nI_leI (by omega) (by omega)).mp c_100
      have hj8 : 13 + j2 = 32 := by omega
      rw [hj8] at hc2 hc4
      refine lv_aload_n hx hb dX7_writeDue_83 rfl (lv_at hl 1 rfl) ?_
      refine pg_get (ci := 7) (v := .ref w7) (C := RX7) (T := TX7) (N := 17) hx hb hts it_7 hown hK hP hL_h0 hF_99 rfl 10 (by decide) (hts _ kt_360) (fun _ h9 => h9) rfl dX7_writeDue_84 ?_
      refine lv_aload_n hx hb dX7_writeDue_87 rfl (lv_at hl 1 rfl) ?_
      refine pg_get (ci := 7) (v := .ref w5) (C := RX7) (T := TX7) (N := 17) hx hb hts it_7 hown hK hP hL_h0 hF_99 rfl 8 (by decide) (hts _ kt_364) (fun _ h9 => h9) rfl dX7_writeDue_88 ?_
      refine lv_iconst (v := 0) hx hb dX7_writeDue_91 (by decide) ?_
      refine lv_aload_n hx hb dX7_writeDue_92 rfl (lv_at hl 1 rfl) ?_
      refine pg_get (ci := 7) (v := .ref w5) (C := RX7) (T := TX7) (N := 17) hx hb hts it_7 hown hK hP hL_h0 hF_99 rfl 8 (by decide) (hts _ kt_364) (fun _ h9 => h9) rfl dX7_writeDue_93 ?_
      refine pg_getN (ci := 0) (v := .int (nI 32)) (C := RX0) (T := TX0) (N := 3) hx hb hts it_0 hown hK hP hL_w5 hF_97 rfl 1 (by decide) (hE.nest kn_11) (fun _ h9 => h9) rfl dX7_writeDue_96 ?_
      refine W.eq (g2 := F0 m 99 ls [.int (nI 32), .int (nI 0), .ref w5, .ref w7]) rfl ?_
      have hFc := pg_free hD hS hA
      refine va_callv (va_runV (As := [.ref w5, .int (nI 0), .int (nI 32)]) (rest := []) ⟨hx, hb, hml, hown, hts⟩ (s_X0_addRange_p l dC dI cs ty L H.size F_91 w7 (ρ + 89) rw7 64 w5 (ρ + 87) rw5 32 32 32 0 32 fs fhc 0 hW hL_w7 hT_w7 hL_w5 hT_w5 hc2 hc3 hF_97 hF_98 (by omega) (by omega) (by omega) (by omega) (by omega) (by omega)) ⟨callB_of 3 hts (gi kt_36) rfl rfl rfl (hts _ kt_1) (hts _ kt_365) (by decide +kernel) ⟨Nat.le_of_ble_eq_true rfl, Nat.le_of_ble_eq_true rfl⟩, (hts _ kt_38), (hts _ kt_39)⟩ ⟨fun a U g mk q => ⟨q.1, PT.calling q.2⟩, pg_recv hK hP hL_w7 hc2 (q := (RX0, TX0, 3)) rfl, fun U hU hWm => ⟨rfl, PT.mk hU hWm hP hK hD hE hO⟩⟩ rfl rfl hl.1 rfl (lv_room (Nat.le_of_ble_eq_true rfl)) dX7_writeDue_99 ⟨by show _ + 0 ≤ 0; omega, by show _ + 0 ≤ 0; omega⟩) hS (fun q _ h => hFc q h) hFc (fun u t H1 locs ht hvm hw hB hz1 hk1 hS => ?_)
      obtain ⟨F_103, fc_104, hB1, hq_105, hq_106, hq_107, hq_108⟩ := hB
      obtain ⟨hP, hD, hO, hR⟩ := QT.back hB1 ht hFc hR (fun q h => by simp only [List.mem_cons, List.not_mem_nil, or_false] at h ⊢; omega)
      have hF_109 : F_103 w5 = .inr (0, [.ref rw5, .int (nI 32), .int 0]) := (hB1.2.2.2 w5 (by rw [hT_w5]; simp)).trans hF_97
      have hF_110 : F_103 rw5 = .inl (cs 16, 32, .inl fs) := (hB1.2.2.2 rw5 (by rw [ht_35]; simp)).trans hF_98
      have hF_111 : F_103 h0 = .inr (7, [.ref d, .ref sl, .ref ke, .ref w0, .ref w1, .ref w2, .ref w3, .ref w4, .ref w5, .ref w6, .ref w7, .ref w8, .ref tk, .ref hs, .ref pw, .int v0_40, .int v1_41]) := (hB1.2.2.2 h0 (by rw [hT_h0]; simp)).trans hF_99
      generalize H1 = H at hP hS ⊢
      refine W.widen (k := 0) (n := 0) (by omega) (by omega) ?_
      exact W.vret hx hb hr (fun t ht hWm => ⟨⟨(), rfl, trivial, ⟨F_103, fc_104, QT.mk ht hP hD hO hR, hq_105, hq_106, (du_byt hc4 hq_107 hq_108 hBY)⟩⟩, hS.F ht⟩) hS.2.2 dX7_writeDue_102
    ·
      have hi_112 : j2 < 19 := ltN (N := 19) c_100
      have hj19 : j2 < 19 := Nat.not_le.mp (fun q => c_100 ((nI_leI (by omega) (by omega)).mpr q))
      refine lv_aload_n hx hb dX7_writeDue_65 rfl (lv_at hl 1 rfl) ?_
      refine pg_get (ci := 7) (v := .ref w7) (C := RX7) (T := TX7) (N := 17) hx hb hts it_7 hown hK hP hL_h0 hF_99 rfl 10 (by decide) (hts _ kt_360) (fun _ h9 => h9) rfl dX7_writeDue_66 ?_
      obtain ⟨aD, fD, rfl, zD, tD⟩ := id hG.2.2.2.1
      refine va_gets hx hb zD hS hown (hts _ kt_363) (fun _ h9 => h9) dX7_writeDue_69 ?_
      refine lv_iload_n hx hb dX7_writeDue_72 rfl (lv_at hl 0 rfl) ?_
      refine va_ti hx hb tD hS (vp_in_nI (by omega) (by omega)) rfl dX7_writeDue_73 ?_
      refine lv_topi (fun x_113 ex_113 => ?_)
      obtain rfl : x_113 = (dgI j2) := ex_113.trans (congrArg dgI (nI_clamp (by omega)))
      have hFc := pg_free hD hS hA
      refine va_callv (va_runV (As := [.int (dgI j2)]) (rest := []) ⟨hx, hb, hml, hown, hts⟩ (s_X0_add_e l dC dI cs ty L H.size F_91 w7 (ρ + 89) rw7 64 (13 + j2) fhc (dgI j2) hW hL_w7 hT_w7 hc2 hc3 (by omega) (by omega)) ⟨callB_of 1 hts (gi kt_13) rfl rfl rfl (hts _ kt_1) (hts _ kt_362) (by decide +kernel) ⟨Nat.le_of_ble_eq_true rfl, Nat.le_of_ble_eq_true rfl⟩, (hts _ kt_15), (hts _ kt_16)⟩ ⟨fun a U g mk q => ⟨q.1, PT.calling q.2⟩, pg_recv hK hP hL_w7 hc2 (q := (RX0, TX0, 3)) rfl, fun U hU hWm => ⟨rfl, PT.mk hU hWm hP hK hD hE hO⟩⟩ rfl rfl hl.1 rfl (lv_room (Nat.le_of_ble_eq_true rfl)) dX7_writeDue_74 ⟨by show _ + 0 ≤ 0; omega, by show _ + 0 ≤ 0; omega⟩) hS (fun q _ h => hFc q h) hFc (fun u t H1 locs ht hvm hw hB hz1 hk1 hS => ?_)
      obtain ⟨F_115, hB1, hq_116, hq_117⟩ := hB
      obtain ⟨hP, hD, hO, hR⟩ := QT.back hB1 ht hFc hR (fun q h => by simp only [List.mem_cons, List.not_mem_nil, or_false] at h ⊢; omega)
      have hF_118 : F_115 w5 = .inr (0, [.ref rw5, .int (nI 32), .int 0]) := (hB1.2.2.2 w5 (by rw [hT_w5]; simp)).trans hF_97
      have hF_119 : F_115 rw5 = .inl (cs 16, 32, .inl fs) := (hB1.2.2.2 rw5 (by rw [ht_35]; simp)).trans hF_98
      have hF_120 : F_115 h0 = .inr (7, [.ref d, .ref sl, .ref ke, .ref w0, .ref w1, .ref w2, .ref w3, .ref w4, .ref w5, .ref w6, .ref w7, .ref w8, .ref tk, .ref hs, .ref pw, .int v0_40, .int v1_41]) := (hB1.2.2.2 h0 (by rw [hT_h0]; simp)).trans hF_99
      generalize H1 = H at hP hS ⊢
      have hdu_121 := dui_s hc4 (du_di j2 hj19)
      refine lv_iinc (v := (nI (j2 + 1))) (lv' := [(1, .int (nI (j2 + 1))), (0, .ref h0)]) hx hb dX7_writeDue_77 hl (k := 0) rfl (nI_1 _) (by decide) rfl (fun ls hl => ?_)
      refine lv_goto (tgt := 57) hx hb dX7_writeDue_80 (by decide) ?_
      refine W.widen (k := 0) (n := 0) (by omega) (by omega) ?_
      exact ih_96 ((j2 + 1), (upd fhc (13 + j2) (dgI j2))) F_115 (⟨by omega, hq_116, hq_117, hdu_121⟩) (by show 19 - (j2 + 1) < 19 - j2; omega) hO hR _ _ hP hD hS ls (lv_sub hl [0, 1] rfl)
  ·
    have hi_122 : j < 10 := ltN (N := 10) c_81
    have hj10 : j < 10 := Nat.not_le.mp (fun q => c_81 ((nI_leI (by omega) (by omega)).mpr q))
    refine lv_aload_n hx hb dX7_writeDue_31 rfl (lv_at hl 1 rfl) ?_
    refine pg_get (ci := 7) (v := .ref w7) (C := RX7) (T := TX7) (N := 17) hx hb hts it_7 hown hK hP hL_h0 hF_80 rfl 10 (by decide) (hts _ kt_360) (fun _ h9 => h9) rfl dX7_writeDue_32 ?_
    refine lv_sipush (v := 255) hx hb dX7_writeDue_35 (by decide) ?_
    have hFc := pg_free hD hS hA
    refine va_callv (va_runV (As := [.int 255]) (rest := []) ⟨hx, hb, hml, hown, hts⟩ (s_X0_add_e l dC dI cs ty L H.size F_72 w7 (ρ + 89) rw7 64 (2 + j) fha 255 hW hL_w7 hT_w7 ha2 ha3 (by omega) (by omega)) ⟨callB_of 1 hts (gi kt_13) rfl rfl rfl (hts _ kt_1) (hts _ kt_362) (by decide +kernel) ⟨Nat.le_of_ble_eq_true rfl, Nat.le_of_ble_eq_true rfl⟩, (hts _ kt_15), (hts _ kt_16)⟩ ⟨fun a U g mk q => ⟨q.1, PT.calling q.2⟩, pg_recv hK hP hL_w7 ha2 (q := (RX0, TX0, 3)) rfl, fun U hU hWm => ⟨rfl, PT.mk hU hWm hP hK hD hE hO⟩⟩ rfl rfl hl.1 rfl (lv_room (Nat.le_of_ble_eq_true rfl)) dX7_writeDue_38 ⟨by show _ + 0 ≤ 0; omega, by show _ + 0 ≤ 0; omega⟩) hS (fun q _ h => hFc q h) hFc (fun u t H1 locs ht hvm hw hB hz1 hk1 hS => ?_)
    obtain ⟨F_124, hB1, hq_125, hq_126⟩ := hB
    obtain ⟨hP, hD, hO, hR⟩ := QT.back hB1 ht hFc hR (fun q h => by simp only [List.mem_cons, List.not_mem_nil, or_false] at h ⊢; omega)
    have hF_127 : F_124 w5 = .inr (0, [.ref rw5, .int (nI 32), .int 0]) := (hB1.2.2.2 w5 (by rw [hT_w5]; simp)).trans hF_78
    have hF_128 : F_124 rw5 = .inl (cs 16, 32, .inl fs) := (hB1.2.2.2 rw5 (by rw [ht_35]; simp)).trans hF_79
    have hF_129 : F_124 h0 = .inr (7, [.ref d, .ref sl, .ref ke, .ref w0, .ref w1, .ref w2, .ref w3, .ref w4, .ref w5, .ref w6, .ref w7, .ref w8, .ref tk, .ref hs, .ref pw, .int v0_40, .int v1_41]) := (hB1.2.2.2 h0 (by rw [hT_h0]; simp)).trans hF_80
    generalize H1 = H at hP hS ⊢
    have hdu_130 := dui_s ha4 (du_ff j hj10)
    refine lv_iinc (v := (nI (j + 1))) (lv' := [(1, .int (nI (j + 1))), (0, .ref h0)]) hx hb dX7_writeDue_41 hl (k := 0) rfl (nI_1 _) (by decide) rfl (fun ls hl => ?_)
    refine lv_goto (tgt := 25) hx hb dX7_writeDue_44 (by decide) ?_
    refine W.widen (k := 0) (n := 0) (by omega) (by omega) ?_
    exact ih_77 ((j + 1), (upd fha (2 + j) 255)) F_124 (⟨by omega, hq_125, hq_126, hdu_130⟩) (by show 10 - (j + 1) < 10 - j; omega) hO hR _ _ hP hD hS ls (lv_sub hl [0, 1] rfl)
def SGO (bs bm : Nat → Nat) (h : Nat → Nat) : Prop := pwm (be bs 64) (be bm 64) = be (duW h) 64
theorem sgo_iff {c bs bm h : Nat → Nat} (hc : ∀ j, j < 64 → c j < 256) (hd : ∀ j, j < 64 → duW h j < 256) (he : be c 64 = pwm (be bs 64) (be bm 64)) : (∀ j, j < 64 → c j = duW h j) ↔ SGO bs bm h := by
  unfold SGO
  rw [← he]
  exact ⟨fun q => be_ext 64 q, fun q => be_uniq 64 hc hd q⟩
set_option maxHeartbeats 4000000 in
set_option maxRecDepth 100000 in
theorem s_X7_isSigned_e (l : Launch) (dC : Nat → ClassId) (dI : Nat → Nat → Nat) (cs : Nat → ClassId) (ty : TyM) (L : List Nat) (sz : Nat) (F : Nat → va_E) (h0 : Nat) (ρ : Nat) (d : Nat) (δ : Nat) (ea : Nat) (sl : Nat) (sx : Nat) (sy0 : Nat) (sy1 : Nat) (sy2 : Nat) (ke : Nat) (kx : Nat) (ky0 : Nat) (ky1 : Nat) (ky2 : Nat) (w0 : Nat) (w1 : Nat) (w2 : Nat) (w3 : Nat) (w4 : Nat) (w5 : Nat) (w6 : Nat) (w7 : Nat) (w8 : Nat) (tk : Nat) (hs : Nat) (ha : Nat) (hbb : Nat) (hcc : Nat) (pw : Nat) (px : Nat) (py : Nat) (pz : Nat) (pu : Nat) (rw3 : Nat) (rw4 : Nat) (rw5 : Nat) (rw6 : Nat) (rw7 : Nat) (rw8 : Nat) (zw : Nat) (fs3 : Nat → Int32) (fs4 : Nat → Int32) (fo : Nat → Int32) (b3 : Nat → Nat) (b4 : Nat → Nat) (hW : WT ty L) (hL_h0 : h0 ∈ L) (hT_h0 : ty h0 = (7, ρ, [d, δ, ea, sl, sx, sy0, sy1, sy2, ke, kx, ky0, ky1, ky2, w0, w1, w2, w3, w4, w5, w6, w7, w8, tk, hs, ha, hbb, hcc, pw, px, py, pz, pu])) (hL_w3 : w3 ∈ L) (hT_w3 : ty w3 = (0, ρ + 85, [rw3, 64])) (hL_w4 : w4 ∈ L) (hT_w4 : ty w4 = (0, ρ + 86, [rw4, 64])) (hL_w5 : w5 ∈ L) (hT_w5 : ty w5 = (0, ρ + 87, [rw5, 32])) (hL_w6 : w6 ∈ L) (hT_w6 : ty w6 = (0, ρ + 88, [rw6, 64])) (hL_w7 : w7 ∈ L) (hT_w7 : ty w7 = (0, ρ + 89, [rw7, 64])) (hL_w8 : w8 ∈ L) (hT_w8 : ty w8 = (0, ρ + 90, [rw8, 6100])) (hF3 : F w3 = .inr (0, [.ref rw3, .int (nI 64), .int 0])) (hFr3 : F rw3 = .inl (cs 16, 64, .inl fs3)) (hBY3 : BYT b3 64 fs3) (hF4 : F w4 = .inr (0, [.ref rw4, .int (nI 64), .int 0])) (hFr4 : F rw4 = .inl (cs 16, 64, .inl fs4)) (hBY4 : BYT b4 64 fs4) (hlo : b4 63 % 2 = 1) (hto : 128 ≤ b4 0) (hF8 : F w8 = .inr (0, [.ref rw8, .int (nI zw), .int 0])) (hFr8 : F rw8 = .inl (cs 16, 6100, .inl fo)) (hzw : zw ≤ 6100) : Met l yX7_isSigned (.code yX7_isSigned cX7_isSigned 1 (some .boolean) :: tb) ({ frames := 4, cells := 0, slots := 0, locals := 122 }) (va_Pc [.ref h0] (PTE (dC, dI) cs ty L F sz [])) (va_Qi (fun (r : Int32) (_ : Unit) => (r = 1 ∧ SGO b3 b4 (shN fo zw)) ∨ (r = 0 ∧ ¬ SGO b3 b4 (shN fo zw))) (fun _ T9 => ∃ F2 : Nat → va_E, QT (dC, dI) cs ty L [ρ + 6, ρ + 7, ρ + 92, ρ + 93, ρ + 94, ρ + 95, ρ + 87, ρ + 88, ρ + 89] F F2 (va_A (va_pl L F) sz) T9) (va_A (va_pl L F) sz)) 0 0 (va_A (va_pl L F) sz) := by
  refine Met.ofW (cc := cX7_isSigned) (maxL := 1) (ret := (some .boolean)) (by decide) rfl ?_
  intro p e s m args below meth c s₁ B hml hv
  obtain ⟨rfl, ⟨hsz, hP, hK, hD0, hE, hO⟩, hG, hX⟩ := hv
  have hx := B.exec
  have hb := B.bytes
  have hr := B.returns
  have hts : ∀ w ∈ tb, w.before _ s = true := fun w h => atoms_spec (ws := .code yX7_isSigned cX7_isSigned 1 (some .boolean) :: tb) B.pre w (List.mem_cons_of_mem _ h)
  have hown : s.vm.findClass RX7 = some m.cls := findClass_of_methodNamed B.named
  have hlocks := B.notSynchronized
  subst hsz
  have hD := hD0.self (sz := s.heap.size)
  generalize hAe : va_A (va_pl L F) s.heap.size = A at hD hG hX ⊢
  have hA : ∀ q : Nat, s.heap.size ≤ q → A q := fun q h => by rw [← hAe]; exact Or.inr h
  have hS : va_S A s.heap s.heap [] := va_S.rf
  have hR : FR ty [ρ + 6, ρ + 7, ρ + 92, ρ + 93, ρ + 94, ρ + 95, ρ + 87, ρ + 88, ρ + 89] F F := FR.refl
  have hl := lv_entry ([.ref h0]) (n := 1) (Nat.le_of_ble_eq_true rfl)
  rw [lg_entry_eq]
  generalize (lg_sl ([.ref h0]) ++ List.replicate (1 - (lg_sl ([.ref h0])).length) Slot.unset).toArray = ls at hl ⊢
  have hl : lv_has ls 1 [(0, .ref h0)] := hl
  obtain ⟨hi_1, ht_2, hi_3, ht_4, hi_5, ht_6, hi_7, ⟨r_8, ht_9⟩, hi_10, ⟨r_11, ht_12⟩, hi_13, ⟨r_14, ht_15⟩, _, _, _, _, _, _, _, _, _, _, _, _, hi_16, ht_17, hi_18, ht_19, hi_20, ht_21⟩ := hW.slr hL_h0 hT_h0
  obtain ⟨hi_22, ht_23, hq_24⟩ := hW.bytes hL_w3 hT_w3
  obtain ⟨hi_25, ht_26, hq_27⟩ := hW.bytes hL_w4 hT_w4
  obtain ⟨hi_28, ht_29, hq_30⟩ := hW.bytes hL_w5 hT_w5
  obtain ⟨hi_31, ht_32, hq_33⟩ := hW.bytes hL_w6 hT_w6
  obtain ⟨hi_34, ht_35, hq_36⟩ := hW.bytes hL_w7 hT_w7
  obtain ⟨hi_37, ht_38, hq_39⟩ := hW.bytes hL_w8 hT_w8
  obtain ⟨hi_40, hi_41, hi_42, ht_43, ht_44, ht_45⟩ := hW.sha hi_18 ht_19
  obtain ⟨hi_46, hi_47, hi_48, hi_49, ht_50, ht_51, ht_52, ht_53⟩ := hW.power hi_20 ht_21
  have ht_50 : ty px = (19, ρ + 92, [16]) := ht_50
  have ht_51 : ty py = (19, ρ + 93, [16]) := ht_51
  have ht_52 : ty pz = (19, ρ + 94, [16]) := ht_52
  have ht_53 : ty pu = (19, ρ + 95, [18]) := ht_53
  refine lv_aload_n hx hb dX7_isSigned_0 rfl (lv_at hl 0 rfl) ?_
  obtain ⟨v0_54, v1_55, hF_56⟩ := hO.slr hL_h0 hT_h0
  refine pg_get (ci := 7) (v := .ref hs) (C := RX7) (T := TX7) (N := 17) hx hb hts it_7 hown hK hP hL_h0 hF_56 rfl 13 (by decide) (hts _ kt_396) (fun _ h9 => h9) rfl dX7_isSigned_1 ?_
  refine lv_aload_n hx hb dX7_isSigned_4 rfl (lv_at hl 0 rfl) ?_
  refine pg_get (ci := 7) (v := .ref w8) (C := RX7) (T := TX7) (N := 17) hx hb hts it_7 hown hK hP hL_h0 hF_56 rfl 11 (by decide) (hts _ kt_391) (fun _ h9 => h9) rfl dX7_isSigned_5 ?_
  refine lv_aload_n hx hb dX7_isSigned_8 rfl (lv_at hl 0 rfl) ?_
  refine pg_get (ci := 7) (v := .ref w8) (C := RX7) (T := TX7) (N := 17) hx hb hts it_7 hown hK hP hL_h0 hF_56 rfl 11 (by decide) (hts _ kt_391) (fun _ h9 => h9) rfl dX7_isSigned_9 ?_
  refine pg_getN (ci := 0) (v := .int (nI zw)) (C := RX0) (T := TX0) (N := 3) hx hb hts it_0 hown hK hP hL_w8 hF8 rfl 1 (by decide) (hE.nest kn_11) (fun _ h9 => h9) rfl dX7_isSigned_12 ?_
  refine lv_aload_n hx hb dX7_isSigned_15 rfl (lv_at hl 0 rfl) ?_
  refine pg_get (ci := 7) (v := .ref w5) (C := RX7) (T := TX7) (N := 17) hx hb hts it_7 hown hK hP hL_h0 hF_56 rfl 8 (by decide) (hts _ kt_364) (fun _ h9 => h9) rfl dX7_isSigned_16 ?_
  have hFc := pg_free hD hS hA
  have hF_57 := hO.sha hi_18 ht_19
  refine va_callv (va_runV (As := [.ref w8, .int (nI zw), .ref w5]) (rest := []) ⟨hx, hb, hml, hown, hts⟩ (s_X8_sumOf_l l dC dI cs ty L s.heap.size F hs (ρ + 6) ha hbb hcc w8 (ρ + 90) rw8 6100 w5 (ρ + 87) rw5 32 zw zw fo hW hi_18 ht_19 hL_w8 hT_w8 hL_w5 hT_w5 (by omega) hF8 hFr8 (by omega) (by omega) (Nat.le_refl _) (by omega) (by omega) (by omega) (by omega) (by omega)) ⟨callB_of 3 hts (gi kt_397) rfl rfl rfl (hts _ kt_250) (hts _ kt_398) (by decide +kernel) ⟨Nat.le_of_ble_eq_true rfl, Nat.le_of_ble_eq_true rfl⟩, (hts _ kt_399), (hts _ kt_400)⟩ ⟨fun a U g mk q => ⟨q.1, PTE.calling q.2⟩, pg_recv hK hP hi_18 hF_57 (q := (RX8, TX8, 3)) rfl, fun U hU hWm => ⟨rfl, PTE.mk hU hWm hP hK hD hE hO hG (fun x hx => absurd hx List.not_mem_nil) hS hFc⟩⟩ rfl rfl hl.1 rfl (lv_room (Nat.le_of_ble_eq_true rfl)) dX7_isSigned_19 ⟨by show _ + 0 ≤ 0; omega, by show _ + 0 ≤ 0; omega⟩) hS (fun q _ h => hFc q h) hFc (fun u t H1 locs ht hvm hw hB hz1 hk1 hS => ?_)
  obtain ⟨F_59, f2_60, hB1, hq_61, hq_62, hq_63⟩ := hB
  obtain ⟨hP, hD, hO, hR⟩ := QT.back hB1 ht hFc hR (fun q h => by simp only [List.mem_cons, List.not_mem_nil, or_false] at h ⊢; omega)
  have hF_64 : F_59 w3 = .inr (0, [.ref rw3, .int (nI 64), .int 0]) := (hB1.2.2.2 w3 (by rw [hT_w3]; simp)).trans hF3
  have hF_65 : F_59 rw3 = .inl (cs 16, 64, .inl fs3) := (hB1.2.2.2 rw3 (by rw [ht_23]; simp)).trans hFr3
  have hF_66 : F_59 w4 = .inr (0, [.ref rw4, .int (nI 64), .int 0]) := (hB1.2.2.2 w4 (by rw [hT_w4]; simp)).trans hF4
  have hF_67 : F_59 rw4 = .inl (cs 16, 64, .inl fs4) := (hB1.2.2.2 rw4 (by rw [ht_26]; simp)).trans hFr4
  have hF_68 : F_59 w8 = .inr (0, [.ref rw8, .int (nI zw), .int 0]) := (hB1.2.2.2 w8 (by rw [hT_w8]; simp)).trans hF8
  have hF_69 : F_59 rw8 = .inl (cs 16, 6100, .inl fo) := (hB1.2.2.2 rw8 (by rw [ht_38]; simp)).trans hFr8
  have hF_70 : F_59 h0 = .inr (7, [.ref d, .ref sl, .ref ke, .ref w0, .ref w1, .ref w2, .ref w3, .ref w4, .ref w5, .ref w6, .ref w7, .ref w8, .ref tk, .ref hs, .ref pw, .int v0_54, .int v1_55]) := (hB1.2.2.2 h0 (by rw [hT_h0]; simp)).trans hF_56
  generalize H1 = H at hP hS ⊢
  have hSB := sh_byt hq_63
  refine lv_aload_n hx hb dX7_isSigned_22 rfl (lv_at hl 0 rfl) ?_
  have hFc := pg_free hD hS hA
  refine va_callv (va_runV (As := []) (rest := []) ⟨hx, hb, hml, hown, hts⟩ (s_X7_writeDue_e l dC dI cs ty L H.size F_59 h0 ρ d δ ea sl sx sy0 sy1 sy2 ke kx ky0 ky1 ky2 w0 w1 w2 w3 w4 w5 w6 w7 w8 tk hs ha hbb hcc pw px py pz pu rw5 rw7 f2_60 (shN fo zw) hW hL_h0 hT_h0 hL_w5 hT_w5 hL_w7 hT_w7 hq_61 hq_62 (hSB)) ⟨callB_of 0 hts (gi kt_402) rfl rfl rfl (hts _ kt_322) (hts _ kt_403) (by decide +kernel) ⟨Nat.le_of_ble_eq_true rfl, Nat.le_of_ble_eq_true rfl⟩, (hts _ kt_404), (hts _ kt_405)⟩ ⟨fun a U g mk q => ⟨q.1, PTE.calling q.2⟩, pg_recv hK hP hL_h0 hF_70 (q := (RX7, TX7, 17)) rfl, fun U hU hWm => ⟨rfl, PTE.mk hU hWm hP hK hD hE hO hG (fun x hx => absurd hx List.not_mem_nil) hS hFc⟩⟩ rfl rfl hl.1 rfl (lv_room (Nat.le_of_ble_eq_true rfl)) dX7_isSigned_23 ⟨by show _ + 0 ≤ 0; omega, by show _ + 0 ≤ 0; omega⟩) hS (fun q _ h => hFc q h) hFc (fun u t H1 locs ht hvm hw hB hz1 hk1 hS => ?_)
  obtain ⟨F_72, f2_73, hB1, hq_74, hq_75, hq_76⟩ := hB
  obtain ⟨hP, hD, hO, hR⟩ := QT.back hB1 ht hFc hR (fun q h => by simp only [List.mem_cons, List.not_mem_nil, or_false] at h ⊢; omega)
  have hF_77 : F_72 w3 = .inr (0, [.ref rw3, .int (nI 64), .int 0]) := (hB1.2.2.2 w3 (by rw [hT_w3]; simp)).trans hF_64
  have hF_78 : F_72 rw3 = .inl (cs 16, 64, .inl fs3) := (hB1.2.2.2 rw3 (by rw [ht_23]; simp)).trans hF_65
  have hF_79 : F_72 w4 = .inr (0, [.ref rw4, .int (nI 64), .int 0]) := (hB1.2.2.2 w4 (by rw [hT_w4]; simp)).trans hF_66
  have hF_80 : F_72 rw4 = .inl (cs 16, 64, .inl fs4) := (hB1.2.2.2 rw4 (by rw [ht_26]; simp)).trans hF_67
  have hF_81 : F_72 w8 = .inr (0, [.ref rw8, .int (nI zw), .int 0]) := (hB1.2.2.2 w8 (by rw [hT_w8]; simp)).trans hF_68
  have hF_82 : F_72 rw8 = .inl (cs 16, 6100, .inl fo) := (hB1.2.2.2 rw8 (by rw [ht_38]; simp)).trans hF_69
  have hF_83 : F_72 h0 = .inr (7, [.ref d, .ref sl, .ref ke, .ref w0, .ref w1, .ref w2, .ref w3, .ref w4, .ref w5, .ref w6, .ref w7, .ref w8, .ref tk, .ref hs, .ref pw, .int v0_54, .int v1_55]) := (hB1.2.2.2 h0 (by rw [hT_h0]; simp)).trans hF_70
  have hF_84 : F_72 w5 = .inr (0, [.ref rw5, .int (nI 32), .int 0]) := (hB1.2.2.2 w5 (by rw [hT_w5]; simp)).trans hq_61
  have hF_85 : F_72 rw5 = .inl (cs 16, 32, .inl f2_60) := (hB1.2.2.2 rw5 (by rw [ht_29]; simp)).trans hq_62
  generalize H1 = H at hP hS ⊢
  have hDB := hq_76
  refine lv_aload_n hx hb dX7_isSigned_26 rfl (lv_at hl 0 rfl) ?_
  refine pg_get (ci := 7) (v := .ref pw) (C := RX7) (T := TX7) (N := 17) hx hb hts it_7 hown hK hP hL_h0 hF_83 rfl 14 (by decide) (hts _ kt_406) (fun _ h9 => h9) rfl dX7_isSigned_27 ?_
  refine lv_aload_n hx hb dX7_isSigned_30 rfl (lv_at hl 0 rfl) ?_
  refine pg_get (ci := 7) (v := .ref w3) (C := RX7) (T := TX7) (N := 17) hx hb hts it_7 hown hK hP hL_h0 hF_83 rfl 6 (by decide) (hts _ kt_347) (fun _ h9 => h9) rfl dX7_isSigned_31 ?_
  refine lv_aload_n hx hb dX7_isSigned_34 rfl (lv_at hl 0 rfl) ?_
  refine pg_get (ci := 7) (v := .ref w4) (C := RX7) (T := TX7) (N := 17) hx hb hts it_7 hown hK hP hL_h0 hF_83 rfl 7 (by decide) (hts _ kt_385) (fun _ h9 => h9) rfl dX7_isSigned_35 ?_
  refine lv_aload_n hx hb dX7_isSigned_38 rfl (lv_at hl 0 rfl) ?_
  refine pg_get (ci := 7) (v := .ref w6) (C := RX7) (T := TX7) (N := 17) hx hb hts it_7 hown hK hP hL_h0 hF_83 rfl 9 (by decide) (hts _ kt_407) (fun _ h9 => h9) rfl dX7_isSigned_39 ?_
  have hFc := pg_free hD hS hA
  obtain ⟨v_86, hF_87⟩ := hO.power hi_20 ht_21
  refine va_callv (va_runV (As := [.ref w3, .ref w4, .ref w6]) (rest := []) ⟨hx, hb, hml, hown, hts⟩ (s_X6_of_e l dC dI cs ty L H.size F_72 pw (ρ + 7) px py pz pu w3 (ρ + 85) rw3 64 w4 (ρ + 86) rw4 64 w6 (ρ + 88) rw6 64 fs3 b3 fs4 b4 hW hi_20 ht_21 hL_w3 hT_w3 hL_w4 hT_w4 hL_w6 hT_w6 hF_77 hF_78 (by omega) (by omega) (hBY3) hF_79 hF_80 (by omega) (by omega) (hBY4) (hlo) (hto) (by omega) (by omega) (by omega) (by omega) (by omega) (by omega) (by omega) (by omega) (by omega) (by omega) (by omega) (by omega) (by omega) (by omega) (by omega) (by omega) (by omega)) ⟨callB_of 3 hts (gi kt_408) rfl rfl rfl (hts _ kt_275) (hts _ kt_409) (by decide +kernel) ⟨Nat.le_of_ble_eq_true rfl, Nat.le_of_ble_eq_true rfl⟩, (hts _ kt_410), (hts _ kt_411)⟩ ⟨fun a U g mk q => ⟨q.1, PT.calling q.2⟩, pg_recv hK hP hi_20 hF_87 (q := (RX6, TX6, 5)) rfl, fun U hU hWm => ⟨rfl, PT.mk hU hWm hP hK hD hE hO⟩⟩ rfl rfl hl.1 rfl (lv_room (Nat.le_of_ble_eq_true rfl)) dX7_isSigned_42 ⟨by show _ + 0 ≤ 0; omega, by show _ + 0 ≤ 0; omega⟩) hS (fun q _ h => hFc q h) hFc (fun u t H1 locs ht hvm hw hB hz1 hk1 hS => ?_)
  obtain ⟨F_89, f3_90, c3_91, hB1, hq_92, hq_93, hq_94, hq_95⟩ := hB
  obtain ⟨hP, hD, hO, hR⟩ := QT.back hB1 ht hFc hR (fun q h => by simp only [List.mem_cons, List.not_mem_nil, or_false] at h ⊢; omega)
  have hF_96 : F_89 w3 = .inr (0, [.ref rw3, .int (nI 64), .int 0]) := (hB1.2.2.2 w3 (by rw [hT_w3]; simp <;> omega)).trans hF_77
  have hF_97 : F_89 rw3 = .inl (cs 16, 64, .inl fs3) := (hB1.2.2.2 rw3 (by rw [ht_23]; simp <;> omega)).trans hF_78
  have hF_98 : F_89 w4 = .inr (0, [.ref rw4, .int (nI 64), .int 0]) := (hB1.2.2.2 w4 (by rw [hT_w4]; simp <;> omega)).trans hF_79
  have hF_99 : F_89 rw4 = .inl (cs 16, 64, .inl fs4) := (hB1.2.2.2 rw4 (by rw [ht_26]; simp <;> omega)).trans hF_80
  have hF_100 : F_89 w8 = .inr (0, [.ref rw8, .int (nI zw), .int 0]) := (hB1.2.2.2 w8 (by rw [hT_w8]; simp <;> omega)).trans hF_81
  have hF_101 : F_89 rw8 = .inl (cs 16, 6100, .inl fo) := (hB1.2.2.2 rw8 (by rw [ht_38]; simp <;> omega)).trans hF_82
  have hF_102 : F_89 h0 = .inr (7, [.ref d, .ref sl, .ref ke, .ref w0, .ref w1, .ref w2, .ref w3, .ref w4, .ref w5, .ref w6, .ref w7, .ref w8, .ref tk, .ref hs, .ref pw, .int v0_54, .int v1_55]) := (hB1.2.2.2 h0 (by rw [hT_h0]; simp <;> omega)).trans hF_83
  have hF_103 : F_89 w5 = .inr (0, [.ref rw5, .int (nI 32), .int 0]) := (hB1.2.2.2 w5 (by rw [hT_w5]; simp <;> omega)).trans hF_84
  have hF_104 : F_89 rw5 = .inl (cs 16, 32, .inl f2_60) := (hB1.2.2.2 rw5 (by rw [ht_29]; simp <;> omega)).trans hF_85
  have hF_105 : F_89 w7 = .inr (0, [.ref rw7, .int (nI 64), .int 0]) := (hB1.2.2.2 w7 (by rw [hT_w7]; simp <;> omega)).trans hq_74
  have hF_106 : F_89 rw7 = .inl (cs 16, 64, .inl f2_73) := (hB1.2.2.2 rw7 (by rw [ht_35]; simp <;> omega)).trans hq_75
  generalize H1 = H at hP hS ⊢
  have hPB := hq_94
  have hPE := hq_95
  refine lv_aload_n hx hb dX7_isSigned_45 rfl (lv_at hl 0 rfl) ?_
  refine pg_get (ci := 7) (v := .ref w6) (C := RX7) (T := TX7) (N := 17) hx hb hts it_7 hown hK hP hL_h0 hF_102 rfl 9 (by decide) (hts _ kt_407) (fun _ h9 => h9) rfl dX7_isSigned_46 ?_
  refine lv_aload_n hx hb dX7_isSigned_49 rfl (lv_at hl 0 rfl) ?_
  refine pg_get (ci := 7) (v := .ref w7) (C := RX7) (T := TX7) (N := 17) hx hb hts it_7 hown hK hP hL_h0 hF_102 rfl 10 (by decide) (hts _ kt_360) (fun _ h9 => h9) rfl dX7_isSigned_50 ?_
  have hFc := pg_free hD hS hA
  refine va_calli (va_runV (As := [.ref w7]) (rest := []) ⟨hx, hb, hml, hown, hts⟩ (s_X0_same_e l dC dI cs ty L H.size F_89 w6 (ρ + 88) rw6 64 w7 (ρ + 89) rw7 64 64 64 f3_90 f2_73 0 hW hL_w6 hT_w6 hL_w7 hT_w7 hq_92 hq_93 hF_105 hF_106 (by omega) (by omega) (by omega) (by omega)) ⟨callB_of 1 hts (gi kt_85) rfl rfl rfl (hts _ kt_1) (hts _ kt_401) (by decide +kernel) ⟨Nat.le_of_ble_eq_true rfl, Nat.le_of_ble_eq_true rfl⟩, (hts _ kt_87), (hts _ kt_88)⟩ ⟨fun a U g mk q => ⟨q.1, PT.calling q.2⟩, pg_recv hK hP hL_w6 hq_92 (q := (RX0, TX0, 3)) rfl, fun U hU hWm => ⟨rfl, PT.mk hU hWm hP hK hD hE hO⟩⟩ rfl rfl hl.1 rfl (lv_room (Nat.le_of_ble_eq_true rfl)) dX7_isSigned_53 ⟨by show _ + 0 ≤ 0; omega, by show _ + 0 ≤ 0; omega⟩) hS (fun q _ h => hFc q h) hFc (fun r_107 u t H1 locs ht hvm hw hB hz1 hk1 hS => ?_)
  obtain ⟨F_108, hB1⟩ := hB
  obtain rfl : F_89 = F_108 := (funext (fun a => hB1.2.2.2 a List.not_mem_nil)).symm
  obtain ⟨hP, hD, hO, hR⟩ := QT.back hB1 ht hFc hR (fun q h => absurd h List.not_mem_nil)
  generalize H1 = H at hP hS ⊢
  have hw : (r_107 = 1 ∧ ((0 : Int32) = 0 ∧ 64 = 64 ∧ ∀ j9, j9 < 64 → f3_90 j9 = f2_73 j9)) ∨ (r_107 = 0 ∧ ¬ ((0 : Int32) = 0 ∧ 64 = 64 ∧ ∀ j9, j9 < 64 → f3_90 j9 = f2_73 j9)) := hw
  have hw_109 := hw
  refine W.widen (k := 0) (n := 0) (by omega) (by omega) ?_
  exact W.zret (v := r_107) (ty := .boolean) hx hb hr (by rcases hw_109 with q | q <;> rw [q.1] <;> decide) (fun t ht hWm => ⟨⟨r_107, (), rfl, (by rcases hw_109 with q | q; exact Or.inl ⟨q.1, (sgo_iff (fun j hj => (hPB j hj).1) (fun j hj => (hDB j hj).1) hPE).mp ((by_all hPB hDB).mp q.2.2.2)⟩; exact Or.inr ⟨q.1, fun w => q.2 ⟨rfl, rfl, (by_all hPB hDB).mpr ((sgo_iff (fun j hj => (hPB j hj).1) (fun j hj => (hDB j hj).1) hPE).mpr w)⟩⟩), ⟨F_89, QT.mk ht hP hD hO hR⟩⟩, hS.F ht⟩) hS.2.2 dX7_isSigned_56
