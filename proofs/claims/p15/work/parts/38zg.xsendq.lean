theorem dX1_takeSender_0 : decode cX1_takeSender 0 = .ok (.aload_n 2, 1) := by decide +kernel
theorem dX1_takeSender_1 : decode cX1_takeSender 1 = .ok (.bipush 64, 2) := by decide +kernel
theorem dX1_takeSender_3 : decode cX1_takeSender 3 = .ok (.iconst 0, 1) := by decide +kernel
theorem dX1_takeSender_4 : decode cX1_takeSender 4 = .ok (.aload_n 2, 1) := by decide +kernel
theorem dX1_takeSender_5 : decode cX1_takeSender 5 = .ok (.getfield 58, 3) := by decide +kernel
theorem dX1_takeSender_8 : decode cX1_takeSender 8 = .ok (.invokevirtual 61, 3) := by decide +kernel
theorem dX1_takeSender_11 : decode cX1_takeSender 11 = .ok (.istore_n 3, 1) := by decide +kernel
theorem dX1_takeSender_12 : decode cX1_takeSender 12 = .ok (.aload_n 2, 1) := by decide +kernel
theorem dX1_takeSender_13 : decode cX1_takeSender 13 = .ok (.iload_n 3, 1) := by decide +kernel
theorem dX1_takeSender_14 : decode cX1_takeSender 14 = .ok (.invokestatic 65, 3) := by decide +kernel
theorem dX1_takeSender_17 : decode cX1_takeSender 17 = .ok (.ifCond .eq 17, 3) := by decide +kernel
theorem dX1_takeSender_20 : decode cX1_takeSender 20 = .ok (.aload_n 2, 1) := by decide +kernel
theorem dX1_takeSender_21 : decode cX1_takeSender 21 = .ok (.iload_n 3, 1) := by decide +kernel
theorem dX1_takeSender_22 : decode cX1_takeSender 22 = .ok (.iconst 1, 1) := by decide +kernel
theorem dX1_takeSender_23 : decode cX1_takeSender 23 = .ok (.iadd, 1) := by decide +kernel
theorem dX1_takeSender_24 : decode cX1_takeSender 24 = .ok (.aload_n 2, 1) := by decide +kernel
theorem dX1_takeSender_25 : decode cX1_takeSender 25 = .ok (.getfield 58, 3) := by decide +kernel
theorem dX1_takeSender_28 : decode cX1_takeSender 28 = .ok (.invokevirtual 69, 3) := by decide +kernel
theorem dX1_takeSender_31 : decode cX1_takeSender 31 = .ok (.ifCond .ne 5, 3) := by decide +kernel
theorem dX1_takeSender_34 : decode cX1_takeSender 34 = .ok (.iconst 0, 1) := by decide +kernel
theorem dX1_takeSender_35 : decode cX1_takeSender 35 = .ok (.ireturn, 1) := by decide +kernel
theorem dX1_takeSender_36 : decode cX1_takeSender 36 = .ok (.aload_n 0, 1) := by decide +kernel
theorem dX1_takeSender_37 : decode cX1_takeSender 37 = .ok (.getfield 16, 3) := by decide +kernel
theorem dX1_takeSender_40 : decode cX1_takeSender 40 = .ok (.aload_n 2, 1) := by decide +kernel
theorem dX1_takeSender_41 : decode cX1_takeSender 41 = .ok (.invokevirtual 73, 3) := by decide +kernel
theorem dX1_takeSender_44 : decode cX1_takeSender 44 = .ok (.aload_n 0, 1) := by decide +kernel
theorem dX1_takeSender_45 : decode cX1_takeSender 45 = .ok (.getfield 20, 3) := by decide +kernel
theorem dX1_takeSender_48 : decode cX1_takeSender 48 = .ok (.invokevirtual 77, 3) := by decide +kernel
theorem dX1_takeSender_51 : decode cX1_takeSender 51 = .ok (.aload_n 0, 1) := by decide +kernel
theorem dX1_takeSender_52 : decode cX1_takeSender 52 = .ok (.getfield 20, 3) := by decide +kernel
theorem dX1_takeSender_55 : decode cX1_takeSender 55 = .ok (.aload_n 2, 1) := by decide +kernel
theorem dX1_takeSender_56 : decode cX1_takeSender 56 = .ok (.iconst 0, 1) := by decide +kernel
theorem dX1_takeSender_57 : decode cX1_takeSender 57 = .ok (.iload_n 3, 1) := by decide +kernel
theorem dX1_takeSender_58 : decode cX1_takeSender 58 = .ok (.invokevirtual 80, 3) := by decide +kernel
theorem dX1_takeSender_61 : decode cX1_takeSender 61 = .ok (.aload_n 0, 1) := by decide +kernel
theorem dX1_takeSender_62 : decode cX1_takeSender 62 = .ok (.getfield 23, 3) := by decide +kernel
theorem dX1_takeSender_65 : decode cX1_takeSender 65 = .ok (.invokevirtual 77, 3) := by decide +kernel
theorem dX1_takeSender_68 : decode cX1_takeSender 68 = .ok (.aload_n 0, 1) := by decide +kernel
theorem dX1_takeSender_69 : decode cX1_takeSender 69 = .ok (.getfield 23, 3) := by decide +kernel
theorem dX1_takeSender_72 : decode cX1_takeSender 72 = .ok (.aload_n 2, 1) := by decide +kernel
theorem dX1_takeSender_73 : decode cX1_takeSender 73 = .ok (.iload_n 3, 1) := by decide +kernel
theorem dX1_takeSender_74 : decode cX1_takeSender 74 = .ok (.iconst 1, 1) := by decide +kernel
theorem dX1_takeSender_75 : decode cX1_takeSender 75 = .ok (.iadd, 1) := by decide +kernel
theorem dX1_takeSender_76 : decode cX1_takeSender 76 = .ok (.aload_n 2, 1) := by decide +kernel
theorem dX1_takeSender_77 : decode cX1_takeSender 77 = .ok (.getfield 58, 3) := by decide +kernel
theorem dX1_takeSender_80 : decode cX1_takeSender 80 = .ok (.invokevirtual 80, 3) := by decide +kernel
theorem dX1_takeSender_83 : decode cX1_takeSender 83 = .ok (.aload_n 0, 1) := by decide +kernel
theorem dX1_takeSender_84 : decode cX1_takeSender 84 = .ok (.iload_n 1, 1) := by decide +kernel
theorem dX1_takeSender_85 : decode cX1_takeSender 85 = .ok (.putfield 39, 3) := by decide +kernel
theorem dX1_takeSender_88 : decode cX1_takeSender 88 = .ok (.aload_n 0, 1) := by decide +kernel
theorem dX1_takeSender_89 : decode cX1_takeSender 89 = .ok (.getfield 26, 3) := by decide +kernel
theorem dX1_takeSender_92 : decode cX1_takeSender 92 = .ok (.invokevirtual 77, 3) := by decide +kernel
theorem dX1_takeSender_95 : decode cX1_takeSender 95 = .ok (.aload_n 0, 1) := by decide +kernel
theorem dX1_takeSender_96 : decode cX1_takeSender 96 = .ok (.invokevirtual 84, 3) := by decide +kernel
theorem dX1_takeSender_99 : decode cX1_takeSender 99 = .ok (.aload_n 0, 1) := by decide +kernel
theorem dX1_takeSender_100 : decode cX1_takeSender 100 = .ok (.iconst 1, 1) := by decide +kernel
theorem dX1_takeSender_101 : decode cX1_takeSender 101 = .ok (.putfield 43, 3) := by decide +kernel
theorem dX1_takeSender_104 : decode cX1_takeSender 104 = .ok (.iconst 1, 1) := by decide +kernel
theorem dX1_takeSender_105 : decode cX1_takeSender 105 = .ok (.ireturn, 1) := by decide +kernel
theorem kt_610 : Cond.code yX1_isLocal cX1_isLocal 5 (some .boolean) ∈ tb := tb_at (i := 571) (by decide +kernel) (by decide +kernel)
theorem kt_611 : Cond.methodLink RX1 65 yX1_isLocal ∈ tb := tb_at (i := 569) (by decide +kernel) (by decide +kernel)
theorem kt_612 : Cond.static yX1_isLocal ∈ tb := tb_at (i := 570) (by decide +kernel) (by decide +kernel)
theorem kt_613 : Cond.methodLink RX1 69 yX0_isName ∈ tb := tb_at (i := 575) (by decide +kernel) (by decide +kernel)
theorem kt_614 : Cond.code yX1_addQuad cX1_addQuad 3 none ∈ tb := tb_at (i := 587) (by decide +kernel) (by decide +kernel)
theorem kt_615 : Cond.methodLink RX1 84 yX1_addQuad ∈ tb := tb_at (i := 584) (by decide +kernel) (by decide +kernel)
theorem kt_616 : Cond.instanceMethod yX1_addQuad ∈ tb := tb_at (i := 586) (by decide +kernel) (by decide +kernel)
theorem kt_617 : Cond.selects RX1 yX1_addQuad yX1_addQuad ∈ tb := tb_at (i := 0) (by decide +kernel) (by decide +kernel)
theorem kt_618 : Cond.fieldLink RX1 43 "PostGate$Checker" "isReady" "Z" ∈ tb := tb_at (i := 230) (by decide +kernel) (by decide +kernel)
def tpL (f : Nat → Int32) : Nat → Nat → List Nat
  | _, 0 => []
  | a, k + 1 => cdv (f a) :: tpL f (a + 1) k
theorem tpL_len {f : Nat → Int32} : ∀ (k a : Nat), (tpL f a k).length = k
  | 0, _ => rfl
  | k + 1, a => congrArg (fun n => n + 1) (tpL_len k (a + 1))
theorem tpL_get {f : Nat → Int32} : ∀ (k a j : Nat), j < k → (tpL f a k).getD j 0 = cdv (f (a + j))
  | 0, _, j, h => absurd h (Nat.not_lt_zero _)
  | _ + 1, _, 0, _ => rfl
  | k + 1, a, j + 1, h => by
    have h9 := tpL_get (f := f) k (a + 1) j (Nat.lt_of_succ_lt_succ h)
    rw [show a + 1 + j = a + (j + 1) by omega] at h9
    exact h9
theorem tp_src {f fc : Nat → Int32} {a k : Nat} (hc : ∀ j, j < k → cdv (f (a + j)) < 128) (h : ∀ j, j < k → fc j = f (a + j)) : SRC (tpL f a k) k fc := by
  refine ⟨tpL_len k a, fun j hj => ?_, fun j hj => ?_⟩
  · rw [h j hj, tpL_get k a j hj]
    exact cdv_in (hc j hj)
  · rw [tpL_get k a j hj]
    exact hc j hj
theorem cd_rng {x : Int32} {a b : Nat} (ha : a < 128) (hb : b < 128) (h : nI a ≤ x ∧ x ≤ nI b) : cdv x < 128 := by
  have h9 := (cdv_rng (x := x) ha hb).mpr ⟨Int32.not_lt.mpr h.1, Int32.not_lt.mpr h.2⟩
  omega
theorem cd_eq {x : Int32} {a : Nat} (ha : a < 128) (h : x = nI a) : cdv x < 128 := by
  have h9 := (cdv_eq (x := x) ha).mpr h
  omega
theorem okc_cd {x : Int32} (h : OKC x = true) : cdv x < 128 := by
  rcases of_decide_eq_true h with h | h | h | h
  · exact cd_rng (a := 97) (b := 122) (by omega) (by omega) h
  · exact cd_rng (a := 48) (b := 57) (by omega) (by omega) h
  · exact cd_eq (a := 45) (by omega) h
  · exact cd_eq (a := 95) (by omega) h
theorem loc_cd {x : Int32} (h : LOC x = true) : cdv x < 128 := by
  rcases of_decide_eq_true h with (h | h | h | h) | h | h
  · exact cd_eq (a := 46) (by omega) h
  · exact cd_eq (a := 45) (by omega) h
  · exact cd_eq (a := 95) (by omega) h
  · exact cd_eq (a := 43) (by omega) h
  · exact cd_rng (a := 97) (b := 122) (by omega) (by omega) h
  · exact cd_rng (a := 48) (b := 57) (by omega) (by omega) h
theorem nm_all {f : Nat → Int32} {b : Nat} : ∀ n i q, n = b - i → nmw f (b - i) i q = true → ∀ j, i ≤ j → j < b → cdv (f j) < 128 := by
  intro n
  induction n with
  | zero => intro i q hn _ j h1 h2; omega
  | succ n ih =>
    intro i q hn h j h1 h2
    have hi : i < b := by omega
    by_cases c : f i = 46
    · by_cases c2 : q = 0
      · exact absurd (nm_dot0 h hi c c2) (by decide)
      · have h9 := nm_dot h hi c c2
        by_cases e : j = i
        · rw [e]
          exact cd_eq (a := 46) (by omega) c
        · exact ih (i + 1) 0 (by omega) h9 j (by omega) h2
    · by_cases c2 : q = 20 ∨ OKC (f i) = false
      · exact absurd (nm_bad h hi c c2) (by decide)
      · have h3 : OKC (f i) = true := by
          cases e : OKC (f i) with
          | true => rfl
          | false => exact absurd (Or.inr e) c2
        have h9 := nm_chr h hi c (fun e => c2 (Or.inl e)) h3
        by_cases e : j = i
        · rw [e]
          exact okc_cd h3
        · exact ih (i + 1) (q + 1) (by omega) h9 j (by omega) h2
theorem NM_cd {f : Nat → Int32} {a b : Nat} (h : NM f a b = true) : ∀ j, a ≤ j → j < b → cdv (f j) < 128 := by
  have h9 := Bool.and_eq_true_iff.mp h
  exact nm_all (b - a) a 0 rfl h9.2
theorem snd_cd {f : Nat → Int32} {z k : Nat} (h1 : FST f 64 z k) (h2 : LCL f k) (h3 : NM f (k + 1) z = true) : ∀ j, j < z → cdv (f j) < 128 := by
  intro j hj
  rcases Nat.lt_trichotomy j k with q | q | q
  · exact loc_cd (h2.2.2 j q)
  · rw [q]
    exact cd_eq (a := 64) (by omega) (h1.2.2.resolve_left (by omega))
  · exact NM_cd h3 j (by omega) hj
def sdW (f : Nat → Int32) (z k : Nat) (x : Int32) : SDR := (tpL f 0 z, tpL f 0 k, tpL f (k + 1) (z - (k + 1)), qdL x)
theorem dgL_ok {v : Nat} (hv : v ≤ 255) : (dgL v).length ≤ 3 ∧ ∀ x ∈ dgL v, x < 128 := by
  unfold dgL
  by_cases c1 : v < 100
  · by_cases c2 : v < 10
    · rw [if_pos c1, if_pos c2]
      exact ⟨by show 1 ≤ 3; omega, fun x hx => by simp at hx; omega⟩
    · rw [if_pos c1, if_neg c2]
      exact ⟨by show 2 ≤ 3; omega, fun x hx => by simp at hx; omega⟩
  · rw [if_neg c1, if_neg (by omega)]
    exact ⟨by show 3 ≤ 3; omega, fun x hx => by simp at hx; omega⟩
theorem qdP_ok {x : Int32} : ∀ k, k ≤ 3 → (qdP x k).length ≤ 4 * k ∧ ∀ y ∈ qdP x k, y < 128 := by
  intro k
  induction k with
  | zero => intro _; exact ⟨Nat.le_refl _, fun y hy => absurd hy List.not_mem_nil⟩
  | succ k ih =>
    intro hk
    obtain ⟨h1, h2⟩ := ih (by omega)
    obtain ⟨h3, h4⟩ := dgL_ok (ocN_e x (shv k)).2
    have e9 : qdP x (k + 1) = qdP x k ++ (dgL (ocN x (shv k)) ++ [46]) := by
      show qdP x k ++ (dgL (ocN x (shv k)) ++ (if k < 3 then [46] else [])) = _
      rw [if_pos (by omega)]
    rw [e9]
    refine ⟨by rw [List.length_append, List.length_append]; show _ + (_ + 1) ≤ _; omega, fun y hy => ?_⟩
    rcases List.mem_append.mp hy with q | q
    · exact h2 y q
    · rcases List.mem_append.mp q with q | q
      · exact h4 y q
      · simp at q
        omega
theorem qdL_ok {x : Int32} : (qdL x).length ≤ 15 ∧ ∀ y ∈ qdL x, y < 128 := by
  obtain ⟨h1, h2⟩ := qdP_ok (x := x) 3 (Nat.le_refl _)
  obtain ⟨h3, h4⟩ := dgL_ok (ocN_e x (shv 3)).2
  have e9 : qdL x = qdP x 3 ++ (dgL (ocN x (shv 3)) ++ []) := rfl
  rw [e9]
  refine ⟨by rw [List.length_append, List.length_append]; show _ + (_ + 0) ≤ _; omega, fun y hy => ?_⟩
  rcases List.mem_append.mp hy with q | q
  · exact h2 y q
  · rw [List.append_nil] at q
    exact h4 y q
theorem getD_mem : ∀ (U : List Nat) (j : Nat), j < U.length → U.getD j 0 ∈ U
  | [], j, h => absurd h (Nat.not_lt_zero _)
  | x :: U, 0, _ => List.mem_cons_self ..
  | x :: U, j + 1, h => List.mem_cons_of_mem _ (getD_mem U j (Nat.lt_of_succ_lt_succ h))
theorem TXG.src {cs : Nat → ClassId} {F : Nat → va_E} {w n : Nat} {U : List Nat} (h : TXG cs F w n U) (hl : U.length ≤ n) (hc : ∀ y ∈ U, y < 128) : TXE cs F w n U := by
  obtain ⟨r, y, oo, f, h1, h2, h3, h4, h5⟩ := h
  rw [if_neg (by omega)] at h4
  rw [h4] at h1
  have h6 : U.length = y := by omega
  exact ⟨r, y, f, h1, h2, ⟨h6, h5, fun j hj => hc _ (getD_mem U j (by omega))⟩, by omega⟩
set_option maxHeartbeats 4000000 in
set_option maxRecDepth 100000 in
theorem s_X1_takeSender_c (l : Launch) (dC : Nat → ClassId) (dI : Nat → Nat → Nat) (cs : Nat → ClassId) (ty : TyM) (L : List Nat) (sz : Nat) (F : Nat → va_E) (h0 : Nat) (ρ : Nat) (d : Nat) (δ : Nat) (ea : Nat) (w0 : Nat) (w1 : Nat) (w2 : Nat) (w3 : Nat) (nm : Nat) (te : Nat) (g1 : Nat) (σ : Nat) (r1 : Nat) (n1 : Nat) (cc : Nat) (vo : Nat) (ad : Int32) (v1 : Int32) (z : Nat) (f : Nat → Int32) (x1 : Int32) (hW : WT ty L) (hL_h0 : h0 ∈ L) (hT_h0 : ty h0 = (1, ρ, [d, δ, ea, w0, w1, w2, w3, nm, te])) (hL_g1 : g1 ∈ L) (hT_g1 : ty g1 = (0, σ, [r1, n1])) (hFg : F g1 = .inr (0, [.ref r1, .int (nI z), .int 0])) (hFr : F r1 = .inl (cs 16, n1, .inl f)) (hzn : z ≤ n1) (hn9 : n1 ≤ 10000) (hsr : σ < ρ) (hFh : F h0 = .inr (1, [.ref d, .ref w0, .ref w1, .ref w2, .ref w3, .ref nm, .ref te, .int ad, .int v1, .int (nI cc), .int (nI vo)])) : Met l yX1_takeSender (.code yX1_takeSender cX1_takeSender 4 (some .boolean) :: tb) ({ frames := 3, cells := 0, slots := 0, locals := 95 }) (va_Pc [.ref h0, .int x1, .ref g1] (PT (dC, dI) cs ty L F sz)) (va_Qi (fun (r : Int32) (gs : Option Nat) => ((r = 1 ∧ ∃ k, FST f 64 z k ∧ LCL f k ∧ NM f (k + 1) z = true ∧ gs = some k) ∨ (r = 0 ∧ ¬ SND f z ∧ gs = none))) (fun (gs : Option Nat) T9 => ∃ F2 : Nat → va_E, QT (dC, dI) cs ty L [ρ, ρ + 31, ρ + 32, ρ + 33, ρ + 34] F F2 (va_A (va_pl L F) sz) T9 ∧ ((gs = none ∧ F2 = F) ∨ (∃ k, gs = some k ∧ F2 h0 = .inr (1, [.ref d, .ref w0, .ref w1, .ref w2, .ref w3, .ref nm, .ref te, .int x1, .int 1, .int (nI cc), .int (nI vo)]) ∧ SNP cs F2 w0 w1 w2 w3 (sdW f z k x1)))) (va_A (va_pl L F) sz)) 0 0 (va_A (va_pl L F) sz) := by
  refine Met.ofW (cc := cX1_takeSender) (maxL := 4) (ret := (some .boolean)) (by decide) rfl ?_
  intro p e s m args below meth c s₁ B hml hv
  obtain ⟨rfl, hsz, hP, hK, hD0, hE, hO⟩ := hv
  have hx := B.exec
  have hb := B.bytes
  have hr := B.returns
  have hts : ∀ w ∈ tb, w.before _ s = true := fun w h => atoms_spec (ws := .code yX1_takeSender cX1_takeSender 4 (some .boolean) :: tb) B.pre w (List.mem_cons_of_mem _ h)
  have hown : s.vm.findClass RX1 = some m.cls := findClass_of_methodNamed B.named
  have hlocks := B.notSynchronized
  subst hsz
  have hD := hD0.self (sz := s.heap.size)
  generalize hAe : va_A (va_pl L F) s.heap.size = A at hD ⊢
  have hA : ∀ q : Nat, s.heap.size ≤ q → A q := fun q h => by rw [← hAe]; exact Or.inr h
  have hS : va_S A s.heap s.heap [] := va_S.rf
  have hR : FR ty [ρ, ρ + 31, ρ + 32, ρ + 33, ρ + 34] F F := FR.refl
  have hl := lv_entry ([.ref h0, .int x1, .ref g1]) (n := 4) (Nat.le_of_ble_eq_true rfl)
  rw [lg_entry_eq]
  generalize (lg_sl ([.ref h0, .int x1, .ref g1]) ++ List.replicate (4 - (lg_sl ([.ref h0, .int x1, .ref g1])).length) Slot.unset).toArray = ls at hl ⊢
  have hl : lv_has ls 4 [(0, .ref h0), (1, .int x1), (2, .ref g1)] := hl
  obtain ⟨hi_1, ht_2, hi_3, ⟨r_4, ht_5⟩, hi_6, ⟨r_7, ht_8⟩, hi_9, ⟨r_10, ht_11⟩, hi_12, ⟨r_13, ht_14⟩, hi_15, ht_16, hi_17, ht_18⟩ := hW.chk hL_h0 hT_h0
  obtain ⟨hi_19, ht_20, hq_21⟩ := hW.bytes hL_g1 hT_g1
  refine lv_aload_n hx hb dX1_takeSender_0 rfl (lv_at hl 2 rfl) ?_
  refine lv_bipush (v := 64) hx hb dX1_takeSender_1 (by decide) ?_
  refine lv_iconst (v := 0) hx hb dX1_takeSender_3 (by decide) ?_
  refine lv_aload_n hx hb dX1_takeSender_4 rfl (lv_at hl 2 rfl) ?_
  refine pg_getN (ci := 0) (v := .int (nI z)) (C := RX0) (T := TX0) (N := 3) hx hb hts it_0 hown hK hP hL_g1 hFg rfl 1 (by decide) (hE.nest kn_23) (fun _ h9 => h9) rfl dX1_takeSender_5 ?_
  have hFc := pg_free hD hS hA
  refine va_calli (va_runV (As := [.int 64, .int 0, .int (nI z)]) (rest := []) ⟨hx, hb, hml, hown, hts⟩ (s_X0_find_e l dC dI cs ty L s.heap.size F g1 σ r1 n1 z z f 64 hW hL_g1 hT_g1 hFg hFr (by omega) (by omega) (by omega)) ⟨callB_of 3 hts (gi kt_122) rfl rfl rfl (hts _ kt_1) (hts _ kt_561) (by decide +kernel) ⟨Nat.le_of_ble_eq_true rfl, Nat.le_of_ble_eq_true rfl⟩, (hts _ kt_124), (hts _ kt_125)⟩ ⟨fun a U g mk q => ⟨q.1, PT.calling q.2⟩, pg_recv hK hP hL_g1 hFg (q := (RX0, TX0, 3)) rfl, fun U hU hWm => ⟨rfl, PT.mk hU hWm hP hK hD hE hO⟩⟩ rfl rfl hl.1 rfl (lv_room (Nat.le_of_ble_eq_true rfl)) dX1_takeSender_8 ⟨by show _ + 0 ≤ 0; omega, by show _ + 0 ≤ 0; omega⟩) hS (fun q _ h => hFc q h) hFc (fun r_22 u t H1 locs ht hvm hw hB hz1 hk1 hS => ?_)
  obtain ⟨F_23, hB1⟩ := hB
  obtain rfl : F = F_23 := (funext (fun a => hB1.2.2.2 a List.not_mem_nil)).symm
  obtain ⟨hP, hD, hO, hR⟩ := QT.back hB1 ht hFc hR (fun q h => absurd h List.not_mem_nil)
  generalize H1 = H at hP hS ⊢
  have hw : (∃ k : Nat, k ≤ z ∧ r_22 = nI k ∧ (∀ j, j < k → ¬ f j = 64) ∧ (k = z ∨ f k = 64)) := hw
  have hw_24 := hw
  obtain ⟨kk, hk1k, hk2k, hk3k, hk4k⟩ := hw_24
  subst hk2k
  have hfs : FST f 64 z kk := ⟨hk1k, hk3k, hk4k⟩
  refine lv_istore_n (lv' := [(3, .int (nI kk)), (0, .ref h0), (1, .int x1), (2, .ref g1)]) hx hb dX1_takeSender_11 rfl hl (by decide) rfl (fun ls hl => ?_)
  refine lv_aload_n hx hb dX1_takeSender_12 rfl (lv_at hl 3 rfl) ?_
  refine lv_iload_n hx hb dX1_takeSender_13 rfl (lv_at hl 0 rfl) ?_
  have hFc := pg_free hD hS hA
  refine va_calli (va_runS (As := [.ref g1, .int (nI kk)]) (rest := []) ⟨hx, hb, hml, hown, hts⟩ (s_X1_isLocal_e l dC dI cs ty L H.size F g1 σ r1 n1 z kk f hW hL_g1 hT_g1 hFg hFr (by omega) (by omega) (by omega)) ⟨callB_of 2 hts (gi kt_610) rfl rfl rfl (hts _ kt_572) (hts _ kt_611) (by decide +kernel) ⟨Nat.le_of_ble_eq_true rfl, Nat.le_of_ble_eq_true rfl⟩, (hts _ kt_612)⟩ ⟨fun a U g mk q => ⟨q.1, PT.calling q.2⟩, fun U hU hWm => ⟨rfl, PT.mk hU hWm hP hK hD hE hO⟩⟩ rfl rfl hl.1 rfl (lv_room (Nat.le_of_ble_eq_true rfl)) dX1_takeSender_14 ⟨by show _ + 0 ≤ 0; omega, by show _ + 0 ≤ 0; omega⟩) hS (fun q _ h => hFc q h) hFc (fun r_25 u t H1 locs ht hvm hw hB hz1 hk1 hS => ?_)
  obtain ⟨F_26, hB1⟩ := hB
  obtain rfl : F = F_26 := (funext (fun a => hB1.2.2.2 a List.not_mem_nil)).symm
  obtain ⟨hP, hD, hO, hR⟩ := QT.back hB1 ht hFc hR (fun q h => absurd h List.not_mem_nil)
  generalize H1 = H at hP hS ⊢
  have hw : (r_25 = 1 ∧ LCL f kk) ∨ (r_25 = 0 ∧ ¬ LCL f kk) := hw
  have hw_27 := hw
  refine lv_if_eq (tgt := 34) hx hb dX1_takeSender_17 (by decide) (fun c_28 => ?_) (fun c_28 => ?_)
  ·
    refine lv_iconst (v := 0) hx hb dX1_takeSender_34 (by decide) ?_
    refine W.widen (k := 0) (n := 0) (by omega) (by omega) ?_
    exact W.zret (v := 0) (ty := .boolean) hx hb hr (by decide) (fun t ht hWm => ⟨⟨0, none, rfl, (Or.inr ⟨rfl, snd_n hfs (fun q => lcl0 hw_27 c_28 q.1), rfl⟩), ⟨F, QT.mk ht hP hD hO hR, (Or.inl ⟨rfl, rfl⟩)⟩⟩, hS.F ht⟩) hS.2.2 dX1_takeSender_35
  ·
    refine lv_aload_n hx hb dX1_takeSender_20 rfl (lv_at hl 3 rfl) ?_
    refine lv_iload_n hx hb dX1_takeSender_21 rfl (lv_at hl 0 rfl) ?_
    refine lv_iconst (v := 1) hx hb dX1_takeSender_22 (by decide) ?_
    refine lv_iadd hx hb dX1_takeSender_23 ?_
    refine lv_topi (fun x_29 ex_29 => ?_)
    obtain rfl : x_29 = (nI (kk + 1)) := ex_29.trans (nI_1 kk)
    refine lv_aload_n hx hb dX1_takeSender_24 rfl (lv_at hl 3 rfl) ?_
    refine pg_getN (ci := 0) (v := .int (nI z)) (C := RX0) (T := TX0) (N := 3) hx hb hts it_0 hown hK hP hL_g1 hFg rfl 1 (by decide) (hE.nest kn_23) (fun _ h9 => h9) rfl dX1_takeSender_25 ?_
    have hFc := pg_free hD hS hA
    refine va_calli (va_runV (As := [.int (nI (kk + 1)), .int (nI z)]) (rest := []) ⟨hx, hb, hml, hown, hts⟩ (s_X0_isName_g l dC dI cs ty L H.size F g1 σ r1 n1 z (kk + 1) z f hW hL_g1 hT_g1 hFg hFr (by omega) (by omega) (by omega) (by omega)) ⟨callB_of 2 hts (gi kt_108) rfl rfl rfl (hts _ kt_1) (hts _ kt_613) (by decide +kernel) ⟨Nat.le_of_ble_eq_true rfl, Nat.le_of_ble_eq_true rfl⟩, (hts _ kt_110), (hts _ kt_111)⟩ ⟨fun a U g mk q => ⟨q.1, PT.calling q.2⟩, pg_recv hK hP hL_g1 hFg (q := (RX0, TX0, 3)) rfl, fun U hU hWm => ⟨rfl, PT.mk hU hWm hP hK hD hE hO⟩⟩ rfl rfl hl.1 rfl (lv_room (Nat.le_of_ble_eq_true rfl)) dX1_takeSender_28 ⟨by show _ + 0 ≤ 0; omega, by show _ + 0 ≤ 0; omega⟩) hS (fun q _ h => hFc q h) hFc (fun r_30 u t H1 locs ht hvm hw hB hz1 hk1 hS => ?_)
    obtain ⟨F_31, hB1⟩ := hB
    obtain rfl : F = F_31 := (funext (fun a => hB1.2.2.2 a List.not_mem_nil)).symm
    obtain ⟨hP, hD, hO, hR⟩ := QT.back hB1 ht hFc hR (fun q h => absurd h List.not_mem_nil)
    generalize H1 = H at hP hS ⊢
    have hw : r_30 = (if NM f (kk + 1) z = true then 1 else 0) := hw
    have hw_32 := hw
    refine lv_if_ne (tgt := 36) hx hb dX1_takeSender_31 (by decide) (fun c_33 => ?_) (fun c_33 => ?_)
    ·
      have hlc := lcl1 hw_27 c_28
      have hnm := ifb1 hw_32 c_33
      have hnl := NM_len hnm
      have hcd := snd_cd hfs hlc hnm
      have hl30 := hlc.2.1
      obtain ⟨hi_34, ht_35, hq_36⟩ := hW.bytes hi_3 ht_5
      obtain ⟨hi_37, ht_38, hq_39⟩ := hW.bytes hi_6 ht_8
      obtain ⟨hi_40, ht_41, hq_42⟩ := hW.bytes hi_9 ht_11
      obtain ⟨hi_43, ht_44, hq_45⟩ := hW.bytes hi_12 ht_14
      refine lv_aload_n hx hb dX1_takeSender_36 rfl (lv_at hl 1 rfl) ?_
      refine pg_get (ci := 1) (v := .ref w0) (C := RX1) (T := TX1) (N := 11) hx hb hts it_1 hown hK hP hL_h0 hFh rfl 1 (by decide) (hts _ kt_568) (fun _ h9 => h9) rfl dX1_takeSender_37 ?_
      refine lv_aload_n hx hb dX1_takeSender_40 rfl (lv_at hl 3 rfl) ?_
      have hFc := pg_free hD hS hA
      obtain ⟨z_46, o_47, hF_48, hq_49, hq_50⟩ := hO.bytes hi_3 ht_5
      refine va_callv (va_runV (As := [.ref g1]) (rest := []) ⟨hx, hb, hml, hown, hts⟩ (s_X0_copy_e l dC dI cs ty L H.size F w0 (ρ + 31) r_4 91 g1 σ r1 n1 z f hW hi_3 ht_5 hL_g1 hT_g1 hFg hFr (by omega) (by omega) (by omega) (by omega) (by omega)) ⟨callB_of 1 hts (gi kt_221) rfl rfl rfl (hts _ kt_1) (hts _ kt_587) (by decide +kernel) ⟨Nat.le_of_ble_eq_true rfl, Nat.le_of_ble_eq_true rfl⟩, (hts _ kt_223), (hts _ kt_224)⟩ ⟨fun a U g mk q => ⟨q.1, PT.calling q.2⟩, pg_recv hK hP hi_3 hF_48 (q := (RX0, TX0, 3)) rfl, fun U hU hWm => ⟨rfl, PT.mk hU hWm hP hK hD hE hO⟩⟩ rfl rfl hl.1 rfl (lv_room (Nat.le_of_ble_eq_true rfl)) dX1_takeSender_41 ⟨by show _ + 0 ≤ 0; omega, by show _ + 0 ≤ 0; omega⟩) hS (fun q _ h => hFc q h) hFc (fun u t H1 locs ht hvm hw hB hz1 hk1 hS => ?_)
      obtain ⟨F_52, fc_53, hB1, hq_54, hq_55, hq_56⟩ := hB
      obtain ⟨hP, hD, hO, hR⟩ := QT.back hB1 ht hFc hR (fun q h => by simp only [List.mem_cons, List.not_mem_nil, or_false] at h ⊢; omega)
      have hF_57 : F_52 g1 = .inr (0, [.ref r1, .int (nI z), .int 0]) := (hB1.2.2.2 g1 (by rw [hT_g1]; simp only [List.mem_cons, List.not_mem_nil, or_false]; omega)).trans hFg
      have hF_58 : F_52 r1 = .inl (cs 16, n1, .inl f) := (hB1.2.2.2 r1 (by rw [ht_20]; simp only [List.mem_cons, List.not_mem_nil, or_false]; omega)).trans hFr
      have hF_59 : F_52 h0 = .inr (1, [.ref d, .ref w0, .ref w1, .ref w2, .ref w3, .ref nm, .ref te, .int ad, .int v1, .int (nI cc), .int (nI vo)]) := (hB1.2.2.2 h0 (by rw [hT_h0]; simp)).trans hFh
      generalize H1 = H at hP hS ⊢
      refine lv_aload_n hx hb dX1_takeSender_44 rfl (lv_at hl 1 rfl) ?_
      refine pg_get (ci := 1) (v := .ref w1) (C := RX1) (T := TX1) (N := 11) hx hb hts it_1 hown hK hP hL_h0 hF_59 rfl 2 (by decide) (hts _ kt_566) (fun _ h9 => h9) rfl dX1_takeSender_45 ?_
      have hFc := pg_free hD hS hA
      obtain ⟨z_60, o_61, hF_62, hq_63, hq_64⟩ := hO.bytes hi_6 ht_8
      refine va_callv (va_runV (As := []) (rest := []) ⟨hx, hb, hml, hown, hts⟩ (s_X0_clear l dC dI cs ty L H.size F_52 w1 (ρ + 32) r_7 30 hW hi_6 ht_8) ⟨callB_of 0 hts (gi kt_32) rfl rfl rfl (hts _ kt_1) (hts _ kt_580) (by decide +kernel) ⟨Nat.le_of_ble_eq_true rfl, Nat.le_of_ble_eq_true rfl⟩, (hts _ kt_34), (hts _ kt_35)⟩ ⟨fun a U g mk q => ⟨q.1, PT.calling q.2⟩, pg_recv hK hP hi_6 hF_62 (q := (RX0, TX0, 3)) rfl, fun U hU hWm => ⟨rfl, PT.mk hU hWm hP hK hD hE hO⟩⟩ rfl rfl hl.1 rfl (lv_room (Nat.le_of_ble_eq_true rfl)) dX1_takeSender_48 ⟨by show _ + 0 ≤ 0; omega, by show _ + 0 ≤ 0; omega⟩) hS (fun q _ h => hFc q h) hFc (fun u t H1 locs ht hvm hw hB hz1 hk1 hS => ?_)
      obtain ⟨F_66, hB1, hq_67⟩ := hB
      obtain ⟨hP, hD, hO, hR⟩ := QT.back hB1 ht hFc hR (fun q h => by simp only [List.mem_cons, List.not_mem_nil, or_false] at h ⊢; omega)
      have hF_68 : F_66 g1 = .inr (0, [.ref r1, .int (nI z), .int 0]) := (hB1.2.2.2 g1 (by rw [hT_g1]; simp only [List.mem_cons, List.not_mem_nil, or_false]; omega)).trans hF_57
      have hF_69 : F_66 r1 = .inl (cs 16, n1, .inl f) := (hB1.2.2.2 r1 (by rw [ht_20]; simp only [List.mem_cons, List.not_mem_nil, or_false]; omega)).trans hF_58
      have hF_70 : F_66 h0 = .inr (1, [.ref d, .ref w0, .ref w1, .ref w2, .ref w3, .ref nm, .ref te, .int ad, .int v1, .int (nI cc), .int (nI vo)]) := (hB1.2.2.2 h0 (by rw [hT_h0]; simp)).trans hF_59
      have hF_71 : F_66 w0 = .inr (0, [.ref r_4, .int (nI z), .int 0]) := (hB1.2.2.2 w0 (by rw [ht_5]; simp)).trans hq_54
      have hF_72 : F_66 r_4 = .inl (cs 16, 91, .inl fc_53) := (hB1.2.2.2 r_4 (by rw [ht_35]; simp)).trans hq_55
      generalize H1 = H at hP hS ⊢
      refine lv_aload_n hx hb dX1_takeSender_51 rfl (lv_at hl 1 rfl) ?_
      refine pg_get (ci := 1) (v := .ref w1) (C := RX1) (T := TX1) (N := 11) hx hb hts it_1 hown hK hP hL_h0 hF_70 rfl 2 (by decide) (hts _ kt_566) (fun _ h9 => h9) rfl dX1_takeSender_52 ?_
      refine lv_aload_n hx hb dX1_takeSender_55 rfl (lv_at hl 3 rfl) ?_
      refine lv_iconst (v := 0) hx hb dX1_takeSender_56 (by decide) ?_
      refine lv_iload_n hx hb dX1_takeSender_57 rfl (lv_at hl 0 rfl) ?_
      refine W.eq (g2 := F0 m 58 ls [.int (nI kk), .int (nI 0), .ref g1, .ref w1]) rfl ?_
      have hFc := pg_free hD hS hA
      refine va_callv (va_runV (As := [.ref g1, .int (nI 0), .int (nI kk)]) (rest := []) ⟨hx, hb, hml, hown, hts⟩ (s_X0_addRange_e l dC dI cs ty L H.size F_66 w1 (ρ + 32) r_7 30 g1 σ r1 n1 z 0 kk f hW hi_6 ht_8 hL_g1 hT_g1 hq_67 hF_68 hF_69 (by omega) (by omega) (by omega) (Nat.zero_le _) (by omega) (by omega)) ⟨callB_of 3 hts (gi kt_36) rfl rfl rfl (hts _ kt_1) (hts _ kt_562) (by decide +kernel) ⟨Nat.le_of_ble_eq_true rfl, Nat.le_of_ble_eq_true rfl⟩, (hts _ kt_38), (hts _ kt_39)⟩ ⟨fun a U g mk q => ⟨q.1, PT.calling q.2⟩, pg_recv hK hP hi_6 hq_67 (q := (RX0, TX0, 3)) rfl, fun U hU hWm => ⟨rfl, PT.mk hU hWm hP hK hD hE hO⟩⟩ rfl rfl hl.1 rfl (lv_room (Nat.le_of_ble_eq_true rfl)) dX1_takeSender_58 ⟨by show _ + 0 ≤ 0; omega, by show _ + 0 ≤ 0; omega⟩) hS (fun q _ h => hFc q h) hFc (fun u t H1 locs ht hvm hw hB hz1 hk1 hS => ?_)
      obtain ⟨F_74, fc_75, hB1, hq_76, hq_77, hq_78⟩ := hB
      obtain ⟨hP, hD, hO, hR⟩ := QT.back hB1 ht hFc hR (fun q h => by simp only [List.mem_cons, List.not_mem_nil, or_false] at h ⊢; omega)
      have hF_79 : F_74 g1 = .inr (0, [.ref r1, .int (nI z), .int 0]) := (hB1.2.2.2 g1 (by rw [hT_g1]; simp only [List.mem_cons, List.not_mem_nil, or_false]; omega)).trans hF_68
      have hF_80 : F_74 r1 = .inl (cs 16, n1, .inl f) := (hB1.2.2.2 r1 (by rw [ht_20]; simp only [List.mem_cons, List.not_mem_nil, or_false]; omega)).trans hF_69
      have hF_81 : F_74 h0 = .inr (1, [.ref d, .ref w0, .ref w1, .ref w2, .ref w3, .ref nm, .ref te, .int ad, .int v1, .int (nI cc), .int (nI vo)]) := (hB1.2.2.2 h0 (by rw [hT_h0]; simp)).trans hF_70
      have hF_82 : F_74 w0 = .inr (0, [.ref r_4, .int (nI z), .int 0]) := (hB1.2.2.2 w0 (by rw [ht_5]; simp)).trans hF_71
      have hF_83 : F_74 r_4 = .inl (cs 16, 91, .inl fc_53) := (hB1.2.2.2 r_4 (by rw [ht_35]; simp)).trans hF_72
      generalize H1 = H at hP hS ⊢
      refine lv_aload_n hx hb dX1_takeSender_61 rfl (lv_at hl 1 rfl) ?_
      refine pg_get (ci := 1) (v := .ref w2) (C := RX1) (T := TX1) (N := 11) hx hb hts it_1 hown hK hP hL_h0 hF_81 rfl 3 (by decide) (hts _ kt_567) (fun _ h9 => h9) rfl dX1_takeSender_62 ?_
      have hFc := pg_free hD hS hA
      obtain ⟨z_84, o_85, hF_86, hq_87, hq_88⟩ := hO.bytes hi_9 ht_11
      refine va_callv (va_runV (As := []) (rest := []) ⟨hx, hb, hml, hown, hts⟩ (s_X0_clear l dC dI cs ty L H.size F_74 w2 (ρ + 33) r_10 60 hW hi_9 ht_11) ⟨callB_of 0 hts (gi kt_32) rfl rfl rfl (hts _ kt_1) (hts _ kt_580) (by decide +kernel) ⟨Nat.le_of_ble_eq_true rfl, Nat.le_of_ble_eq_true rfl⟩, (hts _ kt_34), (hts _ kt_35)⟩ ⟨fun a U g mk q => ⟨q.1, PT.calling q.2⟩, pg_recv hK hP hi_9 hF_86 (q := (RX0, TX0, 3)) rfl, fun U hU hWm => ⟨rfl, PT.mk hU hWm hP hK hD hE hO⟩⟩ rfl rfl hl.1 rfl (lv_room (Nat.le_of_ble_eq_true rfl)) dX1_takeSender_65 ⟨by show _ + 0 ≤ 0; omega, by show _ + 0 ≤ 0; omega⟩) hS (fun q _ h => hFc q h) hFc (fun u t H1 locs ht hvm hw hB hz1 hk1 hS => ?_)
      obtain ⟨F_90, hB1, hq_91⟩ := hB
      obtain ⟨hP, hD, hO, hR⟩ := QT.back hB1 ht hFc hR (fun q h => by simp only [List.mem_cons, List.not_mem_nil, or_false] at h ⊢; omega)
      have hF_92 : F_90 g1 = .inr (0, [.ref r1, .int (nI z), .int 0]) := (hB1.2.2.2 g1 (by rw [hT_g1]; simp only [List.mem_cons, List.not_mem_nil, or_false]; omega)).trans hF_79
      have hF_93 : F_90 r1 = .inl (cs 16, n1, .inl f) := (hB1.2.2.2 r1 (by rw [ht_20]; simp only [List.mem_cons, List.not_mem_nil, or_false]; omega)).trans hF_80
      have hF_94 : F_90 h0 = .inr (1, [.ref d, .ref w0, .ref w1, .ref w2, .ref w3, .ref nm, .ref te, .int ad, .int v1, .int (nI cc), .int (nI vo)]) := (hB1.2.2.2 h0 (by rw [hT_h0]; simp)).trans hF_81
      have hF_95 : F_90 w0 = .inr (0, [.ref r_4, .int (nI z), .int 0]) := (hB1.2.2.2 w0 (by rw [ht_5]; simp)).trans hF_82
      have hF_96 : F_90 r_4 = .inl (cs 16, 91, .inl fc_53) := (hB1.2.2.2 r_4 (by rw [ht_35]; simp)).trans hF_83
      have hF_97 : F_90 w1 = .inr (0, [.ref r_7, .int (nI (kk - 0)), .int 0]) := (hB1.2.2.2 w1 (by rw [ht_8]; simp)).trans hq_76
      have hF_98 : F_90 r_7 = .inl (cs 16, 30, .inl fc_75) := (hB1.2.2.2 r_7 (by rw [ht_38]; simp)).trans hq_77
      generalize H1 = H at hP hS ⊢
      refine lv_aload_n hx hb dX1_takeSender_68 rfl (lv_at hl 1 rfl) ?_
      refine pg_get (ci := 1) (v := .ref w2) (C := RX1) (T := TX1) (N := 11) hx hb hts it_1 hown hK hP hL_h0 hF_94 rfl 3 (by decide) (hts _ kt_567) (fun _ h9 => h9) rfl dX1_takeSender_69 ?_
      refine lv_aload_n hx hb dX1_takeSender_72 rfl (lv_at hl 3 rfl) ?_
      refine lv_iload_n hx hb dX1_takeSender_73 rfl (lv_at hl 0 rfl) ?_
      refine lv_iconst (v := 1) hx hb dX1_takeSender_74 (by decide) ?_
      refine lv_iadd hx hb dX1_takeSender_75 ?_
      refine lv_topi (fun x_99 ex_99 => ?_)
      obtain rfl : x_99 = (nI (kk + 1)) := ex_99.trans (nI_1 kk)
      refine lv_aload_n hx hb dX1_takeSender_76 rfl (lv_at hl 3 rfl) ?_
      refine pg_getN (ci := 0) (v := .int (nI z)) (C := RX0) (T := TX0) (N := 3) hx hb hts it_0 hown hK hP hL_g1 hF_92 rfl 1 (by decide) (hE.nest kn_23) (fun _ h9 => h9) rfl dX1_takeSender_77 ?_
      have hFc := pg_free hD hS hA
      refine va_callv (va_runV (As := [.ref g1, .int (nI (kk + 1)), .int (nI z)]) (rest := []) ⟨hx, hb, hml, hown, hts⟩ (s_X0_addRange_e l dC dI cs ty L H.size F_90 w2 (ρ + 33) r_10 60 g1 σ r1 n1 z (kk + 1) z f hW hi_9 ht_11 hL_g1 hT_g1 hq_91 hF_92 hF_93 (by omega) (by omega) (by omega) (by omega) (Nat.le_refl _) (by omega)) ⟨callB_of 3 hts (gi kt_36) rfl rfl rfl (hts _ kt_1) (hts _ kt_562) (by decide +kernel) ⟨Nat.le_of_ble_eq_true rfl, Nat.le_of_ble_eq_true rfl⟩, (hts _ kt_38), (hts _ kt_39)⟩ ⟨fun a U g mk q => ⟨q.1, PT.calling q.2⟩, pg_recv hK hP hi_9 hq_91 (q := (RX0, TX0, 3)) rfl, fun U hU hWm => ⟨rfl, PT.mk hU hWm hP hK hD hE hO⟩⟩ rfl rfl hl.1 rfl (lv_room (Nat.le_of_ble_eq_true rfl)) dX1_takeSender_80 ⟨by show _ + 0 ≤ 0; omega, by show _ + 0 ≤ 0; omega⟩) hS (fun q _ h => hFc q h) hFc (fun u t H1 locs ht hvm hw hB hz1 hk1 hS => ?_)
      obtain ⟨F_101, fc_102, hB1, hq_103, hq_104, hq_105⟩ := hB
      obtain ⟨hP, hD, hO, hR⟩ := QT.back hB1 ht hFc hR (fun q h => by simp only [List.mem_cons, List.not_mem_nil, or_false] at h ⊢; omega)
      have hF_106 : F_101 g1 = .inr (0, [.ref r1, .int (nI z), .int 0]) := (hB1.2.2.2 g1 (by rw [hT_g1]; simp only [List.mem_cons, List.not_mem_nil, or_false]; omega)).trans hF_92
      have hF_107 : F_101 r1 = .inl (cs 16, n1, .inl f) := (hB1.2.2.2 r1 (by rw [ht_20]; simp only [List.mem_cons, List.not_mem_nil, or_false]; omega)).trans hF_93
      have hF_108 : F_101 h0 = .inr (1, [.ref d, .ref w0, .ref w1, .ref w2, .ref w3, .ref nm, .ref te, .int ad, .int v1, .int (nI cc), .int (nI vo)]) := (hB1.2.2.2 h0 (by rw [hT_h0]; simp)).trans hF_94
      have hF_109 : F_101 w0 = .inr (0, [.ref r_4, .int (nI z), .int 0]) := (hB1.2.2.2 w0 (by rw [ht_5]; simp)).trans hF_95
      have hF_110 : F_101 r_4 = .inl (cs 16, 91, .inl fc_53) := (hB1.2.2.2 r_4 (by rw [ht_35]; simp)).trans hF_96
      have hF_111 : F_101 w1 = .inr (0, [.ref r_7, .int (nI (kk - 0)), .int 0]) := (hB1.2.2.2 w1 (by rw [ht_8]; simp)).trans hF_97
      have hF_112 : F_101 r_7 = .inl (cs 16, 30, .inl fc_75) := (hB1.2.2.2 r_7 (by rw [ht_38]; simp)).trans hF_98
      generalize H1 = H at hP hS ⊢
      refine lv_aload_n hx hb dX1_takeSender_83 rfl (lv_at hl 1 rfl) ?_
      refine lv_iload_n hx hb dX1_takeSender_84 rfl (lv_at hl 2 rfl) ?_
      refine pg_put (ci := 1) (v := .int x1) (ty := .int) (C := RX1) (T := TX1) (N := 11) hx hb hts it_1 tyX1 tyX1_ok nmX1 hown hK hP hD hS hL_h0 hF_108 rfl 7 (by decide) (hts _ kt_600) (fun _ h9 => h9) rfl (by decide +kernel) (rfl) (rfl) (Nat.le_of_ble_eq_true rfl) dX1_takeSender_85 (fun H locs hP hD hS => ?_)
      obtain ⟨F_113, he_114, hP, hD, hO, hR⟩ : ∃ G, G = va_up F_101 h0 (.inr (1, [.ref d, .ref w0, .ref w1, .ref w2, .ref w3, .ref nm, .ref te, .int x1, .int v1, .int (nI cc), .int (nI vo)])) ∧ va_P (dC, dI) vwCl (va_pl L G) H ∧ va_D A (va_pl L G) ∧ OK cs ty L G ∧ FR ty [ρ, ρ + 31, ρ + 32, ρ + 33, ρ + 34] F G := ⟨_, rfl, hP, hD, hO.up (sh.chk hT_h0 ⟨x1, v1, (nI cc), (nI vo), rfl⟩), hR.up hT_h0 (by simp)⟩
      have hF_115 : F_113 h0 = .inr (1, [.ref d, .ref w0, .ref w1, .ref w2, .ref w3, .ref nm, .ref te, .int x1, .int v1, .int (nI cc), .int (nI vo)]) := by rw [he_114]; exact up_self
      have hF_116 : F_113 g1 = .inr (0, [.ref r1, .int (nI z), .int 0]) := by rw [he_114, up_ne (ne_ty hT_g1 hT_h0 (by simp))]; exact hF_106
      have hF_117 : F_113 r1 = .inl (cs 16, n1, .inl f) := by rw [he_114, up_ne (ne_ty ht_20 hT_h0 (by simp))]; exact hF_107
      have hF_118 : F_113 w0 = .inr (0, [.ref r_4, .int (nI z), .int 0]) := by rw [he_114, up_ne (ne_ty ht_5 hT_h0 (by simp))]; exact hF_109
      have hF_119 : F_113 r_4 = .inl (cs 16, 91, .inl fc_53) := by rw [he_114, up_ne (ne_ty ht_35 hT_h0 (by simp))]; exact hF_110
      have hF_120 : F_113 w1 = .inr (0, [.ref r_7, .int (nI (kk - 0)), .int 0]) := by rw [he_114, up_ne (ne_ty ht_8 hT_h0 (by simp))]; exact hF_111
      have hF_121 : F_113 r_7 = .inl (cs 16, 30, .inl fc_75) := by rw [he_114, up_ne (ne_ty ht_38 hT_h0 (by simp))]; exact hF_112
      have hF_122 : F_113 w2 = .inr (0, [.ref r_10, .int (nI (z - (kk + 1))), .int 0]) := by rw [he_114, up_ne (ne_ty ht_11 hT_h0 (by simp))]; exact hq_103
      have hF_123 : F_113 r_10 = .inl (cs 16, 60, .inl fc_102) := by rw [he_114, up_ne (ne_ty ht_41 hT_h0 (by simp))]; exact hq_104
      refine lv_aload_n hx hb dX1_takeSender_88 rfl (lv_at hl 1 rfl) ?_
      refine pg_get (ci := 1) (v := .ref w3) (C := RX1) (T := TX1) (N := 11) hx hb hts it_1 hown hK hP hL_h0 hF_115 rfl 4 (by decide) (hts _ kt_565) (fun _ h9 => h9) rfl dX1_takeSender_89 ?_
      have hFc := pg_free hD hS hA
      obtain ⟨z_124, o_125, hF_126, hq_127, hq_128⟩ := hO.bytes hi_12 ht_14
      refine va_callv (va_runV (As := []) (rest := []) ⟨hx, hb, hml, hown, hts⟩ (s_X0_clear l dC dI cs ty L H.size F_113 w3 (ρ + 34) r_13 15 hW hi_12 ht_14) ⟨callB_of 0 hts (gi kt_32) rfl rfl rfl (hts _ kt_1) (hts _ kt_580) (by decide +kernel) ⟨Nat.le_of_ble_eq_true rfl, Nat.le_of_ble_eq_true rfl⟩, (hts _ kt_34), (hts _ kt_35)⟩ ⟨fun a U g mk q => ⟨q.1, PT.calling q.2⟩, pg_recv hK hP hi_12 hF_126 (q := (RX0, TX0, 3)) rfl, fun U hU hWm => ⟨rfl, PT.mk hU hWm hP hK hD hE hO⟩⟩ rfl rfl hl.1 rfl (lv_room (Nat.le_of_ble_eq_true rfl)) dX1_takeSender_92 ⟨by show _ + 0 ≤ 0; omega, by show _ + 0 ≤ 0; omega⟩) hS (fun q _ h => hFc q h) hFc (fun u t H1 locs ht hvm hw hB hz1 hk1 hS => ?_)
      obtain ⟨F_130, hB1, hq_131⟩ := hB
      obtain ⟨hP, hD, hO, hR⟩ := QT.back hB1 ht hFc hR (fun q h => by simp only [List.mem_cons, List.not_mem_nil, or_false] at h ⊢; omega)
      have hF_132 : F_130 h0 = .inr (1, [.ref d, .ref w0, .ref w1, .ref w2, .ref w3, .ref nm, .ref te, .int x1, .int v1, .int (nI cc), .int (nI vo)]) := (hB1.2.2.2 h0 (by rw [hT_h0]; simp)).trans hF_115
      have hF_133 : F_130 g1 = .inr (0, [.ref r1, .int (nI z), .int 0]) := (hB1.2.2.2 g1 (by rw [hT_g1]; simp only [List.mem_cons, List.not_mem_nil, or_false]; omega)).trans hF_116
      have hF_134 : F_130 r1 = .inl (cs 16, n1, .inl f) := (hB1.2.2.2 r1 (by rw [ht_20]; simp only [List.mem_cons, List.not_mem_nil, or_false]; omega)).trans hF_117
      have hF_135 : F_130 w0 = .inr (0, [.ref r_4, .int (nI z), .int 0]) := (hB1.2.2.2 w0 (by rw [ht_5]; simp)).trans hF_118
      have hF_136 : F_130 r_4 = .inl (cs 16, 91, .inl fc_53) := (hB1.2.2.2 r_4 (by rw [ht_35]; simp)).trans hF_119
      have hF_137 : F_130 w1 = .inr (0, [.ref r_7, .int (nI (kk - 0)), .int 0]) := (hB1.2.2.2 w1 (by rw [ht_8]; simp)).trans hF_120
      have hF_138 : F_130 r_7 = .inl (cs 16, 30, .inl fc_75) := (hB1.2.2.2 r_7 (by rw [ht_38]; simp)).trans hF_121
      have hF_139 : F_130 w2 = .inr (0, [.ref r_10, .int (nI (z - (kk + 1))), .int 0]) := (hB1.2.2.2 w2 (by rw [ht_11]; simp)).trans hF_122
      have hF_140 : F_130 r_10 = .inl (cs 16, 60, .inl fc_102) := (hB1.2.2.2 r_10 (by rw [ht_41]; simp)).trans hF_123
      generalize H1 = H at hP hS ⊢
      refine lv_aload_n hx hb dX1_takeSender_95 rfl (lv_at hl 1 rfl) ?_
      obtain ⟨f_141, hF_142⟩ := hO.ints hi_43 ht_44
      have hFc := pg_free hD hS hA
      refine va_callv (va_runV (As := []) (rest := []) ⟨hx, hb, hml, hown, hts⟩ (s_X1_addQuad_e l dC dI cs ty L H.size F_130 h0 ρ d δ ea w0 w1 w2 w3 nm te cc vo x1 v1 hW hL_h0 hT_h0 hF_132 (⟨r_13, _, _, _, hq_131, hF_142, tga_nil⟩)) ⟨callB_of 0 hts (gi kt_614) rfl rfl rfl (hts _ kt_572) (hts _ kt_615) (by decide +kernel) ⟨Nat.le_of_ble_eq_true rfl, Nat.le_of_ble_eq_true rfl⟩, (hts _ kt_616), (hts _ kt_617)⟩ ⟨fun a U g mk q => ⟨q.1, PT.calling q.2⟩, pg_recv hK hP hL_h0 hF_132 (q := (RX1, TX1, 11)) rfl, fun U hU hWm => ⟨rfl, PT.mk hU hWm hP hK hD hE hO⟩⟩ rfl rfl hl.1 rfl (lv_room (Nat.le_of_ble_eq_true rfl)) dX1_takeSender_96 ⟨by show _ + 0 ≤ 0; omega, by show _ + 0 ≤ 0; omega⟩) hS (fun q _ h => hFc q h) hFc (fun u t H1 locs ht hvm hw hB hz1 hk1 hS => ?_)
      obtain ⟨F_144, hB1, hq_145⟩ := hB
      obtain ⟨hP, hD, hO, hR⟩ := QT.back hB1 ht hFc hR (fun q h => by simp only [List.mem_cons, List.not_mem_nil, or_false] at h ⊢; omega)
      have hF_146 : F_144 h0 = .inr (1, [.ref d, .ref w0, .ref w1, .ref w2, .ref w3, .ref nm, .ref te, .int x1, .int v1, .int (nI cc), .int (nI vo)]) := (hB1.2.2.2 h0 (by rw [hT_h0]; simp)).trans hF_132
      have hF_147 : F_144 g1 = .inr (0, [.ref r1, .int (nI z), .int 0]) := (hB1.2.2.2 g1 (by rw [hT_g1]; simp only [List.mem_cons, List.not_mem_nil, or_false]; omega)).trans hF_133
      have hF_148 : F_144 r1 = .inl (cs 16, n1, .inl f) := (hB1.2.2.2 r1 (by rw [ht_20]; simp only [List.mem_cons, List.not_mem_nil, or_false]; omega)).trans hF_134
      have hF_149 : F_144 w0 = .inr (0, [.ref r_4, .int (nI z), .int 0]) := (hB1.2.2.2 w0 (by rw [ht_5]; simp)).trans hF_135
      have hF_150 : F_144 r_4 = .inl (cs 16, 91, .inl fc_53) := (hB1.2.2.2 r_4 (by rw [ht_35]; simp)).trans hF_136
      have hF_151 : F_144 w1 = .inr (0, [.ref r_7, .int (nI (kk - 0)), .int 0]) := (hB1.2.2.2 w1 (by rw [ht_8]; simp)).trans hF_137
      have hF_152 : F_144 r_7 = .inl (cs 16, 30, .inl fc_75) := (hB1.2.2.2 r_7 (by rw [ht_38]; simp)).trans hF_138
      have hF_153 : F_144 w2 = .inr (0, [.ref r_10, .int (nI (z - (kk + 1))), .int 0]) := (hB1.2.2.2 w2 (by rw [ht_11]; simp)).trans hF_139
      have hF_154 : F_144 r_10 = .inl (cs 16, 60, .inl fc_102) := (hB1.2.2.2 r_10 (by rw [ht_41]; simp)).trans hF_140
      generalize H1 = H at hP hS ⊢
      obtain ⟨yq, oq, fq, hq1, hq2, hq3⟩ := hq_145.get hO hi_12 ht_14
      refine lv_aload_n hx hb dX1_takeSender_99 rfl (lv_at hl 1 rfl) ?_
      refine lv_iconst (v := 1) hx hb dX1_takeSender_100 (by decide) ?_
      refine pg_put (ci := 1) (v := .int 1) (ty := .boolean) (C := RX1) (T := TX1) (N := 11) hx hb hts it_1 tyX1 tyX1_ok nmX1 hown hK hP hD hS hL_h0 hF_146 rfl 8 (by decide) (hts _ kt_618) (fun _ h9 => h9) rfl (by decide +kernel) (rfl) (rfl) (Nat.le_of_ble_eq_true rfl) dX1_takeSender_101 (fun H locs hP hD hS => ?_)
      obtain ⟨F_155, he_156, hP, hD, hO, hR⟩ : ∃ G, G = va_up F_144 h0 (.inr (1, [.ref d, .ref w0, .ref w1, .ref w2, .ref w3, .ref nm, .ref te, .int x1, .int 1, .int (nI cc), .int (nI vo)])) ∧ va_P (dC, dI) vwCl (va_pl L G) H ∧ va_D A (va_pl L G) ∧ OK cs ty L G ∧ FR ty [ρ, ρ + 31, ρ + 32, ρ + 33, ρ + 34] F G := ⟨_, rfl, hP, hD, hO.up (sh.chk hT_h0 ⟨x1, 1, (nI cc), (nI vo), rfl⟩), hR.up hT_h0 (by simp)⟩
      have hF_157 : F_155 h0 = .inr (1, [.ref d, .ref w0, .ref w1, .ref w2, .ref w3, .ref nm, .ref te, .int x1, .int 1, .int (nI cc), .int (nI vo)]) := by rw [he_156]; exact up_self
      have hF_158 : F_155 g1 = .inr (0, [.ref r1, .int (nI z), .int 0]) := by rw [he_156, up_ne (ne_ty hT_g1 hT_h0 (by simp))]; exact hF_147
      have hF_159 : F_155 r1 = .inl (cs 16, n1, .inl f) := by rw [he_156, up_ne (ne_ty ht_20 hT_h0 (by simp))]; exact hF_148
      have hF_160 : F_155 w0 = .inr (0, [.ref r_4, .int (nI z), .int 0]) := by rw [he_156, up_ne (ne_ty ht_5 hT_h0 (by simp))]; exact hF_149
      have hF_161 : F_155 r_4 = .inl (cs 16, 91, .inl fc_53) := by rw [he_156, up_ne (ne_ty ht_35 hT_h0 (by simp))]; exact hF_150
      have hF_162 : F_155 w1 = .inr (0, [.ref r_7, .int (nI (kk - 0)), .int 0]) := by rw [he_156, up_ne (ne_ty ht_8 hT_h0 (by simp))]; exact hF_151
      have hF_163 : F_155 r_7 = .inl (cs 16, 30, .inl fc_75) := by rw [he_156, up_ne (ne_ty ht_38 hT_h0 (by simp))]; exact hF_152
      have hF_164 : F_155 w2 = .inr (0, [.ref r_10, .int (nI (z - (kk + 1))), .int 0]) := by rw [he_156, up_ne (ne_ty ht_11 hT_h0 (by simp))]; exact hF_153
      have hF_165 : F_155 r_10 = .inl (cs 16, 60, .inl fc_102) := by rw [he_156, up_ne (ne_ty ht_41 hT_h0 (by simp))]; exact hF_154
      have hF_166 : F_155 w3 = .inr (0, [.ref r_13, .int (nI yq), .int oq]) := by rw [he_156, up_ne (ne_ty ht_14 hT_h0 (by simp))]; exact hq1
      have hF_167 : F_155 r_13 = .inl (cs 16, 15, .inl fq) := by rw [he_156, up_ne (ne_ty ht_44 hT_h0 (by simp))]; exact hq2
      refine lv_iconst (v := 1) hx hb dX1_takeSender_104 (by decide) ?_
      refine W.widen (k := 0) (n := 0) (by omega) (by omega) ?_
      exact W.zret (v := 1) (ty := .boolean) hx hb hr (by decide) (fun t ht hWm => ⟨⟨1, (some kk), rfl, (Or.inl ⟨rfl, kk, hfs, hlc, hnm, rfl⟩), ⟨F_155, QT.mk ht hP hD hO hR, (Or.inr ⟨kk, rfl, hF_157, ⟨r_4, _, _, hF_160, hF_161, tp_src (a := 0) (k := z) (fun j hj => by rw [Nat.zero_add]; exact hcd j hj) (fun j hj => (hq_56 j hj).trans (by rw [Nat.zero_add])), by omega⟩, ⟨r_7, _, _, hF_162, hF_163, tp_src (a := 0) (k := kk) (fun j hj => by rw [Nat.zero_add]; exact hcd j (by omega)) hq_78, by omega⟩, ⟨r_10, _, _, hF_164, hF_165, tp_src (a := kk + 1) (k := z - (kk + 1)) (fun j hj => hcd _ (by omega)) hq_105, by omega⟩, (TXG.src ⟨r_13, _, _, _, hF_166, hF_167, hq3⟩ qdL_ok.1 qdL_ok.2)⟩)⟩⟩, hS.F ht⟩) hS.2.2 dX1_takeSender_105
    ·
      refine lv_iconst (v := 0) hx hb dX1_takeSender_34 (by decide) ?_
      refine W.widen (k := 0) (n := 0) (by omega) (by omega) ?_
      exact W.zret (v := 0) (ty := .boolean) hx hb hr (by decide) (fun t ht hWm => ⟨⟨0, none, rfl, (Or.inr ⟨rfl, snd_n hfs (fun q => ifb0 hw_32 c_33 q.2), rfl⟩), ⟨F, QT.mk ht hP hD hO hR, (Or.inl ⟨rfl, rfl⟩)⟩⟩, hS.F ht⟩) hS.2.2 dX1_takeSender_35
