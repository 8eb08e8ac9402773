theorem dX1_addParts_0 : decode cX1_addParts 0 = .ok (.iconst 1, 1) := by decide +kernel
theorem dX1_addParts_1 : decode cX1_addParts 1 = .ok (.istore 4, 2) := by decide +kernel
theorem dX1_addParts_3 : decode cX1_addParts 3 = .ok (.iconst 0, 1) := by decide +kernel
theorem dX1_addParts_4 : decode cX1_addParts 4 = .ok (.istore 5, 2) := by decide +kernel
theorem dX1_addParts_6 : decode cX1_addParts 6 = .ok (.iload 5, 2) := by decide +kernel
theorem dX1_addParts_8 : decode cX1_addParts 8 = .ok (.aload_n 0, 1) := by decide +kernel
theorem dX1_addParts_9 : decode cX1_addParts 9 = .ok (.getfield 58, 3) := by decide +kernel
theorem dX1_addParts_12 : decode cX1_addParts 12 = .ok (.if_icmp .ge 30, 3) := by decide +kernel
theorem dX1_addParts_15 : decode cX1_addParts 15 = .ok (.iload 4, 2) := by decide +kernel
theorem dX1_addParts_17 : decode cX1_addParts 17 = .ok (.aload_n 0, 1) := by decide +kernel
theorem dX1_addParts_18 : decode cX1_addParts 18 = .ok (.iload 5, 2) := by decide +kernel
theorem dX1_addParts_20 : decode cX1_addParts 20 = .ok (.invokevirtual 87, 3) := by decide +kernel
theorem dX1_addParts_23 : decode cX1_addParts 23 = .ok (.bipush 46, 2) := by decide +kernel
theorem dX1_addParts_25 : decode cX1_addParts 25 = .ok (.if_icmp .ne 7, 3) := by decide +kernel
theorem dX1_addParts_28 : decode cX1_addParts 28 = .ok (.iconst 1, 1) := by decide +kernel
theorem dX1_addParts_29 : decode cX1_addParts 29 = .ok (.goto 4, 3) := by decide +kernel
theorem dX1_addParts_32 : decode cX1_addParts 32 = .ok (.iconst 0, 1) := by decide +kernel
theorem dX1_addParts_33 : decode cX1_addParts 33 = .ok (.iadd, 1) := by decide +kernel
theorem dX1_addParts_34 : decode cX1_addParts 34 = .ok (.istore 4, 2) := by decide +kernel
theorem dX1_addParts_36 : decode cX1_addParts 36 = .ok (.iinc 5 1, 3) := by decide +kernel
theorem dX1_addParts_39 : decode cX1_addParts 39 = .ok (.goto (-33), 3) := by decide +kernel
theorem dX1_addParts_42 : decode cX1_addParts 42 = .ok (.iload_n 1, 1) := by decide +kernel
theorem dX1_addParts_43 : decode cX1_addParts 43 = .ok (.ifCond .ne 8, 3) := by decide +kernel
theorem dX1_addParts_46 : decode cX1_addParts 46 = .ok (.iload 4, 2) := by decide +kernel
theorem dX1_addParts_48 : decode cX1_addParts 48 = .ok (.goto 9, 3) := by decide +kernel
theorem dX1_addParts_51 : decode cX1_addParts 51 = .ok (.iload_n 1, 1) := by decide +kernel
theorem dX1_addParts_52 : decode cX1_addParts 52 = .ok (.iload 4, 2) := by decide +kernel
theorem dX1_addParts_54 : decode cX1_addParts 54 = .ok (.invokestatic 232, 3) := by decide +kernel
theorem dX1_addParts_57 : decode cX1_addParts 57 = .ok (.istore 5, 2) := by decide +kernel
theorem dX1_addParts_59 : decode cX1_addParts 59 = .ok (.iconst 0, 1) := by decide +kernel
theorem dX1_addParts_60 : decode cX1_addParts 60 = .ok (.istore 6, 2) := by decide +kernel
theorem dX1_addParts_62 : decode cX1_addParts 62 = .ok (.iload 6, 2) := by decide +kernel
theorem dX1_addParts_64 : decode cX1_addParts 64 = .ok (.iload 5, 2) := by decide +kernel
theorem dX1_addParts_66 : decode cX1_addParts 66 = .ok (.if_icmp .ge 67, 3) := by decide +kernel
theorem dX1_addParts_69 : decode cX1_addParts 69 = .ok (.iload 6, 2) := by decide +kernel
theorem dX1_addParts_71 : decode cX1_addParts 71 = .ok (.ifCond .le 9, 3) := by decide +kernel
theorem dX1_addParts_74 : decode cX1_addParts 74 = .ok (.aload_n 3, 1) := by decide +kernel
theorem dX1_addParts_75 : decode cX1_addParts 75 = .ok (.bipush 46, 2) := by decide +kernel
theorem dX1_addParts_77 : decode cX1_addParts 77 = .ok (.invokevirtual 98, 3) := by decide +kernel
theorem dX1_addParts_80 : decode cX1_addParts 80 = .ok (.aload_n 0, 1) := by decide +kernel
theorem dX1_addParts_81 : decode cX1_addParts 81 = .ok (.iload_n 2, 1) := by decide +kernel
theorem dX1_addParts_82 : decode cX1_addParts 82 = .ok (.ifCond .eq 13, 3) := by decide +kernel
theorem dX1_addParts_85 : decode cX1_addParts 85 = .ok (.iload 5, 2) := by decide +kernel
theorem dX1_addParts_87 : decode cX1_addParts 87 = .ok (.iconst 1, 1) := by decide +kernel
theorem dX1_addParts_88 : decode cX1_addParts 88 = .ok (.isub, 1) := by decide +kernel
theorem dX1_addParts_89 : decode cX1_addParts 89 = .ok (.iload 6, 2) := by decide +kernel
theorem dX1_addParts_91 : decode cX1_addParts 91 = .ok (.isub, 1) := by decide +kernel
theorem dX1_addParts_92 : decode cX1_addParts 92 = .ok (.goto 11, 3) := by decide +kernel
theorem dX1_addParts_95 : decode cX1_addParts 95 = .ok (.iload 4, 2) := by decide +kernel
theorem dX1_addParts_97 : decode cX1_addParts 97 = .ok (.iload 5, 2) := by decide +kernel
theorem dX1_addParts_99 : decode cX1_addParts 99 = .ok (.isub, 1) := by decide +kernel
theorem dX1_addParts_100 : decode cX1_addParts 100 = .ok (.iload 6, 2) := by decide +kernel
theorem dX1_addParts_102 : decode cX1_addParts 102 = .ok (.iadd, 1) := by decide +kernel
theorem dX1_addParts_103 : decode cX1_addParts 103 = .ok (.invokevirtual 235, 3) := by decide +kernel
theorem dX1_addParts_106 : decode cX1_addParts 106 = .ok (.istore 7, 2) := by decide +kernel
theorem dX1_addParts_108 : decode cX1_addParts 108 = .ok (.aload_n 3, 1) := by decide +kernel
theorem dX1_addParts_109 : decode cX1_addParts 109 = .ok (.aload_n 0, 1) := by decide +kernel
theorem dX1_addParts_110 : decode cX1_addParts 110 = .ok (.iload 7, 2) := by decide +kernel
theorem dX1_addParts_112 : decode cX1_addParts 112 = .ok (.aload_n 0, 1) := by decide +kernel
theorem dX1_addParts_113 : decode cX1_addParts 113 = .ok (.bipush 46, 2) := by decide +kernel
theorem dX1_addParts_115 : decode cX1_addParts 115 = .ok (.iload 7, 2) := by decide +kernel
theorem dX1_addParts_117 : decode cX1_addParts 117 = .ok (.aload_n 0, 1) := by decide +kernel
theorem dX1_addParts_118 : decode cX1_addParts 118 = .ok (.getfield 58, 3) := by decide +kernel
theorem dX1_addParts_121 : decode cX1_addParts 121 = .ok (.invokevirtual 61, 3) := by decide +kernel
theorem dX1_addParts_124 : decode cX1_addParts 124 = .ok (.invokevirtual 80, 3) := by decide +kernel
theorem dX1_addParts_127 : decode cX1_addParts 127 = .ok (.iinc 6 1, 3) := by decide +kernel
theorem dX1_addParts_130 : decode cX1_addParts 130 = .ok (.goto (-68), 3) := by decide +kernel
theorem dX1_addParts_133 : decode cX1_addParts 133 = .ok (.return_, 1) := by decide +kernel
theorem kt_557 : Cond.code yX0_partStart cX0_partStart 4 (some .int) ∈ tb := tb_at (i := 763) (by decide +kernel) (by decide +kernel)
theorem kt_558 : Cond.methodLink RX1 235 yX0_partStart ∈ tb := tb_at (i := 760) (by decide +kernel) (by decide +kernel)
theorem kt_559 : Cond.instanceMethod yX0_partStart ∈ tb := tb_at (i := 761) (by decide +kernel) (by decide +kernel)
theorem kt_560 : Cond.selects RX0 yX0_partStart yX0_partStart ∈ tb := tb_at (i := 762) (by decide +kernel) (by decide +kernel)
theorem kt_561 : Cond.methodLink RX1 61 yX0_find ∈ tb := tb_at (i := 568) (by decide +kernel) (by decide +kernel)
theorem kt_562 : Cond.methodLink RX1 80 yX0_addRange ∈ tb := tb_at (i := 583) (by decide +kernel) (by decide +kernel)
theorem kt_563 : Cond.methodLink RX1 98 yX0_add ∈ tb := tb_at (i := 588) (by decide +kernel) (by decide +kernel)
theorem kt_564 : Cond.methodLink RX1 232 Lib.Math.min.name ∈ tb := tb_at (i := 759) (by decide +kernel) (by decide +kernel)
theorem kn_23 : Cond.fieldLinkNest RX1 58 "PostGate$Bytes" "size" "I" "PostGate" ∈ nw := nw_at (i := 42) (by decide +kernel) rfl
def TGA (U : List Nat) (n y : Nat) (oo : Int32) (f : Nat → Int32) : Prop := y = min U.length n ∧ oo = (if n < U.length then 1 else 0) ∧ ∀ j, j < y → f j = nI (U.getD j 0)
def SRC (V : List Nat) (z : Nat) (f : Nat → Int32) : Prop := V.length = z ∧ (∀ j, j < z → f j = nI (V.getD j 0)) ∧ ∀ j, j < z → V.getD j 0 < 128
theorem apl_l {W : List Nat} : ∀ (U : List Nat) (j : Nat), j < U.length → (U ++ W).getD j 0 = U.getD j 0
  | [], j, h => absurd h (Nat.not_lt_zero _)
  | _ :: _, 0, _ => rfl
  | _ :: U, j + 1, h => apl_l U j (Nat.lt_of_succ_lt_succ h)
theorem apl_r {W : List Nat} : ∀ (U : List Nat) (j : Nat), (U ++ W).getD (U.length + j) 0 = W.getD j 0
  | [], j => by rw [show ([] : List Nat).length + j = j from Nat.zero_add j]; rfl
  | x :: U, j => by
    rw [show (x :: U).length + j = (U.length + j) + 1 by show U.length + 1 + j = _; omega]
    exact apl_r U j
def rgL (V : List Nat) : Nat → Nat → List Nat
  | _, 0 => []
  | a, k + 1 => V.getD a 0 :: rgL V (a + 1) k
theorem rgL_len {V : List Nat} : ∀ (k a : Nat), (rgL V a k).length = k
  | 0, _ => rfl
  | k + 1, a => congrArg (fun n => n + 1) (rgL_len k (a + 1))
theorem rgL_get {V : List Nat} : ∀ (k a j : Nat), j < k → (rgL V a k).getD j 0 = V.getD (a + j) 0
  | 0, _, j, h => absurd h (Nat.not_lt_zero _)
  | _ + 1, _, 0, _ => rfl
  | k + 1, a, j + 1, h => by
    have h9 := rgL_get (V := V) k (a + 1) j (Nat.lt_of_succ_lt_succ h)
    rw [show a + 1 + j = a + (j + 1) by omega] at h9
    exact h9
theorem tga_o {U : List Nat} {n y c : Nat} {oo : Int32} {f : Nat → Int32} (h : TGA U n y oo f) (hy : n ≤ y) : TGA (U ++ [c]) n y 1 f := by
  obtain ⟨h1, h2, h3⟩ := h
  have hl : (U ++ [c]).length = U.length + 1 := by rw [List.length_append]; rfl
  refine ⟨by rw [hl]; omega, by rw [if_pos (by rw [hl]; omega)], fun j hj => ?_⟩
  rw [h3 j hj, apl_l U j (by omega)]
theorem tga_a {U : List Nat} {n y c : Nat} {oo : Int32} {f : Nat → Int32} (h : TGA U n y oo f) (hy : y < n) : TGA (U ++ [c]) n (y + 1) oo (upd f y (nI c)) := by
  obtain ⟨h1, h2, h3⟩ := h
  have hl : (U ++ [c]).length = U.length + 1 := by rw [List.length_append]; rfl
  have hu : U.length = y := by omega
  refine ⟨by rw [hl]; omega, by rw [h2, if_neg (by omega), if_neg (by rw [hl]; omega)], fun j hj => ?_⟩
  by_cases e : j = y
  · subst e
    rw [updc_at]
    have h9 := apl_r (W := [c]) U 0
    rw [Nat.add_zero, hu] at h9
    rw [h9]
    rfl
  · rw [updc_ne e, h3 j (by omega), apl_l U j (by omega)]
theorem tga_r {U V : List Nat} {n y z a b m y2 : Nat} {oo oo2 : Int32} {f fv f2 : Nat → Int32} (h : TGA U n y oo f) (hv : SRC V z fv) (hab : a ≤ b) (hbz : b ≤ z) (hm : m = min (b - a) (n - y)) (hy2 : y2 = y + m) (ho : (oo2 = 1 ∧ (¬ oo = 0 ∨ m < b - a)) ∨ (oo2 = 0 ∧ oo = 0 ∧ b - a ≤ m)) (h1 : ∀ j, j < y → f2 j = f j) (h2 : ∀ j, y ≤ j → j < y + m → f2 j = fv (a + (j - y))) : TGA (U ++ rgL V a (b - a)) n y2 oo2 f2 := by
  obtain ⟨g1, g2, g3⟩ := h
  have hl : (U ++ rgL V a (b - a)).length = U.length + (b - a) := by rw [List.length_append, rgL_len]
  have hoo : oo = 0 ↔ ¬ n < U.length := by
    constructor
    · intro q c
      rw [if_pos c] at g2
      rw [g2] at q
      exact absurd q (by decide)
    · intro c
      rw [g2, if_neg c]
  refine ⟨by rw [hl]; omega, ?_, fun j hj => ?_⟩
  · rw [hl]
    rcases ho with ⟨q1, q2⟩ | ⟨q1, q2, q3⟩
    · rw [q1]
      rcases q2 with q2 | q2
      · have c : n < U.length := Classical.byContradiction (fun c => q2 (hoo.mpr c))
        rw [if_pos (by omega)]
      · rw [if_pos (by omega)]
    · have c := hoo.mp q2
      rw [q1, if_neg (by omega)]
  · rcases Nat.lt_or_ge j y with q | q
    · rw [h1 j q, g3 j q, apl_l U j (by omega)]
    · have hu : U.length = y := by omega
      rw [h2 j q (by omega), hv.2.1 _ (by omega)]
      have h9 := apl_r (W := rgL V a (b - a)) U (j - y)
      rw [hu, show y + (j - y) = j by omega] at h9
      rw [h9, rgL_get _ _ _ (by omega)]
theorem mnI_g {a b : Nat} (ha : a ≤ 20000) (hb : b ≤ 20000) : (if nI b < nI a then nI b else nI a) = nI (min a b) := by
  by_cases c : nI b < nI a
  · have h9 := (nI_ltI (by omega) (by omega)).mp c
    rw [if_pos c, show min a b = b by omega]
  · have h9 : ¬ b < a := fun q => c ((nI_ltI (by omega) (by omega)).mpr q)
    rw [if_neg c, show min a b = a by omega]
theorem cpy_y {f fr : Nat → Int32} {a y k : Nat} (ha : a ≤ 20000) (hy : y ≤ 20000) (hk : k ≤ 20000) : ∀ j, y ≤ j → j < y + k → va_cpy f fr (nI a).toNatClampNeg (nI y).toNatClampNeg (nI k).toNatClampNeg j = f (a + (j - y)) := by
  intro j h1 h2
  rw [nI_clamp (by omega), nI_clamp (by omega), nI_clamp (by omega)]
  exact if_pos ⟨h1, h2⟩
theorem cpy_n {f fr : Nat → Int32} {a y k : Nat} (ha : a ≤ 20000) (hy : y ≤ 20000) (hk : k ≤ 20000) : ∀ j, j < y → va_cpy f fr (nI a).toNatClampNeg (nI y).toNatClampNeg (nI k).toNatClampNeg j = fr j := by
  intro j h1
  rw [nI_clamp (by omega), nI_clamp (by omega), nI_clamp (by omega)]
  exact if_neg (fun q => absurd q.1 (by omega))
theorem tga_b {U : List Nat} {n y : Nat} {oo : Int32} {f : Nat → Int32} (h : TGA U n y oo f) : oo = 0 ∨ oo = 1 := by
  rw [h.2.1]
  by_cases c : n < U.length
  · rw [if_pos c]
    exact Or.inr rfl
  · rw [if_neg c]
    exact Or.inl rfl
set_option maxHeartbeats 4000000 in
set_option maxRecDepth 100000 in
theorem s_X0_add_t (l : Launch) (dC : Nat → ClassId) (dI : Nat → Nat → Nat) (cs : Nat → ClassId) (ty : TyM) (L : List Nat) (sz : Nat) (F : Nat → va_E) (h0 : Nat) (ρ : Nat) (r0 : Nat) (n : Nat) (y : Nat) (cc : Nat) (f : Nat → Int32) (oo : Int32) (U : List Nat) (hW : WT ty L) (hL_h0 : h0 ∈ L) (hT_h0 : ty h0 = (0, ρ, [r0, n])) (hF0 : F h0 = .inr (0, [.ref r0, .int (nI y), .int oo])) (hFr : F r0 = .inl (cs 16, n, .inl f)) (hm9 : n ≤ 10000) (hT : TGA U n y oo f) : Met l yX0_add (.code yX0_add cX0_add 2 none :: tb) ({ frames := 0, cells := 0, slots := 0, locals := 0 }) (va_Pc [.ref h0, .int (nI cc)] (PT (dC, dI) cs ty L F sz)) (va_Qv (fun _ : Unit => True) (fun _ T9 => ∃ F2 : Nat → va_E, ∃ y2 : Nat, ∃ oo2 : Int32, ∃ f2 : Nat → Int32, QT (dC, dI) cs ty L [ρ] F F2 (va_A (va_pl L F) sz) T9 ∧ F2 h0 = .inr (0, [.ref r0, .int (nI y2), .int oo2]) ∧ F2 r0 = .inl (cs 16, n, .inl f2) ∧ TGA (U ++ [cc]) n y2 oo2 f2) (va_A (va_pl L F) sz)) 0 0 (va_A (va_pl L F) sz) := by
  refine Met.ofW (cc := cX0_add) (maxL := 2) (ret := none) (by decide) rfl ?_
  intro p e s m args below meth c s₁ B hml hv
  obtain ⟨rfl, hsz, hP, hK, hD0, hE, hO⟩ := hv
  have hx := B.exec
  have hb := B.bytes
  have hr := B.returns
  have hts : ∀ w ∈ tb, w.before _ s = true := fun w h => atoms_spec (ws := .code yX0_add cX0_add 2 none :: tb) B.pre w (List.mem_cons_of_mem _ h)
  have hown : s.vm.findClass RX0 = some m.cls := findClass_of_methodNamed B.named
  have hlocks := B.notSynchronized
  subst hsz
  have hD := hD0.self (sz := s.heap.size)
  generalize hAe : va_A (va_pl L F) s.heap.size = A at hD ⊢
  have hA : ∀ q : Nat, s.heap.size ≤ q → A q := fun q h => by rw [← hAe]; exact Or.inr h
  have hS : va_S A s.heap s.heap [] := va_S.rf
  have hR : FR ty [ρ] F F := FR.refl
  have hl := lv_entry ([.ref h0, .int (nI cc)]) (n := 2) (Nat.le_of_ble_eq_true rfl)
  rw [lg_entry_eq]
  generalize (lg_sl ([.ref h0, .int (nI cc)]) ++ List.replicate (2 - (lg_sl ([.ref h0, .int (nI cc)])).length) Slot.unset).toArray = ls at hl ⊢
  have hl : lv_has ls 2 [(0, .ref h0), (1, .int (nI cc))] := hl
  obtain ⟨hi_1, ht_2, hq_3⟩ := hW.bytes hL_h0 hT_h0
  have hyn : y ≤ n := by have h9 := hT.1; omega
  have hoob := tga_b hT
  refine lv_aload_n hx hb dX0_add_0 rfl (lv_at hl 0 rfl) ?_
  refine pg_get (ci := 0) (v := .int (nI y)) (C := RX0) (T := TX0) (N := 3) hx hb hts it_0 hown hK hP hL_h0 hF0 rfl 1 (by decide) (hts _ kt_10) (fun _ h9 => h9) rfl dX0_add_1 ?_
  refine lv_aload_n hx hb dX0_add_4 rfl (lv_at hl 0 rfl) ?_
  refine pg_get (ci := 0) (v := .ref r0) (C := RX0) (T := TX0) (N := 3) hx hb hts it_0 hown hK hP hL_h0 hF0 rfl 0 (by decide) (hts _ kt_12) (fun _ h9 => h9) rfl dX0_add_5 ?_
  refine pg_alen (v := (nI n)) hx hb hK hP hi_1 0 hFr rfl rfl dX0_add_8 ?_
  refine lv_icmp_ge (tgt := 35) hx hb dX0_add_9 (by decide) (fun c_4 => ?_) (fun c_4 => ?_)
  ·
    have hi_5 : n ≤ y := leN (N := n) c_4
    have hny : n ≤ y := (nI_leI (by omega) (by omega)).mp c_4
    refine lv_aload_n hx hb dX0_add_35 rfl (lv_at hl 0 rfl) ?_
    refine lv_iconst (v := 1) hx hb dX0_add_36 (by decide) ?_
    refine pg_put (ci := 0) (v := .int 1) (ty := .boolean) (C := RX0) (T := TX0) (N := 3) hx hb hts it_0 tyX0 tyX0_ok nmX0 hown hK hP hD hS hL_h0 hF0 rfl 2 (by decide) (hts _ kt_11) (fun _ h9 => h9) rfl (by decide +kernel) (rfl) (rfl) (Nat.le_of_ble_eq_true rfl) dX0_add_37 (fun H locs hP hD hS => ?_)
    obtain ⟨F_6, he_7, hP, hD, hO, hR⟩ : ∃ G, G = va_up F h0 (.inr (0, [.ref r0, .int (nI y), .int 1])) ∧ va_P (dC, dI) vwCl (va_pl L G) H ∧ va_D A (va_pl L G) ∧ OK cs ty L G ∧ FR ty [ρ] F G := ⟨_, rfl, hP, hD, hO.up (sh.bytes hT_h0 ⟨y, 1, rfl, (by first | omega | assumption | exact Or.inl rfl | exact Or.inr rfl), (by first | omega | assumption | exact Or.inl rfl | exact Or.inr rfl)⟩), hR.up hT_h0 (by simp)⟩
    have hF_8 : F_6 h0 = .inr (0, [.ref r0, .int (nI y), .int 1]) := by rw [he_7]; exact up_self
    have hF_9 : F_6 r0 = .inl (cs 16, n, .inl f) := by rw [he_7, up_ne (ne_ty ht_2 hT_h0 (by simp))]; exact hFr
    refine W.widen (k := 0) (n := 0) (by omega) (by omega) ?_
    exact W.vret hx hb hr (fun t ht hWm => ⟨⟨(), rfl, trivial, ⟨F_6, y, 1, f, QT.mk ht hP hD hO hR, hF_8, hF_9, (tga_o hT hny)⟩⟩, hS.F ht⟩) hS.2.2 dX0_add_40
  ·
    have hi_10 : y < n := ltN (N := n) c_4
    have hny : y < n := Nat.not_le.mp (fun q => c_4 ((nI_leI (by omega) (by omega)).mpr q))
    refine lv_aload_n hx hb dX0_add_12 rfl (lv_at hl 0 rfl) ?_
    refine pg_get (ci := 0) (v := .ref r0) (C := RX0) (T := TX0) (N := 3) hx hb hts it_0 hown hK hP hL_h0 hF0 rfl 0 (by decide) (hts _ kt_12) (fun _ h9 => h9) rfl dX0_add_13 ?_
    refine lv_aload_n hx hb dX0_add_16 rfl (lv_at hl 0 rfl) ?_
    refine pg_get (ci := 0) (v := .int (nI y)) (C := RX0) (T := TX0) (N := 3) hx hb hts it_0 hown hK hP hL_h0 hF0 rfl 1 (by decide) (hts _ kt_10) (fun _ h9 => h9) rfl dX0_add_17 ?_
    refine lv_iload_n hx hb dX0_add_20 rfl (lv_at hl 1 rfl) ?_
    refine pg_iast hx hb hK hP hD hS hi_1 0 hFr rfl (vp_in_nI (by omega) (by omega)) dX0_add_21 (fun H locs hP hD hS => ?_)
    obtain ⟨F_11, he_12, hP, hD, hO, hR⟩ : ∃ G, G = va_up F r0 (.inl (cs 16, n, .inl (upd f ((nI y)).toNatClampNeg ((nI cc))))) ∧ va_P (dC, dI) vwCl (va_pl L G) H ∧ va_D A (va_pl L G) ∧ OK cs ty L G ∧ FR ty [ρ] F G := ⟨_, rfl, hP, hD, hO.up (sh.ints ht_2 ⟨_, rfl⟩), hR.up ht_2 (by simp)⟩
    have hF_13 : F_11 r0 = .inl (cs 16, n, .inl (upd f ((nI y)).toNatClampNeg ((nI cc)))) := by rw [he_12]; exact up_self
    have hF_14 : F_11 h0 = .inr (0, [.ref r0, .int (nI y), .int oo]) := by rw [he_12, up_ne (ne_ty hT_h0 ht_2 (by simp))]; exact hF0
    have hF_15 : F_11 r0 = .inl (cs 16, n, .inl (upd f y (nI cc))) := by have h9 := hF_13; rwa [nI_clamp (by omega)] at h9
    refine lv_aload_n hx hb dX0_add_22 rfl (lv_at hl 0 rfl) ?_
    refine lv_dup hx hb dX0_add_23 rfl ?_
    refine pg_get (ci := 0) (v := .int (nI y)) (C := RX0) (T := TX0) (N := 3) hx hb hts it_0 hown hK hP hL_h0 hF_14 rfl 1 (by decide) (hts _ kt_10) (fun _ h9 => h9) rfl dX0_add_24 ?_
    refine lv_iconst (v := 1) hx hb dX0_add_27 (by decide) ?_
    refine lv_iadd hx hb dX0_add_28 ?_
    refine lv_topi (fun x_16 ex_16 => ?_)
    obtain rfl : x_16 = (nI (y + 1)) := ex_16.trans (nI_1 y)
    refine pg_put (ci := 0) (v := .int (nI (y + 1))) (ty := .int) (C := RX0) (T := TX0) (N := 3) hx hb hts it_0 tyX0 tyX0_ok nmX0 hown hK hP hD hS hL_h0 hF_14 rfl 1 (by decide) (hts _ kt_10) (fun _ h9 => h9) rfl (by decide +kernel) (rfl) (rfl) (Nat.le_of_ble_eq_true rfl) dX0_add_29 (fun H locs hP hD hS => ?_)
    obtain ⟨F_17, he_18, hP, hD, hO, hR⟩ : ∃ G, G = va_up F_11 h0 (.inr (0, [.ref r0, .int (nI (y + 1)), .int oo])) ∧ va_P (dC, dI) vwCl (va_pl L G) H ∧ va_D A (va_pl L G) ∧ OK cs ty L G ∧ FR ty [ρ] F G := ⟨_, rfl, hP, hD, hO.up (sh.bytes hT_h0 ⟨(y + 1), oo, rfl, (by first | omega | assumption | exact Or.inl rfl | exact Or.inr rfl), (by first | omega | assumption | exact Or.inl rfl | exact Or.inr rfl)⟩), hR.up hT_h0 (by simp)⟩
    have hF_19 : F_17 h0 = .inr (0, [.ref r0, .int (nI (y + 1)), .int oo]) := by rw [he_18]; exact up_self
    have hF_20 : F_17 r0 = .inl (cs 16, n, .inl (upd f y (nI cc))) := by rw [he_18, up_ne (ne_ty ht_2 hT_h0 (by simp))]; exact hF_15
    refine lv_goto (tgt := 40) hx hb dX0_add_32 (by decide) ?_
    refine W.widen (k := 0) (n := 0) (by omega) (by omega) ?_
    exact W.vret hx hb hr (fun t ht hWm => ⟨⟨(), rfl, trivial, ⟨F_17, (y + 1), oo, (upd f y (nI cc)), QT.mk ht hP hD hO hR, hF_19, hF_20, (tga_a hT hny)⟩⟩, hS.F ht⟩) hS.2.2 dX0_add_40
set_option maxHeartbeats 4000000 in
set_option maxRecDepth 100000 in
theorem s_X0_addRange_t (l : Launch) (dC : Nat → ClassId) (dI : Nat → Nat → Nat) (cs : Nat → ClassId) (ty : TyM) (L : List Nat) (sz : Nat) (F : Nat → va_E) (h0 : Nat) (ρ : Nat) (r0 : Nat) (n : Nat) (g1 : Nat) (σ : Nat) (r1 : Nat) (n1 : Nat) (y : Nat) (z : Nat) (a : Nat) (b : Nat) (f : Nat → Int32) (fv : Nat → Int32) (oo : Int32) (U : List Nat) (V : List Nat) (hW : WT ty L) (hL_h0 : h0 ∈ L) (hT_h0 : ty h0 = (0, ρ, [r0, n])) (hL_g1 : g1 ∈ L) (hT_g1 : ty g1 = (0, σ, [r1, n1])) (hF0 : F h0 = .inr (0, [.ref r0, .int (nI y), .int oo])) (hFr : F r0 = .inl (cs 16, n, .inl f)) (hm9 : n ≤ 10000) (hT : TGA U n y oo f) (hFg : F g1 = .inr (0, [.ref r1, .int (nI z), .int 0])) (hFv : F r1 = .inl (cs 16, n1, .inl fv)) (hzn : z ≤ n1) (hn9 : n1 ≤ 10000) (hab : a ≤ b) (hbz : b ≤ z) (hV : SRC V z fv) : Met l yX0_addRange (.code yX0_addRange cX0_addRange 7 none :: tb) ({ frames := 1, cells := 0, slots := 0, locals := 48 }) (va_Pc [.ref h0, .ref g1, .int (nI a), .int (nI b)] (PT (dC, dI) cs ty L F sz)) (va_Qv (fun _ : Unit => True) (fun _ T9 => ∃ F2 : Nat → va_E, ∃ y2 : Nat, ∃ oo2 : Int32, ∃ f2 : Nat → Int32, QT (dC, dI) cs ty L [ρ] F F2 (va_A (va_pl L F) sz) T9 ∧ F2 h0 = .inr (0, [.ref r0, .int (nI y2), .int oo2]) ∧ F2 r0 = .inl (cs 16, n, .inl f2) ∧ TGA (U ++ rgL V a (b - a)) n y2 oo2 f2) (va_A (va_pl L F) sz)) 0 0 (va_A (va_pl L F) sz) := by
  refine Met.ofW (cc := cX0_addRange) (maxL := 7) (ret := none) (by decide) rfl ?_
  intro p e s m args below meth c s₁ B hml hv
  obtain ⟨rfl, hsz, hP, hK, hD0, hE, hO⟩ := hv
  have hx := B.exec
  have hb := B.bytes
  have hr := B.returns
  have hts : ∀ w ∈ tb, w.before _ s = true := fun w h => atoms_spec (ws := .code yX0_addRange cX0_addRange 7 none :: tb) B.pre w (List.mem_cons_of_mem _ h)
  have hown : s.vm.findClass RX0 = some m.cls := findClass_of_methodNamed B.named
  have hlocks := B.notSynchronized
  subst hsz
  have hD := hD0.self (sz := s.heap.size)
  generalize hAe : va_A (va_pl L F) s.heap.size = A at hD ⊢
  have hA : ∀ q : Nat, s.heap.size ≤ q → A q := fun q h => by rw [← hAe]; exact Or.inr h
  have hS : va_S A s.heap s.heap [] := va_S.rf
  have hR : FR ty [ρ] F F := FR.refl
  have hl := lv_entry ([.ref h0, .ref g1, .int (nI a), .int (nI b)]) (n := 7) (Nat.le_of_ble_eq_true rfl)
  rw [lg_entry_eq]
  generalize (lg_sl ([.ref h0, .ref g1, .int (nI a), .int (nI b)]) ++ List.replicate (7 - (lg_sl ([.ref h0, .ref g1, .int (nI a), .int (nI b)])).length) Slot.unset).toArray = ls at hl ⊢
  have hl : lv_has ls 7 [(0, .ref h0), (1, .ref g1), (2, .int (nI a)), (3, .int (nI b))] := hl
  obtain ⟨hi_1, ht_2, hq_3⟩ := hW.bytes hL_h0 hT_h0
  obtain ⟨hi_4, ht_5, hq_6⟩ := hW.bytes hL_g1 hT_g1
  have hyn : y ≤ n := by have h9 := hT.1; omega
  have hoob := tga_b hT
  refine lv_iconst (v := 0) hx hb dX0_addRange_0 (by decide) ?_
  refine lv_iload_n hx hb dX0_addRange_1 rfl (lv_at hl 2 rfl) ?_
  refine va_mmax hx hb (by rw [hml]; exact hl.1.symm) hown (hts _ kt_17) (hts _ kt_18) (hts _ kt_19) (hts _ kt_20) (Nat.le_of_ble_eq_true rfl) (Nat.le_of_ble_eq_true rfl) (by show _ ≤ 0; omega) (by show _ ≤ 0; omega) dX0_addRange_2 ?_
  refine lv_topi (fun x_7 ex_7 => ?_)
  obtain rfl : x_7 = (nI a) := ex_7.trans (max0n (by omega))
  refine lv_istore (lv' := [(4, .int (nI a)), (0, .ref h0), (1, .ref g1), (2, .int (nI a)), (3, .int (nI b))]) hx hb dX0_addRange_5 hl (by decide) rfl (fun ls hl => ?_)
  refine lv_iload_n hx hb dX0_addRange_7 rfl (lv_at hl 4 rfl) ?_
  refine lv_aload_n hx hb dX0_addRange_8 rfl (lv_at hl 2 rfl) ?_
  refine pg_get (ci := 0) (v := .int (nI z)) (C := RX0) (T := TX0) (N := 3) hx hb hts it_0 hown hK hP hL_g1 hFg rfl 1 (by decide) (hts _ kt_10) (fun _ h9 => h9) rfl dX0_addRange_9 ?_
  refine va_mmin hx hb (by rw [hml]; exact hl.1.symm) hown (hts _ kt_25) (hts _ kt_26) (hts _ kt_19) (hts _ kt_27) (Nat.le_of_ble_eq_true rfl) (Nat.le_of_ble_eq_true rfl) (by show _ ≤ 0; omega) (by show _ ≤ 0; omega) dX0_addRange_12 ?_
  refine lv_topi (fun x_8 ex_8 => ?_)
  obtain rfl : x_8 = (nI b) := ex_8.trans (mnI_le (by omega) (by omega))
  refine lv_iload hx hb dX0_addRange_15 (lv_at hl 0 rfl) ?_
  refine lv_isub hx hb dX0_addRange_17 ?_
  refine lv_topi (fun x_9 ex_9 => ?_)
  obtain rfl : x_9 = (nI (b - a)) := ex_9.trans (pk_sub hab)
  refine lv_istore (lv' := [(5, .int (nI (b - a))), (4, .int (nI a)), (0, .ref h0), (1, .ref g1), (2, .int (nI a)), (3, .int (nI b))]) hx hb dX0_addRange_18 hl (by decide) rfl (fun ls hl => ?_)
  refine lv_iload hx hb dX0_addRange_20 (lv_at hl 0 rfl) ?_
  refine lv_aload_n hx hb dX0_addRange_22 rfl (lv_at hl 2 rfl) ?_
  refine pg_get (ci := 0) (v := .ref r0) (C := RX0) (T := TX0) (N := 3) hx hb hts it_0 hown hK hP hL_h0 hF0 rfl 0 (by decide) (hts _ kt_12) (fun _ h9 => h9) rfl dX0_addRange_23 ?_
  refine pg_alen (v := (nI n)) hx hb hK hP hi_1 0 hFr rfl rfl dX0_addRange_26 ?_
  refine lv_aload_n hx hb dX0_addRange_27 rfl (lv_at hl 2 rfl) ?_
  refine pg_get (ci := 0) (v := .int (nI y)) (C := RX0) (T := TX0) (N := 3) hx hb hts it_0 hown hK hP hL_h0 hF0 rfl 1 (by decide) (hts _ kt_10) (fun _ h9 => h9) rfl dX0_addRange_28 ?_
  refine lv_isub hx hb dX0_addRange_31 ?_
  refine lv_topi (fun x_10 ex_10 => ?_)
  obtain rfl : x_10 = (nI (n - y)) := ex_10.trans (pk_sub hyn)
  refine va_mmin hx hb (by rw [hml]; exact hl.1.symm) hown (hts _ kt_25) (hts _ kt_26) (hts _ kt_19) (hts _ kt_27) (Nat.le_of_ble_eq_true rfl) (Nat.le_of_ble_eq_true rfl) (by show _ ≤ 0; omega) (by show _ ≤ 0; omega) dX0_addRange_32 ?_
  refine lv_topi (fun x_11 ex_11 => ?_)
  obtain rfl : x_11 = (nI (min (b - a) (n - y))) := ex_11.trans (mnI_g (by omega) (by omega))
  refine lv_istore (lv' := [(6, .int (nI (min (b - a) (n - y)))), (5, .int (nI (b - a))), (4, .int (nI a)), (0, .ref h0), (1, .ref g1), (2, .int (nI a)), (3, .int (nI b))]) hx hb dX0_addRange_35 hl (by decide) rfl (fun ls hl => ?_)
  refine lv_iload hx hb dX0_addRange_37 (lv_at hl 0 rfl) ?_
  refine lv_if_le (tgt := 72) hx hb dX0_addRange_39 (by decide) (fun c_12 => ?_) (fun c_12 => ?_)
  ·
    have hz0 : (min (b - a) (n - y)) = 0 := by have h9 : (min (b - a) (n - y)) ≤ 0 := (nI_leI (b := 0) (by omega) (by omega)).mp c_12; omega
    refine lv_aload_n hx hb dX0_addRange_72 rfl (lv_at hl 3 rfl) ?_
    refine lv_aload_n hx hb dX0_addRange_73 rfl (lv_at hl 3 rfl) ?_
    refine pg_get (ci := 0) (v := .int oo) (C := RX0) (T := TX0) (N := 3) hx hb hts it_0 hown hK hP hL_h0 hF0 rfl 2 (by decide) (hts _ kt_11) (fun _ h9 => h9) rfl dX0_addRange_74 ?_
    refine lv_if_ne (tgt := 87) hx hb dX0_addRange_77 (by decide) (fun c_14 => ?_) (fun c_14 => ?_)
    ·
      refine lv_iconst (v := 1) hx hb dX0_addRange_87 (by decide) ?_
      refine lv_goto (tgt := 92) hx hb dX0_addRange_88 (by decide) ?_
      refine pg_put (ci := 0) (v := .int 1) (ty := .boolean) (C := RX0) (T := TX0) (N := 3) hx hb hts it_0 tyX0 tyX0_ok nmX0 hown hK hP hD hS hL_h0 hF0 rfl 2 (by decide) (hts _ kt_11) (fun _ h9 => h9) rfl (by decide +kernel) (rfl) (rfl) (Nat.le_of_ble_eq_true rfl) dX0_addRange_92 (fun H locs hP hD hS => ?_)
      obtain ⟨F_15, he_16, hP, hD, hO, hR⟩ : ∃ G, G = va_up F h0 (.inr (0, [.ref r0, .int (nI y), .int 1])) ∧ va_P (dC, dI) vwCl (va_pl L G) H ∧ va_D A (va_pl L G) ∧ OK cs ty L G ∧ FR ty [ρ] F G := ⟨_, rfl, hP, hD, hO.up (sh.bytes hT_h0 ⟨y, 1, rfl, (by first | omega | assumption | exact Or.inl rfl | exact Or.inr rfl), (by first | omega | assumption | exact Or.inl rfl | exact Or.inr rfl)⟩), hR.up hT_h0 (by simp)⟩
      have hF_17 : F_15 h0 = .inr (0, [.ref r0, .int (nI y), .int 1]) := by rw [he_16]; exact up_self
      have hF_18 : F_15 r0 = .inl (cs 16, n, .inl f) := by rw [he_16, up_ne (ne_ty ht_2 hT_h0 (by simp))]; exact hFr
      have hF_19 : F_15 r1 = .inl (cs 16, n1, .inl fv) := by rw [he_16, up_ne (ne_ty ht_5 hT_h0 (by simp))]; exact hFv
      refine W.widen (k := 0) (n := 0) (by omega) (by omega) ?_
      exact W.vret hx hb hr (fun t ht hWm => ⟨⟨(), rfl, trivial, ⟨F_15, y, 1, f, QT.mk ht hP hD hO hR, hF_17, hF_18, (tga_r hT hV hab hbz rfl (by omega) (Or.inl ⟨rfl, Or.inl c_14⟩) (fun j _ => rfl) (fun j h1 h2 => by omega))⟩⟩, hS.F ht⟩) hS.2.2 dX0_addRange_95
    ·
      refine lv_iload hx hb dX0_addRange_80 (lv_at hl 0 rfl) ?_
      refine lv_iload hx hb dX0_addRange_82 (lv_at hl 1 rfl) ?_
      refine lv_icmp_ge (tgt := 91) hx hb dX0_addRange_84 (by decide) (fun c_20 => ?_) (fun c_20 => ?_)
      ·
        have hi_21 : (b - a) ≤ (min (b - a) (n - y)) := leN (N := (b - a)) c_20
        have hge : b - a ≤ (min (b - a) (n - y)) := (nI_leI (by omega) (by omega)).mp c_20
        refine lv_iconst (v := 0) hx hb dX0_addRange_91 (by decide) ?_
        refine pg_put (ci := 0) (v := .int 0) (ty := .boolean) (C := RX0) (T := TX0) (N := 3) hx hb hts it_0 tyX0 tyX0_ok nmX0 hown hK hP hD hS hL_h0 hF0 rfl 2 (by decide) (hts _ kt_11) (fun _ h9 => h9) rfl (by decide +kernel) (rfl) (rfl) (Nat.le_of_ble_eq_true rfl) dX0_addRange_92 (fun H locs hP hD hS => ?_)
        obtain ⟨F_22, he_23, hP, hD, hO, hR⟩ : ∃ G, G = va_up F h0 (.inr (0, [.ref r0, .int (nI y), .int 0])) ∧ va_P (dC, dI) vwCl (va_pl L G) H ∧ va_D A (va_pl L G) ∧ OK cs ty L G ∧ FR ty [ρ] F G := ⟨_, rfl, hP, hD, hO.up (sh.bytes hT_h0 ⟨y, 0, rfl, (by first | omega | assumption | exact Or.inl rfl | exact Or.inr rfl), (by first | omega | assumption | exact Or.inl rfl | exact Or.inr rfl)⟩), hR.up hT_h0 (by simp)⟩
        have hF_24 : F_22 h0 = .inr (0, [.ref r0, .int (nI y), .int 0]) := by rw [he_23]; exact up_self
        have hF_25 : F_22 r0 = .inl (cs 16, n, .inl f) := by rw [he_23, up_ne (ne_ty ht_2 hT_h0 (by simp))]; exact hFr
        have hF_26 : F_22 r1 = .inl (cs 16, n1, .inl fv) := by rw [he_23, up_ne (ne_ty ht_5 hT_h0 (by simp))]; exact hFv
        refine W.widen (k := 0) (n := 0) (by omega) (by omega) ?_
        exact W.vret hx hb hr (fun t ht hWm => ⟨⟨(), rfl, trivial, ⟨F_22, y, 0, f, QT.mk ht hP hD hO hR, hF_24, hF_25, (tga_r hT hV hab hbz rfl (by omega) (Or.inr ⟨rfl, c_14, hge⟩) (fun j _ => rfl) (fun j h1 h2 => by omega))⟩⟩, hS.F ht⟩) hS.2.2 dX0_addRange_95
      ·
        have hi_27 : (min (b - a) (n - y)) < (b - a) := ltN (N := (b - a)) c_20
        have hge : (min (b - a) (n - y)) < b - a := Nat.not_le.mp (fun q => c_20 ((nI_leI (by omega) (by omega)).mpr q))
        refine lv_iconst (v := 1) hx hb dX0_addRange_87 (by decide) ?_
        refine lv_goto (tgt := 92) hx hb dX0_addRange_88 (by decide) ?_
        refine pg_put (ci := 0) (v := .int 1) (ty := .boolean) (C := RX0) (T := TX0) (N := 3) hx hb hts it_0 tyX0 tyX0_ok nmX0 hown hK hP hD hS hL_h0 hF0 rfl 2 (by decide) (hts _ kt_11) (fun _ h9 => h9) rfl (by decide +kernel) (rfl) (rfl) (Nat.le_of_ble_eq_true rfl) dX0_addRange_92 (fun H locs hP hD hS => ?_)
        obtain ⟨F_28, he_29, hP, hD, hO, hR⟩ : ∃ G, G = va_up F h0 (.inr (0, [.ref r0, .int (nI y), .int 1])) ∧ va_P (dC, dI) vwCl (va_pl L G) H ∧ va_D A (va_pl L G) ∧ OK cs ty L G ∧ FR ty [ρ] F G := ⟨_, rfl, hP, hD, hO.up (sh.bytes hT_h0 ⟨y, 1, rfl, (by first | omega | assumption | exact Or.inl rfl | exact Or.inr rfl), (by first | omega | assumption | exact Or.inl rfl | exact Or.inr rfl)⟩), hR.up hT_h0 (by simp)⟩
        have hF_30 : F_28 h0 = .inr (0, [.ref r0, .int (nI y), .int 1]) := by rw [he_29]; exact up_self
        have hF_31 : F_28 r0 = .inl (cs 16, n, .inl f) := by rw [he_29, up_ne (ne_ty ht_2 hT_h0 (by simp))]; exact hFr
        have hF_32 : F_28 r1 = .inl (cs 16, n1, .inl fv) := by rw [he_29, up_ne (ne_ty ht_5 hT_h0 (by simp))]; exact hFv
        refine W.widen (k := 0) (n := 0) (by omega) (by omega) ?_
        exact W.vret hx hb hr (fun t ht hWm => ⟨⟨(), rfl, trivial, ⟨F_28, y, 1, f, QT.mk ht hP hD hO hR, hF_30, hF_31, (tga_r hT hV hab hbz rfl (by omega) (Or.inl ⟨rfl, Or.inr hge⟩) (fun j _ => rfl) (fun j h1 h2 => by omega))⟩⟩, hS.F ht⟩) hS.2.2 dX0_addRange_95
  ·
    have hp0 : 0 < (min (b - a) (n - y)) := posN c_12
    refine lv_aload_n hx hb dX0_addRange_42 rfl (lv_at hl 4 rfl) ?_
    refine pg_get (ci := 0) (v := .ref r1) (C := RX0) (T := TX0) (N := 3) hx hb hts it_0 hown hK hP hL_g1 hFg rfl 0 (by decide) (hts _ kt_12) (fun _ h9 => h9) rfl dX0_addRange_43 ?_
    refine lv_iload hx hb dX0_addRange_46 (lv_at hl 2 rfl) ?_
    refine lv_aload_n hx hb dX0_addRange_48 rfl (lv_at hl 3 rfl) ?_
    refine pg_get (ci := 0) (v := .ref r0) (C := RX0) (T := TX0) (N := 3) hx hb hts it_0 hown hK hP hL_h0 hF0 rfl 0 (by decide) (hts _ kt_12) (fun _ h9 => h9) rfl dX0_addRange_49 ?_
    refine lv_aload_n hx hb dX0_addRange_52 rfl (lv_at hl 3 rfl) ?_
    refine pg_get (ci := 0) (v := .int (nI y)) (C := RX0) (T := TX0) (N := 3) hx hb hts it_0 hown hK hP hL_h0 hF0 rfl 1 (by decide) (hts _ kt_10) (fun _ h9 => h9) rfl dX0_addRange_53 ?_
    refine lv_iload hx hb dX0_addRange_56 (lv_at hl 0 rfl) ?_
    refine pg_copyi hx hb (by rw [hml]; exact hl.1.symm) hown (hts _ kt_28) (hts _ kt_29) (hts _ kt_30) (hts _ kt_31) hK hP hD hS hi_4 hi_1 0 0 hFv hFr rfl rfl rfl (nI_pos (by omega)) (nI_pos (by omega)) (nI_pos (by omega)) (by rw [nI_clamp (by omega), nI_clamp (by omega)]; omega) (by rw [nI_clamp (by omega), nI_clamp (by omega)]; omega) (fun _ _ => rfl) (Nat.le_of_ble_eq_true rfl) (by decide) dX0_addRange_58 (fun H locs hP hD hS => ?_)
    obtain ⟨F_34, he_35, hP, hD, hO, hR⟩ : ∃ G, G = va_up F r0 (.inl (cs 16, n, .inl (va_cpy fv f ((nI a)).toNatClampNeg ((nI y)).toNatClampNeg ((nI (min (b - a) (n - y)))).toNatClampNeg))) ∧ va_P (dC, dI) vwCl (va_pl L G) H ∧ va_D A (va_pl L G) ∧ OK cs ty L G ∧ FR ty [ρ] F G := ⟨_, rfl, hP, hD, hO.up (sh.ints ht_2 ⟨_, rfl⟩), hR.up ht_2 (by simp)⟩
    have hF_36 : F_34 r0 = .inl (cs 16, n, .inl (va_cpy fv f ((nI a)).toNatClampNeg ((nI y)).toNatClampNeg ((nI (min (b - a) (n - y)))).toNatClampNeg)) := by rw [he_35]; exact up_self
    have hF_37 : F_34 h0 = .inr (0, [.ref r0, .int (nI y), .int oo]) := by rw [he_35, up_ne (ne_ty hT_h0 ht_2 (by simp))]; exact hF0
    have hF_38 : F_34 g1 = .inr (0, [.ref r1, .int (nI z), .int 0]) := by rw [he_35, up_ne (ne_ty hT_g1 ht_2 (by simp))]; exact hFg
    refine lv_aload_n hx hb dX0_addRange_61 rfl (lv_at hl 3 rfl) ?_
    refine lv_dup hx hb dX0_addRange_62 rfl ?_
    refine pg_get (ci := 0) (v := .int (nI y)) (C := RX0) (T := TX0) (N := 3) hx hb hts it_0 hown hK hP hL_h0 hF_37 rfl 1 (by decide) (hts _ kt_10) (fun _ h9 => h9) rfl dX0_addRange_63 ?_
    refine lv_iload hx hb dX0_addRange_66 (lv_at hl 0 rfl) ?_
    refine lv_iadd hx hb dX0_addRange_68 ?_
    refine lv_topi (fun x_39 ex_39 => ?_)
    obtain rfl : x_39 = (nI (y + (min (b - a) (n - y)))) := ex_39.trans (nI_add _ _)
    refine pg_put (ci := 0) (v := .int (nI (y + (min (b - a) (n - y))))) (ty := .int) (C := RX0) (T := TX0) (N := 3) hx hb hts it_0 tyX0 tyX0_ok nmX0 hown hK hP hD hS hL_h0 hF_37 rfl 1 (by decide) (hts _ kt_10) (fun _ h9 => h9) rfl (by decide +kernel) (rfl) (rfl) (Nat.le_of_ble_eq_true rfl) dX0_addRange_69 (fun H locs hP hD hS => ?_)
    obtain ⟨F_40, he_41, hP, hD, hO, hR⟩ : ∃ G, G = va_up F_34 h0 (.inr (0, [.ref r0, .int (nI (y + (min (b - a) (n - y)))), .int oo])) ∧ va_P (dC, dI) vwCl (va_pl L G) H ∧ va_D A (va_pl L G) ∧ OK cs ty L G ∧ FR ty [ρ] F G := ⟨_, rfl, hP, hD, hO.up (sh.bytes hT_h0 ⟨(y + (min (b - a) (n - y))), oo, rfl, (by first | omega | assumption | exact Or.inl rfl | exact Or.inr rfl), (by first | omega | assumption | exact Or.inl rfl | exact Or.inr rfl)⟩), hR.up hT_h0 (by simp)⟩
    have hF_42 : F_40 h0 = .inr (0, [.ref r0, .int (nI (y + (min (b - a) (n - y)))), .int oo]) := by rw [he_41]; exact up_self
    have hF_43 : F_40 r0 = .inl (cs 16, n, .inl (va_cpy fv f ((nI a)).toNatClampNeg ((nI y)).toNatClampNeg ((nI (min (b - a) (n - y)))).toNatClampNeg)) := by rw [he_41, up_ne (ne_ty ht_2 hT_h0 (by simp))]; exact hF_36
    refine lv_aload_n hx hb dX0_addRange_72 rfl (lv_at hl 3 rfl) ?_
    refine lv_aload_n hx hb dX0_addRange_73 rfl (lv_at hl 3 rfl) ?_
    refine pg_get (ci := 0) (v := .int oo) (C := RX0) (T := TX0) (N := 3) hx hb hts it_0 hown hK hP hL_h0 hF_42 rfl 2 (by decide) (hts _ kt_11) (fun _ h9 => h9) rfl dX0_addRange_74 ?_
    refine lv_if_ne (tgt := 87) hx hb dX0_addRange_77 (by decide) (fun c_44 => ?_) (fun c_44 => ?_)
    ·
      refine lv_iconst (v := 1) hx hb dX0_addRange_87 (by decide) ?_
      refine lv_goto (tgt := 92) hx hb dX0_addRange_88 (by decide) ?_
      refine pg_put (ci := 0) (v := .int 1) (ty := .boolean) (C := RX0) (T := TX0) (N := 3) hx hb hts it_0 tyX0 tyX0_ok nmX0 hown hK hP hD hS hL_h0 hF_42 rfl 2 (by decide) (hts _ kt_11) (fun _ h9 => h9) rfl (by decide +kernel) (rfl) (rfl) (Nat.le_of_ble_eq_true rfl) dX0_addRange_92 (fun H locs hP hD hS => ?_)
      obtain ⟨F_45, he_46, hP, hD, hO, hR⟩ : ∃ G, G = va_up F_40 h0 (.inr (0, [.ref r0, .int (nI (y + (min (b - a) (n - y)))), .int 1])) ∧ va_P (dC, dI) vwCl (va_pl L G) H ∧ va_D A (va_pl L G) ∧ OK cs ty L G ∧ FR ty [ρ] F G := ⟨_, rfl, hP, hD, hO.up (sh.bytes hT_h0 ⟨(y + (min (b - a) (n - y))), 1, rfl, (by first | omega | assumption | exact Or.inl rfl | exact Or.inr rfl), (by first | omega | assumption | exact Or.inl rfl | exact Or.inr rfl)⟩), hR.up hT_h0 (by simp)⟩
      have hF_47 : F_45 h0 = .inr (0, [.ref r0, .int (nI (y + (min (b - a) (n - y)))), .int 1]) := by rw [he_46]; exact up_self
      have hF_48 : F_45 r0 = .inl (cs 16, n, .inl (va_cpy fv f ((nI a)).toNatClampNeg ((nI y)).toNatClampNeg ((nI (min (b - a) (n - y)))).toNatClampNeg)) := by rw [he_46, up_ne (ne_ty ht_2 hT_h0 (by simp))]; exact hF_43
      refine W.widen (k := 0) (n := 0) (by omega) (by omega) ?_
      exact W.vret hx hb hr (fun t ht hWm => ⟨⟨(), rfl, trivial, ⟨F_45, (y + (min (b - a) (n - y))), 1, (va_cpy fv f ((nI a)).toNatClampNeg ((nI y)).toNatClampNeg ((nI (min (b - a) (n - y)))).toNatClampNeg), QT.mk ht hP hD hO hR, hF_47, hF_48, (tga_r hT hV hab hbz rfl rfl (Or.inl ⟨rfl, Or.inl c_44⟩) (cpy_n (by omega) (by omega) (by omega)) (cpy_y (by omega) (by omega) (by omega)))⟩⟩, hS.F ht⟩) hS.2.2 dX0_addRange_95
    ·
      refine lv_iload hx hb dX0_addRange_80 (lv_at hl 0 rfl) ?_
      refine lv_iload hx hb dX0_addRange_82 (lv_at hl 1 rfl) ?_
      refine lv_icmp_ge (tgt := 91) hx hb dX0_addRange_84 (by decide) (fun c_49 => ?_) (fun c_49 => ?_)
      ·
        have hi_50 : (b - a) ≤ (min (b - a) (n - y)) := leN (N := (b - a)) c_49
        have hge : b - a ≤ (min (b - a) (n - y)) := (nI_leI (by omega) (by omega)).mp c_49
        refine lv_iconst (v := 0) hx hb dX0_addRange_91 (by decide) ?_
        refine pg_put (ci := 0) (v := .int 0) (ty := .boolean) (C := RX0) (T := TX0) (N := 3) hx hb hts it_0 tyX0 tyX0_ok nmX0 hown hK hP hD hS hL_h0 hF_42 rfl 2 (by decide) (hts _ kt_11) (fun _ h9 => h9) rfl (by decide +kernel) (rfl) (rfl) (Nat.le_of_ble_eq_true rfl) dX0_addRange_92 (fun H locs hP hD hS => ?_)
        obtain ⟨F_51, he_52, hP, hD, hO, hR⟩ : ∃ G, G = va_up F_40 h0 (.inr (0, [.ref r0, .int (nI (y + (min (b - a) (n - y)))), .int 0])) ∧ va_P (dC, dI) vwCl (va_pl L G) H ∧ va_D A (va_pl L G) ∧ OK cs ty L G ∧ FR ty [ρ] F G := ⟨_, rfl, hP, hD, hO.up (sh.bytes hT_h0 ⟨(y + (min (b - a) (n - y))), 0, rfl, (by first | omega | assumption | exact Or.inl rfl | exact Or.inr rfl), (by first | omega | assumption | exact Or.inl rfl | exact Or.inr rfl)⟩), hR.up hT_h0 (by simp)⟩
        have hF_53 : F_51 h0 = .inr (0, [.ref r0, .int (nI (y + (min (b - a) (n - y)))), .int 0]) := by rw [he_52]; exact up_self
        have hF_54 : F_51 r0 = .inl (cs 16, n, .inl (va_cpy fv f ((nI a)).toNatClampNeg ((nI y)).toNatClampNeg ((nI (min (b - a) (n - y)))).toNatClampNeg)) := by rw [he_52, up_ne (ne_ty ht_2 hT_h0 (by simp))]; exact hF_43
        refine W.widen (k := 0) (n := 0) (by omega) (by omega) ?_
        exact W.vret hx hb hr (fun t ht hWm => ⟨⟨(), rfl, trivial, ⟨F_51, (y + (min (b - a) (n - y))), 0, (va_cpy fv f ((nI a)).toNatClampNeg ((nI y)).toNatClampNeg ((nI (min (b - a) (n - y)))).toNatClampNeg), QT.mk ht hP hD hO hR, hF_53, hF_54, (tga_r hT hV hab hbz rfl rfl (Or.inr ⟨rfl, c_44, hge⟩) (cpy_n (by omega) (by omega) (by omega)) (cpy_y (by omega) (by omega) (by omega)))⟩⟩, hS.F ht⟩) hS.2.2 dX0_addRange_95
      ·
        have hi_55 : (min (b - a) (n - y)) < (b - a) := ltN (N := (b - a)) c_49
        have hge : (min (b - a) (n - y)) < b - a := Nat.not_le.mp (fun q => c_49 ((nI_leI (by omega) (by omega)).mpr q))
        refine lv_iconst (v := 1) hx hb dX0_addRange_87 (by decide) ?_
        refine lv_goto (tgt := 92) hx hb dX0_addRange_88 (by decide) ?_
        refine pg_put (ci := 0) (v := .int 1) (ty := .boolean) (C := RX0) (T := TX0) (N := 3) hx hb hts it_0 tyX0 tyX0_ok nmX0 hown hK hP hD hS hL_h0 hF_42 rfl 2 (by decide) (hts _ kt_11) (fun _ h9 => h9) rfl (by decide +kernel) (rfl) (rfl) (Nat.le_of_ble_eq_true rfl) dX0_addRange_92 (fun H locs hP hD hS => ?_)
        obtain ⟨F_56, he_57, hP, hD, hO, hR⟩ : ∃ G, G = va_up F_40 h0 (.inr (0, [.ref r0, .int (nI (y + (min (b - a) (n - y)))), .int 1])) ∧ va_P (dC, dI) vwCl (va_pl L G) H ∧ va_D A (va_pl L G) ∧ OK cs ty L G ∧ FR ty [ρ] F G := ⟨_, rfl, hP, hD, hO.up (sh.bytes hT_h0 ⟨(y + (min (b - a) (n - y))), 1, rfl, (by first | omega | assumption | exact Or.inl rfl | exact Or.inr rfl), (by first | omega | assumption | exact Or.inl rfl | exact Or.inr rfl)⟩), hR.up hT_h0 (by simp)⟩
        have hF_58 : F_56 h0 = .inr (0, [.ref r0, .int (nI (y + (min (b - a) (n - y)))), .int 1]) := by rw [he_57]; exact up_self
        have hF_59 : F_56 r0 = .inl (cs 16, n, .inl (va_cpy fv f ((nI a)).toNatClampNeg ((nI y)).toNatClampNeg ((nI (min (b - a) (n - y)))).toNatClampNeg)) := by rw [he_57, up_ne (ne_ty ht_2 hT_h0 (by simp))]; exact hF_43
        refine W.widen (k := 0) (n := 0) (by omega) (by omega) ?_
        exact W.vret hx hb hr (fun t ht hWm => ⟨⟨(), rfl, trivial, ⟨F_56, (y + (min (b - a) (n - y))), 1, (va_cpy fv f ((nI a)).toNatClampNeg ((nI y)).toNatClampNeg ((nI (min (b - a) (n - y)))).toNatClampNeg), QT.mk ht hP hD hO hR, hF_58, hF_59, (tga_r hT hV hab hbz rfl rfl (Or.inl ⟨rfl, Or.inr hge⟩) (cpy_n (by omega) (by omega) (by omega)) (cpy_y (by omega) (by omega) (by omega)))⟩⟩, hS.F ht⟩) hS.2.2 dX0_addRange_95
theorem tk_s {l : List Nat} : ∀ (l : List Nat) (j : Nat), j < l.length → l.take j ++ [l.getD j 0] = l.take (j + 1)
  | [], j, h => absurd h (Nat.not_lt_zero _)
  | x :: l, 0, _ => rfl
  | x :: l, j + 1, h => congrArg (List.cons x) (tk_s (l := l) l j (Nat.lt_of_succ_lt_succ h))
theorem tk_e : ∀ (l : List Nat) (j : Nat), j = l.length → l.take j = l
  | [], 0, _ => rfl
  | [], j + 1, h => absurd h (by show ¬ j + 1 = 0; omega)
  | x :: l, 0, h => absurd h (by show ¬ 0 = l.length + 1; omega)
  | x :: l, j + 1, h => congrArg (List.cons x) (tk_e l j (by have h9 : j + 1 = l.length + 1 := h; omega))
set_option maxHeartbeats 4000000 in
set_option maxRecDepth 100000 in
theorem s_X0_addText_t (l : Launch) (dC : Nat → ClassId) (dI : Nat → Nat → Nat) (cs : Nat → ClassId) (ty : TyM) (L : List Nat) (sz : Nat) (F : Nat → va_E) (h0 : Nat) (ρ : Nat) (r0 : Nat) (n : Nat) (q : Nat) (v : Nat) (k0 : Nat) (C : Nat → Int32) (y : Nat) (f : Nat → Int32) (oo : Int32) (U : List Nat) (ll : List Nat) (hW : WT ty L) (hL_h0 : h0 ∈ L) (hT_h0 : ty h0 = (0, ρ, [r0, n])) (hF0 : F h0 = .inr (0, [.ref r0, .int (nI y), .int oo])) (hFr : F r0 = .inl (cs 16, n, .inl f)) (hm9 : n ≤ 10000) (hT : TGA U n y oo f) (hCL : CLI C k0 ll) : Met l yX0_addText (.code yX0_addText cX0_addText 3 none :: tb) ({ frames := 4, cells := 0, slots := 0, locals := 85 }) (va_Pc [.ref h0, .ref q] (PTC (dC, dI) cs ty L F sz q v k0 C)) (va_Qv (fun _ : Unit => True) (fun _ T9 => ∃ F2 : Nat → va_E, ∃ y2 : Nat, ∃ oo2 : Int32, ∃ f2 : Nat → Int32, QT (dC, dI) cs ty L [ρ] F F2 (va_A (va_pl L F) sz) T9 ∧ F2 h0 = .inr (0, [.ref r0, .int (nI y2), .int oo2]) ∧ F2 r0 = .inl (cs 16, n, .inl f2) ∧ TGA (U ++ ll) n y2 oo2 f2) (va_A (va_pl L F) sz)) 0 0 (va_A (va_pl L F) sz) := by
  refine Met.ofW (cc := cX0_addText) (maxL := 3) (ret := none) (by decide) rfl ?_
  intro p e s m args below meth c s₁ B hml hv
  obtain ⟨rfl, ⟨hsz, hP, hK, hD0, hE, hO⟩, hG, hX⟩ := hv
  have hx := B.exec
  have hb := B.bytes
  have hr := B.returns
  have hts : ∀ w ∈ tb, w.before _ s = true := fun w h => atoms_spec (ws := .code yX0_addText cX0_addText 3 none :: tb) B.pre w (List.mem_cons_of_mem _ h)
  have hown : s.vm.findClass RX0 = some m.cls := findClass_of_methodNamed B.named
  have hlocks := B.notSynchronized
  subst hsz
  have hD := hD0.self (sz := s.heap.size)
  generalize hAe : va_A (va_pl L F) s.heap.size = A at hD hG hX ⊢
  have hX_q : SX q v k0 A s s.heap := hX.sx
  obtain ⟨xo_q, xc_q, xv_q, xt_q, xn_q⟩ := id hX
  have hA : ∀ q : Nat, s.heap.size ≤ q → A q := fun q h => by rw [← hAe]; exact Or.inr h
  have hS : va_S A s.heap s.heap [] := va_S.rf
  have hR : FR ty [ρ] F F := FR.refl
  have hl := lv_entry ([.ref h0, .ref q]) (n := 3) (Nat.le_of_ble_eq_true rfl)
  rw [lg_entry_eq]
  generalize (lg_sl ([.ref h0, .ref q]) ++ List.replicate (3 - (lg_sl ([.ref h0, .ref q])).length) Slot.unset).toArray = ls at hl ⊢
  have hl : lv_has ls 3 [(0, .ref h0), (1, .ref q)] := hl
  obtain ⟨hi_1, ht_2, hq_3⟩ := hW.bytes hL_h0 hT_h0
  refine lv_iconst (v := 0) hx hb dX0_addText_0 (by decide) ?_
  refine lv_istore_n (lv' := [(2, .int 0), (0, .ref h0), (1, .ref q)]) hx hb dX0_addText_1 rfl hl (by decide) rfl (fun ls hl => ?_)
  refine W.widen (k := 0) (n := 0) (by omega) (by omega) ?_
  refine pl_loop (σ := Nat × Nat × Int32 × (Nat → Int32)) A (dC, dI) cs ty L [ρ] F 2 3 (fun (j, yy, ov, fq) => [(2, .int (nI j)), (0, .ref h0), (1, .ref q)]) (fun (j, yy, ov, fq) => []) (fun (j, yy, ov, fq) FF => j ≤ k0 ∧ FF h0 = .inr (0, [.ref r0, .int (nI yy), .int ov]) ∧ FF r0 = .inl (cs 16, n, .inl fq) ∧ TGA (U ++ ll.take j) n yy ov fq) (fun (j, yy, ov, fq) => k0 - j) ?_ (0, y, oo, f) F (⟨Nat.zero_le _, hF0, hFr, by rw [show ll.take 0 = [] from rfl, List.append_nil]; exact hT⟩) hO hR _ _ hP hD hS ls (lv_sub hl [0, 1, 2] rfl)
  rintro ⟨j, yy, ov, fq⟩ F_4 hv_5 hO hR ih_6 H locs hP hD hS ls hl
  have hl : lv_has ls 3 [(2, .int (nI j)), (0, .ref h0), (1, .ref q)] := hl
  have hv_5 : j ≤ k0 ∧ F_4 h0 = .inr (0, [.ref r0, .int (nI yy), .int ov]) ∧ F_4 r0 = .inl (cs 16, n, .inl fq) ∧ TGA (U ++ ll.take j) n yy ov fq := hv_5
  refine W.eq (g2 := F0 m 2 ls []) rfl ?_
  obtain ⟨hv1, hv2, hv3, hv4⟩ := id hv_5
  have hyy : yy ≤ n := by have h9 := hv4.1; omega
  refine lv_iload_n hx hb dX0_addText_2 rfl (lv_at hl 0 rfl) ?_
  refine lv_aload_n hx hb dX0_addText_3 rfl (lv_at hl 2 rfl) ?_
  have hFc := pg_free hD hS hA
  refine va_calli (va_runV (As := []) (rest := [.int (nI j)]) ⟨hx, hb, hml, hown, hts⟩ (s_J0_length_8abf5 l dC dI cs ty L H.size F_4 q v k0 hW ) ⟨callB_of 0 hts (gi kt_71) rfl rfl rfl (hts _ kt_51) (hts _ kt_72) (by decide +kernel) ⟨Nat.le_of_ble_eq_true rfl, Nat.le_of_ble_eq_true rfl⟩, (hts _ kt_73), (hts _ kt_74)⟩ ⟨fun a U g mk q => ⟨q.1, PTE.calling q.2⟩, sx_recv hX_q hS, fun U hU hWm => ⟨rfl, PTE.mk hU hWm hP hK hD hE hO hG (fun x hx => by rw [List.mem_singleton] at hx; subst hx; exact hX_q) hS hFc⟩⟩ rfl rfl hl.1 rfl (lv_room (Nat.le_of_ble_eq_true rfl)) dX0_addText_4 ⟨by show _ + 0 ≤ 0; omega, by show _ + 0 ≤ 0; omega⟩) hS (fun q _ h => hFc q h) hFc (fun r_7 u t H1 locs ht hvm hw hB hz1 hk1 hS => ?_)
  obtain ⟨F_8, hB1⟩ := hB
  obtain rfl : F_4 = F_8 := (funext (fun a => hB1.2.2.2 a List.not_mem_nil)).symm
  obtain ⟨hP, hD, hO, hR⟩ := QT.back hB1 ht hFc hR (fun q h => absurd h List.not_mem_nil)
  generalize H1 = H at hP hS ⊢
  have hw : r_7 = nI k0 := hw
  have hw_9 := hw
  subst hw_9
  refine lv_icmp_ge (tgt := 25) hx hb dX0_addText_7 (by decide) (fun c_10 => ?_) (fun c_10 => ?_)
  ·
    have hi_11 : k0 ≤ j := leN (N := k0) c_10
    have hjk : j = k0 := by have h9 : k0 ≤ j := (nI_leI (by omega) (by omega)).mp c_10; omega
    refine W.widen (k := 0) (n := 0) (by omega) (by omega) ?_
    exact W.vret hx hb hr (fun t ht hWm => ⟨⟨(), rfl, trivial, ⟨F_4, yy, ov, fq, QT.mk ht hP hD hO hR, hv2, hv3, (by have h9 := hv4; rw [tk_e ll j (by have h8 := hCL.1; omega)] at h9; exact h9)⟩⟩, hS.F ht⟩) hS.2.2 dX0_addText_25
  ·
    have hi_12 : j < k0 := ltN (N := k0) c_10
    have hjk : j < k0 := Nat.not_le.mp (fun q => c_10 ((nI_leI (by omega) (by omega)).mpr q))
    refine lv_aload_n hx hb dX0_addText_10 rfl (lv_at hl 1 rfl) ?_
    refine lv_aload_n hx hb dX0_addText_11 rfl (lv_at hl 2 rfl) ?_
    refine lv_iload_n hx hb dX0_addText_12 rfl (lv_at hl 0 rfl) ?_
    have hFc := pg_free hD hS hA
    refine va_calli (va_runV (As := [.int (nI j)]) (rest := [.ref h0]) ⟨hx, hb, hml, hown, hts⟩ (s_J0_charAt_x l dC dI cs ty L H.size F_4 q v k0 C j hW (hjk)) ⟨callB_of 1 hts (gi kt_75) rfl rfl rfl (hts _ kt_51) (hts _ kt_76) (by decide +kernel) ⟨Nat.le_of_ble_eq_true rfl, Nat.le_of_ble_eq_true rfl⟩, (hts _ kt_77), (hts _ kt_78)⟩ ⟨fun a U g mk q => ⟨q.1, PTC.calling q.2⟩, sx_recv hX_q hS, fun U hU hWm => ⟨rfl, PTC.mk hU hWm hP hK hD hE hO hG hX hS hFc⟩⟩ rfl rfl hl.1 rfl (lv_room (Nat.le_of_ble_eq_true rfl)) dX0_addText_13 ⟨by show _ + 0 ≤ 0; omega, by show _ + 0 ≤ 0; omega⟩) hS (fun q _ h => hFc q h) hFc (fun r_13 u t H1 locs ht hvm hw hB hz1 hk1 hS => ?_)
    obtain ⟨F_14, hB1⟩ := hB
    obtain rfl : F_4 = F_14 := (funext (fun a => hB1.2.2.2 a List.not_mem_nil)).symm
    obtain ⟨hP, hD, hO, hR⟩ := QT.back hB1 ht hFc hR (fun q h => absurd h List.not_mem_nil)
    generalize H1 = H at hP hS ⊢
    have hw : r_13 = chv (C j) := hw
    have hw_15 := hw
    have hw_16 := hw_15.trans (hCL.2 j hjk).1
    subst hw_16
    have hFc := pg_free hD hS hA
    refine va_callv (va_runV (As := [.int (nI (ll.getD j 0))]) (rest := []) ⟨hx, hb, hml, hown, hts⟩ (s_X0_add_t l dC dI cs ty L H.size F_4 h0 ρ r0 n yy (ll.getD j 0) fq ov (U ++ ll.take j) hW hL_h0 hT_h0 hv2 hv3 (by omega) (hv4)) ⟨callB_of 1 hts (gi kt_13) rfl rfl rfl (hts _ kt_1) (hts _ kt_14) (by decide +kernel) ⟨Nat.le_of_ble_eq_true rfl, Nat.le_of_ble_eq_true rfl⟩, (hts _ kt_15), (hts _ kt_16)⟩ ⟨fun a U g mk q => ⟨q.1, PT.calling q.2⟩, pg_recv hK hP hL_h0 hv2 (q := (RX0, TX0, 3)) rfl, fun U hU hWm => ⟨rfl, PT.mk hU hWm hP hK hD hE hO⟩⟩ rfl rfl hl.1 rfl (lv_room (Nat.le_of_ble_eq_true rfl)) dX0_addText_16 ⟨by show _ + 0 ≤ 0; omega, by show _ + 0 ≤ 0; omega⟩) hS (fun q _ h => hFc q h) hFc (fun u t H1 locs ht hvm hw hB hz1 hk1 hS => ?_)
    obtain ⟨F_18, y2_19, oo2_20, f2_21, hB1, hq_22, hq_23, hq_24⟩ := hB
    obtain ⟨hP, hD, hO, hR⟩ := QT.back hB1 ht hFc hR (fun q h => by simp only [List.mem_cons, List.not_mem_nil, or_false] at h ⊢; omega)
    generalize H1 = H at hP hS ⊢
    refine lv_iinc (v := (nI (j + 1))) (lv' := [(2, .int (nI (j + 1))), (0, .ref h0), (1, .ref q)]) hx hb dX0_addText_19 hl (k := 0) rfl (nI_1 _) (by decide) rfl (fun ls hl => ?_)
    refine lv_goto (tgt := 2) hx hb dX0_addText_22 (by decide) ?_
    refine W.widen (k := 0) (n := 0) (by omega) (by omega) ?_
    exact ih_6 ((j + 1), y2_19, oo2_20, f2_21) F_18 (⟨by omega, hq_22, hq_23, by have h9 := hq_24; rw [List.append_assoc, tk_s (l := ll) ll j (by have h8 := hCL.1; omega)] at h9; exact h9⟩) (by show k0 - (j + 1) < k0 - j; omega) hO hR _ _ hP hD hS ls (lv_sub hl [0, 1, 2] rfl)
def psw (V : List Nat) : Nat → Nat → Nat → Nat
  | 0, _, _ => 0
  | k + 1, i, d => if d = 0 then 0 else if V.getD i 0 = 46 then (if d - 1 = 0 then i + 1 else psw V k (i + 1) (d - 1)) else psw V k (i + 1) d
def psT (V : List Nat) (d : Nat) : Nat := psw V V.length 0 d
theorem psw_z {V : List Nat} : ∀ k i, psw V k i 0 = 0
  | 0, _ => rfl
  | _ + 1, _ => rfl
theorem psw_y {V : List Nat} {z i d X : Nat} (h : psw V (z - i) i d = X) (hi : i < z) (hd : 0 < d) (h1 : V.getD i 0 = 46) (h2 : ¬ d - 1 = 0) : psw V (z - (i + 1)) (i + 1) (d - 1) = X := by
  rw [show z - i = z - (i + 1) + 1 by omega] at h
  exact ((if_neg (by omega)).trans ((if_pos h1).trans (if_neg h2))).symm.trans h
theorem psw_r {V : List Nat} {z i d X : Nat} (h : psw V (z - i) i d = X) (hi : i < z) (hd : 0 < d) (h1 : V.getD i 0 = 46) (h2 : d - 1 = 0) : X = i + 1 := by
  rw [show z - i = z - (i + 1) + 1 by omega] at h
  exact h.symm.trans ((if_neg (by omega)).trans ((if_pos h1).trans (if_pos h2)))
theorem psw_n {V : List Nat} {z i d X : Nat} (h : psw V (z - i) i d = X) (hi : i < z) (hd : 0 < d) (h1 : ¬ V.getD i 0 = 46) : psw V (z - (i + 1)) (i + 1) d = X := by
  rw [show z - i = z - (i + 1) + 1 by omega] at h
  exact ((if_neg (by omega)).trans (if_neg h1)).symm.trans h
theorem psw_e {V : List Nat} {z i d X : Nat} (h : psw V (z - i) i d = X) (hi : z ≤ i ∨ d = 0) : X = 0 := by
  rcases hi with q | q
  · rw [show z - i = 0 by omega] at h
    exact h.symm
  · rw [q, psw_z] at h
    exact h.symm
theorem psw_le {V : List Nat} : ∀ k i d, psw V k i d ≤ i + k
  | 0, i, _ => Nat.zero_le _
  | k + 1, i, d => by
    show (if d = 0 then 0 else if V.getD i 0 = 46 then (if d - 1 = 0 then i + 1 else psw V k (i + 1) (d - 1)) else psw V k (i + 1) d) ≤ i + (k + 1)
    have h1 := psw_le (V := V) k (i + 1) (d - 1)
    have h2 := psw_le (V := V) k (i + 1) d
    split
    · omega
    · split
      · split <;> omega
      · omega
theorem psT_le {V : List Nat} {d : Nat} : psT V d ≤ V.length := by
  have h := psw_le (V := V) V.length 0 d
  unfold psT
  omega
def gV (V : List Nat) : Nat → Nat := fun j => V.getD j 0
theorem fd_ofV {f : Nat → Int32} {V : List Nat} {z c a k : Nat} (h : FSX f (nI c) a z k) (hV : SRC V z f) (hc : c < 128) : k = fdT (gV V) c a z := by
  obtain ⟨h1, h2, h3, h4⟩ := h
  have hv : ∀ j, j < z → (gV V j = c ↔ f j = nI c) := fun j hj => by
    rw [hV.2.1 j hj]
    exact (nI_eq (by have h9 : gV V j < 128 := hV.2.2 j hj; omega) (by omega)).symm
  unfold fdT
  refine (fdw_of (z - a) a (by omega) (by omega) (fun j g1 g2 q => ?_) ?_).symm
  · exact h3 j g1 g2 ((hv j (by omega)).mp q)
  · by_cases e : k = z
    · exact Or.inl (by omega)
    · exact Or.inr ((hv k (by omega)).mpr (h4.resolve_left e))
def ptL (V : List Nat) (i : Nat) : List Nat := rgL V (psT V i) (fdT (gV V) 46 (psT V i) V.length - psT V i)
def dtc (V : List Nat) : Nat → Nat
  | 0 => 0
  | j + 1 => dtc V j + (if V.getD j 0 = 46 then 1 else 0)
theorem dtc_le {V : List Nat} : ∀ j, dtc V j ≤ j
  | 0 => Nat.le_refl _
  | j + 1 => by
    have h := dtc_le (V := V) j
    show dtc V j + (if V.getD j 0 = 46 then 1 else 0) ≤ j + 1
    split <;> omega
def cnW (w p9 : Nat) : Nat := if w = 0 then p9 else min w p9
theorem cnW_le {w p9 : Nat} : cnW w p9 ≤ p9 := by
  unfold cnW
  split <;> omega
def pix (x : Int32) (c9 p9 k : Nat) : Nat := if x = 0 then p9 - c9 + k else c9 - 1 - k
def prw (V : List Nat) (x : Int32) (c9 p9 : Nat) : Nat → List Nat
  | 0 => []
  | k + 1 => prw V x c9 p9 k ++ (if 0 < k then [46] else []) ++ ptL V (pix x c9 p9 k)
def prL (V : List Nat) (w : Nat) (x : Int32) : List Nat := prw V x (cnW w (1 + dtc V V.length)) (1 + dtc V V.length) (cnW w (1 + dtc V V.length))
set_option maxHeartbeats 4000000 in
set_option maxRecDepth 100000 in
theorem s_X0_partStart_e (l : Launch) (dC : Nat → ClassId) (dI : Nat → Nat → Nat) (cs : Nat → ClassId) (ty : TyM) (L : List Nat) (sz : Nat) (F : Nat → va_E) (h0 : Nat) (ρ : Nat) (r0 : Nat) (n : Nat) (z : Nat) (dd : Nat) (f : Nat → Int32) (V : List Nat) (hW : WT ty L) (hL_h0 : h0 ∈ L) (hT_h0 : ty h0 = (0, ρ, [r0, n])) (hF0 : F h0 = .inr (0, [.ref r0, .int (nI z), .int 0])) (hFr : F r0 = .inl (cs 16, n, .inl f)) (hzn : z ≤ n) (hn9 : n ≤ 10000) (hd9 : dd ≤ 20000) (hV : SRC V z f) : Met l yX0_partStart (.code yX0_partStart cX0_partStart 4 (some .int) :: tb) ({ frames := 0, cells := 0, slots := 0, locals := 0 }) (va_Pc [.ref h0, .int (nI dd)] (PT (dC, dI) cs ty L F sz)) (va_Qi (fun (r : Int32) (_ : Unit) => r = nI (psT V dd)) (fun _ T9 => ∃ F2 : Nat → va_E, QT (dC, dI) cs ty L [] F F2 (va_A (va_pl L F) sz) T9) (va_A (va_pl L F) sz)) 0 0 (va_A (va_pl L F) sz) := by
  refine Met.ofW (cc := cX0_partStart) (maxL := 4) (ret := (some .int)) (by decide) rfl ?_
  intro p e s m args below meth c s₁ B hml hv
  obtain ⟨rfl, hsz, hP, hK, hD0, hE, hO⟩ := hv
  have hx := B.exec
  have hb := B.bytes
  have hr := B.returns
  have hts : ∀ w ∈ tb, w.before _ s = true := fun w h => atoms_spec (ws := .code yX0_partStart cX0_partStart 4 (some .int) :: tb) B.pre w (List.mem_cons_of_mem _ h)
  have hown : s.vm.findClass RX0 = some m.cls := findClass_of_methodNamed B.named
  have hlocks := B.notSynchronized
  subst hsz
  have hD := hD0.self (sz := s.heap.size)
  generalize hAe : va_A (va_pl L F) s.heap.size = A at hD ⊢
  have hA : ∀ q : Nat, s.heap.size ≤ q → A q := fun q h => by rw [← hAe]; exact Or.inr h
  have hS : va_S A s.heap s.heap [] := va_S.rf
  have hR : FR ty [] F F := FR.refl
  have hl := lv_entry ([.ref h0, .int (nI dd)]) (n := 4) (Nat.le_of_ble_eq_true rfl)
  rw [lg_entry_eq]
  generalize (lg_sl ([.ref h0, .int (nI dd)]) ++ List.replicate (4 - (lg_sl ([.ref h0, .int (nI dd)])).length) Slot.unset).toArray = ls at hl ⊢
  have hl : lv_has ls 4 [(0, .ref h0), (1, .int (nI dd))] := hl
  refine lv_iload_n hx hb dX0_partStart_0 rfl (lv_at hl 1 rfl) ?_
  refine lv_istore_n (lv' := [(2, .int (nI dd)), (0, .ref h0), (1, .int (nI dd))]) hx hb dX0_partStart_1 rfl hl (by decide) rfl (fun ls hl => ?_)
  refine lv_iconst (v := 0) hx hb dX0_partStart_2 (by decide) ?_
  refine lv_istore_n (lv' := [(3, .int 0), (2, .int (nI dd)), (0, .ref h0), (1, .int (nI dd))]) hx hb dX0_partStart_3 rfl hl (by decide) rfl (fun ls hl => ?_)
  refine W.widen (k := 0) (n := 0) (by omega) (by omega) ?_
  refine pl_loop (σ := Nat × Nat) A (dC, dI) cs ty L [] F 4 4 (fun (i, lf) => [(3, .int (nI i)), (2, .int (nI lf)), (0, .ref h0), (1, .int (nI dd))]) (fun (i, lf) => []) (fun (i, lf) _ => i ≤ z ∧ lf ≤ dd ∧ psw V (z - i) i lf = psT V dd) (fun (i, lf) => z - i) ?_ (0, dd) F (⟨Nat.zero_le _, Nat.le_refl _, by unfold psT; rw [hV.1]; rfl⟩) hO hR _ _ hP hD hS ls (lv_sub hl [0, 1, 2, 3] rfl)
  rintro ⟨i, lf⟩ F_1 hv_2 hO hR ih_3 H locs hP hD hS ls hl
  have hl : lv_has ls 4 [(3, .int (nI i)), (2, .int (nI lf)), (0, .ref h0), (1, .int (nI dd))] := hl
  have hv_2 : i ≤ z ∧ lf ≤ dd ∧ psw V (z - i) i lf = psT V dd := hv_2
  refine W.eq (g2 := F0 m 4 ls []) rfl ?_
  obtain rfl : F = F_1 := (funext (fun a => hR a List.not_mem_nil)).symm
  obtain ⟨hv1, hv2, hv3⟩ := id hv_2
  refine lv_iload_n hx hb dX0_partStart_4 rfl (lv_at hl 0 rfl) ?_
  refine lv_aload_n hx hb dX0_partStart_5 rfl (lv_at hl 2 rfl) ?_
  obtain ⟨hi_4, ht_5, hq_6⟩ := hW.bytes hL_h0 hT_h0
  refine pg_get (ci := 0) (v := .int (nI z)) (C := RX0) (T := TX0) (N := 3) hx hb hts it_0 hown hK hP hL_h0 hF0 rfl 1 (by decide) (hts _ kt_10) (fun _ h9 => h9) rfl dX0_partStart_6 ?_
  refine lv_icmp_ge (tgt := 49) hx hb dX0_partStart_9 (by decide) (fun c_7 => ?_) (fun c_7 => ?_)
  ·
    have hi_8 : z ≤ i := leN (N := z) c_7
    have hiz : z ≤ i := (nI_leI (by omega) (by omega)).mp c_7
    refine lv_iconst (v := 0) hx hb dX0_partStart_49 (by decide) ?_
    refine W.widen (k := 0) (n := 0) (by omega) (by omega) ?_
    exact W.iret (v := 0) hx hb hr (fun t ht hWm => ⟨⟨0, (), rfl, (congrArg nI (psw_e hv3 (Or.inl hiz))).symm, ⟨F, QT.mk ht hP hD hO hR⟩⟩, hS.F ht⟩) hS.2.2 dX0_partStart_50
  ·
    have hi_9 : i < z := ltN (N := z) c_7
    have hiz : i < z := Nat.not_le.mp (fun q => c_7 ((nI_leI (by omega) (by omega)).mpr q))
    refine lv_iload_n hx hb dX0_partStart_12 rfl (lv_at hl 1 rfl) ?_
    refine lv_if_le (tgt := 49) hx hb dX0_partStart_13 (by decide) (fun c_10 => ?_) (fun c_10 => ?_)
    ·
      have hlf : lf = 0 := by have h9 : lf ≤ 0 := (nI_leI (b := 0) (by omega) (by omega)).mp c_10; omega
      refine lv_iconst (v := 0) hx hb dX0_partStart_49 (by decide) ?_
      refine W.widen (k := 0) (n := 0) (by omega) (by omega) ?_
      exact W.iret (v := 0) hx hb hr (fun t ht hWm => ⟨⟨0, (), rfl, (congrArg nI (psw_e hv3 (Or.inr hlf))).symm, ⟨F, QT.mk ht hP hD hO hR⟩⟩, hS.F ht⟩) hS.2.2 dX0_partStart_50
    ·
      have hlf : 0 < lf := posN c_10
      refine lv_iload_n hx hb dX0_partStart_16 rfl (lv_at hl 1 rfl) ?_
      refine lv_aload_n hx hb dX0_partStart_17 rfl (lv_at hl 2 rfl) ?_
      refine pg_get (ci := 0) (v := .ref r0) (C := RX0) (T := TX0) (N := 3) hx hb hts it_0 hown hK hP hL_h0 hF0 rfl 0 (by decide) (hts _ kt_12) (fun _ h9 => h9) rfl dX0_partStart_18 ?_
      refine lv_iload_n hx hb dX0_partStart_21 rfl (lv_at hl 0 rfl) ?_
      refine pg_iald hx hb hK hP hi_4 0 hFr rfl (vp_in_nI (by omega) (by omega)) dX0_partStart_22 ?_
      refine lv_topi (fun x_13 ex_13 => ?_)
      obtain rfl : x_13 = (nI (V.getD i 0)) := ex_13.trans ((congrArg f (nI_clamp (by omega))).trans (hV.2.1 i hiz))
      refine lv_bipush (v := 46) hx hb dX0_partStart_23 (by decide) ?_
      refine lv_icmp_ne (tgt := 32) hx hb dX0_partStart_25 (by decide) (fun c_14 => ?_) (fun c_14 => ?_)
      ·
        have hcd := hV.2.2 i hiz
        have hdt : ¬ (V.getD i 0) = 46 := fun q => c_14 (by rw [q]; rfl)
        refine lv_iconst (v := 0) hx hb dX0_partStart_32 (by decide) ?_
        refine lv_isub hx hb dX0_partStart_33 ?_
        refine lv_topi (fun x_16 ex_16 => ?_)
        obtain rfl : x_16 = (nI lf) := ex_16.trans (pk_sub (b := 0) (by omega))
        refine lv_istore_n (lv' := [(2, .int (nI lf)), (3, .int (nI i)), (0, .ref h0), (1, .int (nI dd))]) hx hb dX0_partStart_34 rfl hl (by decide) rfl (fun ls hl => ?_)
        refine lv_iload_n hx hb dX0_partStart_35 rfl (lv_at hl 0 rfl) ?_
        refine lv_if_ne (tgt := 43) hx hb dX0_partStart_36 (by decide) (fun c_17 => ?_) (fun c_17 => ?_)
        ·
          refine lv_iinc (v := (nI (i + 1))) (lv' := [(3, .int (nI (i + 1))), (2, .int (nI lf)), (0, .ref h0), (1, .int (nI dd))]) hx hb dX0_partStart_43 hl (k := 1) rfl (nI_1 _) (by decide) rfl (fun ls hl => ?_)
          refine lv_goto (tgt := 4) hx hb dX0_partStart_46 (by decide) ?_
          refine W.widen (k := 0) (n := 0) (by omega) (by omega) ?_
          exact ih_3 ((i + 1), lf) F (⟨by omega, by omega, psw_n hv3 hiz hlf hdt⟩) (by show z - (i + 1) < z - i; omega) hO hR _ _ hP hD hS ls (lv_sub hl [0, 1, 2, 3] rfl)
        ·
          exact absurd ((nI_eq (b := 0) (by omega) (by omega)).mp c_17) (by omega)
      ·
        have hcd := hV.2.2 i hiz
        have hdt : (V.getD i 0) = 46 := (nI_eq (b := 46) (by omega) (by omega)).mp c_14
        refine lv_iconst (v := 1) hx hb dX0_partStart_28 (by decide) ?_
        refine lv_goto (tgt := 33) hx hb dX0_partStart_29 (by decide) ?_
        refine lv_isub hx hb dX0_partStart_33 ?_
        refine lv_topi (fun x_21 ex_21 => ?_)
        obtain rfl : x_21 = (nI (lf - 1)) := ex_21.trans (pk_sub (b := 1) (by omega))
        refine lv_istore_n (lv' := [(2, .int (nI (lf - 1))), (3, .int (nI i)), (0, .ref h0), (1, .int (nI dd))]) hx hb dX0_partStart_34 rfl hl (by decide) rfl (fun ls hl => ?_)
        refine lv_iload_n hx hb dX0_partStart_35 rfl (lv_at hl 0 rfl) ?_
        refine lv_if_ne (tgt := 43) hx hb dX0_partStart_36 (by decide) (fun c_22 => ?_) (fun c_22 => ?_)
        ·
          refine lv_iinc (v := (nI (i + 1))) (lv' := [(3, .int (nI (i + 1))), (2, .int (nI (lf - 1))), (0, .ref h0), (1, .int (nI dd))]) hx hb dX0_partStart_43 hl (k := 1) rfl (nI_1 _) (by decide) rfl (fun ls hl => ?_)
          refine lv_goto (tgt := 4) hx hb dX0_partStart_46 (by decide) ?_
          refine W.widen (k := 0) (n := 0) (by omega) (by omega) ?_
          exact ih_3 ((i + 1), (lf - 1)) F (⟨by omega, by omega, psw_y hv3 hiz hlf hdt (fun q => c_22 (by rw [q]; rfl))⟩) (by show z - (i + 1) < z - i; omega) hO hR _ _ hP hD hS ls (lv_sub hl [0, 1, 2, 3] rfl)
        ·
          refine lv_iload_n hx hb dX0_partStart_39 rfl (lv_at hl 1 rfl) ?_
          refine lv_iconst (v := 1) hx hb dX0_partStart_40 (by decide) ?_
          refine lv_iadd hx hb dX0_partStart_41 ?_
          refine lv_topi (fun x_25 ex_25 => ?_)
          obtain rfl : x_25 = (nI (i + 1)) := ex_25.trans (nI_add i 1)
          refine W.widen (k := 0) (n := 0) (by omega) (by omega) ?_
          exact W.iret (v := (nI (i + 1))) hx hb hr (fun t ht hWm => ⟨⟨(nI (i + 1)), (), rfl, (congrArg nI (psw_r hv3 hiz hlf hdt ((nI_eq (b := 0) (by omega) (by omega)).mp c_22))).symm, ⟨F, QT.mk ht hP hD hO hR⟩⟩, hS.F ht⟩) hS.2.2 dX0_partStart_42
set_option maxHeartbeats 4000000 in
set_option maxRecDepth 100000 in
theorem s_X1_addParts_e (l : Launch) (dC : Nat → ClassId) (dI : Nat → Nat → Nat) (cs : Nat → ClassId) (ty : TyM) (L : List Nat) (sz : Nat) (F : Nat → va_E) (g1 : Nat) (σ : Nat) (r1 : Nat) (n1 : Nat) (g2 : Nat) (τ : Nat) (r2 : Nat) (n2 : Nat) (z : Nat) (wn : Nat) (y : Nat) (f : Nat → Int32) (ft : Nat → Int32) (x2 : Int32) (oo : Int32) (V : List Nat) (U : List Nat) (hW : WT ty L) (hL_g1 : g1 ∈ L) (hT_g1 : ty g1 = (0, σ, [r1, n1])) (hL_g2 : g2 ∈ L) (hT_g2 : ty g2 = (0, τ, [r2, n2])) (hFg : F g1 = .inr (0, [.ref r1, .int (nI z), .int 0])) (hFr : F r1 = .inl (cs 16, n1, .inl f)) (hzn : z ≤ n1) (hn9 : n1 ≤ 10000) (hV : SRC V z f) (hst : σ ≠ τ) (hwn : wn ≤ 9) (hF2 : F g2 = .inr (0, [.ref r2, .int (nI y), .int oo])) (hFt : F r2 = .inl (cs 16, n2, .inl ft)) (hm9 : n2 ≤ 10000) (hT : TGA U n2 y oo ft) : Met l yX1_addParts (.code yX1_addParts cX1_addParts 8 none :: tb) ({ frames := 2, cells := 0, slots := 0, locals := 74 }) (va_Pc [.ref g1, .int (nI wn), .int x2, .ref g2] (PT (dC, dI) cs ty L F sz)) (va_Qv (fun _ : Unit => True) (fun _ T9 => ∃ F2 : Nat → va_E, ∃ y2 : Nat, ∃ oo2 : Int32, ∃ f2 : Nat → Int32, QT (dC, dI) cs ty L [τ] F F2 (va_A (va_pl L F) sz) T9 ∧ F2 g2 = .inr (0, [.ref r2, .int (nI y2), .int oo2]) ∧ F2 r2 = .inl (cs 16, n2, .inl f2) ∧ TGA (U ++ prL V wn x2) n2 y2 oo2 f2) (va_A (va_pl L F) sz)) 0 0 (va_A (va_pl L F) sz) := by
  refine Met.ofW (cc := cX1_addParts) (maxL := 8) (ret := none) (by decide) rfl ?_
  intro p e s m args below meth c s₁ B hml hv
  obtain ⟨rfl, hsz, hP, hK, hD0, hE, hO⟩ := hv
  have hx := B.exec
  have hb := B.bytes
  have hr := B.returns
  have hts : ∀ w ∈ tb, w.before _ s = true := fun w h => atoms_spec (ws := .code yX1_addParts cX1_addParts 8 none :: tb) B.pre w (List.mem_cons_of_mem _ h)
  have hown : s.vm.findClass RX1 = some m.cls := findClass_of_methodNamed B.named
  have hlocks := B.notSynchronized
  subst hsz
  have hD := hD0.self (sz := s.heap.size)
  generalize hAe : va_A (va_pl L F) s.heap.size = A at hD ⊢
  have hA : ∀ q : Nat, s.heap.size ≤ q → A q := fun q h => by rw [← hAe]; exact Or.inr h
  have hS : va_S A s.heap s.heap [] := va_S.rf
  have hR : FR ty [τ] F F := FR.refl
  have hl := lv_entry ([.ref g1, .int (nI wn), .int x2, .ref g2]) (n := 8) (Nat.le_of_ble_eq_true rfl)
  rw [lg_entry_eq]
  generalize (lg_sl ([.ref g1, .int (nI wn), .int x2, .ref g2]) ++ List.replicate (8 - (lg_sl ([.ref g1, .int (nI wn), .int x2, .ref g2])).length) Slot.unset).toArray = ls at hl ⊢
  have hl : lv_has ls 8 [(0, .ref g1), (1, .int (nI wn)), (2, .int x2), (3, .ref g2)] := hl
  obtain ⟨hi_1, ht_2, hq_3⟩ := hW.bytes hL_g1 hT_g1
  obtain ⟨hi_4, ht_5, hq_6⟩ := hW.bytes hL_g2 hT_g2
  refine lv_iconst (v := 1) hx hb dX1_addParts_0 (by decide) ?_
  refine lv_istore (lv' := [(4, .int 1), (0, .ref g1), (1, .int (nI wn)), (2, .int x2), (3, .ref g2)]) hx hb dX1_addParts_1 hl (by decide) rfl (fun ls hl => ?_)
  refine lv_iconst (v := 0) hx hb dX1_addParts_3 (by decide) ?_
  refine lv_istore (lv' := [(5, .int 0), (4, .int 1), (0, .ref g1), (1, .int (nI wn)), (2, .int x2), (3, .ref g2)]) hx hb dX1_addParts_4 hl (by decide) rfl (fun ls hl => ?_)
  refine W.widen (k := 0) (n := 0) (by omega) (by omega) ?_
  have hF_8 : F g1 = .inr (0, [.ref r1, .int (nI z), .int 0]) := (hR g1 (by rw [hT_g1]; simp only [List.mem_cons, List.not_mem_nil, or_false]; omega)).symm.trans hFg
  have hF_9 : F r1 = .inl (cs 16, n1, .inl f) := (hR r1 (by rw [ht_2]; simp only [List.mem_cons, List.not_mem_nil, or_false]; omega)).symm.trans hFr
  refine pl_loop (σ := Nat × Nat) A (dC, dI) cs ty L [τ] F 6 8 (fun (j, w4) => [(5, .int (nI j)), (4, .int (nI w4)), (0, .ref g1), (1, .int (nI wn)), (2, .int x2), (3, .ref g2)]) (fun (j, w4) => []) (fun (j, w4) FF => j ≤ z ∧ w4 = 1 + dtc V j ∧ FF g2 = .inr (0, [.ref r2, .int (nI y), .int oo]) ∧ FF r2 = .inl (cs 16, n2, .inl ft)) (fun (j, w4) => z - j) ?_ (0, 1) F (⟨Nat.zero_le _, rfl, hF2, hFt⟩) hO hR _ _ hP hD hS ls (lv_sub hl [0, 1, 2, 3, 4, 5] rfl)
  rintro ⟨j, w4⟩ F_7 hv_10 hO hR ih_11 H locs hP hD hS ls hl
  have hl : lv_has ls 8 [(5, .int (nI j)), (4, .int (nI w4)), (0, .ref g1), (1, .int (nI wn)), (2, .int x2), (3, .ref g2)] := hl
  have hv_10 : j ≤ z ∧ w4 = 1 + dtc V j ∧ F_7 g2 = .inr (0, [.ref r2, .int (nI y), .int oo]) ∧ F_7 r2 = .inl (cs 16, n2, .inl ft) := hv_10
  refine W.eq (g2 := F0 m 6 ls []) rfl ?_
  have hF_12 : F_7 g1 = .inr (0, [.ref r1, .int (nI z), .int 0]) := (hR g1 (by rw [hT_g1]; simp only [List.mem_cons, List.not_mem_nil, or_false]; omega)).trans hF_8
  have hF_13 : F_7 r1 = .inl (cs 16, n1, .inl f) := (hR r1 (by rw [ht_2]; simp only [List.mem_cons, List.not_mem_nil, or_false]; omega)).trans hF_9
  obtain ⟨hv1, hv2, hv3, hv4⟩ := id hv_10
  have hdc := dtc_le (V := V) j
  refine lv_iload hx hb dX1_addParts_6 (lv_at hl 0 rfl) ?_
  refine lv_aload_n hx hb dX1_addParts_8 rfl (lv_at hl 2 rfl) ?_
  refine pg_getN (ci := 0) (v := .int (nI z)) (C := RX0) (T := TX0) (N := 3) hx hb hts it_0 hown hK hP hL_g1 hF_12 rfl 1 (by decide) (hE.nest kn_23) (fun _ h9 => h9) rfl dX1_addParts_9 ?_
  refine lv_icmp_ge (tgt := 42) hx hb dX1_addParts_12 (by decide) (fun c_14 => ?_) (fun c_14 => ?_)
  ·
    have hi_15 : z ≤ j := leN (N := z) c_14
    have hjz : j = z := by have h9 : z ≤ j := (nI_leI (by omega) (by omega)).mp c_14; omega
    have hF_18 : F g1 = .inr (0, [.ref r1, .int (nI z), .int 0]) := (hR g1 (by rw [hT_g1]; simp only [List.mem_cons, List.not_mem_nil, or_false]; omega)).symm.trans hF_12
    have hF_19 : F r1 = .inl (cs 16, n1, .inl f) := (hR r1 (by rw [ht_2]; simp only [List.mem_cons, List.not_mem_nil, or_false]; omega)).symm.trans hF_13
    refine W.widen (k := 0) (n := 0) (by omega) (by omega) ?_
    refine pl_cut (σ := Int32) A (dC, dI) cs ty L [τ] F 57 8 (fun s0 => [(4, .int (nI w4)), (0, .ref g1), (1, .int (nI wn)), (2, .int x2), (3, .ref g2)]) (fun s0 => [.int s0]) (fun s0 FF => s0 = nI (cnW wn (1 + dtc V V.length)) ∧ FF g2 = .inr (0, [.ref r2, .int (nI y), .int oo]) ∧ FF r2 = .inl (cs 16, n2, .inl ft)) ?_ (fun jn_16 => ?_)
    ·
      rintro s0 F_17 hv_20 hO hR H locs hP hD hS ls hl
      have hl : lv_has ls 8 [(4, .int (nI w4)), (0, .ref g1), (1, .int (nI wn)), (2, .int x2), (3, .ref g2)] := hl
      have hv_20 : s0 = nI (cnW wn (1 + dtc V V.length)) ∧ F_17 g2 = .inr (0, [.ref r2, .int (nI y), .int oo]) ∧ F_17 r2 = .inl (cs 16, n2, .inl ft) := hv_20
      refine W.eq (g2 := F0 m 57 ls [.int s0]) rfl ?_
      have hF_21 : F_17 g1 = .inr (0, [.ref r1, .int (nI z), .int 0]) := (hR g1 (by rw [hT_g1]; simp only [List.mem_cons, List.not_mem_nil, or_false]; omega)).trans hF_18
      have hF_22 : F_17 r1 = .inl (cs 16, n1, .inl f) := (hR r1 (by rw [ht_2]; simp only [List.mem_cons, List.not_mem_nil, or_false]; omega)).trans hF_19
      obtain ⟨hs1, hs2, hs3⟩ := id hv_20
      subst hs1
      have hcl := cnW_le (w := wn) (p9 := (1 + dtc V V.length))
      have hpl : dtc V V.length ≤ z := by rw [hV.1]; exact dtc_le z
      refine lv_istore (lv' := [(5, .int (nI (cnW wn (1 + dtc V V.length)))), (4, .int (nI w4)), (0, .ref g1), (1, .int (nI wn)), (2, .int x2), (3, .ref g2)]) hx hb dX1_addParts_57 hl (by decide) rfl (fun ls hl => ?_)
      refine lv_iconst (v := 0) hx hb dX1_addParts_59 (by decide) ?_
      refine lv_istore (lv' := [(6, .int 0), (5, .int (nI (cnW wn (1 + dtc V V.length)))), (4, .int (nI w4)), (0, .ref g1), (1, .int (nI wn)), (2, .int x2), (3, .ref g2)]) hx hb dX1_addParts_60 hl (by decide) rfl (fun ls hl => ?_)
      refine W.widen (k := 0) (n := 0) (by omega) (by omega) ?_
      have hF_24 : F g1 = .inr (0, [.ref r1, .int (nI z), .int 0]) := (hR g1 (by rw [hT_g1]; simp only [List.mem_cons, List.not_mem_nil, or_false]; omega)).symm.trans hF_21
      have hF_25 : F r1 = .inl (cs 16, n1, .inl f) := (hR r1 (by rw [ht_2]; simp only [List.mem_cons, List.not_mem_nil, or_false]; omega)).symm.trans hF_22
      refine pl_loop (σ := Nat × Nat × Int32 × (Nat → Int32)) A (dC, dI) cs ty L [τ] F 62 8 (fun (k8, yy, ov, fq) => [(6, .int (nI k8)), (5, .int (nI (cnW wn (1 + dtc V V.length)))), (4, .int (nI w4)), (0, .ref g1), (1, .int (nI wn)), (2, .int x2), (3, .ref g2)]) (fun (k8, yy, ov, fq) => []) (fun (k8, yy, ov, fq) FF => k8 ≤ (cnW wn (1 + dtc V V.length)) ∧ FF g2 = .inr (0, [.ref r2, .int (nI yy), .int ov]) ∧ FF r2 = .inl (cs 16, n2, .inl fq) ∧ TGA (U ++ prw V x2 (cnW wn (1 + dtc V V.length)) (1 + dtc V V.length) k8) n2 yy ov fq) (fun (k8, yy, ov, fq) => (cnW wn (1 + dtc V V.length)) - k8) ?_ (0, y, oo, ft) F_17 (⟨Nat.zero_le _, hs2, hs3, by rw [show prw V x2 (cnW wn (1 + dtc V V.length)) (1 + dtc V V.length) 0 = [] from rfl, List.append_nil]; exact hT⟩) hO hR _ _ hP hD hS ls (lv_sub hl [0, 1, 2, 3, 4, 5, 6] rfl)
      rintro ⟨k8, yy, ov, fq⟩ F_23 hv_26 hO hR ih_27 H locs hP hD hS ls hl
      have hl : lv_has ls 8 [(6, .int (nI k8)), (5, .int (nI (cnW wn (1 + dtc V V.length)))), (4, .int (nI w4)), (0, .ref g1), (1, .int (nI wn)), (2, .int x2), (3, .ref g2)] := hl
      have hv_26 : k8 ≤ (cnW wn (1 + dtc V V.length)) ∧ F_23 g2 = .inr (0, [.ref r2, .int (nI yy), .int ov]) ∧ F_23 r2 = .inl (cs 16, n2, .inl fq) ∧ TGA (U ++ prw V x2 (cnW wn (1 + dtc V V.length)) (1 + dtc V V.length) k8) n2 yy ov fq := hv_26
      refine W.eq (g2 := F0 m 62 ls []) rfl ?_
      have hF_28 : F_23 g1 = .inr (0, [.ref r1, .int (nI z), .int 0]) := (hR g1 (by rw [hT_g1]; simp only [List.mem_cons, List.not_mem_nil, or_false]; omega)).trans hF_24
      have hF_29 : F_23 r1 = .inl (cs 16, n1, .inl f) := (hR r1 (by rw [ht_2]; simp only [List.mem_cons, List.not_mem_nil, or_false]; omega)).trans hF_25
      obtain ⟨hu1, hu2, hu3, hu4⟩ := id hv_26
      have hyy : yy ≤ n2 := by have h9 := hu4.1; omega
      refine lv_iload hx hb dX1_addParts_62 (lv_at hl 0 rfl) ?_
      refine lv_iload hx hb dX1_addParts_64 (lv_at hl 1 rfl) ?_
      refine lv_icmp_ge (tgt := 133) hx hb dX1_addParts_66 (by decide) (fun c_30 => ?_) (fun c_30 => ?_)
      ·
        have hi_31 : (cnW wn (1 + dtc V V.length)) ≤ k8 := leN (N := (cnW wn (1 + dtc V V.length))) c_30
        have hkc : k8 = (cnW wn (1 + dtc V V.length)) := by have h9 : (cnW wn (1 + dtc V V.length)) ≤ k8 := (nI_leI (by omega) (by omega)).mp c_30; omega
        refine W.widen (k := 0) (n := 0) (by omega) (by omega) ?_
        exact W.vret hx hb hr (fun t ht hWm => ⟨⟨(), rfl, trivial, ⟨F_23, yy, ov, fq, QT.mk ht hP hD hO hR, hu2, hu3, (by have h9 := hu4; rw [hkc] at h9; exact h9)⟩⟩, hS.F ht⟩) hS.2.2 dX1_addParts_133
      ·
        have hi_32 : k8 < (cnW wn (1 + dtc V V.length)) := ltN (N := (cnW wn (1 + dtc V V.length))) c_30
        have hkc : k8 < (cnW wn (1 + dtc V V.length)) := Nat.not_le.mp (fun q => c_30 ((nI_leI (by omega) (by omega)).mpr q))
        refine lv_iload hx hb dX1_addParts_69 (lv_at hl 0 rfl) ?_
        refine lv_if_le (tgt := 80) hx hb dX1_addParts_71 (by decide) (fun c_33 => ?_) (fun c_33 => ?_)
        ·
          have hk0 : ¬ 0 < k8 := by have h9 : k8 ≤ 0 := (nI_leI (b := 0) (by omega) (by omega)).mp c_33; omega
          refine lv_aload_n hx hb dX1_addParts_80 rfl (lv_at hl 3 rfl) ?_
          refine lv_iload_n hx hb dX1_addParts_81 rfl (lv_at hl 5 rfl) ?_
          refine lv_if_eq (tgt := 95) hx hb dX1_addParts_82 (by decide) (fun c_35 => ?_) (fun c_35 => ?_)
          ·
            refine lv_iload hx hb dX1_addParts_95 (lv_at hl 2 rfl) ?_
            refine lv_iload hx hb dX1_addParts_97 (lv_at hl 1 rfl) ?_
            refine lv_isub hx hb dX1_addParts_99 ?_
            refine lv_topi (fun x_36 ex_36 => ?_)
            obtain rfl : x_36 = (nI ((1 + dtc V V.length) - (cnW wn (1 + dtc V V.length)))) := ex_36.trans ((by rw [show w4 = (1 + dtc V V.length) by rw [hV.1, ← hjz]; exact hv2]; exact pk_sub (by omega)))
            refine lv_iload hx hb dX1_addParts_100 (lv_at hl 0 rfl) ?_
            refine lv_iadd hx hb dX1_addParts_102 ?_
            refine lv_topi (fun x_37 ex_37 => ?_)
            obtain rfl : x_37 = (nI ((1 + dtc V V.length) - (cnW wn (1 + dtc V V.length)) + k8)) := ex_37.trans (nI_add _ k8)
            have hFc := pg_free hD hS hA
            refine va_calli (va_runV (As := [.int (nI ((1 + dtc V V.length) - (cnW wn (1 + dtc V V.length)) + k8))]) (rest := []) ⟨hx, hb, hml, hown, hts⟩ (s_X0_partStart_e l dC dI cs ty L H.size F_23 g1 σ r1 n1 z ((1 + dtc V V.length) - (cnW wn (1 + dtc V V.length)) + k8) f V hW hL_g1 hT_g1 hF_28 hF_29 (by omega) (by omega) (by omega) (hV)) ⟨callB_of 1 hts (gi kt_557) rfl rfl rfl (hts _ kt_1) (hts _ kt_558) (by decide +kernel) ⟨Nat.le_of_ble_eq_true rfl, Nat.le_of_ble_eq_true rfl⟩, (hts _ kt_559), (hts _ kt_560)⟩ ⟨fun a U g mk q => ⟨q.1, PT.calling q.2⟩, pg_recv hK hP hL_g1 hF_28 (q := (RX0, TX0, 3)) rfl, fun U hU hWm => ⟨rfl, PT.mk hU hWm hP hK hD hE hO⟩⟩ rfl rfl hl.1 rfl (lv_room (Nat.le_of_ble_eq_true rfl)) dX1_addParts_103 ⟨by show _ + 0 ≤ 0; omega, by show _ + 0 ≤ 0; omega⟩) hS (fun q _ h => hFc q h) hFc (fun r_38 u t H1 locs ht hvm hw hB hz1 hk1 hS => ?_)
            obtain ⟨F_39, hB1⟩ := hB
            obtain rfl : F_23 = F_39 := (funext (fun a => hB1.2.2.2 a List.not_mem_nil)).symm
            obtain ⟨hP, hD, hO, hR⟩ := QT.back hB1 ht hFc hR (fun q h => absurd h List.not_mem_nil)
            generalize H1 = H at hP hS ⊢
            have hw : r_38 = nI (psT V ((1 + dtc V V.length) - (cnW wn (1 + dtc V V.length)) + k8)) := hw
            have hw_40 := hw
            subst hw_40
            have hps : psT V ((1 + dtc V V.length) - (cnW wn (1 + dtc V V.length)) + k8) ≤ z := by rw [← hV.1]; exact psT_le
            refine lv_istore (lv' := [(7, .int (nI (psT V ((1 + dtc V V.length) - (cnW wn (1 + dtc V V.length)) + k8)))), (6, .int (nI k8)), (5, .int (nI (cnW wn (1 + dtc V V.length)))), (4, .int (nI w4)), (0, .ref g1), (1, .int (nI wn)), (2, .int x2), (3, .ref g2)]) hx hb dX1_addParts_106 hl (by decide) rfl (fun ls hl => ?_)
            refine lv_aload_n hx hb dX1_addParts_108 rfl (lv_at hl 7 rfl) ?_
            refine lv_aload_n hx hb dX1_addParts_109 rfl (lv_at hl 4 rfl) ?_
            refine lv_iload hx hb dX1_addParts_110 (lv_at hl 0 rfl) ?_
            refine lv_aload_n hx hb dX1_addParts_112 rfl (lv_at hl 4 rfl) ?_
            refine lv_bipush (v := 46) hx hb dX1_addParts_113 (by decide) ?_
            refine lv_iload hx hb dX1_addParts_115 (lv_at hl 0 rfl) ?_
            refine lv_aload_n hx hb dX1_addParts_117 rfl (lv_at hl 4 rfl) ?_
            refine pg_getN (ci := 0) (v := .int (nI z)) (C := RX0) (T := TX0) (N := 3) hx hb hts it_0 hown hK hP hL_g1 hF_28 rfl 1 (by decide) (hE.nest kn_23) (fun _ h9 => h9) rfl dX1_addParts_118 ?_
            have hFc := pg_free hD hS hA
            refine va_calli (va_runV (As := [.int 46, .int (nI (psT V ((1 + dtc V V.length) - (cnW wn (1 + dtc V V.length)) + k8))), .int (nI z)]) (rest := [.int (nI (psT V ((1 + dtc V V.length) - (cnW wn (1 + dtc V V.length)) + k8))), .ref g1, .ref g2]) ⟨hx, hb, hml, hown, hts⟩ (s_X0_find_g l dC dI cs ty L H.size F_23 g1 σ r1 n1 z (psT V ((1 + dtc V V.length) - (cnW wn (1 + dtc V V.length)) + k8)) z f 46 hW hL_g1 hT_g1 hF_28 hF_29 (by omega) (by omega) (hps) (Nat.le_refl _)) ⟨callB_of 3 hts (gi kt_122) rfl rfl rfl (hts _ kt_1) (hts _ kt_561) (by decide +kernel) ⟨Nat.le_of_ble_eq_true rfl, Nat.le_of_ble_eq_true rfl⟩, (hts _ kt_124), (hts _ kt_125)⟩ ⟨fun a U g mk q => ⟨q.1, PT.calling q.2⟩, pg_recv hK hP hL_g1 hF_28 (q := (RX0, TX0, 3)) rfl, fun U hU hWm => ⟨rfl, PT.mk hU hWm hP hK hD hE hO⟩⟩ rfl rfl hl.1 rfl (lv_room (Nat.le_of_ble_eq_true rfl)) dX1_addParts_121 ⟨by show _ + 0 ≤ 0; omega, by show _ + 0 ≤ 0; omega⟩) hS (fun q _ h => hFc q h) hFc (fun r_41 u t H1 locs ht hvm hw hB hz1 hk1 hS => ?_)
            obtain ⟨F_42, hB1⟩ := hB
            obtain rfl : F_23 = F_42 := (funext (fun a => hB1.2.2.2 a List.not_mem_nil)).symm
            obtain ⟨hP, hD, hO, hR⟩ := QT.back hB1 ht hFc hR (fun q h => absurd h List.not_mem_nil)
            generalize H1 = H at hP hS ⊢
            have hw : (∃ k : Nat, r_41 = nI k ∧ FSX f 46 (psT V ((1 + dtc V V.length) - (cnW wn (1 + dtc V V.length)) + k8)) z k) := hw
            have hw_43 := hw
            obtain ⟨k9, hk9, hfs⟩ := hw_43
            obtain rfl := fd_ofV (c := 46) hfs hV (by omega)
            subst hk9
            have hfl : (psT V ((1 + dtc V V.length) - (cnW wn (1 + dtc V V.length)) + k8)) ≤ (fdT (gV V) 46 (psT V ((1 + dtc V V.length) - (cnW wn (1 + dtc V V.length)) + k8)) z) ∧ (fdT (gV V) 46 (psT V ((1 + dtc V V.length) - (cnW wn (1 + dtc V V.length)) + k8)) z) ≤ (psT V ((1 + dtc V V.length) - (cnW wn (1 + dtc V V.length)) + k8)) + (z - (psT V ((1 + dtc V V.length) - (cnW wn (1 + dtc V V.length)) + k8))) := fdT_le (z - (psT V ((1 + dtc V V.length) - (cnW wn (1 + dtc V V.length)) + k8))) (psT V ((1 + dtc V V.length) - (cnW wn (1 + dtc V V.length)) + k8))
            have hFc := pg_free hD hS hA
            refine va_callv (va_runV (As := [.ref g1, .int (nI (psT V ((1 + dtc V V.length) - (cnW wn (1 + dtc V V.length)) + k8))), .int (nI (fdT (gV V) 46 (psT V ((1 + dtc V V.length) - (cnW wn (1 + dtc V V.length)) + k8)) z))]) (rest := []) ⟨hx, hb, hml, hown, hts⟩ (s_X0_addRange_t l dC dI cs ty L H.size F_23 g2 τ r2 n2 g1 σ r1 n1 yy z (psT V ((1 + dtc V V.length) - (cnW wn (1 + dtc V V.length)) + k8)) (fdT (gV V) 46 (psT V ((1 + dtc V V.length) - (cnW wn (1 + dtc V V.length)) + k8)) z) fq f ov (U ++ prw V x2 (cnW wn (1 + dtc V V.length)) (1 + dtc V V.length) k8) V hW hL_g2 hT_g2 hL_g1 hT_g1 hu2 hu3 (by omega) (hu4) hF_28 hF_29 (by omega) (by omega) (hfl.1) (by omega) (hV)) ⟨callB_of 3 hts (gi kt_36) rfl rfl rfl (hts _ kt_1) (hts _ kt_562) (by decide +kernel) ⟨Nat.le_of_ble_eq_true rfl, Nat.le_of_ble_eq_true rfl⟩, (hts _ kt_38), (hts _ kt_39)⟩ ⟨fun a U g mk q => ⟨q.1, PT.calling q.2⟩, pg_recv hK hP hL_g2 hu2 (q := (RX0, TX0, 3)) rfl, fun U hU hWm => ⟨rfl, PT.mk hU hWm hP hK hD hE hO⟩⟩ rfl rfl hl.1 rfl (lv_room (Nat.le_of_ble_eq_true rfl)) dX1_addParts_124 ⟨by show _ + 0 ≤ 0; omega, by show _ + 0 ≤ 0; omega⟩) hS (fun q _ h => hFc q h) hFc (fun u t H1 locs ht hvm hw hB hz1 hk1 hS => ?_)
            obtain ⟨F_45, y2_46, oo2_47, f2_48, hB1, hq_49, hq_50, hq_51⟩ := hB
            obtain ⟨hP, hD, hO, hR⟩ := QT.back hB1 ht hFc hR (fun q h => by simp only [List.mem_cons, List.not_mem_nil, or_false] at h ⊢; omega)
            have hF_52 : F_45 g1 = .inr (0, [.ref r1, .int (nI z), .int 0]) := (hB1.2.2.2 g1 (by rw [hT_g1]; simp only [List.mem_cons, List.not_mem_nil, or_false]; omega)).trans hF_28
            have hF_53 : F_45 r1 = .inl (cs 16, n1, .inl f) := (hB1.2.2.2 r1 (by rw [ht_2]; simp only [List.mem_cons, List.not_mem_nil, or_false]; omega)).trans hF_29
            generalize H1 = H at hP hS ⊢
            have hT_54 : TGA ((U ++ prw V x2 (cnW wn (1 + dtc V V.length)) (1 + dtc V V.length) k8) ++ ptL V ((1 + dtc V V.length) - (cnW wn (1 + dtc V V.length)) + k8)) n2 y2_46 oo2_47 f2_48 := by have h8 := hq_51; unfold ptL; rw [hV.1] at h8 ⊢; exact h8
            refine lv_iinc (v := (nI (k8 + 1))) (lv' := [(6, .int (nI (k8 + 1))), (7, .int (nI (psT V ((1 + dtc V V.length) - (cnW wn (1 + dtc V V.length)) + k8)))), (5, .int (nI (cnW wn (1 + dtc V V.length)))), (4, .int (nI w4)), (0, .ref g1), (1, .int (nI wn)), (2, .int x2), (3, .ref g2)]) hx hb dX1_addParts_127 hl (k := 1) rfl (nI_1 _) (by decide) rfl (fun ls hl => ?_)
            refine lv_goto (tgt := 62) hx hb dX1_addParts_130 (by decide) ?_
            refine W.widen (k := 0) (n := 0) (by omega) (by omega) ?_
            exact ih_27 ((k8 + 1), y2_46, oo2_47, f2_48) F_45 (⟨by omega, hq_49, hq_50, by have h9 := hT_54; show TGA (U ++ (prw V x2 (cnW wn (1 + dtc V V.length)) (1 + dtc V V.length) k8 ++ (if 0 < k8 then [46] else []) ++ ptL V (pix x2 (cnW wn (1 + dtc V V.length)) (1 + dtc V V.length) k8))) _ _ _ _; rw [if_neg hk0, show pix x2 (cnW wn (1 + dtc V V.length)) (1 + dtc V V.length) k8 = _ from if_pos c_35, ← List.append_assoc, ← List.append_assoc]; rw [List.append_nil]; exact h9⟩) (by show (cnW wn (1 + dtc V V.length)) - (k8 + 1) < (cnW wn (1 + dtc V V.length)) - k8; omega) hO hR _ _ hP hD hS ls (lv_sub hl [0, 2, 3, 4, 5, 6, 7] rfl)
          ·
            refine lv_iload hx hb dX1_addParts_85 (lv_at hl 1 rfl) ?_
            refine lv_iconst (v := 1) hx hb dX1_addParts_87 (by decide) ?_
            refine lv_isub hx hb dX1_addParts_88 ?_
            refine lv_topi (fun x_55 ex_55 => ?_)
            obtain rfl : x_55 = (nI ((cnW wn (1 + dtc V V.length)) - 1)) := ex_55.trans (pk_sub (b := 1) (by omega))
            refine lv_iload hx hb dX1_addParts_89 (lv_at hl 0 rfl) ?_
            refine lv_isub hx hb dX1_addParts_91 ?_
            refine lv_topi (fun x_56 ex_56 => ?_)
            obtain rfl : x_56 = (nI ((cnW wn (1 + dtc V V.length)) - 1 - k8)) := ex_56.trans (pk_sub (by omega))
            refine lv_goto (tgt := 103) hx hb dX1_addParts_92 (by decide) ?_
            have hFc := pg_free hD hS hA
            refine va_calli (va_runV (As := [.int (nI ((cnW wn (1 + dtc V V.length)) - 1 - k8))]) (rest := []) ⟨hx, hb, hml, hown, hts⟩ (s_X0_partStart_e l dC dI cs ty L H.size F_23 g1 σ r1 n1 z ((cnW wn (1 + dtc V V.length)) - 1 - k8) f V hW hL_g1 hT_g1 hF_28 hF_29 (by omega) (by omega) (by omega) (hV)) ⟨callB_of 1 hts (gi kt_557) rfl rfl rfl (hts _ kt_1) (hts _ kt_558) (by decide +kernel) ⟨Nat.le_of_ble_eq_true rfl, Nat.le_of_ble_eq_true rfl⟩, (hts _ kt_559), (hts _ kt_560)⟩ ⟨fun a U g mk q => ⟨q.1, PT.calling q.2⟩, pg_recv hK hP hL_g1 hF_28 (q := (RX0, TX0, 3)) rfl, fun U hU hWm => ⟨rfl, PT.mk hU hWm hP hK hD hE hO⟩⟩ rfl rfl hl.1 rfl (lv_room (Nat.le_of_ble_eq_true rfl)) dX1_addParts_103 ⟨by show _ + 0 ≤ 0; omega, by show _ + 0 ≤ 0; omega⟩) hS (fun q _ h => hFc q h) hFc (fun r_57 u t H1 locs ht hvm hw hB hz1 hk1 hS => ?_)
            obtain ⟨F_58, hB1⟩ := hB
            obtain rfl : F_23 = F_58 := (funext (fun a => hB1.2.2.2 a List.not_mem_nil)).symm
            obtain ⟨hP, hD, hO, hR⟩ := QT.back hB1 ht hFc hR (fun q h => absurd h List.not_mem_nil)
            generalize H1 = H at hP hS ⊢
            have hw : r_57 = nI (psT V ((cnW wn (1 + dtc V V.length)) - 1 - k8)) := hw
            have hw_59 := hw
            subst hw_59
            have hps : psT V ((cnW wn (1 + dtc V V.length)) - 1 - k8) ≤ z := by rw [← hV.1]; exact psT_le
            refine lv_istore (lv' := [(7, .int (nI (psT V ((cnW wn (1 + dtc V V.length)) - 1 - k8)))), (6, .int (nI k8)), (5, .int (nI (cnW wn (1 + dtc V V.length)))), (4, .int (nI w4)), (0, .ref g1), (1, .int (nI wn)), (2, .int x2), (3, .ref g2)]) hx hb dX1_addParts_106 hl (by decide) rfl (fun ls hl => ?_)
            refine lv_aload_n hx hb dX1_addParts_108 rfl (lv_at hl 7 rfl) ?_
            refine lv_aload_n hx hb dX1_addParts_109 rfl (lv_at hl 4 rfl) ?_
            refine lv_iload hx hb dX1_addParts_110 (lv_at hl 0 rfl) ?_
            refine lv_aload_n hx hb dX1_addParts_112 rfl (lv_at hl 4 rfl) ?_
            refine lv_bipush (v := 46) hx hb dX1_addParts_113 (by decide) ?_
            refine lv_iload hx hb dX1_addParts_115 (lv_at hl 0 rfl) ?_
            refine lv_aload_n hx hb dX1_addParts_117 rfl (lv_at hl 4 rfl) ?_
            refine pg_getN (ci := 0) (v := .int (nI z)) (C := RX0) (T := TX0) (N := 3) hx hb hts it_0 hown hK hP hL_g1 hF_28 rfl 1 (by decide) (hE.nest kn_23) (fun _ h9 => h9) rfl dX1_addParts_118 ?_
            have hFc := pg_free hD hS hA
            refine va_calli (va_runV (As := [.int 46, .int (nI (psT V ((cnW wn (1 + dtc V V.length)) - 1 - k8))), .int (nI z)]) (rest := [.int (nI (psT V ((cnW wn (1 + dtc V V.length)) - 1 - k8))), .ref g1, .ref g2]) ⟨hx, hb, hml, hown, hts⟩ (s_X0_find_g l dC dI cs ty L H.size F_23 g1 σ r1 n1 z (psT V ((cnW wn (1 + dtc V V.length)) - 1 - k8)) z f 46 hW hL_g1 hT_g1 hF_28 hF_29 (by omega) (by omega) (hps) (Nat.le_refl _)) ⟨callB_of 3 hts (gi kt_122) rfl rfl rfl (hts _ kt_1) (hts _ kt_561) (by decide +kernel) ⟨Nat.le_of_ble_eq_true rfl, Nat.le_of_ble_eq_true rfl⟩, (hts _ kt_124), (hts _ kt_125)⟩ ⟨fun a U g mk q => ⟨q.1, PT.calling q.2⟩, pg_recv hK hP hL_g1 hF_28 (q := (RX0, TX0, 3)) rfl, fun U hU hWm => ⟨rfl, PT.mk hU hWm hP hK hD hE hO⟩⟩ rfl rfl hl.1 rfl (lv_room (Nat.le_of_ble_eq_true rfl)) dX1_addParts_121 ⟨by show _ + 0 ≤ 0; omega, by show _ + 0 ≤ 0; omega⟩) hS (fun q _ h => hFc q h) hFc (fun r_60 u t H1 locs ht hvm hw hB hz1 hk1 hS => ?_)
            obtain ⟨F_61, hB1⟩ := hB
            obtain rfl : F_23 = F_61 := (funext (fun a => hB1.2.2.2 a List.not_mem_nil)).symm
            obtain ⟨hP, hD, hO, hR⟩ := QT.back hB1 ht hFc hR (fun q h => absurd h List.not_mem_nil)
            generalize H1 = H at hP hS ⊢
            have hw : (∃ k : Nat, r_60 = nI k ∧ FSX f 46 (psT V ((cnW wn (1 + dtc V V.length)) - 1 - k8)) z k) := hw
            have hw_62 := hw
            obtain ⟨k9, hk9, hfs⟩ := hw_62
            obtain rfl := fd_ofV (c := 46) hfs hV (by omega)
            subst hk9
            have hfl : (psT V ((cnW wn (1 + dtc V V.length)) - 1 - k8)) ≤ (fdT (gV V) 46 (psT V ((cnW wn (1 + dtc V V.length)) - 1 - k8)) z) ∧ (fdT (gV V) 46 (psT V ((cnW wn (1 + dtc V V.length)) - 1 - k8)) z) ≤ (psT V ((cnW wn (1 + dtc V V.length)) - 1 - k8)) + (z - (psT V ((cnW wn (1 + dtc V V.length)) - 1 - k8))) := fdT_le (z - (psT V ((cnW wn (1 + dtc V V.length)) - 1 - k8))) (psT V ((cnW wn (1 + dtc V V.length)) - 1 - k8))
            have hFc := pg_free hD hS hA
            refine va_callv (va_runV (As := [.ref g1, .int (nI (psT V ((cnW wn (1 + dtc V V.length)) - 1 - k8))), .int (nI (fdT (gV V) 46 (psT V ((cnW wn (1 + dtc V V.length)) - 1 - k8)) z))]) (rest := []) ⟨hx, hb, hml, hown, hts⟩ (s_X0_addRange_t l dC dI cs ty L H.size F_23 g2 τ r2 n2 g1 σ r1 n1 yy z (psT V ((cnW wn (1 + dtc V V.length)) - 1 - k8)) (fdT (gV V) 46 (psT V ((cnW wn (1 + dtc V V.length)) - 1 - k8)) z) fq f ov (U ++ prw V x2 (cnW wn (1 + dtc V V.length)) (1 + dtc V V.length) k8) V hW hL_g2 hT_g2 hL_g1 hT_g1 hu2 hu3 (by omega) (hu4) hF_28 hF_29 (by omega) (by omega) (hfl.1) (by omega) (hV)) ⟨callB_of 3 hts (gi kt_36) rfl rfl rfl (hts _ kt_1) (hts _ kt_562) (by decide +kernel) ⟨Nat.le_of_ble_eq_true rfl, Nat.le_of_ble_eq_true rfl⟩, (hts _ kt_38), (hts _ kt_39)⟩ ⟨fun a U g mk q => ⟨q.1, PT.calling q.2⟩, pg_recv hK hP hL_g2 hu2 (q := (RX0, TX0, 3)) rfl, fun U hU hWm => ⟨rfl, PT.mk hU hWm hP hK hD hE hO⟩⟩ rfl rfl hl.1 rfl (lv_room (Nat.le_of_ble_eq_true rfl)) dX1_addParts_124 ⟨by show _ + 0 ≤ 0; omega, by show _ + 0 ≤ 0; omega⟩) hS (fun q _ h => hFc q h) hFc (fun u t H1 locs ht hvm hw hB hz1 hk1 hS => ?_)
            obtain ⟨F_64, y2_65, oo2_66, f2_67, hB1, hq_68, hq_69, hq_70⟩ := hB
            obtain ⟨hP, hD, hO, hR⟩ := QT.back hB1 ht hFc hR (fun q h => by simp only [List.mem_cons, List.not_mem_nil, or_false] at h ⊢; omega)
            have hF_71 : F_64 g1 = .inr (0, [.ref r1, .int (nI z), .int 0]) := (hB1.2.2.2 g1 (by rw [hT_g1]; simp only [List.mem_cons, List.not_mem_nil, or_false]; omega)).trans hF_28
            have hF_72 : F_64 r1 = .inl (cs 16, n1, .inl f) := (hB1.2.2.2 r1 (by rw [ht_2]; simp only [List.mem_cons, List.not_mem_nil, or_false]; omega)).trans hF_29
            generalize H1 = H at hP hS ⊢
            have hT_73 : TGA ((U ++ prw V x2 (cnW wn (1 + dtc V V.length)) (1 + dtc V V.length) k8) ++ ptL V ((cnW wn (1 + dtc V V.length)) - 1 - k8)) n2 y2_65 oo2_66 f2_67 := by have h8 := hq_70; unfold ptL; rw [hV.1] at h8 ⊢; exact h8
            refine lv_iinc (v := (nI (k8 + 1))) (lv' := [(6, .int (nI (k8 + 1))), (7, .int (nI (psT V ((cnW wn (1 + dtc V V.length)) - 1 - k8)))), (5, .int (nI (cnW wn (1 + dtc V V.length)))), (4, .int (nI w4)), (0, .ref g1), (1, .int (nI wn)), (2, .int x2), (3, .ref g2)]) hx hb dX1_addParts_127 hl (k := 1) rfl (nI_1 _) (by decide) rfl (fun ls hl => ?_)
            refine lv_goto (tgt := 62) hx hb dX1_addParts_130 (by decide) ?_
            refine W.widen (k := 0) (n := 0) (by omega) (by omega) ?_
            exact ih_27 ((k8 + 1), y2_65, oo2_66, f2_67) F_64 (⟨by omega, hq_68, hq_69, by have h9 := hT_73; show TGA (U ++ (prw V x2 (cnW wn (1 + dtc V V.length)) (1 + dtc V V.length) k8 ++ (if 0 < k8 then [46] else []) ++ ptL V (pix x2 (cnW wn (1 + dtc V V.length)) (1 + dtc V V.length) k8))) _ _ _ _; rw [if_neg hk0, show pix x2 (cnW wn (1 + dtc V V.length)) (1 + dtc V V.length) k8 = _ from if_neg c_35, ← List.append_assoc, ← List.append_assoc]; rw [List.append_nil]; exact h9⟩) (by show (cnW wn (1 + dtc V V.length)) - (k8 + 1) < (cnW wn (1 + dtc V V.length)) - k8; omega) hO hR _ _ hP hD hS ls (lv_sub hl [0, 2, 3, 4, 5, 6, 7] rfl)
        ·
          have hk0 : 0 < k8 := posN c_33
          refine lv_aload_n hx hb dX1_addParts_74 rfl (lv_at hl 6 rfl) ?_
          refine lv_bipush (v := 46) hx hb dX1_addParts_75 (by decide) ?_
          refine W.eq (g2 := F0 m 77 ls [.int (nI 46), .ref g2]) rfl ?_
          have hFc := pg_free hD hS hA
          refine va_callv (va_runV (As := [.int (nI 46)]) (rest := []) ⟨hx, hb, hml, hown, hts⟩ (s_X0_add_t l dC dI cs ty L H.size F_23 g2 τ r2 n2 yy 46 fq ov (U ++ prw V x2 (cnW wn (1 + dtc V V.length)) (1 + dtc V V.length) k8) hW hL_g2 hT_g2 hu2 hu3 (by omega) (hu4)) ⟨callB_of 1 hts (gi kt_13) rfl rfl rfl (hts _ kt_1) (hts _ kt_563) (by decide +kernel) ⟨Nat.le_of_ble_eq_true rfl, Nat.le_of_ble_eq_true rfl⟩, (hts _ kt_15), (hts _ kt_16)⟩ ⟨fun a U g mk q => ⟨q.1, PT.calling q.2⟩, pg_recv hK hP hL_g2 hu2 (q := (RX0, TX0, 3)) rfl, fun U hU hWm => ⟨rfl, PT.mk hU hWm hP hK hD hE hO⟩⟩ rfl rfl hl.1 rfl (lv_room (Nat.le_of_ble_eq_true rfl)) dX1_addParts_77 ⟨by show _ + 0 ≤ 0; omega, by show _ + 0 ≤ 0; omega⟩) hS (fun q _ h => hFc q h) hFc (fun u t H1 locs ht hvm hw hB hz1 hk1 hS => ?_)
          obtain ⟨F_76, y2_77, oo2_78, f2_79, hB1, hq_80, hq_81, hq_82⟩ := hB
          obtain ⟨hP, hD, hO, hR⟩ := QT.back hB1 ht hFc hR (fun q h => by simp only [List.mem_cons, List.not_mem_nil, or_false] at h ⊢; omega)
          have hF_83 : F_76 g1 = .inr (0, [.ref r1, .int (nI z), .int 0]) := (hB1.2.2.2 g1 (by rw [hT_g1]; simp only [List.mem_cons, List.not_mem_nil, or_false]; omega)).trans hF_28
          have hF_84 : F_76 r1 = .inl (cs 16, n1, .inl f) := (hB1.2.2.2 r1 (by rw [ht_2]; simp only [List.mem_cons, List.not_mem_nil, or_false]; omega)).trans hF_29
          generalize H1 = H at hP hS ⊢
          refine lv_aload_n hx hb dX1_addParts_80 rfl (lv_at hl 3 rfl) ?_
          refine lv_iload_n hx hb dX1_addParts_81 rfl (lv_at hl 5 rfl) ?_
          refine lv_if_eq (tgt := 95) hx hb dX1_addParts_82 (by decide) (fun c_85 => ?_) (fun c_85 => ?_)
          ·
            refine lv_iload hx hb dX1_addParts_95 (lv_at hl 2 rfl) ?_
            refine lv_iload hx hb dX1_addParts_97 (lv_at hl 1 rfl) ?_
            refine lv_isub hx hb dX1_addParts_99 ?_
            refine lv_topi (fun x_86 ex_86 => ?_)
            obtain rfl : x_86 = (nI ((1 + dtc V V.length) - (cnW wn (1 + dtc V V.length)))) := ex_86.trans ((by rw [show w4 = (1 + dtc V V.length) by rw [hV.1, ← hjz]; exact hv2]; exact pk_sub (by omega)))
            refine lv_iload hx hb dX1_addParts_100 (lv_at hl 0 rfl) ?_
            refine lv_iadd hx hb dX1_addParts_102 ?_
            refine lv_topi (fun x_87 ex_87 => ?_)
            obtain rfl : x_87 = (nI ((1 + dtc V V.length) - (cnW wn (1 + dtc V V.length)) + k8)) := ex_87.trans (nI_add _ k8)
            have hFc := pg_free hD hS hA
            refine va_calli (va_runV (As := [.int (nI ((1 + dtc V V.length) - (cnW wn (1 + dtc V V.length)) + k8))]) (rest := []) ⟨hx, hb, hml, hown, hts⟩ (s_X0_partStart_e l dC dI cs ty L H.size F_76 g1 σ r1 n1 z ((1 + dtc V V.length) - (cnW wn (1 + dtc V V.length)) + k8) f V hW hL_g1 hT_g1 hF_83 hF_84 (by omega) (by omega) (by omega) (hV)) ⟨callB_of 1 hts (gi kt_557) rfl rfl rfl (hts _ kt_1) (hts _ kt_558) (by decide +kernel) ⟨Nat.le_of_ble_eq_true rfl, Nat.le_of_ble_eq_true rfl⟩, (hts _ kt_559), (hts _ kt_560)⟩ ⟨fun a U g mk q => ⟨q.1, PT.calling q.2⟩, pg_recv hK hP hL_g1 hF_83 (q := (RX0, TX0, 3)) rfl, fun U hU hWm => ⟨rfl, PT.mk hU hWm hP hK hD hE hO⟩⟩ rfl rfl hl.1 rfl (lv_room (Nat.le_of_ble_eq_true rfl)) dX1_addParts_103 ⟨by show _ + 0 ≤ 0; omega, by show _ + 0 ≤ 0; omega⟩) hS (fun q _ h => hFc q h) hFc (fun r_88 u t H1 locs ht hvm hw hB hz1 hk1 hS => ?_)
            obtain ⟨F_89, hB1⟩ := hB
            obtain rfl : F_76 = F_89 := (funext (fun a => hB1.2.2.2 a List.not_mem_nil)).symm
            obtain ⟨hP, hD, hO, hR⟩ := QT.back hB1 ht hFc hR (fun q h => absurd h List.not_mem_nil)
            generalize H1 = H at hP hS ⊢
            have hw : r_88 = nI (psT V ((1 + dtc V V.length) - (cnW wn (1 + dtc V V.length)) + k8)) := hw
            have hw_90 := hw
            subst hw_90
            have hps : psT V ((1 + dtc V V.length) - (cnW wn (1 + dtc V V.length)) + k8) ≤ z := by rw [← hV.1]; exact psT_le
            refine lv_istore (lv' := [(7, .int (nI (psT V ((1 + dtc V V.length) - (cnW wn (1 + dtc V V.length)) + k8)))), (6, .int (nI k8)), (5, .int (nI (cnW wn (1 + dtc V V.length)))), (4, .int (nI w4)), (0, .ref g1), (1, .int (nI wn)), (2, .int x2), (3, .ref g2)]) hx hb dX1_addParts_106 hl (by decide) rfl (fun ls hl => ?_)
            refine lv_aload_n hx hb dX1_addParts_108 rfl (lv_at hl 7 rfl) ?_
            refine lv_aload_n hx hb dX1_addParts_109 rfl (lv_at hl 4 rfl) ?_
            refine lv_iload hx hb dX1_addParts_110 (lv_at hl 0 rfl) ?_
            refine lv_aload_n hx hb dX1_addParts_112 rfl (lv_at hl 4 rfl) ?_
            refine lv_bipush (v := 46) hx hb dX1_addParts_113 (by decide) ?_
            refine lv_iload hx hb dX1_addParts_115 (lv_at hl 0 rfl) ?_
            refine lv_aload_n hx hb dX1_addParts_117 rfl (lv_at hl 4 rfl) ?_
            refine pg_getN (ci := 0) (v := .int (nI z)) (C := RX0) (T := TX0) (N := 3) hx hb hts it_0 hown hK hP hL_g1 hF_83 rfl 1 (by decide) (hE.nest kn_23) (fun _ h9 => h9) rfl dX1_addParts_118 ?_
            have hFc := pg_free hD hS hA
            refine va_calli (va_runV (As := [.int 46, .int (nI (psT V ((1 + dtc V V.length) - (cnW wn (1 + dtc V V.length)) + k8))), .int (nI z)]) (rest := [.int (nI (psT V ((1 + dtc V V.length) - (cnW wn (1 + dtc V V.length)) + k8))), .ref g1, .ref g2]) ⟨hx, hb, hml, hown, hts⟩ (s_X0_find_g l dC dI cs ty L H.size F_76 g1 σ r1 n1 z (psT V ((1 + dtc V V.length) - (cnW wn (1 + dtc V V.length)) + k8)) z f 46 hW hL_g1 hT_g1 hF_83 hF_84 (by omega) (by omega) (hps) (Nat.le_refl _)) ⟨callB_of 3 hts (gi kt_122) rfl rfl rfl (hts _ kt_1) (hts _ kt_561) (by decide +kernel) ⟨Nat.le_of_ble_eq_true rfl, Nat.le_of_ble_eq_true rfl⟩, (hts _ kt_124), (hts _ kt_125)⟩ ⟨fun a U g mk q => ⟨q.1, PT.calling q.2⟩, pg_recv hK hP hL_g1 hF_83 (q := (RX0, TX0, 3)) rfl, fun U hU hWm => ⟨rfl, PT.mk hU hWm hP hK hD hE hO⟩⟩ rfl rfl hl.1 rfl (lv_room (Nat.le_of_ble_eq_true rfl)) dX1_addParts_121 ⟨by show _ + 0 ≤ 0; omega, by show _ + 0 ≤ 0; omega⟩) hS (fun q _ h => hFc q h) hFc (fun r_91 u t H1 locs ht hvm hw hB hz1 hk1 hS => ?_)
            obtain ⟨F_92, hB1⟩ := hB
            obtain rfl : F_76 = F_92 := (funext (fun a => hB1.2.2.2 a List.not_mem_nil)).symm
            obtain ⟨hP, hD, hO, hR⟩ := QT.back hB1 ht hFc hR (fun q h => absurd h List.not_mem_nil)
            generalize H1 = H at hP hS ⊢
            have hw : (∃ k : Nat, r_91 = nI k ∧ FSX f 46 (psT V ((1 + dtc V V.length) - (cnW wn (1 + dtc V V.length)) + k8)) z k) := hw
            have hw_93 := hw
            obtain ⟨k9, hk9, hfs⟩ := hw_93
            obtain rfl := fd_ofV (c := 46) hfs hV (by omega)
            subst hk9
            have hfl : (psT V ((1 + dtc V V.length) - (cnW wn (1 + dtc V V.length)) + k8)) ≤ (fdT (gV V) 46 (psT V ((1 + dtc V V.length) - (cnW wn (1 + dtc V V.length)) + k8)) z) ∧ (fdT (gV V) 46 (psT V ((1 + dtc V V.length) - (cnW wn (1 + dtc V V.length)) + k8)) z) ≤ (psT V ((1 + dtc V V.length) - (cnW wn (1 + dtc V V.length)) + k8)) + (z - (psT V ((1 + dtc V V.length) - (cnW wn (1 + dtc V V.length)) + k8))) := fdT_le (z - (psT V ((1 + dtc V V.length) - (cnW wn (1 + dtc V V.length)) + k8))) (psT V ((1 + dtc V V.length) - (cnW wn (1 + dtc V V.length)) + k8))
            have hFc := pg_free hD hS hA
            refine va_callv (va_runV (As := [.ref g1, .int (nI (psT V ((1 + dtc V V.length) - (cnW wn (1 + dtc V V.length)) + k8))), .int (nI (fdT (gV V) 46 (psT V ((1 + dtc V V.length) - (cnW wn (1 + dtc V V.length)) + k8)) z))]) (rest := []) ⟨hx, hb, hml, hown, hts⟩ (s_X0_addRange_t l dC dI cs ty L H.size F_76 g2 τ r2 n2 g1 σ r1 n1 y2_77 z (psT V ((1 + dtc V V.length) - (cnW wn (1 + dtc V V.length)) + k8)) (fdT (gV V) 46 (psT V ((1 + dtc V V.length) - (cnW wn (1 + dtc V V.length)) + k8)) z) f2_79 f oo2_78 ((U ++ prw V x2 (cnW wn (1 + dtc V V.length)) (1 + dtc V V.length) k8) ++ [46]) V hW hL_g2 hT_g2 hL_g1 hT_g1 hq_80 hq_81 (by omega) (hq_82) hF_83 hF_84 (by omega) (by omega) (hfl.1) (by omega) (hV)) ⟨callB_of 3 hts (gi kt_36) rfl rfl rfl (hts _ kt_1) (hts _ kt_562) (by decide +kernel) ⟨Nat.le_of_ble_eq_true rfl, Nat.le_of_ble_eq_true rfl⟩, (hts _ kt_38), (hts _ kt_39)⟩ ⟨fun a U g mk q => ⟨q.1, PT.calling q.2⟩, pg_recv hK hP hL_g2 hq_80 (q := (RX0, TX0, 3)) rfl, fun U hU hWm => ⟨rfl, PT.mk hU hWm hP hK hD hE hO⟩⟩ rfl rfl hl.1 rfl (lv_room (Nat.le_of_ble_eq_true rfl)) dX1_addParts_124 ⟨by show _ + 0 ≤ 0; omega, by show _ + 0 ≤ 0; omega⟩) hS (fun q _ h => hFc q h) hFc (fun u t H1 locs ht hvm hw hB hz1 hk1 hS => ?_)
            obtain ⟨F_95, y2_96, oo2_97, f2_98, hB1, hq_99, hq_100, hq_101⟩ := hB
            obtain ⟨hP, hD, hO, hR⟩ := QT.back hB1 ht hFc hR (fun q h => by simp only [List.mem_cons, List.not_mem_nil, or_false] at h ⊢; omega)
            have hF_102 : F_95 g1 = .inr (0, [.ref r1, .int (nI z), .int 0]) := (hB1.2.2.2 g1 (by rw [hT_g1]; simp only [List.mem_cons, List.not_mem_nil, or_false]; omega)).trans hF_83
            have hF_103 : F_95 r1 = .inl (cs 16, n1, .inl f) := (hB1.2.2.2 r1 (by rw [ht_2]; simp only [List.mem_cons, List.not_mem_nil, or_false]; omega)).trans hF_84
            generalize H1 = H at hP hS ⊢
            have hT_104 : TGA (((U ++ prw V x2 (cnW wn (1 + dtc V V.length)) (1 + dtc V V.length) k8) ++ [46]) ++ ptL V ((1 + dtc V V.length) - (cnW wn (1 + dtc V V.length)) + k8)) n2 y2_96 oo2_97 f2_98 := by have h8 := hq_101; unfold ptL; rw [hV.1] at h8 ⊢; exact h8
            refine lv_iinc (v := (nI (k8 + 1))) (lv' := [(6, .int (nI (k8 + 1))), (7, .int (nI (psT V ((1 + dtc V V.length) - (cnW wn (1 + dtc V V.length)) + k8)))), (5, .int (nI (cnW wn (1 + dtc V V.length)))), (4, .int (nI w4)), (0, .ref g1), (1, .int (nI wn)), (2, .int x2), (3, .ref g2)]) hx hb dX1_addParts_127 hl (k := 1) rfl (nI_1 _) (by decide) rfl (fun ls hl => ?_)
            refine lv_goto (tgt := 62) hx hb dX1_addParts_130 (by decide) ?_
            refine W.widen (k := 0) (n := 0) (by omega) (by omega) ?_
            exact ih_27 ((k8 + 1), y2_96, oo2_97, f2_98) F_95 (⟨by omega, hq_99, hq_100, by have h9 := hT_104; show TGA (U ++ (prw V x2 (cnW wn (1 + dtc V V.length)) (1 + dtc V V.length) k8 ++ (if 0 < k8 then [46] else []) ++ ptL V (pix x2 (cnW wn (1 + dtc V V.length)) (1 + dtc V V.length) k8))) _ _ _ _; rw [if_pos hk0, show pix x2 (cnW wn (1 + dtc V V.length)) (1 + dtc V V.length) k8 = _ from if_pos c_85, ← List.append_assoc, ← List.append_assoc]; exact h9⟩) (by show (cnW wn (1 + dtc V V.length)) - (k8 + 1) < (cnW wn (1 + dtc V V.length)) - k8; omega) hO hR _ _ hP hD hS ls (lv_sub hl [0, 2, 3, 4, 5, 6, 7] rfl)
          ·
            refine lv_iload hx hb dX1_addParts_85 (lv_at hl 1 rfl) ?_
            refine lv_iconst (v := 1) hx hb dX1_addParts_87 (by decide) ?_
            refine lv_isub hx hb dX1_addParts_88 ?_
            refine lv_topi (fun x_105 ex_105 => ?_)
            obtain rfl : x_105 = (nI ((cnW wn (1 + dtc V V.length)) - 1)) := ex_105.trans (pk_sub (b := 1) (by omega))
            refine lv_iload hx hb dX1_addParts_89 (lv_at hl 0 rfl) ?_
            refine lv_isub hx hb dX1_addParts_91 ?_
            refine lv_topi (fun x_106 ex_106 => ?_)
            obtain rfl : x_106 = (nI ((cnW wn (1 + dtc V V.length)) - 1 - k8)) := ex_106.trans (pk_sub (by omega))
            refine lv_goto (tgt := 103) hx hb dX1_addParts_92 (by decide) ?_
            have hFc := pg_free hD hS hA
            refine va_calli (va_runV (As := [.int (nI ((cnW wn (1 + dtc V V.length)) - 1 - k8))]) (rest := []) ⟨hx, hb, hml, hown, hts⟩ (s_X0_partStart_e l dC dI cs ty L H.size F_76 g1 σ r1 n1 z ((cnW wn (1 + dtc V V.length)) - 1 - k8) f V hW hL_g1 hT_g1 hF_83 hF_84 (by omega) (by omega) (by omega) (hV)) ⟨callB_of 1 hts (gi kt_557) rfl rfl rfl (hts _ kt_1) (hts _ kt_558) (by decide +kernel) ⟨Nat.le_of_ble_eq_true rfl, Nat.le_of_ble_eq_true rfl⟩, (hts _ kt_559), (hts _ kt_560)⟩ ⟨fun a U g mk q => ⟨q.1, PT.calling q.2⟩, pg_recv hK hP hL_g1 hF_83 (q := (RX0, TX0, 3)) rfl, fun U hU hWm => ⟨rfl, PT.mk hU hWm hP hK hD hE hO⟩⟩ rfl rfl hl.1 rfl (lv_room (Nat.le_of_ble_eq_true rfl)) dX1_addParts_103 ⟨by show _ + 0 ≤ 0; omega, by show _ + 0 ≤ 0; omega⟩) hS (fun q _ h => hFc q h) hFc (fun r_107 u t H1 locs ht hvm hw hB hz1 hk1 hS => ?_)
            obtain ⟨F_108, hB1⟩ := hB
            obtain rfl : F_76 = F_108 := (funext (fun a => hB1.2.2.2 a List.not_mem_nil)).symm
            obtain ⟨hP, hD, hO, hR⟩ := QT.back hB1 ht hFc hR (fun q h => absurd h List.not_mem_nil)
            generalize H1 = H at hP hS ⊢
            have hw : r_107 = nI (psT V ((cnW wn (1 + dtc V V.length)) - 1 - k8)) := hw
            have hw_109 := hw
            subst hw_109
            have hps : psT V ((cnW wn (1 + dtc V V.length)) - 1 - k8) ≤ z := by rw [← hV.1]; exact psT_le
            refine lv_istore (lv' := [(7, .int (nI (psT V ((cnW wn (1 + dtc V V.length)) - 1 - k8)))), (6, .int (nI k8)), (5, .int (nI (cnW wn (1 + dtc V V.length)))), (4, .int (nI w4)), (0, .ref g1), (1, .int (nI wn)), (2, .int x2), (3, .ref g2)]) hx hb dX1_addParts_106 hl (by decide) rfl (fun ls hl => ?_)
            refine lv_aload_n hx hb dX1_addParts_108 rfl (lv_at hl 7 rfl) ?_
            refine lv_aload_n hx hb dX1_addParts_109 rfl (lv_at hl 4 rfl) ?_
            refine lv_iload hx hb dX1_addParts_110 (lv_at hl 0 rfl) ?_
            refine lv_aload_n hx hb dX1_addParts_112 rfl (lv_at hl 4 rfl) ?_
            refine lv_bipush (v := 46) hx hb dX1_addParts_113 (by decide) ?_
            refine lv_iload hx hb dX1_addParts_115 (lv_at hl 0 rfl) ?_
            refine lv_aload_n hx hb dX1_addParts_117 rfl (lv_at hl 4 rfl) ?_
            refine pg_getN (ci := 0) (v := .int (nI z)) (C := RX0) (T := TX0) (N := 3) hx hb hts it_0 hown hK hP hL_g1 hF_83 rfl 1 (by decide) (hE.nest kn_23) (fun _ h9 => h9) rfl dX1_addParts_118 ?_
            have hFc := pg_free hD hS hA
            refine va_calli (va_runV (As := [.int 46, .int (nI (psT V ((cnW wn (1 + dtc V V.length)) - 1 - k8))), .int (nI z)]) (rest := [.int (nI (psT V ((cnW wn (1 + dtc V V.length)) - 1 - k8))), .ref g1, .ref g2]) ⟨hx, hb, hml, hown, hts⟩ (s_X0_find_g l dC dI cs ty L H.size F_76 g1 σ r1 n1 z (psT V ((cnW wn (1 + dtc V V.length)) - 1 - k8)) z f 46 hW hL_g1 hT_g1 hF_83 hF_84 (by omega) (by omega) (hps) (Nat.le_refl _)) ⟨callB_of 3 hts (gi kt_122) rfl rfl rfl (hts _ kt_1) (hts _ kt_561) (by decide +kernel) ⟨Nat.le_of_ble_eq_true rfl, Nat.le_of_ble_eq_true rfl⟩, (hts _ kt_124), (hts _ kt_125)⟩ ⟨fun a U g mk q => ⟨q.1, PT.calling q.2⟩, pg_recv hK hP hL_g1 hF_83 (q := (RX0, TX0, 3)) rfl, fun U hU hWm => ⟨rfl, PT.mk hU hWm hP hK hD hE hO⟩⟩ rfl rfl hl.1 rfl (lv_room (Nat.le_of_ble_eq_true rfl)) dX1_addParts_121 ⟨by show _ + 0 ≤ 0; omega, by show _ + 0 ≤ 0; omega⟩) hS (fun q _ h => hFc q h) hFc (fun r_110 u t H1 locs ht hvm hw hB hz1 hk1 hS => ?_)
            obtain ⟨F_111, hB1⟩ := hB
            obtain rfl : F_76 = F_111 := (funext (fun a => hB1.2.2.2 a List.not_mem_nil)).symm
            obtain ⟨hP, hD, hO, hR⟩ := QT.back hB1 ht hFc hR (fun q h => absurd h List.not_mem_nil)
            generalize H1 = H at hP hS ⊢
            have hw : (∃ k : Nat, r_110 = nI k ∧ FSX f 46 (psT V ((cnW wn (1 + dtc V V.length)) - 1 - k8)) z k) := hw
            have hw_112 := hw
            obtain ⟨k9, hk9, hfs⟩ := hw_112
            obtain rfl := fd_ofV (c := 46) hfs hV (by omega)
            subst hk9
            have hfl : (psT V ((cnW wn (1 + dtc V V.length)) - 1 - k8)) ≤ (fdT (gV V) 46 (psT V ((cnW wn (1 + dtc V V.length)) - 1 - k8)) z) ∧ (fdT (gV V) 46 (psT V ((cnW wn (1 + dtc V V.length)) - 1 - k8)) z) ≤ (psT V ((cnW wn (1 + dtc V V.length)) - 1 - k8)) + (z - (psT V ((cnW wn (1 + dtc V V.length)) - 1 - k8))) := fdT_le (z - (psT V ((cnW wn (1 + dtc V V.length)) - 1 - k8))) (psT V ((cnW wn (1 + dtc V V.length)) - 1 - k8))
            have hFc := pg_free hD hS hA
            refine va_callv (va_runV (As := [.ref g1, .int (nI (psT V ((cnW wn (1 + dtc V V.length)) - 1 - k8))), .int (nI (fdT (gV V) 46 (psT V ((cnW wn (1 + dtc V V.length)) - 1 - k8)) z))]) (rest := []) ⟨hx, hb, hml, hown, hts⟩ (s_X0_addRange_t l dC dI cs ty L H.size F_76 g2 τ r2 n2 g1 σ r1 n1 y2_77 z (psT V ((cnW wn (1 + dtc V V.length)) - 1 - k8)) (fdT (gV V) 46 (psT V ((cnW wn (1 + dtc V V.length)) - 1 - k8)) z) f2_79 f oo2_78 ((U ++ prw V x2 (cnW wn (1 + dtc V V.length)) (1 + dtc V V.length) k8) ++ [46]) V hW hL_g2 hT_g2 hL_g1 hT_g1 hq_80 hq_81 (by omega) (hq_82) hF_83 hF_84 (by omega) (by omega) (hfl.1) (by omega) (hV)) ⟨callB_of 3 hts (gi kt_36) rfl rfl rfl (hts _ kt_1) (hts _ kt_562) (by decide +kernel) ⟨Nat.le_of_ble_eq_true rfl, Nat.le_of_ble_eq_true rfl⟩, (hts _ kt_38), (hts _ kt_39)⟩ ⟨fun a U g mk q => ⟨q.1, PT.calling q.2⟩, pg_recv hK hP hL_g2 hq_80 (q := (RX0, TX0, 3)) rfl, fun U hU hWm => ⟨rfl, PT.mk hU hWm hP hK hD hE hO⟩⟩ rfl rfl hl.1 rfl (lv_room (Nat.le_of_ble_eq_true rfl)) dX1_addParts_124 ⟨by show _ + 0 ≤ 0; omega, by show _ + 0 ≤ 0; omega⟩) hS (fun q _ h => hFc q h) hFc (fun u t H1 locs ht hvm hw hB hz1 hk1 hS => ?_)
            obtain ⟨F_114, y2_115, oo2_116, f2_117, hB1, hq_118, hq_119, hq_120⟩ := hB
            obtain ⟨hP, hD, hO, hR⟩ := QT.back hB1 ht hFc hR (fun q h => by simp only [List.mem_cons, List.not_mem_nil, or_false] at h ⊢; omega)
            have hF_121 : F_114 g1 = .inr (0, [.ref r1, .int (nI z), .int 0]) := (hB1.2.2.2 g1 (by rw [hT_g1]; simp only [List.mem_cons, List.not_mem_nil, or_false]; omega)).trans hF_83
            have hF_122 : F_114 r1 = .inl (cs 16, n1, .inl f) := (hB1.2.2.2 r1 (by rw [ht_2]; simp only [List.mem_cons, List.not_mem_nil, or_false]; omega)).trans hF_84
            generalize H1 = H at hP hS ⊢
            have hT_123 : TGA (((U ++ prw V x2 (cnW wn (1 + dtc V V.length)) (1 + dtc V V.length) k8) ++ [46]) ++ ptL V ((cnW wn (1 + dtc V V.length)) - 1 - k8)) n2 y2_115 oo2_116 f2_117 := by have h8 := hq_120; unfold ptL; rw [hV.1] at h8 ⊢; exact h8
            refine lv_iinc (v := (nI (k8 + 1))) (lv' := [(6, .int (nI (k8 + 1))), (7, .int (nI (psT V ((cnW wn (1 + dtc V V.length)) - 1 - k8)))), (5, .int (nI (cnW wn (1 + dtc V V.length)))), (4, .int (nI w4)), (0, .ref g1), (1, .int (nI wn)), (2, .int x2), (3, .ref g2)]) hx hb dX1_addParts_127 hl (k := 1) rfl (nI_1 _) (by decide) rfl (fun ls hl => ?_)
            refine lv_goto (tgt := 62) hx hb dX1_addParts_130 (by decide) ?_
            refine W.widen (k := 0) (n := 0) (by omega) (by omega) ?_
            exact ih_27 ((k8 + 1), y2_115, oo2_116, f2_117) F_114 (⟨by omega, hq_118, hq_119, by have h9 := hT_123; show TGA (U ++ (prw V x2 (cnW wn (1 + dtc V V.length)) (1 + dtc V V.length) k8 ++ (if 0 < k8 then [46] else []) ++ ptL V (pix x2 (cnW wn (1 + dtc V V.length)) (1 + dtc V V.length) k8))) _ _ _ _; rw [if_pos hk0, show pix x2 (cnW wn (1 + dtc V V.length)) (1 + dtc V V.length) k8 = _ from if_neg c_85, ← List.append_assoc, ← List.append_assoc]; exact h9⟩) (by show (cnW wn (1 + dtc V V.length)) - (k8 + 1) < (cnW wn (1 + dtc V V.length)) - k8; omega) hO hR _ _ hP hD hS ls (lv_sub hl [0, 2, 3, 4, 5, 6, 7] rfl)
    ·
      refine lv_iload_n hx hb dX1_addParts_42 rfl (lv_at hl 3 rfl) ?_
      refine lv_if_ne (tgt := 51) hx hb dX1_addParts_43 (by decide) (fun c_124 => ?_) (fun c_124 => ?_)
      ·
        have hw0 : ¬ wn = 0 := fun q => c_124 (by rw [q]; rfl)
        refine lv_iload_n hx hb dX1_addParts_51 rfl (lv_at hl 3 rfl) ?_
        refine lv_iload hx hb dX1_addParts_52 (lv_at hl 1 rfl) ?_
        refine va_mmin hx hb (by rw [hml]; exact hl.1.symm) hown (hts _ kt_564) (hts _ kt_26) (hts _ kt_19) (hts _ kt_27) (Nat.le_of_ble_eq_true rfl) (Nat.le_of_ble_eq_true rfl) (by show _ ≤ 0; omega) (by show _ ≤ 0; omega) dX1_addParts_54 ?_
        refine lv_topi (fun x_126 ex_126 => ?_)
        obtain rfl : x_126 = (nI (min wn w4)) := ex_126.trans (mnI_g (by omega) (by omega))
        refine W.widen (k := 0) (n := 0) (by omega) (by omega) ?_
        exact jn_16 (nI (min wn w4)) F_7 (⟨show nI (min wn w4) = nI (cnW wn (1 + dtc V V.length)) by unfold cnW; rw [if_neg hw0, hV.1, ← hjz, hv2], hv3, hv4⟩) hO hR _ _ hP hD hS ls (lv_sub hl [1, 2, 3, 4, 5] rfl)
      ·
        have hw0 : wn = 0 := (nI_eq (b := 0) (by omega) (by omega)).mp c_124
        refine lv_iload hx hb dX1_addParts_46 (lv_at hl 1 rfl) ?_
        refine lv_goto (tgt := 57) hx hb dX1_addParts_48 (by decide) ?_
        refine W.widen (k := 0) (n := 0) (by omega) (by omega) ?_
        exact jn_16 (nI w4) F_7 (⟨show nI w4 = nI (cnW wn (1 + dtc V V.length)) by unfold cnW; rw [if_pos hw0, hV.1, ← hjz, hv2], hv3, hv4⟩) hO hR _ _ hP hD hS ls (lv_sub hl [1, 2, 3, 4, 5] rfl)
  ·
    have hi_128 : j < z := ltN (N := z) c_14
    have hjz : j < z := Nat.not_le.mp (fun q => c_14 ((nI_leI (by omega) (by omega)).mpr q))
    refine lv_iload hx hb dX1_addParts_15 (lv_at hl 1 rfl) ?_
    refine lv_aload_n hx hb dX1_addParts_17 rfl (lv_at hl 2 rfl) ?_
    refine lv_iload hx hb dX1_addParts_18 (lv_at hl 0 rfl) ?_
    have hFc := pg_free hD hS hA
    refine va_calli (va_runV (As := [.int (nI j)]) (rest := [.int (nI w4)]) ⟨hx, hb, hml, hown, hts⟩ (s_X0_at_g l dC dI cs ty L H.size F_7 g1 σ r1 n1 z j f hW hL_g1 hT_g1 hF_12 hF_13 (by omega) (by omega) (by omega)) ⟨callB_of 1 hts (gi kt_21) rfl rfl rfl (hts _ kt_1) (hts _ kt_301) (by decide +kernel) ⟨Nat.le_of_ble_eq_true rfl, Nat.le_of_ble_eq_true rfl⟩, (hts _ kt_23), (hts _ kt_24)⟩ ⟨fun a U g mk q => ⟨q.1, PT.calling q.2⟩, pg_recv hK hP hL_g1 hF_12 (q := (RX0, TX0, 3)) rfl, fun U hU hWm => ⟨rfl, PT.mk hU hWm hP hK hD hE hO⟩⟩ rfl rfl hl.1 rfl (lv_room (Nat.le_of_ble_eq_true rfl)) dX1_addParts_20 ⟨by show _ + 0 ≤ 0; omega, by show _ + 0 ≤ 0; omega⟩) hS (fun q _ h => hFc q h) hFc (fun r_129 u t H1 locs ht hvm hw hB hz1 hk1 hS => ?_)
    obtain ⟨F_130, hB1⟩ := hB
    obtain rfl : F_7 = F_130 := (funext (fun a => hB1.2.2.2 a List.not_mem_nil)).symm
    obtain ⟨hP, hD, hO, hR⟩ := QT.back hB1 ht hFc hR (fun q h => absurd h List.not_mem_nil)
    generalize H1 = H at hP hS ⊢
    have hw : r_129 = atn f z j := hw
    have hw_131 := hw
    have hw_132 := hw_131.trans ((if_pos hjz).trans (hV.2.1 j hjz))
    subst hw_132
    refine lv_bipush (v := 46) hx hb dX1_addParts_23 (by decide) ?_
    refine lv_icmp_ne (tgt := 32) hx hb dX1_addParts_25 (by decide) (fun c_133 => ?_) (fun c_133 => ?_)
    ·
      have hcd := hV.2.2 j hjz
      have hdt : ¬ V.getD j 0 = 46 := fun q => c_133 (by rw [q]; rfl)
      refine lv_iconst (v := 0) hx hb dX1_addParts_32 (by decide) ?_
      refine lv_iadd hx hb dX1_addParts_33 ?_
      refine lv_topi (fun x_135 ex_135 => ?_)
      obtain rfl : x_135 = (nI w4) := ex_135.trans (nI_add w4 0)
      refine lv_istore (lv' := [(4, .int (nI w4)), (5, .int (nI j)), (0, .ref g1), (1, .int (nI wn)), (2, .int x2), (3, .ref g2)]) hx hb dX1_addParts_34 hl (by decide) rfl (fun ls hl => ?_)
      refine lv_iinc (v := (nI (j + 1))) (lv' := [(5, .int (nI (j + 1))), (4, .int (nI w4)), (0, .ref g1), (1, .int (nI wn)), (2, .int x2), (3, .ref g2)]) hx hb dX1_addParts_36 hl (k := 1) rfl (nI_1 _) (by decide) rfl (fun ls hl => ?_)
      refine lv_goto (tgt := 6) hx hb dX1_addParts_39 (by decide) ?_
      refine W.widen (k := 0) (n := 0) (by omega) (by omega) ?_
      exact ih_11 ((j + 1), w4) F_7 (⟨by omega, by show _ = 1 + (dtc V j + (if V.getD j 0 = 46 then 1 else 0)); rw [if_neg hdt]; omega, hv3, hv4⟩) (by show z - (j + 1) < z - j; omega) hO hR _ _ hP hD hS ls (lv_sub hl [0, 1, 2, 3, 4, 5] rfl)
    ·
      have hcd := hV.2.2 j hjz
      have hdt : V.getD j 0 = 46 := (nI_eq (b := 46) (by omega) (by omega)).mp c_133
      refine lv_iconst (v := 1) hx hb dX1_addParts_28 (by decide) ?_
      refine lv_goto (tgt := 33) hx hb dX1_addParts_29 (by decide) ?_
      refine lv_iadd hx hb dX1_addParts_33 ?_
      refine lv_topi (fun x_137 ex_137 => ?_)
      obtain rfl : x_137 = (nI (w4 + 1)) := ex_137.trans (nI_1 w4)
      refine lv_istore (lv' := [(4, .int (nI (w4 + 1))), (5, .int (nI j)), (0, .ref g1), (1, .int (nI wn)), (2, .int x2), (3, .ref g2)]) hx hb dX1_addParts_34 hl (by decide) rfl (fun ls hl => ?_)
      refine lv_iinc (v := (nI (j + 1))) (lv' := [(5, .int (nI (j + 1))), (4, .int (nI (w4 + 1))), (0, .ref g1), (1, .int (nI wn)), (2, .int x2), (3, .ref g2)]) hx hb dX1_addParts_36 hl (k := 1) rfl (nI_1 _) (by decide) rfl (fun ls hl => ?_)
      refine lv_goto (tgt := 6) hx hb dX1_addParts_39 (by decide) ?_
      refine W.widen (k := 0) (n := 0) (by omega) (by omega) ?_
      exact ih_11 ((j + 1), (w4 + 1)) F_7 (⟨by omega, by show _ = 1 + (dtc V j + (if V.getD j 0 = 46 then 1 else 0)); rw [if_pos hdt]; omega, hv3, hv4⟩) (by show z - (j + 1) < z - j; omega) hO hR _ _ hP hD hS ls (lv_sub hl [0, 1, 2, 3, 4, 5] rfl)
