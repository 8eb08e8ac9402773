theorem in_nat0 {k lo hi : Nat} {A B : Int64} {r : Int32} (hr : r = (if A ≤ (nI k).toInt64 ∧ (nI k).toInt64 ≤ B then 1 else 0)) (c : r = 0) (hA : A.toInt = lo) (hB : B.toInt = hi) (hk : k < 2 ^ 31) : ¬ (lo ≤ k ∧ k ≤ hi) := fun q => by
  have h : A ≤ (nI k).toInt64 ∧ (nI k).toInt64 ≤ B := by
    rw [Int64.le_iff_toInt_le, Int64.le_iff_toInt_le, Int32.toInt_toInt64, nI_toInt hk, hA, hB]
    omega
  rw [if_pos h] at hr
  rw [hr] at c
  exact absurd c (by decide)
set_option maxHeartbeats 4000000 in
set_option maxRecDepth 100000 in
theorem s_X15_isSmall_e (l : Launch) (dC : Nat → ClassId) (dI : Nat → Nat → Nat) (cs : Nat → ClassId) (ty : TyM) (gm : Nat → Nat → Nat) (L : List Nat) (sz : Nat) (F : Nat → va_E) (x1 : Int32) (hW : WTm ty gm L) : Met l yX15_isSmall (.code yX15_isSmall cX15_isSmall 1 (some .boolean) :: tb) ({ frames := 0, cells := 0, slots := 0, locals := 0 }) (va_Pc [.int x1] (PTm (dC, dI) cs ty gm L F sz)) (va_Qi (fun (r : Int32) (_ : Unit) => r = (if 97 ≤ x1 ∧ x1 ≤ 122 then 1 else 0)) (fun _ T9 => ∃ F2 : Nat → va_E, QTm (dC, dI) cs ty gm L [] F F2 (va_A (va_pl L F) sz) T9) (va_A (va_pl L F) sz)) 0 0 (va_A (va_pl L F) sz) := by
  refine Met.ofW (cc := cX15_isSmall) (maxL := 1) (ret := (some .boolean)) (by decide) rfl ?_
  intro p e s m args below meth c s₁ B hml hv
  obtain ⟨rfl, hsz, hP, hK, hD0, hE, hO⟩ := hv
  have hx := B.exec
  have hb := B.bytes
  have hr := B.returns
  have hts : ∀ w ∈ tb, w.before _ s = true := fun w h => atoms_spec (ws := .code yX15_isSmall cX15_isSmall 1 (some .boolean) :: tb) B.pre w (List.mem_cons_of_mem _ h)
  have hown : s.vm.findClass RX15 = some m.cls := findClass_of_methodNamed B.named
  have hlocks := B.notSynchronized
  subst hsz
  have hD := hD0.self (sz := s.heap.size)
  generalize hAe : va_A (va_pl L F) s.heap.size = A at hD ⊢
  have hA : ∀ q : Nat, s.heap.size ≤ q → A q := fun q h => by rw [← hAe]; exact Or.inr h
  have hS : va_S A s.heap s.heap [] := va_S.rf
  have hR : FR ty [] F F := FR.refl
  have hl := lv_entry ([.int x1]) (n := 1) (Nat.le_of_ble_eq_true rfl)
  rw [lg_entry_eq]
  generalize (lg_sl ([.int x1]) ++ List.replicate (1 - (lg_sl ([.int x1])).length) Slot.unset).toArray = ls at hl ⊢
  have hl : lv_has ls 1 [(0, .int x1)] := hl
  refine lv_iload_n hx hb dX15_isSmall_0 rfl (lv_at hl 0 rfl) ?_
  refine lv_bipush (v := 97) hx hb dX15_isSmall_1 (by decide) ?_
  refine lv_icmp_lt (tgt := 16) hx hb dX15_isSmall_3 (by decide) (fun c_1 => ?_) (fun c_1 => ?_)
  ·
    refine lv_iconst (v := 0) hx hb dX15_isSmall_16 (by decide) ?_
    refine W.widen (k := 0) (n := 0) (by omega) (by omega) ?_
    exact W.zret (v := 0) (ty := .boolean) hx hb hr (by decide) (fun t ht hWm => ⟨⟨0, (), rfl, ((if_neg (fun q => absurd c_1 (Int32.not_lt.mpr q.1))).symm), ⟨F, QTm.mk ht hP hD hO hR⟩⟩, hS.F ht⟩) hS.2.2 dX15_isSmall_17
  ·
    refine lv_iload_n hx hb dX15_isSmall_6 rfl (lv_at hl 0 rfl) ?_
    refine lv_bipush (v := 122) hx hb dX15_isSmall_7 (by decide) ?_
    refine lv_icmp_gt (tgt := 16) hx hb dX15_isSmall_9 (by decide) (fun c_2 => ?_) (fun c_2 => ?_)
    ·
      refine lv_iconst (v := 0) hx hb dX15_isSmall_16 (by decide) ?_
      refine W.widen (k := 0) (n := 0) (by omega) (by omega) ?_
      exact W.zret (v := 0) (ty := .boolean) hx hb hr (by decide) (fun t ht hWm => ⟨⟨0, (), rfl, ((if_neg (fun q => absurd c_2 (Int32.not_lt.mpr q.2))).symm), ⟨F, QTm.mk ht hP hD hO hR⟩⟩, hS.F ht⟩) hS.2.2 dX15_isSmall_17
    ·
      refine lv_iconst (v := 1) hx hb dX15_isSmall_12 (by decide) ?_
      refine lv_goto (tgt := 17) hx hb dX15_isSmall_13 (by decide) ?_
      refine W.widen (k := 0) (n := 0) (by omega) (by omega) ?_
      exact W.zret (v := 1) (ty := .boolean) hx hb hr (by decide) (fun t ht hWm => ⟨⟨1, (), rfl, ((if_pos ⟨Int32.not_lt.mp c_1, Int32.not_lt.mp c_2⟩).symm), ⟨F, QTm.mk ht hP hD hO hR⟩⟩, hS.F ht⟩) hS.2.2 dX15_isSmall_17
set_option maxHeartbeats 4000000 in
set_option maxRecDepth 100000 in
theorem s_X15_isDigit_e (l : Launch) (dC : Nat → ClassId) (dI : Nat → Nat → Nat) (cs : Nat → ClassId) (ty : TyM) (gm : Nat → Nat → Nat) (L : List Nat) (sz : Nat) (F : Nat → va_E) (x1 : Int32) (hW : WTm ty gm L) : Met l yX15_isDigit (.code yX15_isDigit cX15_isDigit 1 (some .boolean) :: tb) ({ frames := 0, cells := 0, slots := 0, locals := 0 }) (va_Pc [.int x1] (PTm (dC, dI) cs ty gm L F sz)) (va_Qi (fun (r : Int32) (_ : Unit) => r = (if 48 ≤ x1 ∧ x1 ≤ 57 then 1 else 0)) (fun _ T9 => ∃ F2 : Nat → va_E, QTm (dC, dI) cs ty gm L [] F F2 (va_A (va_pl L F) sz) T9) (va_A (va_pl L F) sz)) 0 0 (va_A (va_pl L F) sz) := by
  refine Met.ofW (cc := cX15_isDigit) (maxL := 1) (ret := (some .boolean)) (by decide) rfl ?_
  intro p e s m args below meth c s₁ B hml hv
  obtain ⟨rfl, hsz, hP, hK, hD0, hE, hO⟩ := hv
  have hx := B.exec
  have hb := B.bytes
  have hr := B.returns
  have hts : ∀ w ∈ tb, w.before _ s = true := fun w h => atoms_spec (ws := .code yX15_isDigit cX15_isDigit 1 (some .boolean) :: tb) B.pre w (List.mem_cons_of_mem _ h)
  have hown : s.vm.findClass RX15 = some m.cls := findClass_of_methodNamed B.named
  have hlocks := B.notSynchronized
  subst hsz
  have hD := hD0.self (sz := s.heap.size)
  generalize hAe : va_A (va_pl L F) s.heap.size = A at hD ⊢
  have hA : ∀ q : Nat, s.heap.size ≤ q → A q := fun q h => by rw [← hAe]; exact Or.inr h
  have hS : va_S A s.heap s.heap [] := va_S.rf
  have hR : FR ty [] F F := FR.refl
  have hl := lv_entry ([.int x1]) (n := 1) (Nat.le_of_ble_eq_true rfl)
  rw [lg_entry_eq]
  generalize (lg_sl ([.int x1]) ++ List.replicate (1 - (lg_sl ([.int x1])).length) Slot.unset).toArray = ls at hl ⊢
  have hl : lv_has ls 1 [(0, .int x1)] := hl
  refine lv_iload_n hx hb dX15_isDigit_0 rfl (lv_at hl 0 rfl) ?_
  refine lv_bipush (v := 48) hx hb dX15_isDigit_1 (by decide) ?_
  refine lv_icmp_lt (tgt := 16) hx hb dX15_isDigit_3 (by decide) (fun c_1 => ?_) (fun c_1 => ?_)
  ·
    refine lv_iconst (v := 0) hx hb dX15_isDigit_16 (by decide) ?_
    refine W.widen (k := 0) (n := 0) (by omega) (by omega) ?_
    exact W.zret (v := 0) (ty := .boolean) hx hb hr (by decide) (fun t ht hWm => ⟨⟨0, (), rfl, ((if_neg (fun q => absurd c_1 (Int32.not_lt.mpr q.1))).symm), ⟨F, QTm.mk ht hP hD hO hR⟩⟩, hS.F ht⟩) hS.2.2 dX15_isDigit_17
  ·
    refine lv_iload_n hx hb dX15_isDigit_6 rfl (lv_at hl 0 rfl) ?_
    refine lv_bipush (v := 57) hx hb dX15_isDigit_7 (by decide) ?_
    refine lv_icmp_gt (tgt := 16) hx hb dX15_isDigit_9 (by decide) (fun c_2 => ?_) (fun c_2 => ?_)
    ·
      refine lv_iconst (v := 0) hx hb dX15_isDigit_16 (by decide) ?_
      refine W.widen (k := 0) (n := 0) (by omega) (by omega) ?_
      exact W.zret (v := 0) (ty := .boolean) hx hb hr (by decide) (fun t ht hWm => ⟨⟨0, (), rfl, ((if_neg (fun q => absurd c_2 (Int32.not_lt.mpr q.2))).symm), ⟨F, QTm.mk ht hP hD hO hR⟩⟩, hS.F ht⟩) hS.2.2 dX15_isDigit_17
    ·
      refine lv_iconst (v := 1) hx hb dX15_isDigit_12 (by decide) ?_
      refine lv_goto (tgt := 17) hx hb dX15_isDigit_13 (by decide) ?_
      refine W.widen (k := 0) (n := 0) (by omega) (by omega) ?_
      exact W.zret (v := 1) (ty := .boolean) hx hb hr (by decide) (fun t ht hWm => ⟨⟨1, (), rfl, ((if_pos ⟨Int32.not_lt.mp c_1, Int32.not_lt.mp c_2⟩).symm), ⟨F, QTm.mk ht hP hD hO hR⟩⟩, hS.F ht⟩) hS.2.2 dX15_isDigit_17
set_option maxHeartbeats 4000000 in
set_option maxRecDepth 100000 in
theorem s_X14_isName_e (l : Launch) (dC : Nat → ClassId) (dI : Nat → Nat → Nat) (cs : Nat → ClassId) (ty : TyM) (gm : Nat → Nat → Nat) (L : List Nat) (sz : Nat) (F : Nat → va_E) (g1 : Nat) (σ : Nat) (n1 : Nat) (a : Nat) (tt : Nat) (gt : Nat → Int32) (hW : WTm ty gm L) (hL_g1 : g1 ∈ L) (hT_g1 : ty g1 = (17, σ, [n1])) (hFg : F g1 = .inl (cs 17, n1, .inl gt)) (hat : a ≤ tt) (htn : tt ≤ n1) : Met l yX14_isName_ (.code yX14_isName_ cX14_isName_ 6 (some .boolean) :: tb) ({ frames := 1, cells := 0, slots := 0, locals := 25 }) (va_Pc [.ref g1, .int (nI a), .int (nI tt)] (PTm (dC, dI) cs ty gm L F sz)) (va_Qi (fun (r : Int32) (_ : Unit) => r = (if NM gt a tt = true then 1 else 0)) (fun _ T9 => ∃ F2 : Nat → va_E, QTm (dC, dI) cs ty gm L [] F F2 (va_A (va_pl L F) sz) T9) (va_A (va_pl L F) sz)) 0 0 (va_A (va_pl L F) sz) := by
  refine Met.ofW (cc := cX14_isName_) (maxL := 6) (ret := (some .boolean)) (by decide) rfl ?_
  intro p e s m args below meth c s₁ B hml hv
  obtain ⟨rfl, hsz, hP, hK, hD0, hE, hO⟩ := hv
  have hx := B.exec
  have hb := B.bytes
  have hr := B.returns
  have hts : ∀ w ∈ tb, w.before _ s = true := fun w h => atoms_spec (ws := .code yX14_isName_ cX14_isName_ 6 (some .boolean) :: tb) B.pre w (List.mem_cons_of_mem _ h)
  have hown : s.vm.findClass RX14 = some m.cls := findClass_of_methodNamed B.named
  have hlocks := B.notSynchronized
  subst hsz
  have hD := hD0.self (sz := s.heap.size)
  generalize hAe : va_A (va_pl L F) s.heap.size = A at hD ⊢
  have hA : ∀ q : Nat, s.heap.size ≤ q → A q := fun q h => by rw [← hAe]; exact Or.inr h
  have hS : va_S A s.heap s.heap [] := va_S.rf
  have hR : FR ty [] F F := FR.refl
  have hl := lv_entry ([.ref g1, .int (nI a), .int (nI tt)]) (n := 6) (Nat.le_of_ble_eq_true rfl)
  rw [lg_entry_eq]
  generalize (lg_sl ([.ref g1, .int (nI a), .int (nI tt)]) ++ List.replicate (6 - (lg_sl ([.ref g1, .int (nI a), .int (nI tt)])).length) Slot.unset).toArray = ls at hl ⊢
  have hl : lv_has ls 6 [(0, .ref g1), (1, .int (nI a)), (2, .int (nI tt))] := hl
  obtain ⟨hq_1, hq_2⟩ := hW.octs hL_g1 hT_g1
  refine lv_iload_n hx hb dX14_isName__0 rfl (lv_at hl 2 rfl) ?_
  refine lv_iload_n hx hb dX14_isName__1 rfl (lv_at hl 1 rfl) ?_
  refine lv_isub hx hb dX14_isName__2 ?_
  refine lv_topi (fun x_3 ex_3 => ?_)
  obtain rfl : x_3 = (nI (tt - a)) := ex_3.trans (pk_sub (a := tt) (b := a) (by omega))
  refine lv_i2l (v := (nI (tt - a)).toInt64) hx hb dX14_isName__3 rfl ?_
  refine lv_lconst (v := 1) hx hb dX14_isName__4 (by decide) ?_
  refine lv_ldc2 (v := 60) hx hb hown (hts _ kt_684) dX14_isName__5 ?_
  have hFc := pg_free hD hS hA
  refine va_calli (va_runSN (As := [.long ((nI (tt - a)).toInt64), .long 1, .long 60]) (rest := []) ⟨hx, hb, hml, hown, hts⟩ (s_X15_in l dC dI cs ty gm L s.heap.size F ((nI (tt - a)).toInt64) 1 60 hW ) ⟨va_cnB 3 hts (gi kt_685) rfl rfl rfl (hE.nestw kn_38) (hts _ kt_669) (by decide +kernel) ⟨Nat.le_of_ble_eq_true rfl, Nat.le_of_ble_eq_true rfl⟩, (hts _ kt_686), trivial⟩ ⟨fun a U g mk q => ⟨q.1, PTm.calling q.2⟩, fun U hU hWm => ⟨rfl, PTm.mk hU hWm hP hK hD hE hO⟩⟩ rfl rfl hl.1 rfl (lv_room (Nat.le_of_ble_eq_true rfl)) dX14_isName__8 ⟨by show _ + 0 ≤ 0; omega, by show _ + 0 ≤ 0; omega⟩) hS (fun q _ h => hFc q h) hFc (fun r_4 u t H1 locs ht hvm hw hB hz1 hk1 hS => ?_)
  obtain ⟨F_5, hB1⟩ := hB
  obtain rfl : F = F_5 := (funext (fun a => hB1.2.2.2 a List.not_mem_nil)).symm
  obtain ⟨hP, hD, hO, hR⟩ := QTm.back hB1 ht hFc hR (fun q h => absurd h List.not_mem_nil)
  generalize H1 = H at hP hS ⊢
  have hw : r_4 = (if 1 ≤ (nI (tt - a)).toInt64 ∧ (nI (tt - a)).toInt64 ≤ 60 then 1 else 0) := hw
  have hw_6 := hw
  refine lv_if_ne (tgt := 16) hx hb dX14_isName__11 (by decide) (fun c_7 => ?_) (fun c_7 => ?_)
  ·
    have hin := in_nat (lo := 1) (hi := 60) hw_6 c_7 (by decide) (by decide) (by omega)
    have hl1 : a + 1 ≤ tt := by omega
    have hl2 : tt ≤ a + 60 := by omega
    refine lv_iconst (v := 0) hx hb dX14_isName__16 (by decide) ?_
    refine lv_istore_n (lv' := [(3, .int 0), (0, .ref g1), (1, .int (nI a)), (2, .int (nI tt))]) hx hb dX14_isName__17 rfl hl (by decide) rfl (fun ls hl => ?_)
    refine lv_iload_n hx hb dX14_isName__18 rfl (lv_at hl 2 rfl) ?_
    refine lv_istore (lv' := [(4, .int (nI a)), (3, .int 0), (0, .ref g1), (1, .int (nI a)), (2, .int (nI tt))]) hx hb dX14_isName__19 hl (by decide) rfl (fun ls hl => ?_)
    refine W.widen (k := 0) (n := 0) (by omega) (by omega) ?_
    refine pl_loopm (σ := Nat × Nat) A (dC, dI) cs ty gm L [] F 21 6 (fun (j, p1) => [(4, .int (nI j)), (3, .int (nI p1)), (0, .ref g1), (1, .int (nI a)), (2, .int (nI tt))]) (fun (j, p1) => []) (fun (j, p1) _ => a ≤ j ∧ j ≤ tt ∧ p1 ≤ 20 ∧ nmw gt (tt - j) j p1 = nmw gt (tt - a) a 0) (fun (j, p1) => tt - j) ?_ (a, 0) F (⟨by omega, by omega, by omega, rfl⟩) hO hR _ _ hP hD hS ls (lv_sub hl [0, 1, 2, 3, 4] rfl)
    rintro ⟨j, p1⟩ F_8 hv_9 hO hR ih_10 H locs hP hD hS ls hl
    have hl : lv_has ls 6 [(4, .int (nI j)), (3, .int (nI p1)), (0, .ref g1), (1, .int (nI a)), (2, .int (nI tt))] := hl
    have hv_9 : a ≤ j ∧ j ≤ tt ∧ p1 ≤ 20 ∧ nmw gt (tt - j) j p1 = nmw gt (tt - a) a 0 := hv_9
    refine W.eq (g2 := F0 m 21 ls []) rfl ?_
    obtain rfl : F = F_8 := (funext (fun a => hR a List.not_mem_nil)).symm
    obtain ⟨hv1, hv2, hv3, hv4⟩ := id hv_9
    refine lv_iload hx hb dX14_isName__21 (lv_at hl 0 rfl) ?_
    refine lv_iload_n hx hb dX14_isName__23 rfl (lv_at hl 4 rfl) ?_
    refine lv_icmp_ge (tgt := 98) hx hb dX14_isName__24 (by decide) (fun c_11 => ?_) (fun c_11 => ?_)
    ·
      have hi_12 : tt ≤ j := leN (N := tt) c_11
      obtain rfl : j = tt := by omega
      refine lv_iload_n hx hb dX14_isName__98 rfl (lv_at hl 1 rfl) ?_
      refine lv_if_le (tgt := 106) hx hb dX14_isName__99 (by decide) (fun c_13 => ?_) (fun c_13 => ?_)
      ·
        have hi_14 : p1 ≤ 0 := (nI_leI (a := p1) (b := 0) (by omega) (by omega)).mp c_13
        refine lv_iconst (v := 0) hx hb dX14_isName__106 (by decide) ?_
        refine W.widen (k := 0) (n := 0) (by omega) (by omega) ?_
        exact W.zret (v := 0) (ty := .boolean) hx hb hr (by decide) (fun t ht hWm => ⟨⟨0, (), rfl, (nm_z hl1 hl2 ((nm_end hv4).trans (decide_eq_false (by omega)))), ⟨F, QTm.mk ht hP hD hO hR⟩⟩, hS.F ht⟩) hS.2.2 dX14_isName__107
      ·
        have hi_15 : 0 < p1 := Nat.not_le.mp (fun q => c_13 ((nI_leI (a := p1) (b := 0) (by omega) (by omega)).mpr q))
        refine lv_iconst (v := 1) hx hb dX14_isName__102 (by decide) ?_
        refine lv_goto (tgt := 107) hx hb dX14_isName__103 (by decide) ?_
        refine W.widen (k := 0) (n := 0) (by omega) (by omega) ?_
        exact W.zret (v := 1) (ty := .boolean) hx hb hr (by decide) (fun t ht hWm => ⟨⟨1, (), rfl, (nm_o hl1 hl2 ((nm_end hv4).trans (decide_eq_true (by omega)))), ⟨F, QTm.mk ht hP hD hO hR⟩⟩, hS.F ht⟩) hS.2.2 dX14_isName__107
    ·
      have hi_16 : j < tt := ltN (N := tt) c_11
      have hjt : j < tt := by omega
      refine lv_aload_n hx hb dX14_isName__27 rfl (lv_at hl 2 rfl) ?_
      refine lv_iload hx hb dX14_isName__28 (lv_at hl 0 rfl) ?_
      refine pg_bald hx hb hK hP hL_g1 1 hFg rfl (vp_in_nI (by omega) (by omega)) dX14_isName__30 ?_
      refine lv_topi (fun x_17 ex_17 => ?_)
      obtain rfl : x_17 = gt j := ex_17.trans (congrArg gt (show ((nI j) : Int32).toNatClampNeg = j from nI_clamp (by omega)))
      refine lv_istore (lv' := [(5, .int (gt j)), (4, .int (nI j)), (3, .int (nI p1)), (0, .ref g1), (1, .int (nI a)), (2, .int (nI tt))]) hx hb dX14_isName__31 hl (by decide) rfl (fun ls hl => ?_)
      refine lv_iload hx hb dX14_isName__33 (lv_at hl 0 rfl) ?_
      refine lv_bipush (v := 46) hx hb dX14_isName__35 (by decide) ?_
      refine lv_icmp_ne (tgt := 51) hx hb dX14_isName__37 (by decide) (fun c_18 => ?_) (fun c_18 => ?_)
      ·
        refine W.widen (k := 0) (n := 0) (by omega) (by omega) ?_
        refine pl_cutm (σ := Unit) A (dC, dI) cs ty gm L [] F 81 6 (fun u0 => [(5, .int (gt j)), (4, .int (nI j)), (3, .int (nI p1)), (0, .ref g1), (1, .int (nI a)), (2, .int (nI tt))]) (fun u0 => []) (fun u0 _ => OKC (gt j) = true) ?_ (fun jn_19 => ?_)
        ·
          rintro u0 F_20 hv_21 hO hR H locs hP hD hS ls hl
          have hl : lv_has ls 6 [(5, .int (gt j)), (4, .int (nI j)), (3, .int (nI p1)), (0, .ref g1), (1, .int (nI a)), (2, .int (nI tt))] := hl
          have hv_21 : OKC (gt j) = true := hv_21
          refine W.eq (g2 := F0 m 81 ls []) rfl ?_
          obtain rfl : F = F_20 := (funext (fun a => hR a List.not_mem_nil)).symm
          have hok : OKC (gt j) = true := hv_21
          refine lv_iload_n hx hb dX14_isName__81 rfl (lv_at hl 2 rfl) ?_
          refine lv_bipush (v := 20) hx hb dX14_isName__82 (by decide) ?_
          refine lv_icmp_ne (tgt := 89) hx hb dX14_isName__84 (by decide) (fun c_22 => ?_) (fun c_22 => ?_)
          ·
            have hi_23 : p1 ≠ 20 := fun q => c_22 (by rw [q]; rfl)
            have hp20 : p1 ≠ 20 := by omega
            refine lv_iinc (v := (nI (p1 + 1))) (lv' := [(3, .int (nI (p1 + 1))), (5, .int (gt j)), (4, .int (nI j)), (0, .ref g1), (1, .int (nI a)), (2, .int (nI tt))]) hx hb dX14_isName__89 hl (k := 2) rfl (nI_1 _) (by decide) rfl (fun ls hl => ?_)
            refine lv_iinc (v := (nI (j + 1))) (lv' := [(4, .int (nI (j + 1))), (3, .int (nI (p1 + 1))), (5, .int (gt j)), (0, .ref g1), (1, .int (nI a)), (2, .int (nI tt))]) hx hb dX14_isName__92 hl (k := 2) rfl (nI_1 _) (by decide) rfl (fun ls hl => ?_)
            refine lv_goto (tgt := 21) hx hb dX14_isName__95 (by decide) ?_
            refine W.widen (k := 0) (n := 0) (by omega) (by omega) ?_
            exact ih_10 ((j + 1), (p1 + 1)) F (⟨by omega, by omega, by omega, nm_chr hv4 hjt c_18 hp20 hok⟩) (by show tt - (j + 1) < tt - j; omega) hO hR _ _ hP hD hS ls (lv_sub hl [0, 1, 3, 4, 5] rfl)
          ·
            have hi_24 : p1 = 20 := (nI_eq (a := p1) (b := 20) (by omega) (by omega)).mp c_22
            have hp20 : p1 = 20 := by omega
            refine lv_iconst (v := 0) hx hb dX14_isName__87 (by decide) ?_
            refine W.widen (k := 0) (n := 0) (by omega) (by omega) ?_
            exact W.zret (v := 0) (ty := .boolean) hx hb hr (by decide) (fun t ht hWm => ⟨⟨0, (), rfl, (nm_z hl1 hl2 (nm_bad hv4 hjt c_18 (Or.inl hp20))), ⟨F, QTm.mk ht hP hD hO hR⟩⟩, hS.F ht⟩) hS.2.2 dX14_isName__88
        ·
          refine lv_iload hx hb dX14_isName__51 (lv_at hl 0 rfl) ?_
          have hFc := pg_free hD hS hA
          refine va_calli (va_runSN (As := [.int (gt j)]) (rest := []) ⟨hx, hb, hml, hown, hts⟩ (s_X15_isSmall_e l dC dI cs ty gm L H.size F (gt j) hW ) ⟨va_cnB 1 hts (gi kt_668) rfl rfl rfl (hE.nestw kn_39) (hts _ kt_669) (by decide +kernel) ⟨Nat.le_of_ble_eq_true rfl, Nat.le_of_ble_eq_true rfl⟩, (hts _ kt_671), trivial⟩ ⟨fun a U g mk q => ⟨q.1, PTm.calling q.2⟩, fun U hU hWm => ⟨rfl, PTm.mk hU hWm hP hK hD hE hO⟩⟩ rfl rfl hl.1 rfl (lv_room (Nat.le_of_ble_eq_true rfl)) dX14_isName__53 ⟨by show _ + 0 ≤ 0; omega, by show _ + 0 ≤ 0; omega⟩) hS (fun q _ h => hFc q h) hFc (fun r_25 u t H1 locs ht hvm hw hB hz1 hk1 hS => ?_)
          obtain ⟨F_26, hB1⟩ := hB
          obtain rfl : F = F_26 := (funext (fun a => hB1.2.2.2 a List.not_mem_nil)).symm
          obtain ⟨hP, hD, hO, hR⟩ := QTm.back hB1 ht hFc hR (fun q h => absurd h List.not_mem_nil)
          generalize H1 = H at hP hS ⊢
          have hw : r_25 = (if 97 ≤ (gt j) ∧ (gt j) ≤ 122 then 1 else 0) := hw
          have hw_27 := hw
          refine lv_if_ne (tgt := 81) hx hb dX14_isName__56 (by decide) (fun c_28 => ?_) (fun c_28 => ?_)
          ·
            refine W.widen (k := 0) (n := 0) (by omega) (by omega) ?_
            exact jn_19 () F ((decide_eq_true (Or.inl (ifb1 hw_27 c_28)))) hO hR _ _ hP hD hS ls (lv_sub hl [0, 1, 2, 3, 4, 5] rfl)
          ·
            refine lv_iload hx hb dX14_isName__59 (lv_at hl 0 rfl) ?_
            have hFc := pg_free hD hS hA
            refine va_calli (va_runSN (As := [.int (gt j)]) (rest := []) ⟨hx, hb, hml, hown, hts⟩ (s_X15_isDigit_e l dC dI cs ty gm L H.size F (gt j) hW ) ⟨va_cnB 1 hts (gi kt_687) rfl rfl rfl (hE.nestw kn_40) (hts _ kt_669) (by decide +kernel) ⟨Nat.le_of_ble_eq_true rfl, Nat.le_of_ble_eq_true rfl⟩, (hts _ kt_688), trivial⟩ ⟨fun a U g mk q => ⟨q.1, PTm.calling q.2⟩, fun U hU hWm => ⟨rfl, PTm.mk hU hWm hP hK hD hE hO⟩⟩ rfl rfl hl.1 rfl (lv_room (Nat.le_of_ble_eq_true rfl)) dX14_isName__61 ⟨by show _ + 0 ≤ 0; omega, by show _ + 0 ≤ 0; omega⟩) hS (fun q _ h => hFc q h) hFc (fun r_29 u t H1 locs ht hvm hw hB hz1 hk1 hS => ?_)
            obtain ⟨F_30, hB1⟩ := hB
            obtain rfl : F = F_30 := (funext (fun a => hB1.2.2.2 a List.not_mem_nil)).symm
            obtain ⟨hP, hD, hO, hR⟩ := QTm.back hB1 ht hFc hR (fun q h => absurd h List.not_mem_nil)
            generalize H1 = H at hP hS ⊢
            have hw : r_29 = (if 48 ≤ (gt j) ∧ (gt j) ≤ 57 then 1 else 0) := hw
            have hw_31 := hw
            refine lv_if_ne (tgt := 81) hx hb dX14_isName__64 (by decide) (fun c_32 => ?_) (fun c_32 => ?_)
            ·
              refine W.widen (k := 0) (n := 0) (by omega) (by omega) ?_
              exact jn_19 () F ((decide_eq_true (Or.inr (Or.inl (ifb1 hw_31 c_32))))) hO hR _ _ hP hD hS ls (lv_sub hl [0, 1, 2, 3, 4, 5] rfl)
            ·
              refine lv_iload hx hb dX14_isName__67 (lv_at hl 0 rfl) ?_
              refine lv_bipush (v := 45) hx hb dX14_isName__69 (by decide) ?_
              refine lv_icmp_eq (tgt := 81) hx hb dX14_isName__71 (by decide) (fun c_33 => ?_) (fun c_33 => ?_)
              ·
                refine W.widen (k := 0) (n := 0) (by omega) (by omega) ?_
                exact jn_19 () F ((decide_eq_true (Or.inr (Or.inr (Or.inl c_33))))) hO hR _ _ hP hD hS ls (lv_sub hl [0, 1, 2, 3, 4, 5] rfl)
              ·
                refine lv_iload hx hb dX14_isName__74 (lv_at hl 0 rfl) ?_
                refine lv_bipush (v := 95) hx hb dX14_isName__76 (by decide) ?_
                refine lv_icmp_ne (tgt := 87) hx hb dX14_isName__78 (by decide) (fun c_34 => ?_) (fun c_34 => ?_)
                ·
                  refine lv_iconst (v := 0) hx hb dX14_isName__87 (by decide) ?_
                  refine W.widen (k := 0) (n := 0) (by omega) (by omega) ?_
                  exact W.zret (v := 0) (ty := .boolean) hx hb hr (by decide) (fun t ht hWm => ⟨⟨0, (), rfl, (nm_z hl1 hl2 (nm_bad hv4 hjt c_18 (Or.inr (decide_eq_false (fun q => q.elim (ifb0 hw_27 c_28) (fun q => q.elim (ifb0 hw_31 c_32) (fun q => q.elim (c_33) (c_34)))))))), ⟨F, QTm.mk ht hP hD hO hR⟩⟩, hS.F ht⟩) hS.2.2 dX14_isName__88
                ·
                  refine W.widen (k := 0) (n := 0) (by omega) (by omega) ?_
                  exact jn_19 () F ((decide_eq_true (Or.inr (Or.inr (Or.inr c_34))))) hO hR _ _ hP hD hS ls (lv_sub hl [0, 1, 2, 3, 4, 5] rfl)
      ·
        refine lv_iload_n hx hb dX14_isName__40 rfl (lv_at hl 2 rfl) ?_
        refine lv_if_ne (tgt := 46) hx hb dX14_isName__41 (by decide) (fun c_35 => ?_) (fun c_35 => ?_)
        ·
          have hi_36 : p1 ≠ 0 := fun q => c_35 (by rw [q]; rfl)
          have hp0 : p1 ≠ 0 := by omega
          refine lv_iconst (v := 0) hx hb dX14_isName__46 (by decide) ?_
          refine lv_istore_n (lv' := [(3, .int 0), (5, .int (gt j)), (4, .int (nI j)), (0, .ref g1), (1, .int (nI a)), (2, .int (nI tt))]) hx hb dX14_isName__47 rfl hl (by decide) rfl (fun ls hl => ?_)
          refine lv_goto (tgt := 92) hx hb dX14_isName__48 (by decide) ?_
          refine lv_iinc (v := (nI (j + 1))) (lv' := [(4, .int (nI (j + 1))), (3, .int 0), (5, .int (gt j)), (0, .ref g1), (1, .int (nI a)), (2, .int (nI tt))]) hx hb dX14_isName__92 hl (k := 2) rfl (nI_1 _) (by decide) rfl (fun ls hl => ?_)
          refine lv_goto (tgt := 21) hx hb dX14_isName__95 (by decide) ?_
          refine W.widen (k := 0) (n := 0) (by omega) (by omega) ?_
          exact ih_10 ((j + 1), 0) F (⟨by omega, by omega, by omega, nm_dot hv4 hjt c_18 hp0⟩) (by show tt - (j + 1) < tt - j; omega) hO hR _ _ hP hD hS ls (lv_sub hl [0, 1, 3, 4, 5] rfl)
        ·
          have hi_37 : p1 = 0 := (nI_eq (a := p1) (b := 0) (by omega) (by omega)).mp c_35
          have hp0 : p1 = 0 := by omega
          refine lv_iconst (v := 0) hx hb dX14_isName__44 (by decide) ?_
          refine W.widen (k := 0) (n := 0) (by omega) (by omega) ?_
          exact W.zret (v := 0) (ty := .boolean) hx hb hr (by decide) (fun t ht hWm => ⟨⟨0, (), rfl, (nm_z hl1 hl2 (nm_dot0 hv4 hjt c_18 hp0)), ⟨F, QTm.mk ht hP hD hO hR⟩⟩, hS.F ht⟩) hS.2.2 dX14_isName__45
  ·
    have hin := in_nat0 (lo := 1) (hi := 60) hw_6 c_7 (by decide) (by decide) (by omega)
    refine lv_iconst (v := 0) hx hb dX14_isName__14 (by decide) ?_
    refine W.widen (k := 0) (n := 0) (by omega) (by omega) ?_
    exact W.zret (v := 0) (ty := .boolean) hx hb hr (by decide) (fun t ht hWm => ⟨⟨0, (), rfl, (nm_len (fun q => hin ⟨by omega, by omega⟩)), ⟨F, QTm.mk ht hP hD hO hR⟩⟩, hS.F ht⟩) hS.2.2 dX14_isName__15
theorem in_04 {x : Int32} {r : Int32} (hr : r = (if (0 : Int64) ≤ x.toInt64 ∧ x.toInt64 ≤ 4 then 1 else 0)) : (r = 0 ∧ (x < 0 ∨ 4 < x)) ∨ (r = 1 ∧ ¬ x < 0 ∧ ¬ 4 < x) := by
  have e0 : (0 : Int64) ≤ x.toInt64 ↔ (0 : Int32) ≤ x := l64 0 x
  have e4 : x.toInt64 ≤ 4 ↔ x ≤ 4 := by
    have h9 : (4 : Int64).toInt = 4 := by decide
    have h8 : (4 : Int32).toInt = 4 := by decide
    rw [Int64.le_iff_toInt_le, Int32.le_iff_toInt_le, Int32.toInt_toInt64, h9, h8]
  by_cases q : (0 : Int64) ≤ x.toInt64 ∧ x.toInt64 ≤ 4
  · rw [if_pos q] at hr
    exact Or.inr ⟨hr, Int32.not_lt.mpr (e0.mp q.1), Int32.not_lt.mpr (e4.mp q.2)⟩
  · rw [if_neg q] at hr
    refine Or.inl ⟨hr, ?_⟩
    by_cases w : x < 0
    · exact Or.inl w
    · refine Or.inr (Int32.not_le.mp (fun y => q ⟨e0.mpr (Int32.not_lt.mp w), e4.mpr y⟩))
theorem rtf_rtf2 {ty : TyM} {h : Nat} {e e2 : TyE} : rtf (rtf ty h e) h e2 = rtf ty h e2 := by
  funext a
  by_cases c : a = h
  · subst c
    rw [rtf_self, rtf_self]
  · rw [rtf_ne c, rtf_ne c, rtf_ne c]
