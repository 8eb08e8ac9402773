def gA (e : va_E) (j : Nat) : Int32 := match e with
  | .inl (_, _, .inl f) => f j
  | _ => 0
def gF (e : va_E) (k : Nat) : Int32 := match e with
  | .inr (_, fs) => (match fs[k]? with | some (.int v) => v | _ => 0)
  | _ => 0
def gR (e : va_E) (k : Nat) : Nat := match e with
  | .inr (_, fs) => (match fs[k]? with | some (.ref v) => v | _ => 0)
  | _ => 0
def atv (F : Nat → va_E) (h : Nat) (x : Int32) : Int32 := if x < 0 ∨ gF (F h) 1 ≤ x then (-1) else gA (F (gR (F h) 0)) x.toNatClampNeg
theorem at_neg {F : Nat → va_E} {h : Nat} {x : Int32} (c : x < 0) : atv F h x = (-1) := by
  unfold atv
  rw [if_pos (Or.inl c)]
theorem at_big {F : Nat → va_E} {h r z : Nat} {o x : Int32} (hF : F h = .inr (0, [.ref r, .int (nI z), .int o])) (c : ¬ x < nI z) : atv F h x = (-1) := by
  unfold atv
  rw [hF]
  exact if_pos (Or.inr (Int32.not_lt.mp c))
theorem at_in {F : Nat → va_E} {h r z n : Nat} {o x : Int32} {c0 : ClassId} {f : Nat → Int32} (hF : F h = .inr (0, [.ref r, .int (nI z), .int o])) (hr : F r = .inl (c0, n, .inl f)) (c1 : ¬ x < 0) (c2 : x < nI z) : atv F h x = f x.toNatClampNeg := by
  unfold atv
  rw [hF]
  refine (if_neg (fun q => q.elim c1 (fun q => Int32.not_lt.mpr q c2))).trans ?_
  show gA (F r) _ = _
  rw [hr]
  rfl
def smv (x : Int32) : Int32 := if x < 65 ∨ 90 < x then x else x + 32
def chv (x : Int32) : Int32 := ((x &&& 255).toUInt32 % 65536).toInt32
def nmd (F : Nat → va_E) (x y0 y1 : Nat) (C : Nat → Int32) (n k : Nat) : Prop := gA (F y1) k - gA (F y0) k = nI n ∧ ∀ i, i < n → smv (atv F x (gA (F y0) k + nI i)) = chv (C i)
theorem gA_of {F : Nat → va_E} {y n j k : Nat} {c : ClassId} {f : Nat → Int32} (hF : F y = .inl (c, n, .inl f)) (ek : f (nI j).toNatClampNeg = nI k) (hj : j < 2 ^ 31) : gA (F y) j = nI k := by
  rw [hF]
  show f j = nI k
  rw [nI_clamp hj] at ek
  exact ek
theorem all_step {P : Nat → Prop} {j : Nat} (h : ∀ i, i < j → P i) (hj : P j) : ∀ i, i < j + 1 → P i := by
  intro i hi
  rcases Nat.lt_or_ge i j with q | q
  · exact h i q
  · have : i = j := by omega
    subst this
    exact hj
theorem nm1 {r : Int32} {P : Prop} (h : (r = 1 ∧ P) ∨ (r = 0 ∧ ¬ P)) (c : ¬ r = 0) : P := by
  rcases h with h | h
  · exact h.2
  · exact absurd h.1 c
theorem nm0 {r : Int32} {P : Prop} (h : (r = 1 ∧ P) ∨ (r = 0 ∧ ¬ P)) (c : r = 0) : ¬ P := by
  rcases h with h | h
  · rw [h.1] at c
    exact absurd c (by decide)
  · exact h.2
theorem bit2 {r : Int32} {P : Prop} (h : (r = 1 ∧ P) ∨ (r = 0 ∧ ¬ P)) : r = 0 ∨ r = 1 := h.elim (fun q => Or.inr q.1) (fun q => Or.inl q.1)
theorem cnt_ret {w : Nat} {P : Prop} (h : 0 < w → P) : nI w = 0 ∨ P := by
  rcases Nat.eq_zero_or_pos w with q | q
  · subst q
    exact Or.inl rfl
  · exact Or.inr (h q)
def PTC (D : va_G) (cs : Nat → ClassId) (ty : TyM) (L : List Nat) (F : Nat → va_E) (sz q v n : Nat) (C : Nat → Int32) (U : State) : Prop := PT D cs ty L F sz U ∧ GV (va_A (va_pl L F) sz) U U.heap ∧ SXc q v n C (va_A (va_pl L F) sz) U U.heap
theorem PTC.calling {D : va_G} {cs : Nat → ClassId} {ty : TyM} {L : List Nat} {F : Nat → va_E} {sz q v n : Nat} {C : Nat → Int32} {U : State} {g : JFrame} {mk : MethodId} {a : Array Value} (h : PTC D cs ty L F sz q v n C U) : PTC D cs ty L F sz q v n C (U.calling g mk a) :=
  ⟨h.1.calling, GV.same (u := U) (U := U.calling g mk a) rfl h.2.1, SXc.moved (u := U) (U := U.calling g mk a) (Vm.Alike.refl U.vm) h.2.2⟩
theorem PTC.mk {D : va_G} {cs : Nat → ClassId} {ty : TyM} {L : List Nat} {F : Nat → va_E} {q v n : Nat} {C : Nat → Int32} {s U : State} {H : Heap} {A : Nat → Prop} {locs : List Loc} (hU : U.heap = H) (hW : s.WarmedH U.vm) (hP : va_P D vwCl (va_pl L F) H) (hK : va_K D vwCl (TYS cs) s) (hD : va_D A (va_pl L F)) (hE : ENV s) (hO : OK cs ty L F) (hG : GV A s s.heap) (hX : SXc q v n C A s s.heap) (hS : va_S A s.heap H locs) (hF : ∀ q, va_A (va_pl L F) H.size q → A q) : PTC D cs ty L F H.size q v n C U :=
  ⟨PT.mk hU hW hP hK hD hE hO, hG.pass hS hF hU hW, hX.pass hS hF hU hW.alike⟩
theorem ch_n (x : Int32) : narrow .char (.int (chv x)) = .int (chv x) := pk_nc _
set_option maxHeartbeats 4000000 in
set_option maxRecDepth 100000 in
theorem s_X0_at_x (l : Launch) (dC : Nat → ClassId) (dI : Nat → Nat → Nat) (cs : Nat → ClassId) (ty : TyM) (L : List Nat) (sz : Nat) (F : Nat → va_E) (h0 : Nat) (ρ : Nat) (r0 : Nat) (n : Nat) (x1 : Int32) (hW : WT ty L) (hL_h0 : h0 ∈ L) (hT_h0 : ty h0 = (0, ρ, [r0, n])) : Met l yX0_at (.code yX0_at cX0_at 2 (some .int) :: tb) ({ frames := 0, cells := 0, slots := 0, locals := 0 }) (va_Pc [.ref h0, .int x1] (PT (dC, dI) cs ty L F sz)) (va_Qi (fun (r : Int32) (_ : Unit) => r = atv F h0 x1) (fun _ T9 => ∃ F2 : Nat → va_E, QT (dC, dI) cs ty L [] F F2 (va_A (va_pl L F) sz) T9) (va_A (va_pl L F) sz)) 0 0 (va_A (va_pl L F) sz) := by
  refine Met.ofW (cc := cX0_at) (maxL := 2) (ret := (some .int)) (by decide) rfl ?_
  intro p e s m args below meth c s₁ B hml hv
  obtain ⟨rfl, hsz, hP, hK, hD0, hE, hO⟩ := hv
  have hx := B.exec
  have hb := B.bytes
  have hr := B.returns
  have hts : ∀ w ∈ tb, w.before _ s = true := fun w h => atoms_spec (ws := .code yX0_at cX0_at 2 (some .int) :: tb) B.pre w (List.mem_cons_of_mem _ h)
  have hown : s.vm.findClass RX0 = some m.cls := findClass_of_methodNamed B.named
  have hlocks := B.notSynchronized
  subst hsz
  have hD := hD0.self (sz := s.heap.size)
  generalize hAe : va_A (va_pl L F) s.heap.size = A at hD ⊢
  have hA : ∀ q : Nat, s.heap.size ≤ q → A q := fun q h => by rw [← hAe]; exact Or.inr h
  have hS : va_S A s.heap s.heap [] := va_S.rf
  have hR : FR ty [] F F := FR.refl
  have hl := lv_entry ([.ref h0, .int x1]) (n := 2) (Nat.le_of_ble_eq_true rfl)
  rw [lg_entry_eq]
  generalize (lg_sl ([.ref h0, .int x1]) ++ List.replicate (2 - (lg_sl ([.ref h0, .int x1])).length) Slot.unset).toArray = ls at hl ⊢
  have hl : lv_has ls 2 [(0, .ref h0), (1, .int x1)] := hl
  refine lv_iload_n hx hb dX0_at_0 rfl (lv_at hl 1 rfl) ?_
  refine lv_if_lt (tgt := 12) hx hb dX0_at_1 (by decide) (fun c_1 => ?_) (fun c_1 => ?_)
  ·
    refine lv_iconst (v := (-1)) hx hb dX0_at_12 (by decide) ?_
    refine lv_goto (tgt := 22) hx hb dX0_at_13 (by decide) ?_
    refine W.widen (k := 0) (n := 0) (by omega) (by omega) ?_
    exact W.iret (v := (-1)) hx hb hr (fun t ht hWm => ⟨⟨(-1), (), rfl, (at_neg c_1).symm, ⟨F, QT.mk ht hP hD hO hR⟩⟩, hS.F ht⟩) hS.2.2 dX0_at_22
  ·
    refine lv_iload_n hx hb dX0_at_4 rfl (lv_at hl 1 rfl) ?_
    refine lv_aload_n hx hb dX0_at_5 rfl (lv_at hl 0 rfl) ?_
    obtain ⟨hi_2, ht_3, hq_4⟩ := hW.bytes hL_h0 hT_h0
    obtain ⟨z_5, o_6, hF_7, hq_8, hq_9⟩ := hO.bytes hL_h0 hT_h0
    refine pg_get (ci := 0) (v := .int (nI z_5)) (C := RX0) (T := TX0) (N := 3) hx hb hts it_0 hown hK hP hL_h0 hF_7 rfl 1 (by decide) (hts _ kt_10) (fun _ h9 => h9) rfl dX0_at_6 ?_
    refine lv_icmp_lt (tgt := 16) hx hb dX0_at_9 (by decide) (fun c_10 => ?_) (fun c_10 => ?_)
    ·
      obtain ⟨j, hj, rfl⟩ := nI_of c_1
      have hjz : j < z_5 := (nI_ltI hj (by omega)).mp c_10
      refine lv_aload_n hx hb dX0_at_16 rfl (lv_at hl 0 rfl) ?_
      refine pg_get (ci := 0) (v := .ref r0) (C := RX0) (T := TX0) (N := 3) hx hb hts it_0 hown hK hP hL_h0 hF_7 rfl 0 (by decide) (hts _ kt_12) (fun _ h9 => h9) rfl dX0_at_17 ?_
      refine lv_iload_n hx hb dX0_at_20 rfl (lv_at hl 1 rfl) ?_
      obtain ⟨f_11, hF_12⟩ := hO.ints hi_2 ht_3
      refine pg_iald hx hb hK hP hi_2 0 hF_12 rfl (vp_in_nI (by omega) (by omega)) dX0_at_21 ?_
      refine lv_topi (fun x_13 ex_13 => ?_)
      refine W.widen (k := 0) (n := 0) (by omega) (by omega) ?_
      exact W.iret (v := x_13) hx hb hr (fun t ht hWm => ⟨⟨x_13, (), rfl, (ex_13.trans (at_in hF_7 hF_12 c_1 c_10).symm), ⟨F, QT.mk ht hP hD hO hR⟩⟩, hS.F ht⟩) hS.2.2 dX0_at_22
    ·
      refine lv_iconst (v := (-1)) hx hb dX0_at_12 (by decide) ?_
      refine lv_goto (tgt := 22) hx hb dX0_at_13 (by decide) ?_
      refine W.widen (k := 0) (n := 0) (by omega) (by omega) ?_
      exact W.iret (v := (-1)) hx hb hr (fun t ht hWm => ⟨⟨(-1), (), rfl, (at_big hF_7 c_10).symm, ⟨F, QT.mk ht hP hD hO hR⟩⟩, hS.F ht⟩) hS.2.2 dX0_at_22
set_option maxHeartbeats 4000000 in
set_option maxRecDepth 100000 in
theorem s_X0_smallOf_x (l : Launch) (dC : Nat → ClassId) (dI : Nat → Nat → Nat) (cs : Nat → ClassId) (ty : TyM) (L : List Nat) (sz : Nat) (F : Nat → va_E) (x1 : Int32) (hW : WT ty L) : Met l yX0_smallOf (.code yX0_smallOf cX0_smallOf 1 (some .int) :: tb) ({ frames := 0, cells := 0, slots := 0, locals := 0 }) (va_Pc [.int x1] (PT (dC, dI) cs ty L F sz)) (va_Qi (fun (r : Int32) (_ : Unit) => r = smv x1) (fun _ T9 => ∃ F2 : Nat → va_E, QT (dC, dI) cs ty L [] F F2 (va_A (va_pl L F) sz) T9) (va_A (va_pl L F) sz)) 0 0 (va_A (va_pl L F) sz) := by
  refine Met.ofW (cc := cX0_smallOf) (maxL := 1) (ret := (some .int)) (by decide) rfl ?_
  intro p e s m args below meth c s₁ B hml hv
  obtain ⟨rfl, hsz, hP, hK, hD0, hE, hO⟩ := hv
  have hx := B.exec
  have hb := B.bytes
  have hr := B.returns
  have hts : ∀ w ∈ tb, w.before _ s = true := fun w h => atoms_spec (ws := .code yX0_smallOf cX0_smallOf 1 (some .int) :: tb) B.pre w (List.mem_cons_of_mem _ h)
  have hown : s.vm.findClass RX0 = some m.cls := findClass_of_methodNamed B.named
  have hlocks := B.notSynchronized
  subst hsz
  have hD := hD0.self (sz := s.heap.size)
  generalize hAe : va_A (va_pl L F) s.heap.size = A at hD ⊢
  have hA : ∀ q : Nat, s.heap.size ≤ q → A q := fun q h => by rw [← hAe]; exact Or.inr h
  have hS : va_S A s.heap s.heap [] := va_S.rf
  have hR : FR ty [] F F := FR.refl
  have hl := lv_entry ([.int x1]) (n := 1) (Nat.le_of_ble_eq_true rfl)
  rw [lg_entry_eq]
  generalize (lg_sl ([.int x1]) ++ List.replicate (1 - (lg_sl ([.int x1])).length) Slot.unset).toArray = ls at hl ⊢
  have hl : lv_has ls 1 [(0, .int x1)] := hl
  refine lv_iload_n hx hb dX0_smallOf_0 rfl (lv_at hl 0 rfl) ?_
  refine lv_bipush (v := 65) hx hb dX0_smallOf_1 (by decide) ?_
  refine lv_icmp_lt (tgt := 19) hx hb dX0_smallOf_3 (by decide) (fun c_1 => ?_) (fun c_1 => ?_)
  ·
    refine lv_iload_n hx hb dX0_smallOf_19 rfl (lv_at hl 0 rfl) ?_
    refine W.widen (k := 0) (n := 0) (by omega) (by omega) ?_
    exact W.iret (v := x1) hx hb hr (fun t ht hWm => ⟨⟨x1, (), rfl, (by unfold smv; rw [if_pos (Or.inl c_1)]), ⟨F, QT.mk ht hP hD hO hR⟩⟩, hS.F ht⟩) hS.2.2 dX0_smallOf_20
  ·
    refine lv_iload_n hx hb dX0_smallOf_6 rfl (lv_at hl 0 rfl) ?_
    refine lv_bipush (v := 90) hx hb dX0_smallOf_7 (by decide) ?_
    refine lv_icmp_gt (tgt := 19) hx hb dX0_smallOf_9 (by decide) (fun c_2 => ?_) (fun c_2 => ?_)
    ·
      refine lv_iload_n hx hb dX0_smallOf_19 rfl (lv_at hl 0 rfl) ?_
      refine W.widen (k := 0) (n := 0) (by omega) (by omega) ?_
      exact W.iret (v := x1) hx hb hr (fun t ht hWm => ⟨⟨x1, (), rfl, (by unfold smv; rw [if_pos (Or.inr c_2)]), ⟨F, QT.mk ht hP hD hO hR⟩⟩, hS.F ht⟩) hS.2.2 dX0_smallOf_20
    ·
      refine lv_iload_n hx hb dX0_smallOf_12 rfl (lv_at hl 0 rfl) ?_
      refine lv_bipush (v := 32) hx hb dX0_smallOf_13 (by decide) ?_
      refine lv_iadd hx hb dX0_smallOf_15 ?_
      refine lv_topi (fun x_3 ex_3 => ?_)
      obtain rfl : x_3 = (x1 + 32) := ex_3.trans (rfl)
      refine lv_goto (tgt := 20) hx hb dX0_smallOf_16 (by decide) ?_
      refine W.widen (k := 0) (n := 0) (by omega) (by omega) ?_
      exact W.iret (v := (x1 + 32)) hx hb hr (fun t ht hWm => ⟨⟨(x1 + 32), (), rfl, (by unfold smv; rw [if_neg (fun q => q.elim c_1 c_2)]), ⟨F, QT.mk ht hP hD hO hR⟩⟩, hS.F ht⟩) hS.2.2 dX0_smallOf_20
set_option maxHeartbeats 4000000 in
set_option maxRecDepth 100000 in
theorem s_J1_charAt_x (l : Launch) (dC : Nat → ClassId) (dI : Nat → Nat → Nat) (cs : Nat → ClassId) (ty : TyM) (L : List Nat) (sz : Nat) (F : Nat → va_E) (q : Nat) (v : Nat) (n : Nat) (C : Nat → Int32) (j : Nat) (hW : WT ty L) (hj : j < n) : Met l yJ1_charAt_3b067 (.code yJ1_charAt_3b067 cJ1_charAt_3b067 2 (some .char) :: tb) ({ frames := 2, cells := 0, slots := 0, locals := 43 }) (va_Pc [.ref v, .int (nI j)] (PTC (dC, dI) cs ty L F sz q v n C)) (va_Qi (fun (r : Int32) (_ : Unit) => r = chv (C j)) (fun _ T9 => ∃ F2 : Nat → va_E, QT (dC, dI) cs ty L [] F F2 (va_A (va_pl L F) sz) T9) (va_A (va_pl L F) sz)) 0 0 (va_A (va_pl L F) sz) := by
  refine Met.ofW (cc := cJ1_charAt_3b067) (maxL := 2) (ret := (some .char)) (by decide) rfl ?_
  intro p e s m args below meth c s₁ B hml hv
  obtain ⟨rfl, ⟨hsz, hP, hK, hD0, hE, hO⟩, hG, hX⟩ := hv
  have hx := B.exec
  have hb := B.bytes
  have hr := B.returns
  have hts : ∀ w ∈ tb, w.before _ s = true := fun w h => atoms_spec (ws := .code yJ1_charAt_3b067 cJ1_charAt_3b067 2 (some .char) :: tb) B.pre w (List.mem_cons_of_mem _ h)
  have hown : s.vm.findClass RJ1 = some m.cls := findClass_of_methodNamed B.named
  have hlocks := B.notSynchronized
  subst hsz
  have hD := hD0.self (sz := s.heap.size)
  generalize hAe : va_A (va_pl L F) s.heap.size = A at hD hG hX ⊢
  have hX_q : SX q v n A s s.heap := hX.sx
  obtain ⟨xo_q, xc_q, xv_q, xt_q, xn_q⟩ := id hX
  have hA : ∀ q : Nat, s.heap.size ≤ q → A q := fun q h => by rw [← hAe]; exact Or.inr h
  have hS : va_S A s.heap s.heap [] := va_S.rf
  have hR : FR ty [] F F := FR.refl
  have hl := lv_entry ([.ref v, .int (nI j)]) (n := 2) (Nat.le_of_ble_eq_true rfl)
  rw [lg_entry_eq]
  generalize (lg_sl ([.ref v, .int (nI j)]) ++ List.replicate (2 - (lg_sl ([.ref v, .int (nI j)])).length) Slot.unset).toArray = ls at hl ⊢
  have hl : lv_has ls 2 [(0, .ref v), (1, .int (nI j))] := hl
  refine lv_iload_n hx hb dJ1_charAt_3b067_0 rfl (lv_at hl 1 rfl) ?_
  refine lv_aload_n hx hb dJ1_charAt_3b067_1 rfl (lv_at hl 0 rfl) ?_
  refine va_tlen (v := (nI n)) hx hb xt_q hS rfl dJ1_charAt_3b067_2 ?_
  have hFc := pg_free hD hS hA
  refine va_callv (va_runS (As := [.int (nI j), .int (nI n)]) (rest := []) ⟨hx, hb, hml, hown, hts⟩ (s_J0_checkIndex_df160 l dC dI cs ty L s.heap.size F j n hW (by omega) (by omega)) ⟨callB_of 2 hts (gi kt_60) rfl rfl rfl (hts _ kt_51) (hts _ kt_61) (by decide +kernel) ⟨Nat.le_of_ble_eq_true rfl, Nat.le_of_ble_eq_true rfl⟩, (hts _ kt_62)⟩ ⟨fun a U g mk q => ⟨q.1, PTE.calling q.2⟩, fun U hU hWm => ⟨rfl, PTE.mk hU hWm hP hK hD hE hO hG (fun x hx => absurd hx List.not_mem_nil) hS hFc⟩⟩ rfl rfl hl.1 rfl (lv_room (Nat.le_of_ble_eq_true rfl)) dJ1_charAt_3b067_3 ⟨by show _ + 0 ≤ 0; omega, by show _ + 0 ≤ 0; omega⟩) hS (fun q _ h => hFc q h) hFc (fun u t H1 locs ht hvm hw hB hz1 hk1 hS => ?_)
  obtain ⟨F_2, hB1⟩ := hB
  obtain rfl : F = F_2 := (funext (fun a => hB1.2.2.2 a List.not_mem_nil)).symm
  obtain ⟨hP, hD, hO, hR⟩ := QT.back hB1 ht hFc hR (fun q h => absurd h List.not_mem_nil)
  generalize H1 = H at hP hS ⊢
  refine lv_aload_n hx hb dJ1_charAt_3b067_6 rfl (lv_at hl 0 rfl) ?_
  refine lv_iload_n hx hb dJ1_charAt_3b067_7 rfl (lv_at hl 1 rfl) ?_
  refine va_tb hx hb xt_q hS (vp_in_nI (by omega) (by omega)) rfl dJ1_charAt_3b067_8 ?_
  refine lv_topi (fun x_3 ex_3 => ?_)
  obtain rfl : x_3 = (C j) := ex_3.trans (congrArg C (nI_clamp (by omega)))
  refine lv_sipush (v := 255) hx hb dJ1_charAt_3b067_9 (by decide) ?_
  refine lv_iand hx hb dJ1_charAt_3b067_12 ?_
  refine lv_topi (fun x_4 ex_4 => ?_)
  obtain rfl : x_4 = (C j &&& 255) := ex_4.trans (rfl)
  refine lv_i2c hx hb dJ1_charAt_3b067_13 rfl ?_
  refine lv_topi (fun x_5 ex_5 => ?_)
  obtain rfl : x_5 = (chv (C j)) := ex_5.trans (rfl)
  refine W.widen (k := 0) (n := 0) (by omega) (by omega) ?_
  exact W.zret (v := (chv (C j))) (ty := .char) hx hb hr (ch_n _) (fun t ht hWm => ⟨⟨(chv (C j)), (), rfl, rfl, ⟨F, QT.mk ht hP hD hO hR⟩⟩, hS.F ht⟩) hS.2.2 dJ1_charAt_3b067_14
set_option maxHeartbeats 4000000 in
set_option maxRecDepth 100000 in
theorem s_J0_charAt_x (l : Launch) (dC : Nat → ClassId) (dI : Nat → Nat → Nat) (cs : Nat → ClassId) (ty : TyM) (L : List Nat) (sz : Nat) (F : Nat → va_E) (q : Nat) (v : Nat) (n : Nat) (C : Nat → Int32) (j : Nat) (hW : WT ty L) (hj : j < n) : Met l yJ0_charAt_5068e (.code yJ0_charAt_5068e cJ0_charAt_5068e 2 (some .char) :: tb) ({ frames := 3, cells := 0, slots := 0, locals := 64 }) (va_Pc [.ref q, .int (nI j)] (PTC (dC, dI) cs ty L F sz q v n C)) (va_Qi (fun (r : Int32) (_ : Unit) => r = chv (C j)) (fun _ T9 => ∃ F2 : Nat → va_E, QT (dC, dI) cs ty L [] F F2 (va_A (va_pl L F) sz) T9) (va_A (va_pl L F) sz)) 0 0 (va_A (va_pl L F) sz) := by
  refine Met.ofW (cc := cJ0_charAt_5068e) (maxL := 2) (ret := (some .char)) (by decide) rfl ?_
  intro p e s m args below meth c s₁ B hml hv
  obtain ⟨rfl, ⟨hsz, hP, hK, hD0, hE, hO⟩, hG, hX⟩ := hv
  have hx := B.exec
  have hb := B.bytes
  have hr := B.returns
  have hts : ∀ w ∈ tb, w.before _ s = true := fun w h => atoms_spec (ws := .code yJ0_charAt_5068e cJ0_charAt_5068e 2 (some .char) :: tb) B.pre w (List.mem_cons_of_mem _ h)
  have hown : s.vm.findClass RJ0 = some m.cls := findClass_of_methodNamed B.named
  have hlocks := B.notSynchronized
  subst hsz
  have hD := hD0.self (sz := s.heap.size)
  generalize hAe : va_A (va_pl L F) s.heap.size = A at hD hG hX ⊢
  have hX_q : SX q v n A s s.heap := hX.sx
  obtain ⟨xo_q, xc_q, xv_q, xt_q, xn_q⟩ := id hX
  have hA : ∀ q : Nat, s.heap.size ≤ q → A q := fun q h => by rw [← hAe]; exact Or.inr h
  have hS : va_S A s.heap s.heap [] := va_S.rf
  have hR : FR ty [] F F := FR.refl
  have hl := lv_entry ([.ref q, .int (nI j)]) (n := 2) (Nat.le_of_ble_eq_true rfl)
  rw [lg_entry_eq]
  generalize (lg_sl ([.ref q, .int (nI j)]) ++ List.replicate (2 - (lg_sl ([.ref q, .int (nI j)])).length) Slot.unset).toArray = ls at hl ⊢
  have hl : lv_has ls 2 [(0, .ref q), (1, .int (nI j))] := hl
  refine lv_aload_n hx hb dJ0_charAt_5068e_0 rfl (lv_at hl 0 rfl) ?_
  have hFc := pg_free hD hS hA
  refine va_calli (va_runV (As := []) (rest := []) ⟨hx, hb, hml, hown, hts⟩ (s_J0_isLatin1_aae02 l dC dI cs ty L s.heap.size F q v n hW ) ⟨callB_of 0 hts (gi kt_63) rfl rfl rfl (hts _ kt_51) (hts _ kt_64) (by decide +kernel) ⟨Nat.le_of_ble_eq_true rfl, Nat.le_of_ble_eq_true rfl⟩, (hts _ kt_65), (hts _ kt_66)⟩ ⟨fun a U g mk q => ⟨q.1, PTE.calling q.2⟩, sx_recv hX_q hS, fun U hU hWm => ⟨rfl, PTE.mk hU hWm hP hK hD hE hO hG (fun x hx => by rw [List.mem_singleton] at hx; subst hx; exact hX_q) hS hFc⟩⟩ rfl rfl hl.1 rfl (lv_room (Nat.le_of_ble_eq_true rfl)) dJ0_charAt_5068e_1 ⟨by show _ + 0 ≤ 0; omega, by show _ + 0 ≤ 0; omega⟩) hS (fun q _ h => hFc q h) hFc (fun r_1 u t H1 locs ht hvm hw hB hz1 hk1 hS => ?_)
  obtain ⟨F_2, hB1⟩ := hB
  obtain rfl : F = F_2 := (funext (fun a => hB1.2.2.2 a List.not_mem_nil)).symm
  obtain ⟨hP, hD, hO, hR⟩ := QT.back hB1 ht hFc hR (fun q h => absurd h List.not_mem_nil)
  generalize H1 = H at hP hS ⊢
  have hw : r_1 = 1 := hw
  subst hw
  refine lv_if_eq (tgt := 16) hx hb dJ0_charAt_5068e_4 (by decide) (fun c_3 => absurd c_3 (by decide)) (fun c_3 => ?_)
  refine lv_aload_n hx hb dJ0_charAt_5068e_7 rfl (lv_at hl 0 rfl) ?_
  refine vk_getf hx hb xv_q hS hown (hts _ kt_49) (fun _ h9 => h9) dJ0_charAt_5068e_8 ?_
  refine lv_iload_n hx hb dJ0_charAt_5068e_11 rfl (lv_at hl 1 rfl) ?_
  have hFc := pg_free hD hS hA
  refine va_calli (va_runS (As := [.ref v, .int (nI j)]) (rest := []) ⟨hx, hb, hml, hown, hts⟩ (s_J1_charAt_x l dC dI cs ty L H.size F q v n C j hW (by omega)) ⟨callB_of 2 hts (gi kt_67) rfl rfl rfl (hts _ kt_68) (hts _ kt_69) (by decide +kernel) ⟨Nat.le_of_ble_eq_true rfl, Nat.le_of_ble_eq_true rfl⟩, (hts _ kt_70)⟩ ⟨fun a U g mk q => ⟨q.1, PTC.calling q.2⟩, fun U hU hWm => ⟨rfl, PTC.mk hU hWm hP hK hD hE hO hG hX hS hFc⟩⟩ rfl rfl hl.1 rfl (lv_room (Nat.le_of_ble_eq_true rfl)) dJ0_charAt_5068e_12 ⟨by show _ + 0 ≤ 0; omega, by show _ + 0 ≤ 0; omega⟩) hS (fun q _ h => hFc q h) hFc (fun r_4 u t H1 locs ht hvm hw hB hz1 hk1 hS => ?_)
  obtain ⟨F_5, hB1⟩ := hB
  obtain rfl : F = F_5 := (funext (fun a => hB1.2.2.2 a List.not_mem_nil)).symm
  obtain ⟨hP, hD, hO, hR⟩ := QT.back hB1 ht hFc hR (fun q h => absurd h List.not_mem_nil)
  generalize H1 = H at hP hS ⊢
  have hw : r_4 = chv (C j) := hw
  have hw_6 := hw
  refine W.widen (k := 0) (n := 0) (by omega) (by omega) ?_
  exact W.zret (v := r_4) (ty := .char) hx hb hr (by rw [hw_6]; exact ch_n _) (fun t ht hWm => ⟨⟨r_4, (), rfl, hw_6, ⟨F, QT.mk ht hP hD hO hR⟩⟩, hS.F ht⟩) hS.2.2 dJ0_charAt_5068e_15
set_option maxHeartbeats 4000000 in
set_option maxRecDepth 100000 in
theorem s_X4_isNamed_x (l : Launch) (dC : Nat → ClassId) (dI : Nat → Nat → Nat) (cs : Nat → ClassId) (ty : TyM) (L : List Nat) (sz : Nat) (F : Nat → va_E) (h0 : Nat) (ρ : Nat) (tx : Nat) (y0 : Nat) (y1 : Nat) (y2 : Nat) (q : Nat) (v : Nat) (k0 : Nat) (C : Nat → Int32) (z : Nat) (jk : Nat) (v0 : Int32) (hW : WT ty L) (hL_h0 : h0 ∈ L) (hT_h0 : ty h0 = (4, ρ, [tx, y0, y1, y2])) (hF0 : F h0 = .inr (4, [.ref tx, .ref y0, .ref y1, .ref y2, .int (nI z), .int v0])) (hjk : jk < z) (hz20 : z ≤ 20) : Met l yX4_isNamed (.code yX4_isNamed cX4_isNamed 4 (some .boolean) :: tb) ({ frames := 4, cells := 0, slots := 0, locals := 85 }) (va_Pc [.ref h0, .int (nI jk), .ref q] (PTC (dC, dI) cs ty L F sz q v k0 C)) (va_Qi (fun (r : Int32) (_ : Unit) => ((r = 1 ∧ nmd F tx y0 y1 C k0 jk) ∨ (r = 0 ∧ ¬ nmd F tx y0 y1 C k0 jk))) (fun _ T9 => ∃ F2 : Nat → va_E, QT (dC, dI) cs ty L [] F F2 (va_A (va_pl L F) sz) T9) (va_A (va_pl L F) sz)) 0 0 (va_A (va_pl L F) sz) := by
  refine Met.ofW (cc := cX4_isNamed) (maxL := 4) (ret := (some .boolean)) (by decide) rfl ?_
  intro p e s m args below meth c s₁ B hml hv
  obtain ⟨rfl, ⟨hsz, hP, hK, hD0, hE, hO⟩, hG, hX⟩ := hv
  have hx := B.exec
  have hb := B.bytes
  have hr := B.returns
  have hts : ∀ w ∈ tb, w.before _ s = true := fun w h => atoms_spec (ws := .code yX4_isNamed cX4_isNamed 4 (some .boolean) :: tb) B.pre w (List.mem_cons_of_mem _ h)
  have hown : s.vm.findClass RX4 = some m.cls := findClass_of_methodNamed B.named
  have hlocks := B.notSynchronized
  subst hsz
  have hD := hD0.self (sz := s.heap.size)
  generalize hAe : va_A (va_pl L F) s.heap.size = A at hD hG hX ⊢
  have hX_q : SX q v k0 A s s.heap := hX.sx
  obtain ⟨xo_q, xc_q, xv_q, xt_q, xn_q⟩ := id hX
  have hA : ∀ q : Nat, s.heap.size ≤ q → A q := fun q h => by rw [← hAe]; exact Or.inr h
  have hS : va_S A s.heap s.heap [] := va_S.rf
  have hR : FR ty [] F F := FR.refl
  have hl := lv_entry ([.ref h0, .int (nI jk), .ref q]) (n := 4) (Nat.le_of_ble_eq_true rfl)
  rw [lg_entry_eq]
  generalize (lg_sl ([.ref h0, .int (nI jk), .ref q]) ++ List.replicate (4 - (lg_sl ([.ref h0, .int (nI jk), .ref q])).length) Slot.unset).toArray = ls at hl ⊢
  have hl : lv_has ls 4 [(0, .ref h0), (1, .int (nI jk)), (2, .ref q)] := hl
  refine lv_iload_n hx hb dX4_isNamed_0 rfl (lv_at hl 1 rfl) ?_
  refine lv_if_lt (tgt := 32) hx hb dX4_isNamed_1 (by decide) (fun c_1 => absurd c_1 (nI_pos (by omega))) (fun c_1 => ?_)
  refine lv_iload_n hx hb dX4_isNamed_4 rfl (lv_at hl 1 rfl) ?_
  refine lv_aload_n hx hb dX4_isNamed_5 rfl (lv_at hl 0 rfl) ?_
  obtain ⟨hi_2, hi_3, hi_4, hi_5, ⟨r_6, ht_7⟩, ht_8, ht_9, ht_10⟩ := hW.msg hL_h0 hT_h0
  refine pg_get (ci := 4) (v := .int (nI z)) (C := RX4) (T := TX4) (N := 6) hx hb hts it_4 hown hK hP hL_h0 hF0 rfl 4 (by decide) (hts _ kt_203) (fun _ h9 => h9) rfl dX4_isNamed_6 ?_
  refine lv_icmp_ge (tgt := 32) hx hb dX4_isNamed_9 (by decide) (fun c_11 => absurd c_11 (show ¬ nI z ≤ nI jk from nI_ge hjk (by omega))) (fun c_11 => ?_)
  refine lv_aload_n hx hb dX4_isNamed_12 rfl (lv_at hl 0 rfl) ?_
  refine pg_get (ci := 4) (v := .ref y1) (C := RX4) (T := TX4) (N := 6) hx hb hts it_4 hown hK hP hL_h0 hF0 rfl 2 (by decide) (hts _ kt_204) (fun _ h9 => h9) rfl dX4_isNamed_13 ?_
  refine lv_iload_n hx hb dX4_isNamed_16 rfl (lv_at hl 1 rfl) ?_
  obtain ⟨f_12, hF_13, hq_14⟩ := hO.idx hi_4 ht_9
  refine pg_iald hx hb hK hP hi_4 0 hF_13 rfl (vp_in_nI (by omega) (by omega)) dX4_isNamed_17 ?_
  obtain ⟨k_15, hk_16, ek_17⟩ := hq_14 ((nI jk) : Int32).toNatClampNeg
  refine lv_topi (fun x_18 ex_18 => ?_)
  obtain rfl : x_18 = nI k_15 := ex_18.trans ek_17
  refine lv_aload_n hx hb dX4_isNamed_18 rfl (lv_at hl 0 rfl) ?_
  refine pg_get (ci := 4) (v := .ref y0) (C := RX4) (T := TX4) (N := 6) hx hb hts it_4 hown hK hP hL_h0 hF0 rfl 1 (by decide) (hts _ kt_205) (fun _ h9 => h9) rfl dX4_isNamed_19 ?_
  refine lv_iload_n hx hb dX4_isNamed_22 rfl (lv_at hl 1 rfl) ?_
  obtain ⟨f_19, hF_20, hq_21⟩ := hO.idx hi_3 ht_8
  refine pg_iald hx hb hK hP hi_3 0 hF_20 rfl (vp_in_nI (by omega) (by omega)) dX4_isNamed_23 ?_
  obtain ⟨k_22, hk_23, ek_24⟩ := hq_21 ((nI jk) : Int32).toNatClampNeg
  refine lv_topi (fun x_25 ex_25 => ?_)
  obtain rfl : x_25 = nI k_22 := ex_25.trans ek_24
  refine lv_isub hx hb dX4_isNamed_24 ?_
  have hg1 := gA_of hF_13 ek_17 (by omega)
  have hg0 := gA_of hF_20 ek_24 (by omega)
  refine lv_topi (fun x_26 ex_26 => ?_)
  obtain rfl : x_26 = (nI k_15 - nI k_22) := ex_26.trans (rfl)
  refine lv_aload_n hx hb dX4_isNamed_25 rfl (lv_at hl 2 rfl) ?_
  have hFc := pg_free hD hS hA
  refine va_calli (va_runV (As := []) (rest := [.int (nI k_15 - nI k_22)]) ⟨hx, hb, hml, hown, hts⟩ (s_J0_length_8abf5 l dC dI cs ty L s.heap.size F q v k0 hW ) ⟨callB_of 0 hts (gi kt_71) rfl rfl rfl (hts _ kt_51) (hts _ kt_206) (by decide +kernel) ⟨Nat.le_of_ble_eq_true rfl, Nat.le_of_ble_eq_true rfl⟩, (hts _ kt_73), (hts _ kt_74)⟩ ⟨fun a U g mk q => ⟨q.1, PTE.calling q.2⟩, sx_recv hX_q hS, fun U hU hWm => ⟨rfl, PTE.mk hU hWm hP hK hD hE hO hG (fun x hx => by rw [List.mem_singleton] at hx; subst hx; exact hX_q) hS hFc⟩⟩ rfl rfl hl.1 rfl (lv_room (Nat.le_of_ble_eq_true rfl)) dX4_isNamed_26 ⟨by show _ + 0 ≤ 0; omega, by show _ + 0 ≤ 0; omega⟩) hS (fun q _ h => hFc q h) hFc (fun r_27 u t H1 locs ht hvm hw hB hz1 hk1 hS => ?_)
  obtain ⟨F_28, hB1⟩ := hB
  obtain rfl : F = F_28 := (funext (fun a => hB1.2.2.2 a List.not_mem_nil)).symm
  obtain ⟨hP, hD, hO, hR⟩ := QT.back hB1 ht hFc hR (fun q h => absurd h List.not_mem_nil)
  generalize H1 = H at hP hS ⊢
  have hw : r_27 = nI k0 := hw
  have hw_29 := hw
  refine lv_icmp_eq (tgt := 34) hx hb dX4_isNamed_29 (by decide) (fun c_30 => ?_) (fun c_30 => ?_)
  ·
    have hc29 := c_30.trans hw_29
    refine lv_iconst (v := 0) hx hb dX4_isNamed_34 (by decide) ?_
    refine lv_istore_n (lv' := [(3, .int 0), (0, .ref h0), (1, .int (nI jk)), (2, .ref q)]) hx hb dX4_isNamed_35 rfl hl (by decide) rfl (fun ls hl => ?_)
    refine W.widen (k := 0) (n := 0) (by omega) (by omega) ?_
    refine pl_loop (σ := Nat) A (dC, dI) cs ty L [] F 36 4 (fun j => [(3, .int (nI j)), (0, .ref h0), (1, .int (nI jk)), (2, .ref q)]) (fun j => []) (fun j _ => j ≤ k0 ∧ ∀ i, i < j → smv (atv F tx (gA (F y0) jk + nI i)) = chv (C i)) (fun j => k0 - j) ?_ 0 F (⟨Nat.zero_le _, fun i hi => absurd hi (Nat.not_lt_zero _)⟩) hO hR _ _ hP hD hS ls (lv_sub hl [0, 1, 2, 3] rfl)
    rintro j F_31 hv_32 hO hR ih_33 H locs hP hD hS ls hl
    have hl : lv_has ls 4 [(3, .int (nI j)), (0, .ref h0), (1, .int (nI jk)), (2, .ref q)] := hl
    have hv_32 : j ≤ k0 ∧ ∀ i, i < j → smv (atv F tx (gA (F y0) jk + nI i)) = chv (C i) := hv_32
    refine W.eq (g2 := F0 m 36 ls []) rfl ?_
    obtain rfl : F = F_31 := (funext (fun a => hR a List.not_mem_nil)).symm
    obtain ⟨hv1, hv2⟩ := hv_32
    refine lv_iload_n hx hb dX4_isNamed_36 rfl (lv_at hl 0 rfl) ?_
    refine lv_aload_n hx hb dX4_isNamed_37 rfl (lv_at hl 3 rfl) ?_
    have hFc := pg_free hD hS hA
    refine va_calli (va_runV (As := []) (rest := [.int (nI j)]) ⟨hx, hb, hml, hown, hts⟩ (s_J0_length_8abf5 l dC dI cs ty L H.size F q v k0 hW ) ⟨callB_of 0 hts (gi kt_71) rfl rfl rfl (hts _ kt_51) (hts _ kt_206) (by decide +kernel) ⟨Nat.le_of_ble_eq_true rfl, Nat.le_of_ble_eq_true rfl⟩, (hts _ kt_73), (hts _ kt_74)⟩ ⟨fun a U g mk q => ⟨q.1, PTE.calling q.2⟩, sx_recv hX_q hS, fun U hU hWm => ⟨rfl, PTE.mk hU hWm hP hK hD hE hO hG (fun x hx => by rw [List.mem_singleton] at hx; subst hx; exact hX_q) hS hFc⟩⟩ rfl rfl hl.1 rfl (lv_room (Nat.le_of_ble_eq_true rfl)) dX4_isNamed_38 ⟨by show _ + 0 ≤ 0; omega, by show _ + 0 ≤ 0; omega⟩) hS (fun q _ h => hFc q h) hFc (fun r_34 u t H1 locs ht hvm hw hB hz1 hk1 hS => ?_)
    obtain ⟨F_35, hB1⟩ := hB
    obtain rfl : F = F_35 := (funext (fun a => hB1.2.2.2 a List.not_mem_nil)).symm
    obtain ⟨hP, hD, hO, hR⟩ := QT.back hB1 ht hFc hR (fun q h => absurd h List.not_mem_nil)
    generalize H1 = H at hP hS ⊢
    have hw : r_34 = nI k0 := hw
    have hw_36 := hw
    refine lv_icmp_ge (tgt := 78) hx hb dX4_isNamed_41 (by decide) (fun c_37 => ?_) (fun c_37 => ?_)
    ·
      have hjn : j = k0 := by
        have h9 : k0 ≤ j := (nI_leI (by omega) (by omega)).mp (by rw [← hw_36]; exact c_37)
        omega
      refine lv_iconst (v := 1) hx hb dX4_isNamed_78 (by decide) ?_
      refine W.widen (k := 0) (n := 0) (by omega) (by omega) ?_
      exact W.zret (v := 1) (ty := .boolean) hx hb hr (by decide) (fun t ht hWm => ⟨⟨1, (), rfl, (Or.inl ⟨rfl, by rw [hg1, hg0]; exact hc29, hjn ▸ hv2⟩), ⟨F, QT.mk ht hP hD hO hR⟩⟩, hS.F ht⟩) hS.2.2 dX4_isNamed_79
    ·
      have hjn : j < k0 := ltI (by omega) (by rw [← hw_36]; exact c_37)
      refine lv_aload_n hx hb dX4_isNamed_44 rfl (lv_at hl 1 rfl) ?_
      refine pg_get (ci := 4) (v := .ref tx) (C := RX4) (T := TX4) (N := 6) hx hb hts it_4 hown hK hP hL_h0 hF0 rfl 0 (by decide) (hts _ kt_207) (fun _ h9 => h9) rfl dX4_isNamed_45 ?_
      refine lv_aload_n hx hb dX4_isNamed_48 rfl (lv_at hl 1 rfl) ?_
      refine pg_get (ci := 4) (v := .ref y0) (C := RX4) (T := TX4) (N := 6) hx hb hts it_4 hown hK hP hL_h0 hF0 rfl 1 (by decide) (hts _ kt_205) (fun _ h9 => h9) rfl dX4_isNamed_49 ?_
      refine lv_iload_n hx hb dX4_isNamed_52 rfl (lv_at hl 2 rfl) ?_
      refine pg_iald hx hb hK hP hi_3 0 hF_20 rfl (vp_in_nI (by omega) (by omega)) dX4_isNamed_53 ?_
      obtain ⟨k_38, hk_39, ek_40⟩ := hq_21 ((nI jk) : Int32).toNatClampNeg
      refine lv_topi (fun x_41 ex_41 => ?_)
      obtain rfl : x_41 = nI k_38 := ex_41.trans ek_40
      refine lv_iload_n hx hb dX4_isNamed_54 rfl (lv_at hl 0 rfl) ?_
      refine lv_iadd hx hb dX4_isNamed_55 ?_
      have hg2 := gA_of hF_20 ek_40 (by omega)
      refine lv_topi (fun x_42 ex_42 => ?_)
      obtain rfl : x_42 = ((nI k_38) + (nI j)) := ex_42.trans (rfl)
      have hFc := pg_free hD hS hA
      obtain ⟨hi_43, ht_44, hq_45⟩ := hW.bytes hi_2 ht_7
      obtain ⟨z_46, o_47, hF_48, hq_49, hq_50⟩ := hO.bytes hi_2 ht_7
      refine va_calli (va_runV (As := [.int ((nI k_38) + (nI j))]) (rest := []) ⟨hx, hb, hml, hown, hts⟩ (s_X0_at_x l dC dI cs ty L H.size F tx (ρ + 1) r_6 3000 ((nI k_38) + (nI j)) hW hi_2 ht_7) ⟨callB_of 1 hts (gi kt_21) rfl rfl rfl (hts _ kt_1) (hts _ kt_199) (by decide +kernel) ⟨Nat.le_of_ble_eq_true rfl, Nat.le_of_ble_eq_true rfl⟩, (hts _ kt_23), (hts _ kt_24)⟩ ⟨fun a U g mk q => ⟨q.1, PT.calling q.2⟩, pg_recv hK hP hi_2 hF_48 (q := (RX0, TX0, 3)) rfl, fun U hU hWm => ⟨rfl, PT.mk hU hWm hP hK hD hE hO⟩⟩ rfl rfl hl.1 rfl (lv_room (Nat.le_of_ble_eq_true rfl)) dX4_isNamed_56 ⟨by show _ + 0 ≤ 0; omega, by show _ + 0 ≤ 0; omega⟩) hS (fun q _ h => hFc q h) hFc (fun r_51 u t H1 locs ht hvm hw hB hz1 hk1 hS => ?_)
      obtain ⟨F_52, hB1⟩ := hB
      obtain rfl : F = F_52 := (funext (fun a => hB1.2.2.2 a List.not_mem_nil)).symm
      obtain ⟨hP, hD, hO, hR⟩ := QT.back hB1 ht hFc hR (fun q h => absurd h List.not_mem_nil)
      generalize H1 = H at hP hS ⊢
      have hw : r_51 = atv F tx ((nI k_38) + (nI j)) := hw
      have hw_53 := hw
      have hFc := pg_free hD hS hA
      refine va_calli (va_runS (As := [.int r_51]) (rest := []) ⟨hx, hb, hml, hown, hts⟩ (s_X0_smallOf_x l dC dI cs ty L H.size F r_51 hW ) ⟨callB_of 1 hts (gi kt_0) rfl rfl rfl (hts _ kt_1) (hts _ kt_208) (by decide +kernel) ⟨Nat.le_of_ble_eq_true rfl, Nat.le_of_ble_eq_true rfl⟩, (hts _ kt_3)⟩ ⟨fun a U g mk q => ⟨q.1, PT.calling q.2⟩, fun U hU hWm => ⟨rfl, PT.mk hU hWm hP hK hD hE hO⟩⟩ rfl rfl hl.1 rfl (lv_room (Nat.le_of_ble_eq_true rfl)) dX4_isNamed_59 ⟨by show _ + 0 ≤ 0; omega, by show _ + 0 ≤ 0; omega⟩) hS (fun q _ h => hFc q h) hFc (fun r_54 u t H1 locs ht hvm hw hB hz1 hk1 hS => ?_)
      obtain ⟨F_55, hB1⟩ := hB
      obtain rfl : F = F_55 := (funext (fun a => hB1.2.2.2 a List.not_mem_nil)).symm
      obtain ⟨hP, hD, hO, hR⟩ := QT.back hB1 ht hFc hR (fun q h => absurd h List.not_mem_nil)
      generalize H1 = H at hP hS ⊢
      have hw : r_54 = smv r_51 := hw
      have hw_56 := hw
      refine lv_aload_n hx hb dX4_isNamed_62 rfl (lv_at hl 3 rfl) ?_
      refine lv_iload_n hx hb dX4_isNamed_63 rfl (lv_at hl 0 rfl) ?_
      have hFc := pg_free hD hS hA
      refine va_calli (va_runV (As := [.int (nI j)]) (rest := [.int r_54]) ⟨hx, hb, hml, hown, hts⟩ (s_J0_charAt_x l dC dI cs ty L H.size F q v k0 C j hW (by omega)) ⟨callB_of 1 hts (gi kt_75) rfl rfl rfl (hts _ kt_51) (hts _ kt_209) (by decide +kernel) ⟨Nat.le_of_ble_eq_true rfl, Nat.le_of_ble_eq_true rfl⟩, (hts _ kt_77), (hts _ kt_78)⟩ ⟨fun a U g mk q => ⟨q.1, PTC.calling q.2⟩, sx_recv hX_q hS, fun U hU hWm => ⟨rfl, PTC.mk hU hWm hP hK hD hE hO hG hX hS hFc⟩⟩ rfl rfl hl.1 rfl (lv_room (Nat.le_of_ble_eq_true rfl)) dX4_isNamed_64 ⟨by show _ + 0 ≤ 0; omega, by show _ + 0 ≤ 0; omega⟩) hS (fun q _ h => hFc q h) hFc (fun r_57 u t H1 locs ht hvm hw hB hz1 hk1 hS => ?_)
      obtain ⟨F_58, hB1⟩ := hB
      obtain rfl : F = F_58 := (funext (fun a => hB1.2.2.2 a List.not_mem_nil)).symm
      obtain ⟨hP, hD, hO, hR⟩ := QT.back hB1 ht hFc hR (fun q h => absurd h List.not_mem_nil)
      generalize H1 = H at hP hS ⊢
      have hw : r_57 = chv (C j) := hw
      have hw_59 := hw
      refine lv_icmp_eq (tgt := 72) hx hb dX4_isNamed_67 (by decide) (fun c_60 => ?_) (fun c_60 => ?_)
      ·
        have hc67 := c_60
        refine lv_iinc (v := (nI (j + 1))) (lv' := [(3, .int (nI (j + 1))), (0, .ref h0), (1, .int (nI jk)), (2, .ref q)]) hx hb dX4_isNamed_72 hl (k := 0) rfl (nI_1 _) (by decide) rfl (fun ls hl => ?_)
        refine lv_goto (tgt := 36) hx hb dX4_isNamed_75 (by decide) ?_
        refine W.widen (k := 0) (n := 0) (by omega) (by omega) ?_
        exact ih_33 (j + 1) F (⟨by omega, all_step hv2 (by rw [hg2, ← hw_53, ← hw_56, hc67]; exact hw_59)⟩) (by show k0 - (j + 1) < k0 - j; omega) hO hR _ _ hP hD hS ls (lv_sub hl [0, 1, 2, 3] rfl)
      ·
        refine lv_iconst (v := 0) hx hb dX4_isNamed_70 (by decide) ?_
        refine W.widen (k := 0) (n := 0) (by omega) (by omega) ?_
        exact W.zret (v := 0) (ty := .boolean) hx hb hr (by decide) (fun t ht hWm => ⟨⟨0, (), rfl, (Or.inr ⟨rfl, fun h => c_60 (by have h9 := h.2 j hjn; rw [hg2, ← hw_53, ← hw_56] at h9; exact h9.trans hw_59.symm)⟩), ⟨F, QT.mk ht hP hD hO hR⟩⟩, hS.F ht⟩) hS.2.2 dX4_isNamed_71
  ·
    refine lv_iconst (v := 0) hx hb dX4_isNamed_32 (by decide) ?_
    refine W.widen (k := 0) (n := 0) (by omega) (by omega) ?_
    exact W.zret (v := 0) (ty := .boolean) hx hb hr (by decide) (fun t ht hWm => ⟨⟨0, (), rfl, (Or.inr ⟨rfl, fun h => c_30 (by have h9 := h.1; rw [hg1, hg0] at h9; exact h9.trans hw_29.symm)⟩), ⟨F, QT.mk ht hP hD hO hR⟩⟩, hS.F ht⟩) hS.2.2 dX4_isNamed_33
set_option maxHeartbeats 4000000 in
set_option maxRecDepth 100000 in
theorem s_X4_countOf_x (l : Launch) (dC : Nat → ClassId) (dI : Nat → Nat → Nat) (cs : Nat → ClassId) (ty : TyM) (L : List Nat) (sz : Nat) (F : Nat → va_E) (h0 : Nat) (ρ : Nat) (tx : Nat) (y0 : Nat) (y1 : Nat) (y2 : Nat) (q : Nat) (v : Nat) (k0 : Nat) (C : Nat → Int32) (z : Nat) (v0 : Int32) (hW : WT ty L) (hL_h0 : h0 ∈ L) (hT_h0 : ty h0 = (4, ρ, [tx, y0, y1, y2])) (hF0 : F h0 = .inr (4, [.ref tx, .ref y0, .ref y1, .ref y2, .int (nI z), .int v0])) (hz20 : z ≤ 20) : Met l yX4_countOf (.code yX4_countOf cX4_countOf 4 (some .int) :: tb) ({ frames := 5, cells := 0, slots := 0, locals := 108 }) (va_Pc [.ref h0, .ref q] (PTC (dC, dI) cs ty L F sz q v k0 C)) (va_Qi (fun (r : Int32) (_ : Unit) => (r = 0 ∨ (∃ i, i < z ∧ nmd F tx y0 y1 C k0 i))) (fun _ T9 => ∃ F2 : Nat → va_E, QT (dC, dI) cs ty L [] F F2 (va_A (va_pl L F) sz) T9) (va_A (va_pl L F) sz)) 0 0 (va_A (va_pl L F) sz) := by
  refine Met.ofW (cc := cX4_countOf) (maxL := 4) (ret := (some .int)) (by decide) rfl ?_
  intro p e s m args below meth c s₁ B hml hv
  obtain ⟨rfl, ⟨hsz, hP, hK, hD0, hE, hO⟩, hG, hX⟩ := hv
  have hx := B.exec
  have hb := B.bytes
  have hr := B.returns
  have hts : ∀ w ∈ tb, w.before _ s = true := fun w h => atoms_spec (ws := .code yX4_countOf cX4_countOf 4 (some .int) :: tb) B.pre w (List.mem_cons_of_mem _ h)
  have hown : s.vm.findClass RX4 = some m.cls := findClass_of_methodNamed B.named
  have hlocks := B.notSynchronized
  subst hsz
  have hD := hD0.self (sz := s.heap.size)
  generalize hAe : va_A (va_pl L F) s.heap.size = A at hD hG hX ⊢
  have hX_q : SX q v k0 A s s.heap := hX.sx
  obtain ⟨xo_q, xc_q, xv_q, xt_q, xn_q⟩ := id hX
  have hA : ∀ q : Nat, s.heap.size ≤ q → A q := fun q h => by rw [← hAe]; exact Or.inr h
  have hS : va_S A s.heap s.heap [] := va_S.rf
  have hR : FR ty [] F F := FR.refl
  have hl := lv_entry ([.ref h0, .ref q]) (n := 4) (Nat.le_of_ble_eq_true rfl)
  rw [lg_entry_eq]
  generalize (lg_sl ([.ref h0, .ref q]) ++ List.replicate (4 - (lg_sl ([.ref h0, .ref q])).length) Slot.unset).toArray = ls at hl ⊢
  have hl : lv_has ls 4 [(0, .ref h0), (1, .ref q)] := hl
  refine lv_iconst (v := 0) hx hb dX4_countOf_0 (by decide) ?_
  refine lv_istore_n (lv' := [(2, .int 0), (0, .ref h0), (1, .ref q)]) hx hb dX4_countOf_1 rfl hl (by decide) rfl (fun ls hl => ?_)
  refine lv_iconst (v := 0) hx hb dX4_countOf_2 (by decide) ?_
  refine lv_istore_n (lv' := [(3, .int 0), (2, .int 0), (0, .ref h0), (1, .ref q)]) hx hb dX4_countOf_3 rfl hl (by decide) rfl (fun ls hl => ?_)
  refine W.widen (k := 0) (n := 0) (by omega) (by omega) ?_
  refine pl_loop (σ := Nat × Nat) A (dC, dI) cs ty L [] F 4 4 (fun (j, w2) => [(3, .int (nI j)), (2, .int (nI w2)), (0, .ref h0), (1, .ref q)]) (fun (j, w2) => []) (fun (j, w2) _ => j ≤ 20 ∧ w2 ≤ j ∧ (0 < w2 → (∃ i, i < z ∧ nmd F tx y0 y1 C k0 i))) (fun (j, w2) => 20 - j) ?_ (0, 0) F (⟨by omega, by omega, fun h => absurd h (Nat.lt_irrefl _)⟩) hO hR _ _ hP hD hS ls (lv_sub hl [0, 1, 2, 3] rfl)
  rintro ⟨j, w2⟩ F_1 hv_2 hO hR ih_3 H locs hP hD hS ls hl
  have hl : lv_has ls 4 [(3, .int (nI j)), (2, .int (nI w2)), (0, .ref h0), (1, .ref q)] := hl
  have hv_2 : j ≤ 20 ∧ w2 ≤ j ∧ (0 < w2 → (∃ i, i < z ∧ nmd F tx y0 y1 C k0 i)) := hv_2
  refine W.eq (g2 := F0 m 4 ls []) rfl ?_
  obtain rfl : F = F_1 := (funext (fun a => hR a List.not_mem_nil)).symm
  obtain ⟨hv1, hv2, hv3⟩ := hv_2
  refine lv_iload_n hx hb dX4_countOf_4 rfl (lv_at hl 0 rfl) ?_
  refine lv_aload_n hx hb dX4_countOf_5 rfl (lv_at hl 2 rfl) ?_
  obtain ⟨hi_4, hi_5, hi_6, hi_7, ⟨r_8, ht_9⟩, ht_10, ht_11, ht_12⟩ := hW.msg hL_h0 hT_h0
  refine pg_get (ci := 4) (v := .int (nI z)) (C := RX4) (T := TX4) (N := 6) hx hb hts it_4 hown hK hP hL_h0 hF0 rfl 4 (by decide) (hts _ kt_203) (fun _ h9 => h9) rfl dX4_countOf_6 ?_
  refine lv_icmp_ge (tgt := 35) hx hb dX4_countOf_9 (by decide) (fun c_13 => ?_) (fun c_13 => ?_)
  ·
    have hi_14 : z ≤ j := leN (N := z) c_13
    refine lv_iload_n hx hb dX4_countOf_35 rfl (lv_at hl 1 rfl) ?_
    refine W.widen (k := 0) (n := 0) (by omega) (by omega) ?_
    exact W.iret (v := (nI w2)) hx hb hr (fun t ht hWm => ⟨⟨(nI w2), (), rfl, (cnt_ret hv3), ⟨F, QT.mk ht hP hD hO hR⟩⟩, hS.F ht⟩) hS.2.2 dX4_countOf_36
  ·
    have hi_15 : j < z := ltN (N := z) c_13
    refine lv_iload_n hx hb dX4_countOf_12 rfl (lv_at hl 1 rfl) ?_
    refine lv_aload_n hx hb dX4_countOf_13 rfl (lv_at hl 2 rfl) ?_
    refine lv_iload_n hx hb dX4_countOf_14 rfl (lv_at hl 0 rfl) ?_
    refine lv_aload_n hx hb dX4_countOf_15 rfl (lv_at hl 3 rfl) ?_
    have hFc := pg_free hD hS hA
    refine va_calli (va_runV (As := [.int (nI j), .ref q]) (rest := [.int (nI w2)]) ⟨hx, hb, hml, hown, hts⟩ (s_X4_isNamed_x l dC dI cs ty L H.size F h0 ρ tx y0 y1 y2 q v k0 C z j v0 hW hL_h0 hT_h0 hF0 (by omega) (by omega)) ⟨callB_of 2 hts (gi kt_210) rfl rfl rfl (hts _ kt_211) (hts _ kt_212) (by decide +kernel) ⟨Nat.le_of_ble_eq_true rfl, Nat.le_of_ble_eq_true rfl⟩, (hts _ kt_213), (hts _ kt_214)⟩ ⟨fun a U g mk q => ⟨q.1, PTC.calling q.2⟩, pg_recv hK hP hL_h0 hF0 (q := (RX4, TX4, 6)) rfl, fun U hU hWm => ⟨rfl, PTC.mk hU hWm hP hK hD hE hO hG hX hS hFc⟩⟩ rfl rfl hl.1 rfl (lv_room (Nat.le_of_ble_eq_true rfl)) dX4_countOf_16 ⟨by show _ + 0 ≤ 0; omega, by show _ + 0 ≤ 0; omega⟩) hS (fun q _ h => hFc q h) hFc (fun r_16 u t H1 locs ht hvm hw hB hz1 hk1 hS => ?_)
    obtain ⟨F_17, hB1⟩ := hB
    obtain rfl : F = F_17 := (funext (fun a => hB1.2.2.2 a List.not_mem_nil)).symm
    obtain ⟨hP, hD, hO, hR⟩ := QT.back hB1 ht hFc hR (fun q h => absurd h List.not_mem_nil)
    generalize H1 = H at hP hS ⊢
    have hw : ((r_16 = 1 ∧ nmd F tx y0 y1 C k0 j) ∨ (r_16 = 0 ∧ ¬ nmd F tx y0 y1 C k0 j)) := hw
    have hw_18 := hw
    refine lv_if_eq (tgt := 26) hx hb dX4_countOf_19 (by decide) (fun c_19 => ?_) (fun c_19 => ?_)
    ·
      refine lv_iconst (v := 0) hx hb dX4_countOf_26 (by decide) ?_
      refine lv_iadd hx hb dX4_countOf_27 ?_
      refine lv_topi (fun x_20 ex_20 => ?_)
      obtain rfl : x_20 = (nI w2) := ex_20.trans (nI_add w2 0)
      refine lv_istore_n (lv' := [(2, .int (nI w2)), (3, .int (nI j)), (0, .ref h0), (1, .ref q)]) hx hb dX4_countOf_28 rfl hl (by decide) rfl (fun ls hl => ?_)
      refine lv_iinc (v := (nI (j + 1))) (lv' := [(3, .int (nI (j + 1))), (2, .int (nI w2)), (0, .ref h0), (1, .ref q)]) hx hb dX4_countOf_29 hl (k := 1) rfl (nI_1 _) (by decide) rfl (fun ls hl => ?_)
      refine lv_goto (tgt := 4) hx hb dX4_countOf_32 (by decide) ?_
      refine W.widen (k := 0) (n := 0) (by omega) (by omega) ?_
      exact ih_3 ((j + 1), w2) F (⟨by omega, by omega, hv3⟩) (by show 20 - (j + 1) < 20 - j; omega) hO hR _ _ hP hD hS ls (lv_sub hl [0, 1, 2, 3] rfl)
    ·
      refine lv_iconst (v := 1) hx hb dX4_countOf_22 (by decide) ?_
      refine lv_goto (tgt := 27) hx hb dX4_countOf_23 (by decide) ?_
      refine lv_iadd hx hb dX4_countOf_27 ?_
      refine lv_topi (fun x_21 ex_21 => ?_)
      obtain rfl : x_21 = (nI (w2 + 1)) := ex_21.trans (nI_1 w2)
      refine lv_istore_n (lv' := [(2, .int (nI (w2 + 1))), (3, .int (nI j)), (0, .ref h0), (1, .ref q)]) hx hb dX4_countOf_28 rfl hl (by decide) rfl (fun ls hl => ?_)
      refine lv_iinc (v := (nI (j + 1))) (lv' := [(3, .int (nI (j + 1))), (2, .int (nI (w2 + 1))), (0, .ref h0), (1, .ref q)]) hx hb dX4_countOf_29 hl (k := 1) rfl (nI_1 _) (by decide) rfl (fun ls hl => ?_)
      refine lv_goto (tgt := 4) hx hb dX4_countOf_32 (by decide) ?_
      refine W.widen (k := 0) (n := 0) (by omega) (by omega) ?_
      exact ih_3 ((j + 1), (w2 + 1)) F (⟨by omega, by omega, fun _ => ⟨j, by omega, nm1 hw_18 c_19⟩⟩) (by show 20 - (j + 1) < 20 - j; omega) hO hR _ _ hP hD hS ls (lv_sub hl [0, 1, 2, 3] rfl)
set_option maxHeartbeats 4000000 in
set_option maxRecDepth 100000 in
theorem s_X4_fieldOf_x (l : Launch) (dC : Nat → ClassId) (dI : Nat → Nat → Nat) (cs : Nat → ClassId) (ty : TyM) (L : List Nat) (sz : Nat) (F : Nat → va_E) (h0 : Nat) (ρ : Nat) (tx : Nat) (y0 : Nat) (y1 : Nat) (y2 : Nat) (q : Nat) (v : Nat) (k0 : Nat) (C : Nat → Int32) (z : Nat) (v0 : Int32) (hW : WT ty L) (hL_h0 : h0 ∈ L) (hT_h0 : ty h0 = (4, ρ, [tx, y0, y1, y2])) (hF0 : F h0 = .inr (4, [.ref tx, .ref y0, .ref y1, .ref y2, .int (nI z), .int v0])) (hz20 : z ≤ 20) (hex : (∃ i, i < z ∧ nmd F tx y0 y1 C k0 i)) : Met l yX4_fieldOf (.code yX4_fieldOf cX4_fieldOf 5 (some .int) :: tb) ({ frames := 5, cells := 0, slots := 0, locals := 108 }) (va_Pc [.ref h0, .ref q, .int 0] (PTC (dC, dI) cs ty L F sz q v k0 C)) (va_Qi (fun (r : Int32) (_ : Unit) => (∃ j : Nat, j < 20 ∧ r = nI j)) (fun _ T9 => ∃ F2 : Nat → va_E, QT (dC, dI) cs ty L [] F F2 (va_A (va_pl L F) sz) T9) (va_A (va_pl L F) sz)) 0 0 (va_A (va_pl L F) sz) := by
  refine Met.ofW (cc := cX4_fieldOf) (maxL := 5) (ret := (some .int)) (by decide) rfl ?_
  intro p e s m args below meth c s₁ B hml hv
  obtain ⟨rfl, ⟨hsz, hP, hK, hD0, hE, hO⟩, hG, hX⟩ := hv
  have hx := B.exec
  have hb := B.bytes
  have hr := B.returns
  have hts : ∀ w ∈ tb, w.before _ s = true := fun w h => atoms_spec (ws := .code yX4_fieldOf cX4_fieldOf 5 (some .int) :: tb) B.pre w (List.mem_cons_of_mem _ h)
  have hown : s.vm.findClass RX4 = some m.cls := findClass_of_methodNamed B.named
  have hlocks := B.notSynchronized
  subst hsz
  have hD := hD0.self (sz := s.heap.size)
  generalize hAe : va_A (va_pl L F) s.heap.size = A at hD hG hX ⊢
  have hX_q : SX q v k0 A s s.heap := hX.sx
  obtain ⟨xo_q, xc_q, xv_q, xt_q, xn_q⟩ := id hX
  have hA : ∀ q : Nat, s.heap.size ≤ q → A q := fun q h => by rw [← hAe]; exact Or.inr h
  have hS : va_S A s.heap s.heap [] := va_S.rf
  have hR : FR ty [] F F := FR.refl
  have hl := lv_entry ([.ref h0, .ref q, .int 0]) (n := 5) (Nat.le_of_ble_eq_true rfl)
  rw [lg_entry_eq]
  generalize (lg_sl ([.ref h0, .ref q, .int 0]) ++ List.replicate (5 - (lg_sl ([.ref h0, .ref q, .int 0])).length) Slot.unset).toArray = ls at hl ⊢
  have hl : lv_has ls 5 [(0, .ref h0), (1, .ref q), (2, .int 0)] := hl
  refine lv_iload_n hx hb dX4_fieldOf_0 rfl (lv_at hl 2 rfl) ?_
  refine lv_istore_n (lv' := [(3, .int 0), (0, .ref h0), (1, .ref q), (2, .int 0)]) hx hb dX4_fieldOf_1 rfl hl (by decide) rfl (fun ls hl => ?_)
  refine lv_iconst (v := 0) hx hb dX4_fieldOf_2 (by decide) ?_
  refine lv_istore (lv' := [(4, .int 0), (3, .int 0), (0, .ref h0), (1, .ref q), (2, .int 0)]) hx hb dX4_fieldOf_3 hl (by decide) rfl (fun ls hl => ?_)
  refine W.widen (k := 0) (n := 0) (by omega) (by omega) ?_
  refine pl_loop (σ := Nat) A (dC, dI) cs ty L [] F 5 5 (fun j => [(4, .int (nI j)), (3, .int 0), (0, .ref h0), (1, .ref q), (2, .int 0)]) (fun j => []) (fun j _ => j ≤ 20 ∧ ∀ i, i < j → ¬ nmd F tx y0 y1 C k0 i) (fun j => 20 - j) ?_ 0 F (⟨by omega, fun i hi => absurd hi (Nat.not_lt_zero _)⟩) hO hR _ _ hP hD hS ls (lv_sub hl [0, 1, 2, 3, 4] rfl)
  rintro j F_1 hv_2 hO hR ih_3 H locs hP hD hS ls hl
  have hl : lv_has ls 5 [(4, .int (nI j)), (3, .int 0), (0, .ref h0), (1, .ref q), (2, .int 0)] := hl
  have hv_2 : j ≤ 20 ∧ ∀ i, i < j → ¬ nmd F tx y0 y1 C k0 i := hv_2
  refine W.eq (g2 := F0 m 5 ls []) rfl ?_
  obtain rfl : F = F_1 := (funext (fun a => hR a List.not_mem_nil)).symm
  obtain ⟨hv1, hv2⟩ := hv_2
  refine lv_iload hx hb dX4_fieldOf_5 (lv_at hl 0 rfl) ?_
  refine lv_aload_n hx hb dX4_fieldOf_7 rfl (lv_at hl 2 rfl) ?_
  obtain ⟨hi_4, hi_5, hi_6, hi_7, ⟨r_8, ht_9⟩, ht_10, ht_11, ht_12⟩ := hW.msg hL_h0 hT_h0
  refine pg_get (ci := 4) (v := .int (nI z)) (C := RX4) (T := TX4) (N := 6) hx hb hts it_4 hown hK hP hL_h0 hF0 rfl 4 (by decide) (hts _ kt_203) (fun _ h9 => h9) rfl dX4_fieldOf_8 ?_
  refine lv_icmp_ge (tgt := 43) hx hb dX4_fieldOf_11 (by decide) (fun c_13 => ?_) (fun c_13 => ?_)
  ·
    have hi_14 : z ≤ j := leN (N := z) c_13
    obtain ⟨i9, hi9, hn9⟩ := hex
    exact absurd hn9 (hv2 i9 (by omega))
  ·
    have hi_15 : j < z := ltN (N := z) c_13
    refine lv_aload_n hx hb dX4_fieldOf_14 rfl (lv_at hl 2 rfl) ?_
    refine lv_iload hx hb dX4_fieldOf_15 (lv_at hl 0 rfl) ?_
    refine lv_aload_n hx hb dX4_fieldOf_17 rfl (lv_at hl 3 rfl) ?_
    have hFc := pg_free hD hS hA
    refine va_calli (va_runV (As := [.int (nI j), .ref q]) (rest := []) ⟨hx, hb, hml, hown, hts⟩ (s_X4_isNamed_x l dC dI cs ty L H.size F h0 ρ tx y0 y1 y2 q v k0 C z j v0 hW hL_h0 hT_h0 hF0 (by omega) (by omega)) ⟨callB_of 2 hts (gi kt_210) rfl rfl rfl (hts _ kt_211) (hts _ kt_212) (by decide +kernel) ⟨Nat.le_of_ble_eq_true rfl, Nat.le_of_ble_eq_true rfl⟩, (hts _ kt_213), (hts _ kt_214)⟩ ⟨fun a U g mk q => ⟨q.1, PTC.calling q.2⟩, pg_recv hK hP hL_h0 hF0 (q := (RX4, TX4, 6)) rfl, fun U hU hWm => ⟨rfl, PTC.mk hU hWm hP hK hD hE hO hG hX hS hFc⟩⟩ rfl rfl hl.1 rfl (lv_room (Nat.le_of_ble_eq_true rfl)) dX4_fieldOf_18 ⟨by show _ + 0 ≤ 0; omega, by show _ + 0 ≤ 0; omega⟩) hS (fun q _ h => hFc q h) hFc (fun r_16 u t H1 locs ht hvm hw hB hz1 hk1 hS => ?_)
    obtain ⟨F_17, hB1⟩ := hB
    obtain rfl : F = F_17 := (funext (fun a => hB1.2.2.2 a List.not_mem_nil)).symm
    obtain ⟨hP, hD, hO, hR⟩ := QT.back hB1 ht hFc hR (fun q h => absurd h List.not_mem_nil)
    generalize H1 = H at hP hS ⊢
    have hw : ((r_16 = 1 ∧ nmd F tx y0 y1 C k0 j) ∨ (r_16 = 0 ∧ ¬ nmd F tx y0 y1 C k0 j)) := hw
    have hw_18 := hw
    refine lv_if_ne (tgt := 27) hx hb dX4_fieldOf_21 (by decide) (fun c_19 => ?_) (fun c_19 => ?_)
    ·
      refine lv_iload_n hx hb dX4_fieldOf_27 rfl (lv_at hl 1 rfl) ?_
      refine lv_if_ne (tgt := 34) hx hb dX4_fieldOf_28 (by decide) (fun c_20 => absurd (by decide) c_20) (fun c_20 => ?_)
      refine lv_iload hx hb dX4_fieldOf_31 (lv_at hl 0 rfl) ?_
      refine W.widen (k := 0) (n := 0) (by omega) (by omega) ?_
      exact W.iret (v := (nI j)) hx hb hr (fun t ht hWm => ⟨⟨(nI j), (), rfl, ⟨j, by omega, rfl⟩, ⟨F, QT.mk ht hP hD hO hR⟩⟩, hS.F ht⟩) hS.2.2 dX4_fieldOf_33
    ·
      refine lv_goto (tgt := 37) hx hb dX4_fieldOf_24 (by decide) ?_
      refine lv_iinc (v := (nI (j + 1))) (lv' := [(4, .int (nI (j + 1))), (3, .int 0), (0, .ref h0), (1, .ref q), (2, .int 0)]) hx hb dX4_fieldOf_37 hl (k := 0) rfl (nI_1 _) (by decide) rfl (fun ls hl => ?_)
      refine lv_goto (tgt := 5) hx hb dX4_fieldOf_40 (by decide) ?_
      refine W.widen (k := 0) (n := 0) (by omega) (by omega) ?_
      exact ih_3 (j + 1) F (⟨by omega, all_step hv2 (nm0 hw_18 c_19)⟩) (by show 20 - (j + 1) < 20 - j; omega) hO hR _ _ hP hD hS ls (lv_sub hl [0, 1, 2, 3, 4] rfl)
