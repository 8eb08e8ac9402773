def wob (B : Nat → Int32) (k : Nat) : Int32 := shl (B (4 * k)) 24 ||| shl (B (4 * k + 1) &&& 255) 16 ||| shl (B (4 * k + 2) &&& 255) 8 ||| (B (4 * k + 3) &&& 255)
theorem shl_n {x k j : Int32} (h : (k &&& 31) = (j &&& 31)) : shl x k = shl x j := by
  unfold shl
  rw [h]
theorem rot_n {x k j i : Int32} (h : (j &&& 31) = (i &&& 31)) : rot x k j = rot x k i := by
  unfold rot
  rw [shl_n h]
theorem wlo_n (x : Int32) : rot x 7 (-7) ^^^ rot x 18 (-18) ^^^ ush x 3 = wlo x := by
  unfold wlo
  rw [rot_n (j := -7) (i := 25) (by decide), rot_n (j := -18) (i := 14) (by decide)]
theorem whi_n (x : Int32) : rot x 17 (-17) ^^^ rot x 19 (-19) ^^^ ush x 10 = whi x := by
  unfold whi
  rw [rot_n (j := -17) (i := 15) (by decide), rot_n (j := -19) (i := 13) (by decide)]
theorem sg1_n (x : Int32) : rot x 6 (-6) ^^^ rot x 11 (-11) ^^^ rot x 25 (-25) = sg1 x := by
  unfold sg1
  rw [rot_n (j := -6) (i := 26) (by decide), rot_n (j := -11) (i := 21) (by decide), rot_n (j := -25) (i := 7) (by decide)]
theorem sg0_n (x : Int32) : rot x 2 (-2) ^^^ rot x 13 (-13) ^^^ rot x 22 (-22) = sg0 x := by
  unfold sg0
  rw [rot_n (j := -2) (i := 30) (by decide), rot_n (j := -13) (i := 19) (by decide), rot_n (j := -22) (i := 10) (by decide)]
def fsx (a7 a4 a5 a6 k w : Int32) : Int32 := a7 + sg1 a4 + chs a4 a5 a6 + k + w
def R8 (R : Nat → Int32) (a0 a1 a2 a3 a4 a5 a6 a7 : Int32) : Prop := a0 = R 0 ∧ a1 = R 1 ∧ a2 = R 2 ∧ a3 = R 3 ∧ a4 = R 4 ∧ a5 = R 5 ∧ a6 = R 6 ∧ a7 = R 7
theorem R8.st {R : Nat → Int32} {a0 a1 a2 a3 a4 a5 a6 a7 k w : Int32} (h : R8 R a0 a1 a2 a3 a4 a5 a6 a7) : R8 (stp R k w) (fsx a7 a4 a5 a6 k w + (sg0 a0 + maj a0 a1 a2)) a0 a1 a2 (a3 + fsx a7 a4 a5 a6 k w) a4 a5 a6 := by
  obtain ⟨rfl, rfl, rfl, rfl, rfl, rfl, rfl, rfl⟩ := h
  have h0 : ∀ j, j < 8 → j ≠ 0 → j ≠ 4 → stp R k w j = R (j - 1) := fun j hj c d => by
    unfold stp
    rw [upd_no c, upd_no d]
    exact if_pos ⟨by omega, by omega⟩
  refine ⟨?_, (h0 1 (by omega) (by omega) (by omega)).symm, (h0 2 (by omega) (by omega) (by omega)).symm, (h0 3 (by omega) (by omega) (by omega)).symm, ?_, (h0 5 (by omega) (by omega) (by omega)).symm, (h0 6 (by omega) (by omega) (by omega)).symm, (h0 7 (by omega) (by omega) (by omega)).symm⟩
  · unfold stp
    rw [upd_at, ← Int32.add_assoc]
    rfl
  · unfold stp
    rw [upd_no (by omega), upd_at]
    rfl
theorem R8.out {f W V : Nat → Int32} {a0 a1 a2 a3 a4 a5 a6 a7 : Int32} (h : R8 (rnd shF W f 64) a0 a1 a2 a3 a4 a5 a6 a7) (hW : ∀ j, j < 64 → W j = V j) : ∀ j, j < 8 → upd (upd (upd (upd (upd (upd (upd (upd f 0 (f 0 + a0)) 1 (f 1 + a1)) 2 (f 2 + a2)) 3 (f 3 + a3)) 4 (f 4 + a4)) 5 (f 5 + a5)) 6 (f 6 + a6)) 7 (f 7 + a7) j = f j + rnd shF V f 64 j := by
  obtain ⟨h0, h1, h2, h3, h4, h5, h6, h7⟩ := h
  intro j hj
  rw [← rnd_cg (fun i _ => rfl) 64 hW j hj]
  rcases (show j = 0 ∨ j = 1 ∨ j = 2 ∨ j = 3 ∨ j = 4 ∨ j = 5 ∨ j = 6 ∨ j = 7 by omega) with c | c | c | c | c | c | c | c
  · rw [c, ← h0]
    rfl
  · rw [c, ← h1]
    rfl
  · rw [c, ← h2]
    rfl
  · rw [c, ← h3]
    rfl
  · rw [c, ← h4]
    rfl
  · rw [c, ← h5]
    rfl
  · rw [c, ← h6]
    rfl
  · rw [c, ← h7]
    rfl
theorem wob_in {fb fw : Nat → Int32} {k : Nat} (h : ∀ i, i < k → fw i = wob fb i) : ∀ i, i < k + 1 → upd fw k (wob fb k) i = wob fb i := by
  intro i hi
  by_cases c : i = k
  · rw [c, upd_at]
  · rw [upd_no c]
    exact h i (by omega)
set_option maxHeartbeats 4000000 in
set_option maxRecDepth 100000 in
theorem m_J6_rotateRight_e (l : Launch) (dC : Nat → ClassId) (dI : Nat → Nat → Nat) (cs : Nat → ClassId) (ty : TyM) (gm : Nat → Nat → Nat) (L : List Nat) (sz : Nat) (F : Nat → va_E) (x1 : Int32) (x2 : Int32) (hW : WTm ty gm L) : Met l yJ6_rotateRight_7cf53 (.code yJ6_rotateRight_7cf53 cJ6_rotateRight_7cf53 2 (some .int) :: tb) ({ frames := 0, cells := 0, slots := 0, locals := 0 }) (va_Pc [.int x1, .int x2] (PTm (dC, dI) cs ty gm L F sz)) (va_Qi (fun (r : Int32) (_ : Unit) => r = rot x1 x2 (-x2)) (fun _ T9 => ∃ F2 : Nat → va_E, QTm (dC, dI) cs ty gm L [] F F2 (va_A (va_pl L F) sz) T9) (va_A (va_pl L F) sz)) 0 0 (va_A (va_pl L F) sz) := by
  refine Met.ofW (cc := cJ6_rotateRight_7cf53) (maxL := 2) (ret := (some .int)) (by decide) rfl ?_
  intro p e s m args below meth c s₁ B hml hv
  obtain ⟨rfl, hsz, hP, hK, hD0, hE, hO⟩ := hv
  have hx := B.exec
  have hb := B.bytes
  have hr := B.returns
  have hts : ∀ w ∈ tb, w.before _ s = true := fun w h => atoms_spec (ws := .code yJ6_rotateRight_7cf53 cJ6_rotateRight_7cf53 2 (some .int) :: tb) B.pre w (List.mem_cons_of_mem _ h)
  have hown : s.vm.findClass RJ6 = some m.cls := findClass_of_methodNamed B.named
  have hlocks := B.notSynchronized
  subst hsz
  have hD := hD0.self (sz := s.heap.size)
  generalize hAe : va_A (va_pl L F) s.heap.size = A at hD ⊢
  have hA : ∀ q : Nat, s.heap.size ≤ q → A q := fun q h => by rw [← hAe]; exact Or.inr h
  have hS : va_S A s.heap s.heap [] := va_S.rf
  have hR : FR ty [] F F := FR.refl
  have hl := lv_entry ([.int x1, .int x2]) (n := 2) (Nat.le_of_ble_eq_true rfl)
  rw [lg_entry_eq]
  generalize (lg_sl ([.int x1, .int x2]) ++ List.replicate (2 - (lg_sl ([.int x1, .int x2])).length) Slot.unset).toArray = ls at hl ⊢
  have hl : lv_has ls 2 [(0, .int x1), (1, .int x2)] := hl
  refine lv_iload_n hx hb dJ6_rotateRight_7cf53_0 rfl (lv_at hl 0 rfl) ?_
  refine lv_iload_n hx hb dJ6_rotateRight_7cf53_1 rfl (lv_at hl 1 rfl) ?_
  refine lv_iushr hx hb dJ6_rotateRight_7cf53_2 rfl ?_
  refine lv_topi (fun x_2 ex_2 => ?_)
  obtain rfl : x_2 = (ush x1 x2) := ex_2.trans (rfl)
  refine lv_iload_n hx hb dJ6_rotateRight_7cf53_3 rfl (lv_at hl 0 rfl) ?_
  refine lv_iload_n hx hb dJ6_rotateRight_7cf53_4 rfl (lv_at hl 1 rfl) ?_
  refine lv_ineg hx hb dJ6_rotateRight_7cf53_5 ?_
  refine lv_topi (fun x_3 ex_3 => ?_)
  obtain rfl : x_3 = (-x2) := ex_3.trans (rfl)
  refine lv_ishl hx hb dJ6_rotateRight_7cf53_6 ?_
  refine lv_topi (fun x_4 ex_4 => ?_)
  obtain rfl : x_4 = (shl x1 (-x2)) := ex_4.trans (rfl)
  refine lv_ior hx hb dJ6_rotateRight_7cf53_7 ?_
  refine lv_topi (fun x_5 ex_5 => ?_)
  obtain rfl : x_5 = ((ush x1 x2) ||| (shl x1 (-x2))) := ex_5.trans (rfl)
  refine W.widen (k := 0) (n := 0) (by omega) (by omega) ?_
  exact W.iret (v := ((ush x1 x2) ||| (shl x1 (-x2)))) hx hb hr (fun t ht hWm => ⟨⟨((ush x1 x2) ||| (shl x1 (-x2))), (), rfl, rfl, ⟨F, QTm.mk ht hP hD hO hR⟩⟩, hS.F ht⟩) hS.2.2 dJ6_rotateRight_7cf53_8
set_option maxHeartbeats 4000000 in
set_option maxRecDepth 100000 in
theorem s_X12_round_e (l : Launch) (dC : Nat → ClassId) (dI : Nat → Nat → Nat) (cs : Nat → ClassId) (ty : TyM) (gm : Nat → Nat → Nat) (L : List Nat) (sz : Nat) (F : Nat → va_E) (h0 : Nat) (ρ : Nat) (q1 : Nat) (q2 : Nat) (q3 : Nat) (q4 : Nat) (q5 : Nat) (z : Nat) (v : Int64) (fh : Nat → Int32) (fb : Nat → Int32) (hW : WTm ty gm L) (hL_h0 : h0 ∈ L) (hT_h0 : ty h0 = (12, ρ, [q1, q2, q3, q4, q5])) (hF0 : F h0 = .inr (12, [.ref q1, .ref q2, .ref q3, .ref q4, .ref q5, .int (nI z), .long v])) (hFh : F q2 = .inl (cs 16, 8, .inl fh)) (hFb : F q5 = .inl (cs 17, 64, .inl fb)) : Met l yX12_round (.code yX12_round cX12_round 12 none :: tb) ({ frames := 1, cells := 0, slots := 0, locals := 21 }) (va_Pc [.ref h0] (PTm (dC, dI) cs ty gm L F sz)) (va_Qv (fun _ : Unit => True) (fun _ T9 => ∃ F2 : Nat → va_E, ∃ f2 : Nat → Int32, QTm (dC, dI) cs ty gm L [ρ] F F2 (va_A (va_pl L F) sz) T9 ∧ F2 h0 = .inr (12, [.ref q1, .ref q2, .ref q3, .ref q4, .ref q5, .int (nI z), .long v]) ∧ F2 q2 = .inl (cs 16, 8, .inl f2) ∧ (∀ j, j < 8 → f2 j = mxs (wob fb) fh j)) (va_A (va_pl L F) sz)) 0 0 (va_A (va_pl L F) sz) := by
  refine Met.ofW (cc := cX12_round) (maxL := 12) (ret := none) (by decide) rfl ?_
  intro p e s m args below meth c s₁ B hml hv
  obtain ⟨rfl, hsz, hP, hK, hD0, hE, hO⟩ := hv
  have hx := B.exec
  have hb := B.bytes
  have hr := B.returns
  have hts : ∀ w ∈ tb, w.before _ s = true := fun w h => atoms_spec (ws := .code yX12_round cX12_round 12 none :: tb) B.pre w (List.mem_cons_of_mem _ h)
  have hown : s.vm.findClass RX12 = some m.cls := findClass_of_methodNamed B.named
  have hlocks := B.notSynchronized
  subst hsz
  have hD := hD0.self (sz := s.heap.size)
  generalize hAe : va_A (va_pl L F) s.heap.size = A at hD ⊢
  have hA : ∀ q : Nat, s.heap.size ≤ q → A q := fun q h => by rw [← hAe]; exact Or.inr h
  have hS : va_S A s.heap s.heap [] := va_S.rf
  have hR : FR ty [ρ] F F := FR.refl
  have hl := lv_entry ([.ref h0]) (n := 12) (Nat.le_of_ble_eq_true rfl)
  rw [lg_entry_eq]
  generalize (lg_sl ([.ref h0]) ++ List.replicate (12 - (lg_sl ([.ref h0])).length) Slot.unset).toArray = ls at hl ⊢
  have hl : lv_has ls 12 [(0, .ref h0)] := hl
  obtain ⟨hi_1, hi_2, hi_3, hi_4, hi_5, ht_6, ht_7, ht_8, ht_9, ht_10⟩ := hW.hash hL_h0 hT_h0
  refine lv_iconst (v := 0) hx hb dX12_round_0 (by decide) ?_
  refine lv_istore_n (lv' := [(1, .int 0), (0, .ref h0)]) hx hb dX12_round_1 rfl hl (by decide) rfl (fun ls hl => ?_)
  refine W.widen (k := 0) (n := 0) (by omega) (by omega) ?_
  obtain ⟨hq_12, hq_13⟩ := hW.ints hi_2 ht_7
  obtain ⟨hq_14, hq_15⟩ := hW.octs hi_5 ht_10
  obtain ⟨hq_16, hq_17⟩ := hW.ints hi_3 ht_8
  obtain ⟨f_18, hF_19⟩ := hO.ints hi_3 ht_8
  refine pl_loopm (σ := Nat) A (dC, dI) cs ty gm L [ρ] F 2 12 (fun t1 => [(1, .int (nI t1)), (0, .ref h0)]) (fun t1 => []) (fun t1 FF => t1 ≤ 16 ∧ FF h0 = .inr (12, [.ref q1, .ref q2, .ref q3, .ref q4, .ref q5, .int (nI z), .long v]) ∧ FF q2 = .inl (cs 16, 8, .inl fh) ∧ FF q5 = .inl (cs 17, 64, .inl fb) ∧ ∃ fw : Nat → Int32, FF q3 = .inl (cs 16, 64, .inl fw) ∧ ∀ i, i < t1 → fw i = wob fb i) (fun t1 => 16 - t1) ?_ 0 F (⟨by omega, hF0, hFh, hFb, _, hF_19, fun i hi => absurd hi (Nat.not_lt_zero _)⟩) hO hR _ _ hP hD hS ls (lv_sub hl [0, 1] rfl)
  rintro t1 F_11 hv_20 hO hR ih_21 H locs hP hD hS ls hl
  have hl : lv_has ls 12 [(1, .int (nI t1)), (0, .ref h0)] := hl
  have hv_20 : t1 ≤ 16 ∧ F_11 h0 = .inr (12, [.ref q1, .ref q2, .ref q3, .ref q4, .ref q5, .int (nI z), .long v]) ∧ F_11 q2 = .inl (cs 16, 8, .inl fh) ∧ F_11 q5 = .inl (cs 17, 64, .inl fb) ∧ ∃ fw : Nat → Int32, F_11 q3 = .inl (cs 16, 64, .inl fw) ∧ ∀ i, i < t1 → fw i = wob fb i := hv_20
  refine W.eq (g2 := F0 m 2 ls []) rfl ?_
  obtain ⟨ha1, ha2, ha3, ha4, fw, ha5, ha6⟩ := id hv_20
  refine lv_iload_n hx hb dX12_round_2 rfl (lv_at hl 0 rfl) ?_
  refine lv_bipush (v := 16) hx hb dX12_round_3 (by decide) ?_
  refine lv_icmp_ge (tgt := 82) hx hb dX12_round_5 (by decide) (fun c_22 => ?_) (fun c_22 => ?_)
  ·
    have hi_23 : 16 ≤ t1 := leN (N := 16) c_22
    have ht16 : t1 = 16 := by omega
    subst ht16
    refine lv_bipush (v := 16) hx hb dX12_round_82 (by decide) ?_
    refine lv_istore_n (lv' := [(1, .int 16), (0, .ref h0)]) hx hb dX12_round_84 rfl hl (by decide) rfl (fun ls hl => ?_)
    refine W.widen (k := 0) (n := 0) (by omega) (by omega) ?_
    obtain ⟨hq_25, hq_26⟩ := hW.ints hi_2 ht_7
    obtain ⟨hq_27, hq_28⟩ := hW.ints hi_3 ht_8
    refine pl_loopm (σ := Nat) A (dC, dI) cs ty gm L [ρ] F 85 12 (fun t2 => [(1, .int (nI t2)), (0, .ref h0)]) (fun t2 => []) (fun t2 FF => 16 ≤ t2 ∧ t2 ≤ 64 ∧ FF h0 = .inr (12, [.ref q1, .ref q2, .ref q3, .ref q4, .ref q5, .int (nI z), .long v]) ∧ FF q2 = .inl (cs 16, 8, .inl fh) ∧ FF q3 = .inl (cs 16, 64, .inl (sch fw (t2 - 16)))) (fun t2 => 64 - t2) ?_ 16 F_11 (⟨by omega, by omega, ha2, ha3, ha5⟩) hO hR _ _ hP hD hS ls (lv_sub hl [0, 1] rfl)
    rintro t2 F_24 hv_29 hO hR ih_30 H locs hP hD hS ls hl
    have hl : lv_has ls 12 [(1, .int (nI t2)), (0, .ref h0)] := hl
    have hv_29 : 16 ≤ t2 ∧ t2 ≤ 64 ∧ F_24 h0 = .inr (12, [.ref q1, .ref q2, .ref q3, .ref q4, .ref q5, .int (nI z), .long v]) ∧ F_24 q2 = .inl (cs 16, 8, .inl fh) ∧ F_24 q3 = .inl (cs 16, 64, .inl (sch fw (t2 - 16))) := hv_29
    refine W.eq (g2 := F0 m 85 ls []) rfl ?_
    obtain ⟨hb1, hb2, hb3, hb4, hb5⟩ := id hv_29
    refine lv_iload_n hx hb dX12_round_85 rfl (lv_at hl 0 rfl) ?_
    refine lv_bipush (v := 64) hx hb dX12_round_86 (by decide) ?_
    refine lv_icmp_ge (tgt := 178) hx hb dX12_round_88 (by decide) (fun c_31 => ?_) (fun c_31 => ?_)
    ·
      have hi_32 : 64 ≤ t2 := leN (N := 64) c_31
      have ht64 : t2 = 64 := by omega
      subst ht64
      refine lv_aload_n hx hb dX12_round_178 rfl (lv_at hl 1 rfl) ?_
      refine pg_get (ci := 12) (v := .ref q2) (C := RX12) (T := TX12) (N := 7) hx hb hts it_12 hown hK hP hL_h0 hb3 rfl 1 (by decide) (hts _ kt_768) (fun _ h9 => h9) rfl dX12_round_179 ?_
      refine lv_iconst (v := 0) hx hb dX12_round_182 (by decide) ?_
      obtain ⟨hq_33, hq_34⟩ := hW.ints hi_2 ht_7
      refine pg_iald hx hb hK hP hi_2 0 hb4 rfl (show vp_in (0 : Int32) 8 from (show vp_in (nI 0) 8 from vp_in_nI (by omega) (by omega))) dX12_round_183 ?_
      refine lv_topi (fun x_35 ex_35 => ?_)
      obtain rfl : x_35 = (fh 0) := ex_35.trans (congrArg fh (show (0 : Int32).toNatClampNeg = 0 by decide))
      refine lv_istore_n (lv' := [(1, .int (fh 0)), (0, .ref h0)]) hx hb dX12_round_184 rfl hl (by decide) rfl (fun ls hl => ?_)
      refine lv_aload_n hx hb dX12_round_185 rfl (lv_at hl 1 rfl) ?_
      refine pg_get (ci := 12) (v := .ref q2) (C := RX12) (T := TX12) (N := 7) hx hb hts it_12 hown hK hP hL_h0 hb3 rfl 1 (by decide) (hts _ kt_768) (fun _ h9 => h9) rfl dX12_round_186 ?_
      refine lv_iconst (v := 1) hx hb dX12_round_189 (by decide) ?_
      refine pg_iald hx hb hK hP hi_2 0 hb4 rfl (show vp_in (1 : Int32) 8 from (show vp_in (nI 1) 8 from vp_in_nI (by omega) (by omega))) dX12_round_190 ?_
      refine lv_topi (fun x_36 ex_36 => ?_)
      obtain rfl : x_36 = (fh 1) := ex_36.trans (congrArg fh (show (1 : Int32).toNatClampNeg = 1 by decide))
      refine lv_istore_n (lv' := [(2, .int (fh 1)), (1, .int (fh 0)), (0, .ref h0)]) hx hb dX12_round_191 rfl hl (by decide) rfl (fun ls hl => ?_)
      refine lv_aload_n hx hb dX12_round_192 rfl (lv_at hl 2 rfl) ?_
      refine pg_get (ci := 12) (v := .ref q2) (C := RX12) (T := TX12) (N := 7) hx hb hts it_12 hown hK hP hL_h0 hb3 rfl 1 (by decide) (hts _ kt_768) (fun _ h9 => h9) rfl dX12_round_193 ?_
      refine lv_iconst (v := 2) hx hb dX12_round_196 (by decide) ?_
      refine pg_iald hx hb hK hP hi_2 0 hb4 rfl (show vp_in (2 : Int32) 8 from (show vp_in (nI 2) 8 from vp_in_nI (by omega) (by omega))) dX12_round_197 ?_
      refine lv_topi (fun x_37 ex_37 => ?_)
      obtain rfl : x_37 = (fh 2) := ex_37.trans (congrArg fh (show (2 : Int32).toNatClampNeg = 2 by decide))
      refine lv_istore_n (lv' := [(3, .int (fh 2)), (2, .int (fh 1)), (1, .int (fh 0)), (0, .ref h0)]) hx hb dX12_round_198 rfl hl (by decide) rfl (fun ls hl => ?_)
      refine lv_aload_n hx hb dX12_round_199 rfl (lv_at hl 3 rfl) ?_
      refine pg_get (ci := 12) (v := .ref q2) (C := RX12) (T := TX12) (N := 7) hx hb hts it_12 hown hK hP hL_h0 hb3 rfl 1 (by decide) (hts _ kt_768) (fun _ h9 => h9) rfl dX12_round_200 ?_
      refine lv_iconst (v := 3) hx hb dX12_round_203 (by decide) ?_
      refine pg_iald hx hb hK hP hi_2 0 hb4 rfl (show vp_in (3 : Int32) 8 from (show vp_in (nI 3) 8 from vp_in_nI (by omega) (by omega))) dX12_round_204 ?_
      refine lv_topi (fun x_38 ex_38 => ?_)
      obtain rfl : x_38 = (fh 3) := ex_38.trans (congrArg fh (show (3 : Int32).toNatClampNeg = 3 by decide))
      refine lv_istore (lv' := [(4, .int (fh 3)), (3, .int (fh 2)), (2, .int (fh 1)), (1, .int (fh 0)), (0, .ref h0)]) hx hb dX12_round_205 hl (by decide) rfl (fun ls hl => ?_)
      refine lv_aload_n hx hb dX12_round_207 rfl (lv_at hl 4 rfl) ?_
      refine pg_get (ci := 12) (v := .ref q2) (C := RX12) (T := TX12) (N := 7) hx hb hts it_12 hown hK hP hL_h0 hb3 rfl 1 (by decide) (hts _ kt_768) (fun _ h9 => h9) rfl dX12_round_208 ?_
      refine lv_iconst (v := 4) hx hb dX12_round_211 (by decide) ?_
      refine pg_iald hx hb hK hP hi_2 0 hb4 rfl (show vp_in (4 : Int32) 8 from (show vp_in (nI 4) 8 from vp_in_nI (by omega) (by omega))) dX12_round_212 ?_
      refine lv_topi (fun x_39 ex_39 => ?_)
      obtain rfl : x_39 = (fh 4) := ex_39.trans (congrArg fh (show (4 : Int32).toNatClampNeg = 4 by decide))
      refine lv_istore (lv' := [(5, .int (fh 4)), (4, .int (fh 3)), (3, .int (fh 2)), (2, .int (fh 1)), (1, .int (fh 0)), (0, .ref h0)]) hx hb dX12_round_213 hl (by decide) rfl (fun ls hl => ?_)
      refine lv_aload_n hx hb dX12_round_215 rfl (lv_at hl 5 rfl) ?_
      refine pg_get (ci := 12) (v := .ref q2) (C := RX12) (T := TX12) (N := 7) hx hb hts it_12 hown hK hP hL_h0 hb3 rfl 1 (by decide) (hts _ kt_768) (fun _ h9 => h9) rfl dX12_round_216 ?_
      refine lv_iconst (v := 5) hx hb dX12_round_219 (by decide) ?_
      refine pg_iald hx hb hK hP hi_2 0 hb4 rfl (show vp_in (5 : Int32) 8 from (show vp_in (nI 5) 8 from vp_in_nI (by omega) (by omega))) dX12_round_220 ?_
      refine lv_topi (fun x_40 ex_40 => ?_)
      obtain rfl : x_40 = (fh 5) := ex_40.trans (congrArg fh (show (5 : Int32).toNatClampNeg = 5 by decide))
      refine lv_istore (lv' := [(6, .int (fh 5)), (5, .int (fh 4)), (4, .int (fh 3)), (3, .int (fh 2)), (2, .int (fh 1)), (1, .int (fh 0)), (0, .ref h0)]) hx hb dX12_round_221 hl (by decide) rfl (fun ls hl => ?_)
      refine lv_aload_n hx hb dX12_round_223 rfl (lv_at hl 6 rfl) ?_
      refine pg_get (ci := 12) (v := .ref q2) (C := RX12) (T := TX12) (N := 7) hx hb hts it_12 hown hK hP hL_h0 hb3 rfl 1 (by decide) (hts _ kt_768) (fun _ h9 => h9) rfl dX12_round_224 ?_
      refine lv_bipush (v := 6) hx hb dX12_round_227 (by decide) ?_
      refine pg_iald hx hb hK hP hi_2 0 hb4 rfl (show vp_in (6 : Int32) 8 from (show vp_in (nI 6) 8 from vp_in_nI (by omega) (by omega))) dX12_round_229 ?_
      refine lv_topi (fun x_41 ex_41 => ?_)
      obtain rfl : x_41 = (fh 6) := ex_41.trans (congrArg fh (show (6 : Int32).toNatClampNeg = 6 by decide))
      refine lv_istore (lv' := [(7, .int (fh 6)), (6, .int (fh 5)), (5, .int (fh 4)), (4, .int (fh 3)), (3, .int (fh 2)), (2, .int (fh 1)), (1, .int (fh 0)), (0, .ref h0)]) hx hb dX12_round_230 hl (by decide) rfl (fun ls hl => ?_)
      refine lv_aload_n hx hb dX12_round_232 rfl (lv_at hl 7 rfl) ?_
      refine pg_get (ci := 12) (v := .ref q2) (C := RX12) (T := TX12) (N := 7) hx hb hts it_12 hown hK hP hL_h0 hb3 rfl 1 (by decide) (hts _ kt_768) (fun _ h9 => h9) rfl dX12_round_233 ?_
      refine lv_bipush (v := 7) hx hb dX12_round_236 (by decide) ?_
      refine pg_iald hx hb hK hP hi_2 0 hb4 rfl (show vp_in (7 : Int32) 8 from (show vp_in (nI 7) 8 from vp_in_nI (by omega) (by omega))) dX12_round_238 ?_
      refine lv_topi (fun x_42 ex_42 => ?_)
      obtain rfl : x_42 = (fh 7) := ex_42.trans (congrArg fh (show (7 : Int32).toNatClampNeg = 7 by decide))
      refine lv_istore (lv' := [(8, .int (fh 7)), (7, .int (fh 6)), (6, .int (fh 5)), (5, .int (fh 4)), (4, .int (fh 3)), (3, .int (fh 2)), (2, .int (fh 1)), (1, .int (fh 0)), (0, .ref h0)]) hx hb dX12_round_239 hl (by decide) rfl (fun ls hl => ?_)
      refine lv_iconst (v := 0) hx hb dX12_round_241 (by decide) ?_
      refine lv_istore (lv' := [(9, .int 0), (8, .int (fh 7)), (7, .int (fh 6)), (6, .int (fh 5)), (5, .int (fh 4)), (4, .int (fh 3)), (3, .int (fh 2)), (2, .int (fh 1)), (1, .int (fh 0)), (0, .ref h0)]) hx hb dX12_round_242 hl (by decide) rfl (fun ls hl => ?_)
      refine W.widen (k := 0) (n := 0) (by omega) (by omega) ?_
      obtain ⟨hq_44, hq_45⟩ := hW.ints hi_3 ht_8
      refine pl_loopm (σ := Nat × Int32 × Int32 × Int32 × Int32 × Int32 × Int32 × Int32 × Int32) A (dC, dI) cs ty gm L [ρ] F 244 12 (fun (t3, w1, w2, w3, w4, w5, w6, w7, w8) => [(9, .int (nI t3)), (8, .int w8), (7, .int w7), (6, .int w6), (5, .int w5), (4, .int w4), (3, .int w3), (2, .int w2), (1, .int w1), (0, .ref h0)]) (fun (t3, w1, w2, w3, w4, w5, w6, w7, w8) => []) (fun (t3, w1, w2, w3, w4, w5, w6, w7, w8) FF => t3 ≤ 64 ∧ FF h0 = .inr (12, [.ref q1, .ref q2, .ref q3, .ref q4, .ref q5, .int (nI z), .long v]) ∧ FF q2 = .inl (cs 16, 8, .inl fh) ∧ FF q3 = .inl (cs 16, 64, .inl (sch fw 48)) ∧ R8 (rnd shF (sch fw 48) fh t3) w1 w2 w3 w4 w5 w6 w7 w8) (fun (t3, w1, w2, w3, w4, w5, w6, w7, w8) => 64 - t3) ?_ (0, (fh 0), (fh 1), (fh 2), (fh 3), (fh 4), (fh 5), (fh 6), (fh 7)) F_24 (⟨by omega, hb3, hb4, hb5, rfl, rfl, rfl, rfl, rfl, rfl, rfl, rfl⟩) hO hR _ _ hP hD hS ls (lv_sub hl [0, 1, 2, 3, 4, 5, 6, 7, 8, 9] rfl)
      rintro ⟨t3, w1, w2, w3, w4, w5, w6, w7, w8⟩ F_43 hv_46 hO hR ih_47 H locs hP hD hS ls hl
      have hl : lv_has ls 12 [(9, .int (nI t3)), (8, .int w8), (7, .int w7), (6, .int w6), (5, .int w5), (4, .int w4), (3, .int w3), (2, .int w2), (1, .int w1), (0, .ref h0)] := hl
      have hv_46 : t3 ≤ 64 ∧ F_43 h0 = .inr (12, [.ref q1, .ref q2, .ref q3, .ref q4, .ref q5, .int (nI z), .long v]) ∧ F_43 q2 = .inl (cs 16, 8, .inl fh) ∧ F_43 q3 = .inl (cs 16, 64, .inl (sch fw 48)) ∧ R8 (rnd shF (sch fw 48) fh t3) w1 w2 w3 w4 w5 w6 w7 w8 := hv_46
      refine W.eq (g2 := F0 m 244 ls []) rfl ?_
      obtain ⟨hc1, hc2, hc3, hc4, hc5⟩ := id hv_46
      refine lv_iload hx hb dX12_round_244 (lv_at hl 0 rfl) ?_
      refine lv_bipush (v := 64) hx hb dX12_round_246 (by decide) ?_
      refine lv_icmp_ge (tgt := 380) hx hb dX12_round_248 (by decide) (fun c_48 => ?_) (fun c_48 => ?_)
      ·
        have hi_49 : 64 ≤ t3 := leN (N := 64) c_48
        have hu64 : t3 = 64 := by omega
        subst hu64
        refine lv_aload_n hx hb dX12_round_380 rfl (lv_at hl 9 rfl) ?_
        refine pg_get (ci := 12) (v := .ref q2) (C := RX12) (T := TX12) (N := 7) hx hb hts it_12 hown hK hP hL_h0 hc2 rfl 1 (by decide) (hts _ kt_768) (fun _ h9 => h9) rfl dX12_round_381 ?_
        refine lv_iconst (v := 0) hx hb dX12_round_384 (by decide) ?_
        refine lv_dup2_11 hx hb dX12_round_385 rfl rfl ?_
        refine pg_iald hx hb hK hP hi_2 0 hc3 rfl (show vp_in (0 : Int32) 8 from (show vp_in (nI 0) 8 from vp_in_nI (by omega) (by omega))) dX12_round_386 ?_
        refine lv_topi (fun x_50 ex_50 => ?_)
        obtain rfl : x_50 = (fh 0) := ex_50.trans ((congrArg fh (show (0 : Int32).toNatClampNeg = 0 by decide)).trans rfl)
        refine lv_iload_n hx hb dX12_round_387 rfl (lv_at hl 8 rfl) ?_
        refine lv_iadd hx hb dX12_round_388 ?_
        refine lv_topi (fun x_51 ex_51 => ?_)
        obtain rfl : x_51 = ((fh 0) + w1) := ex_51.trans (rfl)
        refine pg_iast hx hb hK hP hD hS hi_2 0 hc3 rfl (show vp_in (0 : Int32) 8 from (show vp_in (nI 0) 8 from vp_in_nI (by omega) (by omega))) dX12_round_389 (fun H locs hP hD hS => ?_)
        obtain ⟨F_52, he_53, hP, hD, hO, hR⟩ : ∃ G, G = va_up F_43 q2 (.inl (cs 16, 8, .inl (upd fh (0 : Int32).toNatClampNeg (((fh 0) + w1))))) ∧ va_P (dC, dI) vwCl (va_pl L G) H ∧ va_D A (va_pl L G) ∧ OKm cs ty gm L G ∧ FR ty [ρ] F G := ⟨_, rfl, hP, hD, hO.up (shm.ints ht_7 ⟨_, rfl⟩), hR.up ht_7 (by simp)⟩
        have hF_54 : F_52 q2 = .inl (cs 16, 8, .inl (upd fh (0 : Int32).toNatClampNeg (((fh 0) + w1)))) := by rw [he_53]; exact up_self
        have hF_55 : F_52 h0 = .inr (12, [.ref q1, .ref q2, .ref q3, .ref q4, .ref q5, .int (nI z), .long v]) := by rw [he_53, up_ne (ne_ty hT_h0 ht_7 (by simp))]; exact hc2
        have hF_56 : F_52 q3 = .inl (cs 16, 64, .inl (sch fw 48)) := by rw [he_53, up_ne (ne_ty2 ht_8 ht_7 (by simp))]; exact hc4
        have hF_57 : F_52 q2 = .inl (cs 16, 8, .inl (upd fh 0 ((fh 0) + w1))) := by have h9 := hF_54; rwa [show (0 : Int32).toNatClampNeg = 0 by decide] at h9
        refine lv_aload_n hx hb dX12_round_390 rfl (lv_at hl 9 rfl) ?_
        refine pg_get (ci := 12) (v := .ref q2) (C := RX12) (T := TX12) (N := 7) hx hb hts it_12 hown hK hP hL_h0 hF_55 rfl 1 (by decide) (hts _ kt_768) (fun _ h9 => h9) rfl dX12_round_391 ?_
        refine lv_iconst (v := 1) hx hb dX12_round_394 (by decide) ?_
        refine lv_dup2_11 hx hb dX12_round_395 rfl rfl ?_
        refine pg_iald hx hb hK hP hi_2 0 hF_57 rfl (show vp_in (1 : Int32) 8 from (show vp_in (nI 1) 8 from vp_in_nI (by omega) (by omega))) dX12_round_396 ?_
        refine lv_topi (fun x_58 ex_58 => ?_)
        obtain rfl : x_58 = (fh 1) := ex_58.trans ((congrArg (upd fh 0 ((fh 0) + w1)) (show (1 : Int32).toNatClampNeg = 1 by decide)).trans rfl)
        refine lv_iload_n hx hb dX12_round_397 rfl (lv_at hl 7 rfl) ?_
        refine lv_iadd hx hb dX12_round_398 ?_
        refine lv_topi (fun x_59 ex_59 => ?_)
        obtain rfl : x_59 = ((fh 1) + w2) := ex_59.trans (rfl)
        refine pg_iast hx hb hK hP hD hS hi_2 0 hF_57 rfl (show vp_in (1 : Int32) 8 from (show vp_in (nI 1) 8 from vp_in_nI (by omega) (by omega))) dX12_round_399 (fun H locs hP hD hS => ?_)
        obtain ⟨F_60, he_61, hP, hD, hO, hR⟩ : ∃ G, G = va_up F_52 q2 (.inl (cs 16, 8, .inl (upd (upd fh 0 ((fh 0) + w1)) (1 : Int32).toNatClampNeg (((fh 1) + w2))))) ∧ va_P (dC, dI) vwCl (va_pl L G) H ∧ va_D A (va_pl L G) ∧ OKm cs ty gm L G ∧ FR ty [ρ] F G := ⟨_, rfl, hP, hD, hO.up (shm.ints ht_7 ⟨_, rfl⟩), hR.up ht_7 (by simp)⟩
        have hF_62 : F_60 q2 = .inl (cs 16, 8, .inl (upd (upd fh 0 ((fh 0) + w1)) (1 : Int32).toNatClampNeg (((fh 1) + w2)))) := by rw [he_61]; exact up_self
        have hF_63 : F_60 h0 = .inr (12, [.ref q1, .ref q2, .ref q3, .ref q4, .ref q5, .int (nI z), .long v]) := by rw [he_61, up_ne (ne_ty hT_h0 ht_7 (by simp))]; exact hF_55
        have hF_64 : F_60 q3 = .inl (cs 16, 64, .inl (sch fw 48)) := by rw [he_61, up_ne (ne_ty2 ht_8 ht_7 (by simp))]; exact hF_56
        have hF_65 : F_60 q2 = .inl (cs 16, 8, .inl (upd (upd fh 0 ((fh 0) + w1)) 1 ((fh 1) + w2))) := by have h9 := hF_62; rwa [show (1 : Int32).toNatClampNeg = 1 by decide] at h9
        refine lv_aload_n hx hb dX12_round_400 rfl (lv_at hl 9 rfl) ?_
        refine pg_get (ci := 12) (v := .ref q2) (C := RX12) (T := TX12) (N := 7) hx hb hts it_12 hown hK hP hL_h0 hF_63 rfl 1 (by decide) (hts _ kt_768) (fun _ h9 => h9) rfl dX12_round_401 ?_
        refine lv_iconst (v := 2) hx hb dX12_round_404 (by decide) ?_
        refine lv_dup2_11 hx hb dX12_round_405 rfl rfl ?_
        refine pg_iald hx hb hK hP hi_2 0 hF_65 rfl (show vp_in (2 : Int32) 8 from (show vp_in (nI 2) 8 from vp_in_nI (by omega) (by omega))) dX12_round_406 ?_
        refine lv_topi (fun x_66 ex_66 => ?_)
        obtain rfl : x_66 = (fh 2) := ex_66.trans ((congrArg (upd (upd fh 0 ((fh 0) + w1)) 1 ((fh 1) + w2)) (show (2 : Int32).toNatClampNeg = 2 by decide)).trans rfl)
        refine lv_iload_n hx hb dX12_round_407 rfl (lv_at hl 6 rfl) ?_
        refine lv_iadd hx hb dX12_round_408 ?_
        refine lv_topi (fun x_67 ex_67 => ?_)
        obtain rfl : x_67 = ((fh 2) + w3) := ex_67.trans (rfl)
        refine pg_iast hx hb hK hP hD hS hi_2 0 hF_65 rfl (show vp_in (2 : Int32) 8 from (show vp_in (nI 2) 8 from vp_in_nI (by omega) (by omega))) dX12_round_409 (fun H locs hP hD hS => ?_)
        obtain ⟨F_68, he_69, hP, hD, hO, hR⟩ : ∃ G, G = va_up F_60 q2 (.inl (cs 16, 8, .inl (upd (upd (upd fh 0 ((fh 0) + w1)) 1 ((fh 1) + w2)) (2 : Int32).toNatClampNeg (((fh 2) + w3))))) ∧ va_P (dC, dI) vwCl (va_pl L G) H ∧ va_D A (va_pl L G) ∧ OKm cs ty gm L G ∧ FR ty [ρ] F G := ⟨_, rfl, hP, hD, hO.up (shm.ints ht_7 ⟨_, rfl⟩), hR.up ht_7 (by simp)⟩
        have hF_70 : F_68 q2 = .inl (cs 16, 8, .inl (upd (upd (upd fh 0 ((fh 0) + w1)) 1 ((fh 1) + w2)) (2 : Int32).toNatClampNeg (((fh 2) + w3)))) := by rw [he_69]; exact up_self
        have hF_71 : F_68 h0 = .inr (12, [.ref q1, .ref q2, .ref q3, .ref q4, .ref q5, .int (nI z), .long v]) := by rw [he_69, up_ne (ne_ty hT_h0 ht_7 (by simp))]; exact hF_63
        have hF_72 : F_68 q3 = .inl (cs 16, 64, .inl (sch fw 48)) := by rw [he_69, up_ne (ne_ty2 ht_8 ht_7 (by simp))]; exact hF_64
        have hF_73 : F_68 q2 = .inl (cs 16, 8, .inl (upd (upd (upd fh 0 ((fh 0) + w1)) 1 ((fh 1) + w2)) 2 ((fh 2) + w3))) := by have h9 := hF_70; rwa [show (2 : Int32).toNatClampNeg = 2 by decide] at h9
        refine lv_aload_n hx hb dX12_round_410 rfl (lv_at hl 9 rfl) ?_
        refine pg_get (ci := 12) (v := .ref q2) (C := RX12) (T := TX12) (N := 7) hx hb hts it_12 hown hK hP hL_h0 hF_71 rfl 1 (by decide) (hts _ kt_768) (fun _ h9 => h9) rfl dX12_round_411 ?_
        refine lv_iconst (v := 3) hx hb dX12_round_414 (by decide) ?_
        refine lv_dup2_11 hx hb dX12_round_415 rfl rfl ?_
        refine pg_iald hx hb hK hP hi_2 0 hF_73 rfl (show vp_in (3 : Int32) 8 from (show vp_in (nI 3) 8 from vp_in_nI (by omega) (by omega))) dX12_round_416 ?_
        refine lv_topi (fun x_74 ex_74 => ?_)
        obtain rfl : x_74 = (fh 3) := ex_74.trans ((congrArg (upd (upd (upd fh 0 ((fh 0) + w1)) 1 ((fh 1) + w2)) 2 ((fh 2) + w3)) (show (3 : Int32).toNatClampNeg = 3 by decide)).trans rfl)
        refine lv_iload hx hb dX12_round_417 (lv_at hl 5 rfl) ?_
        refine lv_iadd hx hb dX12_round_419 ?_
        refine lv_topi (fun x_75 ex_75 => ?_)
        obtain rfl : x_75 = ((fh 3) + w4) := ex_75.trans (rfl)
        refine pg_iast hx hb hK hP hD hS hi_2 0 hF_73 rfl (show vp_in (3 : Int32) 8 from (show vp_in (nI 3) 8 from vp_in_nI (by omega) (by omega))) dX12_round_420 (fun H locs hP hD hS => ?_)
        obtain ⟨F_76, he_77, hP, hD, hO, hR⟩ : ∃ G, G = va_up F_68 q2 (.inl (cs 16, 8, .inl (upd (upd (upd (upd fh 0 ((fh 0) + w1)) 1 ((fh 1) + w2)) 2 ((fh 2) + w3)) (3 : Int32).toNatClampNeg (((fh 3) + w4))))) ∧ va_P (dC, dI) vwCl (va_pl L G) H ∧ va_D A (va_pl L G) ∧ OKm cs ty gm L G ∧ FR ty [ρ] F G := ⟨_, rfl, hP, hD, hO.up (shm.ints ht_7 ⟨_, rfl⟩), hR.up ht_7 (by simp)⟩
        have hF_78 : F_76 q2 = .inl (cs 16, 8, .inl (upd (upd (upd (upd fh 0 ((fh 0) + w1)) 1 ((fh 1) + w2)) 2 ((fh 2) + w3)) (3 : Int32).toNatClampNeg (((fh 3) + w4)))) := by rw [he_77]; exact up_self
        have hF_79 : F_76 h0 = .inr (12, [.ref q1, .ref q2, .ref q3, .ref q4, .ref q5, .int (nI z), .long v]) := by rw [he_77, up_ne (ne_ty hT_h0 ht_7 (by simp))]; exact hF_71
        have hF_80 : F_76 q3 = .inl (cs 16, 64, .inl (sch fw 48)) := by rw [he_77, up_ne (ne_ty2 ht_8 ht_7 (by simp))]; exact hF_72
        have hF_81 : F_76 q2 = .inl (cs 16, 8, .inl (upd (upd (upd (upd fh 0 ((fh 0) + w1)) 1 ((fh 1) + w2)) 2 ((fh 2) + w3)) 3 ((fh 3) + w4))) := by have h9 := hF_78; rwa [show (3 : Int32).toNatClampNeg = 3 by decide] at h9
        refine lv_aload_n hx hb dX12_round_421 rfl (lv_at hl 9 rfl) ?_
        refine pg_get (ci := 12) (v := .ref q2) (C := RX12) (T := TX12) (N := 7) hx hb hts it_12 hown hK hP hL_h0 hF_79 rfl 1 (by decide) (hts _ kt_768) (fun _ h9 => h9) rfl dX12_round_422 ?_
        refine lv_iconst (v := 4) hx hb dX12_round_425 (by decide) ?_
        refine lv_dup2_11 hx hb dX12_round_426 rfl rfl ?_
        refine pg_iald hx hb hK hP hi_2 0 hF_81 rfl (show vp_in (4 : Int32) 8 from (show vp_in (nI 4) 8 from vp_in_nI (by omega) (by omega))) dX12_round_427 ?_
        refine lv_topi (fun x_82 ex_82 => ?_)
        obtain rfl : x_82 = (fh 4) := ex_82.trans ((congrArg (upd (upd (upd (upd fh 0 ((fh 0) + w1)) 1 ((fh 1) + w2)) 2 ((fh 2) + w3)) 3 ((fh 3) + w4)) (show (4 : Int32).toNatClampNeg = 4 by decide)).trans rfl)
        refine lv_iload hx hb dX12_round_428 (lv_at hl 4 rfl) ?_
        refine lv_iadd hx hb dX12_round_430 ?_
        refine lv_topi (fun x_83 ex_83 => ?_)
        obtain rfl : x_83 = ((fh 4) + w5) := ex_83.trans (rfl)
        refine pg_iast hx hb hK hP hD hS hi_2 0 hF_81 rfl (show vp_in (4 : Int32) 8 from (show vp_in (nI 4) 8 from vp_in_nI (by omega) (by omega))) dX12_round_431 (fun H locs hP hD hS => ?_)
        obtain ⟨F_84, he_85, hP, hD, hO, hR⟩ : ∃ G, G = va_up F_76 q2 (.inl (cs 16, 8, .inl (upd (upd (upd (upd (upd fh 0 ((fh 0) + w1)) 1 ((fh 1) + w2)) 2 ((fh 2) + w3)) 3 ((fh 3) + w4)) (4 : Int32).toNatClampNeg (((fh 4) + w5))))) ∧ va_P (dC, dI) vwCl (va_pl L G) H ∧ va_D A (va_pl L G) ∧ OKm cs ty gm L G ∧ FR ty [ρ] F G := ⟨_, rfl, hP, hD, hO.up (shm.ints ht_7 ⟨_, rfl⟩), hR.up ht_7 (by simp)⟩
        have hF_86 : F_84 q2 = .inl (cs 16, 8, .inl (upd (upd (upd (upd (upd fh 0 ((fh 0) + w1)) 1 ((fh 1) + w2)) 2 ((fh 2) + w3)) 3 ((fh 3) + w4)) (4 : Int32).toNatClampNeg (((fh 4) + w5)))) := by rw [he_85]; exact up_self
        have hF_87 : F_84 h0 = .inr (12, [.ref q1, .ref q2, .ref q3, .ref q4, .ref q5, .int (nI z), .long v]) := by rw [he_85, up_ne (ne_ty hT_h0 ht_7 (by simp))]; exact hF_79
        have hF_88 : F_84 q3 = .inl (cs 16, 64, .inl (sch fw 48)) := by rw [he_85, up_ne (ne_ty2 ht_8 ht_7 (by simp))]; exact hF_80
        have hF_89 : F_84 q2 = .inl (cs 16, 8, .inl (upd (upd (upd (upd (upd fh 0 ((fh 0) + w1)) 1 ((fh 1) + w2)) 2 ((fh 2) + w3)) 3 ((fh 3) + w4)) 4 ((fh 4) + w5))) := by have h9 := hF_86; rwa [show (4 : Int32).toNatClampNeg = 4 by decide] at h9
        refine lv_aload_n hx hb dX12_round_432 rfl (lv_at hl 9 rfl) ?_
        refine pg_get (ci := 12) (v := .ref q2) (C := RX12) (T := TX12) (N := 7) hx hb hts it_12 hown hK hP hL_h0 hF_87 rfl 1 (by decide) (hts _ kt_768) (fun _ h9 => h9) rfl dX12_round_433 ?_
        refine lv_iconst (v := 5) hx hb dX12_round_436 (by decide) ?_
        refine lv_dup2_11 hx hb dX12_round_437 rfl rfl ?_
        refine pg_iald hx hb hK hP hi_2 0 hF_89 rfl (show vp_in (5 : Int32) 8 from (show vp_in (nI 5) 8 from vp_in_nI (by omega) (by omega))) dX12_round_438 ?_
        refine lv_topi (fun x_90 ex_90 => ?_)
        obtain rfl : x_90 = (fh 5) := ex_90.trans ((congrArg (upd (upd (upd (upd (upd fh 0 ((fh 0) + w1)) 1 ((fh 1) + w2)) 2 ((fh 2) + w3)) 3 ((fh 3) + w4)) 4 ((fh 4) + w5)) (show (5 : Int32).toNatClampNeg = 5 by decide)).trans rfl)
        refine lv_iload hx hb dX12_round_439 (lv_at hl 3 rfl) ?_
        refine lv_iadd hx hb dX12_round_441 ?_
        refine lv_topi (fun x_91 ex_91 => ?_)
        obtain rfl : x_91 = ((fh 5) + w6) := ex_91.trans (rfl)
        refine pg_iast hx hb hK hP hD hS hi_2 0 hF_89 rfl (show vp_in (5 : Int32) 8 from (show vp_in (nI 5) 8 from vp_in_nI (by omega) (by omega))) dX12_round_442 (fun H locs hP hD hS => ?_)
        obtain ⟨F_92, he_93, hP, hD, hO, hR⟩ : ∃ G, G = va_up F_84 q2 (.inl (cs 16, 8, .inl (upd (upd (upd (upd (upd (upd fh 0 ((fh 0) + w1)) 1 ((fh 1) + w2)) 2 ((fh 2) + w3)) 3 ((fh 3) + w4)) 4 ((fh 4) + w5)) (5 : Int32).toNatClampNeg (((fh 5) + w6))))) ∧ va_P (dC, dI) vwCl (va_pl L G) H ∧ va_D A (va_pl L G) ∧ OKm cs ty gm L G ∧ FR ty [ρ] F G := ⟨_, rfl, hP, hD, hO.up (shm.ints ht_7 ⟨_, rfl⟩), hR.up ht_7 (by simp)⟩
        have hF_94 : F_92 q2 = .inl (cs 16, 8, .inl (upd (upd (upd (upd (upd (upd fh 0 ((fh 0) + w1)) 1 ((fh 1) + w2)) 2 ((fh 2) + w3)) 3 ((fh 3) + w4)) 4 ((fh 4) + w5)) (5 : Int32).toNatClampNeg (((fh 5) + w6)))) := by rw [he_93]; exact up_self
        have hF_95 : F_92 h0 = .inr (12, [.ref q1, .ref q2, .ref q3, .ref q4, .ref q5, .int (nI z), .long v]) := by rw [he_93, up_ne (ne_ty hT_h0 ht_7 (by simp))]; exact hF_87
        have hF_96 : F_92 q3 = .inl (cs 16, 64, .inl (sch fw 48)) := by rw [he_93, up_ne (ne_ty2 ht_8 ht_7 (by simp))]; exact hF_88
        have hF_97 : F_92 q2 = .inl (cs 16, 8, .inl (upd (upd (upd (upd (upd (upd fh 0 ((fh 0) + w1)) 1 ((fh 1) + w2)) 2 ((fh 2) + w3)) 3 ((fh 3) + w4)) 4 ((fh 4) + w5)) 5 ((fh 5) + w6))) := by have h9 := hF_94; rwa [show (5 : Int32).toNatClampNeg = 5 by decide] at h9
        refine lv_aload_n hx hb dX12_round_443 rfl (lv_at hl 9 rfl) ?_
        refine pg_get (ci := 12) (v := .ref q2) (C := RX12) (T := TX12) (N := 7) hx hb hts it_12 hown hK hP hL_h0 hF_95 rfl 1 (by decide) (hts _ kt_768) (fun _ h9 => h9) rfl dX12_round_444 ?_
        refine lv_bipush (v := 6) hx hb dX12_round_447 (by decide) ?_
        refine lv_dup2_11 hx hb dX12_round_449 rfl rfl ?_
        refine pg_iald hx hb hK hP hi_2 0 hF_97 rfl (show vp_in (6 : Int32) 8 from (show vp_in (nI 6) 8 from vp_in_nI (by omega) (by omega))) dX12_round_450 ?_
        refine lv_topi (fun x_98 ex_98 => ?_)
        obtain rfl : x_98 = (fh 6) := ex_98.trans ((congrArg (upd (upd (upd (upd (upd (upd fh 0 ((fh 0) + w1)) 1 ((fh 1) + w2)) 2 ((fh 2) + w3)) 3 ((fh 3) + w4)) 4 ((fh 4) + w5)) 5 ((fh 5) + w6)) (show (6 : Int32).toNatClampNeg = 6 by decide)).trans rfl)
        refine lv_iload hx hb dX12_round_451 (lv_at hl 2 rfl) ?_
        refine lv_iadd hx hb dX12_round_453 ?_
        refine lv_topi (fun x_99 ex_99 => ?_)
        obtain rfl : x_99 = ((fh 6) + w7) := ex_99.trans (rfl)
        refine pg_iast hx hb hK hP hD hS hi_2 0 hF_97 rfl (show vp_in (6 : Int32) 8 from (show vp_in (nI 6) 8 from vp_in_nI (by omega) (by omega))) dX12_round_454 (fun H locs hP hD hS => ?_)
        obtain ⟨F_100, he_101, hP, hD, hO, hR⟩ : ∃ G, G = va_up F_92 q2 (.inl (cs 16, 8, .inl (upd (upd (upd (upd (upd (upd (upd fh 0 ((fh 0) + w1)) 1 ((fh 1) + w2)) 2 ((fh 2) + w3)) 3 ((fh 3) + w4)) 4 ((fh 4) + w5)) 5 ((fh 5) + w6)) (6 : Int32).toNatClampNeg (((fh 6) + w7))))) ∧ va_P (dC, dI) vwCl (va_pl L G) H ∧ va_D A (va_pl L G) ∧ OKm cs ty gm L G ∧ FR ty [ρ] F G := ⟨_, rfl, hP, hD, hO.up (shm.ints ht_7 ⟨_, rfl⟩), hR.up ht_7 (by simp)⟩
        have hF_102 : F_100 q2 = .inl (cs 16, 8, .inl (upd (upd (upd (upd (upd (upd (upd fh 0 ((fh 0) + w1)) 1 ((fh 1) + w2)) 2 ((fh 2) + w3)) 3 ((fh 3) + w4)) 4 ((fh 4) + w5)) 5 ((fh 5) + w6)) (6 : Int32).toNatClampNeg (((fh 6) + w7)))) := by rw [he_101]; exact up_self
        have hF_103 : F_100 h0 = .inr (12, [.ref q1, .ref q2, .ref q3, .ref q4, .ref q5, .int (nI z), .long v]) := by rw [he_101, up_ne (ne_ty hT_h0 ht_7 (by simp))]; exact hF_95
        have hF_104 : F_100 q3 = .inl (cs 16, 64, .inl (sch fw 48)) := by rw [he_101, up_ne (ne_ty2 ht_8 ht_7 (by simp))]; exact hF_96
        have hF_105 : F_100 q2 = .inl (cs 16, 8, .inl (upd (upd (upd (upd (upd (upd (upd fh 0 ((fh 0) + w1)) 1 ((fh 1) + w2)) 2 ((fh 2) + w3)) 3 ((fh 3) + w4)) 4 ((fh 4) + w5)) 5 ((fh 5) + w6)) 6 ((fh 6) + w7))) := by have h9 := hF_102; rwa [show (6 : Int32).toNatClampNeg = 6 by decide] at h9
        refine lv_aload_n hx hb dX12_round_455 rfl (lv_at hl 9 rfl) ?_
        refine pg_get (ci := 12) (v := .ref q2) (C := RX12) (T := TX12) (N := 7) hx hb hts it_12 hown hK hP hL_h0 hF_103 rfl 1 (by decide) (hts _ kt_768) (fun _ h9 => h9) rfl dX12_round_456 ?_
        refine lv_bipush (v := 7) hx hb dX12_round_459 (by decide) ?_
        refine lv_dup2_11 hx hb dX12_round_461 rfl rfl ?_
        refine pg_iald hx hb hK hP hi_2 0 hF_105 rfl (show vp_in (7 : Int32) 8 from (show vp_in (nI 7) 8 from vp_in_nI (by omega) (by omega))) dX12_round_462 ?_
        refine lv_topi (fun x_106 ex_106 => ?_)
        obtain rfl : x_106 = (fh 7) := ex_106.trans ((congrArg (upd (upd (upd (upd (upd (upd (upd fh 0 ((fh 0) + w1)) 1 ((fh 1) + w2)) 2 ((fh 2) + w3)) 3 ((fh 3) + w4)) 4 ((fh 4) + w5)) 5 ((fh 5) + w6)) 6 ((fh 6) + w7)) (show (7 : Int32).toNatClampNeg = 7 by decide)).trans rfl)
        refine lv_iload hx hb dX12_round_463 (lv_at hl 1 rfl) ?_
        refine lv_iadd hx hb dX12_round_465 ?_
        refine lv_topi (fun x_107 ex_107 => ?_)
        obtain rfl : x_107 = ((fh 7) + w8) := ex_107.trans (rfl)
        refine pg_iast hx hb hK hP hD hS hi_2 0 hF_105 rfl (show vp_in (7 : Int32) 8 from (show vp_in (nI 7) 8 from vp_in_nI (by omega) (by omega))) dX12_round_466 (fun H locs hP hD hS => ?_)
        obtain ⟨F_108, he_109, hP, hD, hO, hR⟩ : ∃ G, G = va_up F_100 q2 (.inl (cs 16, 8, .inl (upd (upd (upd (upd (upd (upd (upd (upd fh 0 ((fh 0) + w1)) 1 ((fh 1) + w2)) 2 ((fh 2) + w3)) 3 ((fh 3) + w4)) 4 ((fh 4) + w5)) 5 ((fh 5) + w6)) 6 ((fh 6) + w7)) (7 : Int32).toNatClampNeg (((fh 7) + w8))))) ∧ va_P (dC, dI) vwCl (va_pl L G) H ∧ va_D A (va_pl L G) ∧ OKm cs ty gm L G ∧ FR ty [ρ] F G := ⟨_, rfl, hP, hD, hO.up (shm.ints ht_7 ⟨_, rfl⟩), hR.up ht_7 (by simp)⟩
        have hF_110 : F_108 q2 = .inl (cs 16, 8, .inl (upd (upd (upd (upd (upd (upd (upd (upd fh 0 ((fh 0) + w1)) 1 ((fh 1) + w2)) 2 ((fh 2) + w3)) 3 ((fh 3) + w4)) 4 ((fh 4) + w5)) 5 ((fh 5) + w6)) 6 ((fh 6) + w7)) (7 : Int32).toNatClampNeg (((fh 7) + w8)))) := by rw [he_109]; exact up_self
        have hF_111 : F_108 h0 = .inr (12, [.ref q1, .ref q2, .ref q3, .ref q4, .ref q5, .int (nI z), .long v]) := by rw [he_109, up_ne (ne_ty hT_h0 ht_7 (by simp))]; exact hF_103
        have hF_112 : F_108 q3 = .inl (cs 16, 64, .inl (sch fw 48)) := by rw [he_109, up_ne (ne_ty2 ht_8 ht_7 (by simp))]; exact hF_104
        have hF_113 : F_108 q2 = .inl (cs 16, 8, .inl (upd (upd (upd (upd (upd (upd (upd (upd fh 0 ((fh 0) + w1)) 1 ((fh 1) + w2)) 2 ((fh 2) + w3)) 3 ((fh 3) + w4)) 4 ((fh 4) + w5)) 5 ((fh 5) + w6)) 6 ((fh 6) + w7)) 7 ((fh 7) + w8))) := by have h9 := hF_110; rwa [show (7 : Int32).toNatClampNeg = 7 by decide] at h9
        refine W.widen (k := 0) (n := 0) (by omega) (by omega) ?_
        exact W.vret hx hb hr (fun t ht hWm => ⟨⟨(), rfl, trivial, ⟨F_108, (upd (upd (upd (upd (upd (upd (upd (upd fh 0 ((fh 0) + w1)) 1 ((fh 1) + w2)) 2 ((fh 2) + w3)) 3 ((fh 3) + w4)) 4 ((fh 4) + w5)) 5 ((fh 5) + w6)) 6 ((fh 6) + w7)) 7 ((fh 7) + w8)), QTm.mk ht hP hD hO hR, hF_111, hF_113, (R8.out hc5 (fun j hj => sch_cg ha6 48 j (by omega)))⟩⟩, hS.F ht⟩) hS.2.2 dX12_round_467
      ·
        have hi_114 : t3 < 64 := ltN (N := 64) c_48
        refine lv_iload hx hb dX12_round_251 (lv_at hl 1 rfl) ?_
        refine lv_iload hx hb dX12_round_253 (lv_at hl 4 rfl) ?_
        refine lv_bipush (v := 6) hx hb dX12_round_255 (by decide) ?_
        have hFc := pg_free hD hS hA
        refine va_calli (va_runS (As := [.int w5, .int 6]) (rest := [.int w8]) ⟨hx, hb, hml, hown, hts⟩ (m_J6_rotateRight_e l dC dI cs ty gm L H.size F_43 w5 6 hW ) ⟨callB_of 2 hts (gi kt_769) rfl rfl rfl (hts _ kt_770) (hts _ kt_771) (by decide +kernel) ⟨Nat.le_of_ble_eq_true rfl, Nat.le_of_ble_eq_true rfl⟩, (hts _ kt_772)⟩ ⟨fun a U g mk q => ⟨q.1, PTm.calling q.2⟩, fun U hU hWm => ⟨rfl, PTm.mk hU hWm hP hK hD hE hO⟩⟩ rfl rfl hl.1 rfl (lv_room (Nat.le_of_ble_eq_true rfl)) dX12_round_257 ⟨by show _ + 0 ≤ 0; omega, by show _ + 0 ≤ 0; omega⟩) hS (fun q _ h => hFc q h) hFc (fun r_115 u t H1 locs ht hvm hw hB hz1 hk1 hS => ?_)
        obtain ⟨F_116, hB1⟩ := hB
        obtain rfl : F_43 = F_116 := (funext (fun a => hB1.2.2.2 a List.not_mem_nil)).symm
        obtain ⟨hP, hD, hO, hR⟩ := QTm.back hB1 ht hFc hR (fun q h => absurd h List.not_mem_nil)
        generalize H1 = H at hP hS ⊢
        have hw : r_115 = rot w5 6 (-6) := hw
        subst hw
        refine lv_iload hx hb dX12_round_260 (lv_at hl 4 rfl) ?_
        refine lv_bipush (v := 11) hx hb dX12_round_262 (by decide) ?_
        have hFc := pg_free hD hS hA
        refine va_calli (va_runS (As := [.int w5, .int 11]) (rest := [.int (rot w5 6 (-6)), .int w8]) ⟨hx, hb, hml, hown, hts⟩ (m_J6_rotateRight_e l dC dI cs ty gm L H.size F_43 w5 11 hW ) ⟨callB_of 2 hts (gi kt_769) rfl rfl rfl (hts _ kt_770) (hts _ kt_771) (by decide +kernel) ⟨Nat.le_of_ble_eq_true rfl, Nat.le_of_ble_eq_true rfl⟩, (hts _ kt_772)⟩ ⟨fun a U g mk q => ⟨q.1, PTm.calling q.2⟩, fun U hU hWm => ⟨rfl, PTm.mk hU hWm hP hK hD hE hO⟩⟩ rfl rfl hl.1 rfl (lv_room (Nat.le_of_ble_eq_true rfl)) dX12_round_264 ⟨by show _ + 0 ≤ 0; omega, by show _ + 0 ≤ 0; omega⟩) hS (fun q _ h => hFc q h) hFc (fun r_117 u t H1 locs ht hvm hw hB hz1 hk1 hS => ?_)
        obtain ⟨F_118, hB1⟩ := hB
        obtain rfl : F_43 = F_118 := (funext (fun a => hB1.2.2.2 a List.not_mem_nil)).symm
        obtain ⟨hP, hD, hO, hR⟩ := QTm.back hB1 ht hFc hR (fun q h => absurd h List.not_mem_nil)
        generalize H1 = H at hP hS ⊢
        have hw : r_117 = rot w5 11 (-11) := hw
        subst hw
        refine lv_ixor hx hb dX12_round_267 ?_
        refine lv_topi (fun x_119 ex_119 => ?_)
        obtain rfl : x_119 = ((rot w5 6 (-6)) ^^^ (rot w5 11 (-11))) := ex_119.trans (rfl)
        refine lv_iload hx hb dX12_round_268 (lv_at hl 4 rfl) ?_
        refine lv_bipush (v := 25) hx hb dX12_round_270 (by decide) ?_
        have hFc := pg_free hD hS hA
        refine va_calli (va_runS (As := [.int w5, .int 25]) (rest := [.int ((rot w5 6 (-6)) ^^^ (rot w5 11 (-11))), .int w8]) ⟨hx, hb, hml, hown, hts⟩ (m_J6_rotateRight_e l dC dI cs ty gm L H.size F_43 w5 25 hW ) ⟨callB_of 2 hts (gi kt_769) rfl rfl rfl (hts _ kt_770) (hts _ kt_771) (by decide +kernel) ⟨Nat.le_of_ble_eq_true rfl, Nat.le_of_ble_eq_true rfl⟩, (hts _ kt_772)⟩ ⟨fun a U g mk q => ⟨q.1, PTm.calling q.2⟩, fun U hU hWm => ⟨rfl, PTm.mk hU hWm hP hK hD hE hO⟩⟩ rfl rfl hl.1 rfl (lv_room (Nat.le_of_ble_eq_true rfl)) dX12_round_272 ⟨by show _ + 0 ≤ 0; omega, by show _ + 0 ≤ 0; omega⟩) hS (fun q _ h => hFc q h) hFc (fun r_120 u t H1 locs ht hvm hw hB hz1 hk1 hS => ?_)
        obtain ⟨F_121, hB1⟩ := hB
        obtain rfl : F_43 = F_121 := (funext (fun a => hB1.2.2.2 a List.not_mem_nil)).symm
        obtain ⟨hP, hD, hO, hR⟩ := QTm.back hB1 ht hFc hR (fun q h => absurd h List.not_mem_nil)
        generalize H1 = H at hP hS ⊢
        have hw : r_120 = rot w5 25 (-25) := hw
        subst hw
        refine lv_ixor hx hb dX12_round_275 ?_
        refine lv_topi (fun x_122 ex_122 => ?_)
        obtain rfl : x_122 = (sg1 w5) := ex_122.trans (sg1_n _)
        refine lv_iadd hx hb dX12_round_276 ?_
        refine lv_topi (fun x_123 ex_123 => ?_)
        obtain rfl : x_123 = (w8 + (sg1 w5)) := ex_123.trans (rfl)
        refine lv_iload hx hb dX12_round_277 (lv_at hl 4 rfl) ?_
        refine lv_iload hx hb dX12_round_279 (lv_at hl 3 rfl) ?_
        refine lv_iand hx hb dX12_round_281 ?_
        refine lv_topi (fun x_124 ex_124 => ?_)
        obtain rfl : x_124 = (w5 &&& w6) := ex_124.trans (rfl)
        refine lv_iload hx hb dX12_round_282 (lv_at hl 4 rfl) ?_
        refine lv_iconst (v := (-1)) hx hb dX12_round_284 (by decide) ?_
        refine lv_ixor hx hb dX12_round_285 ?_
        refine lv_topi (fun x_125 ex_125 => ?_)
        obtain rfl : x_125 = (w5 ^^^ (-1)) := ex_125.trans (rfl)
        refine lv_iload hx hb dX12_round_286 (lv_at hl 2 rfl) ?_
        refine lv_iand hx hb dX12_round_288 ?_
        refine lv_topi (fun x_126 ex_126 => ?_)
        obtain rfl : x_126 = ((w5 ^^^ (-1)) &&& w7) := ex_126.trans (rfl)
        refine lv_ixor hx hb dX12_round_289 ?_
        refine lv_topi (fun x_127 ex_127 => ?_)
        obtain rfl : x_127 = (chs w5 w6 w7) := ex_127.trans (rfl)
        refine lv_iadd hx hb dX12_round_290 ?_
        refine lv_topi (fun x_128 ex_128 => ?_)
        obtain rfl : x_128 = ((w8 + (sg1 w5)) + (chs w5 w6 w7)) := ex_128.trans (rfl)
        refine lv_aload_n hx hb dX12_round_291 rfl (lv_at hl 9 rfl) ?_
        refine pg_get (ci := 12) (v := .ref q4) (C := RX12) (T := TX12) (N := 7) hx hb hts it_12 hown hK hP hL_h0 hc2 rfl 3 (by decide) (hts _ kt_773) (fun _ h9 => h9) rfl dX12_round_292 ?_
        refine lv_iload hx hb dX12_round_295 (lv_at hl 0 rfl) ?_
        obtain ⟨f_129, hF_130, hq_131⟩ := hO.kst hi_4 ht_9
        refine pg_iald hx hb hK hP hi_4 0 hF_130 rfl (vp_in_nI (by omega) (by omega)) dX12_round_297 ?_
        refine lv_topi (fun x_132 ex_132 => ?_)
        obtain rfl : x_132 = (shF t3) := ex_132.trans ((congrArg f_129 (nI_clamp (by omega))).trans (hq_131 t3 (by omega)))
        refine lv_iadd hx hb dX12_round_298 ?_
        refine lv_topi (fun x_133 ex_133 => ?_)
        obtain rfl : x_133 = (((w8 + (sg1 w5)) + (chs w5 w6 w7)) + (shF t3)) := ex_133.trans (rfl)
        refine lv_aload_n hx hb dX12_round_299 rfl (lv_at hl 9 rfl) ?_
        refine pg_get (ci := 12) (v := .ref q3) (C := RX12) (T := TX12) (N := 7) hx hb hts it_12 hown hK hP hL_h0 hc2 rfl 2 (by decide) (hts _ kt_774) (fun _ h9 => h9) rfl dX12_round_300 ?_
        refine lv_iload hx hb dX12_round_303 (lv_at hl 0 rfl) ?_
        obtain ⟨hq_134, hq_135⟩ := hW.ints hi_3 ht_8
        refine pg_iald hx hb hK hP hi_3 0 hc4 rfl (vp_in_nI (by omega) (by omega)) dX12_round_305 ?_
        refine lv_topi (fun x_136 ex_136 => ?_)
        obtain rfl : x_136 = ((sch fw 48) t3) := ex_136.trans (congrArg (sch fw 48) (nI_clamp (by omega)))
        refine lv_iadd hx hb dX12_round_306 ?_
        refine lv_topi (fun x_137 ex_137 => ?_)
        obtain rfl : x_137 = (fsx w8 w5 w6 w7 (shF t3) (sch fw 48 t3)) := ex_137.trans (rfl)
        refine lv_istore (lv' := [(10, .int (fsx w8 w5 w6 w7 (shF t3) (sch fw 48 t3))), (9, .int (nI t3)), (8, .int w8), (7, .int w7), (6, .int w6), (5, .int w5), (4, .int w4), (3, .int w3), (2, .int w2), (1, .int w1), (0, .ref h0)]) hx hb dX12_round_307 hl (by decide) rfl (fun ls hl => ?_)
        refine lv_iload_n hx hb dX12_round_309 rfl (lv_at hl 9 rfl) ?_
        refine lv_iconst (v := 2) hx hb dX12_round_310 (by decide) ?_
        have hFc := pg_free hD hS hA
        refine va_calli (va_runS (As := [.int w1, .int 2]) (rest := []) ⟨hx, hb, hml, hown, hts⟩ (m_J6_rotateRight_e l dC dI cs ty gm L H.size F_43 w1 2 hW ) ⟨callB_of 2 hts (gi kt_769) rfl rfl rfl (hts _ kt_770) (hts _ kt_771) (by decide +kernel) ⟨Nat.le_of_ble_eq_true rfl, Nat.le_of_ble_eq_true rfl⟩, (hts _ kt_772)⟩ ⟨fun a U g mk q => ⟨q.1, PTm.calling q.2⟩, fun U hU hWm => ⟨rfl, PTm.mk hU hWm hP hK hD hE hO⟩⟩ rfl rfl hl.1 rfl (lv_room (Nat.le_of_ble_eq_true rfl)) dX12_round_311 ⟨by show _ + 0 ≤ 0; omega, by show _ + 0 ≤ 0; omega⟩) hS (fun q _ h => hFc q h) hFc (fun r_138 u t H1 locs ht hvm hw hB hz1 hk1 hS => ?_)
        obtain ⟨F_139, hB1⟩ := hB
        obtain rfl : F_43 = F_139 := (funext (fun a => hB1.2.2.2 a List.not_mem_nil)).symm
        obtain ⟨hP, hD, hO, hR⟩ := QTm.back hB1 ht hFc hR (fun q h => absurd h List.not_mem_nil)
        generalize H1 = H at hP hS ⊢
        have hw : r_138 = rot w1 2 (-2) := hw
        subst hw
        refine lv_iload_n hx hb dX12_round_314 rfl (lv_at hl 9 rfl) ?_
        refine lv_bipush (v := 13) hx hb dX12_round_315 (by decide) ?_
        have hFc := pg_free hD hS hA
        refine va_calli (va_runS (As := [.int w1, .int 13]) (rest := [.int (rot w1 2 (-2))]) ⟨hx, hb, hml, hown, hts⟩ (m_J6_rotateRight_e l dC dI cs ty gm L H.size F_43 w1 13 hW ) ⟨callB_of 2 hts (gi kt_769) rfl rfl rfl (hts _ kt_770) (hts _ kt_771) (by decide +kernel) ⟨Nat.le_of_ble_eq_true rfl, Nat.le_of_ble_eq_true rfl⟩, (hts _ kt_772)⟩ ⟨fun a U g mk q => ⟨q.1, PTm.calling q.2⟩, fun U hU hWm => ⟨rfl, PTm.mk hU hWm hP hK hD hE hO⟩⟩ rfl rfl hl.1 rfl (lv_room (Nat.le_of_ble_eq_true rfl)) dX12_round_317 ⟨by show _ + 0 ≤ 0; omega, by show _ + 0 ≤ 0; omega⟩) hS (fun q _ h => hFc q h) hFc (fun r_140 u t H1 locs ht hvm hw hB hz1 hk1 hS => ?_)
        obtain ⟨F_141, hB1⟩ := hB
        obtain rfl : F_43 = F_141 := (funext (fun a => hB1.2.2.2 a List.not_mem_nil)).symm
        obtain ⟨hP, hD, hO, hR⟩ := QTm.back hB1 ht hFc hR (fun q h => absurd h List.not_mem_nil)
        generalize H1 = H at hP hS ⊢
        have hw : r_140 = rot w1 13 (-13) := hw
        subst hw
        refine lv_ixor hx hb dX12_round_320 ?_
        refine lv_topi (fun x_142 ex_142 => ?_)
        obtain rfl : x_142 = ((rot w1 2 (-2)) ^^^ (rot w1 13 (-13))) := ex_142.trans (rfl)
        refine lv_iload_n hx hb dX12_round_321 rfl (lv_at hl 9 rfl) ?_
        refine lv_bipush (v := 22) hx hb dX12_round_322 (by decide) ?_
        have hFc := pg_free hD hS hA
        refine va_calli (va_runS (As := [.int w1, .int 22]) (rest := [.int ((rot w1 2 (-2)) ^^^ (rot w1 13 (-13)))]) ⟨hx, hb, hml, hown, hts⟩ (m_J6_rotateRight_e l dC dI cs ty gm L H.size F_43 w1 22 hW ) ⟨callB_of 2 hts (gi kt_769) rfl rfl rfl (hts _ kt_770) (hts _ kt_771) (by decide +kernel) ⟨Nat.le_of_ble_eq_true rfl, Nat.le_of_ble_eq_true rfl⟩, (hts _ kt_772)⟩ ⟨fun a U g mk q => ⟨q.1, PTm.calling q.2⟩, fun U hU hWm => ⟨rfl, PTm.mk hU hWm hP hK hD hE hO⟩⟩ rfl rfl hl.1 rfl (lv_room (Nat.le_of_ble_eq_true rfl)) dX12_round_324 ⟨by show _ + 0 ≤ 0; omega, by show _ + 0 ≤ 0; omega⟩) hS (fun q _ h => hFc q h) hFc (fun r_143 u t H1 locs ht hvm hw hB hz1 hk1 hS => ?_)
        obtain ⟨F_144, hB1⟩ := hB
        obtain rfl : F_43 = F_144 := (funext (fun a => hB1.2.2.2 a List.not_mem_nil)).symm
        obtain ⟨hP, hD, hO, hR⟩ := QTm.back hB1 ht hFc hR (fun q h => absurd h List.not_mem_nil)
        generalize H1 = H at hP hS ⊢
        have hw : r_143 = rot w1 22 (-22) := hw
        subst hw
        refine lv_ixor hx hb dX12_round_327 ?_
        refine lv_topi (fun x_145 ex_145 => ?_)
        obtain rfl : x_145 = (sg0 w1) := ex_145.trans (sg0_n _)
        refine lv_iload_n hx hb dX12_round_328 rfl (lv_at hl 9 rfl) ?_
        refine lv_iload_n hx hb dX12_round_329 rfl (lv_at hl 8 rfl) ?_
        refine lv_iand hx hb dX12_round_330 ?_
        refine lv_topi (fun x_146 ex_146 => ?_)
        obtain rfl : x_146 = (w1 &&& w2) := ex_146.trans (rfl)
        refine lv_iload_n hx hb dX12_round_331 rfl (lv_at hl 9 rfl) ?_
        refine lv_iload_n hx hb dX12_round_332 rfl (lv_at hl 7 rfl) ?_
        refine lv_iand hx hb dX12_round_333 ?_
        refine lv_topi (fun x_147 ex_147 => ?_)
        obtain rfl : x_147 = (w1 &&& w3) := ex_147.trans (rfl)
        refine lv_ixor hx hb dX12_round_334 ?_
        refine lv_topi (fun x_148 ex_148 => ?_)
        obtain rfl : x_148 = ((w1 &&& w2) ^^^ (w1 &&& w3)) := ex_148.trans (rfl)
        refine lv_iload_n hx hb dX12_round_335 rfl (lv_at hl 8 rfl) ?_
        refine lv_iload_n hx hb dX12_round_336 rfl (lv_at hl 7 rfl) ?_
        refine lv_iand hx hb dX12_round_337 ?_
        refine lv_topi (fun x_149 ex_149 => ?_)
        obtain rfl : x_149 = (w2 &&& w3) := ex_149.trans (rfl)
        refine lv_ixor hx hb dX12_round_338 ?_
        refine lv_topi (fun x_150 ex_150 => ?_)
        obtain rfl : x_150 = (maj w1 w2 w3) := ex_150.trans (rfl)
        refine lv_iadd hx hb dX12_round_339 ?_
        refine lv_topi (fun x_151 ex_151 => ?_)
        obtain rfl : x_151 = ((sg0 w1) + (maj w1 w2 w3)) := ex_151.trans (rfl)
        refine lv_istore (lv' := [(11, .int ((sg0 w1) + (maj w1 w2 w3))), (10, .int (fsx w8 w5 w6 w7 (shF t3) (sch fw 48 t3))), (9, .int (nI t3)), (8, .int w8), (7, .int w7), (6, .int w6), (5, .int w5), (4, .int w4), (3, .int w3), (2, .int w2), (1, .int w1), (0, .ref h0)]) hx hb dX12_round_340 hl (by decide) rfl (fun ls hl => ?_)
        refine lv_iload hx hb dX12_round_342 (lv_at hl 4 rfl) ?_
        refine lv_istore (lv' := [(8, .int w7), (11, .int ((sg0 w1) + (maj w1 w2 w3))), (10, .int (fsx w8 w5 w6 w7 (shF t3) (sch fw 48 t3))), (9, .int (nI t3)), (7, .int w7), (6, .int w6), (5, .int w5), (4, .int w4), (3, .int w3), (2, .int w2), (1, .int w1), (0, .ref h0)]) hx hb dX12_round_344 hl (by decide) rfl (fun ls hl => ?_)
        refine lv_iload hx hb dX12_round_346 (lv_at hl 5 rfl) ?_
        refine lv_istore (lv' := [(7, .int w6), (8, .int w7), (11, .int ((sg0 w1) + (maj w1 w2 w3))), (10, .int (fsx w8 w5 w6 w7 (shF t3) (sch fw 48 t3))), (9, .int (nI t3)), (6, .int w6), (5, .int w5), (4, .int w4), (3, .int w3), (2, .int w2), (1, .int w1), (0, .ref h0)]) hx hb dX12_round_348 hl (by decide) rfl (fun ls hl => ?_)
        refine lv_iload hx hb dX12_round_350 (lv_at hl 6 rfl) ?_
        refine lv_istore (lv' := [(6, .int w5), (7, .int w6), (8, .int w7), (11, .int ((sg0 w1) + (maj w1 w2 w3))), (10, .int (fsx w8 w5 w6 w7 (shF t3) (sch fw 48 t3))), (9, .int (nI t3)), (5, .int w5), (4, .int w4), (3, .int w3), (2, .int w2), (1, .int w1), (0, .ref h0)]) hx hb dX12_round_352 hl (by decide) rfl (fun ls hl => ?_)
        refine lv_iload hx hb dX12_round_354 (lv_at hl 7 rfl) ?_
        refine lv_iload hx hb dX12_round_356 (lv_at hl 4 rfl) ?_
        refine lv_iadd hx hb dX12_round_358 ?_
        refine lv_topi (fun x_152 ex_152 => ?_)
        obtain rfl : x_152 = (w4 + (fsx w8 w5 w6 w7 (shF t3) (sch fw 48 t3))) := ex_152.trans (rfl)
        refine lv_istore (lv' := [(5, .int (w4 + (fsx w8 w5 w6 w7 (shF t3) (sch fw 48 t3)))), (6, .int w5), (7, .int w6), (8, .int w7), (11, .int ((sg0 w1) + (maj w1 w2 w3))), (10, .int (fsx w8 w5 w6 w7 (shF t3) (sch fw 48 t3))), (9, .int (nI t3)), (4, .int w4), (3, .int w3), (2, .int w2), (1, .int w1), (0, .ref h0)]) hx hb dX12_round_359 hl (by decide) rfl (fun ls hl => ?_)
        refine lv_iload_n hx hb dX12_round_361 rfl (lv_at hl 8 rfl) ?_
        refine lv_istore (lv' := [(4, .int w3), (5, .int (w4 + (fsx w8 w5 w6 w7 (shF t3) (sch fw 48 t3)))), (6, .int w5), (7, .int w6), (8, .int w7), (11, .int ((sg0 w1) + (maj w1 w2 w3))), (10, .int (fsx w8 w5 w6 w7 (shF t3) (sch fw 48 t3))), (9, .int (nI t3)), (3, .int w3), (2, .int w2), (1, .int w1), (0, .ref h0)]) hx hb dX12_round_362 hl (by decide) rfl (fun ls hl => ?_)
        refine lv_iload_n hx hb dX12_round_364 rfl (lv_at hl 9 rfl) ?_
        refine lv_istore_n (lv' := [(3, .int w2), (4, .int w3), (5, .int (w4 + (fsx w8 w5 w6 w7 (shF t3) (sch fw 48 t3)))), (6, .int w5), (7, .int w6), (8, .int w7), (11, .int ((sg0 w1) + (maj w1 w2 w3))), (10, .int (fsx w8 w5 w6 w7 (shF t3) (sch fw 48 t3))), (9, .int (nI t3)), (2, .int w2), (1, .int w1), (0, .ref h0)]) hx hb dX12_round_365 rfl hl (by decide) rfl (fun ls hl => ?_)
        refine lv_iload_n hx hb dX12_round_366 rfl (lv_at hl 10 rfl) ?_
        refine lv_istore_n (lv' := [(2, .int w1), (3, .int w2), (4, .int w3), (5, .int (w4 + (fsx w8 w5 w6 w7 (shF t3) (sch fw 48 t3)))), (6, .int w5), (7, .int w6), (8, .int w7), (11, .int ((sg0 w1) + (maj w1 w2 w3))), (10, .int (fsx w8 w5 w6 w7 (shF t3) (sch fw 48 t3))), (9, .int (nI t3)), (1, .int w1), (0, .ref h0)]) hx hb dX12_round_367 rfl hl (by decide) rfl (fun ls hl => ?_)
        refine lv_iload hx hb dX12_round_368 (lv_at hl 8 rfl) ?_
        refine lv_iload hx hb dX12_round_370 (lv_at hl 7 rfl) ?_
        refine lv_iadd hx hb dX12_round_372 ?_
        refine lv_topi (fun x_153 ex_153 => ?_)
        obtain rfl : x_153 = ((fsx w8 w5 w6 w7 (shF t3) (sch fw 48 t3)) + ((sg0 w1) + (maj w1 w2 w3))) := ex_153.trans (rfl)
        refine lv_istore_n (lv' := [(1, .int ((fsx w8 w5 w6 w7 (shF t3) (sch fw 48 t3)) + ((sg0 w1) + (maj w1 w2 w3)))), (2, .int w1), (3, .int w2), (4, .int w3), (5, .int (w4 + (fsx w8 w5 w6 w7 (shF t3) (sch fw 48 t3)))), (6, .int w5), (7, .int w6), (8, .int w7), (11, .int ((sg0 w1) + (maj w1 w2 w3))), (10, .int (fsx w8 w5 w6 w7 (shF t3) (sch fw 48 t3))), (9, .int (nI t3)), (0, .ref h0)]) hx hb dX12_round_373 rfl hl (by decide) rfl (fun ls hl => ?_)
        refine lv_iinc (v := (nI (t3 + 1))) (lv' := [(9, .int (nI (t3 + 1))), (1, .int ((fsx w8 w5 w6 w7 (shF t3) (sch fw 48 t3)) + ((sg0 w1) + (maj w1 w2 w3)))), (2, .int w1), (3, .int w2), (4, .int w3), (5, .int (w4 + (fsx w8 w5 w6 w7 (shF t3) (sch fw 48 t3)))), (6, .int w5), (7, .int w6), (8, .int w7), (11, .int ((sg0 w1) + (maj w1 w2 w3))), (10, .int (fsx w8 w5 w6 w7 (shF t3) (sch fw 48 t3))), (0, .ref h0)]) hx hb dX12_round_374 hl (k := 10) rfl (nI_1 _) (by decide) rfl (fun ls hl => ?_)
        refine lv_goto (tgt := 244) hx hb dX12_round_377 (by decide) ?_
        refine W.widen (k := 0) (n := 0) (by omega) (by omega) ?_
        exact ih_47 ((t3 + 1), ((fsx w8 w5 w6 w7 (shF t3) (sch fw 48 t3)) + ((sg0 w1) + (maj w1 w2 w3))), w1, w2, w3, (w4 + (fsx w8 w5 w6 w7 (shF t3) (sch fw 48 t3))), w5, w6, w7) F_43 (⟨by omega, hc2, hc3, hc4, hc5.st⟩) (by show 64 - (t3 + 1) < 64 - t3; omega) hO hR _ _ hP hD hS ls (lv_sub hl [0, 8, 7, 6, 5, 4, 3, 2, 1, 11] rfl)
    ·
      have hi_154 : t2 < 64 := ltN (N := 64) c_31
      refine lv_aload_n hx hb dX12_round_91 rfl (lv_at hl 1 rfl) ?_
      refine pg_get (ci := 12) (v := .ref q3) (C := RX12) (T := TX12) (N := 7) hx hb hts it_12 hown hK hP hL_h0 hb3 rfl 2 (by decide) (hts _ kt_774) (fun _ h9 => h9) rfl dX12_round_92 ?_
      refine lv_iload_n hx hb dX12_round_95 rfl (lv_at hl 0 rfl) ?_
      refine lv_bipush (v := 15) hx hb dX12_round_96 (by decide) ?_
      refine lv_isub hx hb dX12_round_98 ?_
      refine lv_topi (fun x_155 ex_155 => ?_)
      obtain rfl : x_155 = (nI (t2 - 15)) := ex_155.trans (pk_sub (b := 15) (by omega))
      obtain ⟨hq_156, hq_157⟩ := hW.ints hi_3 ht_8
      refine pg_iald hx hb hK hP hi_3 0 hb5 rfl (vp_in_nI (by omega) (by omega)) dX12_round_99 ?_
      refine lv_topi (fun x_158 ex_158 => ?_)
      obtain rfl : x_158 = ((sch fw (t2 - 16)) (t2 - 15)) := ex_158.trans (congrArg (sch fw (t2 - 16)) (nI_clamp (by omega)))
      refine lv_istore_n (lv' := [(2, .int ((sch fw (t2 - 16)) (t2 - 15))), (1, .int (nI t2)), (0, .ref h0)]) hx hb dX12_round_100 rfl hl (by decide) rfl (fun ls hl => ?_)
      refine lv_aload_n hx hb dX12_round_101 rfl (lv_at hl 2 rfl) ?_
      refine pg_get (ci := 12) (v := .ref q3) (C := RX12) (T := TX12) (N := 7) hx hb hts it_12 hown hK hP hL_h0 hb3 rfl 2 (by decide) (hts _ kt_774) (fun _ h9 => h9) rfl dX12_round_102 ?_
      refine lv_iload_n hx hb dX12_round_105 rfl (lv_at hl 1 rfl) ?_
      refine lv_iconst (v := 2) hx hb dX12_round_106 (by decide) ?_
      refine lv_isub hx hb dX12_round_107 ?_
      refine lv_topi (fun x_159 ex_159 => ?_)
      obtain rfl : x_159 = (nI (t2 - 2)) := ex_159.trans (pk_sub (b := 2) (by omega))
      refine pg_iald hx hb hK hP hi_3 0 hb5 rfl (vp_in_nI (by omega) (by omega)) dX12_round_108 ?_
      refine lv_topi (fun x_160 ex_160 => ?_)
      obtain rfl : x_160 = ((sch fw (t2 - 16)) (t2 - 2)) := ex_160.trans (congrArg (sch fw (t2 - 16)) (nI_clamp (by omega)))
      refine lv_istore_n (lv' := [(3, .int ((sch fw (t2 - 16)) (t2 - 2))), (2, .int ((sch fw (t2 - 16)) (t2 - 15))), (1, .int (nI t2)), (0, .ref h0)]) hx hb dX12_round_109 rfl hl (by decide) rfl (fun ls hl => ?_)
      refine lv_aload_n hx hb dX12_round_110 rfl (lv_at hl 3 rfl) ?_
      refine pg_get (ci := 12) (v := .ref q3) (C := RX12) (T := TX12) (N := 7) hx hb hts it_12 hown hK hP hL_h0 hb3 rfl 2 (by decide) (hts _ kt_774) (fun _ h9 => h9) rfl dX12_round_111 ?_
      refine lv_iload_n hx hb dX12_round_114 rfl (lv_at hl 2 rfl) ?_
      refine lv_aload_n hx hb dX12_round_115 rfl (lv_at hl 3 rfl) ?_
      refine pg_get (ci := 12) (v := .ref q3) (C := RX12) (T := TX12) (N := 7) hx hb hts it_12 hown hK hP hL_h0 hb3 rfl 2 (by decide) (hts _ kt_774) (fun _ h9 => h9) rfl dX12_round_116 ?_
      refine lv_iload_n hx hb dX12_round_119 rfl (lv_at hl 2 rfl) ?_
      refine lv_bipush (v := 16) hx hb dX12_round_120 (by decide) ?_
      refine lv_isub hx hb dX12_round_122 ?_
      refine lv_topi (fun x_161 ex_161 => ?_)
      obtain rfl : x_161 = (nI (t2 - 16)) := ex_161.trans (pk_sub (b := 16) (by omega))
      refine pg_iald hx hb hK hP hi_3 0 hb5 rfl (vp_in_nI (by omega) (by omega)) dX12_round_123 ?_
      refine lv_topi (fun x_162 ex_162 => ?_)
      obtain rfl : x_162 = ((sch fw (t2 - 16)) (t2 - 16)) := ex_162.trans (congrArg (sch fw (t2 - 16)) (nI_clamp (by omega)))
      refine lv_iload_n hx hb dX12_round_124 rfl (lv_at hl 1 rfl) ?_
      refine lv_bipush (v := 7) hx hb dX12_round_125 (by decide) ?_
      have hFc := pg_free hD hS hA
      refine va_calli (va_runS (As := [.int ((sch fw (t2 - 16)) (t2 - 15)), .int 7]) (rest := [.int ((sch fw (t2 - 16)) (t2 - 16)), .int (nI t2), .ref q3]) ⟨hx, hb, hml, hown, hts⟩ (m_J6_rotateRight_e l dC dI cs ty gm L H.size F_24 ((sch fw (t2 - 16)) (t2 - 15)) 7 hW ) ⟨callB_of 2 hts (gi kt_769) rfl rfl rfl (hts _ kt_770) (hts _ kt_771) (by decide +kernel) ⟨Nat.le_of_ble_eq_true rfl, Nat.le_of_ble_eq_true rfl⟩, (hts _ kt_772)⟩ ⟨fun a U g mk q => ⟨q.1, PTm.calling q.2⟩, fun U hU hWm => ⟨rfl, PTm.mk hU hWm hP hK hD hE hO⟩⟩ rfl rfl hl.1 rfl (lv_room (Nat.le_of_ble_eq_true rfl)) dX12_round_127 ⟨by show _ + 0 ≤ 0; omega, by show _ + 0 ≤ 0; omega⟩) hS (fun q _ h => hFc q h) hFc (fun r_163 u t H1 locs ht hvm hw hB hz1 hk1 hS => ?_)
      obtain ⟨F_164, hB1⟩ := hB
      obtain rfl : F_24 = F_164 := (funext (fun a => hB1.2.2.2 a List.not_mem_nil)).symm
      obtain ⟨hP, hD, hO, hR⟩ := QTm.back hB1 ht hFc hR (fun q h => absurd h List.not_mem_nil)
      generalize H1 = H at hP hS ⊢
      have hw : r_163 = rot ((sch fw (t2 - 16)) (t2 - 15)) 7 (-7) := hw
      subst hw
      refine lv_iload_n hx hb dX12_round_130 rfl (lv_at hl 1 rfl) ?_
      refine lv_bipush (v := 18) hx hb dX12_round_131 (by decide) ?_
      have hFc := pg_free hD hS hA
      refine va_calli (va_runS (As := [.int ((sch fw (t2 - 16)) (t2 - 15)), .int 18]) (rest := [.int (rot ((sch fw (t2 - 16)) (t2 - 15)) 7 (-7)), .int ((sch fw (t2 - 16)) (t2 - 16)), .int (nI t2), .ref q3]) ⟨hx, hb, hml, hown, hts⟩ (m_J6_rotateRight_e l dC dI cs ty gm L H.size F_24 ((sch fw (t2 - 16)) (t2 - 15)) 18 hW ) ⟨callB_of 2 hts (gi kt_769) rfl rfl rfl (hts _ kt_770) (hts _ kt_771) (by decide +kernel) ⟨Nat.le_of_ble_eq_true rfl, Nat.le_of_ble_eq_true rfl⟩, (hts _ kt_772)⟩ ⟨fun a U g mk q => ⟨q.1, PTm.calling q.2⟩, fun U hU hWm => ⟨rfl, PTm.mk hU hWm hP hK hD hE hO⟩⟩ rfl rfl hl.1 rfl (lv_room (Nat.le_of_ble_eq_true rfl)) dX12_round_133 ⟨by show _ + 0 ≤ 0; omega, by show _ + 0 ≤ 0; omega⟩) hS (fun q _ h => hFc q h) hFc (fun r_165 u t H1 locs ht hvm hw hB hz1 hk1 hS => ?_)
      obtain ⟨F_166, hB1⟩ := hB
      obtain rfl : F_24 = F_166 := (funext (fun a => hB1.2.2.2 a List.not_mem_nil)).symm
      obtain ⟨hP, hD, hO, hR⟩ := QTm.back hB1 ht hFc hR (fun q h => absurd h List.not_mem_nil)
      generalize H1 = H at hP hS ⊢
      have hw : r_165 = rot ((sch fw (t2 - 16)) (t2 - 15)) 18 (-18) := hw
      subst hw
      refine lv_ixor hx hb dX12_round_136 ?_
      refine lv_topi (fun x_167 ex_167 => ?_)
      obtain rfl : x_167 = ((rot ((sch fw (t2 - 16)) (t2 - 15)) 7 (-7)) ^^^ (rot ((sch fw (t2 - 16)) (t2 - 15)) 18 (-18))) := ex_167.trans (rfl)
      refine lv_iload_n hx hb dX12_round_137 rfl (lv_at hl 1 rfl) ?_
      refine lv_iconst (v := 3) hx hb dX12_round_138 (by decide) ?_
      refine lv_iushr hx hb dX12_round_139 rfl ?_
      refine lv_topi (fun x_169 ex_169 => ?_)
      obtain rfl : x_169 = (ush ((sch fw (t2 - 16)) (t2 - 15)) 3) := ex_169.trans (rfl)
      refine lv_ixor hx hb dX12_round_140 ?_
      refine lv_topi (fun x_170 ex_170 => ?_)
      obtain rfl : x_170 = (wlo (sch fw (t2 - 16) (t2 - 15))) := ex_170.trans (wlo_n _)
      refine lv_iadd hx hb dX12_round_141 ?_
      refine lv_topi (fun x_171 ex_171 => ?_)
      obtain rfl : x_171 = (((sch fw (t2 - 16)) (t2 - 16)) + (wlo (sch fw (t2 - 16) (t2 - 15)))) := ex_171.trans (rfl)
      refine lv_aload_n hx hb dX12_round_142 rfl (lv_at hl 3 rfl) ?_
      refine pg_get (ci := 12) (v := .ref q3) (C := RX12) (T := TX12) (N := 7) hx hb hts it_12 hown hK hP hL_h0 hb3 rfl 2 (by decide) (hts _ kt_774) (fun _ h9 => h9) rfl dX12_round_143 ?_
      refine lv_iload_n hx hb dX12_round_146 rfl (lv_at hl 2 rfl) ?_
      refine lv_bipush (v := 7) hx hb dX12_round_147 (by decide) ?_
      refine lv_isub hx hb dX12_round_149 ?_
      refine lv_topi (fun x_172 ex_172 => ?_)
      obtain rfl : x_172 = (nI (t2 - 7)) := ex_172.trans (pk_sub (b := 7) (by omega))
      refine pg_iald hx hb hK hP hi_3 0 hb5 rfl (vp_in_nI (by omega) (by omega)) dX12_round_150 ?_
      refine lv_topi (fun x_173 ex_173 => ?_)
      obtain rfl : x_173 = ((sch fw (t2 - 16)) (t2 - 7)) := ex_173.trans (congrArg (sch fw (t2 - 16)) (nI_clamp (by omega)))
      refine lv_iadd hx hb dX12_round_151 ?_
      refine lv_topi (fun x_174 ex_174 => ?_)
      obtain rfl : x_174 = ((((sch fw (t2 - 16)) (t2 - 16)) + (wlo (sch fw (t2 - 16) (t2 - 15)))) + ((sch fw (t2 - 16)) (t2 - 7))) := ex_174.trans (rfl)
      refine lv_iload_n hx hb dX12_round_152 rfl (lv_at hl 0 rfl) ?_
      refine lv_bipush (v := 17) hx hb dX12_round_153 (by decide) ?_
      have hFc := pg_free hD hS hA
      refine va_calli (va_runS (As := [.int ((sch fw (t2 - 16)) (t2 - 2)), .int 17]) (rest := [.int ((((sch fw (t2 - 16)) (t2 - 16)) + (wlo (sch fw (t2 - 16) (t2 - 15)))) + ((sch fw (t2 - 16)) (t2 - 7))), .int (nI t2), .ref q3]) ⟨hx, hb, hml, hown, hts⟩ (m_J6_rotateRight_e l dC dI cs ty gm L H.size F_24 ((sch fw (t2 - 16)) (t2 - 2)) 17 hW ) ⟨callB_of 2 hts (gi kt_769) rfl rfl rfl (hts _ kt_770) (hts _ kt_771) (by decide +kernel) ⟨Nat.le_of_ble_eq_true rfl, Nat.le_of_ble_eq_true rfl⟩, (hts _ kt_772)⟩ ⟨fun a U g mk q => ⟨q.1, PTm.calling q.2⟩, fun U hU hWm => ⟨rfl, PTm.mk hU hWm hP hK hD hE hO⟩⟩ rfl rfl hl.1 rfl (lv_room (Nat.le_of_ble_eq_true rfl)) dX12_round_155 ⟨by show _ + 0 ≤ 0; omega, by show _ + 0 ≤ 0; omega⟩) hS (fun q _ h => hFc q h) hFc (fun r_175 u t H1 locs ht hvm hw hB hz1 hk1 hS => ?_)
      obtain ⟨F_176, hB1⟩ := hB
      obtain rfl : F_24 = F_176 := (funext (fun a => hB1.2.2.2 a List.not_mem_nil)).symm
      obtain ⟨hP, hD, hO, hR⟩ := QTm.back hB1 ht hFc hR (fun q h => absurd h List.not_mem_nil)
      generalize H1 = H at hP hS ⊢
      have hw : r_175 = rot ((sch fw (t2 - 16)) (t2 - 2)) 17 (-17) := hw
      subst hw
      refine lv_iload_n hx hb dX12_round_158 rfl (lv_at hl 0 rfl) ?_
      refine lv_bipush (v := 19) hx hb dX12_round_159 (by decide) ?_
      have hFc := pg_free hD hS hA
      refine va_calli (va_runS (As := [.int ((sch fw (t2 - 16)) (t2 - 2)), .int 19]) (rest := [.int (rot ((sch fw (t2 - 16)) (t2 - 2)) 17 (-17)), .int ((((sch fw (t2 - 16)) (t2 - 16)) + (wlo (sch fw (t2 - 16) (t2 - 15)))) + ((sch fw (t2 - 16)) (t2 - 7))), .int (nI t2), .ref q3]) ⟨hx, hb, hml, hown, hts⟩ (m_J6_rotateRight_e l dC dI cs ty gm L H.size F_24 ((sch fw (t2 - 16)) (t2 - 2)) 19 hW ) ⟨callB_of 2 hts (gi kt_769) rfl rfl rfl (hts _ kt_770) (hts _ kt_771) (by decide +kernel) ⟨Nat.le_of_ble_eq_true rfl, Nat.le_of_ble_eq_true rfl⟩, (hts _ kt_772)⟩ ⟨fun a U g mk q => ⟨q.1, PTm.calling q.2⟩, fun U hU hWm => ⟨rfl, PTm.mk hU hWm hP hK hD hE hO⟩⟩ rfl rfl hl.1 rfl (lv_room (Nat.le_of_ble_eq_true rfl)) dX12_round_161 ⟨by show _ + 0 ≤ 0; omega, by show _ + 0 ≤ 0; omega⟩) hS (fun q _ h => hFc q h) hFc (fun r_177 u t H1 locs ht hvm hw hB hz1 hk1 hS => ?_)
      obtain ⟨F_178, hB1⟩ := hB
      obtain rfl : F_24 = F_178 := (funext (fun a => hB1.2.2.2 a List.not_mem_nil)).symm
      obtain ⟨hP, hD, hO, hR⟩ := QTm.back hB1 ht hFc hR (fun q h => absurd h List.not_mem_nil)
      generalize H1 = H at hP hS ⊢
      have hw : r_177 = rot ((sch fw (t2 - 16)) (t2 - 2)) 19 (-19) := hw
      subst hw
      refine lv_ixor hx hb dX12_round_164 ?_
      refine lv_topi (fun x_179 ex_179 => ?_)
      obtain rfl : x_179 = ((rot ((sch fw (t2 - 16)) (t2 - 2)) 17 (-17)) ^^^ (rot ((sch fw (t2 - 16)) (t2 - 2)) 19 (-19))) := ex_179.trans (rfl)
      refine lv_iload_n hx hb dX12_round_165 rfl (lv_at hl 0 rfl) ?_
      refine lv_bipush (v := 10) hx hb dX12_round_166 (by decide) ?_
      refine lv_iushr hx hb dX12_round_168 rfl ?_
      refine lv_topi (fun x_181 ex_181 => ?_)
      obtain rfl : x_181 = (ush ((sch fw (t2 - 16)) (t2 - 2)) 10) := ex_181.trans (rfl)
      refine lv_ixor hx hb dX12_round_169 ?_
      refine lv_topi (fun x_182 ex_182 => ?_)
      obtain rfl : x_182 = (whi (sch fw (t2 - 16) (t2 - 2))) := ex_182.trans (whi_n _)
      refine lv_iadd hx hb dX12_round_170 ?_
      refine lv_topi (fun x_183 ex_183 => ?_)
      obtain rfl : x_183 = (((((sch fw (t2 - 16)) (t2 - 16)) + (wlo (sch fw (t2 - 16) (t2 - 15)))) + ((sch fw (t2 - 16)) (t2 - 7))) + (whi (sch fw (t2 - 16) (t2 - 2)))) := ex_183.trans (rfl)
      refine pg_iast hx hb hK hP hD hS hi_3 0 hb5 rfl (vp_in_nI (by omega) (by omega)) dX12_round_171 (fun H locs hP hD hS => ?_)
      obtain ⟨F_184, he_185, hP, hD, hO, hR⟩ : ∃ G, G = va_up F_24 q3 (.inl (cs 16, 64, .inl (upd (sch fw (t2 - 16)) ((nI t2)).toNatClampNeg ((((((sch fw (t2 - 16)) (t2 - 16)) + (wlo (sch fw (t2 - 16) (t2 - 15)))) + ((sch fw (t2 - 16)) (t2 - 7))) + (whi (sch fw (t2 - 16) (t2 - 2)))))))) ∧ va_P (dC, dI) vwCl (va_pl L G) H ∧ va_D A (va_pl L G) ∧ OKm cs ty gm L G ∧ FR ty [ρ] F G := ⟨_, rfl, hP, hD, hO.up (shm.ints ht_8 ⟨_, rfl⟩), hR.up ht_8 (by simp)⟩
      have hF_186 : F_184 q3 = .inl (cs 16, 64, .inl (upd (sch fw (t2 - 16)) ((nI t2)).toNatClampNeg ((((((sch fw (t2 - 16)) (t2 - 16)) + (wlo (sch fw (t2 - 16) (t2 - 15)))) + ((sch fw (t2 - 16)) (t2 - 7))) + (whi (sch fw (t2 - 16) (t2 - 2))))))) := by rw [he_185]; exact up_self
      have hF_187 : F_184 h0 = .inr (12, [.ref q1, .ref q2, .ref q3, .ref q4, .ref q5, .int (nI z), .long v]) := by rw [he_185, up_ne (ne_ty hT_h0 ht_8 (by simp))]; exact hb3
      have hF_188 : F_184 q2 = .inl (cs 16, 8, .inl fh) := by rw [he_185, up_ne (ne_ty2 ht_7 ht_8 (by simp))]; exact hb4
      have hF_189 : F_184 q3 = .inl (cs 16, 64, .inl (upd (sch fw (t2 - 16)) t2 (((((sch fw (t2 - 16)) (t2 - 16)) + (wlo (sch fw (t2 - 16) (t2 - 15)))) + ((sch fw (t2 - 16)) (t2 - 7))) + (whi (sch fw (t2 - 16) (t2 - 2)))))) := by have h9 := hF_186; rwa [nI_clamp (by omega)] at h9
      refine lv_iinc (v := (nI (t2 + 1))) (lv' := [(1, .int (nI (t2 + 1))), (3, .int ((sch fw (t2 - 16)) (t2 - 2))), (2, .int ((sch fw (t2 - 16)) (t2 - 15))), (0, .ref h0)]) hx hb dX12_round_172 hl (k := 2) rfl (nI_1 _) (by decide) rfl (fun ls hl => ?_)
      refine lv_goto (tgt := 85) hx hb dX12_round_175 (by decide) ?_
      refine W.widen (k := 0) (n := 0) (by omega) (by omega) ?_
      obtain ⟨hq_190, hq_191⟩ := hW.ints hi_2 ht_7
      exact ih_30 (t2 + 1) F_184 (⟨by omega, by omega, hF_187, hF_188, by rw [← sch_s hb1]; exact hF_189⟩) (by show 64 - (t2 + 1) < 64 - t2; omega) hO hR _ _ hP hD hS ls (lv_sub hl [0, 3] rfl)
  ·
    have hi_192 : t1 < 16 := ltN (N := 16) c_22
    refine lv_aload_n hx hb dX12_round_8 rfl (lv_at hl 1 rfl) ?_
    refine pg_get (ci := 12) (v := .ref q3) (C := RX12) (T := TX12) (N := 7) hx hb hts it_12 hown hK hP hL_h0 ha2 rfl 2 (by decide) (hts _ kt_774) (fun _ h9 => h9) rfl dX12_round_9 ?_
    refine lv_iload_n hx hb dX12_round_12 rfl (lv_at hl 0 rfl) ?_
    refine lv_aload_n hx hb dX12_round_13 rfl (lv_at hl 1 rfl) ?_
    refine pg_get (ci := 12) (v := .ref q5) (C := RX12) (T := TX12) (N := 7) hx hb hts it_12 hown hK hP hL_h0 ha2 rfl 4 (by decide) (hts _ kt_775) (fun _ h9 => h9) rfl dX12_round_14 ?_
    refine lv_iconst (v := 4) hx hb dX12_round_17 (by decide) ?_
    refine lv_iload_n hx hb dX12_round_18 rfl (lv_at hl 0 rfl) ?_
    refine lv_imul hx hb dX12_round_19 ?_
    refine lv_topi (fun x_193 ex_193 => ?_)
    obtain rfl : x_193 = (nI (4 * t1)) := ex_193.trans (pk_mul 4 t1)
    obtain ⟨hq_194, hq_195⟩ := hW.octs hi_5 ht_10
    refine pg_bald hx hb hK hP hi_5 1 ha4 rfl (vp_in_nI (by omega) (by omega)) dX12_round_20 ?_
    refine lv_topi (fun x_196 ex_196 => ?_)
    obtain rfl : x_196 = fb (4 * t1) := ex_196.trans (congrArg fb (show ((nI (4 * t1)) : Int32).toNatClampNeg = (4 * t1) from nI_clamp (by omega)))
    refine lv_bipush (v := 24) hx hb dX12_round_21 (by decide) ?_
    refine lv_ishl hx hb dX12_round_23 ?_
    refine lv_topi (fun x_197 ex_197 => ?_)
    obtain rfl : x_197 = (shl (fb (4 * t1)) 24) := ex_197.trans (rfl)
    refine lv_aload_n hx hb dX12_round_24 rfl (lv_at hl 1 rfl) ?_
    refine pg_get (ci := 12) (v := .ref q5) (C := RX12) (T := TX12) (N := 7) hx hb hts it_12 hown hK hP hL_h0 ha2 rfl 4 (by decide) (hts _ kt_775) (fun _ h9 => h9) rfl dX12_round_25 ?_
    refine lv_iconst (v := 4) hx hb dX12_round_28 (by decide) ?_
    refine lv_iload_n hx hb dX12_round_29 rfl (lv_at hl 0 rfl) ?_
    refine lv_imul hx hb dX12_round_30 ?_
    refine lv_topi (fun x_198 ex_198 => ?_)
    obtain rfl : x_198 = (nI (4 * t1)) := ex_198.trans (pk_mul 4 t1)
    refine lv_iconst (v := 1) hx hb dX12_round_31 (by decide) ?_
    refine lv_iadd hx hb dX12_round_32 ?_
    refine lv_topi (fun x_199 ex_199 => ?_)
    obtain rfl : x_199 = (nI ((4 * t1) + 1)) := ex_199.trans (nI_add (4 * t1) 1)
    refine pg_bald hx hb hK hP hi_5 1 ha4 rfl (vp_in_nI (by omega) (by omega)) dX12_round_33 ?_
    refine lv_topi (fun x_200 ex_200 => ?_)
    obtain rfl : x_200 = fb ((4 * t1) + 1) := ex_200.trans (congrArg fb (show ((nI ((4 * t1) + 1)) : Int32).toNatClampNeg = ((4 * t1) + 1) from nI_clamp (by omega)))
    refine lv_sipush (v := 255) hx hb dX12_round_34 (by decide) ?_
    refine lv_iand hx hb dX12_round_37 ?_
    refine lv_topi (fun x_201 ex_201 => ?_)
    obtain rfl : x_201 = ((fb ((4 * t1) + 1)) &&& 255) := ex_201.trans (rfl)
    refine lv_bipush (v := 16) hx hb dX12_round_38 (by decide) ?_
    refine lv_ishl hx hb dX12_round_40 ?_
    refine lv_topi (fun x_202 ex_202 => ?_)
    obtain rfl : x_202 = (shl ((fb ((4 * t1) + 1)) &&& 255) 16) := ex_202.trans (rfl)
    refine lv_ior hx hb dX12_round_41 ?_
    refine lv_topi (fun x_203 ex_203 => ?_)
    obtain rfl : x_203 = ((shl (fb (4 * t1)) 24) ||| (shl ((fb ((4 * t1) + 1)) &&& 255) 16)) := ex_203.trans (rfl)
    refine lv_aload_n hx hb dX12_round_42 rfl (lv_at hl 1 rfl) ?_
    refine pg_get (ci := 12) (v := .ref q5) (C := RX12) (T := TX12) (N := 7) hx hb hts it_12 hown hK hP hL_h0 ha2 rfl 4 (by decide) (hts _ kt_775) (fun _ h9 => h9) rfl dX12_round_43 ?_
    refine lv_iconst (v := 4) hx hb dX12_round_46 (by decide) ?_
    refine lv_iload_n hx hb dX12_round_47 rfl (lv_at hl 0 rfl) ?_
    refine lv_imul hx hb dX12_round_48 ?_
    refine lv_topi (fun x_204 ex_204 => ?_)
    obtain rfl : x_204 = (nI (4 * t1)) := ex_204.trans (pk_mul 4 t1)
    refine lv_iconst (v := 2) hx hb dX12_round_49 (by decide) ?_
    refine lv_iadd hx hb dX12_round_50 ?_
    refine lv_topi (fun x_205 ex_205 => ?_)
    obtain rfl : x_205 = (nI ((4 * t1) + 2)) := ex_205.trans (nI_add (4 * t1) 2)
    refine pg_bald hx hb hK hP hi_5 1 ha4 rfl (vp_in_nI (by omega) (by omega)) dX12_round_51 ?_
    refine lv_topi (fun x_206 ex_206 => ?_)
    obtain rfl : x_206 = fb ((4 * t1) + 2) := ex_206.trans (congrArg fb (show ((nI ((4 * t1) + 2)) : Int32).toNatClampNeg = ((4 * t1) + 2) from nI_clamp (by omega)))
    refine lv_sipush (v := 255) hx hb dX12_round_52 (by decide) ?_
    refine lv_iand hx hb dX12_round_55 ?_
    refine lv_topi (fun x_207 ex_207 => ?_)
    obtain rfl : x_207 = ((fb ((4 * t1) + 2)) &&& 255) := ex_207.trans (rfl)
    refine lv_bipush (v := 8) hx hb dX12_round_56 (by decide) ?_
    refine lv_ishl hx hb dX12_round_58 ?_
    refine lv_topi (fun x_208 ex_208 => ?_)
    obtain rfl : x_208 = (shl ((fb ((4 * t1) + 2)) &&& 255) 8) := ex_208.trans (rfl)
    refine lv_ior hx hb dX12_round_59 ?_
    refine lv_topi (fun x_209 ex_209 => ?_)
    obtain rfl : x_209 = (((shl (fb (4 * t1)) 24) ||| (shl ((fb ((4 * t1) + 1)) &&& 255) 16)) ||| (shl ((fb ((4 * t1) + 2)) &&& 255) 8)) := ex_209.trans (rfl)
    refine lv_aload_n hx hb dX12_round_60 rfl (lv_at hl 1 rfl) ?_
    refine pg_get (ci := 12) (v := .ref q5) (C := RX12) (T := TX12) (N := 7) hx hb hts it_12 hown hK hP hL_h0 ha2 rfl 4 (by decide) (hts _ kt_775) (fun _ h9 => h9) rfl dX12_round_61 ?_
    refine lv_iconst (v := 4) hx hb dX12_round_64 (by decide) ?_
    refine lv_iload_n hx hb dX12_round_65 rfl (lv_at hl 0 rfl) ?_
    refine lv_imul hx hb dX12_round_66 ?_
    refine lv_topi (fun x_210 ex_210 => ?_)
    obtain rfl : x_210 = (nI (4 * t1)) := ex_210.trans (pk_mul 4 t1)
    refine lv_iconst (v := 3) hx hb dX12_round_67 (by decide) ?_
    refine lv_iadd hx hb dX12_round_68 ?_
    refine lv_topi (fun x_211 ex_211 => ?_)
    obtain rfl : x_211 = (nI ((4 * t1) + 3)) := ex_211.trans (nI_add (4 * t1) 3)
    refine pg_bald hx hb hK hP hi_5 1 ha4 rfl (vp_in_nI (by omega) (by omega)) dX12_round_69 ?_
    refine lv_topi (fun x_212 ex_212 => ?_)
    obtain rfl : x_212 = fb ((4 * t1) + 3) := ex_212.trans (congrArg fb (show ((nI ((4 * t1) + 3)) : Int32).toNatClampNeg = ((4 * t1) + 3) from nI_clamp (by omega)))
    refine lv_sipush (v := 255) hx hb dX12_round_70 (by decide) ?_
    refine lv_iand hx hb dX12_round_73 ?_
    refine lv_topi (fun x_213 ex_213 => ?_)
    obtain rfl : x_213 = ((fb ((4 * t1) + 3)) &&& 255) := ex_213.trans (rfl)
    refine lv_ior hx hb dX12_round_74 ?_
    refine lv_topi (fun x_214 ex_214 => ?_)
    obtain rfl : x_214 = (wob fb t1) := ex_214.trans (rfl)
    obtain ⟨hq_215, hq_216⟩ := hW.ints hi_3 ht_8
    refine pg_iast hx hb hK hP hD hS hi_3 0 ha5 rfl (vp_in_nI (by omega) (by omega)) dX12_round_75 (fun H locs hP hD hS => ?_)
    obtain ⟨F_217, he_218, hP, hD, hO, hR⟩ : ∃ G, G = va_up F_11 q3 (.inl (cs 16, 64, .inl (upd fw ((nI t1)).toNatClampNeg ((wob fb t1))))) ∧ va_P (dC, dI) vwCl (va_pl L G) H ∧ va_D A (va_pl L G) ∧ OKm cs ty gm L G ∧ FR ty [ρ] F G := ⟨_, rfl, hP, hD, hO.up (shm.ints ht_8 ⟨_, rfl⟩), hR.up ht_8 (by simp)⟩
    have hF_219 : F_217 q3 = .inl (cs 16, 64, .inl (upd fw ((nI t1)).toNatClampNeg ((wob fb t1)))) := by rw [he_218]; exact up_self
    have hF_220 : F_217 h0 = .inr (12, [.ref q1, .ref q2, .ref q3, .ref q4, .ref q5, .int (nI z), .long v]) := by rw [he_218, up_ne (ne_ty hT_h0 ht_8 (by simp))]; exact ha2
    have hF_221 : F_217 q2 = .inl (cs 16, 8, .inl fh) := by rw [he_218, up_ne (ne_ty2 ht_7 ht_8 (by simp))]; exact ha3
    have hF_222 : F_217 q5 = .inl (cs 17, 64, .inl fb) := by rw [he_218, up_ne (ne_ty ht_10 ht_8 (by simp))]; exact ha4
    have hF_223 : F_217 q3 = .inl (cs 16, 64, .inl (upd fw t1 (wob fb t1))) := by have h9 := hF_219; rwa [nI_clamp (by omega)] at h9
    refine lv_iinc (v := (nI (t1 + 1))) (lv' := [(1, .int (nI (t1 + 1))), (0, .ref h0)]) hx hb dX12_round_76 hl (k := 0) rfl (nI_1 _) (by decide) rfl (fun ls hl => ?_)
    refine lv_goto (tgt := 2) hx hb dX12_round_79 (by decide) ?_
    refine W.widen (k := 0) (n := 0) (by omega) (by omega) ?_
    obtain ⟨hq_224, hq_225⟩ := hW.ints hi_2 ht_7
    exact ih_21 (t1 + 1) F_217 (⟨by omega, hF_220, hF_221, hF_222, _, hF_223, wob_in ha6⟩) (by show 16 - (t1 + 1) < 16 - t1; omega) hO hR _ _ hP hD hS ls (lv_sub hl [0, 1] rfl)
def nb8 (x : Int32) : Int32 := vp_nar .byte (x.toInt8.toInt32)
def rst (M : Nat → Int32) : Nat → Nat → Int32
  | 0 => shB
  | b + 1 => mxs (wob (fun j => M (64 * b + j))) (rst M b)
def HQ (cs : Nat → ClassId) (F : Nat → va_E) (q2 q5 : Nat) (M : Nat → Int32) (q : Nat) : Prop := ∃ fh fb : Nat → Int32, F q2 = .inl (cs 16, 8, .inl fh) ∧ F q5 = .inl (cs 17, 64, .inl fb) ∧ (∀ j, j < 8 → fh j = rst M (q / 64) j) ∧ (∀ j, j < q % 64 → fb j = M (64 * (q / 64) + j))
theorem wob_cg {B E : Nat → Int32} (h : ∀ j, j < 64 → B j = E j) : ∀ k, k < 16 → wob B k = wob E k := by
  intro k hk
  unfold wob
  rw [h (4 * k) (by omega), h (4 * k + 1) (by omega), h (4 * k + 2) (by omega), h (4 * k + 3) (by omega)]
theorem blk_in {fb f2 M : Nat → Int32} {q : Nat} {v : Int32} (h : ∀ j, j < q % 64 → fb j = M (64 * (q / 64) + j)) (he : f2 = upd fb (q % 64) v) (hv : v = M q) : ∀ j, j < q % 64 + 1 → f2 j = M (64 * (q / 64) + j) := by
  intro j hj
  rw [he]
  by_cases c : j = q % 64
  · rw [c, upd_at, hv, show 64 * (q / 64) + q % 64 = q by omega]
  · rw [upd_no c]
    exact h j (by omega)
theorem HQ.one {cs : Nat → ClassId} {F : Nat → va_E} {q2 q5 q : Nat} {M fh f2 : Nat → Int32} (h2 : F q2 = .inl (cs 16, 8, .inl fh)) (h5 : F q5 = .inl (cs 17, 64, .inl f2)) (hs : ∀ j, j < 8 → fh j = rst M (q / 64) j) (hf : ∀ j, j < q % 64 + 1 → f2 j = M (64 * (q / 64) + j)) (hq : q % 64 + 1 < 64) : HQ cs F q2 q5 M (q + 1) :=
  ⟨fh, f2, h2, h5, fun j hj => by rw [show (q + 1) / 64 = q / 64 by omega]; exact hs j hj, fun j hj => by rw [show (q + 1) / 64 = q / 64 by omega]; exact hf j (by omega)⟩
theorem HQ.rnd {cs : Nat → ClassId} {F : Nat → va_E} {q2 q5 q : Nat} {M fh f2 f3 f4 : Nat → Int32} (h2 : F q2 = .inl (cs 16, 8, .inl f3)) (h5 : F q5 = .inl (cs 17, 64, .inl f4)) (hs : ∀ j, j < 8 → fh j = rst M (q / 64) j) (hf : ∀ j, j < q % 64 + 1 → f2 j = M (64 * (q / 64) + j)) (hq : 64 ≤ q % 64 + 1) (h3 : ∀ j, j < 8 → f3 j = mxs (wob f2) fh j) : HQ cs F q2 q5 M (q + 1) :=
  ⟨f3, f4, h2, h5, fun j hj => by rw [show (q + 1) / 64 = q / 64 + 1 by omega, h3 j hj, mxs_cg (wob_cg (fun i hi => hf i (by omega))) hs j hj]; rfl, fun j hj => absurd hj (by omega)⟩
theorem i64_1 (q : Nat) : Int64.ofNat q + 1 = Int64.ofNat (q + 1) := (Int64.ofNat_add q 1).symm
theorem b64_hi0 : ∀ a9, a9 < 78 → ∀ b9, b9 < 78 → ((((8 : Int64) * Int64.ofNat (78 * a9 + b9)).toUInt64 >>> ((32 : Int32).toInt64.toUInt64 &&& Int64.toUInt64 63)).toInt64).toInt32 = 0 := by decide +kernel
theorem b64_hi : ∀ q, q < 6001 → ((((8 : Int64) * Int64.ofNat q).toUInt64 >>> ((32 : Int32).toInt64.toUInt64 &&& Int64.toUInt64 63)).toInt64).toInt32 = 0 := fun q h => by
  have h9 := b64_hi0 (q / 78) (by omega) (q % 78) (by omega)
  rw [show 78 * (q / 78) + q % 78 = q by omega] at h9
  exact h9
theorem b64_lo0 : ∀ a9, a9 < 78 → ∀ b9, b9 < 78 → ((8 : Int64) * Int64.ofNat (78 * a9 + b9)).toInt32 = nI (8 * (78 * a9 + b9)) := by decide +kernel
theorem b64_lo : ∀ q, q < 6001 → ((8 : Int64) * Int64.ofNat q).toInt32 = nI (8 * q) := fun q h => by
  have h9 := b64_lo0 (q / 78) (by omega) (q % 78) (by omega)
  rw [show 78 * (q / 78) + q % 78 = q by omega] at h9
  exact h9
set_option maxHeartbeats 4000000 in
set_option maxRecDepth 100000 in
theorem s_X12_one_e (l : Launch) (dC : Nat → ClassId) (dI : Nat → Nat → Nat) (cs : Nat → ClassId) (ty : TyM) (gm : Nat → Nat → Nat) (L : List Nat) (sz : Nat) (F : Nat → va_E) (h0 : Nat) (ρ : Nat) (q1 : Nat) (q2 : Nat) (q3 : Nat) (q4 : Nat) (q5 : Nat) (q : Nat) (M : Nat → Int32) (x1 : Int32) (hW : WTm ty gm L) (hL_h0 : h0 ∈ L) (hT_h0 : ty h0 = (12, ρ, [q1, q2, q3, q4, q5])) (hF0 : F h0 = .inr (12, [.ref q1, .ref q2, .ref q3, .ref q4, .ref q5, .int (nI (q % 64)), .long (Int64.ofNat q)])) (hHQ : HQ cs F q2 q5 M q) (hq9 : q ≤ 20000) (hM : nb8 x1 = M q) : Met l yX12_one (.code yX12_one cX12_one 2 none :: tb) ({ frames := 2, cells := 0, slots := 0, locals := 52 }) (va_Pc [.ref h0, .int x1] (PTm (dC, dI) cs ty gm L F sz)) (va_Qv (fun _ : Unit => True) (fun _ T9 => ∃ F2 : Nat → va_E, QTm (dC, dI) cs ty gm L [ρ] F F2 (va_A (va_pl L F) sz) T9 ∧ F2 h0 = .inr (12, [.ref q1, .ref q2, .ref q3, .ref q4, .ref q5, .int (nI ((q + 1) % 64)), .long (Int64.ofNat (q + 1))]) ∧ HQ cs F2 q2 q5 M (q + 1)) (va_A (va_pl L F) sz)) 0 0 (va_A (va_pl L F) sz) := by
  refine Met.ofW (cc := cX12_one) (maxL := 2) (ret := none) (by decide) rfl ?_
  intro p e s m args below meth c s₁ B hml hv
  obtain ⟨rfl, hsz, hP, hK, hD0, hE, hO⟩ := hv
  have hx := B.exec
  have hb := B.bytes
  have hr := B.returns
  have hts : ∀ w ∈ tb, w.before _ s = true := fun w h => atoms_spec (ws := .code yX12_one cX12_one 2 none :: tb) B.pre w (List.mem_cons_of_mem _ h)
  have hown : s.vm.findClass RX12 = some m.cls := findClass_of_methodNamed B.named
  have hlocks := B.notSynchronized
  subst hsz
  have hD := hD0.self (sz := s.heap.size)
  generalize hAe : va_A (va_pl L F) s.heap.size = A at hD ⊢
  have hA : ∀ q : Nat, s.heap.size ≤ q → A q := fun q h => by rw [← hAe]; exact Or.inr h
  have hS : va_S A s.heap s.heap [] := va_S.rf
  have hR : FR ty [ρ] F F := FR.refl
  have hl := lv_entry ([.ref h0, .int x1]) (n := 2) (Nat.le_of_ble_eq_true rfl)
  rw [lg_entry_eq]
  generalize (lg_sl ([.ref h0, .int x1]) ++ List.replicate (2 - (lg_sl ([.ref h0, .int x1])).length) Slot.unset).toArray = ls at hl ⊢
  have hl : lv_has ls 2 [(0, .ref h0), (1, .int x1)] := hl
  obtain ⟨hi_1, hi_2, hi_3, hi_4, hi_5, ht_6, ht_7, ht_8, ht_9, ht_10⟩ := hW.hash hL_h0 hT_h0
  obtain ⟨fh, fb, hb1, hb2, hb3, hb4⟩ := id hHQ
  have hBF := bfmo hb2 (hO.octs hi_5 ht_10)
  refine lv_aload_n hx hb dX12_one_0 rfl (lv_at hl 0 rfl) ?_
  refine pg_get (ci := 12) (v := .ref q5) (C := RX12) (T := TX12) (N := 7) hx hb hts it_12 hown hK hP hL_h0 hF0 rfl 4 (by decide) (hts _ kt_775) (fun _ h9 => h9) rfl dX12_one_1 ?_
  refine lv_aload_n hx hb dX12_one_4 rfl (lv_at hl 0 rfl) ?_
  refine pg_get (ci := 12) (v := .int (nI (q % 64))) (C := RX12) (T := TX12) (N := 7) hx hb hts it_12 hown hK hP hL_h0 hF0 rfl 5 (by decide) (hts _ kt_776) (fun _ h9 => h9) rfl dX12_one_5 ?_
  refine lv_iload_n hx hb dX12_one_8 rfl (lv_at hl 1 rfl) ?_
  refine lv_i2b hx hb dX12_one_9 rfl ?_
  refine lv_topi (fun x_11 ex_11 => ?_)
  obtain rfl : x_11 = (x1.toInt8.toInt32) := ex_11.trans (rfl)
  obtain ⟨hq_12, hq_13⟩ := hW.octs hi_5 ht_10
  refine pg_bast hx hb hK hP hD hS hi_5 1 hb2 rfl (vp_in_nI (by omega) (by omega)) dX12_one_10 (fun H locs hP hD hS => ?_)
  obtain ⟨F_14, he_15, hP, hD, hO, hR⟩ : ∃ G, G = va_up F q5 (.inl (cs 17, 64, .inl (upd fb ((nI (q % 64))).toNatClampNeg (vp_nar .byte ((x1.toInt8.toInt32)))))) ∧ va_P (dC, dI) vwCl (va_pl L G) H ∧ va_D A (va_pl L G) ∧ OKm cs ty gm L G ∧ FR ty [ρ] F G := ⟨_, rfl, hP, hD, hO.up (shm.octs ht_10 ⟨_, rfl, bfm_upd hBF _ _⟩), hR.up ht_10 (by simp)⟩
  have hF_16 : F_14 q5 = .inl (cs 17, 64, .inl (upd fb ((nI (q % 64))).toNatClampNeg (vp_nar .byte ((x1.toInt8.toInt32))))) := by rw [he_15]; exact up_self
  have hF_17 : F_14 h0 = .inr (12, [.ref q1, .ref q2, .ref q3, .ref q4, .ref q5, .int (nI (q % 64)), .long (Int64.ofNat q)]) := by rw [he_15, up_ne (ne_ty hT_h0 ht_10 (by simp))]; exact hF0
  have hF_18 : F_14 q2 = .inl (cs 16, 8, .inl fh) := by rw [he_15, up_ne (ne_ty ht_7 ht_10 (by simp))]; exact hb1
  obtain ⟨f_19, hF_16, hq_20, hfe_21⟩ : ∃ f : Nat → Int32, F_14 q5 = .inl (cs 17, 64, .inl f) ∧ BFm f ∧ f = upd fb ((nI (q % 64))).toNatClampNeg (vp_nar .byte ((x1.toInt8.toInt32))) := ⟨_, hF_16, bfm_upd hBF _ _, rfl⟩
  have hbk := blk_in hb4 (hfe_21.trans (by rw [nI_clamp (by omega)]; rfl)) hM
  refine lv_aload_n hx hb dX12_one_11 rfl (lv_at hl 0 rfl) ?_
  refine lv_dup hx hb dX12_one_12 rfl ?_
  refine pg_get (ci := 12) (v := .int (nI (q % 64))) (C := RX12) (T := TX12) (N := 7) hx hb hts it_12 hown hK hP hL_h0 hF_17 rfl 5 (by decide) (hts _ kt_776) (fun _ h9 => h9) rfl dX12_one_13 ?_
  refine lv_iconst (v := 1) hx hb dX12_one_16 (by decide) ?_
  refine lv_iadd hx hb dX12_one_17 ?_
  refine lv_topi (fun x_22 ex_22 => ?_)
  obtain rfl : x_22 = (nI ((q % 64) + 1)) := ex_22.trans (nI_add (q % 64) 1)
  refine pg_put (ci := 12) (v := .int (nI ((q % 64) + 1))) (ty := .int) (C := RX12) (T := TX12) (N := 7) hx hb hts it_12 tyX12 tyX12_ok nmX12 hown hK hP hD hS hL_h0 hF_17 rfl 5 (by decide) (hts _ kt_776) (fun _ h9 => h9) rfl (by decide +kernel) (rfl) (rfl) (Nat.le_of_ble_eq_true rfl) dX12_one_18 (fun H locs hP hD hS => ?_)
  obtain ⟨F_23, he_24, hP, hD, hO, hR⟩ : ∃ G, G = va_up F_14 h0 (.inr (12, [.ref q1, .ref q2, .ref q3, .ref q4, .ref q5, .int (nI ((q % 64) + 1)), .long (Int64.ofNat q)])) ∧ va_P (dC, dI) vwCl (va_pl L G) H ∧ va_D A (va_pl L G) ∧ OKm cs ty gm L G ∧ FR ty [ρ] F G := ⟨_, rfl, hP, hD, hO.up (shm.hash hT_h0 ⟨((q % 64) + 1), (Int64.ofNat q), rfl, (by first | omega | assumption | exact Or.inl rfl | exact Or.inr rfl)⟩), hR.up hT_h0 (by simp)⟩
  have hF_25 : F_23 h0 = .inr (12, [.ref q1, .ref q2, .ref q3, .ref q4, .ref q5, .int (nI ((q % 64) + 1)), .long (Int64.ofNat q)]) := by rw [he_24]; exact up_self
  have hF_26 : F_23 q5 = .inl (cs 17, 64, .inl f_19) := by rw [he_24, up_ne (ne_ty ht_10 hT_h0 (by simp))]; exact hF_16
  have hF_27 : F_23 q2 = .inl (cs 16, 8, .inl fh) := by rw [he_24, up_ne (ne_ty ht_7 hT_h0 (by simp))]; exact hF_18
  refine lv_aload_n hx hb dX12_one_21 rfl (lv_at hl 0 rfl) ?_
  refine lv_dup hx hb dX12_one_22 rfl ?_
  refine pg_get (ci := 12) (v := .long (Int64.ofNat q)) (C := RX12) (T := TX12) (N := 7) hx hb hts it_12 hown hK hP hL_h0 hF_25 rfl 6 (by decide) (hts _ kt_777) (fun _ h9 => h9) rfl dX12_one_23 ?_
  refine lv_lconst (v := 1) hx hb dX12_one_26 (by decide) ?_
  refine lv_ladd hx hb dX12_one_27 ?_
  refine lv_topl (fun x_28 ex_28 => ?_)
  obtain rfl : x_28 = (Int64.ofNat (q + 1)) := ex_28.trans (i64_1 q)
  refine pg_put (ci := 12) (v := .long (Int64.ofNat (q + 1))) (ty := .long) (C := RX12) (T := TX12) (N := 7) hx hb hts it_12 tyX12 tyX12_ok nmX12 hown hK hP hD hS hL_h0 hF_25 rfl 6 (by decide) (hts _ kt_777) (fun _ h9 => h9) rfl (by decide +kernel) (rfl) (rfl) (Nat.le_of_ble_eq_true rfl) dX12_one_28 (fun H locs hP hD hS => ?_)
  obtain ⟨F_29, he_30, hP, hD, hO, hR⟩ : ∃ G, G = va_up F_23 h0 (.inr (12, [.ref q1, .ref q2, .ref q3, .ref q4, .ref q5, .int (nI ((q % 64) + 1)), .long (Int64.ofNat (q + 1))])) ∧ va_P (dC, dI) vwCl (va_pl L G) H ∧ va_D A (va_pl L G) ∧ OKm cs ty gm L G ∧ FR ty [ρ] F G := ⟨_, rfl, hP, hD, hO.up (shm.hash hT_h0 ⟨((q % 64) + 1), (Int64.ofNat (q + 1)), rfl, (by first | omega | assumption | exact Or.inl rfl | exact Or.inr rfl)⟩), hR.up hT_h0 (by simp)⟩
  have hF_31 : F_29 h0 = .inr (12, [.ref q1, .ref q2, .ref q3, .ref q4, .ref q5, .int (nI ((q % 64) + 1)), .long (Int64.ofNat (q + 1))]) := by rw [he_30]; exact up_self
  have hF_32 : F_29 q5 = .inl (cs 17, 64, .inl f_19) := by rw [he_30, up_ne (ne_ty ht_10 hT_h0 (by simp))]; exact hF_26
  have hF_33 : F_29 q2 = .inl (cs 16, 8, .inl fh) := by rw [he_30, up_ne (ne_ty ht_7 hT_h0 (by simp))]; exact hF_27
  refine lv_aload_n hx hb dX12_one_31 rfl (lv_at hl 0 rfl) ?_
  refine pg_get (ci := 12) (v := .int (nI ((q % 64) + 1))) (C := RX12) (T := TX12) (N := 7) hx hb hts it_12 hown hK hP hL_h0 hF_31 rfl 5 (by decide) (hts _ kt_776) (fun _ h9 => h9) rfl dX12_one_32 ?_
  refine lv_bipush (v := 64) hx hb dX12_one_35 (by decide) ?_
  refine lv_icmp_ge (tgt := 41) hx hb dX12_one_37 (by decide) (fun c_34 => ?_) (fun c_34 => ?_)
  ·
    have hi_35 : 64 ≤ ((q % 64) + 1) := leN (N := 64) c_34
    refine lv_aload_n hx hb dX12_one_41 rfl (lv_at hl 0 rfl) ?_
    obtain ⟨hq_36, hq_37⟩ := hW.ints hi_2 ht_7
    have hFc := pg_free hD hS hA
    refine va_callv (va_runV (As := []) (rest := []) ⟨hx, hb, hml, hown, hts⟩ (s_X12_round_e l dC dI cs ty gm L H.size F_29 h0 ρ q1 q2 q3 q4 q5 ((q % 64) + 1) (Int64.ofNat (q + 1)) fh f_19 hW hL_h0 hT_h0 hF_31 hF_33 hF_32) ⟨callB_of 0 hts (gi kt_778) rfl rfl rfl (hts _ kt_779) (hts _ kt_780) (by decide +kernel) ⟨Nat.le_of_ble_eq_true rfl, Nat.le_of_ble_eq_true rfl⟩, (hts _ kt_781), (hts _ kt_782)⟩ ⟨fun a U g mk q => ⟨q.1, PTm.calling q.2⟩, pg_recv hK hP hL_h0 hF_31 (q := (RX12, TX12, 7)) rfl, fun U hU hWm => ⟨rfl, PTm.mk hU hWm hP hK hD hE hO⟩⟩ rfl rfl hl.1 rfl (lv_room (Nat.le_of_ble_eq_true rfl)) dX12_one_42 ⟨by show _ + 0 ≤ 0; omega, by show _ + 0 ≤ 0; omega⟩) hS (fun q _ h => hFc q h) hFc (fun u t H1 locs ht hvm hw hB hz1 hk1 hS => ?_)
    obtain ⟨F_39, f2_40, hB1, hq_41, hq_42, hq_43⟩ := hB
    obtain ⟨hP, hD, hO, hR⟩ := QTm.back hB1 ht hFc hR (fun q h => by simp only [List.mem_cons, List.not_mem_nil, or_false] at h ⊢; omega)
    generalize H1 = H at hP hS ⊢
    refine lv_aload_n hx hb dX12_one_45 rfl (lv_at hl 0 rfl) ?_
    refine lv_iconst (v := 0) hx hb dX12_one_46 (by decide) ?_
    refine pg_put (ci := 12) (v := .int 0) (ty := .int) (C := RX12) (T := TX12) (N := 7) hx hb hts it_12 tyX12 tyX12_ok nmX12 hown hK hP hD hS hL_h0 hq_41 rfl 5 (by decide) (hts _ kt_776) (fun _ h9 => h9) rfl (by decide +kernel) (rfl) (rfl) (Nat.le_of_ble_eq_true rfl) dX12_one_47 (fun H locs hP hD hS => ?_)
    obtain ⟨F_44, he_45, hP, hD, hO, hR⟩ : ∃ G, G = va_up F_39 h0 (.inr (12, [.ref q1, .ref q2, .ref q3, .ref q4, .ref q5, .int 0, .long (Int64.ofNat (q + 1))])) ∧ va_P (dC, dI) vwCl (va_pl L G) H ∧ va_D A (va_pl L G) ∧ OKm cs ty gm L G ∧ FR ty [ρ] F G := ⟨_, rfl, hP, hD, hO.up (shm.hash hT_h0 ⟨0, (Int64.ofNat (q + 1)), rfl, (by first | omega | assumption | exact Or.inl rfl | exact Or.inr rfl)⟩), hR.up hT_h0 (by simp)⟩
    have hF_46 : F_44 h0 = .inr (12, [.ref q1, .ref q2, .ref q3, .ref q4, .ref q5, .int 0, .long (Int64.ofNat (q + 1))]) := by rw [he_45]; exact up_self
    have hF_47 : F_44 q2 = .inl (cs 16, 8, .inl f2_40) := by rw [he_45, up_ne (ne_ty ht_7 hT_h0 (by simp))]; exact hq_42
    refine W.widen (k := 0) (n := 0) (by omega) (by omega) ?_
    obtain ⟨f_48, hF_49, hq_50⟩ := hO.octs hi_5 ht_10
    exact W.vret hx hb hr (fun t ht hWm => ⟨⟨(), rfl, trivial, ⟨F_44, QTm.mk ht hP hD hO hR, (by rw [show (q + 1) % 64 = 0 by omega]; exact hF_46), HQ.rnd hF_47 hF_49 hb3 hbk (by omega) hq_43⟩⟩, hS.F ht⟩) hS.2.2 dX12_one_50
  ·
    have hi_51 : ((q % 64) + 1) < 64 := ltN (N := 64) c_34
    refine W.widen (k := 0) (n := 0) (by omega) (by omega) ?_
    exact W.vret hx hb hr (fun t ht hWm => ⟨⟨(), rfl, trivial, ⟨F_29, QTm.mk ht hP hD hO hR, (by rw [show (q + 1) % 64 = q % 64 + 1 by omega]; exact hF_31), HQ.one hF_33 hF_32 hb3 hbk (by omega)⟩⟩, hS.F ht⟩) hS.2.2 dX12_one_40
set_option maxHeartbeats 4000000 in
set_option maxRecDepth 100000 in
theorem s_X12_begin_e (l : Launch) (dC : Nat → ClassId) (dI : Nat → Nat → Nat) (cs : Nat → ClassId) (ty : TyM) (gm : Nat → Nat → Nat) (L : List Nat) (sz : Nat) (F : Nat → va_E) (h0 : Nat) (ρ : Nat) (q1 : Nat) (q2 : Nat) (q3 : Nat) (q4 : Nat) (q5 : Nat) (M : Nat → Int32) (hW : WTm ty gm L) (hL_h0 : h0 ∈ L) (hT_h0 : ty h0 = (12, ρ, [q1, q2, q3, q4, q5])) : Met l yX12_begin (.code yX12_begin cX12_begin 1 none :: tb) ({ frames := 1, cells := 0, slots := 0, locals := 48 }) (va_Pc [.ref h0] (PTm (dC, dI) cs ty gm L F sz)) (va_Qv (fun _ : Unit => True) (fun _ T9 => ∃ F2 : Nat → va_E, QTm (dC, dI) cs ty gm L [ρ] F F2 (va_A (va_pl L F) sz) T9 ∧ F2 h0 = .inr (12, [.ref q1, .ref q2, .ref q3, .ref q4, .ref q5, .int (nI (0 % 64)), .long (Int64.ofNat 0)]) ∧ HQ cs F2 q2 q5 M 0) (va_A (va_pl L F) sz)) 0 0 (va_A (va_pl L F) sz) := by
  refine Met.ofW (cc := cX12_begin) (maxL := 1) (ret := none) (by decide) rfl ?_
  intro p e s m args below meth c s₁ B hml hv
  obtain ⟨rfl, hsz, hP, hK, hD0, hE, hO⟩ := hv
  have hx := B.exec
  have hb := B.bytes
  have hr := B.returns
  have hts : ∀ w ∈ tb, w.before _ s = true := fun w h => atoms_spec (ws := .code yX12_begin cX12_begin 1 none :: tb) B.pre w (List.mem_cons_of_mem _ h)
  have hown : s.vm.findClass RX12 = some m.cls := findClass_of_methodNamed B.named
  have hlocks := B.notSynchronized
  subst hsz
  have hD := hD0.self (sz := s.heap.size)
  generalize hAe : va_A (va_pl L F) s.heap.size = A at hD ⊢
  have hA : ∀ q : Nat, s.heap.size ≤ q → A q := fun q h => by rw [← hAe]; exact Or.inr h
  have hS : va_S A s.heap s.heap [] := va_S.rf
  have hR : FR ty [ρ] F F := FR.refl
  have hl := lv_entry ([.ref h0]) (n := 1) (Nat.le_of_ble_eq_true rfl)
  rw [lg_entry_eq]
  generalize (lg_sl ([.ref h0]) ++ List.replicate (1 - (lg_sl ([.ref h0])).length) Slot.unset).toArray = ls at hl ⊢
  have hl : lv_has ls 1 [(0, .ref h0)] := hl
  obtain ⟨hi_1, hi_2, hi_3, hi_4, hi_5, ht_6, ht_7, ht_8, ht_9, ht_10⟩ := hW.hash hL_h0 hT_h0
  refine lv_aload_n hx hb dX12_begin_0 rfl (lv_at hl 0 rfl) ?_
  obtain ⟨z_11, v_12, hF_13, hq_14⟩ := hO.hash hL_h0 hT_h0
  refine pg_get (ci := 12) (v := .ref q1) (C := RX12) (T := TX12) (N := 7) hx hb hts it_12 hown hK hP hL_h0 hF_13 rfl 0 (by decide) (hts _ kt_783) (fun _ h9 => h9) rfl dX12_begin_1 ?_
  refine lv_iconst (v := 0) hx hb dX12_begin_4 (by decide) ?_
  refine lv_aload_n hx hb dX12_begin_5 rfl (lv_at hl 0 rfl) ?_
  refine pg_get (ci := 12) (v := .ref q2) (C := RX12) (T := TX12) (N := 7) hx hb hts it_12 hown hK hP hL_h0 hF_13 rfl 1 (by decide) (hts _ kt_768) (fun _ h9 => h9) rfl dX12_begin_6 ?_
  refine lv_iconst (v := 0) hx hb dX12_begin_9 (by decide) ?_
  refine lv_bipush (v := 8) hx hb dX12_begin_10 (by decide) ?_
  obtain ⟨f_15, hF_16, hq_17⟩ := hO.kst hi_1 ht_6
  obtain ⟨hq_18, hq_19⟩ := hW.ints hi_2 ht_7
  obtain ⟨f_20, hF_21⟩ := hO.ints hi_2 ht_7
  refine pg_copyi hx hb (by rw [hml]; exact hl.1.symm) hown (hts _ kt_784) (hts _ kt_29) (hts _ kt_30) (hts _ kt_31) hK hP hD hS hi_1 hi_2 0 0 hF_16 hF_21 rfl rfl rfl (by decide) (by decide) (by decide) (by decide) (by decide) (fun _ _ => rfl) (Nat.le_of_ble_eq_true rfl) (by decide) dX12_begin_12 (fun H locs hP hD hS => ?_)
  obtain ⟨F_22, he_23, hP, hD, hO, hR⟩ : ∃ G, G = va_up F q2 (.inl (cs 16, 8, .inl (va_cpy f_15 f_20 (0 : Int32).toNatClampNeg (0 : Int32).toNatClampNeg (8 : Int32).toNatClampNeg))) ∧ va_P (dC, dI) vwCl (va_pl L G) H ∧ va_D A (va_pl L G) ∧ OKm cs ty gm L G ∧ FR ty [ρ] F G := ⟨_, rfl, hP, hD, hO.up (shm.ints ht_7 ⟨_, rfl⟩), hR.up ht_7 (by simp)⟩
  have hF_24 : F_22 q2 = .inl (cs 16, 8, .inl (va_cpy f_15 f_20 (0 : Int32).toNatClampNeg (0 : Int32).toNatClampNeg (8 : Int32).toNatClampNeg)) := by rw [he_23]; exact up_self
  have hF_25 : F_22 h0 = .inr (12, [.ref q1, .ref q2, .ref q3, .ref q4, .ref q5, .int (nI z_11), .long v_12]) := by rw [he_23, up_ne (ne_ty hT_h0 ht_7 (by simp))]; exact hF_13
  have hF_26 : F_22 q1 = .inl (cs 16, 8, .inl f_15) := by rw [he_23, up_ne (ne_ty ht_6 ht_7 (by simp))]; exact hF_16
  refine lv_aload_n hx hb dX12_begin_15 rfl (lv_at hl 0 rfl) ?_
  refine lv_iconst (v := 0) hx hb dX12_begin_16 (by decide) ?_
  refine pg_put (ci := 12) (v := .int 0) (ty := .int) (C := RX12) (T := TX12) (N := 7) hx hb hts it_12 tyX12 tyX12_ok nmX12 hown hK hP hD hS hL_h0 hF_25 rfl 5 (by decide) (hts _ kt_776) (fun _ h9 => h9) rfl (by decide +kernel) (rfl) (rfl) (Nat.le_of_ble_eq_true rfl) dX12_begin_17 (fun H locs hP hD hS => ?_)
  obtain ⟨F_27, he_28, hP, hD, hO, hR⟩ : ∃ G, G = va_up F_22 h0 (.inr (12, [.ref q1, .ref q2, .ref q3, .ref q4, .ref q5, .int 0, .long v_12])) ∧ va_P (dC, dI) vwCl (va_pl L G) H ∧ va_D A (va_pl L G) ∧ OKm cs ty gm L G ∧ FR ty [ρ] F G := ⟨_, rfl, hP, hD, hO.up (shm.hash hT_h0 ⟨0, v_12, rfl, (by first | omega | assumption | exact Or.inl rfl | exact Or.inr rfl)⟩), hR.up hT_h0 (by simp)⟩
  have hF_29 : F_27 h0 = .inr (12, [.ref q1, .ref q2, .ref q3, .ref q4, .ref q5, .int 0, .long v_12]) := by rw [he_28]; exact up_self
  have hF_30 : F_27 q2 = .inl (cs 16, 8, .inl (va_cpy f_15 f_20 (0 : Int32).toNatClampNeg (0 : Int32).toNatClampNeg (8 : Int32).toNatClampNeg)) := by rw [he_28, up_ne (ne_ty ht_7 hT_h0 (by simp))]; exact hF_24
  have hF_31 : F_27 q1 = .inl (cs 16, 8, .inl f_15) := by rw [he_28, up_ne (ne_ty ht_6 hT_h0 (by simp))]; exact hF_26
  refine lv_aload_n hx hb dX12_begin_20 rfl (lv_at hl 0 rfl) ?_
  refine lv_lconst (v := 0) hx hb dX12_begin_21 (by decide) ?_
  refine pg_put (ci := 12) (v := .long 0) (ty := .long) (C := RX12) (T := TX12) (N := 7) hx hb hts it_12 tyX12 tyX12_ok nmX12 hown hK hP hD hS hL_h0 hF_29 rfl 6 (by decide) (hts _ kt_777) (fun _ h9 => h9) rfl (by decide +kernel) (rfl) (rfl) (Nat.le_of_ble_eq_true rfl) dX12_begin_22 (fun H locs hP hD hS => ?_)
  obtain ⟨F_32, he_33, hP, hD, hO, hR⟩ : ∃ G, G = va_up F_27 h0 (.inr (12, [.ref q1, .ref q2, .ref q3, .ref q4, .ref q5, .int 0, .long 0])) ∧ va_P (dC, dI) vwCl (va_pl L G) H ∧ va_D A (va_pl L G) ∧ OKm cs ty gm L G ∧ FR ty [ρ] F G := ⟨_, rfl, hP, hD, hO.up (shm.hash hT_h0 ⟨0, 0, rfl, (by first | omega | assumption | exact Or.inl rfl | exact Or.inr rfl)⟩), hR.up hT_h0 (by simp)⟩
  have hF_34 : F_32 h0 = .inr (12, [.ref q1, .ref q2, .ref q3, .ref q4, .ref q5, .int 0, .long 0]) := by rw [he_33]; exact up_self
  have hF_35 : F_32 q2 = .inl (cs 16, 8, .inl (va_cpy f_15 f_20 (0 : Int32).toNatClampNeg (0 : Int32).toNatClampNeg (8 : Int32).toNatClampNeg)) := by rw [he_33, up_ne (ne_ty ht_7 hT_h0 (by simp))]; exact hF_30
  have hF_36 : F_32 q1 = .inl (cs 16, 8, .inl f_15) := by rw [he_33, up_ne (ne_ty ht_6 hT_h0 (by simp))]; exact hF_31
  refine W.widen (k := 0) (n := 0) (by omega) (by omega) ?_
  obtain ⟨hq_37, hq_38⟩ := hW.octs hi_5 ht_10
  obtain ⟨f_39, hF_40, hq_41⟩ := hO.octs hi_5 ht_10
  exact W.vret hx hb hr (fun t ht hWm => ⟨⟨(), rfl, trivial, ⟨F_32, QTm.mk ht hP hD hO hR, hF_34, ⟨_, _, hF_35, hF_40, fun j hj => (cpy8 j hj).trans (hq_17 j hj), fun j hj => absurd hj (Nat.not_lt_zero _)⟩⟩⟩, hS.F ht⟩) hS.2.2 dX12_begin_25
set_option maxHeartbeats 4000000 in
set_option maxRecDepth 100000 in
theorem s_X12_add_e (l : Launch) (dC : Nat → ClassId) (dI : Nat → Nat → Nat) (cs : Nat → ClassId) (ty : TyM) (gm : Nat → Nat → Nat) (L : List Nat) (sz : Nat) (F : Nat → va_E) (h0 : Nat) (ρ : Nat) (q1 : Nat) (q2 : Nat) (q3 : Nat) (q4 : Nat) (q5 : Nat) (g1 : Nat) (σ : Nat) (n1 : Nat) (q : Nat) (k : Nat) (M : Nat → Int32) (gb : Nat → Int32) (hW : WTm ty gm L) (hL_h0 : h0 ∈ L) (hT_h0 : ty h0 = (12, ρ, [q1, q2, q3, q4, q5])) (hL_g1 : g1 ∈ L) (hT_g1 : ty g1 = (17, σ, [n1])) (hF0 : F h0 = .inr (12, [.ref q1, .ref q2, .ref q3, .ref q4, .ref q5, .int (nI (q % 64)), .long (Int64.ofNat q)])) (hHQ : HQ cs F q2 q5 M q) (hq9 : q ≤ 20000) (hFg : F g1 = .inl (cs 17, n1, .inl gb)) (hk : k ≤ n1) (hk9 : k ≤ 6000) (hq3 : q ≤ 6000) (hsr : σ ≠ ρ) (hM : ∀ i, i < k → nb8 (gb i) = M (q + i)) : Met l yX12_add (.code yX12_add cX12_add 5 none :: tb) ({ frames := 3, cells := 0, slots := 0, locals := 73 }) (va_Pc [.ref h0, .ref g1, .int 0, .int (nI k)] (PTm (dC, dI) cs ty gm L F sz)) (va_Qv (fun _ : Unit => True) (fun _ T9 => ∃ F2 : Nat → va_E, QTm (dC, dI) cs ty gm L [ρ] F F2 (va_A (va_pl L F) sz) T9 ∧ F2 h0 = .inr (12, [.ref q1, .ref q2, .ref q3, .ref q4, .ref q5, .int (nI ((q + k) % 64)), .long (Int64.ofNat (q + k))]) ∧ HQ cs F2 q2 q5 M (q + k)) (va_A (va_pl L F) sz)) 0 0 (va_A (va_pl L F) sz) := by
  refine Met.ofW (cc := cX12_add) (maxL := 5) (ret := none) (by decide) rfl ?_
  intro p e s m args below meth c s₁ B hml hv
  obtain ⟨rfl, hsz, hP, hK, hD0, hE, hO⟩ := hv
  have hx := B.exec
  have hb := B.bytes
  have hr := B.returns
  have hts : ∀ w ∈ tb, w.before _ s = true := fun w h => atoms_spec (ws := .code yX12_add cX12_add 5 none :: tb) B.pre w (List.mem_cons_of_mem _ h)
  have hown : s.vm.findClass RX12 = some m.cls := findClass_of_methodNamed B.named
  have hlocks := B.notSynchronized
  subst hsz
  have hD := hD0.self (sz := s.heap.size)
  generalize hAe : va_A (va_pl L F) s.heap.size = A at hD ⊢
  have hA : ∀ q : Nat, s.heap.size ≤ q → A q := fun q h => by rw [← hAe]; exact Or.inr h
  have hS : va_S A s.heap s.heap [] := va_S.rf
  have hR : FR ty [ρ] F F := FR.refl
  have hl := lv_entry ([.ref h0, .ref g1, .int 0, .int (nI k)]) (n := 5) (Nat.le_of_ble_eq_true rfl)
  rw [lg_entry_eq]
  generalize (lg_sl ([.ref h0, .ref g1, .int 0, .int (nI k)]) ++ List.replicate (5 - (lg_sl ([.ref h0, .ref g1, .int 0, .int (nI k)])).length) Slot.unset).toArray = ls at hl ⊢
  have hl : lv_has ls 5 [(0, .ref h0), (1, .ref g1), (2, .int 0), (3, .int (nI k))] := hl
  obtain ⟨hq_1, hq_2⟩ := hW.octs hL_g1 hT_g1
  refine lv_iload_n hx hb dX12_add_0 rfl (lv_at hl 2 rfl) ?_
  refine lv_istore (lv' := [(4, .int 0), (0, .ref h0), (1, .ref g1), (2, .int 0), (3, .int (nI k))]) hx hb dX12_add_1 hl (by decide) rfl (fun ls hl => ?_)
  refine W.widen (k := 0) (n := 0) (by omega) (by omega) ?_
  have hF_4 : F g1 = .inl (cs 17, n1, .inl gb) := (hR g1 (by rw [hT_g1]; simp only [List.mem_cons, List.not_mem_nil, or_false]; omega)).symm.trans hFg
  refine pl_loopm (σ := Nat) A (dC, dI) cs ty gm L [ρ] F 3 5 (fun j => [(4, .int (nI j)), (0, .ref h0), (1, .ref g1), (2, .int 0), (3, .int (nI k))]) (fun j => []) (fun j FF => j ≤ k ∧ FF h0 = .inr (12, [.ref q1, .ref q2, .ref q3, .ref q4, .ref q5, .int (nI ((q + j) % 64)), .long (Int64.ofNat (q + j))]) ∧ HQ cs FF q2 q5 M (q + j)) (fun j => k - j) ?_ 0 F (⟨by omega, hF0, hHQ⟩) hO hR _ _ hP hD hS ls (lv_sub hl [0, 1, 2, 3, 4] rfl)
  rintro j F_3 hv_5 hO hR ih_6 H locs hP hD hS ls hl
  have hl : lv_has ls 5 [(4, .int (nI j)), (0, .ref h0), (1, .ref g1), (2, .int 0), (3, .int (nI k))] := hl
  have hv_5 : j ≤ k ∧ F_3 h0 = .inr (12, [.ref q1, .ref q2, .ref q3, .ref q4, .ref q5, .int (nI ((q + j) % 64)), .long (Int64.ofNat (q + j))]) ∧ HQ cs F_3 q2 q5 M (q + j) := hv_5
  refine W.eq (g2 := F0 m 3 ls []) rfl ?_
  have hF_7 : F_3 g1 = .inl (cs 17, n1, .inl gb) := (hR g1 (by rw [hT_g1]; simp only [List.mem_cons, List.not_mem_nil, or_false]; omega)).trans hF_4
  obtain ⟨ha1, ha2, ha3⟩ := id hv_5
  refine lv_iload hx hb dX12_add_3 (lv_at hl 0 rfl) ?_
  refine lv_iload_n hx hb dX12_add_5 rfl (lv_at hl 3 rfl) ?_
  refine lv_iload_n hx hb dX12_add_6 rfl (lv_at hl 4 rfl) ?_
  refine lv_iadd hx hb dX12_add_7 ?_
  refine lv_topi (fun x_8 ex_8 => ?_)
  obtain rfl : x_8 = (nI k) := ex_8.trans (Int32.zero_add _)
  refine lv_icmp_ge (tgt := 25) hx hb dX12_add_8 (by decide) (fun c_9 => ?_) (fun c_9 => ?_)
  ·
    have hi_10 : k ≤ j := leN (N := k) c_9
    have hjk : j = k := by omega
    subst hjk
    refine W.widen (k := 0) (n := 0) (by omega) (by omega) ?_
    exact W.vret hx hb hr (fun t ht hWm => ⟨⟨(), rfl, trivial, ⟨F_3, QTm.mk ht hP hD hO hR, ha2, ha3⟩⟩, hS.F ht⟩) hS.2.2 dX12_add_25
  ·
    have hi_11 : j < k := ltN (N := k) c_9
    refine lv_aload_n hx hb dX12_add_11 rfl (lv_at hl 1 rfl) ?_
    refine lv_aload_n hx hb dX12_add_12 rfl (lv_at hl 2 rfl) ?_
    refine lv_iload hx hb dX12_add_13 (lv_at hl 0 rfl) ?_
    refine pg_bald hx hb hK hP hL_g1 1 hF_7 rfl (vp_in_nI (by omega) (by omega)) dX12_add_15 ?_
    refine lv_topi (fun x_12 ex_12 => ?_)
    obtain rfl : x_12 = gb j := ex_12.trans (congrArg gb (show ((nI j) : Int32).toNatClampNeg = j from nI_clamp (by omega)))
    obtain ⟨hi_13, hi_14, hi_15, hi_16, hi_17, ht_18, ht_19, ht_20, ht_21, ht_22⟩ := hW.hash hL_h0 hT_h0
    have hFc := pg_free hD hS hA
    refine va_callv (va_runV (As := [.int (gb j)]) (rest := []) ⟨hx, hb, hml, hown, hts⟩ (s_X12_one_e l dC dI cs ty gm L H.size F_3 h0 ρ q1 q2 q3 q4 q5 (q + j) M (gb j) hW hL_h0 hT_h0 ha2 (ha3) (by omega) (hM j (by omega))) ⟨callB_of 1 hts (gi kt_785) rfl rfl rfl (hts _ kt_779) (hts _ kt_786) (by decide +kernel) ⟨Nat.le_of_ble_eq_true rfl, Nat.le_of_ble_eq_true rfl⟩, (hts _ kt_787), (hts _ kt_788)⟩ ⟨fun a U g mk q => ⟨q.1, PTm.calling q.2⟩, pg_recv hK hP hL_h0 ha2 (q := (RX12, TX12, 7)) rfl, fun U hU hWm => ⟨rfl, PTm.mk hU hWm hP hK hD hE hO⟩⟩ rfl rfl hl.1 rfl (lv_room (Nat.le_of_ble_eq_true rfl)) dX12_add_16 ⟨by show _ + 0 ≤ 0; omega, by show _ + 0 ≤ 0; omega⟩) hS (fun q _ h => hFc q h) hFc (fun u t H1 locs ht hvm hw hB hz1 hk1 hS => ?_)
    obtain ⟨F_24, hB1, hq_25, hq_26⟩ := hB
    obtain ⟨hP, hD, hO, hR⟩ := QTm.back hB1 ht hFc hR (fun q h => by simp only [List.mem_cons, List.not_mem_nil, or_false] at h ⊢; omega)
    have hF_27 : F_24 g1 = .inl (cs 17, n1, .inl gb) := (hB1.2.2.2 g1 (by rw [hT_g1]; simp only [List.mem_cons, List.not_mem_nil, or_false]; omega)).trans hF_7
    generalize H1 = H at hP hS ⊢
    refine lv_iinc (v := (nI (j + 1))) (lv' := [(4, .int (nI (j + 1))), (0, .ref h0), (1, .ref g1), (2, .int 0), (3, .int (nI k))]) hx hb dX12_add_19 hl (k := 0) rfl (nI_1 _) (by decide) rfl (fun ls hl => ?_)
    refine lv_goto (tgt := 3) hx hb dX12_add_22 (by decide) ?_
    refine W.widen (k := 0) (n := 0) (by omega) (by omega) ?_
    exact ih_6 (j + 1) F_24 (⟨by omega, hq_25, hq_26⟩) (by show k - (j + 1) < k - j; omega) hO hR _ _ hP hD hS ls (lv_sub hl [0, 1, 2, 3, 4] rfl)
set_option maxHeartbeats 4000000 in
set_option maxRecDepth 100000 in
theorem s_X12_four_e (l : Launch) (dC : Nat → ClassId) (dI : Nat → Nat → Nat) (cs : Nat → ClassId) (ty : TyM) (gm : Nat → Nat → Nat) (L : List Nat) (sz : Nat) (F : Nat → va_E) (h0 : Nat) (ρ : Nat) (q1 : Nat) (q2 : Nat) (q3 : Nat) (q4 : Nat) (q5 : Nat) (q : Nat) (M : Nat → Int32) (x1 : Int32) (hW : WTm ty gm L) (hL_h0 : h0 ∈ L) (hT_h0 : ty h0 = (12, ρ, [q1, q2, q3, q4, q5])) (hF0 : F h0 = .inr (12, [.ref q1, .ref q2, .ref q3, .ref q4, .ref q5, .int (nI (q % 64)), .long (Int64.ofNat q)])) (hHQ : HQ cs F q2 q5 M q) (hq9 : q ≤ 20000) (hq4 : q ≤ 9000) (hM : ∀ k, k < 4 → nb8 (shr x1 (nI (24 - 8 * k))) = M (q + k)) : Met l yX12_four (.code yX12_four cX12_four 3 none :: tb) ({ frames := 3, cells := 0, slots := 0, locals := 73 }) (va_Pc [.ref h0, .int x1] (PTm (dC, dI) cs ty gm L F sz)) (va_Qv (fun _ : Unit => True) (fun _ T9 => ∃ F2 : Nat → va_E, QTm (dC, dI) cs ty gm L [ρ] F F2 (va_A (va_pl L F) sz) T9 ∧ F2 h0 = .inr (12, [.ref q1, .ref q2, .ref q3, .ref q4, .ref q5, .int (nI ((q + 4) % 64)), .long (Int64.ofNat (q + 4))]) ∧ HQ cs F2 q2 q5 M (q + 4)) (va_A (va_pl L F) sz)) 0 0 (va_A (va_pl L F) sz) := by
  refine Met.ofW (cc := cX12_four) (maxL := 3) (ret := none) (by decide) rfl ?_
  intro p e s m args below meth c s₁ B hml hv
  obtain ⟨rfl, hsz, hP, hK, hD0, hE, hO⟩ := hv
  have hx := B.exec
  have hb := B.bytes
  have hr := B.returns
  have hts : ∀ w ∈ tb, w.before _ s = true := fun w h => atoms_spec (ws := .code yX12_four cX12_four 3 none :: tb) B.pre w (List.mem_cons_of_mem _ h)
  have hown : s.vm.findClass RX12 = some m.cls := findClass_of_methodNamed B.named
  have hlocks := B.notSynchronized
  subst hsz
  have hD := hD0.self (sz := s.heap.size)
  generalize hAe : va_A (va_pl L F) s.heap.size = A at hD ⊢
  have hA : ∀ q : Nat, s.heap.size ≤ q → A q := fun q h => by rw [← hAe]; exact Or.inr h
  have hS : va_S A s.heap s.heap [] := va_S.rf
  have hR : FR ty [ρ] F F := FR.refl
  have hl := lv_entry ([.ref h0, .int x1]) (n := 3) (Nat.le_of_ble_eq_true rfl)
  rw [lg_entry_eq]
  generalize (lg_sl ([.ref h0, .int x1]) ++ List.replicate (3 - (lg_sl ([.ref h0, .int x1])).length) Slot.unset).toArray = ls at hl ⊢
  have hl : lv_has ls 3 [(0, .ref h0), (1, .int x1)] := hl
  refine lv_bipush (v := 24) hx hb dX12_four_0 (by decide) ?_
  refine lv_istore_n (lv' := [(2, .int 24), (0, .ref h0), (1, .int x1)]) hx hb dX12_four_2 rfl hl (by decide) rfl (fun ls hl => ?_)
  refine lv_iload_n hx hb dX12_four_3 rfl (lv_at hl 0 rfl) ?_
  refine lv_if_lt (tgt := 20) hx hb dX12_four_4 (by decide) (fun c_1 => absurd c_1 (by decide)) (fun c_1 => ?_)
  refine lv_aload_n hx hb dX12_four_7 rfl (lv_at hl 1 rfl) ?_
  refine lv_iload_n hx hb dX12_four_8 rfl (lv_at hl 2 rfl) ?_
  refine lv_iload_n hx hb dX12_four_9 rfl (lv_at hl 0 rfl) ?_
  refine lv_ishr hx hb dX12_four_10 ?_
  refine lv_topi (fun x_2 ex_2 => ?_)
  obtain rfl : x_2 = (shr x1 24) := ex_2.trans (rfl)
  obtain ⟨hi_3, hi_4, hi_5, hi_6, hi_7, ht_8, ht_9, ht_10, ht_11, ht_12⟩ := hW.hash hL_h0 hT_h0
  have hFc := pg_free hD hS hA
  refine va_callv (va_runV (As := [.int (shr x1 24)]) (rest := []) ⟨hx, hb, hml, hown, hts⟩ (s_X12_one_e l dC dI cs ty gm L s.heap.size F h0 ρ q1 q2 q3 q4 q5 q M (shr x1 24) hW hL_h0 hT_h0 hF0 (hHQ) (by omega) (hM 0 (by omega))) ⟨callB_of 1 hts (gi kt_785) rfl rfl rfl (hts _ kt_779) (hts _ kt_786) (by decide +kernel) ⟨Nat.le_of_ble_eq_true rfl, Nat.le_of_ble_eq_true rfl⟩, (hts _ kt_787), (hts _ kt_788)⟩ ⟨fun a U g mk q => ⟨q.1, PTm.calling q.2⟩, pg_recv hK hP hL_h0 hF0 (q := (RX12, TX12, 7)) rfl, fun U hU hWm => ⟨rfl, PTm.mk hU hWm hP hK hD hE hO⟩⟩ rfl rfl hl.1 rfl (lv_room (Nat.le_of_ble_eq_true rfl)) dX12_four_11 ⟨by show _ + 0 ≤ 0; omega, by show _ + 0 ≤ 0; omega⟩) hS (fun q _ h => hFc q h) hFc (fun u t H1 locs ht hvm hw hB hz1 hk1 hS => ?_)
  obtain ⟨F_14, hB1, hq_15, hq_16⟩ := hB
  obtain ⟨hP, hD, hO, hR⟩ := QTm.back hB1 ht hFc hR (fun q h => by simp only [List.mem_cons, List.not_mem_nil, or_false] at h ⊢; omega)
  generalize H1 = H at hP hS ⊢
  refine lv_iinc (v := 16) (lv' := [(2, .int 16), (0, .ref h0), (1, .int x1)]) hx hb dX12_four_14 hl (k := 0) rfl (by decide) (by decide) rfl (fun ls hl => ?_)
  refine lv_goto (tgt := 3) hx hb dX12_four_17 (by decide) ?_
  refine lv_iload_n hx hb dX12_four_3 rfl (lv_at hl 0 rfl) ?_
  refine lv_if_lt (tgt := 20) hx hb dX12_four_4 (by decide) (fun c_17 => absurd c_17 (by decide)) (fun c_17 => ?_)
  refine lv_aload_n hx hb dX12_four_7 rfl (lv_at hl 1 rfl) ?_
  refine lv_iload_n hx hb dX12_four_8 rfl (lv_at hl 2 rfl) ?_
  refine lv_iload_n hx hb dX12_four_9 rfl (lv_at hl 0 rfl) ?_
  refine lv_ishr hx hb dX12_four_10 ?_
  refine lv_topi (fun x_18 ex_18 => ?_)
  obtain rfl : x_18 = (shr x1 16) := ex_18.trans (rfl)
  have hFc := pg_free hD hS hA
  refine va_callv (va_runV (As := [.int (shr x1 16)]) (rest := []) ⟨hx, hb, hml, hown, hts⟩ (s_X12_one_e l dC dI cs ty gm L H.size F_14 h0 ρ q1 q2 q3 q4 q5 (q + 1) M (shr x1 16) hW hL_h0 hT_h0 hq_15 (hq_16) (by omega) (hM 1 (by omega))) ⟨callB_of 1 hts (gi kt_785) rfl rfl rfl (hts _ kt_779) (hts _ kt_786) (by decide +kernel) ⟨Nat.le_of_ble_eq_true rfl, Nat.le_of_ble_eq_true rfl⟩, (hts _ kt_787), (hts _ kt_788)⟩ ⟨fun a U g mk q => ⟨q.1, PTm.calling q.2⟩, pg_recv hK hP hL_h0 hq_15 (q := (RX12, TX12, 7)) rfl, fun U hU hWm => ⟨rfl, PTm.mk hU hWm hP hK hD hE hO⟩⟩ rfl rfl hl.1 rfl (lv_room (Nat.le_of_ble_eq_true rfl)) dX12_four_11 ⟨by show _ + 0 ≤ 0; omega, by show _ + 0 ≤ 0; omega⟩) hS (fun q _ h => hFc q h) hFc (fun u t H1 locs ht hvm hw hB hz1 hk1 hS => ?_)
  obtain ⟨F_20, hB1, hq_21, hq_22⟩ := hB
  obtain ⟨hP, hD, hO, hR⟩ := QTm.back hB1 ht hFc hR (fun q h => by simp only [List.mem_cons, List.not_mem_nil, or_false] at h ⊢; omega)
  generalize H1 = H at hP hS ⊢
  refine lv_iinc (v := 8) (lv' := [(2, .int 8), (0, .ref h0), (1, .int x1)]) hx hb dX12_four_14 hl (k := 0) rfl (by decide) (by decide) rfl (fun ls hl => ?_)
  refine lv_goto (tgt := 3) hx hb dX12_four_17 (by decide) ?_
  refine lv_iload_n hx hb dX12_four_3 rfl (lv_at hl 0 rfl) ?_
  refine lv_if_lt (tgt := 20) hx hb dX12_four_4 (by decide) (fun c_23 => absurd c_23 (by decide)) (fun c_23 => ?_)
  refine lv_aload_n hx hb dX12_four_7 rfl (lv_at hl 1 rfl) ?_
  refine lv_iload_n hx hb dX12_four_8 rfl (lv_at hl 2 rfl) ?_
  refine lv_iload_n hx hb dX12_four_9 rfl (lv_at hl 0 rfl) ?_
  refine lv_ishr hx hb dX12_four_10 ?_
  refine lv_topi (fun x_24 ex_24 => ?_)
  obtain rfl : x_24 = (shr x1 8) := ex_24.trans (rfl)
  have hFc := pg_free hD hS hA
  refine va_callv (va_runV (As := [.int (shr x1 8)]) (rest := []) ⟨hx, hb, hml, hown, hts⟩ (s_X12_one_e l dC dI cs ty gm L H.size F_20 h0 ρ q1 q2 q3 q4 q5 (q + 2) M (shr x1 8) hW hL_h0 hT_h0 hq_21 (hq_22) (by omega) (hM 2 (by omega))) ⟨callB_of 1 hts (gi kt_785) rfl rfl rfl (hts _ kt_779) (hts _ kt_786) (by decide +kernel) ⟨Nat.le_of_ble_eq_true rfl, Nat.le_of_ble_eq_true rfl⟩, (hts _ kt_787), (hts _ kt_788)⟩ ⟨fun a U g mk q => ⟨q.1, PTm.calling q.2⟩, pg_recv hK hP hL_h0 hq_21 (q := (RX12, TX12, 7)) rfl, fun U hU hWm => ⟨rfl, PTm.mk hU hWm hP hK hD hE hO⟩⟩ rfl rfl hl.1 rfl (lv_room (Nat.le_of_ble_eq_true rfl)) dX12_four_11 ⟨by show _ + 0 ≤ 0; omega, by show _ + 0 ≤ 0; omega⟩) hS (fun q _ h => hFc q h) hFc (fun u t H1 locs ht hvm hw hB hz1 hk1 hS => ?_)
  obtain ⟨F_26, hB1, hq_27, hq_28⟩ := hB
  obtain ⟨hP, hD, hO, hR⟩ := QTm.back hB1 ht hFc hR (fun q h => by simp only [List.mem_cons, List.not_mem_nil, or_false] at h ⊢; omega)
  generalize H1 = H at hP hS ⊢
  refine lv_iinc (v := 0) (lv' := [(2, .int 0), (0, .ref h0), (1, .int x1)]) hx hb dX12_four_14 hl (k := 0) rfl (by decide) (by decide) rfl (fun ls hl => ?_)
  refine lv_goto (tgt := 3) hx hb dX12_four_17 (by decide) ?_
  refine lv_iload_n hx hb dX12_four_3 rfl (lv_at hl 0 rfl) ?_
  refine lv_if_lt (tgt := 20) hx hb dX12_four_4 (by decide) (fun c_29 => absurd c_29 (by decide)) (fun c_29 => ?_)
  refine lv_aload_n hx hb dX12_four_7 rfl (lv_at hl 1 rfl) ?_
  refine lv_iload_n hx hb dX12_four_8 rfl (lv_at hl 2 rfl) ?_
  refine lv_iload_n hx hb dX12_four_9 rfl (lv_at hl 0 rfl) ?_
  refine lv_ishr hx hb dX12_four_10 ?_
  refine lv_topi (fun x_30 ex_30 => ?_)
  obtain rfl : x_30 = (shr x1 0) := ex_30.trans (rfl)
  have hFc := pg_free hD hS hA
  refine va_callv (va_runV (As := [.int (shr x1 0)]) (rest := []) ⟨hx, hb, hml, hown, hts⟩ (s_X12_one_e l dC dI cs ty gm L H.size F_26 h0 ρ q1 q2 q3 q4 q5 (q + 3) M (shr x1 0) hW hL_h0 hT_h0 hq_27 (hq_28) (by omega) (hM 3 (by omega))) ⟨callB_of 1 hts (gi kt_785) rfl rfl rfl (hts _ kt_779) (hts _ kt_786) (by decide +kernel) ⟨Nat.le_of_ble_eq_true rfl, Nat.le_of_ble_eq_true rfl⟩, (hts _ kt_787), (hts _ kt_788)⟩ ⟨fun a U g mk q => ⟨q.1, PTm.calling q.2⟩, pg_recv hK hP hL_h0 hq_27 (q := (RX12, TX12, 7)) rfl, fun U hU hWm => ⟨rfl, PTm.mk hU hWm hP hK hD hE hO⟩⟩ rfl rfl hl.1 rfl (lv_room (Nat.le_of_ble_eq_true rfl)) dX12_four_11 ⟨by show _ + 0 ≤ 0; omega, by show _ + 0 ≤ 0; omega⟩) hS (fun q _ h => hFc q h) hFc (fun u t H1 locs ht hvm hw hB hz1 hk1 hS => ?_)
  obtain ⟨F_32, hB1, hq_33, hq_34⟩ := hB
  obtain ⟨hP, hD, hO, hR⟩ := QTm.back hB1 ht hFc hR (fun q h => by simp only [List.mem_cons, List.not_mem_nil, or_false] at h ⊢; omega)
  generalize H1 = H at hP hS ⊢
  refine lv_iinc (v := (-8)) (lv' := [(2, .int (-8)), (0, .ref h0), (1, .int x1)]) hx hb dX12_four_14 hl (k := 0) rfl (by decide) (by decide) rfl (fun ls hl => ?_)
  refine lv_goto (tgt := 3) hx hb dX12_four_17 (by decide) ?_
  refine lv_iload_n hx hb dX12_four_3 rfl (lv_at hl 0 rfl) ?_
  refine lv_if_lt (tgt := 20) hx hb dX12_four_4 (by decide) (fun c_35 => ?_) (fun c_35 => absurd (by decide) c_35)
  refine W.widen (k := 0) (n := 0) (by omega) (by omega) ?_
  exact W.vret hx hb hr (fun t ht hWm => ⟨⟨(), rfl, trivial, ⟨F_32, QTm.mk ht hP hD hO hR, hq_33, hq_34⟩⟩, hS.F ht⟩) hS.2.2 dX12_four_20
theorem fo_up {fo f2 fh S : Nat → Int32} {i1 : Nat} (h : ∀ j, j < i1 → fo j = nb8 (shr (S (j / 4)) (nI (24 - 8 * (j % 4))))) (hs : ∀ j, j < 8 → fh j = S j) (he : f2 = upd fo i1 (nb8 (shr (fh (i1 / 4)) (nI (24 - 8 * (i1 % 4)))))) (hi : i1 < 32) : ∀ j, j < i1 + 1 → f2 j = nb8 (shr (S (j / 4)) (nI (24 - 8 * (j % 4)))) := by
  intro j hj
  rw [he]
  by_cases c : j = i1
  · rw [c, upd_at, hs (i1 / 4) (by omega)]
  · rw [upd_no c]
    exact h j (by omega)
set_option maxHeartbeats 4000000 in
set_option maxRecDepth 100000 in
theorem s_X12_finish_e (l : Launch) (dC : Nat → ClassId) (dI : Nat → Nat → Nat) (cs : Nat → ClassId) (ty : TyM) (gm : Nat → Nat → Nat) (L : List Nat) (sz : Nat) (F : Nat → va_E) (h0 : Nat) (ρ : Nat) (q1 : Nat) (q2 : Nat) (q3 : Nat) (q4 : Nat) (q5 : Nat) (gt : Nat) (τ : Nat) (nt : Nat) (q : Nat) (pt : Nat) (M : Nat → Int32) (hW : WTm ty gm L) (hL_h0 : h0 ∈ L) (hT_h0 : ty h0 = (12, ρ, [q1, q2, q3, q4, q5])) (hL_gt : gt ∈ L) (hT_gt : ty gt = (17, τ, [nt])) (hF0 : F h0 = .inr (12, [.ref q1, .ref q2, .ref q3, .ref q4, .ref q5, .int (nI (q % 64)), .long (Int64.ofNat q)])) (hHQ : HQ cs F q2 q5 M q) (hq9 : q ≤ 20000) (hq3 : q ≤ 6000) (hfit : 32 ≤ nt) (hnt9 : nt ≤ 10000) (hp1 : pt % 64 = 56) (hp2 : q + 1 ≤ pt) (hp3 : pt < q + 65) (hM1 : nb8 128 = M q) (hM2 : ∀ i, q < i → i < pt → nb8 0 = M i) (hM3 : ∀ k, k < 4 → nb8 (shr 0 (nI (24 - 8 * k))) = M (pt + k)) (hM4 : ∀ k, k < 4 → nb8 (shr (nI (8 * q)) (nI (24 - 8 * k))) = M (pt + 4 + k)) (htr : τ ≠ ρ) : Met l yX12_finish (.code yX12_finish cX12_finish 6 none :: tb) ({ frames := 4, cells := 0, slots := 0, locals := 95 }) (va_Pc [.ref h0, .ref gt, .int 0] (PTm (dC, dI) cs ty gm L F sz)) (va_Qv (fun _ : Unit => True) (fun _ T9 => ∃ F2 : Nat → va_E, ∃ fo : Nat → Int32, QTm (dC, dI) cs ty gm L [ρ, τ] F F2 (va_A (va_pl L F) sz) T9 ∧ F2 gt = .inl (cs 17, nt, .inl fo) ∧ (∀ j, j < 32 → fo j = nb8 (shr (rst M ((pt + 8) / 64) (j / 4)) (nI (24 - 8 * (j % 4)))))) (va_A (va_pl L F) sz)) 0 0 (va_A (va_pl L F) sz) := by
  refine Met.ofW (cc := cX12_finish) (maxL := 6) (ret := none) (by decide) rfl ?_
  intro p e s m args below meth c s₁ B hml hv
  obtain ⟨rfl, hsz, hP, hK, hD0, hE, hO⟩ := hv
  have hx := B.exec
  have hb := B.bytes
  have hr := B.returns
  have hts : ∀ w ∈ tb, w.before _ s = true := fun w h => atoms_spec (ws := .code yX12_finish cX12_finish 6 none :: tb) B.pre w (List.mem_cons_of_mem _ h)
  have hown : s.vm.findClass RX12 = some m.cls := findClass_of_methodNamed B.named
  have hlocks := B.notSynchronized
  subst hsz
  have hD := hD0.self (sz := s.heap.size)
  generalize hAe : va_A (va_pl L F) s.heap.size = A at hD ⊢
  have hA : ∀ q : Nat, s.heap.size ≤ q → A q := fun q h => by rw [← hAe]; exact Or.inr h
  have hS : va_S A s.heap s.heap [] := va_S.rf
  have hR : FR ty [ρ, τ] F F := FR.refl
  have hl := lv_entry ([.ref h0, .ref gt, .int 0]) (n := 6) (Nat.le_of_ble_eq_true rfl)
  rw [lg_entry_eq]
  generalize (lg_sl ([.ref h0, .ref gt, .int 0]) ++ List.replicate (6 - (lg_sl ([.ref h0, .ref gt, .int 0])).length) Slot.unset).toArray = ls at hl ⊢
  have hl : lv_has ls 6 [(0, .ref h0), (1, .ref gt), (2, .int 0)] := hl
  obtain ⟨hi_1, hi_2, hi_3, hi_4, hi_5, ht_6, ht_7, ht_8, ht_9, ht_10⟩ := hW.hash hL_h0 hT_h0
  obtain ⟨hq_11, hq_12⟩ := hW.octs hL_gt hT_gt
  refine lv_ldc2 (v := 8) hx hb hown (hts _ kt_789) dX12_finish_0 ?_
  refine lv_aload_n hx hb dX12_finish_3 rfl (lv_at hl 0 rfl) ?_
  refine pg_get (ci := 12) (v := .long (Int64.ofNat q)) (C := RX12) (T := TX12) (N := 7) hx hb hts it_12 hown hK hP hL_h0 hF0 rfl 6 (by decide) (hts _ kt_777) (fun _ h9 => h9) rfl dX12_finish_4 ?_
  refine lv_lmul hx hb dX12_finish_7 ?_
  refine lv_topl (fun x_13 ex_13 => ?_)
  obtain rfl : x_13 = ((8 : Int64) * Int64.ofNat q) := ex_13.trans (rfl)
  refine lv_lstore_n (lv' := [(3, .long ((8 : Int64) * Int64.ofNat q)), (0, .ref h0), (1, .ref gt), (2, .int 0)]) hx hb dX12_finish_8 rfl hl (by decide) rfl (fun ls hl => ?_)
  refine lv_aload_n hx hb dX12_finish_9 rfl (lv_at hl 1 rfl) ?_
  refine lv_sipush (v := 128) hx hb dX12_finish_10 (by decide) ?_
  have hFc := pg_free hD hS hA
  refine va_callv (va_runV (As := [.int 128]) (rest := []) ⟨hx, hb, hml, hown, hts⟩ (s_X12_one_e l dC dI cs ty gm L s.heap.size F h0 ρ q1 q2 q3 q4 q5 q M 128 hW hL_h0 hT_h0 hF0 (hHQ) (by omega) (hM1)) ⟨callB_of 1 hts (gi kt_785) rfl rfl rfl (hts _ kt_779) (hts _ kt_786) (by decide +kernel) ⟨Nat.le_of_ble_eq_true rfl, Nat.le_of_ble_eq_true rfl⟩, (hts _ kt_787), (hts _ kt_788)⟩ ⟨fun a U g mk q => ⟨q.1, PTm.calling q.2⟩, pg_recv hK hP hL_h0 hF0 (q := (RX12, TX12, 7)) rfl, fun U hU hWm => ⟨rfl, PTm.mk hU hWm hP hK hD hE hO⟩⟩ rfl rfl hl.1 rfl (lv_room (Nat.le_of_ble_eq_true rfl)) dX12_finish_13 ⟨by show _ + 0 ≤ 0; omega, by show _ + 0 ≤ 0; omega⟩) hS (fun q _ h => hFc q h) hFc (fun u t H1 locs ht hvm hw hB hz1 hk1 hS => ?_)
  obtain ⟨F_15, hB1, hq_16, hq_17⟩ := hB
  obtain ⟨hP, hD, hO, hR⟩ := QTm.back hB1 ht hFc hR (fun q h => by simp only [List.mem_cons, List.not_mem_nil, or_false] at h ⊢; omega)
  generalize H1 = H at hP hS ⊢
  refine W.widen (k := 0) (n := 0) (by omega) (by omega) ?_
  refine pl_loopm (σ := Nat) A (dC, dI) cs ty gm L [ρ, τ] F 16 6 (fun p9 => [(3, .long ((8 : Int64) * Int64.ofNat q)), (0, .ref h0), (1, .ref gt), (2, .int 0)]) (fun p9 => []) (fun p9 FF => q + 1 ≤ p9 ∧ p9 ≤ pt ∧ FF h0 = .inr (12, [.ref q1, .ref q2, .ref q3, .ref q4, .ref q5, .int (nI (p9 % 64)), .long (Int64.ofNat p9)]) ∧ HQ cs FF q2 q5 M p9) (fun p9 => pt - p9) ?_ (q + 1) F_15 (⟨by omega, by omega, hq_16, hq_17⟩) hO hR _ _ hP hD hS ls (lv_sub hl [0, 1, 2, 3] rfl)
  rintro p9 F_18 hv_19 hO hR ih_20 H locs hP hD hS ls hl
  have hl : lv_has ls 6 [(3, .long ((8 : Int64) * Int64.ofNat q)), (0, .ref h0), (1, .ref gt), (2, .int 0)] := hl
  have hv_19 : q + 1 ≤ p9 ∧ p9 ≤ pt ∧ F_18 h0 = .inr (12, [.ref q1, .ref q2, .ref q3, .ref q4, .ref q5, .int (nI (p9 % 64)), .long (Int64.ofNat p9)]) ∧ HQ cs F_18 q2 q5 M p9 := hv_19
  refine W.eq (g2 := F0 m 16 ls []) rfl ?_
  obtain ⟨ha1, ha2, ha3, ha4⟩ := id hv_19
  refine lv_aload_n hx hb dX12_finish_16 rfl (lv_at hl 1 rfl) ?_
  refine pg_get (ci := 12) (v := .int (nI (p9 % 64))) (C := RX12) (T := TX12) (N := 7) hx hb hts it_12 hown hK hP hL_h0 ha3 rfl 5 (by decide) (hts _ kt_776) (fun _ h9 => h9) rfl dX12_finish_17 ?_
  refine lv_bipush (v := 56) hx hb dX12_finish_20 (by decide) ?_
  refine lv_icmp_eq (tgt := 33) hx hb dX12_finish_22 (by decide) (fun c_21 => ?_) (fun c_21 => ?_)
  ·
    have hi_22 : (p9 % 64) = 56 := (nI_eq (a := (p9 % 64)) (b := 56) (by omega) (by omega)).mp c_21
    have hpp : p9 = pt := by omega
    rw [hpp] at ha3 ha4
    refine lv_aload_n hx hb dX12_finish_33 rfl (lv_at hl 1 rfl) ?_
    refine lv_lload_n hx hb dX12_finish_34 rfl (lv_at hl 0 rfl) ?_
    refine lv_bipush (v := 32) hx hb dX12_finish_35 (by decide) ?_
    refine lv_lushr hx hb dX12_finish_37 rfl ?_
    refine lv_topl (fun x_24 ex_24 => ?_)
    obtain rfl : x_24 = ((((8 : Int64) * Int64.ofNat q).toUInt64 >>> ((32 : Int32).toInt64.toUInt64 &&& Int64.toUInt64 63)).toInt64) := ex_24.trans (rfl)
    refine lv_l2i hx hb dX12_finish_38 rfl ?_
    refine lv_topi (fun x_25 ex_25 => ?_)
    obtain rfl : x_25 = 0 := ex_25.trans (b64_hi q (by omega))
    have hFc := pg_free hD hS hA
    refine va_callv (va_runV (As := [.int 0]) (rest := []) ⟨hx, hb, hml, hown, hts⟩ (s_X12_four_e l dC dI cs ty gm L H.size F_18 h0 ρ q1 q2 q3 q4 q5 pt M 0 hW hL_h0 hT_h0 ha3 (ha4) (by omega) (by first | omega | assumption | exact Or.inl rfl) (hM3)) ⟨callB_of 1 hts (gi kt_790) rfl rfl rfl (hts _ kt_779) (hts _ kt_791) (by decide +kernel) ⟨Nat.le_of_ble_eq_true rfl, Nat.le_of_ble_eq_true rfl⟩, (hts _ kt_792), (hts _ kt_793)⟩ ⟨fun a U g mk q => ⟨q.1, PTm.calling q.2⟩, pg_recv hK hP hL_h0 ha3 (q := (RX12, TX12, 7)) rfl, fun U hU hWm => ⟨rfl, PTm.mk hU hWm hP hK hD hE hO⟩⟩ rfl rfl hl.1 rfl (lv_room (Nat.le_of_ble_eq_true rfl)) dX12_finish_39 ⟨by show _ + 0 ≤ 0; omega, by show _ + 0 ≤ 0; omega⟩) hS (fun q _ h => hFc q h) hFc (fun u t H1 locs ht hvm hw hB hz1 hk1 hS => ?_)
    obtain ⟨F_27, hB1, hq_28, hq_29⟩ := hB
    obtain ⟨hP, hD, hO, hR⟩ := QTm.back hB1 ht hFc hR (fun q h => by simp only [List.mem_cons, List.not_mem_nil, or_false] at h ⊢; omega)
    generalize H1 = H at hP hS ⊢
    refine lv_aload_n hx hb dX12_finish_42 rfl (lv_at hl 1 rfl) ?_
    refine lv_lload_n hx hb dX12_finish_43 rfl (lv_at hl 0 rfl) ?_
    refine lv_l2i hx hb dX12_finish_44 rfl ?_
    refine lv_topi (fun x_30 ex_30 => ?_)
    obtain rfl : x_30 = (nI (8 * q)) := ex_30.trans (b64_lo q (by omega))
    have hFc := pg_free hD hS hA
    refine va_callv (va_runV (As := [.int (nI (8 * q))]) (rest := []) ⟨hx, hb, hml, hown, hts⟩ (s_X12_four_e l dC dI cs ty gm L H.size F_27 h0 ρ q1 q2 q3 q4 q5 (pt + 4) M (nI (8 * q)) hW hL_h0 hT_h0 hq_28 (hq_29) (by omega) (by first | omega | assumption | exact Or.inl rfl) (hM4)) ⟨callB_of 1 hts (gi kt_790) rfl rfl rfl (hts _ kt_779) (hts _ kt_791) (by decide +kernel) ⟨Nat.le_of_ble_eq_true rfl, Nat.le_of_ble_eq_true rfl⟩, (hts _ kt_792), (hts _ kt_793)⟩ ⟨fun a U g mk q => ⟨q.1, PTm.calling q.2⟩, pg_recv hK hP hL_h0 hq_28 (q := (RX12, TX12, 7)) rfl, fun U hU hWm => ⟨rfl, PTm.mk hU hWm hP hK hD hE hO⟩⟩ rfl rfl hl.1 rfl (lv_room (Nat.le_of_ble_eq_true rfl)) dX12_finish_45 ⟨by show _ + 0 ≤ 0; omega, by show _ + 0 ≤ 0; omega⟩) hS (fun q _ h => hFc q h) hFc (fun u t H1 locs ht hvm hw hB hz1 hk1 hS => ?_)
    obtain ⟨F_32, hB1, hq_33, hq_34⟩ := hB
    obtain ⟨hP, hD, hO, hR⟩ := QTm.back hB1 ht hFc hR (fun q h => by simp only [List.mem_cons, List.not_mem_nil, or_false] at h ⊢; omega)
    generalize H1 = H at hP hS ⊢
    refine lv_iconst (v := 0) hx hb dX12_finish_48 (by decide) ?_
    refine lv_istore (lv' := [(5, .int 0), (3, .long ((8 : Int64) * Int64.ofNat q)), (0, .ref h0), (1, .ref gt), (2, .int 0)]) hx hb dX12_finish_49 hl (by decide) rfl (fun ls hl => ?_)
    obtain ⟨fh, fb, hc1, hc2, hc3, hc4⟩ := hq_34
    refine W.widen (k := 0) (n := 0) (by omega) (by omega) ?_
    obtain ⟨hq_36, hq_37⟩ := hW.ints hi_2 ht_7
    obtain ⟨f_38, hF_39, hq_40⟩ := hO.octs hL_gt hT_gt
    refine pl_loopm (σ := Nat) A (dC, dI) cs ty gm L [ρ, τ] F 51 6 (fun i1 => [(5, .int (nI i1)), (0, .ref h0), (1, .ref gt), (2, .int 0)]) (fun i1 => []) (fun i1 FF => i1 ≤ 32 ∧ FF q2 = .inl (cs 16, 8, .inl fh) ∧ ∃ fo : Nat → Int32, FF gt = .inl (cs 17, nt, .inl fo) ∧ ∀ j, j < i1 → fo j = nb8 (shr (rst M ((pt + 8) / 64) (j / 4)) (nI (24 - 8 * (j % 4))))) (fun i1 => 32 - i1) ?_ 0 F_32 (⟨by omega, hc1, _, hF_39, fun j hj => absurd hj (Nat.not_lt_zero _)⟩) hO hR _ _ hP hD hS ls (lv_sub hl [0, 2, 3, 4] rfl)
    rintro i1 F_35 hv_41 hO hR ih_42 H locs hP hD hS ls hl
    have hl : lv_has ls 6 [(5, .int (nI i1)), (0, .ref h0), (1, .ref gt), (2, .int 0)] := hl
    have hv_41 : i1 ≤ 32 ∧ F_35 q2 = .inl (cs 16, 8, .inl fh) ∧ ∃ fo : Nat → Int32, F_35 gt = .inl (cs 17, nt, .inl fo) ∧ ∀ j, j < i1 → fo j = nb8 (shr (rst M ((pt + 8) / 64) (j / 4)) (nI (24 - 8 * (j % 4)))) := hv_41
    refine W.eq (g2 := F0 m 51 ls []) rfl ?_
    obtain ⟨hd1, hd2, fo, hd3, hd4⟩ := id hv_41
    have hBG := bfmo hd3 (hO.octs hL_gt hT_gt)
    refine lv_iload hx hb dX12_finish_51 (lv_at hl 0 rfl) ?_
    refine lv_bipush (v := 32) hx hb dX12_finish_53 (by decide) ?_
    refine lv_icmp_ge (tgt := 91) hx hb dX12_finish_55 (by decide) (fun c_43 => ?_) (fun c_43 => ?_)
    ·
      have hi_44 : 32 ≤ i1 := leN (N := 32) c_43
      refine W.widen (k := 0) (n := 0) (by omega) (by omega) ?_
      exact W.vret hx hb hr (fun t ht hWm => ⟨⟨(), rfl, trivial, ⟨F_35, fo, QTm.mk ht hP hD hO hR, hd3, (fun j hj => hd4 j (by omega))⟩⟩, hS.F ht⟩) hS.2.2 dX12_finish_91
    ·
      have hi_45 : i1 < 32 := ltN (N := 32) c_43
      refine lv_aload_n hx hb dX12_finish_58 rfl (lv_at hl 2 rfl) ?_
      refine lv_iload_n hx hb dX12_finish_59 rfl (lv_at hl 3 rfl) ?_
      refine lv_iload hx hb dX12_finish_60 (lv_at hl 0 rfl) ?_
      refine lv_iadd hx hb dX12_finish_62 ?_
      refine lv_topi (fun x_46 ex_46 => ?_)
      obtain rfl : x_46 = (nI i1) := ex_46.trans (Int32.zero_add _)
      refine lv_aload_n hx hb dX12_finish_63 rfl (lv_at hl 1 rfl) ?_
      obtain ⟨z_47, v_48, hF_49, hq_50⟩ := hO.hash hL_h0 hT_h0
      refine pg_get (ci := 12) (v := .ref q2) (C := RX12) (T := TX12) (N := 7) hx hb hts it_12 hown hK hP hL_h0 hF_49 rfl 1 (by decide) (hts _ kt_768) (fun _ h9 => h9) rfl dX12_finish_64 ?_
      refine lv_iload hx hb dX12_finish_67 (lv_at hl 0 rfl) ?_
      refine lv_iconst (v := 4) hx hb dX12_finish_69 (by decide) ?_
      refine lv_idiv hx hb dX12_finish_70 (by decide) ?_
      refine lv_topi (fun x_51 ex_51 => ?_)
      obtain rfl : x_51 = (nI (i1 / 4)) := ex_51.trans (pk_div (d := 4) (by omega) (by omega) (by omega))
      obtain ⟨hq_52, hq_53⟩ := hW.ints hi_2 ht_7
      refine pg_iald hx hb hK hP hi_2 0 hd2 rfl (vp_in_nI (by omega) (by omega)) dX12_finish_71 ?_
      refine lv_topi (fun x_54 ex_54 => ?_)
      obtain rfl : x_54 = (fh (i1 / 4)) := ex_54.trans (congrArg fh (nI_clamp (by omega)))
      refine lv_bipush (v := 24) hx hb dX12_finish_72 (by decide) ?_
      refine lv_bipush (v := 8) hx hb dX12_finish_74 (by decide) ?_
      refine lv_iload hx hb dX12_finish_76 (lv_at hl 0 rfl) ?_
      refine lv_iconst (v := 4) hx hb dX12_finish_78 (by decide) ?_
      refine lv_irem hx hb dX12_finish_79 (by decide) ?_
      refine lv_topi (fun x_55 ex_55 => ?_)
      obtain rfl : x_55 = (nI (i1 % 4)) := ex_55.trans (pk_rem (a := i1) (d := 4) (by omega) (by omega) (by omega))
      refine lv_imul hx hb dX12_finish_80 ?_
      refine lv_topi (fun x_56 ex_56 => ?_)
      obtain rfl : x_56 = (nI (8 * (i1 % 4))) := ex_56.trans (pk_mul 8 (i1 % 4))
      refine lv_isub hx hb dX12_finish_81 ?_
      refine lv_topi (fun x_57 ex_57 => ?_)
      obtain rfl : x_57 = (nI (24 - (8 * (i1 % 4)))) := ex_57.trans (pk_sub (a := 24) (b := (8 * (i1 % 4))) (by omega))
      refine lv_ishr hx hb dX12_finish_82 ?_
      refine lv_topi (fun x_58 ex_58 => ?_)
      obtain rfl : x_58 = (shr (fh (i1 / 4)) (nI (24 - (8 * (i1 % 4))))) := ex_58.trans (rfl)
      refine lv_i2b hx hb dX12_finish_83 rfl ?_
      refine lv_topi (fun x_59 ex_59 => ?_)
      obtain rfl : x_59 = ((shr (fh (i1 / 4)) (nI (24 - (8 * (i1 % 4)))))).toInt8.toInt32 := ex_59.trans (rfl)
      refine pg_bast hx hb hK hP hD hS hL_gt 1 hd3 rfl (vp_in_nI (by omega) (by omega)) dX12_finish_84 (fun H locs hP hD hS => ?_)
      obtain ⟨F_60, he_61, hP, hD, hO, hR⟩ : ∃ G, G = va_up F_35 gt (.inl (cs 17, nt, .inl (upd fo ((nI i1)).toNatClampNeg (vp_nar .byte (((shr (fh (i1 / 4)) (nI (24 - (8 * (i1 % 4)))))).toInt8.toInt32))))) ∧ va_P (dC, dI) vwCl (va_pl L G) H ∧ va_D A (va_pl L G) ∧ OKm cs ty gm L G ∧ FR ty [ρ, τ] F G := ⟨_, rfl, hP, hD, hO.up (shm.octs hT_gt ⟨_, rfl, bfm_upd hBG _ _⟩), hR.up hT_gt (by simp)⟩
      have hF_62 : F_60 gt = .inl (cs 17, nt, .inl (upd fo ((nI i1)).toNatClampNeg (vp_nar .byte (((shr (fh (i1 / 4)) (nI (24 - (8 * (i1 % 4)))))).toInt8.toInt32)))) := by rw [he_61]; exact up_self
      have hF_63 : F_60 q2 = .inl (cs 16, 8, .inl fh) := by rw [he_61, up_ne (ne_ty ht_7 hT_gt (by simp))]; exact hd2
      have hF_64 : F_60 h0 = .inr (12, [.ref q1, .ref q2, .ref q3, .ref q4, .ref q5, .int (nI z_47), .long v_48]) := by rw [he_61, up_ne (ne_ty hT_h0 hT_gt (by simp))]; exact hF_49
      obtain ⟨f_65, hF_62, hq_66, hfe_67⟩ : ∃ f : Nat → Int32, F_60 gt = .inl (cs 17, nt, .inl f) ∧ BFm f ∧ f = upd fo ((nI i1)).toNatClampNeg (vp_nar .byte (((shr (fh (i1 / 4)) (nI (24 - (8 * (i1 % 4)))))).toInt8.toInt32)) := ⟨_, hF_62, bfm_upd hBG _ _, rfl⟩
      refine lv_iinc (v := (nI (i1 + 1))) (lv' := [(5, .int (nI (i1 + 1))), (0, .ref h0), (1, .ref gt), (2, .int 0)]) hx hb dX12_finish_85 hl (k := 0) rfl (nI_1 _) (by decide) rfl (fun ls hl => ?_)
      refine lv_goto (tgt := 51) hx hb dX12_finish_88 (by decide) ?_
      refine W.widen (k := 0) (n := 0) (by omega) (by omega) ?_
      exact ih_42 (i1 + 1) F_60 (⟨by omega, hF_63, _, hF_62, fo_up hd4 hc3 (hfe_67.trans (by rw [nI_clamp (by omega)]; rfl)) (by omega)⟩) (by show 32 - (i1 + 1) < 32 - i1; omega) hO hR _ _ hP hD hS ls (lv_sub hl [0, 1, 2, 3] rfl)
  ·
    have hi_68 : (p9 % 64) ≠ 56 := fun q => c_21 (by rw [q]; rfl)
    refine lv_aload_n hx hb dX12_finish_25 rfl (lv_at hl 1 rfl) ?_
    refine lv_iconst (v := 0) hx hb dX12_finish_26 (by decide) ?_
    have hFc := pg_free hD hS hA
    refine va_callv (va_runV (As := [.int 0]) (rest := []) ⟨hx, hb, hml, hown, hts⟩ (s_X12_one_e l dC dI cs ty gm L H.size F_18 h0 ρ q1 q2 q3 q4 q5 p9 M 0 hW hL_h0 hT_h0 ha3 (ha4) (by omega) (hM2 p9 (by omega) (by omega))) ⟨callB_of 1 hts (gi kt_785) rfl rfl rfl (hts _ kt_779) (hts _ kt_786) (by decide +kernel) ⟨Nat.le_of_ble_eq_true rfl, Nat.le_of_ble_eq_true rfl⟩, (hts _ kt_787), (hts _ kt_788)⟩ ⟨fun a U g mk q => ⟨q.1, PTm.calling q.2⟩, pg_recv hK hP hL_h0 ha3 (q := (RX12, TX12, 7)) rfl, fun U hU hWm => ⟨rfl, PTm.mk hU hWm hP hK hD hE hO⟩⟩ rfl rfl hl.1 rfl (lv_room (Nat.le_of_ble_eq_true rfl)) dX12_finish_27 ⟨by show _ + 0 ≤ 0; omega, by show _ + 0 ≤ 0; omega⟩) hS (fun q _ h => hFc q h) hFc (fun u t H1 locs ht hvm hw hB hz1 hk1 hS => ?_)
    obtain ⟨F_70, hB1, hq_71, hq_72⟩ := hB
    obtain ⟨hP, hD, hO, hR⟩ := QTm.back hB1 ht hFc hR (fun q h => by simp only [List.mem_cons, List.not_mem_nil, or_false] at h ⊢; omega)
    generalize H1 = H at hP hS ⊢
    refine lv_goto (tgt := 16) hx hb dX12_finish_30 (by decide) ?_
    refine W.widen (k := 0) (n := 0) (by omega) (by omega) ?_
    exact ih_20 (p9 + 1) F_70 (⟨by omega, by omega, hq_71, hq_72⟩) (by show pt - (p9 + 1) < pt - p9; omega) hO hR _ _ hP hD hS ls (lv_sub hl [0, 1, 2, 3] rfl)
def ptn (n : Nat) : Nat := 64 * ((n + 72) / 64) - 8
def pad (g : Nat → Int32) (n i : Nat) : Int32 := if i < n then nb8 (g i) else if i = n then nb8 128 else if i < ptn n then nb8 0 else if i < ptn n + 4 then nb8 (shr 0 (nI (24 - 8 * (i - ptn n)))) else nb8 (shr (nI (8 * n)) (nI (24 - 8 * (i - (ptn n + 4)))))
theorem ptn_1 (n : Nat) : ptn n % 64 = 56 ∧ n + 1 ≤ ptn n ∧ ptn n < n + 65 ∧ (ptn n + 8) / 64 = (n + 72) / 64 := by
  unfold ptn
  omega
theorem pad_0 {g : Nat → Int32} {n i : Nat} (h : i < n) : nb8 (g i) = pad g n (0 + i) := by
  rw [Nat.zero_add]
  exact (if_pos h).symm
theorem pad_1 {g : Nat → Int32} {n : Nat} : nb8 128 = pad g n n := by
  unfold pad
  rw [if_neg (Nat.lt_irrefl _), if_pos rfl]
theorem pad_2 {g : Nat → Int32} {n i : Nat} (h : n < i) (h2 : i < ptn n) : nb8 0 = pad g n i := by
  unfold pad
  rw [if_neg (by omega), if_neg (by omega), if_pos h2]
theorem pad_3 {g : Nat → Int32} {n k : Nat} (h : k < 4) : nb8 (shr 0 (nI (24 - 8 * k))) = pad g n (ptn n + k) := by
  have h9 := ptn_1 n
  unfold pad
  rw [if_neg (by omega), if_neg (by omega), if_neg (by omega), if_pos (by omega), show ptn n + k - ptn n = k by omega]
theorem pad_4 {g : Nat → Int32} {n k : Nat} : nb8 (shr (nI (8 * n)) (nI (24 - 8 * k))) = pad g n (ptn n + 4 + k) := by
  have h9 := ptn_1 n
  unfold pad
  rw [if_neg (by omega), if_neg (by omega), if_neg (by omega), if_neg (by omega), show ptn n + 4 + k - (ptn n + 4) = k by omega]
set_option maxHeartbeats 4000000 in
set_option maxRecDepth 100000 in
theorem s_X15_digest_d (l : Launch) (dC : Nat → ClassId) (dI : Nat → Nat → Nat) (cs : Nat → ClassId) (ty : TyM) (gm : Nat → Nat → Nat) (L : List Nat) (sz : Nat) (F : Nat → va_E) (h0 : Nat) (ρ : Nat) (ta : Nat) (ou : Nat) (so : Nat) (ad : Nat) (na : Nat) (va : Nat) (lc : Nat) (dm : Nat) (tg : Nat) (pe : Nat) (ml : Nat) (bg : Nat) (co : Nat) (sp : Nat) (nb0 : Nat) (nb1 : Nat) (nb2 : Nat) (pl : Nat) (se : Nat) (ke : Nat) (wi : Nat) (hs : Nat) (mo : Nat) (po : Nat) (nu : Nat) (pr : Nat) (sq : Nat) (xa : Nat) (sa : Nat) (n64 : Nat) (m64 : Nat) (ex : Nat) (wh : Nat) (sd : Nat) (tk : Nat) (hd : Nat) (ak : Nat) (ho : Nat) (ot : Nat) (sx : Nat) (s0 : Nat) (s1 : Nat) (s2 : Nat) (nf : Nat) (bd : Nat) (mm : Nat) (zo : Nat) (fm : Nat) (sn : Nat) (hg : Nat) (gc : Nat) (gv : Nat) (ze : Nat) (zt : Nat) (g1 : Nat) (σ : Nat) (n1 : Nat) (gt : Nat) (τ : Nat) (nt : Nat) (k : Nat) (gb : Nat → Int32) (hW : WTm ty gm L) (hL_h0 : h0 ∈ L) (hT_h0 : ty h0 = (15, ρ, [ta, ou, so, ad, na, va, lc, dm, tg, pe, ml, bg, co, sp, nb0, nb1, nb2, pl, se, ke, wi, hs, mo, po, nu, pr, sq, xa, sa, n64, m64, ex, wh, sd, tk, hd, ak, ho, ot, sx, s0, s1, s2, nf, bd, mm, zo, fm, sn, hg, gc, gv, ze, zt])) (hL_g1 : g1 ∈ L) (hT_g1 : ty g1 = (17, σ, [n1])) (hL_gt : gt ∈ L) (hT_gt : ty gt = (17, τ, [nt])) (hFg : F g1 = .inl (cs 17, n1, .inl gb)) (hk : k ≤ n1) (hk3 : k ≤ 6000) (hnt : 32 ≤ nt) (hnt9 : nt ≤ 10000) (hsr : σ ≠ ρ + 17) (htr : τ ≠ ρ + 17) (htr0 : τ ≠ ρ) : Met l yX15_digest (.code yX15_digest cX15_digest 4 none :: tb) ({ frames := 5, cells := 0, slots := 0, locals := 120 }) (va_Pc [.ref h0, .ref g1, .int (nI k), .ref gt] (PTm (dC, dI) cs ty gm L F sz)) (va_Qv (fun _ : Unit => True) (fun _ T9 => ∃ F2 : Nat → va_E, ∃ fo : Nat → Int32, QTm (dC, dI) cs ty gm L [ρ + 17, τ] F F2 (va_A (va_pl L F) sz) T9 ∧ F2 gt = .inl (cs 17, nt, .inl fo) ∧ (∀ j, j < 32 → fo j = nb8 (shr (rst (pad gb k) ((k + 72) / 64) (j / 4)) (nI (24 - 8 * (j % 4)))))) (va_A (va_pl L F) sz)) 0 0 (va_A (va_pl L F) sz) := by
  refine Met.ofW (cc := cX15_digest) (maxL := 4) (ret := none) (by decide) rfl ?_
  intro p e s m args below meth c s₁ B hml hv
  obtain ⟨rfl, hsz, hP, hK, hD0, hE, hO⟩ := hv
  have hx := B.exec
  have hb := B.bytes
  have hr := B.returns
  have hts : ∀ w ∈ tb, w.before _ s = true := fun w h => atoms_spec (ws := .code yX15_digest cX15_digest 4 none :: tb) B.pre w (List.mem_cons_of_mem _ h)
  have hown : s.vm.findClass RX15 = some m.cls := findClass_of_methodNamed B.named
  have hlocks := B.notSynchronized
  subst hsz
  have hD := hD0.self (sz := s.heap.size)
  generalize hAe : va_A (va_pl L F) s.heap.size = A at hD ⊢
  have hA : ∀ q : Nat, s.heap.size ≤ q → A q := fun q h => by rw [← hAe]; exact Or.inr h
  have hS : va_S A s.heap s.heap [] := va_S.rf
  have hR : FR ty [ρ + 17, τ] F F := FR.refl
  have hl := lv_entry ([.ref h0, .ref g1, .int (nI k), .ref gt]) (n := 4) (Nat.le_of_ble_eq_true rfl)
  rw [lg_entry_eq]
  generalize (lg_sl ([.ref h0, .ref g1, .int (nI k), .ref gt]) ++ List.replicate (4 - (lg_sl ([.ref h0, .ref g1, .int (nI k), .ref gt])).length) Slot.unset).toArray = ls at hl ⊢
  have hl : lv_has ls 4 [(0, .ref h0), (1, .ref g1), (2, .int (nI k)), (3, .ref gt)] := hl
  obtain ⟨hq_23, hq_24, hq_25, hq_26, hq_27, hgO, hgA, hgB, hq_28⟩ := hW.sc hL_h0 hT_h0
  obtain ⟨hi_29, x_13, y_14, w_15, u_16, bl_17, ht_30⟩ := hW.f_hs hL_h0 hT_h0
  obtain ⟨hi_31, hi_32, hi_33, hi_34, hi_35, ht_36, ht_37, ht_38, ht_39, ht_40⟩ := hW.hash hi_29 ht_30
  obtain ⟨hq_41, hq_42⟩ := hW.octs hL_g1 hT_g1
  obtain ⟨hq_43, hq_44⟩ := hW.octs hL_gt hT_gt
  refine lv_aload_n hx hb dX15_digest_0 rfl (lv_at hl 0 rfl) ?_
  obtain ⟨v14_45, v15_46, v17_47, v18_48, v19_49, v20_50, v21_51, v22_52, v33_53, v52_54, v53_55, v54_56, hF_57, hq_58, hq_59, hq_60, hq_61, hq_62⟩ := hO.mod hL_h0 hT_h0
  refine pg_get (ci := 15) (v := .ref hs) (C := RX15) (T := TX15) (N := 59) hx hb hts it_15 hown hK hP hL_h0 hF_57 rfl 38 (by decide) (hts _ kt_794) (fun _ h9 => h9) rfl dX15_digest_1 ?_
  have hFc := pg_free hD hS hA
  obtain ⟨z_63, v_64, hF_65, hq_66⟩ := hO.hash hi_29 ht_30
  refine va_callv (va_runV (As := []) (rest := []) ⟨hx, hb, hml, hown, hts⟩ (s_X12_begin_e l dC dI cs ty gm L s.heap.size F hs (ρ + 17) x_13 y_14 w_15 u_16 bl_17 (pad gb k) hW hi_29 ht_30) ⟨callB_of 0 hts (gi kt_795) rfl rfl rfl (hts _ kt_779) (hts _ kt_796) (by decide +kernel) ⟨Nat.le_of_ble_eq_true rfl, Nat.le_of_ble_eq_true rfl⟩, (hts _ kt_797), (hts _ kt_798)⟩ ⟨fun a U g mk q => ⟨q.1, PTm.calling q.2⟩, pg_recv hK hP hi_29 hF_65 (q := (RX12, TX12, 7)) rfl, fun U hU hWm => ⟨rfl, PTm.mk hU hWm hP hK hD hE hO⟩⟩ rfl rfl hl.1 rfl (lv_room (Nat.le_of_ble_eq_true rfl)) dX15_digest_4 ⟨by show _ + 0 ≤ 0; omega, by show _ + 0 ≤ 0; omega⟩) hS (fun q _ h => hFc q h) hFc (fun u t H1 locs ht hvm hw hB hz1 hk1 hS => ?_)
  obtain ⟨F_68, hB1, hq_69, hq_70⟩ := hB
  obtain ⟨hP, hD, hO, hR⟩ := QTm.back hB1 ht hFc hR (fun q h => by simp only [List.mem_cons, List.not_mem_nil, or_false] at h ⊢; omega)
  have hF_71 : F_68 g1 = .inl (cs 17, n1, .inl gb) := (hB1.2.2.2 g1 (by rw [hT_g1]; simp only [List.mem_cons, List.not_mem_nil, or_false]; omega)).trans hFg
  have hF_72 : F_68 h0 = .inr (15, (.ref ta) :: (.int (nI zt)) :: (.int (nI zo)) :: (.int (nI ze)) :: (.ref ou) :: (.ref so) :: (.ref ad) :: (.ref na) :: (.ref va) :: (.ref lc) :: (.ref dm) :: (.int (nI fm)) :: (.int (nI sn)) :: (.ref tg) :: (.int v14_45) :: (.int v15_46) :: (.ref pe) :: (.int v17_47) :: (.int v18_48) :: (.int v19_49) :: (.int v20_50) :: (.int v21_51) :: (.int v22_52) :: (.ref ml) :: (.ref bg) :: (.ref co) :: (.ref sp) :: (.ref nb0) :: (.ref nb1) :: (.ref nb2) :: (.int (nI nf)) :: (.int (nI bd)) :: (.int (nI mm)) :: (.int v33_53) :: (.ref pl) :: (.ref se) :: (.ref ke) :: (.ref wi) :: (.ref hs) :: (.ref mo) :: (.ref po) :: (.ref nu) :: (.ref pr) :: (.ref sq) :: (.ref xa) :: (.ref sa) :: (.ref n64) :: (.ref m64) :: (.ref ex) :: (.ref wh) :: (.ref sd) :: (.ref tk) :: (.int v52_54) :: (.int v53_55) :: (.int v54_56) :: (.ref hd) :: (.ref ak) :: (.ref ho) :: (.ref ot) :: []) := (hB1.2.2.2 h0 (by rw [hT_h0]; simp)).trans hF_57
  generalize H1 = H at hP hS ⊢
  refine lv_aload_n hx hb dX15_digest_7 rfl (lv_at hl 0 rfl) ?_
  refine pg_get (ci := 15) (v := .ref hs) (C := RX15) (T := TX15) (N := 59) hx hb hts it_15 hown hK hP hL_h0 hF_72 rfl 38 (by decide) (hts _ kt_794) (fun _ h9 => h9) rfl dX15_digest_8 ?_
  refine lv_aload_n hx hb dX15_digest_11 rfl (lv_at hl 1 rfl) ?_
  refine lv_iconst (v := 0) hx hb dX15_digest_12 (by decide) ?_
  refine lv_iload_n hx hb dX15_digest_13 rfl (lv_at hl 2 rfl) ?_
  have hFc := pg_free hD hS hA
  refine va_callv (va_runV (As := [.ref g1, .int 0, .int (nI k)]) (rest := []) ⟨hx, hb, hml, hown, hts⟩ (s_X12_add_e l dC dI cs ty gm L H.size F_68 hs (ρ + 17) x_13 y_14 w_15 u_16 bl_17 g1 σ n1 0 k (pad gb k) gb hW hi_29 ht_30 hL_g1 hT_g1 hq_69 (hq_70) (by omega) hF_71 (by first | omega | assumption | exact Or.inl rfl) (hk3) (by omega) (hsr) (fun i hi => pad_0 hi)) ⟨callB_of 3 hts (gi kt_799) rfl rfl rfl (hts _ kt_779) (hts _ kt_800) (by decide +kernel) ⟨Nat.le_of_ble_eq_true rfl, Nat.le_of_ble_eq_true rfl⟩, (hts _ kt_801), (hts _ kt_802)⟩ ⟨fun a U g mk q => ⟨q.1, PTm.calling q.2⟩, pg_recv hK hP hi_29 hq_69 (q := (RX12, TX12, 7)) rfl, fun U hU hWm => ⟨rfl, PTm.mk hU hWm hP hK hD hE hO⟩⟩ rfl rfl hl.1 rfl (lv_room (Nat.le_of_ble_eq_true rfl)) dX15_digest_14 ⟨by show _ + 0 ≤ 0; omega, by show _ + 0 ≤ 0; omega⟩) hS (fun q _ h => hFc q h) hFc (fun u t H1 locs ht hvm hw hB hz1 hk1 hS => ?_)
  obtain ⟨F_74, hB1, hq_75, hq_76⟩ := hB
  obtain ⟨hP, hD, hO, hR⟩ := QTm.back hB1 ht hFc hR (fun q h => by simp only [List.mem_cons, List.not_mem_nil, or_false] at h ⊢; omega)
  have hF_77 : F_74 g1 = .inl (cs 17, n1, .inl gb) := (hB1.2.2.2 g1 (by rw [hT_g1]; simp only [List.mem_cons, List.not_mem_nil, or_false]; omega)).trans hF_71
  have hF_78 : F_74 h0 = .inr (15, (.ref ta) :: (.int (nI zt)) :: (.int (nI zo)) :: (.int (nI ze)) :: (.ref ou) :: (.ref so) :: (.ref ad) :: (.ref na) :: (.ref va) :: (.ref lc) :: (.ref dm) :: (.int (nI fm)) :: (.int (nI sn)) :: (.ref tg) :: (.int v14_45) :: (.int v15_46) :: (.ref pe) :: (.int v17_47) :: (.int v18_48) :: (.int v19_49) :: (.int v20_50) :: (.int v21_51) :: (.int v22_52) :: (.ref ml) :: (.ref bg) :: (.ref co) :: (.ref sp) :: (.ref nb0) :: (.ref nb1) :: (.ref nb2) :: (.int (nI nf)) :: (.int (nI bd)) :: (.int (nI mm)) :: (.int v33_53) :: (.ref pl) :: (.ref se) :: (.ref ke) :: (.ref wi) :: (.ref hs) :: (.ref mo) :: (.ref po) :: (.ref nu) :: (.ref pr) :: (.ref sq) :: (.ref xa) :: (.ref sa) :: (.ref n64) :: (.ref m64) :: (.ref ex) :: (.ref wh) :: (.ref sd) :: (.ref tk) :: (.int v52_54) :: (.int v53_55) :: (.int v54_56) :: (.ref hd) :: (.ref ak) :: (.ref ho) :: (.ref ot) :: []) := (hB1.2.2.2 h0 (by rw [hT_h0]; simp)).trans hF_72
  generalize H1 = H at hP hS ⊢
  refine lv_aload_n hx hb dX15_digest_17 rfl (lv_at hl 0 rfl) ?_
  refine pg_get (ci := 15) (v := .ref hs) (C := RX15) (T := TX15) (N := 59) hx hb hts it_15 hown hK hP hL_h0 hF_78 rfl 38 (by decide) (hts _ kt_794) (fun _ h9 => h9) rfl dX15_digest_18 ?_
  refine lv_aload_n hx hb dX15_digest_21 rfl (lv_at hl 3 rfl) ?_
  refine lv_iconst (v := 0) hx hb dX15_digest_22 (by decide) ?_
  have hZ0 := hq_75
  have hZ1 := hq_76
  rw [Nat.zero_add] at hZ0 hZ1
  obtain ⟨hP1, hP2, hP3, hP4⟩ := ptn_1 k
  have hFc := pg_free hD hS hA
  refine va_callv (va_runV (As := [.ref gt, .int 0]) (rest := []) ⟨hx, hb, hml, hown, hts⟩ (s_X12_finish_e l dC dI cs ty gm L H.size F_74 hs (ρ + 17) x_13 y_14 w_15 u_16 bl_17 gt τ nt k (ptn k) (pad gb k) hW hi_29 ht_30 hL_gt hT_gt hZ0 (hZ1) (by omega) (hk3) (hnt) (by first | omega | assumption | exact Or.inl rfl) (hP1) (hP2) (hP3) (pad_1) (fun i h1 h2 => pad_2 h1 h2) (fun k9 h9 => pad_3 h9) (fun k9 _ => pad_4) (htr)) ⟨callB_of 2 hts (gi kt_803) rfl rfl rfl (hts _ kt_779) (hts _ kt_804) (by decide +kernel) ⟨Nat.le_of_ble_eq_true rfl, Nat.le_of_ble_eq_true rfl⟩, (hts _ kt_805), (hts _ kt_806)⟩ ⟨fun a U g mk q => ⟨q.1, PTm.calling q.2⟩, pg_recv hK hP hi_29 hZ0 (q := (RX12, TX12, 7)) rfl, fun U hU hWm => ⟨rfl, PTm.mk hU hWm hP hK hD hE hO⟩⟩ rfl rfl hl.1 rfl (lv_room (Nat.le_of_ble_eq_true rfl)) dX15_digest_23 ⟨by show _ + 0 ≤ 0; omega, by show _ + 0 ≤ 0; omega⟩) hS (fun q _ h => hFc q h) hFc (fun u t H1 locs ht hvm hw hB hz1 hk1 hS => ?_)
  obtain ⟨F_80, fo_81, hB1, hq_82, hq_83⟩ := hB
  obtain ⟨hP, hD, hO, hR⟩ := QTm.back hB1 ht hFc hR (fun q h => by simp only [List.mem_cons, List.not_mem_nil, or_false] at h ⊢; omega)
  have hF_84 : F_80 h0 = .inr (15, (.ref ta) :: (.int (nI zt)) :: (.int (nI zo)) :: (.int (nI ze)) :: (.ref ou) :: (.ref so) :: (.ref ad) :: (.ref na) :: (.ref va) :: (.ref lc) :: (.ref dm) :: (.int (nI fm)) :: (.int (nI sn)) :: (.ref tg) :: (.int v14_45) :: (.int v15_46) :: (.ref pe) :: (.int v17_47) :: (.int v18_48) :: (.int v19_49) :: (.int v20_50) :: (.int v21_51) :: (.int v22_52) :: (.ref ml) :: (.ref bg) :: (.ref co) :: (.ref sp) :: (.ref nb0) :: (.ref nb1) :: (.ref nb2) :: (.int (nI nf)) :: (.int (nI bd)) :: (.int (nI mm)) :: (.int v33_53) :: (.ref pl) :: (.ref se) :: (.ref ke) :: (.ref wi) :: (.ref hs) :: (.ref mo) :: (.ref po) :: (.ref nu) :: (.ref pr) :: (.ref sq) :: (.ref xa) :: (.ref sa) :: (.ref n64) :: (.ref m64) :: (.ref ex) :: (.ref wh) :: (.ref sd) :: (.ref tk) :: (.int v52_54) :: (.int v53_55) :: (.int v54_56) :: (.ref hd) :: (.ref ak) :: (.ref ho) :: (.ref ot) :: []) := (hB1.2.2.2 h0 (by rw [hT_h0]; simp only [List.mem_cons, List.not_mem_nil, or_false]; omega)).trans hF_78
  generalize H1 = H at hP hS ⊢
  refine W.widen (k := 0) (n := 0) (by omega) (by omega) ?_
  exact W.vret hx hb hr (fun t ht hWm => ⟨⟨(), rfl, trivial, ⟨F_80, fo_81, QTm.mk ht hP hD hO hR, hq_82, (by rw [← hP4]; exact hq_83)⟩⟩, hS.F ht⟩) hS.2.2 dX15_digest_26
