theorem dX1_readTerms_0 : decode cX1_readTerms 0 = .ok (.iconst 0, 1) := by decide +kernel
theorem dX1_readTerms_1 : decode cX1_readTerms 1 = .ok (.istore_n 2, 1) := by decide +kernel
theorem dX1_readTerms_2 : decode cX1_readTerms 2 = .ok (.ldc 110, 2) := by decide +kernel
theorem dX1_readTerms_4 : decode cX1_readTerms 4 = .ok (.invokevirtual 124, 3) := by decide +kernel
theorem dX1_readTerms_7 : decode cX1_readTerms 7 = .ok (.iconst 1, 1) := by decide +kernel
theorem dX1_readTerms_8 : decode cX1_readTerms 8 = .ok (.iadd, 1) := by decide +kernel
theorem dX1_readTerms_9 : decode cX1_readTerms 9 = .ok (.istore_n 3, 1) := by decide +kernel
theorem dX1_readTerms_10 : decode cX1_readTerms 10 = .ok (.iload_n 3, 1) := by decide +kernel
theorem dX1_readTerms_11 : decode cX1_readTerms 11 = .ok (.aload_n 0, 1) := by decide +kernel
theorem dX1_readTerms_12 : decode cX1_readTerms 12 = .ok (.getfield 58, 3) := by decide +kernel
theorem dX1_readTerms_15 : decode cX1_readTerms 15 = .ok (.if_icmp .ge 82, 3) := by decide +kernel
theorem dX1_readTerms_18 : decode cX1_readTerms 18 = .ok (.aload_n 0, 1) := by decide +kernel
theorem dX1_readTerms_19 : decode cX1_readTerms 19 = .ok (.iload_n 3, 1) := by decide +kernel
theorem dX1_readTerms_20 : decode cX1_readTerms 20 = .ok (.invokestatic 130, 3) := by decide +kernel
theorem dX1_readTerms_23 : decode cX1_readTerms 23 = .ok (.ifCond .ne 6, 3) := by decide +kernel
theorem dX1_readTerms_26 : decode cX1_readTerms 26 = .ok (.goto 65, 3) := by decide +kernel
theorem dX1_readTerms_29 : decode cX1_readTerms 29 = .ok (.aload_n 1, 1) := by decide +kernel
theorem dX1_readTerms_30 : decode cX1_readTerms 30 = .ok (.aload_n 0, 1) := by decide +kernel
theorem dX1_readTerms_31 : decode cX1_readTerms 31 = .ok (.iload_n 3, 1) := by decide +kernel
theorem dX1_readTerms_32 : decode cX1_readTerms 32 = .ok (.aload_n 0, 1) := by decide +kernel
theorem dX1_readTerms_33 : decode cX1_readTerms 33 = .ok (.bipush 32, 2) := by decide +kernel
theorem dX1_readTerms_35 : decode cX1_readTerms 35 = .ok (.iload_n 3, 1) := by decide +kernel
theorem dX1_readTerms_36 : decode cX1_readTerms 36 = .ok (.aload_n 0, 1) := by decide +kernel
theorem dX1_readTerms_37 : decode cX1_readTerms 37 = .ok (.getfield 58, 3) := by decide +kernel
theorem dX1_readTerms_40 : decode cX1_readTerms 40 = .ok (.invokevirtual 61, 3) := by decide +kernel
theorem dX1_readTerms_43 : decode cX1_readTerms 43 = .ok (.invokevirtual 133, 3) := by decide +kernel
theorem dX1_readTerms_46 : decode cX1_readTerms 46 = .ok (.aload_n 1, 1) := by decide +kernel
theorem dX1_readTerms_47 : decode cX1_readTerms 47 = .ok (.getfield 149, 3) := by decide +kernel
theorem dX1_readTerms_50 : decode cX1_readTerms 50 = .ok (.bipush 7, 2) := by decide +kernel
theorem dX1_readTerms_52 : decode cX1_readTerms 52 = .ok (.if_icmp .ne 7, 3) := by decide +kernel
theorem dX1_readTerms_55 : decode cX1_readTerms 55 = .ok (.iconst 1, 1) := by decide +kernel
theorem dX1_readTerms_56 : decode cX1_readTerms 56 = .ok (.goto 4, 3) := by decide +kernel
theorem dX1_readTerms_59 : decode cX1_readTerms 59 = .ok (.iconst 0, 1) := by decide +kernel
theorem dX1_readTerms_60 : decode cX1_readTerms 60 = .ok (.istore 4, 2) := by decide +kernel
theorem dX1_readTerms_62 : decode cX1_readTerms 62 = .ok (.aload_n 1, 1) := by decide +kernel
theorem dX1_readTerms_63 : decode cX1_readTerms 63 = .ok (.getfield 149, 3) := by decide +kernel
theorem dX1_readTerms_66 : decode cX1_readTerms 66 = .ok (.ifCond .eq 12, 3) := by decide +kernel
theorem dX1_readTerms_69 : decode cX1_readTerms 69 = .ok (.iload 4, 2) := by decide +kernel
theorem dX1_readTerms_71 : decode cX1_readTerms 71 = .ok (.ifCond .eq 9, 3) := by decide +kernel
theorem dX1_readTerms_74 : decode cX1_readTerms 74 = .ok (.iload_n 2, 1) := by decide +kernel
theorem dX1_readTerms_75 : decode cX1_readTerms 75 = .ok (.ifCond .eq 5, 3) := by decide +kernel
theorem dX1_readTerms_78 : decode cX1_readTerms 78 = .ok (.iconst (-1), 1) := by decide +kernel
theorem dX1_readTerms_79 : decode cX1_readTerms 79 = .ok (.ireturn, 1) := by decide +kernel
theorem dX1_readTerms_80 : decode cX1_readTerms 80 = .ok (.iload 4, 2) := by decide +kernel
theorem dX1_readTerms_82 : decode cX1_readTerms 82 = .ok (.ifCond .eq 7, 3) := by decide +kernel
theorem dX1_readTerms_85 : decode cX1_readTerms 85 = .ok (.iload_n 3, 1) := by decide +kernel
theorem dX1_readTerms_86 : decode cX1_readTerms 86 = .ok (.goto 4, 3) := by decide +kernel
theorem dX1_readTerms_89 : decode cX1_readTerms 89 = .ok (.iload_n 2, 1) := by decide +kernel
theorem dX1_readTerms_90 : decode cX1_readTerms 90 = .ok (.istore_n 2, 1) := by decide +kernel
theorem dX1_readTerms_91 : decode cX1_readTerms 91 = .ok (.iinc 3 1, 3) := by decide +kernel
theorem dX1_readTerms_94 : decode cX1_readTerms 94 = .ok (.goto (-84), 3) := by decide +kernel
theorem dX1_readTerms_97 : decode cX1_readTerms 97 = .ok (.iload_n 2, 1) := by decide +kernel
theorem dX1_readTerms_98 : decode cX1_readTerms 98 = .ok (.ireturn, 1) := by decide +kernel
theorem kt_588 : Cond.methodLink RX1 124 yJ0_length_8abf5 ∈ tb := tb_at (i := 679) (by decide +kernel) (by decide +kernel)
theorem kt_589 : Cond.code yX1_startsTerm cX1_startsTerm 2 (some .boolean) ∈ tb := tb_at (i := 682) (by decide +kernel) (by decide +kernel)
theorem kt_590 : Cond.methodLink RX1 130 yX1_startsTerm ∈ tb := tb_at (i := 680) (by decide +kernel) (by decide +kernel)
theorem kt_591 : Cond.static yX1_startsTerm ∈ tb := tb_at (i := 681) (by decide +kernel) (by decide +kernel)
theorem kt_592 : Cond.code yX10_read cX10_read 6 none ∈ tb := tb_at (i := 686) (by decide +kernel) (by decide +kernel)
theorem kt_593 : Cond.methodLink RX1 133 yX10_read ∈ tb := tb_at (i := 683) (by decide +kernel) (by decide +kernel)
theorem kt_594 : Cond.instanceMethod yX10_read ∈ tb := tb_at (i := 684) (by decide +kernel) (by decide +kernel)
theorem kt_595 : Cond.selects RX10 yX10_read yX10_read ∈ tb := tb_at (i := 685) (by decide +kernel) (by decide +kernel)
theorem kn_26 : Cond.fieldLinkNest RX1 149 "PostGate$Term" "kind" "I" "PostGate" ∈ nw := nw_at (i := 117) (by decide +kernel) rfl
def STT (T : Nat → Nat) (i : Nat) : Prop := T (i - 1) = 32 ∧ ¬ T i = 32
def rtx (rd i : Nat) : Option TRA → Option Nat
  | none => none
  | some t => if t.1 = 7 then (if rd = 0 then some i else none) else some rd
noncomputable def rtw (T : Nat → Nat) (z : Nat) : Nat → Nat → Nat → Option Nat
  | 0, _, rd => some rd
  | k + 1, i, rd => @ite (Option Nat) (STT T i) (Classical.propDecidable _) ((rtx rd i (trT T i (fdT T 32 i z))).bind (fun x => rtw T z k (i + 1) x)) (rtw T z k (i + 1) rd)
noncomputable def rtT (T : Nat → Nat) (z : Nat) : Option Nat := rtw T z (z - 7) 7 0
theorem rtw_n {T : Nat → Nat} {z j rd : Nat} {X : Option Nat} (h : rtw T z (z - j) j rd = X) (hj : j < z) (h1 : ¬ STT T j) : rtw T z (z - (j + 1)) (j + 1) rd = X := by
  rw [show z - j = z - (j + 1) + 1 by omega] at h
  exact (if_neg h1).symm.trans h
theorem rtw_y {T : Nat → Nat} {z j rd : Nat} {X : Option Nat} (h : rtw T z (z - j) j rd = X) (hj : j < z) (h1 : STT T j) : (rtx rd j (trT T j (fdT T 32 j z))).bind (fun x => rtw T z (z - (j + 1)) (j + 1) x) = X := by
  rw [show z - j = z - (j + 1) + 1 by omega] at h
  exact (if_pos h1).symm.trans h
theorem rtw_e {T : Nat → Nat} {z j rd : Nat} {X : Option Nat} (h : rtw T z (z - j) j rd = X) (hj : z ≤ j) : X = some rd := by
  rw [show z - j = 0 by omega] at h
  exact h.symm
theorem trr_0 {X : Option TRA} {k g st q : Nat} {x ad : Int32} (h : TRR X k g st q x ad) (hk : k = 0) : X = none := by
  rcases h with h | h
  · exact h.1
  · exact absurd h.1 (by omega)
theorem trr_s {X : Option TRA} {k g st q : Nat} {x ad : Int32} (h : TRR X k g st q x ad) (hk : ¬ k = 0) : ∃ (w : Nat) (y : Int32), w ≤ 32 ∧ x = nI w ∧ X = some (k, g, st, q, w, y) ∧ (k = 5 → y = ad) := by
  rcases h with h | h
  · exact absurd h.2 hk
  · exact h.2
theorem rt_w {T : Nat → Nat} {z j rd k g st q : Nat} {x ad : Int32} {X : Option Nat} (h : rtw T z (z - j) j rd = X) (hj : j < z) (h1 : STT T j) (ht : TRR (trT T j (fdT T 32 j z)) k g st q x ad) (hk : k = 0) : X = none := by
  have h9 := rtw_y h hj h1
  rw [trr_0 ht hk] at h9
  exact h9.symm
theorem rt_o {T : Nat → Nat} {z j rd k g st q : Nat} {x ad : Int32} {X : Option Nat} (h : rtw T z (z - j) j rd = X) (hj : j < z) (h1 : STT T j) (ht : TRR (trT T j (fdT T 32 j z)) k g st q x ad) (hk : ¬ k = 0) (h7 : ¬ k = 7) : rtw T z (z - (j + 1)) (j + 1) rd = X := by
  have h9 := rtw_y h hj h1
  obtain ⟨w, y, -, -, e, -⟩ := trr_s ht hk
  rw [e, show rtx rd j (some (k, g, st, q, w, y)) = some rd from if_neg h7] at h9
  exact h9
theorem rt_7 {T : Nat → Nat} {z j rd k g st q : Nat} {x ad : Int32} {X : Option Nat} (h : rtw T z (z - j) j rd = X) (hj : j < z) (h1 : STT T j) (ht : TRR (trT T j (fdT T 32 j z)) k g st q x ad) (h7 : k = 7) (h0 : rd = 0) : rtw T z (z - (j + 1)) (j + 1) j = X := by
  have h9 := rtw_y h hj h1
  obtain ⟨w, y, -, -, e, -⟩ := trr_s ht (by omega)
  rw [e, show rtx rd j (some (k, g, st, q, w, y)) = some j from (if_pos h7).trans (if_pos h0)] at h9
  exact h9
theorem rt_77 {T : Nat → Nat} {z j rd k g st q : Nat} {x ad : Int32} {X : Option Nat} (h : rtw T z (z - j) j rd = X) (hj : j < z) (h1 : STT T j) (ht : TRR (trT T j (fdT T 32 j z)) k g st q x ad) (h7 : k = 7) (h0 : ¬ rd = 0) : X = none := by
  have h9 := rtw_y h hj h1
  obtain ⟨w, y, -, -, e, -⟩ := trr_s ht (by omega)
  rw [e, show rtx rd j (some (k, g, st, q, w, y)) = none from (if_pos h7).trans (if_neg h0)] at h9
  exact h9.symm
theorem fdT_gt {T : Nat → Nat} {c a b : Nat} (h : ¬ T a = c) (hab : a < b) : a < fdT T c a b := by
  unfold fdT
  rw [show b - a = (b - (a + 1)) + 1 by omega]
  have h9 := fdT_le (T := T) (c := c) (b - (a + 1)) (a + 1)
  show a < (if T a = c then a else fdw T c (b - (a + 1)) (a + 1))
  rw [if_neg h]
  omega
set_option maxHeartbeats 4000000 in
set_option maxRecDepth 100000 in
theorem s_X1_readTerms_e (l : Launch) (dC : Nat → ClassId) (dI : Nat → Nat → Nat) (cs : Nat → ClassId) (ty : TyM) (L : List Nat) (sz : Nat) (F : Nat → va_E) (g1 : Nat) (σ : Nat) (r1 : Nat) (n1 : Nat) (tm : Nat) (τ : Nat) (z : Nat) (f : Nat → Int32) (hW : WT ty L) (hL_g1 : g1 ∈ L) (hT_g1 : ty g1 = (0, σ, [r1, n1])) (hL_tm : tm ∈ L) (hT_tm : ty tm = (10, τ, [])) (hFg : F g1 = .inr (0, [.ref r1, .int (nI z), .int 0])) (hFr : F r1 = .inl (cs 16, n1, .inl f)) (hzn : z ≤ n1) (hn9 : n1 ≤ 10000) (hst : τ ≠ σ) (hz8 : z ≤ 8000) : Met l yX1_readTerms (.code yX1_readTerms cX1_readTerms 5 (some .int) :: tb) ({ frames := 8, cells := 0, slots := 0, locals := 183 }) (va_Pc [.ref g1, .ref tm] (PTE (dC, dI) cs ty L F sz [])) (va_Qi (fun (r : Int32) (_ : Unit) => r = nbv (rtT (TC f z) z)) (fun _ T9 => ∃ F2 : Nat → va_E, QT (dC, dI) cs ty L [τ] F F2 (va_A (va_pl L F) sz) T9) (va_A (va_pl L F) sz)) 0 0 (va_A (va_pl L F) sz) := by
  refine Met.ofW (cc := cX1_readTerms) (maxL := 5) (ret := (some .int)) (by decide) rfl ?_
  intro p e s m args below meth c s₁ B hml hv
  obtain ⟨rfl, ⟨hsz, hP, hK, hD0, hE, hO⟩, hG, hX⟩ := hv
  have hx := B.exec
  have hb := B.bytes
  have hr := B.returns
  have hts : ∀ w ∈ tb, w.before _ s = true := fun w h => atoms_spec (ws := .code yX1_readTerms cX1_readTerms 5 (some .int) :: tb) B.pre w (List.mem_cons_of_mem _ h)
  have hown : s.vm.findClass RX1 = some m.cls := findClass_of_methodNamed B.named
  have hlocks := B.notSynchronized
  subst hsz
  have hD := hD0.self (sz := s.heap.size)
  generalize hAe : va_A (va_pl L F) s.heap.size = A at hD hG hX ⊢
  have hA : ∀ q : Nat, s.heap.size ≤ q → A q := fun q h => by rw [← hAe]; exact Or.inr h
  have hS : va_S A s.heap s.heap [] := va_S.rf
  have hR : FR ty [τ] F F := FR.refl
  have hl := lv_entry ([.ref g1, .ref tm]) (n := 5) (Nat.le_of_ble_eq_true rfl)
  rw [lg_entry_eq]
  generalize (lg_sl ([.ref g1, .ref tm]) ++ List.replicate (5 - (lg_sl ([.ref g1, .ref tm])).length) Slot.unset).toArray = ls at hl ⊢
  have hl : lv_has ls 5 [(0, .ref g1), (1, .ref tm)] := hl
  obtain ⟨hi_1, ht_2, hq_3⟩ := hW.bytes hL_g1 hT_g1
  refine lv_iconst (v := 0) hx hb dX1_readTerms_0 (by decide) ?_
  refine lv_istore_n (lv' := [(2, .int 0), (0, .ref g1), (1, .ref tm)]) hx hb dX1_readTerms_1 rfl hl (by decide) rfl (fun ls hl => ?_)
  obtain ⟨q_4, v_5, hr_q_4, hXc_q_4⟩ := hG.2.2.2.2 ("PostGate$Checker", 110, "v=spf1", [118, 61, 115, 112, 102, 49]) (by decide +kernel)
  have hXc_q_4 : SXc q_4 v_5 6 (cct [118, 61, 115, 112, 102, 49]) A s s.heap := hXc_q_4
  have hX_q_4 : SX q_4 v_5 6 A s s.heap := hXc_q_4.sx
  obtain ⟨xo_q_4, xc_q_4, xv_q_4, xt_q_4, xn_q_4⟩ := id hXc_q_4
  have hr_q_4 : vk_R "PostGate$Checker" 110 "v=spf1" q_4 s := hr_q_4
  refine va_ldcS hx hb hown hr_q_4 dX1_readTerms_2 ?_
  have hFc := pg_free hD hS hA
  refine va_calli (va_runV (As := []) (rest := []) ⟨hx, hb, hml, hown, hts⟩ (s_J0_length_8abf5 l dC dI cs ty L s.heap.size F q_4 v_5 6 hW ) ⟨callB_of 0 hts (gi kt_71) rfl rfl rfl (hts _ kt_51) (hts _ kt_588) (by decide +kernel) ⟨Nat.le_of_ble_eq_true rfl, Nat.le_of_ble_eq_true rfl⟩, (hts _ kt_73), (hts _ kt_74)⟩ ⟨fun a U g mk q => ⟨q.1, PTE.calling q.2⟩, sx_recv hX_q_4 hS, fun U hU hWm => ⟨rfl, PTE.mk hU hWm hP hK hD hE hO hG (fun x hx => by rw [List.mem_singleton] at hx; subst hx; exact hX_q_4) hS hFc⟩⟩ rfl rfl hl.1 rfl (lv_room (Nat.le_of_ble_eq_true rfl)) dX1_readTerms_4 ⟨by show _ + 0 ≤ 0; omega, by show _ + 0 ≤ 0; omega⟩) hS (fun q _ h => hFc q h) hFc (fun r_6 u t H1 locs ht hvm hw hB hz1 hk1 hS => ?_)
  obtain ⟨F_7, hB1⟩ := hB
  obtain rfl : F = F_7 := (funext (fun a => hB1.2.2.2 a List.not_mem_nil)).symm
  obtain ⟨hP, hD, hO, hR⟩ := QT.back hB1 ht hFc hR (fun q h => absurd h List.not_mem_nil)
  generalize H1 = H at hP hS ⊢
  have hw : r_6 = nI 6 := hw
  have hw_8 := hw
  subst hw_8
  refine lv_iconst (v := 1) hx hb dX1_readTerms_7 (by decide) ?_
  refine lv_iadd hx hb dX1_readTerms_8 ?_
  refine lv_topi (fun x_9 ex_9 => ?_)
  obtain rfl : x_9 = (nI 7) := ex_9.trans (nI_add 6 1)
  refine lv_istore_n (lv' := [(3, .int (nI 7)), (2, .int 0), (0, .ref g1), (1, .ref tm)]) hx hb dX1_readTerms_9 rfl hl (by decide) rfl (fun ls hl => ?_)
  refine W.widen (k := 0) (n := 0) (by omega) (by omega) ?_
  have hF_11 : F g1 = .inr (0, [.ref r1, .int (nI z), .int 0]) := (hR g1 (by rw [hT_g1]; simp only [List.mem_cons, List.not_mem_nil, or_false]; omega)).symm.trans hFg
  have hF_12 : F r1 = .inl (cs 16, n1, .inl f) := (hR r1 (by rw [ht_2]; simp only [List.mem_cons, List.not_mem_nil, or_false]; omega)).symm.trans hFr
  refine pl_loop (σ := Nat × Nat) A (dC, dI) cs ty L [τ] F 10 5 (fun (j, rd) => [(3, .int (nI j)), (2, .int (nI rd)), (0, .ref g1), (1, .ref tm)]) (fun (j, rd) => []) (fun (j, rd) _ => 7 ≤ j ∧ (j ≤ z ∨ j = 7) ∧ rd ≤ j ∧ rtw (TC f z) z (z - j) j rd = rtT (TC f z) z) (fun (j, rd) => z - j) ?_ (7, 0) F (⟨Nat.le_refl _, Or.inr rfl, Nat.zero_le _, rfl⟩) hO hR _ _ hP hD hS ls (lv_sub hl [0, 1, 2, 3] rfl)
  rintro ⟨j, rd⟩ F_10 hv_13 hO hR ih_14 H locs hP hD hS ls hl
  have hl : lv_has ls 5 [(3, .int (nI j)), (2, .int (nI rd)), (0, .ref g1), (1, .ref tm)] := hl
  have hv_13 : 7 ≤ j ∧ (j ≤ z ∨ j = 7) ∧ rd ≤ j ∧ rtw (TC f z) z (z - j) j rd = rtT (TC f z) z := hv_13
  refine W.eq (g2 := F0 m 10 ls []) rfl ?_
  have hF_15 : F_10 g1 = .inr (0, [.ref r1, .int (nI z), .int 0]) := (hR g1 (by rw [hT_g1]; simp only [List.mem_cons, List.not_mem_nil, or_false]; omega)).trans hF_11
  have hF_16 : F_10 r1 = .inl (cs 16, n1, .inl f) := (hR r1 (by rw [ht_2]; simp only [List.mem_cons, List.not_mem_nil, or_false]; omega)).trans hF_12
  obtain ⟨hv1, hv2, hv3, hv4⟩ := id hv_13
  refine lv_iload_n hx hb dX1_readTerms_10 rfl (lv_at hl 0 rfl) ?_
  refine lv_aload_n hx hb dX1_readTerms_11 rfl (lv_at hl 2 rfl) ?_
  refine pg_getN (ci := 0) (v := .int (nI z)) (C := RX0) (T := TX0) (N := 3) hx hb hts it_0 hown hK hP hL_g1 hF_15 rfl 1 (by decide) (hE.nest kn_23) (fun _ h9 => h9) rfl dX1_readTerms_12 ?_
  refine lv_icmp_ge (tgt := 97) hx hb dX1_readTerms_15 (by decide) (fun c_17 => ?_) (fun c_17 => ?_)
  ·
    have hi_18 : z ≤ j := leN (N := z) c_17
    have hjz : z ≤ j := (nI_leI (by omega) (by omega)).mp c_17
    refine lv_iload_n hx hb dX1_readTerms_97 rfl (lv_at hl 1 rfl) ?_
    refine W.widen (k := 0) (n := 0) (by omega) (by omega) ?_
    exact W.iret (v := (nI rd)) hx hb hr (fun t ht hWm => ⟨⟨(nI rd), (), rfl, (congrArg nbv (rtw_e hv4 hjz)).symm, ⟨F_10, QT.mk ht hP hD hO hR⟩⟩, hS.F ht⟩) hS.2.2 dX1_readTerms_98
  ·
    have hi_19 : j < z := ltN (N := z) c_17
    have hjz : j < z := Nat.not_le.mp (fun q => c_17 ((nI_leI (by omega) (by omega)).mpr q))
    refine lv_aload_n hx hb dX1_readTerms_18 rfl (lv_at hl 2 rfl) ?_
    refine lv_iload_n hx hb dX1_readTerms_19 rfl (lv_at hl 0 rfl) ?_
    have hFc := pg_free hD hS hA
    refine va_calli (va_runS (As := [.ref g1, .int (nI j)]) (rest := []) ⟨hx, hb, hml, hown, hts⟩ (s_X1_startsTerm_e l dC dI cs ty L H.size F_10 g1 σ r1 n1 z j f hW hL_g1 hT_g1 hF_15 hF_16 (by omega) (by omega) (by omega) (by omega)) ⟨callB_of 2 hts (gi kt_589) rfl rfl rfl (hts _ kt_572) (hts _ kt_590) (by decide +kernel) ⟨Nat.le_of_ble_eq_true rfl, Nat.le_of_ble_eq_true rfl⟩, (hts _ kt_591)⟩ ⟨fun a U g mk q => ⟨q.1, PT.calling q.2⟩, fun U hU hWm => ⟨rfl, PT.mk hU hWm hP hK hD hE hO⟩⟩ rfl rfl hl.1 rfl (lv_room (Nat.le_of_ble_eq_true rfl)) dX1_readTerms_20 ⟨by show _ + 0 ≤ 0; omega, by show _ + 0 ≤ 0; omega⟩) hS (fun q _ h => hFc q h) hFc (fun r_20 u t H1 locs ht hvm hw hB hz1 hk1 hS => ?_)
    obtain ⟨F_21, hB1⟩ := hB
    obtain rfl : F_10 = F_21 := (funext (fun a => hB1.2.2.2 a List.not_mem_nil)).symm
    obtain ⟨hP, hD, hO, hR⟩ := QT.back hB1 ht hFc hR (fun q h => absurd h List.not_mem_nil)
    generalize H1 = H at hP hS ⊢
    have hw : (r_20 = 1 ∧ (TC f z) (j - 1) = 32 ∧ ¬ (TC f z) j = 32) ∨ (r_20 = 0 ∧ ¬ ((TC f z) (j - 1) = 32 ∧ ¬ (TC f z) j = 32)) := hw
    have hw_22 := hw
    refine lv_if_ne (tgt := 29) hx hb dX1_readTerms_23 (by decide) (fun c_23 => ?_) (fun c_23 => ?_)
    ·
      have hST : STT (TC f z) j := orp1 hw_22 c_23
      have hgt := fdT_gt (T := (TC f z)) (c := 32) hST.2 hjz
      obtain ⟨v0_24, v1_25, v2_26, z_27, v4_28, v5_29, hF_30, hq_31⟩ := hO.term hL_tm hT_tm
      refine lv_aload_n hx hb dX1_readTerms_29 rfl (lv_at hl 3 rfl) ?_
      refine lv_aload_n hx hb dX1_readTerms_30 rfl (lv_at hl 2 rfl) ?_
      refine lv_iload_n hx hb dX1_readTerms_31 rfl (lv_at hl 0 rfl) ?_
      refine lv_aload_n hx hb dX1_readTerms_32 rfl (lv_at hl 2 rfl) ?_
      refine lv_bipush (v := 32) hx hb dX1_readTerms_33 (by decide) ?_
      refine lv_iload_n hx hb dX1_readTerms_35 rfl (lv_at hl 0 rfl) ?_
      refine lv_aload_n hx hb dX1_readTerms_36 rfl (lv_at hl 2 rfl) ?_
      refine pg_getN (ci := 0) (v := .int (nI z)) (C := RX0) (T := TX0) (N := 3) hx hb hts it_0 hown hK hP hL_g1 hF_15 rfl 1 (by decide) (hE.nest kn_23) (fun _ h9 => h9) rfl dX1_readTerms_37 ?_
      have hFc := pg_free hD hS hA
      refine va_calli (va_runV (As := [.int 32, .int (nI j), .int (nI z)]) (rest := [.int (nI j), .ref g1, .ref tm]) ⟨hx, hb, hml, hown, hts⟩ (s_X0_find_g l dC dI cs ty L H.size F_10 g1 σ r1 n1 z j z f 32 hW hL_g1 hT_g1 hF_15 hF_16 (by omega) (by omega) (by omega) (Nat.le_refl _)) ⟨callB_of 3 hts (gi kt_122) rfl rfl rfl (hts _ kt_1) (hts _ kt_561) (by decide +kernel) ⟨Nat.le_of_ble_eq_true rfl, Nat.le_of_ble_eq_true rfl⟩, (hts _ kt_124), (hts _ kt_125)⟩ ⟨fun a U g mk q => ⟨q.1, PT.calling q.2⟩, pg_recv hK hP hL_g1 hF_15 (q := (RX0, TX0, 3)) rfl, fun U hU hWm => ⟨rfl, PT.mk hU hWm hP hK hD hE hO⟩⟩ rfl rfl hl.1 rfl (lv_room (Nat.le_of_ble_eq_true rfl)) dX1_readTerms_40 ⟨by show _ + 0 ≤ 0; omega, by show _ + 0 ≤ 0; omega⟩) hS (fun q _ h => hFc q h) hFc (fun r_32 u t H1 locs ht hvm hw hB hz1 hk1 hS => ?_)
      obtain ⟨F_33, hB1⟩ := hB
      obtain rfl : F_10 = F_33 := (funext (fun a => hB1.2.2.2 a List.not_mem_nil)).symm
      obtain ⟨hP, hD, hO, hR⟩ := QT.back hB1 ht hFc hR (fun q h => absurd h List.not_mem_nil)
      generalize H1 = H at hP hS ⊢
      have hw : (∃ k : Nat, r_32 = nI k ∧ FSX f 32 j z k) := hw
      have hw_34 := hw
      obtain ⟨k9, hk9, hfs⟩ := hw_34
      obtain rfl := fd_of (c := 32) hfs (Nat.le_refl _) (by omega)
      subst hk9
      have hfl : j ≤ (fdT (TC f z) 32 j z) ∧ (fdT (TC f z) 32 j z) ≤ j + (z - j) := fdT_le (z - j) j
      have hFc := pg_free hD hS hA
      refine va_callv (va_runV (As := [.ref g1, .int (nI j), .int (nI (fdT (TC f z) 32 j z))]) (rest := []) ⟨hx, hb, hml, hown, hts⟩ (s_X10_read_e l dC dI cs ty L H.size F_10 tm τ g1 σ r1 n1 z j (fdT (TC f z) 32 j z) f v0_24 v1_25 v2_26 z_27 v4_28 v5_29 hW hL_tm hT_tm hL_g1 hT_g1 hF_15 hF_16 (by omega) (by omega) (hst) (by omega) (hgt) (by omega) (by omega) (by omega) hF_30) ⟨callB_of 3 hts (gi kt_592) rfl rfl rfl (hts _ kt_90) (hts _ kt_593) (by decide +kernel) ⟨Nat.le_of_ble_eq_true rfl, Nat.le_of_ble_eq_true rfl⟩, (hts _ kt_594), (hts _ kt_595)⟩ ⟨fun a U g mk q => ⟨q.1, PTE.calling q.2⟩, pg_recv hK hP hL_tm hF_30 (q := (RX10, TX10, 6)) rfl, fun U hU hWm => ⟨rfl, PTE.mk hU hWm hP hK hD hE hO hG (fun x hx => absurd hx List.not_mem_nil) hS hFc⟩⟩ rfl rfl hl.1 rfl (lv_room (Nat.le_of_ble_eq_true rfl)) dX1_readTerms_43 ⟨by show _ + 0 ≤ 0; omega, by show _ + 0 ≤ 0; omega⟩) hS (fun q _ h => hFc q h) hFc (fun u t H1 locs ht hvm hw hB hz1 hk1 hS => ?_)
      obtain ⟨F_36, k1_37, k2_38, k3_39, k4_40, xb_41, xa_42, hB1, hq_43, hq_44, hq_45⟩ := hB
      obtain ⟨hP, hD, hO, hR⟩ := QT.back hB1 ht hFc hR (fun q h => by simp only [List.mem_cons, List.not_mem_nil, or_false] at h ⊢; omega)
      have hF_46 : F_36 g1 = .inr (0, [.ref r1, .int (nI z), .int 0]) := (hB1.2.2.2 g1 (by rw [hT_g1]; simp only [List.mem_cons, List.not_mem_nil, or_false]; omega)).trans hF_15
      have hF_47 : F_36 r1 = .inl (cs 16, n1, .inl f) := (hB1.2.2.2 r1 (by rw [ht_2]; simp only [List.mem_cons, List.not_mem_nil, or_false]; omega)).trans hF_16
      generalize H1 = H at hP hS ⊢
      have hkb := hq_45
      refine lv_aload_n hx hb dX1_readTerms_46 rfl (lv_at hl 3 rfl) ?_
      refine pg_getN (ci := 10) (v := .int (nI k1_37)) (C := RX10) (T := TX10) (N := 6) hx hb hts it_10 hown hK hP hL_tm hq_43 rfl 0 (by decide) (hE.nest kn_26) (fun _ h9 => h9) rfl dX1_readTerms_47 ?_
      refine lv_bipush (v := 7) hx hb dX1_readTerms_50 (by decide) ?_
      refine lv_icmp_ne (tgt := 59) hx hb dX1_readTerms_52 (by decide) (fun c_48 => ?_) (fun c_48 => ?_)
      ·
        have hk7 : ¬ k1_37 = 7 := fun q => c_48 (by rw [q]; rfl)
        refine lv_iconst (v := 0) hx hb dX1_readTerms_59 (by decide) ?_
        refine lv_istore (lv' := [(4, .int 0), (3, .int (nI j)), (2, .int (nI rd)), (0, .ref g1), (1, .ref tm)]) hx hb dX1_readTerms_60 hl (by decide) rfl (fun ls hl => ?_)
        refine lv_aload_n hx hb dX1_readTerms_62 rfl (lv_at hl 4 rfl) ?_
        refine pg_getN (ci := 10) (v := .int (nI k1_37)) (C := RX10) (T := TX10) (N := 6) hx hb hts it_10 hown hK hP hL_tm hq_43 rfl 0 (by decide) (hE.nest kn_26) (fun _ h9 => h9) rfl dX1_readTerms_63 ?_
        refine lv_if_eq (tgt := 78) hx hb dX1_readTerms_66 (by decide) (fun c_50 => ?_) (fun c_50 => ?_)
        ·
          have hk0 : k1_37 = 0 := (nI_eq (b := 0) (by omega) (by omega)).mp c_50
          refine lv_iconst (v := (-1)) hx hb dX1_readTerms_78 (by decide) ?_
          refine W.widen (k := 0) (n := 0) (by omega) (by omega) ?_
          exact W.iret (v := (-1)) hx hb hr (fun t ht hWm => ⟨⟨(-1), (), rfl, (congrArg nbv (rt_w hv4 hjz hST hq_44 hk0)).symm, ⟨F_36, QT.mk ht hP hD hO hR⟩⟩, hS.F ht⟩) hS.2.2 dX1_readTerms_79
        ·
          refine lv_iload hx hb dX1_readTerms_69 (lv_at hl 0 rfl) ?_
          refine lv_if_eq (tgt := 80) hx hb dX1_readTerms_71 (by decide) (fun c_53 => ?_) (fun c_53 => absurd (rfl) c_53)
          refine lv_iload hx hb dX1_readTerms_80 (lv_at hl 0 rfl) ?_
          refine lv_if_eq (tgt := 89) hx hb dX1_readTerms_82 (by decide) (fun c_54 => ?_) (fun c_54 => absurd (rfl) c_54)
          refine lv_iload_n hx hb dX1_readTerms_89 rfl (lv_at hl 2 rfl) ?_
          refine lv_istore_n (lv' := [(2, .int (nI rd)), (4, .int 0), (3, .int (nI j)), (0, .ref g1), (1, .ref tm)]) hx hb dX1_readTerms_90 rfl hl (by decide) rfl (fun ls hl => ?_)
          refine lv_iinc (v := (nI (j + 1))) (lv' := [(3, .int (nI (j + 1))), (2, .int (nI rd)), (4, .int 0), (0, .ref g1), (1, .ref tm)]) hx hb dX1_readTerms_91 hl (k := 2) rfl (nI_1 _) (by decide) rfl (fun ls hl => ?_)
          refine lv_goto (tgt := 10) hx hb dX1_readTerms_94 (by decide) ?_
          refine W.widen (k := 0) (n := 0) (by omega) (by omega) ?_
          exact ih_14 ((j + 1), rd) F_36 (⟨by omega, by omega, by omega, rt_o hv4 hjz hST hq_44 (fun q => c_50 (by rw [q]; rfl)) hk7⟩) (by show z - (j + 1) < z - j; omega) hO hR _ _ hP hD hS ls (lv_sub hl [0, 1, 3, 4] rfl)
      ·
        have hk7 : k1_37 = 7 := (nI_eq (b := 7) (by omega) (by omega)).mp c_48
        refine lv_iconst (v := 1) hx hb dX1_readTerms_55 (by decide) ?_
        refine lv_goto (tgt := 60) hx hb dX1_readTerms_56 (by decide) ?_
        refine lv_istore (lv' := [(4, .int 1), (3, .int (nI j)), (2, .int (nI rd)), (0, .ref g1), (1, .ref tm)]) hx hb dX1_readTerms_60 hl (by decide) rfl (fun ls hl => ?_)
        refine lv_aload_n hx hb dX1_readTerms_62 rfl (lv_at hl 4 rfl) ?_
        refine pg_getN (ci := 10) (v := .int (nI k1_37)) (C := RX10) (T := TX10) (N := 6) hx hb hts it_10 hown hK hP hL_tm hq_43 rfl 0 (by decide) (hE.nest kn_26) (fun _ h9 => h9) rfl dX1_readTerms_63 ?_
        refine lv_if_eq (tgt := 78) hx hb dX1_readTerms_66 (by decide) (fun c_56 => ?_) (fun c_56 => ?_)
        ·
          have hk0 : k1_37 = 0 := (nI_eq (b := 0) (by omega) (by omega)).mp c_56
          refine lv_iconst (v := (-1)) hx hb dX1_readTerms_78 (by decide) ?_
          refine W.widen (k := 0) (n := 0) (by omega) (by omega) ?_
          exact W.iret (v := (-1)) hx hb hr (fun t ht hWm => ⟨⟨(-1), (), rfl, (congrArg nbv (rt_w hv4 hjz hST hq_44 hk0)).symm, ⟨F_36, QT.mk ht hP hD hO hR⟩⟩, hS.F ht⟩) hS.2.2 dX1_readTerms_79
        ·
          refine lv_iload hx hb dX1_readTerms_69 (lv_at hl 0 rfl) ?_
          refine lv_if_eq (tgt := 80) hx hb dX1_readTerms_71 (by decide) (fun c_59 => absurd c_59 (by decide)) (fun c_59 => ?_)
          refine lv_iload_n hx hb dX1_readTerms_74 rfl (lv_at hl 2 rfl) ?_
          refine lv_if_eq (tgt := 80) hx hb dX1_readTerms_75 (by decide) (fun c_60 => ?_) (fun c_60 => ?_)
          ·
            have hrd : rd = 0 := (nI_eq (b := 0) (by omega) (by omega)).mp c_60
            refine lv_iload hx hb dX1_readTerms_80 (lv_at hl 0 rfl) ?_
            refine lv_if_eq (tgt := 89) hx hb dX1_readTerms_82 (by decide) (fun c_62 => absurd c_62 (by decide)) (fun c_62 => ?_)
            refine lv_iload_n hx hb dX1_readTerms_85 rfl (lv_at hl 1 rfl) ?_
            refine lv_goto (tgt := 90) hx hb dX1_readTerms_86 (by decide) ?_
            refine lv_istore_n (lv' := [(2, .int (nI j)), (4, .int 1), (3, .int (nI j)), (0, .ref g1), (1, .ref tm)]) hx hb dX1_readTerms_90 rfl hl (by decide) rfl (fun ls hl => ?_)
            refine lv_iinc (v := (nI (j + 1))) (lv' := [(3, .int (nI (j + 1))), (2, .int (nI j)), (4, .int 1), (0, .ref g1), (1, .ref tm)]) hx hb dX1_readTerms_91 hl (k := 2) rfl (nI_1 _) (by decide) rfl (fun ls hl => ?_)
            refine lv_goto (tgt := 10) hx hb dX1_readTerms_94 (by decide) ?_
            refine W.widen (k := 0) (n := 0) (by omega) (by omega) ?_
            exact ih_14 ((j + 1), j) F_36 (⟨by omega, by omega, by omega, rt_7 hv4 hjz hST hq_44 hk7 hrd⟩) (by show z - (j + 1) < z - j; omega) hO hR _ _ hP hD hS ls (lv_sub hl [0, 1, 3, 4] rfl)
          ·
            have hrd : ¬ rd = 0 := fun q => c_60 (by rw [q]; rfl)
            refine lv_iconst (v := (-1)) hx hb dX1_readTerms_78 (by decide) ?_
            refine W.widen (k := 0) (n := 0) (by omega) (by omega) ?_
            exact W.iret (v := (-1)) hx hb hr (fun t ht hWm => ⟨⟨(-1), (), rfl, (congrArg nbv (rt_77 hv4 hjz hST hq_44 hk7 hrd)).symm, ⟨F_36, QT.mk ht hP hD hO hR⟩⟩, hS.F ht⟩) hS.2.2 dX1_readTerms_79
    ·
      refine lv_goto (tgt := 91) hx hb dX1_readTerms_26 (by decide) ?_
      refine lv_iinc (v := (nI (j + 1))) (lv' := [(3, .int (nI (j + 1))), (2, .int (nI rd)), (0, .ref g1), (1, .ref tm)]) hx hb dX1_readTerms_91 hl (k := 0) rfl (nI_1 _) (by decide) rfl (fun ls hl => ?_)
      refine lv_goto (tgt := 10) hx hb dX1_readTerms_94 (by decide) ?_
      refine W.widen (k := 0) (n := 0) (by omega) (by omega) ?_
      exact ih_14 ((j + 1), rd) F_10 (⟨by omega, by omega, by omega, rtw_n hv4 hjz (orp0 hw_22 c_23)⟩) (by show z - (j + 1) < z - j; omega) hO hR _ _ hP hD hS ls (lv_sub hl [0, 1, 2, 3] rfl)
