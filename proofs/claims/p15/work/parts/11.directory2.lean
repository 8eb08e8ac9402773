theorem dX2_onlyText_0 : decode cX2_onlyText 0 = .ok (.iconst (-1), 1) := by decide +kernel
theorem dX2_onlyText_1 : decode cX2_onlyText 1 = .ok (.istore 4, 2) := by decide +kernel
theorem dX2_onlyText_3 : decode cX2_onlyText 3 = .ok (.iconst 0, 1) := by decide +kernel
theorem dX2_onlyText_4 : decode cX2_onlyText 4 = .ok (.istore 5, 2) := by decide +kernel
theorem dX2_onlyText_6 : decode cX2_onlyText 6 = .ok (.iload 5, 2) := by decide +kernel
theorem dX2_onlyText_8 : decode cX2_onlyText 8 = .ok (.aload_n 0, 1) := by decide +kernel
theorem dX2_onlyText_9 : decode cX2_onlyText 9 = .ok (.getfield 17, 3) := by decide +kernel
theorem dX2_onlyText_12 : decode cX2_onlyText 12 = .ok (.if_icmp .ge 117, 3) := by decide +kernel
theorem dX2_onlyText_15 : decode cX2_onlyText 15 = .ok (.aload_n 0, 1) := by decide +kernel
theorem dX2_onlyText_16 : decode cX2_onlyText 16 = .ok (.getfield 13, 3) := by decide +kernel
theorem dX2_onlyText_19 : decode cX2_onlyText 19 = .ok (.iload 5, 2) := by decide +kernel
theorem dX2_onlyText_21 : decode cX2_onlyText 21 = .ok (.aaload, 1) := by decide +kernel
theorem dX2_onlyText_22 : decode cX2_onlyText 22 = .ok (.getfield 56, 3) := by decide +kernel
theorem dX2_onlyText_25 : decode cX2_onlyText 25 = .ok (.astore 6, 2) := by decide +kernel
theorem dX2_onlyText_27 : decode cX2_onlyText 27 = .ok (.aload_n 0, 1) := by decide +kernel
theorem dX2_onlyText_28 : decode cX2_onlyText 28 = .ok (.getfield 13, 3) := by decide +kernel
theorem dX2_onlyText_31 : decode cX2_onlyText 31 = .ok (.iload 5, 2) := by decide +kernel
theorem dX2_onlyText_33 : decode cX2_onlyText 33 = .ok (.aaload, 1) := by decide +kernel
theorem dX2_onlyText_34 : decode cX2_onlyText 34 = .ok (.getfield 39, 3) := by decide +kernel
theorem dX2_onlyText_37 : decode cX2_onlyText 37 = .ok (.ifCond .ne 86, 3) := by decide +kernel
theorem dX2_onlyText_40 : decode cX2_onlyText 40 = .ok (.aload_n 0, 1) := by decide +kernel
theorem dX2_onlyText_41 : decode cX2_onlyText 41 = .ok (.getfield 13, 3) := by decide +kernel
theorem dX2_onlyText_44 : decode cX2_onlyText 44 = .ok (.iload 5, 2) := by decide +kernel
theorem dX2_onlyText_46 : decode cX2_onlyText 46 = .ok (.aaload, 1) := by decide +kernel
theorem dX2_onlyText_47 : decode cX2_onlyText 47 = .ok (.getfield 45, 3) := by decide +kernel
theorem dX2_onlyText_50 : decode cX2_onlyText 50 = .ok (.aload_n 1, 1) := by decide +kernel
theorem dX2_onlyText_51 : decode cX2_onlyText 51 = .ok (.invokevirtual 59, 3) := by decide +kernel
theorem dX2_onlyText_54 : decode cX2_onlyText 54 = .ok (.ifCond .eq 69, 3) := by decide +kernel
theorem dX2_onlyText_57 : decode cX2_onlyText 57 = .ok (.aload 6, 2) := by decide +kernel
theorem dX2_onlyText_59 : decode cX2_onlyText 59 = .ok (.iconst 0, 1) := by decide +kernel
theorem dX2_onlyText_60 : decode cX2_onlyText 60 = .ok (.aload 6, 2) := by decide +kernel
theorem dX2_onlyText_62 : decode cX2_onlyText 62 = .ok (.getfield 22, 3) := by decide +kernel
theorem dX2_onlyText_65 : decode cX2_onlyText 65 = .ok (.aload_n 2, 1) := by decide +kernel
theorem dX2_onlyText_66 : decode cX2_onlyText 66 = .ok (.invokevirtual 69, 3) := by decide +kernel
theorem dX2_onlyText_69 : decode cX2_onlyText 69 = .ok (.ifCond .ne 6, 3) := by decide +kernel
theorem dX2_onlyText_72 : decode cX2_onlyText 72 = .ok (.goto 51, 3) := by decide +kernel
theorem dX2_onlyText_75 : decode cX2_onlyText 75 = .ok (.iload_n 3, 1) := by decide +kernel
theorem dX2_onlyText_76 : decode cX2_onlyText 76 = .ok (.ifCond .eq 32, 3) := by decide +kernel
theorem dX2_onlyText_79 : decode cX2_onlyText 79 = .ok (.aload 6, 2) := by decide +kernel
theorem dX2_onlyText_81 : decode cX2_onlyText 81 = .ok (.getfield 22, 3) := by decide +kernel
theorem dX2_onlyText_84 : decode cX2_onlyText 84 = .ok (.aload_n 2, 1) := by decide +kernel
theorem dX2_onlyText_85 : decode cX2_onlyText 85 = .ok (.invokevirtual 73, 3) := by decide +kernel
theorem dX2_onlyText_88 : decode cX2_onlyText 88 = .ok (.if_icmp .le 20, 3) := by decide +kernel
theorem dX2_onlyText_91 : decode cX2_onlyText 91 = .ok (.aload 6, 2) := by decide +kernel
theorem dX2_onlyText_93 : decode cX2_onlyText 93 = .ok (.aload_n 2, 1) := by decide +kernel
theorem dX2_onlyText_94 : decode cX2_onlyText 94 = .ok (.invokevirtual 73, 3) := by decide +kernel
theorem dX2_onlyText_97 : decode cX2_onlyText 97 = .ok (.invokevirtual 79, 3) := by decide +kernel
theorem dX2_onlyText_100 : decode cX2_onlyText 100 = .ok (.bipush 32, 2) := by decide +kernel
theorem dX2_onlyText_102 : decode cX2_onlyText 102 = .ok (.if_icmp .eq 6, 3) := by decide +kernel
theorem dX2_onlyText_105 : decode cX2_onlyText 105 = .ok (.goto 18, 3) := by decide +kernel
theorem dX2_onlyText_108 : decode cX2_onlyText 108 = .ok (.iload 4, 2) := by decide +kernel
theorem dX2_onlyText_110 : decode cX2_onlyText 110 = .ok (.iconst (-1), 1) := by decide +kernel
theorem dX2_onlyText_111 : decode cX2_onlyText 111 = .ok (.if_icmp .ne 8, 3) := by decide +kernel
theorem dX2_onlyText_114 : decode cX2_onlyText 114 = .ok (.iload 5, 2) := by decide +kernel
theorem dX2_onlyText_116 : decode cX2_onlyText 116 = .ok (.goto 5, 3) := by decide +kernel
theorem dX2_onlyText_119 : decode cX2_onlyText 119 = .ok (.bipush (-2), 2) := by decide +kernel
theorem dX2_onlyText_121 : decode cX2_onlyText 121 = .ok (.istore 4, 2) := by decide +kernel
theorem dX2_onlyText_123 : decode cX2_onlyText 123 = .ok (.iinc 5 1, 3) := by decide +kernel
theorem dX2_onlyText_126 : decode cX2_onlyText 126 = .ok (.goto (-120), 3) := by decide +kernel
theorem dX2_onlyText_129 : decode cX2_onlyText 129 = .ok (.iload 4, 2) := by decide +kernel
theorem dX2_onlyText_131 : decode cX2_onlyText 131 = .ok (.ireturn, 1) := by decide +kernel
theorem dX2_valueAt_0 : decode cX2_valueAt 0 = .ok (.aload_n 0, 1) := by decide +kernel
theorem dX2_valueAt_1 : decode cX2_valueAt 1 = .ok (.getfield 13, 3) := by decide +kernel
theorem dX2_valueAt_4 : decode cX2_valueAt 4 = .ok (.iload_n 1, 1) := by decide +kernel
theorem dX2_valueAt_5 : decode cX2_valueAt 5 = .ok (.ifCond .lt 13, 3) := by decide +kernel
theorem dX2_valueAt_8 : decode cX2_valueAt 8 = .ok (.iload_n 1, 1) := by decide +kernel
theorem dX2_valueAt_9 : decode cX2_valueAt 9 = .ok (.bipush 40, 2) := by decide +kernel
theorem dX2_valueAt_11 : decode cX2_valueAt 11 = .ok (.if_icmp .ge 7, 3) := by decide +kernel
theorem dX2_valueAt_14 : decode cX2_valueAt 14 = .ok (.iload_n 1, 1) := by decide +kernel
theorem dX2_valueAt_15 : decode cX2_valueAt 15 = .ok (.goto 4, 3) := by decide +kernel
theorem dX2_valueAt_18 : decode cX2_valueAt 18 = .ok (.iconst 0, 1) := by decide +kernel
theorem dX2_valueAt_19 : decode cX2_valueAt 19 = .ok (.aaload, 1) := by decide +kernel
theorem dX2_valueAt_20 : decode cX2_valueAt 20 = .ok (.getfield 56, 3) := by decide +kernel
theorem dX2_valueAt_23 : decode cX2_valueAt 23 = .ok (.areturn, 1) := by decide +kernel
theorem kt_112 : Cond.code yX0_begins cX0_begins 4 (some .boolean) ∈ tb := tb_at (i := 617) (by decide +kernel) (by decide +kernel)
theorem kt_113 : Cond.methodLink RX2 69 yX0_begins ∈ tb := tb_at (i := 614) (by decide +kernel) (by decide +kernel)
theorem kt_114 : Cond.instanceMethod yX0_begins ∈ tb := tb_at (i := 615) (by decide +kernel) (by decide +kernel)
theorem kt_115 : Cond.selects RX0 yX0_begins yX0_begins ∈ tb := tb_at (i := 616) (by decide +kernel) (by decide +kernel)
theorem kt_116 : Cond.methodLink RX2 73 yJ0_length_8abf5 ∈ tb := tb_at (i := 670) (by decide +kernel) (by decide +kernel)
theorem kt_117 : Cond.methodLink RX2 79 yX0_at ∈ tb := tb_at (i := 671) (by decide +kernel) (by decide +kernel)
theorem kn_4 : Cond.fieldLinkNest RX2 56 "PostGate$Entry" "value" "LPostGate$Bytes;" "PostGate" ∈ nw := nw_at (i := 76) (by decide +kernel) rfl
set_option maxHeartbeats 4000000 in
set_option maxRecDepth 100000 in
theorem s_X2_valueAt (l : Launch) (dC : Nat → ClassId) (dI : Nat → Nat → Nat) (cs : Nat → ClassId) (ty : TyM) (L : List Nat) (sz : Nat) (F : Nat → va_E) (h0 : Nat) (ρ : Nat) (ea : Nat) (x1 : Int32) (hW : WT ty L) (hL_h0 : h0 ∈ L) (hT_h0 : ty h0 = (2, ρ, [ea])) : Met l yX2_valueAt (.code yX2_valueAt cX2_valueAt 2 (some (.object "PostGate$Bytes")) :: tb) ({ frames := 0, cells := 0, slots := 0, locals := 0 }) (va_Pc [.ref h0, .int x1] (PT (dC, dI) cs ty L F sz)) (va_Qr (fun _ : Unit => True) (fun _ ra T9 => ∃ F2 : Nat → va_E, ∃ vr : Nat, ∃ μ : Nat, QT (dC, dI) cs ty L [] F F2 (va_A (va_pl L F) sz) T9 ∧ ra ∈ L ∧ ty ra = (0, μ, [vr, 700])) (va_A (va_pl L F) sz)) 0 0 (va_A (va_pl L F) sz) := by
  refine Met.ofW (cc := cX2_valueAt) (maxL := 2) (ret := (some (.object "PostGate$Bytes"))) (by decide) rfl ?_
  intro p e s m args below meth c s₁ B hml hv
  obtain ⟨rfl, hsz, hP, hK, hD0, hE, hO⟩ := hv
  have hx := B.exec
  have hb := B.bytes
  have hr := B.returns
  have hts : ∀ w ∈ tb, w.before _ s = true := fun w h => atoms_spec (ws := .code yX2_valueAt cX2_valueAt 2 (some (.object "PostGate$Bytes")) :: tb) B.pre w (List.mem_cons_of_mem _ h)
  have hown : s.vm.findClass RX2 = some m.cls := findClass_of_methodNamed B.named
  have hlocks := B.notSynchronized
  subst hsz
  have hD := hD0.self (sz := s.heap.size)
  generalize hAe : va_A (va_pl L F) s.heap.size = A at hD ⊢
  have hA : ∀ q : Nat, s.heap.size ≤ q → A q := fun q h => by rw [← hAe]; exact Or.inr h
  have hS : va_S A s.heap s.heap [] := va_S.rf
  have hR : FR ty [] F F := FR.refl
  have hl := lv_entry ([.ref h0, .int x1]) (n := 2) (Nat.le_of_ble_eq_true rfl)
  rw [lg_entry_eq]
  generalize (lg_sl ([.ref h0, .int x1]) ++ List.replicate (2 - (lg_sl ([.ref h0, .int x1])).length) Slot.unset).toArray = ls at hl ⊢
  have hl : lv_has ls 2 [(0, .ref h0), (1, .int x1)] := hl
  refine lv_aload_n hx hb dX2_valueAt_0 rfl (lv_at hl 0 rfl) ?_
  obtain ⟨hi_1, ht_2⟩ := hW.dir hL_h0 hT_h0
  obtain ⟨z_3, hF_4, hq_5⟩ := hO.dir hL_h0 hT_h0
  refine pg_get (ci := 2) (v := .ref ea) (C := RX2) (T := TX2) (N := 2) hx hb hts it_2 hown hK hP hL_h0 hF_4 rfl 0 (by decide) (hts _ kt_84) (fun _ h9 => h9) rfl dX2_valueAt_1 ?_
  refine lv_iload_n hx hb dX2_valueAt_4 rfl (lv_at hl 1 rfl) ?_
  refine lv_if_lt (tgt := 18) hx hb dX2_valueAt_5 (by decide) (fun c_6 => ?_) (fun c_6 => ?_)
  ·
    refine lv_iconst (v := 0) hx hb dX2_valueAt_18 (by decide) ?_
    obtain ⟨f_7, hF_8, hq_9⟩ := hO.rentry hi_1 ht_2
    obtain ⟨b_10, x_11, y_12, hbf_13, hi_14, ht_15⟩ := hq_9 0 (by omega)
    refine pg_aald (r := b_10) hx hb hK hP hi_1 5 hF_8 rfl (show vp_in (0 : Int32) 40 from (show vp_in (nI 0) 40 from vp_in_nI (by omega) (by omega))) (show f_7 (0 : Int32).toNatClampNeg = _ from by rw [show (0 : Int32) = nI 0 from rfl, nI_clamp (by omega)]; exact hbf_13) dX2_valueAt_19 ?_
    have ht_15 : ty b_10 = (3, ρ + 100, [x_11, y_12]) := ht_15
    obtain ⟨hi_16, hi_17, ⟨r_18, ht_19⟩, ⟨r_20, ht_21⟩⟩ := hW.entry hi_14 ht_15
    have ht_19 : ty x_11 = (0, ρ + 101, [r_18, 60]) := ht_19
    have ht_21 : ty y_12 = (0, ρ + 102, [r_20, 700]) := ht_21
    obtain ⟨v0_22, v1_23, hF_24⟩ := hO.entry hi_14 ht_15
    refine pg_getN (ci := 3) (v := .ref y_12) (C := RX3) (T := TX3) (N := 4) hx hb hts it_3 hown hK hP hi_14 hF_24 rfl 1 (by decide) (hE.nest kn_4) (fun _ h9 => h9) rfl dX2_valueAt_20 ?_
    refine W.widen (k := 0) (n := 0) (by omega) (by omega) ?_
    exact W.aret hx hb hr (Or.inl ⟨_, rfl⟩) (Or.inr ⟨_, rfl⟩) (fun t ht hWm => ⟨⟨(), y_12, rfl, trivial, ⟨F, r_20, ρ + 102, QT.mk ht hP hD hO hR, hi_17, ht_21⟩⟩, hS.F ht⟩) hS.2.2 dX2_valueAt_23
  ·
    refine lv_iload_n hx hb dX2_valueAt_8 rfl (lv_at hl 1 rfl) ?_
    refine lv_bipush (v := 40) hx hb dX2_valueAt_9 (by decide) ?_
    refine lv_icmp_ge (tgt := 18) hx hb dX2_valueAt_11 (by decide) (fun c_25 => ?_) (fun c_25 => ?_)
    ·
      refine lv_iconst (v := 0) hx hb dX2_valueAt_18 (by decide) ?_
      obtain ⟨f_26, hF_27, hq_28⟩ := hO.rentry hi_1 ht_2
      obtain ⟨b_29, x_30, y_31, hbf_32, hi_33, ht_34⟩ := hq_28 0 (by omega)
      refine pg_aald (r := b_29) hx hb hK hP hi_1 5 hF_27 rfl (show vp_in (0 : Int32) 40 from (show vp_in (nI 0) 40 from vp_in_nI (by omega) (by omega))) (show f_26 (0 : Int32).toNatClampNeg = _ from by rw [show (0 : Int32) = nI 0 from rfl, nI_clamp (by omega)]; exact hbf_32) dX2_valueAt_19 ?_
      have ht_34 : ty b_29 = (3, ρ + 100, [x_30, y_31]) := ht_34
      obtain ⟨hi_35, hi_36, ⟨r_37, ht_38⟩, ⟨r_39, ht_40⟩⟩ := hW.entry hi_33 ht_34
      have ht_38 : ty x_30 = (0, ρ + 101, [r_37, 60]) := ht_38
      have ht_40 : ty y_31 = (0, ρ + 102, [r_39, 700]) := ht_40
      obtain ⟨v0_41, v1_42, hF_43⟩ := hO.entry hi_33 ht_34
      refine pg_getN (ci := 3) (v := .ref y_31) (C := RX3) (T := TX3) (N := 4) hx hb hts it_3 hown hK hP hi_33 hF_43 rfl 1 (by decide) (hE.nest kn_4) (fun _ h9 => h9) rfl dX2_valueAt_20 ?_
      refine W.widen (k := 0) (n := 0) (by omega) (by omega) ?_
      exact W.aret hx hb hr (Or.inl ⟨_, rfl⟩) (Or.inr ⟨_, rfl⟩) (fun t ht hWm => ⟨⟨(), y_31, rfl, trivial, ⟨F, r_39, ρ + 102, QT.mk ht hP hD hO hR, hi_36, ht_40⟩⟩, hS.F ht⟩) hS.2.2 dX2_valueAt_23
    ·
      obtain ⟨j, hj, rfl⟩ := nI_of c_6
      have hj40 : j < 40 := ltI hj c_25
      refine lv_iload_n hx hb dX2_valueAt_14 rfl (lv_at hl 1 rfl) ?_
      refine lv_goto (tgt := 19) hx hb dX2_valueAt_15 (by decide) ?_
      obtain ⟨f_44, hF_45, hq_46⟩ := hO.rentry hi_1 ht_2
      obtain ⟨b_47, x_48, y_49, hbf_50, hi_51, ht_52⟩ := hq_46 j (by omega)
      refine pg_aald (r := b_47) hx hb hK hP hi_1 5 hF_45 rfl (vp_in_nI (by omega) (by omega)) (show f_44 ((nI j) : Int32).toNatClampNeg = _ from by rw [show ((nI j) : Int32) = nI j from rfl, nI_clamp (by omega)]; exact hbf_50) dX2_valueAt_19 ?_
      obtain ⟨hi_53, hi_54, ⟨r_55, ht_56⟩, ⟨r_57, ht_58⟩⟩ := hW.entry hi_51 ht_52
      have ht_56 : ty x_48 = (0, ρ + j + j + j + 101, [r_55, 60]) := ht_56
      have ht_58 : ty y_49 = (0, ρ + j + j + j + 102, [r_57, 700]) := ht_58
      obtain ⟨v0_59, v1_60, hF_61⟩ := hO.entry hi_51 ht_52
      refine pg_getN (ci := 3) (v := .ref y_49) (C := RX3) (T := TX3) (N := 4) hx hb hts it_3 hown hK hP hi_51 hF_61 rfl 1 (by decide) (hE.nest kn_4) (fun _ h9 => h9) rfl dX2_valueAt_20 ?_
      refine W.widen (k := 0) (n := 0) (by omega) (by omega) ?_
      exact W.aret hx hb hr (Or.inl ⟨_, rfl⟩) (Or.inr ⟨_, rfl⟩) (fun t ht hWm => ⟨⟨(), y_49, rfl, trivial, ⟨F, r_57, ρ + j + j + j + 102, QT.mk ht hP hD hO hR, hi_54, ht_58⟩⟩, hS.F ht⟩) hS.2.2 dX2_valueAt_23
set_option maxHeartbeats 4000000 in
set_option maxRecDepth 100000 in
theorem s_X2_onlyText (l : Launch) (dC : Nat → ClassId) (dI : Nat → Nat → Nat) (cs : Nat → ClassId) (ty : TyM) (L : List Nat) (sz : Nat) (F : Nat → va_E) (h0 : Nat) (ρ : Nat) (ea : Nat) (g1 : Nat) (σ : Nat) (r1 : Nat) (n1 : Nat) (q : Nat) (v : Nat) (k0 : Nat) (x3 : Int32) (hW : WT ty L) (hL_h0 : h0 ∈ L) (hT_h0 : ty h0 = (2, ρ, [ea])) (hL_g1 : g1 ∈ L) (hT_g1 : ty g1 = (0, σ, [r1, n1])) : Met l yX2_onlyText (.code yX2_onlyText cX2_onlyText 7 (some .int) :: tb) ({ frames := 6, cells := 0, slots := 0, locals := 132 }) (va_Pc [.ref h0, .ref g1, .ref q, .int x3] (PTE (dC, dI) cs ty L F sz [(q, v, k0)])) (va_Qi (fun (r : Int32) (_ : Unit) => True) (fun _ T9 => ∃ F2 : Nat → va_E, QT (dC, dI) cs ty L [] F F2 (va_A (va_pl L F) sz) T9) (va_A (va_pl L F) sz)) 0 0 (va_A (va_pl L F) sz) := by
  refine Met.ofW (cc := cX2_onlyText) (maxL := 7) (ret := (some .int)) (by decide) rfl ?_
  intro p e s m args below meth c s₁ B hml hv
  obtain ⟨rfl, ⟨hsz, hP, hK, hD0, hE, hO⟩, hG, hX⟩ := hv
  have hx := B.exec
  have hb := B.bytes
  have hr := B.returns
  have hts : ∀ w ∈ tb, w.before _ s = true := fun w h => atoms_spec (ws := .code yX2_onlyText cX2_onlyText 7 (some .int) :: tb) B.pre w (List.mem_cons_of_mem _ h)
  have hown : s.vm.findClass RX2 = some m.cls := findClass_of_methodNamed B.named
  have hlocks := B.notSynchronized
  subst hsz
  have hD := hD0.self (sz := s.heap.size)
  generalize hAe : va_A (va_pl L F) s.heap.size = A at hD hG hX ⊢
  have hX_q : SX q v k0 A s s.heap := hX (q, v, k0) (by simp)
  obtain ⟨xo_q, xc_q, xv_q, xf_q, xt_q, xn_q⟩ := id hX_q
  have hA : ∀ q : Nat, s.heap.size ≤ q → A q := fun q h => by rw [← hAe]; exact Or.inr h
  have hS : va_S A s.heap s.heap [] := va_S.rf
  have hR : FR ty [] F F := FR.refl
  have hl := lv_entry ([.ref h0, .ref g1, .ref q, .int x3]) (n := 7) (Nat.le_of_ble_eq_true rfl)
  rw [lg_entry_eq]
  generalize (lg_sl ([.ref h0, .ref g1, .ref q, .int x3]) ++ List.replicate (7 - (lg_sl ([.ref h0, .ref g1, .ref q, .int x3])).length) Slot.unset).toArray = ls at hl ⊢
  have hl : lv_has ls 7 [(0, .ref h0), (1, .ref g1), (2, .ref q), (3, .int x3)] := hl
  refine lv_iconst (v := (-1)) hx hb dX2_onlyText_0 (by decide) ?_
  refine lv_istore (lv' := [(4, .int (-1)), (0, .ref h0), (1, .ref g1), (2, .ref q), (3, .int x3)]) hx hb dX2_onlyText_1 hl (by decide) rfl (fun ls hl => ?_)
  refine lv_iconst (v := 0) hx hb dX2_onlyText_3 (by decide) ?_
  refine lv_istore (lv' := [(5, .int 0), (4, .int (-1)), (0, .ref h0), (1, .ref g1), (2, .ref q), (3, .int x3)]) hx hb dX2_onlyText_4 hl (by decide) rfl (fun ls hl => ?_)
  refine W.widen (k := 0) (n := 0) (by omega) (by omega) ?_
  refine pl_loop (σ := Nat × Int32) A (dC, dI) cs ty L [] F 6 7 (fun (j, w4) => [(5, .int (nI j)), (4, .int w4), (0, .ref h0), (1, .ref g1), (2, .ref q), (3, .int x3)]) (fun (j, w4) => []) (fun (j, w4) _ => j ≤ 40) (fun (j, w4) => 40 - j) ?_ (0, (-1)) F (by omega) hO hR _ _ hP hD hS ls (lv_sub hl [0, 1, 2, 3, 4, 5] rfl)
  rintro ⟨j, w4⟩ F_1 hv_2 hO hR ih_3 H locs hP hD hS ls hl
  have hl : lv_has ls 7 [(5, .int (nI j)), (4, .int w4), (0, .ref h0), (1, .ref g1), (2, .ref q), (3, .int x3)] := hl
  have hv_2 : j ≤ 40 := hv_2
  refine W.eq (g2 := F0 m 6 ls []) rfl ?_
  refine lv_iload hx hb dX2_onlyText_6 (lv_at hl 0 rfl) ?_
  refine lv_aload_n hx hb dX2_onlyText_8 rfl (lv_at hl 2 rfl) ?_
  obtain ⟨hi_4, ht_5⟩ := hW.dir hL_h0 hT_h0
  obtain ⟨z_6, hF_7, hq_8⟩ := hO.dir hL_h0 hT_h0
  refine pg_get (ci := 2) (v := .int (nI z_6)) (C := RX2) (T := TX2) (N := 2) hx hb hts it_2 hown hK hP hL_h0 hF_7 rfl 1 (by decide) (hts _ kt_83) (fun _ h9 => h9) rfl dX2_onlyText_9 ?_
  refine lv_icmp_ge (tgt := 129) hx hb dX2_onlyText_12 (by decide) (fun c_9 => ?_) (fun c_9 => ?_)
  ·
    have hi_10 : z_6 ≤ j := leN (N := z_6) c_9
    refine lv_iload hx hb dX2_onlyText_129 (lv_at hl 1 rfl) ?_
    refine W.widen (k := 0) (n := 0) (by omega) (by omega) ?_
    exact W.iret (v := w4) hx hb hr (fun t ht hWm => ⟨⟨w4, (), rfl, trivial, ⟨F_1, QT.mk ht hP hD hO hR⟩⟩, hS.F ht⟩) hS.2.2 dX2_onlyText_131
  ·
    have hi_11 : j < z_6 := ltN (N := z_6) c_9
    have hjz : j < z_6 := ltI (by omega) c_9
    refine lv_aload_n hx hb dX2_onlyText_15 rfl (lv_at hl 2 rfl) ?_
    refine pg_get (ci := 2) (v := .ref ea) (C := RX2) (T := TX2) (N := 2) hx hb hts it_2 hown hK hP hL_h0 hF_7 rfl 0 (by decide) (hts _ kt_84) (fun _ h9 => h9) rfl dX2_onlyText_16 ?_
    refine lv_iload hx hb dX2_onlyText_19 (lv_at hl 0 rfl) ?_
    obtain ⟨f_12, hF_13, hq_14⟩ := hO.rentry hi_4 ht_5
    obtain ⟨b_15, x_16, y_17, hbf_18, hi_19, ht_20⟩ := hq_14 j (by omega)
    refine pg_aald (r := b_15) hx hb hK hP hi_4 5 hF_13 rfl (vp_in_nI (by omega) (by omega)) (show f_12 ((nI j) : Int32).toNatClampNeg = _ from by rw [show ((nI j) : Int32) = nI j from rfl, nI_clamp (by omega)]; exact hbf_18) dX2_onlyText_21 ?_
    obtain ⟨hi_21, hi_22, ⟨r_23, ht_24⟩, ⟨r_25, ht_26⟩⟩ := hW.entry hi_19 ht_20
    have ht_24 : ty x_16 = (0, ρ + j + j + j + 101, [r_23, 60]) := ht_24
    have ht_26 : ty y_17 = (0, ρ + j + j + j + 102, [r_25, 700]) := ht_26
    obtain ⟨v0_27, v1_28, hF_29⟩ := hO.entry hi_19 ht_20
    refine pg_getN (ci := 3) (v := .ref y_17) (C := RX3) (T := TX3) (N := 4) hx hb hts it_3 hown hK hP hi_19 hF_29 rfl 1 (by decide) (hE.nest kn_4) (fun _ h9 => h9) rfl dX2_onlyText_22 ?_
    refine lv_astore (lv' := [(6, .ref y_17), (5, .int (nI j)), (4, .int w4), (0, .ref h0), (1, .ref g1), (2, .ref q), (3, .int x3)]) hx hb dX2_onlyText_25 hl (by decide) rfl (fun ls hl => ?_)
    refine lv_aload_n hx hb dX2_onlyText_27 rfl (lv_at hl 3 rfl) ?_
    refine pg_get (ci := 2) (v := .ref ea) (C := RX2) (T := TX2) (N := 2) hx hb hts it_2 hown hK hP hL_h0 hF_7 rfl 0 (by decide) (hts _ kt_84) (fun _ h9 => h9) rfl dX2_onlyText_28 ?_
    refine lv_iload hx hb dX2_onlyText_31 (lv_at hl 1 rfl) ?_
    obtain ⟨b_30, x_31, y_32, hbf_33, hi_34, ht_35⟩ := hq_14 j (by omega)
    refine pg_aald (r := b_30) hx hb hK hP hi_4 5 hF_13 rfl (vp_in_nI (by omega) (by omega)) (show f_12 ((nI j) : Int32).toNatClampNeg = _ from by rw [show ((nI j) : Int32) = nI j from rfl, nI_clamp (by omega)]; exact hbf_33) dX2_onlyText_33 ?_
    obtain ⟨hi_36, hi_37, ⟨r_38, ht_39⟩, ⟨r_40, ht_41⟩⟩ := hW.entry hi_34 ht_35
    have ht_39 : ty x_31 = (0, ρ + j + j + j + 101, [r_38, 60]) := ht_39
    have ht_41 : ty y_32 = (0, ρ + j + j + j + 102, [r_40, 700]) := ht_41
    obtain ⟨v0_42, v1_43, hF_44⟩ := hO.entry hi_34 ht_35
    refine pg_getN (ci := 3) (v := .int v0_42) (C := RX3) (T := TX3) (N := 4) hx hb hts it_3 hown hK hP hi_34 hF_44 rfl 2 (by decide) (hE.nest kn_0) (fun _ h9 => h9) rfl dX2_onlyText_34 ?_
    refine lv_if_ne (tgt := 123) hx hb dX2_onlyText_37 (by decide) (fun c_45 => ?_) (fun c_45 => ?_)
    ·
      refine lv_iinc (v := (nI (j + 1))) (lv' := [(5, .int (nI (j + 1))), (6, .ref y_17), (4, .int w4), (0, .ref h0), (1, .ref g1), (2, .ref q), (3, .int x3)]) hx hb dX2_onlyText_123 hl (k := 1) rfl (nI_1 _) (by decide) rfl (fun ls hl => ?_)
      refine lv_goto (tgt := 6) hx hb dX2_onlyText_126 (by decide) ?_
      refine W.widen (k := 0) (n := 0) (by omega) (by omega) ?_
      exact ih_3 ((j + 1), w4) F_1 (by first | omega | exact ⟨by omega, by omega⟩ | trivial) (by show 40 - (j + 1) < 40 - j; omega) hO hR _ _ hP hD hS ls (lv_sub hl [0, 2, 3, 4, 5, 6] rfl)
    ·
      refine lv_aload_n hx hb dX2_onlyText_40 rfl (lv_at hl 3 rfl) ?_
      refine pg_get (ci := 2) (v := .ref ea) (C := RX2) (T := TX2) (N := 2) hx hb hts it_2 hown hK hP hL_h0 hF_7 rfl 0 (by decide) (hts _ kt_84) (fun _ h9 => h9) rfl dX2_onlyText_41 ?_
      refine lv_iload hx hb dX2_onlyText_44 (lv_at hl 1 rfl) ?_
      obtain ⟨b_46, x_47, y_48, hbf_49, hi_50, ht_51⟩ := hq_14 j (by omega)
      refine pg_aald (r := b_46) hx hb hK hP hi_4 5 hF_13 rfl (vp_in_nI (by omega) (by omega)) (show f_12 ((nI j) : Int32).toNatClampNeg = _ from by rw [show ((nI j) : Int32) = nI j from rfl, nI_clamp (by omega)]; exact hbf_49) dX2_onlyText_46 ?_
      obtain ⟨hi_52, hi_53, ⟨r_54, ht_55⟩, ⟨r_56, ht_57⟩⟩ := hW.entry hi_50 ht_51
      have ht_55 : ty x_47 = (0, ρ + j + j + j + 101, [r_54, 60]) := ht_55
      have ht_57 : ty y_48 = (0, ρ + j + j + j + 102, [r_56, 700]) := ht_57
      obtain ⟨v0_58, v1_59, hF_60⟩ := hO.entry hi_50 ht_51
      refine pg_getN (ci := 3) (v := .ref x_47) (C := RX3) (T := TX3) (N := 4) hx hb hts it_3 hown hK hP hi_50 hF_60 rfl 0 (by decide) (hE.nest kn_1) (fun _ h9 => h9) rfl dX2_onlyText_47 ?_
      refine lv_aload_n hx hb dX2_onlyText_50 rfl (lv_at hl 4 rfl) ?_
      have hFc := pg_free hD hS hA
      obtain ⟨hi_61, ht_62, hq_63⟩ := hW.bytes hi_52 ht_55
      obtain ⟨z_64, o_65, hF_66, hq_67, hq_68⟩ := hO.bytes hi_52 ht_55
      refine va_calli (va_runV (As := [.ref g1]) (rest := []) ⟨hx, hb, hml, hown, hts⟩ (s_X0_same l dC dI cs ty L H.size F_1 x_47 (ρ + j + j + j + 101) r_54 60 g1 σ r1 n1 hW hi_52 ht_55 hL_g1 hT_g1) ⟨callB_of 1 hts (gi kt_85) rfl rfl rfl (hts _ kt_1) (hts _ kt_86) (by decide +kernel) ⟨Nat.le_of_ble_eq_true rfl, Nat.le_of_ble_eq_true rfl⟩, (hts _ kt_87), (hts _ kt_88)⟩ ⟨fun a U g mk q => ⟨q.1, PT.calling q.2⟩, pg_recv hK hP hi_52 hF_66 (q := (RX0, TX0, 3)) rfl, fun U hU hWm => ⟨rfl, PT.mk hU hWm hP hK hD hE hO⟩⟩ rfl rfl hl.1 rfl (lv_room (Nat.le_of_ble_eq_true rfl)) dX2_onlyText_51 ⟨by show _ + 0 ≤ 0; omega, by show _ + 0 ≤ 0; omega⟩) hS (fun q _ h => hFc q h) hFc (fun r_69 u t H1 locs ht hvm hw hB hz1 hk1 hS => ?_)
      obtain ⟨F_70, hB1⟩ := hB
      obtain ⟨hP, hD, hO, hR⟩ := QT.back hB1 ht hFc hR (fun q h => absurd h List.not_mem_nil)
      have hF_71 : F_70 h0 = .inr (2, [.ref ea, .int (nI z_6)]) := (hB1.2.2.2 h0 List.not_mem_nil).trans hF_7
      have hF_72 : F_70 ea = .inl (cs 21, 40, .inr (.inr (.inr (.inr f_12)))) := (hB1.2.2.2 ea List.not_mem_nil).trans hF_13
      have hF_73 : F_70 b_15 = .inr (3, [.ref x_16, .ref y_17, .int v0_27, .int v1_28]) := (hB1.2.2.2 b_15 List.not_mem_nil).trans hF_29
      have hF_74 : F_70 b_30 = .inr (3, [.ref x_31, .ref y_32, .int v0_42, .int v1_43]) := (hB1.2.2.2 b_30 List.not_mem_nil).trans hF_44
      have hF_75 : F_70 b_46 = .inr (3, [.ref x_47, .ref y_48, .int v0_58, .int v1_59]) := (hB1.2.2.2 b_46 List.not_mem_nil).trans hF_60
      have hF_76 : F_70 x_47 = .inr (0, [.ref r_54, .int (nI z_64), .int o_65]) := (hB1.2.2.2 x_47 List.not_mem_nil).trans hF_66
      generalize H1 = H at hP hS ⊢
      have hw : (r_69 = 0 ∨ r_69 = 1) := hw
      have hw_77 := hw
      refine lv_if_eq (tgt := 123) hx hb dX2_onlyText_54 (by decide) (fun c_78 => ?_) (fun c_78 => ?_)
      ·
        refine lv_iinc (v := (nI (j + 1))) (lv' := [(5, .int (nI (j + 1))), (6, .ref y_17), (4, .int w4), (0, .ref h0), (1, .ref g1), (2, .ref q), (3, .int x3)]) hx hb dX2_onlyText_123 hl (k := 1) rfl (nI_1 _) (by decide) rfl (fun ls hl => ?_)
        refine lv_goto (tgt := 6) hx hb dX2_onlyText_126 (by decide) ?_
        refine W.widen (k := 0) (n := 0) (by omega) (by omega) ?_
        exact ih_3 ((j + 1), w4) F_70 (by first | omega | exact ⟨by omega, by omega⟩ | trivial) (by show 40 - (j + 1) < 40 - j; omega) hO hR _ _ hP hD hS ls (lv_sub hl [0, 2, 3, 4, 5, 6] rfl)
      ·
        refine lv_aload hx hb dX2_onlyText_57 (lv_at hl 0 rfl) ?_
        refine lv_iconst (v := 0) hx hb dX2_onlyText_59 (by decide) ?_
        refine lv_aload hx hb dX2_onlyText_60 (lv_at hl 0 rfl) ?_
        obtain ⟨hi_79, ht_80, hq_81⟩ := hW.bytes hi_22 ht_26
        obtain ⟨z_82, o_83, hF_84, hq_85, hq_86⟩ := hO.bytes hi_22 ht_26
        refine pg_getN (ci := 0) (v := .int (nI z_82)) (C := RX0) (T := TX0) (N := 3) hx hb hts it_0 hown hK hP hi_22 hF_84 rfl 1 (by decide) (hE.nest kn_3) (fun _ h9 => h9) rfl dX2_onlyText_62 ?_
        refine lv_aload_n hx hb dX2_onlyText_65 rfl (lv_at hl 5 rfl) ?_
        have hFc := pg_free hD hS hA
        refine va_calli (va_runV (As := [.int 0, .int (nI z_82), .ref q]) (rest := []) ⟨hx, hb, hml, hown, hts⟩ (s_X0_begins l dC dI cs ty L H.size F_70 y_17 (ρ + j + j + j + 102) r_25 700 q v k0 0 (nI z_82) hW hi_22 ht_26) ⟨callB_of 3 hts (gi kt_112) rfl rfl rfl (hts _ kt_1) (hts _ kt_113) (by decide +kernel) ⟨Nat.le_of_ble_eq_true rfl, Nat.le_of_ble_eq_true rfl⟩, (hts _ kt_114), (hts _ kt_115)⟩ ⟨fun a U g mk q => ⟨q.1, PTE.calling q.2⟩, pg_recv hK hP hi_22 hF_84 (q := (RX0, TX0, 3)) rfl, fun U hU hWm => ⟨rfl, PTE.mk hU hWm hP hK hD hE hO hG (fun x hx => by rw [List.mem_singleton] at hx; subst hx; exact hX_q) hS hFc⟩⟩ rfl rfl hl.1 rfl (lv_room (Nat.le_of_ble_eq_true rfl)) dX2_onlyText_66 ⟨by show _ + 0 ≤ 0; omega, by show _ + 0 ≤ 0; omega⟩) hS (fun q _ h => hFc q h) hFc (fun r_87 u t H1 locs ht hvm hw hB hz1 hk1 hS => ?_)
        obtain ⟨F_88, hB1⟩ := hB
        obtain ⟨hP, hD, hO, hR⟩ := QT.back hB1 ht hFc hR (fun q h => absurd h List.not_mem_nil)
        have hF_89 : F_88 h0 = .inr (2, [.ref ea, .int (nI z_6)]) := (hB1.2.2.2 h0 List.not_mem_nil).trans hF_71
        have hF_90 : F_88 ea = .inl (cs 21, 40, .inr (.inr (.inr (.inr f_12)))) := (hB1.2.2.2 ea List.not_mem_nil).trans hF_72
        have hF_91 : F_88 b_15 = .inr (3, [.ref x_16, .ref y_17, .int v0_27, .int v1_28]) := (hB1.2.2.2 b_15 List.not_mem_nil).trans hF_73
        have hF_92 : F_88 b_30 = .inr (3, [.ref x_31, .ref y_32, .int v0_42, .int v1_43]) := (hB1.2.2.2 b_30 List.not_mem_nil).trans hF_74
        have hF_93 : F_88 b_46 = .inr (3, [.ref x_47, .ref y_48, .int v0_58, .int v1_59]) := (hB1.2.2.2 b_46 List.not_mem_nil).trans hF_75
        have hF_94 : F_88 x_47 = .inr (0, [.ref r_54, .int (nI z_64), .int o_65]) := (hB1.2.2.2 x_47 List.not_mem_nil).trans hF_76
        have hF_95 : F_88 y_17 = .inr (0, [.ref r_25, .int (nI z_82), .int o_83]) := (hB1.2.2.2 y_17 List.not_mem_nil).trans hF_84
        generalize H1 = H at hP hS ⊢
        have hw : (r_87 = 0 ∨ r_87 = 1) := hw
        have hw_96 := hw
        refine lv_if_ne (tgt := 75) hx hb dX2_onlyText_69 (by decide) (fun c_97 => ?_) (fun c_97 => ?_)
        ·
          refine lv_iload_n hx hb dX2_onlyText_75 rfl (lv_at hl 6 rfl) ?_
          refine lv_if_eq (tgt := 108) hx hb dX2_onlyText_76 (by decide) (fun c_98 => ?_) (fun c_98 => ?_)
          ·
            refine lv_iload hx hb dX2_onlyText_108 (lv_at hl 2 rfl) ?_
            refine lv_iconst (v := (-1)) hx hb dX2_onlyText_110 (by decide) ?_
            refine lv_icmp_ne (tgt := 119) hx hb dX2_onlyText_111 (by decide) (fun c_99 => ?_) (fun c_99 => ?_)
            ·
              refine lv_bipush (v := (-2)) hx hb dX2_onlyText_119 (by decide) ?_
              refine lv_istore (lv' := [(4, .int (-2)), (6, .ref y_17), (5, .int (nI j)), (0, .ref h0), (1, .ref g1), (2, .ref q), (3, .int x3)]) hx hb dX2_onlyText_121 hl (by decide) rfl (fun ls hl => ?_)
              refine lv_iinc (v := (nI (j + 1))) (lv' := [(5, .int (nI (j + 1))), (4, .int (-2)), (6, .ref y_17), (0, .ref h0), (1, .ref g1), (2, .ref q), (3, .int x3)]) hx hb dX2_onlyText_123 hl (k := 2) rfl (nI_1 _) (by decide) rfl (fun ls hl => ?_)
              refine lv_goto (tgt := 6) hx hb dX2_onlyText_126 (by decide) ?_
              refine W.widen (k := 0) (n := 0) (by omega) (by omega) ?_
              exact ih_3 ((j + 1), (-2)) F_88 (by first | omega | exact ⟨by omega, by omega⟩ | trivial) (by show 40 - (j + 1) < 40 - j; omega) hO hR _ _ hP hD hS ls (lv_sub hl [0, 1, 3, 4, 5, 6] rfl)
            ·
              refine lv_iload hx hb dX2_onlyText_114 (lv_at hl 1 rfl) ?_
              refine lv_goto (tgt := 121) hx hb dX2_onlyText_116 (by decide) ?_
              refine lv_istore (lv' := [(4, .int (nI j)), (6, .ref y_17), (5, .int (nI j)), (0, .ref h0), (1, .ref g1), (2, .ref q), (3, .int x3)]) hx hb dX2_onlyText_121 hl (by decide) rfl (fun ls hl => ?_)
              refine lv_iinc (v := (nI (j + 1))) (lv' := [(5, .int (nI (j + 1))), (4, .int (nI j)), (6, .ref y_17), (0, .ref h0), (1, .ref g1), (2, .ref q), (3, .int x3)]) hx hb dX2_onlyText_123 hl (k := 2) rfl (nI_1 _) (by decide) rfl (fun ls hl => ?_)
              refine lv_goto (tgt := 6) hx hb dX2_onlyText_126 (by decide) ?_
              refine W.widen (k := 0) (n := 0) (by omega) (by omega) ?_
              exact ih_3 ((j + 1), (nI j)) F_88 (by first | omega | exact ⟨by omega, by omega⟩ | trivial) (by show 40 - (j + 1) < 40 - j; omega) hO hR _ _ hP hD hS ls (lv_sub hl [0, 1, 3, 4, 5, 6] rfl)
          ·
            refine lv_aload hx hb dX2_onlyText_79 (lv_at hl 0 rfl) ?_
            refine pg_getN (ci := 0) (v := .int (nI z_82)) (C := RX0) (T := TX0) (N := 3) hx hb hts it_0 hown hK hP hi_22 hF_95 rfl 1 (by decide) (hE.nest kn_3) (fun _ h9 => h9) rfl dX2_onlyText_81 ?_
            refine lv_aload_n hx hb dX2_onlyText_84 rfl (lv_at hl 5 rfl) ?_
            have hFc := pg_free hD hS hA
            refine va_calli (va_runV (As := []) (rest := [.int (nI z_82)]) ⟨hx, hb, hml, hown, hts⟩ (s_J0_length_8abf5 l dC dI cs ty L H.size F_88 q v k0 hW ) ⟨callB_of 0 hts (gi kt_71) rfl rfl rfl (hts _ kt_51) (hts _ kt_116) (by decide +kernel) ⟨Nat.le_of_ble_eq_true rfl, Nat.le_of_ble_eq_true rfl⟩, (hts _ kt_73), (hts _ kt_74)⟩ ⟨fun a U g mk q => ⟨q.1, PTE.calling q.2⟩, sx_recv hX_q hS, fun U hU hWm => ⟨rfl, PTE.mk hU hWm hP hK hD hE hO hG (fun x hx => by rw [List.mem_singleton] at hx; subst hx; exact hX_q) hS hFc⟩⟩ rfl rfl hl.1 rfl (lv_room (Nat.le_of_ble_eq_true rfl)) dX2_onlyText_85 ⟨by show _ + 0 ≤ 0; omega, by show _ + 0 ≤ 0; omega⟩) hS (fun q _ h => hFc q h) hFc (fun r_100 u t H1 locs ht hvm hw hB hz1 hk1 hS => ?_)
            obtain ⟨F_101, hB1⟩ := hB
            obtain ⟨hP, hD, hO, hR⟩ := QT.back hB1 ht hFc hR (fun q h => absurd h List.not_mem_nil)
            have hF_102 : F_101 h0 = .inr (2, [.ref ea, .int (nI z_6)]) := (hB1.2.2.2 h0 List.not_mem_nil).trans hF_89
            have hF_103 : F_101 ea = .inl (cs 21, 40, .inr (.inr (.inr (.inr f_12)))) := (hB1.2.2.2 ea List.not_mem_nil).trans hF_90
            have hF_104 : F_101 b_15 = .inr (3, [.ref x_16, .ref y_17, .int v0_27, .int v1_28]) := (hB1.2.2.2 b_15 List.not_mem_nil).trans hF_91
            have hF_105 : F_101 b_30 = .inr (3, [.ref x_31, .ref y_32, .int v0_42, .int v1_43]) := (hB1.2.2.2 b_30 List.not_mem_nil).trans hF_92
            have hF_106 : F_101 b_46 = .inr (3, [.ref x_47, .ref y_48, .int v0_58, .int v1_59]) := (hB1.2.2.2 b_46 List.not_mem_nil).trans hF_93
            have hF_107 : F_101 x_47 = .inr (0, [.ref r_54, .int (nI z_64), .int o_65]) := (hB1.2.2.2 x_47 List.not_mem_nil).trans hF_94
            have hF_108 : F_101 y_17 = .inr (0, [.ref r_25, .int (nI z_82), .int o_83]) := (hB1.2.2.2 y_17 List.not_mem_nil).trans hF_95
            generalize H1 = H at hP hS ⊢
            have hw : r_100 = nI k0 := hw
            have hw_109 := hw
            refine lv_icmp_le (tgt := 108) hx hb dX2_onlyText_88 (by decide) (fun c_110 => ?_) (fun c_110 => ?_)
            ·
              refine lv_iload hx hb dX2_onlyText_108 (lv_at hl 2 rfl) ?_
              refine lv_iconst (v := (-1)) hx hb dX2_onlyText_110 (by decide) ?_
              refine lv_icmp_ne (tgt := 119) hx hb dX2_onlyText_111 (by decide) (fun c_111 => ?_) (fun c_111 => ?_)
              ·
                refine lv_bipush (v := (-2)) hx hb dX2_onlyText_119 (by decide) ?_
                refine lv_istore (lv' := [(4, .int (-2)), (6, .ref y_17), (5, .int (nI j)), (0, .ref h0), (1, .ref g1), (2, .ref q), (3, .int x3)]) hx hb dX2_onlyText_121 hl (by decide) rfl (fun ls hl => ?_)
                refine lv_iinc (v := (nI (j + 1))) (lv' := [(5, .int (nI (j + 1))), (4, .int (-2)), (6, .ref y_17), (0, .ref h0), (1, .ref g1), (2, .ref q), (3, .int x3)]) hx hb dX2_onlyText_123 hl (k := 2) rfl (nI_1 _) (by decide) rfl (fun ls hl => ?_)
                refine lv_goto (tgt := 6) hx hb dX2_onlyText_126 (by decide) ?_
                refine W.widen (k := 0) (n := 0) (by omega) (by omega) ?_
                exact ih_3 ((j + 1), (-2)) F_101 (by first | omega | exact ⟨by omega, by omega⟩ | trivial) (by show 40 - (j + 1) < 40 - j; omega) hO hR _ _ hP hD hS ls (lv_sub hl [0, 1, 3, 4, 5, 6] rfl)
              ·
                refine lv_iload hx hb dX2_onlyText_114 (lv_at hl 1 rfl) ?_
                refine lv_goto (tgt := 121) hx hb dX2_onlyText_116 (by decide) ?_
                refine lv_istore (lv' := [(4, .int (nI j)), (6, .ref y_17), (5, .int (nI j)), (0, .ref h0), (1, .ref g1), (2, .ref q), (3, .int x3)]) hx hb dX2_onlyText_121 hl (by decide) rfl (fun ls hl => ?_)
                refine lv_iinc (v := (nI (j + 1))) (lv' := [(5, .int (nI (j + 1))), (4, .int (nI j)), (6, .ref y_17), (0, .ref h0), (1, .ref g1), (2, .ref q), (3, .int x3)]) hx hb dX2_onlyText_123 hl (k := 2) rfl (nI_1 _) (by decide) rfl (fun ls hl => ?_)
                refine lv_goto (tgt := 6) hx hb dX2_onlyText_126 (by decide) ?_
                refine W.widen (k := 0) (n := 0) (by omega) (by omega) ?_
                exact ih_3 ((j + 1), (nI j)) F_101 (by first | omega | exact ⟨by omega, by omega⟩ | trivial) (by show 40 - (j + 1) < 40 - j; omega) hO hR _ _ hP hD hS ls (lv_sub hl [0, 1, 3, 4, 5, 6] rfl)
            ·
              refine lv_aload hx hb dX2_onlyText_91 (lv_at hl 0 rfl) ?_
              refine lv_aload_n hx hb dX2_onlyText_93 rfl (lv_at hl 5 rfl) ?_
              have hFc := pg_free hD hS hA
              refine va_calli (va_runV (As := []) (rest := [.ref y_17]) ⟨hx, hb, hml, hown, hts⟩ (s_J0_length_8abf5 l dC dI cs ty L H.size F_101 q v k0 hW ) ⟨callB_of 0 hts (gi kt_71) rfl rfl rfl (hts _ kt_51) (hts _ kt_116) (by decide +kernel) ⟨Nat.le_of_ble_eq_true rfl, Nat.le_of_ble_eq_true rfl⟩, (hts _ kt_73), (hts _ kt_74)⟩ ⟨fun a U g mk q => ⟨q.1, PTE.calling q.2⟩, sx_recv hX_q hS, fun U hU hWm => ⟨rfl, PTE.mk hU hWm hP hK hD hE hO hG (fun x hx => by rw [List.mem_singleton] at hx; subst hx; exact hX_q) hS hFc⟩⟩ rfl rfl hl.1 rfl (lv_room (Nat.le_of_ble_eq_true rfl)) dX2_onlyText_94 ⟨by show _ + 0 ≤ 0; omega, by show _ + 0 ≤ 0; omega⟩) hS (fun q _ h => hFc q h) hFc (fun r_112 u t H1 locs ht hvm hw hB hz1 hk1 hS => ?_)
              obtain ⟨F_113, hB1⟩ := hB
              obtain ⟨hP, hD, hO, hR⟩ := QT.back hB1 ht hFc hR (fun q h => absurd h List.not_mem_nil)
              have hF_114 : F_113 h0 = .inr (2, [.ref ea, .int (nI z_6)]) := (hB1.2.2.2 h0 List.not_mem_nil).trans hF_102
              have hF_115 : F_113 ea = .inl (cs 21, 40, .inr (.inr (.inr (.inr f_12)))) := (hB1.2.2.2 ea List.not_mem_nil).trans hF_103
              have hF_116 : F_113 b_15 = .inr (3, [.ref x_16, .ref y_17, .int v0_27, .int v1_28]) := (hB1.2.2.2 b_15 List.not_mem_nil).trans hF_104
              have hF_117 : F_113 b_30 = .inr (3, [.ref x_31, .ref y_32, .int v0_42, .int v1_43]) := (hB1.2.2.2 b_30 List.not_mem_nil).trans hF_105
              have hF_118 : F_113 b_46 = .inr (3, [.ref x_47, .ref y_48, .int v0_58, .int v1_59]) := (hB1.2.2.2 b_46 List.not_mem_nil).trans hF_106
              have hF_119 : F_113 x_47 = .inr (0, [.ref r_54, .int (nI z_64), .int o_65]) := (hB1.2.2.2 x_47 List.not_mem_nil).trans hF_107
              have hF_120 : F_113 y_17 = .inr (0, [.ref r_25, .int (nI z_82), .int o_83]) := (hB1.2.2.2 y_17 List.not_mem_nil).trans hF_108
              generalize H1 = H at hP hS ⊢
              have hw : r_112 = nI k0 := hw
              have hw_121 := hw
              have hFc := pg_free hD hS hA
              refine va_calli (va_runV (As := [.int r_112]) (rest := []) ⟨hx, hb, hml, hown, hts⟩ (s_X0_at l dC dI cs ty L H.size F_113 y_17 (ρ + j + j + j + 102) r_25 700 r_112 hW hi_22 ht_26) ⟨callB_of 1 hts (gi kt_21) rfl rfl rfl (hts _ kt_1) (hts _ kt_117) (by decide +kernel) ⟨Nat.le_of_ble_eq_true rfl, Nat.le_of_ble_eq_true rfl⟩, (hts _ kt_23), (hts _ kt_24)⟩ ⟨fun a U g mk q => ⟨q.1, PT.calling q.2⟩, pg_recv hK hP hi_22 hF_120 (q := (RX0, TX0, 3)) rfl, fun U hU hWm => ⟨rfl, PT.mk hU hWm hP hK hD hE hO⟩⟩ rfl rfl hl.1 rfl (lv_room (Nat.le_of_ble_eq_true rfl)) dX2_onlyText_97 ⟨by show _ + 0 ≤ 0; omega, by show _ + 0 ≤ 0; omega⟩) hS (fun q _ h => hFc q h) hFc (fun r_122 u t H1 locs ht hvm hw hB hz1 hk1 hS => ?_)
              obtain ⟨F_123, hB1⟩ := hB
              obtain ⟨hP, hD, hO, hR⟩ := QT.back hB1 ht hFc hR (fun q h => absurd h List.not_mem_nil)
              have hF_124 : F_123 h0 = .inr (2, [.ref ea, .int (nI z_6)]) := (hB1.2.2.2 h0 List.not_mem_nil).trans hF_114
              have hF_125 : F_123 ea = .inl (cs 21, 40, .inr (.inr (.inr (.inr f_12)))) := (hB1.2.2.2 ea List.not_mem_nil).trans hF_115
              have hF_126 : F_123 b_15 = .inr (3, [.ref x_16, .ref y_17, .int v0_27, .int v1_28]) := (hB1.2.2.2 b_15 List.not_mem_nil).trans hF_116
              have hF_127 : F_123 b_30 = .inr (3, [.ref x_31, .ref y_32, .int v0_42, .int v1_43]) := (hB1.2.2.2 b_30 List.not_mem_nil).trans hF_117
              have hF_128 : F_123 b_46 = .inr (3, [.ref x_47, .ref y_48, .int v0_58, .int v1_59]) := (hB1.2.2.2 b_46 List.not_mem_nil).trans hF_118
              have hF_129 : F_123 x_47 = .inr (0, [.ref r_54, .int (nI z_64), .int o_65]) := (hB1.2.2.2 x_47 List.not_mem_nil).trans hF_119
              have hF_130 : F_123 y_17 = .inr (0, [.ref r_25, .int (nI z_82), .int o_83]) := (hB1.2.2.2 y_17 List.not_mem_nil).trans hF_120
              generalize H1 = H at hP hS ⊢
              have hw : True := hw
              have hw_131 := hw
              refine lv_bipush (v := 32) hx hb dX2_onlyText_100 (by decide) ?_
              refine lv_icmp_eq (tgt := 108) hx hb dX2_onlyText_102 (by decide) (fun c_132 => ?_) (fun c_132 => ?_)
              ·
                refine lv_iload hx hb dX2_onlyText_108 (lv_at hl 2 rfl) ?_
                refine lv_iconst (v := (-1)) hx hb dX2_onlyText_110 (by decide) ?_
                refine lv_icmp_ne (tgt := 119) hx hb dX2_onlyText_111 (by decide) (fun c_133 => ?_) (fun c_133 => ?_)
                ·
                  refine lv_bipush (v := (-2)) hx hb dX2_onlyText_119 (by decide) ?_
                  refine lv_istore (lv' := [(4, .int (-2)), (6, .ref y_17), (5, .int (nI j)), (0, .ref h0), (1, .ref g1), (2, .ref q), (3, .int x3)]) hx hb dX2_onlyText_121 hl (by decide) rfl (fun ls hl => ?_)
                  refine lv_iinc (v := (nI (j + 1))) (lv' := [(5, .int (nI (j + 1))), (4, .int (-2)), (6, .ref y_17), (0, .ref h0), (1, .ref g1), (2, .ref q), (3, .int x3)]) hx hb dX2_onlyText_123 hl (k := 2) rfl (nI_1 _) (by decide) rfl (fun ls hl => ?_)
                  refine lv_goto (tgt := 6) hx hb dX2_onlyText_126 (by decide) ?_
                  refine W.widen (k := 0) (n := 0) (by omega) (by omega) ?_
                  exact ih_3 ((j + 1), (-2)) F_123 (by first | omega | exact ⟨by omega, by omega⟩ | trivial) (by show 40 - (j + 1) < 40 - j; omega) hO hR _ _ hP hD hS ls (lv_sub hl [0, 1, 3, 4, 5, 6] rfl)
                ·
                  refine lv_iload hx hb dX2_onlyText_114 (lv_at hl 1 rfl) ?_
                  refine lv_goto (tgt := 121) hx hb dX2_onlyText_116 (by decide) ?_
                  refine lv_istore (lv' := [(4, .int (nI j)), (6, .ref y_17), (5, .int (nI j)), (0, .ref h0), (1, .ref g1), (2, .ref q), (3, .int x3)]) hx hb dX2_onlyText_121 hl (by decide) rfl (fun ls hl => ?_)
                  refine lv_iinc (v := (nI (j + 1))) (lv' := [(5, .int (nI (j + 1))), (4, .int (nI j)), (6, .ref y_17), (0, .ref h0), (1, .ref g1), (2, .ref q), (3, .int x3)]) hx hb dX2_onlyText_123 hl (k := 2) rfl (nI_1 _) (by decide) rfl (fun ls hl => ?_)
                  refine lv_goto (tgt := 6) hx hb dX2_onlyText_126 (by decide) ?_
                  refine W.widen (k := 0) (n := 0) (by omega) (by omega) ?_
                  exact ih_3 ((j + 1), (nI j)) F_123 (by first | omega | exact ⟨by omega, by omega⟩ | trivial) (by show 40 - (j + 1) < 40 - j; omega) hO hR _ _ hP hD hS ls (lv_sub hl [0, 1, 3, 4, 5, 6] rfl)
              ·
                refine lv_goto (tgt := 123) hx hb dX2_onlyText_105 (by decide) ?_
                refine lv_iinc (v := (nI (j + 1))) (lv' := [(5, .int (nI (j + 1))), (6, .ref y_17), (4, .int w4), (0, .ref h0), (1, .ref g1), (2, .ref q), (3, .int x3)]) hx hb dX2_onlyText_123 hl (k := 1) rfl (nI_1 _) (by decide) rfl (fun ls hl => ?_)
                refine lv_goto (tgt := 6) hx hb dX2_onlyText_126 (by decide) ?_
                refine W.widen (k := 0) (n := 0) (by omega) (by omega) ?_
                exact ih_3 ((j + 1), w4) F_123 (by first | omega | exact ⟨by omega, by omega⟩ | trivial) (by show 40 - (j + 1) < 40 - j; omega) hO hR _ _ hP hD hS ls (lv_sub hl [0, 2, 3, 4, 5, 6] rfl)
        ·
          refine lv_goto (tgt := 123) hx hb dX2_onlyText_72 (by decide) ?_
          refine lv_iinc (v := (nI (j + 1))) (lv' := [(5, .int (nI (j + 1))), (6, .ref y_17), (4, .int w4), (0, .ref h0), (1, .ref g1), (2, .ref q), (3, .int x3)]) hx hb dX2_onlyText_123 hl (k := 1) rfl (nI_1 _) (by decide) rfl (fun ls hl => ?_)
          refine lv_goto (tgt := 6) hx hb dX2_onlyText_126 (by decide) ?_
          refine W.widen (k := 0) (n := 0) (by omega) (by omega) ?_
          exact ih_3 ((j + 1), w4) F_88 (by first | omega | exact ⟨by omega, by omega⟩ | trivial) (by show 40 - (j + 1) < 40 - j; omega) hO hR _ _ hP hD hS ls (lv_sub hl [0, 2, 3, 4, 5, 6] rfl)
theorem fndp {r x : Int32} {n : Nat} (h : r = x ∨ ∃ j : Nat, j < n ∧ r = nI j) (hx : ¬ x < 0) (hn : n ≤ 10000) : ¬ r < 0 := by
  rcases h with h | ⟨j, hj, h⟩
  · rw [h]; exact hx
  · rw [h]; exact nI_pos (by omega)
