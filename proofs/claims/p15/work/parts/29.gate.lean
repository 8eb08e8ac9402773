theorem dX11_cost_0 : decode cX11_cost 0 = .ok (.iload_n 1, 1) := by decide +kernel
theorem dX11_cost_1 : decode cX11_cost 1 = .ok (.lookupswitch 43 #[(0, 27), (1, 35)], 27) := by decide +kernel
theorem dX11_cost_28 : decode cX11_cost 28 = .ok (.aload_n 0, 1) := by decide +kernel
theorem dX11_cost_29 : decode cX11_cost 29 = .ok (.getfield 33, 3) := by decide +kernel
theorem dX11_cost_32 : decode cX11_cost 32 = .ok (.getfield 99, 3) := by decide +kernel
theorem dX11_cost_35 : decode cX11_cost 35 = .ok (.ireturn, 1) := by decide +kernel
theorem dX11_cost_36 : decode cX11_cost 36 = .ok (.aload_n 0, 1) := by decide +kernel
theorem dX11_cost_37 : decode cX11_cost 37 = .ok (.getfield 33, 3) := by decide +kernel
theorem dX11_cost_40 : decode cX11_cost 40 = .ok (.getfield 102, 3) := by decide +kernel
theorem dX11_cost_43 : decode cX11_cost 43 = .ok (.ireturn, 1) := by decide +kernel
theorem dX11_cost_44 : decode cX11_cost 44 = .ok (.iconst (-1), 1) := by decide +kernel
theorem dX11_cost_45 : decode cX11_cost 45 = .ok (.ireturn, 1) := by decide +kernel
theorem dX11_end_0 : decode cX11_end 0 = .ok (.iload_n 1, 1) := by decide +kernel
theorem dX11_end_1 : decode cX11_end 1 = .ok (.ifCond .lt 14, 3) := by decide +kernel
theorem dX11_end_4 : decode cX11_end 4 = .ok (.iload_n 1, 1) := by decide +kernel
theorem dX11_end_5 : decode cX11_end 5 = .ok (.aload_n 0, 1) := by decide +kernel
theorem dX11_end_6 : decode cX11_end 6 = .ok (.getfield 14, 3) := by decide +kernel
theorem dX11_end_9 : decode cX11_end 9 = .ok (.getfield 68, 3) := by decide +kernel
theorem dX11_end_12 : decode cX11_end 12 = .ok (.if_icmp .le 5, 3) := by decide +kernel
theorem dX11_end_15 : decode cX11_end 15 = .ok (.iconst (-1), 1) := by decide +kernel
theorem dX11_end_16 : decode cX11_end 16 = .ok (.ireturn, 1) := by decide +kernel
theorem dX11_end_17 : decode cX11_end 17 = .ok (.aload_n 0, 1) := by decide +kernel
theorem dX11_end_18 : decode cX11_end 18 = .ok (.getfield 14, 3) := by decide +kernel
theorem dX11_end_21 : decode cX11_end 21 = .ok (.iload_n 1, 1) := by decide +kernel
theorem dX11_end_22 : decode cX11_end 22 = .ok (.invokevirtual 75, 3) := by decide +kernel
theorem dX11_end_25 : decode cX11_end 25 = .ok (.iload_n 1, 1) := by decide +kernel
theorem dX11_end_26 : decode cX11_end 26 = .ok (.ireturn, 1) := by decide +kernel
theorem dX11_feed_0 : decode cX11_feed 0 = .ok (.aload_n 0, 1) := by decide +kernel
theorem dX11_feed_1 : decode cX11_feed 1 = .ok (.getfield 14, 3) := by decide +kernel
theorem dX11_feed_4 : decode cX11_feed 4 = .ok (.getfield 68, 3) := by decide +kernel
theorem dX11_feed_7 : decode cX11_feed 7 = .ok (.bipush 20, 2) := by decide +kernel
theorem dX11_feed_9 : decode cX11_feed 9 = .ok (.iadd, 1) := by decide +kernel
theorem dX11_feed_10 : decode cX11_feed 10 = .ok (.sipush 3000, 3) := by decide +kernel
theorem dX11_feed_13 : decode cX11_feed 13 = .ok (.if_icmp .le 6, 3) := by decide +kernel
theorem dX11_feed_16 : decode cX11_feed 16 = .ok (.bipush (-3), 2) := by decide +kernel
theorem dX11_feed_18 : decode cX11_feed 18 = .ok (.ireturn, 1) := by decide +kernel
theorem dX11_feed_19 : decode cX11_feed 19 = .ok (.aload_n 0, 1) := by decide +kernel
theorem dX11_feed_20 : decode cX11_feed 20 = .ok (.getfield 14, 3) := by decide +kernel
theorem dX11_feed_23 : decode cX11_feed 23 = .ok (.iload_n 1, 1) := by decide +kernel
theorem dX11_feed_24 : decode cX11_feed 24 = .ok (.invokevirtual 72, 3) := by decide +kernel
theorem dX11_feed_27 : decode cX11_feed 27 = .ok (.aload_n 0, 1) := by decide +kernel
theorem dX11_feed_28 : decode cX11_feed 28 = .ok (.getfield 14, 3) := by decide +kernel
theorem dX11_feed_31 : decode cX11_feed 31 = .ok (.iload_n 2, 1) := by decide +kernel
theorem dX11_feed_32 : decode cX11_feed 32 = .ok (.invokevirtual 72, 3) := by decide +kernel
theorem dX11_feed_35 : decode cX11_feed 35 = .ok (.aload_n 0, 1) := by decide +kernel
theorem dX11_feed_36 : decode cX11_feed 36 = .ok (.getfield 14, 3) := by decide +kernel
theorem dX11_feed_39 : decode cX11_feed 39 = .ok (.iload_n 3, 1) := by decide +kernel
theorem dX11_feed_40 : decode cX11_feed 40 = .ok (.invokevirtual 72, 3) := by decide +kernel
theorem dX11_feed_43 : decode cX11_feed 43 = .ok (.aload_n 0, 1) := by decide +kernel
theorem dX11_feed_44 : decode cX11_feed 44 = .ok (.getfield 14, 3) := by decide +kernel
theorem dX11_feed_47 : decode cX11_feed 47 = .ok (.iload 4, 2) := by decide +kernel
theorem dX11_feed_49 : decode cX11_feed 49 = .ok (.invokevirtual 72, 3) := by decide +kernel
theorem dX11_feed_52 : decode cX11_feed 52 = .ok (.aload_n 0, 1) := by decide +kernel
theorem dX11_feed_53 : decode cX11_feed 53 = .ok (.getfield 14, 3) := by decide +kernel
theorem dX11_feed_56 : decode cX11_feed 56 = .ok (.iload 5, 2) := by decide +kernel
theorem dX11_feed_58 : decode cX11_feed 58 = .ok (.invokevirtual 72, 3) := by decide +kernel
theorem dX11_feed_61 : decode cX11_feed 61 = .ok (.aload_n 0, 1) := by decide +kernel
theorem dX11_feed_62 : decode cX11_feed 62 = .ok (.getfield 14, 3) := by decide +kernel
theorem dX11_feed_65 : decode cX11_feed 65 = .ok (.getfield 68, 3) := by decide +kernel
theorem dX11_feed_68 : decode cX11_feed 68 = .ok (.ireturn, 1) := by decide +kernel
theorem dX11_forget_0 : decode cX11_forget 0 = .ok (.aload_n 0, 1) := by decide +kernel
theorem dX11_forget_1 : decode cX11_forget 1 = .ok (.getfield 24, 3) := by decide +kernel
theorem dX11_forget_4 : decode cX11_forget 4 = .ok (.invokevirtual 85, 3) := by decide +kernel
theorem dX11_forget_7 : decode cX11_forget 7 = .ok (.ireturn, 1) := by decide +kernel
theorem dX11_seals_0 : decode cX11_seals 0 = .ok (.aload_n 0, 1) := by decide +kernel
theorem dX11_seals_1 : decode cX11_seals 1 = .ok (.getfield 61, 3) := by decide +kernel
theorem dX11_seals_4 : decode cX11_seals 4 = .ok (.ldc 112, 2) := by decide +kernel
theorem dX11_seals_6 : decode cX11_seals 6 = .ok (.invokevirtual 114, 3) := by decide +kernel
theorem dX11_seals_9 : decode cX11_seals 9 = .ok (.ireturn, 1) := by decide +kernel
theorem kt_509 : Cond.fieldLink RX11 14 "PostGate" "tape" "LPostGate$Bytes;" ∈ tb := tb_at (i := 457) (by decide +kernel) (by decide +kernel)
theorem kt_510 : Cond.methodLink RX11 72 yX0_addFour ∈ tb := tb_at (i := 489) (by decide +kernel) (by decide +kernel)
theorem kt_511 : Cond.methodLink RX11 75 yX0_cut ∈ tb := tb_at (i := 501) (by decide +kernel) (by decide +kernel)
theorem kt_512 : Cond.fieldLink RX11 24 "PostGate" "directory" "LPostGate$Directory;" ∈ tb := tb_at (i := 459) (by decide +kernel) (by decide +kernel)
theorem kt_513 : Cond.code yX2_clear cX2_clear 2 (some .int) ∈ tb := tb_at (i := 559) (by decide +kernel) (by decide +kernel)
theorem kt_514 : Cond.methodLink RX11 85 yX2_clear ∈ tb := tb_at (i := 556) (by decide +kernel) (by decide +kernel)
theorem kt_515 : Cond.instanceMethod yX2_clear ∈ tb := tb_at (i := 557) (by decide +kernel) (by decide +kernel)
theorem kt_516 : Cond.selects RX2 yX2_clear yX2_clear ∈ tb := tb_at (i := 558) (by decide +kernel) (by decide +kernel)
theorem kt_517 : Cond.fieldLink RX11 33 "PostGate" "checker" "LPostGate$Checker;" ∈ tb := tb_at (i := 460) (by decide +kernel) (by decide +kernel)
theorem kt_518 : Cond.fieldLink RX11 61 "PostGate" "letter" "LPostGate$Message;" ∈ tb := tb_at (i := 464) (by decide +kernel) (by decide +kernel)
theorem kt_519 : Cond.methodLink RX11 114 yX4_countOf ∈ tb := tb_at (i := 823) (by decide +kernel) (by decide +kernel)
theorem kn_17 : Cond.fieldLinkNest RX11 68 "PostGate$Bytes" "size" "I" "PostGate" ∈ nw := nw_at (i := 41) (by decide +kernel) rfl
theorem kn_18 : Cond.fieldLinkNest RX11 99 "PostGate$Checker" "counted" "I" "PostGate" ∈ nw := nw_at (i := 153) (by decide +kernel) rfl
theorem kn_19 : Cond.fieldLinkNest RX11 102 "PostGate$Checker" "voids" "I" "PostGate" ∈ nw := nw_at (i := 155) (by decide +kernel) rfl
def TS (F : Nat → va_E) (a z : Nat) : Prop := z ≤ 3000 ∧ ∃ r, F a = .inr (0, [.ref r, .int (nI z), .int 0])
theorem ts_of {F : Nat → va_E} {a r z zt : Nat} {o : Int32} (hF : F a = .inr (0, [.ref r, .int (nI z), .int o])) (h : TS F a zt) : F a = .inr (0, [.ref r, .int (nI zt), .int 0]) := by
  obtain ⟨-, r', h'⟩ := h
  have e := hF.symm.trans h'
  injection e with e1
  injection e1 with e0 e2
  injection e2 with e3 e4
  injection e3 with e5
  rw [h', e5]
theorem lk2 {x : Int32} (a b df k1 k2 : Int) (h1 : ¬ x.toInt = k1) (h2 : ¬ x.toInt = k2) : Op.lookupswitch.offset [(k1, a), (k2, b)] df x.toInt = df := by
  simp [Op.lookupswitch.offset, h1, h2, Ne.symm, eq_comm]
  <;> omega
theorem rowB {r : Int32} {B : Nat} (h : r = (-1) ∨ ∃ j : Nat, j < B ∧ r = nI j) (c : 0 ≤ r) : ∃ j : Nat, j < B ∧ r = nI j := by
  rcases h with h | h
  · rw [h] at c
    exact absurd c (by decide)
  · exact h
set_option maxHeartbeats 4000000 in
set_option maxRecDepth 100000 in
theorem s_X0_cut_x (l : Launch) (dC : Nat → ClassId) (dI : Nat → Nat → Nat) (cs : Nat → ClassId) (ty : TyM) (L : List Nat) (sz : Nat) (F : Nat → va_E) (h0 : Nat) (ρ : Nat) (r0 : Nat) (n : Nat) (z : Nat) (k : Nat) (hW : WT ty L) (hL_h0 : h0 ∈ L) (hT_h0 : ty h0 = (0, ρ, [r0, n])) (hF0 : F h0 = .inr (0, [.ref r0, .int (nI z), .int 0])) (hk0 : k ≤ z) (hzn : z ≤ n) (hz1 : z ≤ 10000) : Met l yX0_cut (.code yX0_cut cX0_cut 2 none :: tb) ({ frames := 0, cells := 0, slots := 0, locals := 0 }) (va_Pc [.ref h0, .int (nI k)] (PT (dC, dI) cs ty L F sz)) (va_Qv (fun _ : Unit => True) (fun _ T9 => ∃ F2 : Nat → va_E, QT (dC, dI) cs ty L [ρ] F F2 (va_A (va_pl L F) sz) T9 ∧ F2 h0 = .inr (0, [.ref r0, .int (nI k), .int 0])) (va_A (va_pl L F) sz)) 0 0 (va_A (va_pl L F) sz) := by
  refine Met.ofW (cc := cX0_cut) (maxL := 2) (ret := none) (by decide) rfl ?_
  intro p e s m args below meth c s₁ B hml hv
  obtain ⟨rfl, hsz, hP, hK, hD0, hE, hO⟩ := hv
  have hx := B.exec
  have hb := B.bytes
  have hr := B.returns
  have hts : ∀ w ∈ tb, w.before _ s = true := fun w h => atoms_spec (ws := .code yX0_cut cX0_cut 2 none :: tb) B.pre w (List.mem_cons_of_mem _ h)
  have hown : s.vm.findClass RX0 = some m.cls := findClass_of_methodNamed B.named
  have hlocks := B.notSynchronized
  subst hsz
  have hD := hD0.self (sz := s.heap.size)
  generalize hAe : va_A (va_pl L F) s.heap.size = A at hD ⊢
  have hA : ∀ q : Nat, s.heap.size ≤ q → A q := fun q h => by rw [← hAe]; exact Or.inr h
  have hS : va_S A s.heap s.heap [] := va_S.rf
  have hR : FR ty [ρ] F F := FR.refl
  have hl := lv_entry ([.ref h0, .int (nI k)]) (n := 2) (Nat.le_of_ble_eq_true rfl)
  rw [lg_entry_eq]
  generalize (lg_sl ([.ref h0, .int (nI k)]) ++ List.replicate (2 - (lg_sl ([.ref h0, .int (nI k)])).length) Slot.unset).toArray = ls at hl ⊢
  have hl : lv_has ls 2 [(0, .ref h0), (1, .int (nI k))] := hl
  refine lv_iload_n hx hb dX0_cut_0 rfl (lv_at hl 1 rfl) ?_
  refine lv_if_lt (tgt := 17) hx hb dX0_cut_1 (by decide) (fun c_1 => absurd c_1 (nI_pos (by omega))) (fun c_1 => ?_)
  refine lv_iload_n hx hb dX0_cut_4 rfl (lv_at hl 1 rfl) ?_
  refine lv_aload_n hx hb dX0_cut_5 rfl (lv_at hl 0 rfl) ?_
  obtain ⟨hi_2, ht_3, hq_4⟩ := hW.bytes hL_h0 hT_h0
  refine pg_get (ci := 0) (v := .int (nI z)) (C := RX0) (T := TX0) (N := 3) hx hb hts it_0 hown hK hP hL_h0 hF0 rfl 1 (by decide) (hts _ kt_10) (fun _ h9 => h9) rfl dX0_cut_6 ?_
  refine lv_icmp_ge (tgt := 17) hx hb dX0_cut_9 (by decide) (fun c_5 => ?_) (fun c_5 => ?_)
  ·
    have hi_6 : z ≤ k := leN (N := z) c_5
    have hkz : k = z := by
      have h9 : z ≤ k := (nI_leI (by omega) (by omega)).mp c_5
      omega
    subst hkz
    refine W.widen (k := 0) (n := 0) (by omega) (by omega) ?_
    exact W.vret hx hb hr (fun t ht hWm => ⟨⟨(), rfl, trivial, ⟨F, QT.mk ht hP hD hO hR, hF0⟩⟩, hS.F ht⟩) hS.2.2 dX0_cut_17
  ·
    have hi_7 : k < z := ltN (N := z) c_5
    refine lv_aload_n hx hb dX0_cut_12 rfl (lv_at hl 0 rfl) ?_
    refine lv_iload_n hx hb dX0_cut_13 rfl (lv_at hl 1 rfl) ?_
    refine pg_put (ci := 0) (v := .int (nI k)) (ty := .int) (C := RX0) (T := TX0) (N := 3) hx hb hts it_0 tyX0 tyX0_ok nmX0 hown hK hP hD hS hL_h0 hF0 rfl 1 (by decide) (hts _ kt_10) (fun _ h9 => h9) rfl (by decide +kernel) (rfl) (rfl) (Nat.le_of_ble_eq_true rfl) dX0_cut_14 (fun H locs hP hD hS => ?_)
    obtain ⟨F_8, he_9, hP, hD, hO, hR⟩ : ∃ G, G = va_up F h0 (.inr (0, [.ref r0, .int (nI k), .int 0])) ∧ va_P (dC, dI) vwCl (va_pl L G) H ∧ va_D A (va_pl L G) ∧ OK cs ty L G ∧ FR ty [ρ] F G := ⟨_, rfl, hP, hD, hO.up (sh.bytes hT_h0 ⟨k, 0, rfl, (by first | omega | assumption | exact Or.inl rfl | exact Or.inr rfl), (by first | omega | assumption | exact Or.inl rfl | exact Or.inr rfl)⟩), hR.up hT_h0 (by simp)⟩
    have hF_10 : F_8 h0 = .inr (0, [.ref r0, .int (nI k), .int 0]) := by rw [he_9]; exact up_self
    refine W.widen (k := 0) (n := 0) (by omega) (by omega) ?_
    exact W.vret hx hb hr (fun t ht hWm => ⟨⟨(), rfl, trivial, ⟨F_8, QT.mk ht hP hD hO hR, hF_10⟩⟩, hS.F ht⟩) hS.2.2 dX0_cut_17
set_option maxHeartbeats 4000000 in
set_option maxRecDepth 100000 in
theorem s_X11_feed (l : Launch) (dC : Nat → ClassId) (dI : Nat → Nat → Nat) (cs : Nat → ClassId) (ty : TyM) (L : List Nat) (sz : Nat) (F : Nat → va_E) (h0 : Nat) (ρ : Nat) (ta : Nat) (ou : Nat) (di : Nat) (ea : Nat) (ck : Nat) (sl : Nat) (po : Nat) (hs : Nat) (zt : Nat) (x1 : Int32) (x2 : Int32) (x3 : Int32) (x4 : Int32) (x5 : Int32) (hW : WT ty L) (hL_h0 : h0 ∈ L) (hT_h0 : ty h0 = (11, ρ, [ta, ou, di, ea, ck, sl, po, hs])) (hTS : TS F ta zt) : Met l yX11_feed (.code yX11_feed cX11_feed 6 (some .int) :: tb) ({ frames := 2, cells := 0, slots := 0, locals := 43 }) (va_Pc [.ref h0, .int x1, .int x2, .int x3, .int x4, .int x5] (PT (dC, dI) cs ty L F sz)) (va_Qi (fun (r : Int32) (_ : Unit) => r = (if zt + 20 ≤ 3000 then nI (zt + 20) else (-3))) (fun _ T9 => ∃ F2 : Nat → va_E, QT (dC, dI) cs ty L [ρ + 1] F F2 (va_A (va_pl L F) sz) T9 ∧ TS F2 ta (if zt + 20 ≤ 3000 then zt + 20 else zt)) (va_A (va_pl L F) sz)) 0 0 (va_A (va_pl L F) sz) := by
  refine Met.ofW (cc := cX11_feed) (maxL := 6) (ret := (some .int)) (by decide) rfl ?_
  intro p e s m args below meth c s₁ B hml hv
  obtain ⟨rfl, hsz, hP, hK, hD0, hE, hO⟩ := hv
  have hx := B.exec
  have hb := B.bytes
  have hr := B.returns
  have hts : ∀ w ∈ tb, w.before _ s = true := fun w h => atoms_spec (ws := .code yX11_feed cX11_feed 6 (some .int) :: tb) B.pre w (List.mem_cons_of_mem _ h)
  have hown : s.vm.findClass RX11 = some m.cls := findClass_of_methodNamed B.named
  have hlocks := B.notSynchronized
  subst hsz
  have hD := hD0.self (sz := s.heap.size)
  generalize hAe : va_A (va_pl L F) s.heap.size = A at hD ⊢
  have hA : ∀ q : Nat, s.heap.size ≤ q → A q := fun q h => by rw [← hAe]; exact Or.inr h
  have hS : va_S A s.heap s.heap [] := va_S.rf
  have hR : FR ty [ρ + 1] F F := FR.refl
  have hl := lv_entry ([.ref h0, .int x1, .int x2, .int x3, .int x4, .int x5]) (n := 6) (Nat.le_of_ble_eq_true rfl)
  rw [lg_entry_eq]
  generalize (lg_sl ([.ref h0, .int x1, .int x2, .int x3, .int x4, .int x5]) ++ List.replicate (6 - (lg_sl ([.ref h0, .int x1, .int x2, .int x3, .int x4, .int x5])).length) Slot.unset).toArray = ls at hl ⊢
  have hl : lv_has ls 6 [(0, .ref h0), (1, .int x1), (2, .int x2), (3, .int x3), (4, .int x4), (5, .int x5)] := hl
  obtain ⟨hi_1, ⟨r_2, ht_3⟩, hi_4, ⟨r_5, ht_6⟩, hi_7, ht_8, hi_9, ⟨w0_10, w1_11, w2_12, w3_13, nm_14, te_15, ht_16⟩, hi_17, ⟨l1_18, lx_19, ly0_20, ly1_21, ly2_22, k1_23, kx_24, ky0_25, ky1_26, ky2_27, w0_28, w1_29, w2_30, w3_31, w4_32, w5_33, w6_34, w7_35, w8_36, tk_37, h1_38, hx_39, hy_40, hw_41, pw_42, px_43, py_44, pz_45, pu_46, ht_47⟩, hi_48, ⟨w0_49, w1_50, rc_51, rx_52, ry0_53, ry1_54, ry2_55, ht_56⟩, hi_57, ⟨hx_58, hy_59, hw_60, ht_61⟩⟩ := hW.gate hL_h0 hT_h0
  obtain ⟨le_62, sp_63, μ_64, ν_65, hF_66, hq_67, hq_68, hq_69, hq_70, hq_71, hq_72⟩ := hO.gate hL_h0 hT_h0
  obtain ⟨x_73, y0_74, y1_75, y2_76, ht_77⟩ := id hq_68
  obtain ⟨x_78, y0_79, y1_80, y2_81, ht_82⟩ := id hq_70
  obtain ⟨hi_83, ht_84, hq_85⟩ := hW.bytes hi_1 ht_3
  obtain ⟨z_86, o_87, hF_88, hq_89, hq_90⟩ := hO.bytes hi_1 ht_3
  have hts_91 := ts_of hF_88 hTS
  have hzt := (hTS).1
  refine lv_aload_n hx hb dX11_feed_0 rfl (lv_at hl 0 rfl) ?_
  refine pg_get (ci := 11) (v := .ref ta) (C := RX11) (T := TX11) (N := 9) hx hb hts it_11 hown hK hP hL_h0 hF_66 rfl 0 (by decide) (hts _ kt_509) (fun _ h9 => h9) rfl dX11_feed_1 ?_
  refine pg_getN (ci := 0) (v := .int (nI zt)) (C := RX0) (T := TX0) (N := 3) hx hb hts it_0 hown hK hP hi_1 hts_91 rfl 1 (by decide) (hE.nest kn_17) (fun _ h9 => h9) rfl dX11_feed_4 ?_
  refine lv_bipush (v := 20) hx hb dX11_feed_7 (by decide) ?_
  refine lv_iadd hx hb dX11_feed_9 ?_
  refine lv_topi (fun x_92 ex_92 => ?_)
  obtain rfl : x_92 = (nI (zt + 20)) := ex_92.trans (nI_add zt 20)
  refine lv_sipush (v := 3000) hx hb dX11_feed_10 (by decide) ?_
  refine lv_icmp_le (tgt := 19) hx hb dX11_feed_13 (by decide) (fun c_93 => ?_) (fun c_93 => ?_)
  ·
    have hfit : zt + 20 ≤ 3000 := (nI_leI (b := 3000) (by omega) (by omega)).mp c_93
    refine lv_aload_n hx hb dX11_feed_19 rfl (lv_at hl 0 rfl) ?_
    refine pg_get (ci := 11) (v := .ref ta) (C := RX11) (T := TX11) (N := 9) hx hb hts it_11 hown hK hP hL_h0 hF_66 rfl 0 (by decide) (hts _ kt_509) (fun _ h9 => h9) rfl dX11_feed_20 ?_
    refine lv_iload_n hx hb dX11_feed_23 rfl (lv_at hl 1 rfl) ?_
    have hFc := pg_free hD hS hA
    refine va_callv (va_runV (As := [.int x1]) (rest := []) ⟨hx, hb, hml, hown, hts⟩ (s_X0_addFour_x l dC dI cs ty L s.heap.size F ta (ρ + 1) r_2 3000 zt x1 hW hi_1 ht_3 hts_91 (by omega)) ⟨callB_of 1 hts (gi kt_257) rfl rfl rfl (hts _ kt_1) (hts _ kt_510) (by decide +kernel) ⟨Nat.le_of_ble_eq_true rfl, Nat.le_of_ble_eq_true rfl⟩, (hts _ kt_259), (hts _ kt_260)⟩ ⟨fun a U g mk q => ⟨q.1, PT.calling q.2⟩, pg_recv hK hP hi_1 hts_91 (q := (RX0, TX0, 3)) rfl, fun U hU hWm => ⟨rfl, PT.mk hU hWm hP hK hD hE hO⟩⟩ rfl rfl hl.1 rfl (lv_room (Nat.le_of_ble_eq_true rfl)) dX11_feed_24 ⟨by show _ + 0 ≤ 0; omega, by show _ + 0 ≤ 0; omega⟩) hS (fun q _ h => hFc q h) hFc (fun u t H1 locs ht hvm hw hB hz1 hk1 hS => ?_)
    obtain ⟨F_96, hB1, hq_97⟩ := hB
    obtain ⟨hP, hD, hO, hR⟩ := QT.back hB1 ht hFc hR (fun q h => by simp only [List.mem_cons, List.not_mem_nil, or_false] at h ⊢; omega)
    have hF_98 : F_96 h0 = .inr (11, [.ref ta, .ref ou, .ref di, .ref ck, .ref sl, .ref po, .ref hs, .ref le_62, .ref sp_63]) := (hB1.2.2.2 h0 (by rw [hT_h0]; simp)).trans hF_66
    generalize H1 = H at hP hS ⊢
    refine lv_aload_n hx hb dX11_feed_27 rfl (lv_at hl 0 rfl) ?_
    refine pg_get (ci := 11) (v := .ref ta) (C := RX11) (T := TX11) (N := 9) hx hb hts it_11 hown hK hP hL_h0 hF_98 rfl 0 (by decide) (hts _ kt_509) (fun _ h9 => h9) rfl dX11_feed_28 ?_
    refine lv_iload_n hx hb dX11_feed_31 rfl (lv_at hl 2 rfl) ?_
    have hFc := pg_free hD hS hA
    refine va_callv (va_runV (As := [.int x2]) (rest := []) ⟨hx, hb, hml, hown, hts⟩ (s_X0_addFour_x l dC dI cs ty L H.size F_96 ta (ρ + 1) r_2 3000 (zt + 4) x2 hW hi_1 ht_3 hq_97 (by omega)) ⟨callB_of 1 hts (gi kt_257) rfl rfl rfl (hts _ kt_1) (hts _ kt_510) (by decide +kernel) ⟨Nat.le_of_ble_eq_true rfl, Nat.le_of_ble_eq_true rfl⟩, (hts _ kt_259), (hts _ kt_260)⟩ ⟨fun a U g mk q => ⟨q.1, PT.calling q.2⟩, pg_recv hK hP hi_1 hq_97 (q := (RX0, TX0, 3)) rfl, fun U hU hWm => ⟨rfl, PT.mk hU hWm hP hK hD hE hO⟩⟩ rfl rfl hl.1 rfl (lv_room (Nat.le_of_ble_eq_true rfl)) dX11_feed_32 ⟨by show _ + 0 ≤ 0; omega, by show _ + 0 ≤ 0; omega⟩) hS (fun q _ h => hFc q h) hFc (fun u t H1 locs ht hvm hw hB hz1 hk1 hS => ?_)
    obtain ⟨F_100, hB1, hq_101⟩ := hB
    obtain ⟨hP, hD, hO, hR⟩ := QT.back hB1 ht hFc hR (fun q h => by simp only [List.mem_cons, List.not_mem_nil, or_false] at h ⊢; omega)
    have hF_102 : F_100 h0 = .inr (11, [.ref ta, .ref ou, .ref di, .ref ck, .ref sl, .ref po, .ref hs, .ref le_62, .ref sp_63]) := (hB1.2.2.2 h0 (by rw [hT_h0]; simp)).trans hF_98
    generalize H1 = H at hP hS ⊢
    refine lv_aload_n hx hb dX11_feed_35 rfl (lv_at hl 0 rfl) ?_
    refine pg_get (ci := 11) (v := .ref ta) (C := RX11) (T := TX11) (N := 9) hx hb hts it_11 hown hK hP hL_h0 hF_102 rfl 0 (by decide) (hts _ kt_509) (fun _ h9 => h9) rfl dX11_feed_36 ?_
    refine lv_iload_n hx hb dX11_feed_39 rfl (lv_at hl 3 rfl) ?_
    have hFc := pg_free hD hS hA
    refine va_callv (va_runV (As := [.int x3]) (rest := []) ⟨hx, hb, hml, hown, hts⟩ (s_X0_addFour_x l dC dI cs ty L H.size F_100 ta (ρ + 1) r_2 3000 (zt + 8) x3 hW hi_1 ht_3 hq_101 (by omega)) ⟨callB_of 1 hts (gi kt_257) rfl rfl rfl (hts _ kt_1) (hts _ kt_510) (by decide +kernel) ⟨Nat.le_of_ble_eq_true rfl, Nat.le_of_ble_eq_true rfl⟩, (hts _ kt_259), (hts _ kt_260)⟩ ⟨fun a U g mk q => ⟨q.1, PT.calling q.2⟩, pg_recv hK hP hi_1 hq_101 (q := (RX0, TX0, 3)) rfl, fun U hU hWm => ⟨rfl, PT.mk hU hWm hP hK hD hE hO⟩⟩ rfl rfl hl.1 rfl (lv_room (Nat.le_of_ble_eq_true rfl)) dX11_feed_40 ⟨by show _ + 0 ≤ 0; omega, by show _ + 0 ≤ 0; omega⟩) hS (fun q _ h => hFc q h) hFc (fun u t H1 locs ht hvm hw hB hz1 hk1 hS => ?_)
    obtain ⟨F_104, hB1, hq_105⟩ := hB
    obtain ⟨hP, hD, hO, hR⟩ := QT.back hB1 ht hFc hR (fun q h => by simp only [List.mem_cons, List.not_mem_nil, or_false] at h ⊢; omega)
    have hF_106 : F_104 h0 = .inr (11, [.ref ta, .ref ou, .ref di, .ref ck, .ref sl, .ref po, .ref hs, .ref le_62, .ref sp_63]) := (hB1.2.2.2 h0 (by rw [hT_h0]; simp)).trans hF_102
    generalize H1 = H at hP hS ⊢
    refine lv_aload_n hx hb dX11_feed_43 rfl (lv_at hl 0 rfl) ?_
    refine pg_get (ci := 11) (v := .ref ta) (C := RX11) (T := TX11) (N := 9) hx hb hts it_11 hown hK hP hL_h0 hF_106 rfl 0 (by decide) (hts _ kt_509) (fun _ h9 => h9) rfl dX11_feed_44 ?_
    refine lv_iload hx hb dX11_feed_47 (lv_at hl 4 rfl) ?_
    have hFc := pg_free hD hS hA
    refine va_callv (va_runV (As := [.int x4]) (rest := []) ⟨hx, hb, hml, hown, hts⟩ (s_X0_addFour_x l dC dI cs ty L H.size F_104 ta (ρ + 1) r_2 3000 (zt + 12) x4 hW hi_1 ht_3 hq_105 (by omega)) ⟨callB_of 1 hts (gi kt_257) rfl rfl rfl (hts _ kt_1) (hts _ kt_510) (by decide +kernel) ⟨Nat.le_of_ble_eq_true rfl, Nat.le_of_ble_eq_true rfl⟩, (hts _ kt_259), (hts _ kt_260)⟩ ⟨fun a U g mk q => ⟨q.1, PT.calling q.2⟩, pg_recv hK hP hi_1 hq_105 (q := (RX0, TX0, 3)) rfl, fun U hU hWm => ⟨rfl, PT.mk hU hWm hP hK hD hE hO⟩⟩ rfl rfl hl.1 rfl (lv_room (Nat.le_of_ble_eq_true rfl)) dX11_feed_49 ⟨by show _ + 0 ≤ 0; omega, by show _ + 0 ≤ 0; omega⟩) hS (fun q _ h => hFc q h) hFc (fun u t H1 locs ht hvm hw hB hz1 hk1 hS => ?_)
    obtain ⟨F_108, hB1, hq_109⟩ := hB
    obtain ⟨hP, hD, hO, hR⟩ := QT.back hB1 ht hFc hR (fun q h => by simp only [List.mem_cons, List.not_mem_nil, or_false] at h ⊢; omega)
    have hF_110 : F_108 h0 = .inr (11, [.ref ta, .ref ou, .ref di, .ref ck, .ref sl, .ref po, .ref hs, .ref le_62, .ref sp_63]) := (hB1.2.2.2 h0 (by rw [hT_h0]; simp)).trans hF_106
    generalize H1 = H at hP hS ⊢
    refine lv_aload_n hx hb dX11_feed_52 rfl (lv_at hl 0 rfl) ?_
    refine pg_get (ci := 11) (v := .ref ta) (C := RX11) (T := TX11) (N := 9) hx hb hts it_11 hown hK hP hL_h0 hF_110 rfl 0 (by decide) (hts _ kt_509) (fun _ h9 => h9) rfl dX11_feed_53 ?_
    refine lv_iload hx hb dX11_feed_56 (lv_at hl 5 rfl) ?_
    have hFc := pg_free hD hS hA
    refine va_callv (va_runV (As := [.int x5]) (rest := []) ⟨hx, hb, hml, hown, hts⟩ (s_X0_addFour_x l dC dI cs ty L H.size F_108 ta (ρ + 1) r_2 3000 (zt + 16) x5 hW hi_1 ht_3 hq_109 (by omega)) ⟨callB_of 1 hts (gi kt_257) rfl rfl rfl (hts _ kt_1) (hts _ kt_510) (by decide +kernel) ⟨Nat.le_of_ble_eq_true rfl, Nat.le_of_ble_eq_true rfl⟩, (hts _ kt_259), (hts _ kt_260)⟩ ⟨fun a U g mk q => ⟨q.1, PT.calling q.2⟩, pg_recv hK hP hi_1 hq_109 (q := (RX0, TX0, 3)) rfl, fun U hU hWm => ⟨rfl, PT.mk hU hWm hP hK hD hE hO⟩⟩ rfl rfl hl.1 rfl (lv_room (Nat.le_of_ble_eq_true rfl)) dX11_feed_58 ⟨by show _ + 0 ≤ 0; omega, by show _ + 0 ≤ 0; omega⟩) hS (fun q _ h => hFc q h) hFc (fun u t H1 locs ht hvm hw hB hz1 hk1 hS => ?_)
    obtain ⟨F_112, hB1, hq_113⟩ := hB
    obtain ⟨hP, hD, hO, hR⟩ := QT.back hB1 ht hFc hR (fun q h => by simp only [List.mem_cons, List.not_mem_nil, or_false] at h ⊢; omega)
    have hF_114 : F_112 h0 = .inr (11, [.ref ta, .ref ou, .ref di, .ref ck, .ref sl, .ref po, .ref hs, .ref le_62, .ref sp_63]) := (hB1.2.2.2 h0 (by rw [hT_h0]; simp)).trans hF_110
    generalize H1 = H at hP hS ⊢
    refine lv_aload_n hx hb dX11_feed_61 rfl (lv_at hl 0 rfl) ?_
    refine pg_get (ci := 11) (v := .ref ta) (C := RX11) (T := TX11) (N := 9) hx hb hts it_11 hown hK hP hL_h0 hF_114 rfl 0 (by decide) (hts _ kt_509) (fun _ h9 => h9) rfl dX11_feed_62 ?_
    refine pg_getN (ci := 0) (v := .int (nI (zt + 20))) (C := RX0) (T := TX0) (N := 3) hx hb hts it_0 hown hK hP hi_1 hq_113 rfl 1 (by decide) (hE.nest kn_17) (fun _ h9 => h9) rfl dX11_feed_65 ?_
    refine W.widen (k := 0) (n := 0) (by omega) (by omega) ?_
    exact W.iret (v := (nI (zt + 20))) hx hb hr (fun t ht hWm => ⟨⟨(nI (zt + 20)), (), rfl, (by rw [if_pos hfit]), ⟨F_112, QT.mk ht hP hD hO hR, (by rw [if_pos hfit]; exact ⟨hfit, _, hq_113⟩)⟩⟩, hS.F ht⟩) hS.2.2 dX11_feed_68
  ·
    have hfit : ¬ zt + 20 ≤ 3000 := fun h => c_93 ((nI_leI (b := 3000) (by omega) (by omega)).mpr h)
    refine lv_bipush (v := (-3)) hx hb dX11_feed_16 (by decide) ?_
    refine W.widen (k := 0) (n := 0) (by omega) (by omega) ?_
    exact W.iret (v := (-3)) hx hb hr (fun t ht hWm => ⟨⟨(-3), (), rfl, (by rw [if_neg hfit]), ⟨F, QT.mk ht hP hD hO hR, (by rw [if_neg hfit]; exact ⟨hzt, _, hts_91⟩)⟩⟩, hS.F ht⟩) hS.2.2 dX11_feed_18
set_option maxHeartbeats 4000000 in
set_option maxRecDepth 100000 in
theorem s_X11_end (l : Launch) (dC : Nat → ClassId) (dI : Nat → Nat → Nat) (cs : Nat → ClassId) (ty : TyM) (L : List Nat) (sz : Nat) (F : Nat → va_E) (h0 : Nat) (ρ : Nat) (ta : Nat) (ou : Nat) (di : Nat) (ea : Nat) (ck : Nat) (sl : Nat) (po : Nat) (hs : Nat) (zt : Nat) (x1 : Int32) (hW : WT ty L) (hL_h0 : h0 ∈ L) (hT_h0 : ty h0 = (11, ρ, [ta, ou, di, ea, ck, sl, po, hs])) (hTS : TS F ta zt) : Met l yX11_end (.code yX11_end cX11_end 2 (some .int) :: tb) ({ frames := 1, cells := 0, slots := 0, locals := 21 }) (va_Pc [.ref h0, .int x1] (PT (dC, dI) cs ty L F sz)) (va_Qi (fun (r : Int32) (_ : Unit) => r = (if ¬ x1 < 0 ∧ ¬ nI zt < x1 then x1 else (-1))) (fun _ T9 => ∃ F2 : Nat → va_E, QT (dC, dI) cs ty L [ρ + 1] F F2 (va_A (va_pl L F) sz) T9 ∧ TS F2 ta (if ¬ x1 < 0 ∧ ¬ nI zt < x1 then x1.toNatClampNeg else zt)) (va_A (va_pl L F) sz)) 0 0 (va_A (va_pl L F) sz) := by
  refine Met.ofW (cc := cX11_end) (maxL := 2) (ret := (some .int)) (by decide) rfl ?_
  intro p e s m args below meth c s₁ B hml hv
  obtain ⟨rfl, hsz, hP, hK, hD0, hE, hO⟩ := hv
  have hx := B.exec
  have hb := B.bytes
  have hr := B.returns
  have hts : ∀ w ∈ tb, w.before _ s = true := fun w h => atoms_spec (ws := .code yX11_end cX11_end 2 (some .int) :: tb) B.pre w (List.mem_cons_of_mem _ h)
  have hown : s.vm.findClass RX11 = some m.cls := findClass_of_methodNamed B.named
  have hlocks := B.notSynchronized
  subst hsz
  have hD := hD0.self (sz := s.heap.size)
  generalize hAe : va_A (va_pl L F) s.heap.size = A at hD ⊢
  have hA : ∀ q : Nat, s.heap.size ≤ q → A q := fun q h => by rw [← hAe]; exact Or.inr h
  have hS : va_S A s.heap s.heap [] := va_S.rf
  have hR : FR ty [ρ + 1] F F := FR.refl
  have hl := lv_entry ([.ref h0, .int x1]) (n := 2) (Nat.le_of_ble_eq_true rfl)
  rw [lg_entry_eq]
  generalize (lg_sl ([.ref h0, .int x1]) ++ List.replicate (2 - (lg_sl ([.ref h0, .int x1])).length) Slot.unset).toArray = ls at hl ⊢
  have hl : lv_has ls 2 [(0, .ref h0), (1, .int x1)] := hl
  obtain ⟨hi_1, ⟨r_2, ht_3⟩, hi_4, ⟨r_5, ht_6⟩, hi_7, ht_8, hi_9, ⟨w0_10, w1_11, w2_12, w3_13, nm_14, te_15, ht_16⟩, hi_17, ⟨l1_18, lx_19, ly0_20, ly1_21, ly2_22, k1_23, kx_24, ky0_25, ky1_26, ky2_27, w0_28, w1_29, w2_30, w3_31, w4_32, w5_33, w6_34, w7_35, w8_36, tk_37, h1_38, hx_39, hy_40, hw_41, pw_42, px_43, py_44, pz_45, pu_46, ht_47⟩, hi_48, ⟨w0_49, w1_50, rc_51, rx_52, ry0_53, ry1_54, ry2_55, ht_56⟩, hi_57, ⟨hx_58, hy_59, hw_60, ht_61⟩⟩ := hW.gate hL_h0 hT_h0
  obtain ⟨le_62, sp_63, μ_64, ν_65, hF_66, hq_67, hq_68, hq_69, hq_70, hq_71, hq_72⟩ := hO.gate hL_h0 hT_h0
  obtain ⟨x_73, y0_74, y1_75, y2_76, ht_77⟩ := id hq_68
  obtain ⟨x_78, y0_79, y1_80, y2_81, ht_82⟩ := id hq_70
  obtain ⟨hi_83, ht_84, hq_85⟩ := hW.bytes hi_1 ht_3
  obtain ⟨z_86, o_87, hF_88, hq_89, hq_90⟩ := hO.bytes hi_1 ht_3
  have hts_91 := ts_of hF_88 hTS
  have hzt := (hTS).1
  refine lv_iload_n hx hb dX11_end_0 rfl (lv_at hl 1 rfl) ?_
  refine lv_if_lt (tgt := 15) hx hb dX11_end_1 (by decide) (fun c_92 => ?_) (fun c_92 => ?_)
  ·
    have hcN : ¬ (¬ x1 < 0 ∧ ¬ nI zt < x1) := fun h => h.1 c_92
    refine lv_iconst (v := (-1)) hx hb dX11_end_15 (by decide) ?_
    refine W.widen (k := 0) (n := 0) (by omega) (by omega) ?_
    exact W.iret (v := (-1)) hx hb hr (fun t ht hWm => ⟨⟨(-1), (), rfl, (by rw [if_neg hcN]), ⟨F, QT.mk ht hP hD hO hR, (by rw [if_neg hcN]; exact ⟨hzt, _, hts_91⟩)⟩⟩, hS.F ht⟩) hS.2.2 dX11_end_16
  ·
    refine lv_iload_n hx hb dX11_end_4 rfl (lv_at hl 1 rfl) ?_
    refine lv_aload_n hx hb dX11_end_5 rfl (lv_at hl 0 rfl) ?_
    refine pg_get (ci := 11) (v := .ref ta) (C := RX11) (T := TX11) (N := 9) hx hb hts it_11 hown hK hP hL_h0 hF_66 rfl 0 (by decide) (hts _ kt_509) (fun _ h9 => h9) rfl dX11_end_6 ?_
    refine pg_getN (ci := 0) (v := .int (nI zt)) (C := RX0) (T := TX0) (N := 3) hx hb hts it_0 hown hK hP hi_1 hts_91 rfl 1 (by decide) (hE.nest kn_17) (fun _ h9 => h9) rfl dX11_end_9 ?_
    refine lv_icmp_le (tgt := 17) hx hb dX11_end_12 (by decide) (fun c_93 => ?_) (fun c_93 => ?_)
    ·
      have hcE : ¬ x1 < 0 ∧ ¬ nI zt < x1 := ⟨c_92, Int32.not_lt.mpr c_93⟩
      obtain ⟨k, hk, rfl⟩ := nI_of c_92
      have hkz : k ≤ zt := (nI_leI hk (by omega)).mp c_93
      refine lv_aload_n hx hb dX11_end_17 rfl (lv_at hl 0 rfl) ?_
      refine pg_get (ci := 11) (v := .ref ta) (C := RX11) (T := TX11) (N := 9) hx hb hts it_11 hown hK hP hL_h0 hF_66 rfl 0 (by decide) (hts _ kt_509) (fun _ h9 => h9) rfl dX11_end_18 ?_
      refine lv_iload_n hx hb dX11_end_21 rfl (lv_at hl 1 rfl) ?_
      have hFc := pg_free hD hS hA
      refine va_callv (va_runV (As := [.int (nI k)]) (rest := []) ⟨hx, hb, hml, hown, hts⟩ (s_X0_cut_x l dC dI cs ty L s.heap.size F ta (ρ + 1) r_2 3000 zt k hW hi_1 ht_3 hts_91 (hkz) (by omega) (by omega)) ⟨callB_of 1 hts (gi kt_236) rfl rfl rfl (hts _ kt_1) (hts _ kt_511) (by decide +kernel) ⟨Nat.le_of_ble_eq_true rfl, Nat.le_of_ble_eq_true rfl⟩, (hts _ kt_238), (hts _ kt_239)⟩ ⟨fun a U g mk q => ⟨q.1, PT.calling q.2⟩, pg_recv hK hP hi_1 hts_91 (q := (RX0, TX0, 3)) rfl, fun U hU hWm => ⟨rfl, PT.mk hU hWm hP hK hD hE hO⟩⟩ rfl rfl hl.1 rfl (lv_room (Nat.le_of_ble_eq_true rfl)) dX11_end_22 ⟨by show _ + 0 ≤ 0; omega, by show _ + 0 ≤ 0; omega⟩) hS (fun q _ h => hFc q h) hFc (fun u t H1 locs ht hvm hw hB hz1 hk1 hS => ?_)
      obtain ⟨F_95, hB1, hq_96⟩ := hB
      obtain ⟨hP, hD, hO, hR⟩ := QT.back hB1 ht hFc hR (fun q h => by simp only [List.mem_cons, List.not_mem_nil, or_false] at h ⊢; omega)
      have hF_97 : F_95 h0 = .inr (11, [.ref ta, .ref ou, .ref di, .ref ck, .ref sl, .ref po, .ref hs, .ref le_62, .ref sp_63]) := (hB1.2.2.2 h0 (by rw [hT_h0]; simp)).trans hF_66
      generalize H1 = H at hP hS ⊢
      refine lv_iload_n hx hb dX11_end_25 rfl (lv_at hl 1 rfl) ?_
      refine W.widen (k := 0) (n := 0) (by omega) (by omega) ?_
      exact W.iret (v := (nI k)) hx hb hr (fun t ht hWm => ⟨⟨(nI k), (), rfl, (by rw [if_pos hcE]), ⟨F_95, QT.mk ht hP hD hO hR, (by rw [if_pos hcE, nI_clamp hk]; exact ⟨Nat.le_trans hkz hzt, _, hq_96⟩)⟩⟩, hS.F ht⟩) hS.2.2 dX11_end_26
    ·
      have hcN : ¬ (¬ x1 < 0 ∧ ¬ nI zt < x1) := fun h => h.2 (Int32.not_le.mp c_93)
      refine lv_iconst (v := (-1)) hx hb dX11_end_15 (by decide) ?_
      refine W.widen (k := 0) (n := 0) (by omega) (by omega) ?_
      exact W.iret (v := (-1)) hx hb hr (fun t ht hWm => ⟨⟨(-1), (), rfl, (by rw [if_neg hcN]), ⟨F, QT.mk ht hP hD hO hR, (by rw [if_neg hcN]; exact ⟨hzt, _, hts_91⟩)⟩⟩, hS.F ht⟩) hS.2.2 dX11_end_16
set_option maxHeartbeats 4000000 in
set_option maxRecDepth 100000 in
theorem s_X11_forget (l : Launch) (dC : Nat → ClassId) (dI : Nat → Nat → Nat) (cs : Nat → ClassId) (ty : TyM) (L : List Nat) (sz : Nat) (F : Nat → va_E) (h0 : Nat) (ρ : Nat) (ta : Nat) (ou : Nat) (di : Nat) (ea : Nat) (ck : Nat) (sl : Nat) (po : Nat) (hs : Nat) (zt : Nat) (hW : WT ty L) (hL_h0 : h0 ∈ L) (hT_h0 : ty h0 = (11, ρ, [ta, ou, di, ea, ck, sl, po, hs])) (hTS : TS F ta zt) : Met l yX11_forget (.code yX11_forget cX11_forget 1 (some .int) :: tb) ({ frames := 1, cells := 0, slots := 0, locals := 21 }) (va_Pc [.ref h0] (PT (dC, dI) cs ty L F sz)) (va_Qi (fun (r : Int32) (_ : Unit) => True) (fun _ T9 => ∃ F2 : Nat → va_E, QT (dC, dI) cs ty L [ρ + 3] F F2 (va_A (va_pl L F) sz) T9 ∧ TS F2 ta (zt)) (va_A (va_pl L F) sz)) 0 0 (va_A (va_pl L F) sz) := by
  refine Met.ofW (cc := cX11_forget) (maxL := 1) (ret := (some .int)) (by decide) rfl ?_
  intro p e s m args below meth c s₁ B hml hv
  obtain ⟨rfl, hsz, hP, hK, hD0, hE, hO⟩ := hv
  have hx := B.exec
  have hb := B.bytes
  have hr := B.returns
  have hts : ∀ w ∈ tb, w.before _ s = true := fun w h => atoms_spec (ws := .code yX11_forget cX11_forget 1 (some .int) :: tb) B.pre w (List.mem_cons_of_mem _ h)
  have hown : s.vm.findClass RX11 = some m.cls := findClass_of_methodNamed B.named
  have hlocks := B.notSynchronized
  subst hsz
  have hD := hD0.self (sz := s.heap.size)
  generalize hAe : va_A (va_pl L F) s.heap.size = A at hD ⊢
  have hA : ∀ q : Nat, s.heap.size ≤ q → A q := fun q h => by rw [← hAe]; exact Or.inr h
  have hS : va_S A s.heap s.heap [] := va_S.rf
  have hR : FR ty [ρ + 3] F F := FR.refl
  have hl := lv_entry ([.ref h0]) (n := 1) (Nat.le_of_ble_eq_true rfl)
  rw [lg_entry_eq]
  generalize (lg_sl ([.ref h0]) ++ List.replicate (1 - (lg_sl ([.ref h0])).length) Slot.unset).toArray = ls at hl ⊢
  have hl : lv_has ls 1 [(0, .ref h0)] := hl
  obtain ⟨hi_1, ⟨r_2, ht_3⟩, hi_4, ⟨r_5, ht_6⟩, hi_7, ht_8, hi_9, ⟨w0_10, w1_11, w2_12, w3_13, nm_14, te_15, ht_16⟩, hi_17, ⟨l1_18, lx_19, ly0_20, ly1_21, ly2_22, k1_23, kx_24, ky0_25, ky1_26, ky2_27, w0_28, w1_29, w2_30, w3_31, w4_32, w5_33, w6_34, w7_35, w8_36, tk_37, h1_38, hx_39, hy_40, hw_41, pw_42, px_43, py_44, pz_45, pu_46, ht_47⟩, hi_48, ⟨w0_49, w1_50, rc_51, rx_52, ry0_53, ry1_54, ry2_55, ht_56⟩, hi_57, ⟨hx_58, hy_59, hw_60, ht_61⟩⟩ := hW.gate hL_h0 hT_h0
  obtain ⟨le_62, sp_63, μ_64, ν_65, hF_66, hq_67, hq_68, hq_69, hq_70, hq_71, hq_72⟩ := hO.gate hL_h0 hT_h0
  obtain ⟨x_73, y0_74, y1_75, y2_76, ht_77⟩ := id hq_68
  obtain ⟨x_78, y0_79, y1_80, y2_81, ht_82⟩ := id hq_70
  obtain ⟨hi_83, ht_84, hq_85⟩ := hW.bytes hi_1 ht_3
  obtain ⟨z_86, o_87, hF_88, hq_89, hq_90⟩ := hO.bytes hi_1 ht_3
  have hts_91 := ts_of hF_88 hTS
  have hzt := (hTS).1
  refine lv_aload_n hx hb dX11_forget_0 rfl (lv_at hl 0 rfl) ?_
  refine pg_get (ci := 11) (v := .ref di) (C := RX11) (T := TX11) (N := 9) hx hb hts it_11 hown hK hP hL_h0 hF_66 rfl 2 (by decide) (hts _ kt_512) (fun _ h9 => h9) rfl dX11_forget_1 ?_
  have hFc := pg_free hD hS hA
  obtain ⟨hi_92, ht_93⟩ := hW.dir hi_7 ht_8
  obtain ⟨z_94, hF_95, hq_96⟩ := hO.dir hi_7 ht_8
  refine va_calli (va_runV (As := []) (rest := []) ⟨hx, hb, hml, hown, hts⟩ (s_X2_clear l dC dI cs ty L s.heap.size F di (ρ + 3) ea hW hi_7 ht_8) ⟨callB_of 0 hts (gi kt_513) rfl rfl rfl (hts _ kt_103) (hts _ kt_514) (by decide +kernel) ⟨Nat.le_of_ble_eq_true rfl, Nat.le_of_ble_eq_true rfl⟩, (hts _ kt_515), (hts _ kt_516)⟩ ⟨fun a U g mk q => ⟨q.1, PT.calling q.2⟩, pg_recv hK hP hi_7 hF_95 (q := (RX2, TX2, 2)) rfl, fun U hU hWm => ⟨rfl, PT.mk hU hWm hP hK hD hE hO⟩⟩ rfl rfl hl.1 rfl (lv_room (Nat.le_of_ble_eq_true rfl)) dX11_forget_4 ⟨by show _ + 0 ≤ 0; omega, by show _ + 0 ≤ 0; omega⟩) hS (fun q _ h => hFc q h) hFc (fun r_97 u t H1 locs ht hvm hw hB hz1 hk1 hS => ?_)
  obtain ⟨F_98, hB1⟩ := hB
  obtain ⟨hP, hD, hO, hR⟩ := QT.back hB1 ht hFc hR (fun q h => by simp only [List.mem_cons, List.not_mem_nil, or_false] at h ⊢; omega)
  have hF_99 : F_98 h0 = .inr (11, [.ref ta, .ref ou, .ref di, .ref ck, .ref sl, .ref po, .ref hs, .ref le_62, .ref sp_63]) := (hB1.2.2.2 h0 (by rw [hT_h0]; simp)).trans hF_66
  have hF_100 : F_98 ta = .inr (0, [.ref r_2, .int (nI zt), .int 0]) := (hB1.2.2.2 ta (by rw [ht_3]; simp)).trans hts_91
  generalize H1 = H at hP hS ⊢
  have hw : True := hw
  have hw_101 := hw
  refine W.widen (k := 0) (n := 0) (by omega) (by omega) ?_
  exact W.iret (v := r_97) hx hb hr (fun t ht hWm => ⟨⟨r_97, (), rfl, trivial, ⟨F_98, QT.mk ht hP hD hO hR, ⟨hzt, _, hF_100⟩⟩⟩, hS.F ht⟩) hS.2.2 dX11_forget_7
set_option maxHeartbeats 4000000 in
set_option maxRecDepth 100000 in
theorem s_X11_cost (l : Launch) (dC : Nat → ClassId) (dI : Nat → Nat → Nat) (cs : Nat → ClassId) (ty : TyM) (L : List Nat) (sz : Nat) (F : Nat → va_E) (h0 : Nat) (ρ : Nat) (ta : Nat) (ou : Nat) (di : Nat) (ea : Nat) (ck : Nat) (sl : Nat) (po : Nat) (hs : Nat) (zt : Nat) (x1 : Int32) (hW : WT ty L) (hL_h0 : h0 ∈ L) (hT_h0 : ty h0 = (11, ρ, [ta, ou, di, ea, ck, sl, po, hs])) (hTS : TS F ta zt) : Met l yX11_cost (.code yX11_cost cX11_cost 2 (some .int) :: tb) ({ frames := 0, cells := 0, slots := 0, locals := 0 }) (va_Pc [.ref h0, .int x1] (PT (dC, dI) cs ty L F sz)) (va_Qi (fun (r : Int32) (_ : Unit) => True) (fun _ T9 => ∃ F2 : Nat → va_E, QT (dC, dI) cs ty L [] F F2 (va_A (va_pl L F) sz) T9 ∧ TS F2 ta (zt)) (va_A (va_pl L F) sz)) 0 0 (va_A (va_pl L F) sz) := by
  refine Met.ofW (cc := cX11_cost) (maxL := 2) (ret := (some .int)) (by decide) rfl ?_
  intro p e s m args below meth c s₁ B hml hv
  obtain ⟨rfl, hsz, hP, hK, hD0, hE, hO⟩ := hv
  have hx := B.exec
  have hb := B.bytes
  have hr := B.returns
  have hts : ∀ w ∈ tb, w.before _ s = true := fun w h => atoms_spec (ws := .code yX11_cost cX11_cost 2 (some .int) :: tb) B.pre w (List.mem_cons_of_mem _ h)
  have hown : s.vm.findClass RX11 = some m.cls := findClass_of_methodNamed B.named
  have hlocks := B.notSynchronized
  subst hsz
  have hD := hD0.self (sz := s.heap.size)
  generalize hAe : va_A (va_pl L F) s.heap.size = A at hD ⊢
  have hA : ∀ q : Nat, s.heap.size ≤ q → A q := fun q h => by rw [← hAe]; exact Or.inr h
  have hS : va_S A s.heap s.heap [] := va_S.rf
  have hR : FR ty [] F F := FR.refl
  have hl := lv_entry ([.ref h0, .int x1]) (n := 2) (Nat.le_of_ble_eq_true rfl)
  rw [lg_entry_eq]
  generalize (lg_sl ([.ref h0, .int x1]) ++ List.replicate (2 - (lg_sl ([.ref h0, .int x1])).length) Slot.unset).toArray = ls at hl ⊢
  have hl : lv_has ls 2 [(0, .ref h0), (1, .int x1)] := hl
  obtain ⟨hi_1, ⟨r_2, ht_3⟩, hi_4, ⟨r_5, ht_6⟩, hi_7, ht_8, hi_9, ⟨w0_10, w1_11, w2_12, w3_13, nm_14, te_15, ht_16⟩, hi_17, ⟨l1_18, lx_19, ly0_20, ly1_21, ly2_22, k1_23, kx_24, ky0_25, ky1_26, ky2_27, w0_28, w1_29, w2_30, w3_31, w4_32, w5_33, w6_34, w7_35, w8_36, tk_37, h1_38, hx_39, hy_40, hw_41, pw_42, px_43, py_44, pz_45, pu_46, ht_47⟩, hi_48, ⟨w0_49, w1_50, rc_51, rx_52, ry0_53, ry1_54, ry2_55, ht_56⟩, hi_57, ⟨hx_58, hy_59, hw_60, ht_61⟩⟩ := hW.gate hL_h0 hT_h0
  obtain ⟨le_62, sp_63, μ_64, ν_65, hF_66, hq_67, hq_68, hq_69, hq_70, hq_71, hq_72⟩ := hO.gate hL_h0 hT_h0
  obtain ⟨x_73, y0_74, y1_75, y2_76, ht_77⟩ := id hq_68
  obtain ⟨x_78, y0_79, y1_80, y2_81, ht_82⟩ := id hq_70
  obtain ⟨hi_83, ht_84, hq_85⟩ := hW.bytes hi_1 ht_3
  obtain ⟨z_86, o_87, hF_88, hq_89, hq_90⟩ := hO.bytes hi_1 ht_3
  have hts_91 := ts_of hF_88 hTS
  have hzt := (hTS).1
  refine lv_iload_n hx hb dX11_cost_0 rfl (lv_at hl 1 rfl) ?_
  by_cases c_92 : x1 = 0
  ·
    refine lv_lookup (off := 27) (tgt := 28) hx hb dX11_cost_1 (by decide) (by rw [c_92]; decide) (by decide) ?_
    refine lv_aload_n hx hb dX11_cost_28 rfl (lv_at hl 0 rfl) ?_
    refine pg_get (ci := 11) (v := .ref ck) (C := RX11) (T := TX11) (N := 9) hx hb hts it_11 hown hK hP hL_h0 hF_66 rfl 3 (by decide) (hts _ kt_517) (fun _ h9 => h9) rfl dX11_cost_29 ?_
    obtain ⟨hi_93, ht_94, hi_95, ⟨r_96, ht_97⟩, hi_98, ⟨r_99, ht_100⟩, hi_101, ⟨r_102, ht_103⟩, hi_104, ⟨r_105, ht_106⟩, hi_107, ht_108, hi_109, ht_110⟩ := hW.chk hi_9 ht_16
    have ht_97 : ty w0_10 = (0, ρ + 36, [r_96, 91]) := ht_97
    have ht_100 : ty w1_11 = (0, ρ + 37, [r_99, 30]) := ht_100
    have ht_103 : ty w2_12 = (0, ρ + 38, [r_102, 60]) := ht_103
    have ht_106 : ty w3_13 = (0, ρ + 39, [r_105, 15]) := ht_106
    have ht_108 : ty nm_14 = (20, ρ + 40, [12]) := ht_108
    have ht_110 : ty te_15 = (22, ρ + 41, [11]) := ht_110
    obtain ⟨v0_111, v1_112, v2_113, v3_114, hF_115⟩ := hO.chk hi_9 ht_16
    refine pg_getN (ci := 1) (v := .int v2_113) (C := RX1) (T := TX1) (N := 11) hx hb hts it_1 hown hK hP hi_9 hF_115 rfl 9 (by decide) (hE.nest kn_18) (fun _ h9 => h9) rfl dX11_cost_32 ?_
    refine W.widen (k := 0) (n := 0) (by omega) (by omega) ?_
    exact W.iret (v := v2_113) hx hb hr (fun t ht hWm => ⟨⟨v2_113, (), rfl, trivial, ⟨F, QT.mk ht hP hD hO hR, ⟨hzt, _, hts_91⟩⟩⟩, hS.F ht⟩) hS.2.2 dX11_cost_35
  ·
    by_cases c_116 : x1 = 1
    ·
      refine lv_lookup (off := 35) (tgt := 36) hx hb dX11_cost_1 (by decide) (by rw [c_116]; decide) (by decide) ?_
      refine lv_aload_n hx hb dX11_cost_36 rfl (lv_at hl 0 rfl) ?_
      refine pg_get (ci := 11) (v := .ref ck) (C := RX11) (T := TX11) (N := 9) hx hb hts it_11 hown hK hP hL_h0 hF_66 rfl 3 (by decide) (hts _ kt_517) (fun _ h9 => h9) rfl dX11_cost_37 ?_
      obtain ⟨hi_117, ht_118, hi_119, ⟨r_120, ht_121⟩, hi_122, ⟨r_123, ht_124⟩, hi_125, ⟨r_126, ht_127⟩, hi_128, ⟨r_129, ht_130⟩, hi_131, ht_132, hi_133, ht_134⟩ := hW.chk hi_9 ht_16
      have ht_121 : ty w0_10 = (0, ρ + 36, [r_120, 91]) := ht_121
      have ht_124 : ty w1_11 = (0, ρ + 37, [r_123, 30]) := ht_124
      have ht_127 : ty w2_12 = (0, ρ + 38, [r_126, 60]) := ht_127
      have ht_130 : ty w3_13 = (0, ρ + 39, [r_129, 15]) := ht_130
      have ht_132 : ty nm_14 = (20, ρ + 40, [12]) := ht_132
      have ht_134 : ty te_15 = (22, ρ + 41, [11]) := ht_134
      obtain ⟨v0_135, v1_136, v2_137, v3_138, hF_139⟩ := hO.chk hi_9 ht_16
      refine pg_getN (ci := 1) (v := .int v3_138) (C := RX1) (T := TX1) (N := 11) hx hb hts it_1 hown hK hP hi_9 hF_139 rfl 10 (by decide) (hE.nest kn_19) (fun _ h9 => h9) rfl dX11_cost_40 ?_
      refine W.widen (k := 0) (n := 0) (by omega) (by omega) ?_
      exact W.iret (v := v3_138) hx hb hr (fun t ht hWm => ⟨⟨v3_138, (), rfl, trivial, ⟨F, QT.mk ht hP hD hO hR, ⟨hzt, _, hts_91⟩⟩⟩, hS.F ht⟩) hS.2.2 dX11_cost_43
    ·
      refine lv_lookup (off := 43) (tgt := 44) hx hb dX11_cost_1 (by decide) (lk2 _ _ _ _ _ (fun h => c_92 (Int32.toInt_inj.mp h)) (fun h => c_116 (Int32.toInt_inj.mp h))) (by decide) ?_
      refine lv_iconst (v := (-1)) hx hb dX11_cost_44 (by decide) ?_
      refine W.widen (k := 0) (n := 0) (by omega) (by omega) ?_
      exact W.iret (v := (-1)) hx hb hr (fun t ht hWm => ⟨⟨(-1), (), rfl, trivial, ⟨F, QT.mk ht hP hD hO hR, ⟨hzt, _, hts_91⟩⟩⟩, hS.F ht⟩) hS.2.2 dX11_cost_45
set_option maxHeartbeats 4000000 in
set_option maxRecDepth 100000 in
theorem s_X11_seals (l : Launch) (dC : Nat → ClassId) (dI : Nat → Nat → Nat) (cs : Nat → ClassId) (ty : TyM) (L : List Nat) (sz : Nat) (F : Nat → va_E) (h0 : Nat) (ρ : Nat) (ta : Nat) (ou : Nat) (di : Nat) (ea : Nat) (ck : Nat) (sl : Nat) (po : Nat) (hs : Nat) (zt : Nat) (hW : WT ty L) (hL_h0 : h0 ∈ L) (hT_h0 : ty h0 = (11, ρ, [ta, ou, di, ea, ck, sl, po, hs])) (hTS : TS F ta zt) : Met l yX11_seals (.code yX11_seals cX11_seals 1 (some .int) :: tb) ({ frames := 6, cells := 0, slots := 0, locals := 131 }) (va_Pc [.ref h0] (PTE (dC, dI) cs ty L F sz [])) (va_Qi (fun (r : Int32) (_ : Unit) => True) (fun _ T9 => ∃ F2 : Nat → va_E, QT (dC, dI) cs ty L [] F F2 (va_A (va_pl L F) sz) T9 ∧ TS F2 ta (zt)) (va_A (va_pl L F) sz)) 0 0 (va_A (va_pl L F) sz) := by
  refine Met.ofW (cc := cX11_seals) (maxL := 1) (ret := (some .int)) (by decide) rfl ?_
  intro p e s m args below meth c s₁ B hml hv
  obtain ⟨rfl, ⟨hsz, hP, hK, hD0, hE, hO⟩, hG, hX⟩ := hv
  have hx := B.exec
  have hb := B.bytes
  have hr := B.returns
  have hts : ∀ w ∈ tb, w.before _ s = true := fun w h => atoms_spec (ws := .code yX11_seals cX11_seals 1 (some .int) :: tb) B.pre w (List.mem_cons_of_mem _ h)
  have hown : s.vm.findClass RX11 = some m.cls := findClass_of_methodNamed B.named
  have hlocks := B.notSynchronized
  subst hsz
  have hD := hD0.self (sz := s.heap.size)
  generalize hAe : va_A (va_pl L F) s.heap.size = A at hD hG hX ⊢
  have hA : ∀ q : Nat, s.heap.size ≤ q → A q := fun q h => by rw [← hAe]; exact Or.inr h
  have hS : va_S A s.heap s.heap [] := va_S.rf
  have hR : FR ty [] F F := FR.refl
  have hl := lv_entry ([.ref h0]) (n := 1) (Nat.le_of_ble_eq_true rfl)
  rw [lg_entry_eq]
  generalize (lg_sl ([.ref h0]) ++ List.replicate (1 - (lg_sl ([.ref h0])).length) Slot.unset).toArray = ls at hl ⊢
  have hl : lv_has ls 1 [(0, .ref h0)] := hl
  obtain ⟨hi_1, ⟨r_2, ht_3⟩, hi_4, ⟨r_5, ht_6⟩, hi_7, ht_8, hi_9, ⟨w0_10, w1_11, w2_12, w3_13, nm_14, te_15, ht_16⟩, hi_17, ⟨l1_18, lx_19, ly0_20, ly1_21, ly2_22, k1_23, kx_24, ky0_25, ky1_26, ky2_27, w0_28, w1_29, w2_30, w3_31, w4_32, w5_33, w6_34, w7_35, w8_36, tk_37, h1_38, hx_39, hy_40, hw_41, pw_42, px_43, py_44, pz_45, pu_46, ht_47⟩, hi_48, ⟨w0_49, w1_50, rc_51, rx_52, ry0_53, ry1_54, ry2_55, ht_56⟩, hi_57, ⟨hx_58, hy_59, hw_60, ht_61⟩⟩ := hW.gate hL_h0 hT_h0
  obtain ⟨le_62, sp_63, μ_64, ν_65, hF_66, hq_67, hq_68, hq_69, hq_70, hq_71, hq_72⟩ := hO.gate hL_h0 hT_h0
  obtain ⟨x_73, y0_74, y1_75, y2_76, ht_77⟩ := id hq_68
  obtain ⟨x_78, y0_79, y1_80, y2_81, ht_82⟩ := id hq_70
  obtain ⟨hi_83, ht_84, hq_85⟩ := hW.bytes hi_1 ht_3
  obtain ⟨z_86, o_87, hF_88, hq_89, hq_90⟩ := hO.bytes hi_1 ht_3
  have hts_91 := ts_of hF_88 hTS
  have hzt := (hTS).1
  refine lv_aload_n hx hb dX11_seals_0 rfl (lv_at hl 0 rfl) ?_
  refine pg_get (ci := 11) (v := .ref le_62) (C := RX11) (T := TX11) (N := 9) hx hb hts it_11 hown hK hP hL_h0 hF_66 rfl 7 (by decide) (hts _ kt_518) (fun _ h9 => h9) rfl dX11_seals_1 ?_
  obtain ⟨q_92, v_93, hr_q_92, hXc_q_92⟩ := hG.2.2.2.2 ("PostGate", 112, "dkim-signature", [100, 107, 105, 109, 45, 115, 105, 103, 110, 97, 116, 117, 114, 101]) (by decide +kernel)
  have hXc_q_92 : SXc q_92 v_93 14 (cct [100, 107, 105, 109, 45, 115, 105, 103, 110, 97, 116, 117, 114, 101]) A s s.heap := hXc_q_92
  have hX_q_92 : SX q_92 v_93 14 A s s.heap := hXc_q_92.sx
  obtain ⟨xo_q_92, xc_q_92, xv_q_92, xt_q_92, xn_q_92⟩ := id hXc_q_92
  have hr_q_92 : vk_R "PostGate" 112 "dkim-signature" q_92 s := hr_q_92
  refine va_ldcS hx hb hown hr_q_92 dX11_seals_4 ?_
  have hFc := pg_free hD hS hA
  obtain ⟨hi_94, hi_95, hi_96, hi_97, ⟨r_98, ht_99⟩, ht_100, ht_101, ht_102⟩ := hW.msg hq_67 ht_77
  obtain ⟨z_103, v0_104, hF_105, hq_106⟩ := hO.msg hq_67 ht_77
  refine va_calli (va_runV (As := [.ref q_92]) (rest := []) ⟨hx, hb, hml, hown, hts⟩ (s_X4_countOf l dC dI cs ty L s.heap.size F le_62 μ_64 x_73 y0_74 y1_75 y2_76 q_92 v_93 14 hW hq_67 ht_77) ⟨callB_of 1 hts (gi kt_432) rfl rfl rfl (hts _ kt_211) (hts _ kt_519) (by decide +kernel) ⟨Nat.le_of_ble_eq_true rfl, Nat.le_of_ble_eq_true rfl⟩, (hts _ kt_434), (hts _ kt_435)⟩ ⟨fun a U g mk q => ⟨q.1, PTE.calling q.2⟩, pg_recv hK hP hq_67 hF_105 (q := (RX4, TX4, 6)) rfl, fun U hU hWm => ⟨rfl, PTE.mk hU hWm hP hK hD hE hO hG (fun x hx => by rw [List.mem_singleton] at hx; subst hx; exact hX_q_92) hS hFc⟩⟩ rfl rfl hl.1 rfl (lv_room (Nat.le_of_ble_eq_true rfl)) dX11_seals_6 ⟨by show _ + 0 ≤ 0; omega, by show _ + 0 ≤ 0; omega⟩) hS (fun q _ h => hFc q h) hFc (fun r_107 u t H1 locs ht hvm hw hB hz1 hk1 hS => ?_)
  obtain ⟨F_108, hB1⟩ := hB
  obtain rfl : F = F_108 := (funext (fun a => hB1.2.2.2 a List.not_mem_nil)).symm
  obtain ⟨hP, hD, hO, hR⟩ := QT.back hB1 ht hFc hR (fun q h => absurd h List.not_mem_nil)
  generalize H1 = H at hP hS ⊢
  have hw : True := hw
  have hw_109 := hw
  refine W.widen (k := 0) (n := 0) (by omega) (by omega) ?_
  exact W.iret (v := r_107) hx hb hr (fun t ht hWm => ⟨⟨r_107, (), rfl, trivial, ⟨F, QT.mk ht hP hD hO hR, ⟨hzt, _, hts_91⟩⟩⟩, hS.F ht⟩) hS.2.2 dX11_seals_9
