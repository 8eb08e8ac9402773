theorem dX11_permission_0 : decode cX11_permission 0 = .ok (.aload_n 0, 1) := by decide +kernel
theorem dX11_permission_1 : decode cX11_permission 1 = .ok (.getfield 33, 3) := by decide +kernel
theorem dX11_permission_4 : decode cX11_permission 4 = .ok (.getfield 92, 3) := by decide +kernel
theorem dX11_permission_7 : decode cX11_permission 7 = .ok (.ifCond .eq 13, 3) := by decide +kernel
theorem dX11_permission_10 : decode cX11_permission 10 = .ok (.aload_n 0, 1) := by decide +kernel
theorem dX11_permission_11 : decode cX11_permission 11 = .ok (.getfield 33, 3) := by decide +kernel
theorem dX11_permission_14 : decode cX11_permission 14 = .ok (.invokevirtual 96, 3) := by decide +kernel
theorem dX11_permission_17 : decode cX11_permission 17 = .ok (.goto 4, 3) := by decide +kernel
theorem dX11_permission_20 : decode cX11_permission 20 = .ok (.iconst (-1), 1) := by decide +kernel
theorem dX11_permission_21 : decode cX11_permission 21 = .ok (.ireturn, 1) := by decide +kernel
theorem dX11_sender_0 : decode cX11_sender 0 = .ok (.aload_n 0, 1) := by decide +kernel
theorem dX11_sender_1 : decode cX11_sender 1 = .ok (.getfield 33, 3) := by decide +kernel
theorem dX11_sender_4 : decode cX11_sender 4 = .ok (.iload_n 1, 1) := by decide +kernel
theorem dX11_sender_5 : decode cX11_sender 5 = .ok (.aload_n 0, 1) := by decide +kernel
theorem dX11_sender_6 : decode cX11_sender 6 = .ok (.getfield 14, 3) := by decide +kernel
theorem dX11_sender_9 : decode cX11_sender 9 = .ok (.invokevirtual 88, 3) := by decide +kernel
theorem dX11_sender_12 : decode cX11_sender 12 = .ok (.istore_n 2, 1) := by decide +kernel
theorem dX11_sender_13 : decode cX11_sender 13 = .ok (.aload_n 0, 1) := by decide +kernel
theorem dX11_sender_14 : decode cX11_sender 14 = .ok (.getfield 14, 3) := by decide +kernel
theorem dX11_sender_17 : decode cX11_sender 17 = .ok (.invokevirtual 82, 3) := by decide +kernel
theorem dX11_sender_20 : decode cX11_sender 20 = .ok (.iload_n 2, 1) := by decide +kernel
theorem dX11_sender_21 : decode cX11_sender 21 = .ok (.ifCond .eq 7, 3) := by decide +kernel
theorem dX11_sender_24 : decode cX11_sender 24 = .ok (.iconst 0, 1) := by decide +kernel
theorem dX11_sender_25 : decode cX11_sender 25 = .ok (.goto 4, 3) := by decide +kernel
theorem dX11_sender_28 : decode cX11_sender 28 = .ok (.iconst (-1), 1) := by decide +kernel
theorem dX11_sender_29 : decode cX11_sender 29 = .ok (.ireturn, 1) := by decide +kernel
theorem dX11_wish_0 : decode cX11_wish 0 = .ok (.aload_n 0, 1) := by decide +kernel
theorem dX11_wish_1 : decode cX11_wish 1 = .ok (.getfield 33, 3) := by decide +kernel
theorem dX11_wish_4 : decode cX11_wish 4 = .ok (.getfield 92, 3) := by decide +kernel
theorem dX11_wish_7 : decode cX11_wish 7 = .ok (.ifCond .eq 7, 3) := by decide +kernel
theorem dX11_wish_10 : decode cX11_wish 10 = .ok (.iload_n 1, 1) := by decide +kernel
theorem dX11_wish_11 : decode cX11_wish 11 = .ok (.ifCond .ge 5, 3) := by decide +kernel
theorem dX11_wish_14 : decode cX11_wish 14 = .ok (.iconst (-1), 1) := by decide +kernel
theorem dX11_wish_15 : decode cX11_wish 15 = .ok (.ireturn, 1) := by decide +kernel
theorem dX11_wish_16 : decode cX11_wish 16 = .ok (.aload_n 0, 1) := by decide +kernel
theorem dX11_wish_17 : decode cX11_wish 17 = .ok (.getfield 61, 3) := by decide +kernel
theorem dX11_wish_20 : decode cX11_wish 20 = .ok (.getfield 109, 3) := by decide +kernel
theorem dX11_wish_23 : decode cX11_wish 23 = .ok (.ifCond .ne 6, 3) := by decide +kernel
theorem dX11_wish_26 : decode cX11_wish 26 = .ok (.bipush (-2), 2) := by decide +kernel
theorem dX11_wish_28 : decode cX11_wish 28 = .ok (.ireturn, 1) := by decide +kernel
theorem dX11_wish_29 : decode cX11_wish 29 = .ok (.aload_n 0, 1) := by decide +kernel
theorem dX11_wish_30 : decode cX11_wish 30 = .ok (.getfield 47, 3) := by decide +kernel
theorem dX11_wish_33 : decode cX11_wish 33 = .ok (.aload_n 0, 1) := by decide +kernel
theorem dX11_wish_34 : decode cX11_wish 34 = .ok (.getfield 61, 3) := by decide +kernel
theorem dX11_wish_37 : decode cX11_wish 37 = .ok (.invokevirtual 145, 3) := by decide +kernel
theorem dX11_wish_40 : decode cX11_wish 40 = .ok (.istore_n 2, 1) := by decide +kernel
theorem dX11_wish_41 : decode cX11_wish 41 = .ok (.iload_n 2, 1) := by decide +kernel
theorem dX11_wish_42 : decode cX11_wish 42 = .ok (.iconst (-1), 1) := by decide +kernel
theorem dX11_wish_43 : decode cX11_wish 43 = .ok (.if_icmp .eq 5, 3) := by decide +kernel
theorem dX11_wish_46 : decode cX11_wish 46 = .ok (.iload_n 2, 1) := by decide +kernel
theorem dX11_wish_47 : decode cX11_wish 47 = .ok (.ireturn, 1) := by decide +kernel
theorem dX11_wish_48 : decode cX11_wish 48 = .ok (.aload_n 0, 1) := by decide +kernel
theorem dX11_wish_49 : decode cX11_wish 49 = .ok (.getfield 33, 3) := by decide +kernel
theorem dX11_wish_52 : decode cX11_wish 52 = .ok (.invokevirtual 96, 3) := by decide +kernel
theorem dX11_wish_55 : decode cX11_wish 55 = .ok (.iconst 2, 1) := by decide +kernel
theorem dX11_wish_56 : decode cX11_wish 56 = .ok (.if_icmp .ne 31, 3) := by decide +kernel
theorem dX11_wish_59 : decode cX11_wish 59 = .ok (.aload_n 0, 1) := by decide +kernel
theorem dX11_wish_60 : decode cX11_wish 60 = .ok (.getfield 47, 3) := by decide +kernel
theorem dX11_wish_63 : decode cX11_wish 63 = .ok (.aload_n 0, 1) := by decide +kernel
theorem dX11_wish_64 : decode cX11_wish 64 = .ok (.getfield 33, 3) := by decide +kernel
theorem dX11_wish_67 : decode cX11_wish 67 = .ok (.getfield 148, 3) := by decide +kernel
theorem dX11_wish_70 : decode cX11_wish 70 = .ok (.aload_n 0, 1) := by decide +kernel
theorem dX11_wish_71 : decode cX11_wish 71 = .ok (.getfield 47, 3) := by decide +kernel
theorem dX11_wish_74 : decode cX11_wish 74 = .ok (.getfield 151, 3) := by decide +kernel
theorem dX11_wish_77 : decode cX11_wish 77 = .ok (.invokevirtual 154, 3) := by decide +kernel
theorem dX11_wish_80 : decode cX11_wish 80 = .ok (.ifCond .eq 7, 3) := by decide +kernel
theorem dX11_wish_83 : decode cX11_wish 83 = .ok (.iconst 1, 1) := by decide +kernel
theorem dX11_wish_84 : decode cX11_wish 84 = .ok (.goto 4, 3) := by decide +kernel
theorem dX11_wish_87 : decode cX11_wish 87 = .ok (.iconst 0, 1) := by decide +kernel
theorem dX11_wish_88 : decode cX11_wish 88 = .ok (.istore_n 3, 1) := by decide +kernel
theorem dX11_wish_89 : decode cX11_wish 89 = .ok (.iload_n 3, 1) := by decide +kernel
theorem dX11_wish_90 : decode cX11_wish 90 = .ok (.ifCond .ne 11, 3) := by decide +kernel
theorem dX11_wish_93 : decode cX11_wish 93 = .ok (.aload_n 0, 1) := by decide +kernel
theorem dX11_wish_94 : decode cX11_wish 94 = .ok (.iload_n 1, 1) := by decide +kernel
theorem dX11_wish_95 : decode cX11_wish 95 = .ok (.invokevirtual 158, 3) := by decide +kernel
theorem dX11_wish_98 : decode cX11_wish 98 = .ok (.ifCond .eq 7, 3) := by decide +kernel
theorem dX11_wish_101 : decode cX11_wish 101 = .ok (.iconst 2, 1) := by decide +kernel
theorem dX11_wish_102 : decode cX11_wish 102 = .ok (.goto 10, 3) := by decide +kernel
theorem dX11_wish_105 : decode cX11_wish 105 = .ok (.aload_n 0, 1) := by decide +kernel
theorem dX11_wish_106 : decode cX11_wish 106 = .ok (.getfield 47, 3) := by decide +kernel
theorem dX11_wish_109 : decode cX11_wish 109 = .ok (.getfield 162, 3) := by decide +kernel
theorem dX11_wish_112 : decode cX11_wish 112 = .ok (.ireturn, 1) := by decide +kernel
theorem kt_651 : Cond.code yX1_takeSender cX1_takeSender 4 (some .boolean) ∈ tb := tb_at (i := 567) (by decide +kernel) (by decide +kernel)
theorem kt_652 : Cond.methodLink RX11 88 yX1_takeSender ∈ tb := tb_at (i := 564) (by decide +kernel) (by decide +kernel)
theorem kt_653 : Cond.instanceMethod yX1_takeSender ∈ tb := tb_at (i := 565) (by decide +kernel) (by decide +kernel)
theorem kt_654 : Cond.selects RX1 yX1_takeSender yX1_takeSender ∈ tb := tb_at (i := 566) (by decide +kernel) (by decide +kernel)
theorem kt_655 : Cond.code yX1_judge cX1_judge 1 (some .int) ∈ tb := tb_at (i := 596) (by decide +kernel) (by decide +kernel)
theorem kt_656 : Cond.methodLink RX11 96 yX1_judge ∈ tb := tb_at (i := 593) (by decide +kernel) (by decide +kernel)
theorem kt_657 : Cond.instanceMethod yX1_judge ∈ tb := tb_at (i := 594) (by decide +kernel) (by decide +kernel)
theorem kt_658 : Cond.selects RX1 yX1_judge yX1_judge ∈ tb := tb_at (i := 595) (by decide +kernel) (by decide +kernel)
theorem kt_659 : Cond.code yX5_read cX5_read 4 (some .int) ∈ tb := tb_at (i := 1123) (by decide +kernel) (by decide +kernel)
theorem kt_660 : Cond.methodLink RX11 145 yX5_read ∈ tb := tb_at (i := 1120) (by decide +kernel) (by decide +kernel)
theorem kt_661 : Cond.instanceMethod yX5_read ∈ tb := tb_at (i := 1121) (by decide +kernel) (by decide +kernel)
theorem kt_662 : Cond.selects RX5 yX5_read yX5_read ∈ tb := tb_at (i := 1122) (by decide +kernel) (by decide +kernel)
theorem kt_663 : Cond.code yX11_hasAlignedSeal cX11_hasAlignedSeal 3 (some .boolean) ∈ tb := tb_at (i := 1183) (by decide +kernel) (by decide +kernel)
theorem kt_664 : Cond.initialized RX11 ∈ tb := tb_at (i := 81) (by decide +kernel) (by decide +kernel)
theorem kt_665 : Cond.methodLink RX11 158 yX11_hasAlignedSeal ∈ tb := tb_at (i := 1180) (by decide +kernel) (by decide +kernel)
theorem kt_666 : Cond.instanceMethod yX11_hasAlignedSeal ∈ tb := tb_at (i := 1182) (by decide +kernel) (by decide +kernel)
theorem kt_667 : Cond.selects RX11 yX11_hasAlignedSeal yX11_hasAlignedSeal ∈ tb := tb_at (i := 41) (by decide +kernel) (by decide +kernel)
theorem kn_34 : Cond.fieldLinkNest RX11 92 "PostGate$Checker" "isReady" "Z" "PostGate" ∈ nw := nw_at (i := 151) (by decide +kernel) rfl
theorem kn_35 : Cond.fieldLinkNest RX11 162 "PostGate$Policy" "wanted" "I" "PostGate" ∈ nw := nw_at (i := 320) (by decide +kernel) rfl
theorem kn_36 : Cond.fieldLinkNest RX11 148 "PostGate$Checker" "domain" "LPostGate$Bytes;" "PostGate" ∈ nw := nw_at (i := 145) (by decide +kernel) rfl
theorem kn_37 : Cond.fieldLinkNest RX11 151 "PostGate$Policy" "strictSender" "Z" "PostGate" ∈ nw := nw_at (i := 322) (by decide +kernel) rfl
set_option maxHeartbeats 4000000 in
set_option maxRecDepth 100000 in
theorem s_X11_sender_c (l : Launch) (dC : Nat → ClassId) (dI : Nat → Nat → Nat) (cs : Nat → ClassId) (ty : TyM) (L : List Nat) (sz : Nat) (F : Nat → va_E) (h0 : Nat) (ρ : Nat) (ta : Nat) (ou : Nat) (di : Nat) (ea : Nat) (ck : Nat) (sl : Nat) (po : Nat) (hs : Nat) (zt : Nat) (rt : Nat) (cn : Nat) (f : Nat → Int32) (w0 : Nat) (w1 : Nat) (w2 : Nat) (w3 : Nat) (nm : Nat) (te : Nat) (cc : Nat) (vo : Nat) (ad : Int32) (v1 : Int32) (SD : SDR) (x1 : Int32) (hW : WT ty L) (hL_h0 : h0 ∈ L) (hT_h0 : ty h0 = (11, ρ, [ta, ou, di, ea, ck, sl, po, hs])) (hL_ta : ta ∈ L) (hT_ta : ty ta = (0, ρ + 1, [rt, 3000])) (hL_ck : ck ∈ L) (hT_ck : ty ck = (1, ρ + 5, [di, ρ + 3, ea, w0, w1, w2, w3, nm, te])) (hFt : F ta = .inr (0, [.ref rt, .int (nI zt), .int 0])) (hFr : F rt = .inl (cs 16, 3000, .inl f)) (hzt : zt ≤ 3000) (hFk : F ck = .inr (1, [.ref di, .ref w0, .ref w1, .ref w2, .ref w3, .ref nm, .ref te, .int ad, .int v1, .int (nI cc), .int (nI vo)])) (hSD : (v1 = 0 ∨ SNP cs F w0 w1 w2 w3 SD)) : Met l yX11_sender (.code yX11_sender cX11_sender 3 (some .int) :: tb) ({ frames := 4, cells := 0, slots := 0, locals := 118 }) (va_Pc [.ref h0, .int x1] (PT (dC, dI) cs ty L F sz)) (va_Qi (fun (r : Int32) (gs : Option Nat) => ((r = 0 ∧ ∃ k, FST f 64 zt k ∧ LCL f k ∧ NM f (k + 1) zt = true ∧ gs = some k) ∨ (r = (-1) ∧ ¬ SND f zt ∧ gs = none))) (fun (gs : Option Nat) T9 => ∃ F2 : Nat → va_E, QT (dC, dI) cs ty L [ρ + 1, ρ + 5, ρ + 36, ρ + 37, ρ + 38, ρ + 39] F F2 (va_A (va_pl L F) sz) T9 ∧ F2 ta = .inr (0, [.ref rt, .int (nI 0), .int 0]) ∧ ((gs = none ∧ F2 ck = .inr (1, [.ref di, .ref w0, .ref w1, .ref w2, .ref w3, .ref nm, .ref te, .int ad, .int v1, .int (nI cc), .int (nI vo)]) ∧ (v1 = 0 ∨ SNP cs F2 w0 w1 w2 w3 SD)) ∨ (∃ k, gs = some k ∧ F2 ck = .inr (1, [.ref di, .ref w0, .ref w1, .ref w2, .ref w3, .ref nm, .ref te, .int x1, .int 1, .int (nI cc), .int (nI vo)]) ∧ SNP cs F2 w0 w1 w2 w3 (sdW f zt k x1)))) (va_A (va_pl L F) sz)) 0 0 (va_A (va_pl L F) sz) := by
  refine Met.ofW (cc := cX11_sender) (maxL := 3) (ret := (some .int)) (by decide) rfl ?_
  intro p e s m args below meth c s₁ B hml hv
  obtain ⟨rfl, hsz, hP, hK, hD0, hE, hO⟩ := hv
  have hx := B.exec
  have hb := B.bytes
  have hr := B.returns
  have hts : ∀ w ∈ tb, w.before _ s = true := fun w h => atoms_spec (ws := .code yX11_sender cX11_sender 3 (some .int) :: tb) B.pre w (List.mem_cons_of_mem _ h)
  have hown : s.vm.findClass RX11 = some m.cls := findClass_of_methodNamed B.named
  have hlocks := B.notSynchronized
  subst hsz
  have hD := hD0.self (sz := s.heap.size)
  generalize hAe : va_A (va_pl L F) s.heap.size = A at hD ⊢
  have hA : ∀ q : Nat, s.heap.size ≤ q → A q := fun q h => by rw [← hAe]; exact Or.inr h
  have hS : va_S A s.heap s.heap [] := va_S.rf
  have hR : FR ty [ρ + 1, ρ + 5, ρ + 36, ρ + 37, ρ + 38, ρ + 39] F F := FR.refl
  have hl := lv_entry ([.ref h0, .int x1]) (n := 3) (Nat.le_of_ble_eq_true rfl)
  rw [lg_entry_eq]
  generalize (lg_sl ([.ref h0, .int x1]) ++ List.replicate (3 - (lg_sl ([.ref h0, .int x1])).length) Slot.unset).toArray = ls at hl ⊢
  have hl : lv_has ls 3 [(0, .ref h0), (1, .int x1)] := hl
  obtain ⟨_, _, hi_1, ⟨r_2, ht_3⟩, hi_4, ht_5, _, _, hi_6, ⟨l1_7, lx_8, ly0_9, ly1_10, ly2_11, k1_12, kx_13, ky0_14, ky1_15, ky2_16, w0_17, w1_18, w2_19, w3_20, w4_21, w5_22, w6_23, w7_24, w8_25, tk_26, h1_27, hx_28, hy_29, hw_30, pw_31, px_32, py_33, pz_34, pu_35, ht_36⟩, hi_37, ⟨w0_38, w1_39, rc_40, rx_41, ry0_42, ry1_43, ry2_44, ht_45⟩, hi_46, ⟨hx_47, hy_48, hw_49, ht_50⟩⟩ := hW.gate hL_h0 hT_h0
  obtain ⟨le_51, sp_52, μ_53, ν_54, hF_55, hq_56, hq_57, hq_58, hq_59, hq_60, hq_61⟩ := hO.gate hL_h0 hT_h0
  obtain ⟨x_62, y0_63, y1_64, y2_65, ht_66⟩ := id hq_57
  obtain ⟨x_67, y0_68, y1_69, y2_70, ht_71⟩ := id hq_59
  obtain ⟨_, _, hi_72, ⟨r_73, ht_74⟩, hi_75, ⟨r_76, ht_77⟩, hi_78, ⟨r_79, ht_80⟩, hi_81, ⟨r_82, ht_83⟩, hi_84, ht_85, hi_86, ht_87⟩ := hW.chk hL_ck hT_ck
  have ht_74 : ty w0 = (0, ρ + 36, [r_73, 91]) := ht_74
  have ht_77 : ty w1 = (0, ρ + 37, [r_76, 30]) := ht_77
  have ht_80 : ty w2 = (0, ρ + 38, [r_79, 60]) := ht_80
  have ht_83 : ty w3 = (0, ρ + 39, [r_82, 15]) := ht_83
  have ht_85 : ty nm = (20, ρ + 40, [12]) := ht_85
  have ht_87 : ty te = (22, ρ + 41, [11]) := ht_87
  obtain ⟨hi_88, ht_89, hq_90⟩ := hW.bytes hL_ta hT_ta
  refine lv_aload_n hx hb dX11_sender_0 rfl (lv_at hl 0 rfl) ?_
  refine pg_get (ci := 11) (v := .ref ck) (C := RX11) (T := TX11) (N := 9) hx hb hts it_11 hown hK hP hL_h0 hF_55 rfl 3 (by decide) (hts _ kt_517) (fun _ h9 => h9) rfl dX11_sender_1 ?_
  refine lv_iload_n hx hb dX11_sender_4 rfl (lv_at hl 1 rfl) ?_
  refine lv_aload_n hx hb dX11_sender_5 rfl (lv_at hl 0 rfl) ?_
  refine pg_get (ci := 11) (v := .ref ta) (C := RX11) (T := TX11) (N := 9) hx hb hts it_11 hown hK hP hL_h0 hF_55 rfl 0 (by decide) (hts _ kt_509) (fun _ h9 => h9) rfl dX11_sender_6 ?_
  have hFc := pg_free hD hS hA
  refine va_calli (va_runV (As := [.int x1, .ref ta]) (rest := []) ⟨hx, hb, hml, hown, hts⟩ (s_X1_takeSender_c l dC dI cs ty L s.heap.size F ck (ρ + 5) di (ρ + 3) ea w0 w1 w2 w3 nm te ta (ρ + 1) rt 3000 cc vo ad v1 zt f x1 hW hL_ck hT_ck hL_ta hT_ta hFt hFr (by omega) (by omega) (by omega) hFk) ⟨callB_of 2 hts (gi kt_651) rfl rfl rfl (hts _ kt_572) (hts _ kt_652) (by decide +kernel) ⟨Nat.le_of_ble_eq_true rfl, Nat.le_of_ble_eq_true rfl⟩, (hts _ kt_653), (hts _ kt_654)⟩ ⟨fun a U g mk q => ⟨q.1, PT.calling q.2⟩, pg_recv hK hP hL_ck hFk (q := (RX1, TX1, 11)) rfl, fun U hU hWm => ⟨rfl, PT.mk hU hWm hP hK hD hE hO⟩⟩ rfl rfl hl.1 rfl (lv_room (Nat.le_of_ble_eq_true rfl)) dX11_sender_9 ⟨by show _ + 0 ≤ 0; omega, by show _ + 0 ≤ 0; omega⟩) hS (fun q _ h => hFc q h) hFc (fun r_92 gs_91 t H1 locs ht hvm hw hB hz1 hk1 hS => ?_)
  obtain ⟨F_93, hB1, hq_94⟩ := hB
  obtain ⟨hP, hD, hO, hR⟩ := QT.back hB1 ht hFc hR (fun q h => by simp only [List.mem_cons, List.not_mem_nil, or_false] at h ⊢; omega)
  have hF_95 : F_93 ta = .inr (0, [.ref rt, .int (nI zt), .int 0]) := (hB1.2.2.2 ta (by rw [hT_ta]; simp <;> omega)).trans hFt
  have hF_96 : F_93 rt = .inl (cs 16, 3000, .inl f) := (hB1.2.2.2 rt (by rw [ht_89]; simp <;> omega)).trans hFr
  have hF_97 : F_93 h0 = .inr (11, [.ref ta, .ref ou, .ref di, .ref ck, .ref sl, .ref po, .ref hs, .ref le_51, .ref sp_52]) := (hB1.2.2.2 h0 (by rw [hT_h0]; simp <;> omega)).trans hF_55
  generalize H1 = H at hP hS ⊢
  have hw : ((r_92 = 1 ∧ ∃ k, FST f 64 zt k ∧ LCL f k ∧ NM f (k + 1) zt = true ∧ gs_91 = some k) ∨ (r_92 = 0 ∧ ¬ SND f zt ∧ gs_91 = none)) := hw
  have hw_98 := hw
  have hOb := hO
  refine lv_istore_n (lv' := [(2, .int r_92), (0, .ref h0), (1, .int x1)]) hx hb dX11_sender_12 rfl hl (by decide) rfl (fun ls hl => ?_)
  refine lv_aload_n hx hb dX11_sender_13 rfl (lv_at hl 1 rfl) ?_
  refine pg_get (ci := 11) (v := .ref ta) (C := RX11) (T := TX11) (N := 9) hx hb hts it_11 hown hK hP hL_h0 hF_97 rfl 0 (by decide) (hts _ kt_509) (fun _ h9 => h9) rfl dX11_sender_14 ?_
  have hFc := pg_free hD hS hA
  refine va_callv (va_runV (As := []) (rest := []) ⟨hx, hb, hml, hown, hts⟩ (s_X0_clear l dC dI cs ty L H.size F_93 ta (ρ + 1) rt 3000 hW hL_ta hT_ta) ⟨callB_of 0 hts (gi kt_32) rfl rfl rfl (hts _ kt_1) (hts _ kt_527) (by decide +kernel) ⟨Nat.le_of_ble_eq_true rfl, Nat.le_of_ble_eq_true rfl⟩, (hts _ kt_34), (hts _ kt_35)⟩ ⟨fun a U g mk q => ⟨q.1, PT.calling q.2⟩, pg_recv hK hP hL_ta hF_95 (q := (RX0, TX0, 3)) rfl, fun U hU hWm => ⟨rfl, PT.mk hU hWm hP hK hD hE hO⟩⟩ rfl rfl hl.1 rfl (lv_room (Nat.le_of_ble_eq_true rfl)) dX11_sender_17 ⟨by show _ + 0 ≤ 0; omega, by show _ + 0 ≤ 0; omega⟩) hS (fun q _ h => hFc q h) hFc (fun u t H1 locs ht hvm hw hB hz1 hk1 hS => ?_)
  obtain ⟨F_100, hB1, hq_101⟩ := hB
  obtain ⟨hP, hD, hO, hR⟩ := QT.back hB1 ht hFc hR (fun q h => by simp only [List.mem_cons, List.not_mem_nil, or_false] at h ⊢; omega)
  have hF_102 : F_100 h0 = .inr (11, [.ref ta, .ref ou, .ref di, .ref ck, .ref sl, .ref po, .ref hs, .ref le_51, .ref sp_52]) := (hB1.2.2.2 h0 (by rw [hT_h0]; simp)).trans hF_97
  generalize H1 = H at hP hS ⊢
  have hRc := hB1.2.2.2
  refine lv_iload_n hx hb dX11_sender_20 rfl (lv_at hl 0 rfl) ?_
  refine lv_if_eq (tgt := 28) hx hb dX11_sender_21 (by decide) (fun c_103 => ?_) (fun c_103 => ?_)
  ·
    refine lv_iconst (v := (-1)) hx hb dX11_sender_28 (by decide) ?_
    refine W.widen (k := 0) (n := 0) (by omega) (by omega) ?_
    exact W.iret (v := (-1)) hx hb hr (fun t ht hWm => ⟨⟨(-1), gs_91, rfl, (by rcases hw_98 with h9 | h9; exact absurd (c_103.symm.trans h9.1) (by decide); exact Or.inr ⟨rfl, h9.2⟩), ⟨F_100, QT.mk ht hP hD hO hR, hq_101, (by rcases hq_94 with ⟨q1, q2⟩ | ⟨k, q1, q2, q3⟩; exact Or.inl ⟨q1, (hRc ck (by rw [hT_ck]; simp)).trans (by rw [q2]; exact hFk), hSD.imp id (fun h => SNP.fr (by rw [q2]; exact h) hOb hW hi_72 ht_74 hi_75 ht_77 hi_78 ht_80 hi_81 ht_83 hRc (fun k9 h1 h2 => by simp only [List.mem_cons, List.not_mem_nil, or_false]; omega))⟩; exact Or.inr ⟨k, q1, (hRc ck (by rw [hT_ck]; simp)).trans q2, q3.fr hOb hW hi_72 ht_74 hi_75 ht_77 hi_78 ht_80 hi_81 ht_83 hRc (fun k9 h1 h2 => by simp only [List.mem_cons, List.not_mem_nil, or_false]; omega)⟩)⟩⟩, hS.F ht⟩) hS.2.2 dX11_sender_29
  ·
    refine lv_iconst (v := 0) hx hb dX11_sender_24 (by decide) ?_
    refine lv_goto (tgt := 29) hx hb dX11_sender_25 (by decide) ?_
    refine W.widen (k := 0) (n := 0) (by omega) (by omega) ?_
    exact W.iret (v := 0) hx hb hr (fun t ht hWm => ⟨⟨0, gs_91, rfl, (by rcases hw_98 with h9 | h9; exact Or.inl ⟨rfl, h9.2⟩; exact absurd h9.1 c_103), ⟨F_100, QT.mk ht hP hD hO hR, hq_101, (by rcases hq_94 with ⟨q1, q2⟩ | ⟨k, q1, q2, q3⟩; exact Or.inl ⟨q1, (hRc ck (by rw [hT_ck]; simp)).trans (by rw [q2]; exact hFk), hSD.imp id (fun h => SNP.fr (by rw [q2]; exact h) hOb hW hi_72 ht_74 hi_75 ht_77 hi_78 ht_80 hi_81 ht_83 hRc (fun k9 h1 h2 => by simp only [List.mem_cons, List.not_mem_nil, or_false]; omega))⟩; exact Or.inr ⟨k, q1, (hRc ck (by rw [hT_ck]; simp)).trans q2, q3.fr hOb hW hi_72 ht_74 hi_75 ht_77 hi_78 ht_80 hi_81 ht_83 hRc (fun k9 h1 h2 => by simp only [List.mem_cons, List.not_mem_nil, or_false]; omega)⟩)⟩⟩, hS.F ht⟩) hS.2.2 dX11_sender_29
set_option maxHeartbeats 4000000 in
set_option maxRecDepth 100000 in
theorem s_X11_permission_e (l : Launch) (dC : Nat → ClassId) (dI : Nat → Nat → Nat) (cs : Nat → ClassId) (ty : TyM) (L : List Nat) (sz : Nat) (F : Nat → va_E) (h0 : Nat) (ρ : Nat) (ta : Nat) (ou : Nat) (di : Nat) (ea : Nat) (ck : Nat) (sl : Nat) (po : Nat) (hs : Nat) (cn : Nat) (w0 : Nat) (w1 : Nat) (w2 : Nat) (w3 : Nat) (nm : Nat) (te : Nat) (cc : Nat) (vo : Nat) (ad : Int32) (v1 : Int32) (D : Nat → ETY) (SD : SDR) (hW : WT ty L) (hL_h0 : h0 ∈ L) (hT_h0 : ty h0 = (11, ρ, [ta, ou, di, ea, ck, sl, po, hs])) (hL_ck : ck ∈ L) (hT_ck : ty ck = (1, ρ + 5, [di, ρ + 3, ea, w0, w1, w2, w3, nm, te])) (hcn : cn ≤ 40) (hFk : F ck = .inr (1, [.ref di, .ref w0, .ref w1, .ref w2, .ref w3, .ref nm, .ref te, .int ad, .int v1, .int (nI cc), .int (nI vo)])) (hFd : F di = .inr (2, [.ref ea, .int (nI cn)])) (hDI : DIRC cs F ea cn D) (hSD : (v1 = 0 ∨ SNP cs F w0 w1 w2 w3 SD)) : Met l yX11_permission (.code yX11_permission cX11_permission 1 (some .int) :: tb) ({ frames := 101, cells := 0, slots := 0, locals := 2324 }) (va_Pc [.ref h0] (PTE (dC, dI) cs ty L F sz [])) (va_Qi (fun (r : Int32) (_ : Unit) => r = (if v1 = 0 then (-1) else nI (CHW D cn SD ad 11 SD.2.2.1 0 0).1)) (fun _ T9 => ∃ F2 : Nat → va_E, ∃ c9 : Nat, ∃ u9 : Nat, QT (dC, dI) cs ty L (chS (ρ + 5) 0 0) F F2 (va_A (va_pl L F) sz) T9 ∧ F2 ck = .inr (1, [.ref di, .ref w0, .ref w1, .ref w2, .ref w3, .ref nm, .ref te, .int ad, .int v1, .int (nI c9), .int (nI u9)])) (va_A (va_pl L F) sz)) 0 0 (va_A (va_pl L F) sz) := by
  refine Met.ofW (cc := cX11_permission) (maxL := 1) (ret := (some .int)) (by decide) rfl ?_
  intro p e s m args below meth c s₁ B hml hv
  obtain ⟨rfl, ⟨hsz, hP, hK, hD0, hE, hO⟩, hG, hX⟩ := hv
  have hx := B.exec
  have hb := B.bytes
  have hr := B.returns
  have hts : ∀ w ∈ tb, w.before _ s = true := fun w h => atoms_spec (ws := .code yX11_permission cX11_permission 1 (some .int) :: tb) B.pre w (List.mem_cons_of_mem _ h)
  have hown : s.vm.findClass RX11 = some m.cls := findClass_of_methodNamed B.named
  have hlocks := B.notSynchronized
  subst hsz
  have hD := hD0.self (sz := s.heap.size)
  generalize hAe : va_A (va_pl L F) s.heap.size = A at hD hG hX ⊢
  have hA : ∀ q : Nat, s.heap.size ≤ q → A q := fun q h => by rw [← hAe]; exact Or.inr h
  have hS : va_S A s.heap s.heap [] := va_S.rf
  have hR : FR ty (chS (ρ + 5) 0 0) F F := FR.refl
  have hl := lv_entry ([.ref h0]) (n := 1) (Nat.le_of_ble_eq_true rfl)
  rw [lg_entry_eq]
  generalize (lg_sl ([.ref h0]) ++ List.replicate (1 - (lg_sl ([.ref h0])).length) Slot.unset).toArray = ls at hl ⊢
  have hl : lv_has ls 1 [(0, .ref h0)] := hl
  obtain ⟨hi_1, ⟨r_2, ht_3⟩, hi_4, ⟨r_5, ht_6⟩, hi_7, ht_8, _, _, hi_9, ⟨l1_10, lx_11, ly0_12, ly1_13, ly2_14, k1_15, kx_16, ky0_17, ky1_18, ky2_19, w0_20, w1_21, w2_22, w3_23, w4_24, w5_25, w6_26, w7_27, w8_28, tk_29, h1_30, hx_31, hy_32, hw_33, pw_34, px_35, py_36, pz_37, pu_38, ht_39⟩, hi_40, ⟨w0_41, w1_42, rc_43, rx_44, ry0_45, ry1_46, ry2_47, ht_48⟩, hi_49, ⟨hx_50, hy_51, hw_52, ht_53⟩⟩ := hW.gate hL_h0 hT_h0
  obtain ⟨le_54, sp_55, μ_56, ν_57, hF_58, hq_59, hq_60, hq_61, hq_62, hq_63, hq_64⟩ := hO.gate hL_h0 hT_h0
  obtain ⟨x_65, y0_66, y1_67, y2_68, ht_69⟩ := id hq_60
  obtain ⟨x_70, y0_71, y1_72, y2_73, ht_74⟩ := id hq_62
  obtain ⟨_, _, hi_75, ⟨r_76, ht_77⟩, hi_78, ⟨r_79, ht_80⟩, hi_81, ⟨r_82, ht_83⟩, hi_84, ⟨r_85, ht_86⟩, hi_87, ht_88, hi_89, ht_90⟩ := hW.chk hL_ck hT_ck
  have ht_77 : ty w0 = (0, ρ + 36, [r_76, 91]) := ht_77
  have ht_80 : ty w1 = (0, ρ + 37, [r_79, 30]) := ht_80
  have ht_83 : ty w2 = (0, ρ + 38, [r_82, 60]) := ht_83
  have ht_86 : ty w3 = (0, ρ + 39, [r_85, 15]) := ht_86
  have ht_88 : ty nm = (20, ρ + 40, [12]) := ht_88
  have ht_90 : ty te = (22, ρ + 41, [11]) := ht_90
  obtain ⟨hi_91, ht_92⟩ := hW.dir hi_7 ht_8
  refine lv_aload_n hx hb dX11_permission_0 rfl (lv_at hl 0 rfl) ?_
  refine pg_get (ci := 11) (v := .ref ck) (C := RX11) (T := TX11) (N := 9) hx hb hts it_11 hown hK hP hL_h0 hF_58 rfl 3 (by decide) (hts _ kt_517) (fun _ h9 => h9) rfl dX11_permission_1 ?_
  refine pg_getN (ci := 1) (v := .int v1) (C := RX1) (T := TX1) (N := 11) hx hb hts it_1 hown hK hP hL_ck hFk rfl 8 (by decide) (hE.nest kn_34) (fun _ h9 => h9) rfl dX11_permission_4 ?_
  refine lv_if_eq (tgt := 20) hx hb dX11_permission_7 (by decide) (fun c_93 => ?_) (fun c_93 => ?_)
  ·
    refine lv_iconst (v := (-1)) hx hb dX11_permission_20 (by decide) ?_
    refine W.widen (k := 0) (n := 0) (by omega) (by omega) ?_
    exact W.iret (v := (-1)) hx hb hr (fun t ht hWm => ⟨⟨(-1), (), rfl, ((if_pos c_93).symm), ⟨F, cc, vo, QT.mk ht hP hD hO hR, hFk⟩⟩, hS.F ht⟩) hS.2.2 dX11_permission_21
  ·
    refine lv_aload_n hx hb dX11_permission_10 rfl (lv_at hl 0 rfl) ?_
    refine pg_get (ci := 11) (v := .ref ck) (C := RX11) (T := TX11) (N := 9) hx hb hts it_11 hown hK hP hL_h0 hF_58 rfl 3 (by decide) (hts _ kt_517) (fun _ h9 => h9) rfl dX11_permission_11 ?_
    have hFc := pg_free hD hS hA
    refine va_calli (va_runV (As := []) (rest := []) ⟨hx, hb, hml, hown, hts⟩ (s_X1_judge_e l dC dI cs ty L s.heap.size F ck (ρ + 5) di (ρ + 3) ea w0 w1 w2 w3 nm te cc vo ad v1 cn D SD hW hL_ck hT_ck (by omega) (by omega) hFk hFd (hDI) (hSD.resolve_left c_93)) ⟨callB_of 0 hts (gi kt_655) rfl rfl rfl (hts _ kt_572) (hts _ kt_656) (by decide +kernel) ⟨Nat.le_of_ble_eq_true rfl, Nat.le_of_ble_eq_true rfl⟩, (hts _ kt_657), (hts _ kt_658)⟩ ⟨fun a U g mk q => ⟨q.1, PTE.calling q.2⟩, pg_recv hK hP hL_ck hFk (q := (RX1, TX1, 11)) rfl, fun U hU hWm => ⟨rfl, PTE.mk hU hWm hP hK hD hE hO hG (fun x hx => absurd hx List.not_mem_nil) hS hFc⟩⟩ rfl rfl hl.1 rfl (lv_room (Nat.le_of_ble_eq_true rfl)) dX11_permission_14 ⟨by show _ + 0 ≤ 0; omega, by show _ + 0 ≤ 0; omega⟩) hS (fun q _ h => hFc q h) hFc (fun r_95 gp_94 t H1 locs ht hvm hw hB hz1 hk1 hS => ?_)
    obtain ⟨F_96, hB1, hq_97⟩ := hB
    obtain ⟨hP, hD, hO, hR⟩ := QT.back hB1 ht hFc hR (fun q h => by simp only [mem_chS, List.mem_append, List.mem_cons, List.not_mem_nil, or_false] at h ⊢; omega)
    have hF_98 : F_96 di = .inr (2, [.ref ea, .int (nI cn)]) := (hB1.2.2.2 di (by rw [ht_8]; simp only [mem_chS, List.mem_append, List.mem_cons, List.not_mem_nil, or_false]; omega)).trans hFd
    have hF_99 : F_96 h0 = .inr (11, [.ref ta, .ref ou, .ref di, .ref ck, .ref sl, .ref po, .ref hs, .ref le_54, .ref sp_55]) := (hB1.2.2.2 h0 (by rw [hT_h0]; simp only [mem_chS, List.mem_append, List.mem_cons, List.not_mem_nil, or_false]; omega)).trans hF_58
    generalize H1 = H at hP hS ⊢
    have hw : (r_95 = nI (CHW D cn SD ad 11 SD.2.2.1 0 0).1 ∧ gp_94 = (CHW D cn SD ad 11 SD.2.2.1 0 0).2) := hw
    have hw_100 := hw
    refine lv_goto (tgt := 21) hx hb dX11_permission_17 (by decide) ?_
    refine W.widen (k := 0) (n := 0) (by omega) (by omega) ?_
    exact W.iret (v := r_95) hx hb hr (fun t ht hWm => ⟨⟨r_95, (), rfl, (by rw [if_neg c_93]; exact hw_100.1), ⟨F_96, gp_94.1, gp_94.2, QT.mk ht hP hD hO hR, hq_97⟩⟩, hS.F ht⟩) hS.2.2 dX11_permission_21
set_option maxHeartbeats 4000000 in
set_option maxRecDepth 100000 in
theorem s_X11_wish_s (l : Launch) (dC : Nat → ClassId) (dI : Nat → Nat → Nat) (cs : Nat → ClassId) (ty : TyM) (L : List Nat) (sz : Nat) (F : Nat → va_E) (h0 : Nat) (ρ : Nat) (ta : Nat) (ou : Nat) (di : Nat) (ea : Nat) (ck : Nat) (sl : Nat) (po : Nat) (hs : Nat) (cn : Nat) (w0 : Nat) (w1 : Nat) (w2 : Nat) (w3 : Nat) (nm : Nat) (te : Nat) (cc : Nat) (vo : Nat) (ad : Int32) (v1 : Int32) (D : Nat → ETY) (SD : SDR) (zt : Nat) (x1 : Int32) (hW : WT ty L) (hL_h0 : h0 ∈ L) (hT_h0 : ty h0 = (11, ρ, [ta, ou, di, ea, ck, sl, po, hs])) (hL_ck : ck ∈ L) (hT_ck : ty ck = (1, ρ + 5, [di, ρ + 3, ea, w0, w1, w2, w3, nm, te])) (hTS : TS F ta zt) (hcn : cn ≤ 40) (hFk : F ck = .inr (1, [.ref di, .ref w0, .ref w1, .ref w2, .ref w3, .ref nm, .ref te, .int ad, .int v1, .int (nI cc), .int (nI vo)])) (hFd : F di = .inr (2, [.ref ea, .int (nI cn)])) (hDI : DIRC cs F ea cn D) (hSD : (v1 = 0 ∨ SNP cs F w0 w1 w2 w3 SD)) : Met l yX11_wish (.code yX11_wish cX11_wish 4 (some .int) :: tb) ({ frames := 101, cells := 0, slots := 0, locals := 2324 }) (va_Pc [.ref h0, .int x1] (PTE (dC, dI) cs ty L F sz [])) (va_Qi (fun (r : Int32) (_ : Unit) => True) (fun _ T9 => ∃ F2 : Nat → va_E, ∃ c9 : Nat, ∃ u9 : Nat, QT (dC, dI) cs ty L (chS (ρ + 5) 0 0 ++ [ρ + 7, ρ + 8, ρ + 9, ρ + 10, ρ + 11, ρ + 12, ρ + 13, ρ + 14, ρ + 15, ρ + 16, ρ + 17, ρ + 18, ρ + 24, ρ + 79, ρ + 80, ρ + 81, ρ + 82, ρ + 87, ρ + 88, ρ + 89, ρ + 90, ρ + 91, ρ + 92, ρ + 93, ρ + 94, ρ + 95, ρ + 96, ρ + 97, ρ + 98, ρ + 99, ρ + 100, ρ + 101, ρ + 102]) F F2 (va_A (va_pl L F) sz) T9 ∧ TS F2 ta zt ∧ F2 ck = .inr (1, [.ref di, .ref w0, .ref w1, .ref w2, .ref w3, .ref nm, .ref te, .int ad, .int v1, .int (nI c9), .int (nI u9)])) (va_A (va_pl L F) sz)) 0 0 (va_A (va_pl L F) sz) := by
  refine Met.ofW (cc := cX11_wish) (maxL := 4) (ret := (some .int)) (by decide) rfl ?_
  intro p e s m args below meth c s₁ B hml hv
  obtain ⟨rfl, ⟨hsz, hP, hK, hD0, hE, hO⟩, hG, hX⟩ := hv
  have hx := B.exec
  have hb := B.bytes
  have hr := B.returns
  have hts : ∀ w ∈ tb, w.before _ s = true := fun w h => atoms_spec (ws := .code yX11_wish cX11_wish 4 (some .int) :: tb) B.pre w (List.mem_cons_of_mem _ h)
  have hown : s.vm.findClass RX11 = some m.cls := findClass_of_methodNamed B.named
  have hlocks := B.notSynchronized
  subst hsz
  have hD := hD0.self (sz := s.heap.size)
  generalize hAe : va_A (va_pl L F) s.heap.size = A at hD hG hX ⊢
  have hA : ∀ q : Nat, s.heap.size ≤ q → A q := fun q h => by rw [← hAe]; exact Or.inr h
  have hS : va_S A s.heap s.heap [] := va_S.rf
  have hR : FR ty (chS (ρ + 5) 0 0 ++ [ρ + 7, ρ + 8, ρ + 9, ρ + 10, ρ + 11, ρ + 12, ρ + 13, ρ + 14, ρ + 15, ρ + 16, ρ + 17, ρ + 18, ρ + 24, ρ + 79, ρ + 80, ρ + 81, ρ + 82, ρ + 87, ρ + 88, ρ + 89, ρ + 90, ρ + 91, ρ + 92, ρ + 93, ρ + 94, ρ + 95, ρ + 96, ρ + 97, ρ + 98, ρ + 99, ρ + 100, ρ + 101, ρ + 102]) F F := FR.refl
  have hl := lv_entry ([.ref h0, .int x1]) (n := 4) (Nat.le_of_ble_eq_true rfl)
  rw [lg_entry_eq]
  generalize (lg_sl ([.ref h0, .int x1]) ++ List.replicate (4 - (lg_sl ([.ref h0, .int x1])).length) Slot.unset).toArray = ls at hl ⊢
  have hl : lv_has ls 4 [(0, .ref h0), (1, .int x1)] := hl
  obtain ⟨hi_1, ⟨r_2, ht_3⟩, hi_4, ⟨r_5, ht_6⟩, hi_7, ht_8, _, _, hi_9, ⟨l1_10, lx_11, ly0_12, ly1_13, ly2_14, k1_15, kx_16, ky0_17, ky1_18, ky2_19, w0_20, w1_21, w2_22, w3_23, w4_24, w5_25, w6_26, w7_27, w8_28, tk_29, h1_30, hx_31, hy_32, hw_33, pw_34, px_35, py_36, pz_37, pu_38, ht_39⟩, hi_40, ⟨w0_41, w1_42, rc_43, rx_44, ry0_45, ry1_46, ry2_47, ht_48⟩, hi_49, ⟨hx_50, hy_51, hw_52, ht_53⟩⟩ := hW.gate hL_h0 hT_h0
  obtain ⟨le_54, sp_55, μ_56, ν_57, hF_58, hq_59, hq_60, hq_61, hq_62, hq_63, hq_64⟩ := hO.gate hL_h0 hT_h0
  obtain ⟨x_65, y0_66, y1_67, y2_68, ht_69⟩ := id hq_60
  obtain ⟨x_70, y0_71, y1_72, y2_73, ht_74⟩ := id hq_62
  obtain ⟨hi_75, ht_76, hq_77⟩ := hW.bytes hi_1 ht_3
  obtain ⟨z_78, o_79, hF_80, hq_81, hq_82⟩ := hO.bytes hi_1 ht_3
  have hts_83 := ts_of hF_80 hTS
  have hzt := (hTS).1
  obtain ⟨_, _, hi_84, ⟨r_85, ht_86⟩, hi_87, ⟨r_88, ht_89⟩, hi_90, ⟨r_91, ht_92⟩, hi_93, ⟨r_94, ht_95⟩, hi_96, ht_97, hi_98, ht_99⟩ := hW.chk hL_ck hT_ck
  have ht_86 : ty w0 = (0, ρ + 36, [r_85, 91]) := ht_86
  have ht_89 : ty w1 = (0, ρ + 37, [r_88, 30]) := ht_89
  have ht_92 : ty w2 = (0, ρ + 38, [r_91, 60]) := ht_92
  have ht_95 : ty w3 = (0, ρ + 39, [r_94, 15]) := ht_95
  have ht_97 : ty nm = (20, ρ + 40, [12]) := ht_97
  have ht_99 : ty te = (22, ρ + 41, [11]) := ht_99
  obtain ⟨hi_100, ht_101⟩ := hW.dir hi_7 ht_8
  obtain ⟨f_102, hF_103, hq_104⟩ := hO.rentry hi_100 ht_101
  have hO0 := hO
  have he0 := hF_103
  refine lv_aload_n hx hb dX11_wish_0 rfl (lv_at hl 0 rfl) ?_
  refine pg_get (ci := 11) (v := .ref ck) (C := RX11) (T := TX11) (N := 9) hx hb hts it_11 hown hK hP hL_h0 hF_58 rfl 3 (by decide) (hts _ kt_517) (fun _ h9 => h9) rfl dX11_wish_1 ?_
  refine pg_getN (ci := 1) (v := .int v1) (C := RX1) (T := TX1) (N := 11) hx hb hts it_1 hown hK hP hL_ck hFk rfl 8 (by decide) (hE.nest kn_34) (fun _ h9 => h9) rfl dX11_wish_4 ?_
  refine lv_if_eq (tgt := 14) hx hb dX11_wish_7 (by decide) (fun c_105 => ?_) (fun c_105 => ?_)
  ·
    refine lv_iconst (v := (-1)) hx hb dX11_wish_14 (by decide) ?_
    refine W.widen (k := 0) (n := 0) (by omega) (by omega) ?_
    exact W.iret (v := (-1)) hx hb hr (fun t ht hWm => ⟨⟨(-1), (), rfl, trivial, ⟨F, cc, vo, QT.mk ht hP hD hO hR, ⟨hzt, _, hts_83⟩, hFk⟩⟩, hS.F ht⟩) hS.2.2 dX11_wish_15
  ·
    refine lv_iload_n hx hb dX11_wish_10 rfl (lv_at hl 1 rfl) ?_
    refine lv_if_ge (tgt := 16) hx hb dX11_wish_11 (by decide) (fun c_106 => ?_) (fun c_106 => ?_)
    ·
      refine lv_aload_n hx hb dX11_wish_16 rfl (lv_at hl 0 rfl) ?_
      refine pg_get (ci := 11) (v := .ref le_54) (C := RX11) (T := TX11) (N := 9) hx hb hts it_11 hown hK hP hL_h0 hF_58 rfl 7 (by decide) (hts _ kt_518) (fun _ h9 => h9) rfl dX11_wish_17 ?_
      obtain ⟨hi_107, hi_108, hi_109, hi_110, ⟨r_111, ht_112⟩, ht_113, ht_114, ht_115⟩ := hW.msg hq_59 ht_69
      obtain ⟨z_116, v0_117, hF_118, hq_119⟩ := hO.msg hq_59 ht_69
      refine pg_getN (ci := 4) (v := .int (nI z_116)) (C := RX4) (T := TX4) (N := 6) hx hb hts it_4 hown hK hP hq_59 hF_118 rfl 4 (by decide) (hE.nest kn_20) (fun _ h9 => h9) rfl dX11_wish_20 ?_
      refine lv_if_ne (tgt := 29) hx hb dX11_wish_23 (by decide) (fun c_120 => ?_) (fun c_120 => ?_)
      ·
        refine lv_aload_n hx hb dX11_wish_29 rfl (lv_at hl 0 rfl) ?_
        refine pg_get (ci := 11) (v := .ref po) (C := RX11) (T := TX11) (N := 9) hx hb hts it_11 hown hK hP hL_h0 hF_58 rfl 5 (by decide) (hts _ kt_534) (fun _ h9 => h9) rfl dX11_wish_30 ?_
        refine lv_aload_n hx hb dX11_wish_33 rfl (lv_at hl 0 rfl) ?_
        refine pg_get (ci := 11) (v := .ref le_54) (C := RX11) (T := TX11) (N := 9) hx hb hts it_11 hown hK hP hL_h0 hF_58 rfl 7 (by decide) (hts _ kt_518) (fun _ h9 => h9) rfl dX11_wish_34 ?_
        have hFc := pg_free hD hS hA
        obtain ⟨_, _, hi_122, ⟨r_123, ht_124⟩, hi_125, ⟨r_126, ht_127⟩, hi_128, ht_129⟩ := hW.pol hi_40 ht_48
        have ht_124 : ty w0_41 = (0, ρ + 16, [r_123, 60]) := ht_124
        have ht_127 : ty w1_42 = (0, ρ + 24, [r_126, 60]) := ht_127
        have ht_129 : ty rc_43 = (9, ρ + 17, [rx_44, 700, ry0_45, ry1_46, ry2_47]) := ht_129
        obtain ⟨v0_130, v1_131, v2_132, hF_133⟩ := hO.pol hi_40 ht_48
        refine va_calli (va_runV (As := [.ref le_54]) (rest := []) ⟨hx, hb, hml, hown, hts⟩ (s_X5_read l dC dI cs ty L s.heap.size F po (ρ + 15) di (ρ + 3) ea w0_41 w1_42 rc_43 rx_44 ry0_45 ry1_46 ry2_47 le_54 μ_56 x_65 y0_66 y1_67 y2_68 hW hi_40 ht_48 hq_59 ht_69) ⟨callB_of 1 hts (gi kt_659) rfl rfl rfl (hts _ kt_471) (hts _ kt_660) (by decide +kernel) ⟨Nat.le_of_ble_eq_true rfl, Nat.le_of_ble_eq_true rfl⟩, (hts _ kt_661), (hts _ kt_662)⟩ ⟨fun a U g mk q => ⟨q.1, PTE.calling q.2⟩, pg_recv hK hP hi_40 hF_133 (q := (RX5, TX5, 7)) rfl, fun U hU hWm => ⟨rfl, PTE.mk hU hWm hP hK hD hE hO hG (fun x hx => absurd hx List.not_mem_nil) hS hFc⟩⟩ rfl rfl hl.1 rfl (lv_room (Nat.le_of_ble_eq_true rfl)) dX11_wish_37 ⟨by show _ + 0 ≤ 0; omega, by show _ + 0 ≤ 0; omega⟩) hS (fun q _ h => hFc q h) hFc (fun r_134 u t H1 locs ht hvm hw hB hz1 hk1 hS => ?_)
        obtain ⟨F_135, hB1⟩ := hB
        obtain ⟨hP, hD, hO, hR⟩ := QT.back hB1 ht hFc hR (fun q h => by simp only [mem_chS, List.mem_append, List.mem_cons, List.not_mem_nil, or_false] at h ⊢; omega)
        have hF_136 : F_135 ck = .inr (1, [.ref di, .ref w0, .ref w1, .ref w2, .ref w3, .ref nm, .ref te, .int ad, .int v1, .int (nI cc), .int (nI vo)]) := (hB1.2.2.2 ck (by rw [hT_ck]; simp <;> omega)).trans hFk
        have hF_137 : F_135 di = .inr (2, [.ref ea, .int (nI cn)]) := (hB1.2.2.2 di (by rw [ht_8]; simp <;> omega)).trans hFd
        have hF_138 : F_135 h0 = .inr (11, [.ref ta, .ref ou, .ref di, .ref ck, .ref sl, .ref po, .ref hs, .ref le_54, .ref sp_55]) := (hB1.2.2.2 h0 (by rw [hT_h0]; simp <;> omega)).trans hF_58
        have hF_139 : F_135 ta = .inr (0, [.ref r_2, .int (nI zt), .int 0]) := (hB1.2.2.2 ta (by rw [ht_3]; simp <;> omega)).trans hts_83
        have hF_140 : F_135 ea = .inl (cs 21, 40, .inr (.inr (.inr (.inr f_102)))) := (hB1.2.2.2 ea (by rw [ht_101]; simp <;> omega)).trans hF_103
        generalize H1 = H at hP hS ⊢
        have hw : True := hw
        have hw_141 := hw
        refine lv_istore_n (lv' := [(2, .int r_134), (0, .ref h0), (1, .int x1)]) hx hb dX11_wish_40 rfl hl (by decide) rfl (fun ls hl => ?_)
        refine lv_iload_n hx hb dX11_wish_41 rfl (lv_at hl 0 rfl) ?_
        refine lv_iconst (v := (-1)) hx hb dX11_wish_42 (by decide) ?_
        refine lv_icmp_eq (tgt := 48) hx hb dX11_wish_43 (by decide) (fun c_142 => ?_) (fun c_142 => ?_)
        ·
          refine lv_aload_n hx hb dX11_wish_48 rfl (lv_at hl 1 rfl) ?_
          refine pg_get (ci := 11) (v := .ref ck) (C := RX11) (T := TX11) (N := 9) hx hb hts it_11 hown hK hP hL_h0 hF_138 rfl 3 (by decide) (hts _ kt_517) (fun _ h9 => h9) rfl dX11_wish_49 ?_
          have hSD2 := (hSD.resolve_left c_105).fr hO0 hW hi_84 ht_86 hi_87 ht_89 hi_90 ht_92 hi_93 ht_95 hR (fun k9 h1 h2 => by simp only [mem_chS, List.mem_append, List.mem_cons, List.not_mem_nil, or_false]; omega)
          have hDI2 := DIRC.fr hDI hO0 hW hi_100 ht_101 hcn hR (hF_140.trans he0.symm) (fun k hk => by simp only [mem_chS, List.mem_append, List.mem_cons, List.not_mem_nil, or_false]; omega)
          have hFc := pg_free hD hS hA
          refine va_calli (va_runV (As := []) (rest := []) ⟨hx, hb, hml, hown, hts⟩ (s_X1_judge_e l dC dI cs ty L H.size F_135 ck (ρ + 5) di (ρ + 3) ea w0 w1 w2 w3 nm te cc vo ad v1 cn D SD hW hL_ck hT_ck (by omega) (by omega) hF_136 hF_137 (hDI2) (hSD2)) ⟨callB_of 0 hts (gi kt_655) rfl rfl rfl (hts _ kt_572) (hts _ kt_656) (by decide +kernel) ⟨Nat.le_of_ble_eq_true rfl, Nat.le_of_ble_eq_true rfl⟩, (hts _ kt_657), (hts _ kt_658)⟩ ⟨fun a U g mk q => ⟨q.1, PTE.calling q.2⟩, pg_recv hK hP hL_ck hF_136 (q := (RX1, TX1, 11)) rfl, fun U hU hWm => ⟨rfl, PTE.mk hU hWm hP hK hD hE hO hG (fun x hx => absurd hx List.not_mem_nil) hS hFc⟩⟩ rfl rfl hl.1 rfl (lv_room (Nat.le_of_ble_eq_true rfl)) dX11_wish_52 ⟨by show _ + 0 ≤ 0; omega, by show _ + 0 ≤ 0; omega⟩) hS (fun q _ h => hFc q h) hFc (fun r_144 gp_143 t H1 locs ht hvm hw hB hz1 hk1 hS => ?_)
          obtain ⟨F_145, hB1, hq_146⟩ := hB
          obtain ⟨hP, hD, hO, hR⟩ := QT.back hB1 ht hFc hR (fun q h => by simp only [mem_chS, List.mem_append, List.mem_cons, List.not_mem_nil, or_false] at h ⊢; omega)
          have hF_147 : F_145 di = .inr (2, [.ref ea, .int (nI cn)]) := (hB1.2.2.2 di (by rw [ht_8]; simp only [mem_chS, List.mem_append, List.mem_cons, List.not_mem_nil, or_false]; omega)).trans hF_137
          have hF_148 : F_145 h0 = .inr (11, [.ref ta, .ref ou, .ref di, .ref ck, .ref sl, .ref po, .ref hs, .ref le_54, .ref sp_55]) := (hB1.2.2.2 h0 (by rw [hT_h0]; simp only [mem_chS, List.mem_append, List.mem_cons, List.not_mem_nil, or_false]; omega)).trans hF_138
          have hF_149 : F_145 ta = .inr (0, [.ref r_2, .int (nI zt), .int 0]) := (hB1.2.2.2 ta (by rw [ht_3]; simp only [mem_chS, List.mem_append, List.mem_cons, List.not_mem_nil, or_false]; omega)).trans hF_139
          have hF_150 : F_145 ea = .inl (cs 21, 40, .inr (.inr (.inr (.inr f_102)))) := (hB1.2.2.2 ea (by rw [ht_101]; simp only [mem_chS, List.mem_append, List.mem_cons, List.not_mem_nil, or_false]; omega)).trans hF_140
          generalize H1 = H at hP hS ⊢
          have hw : (r_144 = nI (CHW D cn SD ad 11 SD.2.2.1 0 0).1 ∧ gp_143 = (CHW D cn SD ad 11 SD.2.2.1 0 0).2) := hw
          have hw_151 := hw
          refine lv_iconst (v := 2) hx hb dX11_wish_55 (by decide) ?_
          refine lv_icmp_ne (tgt := 87) hx hb dX11_wish_56 (by decide) (fun c_152 => ?_) (fun c_152 => ?_)
          ·
            refine lv_iconst (v := 0) hx hb dX11_wish_87 (by decide) ?_
            refine lv_istore_n (lv' := [(3, .int 0), (2, .int r_134), (0, .ref h0), (1, .int x1)]) hx hb dX11_wish_88 rfl hl (by decide) rfl (fun ls hl => ?_)
            refine lv_iload_n hx hb dX11_wish_89 rfl (lv_at hl 0 rfl) ?_
            refine lv_if_ne (tgt := 101) hx hb dX11_wish_90 (by decide) (fun c_153 => absurd (by decide) c_153) (fun c_153 => ?_)
            refine lv_aload_n hx hb dX11_wish_93 rfl (lv_at hl 2 rfl) ?_
            refine lv_iload_n hx hb dX11_wish_94 rfl (lv_at hl 3 rfl) ?_
            have hFc := pg_free hD hS hA
            refine va_calli (va_runV (As := [.int x1]) (rest := []) ⟨hx, hb, hml, hown, hts⟩ (s_X11_hasAlignedSeal l dC dI cs ty L H.size F_145 h0 ρ ta ou di ea ck sl po hs zt x1 hW hL_h0 hT_h0 (⟨hzt, _, hF_149⟩)) ⟨callB_of 1 hts (gi kt_663) rfl rfl rfl (hts _ kt_664) (hts _ kt_665) (by decide +kernel) ⟨Nat.le_of_ble_eq_true rfl, Nat.le_of_ble_eq_true rfl⟩, (hts _ kt_666), (hts _ kt_667)⟩ ⟨fun a U g mk q => ⟨q.1, PTE.calling q.2⟩, pg_recv hK hP hL_h0 hF_148 (q := (RX11, TX11, 9)) rfl, fun U hU hWm => ⟨rfl, PTE.mk hU hWm hP hK hD hE hO hG (fun x hx => absurd hx List.not_mem_nil) hS hFc⟩⟩ rfl rfl hl.1 rfl (lv_room (Nat.le_of_ble_eq_true rfl)) dX11_wish_95 ⟨by show _ + 0 ≤ 0; omega, by show _ + 0 ≤ 0; omega⟩) hS (fun q _ h => hFc q h) hFc (fun r_154 u t H1 locs ht hvm hw hB hz1 hk1 hS => ?_)
            obtain ⟨F_155, hB1, hq_156⟩ := hB
            obtain ⟨hP, hD, hO, hR⟩ := QT.back hB1 ht hFc hR (fun q h => by simp only [mem_chS, List.mem_append, List.mem_cons, List.not_mem_nil, or_false] at h ⊢; omega)
            have hF_157 : F_155 di = .inr (2, [.ref ea, .int (nI cn)]) := (hB1.2.2.2 di (by rw [ht_8]; simp)).trans hF_147
            have hF_158 : F_155 h0 = .inr (11, [.ref ta, .ref ou, .ref di, .ref ck, .ref sl, .ref po, .ref hs, .ref le_54, .ref sp_55]) := (hB1.2.2.2 h0 (by rw [hT_h0]; simp)).trans hF_148
            have hF_159 : F_155 ta = .inr (0, [.ref r_2, .int (nI zt), .int 0]) := (hB1.2.2.2 ta (by rw [ht_3]; simp)).trans hF_149
            have hF_160 : F_155 ea = .inl (cs 21, 40, .inr (.inr (.inr (.inr f_102)))) := (hB1.2.2.2 ea (by rw [ht_101]; simp)).trans hF_150
            have hF_161 : F_155 ck = .inr (1, [.ref di, .ref w0, .ref w1, .ref w2, .ref w3, .ref nm, .ref te, .int ad, .int v1, .int (nI gp_143.1), .int (nI gp_143.2)]) := (hB1.2.2.2 ck (by rw [hT_ck]; simp)).trans hq_146
            generalize H1 = H at hP hS ⊢
            have hw : (r_154 = 0 ∨ r_154 = 1) := hw
            have hw_162 := hw
            refine lv_if_eq (tgt := 105) hx hb dX11_wish_98 (by decide) (fun c_163 => ?_) (fun c_163 => ?_)
            ·
              refine lv_aload_n hx hb dX11_wish_105 rfl (lv_at hl 2 rfl) ?_
              refine pg_get (ci := 11) (v := .ref po) (C := RX11) (T := TX11) (N := 9) hx hb hts it_11 hown hK hP hL_h0 hF_158 rfl 5 (by decide) (hts _ kt_534) (fun _ h9 => h9) rfl dX11_wish_106 ?_
              obtain ⟨v0_164, v1_165, v2_166, hF_167⟩ := hO.pol hi_40 ht_48
              refine pg_getN (ci := 5) (v := .int v0_164) (C := RX5) (T := TX5) (N := 7) hx hb hts it_5 hown hK hP hi_40 hF_167 rfl 4 (by decide) (hE.nest kn_35) (fun _ h9 => h9) rfl dX11_wish_109 ?_
              refine W.widen (k := 0) (n := 0) (by omega) (by omega) ?_
              exact W.iret (v := v0_164) hx hb hr (fun t ht hWm => ⟨⟨v0_164, (), rfl, trivial, ⟨F_155, gp_143.1, gp_143.2, QT.mk ht hP hD hO hR, ⟨hzt, _, hF_159⟩, hF_161⟩⟩, hS.F ht⟩) hS.2.2 dX11_wish_112
            ·
              refine lv_iconst (v := 2) hx hb dX11_wish_101 (by decide) ?_
              refine lv_goto (tgt := 112) hx hb dX11_wish_102 (by decide) ?_
              refine W.widen (k := 0) (n := 0) (by omega) (by omega) ?_
              exact W.iret (v := 2) hx hb hr (fun t ht hWm => ⟨⟨2, (), rfl, trivial, ⟨F_155, gp_143.1, gp_143.2, QT.mk ht hP hD hO hR, ⟨hzt, _, hF_159⟩, hF_161⟩⟩, hS.F ht⟩) hS.2.2 dX11_wish_112
          ·
            refine lv_aload_n hx hb dX11_wish_59 rfl (lv_at hl 1 rfl) ?_
            refine pg_get (ci := 11) (v := .ref po) (C := RX11) (T := TX11) (N := 9) hx hb hts it_11 hown hK hP hL_h0 hF_148 rfl 5 (by decide) (hts _ kt_534) (fun _ h9 => h9) rfl dX11_wish_60 ?_
            refine lv_aload_n hx hb dX11_wish_63 rfl (lv_at hl 1 rfl) ?_
            refine pg_get (ci := 11) (v := .ref ck) (C := RX11) (T := TX11) (N := 9) hx hb hts it_11 hown hK hP hL_h0 hF_148 rfl 3 (by decide) (hts _ kt_517) (fun _ h9 => h9) rfl dX11_wish_64 ?_
            refine pg_getN (ci := 1) (v := .ref w2) (C := RX1) (T := TX1) (N := 11) hx hb hts it_1 hown hK hP hL_ck hq_146 rfl 3 (by decide) (hE.nest kn_36) (fun _ h9 => h9) rfl dX11_wish_67 ?_
            refine lv_aload_n hx hb dX11_wish_70 rfl (lv_at hl 1 rfl) ?_
            refine pg_get (ci := 11) (v := .ref po) (C := RX11) (T := TX11) (N := 9) hx hb hts it_11 hown hK hP hL_h0 hF_148 rfl 5 (by decide) (hts _ kt_534) (fun _ h9 => h9) rfl dX11_wish_71 ?_
            obtain ⟨v0_168, v1_169, v2_170, hF_171⟩ := hO.pol hi_40 ht_48
            refine pg_getN (ci := 5) (v := .int v1_169) (C := RX5) (T := TX5) (N := 7) hx hb hts it_5 hown hK hP hi_40 hF_171 rfl 5 (by decide) (hE.nest kn_37) (fun _ h9 => h9) rfl dX11_wish_74 ?_
            have hFc := pg_free hD hS hA
            refine va_calli (va_runV (As := [.ref w2, .int v1_169]) (rest := []) ⟨hx, hb, hml, hown, hts⟩ (s_X5_isAligned l dC dI cs ty L H.size F_145 po (ρ + 15) di (ρ + 3) ea w0_41 w1_42 rc_43 rx_44 ry0_45 ry1_46 ry2_47 w2 (ρ + 38) r_91 60 v1_169 hW hi_40 ht_48 hi_90 ht_92) ⟨callB_of 2 hts (gi kt_535) rfl rfl rfl (hts _ kt_471) (hts _ kt_536) (by decide +kernel) ⟨Nat.le_of_ble_eq_true rfl, Nat.le_of_ble_eq_true rfl⟩, (hts _ kt_537), (hts _ kt_538)⟩ ⟨fun a U g mk q => ⟨q.1, PT.calling q.2⟩, pg_recv hK hP hi_40 hF_171 (q := (RX5, TX5, 7)) rfl, fun U hU hWm => ⟨rfl, PT.mk hU hWm hP hK hD hE hO⟩⟩ rfl rfl hl.1 rfl (lv_room (Nat.le_of_ble_eq_true rfl)) dX11_wish_77 ⟨by show _ + 0 ≤ 0; omega, by show _ + 0 ≤ 0; omega⟩) hS (fun q _ h => hFc q h) hFc (fun r_172 u t H1 locs ht hvm hw hB hz1 hk1 hS => ?_)
            obtain ⟨F_173, hB1⟩ := hB
            obtain rfl : F_145 = F_173 := (funext (fun a => hB1.2.2.2 a List.not_mem_nil)).symm
            obtain ⟨hP, hD, hO, hR⟩ := QT.back hB1 ht hFc hR (fun q h => absurd h List.not_mem_nil)
            generalize H1 = H at hP hS ⊢
            have hw : (r_172 = 0 ∨ r_172 = 1) := hw
            have hw_174 := hw
            refine lv_if_eq (tgt := 87) hx hb dX11_wish_80 (by decide) (fun c_175 => ?_) (fun c_175 => ?_)
            ·
              refine lv_iconst (v := 0) hx hb dX11_wish_87 (by decide) ?_
              refine lv_istore_n (lv' := [(3, .int 0), (2, .int r_134), (0, .ref h0), (1, .int x1)]) hx hb dX11_wish_88 rfl hl (by decide) rfl (fun ls hl => ?_)
              refine lv_iload_n hx hb dX11_wish_89 rfl (lv_at hl 0 rfl) ?_
              refine lv_if_ne (tgt := 101) hx hb dX11_wish_90 (by decide) (fun c_176 => absurd (by decide) c_176) (fun c_176 => ?_)
              refine lv_aload_n hx hb dX11_wish_93 rfl (lv_at hl 2 rfl) ?_
              refine lv_iload_n hx hb dX11_wish_94 rfl (lv_at hl 3 rfl) ?_
              have hFc := pg_free hD hS hA
              refine va_calli (va_runV (As := [.int x1]) (rest := []) ⟨hx, hb, hml, hown, hts⟩ (s_X11_hasAlignedSeal l dC dI cs ty L H.size F_145 h0 ρ ta ou di ea ck sl po hs zt x1 hW hL_h0 hT_h0 (⟨hzt, _, hF_149⟩)) ⟨callB_of 1 hts (gi kt_663) rfl rfl rfl (hts _ kt_664) (hts _ kt_665) (by decide +kernel) ⟨Nat.le_of_ble_eq_true rfl, Nat.le_of_ble_eq_true rfl⟩, (hts _ kt_666), (hts _ kt_667)⟩ ⟨fun a U g mk q => ⟨q.1, PTE.calling q.2⟩, pg_recv hK hP hL_h0 hF_148 (q := (RX11, TX11, 9)) rfl, fun U hU hWm => ⟨rfl, PTE.mk hU hWm hP hK hD hE hO hG (fun x hx => absurd hx List.not_mem_nil) hS hFc⟩⟩ rfl rfl hl.1 rfl (lv_room (Nat.le_of_ble_eq_true rfl)) dX11_wish_95 ⟨by show _ + 0 ≤ 0; omega, by show _ + 0 ≤ 0; omega⟩) hS (fun q _ h => hFc q h) hFc (fun r_177 u t H1 locs ht hvm hw hB hz1 hk1 hS => ?_)
              obtain ⟨F_178, hB1, hq_179⟩ := hB
              obtain ⟨hP, hD, hO, hR⟩ := QT.back hB1 ht hFc hR (fun q h => by simp only [mem_chS, List.mem_append, List.mem_cons, List.not_mem_nil, or_false] at h ⊢; omega)
              have hF_180 : F_178 di = .inr (2, [.ref ea, .int (nI cn)]) := (hB1.2.2.2 di (by rw [ht_8]; simp)).trans hF_147
              have hF_181 : F_178 h0 = .inr (11, [.ref ta, .ref ou, .ref di, .ref ck, .ref sl, .ref po, .ref hs, .ref le_54, .ref sp_55]) := (hB1.2.2.2 h0 (by rw [hT_h0]; simp)).trans hF_148
              have hF_182 : F_178 ta = .inr (0, [.ref r_2, .int (nI zt), .int 0]) := (hB1.2.2.2 ta (by rw [ht_3]; simp)).trans hF_149
              have hF_183 : F_178 ea = .inl (cs 21, 40, .inr (.inr (.inr (.inr f_102)))) := (hB1.2.2.2 ea (by rw [ht_101]; simp)).trans hF_150
              have hF_184 : F_178 ck = .inr (1, [.ref di, .ref w0, .ref w1, .ref w2, .ref w3, .ref nm, .ref te, .int ad, .int v1, .int (nI gp_143.1), .int (nI gp_143.2)]) := (hB1.2.2.2 ck (by rw [hT_ck]; simp)).trans hq_146
              have hF_185 : F_178 po = .inr (5, [.ref di, .ref w0_41, .ref w1_42, .ref rc_43, .int v0_168, .int v1_169, .int v2_170]) := (hB1.2.2.2 po (by rw [ht_48]; simp)).trans hF_171
              generalize H1 = H at hP hS ⊢
              have hw : (r_177 = 0 ∨ r_177 = 1) := hw
              have hw_186 := hw
              refine lv_if_eq (tgt := 105) hx hb dX11_wish_98 (by decide) (fun c_187 => ?_) (fun c_187 => ?_)
              ·
                refine lv_aload_n hx hb dX11_wish_105 rfl (lv_at hl 2 rfl) ?_
                refine pg_get (ci := 11) (v := .ref po) (C := RX11) (T := TX11) (N := 9) hx hb hts it_11 hown hK hP hL_h0 hF_181 rfl 5 (by decide) (hts _ kt_534) (fun _ h9 => h9) rfl dX11_wish_106 ?_
                refine pg_getN (ci := 5) (v := .int v0_168) (C := RX5) (T := TX5) (N := 7) hx hb hts it_5 hown hK hP hi_40 hF_185 rfl 4 (by decide) (hE.nest kn_35) (fun _ h9 => h9) rfl dX11_wish_109 ?_
                refine W.widen (k := 0) (n := 0) (by omega) (by omega) ?_
                exact W.iret (v := v0_168) hx hb hr (fun t ht hWm => ⟨⟨v0_168, (), rfl, trivial, ⟨F_178, gp_143.1, gp_143.2, QT.mk ht hP hD hO hR, ⟨hzt, _, hF_182⟩, hF_184⟩⟩, hS.F ht⟩) hS.2.2 dX11_wish_112
              ·
                refine lv_iconst (v := 2) hx hb dX11_wish_101 (by decide) ?_
                refine lv_goto (tgt := 112) hx hb dX11_wish_102 (by decide) ?_
                refine W.widen (k := 0) (n := 0) (by omega) (by omega) ?_
                exact W.iret (v := 2) hx hb hr (fun t ht hWm => ⟨⟨2, (), rfl, trivial, ⟨F_178, gp_143.1, gp_143.2, QT.mk ht hP hD hO hR, ⟨hzt, _, hF_182⟩, hF_184⟩⟩, hS.F ht⟩) hS.2.2 dX11_wish_112
            ·
              refine lv_iconst (v := 1) hx hb dX11_wish_83 (by decide) ?_
              refine lv_goto (tgt := 88) hx hb dX11_wish_84 (by decide) ?_
              refine lv_istore_n (lv' := [(3, .int 1), (2, .int r_134), (0, .ref h0), (1, .int x1)]) hx hb dX11_wish_88 rfl hl (by decide) rfl (fun ls hl => ?_)
              refine lv_iload_n hx hb dX11_wish_89 rfl (lv_at hl 0 rfl) ?_
              refine lv_if_ne (tgt := 101) hx hb dX11_wish_90 (by decide) (fun c_188 => ?_) (fun c_188 => absurd c_188 (by decide))
              refine lv_iconst (v := 2) hx hb dX11_wish_101 (by decide) ?_
              refine lv_goto (tgt := 112) hx hb dX11_wish_102 (by decide) ?_
              refine W.widen (k := 0) (n := 0) (by omega) (by omega) ?_
              exact W.iret (v := 2) hx hb hr (fun t ht hWm => ⟨⟨2, (), rfl, trivial, ⟨F_145, gp_143.1, gp_143.2, QT.mk ht hP hD hO hR, ⟨hzt, _, hF_149⟩, hq_146⟩⟩, hS.F ht⟩) hS.2.2 dX11_wish_112
        ·
          refine lv_iload_n hx hb dX11_wish_46 rfl (lv_at hl 0 rfl) ?_
          refine W.widen (k := 0) (n := 0) (by omega) (by omega) ?_
          exact W.iret (v := r_134) hx hb hr (fun t ht hWm => ⟨⟨r_134, (), rfl, trivial, ⟨F_135, cc, vo, QT.mk ht hP hD hO hR, ⟨hzt, _, hF_139⟩, hF_136⟩⟩, hS.F ht⟩) hS.2.2 dX11_wish_47
      ·
        refine lv_bipush (v := (-2)) hx hb dX11_wish_26 (by decide) ?_
        refine W.widen (k := 0) (n := 0) (by omega) (by omega) ?_
        exact W.iret (v := (-2)) hx hb hr (fun t ht hWm => ⟨⟨(-2), (), rfl, trivial, ⟨F, cc, vo, QT.mk ht hP hD hO hR, ⟨hzt, _, hts_83⟩, hFk⟩⟩, hS.F ht⟩) hS.2.2 dX11_wish_28
    ·
      refine lv_iconst (v := (-1)) hx hb dX11_wish_14 (by decide) ?_
      refine W.widen (k := 0) (n := 0) (by omega) (by omega) ?_
      exact W.iret (v := (-1)) hx hb hr (fun t ht hWm => ⟨⟨(-1), (), rfl, trivial, ⟨F, cc, vo, QT.mk ht hP hD hO hR, ⟨hzt, _, hts_83⟩, hFk⟩⟩, hS.F ht⟩) hS.2.2 dX11_wish_15
