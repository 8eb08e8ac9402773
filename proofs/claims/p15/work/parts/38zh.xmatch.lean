theorem dX1_follow_0 : decode cX1_follow 0 = .ok (.aload_n 0, 1) := by decide +kernel
theorem dX1_follow_1 : decode cX1_follow 1 = .ok (.invokevirtual 152, 3) := by decide +kernel
theorem dX1_follow_4 : decode cX1_follow 4 = .ok (.ifCond .eq 6, 3) := by decide +kernel
theorem dX1_follow_7 : decode cX1_follow 7 = .ok (.bipush 6, 2) := by decide +kernel
theorem dX1_follow_9 : decode cX1_follow 9 = .ok (.ireturn, 1) := by decide +kernel
theorem dX1_follow_10 : decode cX1_follow 10 = .ok (.aload_n 0, 1) := by decide +kernel
theorem dX1_follow_11 : decode cX1_follow 11 = .ok (.aload_n 1, 1) := by decide +kernel
theorem dX1_follow_12 : decode cX1_follow 12 = .ok (.iload_n 2, 1) := by decide +kernel
theorem dX1_follow_13 : decode cX1_follow 13 = .ok (.invokevirtual 156, 3) := by decide +kernel
theorem dX1_follow_16 : decode cX1_follow 16 = .ok (.aload_n 0, 1) := by decide +kernel
theorem dX1_follow_17 : decode cX1_follow 17 = .ok (.iload_n 2, 1) := by decide +kernel
theorem dX1_follow_18 : decode cX1_follow 18 = .ok (.iconst 1, 1) := by decide +kernel
theorem dX1_follow_19 : decode cX1_follow 19 = .ok (.iadd, 1) := by decide +kernel
theorem dX1_follow_20 : decode cX1_follow 20 = .ok (.invokevirtual 101, 3) := by decide +kernel
theorem dX1_follow_23 : decode cX1_follow 23 = .ok (.istore_n 3, 1) := by decide +kernel
theorem dX1_follow_24 : decode cX1_follow 24 = .ok (.iload_n 3, 1) := by decide +kernel
theorem dX1_follow_25 : decode cX1_follow 25 = .ok (.ifCond .ne 8, 3) := by decide +kernel
theorem dX1_follow_28 : decode cX1_follow 28 = .ok (.bipush 6, 2) := by decide +kernel
theorem dX1_follow_30 : decode cX1_follow 30 = .ok (.goto 4, 3) := by decide +kernel
theorem dX1_follow_33 : decode cX1_follow 33 = .ok (.iload_n 3, 1) := by decide +kernel
theorem dX1_follow_34 : decode cX1_follow 34 = .ok (.ireturn, 1) := by decide +kernel
theorem dX1_match_0 : decode cX1_match 0 = .ok (.aload_n 0, 1) := by decide +kernel
theorem dX1_match_1 : decode cX1_match 1 = .ok (.getfield 35, 3) := by decide +kernel
theorem dX1_match_4 : decode cX1_match 4 = .ok (.iload_n 2, 1) := by decide +kernel
theorem dX1_match_5 : decode cX1_match 5 = .ok (.aaload, 1) := by decide +kernel
theorem dX1_match_6 : decode cX1_match 6 = .ok (.astore_n 3, 1) := by decide +kernel
theorem dX1_match_7 : decode cX1_match 7 = .ok (.aload_n 3, 1) := by decide +kernel
theorem dX1_match_8 : decode cX1_match 8 = .ok (.getfield 149, 3) := by decide +kernel
theorem dX1_match_11 : decode cX1_match 11 = .ok (.iconst 1, 1) := by decide +kernel
theorem dX1_match_12 : decode cX1_match 12 = .ok (.if_icmp .ne 5, 3) := by decide +kernel
theorem dX1_match_15 : decode cX1_match 15 = .ok (.iconst 2, 1) := by decide +kernel
theorem dX1_match_16 : decode cX1_match 16 = .ok (.ireturn, 1) := by decide +kernel
theorem dX1_match_17 : decode cX1_match 17 = .ok (.aload_n 3, 1) := by decide +kernel
theorem dX1_match_18 : decode cX1_match 18 = .ok (.getfield 149, 3) := by decide +kernel
theorem dX1_match_21 : decode cX1_match 21 = .ok (.iconst 5, 1) := by decide +kernel
theorem dX1_match_22 : decode cX1_match 22 = .ok (.if_icmp .ne 27, 3) := by decide +kernel
theorem dX1_match_25 : decode cX1_match 25 = .ok (.aload_n 0, 1) := by decide +kernel
theorem dX1_match_26 : decode cX1_match 26 = .ok (.getfield 39, 3) := by decide +kernel
theorem dX1_match_29 : decode cX1_match 29 = .ok (.aload_n 3, 1) := by decide +kernel
theorem dX1_match_30 : decode cX1_match 30 = .ok (.getfield 160, 3) := by decide +kernel
theorem dX1_match_33 : decode cX1_match 33 = .ok (.aload_n 3, 1) := by decide +kernel
theorem dX1_match_34 : decode cX1_match 34 = .ok (.getfield 161, 3) := by decide +kernel
theorem dX1_match_37 : decode cX1_match 37 = .ok (.invokestatic 164, 3) := by decide +kernel
theorem dX1_match_40 : decode cX1_match 40 = .ok (.ifCond .eq 7, 3) := by decide +kernel
theorem dX1_match_43 : decode cX1_match 43 = .ok (.iconst 2, 1) := by decide +kernel
theorem dX1_match_44 : decode cX1_match 44 = .ok (.goto 4, 3) := by decide +kernel
theorem dX1_match_47 : decode cX1_match 47 = .ok (.iconst 0, 1) := by decide +kernel
theorem dX1_match_48 : decode cX1_match 48 = .ok (.ireturn, 1) := by decide +kernel
theorem dX1_match_49 : decode cX1_match 49 = .ok (.aload_n 3, 1) := by decide +kernel
theorem dX1_match_50 : decode cX1_match 50 = .ok (.getfield 149, 3) := by decide +kernel
theorem dX1_match_53 : decode cX1_match 53 = .ok (.bipush 7, 2) := by decide +kernel
theorem dX1_match_55 : decode cX1_match 55 = .ok (.if_icmp .eq 12, 3) := by decide +kernel
theorem dX1_match_58 : decode cX1_match 58 = .ok (.aload_n 3, 1) := by decide +kernel
theorem dX1_match_59 : decode cX1_match 59 = .ok (.getfield 149, 3) := by decide +kernel
theorem dX1_match_62 : decode cX1_match 62 = .ok (.bipush 8, 2) := by decide +kernel
theorem dX1_match_64 : decode cX1_match 64 = .ok (.if_icmp .ne 5, 3) := by decide +kernel
theorem dX1_match_67 : decode cX1_match 67 = .ok (.iconst 0, 1) := by decide +kernel
theorem dX1_match_68 : decode cX1_match 68 = .ok (.ireturn, 1) := by decide +kernel
theorem dX1_match_69 : decode cX1_match 69 = .ok (.aload_n 0, 1) := by decide +kernel
theorem dX1_match_70 : decode cX1_match 70 = .ok (.invokevirtual 152, 3) := by decide +kernel
theorem dX1_match_73 : decode cX1_match 73 = .ok (.ifCond .eq 6, 3) := by decide +kernel
theorem dX1_match_76 : decode cX1_match 76 = .ok (.bipush 6, 2) := by decide +kernel
theorem dX1_match_78 : decode cX1_match 78 = .ok (.ireturn, 1) := by decide +kernel
theorem dX1_match_79 : decode cX1_match 79 = .ok (.aload_n 0, 1) := by decide +kernel
theorem dX1_match_80 : decode cX1_match 80 = .ok (.aload_n 1, 1) := by decide +kernel
theorem dX1_match_81 : decode cX1_match 81 = .ok (.iload_n 2, 1) := by decide +kernel
theorem dX1_match_82 : decode cX1_match 82 = .ok (.invokevirtual 156, 3) := by decide +kernel
theorem dX1_match_85 : decode cX1_match 85 = .ok (.aload_n 3, 1) := by decide +kernel
theorem dX1_match_86 : decode cX1_match 86 = .ok (.getfield 149, 3) := by decide +kernel
theorem dX1_match_89 : decode cX1_match 89 = .ok (.iconst 2, 1) := by decide +kernel
theorem dX1_match_90 : decode cX1_match 90 = .ok (.if_icmp .eq 17, 3) := by decide +kernel
theorem dX1_match_93 : decode cX1_match 93 = .ok (.aload_n 0, 1) := by decide +kernel
theorem dX1_match_94 : decode cX1_match 94 = .ok (.aload_n 3, 1) := by decide +kernel
theorem dX1_match_95 : decode cX1_match 95 = .ok (.aload_n 0, 1) := by decide +kernel
theorem dX1_match_96 : decode cX1_match 96 = .ok (.getfield 29, 3) := by decide +kernel
theorem dX1_match_99 : decode cX1_match 99 = .ok (.iload_n 2, 1) := by decide +kernel
theorem dX1_match_100 : decode cX1_match 100 = .ok (.iconst 1, 1) := by decide +kernel
theorem dX1_match_101 : decode cX1_match 101 = .ok (.iadd, 1) := by decide +kernel
theorem dX1_match_102 : decode cX1_match 102 = .ok (.aaload, 1) := by decide +kernel
theorem dX1_match_103 : decode cX1_match 103 = .ok (.invokevirtual 168, 3) := by decide +kernel
theorem dX1_match_106 : decode cX1_match 106 = .ok (.ireturn, 1) := by decide +kernel
theorem dX1_match_107 : decode cX1_match 107 = .ok (.aload_n 0, 1) := by decide +kernel
theorem dX1_match_108 : decode cX1_match 108 = .ok (.iload_n 2, 1) := by decide +kernel
theorem dX1_match_109 : decode cX1_match 109 = .ok (.iconst 1, 1) := by decide +kernel
theorem dX1_match_110 : decode cX1_match 110 = .ok (.iadd, 1) := by decide +kernel
theorem dX1_match_111 : decode cX1_match 111 = .ok (.invokevirtual 101, 3) := by decide +kernel
theorem dX1_match_114 : decode cX1_match 114 = .ok (.istore 4, 2) := by decide +kernel
theorem dX1_match_116 : decode cX1_match 116 = .ok (.iload 4, 2) := by decide +kernel
theorem dX1_match_118 : decode cX1_match 118 = .ok (.iconst 1, 1) := by decide +kernel
theorem dX1_match_119 : decode cX1_match 119 = .ok (.if_icmp .eq 15, 3) := by decide +kernel
theorem dX1_match_122 : decode cX1_match 122 = .ok (.iload 4, 2) := by decide +kernel
theorem dX1_match_124 : decode cX1_match 124 = .ok (.iconst 4, 1) := by decide +kernel
theorem dX1_match_125 : decode cX1_match 125 = .ok (.if_icmp .eq 9, 3) := by decide +kernel
theorem dX1_match_128 : decode cX1_match 128 = .ok (.iload 4, 2) := by decide +kernel
theorem dX1_match_130 : decode cX1_match 130 = .ok (.iconst 3, 1) := by decide +kernel
theorem dX1_match_131 : decode cX1_match 131 = .ok (.if_icmp .ne 5, 3) := by decide +kernel
theorem dX1_match_134 : decode cX1_match 134 = .ok (.iconst 0, 1) := by decide +kernel
theorem dX1_match_135 : decode cX1_match 135 = .ok (.ireturn, 1) := by decide +kernel
theorem dX1_match_136 : decode cX1_match 136 = .ok (.iload 4, 2) := by decide +kernel
theorem dX1_match_138 : decode cX1_match 138 = .ok (.ifCond .ne 8, 3) := by decide +kernel
theorem dX1_match_141 : decode cX1_match 141 = .ok (.bipush 6, 2) := by decide +kernel
theorem dX1_match_143 : decode cX1_match 143 = .ok (.goto 5, 3) := by decide +kernel
theorem dX1_match_146 : decode cX1_match 146 = .ok (.iload 4, 2) := by decide +kernel
theorem dX1_match_148 : decode cX1_match 148 = .ok (.ireturn, 1) := by decide +kernel
theorem kt_619 : Cond.code yX1_isCountedOut cX1_isCountedOut 1 (some .boolean) ∈ tb := tb_at (i := 737) (by decide +kernel) (by decide +kernel)
theorem kt_620 : Cond.methodLink RX1 152 yX1_isCountedOut ∈ tb := tb_at (i := 734) (by decide +kernel) (by decide +kernel)
theorem kt_621 : Cond.instanceMethod yX1_isCountedOut ∈ tb := tb_at (i := 736) (by decide +kernel) (by decide +kernel)
theorem kt_622 : Cond.selects RX1 yX1_isCountedOut yX1_isCountedOut ∈ tb := tb_at (i := 6) (by decide +kernel) (by decide +kernel)
theorem kt_623 : Cond.code yX1_expand cX1_expand 8 none ∈ tb := tb_at (i := 741) (by decide +kernel) (by decide +kernel)
theorem kt_624 : Cond.methodLink RX1 156 yX1_expand ∈ tb := tb_at (i := 738) (by decide +kernel) (by decide +kernel)
theorem kt_625 : Cond.instanceMethod yX1_expand ∈ tb := tb_at (i := 740) (by decide +kernel) (by decide +kernel)
theorem kt_626 : Cond.selects RX1 yX1_expand yX1_expand ∈ tb := tb_at (i := 7) (by decide +kernel) (by decide +kernel)
theorem kt_627 : Cond.code yX1_check cX1_check 8 (some .int) ∈ tb := tb_at (i := 600) (by decide +kernel) (by decide +kernel)
theorem kt_628 : Cond.methodLink RX1 101 yX1_check ∈ tb := tb_at (i := 597) (by decide +kernel) (by decide +kernel)
theorem kt_629 : Cond.instanceMethod yX1_check ∈ tb := tb_at (i := 599) (by decide +kernel) (by decide +kernel)
theorem kt_630 : Cond.selects RX1 yX1_check yX1_check ∈ tb := tb_at (i := 1) (by decide +kernel) (by decide +kernel)
theorem kt_631 : Cond.code yX1_look cX1_look 3 (some .int) ∈ tb := tb_at (i := 768) (by decide +kernel) (by decide +kernel)
theorem kt_632 : Cond.methodLink RX1 168 yX1_look ∈ tb := tb_at (i := 765) (by decide +kernel) (by decide +kernel)
theorem kt_633 : Cond.instanceMethod yX1_look ∈ tb := tb_at (i := 767) (by decide +kernel) (by decide +kernel)
theorem kt_634 : Cond.selects RX1 yX1_look yX1_look ∈ tb := tb_at (i := 10) (by decide +kernel) (by decide +kernel)
theorem kt_635 : Cond.methodLink RX1 164 yX10_isSameNet ∈ tb := tb_at (i := 731) (by decide +kernel) (by decide +kernel)
theorem kn_32 : Cond.fieldLinkNest RX1 160 "PostGate$Term" "address" "I" "PostGate" ∈ nw := nw_at (i := 127) (by decide +kernel) rfl
theorem lkw_u {D : Nat → ETY} {ze : Nat} {oo : Int32} {y : Nat} {fa : Nat → Int32} {ad : Int32} {w k vo : Nat} {U : List Nat} (h : TGA U 60 y oo fa) : lkW D ze oo y fa ad w k vo = lkU D ze ad U w k vo := by
  obtain ⟨h1, h2, h3⟩ := h
  have e1 : y = yU U := h1
  have e2 : oo = ooU U := h2
  subst e1
  subst e2
  have hc : ∀ j, j < yU U → fa j = faU U j := h3
  unfold lkU lkW
  rw [lew_cg hc]
  by_cases c1 : HAS D ze 3 (ooU U) (yU U) fa
  · rw [if_pos c1, if_pos ((has_cg hc).mp c1)]
  · rw [if_neg c1, if_neg (fun q => c1 ((has_cg hc).mpr q))]
    by_cases c2 : HAS D ze (skW k) (ooU U) (yU U) fa
    · rw [if_pos c2, if_pos ((has_cg hc).mp c2)]
      by_cases c3 : k = 4
      · rw [if_pos c3, if_pos c3]
      · rw [if_neg c3, if_neg c3]
        by_cases c4 : k = 6 ∨ HAD D ze ad w (ooU U) (yU U) fa
        · rw [if_pos c4, if_pos (c4.imp id (had_cg hc).mp)]
        · rw [if_neg c4, if_neg (fun q => c4 (q.imp id (had_cg hc).mpr))]
    · rw [if_neg c2, if_neg (fun q => c2 ((has_cg hc).mpr q))]
set_option maxHeartbeats 4000000 in
set_option maxRecDepth 100000 in
theorem s_X1_match_e (l : Launch) (dC : Nat → ClassId) (dI : Nat → Nat → Nat) (cs : Nat → ClassId) (ty : TyM) (L : List Nat) (sz : Nat) (F : Nat → va_E) (h0 : Nat) (ρ : Nat) (d : Nat) (δ : Nat) (ea : Nat) (w0 : Nat) (w1 : Nat) (w2 : Nat) (w3 : Nat) (nm : Nat) (te : Nat) (g1 : Nat) (σ : Nat) (r1 : Nat) (n1 : Nat) (lv : Nat) (fr : Nat) (lo : Nat) (z : Nat) (k1 : Nat) (k2 : Nat) (k3 : Nat) (k4 : Nat) (w : Nat) (f : Nat → Int32) (cc : Nat) (vo : Nat) (ad : Int32) (v1 : Int32) (cn : Nat) (D : Nat → ETY) (SD : SDR) (R : CKR) (U : List Nat) (xa : Int32) (hW : WT ty L) (hL_h0 : h0 ∈ L) (hT_h0 : ty h0 = (1, ρ, [d, δ, ea, w0, w1, w2, w3, nm, te])) (hL_g1 : g1 ∈ L) (hT_g1 : ty g1 = (0, σ, [r1, n1])) (hFg : F g1 = .inr (0, [.ref r1, .int (nI z), .int 0])) (hFr : F r1 = .inl (cs 16, n1, .inl f)) (hzn : z ≤ n1) (hn9 : n1 ≤ 10000) (hsr : ρ + 98 ≤ σ) (hdl : δ + 2 = ρ) (hlv : lv ≤ 10) (hcn : cn ≤ 40) (hFh : F h0 = .inr (1, [.ref d, .ref w0, .ref w1, .ref w2, .ref w3, .ref nm, .ref te, .int ad, .int v1, .int (nI cc), .int (nI vo)])) (hFd : F d = .inr (2, [.ref ea, .int (nI cn)])) (hDI : DIRC cs F ea cn D) (hSD : SNP cs F w0 w1 w2 w3 SD) (hND : NME cs F nm lv U) (hw9 : w ≤ 32) (hk8 : 1 ≤ k1 ∧ k1 ≤ 8) (hk34 : k3 ≤ k4) (hk49 : k4 ≤ 8000) (hlc : lv ≤ cc) (hc10 : cc ≤ 10) (hvo : vo ≤ cc) (hTM : TMS cs F te lv k1 k2 k3 k4 (nI w) xa) (hC : ∀ (sz : Nat) (F : Nat → va_E) (U : List Nat) (cc vo : Nat), (F h0 = .inr (1, [.ref d, .ref w0, .ref w1, .ref w2, .ref w3, .ref nm, .ref te, .int ad, .int v1, .int (nI cc), .int (nI vo)])) → (F d = .inr (2, [.ref ea, .int (nI cn)])) → (DIRC cs F ea cn D) → (SNP cs F w0 w1 w2 w3 SD) → (NMG cs F nm (lv + 1) U) → (lv + 1 ≤ cc) → (cc ≤ 10) → (vo ≤ cc) → (A8 U) → Met l yX1_check (.code yX1_check cX1_check 8 (some .int) :: tb) ({ frames := fr + 0, cells := 0, slots := 0, locals := lo + 0 }) (va_Pc [.ref h0, .int (nI (lv + 1))] (PTE (dC, dI) cs ty L F sz [])) (va_Qi (fun (r : Int32) (gp : Nat × Nat) => (r = nI (R U cc vo).1 ∧ gp = (R U cc vo).2)) (fun (gp : Nat × Nat) T9 => ∃ F2 : Nat → va_E, QT (dC, dI) cs ty L (chS ρ (lv + 2) (lv + 1)) F F2 (va_A (va_pl L F) sz) T9 ∧ F2 h0 = .inr (1, [.ref d, .ref w0, .ref w1, .ref w2, .ref w3, .ref nm, .ref te, .int ad, .int v1, .int (nI gp.1), .int (nI gp.2)])) (va_A (va_pl L F) sz)) 0 0 (va_A (va_pl L F) sz)) (hH : (k1 = 2 ∨ k1 = 3 ∨ k1 = 4 ∨ k1 = 6) → k3 = k4 ∨ HSW (TC f z) k3 k4) (hRb : ∀ U c v, (R U c v).1 < 2 ^ 31) : Met l yX1_match (.code yX1_match cX1_match 5 (some .int) :: tb) ({ frames := fr + 7, cells := 0, slots := 0, locals := lo + 161 }) (va_Pc [.ref h0, .ref g1, .int (nI lv)] (PTE (dC, dI) cs ty L F sz [])) (va_Qi (fun (r : Int32) (gp : Nat × Nat) => (r = nI (mtW D cn SD ad R (TC f z) U (k1, k2, k3, k4, w, xa) cc vo).1 ∧ gp = (mtW D cn SD ad R (TC f z) U (k1, k2, k3, k4, w, xa) cc vo).2)) (fun (gp : Nat × Nat) T9 => ∃ F2 : Nat → va_E, QT (dC, dI) cs ty L (chS ρ (lv + 1) (lv + 1)) F F2 (va_A (va_pl L F) sz) T9 ∧ F2 h0 = .inr (1, [.ref d, .ref w0, .ref w1, .ref w2, .ref w3, .ref nm, .ref te, .int ad, .int v1, .int (nI gp.1), .int (nI gp.2)])) (va_A (va_pl L F) sz)) 0 0 (va_A (va_pl L F) sz) := by
  refine Met.ofW (cc := cX1_match) (maxL := 5) (ret := (some .int)) (by decide) rfl ?_
  intro p e s m args below meth c s₁ B hml hv
  obtain ⟨rfl, ⟨hsz, hP, hK, hD0, hE, hO⟩, hG, hX⟩ := hv
  have hx := B.exec
  have hb := B.bytes
  have hr := B.returns
  have hts : ∀ w ∈ tb, w.before _ s = true := fun w h => atoms_spec (ws := .code yX1_match cX1_match 5 (some .int) :: tb) B.pre w (List.mem_cons_of_mem _ h)
  have hown : s.vm.findClass RX1 = some m.cls := findClass_of_methodNamed B.named
  have hlocks := B.notSynchronized
  subst hsz
  have hD := hD0.self (sz := s.heap.size)
  generalize hAe : va_A (va_pl L F) s.heap.size = A at hD hG hX ⊢
  have hA : ∀ q : Nat, s.heap.size ≤ q → A q := fun q h => by rw [← hAe]; exact Or.inr h
  have hS : va_S A s.heap s.heap [] := va_S.rf
  have hR : FR ty (chS ρ (lv + 1) (lv + 1)) F F := FR.refl
  have hl := lv_entry ([.ref h0, .ref g1, .int (nI lv)]) (n := 5) (Nat.le_of_ble_eq_true rfl)
  rw [lg_entry_eq]
  generalize (lg_sl ([.ref h0, .ref g1, .int (nI lv)]) ++ List.replicate (5 - (lg_sl ([.ref h0, .ref g1, .int (nI lv)])).length) Slot.unset).toArray = ls at hl ⊢
  have hl : lv_has ls 5 [(0, .ref h0), (1, .ref g1), (2, .int (nI lv))] := hl
  obtain ⟨hi_1, ht_2, hi_3, ⟨r_4, ht_5⟩, hi_6, ⟨r_7, ht_8⟩, hi_9, ⟨r_10, ht_11⟩, hi_12, ⟨r_13, ht_14⟩, hi_15, ht_16, hi_17, ht_18⟩ := hW.chk hL_h0 hT_h0
  obtain ⟨f_19, hF_20, hq_21⟩ := hO.rbytes hi_15 ht_16
  obtain ⟨f_22, hF_23, hq_24⟩ := hO.rterm hi_17 ht_18
  obtain ⟨hi_25, ht_26⟩ := hW.dir hi_1 ht_2
  obtain ⟨f_27, hF_28, hq_29⟩ := hO.rentry hi_25 ht_26
  obtain ⟨hi_30, ht_31, hq_32⟩ := hW.bytes hL_g1 hT_g1
  have hO0 := hO
  have hn0 := hF_20
  have he0 := hF_28
  refine lv_aload_n hx hb dX1_match_0 rfl (lv_at hl 0 rfl) ?_
  refine pg_get (ci := 1) (v := .ref te) (C := RX1) (T := TX1) (N := 11) hx hb hts it_1 hown hK hP hL_h0 hFh rfl 6 (by decide) (hts _ kt_579) (fun _ h9 => h9) rfl dX1_match_1 ?_
  refine lv_iload_n hx hb dX1_match_4 rfl (lv_at hl 2 rfl) ?_
  obtain ⟨b_33, hbf_34, hi_35, ht_36⟩ := hq_24 lv (by omega)
  refine pg_aald (r := b_33) hx hb hK hP hi_17 6 hF_23 rfl (vp_in_nI (by omega) (by omega)) (show f_22 ((nI lv) : Int32).toNatClampNeg = _ from by rw [show ((nI lv) : Int32) = nI lv from rfl, nI_clamp (by omega)]; exact hbf_34) dX1_match_5 ?_
  have htm := hTM.get hF_23 hbf_34
  refine lv_astore_n (lv' := [(3, .ref b_33), (0, .ref h0), (1, .ref g1), (2, .int (nI lv))]) hx hb dX1_match_6 rfl hl (by decide) rfl (fun ls hl => ?_)
  refine lv_aload_n hx hb dX1_match_7 rfl (lv_at hl 0 rfl) ?_
  refine pg_getN (ci := 10) (v := .int (nI k1)) (C := RX10) (T := TX10) (N := 6) hx hb hts it_10 hown hK hP hi_35 htm rfl 0 (by decide) (hE.nest kn_26) (fun _ h9 => h9) rfl dX1_match_8 ?_
  refine lv_iconst (v := 1) hx hb dX1_match_11 (by decide) ?_
  refine lv_icmp_ne (tgt := 17) hx hb dX1_match_12 (by decide) (fun c_37 => ?_) (fun c_37 => ?_)
  ·
    have hq1 : ¬ k1 = 1 := fun q => c_37 (by rw [q]; rfl)
    refine lv_aload_n hx hb dX1_match_17 rfl (lv_at hl 0 rfl) ?_
    refine pg_getN (ci := 10) (v := .int (nI k1)) (C := RX10) (T := TX10) (N := 6) hx hb hts it_10 hown hK hP hi_35 htm rfl 0 (by decide) (hE.nest kn_26) (fun _ h9 => h9) rfl dX1_match_18 ?_
    refine lv_iconst (v := 5) hx hb dX1_match_21 (by decide) ?_
    refine lv_icmp_ne (tgt := 49) hx hb dX1_match_22 (by decide) (fun c_39 => ?_) (fun c_39 => ?_)
    ·
      have hq5 : ¬ k1 = 5 := fun q => c_39 (by rw [q]; rfl)
      refine lv_aload_n hx hb dX1_match_49 rfl (lv_at hl 0 rfl) ?_
      refine pg_getN (ci := 10) (v := .int (nI k1)) (C := RX10) (T := TX10) (N := 6) hx hb hts it_10 hown hK hP hi_35 htm rfl 0 (by decide) (hE.nest kn_26) (fun _ h9 => h9) rfl dX1_match_50 ?_
      refine lv_bipush (v := 7) hx hb dX1_match_53 (by decide) ?_
      refine lv_icmp_eq (tgt := 67) hx hb dX1_match_55 (by decide) (fun c_41 => ?_) (fun c_41 => ?_)
      ·
        have hq7 : k1 = 7 := (nI_eq (b := 7) (by omega) (by omega)).mp c_41
        refine lv_iconst (v := 0) hx hb dX1_match_67 (by decide) ?_
        refine W.widen (k := 0) (n := 0) (by omega) (by omega) ?_
        exact W.iret (v := 0) hx hb hr (fun t ht hWm => ⟨⟨0, (cc, vo), rfl, (by unfold mtW; rw [if_neg (show ¬ (k1, k2, k3, k4, w, xa).1 = 1 from hq1), if_neg (show ¬ (k1, k2, k3, k4, w, xa).1 = 5 from hq5), if_pos (show (k1, k2, k3, k4, w, xa).1 = 7 ∨ (k1, k2, k3, k4, w, xa).1 = 8 from Or.inl hq7)]; exact ⟨rfl, rfl⟩), ⟨F, QT.mk ht hP hD hO hR, hFh⟩⟩, hS.F ht⟩) hS.2.2 dX1_match_68
      ·
        have hq7 : ¬ k1 = 7 := fun q => c_41 (by rw [q]; rfl)
        refine lv_aload_n hx hb dX1_match_58 rfl (lv_at hl 0 rfl) ?_
        refine pg_getN (ci := 10) (v := .int (nI k1)) (C := RX10) (T := TX10) (N := 6) hx hb hts it_10 hown hK hP hi_35 htm rfl 0 (by decide) (hE.nest kn_26) (fun _ h9 => h9) rfl dX1_match_59 ?_
        refine lv_bipush (v := 8) hx hb dX1_match_62 (by decide) ?_
        refine lv_icmp_ne (tgt := 69) hx hb dX1_match_64 (by decide) (fun c_44 => ?_) (fun c_44 => ?_)
        ·
          have hq8 : ¬ k1 = 8 := fun q => c_44 (by rw [q]; rfl)
          refine lv_aload_n hx hb dX1_match_69 rfl (lv_at hl 1 rfl) ?_
          have hFc := pg_free hD hS hA
          refine va_calli (va_runV (As := []) (rest := []) ⟨hx, hb, hml, hown, hts⟩ (s_X1_isCountedOut_e l dC dI cs ty L s.heap.size F h0 ρ d δ ea w0 w1 w2 w3 nm te cc vo ad v1 hW hL_h0 hT_h0 hFh (by omega)) ⟨callB_of 0 hts (gi kt_619) rfl rfl rfl (hts _ kt_572) (hts _ kt_620) (by decide +kernel) ⟨Nat.le_of_ble_eq_true rfl, Nat.le_of_ble_eq_true rfl⟩, (hts _ kt_621), (hts _ kt_622)⟩ ⟨fun a U g mk q => ⟨q.1, PT.calling q.2⟩, pg_recv hK hP hL_h0 hFh (q := (RX1, TX1, 11)) rfl, fun U hU hWm => ⟨rfl, PT.mk hU hWm hP hK hD hE hO⟩⟩ rfl rfl hl.1 rfl (lv_room (Nat.le_of_ble_eq_true rfl)) dX1_match_70 ⟨by show _ + 0 ≤ 0; omega, by show _ + 0 ≤ 0; omega⟩) hS (fun q _ h => hFc q h) hFc (fun r_46 u t H1 locs ht hvm hw hB hz1 hk1 hS => ?_)
          obtain ⟨F_47, hB1, hq_48⟩ := hB
          obtain ⟨hP, hD, hO, hR⟩ := QT.back hB1 ht hFc hR (fun q h => by simp only [mem_chS, List.mem_cons, List.not_mem_nil, or_false] at h ⊢; omega)
          have hF_49 : F_47 g1 = .inr (0, [.ref r1, .int (nI z), .int 0]) := (hB1.2.2.2 g1 (by rw [hT_g1]; simp only [mem_chS, List.mem_cons, List.not_mem_nil, or_false]; omega)).trans hFg
          have hF_50 : F_47 r1 = .inl (cs 16, n1, .inl f) := (hB1.2.2.2 r1 (by rw [ht_31]; simp only [mem_chS, List.mem_cons, List.not_mem_nil, or_false]; omega)).trans hFr
          have hF_51 : F_47 d = .inr (2, [.ref ea, .int (nI cn)]) := (hB1.2.2.2 d (by rw [ht_2]; simp only [mem_chS, List.mem_cons, List.not_mem_nil, or_false]; omega)).trans hFd
          have hF_52 : F_47 nm = .inl (cs 20, 12, .inr (.inr (.inr (.inr f_19)))) := (hB1.2.2.2 nm (by rw [ht_16]; simp)).trans hF_20
          have hF_53 : F_47 te = .inl (cs 22, 11, .inr (.inr (.inr (.inr f_22)))) := (hB1.2.2.2 te (by rw [ht_18]; simp)).trans hF_23
          have hF_54 : F_47 ea = .inl (cs 21, 40, .inr (.inr (.inr (.inr f_27)))) := (hB1.2.2.2 ea (by rw [ht_26]; simp only [mem_chS, List.mem_cons, List.not_mem_nil, or_false]; omega)).trans hF_28
          have hF_55 : F_47 b_33 = .inr (10, [.int (nI k1), .int (nI k2), .int (nI k3), .int (nI k4), .int (nI w), .int xa]) := (hB1.2.2.2 b_33 (by rw [ht_36]; simp only [mem_chS, List.mem_cons, List.not_mem_nil, or_false]; omega)).trans htm
          generalize H1 = H at hP hS ⊢
          have hw : (r_46 = 1 ∧ 10 < cc + 1) ∨ (r_46 = 0 ∧ ¬ 10 < cc + 1) := hw
          have hw_56 := hw
          refine lv_if_eq (tgt := 79) hx hb dX1_match_73 (by decide) (fun c_57 => ?_) (fun c_57 => ?_)
          ·
            have hc9 : ¬ 10 < cc + 1 := orp0 hw_56 c_57
            have hSDb := hSD.fr hO0 hW hi_3 ht_5 hi_6 ht_8 hi_9 ht_11 hi_12 ht_14 hR (fun k9 h1 h2 => by simp only [mem_chS, List.mem_cons, List.not_mem_nil, or_false]; omega)
            obtain ⟨b_58, r_59, hbf_60, hi_61, ht_62⟩ := hq_21 lv (by omega)
            have hNDb := hND.fr hn0 hF_52 hbf_60 hO0 hW hi_61 ht_62 hR (by simp only [mem_chS, List.mem_cons, List.not_mem_nil, or_false]; omega)
            refine lv_aload_n hx hb dX1_match_79 rfl (lv_at hl 1 rfl) ?_
            refine lv_aload_n hx hb dX1_match_80 rfl (lv_at hl 2 rfl) ?_
            refine lv_iload_n hx hb dX1_match_81 rfl (lv_at hl 3 rfl) ?_
            have hFc := pg_free hD hS hA
            refine va_callv (va_runV (As := [.ref g1, .int (nI lv)]) (rest := []) ⟨hx, hb, hml, hown, hts⟩ (s_X1_expand_e l dC dI cs ty L H.size F_47 h0 ρ d δ ea w0 w1 w2 w3 nm te g1 σ r1 n1 z lv k1 k2 k3 k4 f SD U (nI w) xa hW hL_h0 hT_h0 hL_g1 hT_g1 hF_49 hF_50 (by omega) (by omega) (hsr) (hlv) (hk34) (hk49) (hH (by omega)) (⟨_, _, hF_53, hbf_34, hF_55⟩) (hSDb) (hNDb)) ⟨callB_of 2 hts (gi kt_623) rfl rfl rfl (hts _ kt_572) (hts _ kt_624) (by decide +kernel) ⟨Nat.le_of_ble_eq_true rfl, Nat.le_of_ble_eq_true rfl⟩, (hts _ kt_625), (hts _ kt_626)⟩ ⟨fun a U g mk q => ⟨q.1, PTE.calling q.2⟩, pg_recv hK hP hL_h0 hq_48 (q := (RX1, TX1, 11)) rfl, fun U hU hWm => ⟨rfl, PTE.mk hU hWm hP hK hD hE hO hG (fun x hx => absurd hx List.not_mem_nil) hS hFc⟩⟩ rfl rfl hl.1 rfl (lv_room (Nat.le_of_ble_eq_true rfl)) dX1_match_82 ⟨by show _ + 0 ≤ 0; omega, by show _ + 0 ≤ 0; omega⟩) hS (fun q _ h => hFc q h) hFc (fun u t H1 locs ht hvm hw hB hz1 hk1 hS => ?_)
            obtain ⟨F_64, hB1, hq_65⟩ := hB
            obtain ⟨hP, hD, hO, hR⟩ := QT.back hB1 ht hFc hR (fun q h => by simp only [mem_chS, List.mem_cons, List.not_mem_nil, or_false] at h ⊢; omega)
            have hF_66 : F_64 g1 = .inr (0, [.ref r1, .int (nI z), .int 0]) := (hB1.2.2.2 g1 (by rw [hT_g1]; simp only [mem_chS, List.mem_cons, List.not_mem_nil, or_false]; omega)).trans hF_49
            have hF_67 : F_64 r1 = .inl (cs 16, n1, .inl f) := (hB1.2.2.2 r1 (by rw [ht_31]; simp only [mem_chS, List.mem_cons, List.not_mem_nil, or_false]; omega)).trans hF_50
            have hF_68 : F_64 d = .inr (2, [.ref ea, .int (nI cn)]) := (hB1.2.2.2 d (by rw [ht_2]; simp only [mem_chS, List.mem_cons, List.not_mem_nil, or_false]; omega)).trans hF_51
            have hF_69 : F_64 nm = .inl (cs 20, 12, .inr (.inr (.inr (.inr f_19)))) := (hB1.2.2.2 nm (by rw [ht_16]; simp only [mem_chS, List.mem_cons, List.not_mem_nil, or_false]; omega)).trans hF_52
            have hF_70 : F_64 te = .inl (cs 22, 11, .inr (.inr (.inr (.inr f_22)))) := (hB1.2.2.2 te (by rw [ht_18]; simp only [mem_chS, List.mem_cons, List.not_mem_nil, or_false]; omega)).trans hF_53
            have hF_71 : F_64 ea = .inl (cs 21, 40, .inr (.inr (.inr (.inr f_27)))) := (hB1.2.2.2 ea (by rw [ht_26]; simp only [mem_chS, List.mem_cons, List.not_mem_nil, or_false]; omega)).trans hF_54
            have hF_72 : F_64 b_33 = .inr (10, [.int (nI k1), .int (nI k2), .int (nI k3), .int (nI k4), .int (nI w), .int xa]) := (hB1.2.2.2 b_33 (by rw [ht_36]; simp only [mem_chS, List.mem_cons, List.not_mem_nil, or_false]; omega)).trans hF_55
            have hF_73 : F_64 h0 = .inr (1, [.ref d, .ref w0, .ref w1, .ref w2, .ref w3, .ref nm, .ref te, .int ad, .int v1, .int (nI (cc + 1)), .int (nI vo)]) := (hB1.2.2.2 h0 (by rw [hT_h0]; simp only [mem_chS, List.mem_cons, List.not_mem_nil, or_false]; omega)).trans hq_48
            generalize H1 = H at hP hS ⊢
            have hSD2 := hSD.fr hO0 hW hi_3 ht_5 hi_6 ht_8 hi_9 ht_11 hi_12 ht_14 hR (fun k9 h1 h2 => by simp only [mem_chS, List.mem_cons, List.not_mem_nil, or_false]; omega)
            have hDI2 := DIRC.fr hDI hO0 hW hi_25 ht_26 hcn hR (hF_71.trans he0.symm) (fun k hk => by simp only [mem_chS, List.mem_cons, List.not_mem_nil, or_false]; omega)
            have hA9 : A8 (exT (TC f z) k3 k4 SD U) := a8_ex (hH (by omega)) hSD.a8 hND.a8
            refine lv_aload_n hx hb dX1_match_85 rfl (lv_at hl 0 rfl) ?_
            refine pg_getN (ci := 10) (v := .int (nI k1)) (C := RX10) (T := TX10) (N := 6) hx hb hts it_10 hown hK hP hi_35 hF_72 rfl 0 (by decide) (hE.nest kn_26) (fun _ h9 => h9) rfl dX1_match_86 ?_
            refine lv_iconst (v := 2) hx hb dX1_match_89 (by decide) ?_
            refine lv_icmp_eq (tgt := 107) hx hb dX1_match_90 (by decide) (fun c_74 => ?_) (fun c_74 => ?_)
            ·
              have hq2 : k1 = 2 := (nI_eq (b := 2) (by omega) (by omega)).mp c_74
              refine lv_aload_n hx hb dX1_match_107 rfl (lv_at hl 1 rfl) ?_
              refine lv_iload_n hx hb dX1_match_108 rfl (lv_at hl 3 rfl) ?_
              refine lv_iconst (v := 1) hx hb dX1_match_109 (by decide) ?_
              refine lv_iadd hx hb dX1_match_110 ?_
              refine lv_topi (fun x_76 ex_76 => ?_)
              obtain rfl : x_76 = (nI (lv + 1)) := ex_76.trans (nI_1 lv)
              have hFc := pg_free hD hS hA
              refine va_calli (va_runV (As := [.int (nI (lv + 1))]) (rest := []) ⟨hx, hb, hml, hown, hts⟩ (hC H.size F_64 (exT (TC f z) k3 k4 SD U) (cc + 1) vo hF_73 hF_68 (hDI2) (hSD2) (hq_65) (by omega) (by omega) (by omega) (hA9)) ⟨callB_of 1 hts (gi kt_627) rfl rfl rfl (hts _ kt_572) (hts _ kt_628) (by decide +kernel) ⟨by show fr + 0 + 1 ≤ fr + 7; omega, by show 8 + (8 + 11) + (lo + 0) ≤ lo + 161; omega⟩, (hts _ kt_629), (hts _ kt_630)⟩ ⟨fun a U g mk q => ⟨q.1, PTE.calling q.2⟩, pg_recv hK hP hL_h0 hF_73 (q := (RX1, TX1, 11)) rfl, fun U hU hWm => ⟨rfl, PTE.mk hU hWm hP hK hD hE hO hG (fun x hx => absurd hx List.not_mem_nil) hS hFc⟩⟩ rfl rfl hl.1 rfl (lv_room (Nat.le_of_ble_eq_true rfl)) dX1_match_111 ⟨by show _ + 0 ≤ 0; omega, by show _ + 0 ≤ 0; omega⟩) hS (fun q _ h => hFc q h) hFc (fun r_78 gp_77 t H1 locs ht hvm hw hB hz1 hk1 hS => ?_)
              obtain ⟨F_79, hB1, hq_80⟩ := hB
              obtain ⟨hP, hD, hO, hR⟩ := QT.back hB1 ht hFc hR (fun q h => by simp only [mem_chS, List.mem_cons, List.not_mem_nil, or_false] at h ⊢; omega)
              have hF_81 : F_79 g1 = .inr (0, [.ref r1, .int (nI z), .int 0]) := (hB1.2.2.2 g1 (by rw [hT_g1]; simp only [mem_chS, List.mem_cons, List.not_mem_nil, or_false]; omega)).trans hF_66
              have hF_82 : F_79 r1 = .inl (cs 16, n1, .inl f) := (hB1.2.2.2 r1 (by rw [ht_31]; simp only [mem_chS, List.mem_cons, List.not_mem_nil, or_false]; omega)).trans hF_67
              have hF_83 : F_79 d = .inr (2, [.ref ea, .int (nI cn)]) := (hB1.2.2.2 d (by rw [ht_2]; simp only [mem_chS, List.mem_cons, List.not_mem_nil, or_false]; omega)).trans hF_68
              have hF_84 : F_79 nm = .inl (cs 20, 12, .inr (.inr (.inr (.inr f_19)))) := (hB1.2.2.2 nm (by rw [ht_16]; simp only [mem_chS, List.mem_cons, List.not_mem_nil, or_false]; omega)).trans hF_69
              have hF_85 : F_79 te = .inl (cs 22, 11, .inr (.inr (.inr (.inr f_22)))) := (hB1.2.2.2 te (by rw [ht_18]; simp only [mem_chS, List.mem_cons, List.not_mem_nil, or_false]; omega)).trans hF_70
              have hF_86 : F_79 ea = .inl (cs 21, 40, .inr (.inr (.inr (.inr f_27)))) := (hB1.2.2.2 ea (by rw [ht_26]; simp only [mem_chS, List.mem_cons, List.not_mem_nil, or_false]; omega)).trans hF_71
              have hF_87 : F_79 b_33 = .inr (10, [.int (nI k1), .int (nI k2), .int (nI k3), .int (nI k4), .int (nI w), .int xa]) := (hB1.2.2.2 b_33 (by rw [ht_36]; simp only [mem_chS, List.mem_cons, List.not_mem_nil, or_false]; omega)).trans hF_72
              generalize H1 = H at hP hS ⊢
              have hw : (r_78 = nI (R (exT (TC f z) k3 k4 SD U) (cc + 1) vo).1 ∧ gp_77 = (R (exT (TC f z) k3 k4 SD U) (cc + 1) vo).2) := hw
              have hw_88 := hw
              obtain ⟨hr1, hr2⟩ := hw_88
              subst hr1
              refine lv_istore (lv' := [(4, .int (nI (R (exT (TC f z) k3 k4 SD U) (cc + 1) vo).1)), (3, .ref b_33), (0, .ref h0), (1, .ref g1), (2, .int (nI lv))]) hx hb dX1_match_114 hl (by decide) rfl (fun ls hl => ?_)
              refine lv_iload hx hb dX1_match_116 (lv_at hl 0 rfl) ?_
              refine lv_iconst (v := 1) hx hb dX1_match_118 (by decide) ?_
              refine lv_icmp_eq (tgt := 134) hx hb dX1_match_119 (by decide) (fun c_89 => ?_) (fun c_89 => ?_)
              ·
                refine lv_iconst (v := 0) hx hb dX1_match_134 (by decide) ?_
                refine W.widen (k := 0) (n := 0) (by omega) (by omega) ?_
                exact W.iret (v := 0) hx hb hr (fun t ht hWm => ⟨⟨0, gp_77, rfl, (by unfold mtW; have hrb := hRb (exT (TC f z) k3 k4 SD U) (cc + 1) vo; rw [if_neg (show ¬ (k1, k2, k3, k4, w, xa).1 = 1 from hq1), if_neg (show ¬ (k1, k2, k3, k4, w, xa).1 = 5 from hq5), if_neg (show ¬ ((k1, k2, k3, k4, w, xa).1 = 7 ∨ (k1, k2, k3, k4, w, xa).1 = 8) from fun q => q.elim hq7 hq8), if_neg (orp0 hw_56 c_57), if_pos (show (k1, k2, k3, k4, w, xa).1 = 2 from hq2), if_pos (Or.inl ((nI_eq (b := 1) hrb (by omega)).mp c_89))]; exact ⟨rfl, hr2⟩), ⟨F_79, QT.mk ht hP hD hO hR, hq_80⟩⟩, hS.F ht⟩) hS.2.2 dX1_match_135
              ·
                refine lv_iload hx hb dX1_match_122 (lv_at hl 0 rfl) ?_
                refine lv_iconst (v := 4) hx hb dX1_match_124 (by decide) ?_
                refine lv_icmp_eq (tgt := 134) hx hb dX1_match_125 (by decide) (fun c_92 => ?_) (fun c_92 => ?_)
                ·
                  refine lv_iconst (v := 0) hx hb dX1_match_134 (by decide) ?_
                  refine W.widen (k := 0) (n := 0) (by omega) (by omega) ?_
                  exact W.iret (v := 0) hx hb hr (fun t ht hWm => ⟨⟨0, gp_77, rfl, (by unfold mtW; have hrb := hRb (exT (TC f z) k3 k4 SD U) (cc + 1) vo; rw [if_neg (show ¬ (k1, k2, k3, k4, w, xa).1 = 1 from hq1), if_neg (show ¬ (k1, k2, k3, k4, w, xa).1 = 5 from hq5), if_neg (show ¬ ((k1, k2, k3, k4, w, xa).1 = 7 ∨ (k1, k2, k3, k4, w, xa).1 = 8) from fun q => q.elim hq7 hq8), if_neg (orp0 hw_56 c_57), if_pos (show (k1, k2, k3, k4, w, xa).1 = 2 from hq2), if_pos (Or.inr (Or.inl ((nI_eq (b := 4) hrb (by omega)).mp c_92)))]; exact ⟨rfl, hr2⟩), ⟨F_79, QT.mk ht hP hD hO hR, hq_80⟩⟩, hS.F ht⟩) hS.2.2 dX1_match_135
                ·
                  refine lv_iload hx hb dX1_match_128 (lv_at hl 0 rfl) ?_
                  refine lv_iconst (v := 3) hx hb dX1_match_130 (by decide) ?_
                  refine lv_icmp_ne (tgt := 136) hx hb dX1_match_131 (by decide) (fun c_95 => ?_) (fun c_95 => ?_)
                  ·
                    refine lv_iload hx hb dX1_match_136 (lv_at hl 0 rfl) ?_
                    refine lv_if_ne (tgt := 146) hx hb dX1_match_138 (by decide) (fun c_97 => ?_) (fun c_97 => ?_)
                    ·
                      refine lv_iload hx hb dX1_match_146 (lv_at hl 0 rfl) ?_
                      refine W.widen (k := 0) (n := 0) (by omega) (by omega) ?_
                      exact W.iret (v := (nI (R (exT (TC f z) k3 k4 SD U) (cc + 1) vo).1)) hx hb hr (fun t ht hWm => ⟨⟨(nI (R (exT (TC f z) k3 k4 SD U) (cc + 1) vo).1), gp_77, rfl, (by unfold mtW; have hrb := hRb (exT (TC f z) k3 k4 SD U) (cc + 1) vo; rw [if_neg (show ¬ (k1, k2, k3, k4, w, xa).1 = 1 from hq1), if_neg (show ¬ (k1, k2, k3, k4, w, xa).1 = 5 from hq5), if_neg (show ¬ ((k1, k2, k3, k4, w, xa).1 = 7 ∨ (k1, k2, k3, k4, w, xa).1 = 8) from fun q => q.elim hq7 hq8), if_neg (orp0 hw_56 c_57), if_pos (show (k1, k2, k3, k4, w, xa).1 = 2 from hq2), if_neg (fun q => by rcases q with q | q | q; exact (fun q => c_89 (by rw [q]; rfl)) q; exact (fun q => c_92 (by rw [q]; rfl)) q; exact (fun q => c_95 (by rw [q]; rfl)) q), if_neg (fun q => c_97 (by rw [q]; rfl))]; exact ⟨rfl, hr2⟩), ⟨F_79, QT.mk ht hP hD hO hR, hq_80⟩⟩, hS.F ht⟩) hS.2.2 dX1_match_148
                    ·
                      refine lv_bipush (v := 6) hx hb dX1_match_141 (by decide) ?_
                      refine lv_goto (tgt := 148) hx hb dX1_match_143 (by decide) ?_
                      refine W.widen (k := 0) (n := 0) (by omega) (by omega) ?_
                      exact W.iret (v := 6) hx hb hr (fun t ht hWm => ⟨⟨6, gp_77, rfl, (by unfold mtW; have hrb := hRb (exT (TC f z) k3 k4 SD U) (cc + 1) vo; rw [if_neg (show ¬ (k1, k2, k3, k4, w, xa).1 = 1 from hq1), if_neg (show ¬ (k1, k2, k3, k4, w, xa).1 = 5 from hq5), if_neg (show ¬ ((k1, k2, k3, k4, w, xa).1 = 7 ∨ (k1, k2, k3, k4, w, xa).1 = 8) from fun q => q.elim hq7 hq8), if_neg (orp0 hw_56 c_57), if_pos (show (k1, k2, k3, k4, w, xa).1 = 2 from hq2), if_neg (fun q => by rcases q with q | q | q; exact (fun q => c_89 (by rw [q]; rfl)) q; exact (fun q => c_92 (by rw [q]; rfl)) q; exact (fun q => c_95 (by rw [q]; rfl)) q), if_pos ((nI_eq (b := 0) hrb (by omega)).mp c_97)]; exact ⟨rfl, hr2⟩), ⟨F_79, QT.mk ht hP hD hO hR, hq_80⟩⟩, hS.F ht⟩) hS.2.2 dX1_match_148
                  ·
                    refine lv_iconst (v := 0) hx hb dX1_match_134 (by decide) ?_
                    refine W.widen (k := 0) (n := 0) (by omega) (by omega) ?_
                    exact W.iret (v := 0) hx hb hr (fun t ht hWm => ⟨⟨0, gp_77, rfl, (by unfold mtW; have hrb := hRb (exT (TC f z) k3 k4 SD U) (cc + 1) vo; rw [if_neg (show ¬ (k1, k2, k3, k4, w, xa).1 = 1 from hq1), if_neg (show ¬ (k1, k2, k3, k4, w, xa).1 = 5 from hq5), if_neg (show ¬ ((k1, k2, k3, k4, w, xa).1 = 7 ∨ (k1, k2, k3, k4, w, xa).1 = 8) from fun q => q.elim hq7 hq8), if_neg (orp0 hw_56 c_57), if_pos (show (k1, k2, k3, k4, w, xa).1 = 2 from hq2), if_pos (Or.inr (Or.inr ((nI_eq (b := 3) hrb (by omega)).mp c_95)))]; exact ⟨rfl, hr2⟩), ⟨F_79, QT.mk ht hP hD hO hR, hq_80⟩⟩, hS.F ht⟩) hS.2.2 dX1_match_135
            ·
              have hq2 : ¬ k1 = 2 := fun q => c_74 (by rw [q]; rfl)
              refine lv_aload_n hx hb dX1_match_93 rfl (lv_at hl 1 rfl) ?_
              refine lv_aload_n hx hb dX1_match_94 rfl (lv_at hl 0 rfl) ?_
              refine lv_aload_n hx hb dX1_match_95 rfl (lv_at hl 1 rfl) ?_
              refine pg_get (ci := 1) (v := .ref nm) (C := RX1) (T := TX1) (N := 11) hx hb hts it_1 hown hK hP hL_h0 hF_73 rfl 5 (by decide) (hts _ kt_569) (fun _ h9 => h9) rfl dX1_match_96 ?_
              refine lv_iload_n hx hb dX1_match_99 rfl (lv_at hl 3 rfl) ?_
              refine lv_iconst (v := 1) hx hb dX1_match_100 (by decide) ?_
              refine lv_iadd hx hb dX1_match_101 ?_
              refine lv_topi (fun x_102 ex_102 => ?_)
              obtain rfl : x_102 = (nI (lv + 1)) := ex_102.trans (nI_1 lv)
              obtain ⟨b_103, r_104, hbf_105, hi_106, ht_107⟩ := hq_21 (lv + 1) (by omega)
              refine pg_aald (r := b_103) hx hb hK hP hi_15 4 hF_69 rfl (vp_in_nI (by omega) (by omega)) (show f_19 ((nI (lv + 1)) : Int32).toNatClampNeg = _ from by rw [show ((nI (lv + 1)) : Int32) = nI (lv + 1) from rfl, nI_clamp (by omega)]; exact hbf_105) dX1_match_102 ?_
              have ht_107 : ty b_103 = (0, ρ + 35 + lv + 6, [r_104, 60]) := ht_107
              obtain ⟨hi_108, ht_109, hq_110⟩ := hW.bytes hi_106 ht_107
              obtain ⟨yy, ov, fq, hy1, hy2, hy3⟩ := (hq_65.get hF_69 hbf_105).get hO hi_106 ht_107
              have hyy : yy ≤ 60 := by have h9 := hy3.1; omega
              have hFc := pg_free hD hS hA
              refine va_calli (va_runV (As := [.ref b_33, .ref b_103]) (rest := []) ⟨hx, hb, hml, hown, hts⟩ (s_X1_look_e l dC dI cs ty L H.size F_64 h0 ρ d δ ea w0 w1 w2 w3 nm te b_33 (ρ + 36 + lv + 24) b_103 (ρ + 35 + lv + 6) r_104 60 (cc + 1) vo ad v1 yy cn w fq D ov k1 k4 (nI k2) (nI k3) xa hW hL_h0 hT_h0 hi_35 ht_36 hi_106 ht_107 hF_73 hF_68 (by omega) hy1 hy2 (by omega) (by omega) (hDI2) (hw9) (by omega) (by omega) hF_72) ⟨callB_of 2 hts (gi kt_631) rfl rfl rfl (hts _ kt_572) (hts _ kt_632) (by decide +kernel) ⟨Nat.le_of_ble_eq_true rfl, Nat.le_of_ble_eq_true rfl⟩, (hts _ kt_633), (hts _ kt_634)⟩ ⟨fun a U g mk q => ⟨q.1, PT.calling q.2⟩, pg_recv hK hP hL_h0 hF_73 (q := (RX1, TX1, 11)) rfl, fun U hU hWm => ⟨rfl, PT.mk hU hWm hP hK hD hE hO⟩⟩ rfl rfl hl.1 rfl (lv_room (Nat.le_of_ble_eq_true rfl)) dX1_match_103 ⟨by show _ + 0 ≤ 0; omega, by show _ + 0 ≤ 0; omega⟩) hS (fun q _ h => hFc q h) hFc (fun r_112 gv_111 t H1 locs ht hvm hw hB hz1 hk1 hS => ?_)
              obtain ⟨F_113, hB1, hq_114⟩ := hB
              obtain ⟨hP, hD, hO, hR⟩ := QT.back hB1 ht hFc hR (fun q h => by simp only [mem_chS, List.mem_cons, List.not_mem_nil, or_false] at h ⊢; omega)
              have hF_115 : F_113 g1 = .inr (0, [.ref r1, .int (nI z), .int 0]) := (hB1.2.2.2 g1 (by rw [hT_g1]; simp only [mem_chS, List.mem_cons, List.not_mem_nil, or_false]; omega)).trans hF_66
              have hF_116 : F_113 r1 = .inl (cs 16, n1, .inl f) := (hB1.2.2.2 r1 (by rw [ht_31]; simp only [mem_chS, List.mem_cons, List.not_mem_nil, or_false]; omega)).trans hF_67
              have hF_117 : F_113 d = .inr (2, [.ref ea, .int (nI cn)]) := (hB1.2.2.2 d (by rw [ht_2]; simp only [mem_chS, List.mem_cons, List.not_mem_nil, or_false]; omega)).trans hF_68
              have hF_118 : F_113 nm = .inl (cs 20, 12, .inr (.inr (.inr (.inr f_19)))) := (hB1.2.2.2 nm (by rw [ht_16]; simp)).trans hF_69
              have hF_119 : F_113 te = .inl (cs 22, 11, .inr (.inr (.inr (.inr f_22)))) := (hB1.2.2.2 te (by rw [ht_18]; simp)).trans hF_70
              have hF_120 : F_113 ea = .inl (cs 21, 40, .inr (.inr (.inr (.inr f_27)))) := (hB1.2.2.2 ea (by rw [ht_26]; simp only [mem_chS, List.mem_cons, List.not_mem_nil, or_false]; omega)).trans hF_71
              have hF_121 : F_113 b_33 = .inr (10, [.int (nI k1), .int (nI k2), .int (nI k3), .int (nI k4), .int (nI w), .int xa]) := (hB1.2.2.2 b_33 (by rw [ht_36]; simp only [mem_chS, List.mem_cons, List.not_mem_nil, or_false]; omega)).trans hF_72
              have hF_122 : F_113 b_103 = .inr (0, [.ref r_104, .int (nI yy), .int ov]) := (hB1.2.2.2 b_103 (by rw [ht_107]; simp only [mem_chS, List.mem_cons, List.not_mem_nil, or_false]; omega)).trans hy1
              have hF_123 : F_113 r_104 = .inl (cs 16, 60, .inl fq) := (hB1.2.2.2 r_104 (by rw [ht_109]; simp only [mem_chS, List.mem_cons, List.not_mem_nil, or_false]; omega)).trans hy2
              generalize H1 = H at hP hS ⊢
              have hw : (r_112 = nI (lkW D cn ov yy fq ad w k1 vo).1 ∧ gv_111 = (lkW D cn ov yy fq ad w k1 vo).2) := hw
              have hw_124 := hw
              refine W.widen (k := 0) (n := 0) (by omega) (by omega) ?_
              exact W.iret (v := r_112) hx hb hr (fun t ht hWm => ⟨⟨r_112, (cc + 1, gv_111), rfl, (by unfold mtW; rw [if_neg (show ¬ (k1, k2, k3, k4, w, xa).1 = 1 from hq1), if_neg (show ¬ (k1, k2, k3, k4, w, xa).1 = 5 from hq5), if_neg (show ¬ ((k1, k2, k3, k4, w, xa).1 = 7 ∨ (k1, k2, k3, k4, w, xa).1 = 8) from fun q => q.elim hq7 hq8), if_neg (orp0 hw_56 c_57), if_neg (show ¬ (k1, k2, k3, k4, w, xa).1 = 2 from hq2)]; obtain ⟨h8, h9⟩ := hw_124; rw [lkw_u hy3] at h8 h9; exact ⟨h8, by rw [h9]⟩), ⟨F_113, QT.mk ht hP hD hO hR, hq_114⟩⟩, hS.F ht⟩) hS.2.2 dX1_match_106
          ·
            refine lv_bipush (v := 6) hx hb dX1_match_76 (by decide) ?_
            refine W.widen (k := 0) (n := 0) (by omega) (by omega) ?_
            exact W.iret (v := 6) hx hb hr (fun t ht hWm => ⟨⟨6, (cc + 1, vo), rfl, (by unfold mtW; rw [if_neg (show ¬ (k1, k2, k3, k4, w, xa).1 = 1 from hq1), if_neg (show ¬ (k1, k2, k3, k4, w, xa).1 = 5 from hq5), if_neg (show ¬ ((k1, k2, k3, k4, w, xa).1 = 7 ∨ (k1, k2, k3, k4, w, xa).1 = 8) from fun q => q.elim hq7 hq8), if_pos (orp1 hw_56 c_57)]; exact ⟨rfl, rfl⟩), ⟨F_47, QT.mk ht hP hD hO hR, hq_48⟩⟩, hS.F ht⟩) hS.2.2 dX1_match_78
        ·
          have hq8 : k1 = 8 := (nI_eq (b := 8) (by omega) (by omega)).mp c_44
          refine lv_iconst (v := 0) hx hb dX1_match_67 (by decide) ?_
          refine W.widen (k := 0) (n := 0) (by omega) (by omega) ?_
          exact W.iret (v := 0) hx hb hr (fun t ht hWm => ⟨⟨0, (cc, vo), rfl, (by unfold mtW; rw [if_neg (show ¬ (k1, k2, k3, k4, w, xa).1 = 1 from hq1), if_neg (show ¬ (k1, k2, k3, k4, w, xa).1 = 5 from hq5), if_pos (show (k1, k2, k3, k4, w, xa).1 = 7 ∨ (k1, k2, k3, k4, w, xa).1 = 8 from Or.inr hq8)]; exact ⟨rfl, rfl⟩), ⟨F, QT.mk ht hP hD hO hR, hFh⟩⟩, hS.F ht⟩) hS.2.2 dX1_match_68
    ·
      have hq5 : k1 = 5 := (nI_eq (b := 5) (by omega) (by omega)).mp c_39
      refine lv_aload_n hx hb dX1_match_25 rfl (lv_at hl 1 rfl) ?_
      refine pg_get (ci := 1) (v := .int ad) (C := RX1) (T := TX1) (N := 11) hx hb hts it_1 hown hK hP hL_h0 hFh rfl 7 (by decide) (hts _ kt_600) (fun _ h9 => h9) rfl dX1_match_26 ?_
      refine lv_aload_n hx hb dX1_match_29 rfl (lv_at hl 0 rfl) ?_
      refine pg_getN (ci := 10) (v := .int xa) (C := RX10) (T := TX10) (N := 6) hx hb hts it_10 hown hK hP hi_35 htm rfl 5 (by decide) (hE.nest kn_32) (fun _ h9 => h9) rfl dX1_match_30 ?_
      refine lv_aload_n hx hb dX1_match_33 rfl (lv_at hl 0 rfl) ?_
      refine pg_getN (ci := 10) (v := .int (nI w)) (C := RX10) (T := TX10) (N := 6) hx hb hts it_10 hown hK hP hi_35 htm rfl 4 (by decide) (hE.nest kn_31) (fun _ h9 => h9) rfl dX1_match_34 ?_
      have hFc := pg_free hD hS hA
      refine va_calli (va_runS (As := [.int ad, .int xa, .int (nI w)]) (rest := []) ⟨hx, hb, hml, hown, hts⟩ (s_X10_isSameNet_e l dC dI cs ty L s.heap.size F ad xa w hW (hw9)) ⟨callB_of 3 hts (gi kt_89) rfl rfl rfl (hts _ kt_90) (hts _ kt_635) (by decide +kernel) ⟨Nat.le_of_ble_eq_true rfl, Nat.le_of_ble_eq_true rfl⟩, (hts _ kt_92)⟩ ⟨fun a U g mk q => ⟨q.1, PT.calling q.2⟩, fun U hU hWm => ⟨rfl, PT.mk hU hWm hP hK hD hE hO⟩⟩ rfl rfl hl.1 rfl (lv_room (Nat.le_of_ble_eq_true rfl)) dX1_match_37 ⟨by show _ + 0 ≤ 0; omega, by show _ + 0 ≤ 0; omega⟩) hS (fun q _ h => hFc q h) hFc (fun r_127 u t H1 locs ht hvm hw hB hz1 hk1 hS => ?_)
      obtain ⟨F_128, hB1⟩ := hB
      obtain rfl : F = F_128 := (funext (fun a => hB1.2.2.2 a List.not_mem_nil)).symm
      obtain ⟨hP, hD, hO, hR⟩ := QT.back hB1 ht hFc hR (fun q h => absurd h List.not_mem_nil)
      generalize H1 = H at hP hS ⊢
      have hw : (r_127 = 1 ∧ SNE ad xa w) ∨ (r_127 = 0 ∧ ¬ SNE ad xa w) := hw
      have hw_129 := hw
      refine lv_if_eq (tgt := 47) hx hb dX1_match_40 (by decide) (fun c_130 => ?_) (fun c_130 => ?_)
      ·
        refine lv_iconst (v := 0) hx hb dX1_match_47 (by decide) ?_
        refine W.widen (k := 0) (n := 0) (by omega) (by omega) ?_
        exact W.iret (v := 0) hx hb hr (fun t ht hWm => ⟨⟨0, (cc, vo), rfl, (by unfold mtW; rw [if_neg (show ¬ (k1, k2, k3, k4, w, xa).1 = 1 from hq1), if_pos (show (k1, k2, k3, k4, w, xa).1 = 5 from hq5), if_neg (show ¬ SNE ad (k1, k2, k3, k4, w, xa).2.2.2.2.2 (k1, k2, k3, k4, w, xa).2.2.2.2.1 from (orp0 hw_129 c_130))]; exact ⟨rfl, rfl⟩), ⟨F, QT.mk ht hP hD hO hR, hFh⟩⟩, hS.F ht⟩) hS.2.2 dX1_match_48
      ·
        refine lv_iconst (v := 2) hx hb dX1_match_43 (by decide) ?_
        refine lv_goto (tgt := 48) hx hb dX1_match_44 (by decide) ?_
        refine W.widen (k := 0) (n := 0) (by omega) (by omega) ?_
        exact W.iret (v := 2) hx hb hr (fun t ht hWm => ⟨⟨2, (cc, vo), rfl, (by unfold mtW; rw [if_neg (show ¬ (k1, k2, k3, k4, w, xa).1 = 1 from hq1), if_pos (show (k1, k2, k3, k4, w, xa).1 = 5 from hq5), if_pos (show SNE ad (k1, k2, k3, k4, w, xa).2.2.2.2.2 (k1, k2, k3, k4, w, xa).2.2.2.2.1 from (orp1 hw_129 c_130))]; exact ⟨rfl, rfl⟩), ⟨F, QT.mk ht hP hD hO hR, hFh⟩⟩, hS.F ht⟩) hS.2.2 dX1_match_48
  ·
    have hq1 : k1 = 1 := (nI_eq (b := 1) (by omega) (by omega)).mp c_37
    refine lv_iconst (v := 2) hx hb dX1_match_15 (by decide) ?_
    refine W.widen (k := 0) (n := 0) (by omega) (by omega) ?_
    exact W.iret (v := 2) hx hb hr (fun t ht hWm => ⟨⟨2, (cc, vo), rfl, (by unfold mtW; rw [if_pos (show (k1, k2, k3, k4, w, xa).1 = 1 from hq1)]; exact ⟨rfl, rfl⟩), ⟨F, QT.mk ht hP hD hO hR, hFh⟩⟩, hS.F ht⟩) hS.2.2 dX1_match_16
set_option maxHeartbeats 4000000 in
set_option maxRecDepth 100000 in
theorem s_X1_follow_e (l : Launch) (dC : Nat → ClassId) (dI : Nat → Nat → Nat) (cs : Nat → ClassId) (ty : TyM) (L : List Nat) (sz : Nat) (F : Nat → va_E) (h0 : Nat) (ρ : Nat) (d : Nat) (δ : Nat) (ea : Nat) (w0 : Nat) (w1 : Nat) (w2 : Nat) (w3 : Nat) (nm : Nat) (te : Nat) (g1 : Nat) (σ : Nat) (r1 : Nat) (n1 : Nat) (lv : Nat) (fr : Nat) (lo : Nat) (z : Nat) (k1 : Nat) (k2 : Nat) (k3 : Nat) (k4 : Nat) (w : Nat) (f : Nat → Int32) (cc : Nat) (vo : Nat) (ad : Int32) (v1 : Int32) (cn : Nat) (D : Nat → ETY) (SD : SDR) (R : CKR) (U : List Nat) (xa : Int32) (hW : WT ty L) (hL_h0 : h0 ∈ L) (hT_h0 : ty h0 = (1, ρ, [d, δ, ea, w0, w1, w2, w3, nm, te])) (hL_g1 : g1 ∈ L) (hT_g1 : ty g1 = (0, σ, [r1, n1])) (hFg : F g1 = .inr (0, [.ref r1, .int (nI z), .int 0])) (hFr : F r1 = .inl (cs 16, n1, .inl f)) (hzn : z ≤ n1) (hn9 : n1 ≤ 10000) (hsr : ρ + 98 ≤ σ) (hdl : δ + 2 = ρ) (hlv : lv ≤ 10) (hcn : cn ≤ 40) (hFh : F h0 = .inr (1, [.ref d, .ref w0, .ref w1, .ref w2, .ref w3, .ref nm, .ref te, .int ad, .int v1, .int (nI cc), .int (nI vo)])) (hFd : F d = .inr (2, [.ref ea, .int (nI cn)])) (hDI : DIRC cs F ea cn D) (hSD : SNP cs F w0 w1 w2 w3 SD) (hND : NME cs F nm lv U) (hw9 : w ≤ 32) (hk8 : 1 ≤ k1 ∧ k1 ≤ 8) (hk34 : k3 ≤ k4) (hk49 : k4 ≤ 8000) (hlc : lv ≤ cc) (hc10 : cc ≤ 10) (hvo : vo ≤ cc) (hTM : TMS cs F te lv k1 k2 k3 k4 (nI w) xa) (hC : ∀ (sz : Nat) (F : Nat → va_E) (U : List Nat) (cc vo : Nat), (F h0 = .inr (1, [.ref d, .ref w0, .ref w1, .ref w2, .ref w3, .ref nm, .ref te, .int ad, .int v1, .int (nI cc), .int (nI vo)])) → (F d = .inr (2, [.ref ea, .int (nI cn)])) → (DIRC cs F ea cn D) → (SNP cs F w0 w1 w2 w3 SD) → (NMG cs F nm (lv + 1) U) → (lv + 1 ≤ cc) → (cc ≤ 10) → (vo ≤ cc) → (A8 U) → Met l yX1_check (.code yX1_check cX1_check 8 (some .int) :: tb) ({ frames := fr + 0, cells := 0, slots := 0, locals := lo + 0 }) (va_Pc [.ref h0, .int (nI (lv + 1))] (PTE (dC, dI) cs ty L F sz [])) (va_Qi (fun (r : Int32) (gp : Nat × Nat) => (r = nI (R U cc vo).1 ∧ gp = (R U cc vo).2)) (fun (gp : Nat × Nat) T9 => ∃ F2 : Nat → va_E, QT (dC, dI) cs ty L (chS ρ (lv + 2) (lv + 1)) F F2 (va_A (va_pl L F) sz) T9 ∧ F2 h0 = .inr (1, [.ref d, .ref w0, .ref w1, .ref w2, .ref w3, .ref nm, .ref te, .int ad, .int v1, .int (nI gp.1), .int (nI gp.2)])) (va_A (va_pl L F) sz)) 0 0 (va_A (va_pl L F) sz)) (hH : k3 = k4 ∨ HSW (TC f z) k3 k4) (hRb : ∀ U c v, (R U c v).1 < 2 ^ 31) : Met l yX1_follow (.code yX1_follow cX1_follow 4 (some .int) :: tb) ({ frames := fr + 7, cells := 0, slots := 0, locals := lo + 161 }) (va_Pc [.ref h0, .ref g1, .int (nI lv)] (PTE (dC, dI) cs ty L F sz [])) (va_Qi (fun (r : Int32) (gp : Nat × Nat) => (r = nI (flW SD R (TC f z) U (k1, k2, k3, k4, w, xa) cc vo).1 ∧ gp = (flW SD R (TC f z) U (k1, k2, k3, k4, w, xa) cc vo).2)) (fun (gp : Nat × Nat) T9 => ∃ F2 : Nat → va_E, QT (dC, dI) cs ty L (chS ρ (lv + 1) (lv + 1)) F F2 (va_A (va_pl L F) sz) T9 ∧ F2 h0 = .inr (1, [.ref d, .ref w0, .ref w1, .ref w2, .ref w3, .ref nm, .ref te, .int ad, .int v1, .int (nI gp.1), .int (nI gp.2)])) (va_A (va_pl L F) sz)) 0 0 (va_A (va_pl L F) sz) := by
  refine Met.ofW (cc := cX1_follow) (maxL := 4) (ret := (some .int)) (by decide) rfl ?_
  intro p e s m args below meth c s₁ B hml hv
  obtain ⟨rfl, ⟨hsz, hP, hK, hD0, hE, hO⟩, hG, hX⟩ := hv
  have hx := B.exec
  have hb := B.bytes
  have hr := B.returns
  have hts : ∀ w ∈ tb, w.before _ s = true := fun w h => atoms_spec (ws := .code yX1_follow cX1_follow 4 (some .int) :: tb) B.pre w (List.mem_cons_of_mem _ h)
  have hown : s.vm.findClass RX1 = some m.cls := findClass_of_methodNamed B.named
  have hlocks := B.notSynchronized
  subst hsz
  have hD := hD0.self (sz := s.heap.size)
  generalize hAe : va_A (va_pl L F) s.heap.size = A at hD hG hX ⊢
  have hA : ∀ q : Nat, s.heap.size ≤ q → A q := fun q h => by rw [← hAe]; exact Or.inr h
  have hS : va_S A s.heap s.heap [] := va_S.rf
  have hR : FR ty (chS ρ (lv + 1) (lv + 1)) F F := FR.refl
  have hl := lv_entry ([.ref h0, .ref g1, .int (nI lv)]) (n := 4) (Nat.le_of_ble_eq_true rfl)
  rw [lg_entry_eq]
  generalize (lg_sl ([.ref h0, .ref g1, .int (nI lv)]) ++ List.replicate (4 - (lg_sl ([.ref h0, .ref g1, .int (nI lv)])).length) Slot.unset).toArray = ls at hl ⊢
  have hl : lv_has ls 4 [(0, .ref h0), (1, .ref g1), (2, .int (nI lv))] := hl
  obtain ⟨hi_1, ht_2, hi_3, ⟨r_4, ht_5⟩, hi_6, ⟨r_7, ht_8⟩, hi_9, ⟨r_10, ht_11⟩, hi_12, ⟨r_13, ht_14⟩, hi_15, ht_16, hi_17, ht_18⟩ := hW.chk hL_h0 hT_h0
  obtain ⟨f_19, hF_20, hq_21⟩ := hO.rbytes hi_15 ht_16
  obtain ⟨f_22, hF_23, hq_24⟩ := hO.rterm hi_17 ht_18
  obtain ⟨hi_25, ht_26⟩ := hW.dir hi_1 ht_2
  obtain ⟨f_27, hF_28, hq_29⟩ := hO.rentry hi_25 ht_26
  obtain ⟨hi_30, ht_31, hq_32⟩ := hW.bytes hL_g1 hT_g1
  have hO0 := hO
  have hn0 := hF_20
  have he0 := hF_28
  obtain ⟨b_33, hbf_34, hi_35, ht_36⟩ := hq_24 lv (by omega)
  have htm := hTM.get hF_23 hbf_34
  refine lv_aload_n hx hb dX1_follow_0 rfl (lv_at hl 0 rfl) ?_
  have hFc := pg_free hD hS hA
  refine va_calli (va_runV (As := []) (rest := []) ⟨hx, hb, hml, hown, hts⟩ (s_X1_isCountedOut_e l dC dI cs ty L s.heap.size F h0 ρ d δ ea w0 w1 w2 w3 nm te cc vo ad v1 hW hL_h0 hT_h0 hFh (by omega)) ⟨callB_of 0 hts (gi kt_619) rfl rfl rfl (hts _ kt_572) (hts _ kt_620) (by decide +kernel) ⟨Nat.le_of_ble_eq_true rfl, Nat.le_of_ble_eq_true rfl⟩, (hts _ kt_621), (hts _ kt_622)⟩ ⟨fun a U g mk q => ⟨q.1, PT.calling q.2⟩, pg_recv hK hP hL_h0 hFh (q := (RX1, TX1, 11)) rfl, fun U hU hWm => ⟨rfl, PT.mk hU hWm hP hK hD hE hO⟩⟩ rfl rfl hl.1 rfl (lv_room (Nat.le_of_ble_eq_true rfl)) dX1_follow_1 ⟨by show _ + 0 ≤ 0; omega, by show _ + 0 ≤ 0; omega⟩) hS (fun q _ h => hFc q h) hFc (fun r_37 u t H1 locs ht hvm hw hB hz1 hk1 hS => ?_)
  obtain ⟨F_38, hB1, hq_39⟩ := hB
  obtain ⟨hP, hD, hO, hR⟩ := QT.back hB1 ht hFc hR (fun q h => by simp only [mem_chS, List.mem_cons, List.not_mem_nil, or_false] at h ⊢; omega)
  have hF_40 : F_38 g1 = .inr (0, [.ref r1, .int (nI z), .int 0]) := (hB1.2.2.2 g1 (by rw [hT_g1]; simp only [mem_chS, List.mem_cons, List.not_mem_nil, or_false]; omega)).trans hFg
  have hF_41 : F_38 r1 = .inl (cs 16, n1, .inl f) := (hB1.2.2.2 r1 (by rw [ht_31]; simp only [mem_chS, List.mem_cons, List.not_mem_nil, or_false]; omega)).trans hFr
  have hF_42 : F_38 d = .inr (2, [.ref ea, .int (nI cn)]) := (hB1.2.2.2 d (by rw [ht_2]; simp only [mem_chS, List.mem_cons, List.not_mem_nil, or_false]; omega)).trans hFd
  have hF_43 : F_38 nm = .inl (cs 20, 12, .inr (.inr (.inr (.inr f_19)))) := (hB1.2.2.2 nm (by rw [ht_16]; simp)).trans hF_20
  have hF_44 : F_38 te = .inl (cs 22, 11, .inr (.inr (.inr (.inr f_22)))) := (hB1.2.2.2 te (by rw [ht_18]; simp)).trans hF_23
  have hF_45 : F_38 ea = .inl (cs 21, 40, .inr (.inr (.inr (.inr f_27)))) := (hB1.2.2.2 ea (by rw [ht_26]; simp only [mem_chS, List.mem_cons, List.not_mem_nil, or_false]; omega)).trans hF_28
  have hF_46 : F_38 b_33 = .inr (10, [.int (nI k1), .int (nI k2), .int (nI k3), .int (nI k4), .int (nI w), .int xa]) := (hB1.2.2.2 b_33 (by rw [ht_36]; simp only [mem_chS, List.mem_cons, List.not_mem_nil, or_false]; omega)).trans htm
  generalize H1 = H at hP hS ⊢
  have hw : (r_37 = 1 ∧ 10 < cc + 1) ∨ (r_37 = 0 ∧ ¬ 10 < cc + 1) := hw
  have hw_47 := hw
  refine lv_if_eq (tgt := 10) hx hb dX1_follow_4 (by decide) (fun c_48 => ?_) (fun c_48 => ?_)
  ·
    have hc9 : ¬ 10 < cc + 1 := orp0 hw_47 c_48
    have hSDb := hSD.fr hO0 hW hi_3 ht_5 hi_6 ht_8 hi_9 ht_11 hi_12 ht_14 hR (fun k9 h1 h2 => by simp only [mem_chS, List.mem_cons, List.not_mem_nil, or_false]; omega)
    obtain ⟨b_49, r_50, hbf_51, hi_52, ht_53⟩ := hq_21 lv (by omega)
    have hNDb := hND.fr hn0 hF_43 hbf_51 hO0 hW hi_52 ht_53 hR (by simp only [mem_chS, List.mem_cons, List.not_mem_nil, or_false]; omega)
    refine lv_aload_n hx hb dX1_follow_10 rfl (lv_at hl 0 rfl) ?_
    refine lv_aload_n hx hb dX1_follow_11 rfl (lv_at hl 1 rfl) ?_
    refine lv_iload_n hx hb dX1_follow_12 rfl (lv_at hl 2 rfl) ?_
    have hFc := pg_free hD hS hA
    refine va_callv (va_runV (As := [.ref g1, .int (nI lv)]) (rest := []) ⟨hx, hb, hml, hown, hts⟩ (s_X1_expand_e l dC dI cs ty L H.size F_38 h0 ρ d δ ea w0 w1 w2 w3 nm te g1 σ r1 n1 z lv k1 k2 k3 k4 f SD U (nI w) xa hW hL_h0 hT_h0 hL_g1 hT_g1 hF_40 hF_41 (by omega) (by omega) (hsr) (hlv) (hk34) (hk49) (hH) (⟨_, _, hF_44, hbf_34, hF_46⟩) (hSDb) (hNDb)) ⟨callB_of 2 hts (gi kt_623) rfl rfl rfl (hts _ kt_572) (hts _ kt_624) (by decide +kernel) ⟨Nat.le_of_ble_eq_true rfl, Nat.le_of_ble_eq_true rfl⟩, (hts _ kt_625), (hts _ kt_626)⟩ ⟨fun a U g mk q => ⟨q.1, PTE.calling q.2⟩, pg_recv hK hP hL_h0 hq_39 (q := (RX1, TX1, 11)) rfl, fun U hU hWm => ⟨rfl, PTE.mk hU hWm hP hK hD hE hO hG (fun x hx => absurd hx List.not_mem_nil) hS hFc⟩⟩ rfl rfl hl.1 rfl (lv_room (Nat.le_of_ble_eq_true rfl)) dX1_follow_13 ⟨by show _ + 0 ≤ 0; omega, by show _ + 0 ≤ 0; omega⟩) hS (fun q _ h => hFc q h) hFc (fun u t H1 locs ht hvm hw hB hz1 hk1 hS => ?_)
    obtain ⟨F_55, hB1, hq_56⟩ := hB
    obtain ⟨hP, hD, hO, hR⟩ := QT.back hB1 ht hFc hR (fun q h => by simp only [mem_chS, List.mem_cons, List.not_mem_nil, or_false] at h ⊢; omega)
    have hF_57 : F_55 g1 = .inr (0, [.ref r1, .int (nI z), .int 0]) := (hB1.2.2.2 g1 (by rw [hT_g1]; simp only [mem_chS, List.mem_cons, List.not_mem_nil, or_false]; omega)).trans hF_40
    have hF_58 : F_55 r1 = .inl (cs 16, n1, .inl f) := (hB1.2.2.2 r1 (by rw [ht_31]; simp only [mem_chS, List.mem_cons, List.not_mem_nil, or_false]; omega)).trans hF_41
    have hF_59 : F_55 d = .inr (2, [.ref ea, .int (nI cn)]) := (hB1.2.2.2 d (by rw [ht_2]; simp only [mem_chS, List.mem_cons, List.not_mem_nil, or_false]; omega)).trans hF_42
    have hF_60 : F_55 nm = .inl (cs 20, 12, .inr (.inr (.inr (.inr f_19)))) := (hB1.2.2.2 nm (by rw [ht_16]; simp only [mem_chS, List.mem_cons, List.not_mem_nil, or_false]; omega)).trans hF_43
    have hF_61 : F_55 te = .inl (cs 22, 11, .inr (.inr (.inr (.inr f_22)))) := (hB1.2.2.2 te (by rw [ht_18]; simp only [mem_chS, List.mem_cons, List.not_mem_nil, or_false]; omega)).trans hF_44
    have hF_62 : F_55 ea = .inl (cs 21, 40, .inr (.inr (.inr (.inr f_27)))) := (hB1.2.2.2 ea (by rw [ht_26]; simp only [mem_chS, List.mem_cons, List.not_mem_nil, or_false]; omega)).trans hF_45
    have hF_63 : F_55 b_33 = .inr (10, [.int (nI k1), .int (nI k2), .int (nI k3), .int (nI k4), .int (nI w), .int xa]) := (hB1.2.2.2 b_33 (by rw [ht_36]; simp only [mem_chS, List.mem_cons, List.not_mem_nil, or_false]; omega)).trans hF_46
    have hF_64 : F_55 h0 = .inr (1, [.ref d, .ref w0, .ref w1, .ref w2, .ref w3, .ref nm, .ref te, .int ad, .int v1, .int (nI (cc + 1)), .int (nI vo)]) := (hB1.2.2.2 h0 (by rw [hT_h0]; simp only [mem_chS, List.mem_cons, List.not_mem_nil, or_false]; omega)).trans hq_39
    generalize H1 = H at hP hS ⊢
    have hSD2 := hSD.fr hO0 hW hi_3 ht_5 hi_6 ht_8 hi_9 ht_11 hi_12 ht_14 hR (fun k9 h1 h2 => by simp only [mem_chS, List.mem_cons, List.not_mem_nil, or_false]; omega)
    have hDI2 := DIRC.fr hDI hO0 hW hi_25 ht_26 hcn hR (hF_62.trans he0.symm) (fun k hk => by simp only [mem_chS, List.mem_cons, List.not_mem_nil, or_false]; omega)
    have hA9 : A8 (exT (TC f z) k3 k4 SD U) := a8_ex hH hSD.a8 hND.a8
    refine lv_aload_n hx hb dX1_follow_16 rfl (lv_at hl 0 rfl) ?_
    refine lv_iload_n hx hb dX1_follow_17 rfl (lv_at hl 2 rfl) ?_
    refine lv_iconst (v := 1) hx hb dX1_follow_18 (by decide) ?_
    refine lv_iadd hx hb dX1_follow_19 ?_
    refine lv_topi (fun x_65 ex_65 => ?_)
    obtain rfl : x_65 = (nI (lv + 1)) := ex_65.trans (nI_1 lv)
    have hFc := pg_free hD hS hA
    refine va_calli (va_runV (As := [.int (nI (lv + 1))]) (rest := []) ⟨hx, hb, hml, hown, hts⟩ (hC H.size F_55 (exT (TC f z) k3 k4 SD U) (cc + 1) vo hF_64 hF_59 (hDI2) (hSD2) (hq_56) (by omega) (by omega) (by omega) (hA9)) ⟨callB_of 1 hts (gi kt_627) rfl rfl rfl (hts _ kt_572) (hts _ kt_628) (by decide +kernel) ⟨by show fr + 0 + 1 ≤ fr + 7; omega, by show 8 + (8 + 11) + (lo + 0) ≤ lo + 161; omega⟩, (hts _ kt_629), (hts _ kt_630)⟩ ⟨fun a U g mk q => ⟨q.1, PTE.calling q.2⟩, pg_recv hK hP hL_h0 hF_64 (q := (RX1, TX1, 11)) rfl, fun U hU hWm => ⟨rfl, PTE.mk hU hWm hP hK hD hE hO hG (fun x hx => absurd hx List.not_mem_nil) hS hFc⟩⟩ rfl rfl hl.1 rfl (lv_room (Nat.le_of_ble_eq_true rfl)) dX1_follow_20 ⟨by show _ + 0 ≤ 0; omega, by show _ + 0 ≤ 0; omega⟩) hS (fun q _ h => hFc q h) hFc (fun r_67 gp_66 t H1 locs ht hvm hw hB hz1 hk1 hS => ?_)
    obtain ⟨F_68, hB1, hq_69⟩ := hB
    obtain ⟨hP, hD, hO, hR⟩ := QT.back hB1 ht hFc hR (fun q h => by simp only [mem_chS, List.mem_cons, List.not_mem_nil, or_false] at h ⊢; omega)
    have hF_70 : F_68 g1 = .inr (0, [.ref r1, .int (nI z), .int 0]) := (hB1.2.2.2 g1 (by rw [hT_g1]; simp only [mem_chS, List.mem_cons, List.not_mem_nil, or_false]; omega)).trans hF_57
    have hF_71 : F_68 r1 = .inl (cs 16, n1, .inl f) := (hB1.2.2.2 r1 (by rw [ht_31]; simp only [mem_chS, List.mem_cons, List.not_mem_nil, or_false]; omega)).trans hF_58
    have hF_72 : F_68 d = .inr (2, [.ref ea, .int (nI cn)]) := (hB1.2.2.2 d (by rw [ht_2]; simp only [mem_chS, List.mem_cons, List.not_mem_nil, or_false]; omega)).trans hF_59
    have hF_73 : F_68 nm = .inl (cs 20, 12, .inr (.inr (.inr (.inr f_19)))) := (hB1.2.2.2 nm (by rw [ht_16]; simp only [mem_chS, List.mem_cons, List.not_mem_nil, or_false]; omega)).trans hF_60
    have hF_74 : F_68 te = .inl (cs 22, 11, .inr (.inr (.inr (.inr f_22)))) := (hB1.2.2.2 te (by rw [ht_18]; simp only [mem_chS, List.mem_cons, List.not_mem_nil, or_false]; omega)).trans hF_61
    have hF_75 : F_68 ea = .inl (cs 21, 40, .inr (.inr (.inr (.inr f_27)))) := (hB1.2.2.2 ea (by rw [ht_26]; simp only [mem_chS, List.mem_cons, List.not_mem_nil, or_false]; omega)).trans hF_62
    have hF_76 : F_68 b_33 = .inr (10, [.int (nI k1), .int (nI k2), .int (nI k3), .int (nI k4), .int (nI w), .int xa]) := (hB1.2.2.2 b_33 (by rw [ht_36]; simp only [mem_chS, List.mem_cons, List.not_mem_nil, or_false]; omega)).trans hF_63
    generalize H1 = H at hP hS ⊢
    have hw : (r_67 = nI (R (exT (TC f z) k3 k4 SD U) (cc + 1) vo).1 ∧ gp_66 = (R (exT (TC f z) k3 k4 SD U) (cc + 1) vo).2) := hw
    have hw_77 := hw
    obtain ⟨hr1, hr2⟩ := hw_77
    subst hr1
    refine lv_istore_n (lv' := [(3, .int (nI (R (exT (TC f z) k3 k4 SD U) (cc + 1) vo).1)), (0, .ref h0), (1, .ref g1), (2, .int (nI lv))]) hx hb dX1_follow_23 rfl hl (by decide) rfl (fun ls hl => ?_)
    refine lv_iload_n hx hb dX1_follow_24 rfl (lv_at hl 0 rfl) ?_
    refine lv_if_ne (tgt := 33) hx hb dX1_follow_25 (by decide) (fun c_78 => ?_) (fun c_78 => ?_)
    ·
      refine lv_iload_n hx hb dX1_follow_33 rfl (lv_at hl 0 rfl) ?_
      refine W.widen (k := 0) (n := 0) (by omega) (by omega) ?_
      exact W.iret (v := (nI (R (exT (TC f z) k3 k4 SD U) (cc + 1) vo).1)) hx hb hr (fun t ht hWm => ⟨⟨(nI (R (exT (TC f z) k3 k4 SD U) (cc + 1) vo).1), gp_66, rfl, (by unfold flW; have hrb := hRb (exT (TC f z) k3 k4 SD U) (cc + 1) vo; rw [if_neg (orp0 hw_47 c_48), if_neg (fun q => c_78 (by rw [q]; rfl))]; exact ⟨rfl, hr2⟩), ⟨F_68, QT.mk ht hP hD hO hR, hq_69⟩⟩, hS.F ht⟩) hS.2.2 dX1_follow_34
    ·
      refine lv_bipush (v := 6) hx hb dX1_follow_28 (by decide) ?_
      refine lv_goto (tgt := 34) hx hb dX1_follow_30 (by decide) ?_
      refine W.widen (k := 0) (n := 0) (by omega) (by omega) ?_
      exact W.iret (v := 6) hx hb hr (fun t ht hWm => ⟨⟨6, gp_66, rfl, (by unfold flW; have hrb := hRb (exT (TC f z) k3 k4 SD U) (cc + 1) vo; rw [if_neg (orp0 hw_47 c_48), if_pos ((nI_eq (b := 0) hrb (by omega)).mp c_78)]; exact ⟨rfl, hr2⟩), ⟨F_68, QT.mk ht hP hD hO hR, hq_69⟩⟩, hS.F ht⟩) hS.2.2 dX1_follow_34
  ·
    refine lv_bipush (v := 6) hx hb dX1_follow_7 (by decide) ?_
    refine W.widen (k := 0) (n := 0) (by omega) (by omega) ?_
    exact W.iret (v := 6) hx hb hr (fun t ht hWm => ⟨⟨6, (cc + 1, vo), rfl, (by unfold flW; rw [if_pos (orp1 hw_47 c_48)]; exact ⟨rfl, rfl⟩), ⟨F_38, QT.mk ht hP hD hO hR, hq_39⟩⟩, hS.F ht⟩) hS.2.2 dX1_follow_9
