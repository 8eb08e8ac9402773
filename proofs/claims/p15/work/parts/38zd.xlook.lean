theorem dX1_look_0 : decode cX1_look 0 = .ok (.aload_n 0, 1) := by decide +kernel
theorem dX1_look_1 : decode cX1_look 1 = .ok (.getfield 53, 3) := by decide +kernel
theorem dX1_look_4 : decode cX1_look 4 = .ok (.iconst 3, 1) := by decide +kernel
theorem dX1_look_5 : decode cX1_look 5 = .ok (.aload_n 2, 1) := by decide +kernel
theorem dX1_look_6 : decode cX1_look 6 = .ok (.invokevirtual 106, 3) := by decide +kernel
theorem dX1_look_9 : decode cX1_look 9 = .ok (.ifCond .eq 5, 3) := by decide +kernel
theorem dX1_look_12 : decode cX1_look 12 = .ok (.iconst 5, 1) := by decide +kernel
theorem dX1_look_13 : decode cX1_look 13 = .ok (.ireturn, 1) := by decide +kernel
theorem dX1_look_14 : decode cX1_look 14 = .ok (.aload_n 0, 1) := by decide +kernel
theorem dX1_look_15 : decode cX1_look 15 = .ok (.getfield 53, 3) := by decide +kernel
theorem dX1_look_18 : decode cX1_look 18 = .ok (.aload_n 1, 1) := by decide +kernel
theorem dX1_look_19 : decode cX1_look 19 = .ok (.getfield 149, 3) := by decide +kernel
theorem dX1_look_22 : decode cX1_look 22 = .ok (.iconst 4, 1) := by decide +kernel
theorem dX1_look_23 : decode cX1_look 23 = .ok (.if_icmp .ne 7, 3) := by decide +kernel
theorem dX1_look_26 : decode cX1_look 26 = .ok (.iconst 2, 1) := by decide +kernel
theorem dX1_look_27 : decode cX1_look 27 = .ok (.goto 4, 3) := by decide +kernel
theorem dX1_look_30 : decode cX1_look 30 = .ok (.iconst 1, 1) := by decide +kernel
theorem dX1_look_31 : decode cX1_look 31 = .ok (.aload_n 2, 1) := by decide +kernel
theorem dX1_look_32 : decode cX1_look 32 = .ok (.invokevirtual 106, 3) := by decide +kernel
theorem dX1_look_35 : decode cX1_look 35 = .ok (.ifCond .ne 28, 3) := by decide +kernel
theorem dX1_look_38 : decode cX1_look 38 = .ok (.aload_n 0, 1) := by decide +kernel
theorem dX1_look_39 : decode cX1_look 39 = .ok (.dup, 1) := by decide +kernel
theorem dX1_look_40 : decode cX1_look 40 = .ok (.getfield 50, 3) := by decide +kernel
theorem dX1_look_43 : decode cX1_look 43 = .ok (.iconst 1, 1) := by decide +kernel
theorem dX1_look_44 : decode cX1_look 44 = .ok (.iadd, 1) := by decide +kernel
theorem dX1_look_45 : decode cX1_look 45 = .ok (.putfield 50, 3) := by decide +kernel
theorem dX1_look_48 : decode cX1_look 48 = .ok (.aload_n 0, 1) := by decide +kernel
theorem dX1_look_49 : decode cX1_look 49 = .ok (.getfield 50, 3) := by decide +kernel
theorem dX1_look_52 : decode cX1_look 52 = .ok (.iconst 2, 1) := by decide +kernel
theorem dX1_look_53 : decode cX1_look 53 = .ok (.if_icmp .le 8, 3) := by decide +kernel
theorem dX1_look_56 : decode cX1_look 56 = .ok (.bipush 6, 2) := by decide +kernel
theorem dX1_look_58 : decode cX1_look 58 = .ok (.goto 4, 3) := by decide +kernel
theorem dX1_look_61 : decode cX1_look 61 = .ok (.iconst 0, 1) := by decide +kernel
theorem dX1_look_62 : decode cX1_look 62 = .ok (.ireturn, 1) := by decide +kernel
theorem dX1_look_63 : decode cX1_look 63 = .ok (.aload_n 1, 1) := by decide +kernel
theorem dX1_look_64 : decode cX1_look 64 = .ok (.getfield 149, 3) := by decide +kernel
theorem dX1_look_67 : decode cX1_look 67 = .ok (.iconst 4, 1) := by decide +kernel
theorem dX1_look_68 : decode cX1_look 68 = .ok (.if_icmp .ne 13, 3) := by decide +kernel
theorem dX1_look_71 : decode cX1_look 71 = .ok (.aload_n 0, 1) := by decide +kernel
theorem dX1_look_72 : decode cX1_look 72 = .ok (.aload_n 2, 1) := by decide +kernel
theorem dX1_look_73 : decode cX1_look 73 = .ok (.aload_n 1, 1) := by decide +kernel
theorem dX1_look_74 : decode cX1_look 74 = .ok (.getfield 161, 3) := by decide +kernel
theorem dX1_look_77 : decode cX1_look 77 = .ok (.invokevirtual 172, 3) := by decide +kernel
theorem dX1_look_80 : decode cX1_look 80 = .ok (.ireturn, 1) := by decide +kernel
theorem dX1_look_81 : decode cX1_look 81 = .ok (.aload_n 1, 1) := by decide +kernel
theorem dX1_look_82 : decode cX1_look 82 = .ok (.getfield 149, 3) := by decide +kernel
theorem dX1_look_85 : decode cX1_look 85 = .ok (.bipush 6, 2) := by decide +kernel
theorem dX1_look_87 : decode cX1_look 87 = .ok (.if_icmp .eq 22, 3) := by decide +kernel
theorem dX1_look_90 : decode cX1_look 90 = .ok (.aload_n 0, 1) := by decide +kernel
theorem dX1_look_91 : decode cX1_look 91 = .ok (.getfield 53, 3) := by decide +kernel
theorem dX1_look_94 : decode cX1_look 94 = .ok (.aload_n 2, 1) := by decide +kernel
theorem dX1_look_95 : decode cX1_look 95 = .ok (.aload_n 0, 1) := by decide +kernel
theorem dX1_look_96 : decode cX1_look 96 = .ok (.getfield 39, 3) := by decide +kernel
theorem dX1_look_99 : decode cX1_look 99 = .ok (.aload_n 1, 1) := by decide +kernel
theorem dX1_look_100 : decode cX1_look 100 = .ok (.getfield 161, 3) := by decide +kernel
theorem dX1_look_103 : decode cX1_look 103 = .ok (.invokevirtual 175, 3) := by decide +kernel
theorem dX1_look_106 : decode cX1_look 106 = .ok (.ifCond .eq 7, 3) := by decide +kernel
theorem dX1_look_109 : decode cX1_look 109 = .ok (.iconst 2, 1) := by decide +kernel
theorem dX1_look_110 : decode cX1_look 110 = .ok (.goto 4, 3) := by decide +kernel
theorem dX1_look_113 : decode cX1_look 113 = .ok (.iconst 0, 1) := by decide +kernel
theorem dX1_look_114 : decode cX1_look 114 = .ok (.ireturn, 1) := by decide +kernel
theorem dX1_lookAtExchanges_0 : decode cX1_lookAtExchanges 0 = .ok (.iconst 0, 1) := by decide +kernel
theorem dX1_lookAtExchanges_1 : decode cX1_lookAtExchanges 1 = .ok (.istore_n 3, 1) := by decide +kernel
theorem dX1_lookAtExchanges_2 : decode cX1_lookAtExchanges 2 = .ok (.iload_n 3, 1) := by decide +kernel
theorem dX1_lookAtExchanges_3 : decode cX1_lookAtExchanges 3 = .ok (.aload_n 0, 1) := by decide +kernel
theorem dX1_lookAtExchanges_4 : decode cX1_lookAtExchanges 4 = .ok (.getfield 53, 3) := by decide +kernel
theorem dX1_lookAtExchanges_7 : decode cX1_lookAtExchanges 7 = .ok (.getfield 179, 3) := by decide +kernel
theorem dX1_lookAtExchanges_10 : decode cX1_lookAtExchanges 10 = .ok (.if_icmp .ge 91, 3) := by decide +kernel
theorem dX1_lookAtExchanges_13 : decode cX1_lookAtExchanges 13 = .ok (.aload_n 0, 1) := by decide +kernel
theorem dX1_lookAtExchanges_14 : decode cX1_lookAtExchanges 14 = .ok (.getfield 53, 3) := by decide +kernel
theorem dX1_lookAtExchanges_17 : decode cX1_lookAtExchanges 17 = .ok (.getfield 182, 3) := by decide +kernel
theorem dX1_lookAtExchanges_20 : decode cX1_lookAtExchanges 20 = .ok (.iload_n 3, 1) := by decide +kernel
theorem dX1_lookAtExchanges_21 : decode cX1_lookAtExchanges 21 = .ok (.aaload, 1) := by decide +kernel
theorem dX1_lookAtExchanges_22 : decode cX1_lookAtExchanges 22 = .ok (.getfield 186, 3) := by decide +kernel
theorem dX1_lookAtExchanges_25 : decode cX1_lookAtExchanges 25 = .ok (.iconst 2, 1) := by decide +kernel
theorem dX1_lookAtExchanges_26 : decode cX1_lookAtExchanges 26 = .ok (.if_icmp .ne 69, 3) := by decide +kernel
theorem dX1_lookAtExchanges_29 : decode cX1_lookAtExchanges 29 = .ok (.aload_n 0, 1) := by decide +kernel
theorem dX1_lookAtExchanges_30 : decode cX1_lookAtExchanges 30 = .ok (.getfield 53, 3) := by decide +kernel
theorem dX1_lookAtExchanges_33 : decode cX1_lookAtExchanges 33 = .ok (.getfield 182, 3) := by decide +kernel
theorem dX1_lookAtExchanges_36 : decode cX1_lookAtExchanges 36 = .ok (.iload_n 3, 1) := by decide +kernel
theorem dX1_lookAtExchanges_37 : decode cX1_lookAtExchanges 37 = .ok (.aaload, 1) := by decide +kernel
theorem dX1_lookAtExchanges_38 : decode cX1_lookAtExchanges 38 = .ok (.getfield 191, 3) := by decide +kernel
theorem dX1_lookAtExchanges_41 : decode cX1_lookAtExchanges 41 = .ok (.aload_n 1, 1) := by decide +kernel
theorem dX1_lookAtExchanges_42 : decode cX1_lookAtExchanges 42 = .ok (.invokevirtual 194, 3) := by decide +kernel
theorem dX1_lookAtExchanges_45 : decode cX1_lookAtExchanges 45 = .ok (.ifCond .ne 6, 3) := by decide +kernel
theorem dX1_lookAtExchanges_48 : decode cX1_lookAtExchanges 48 = .ok (.goto 47, 3) := by decide +kernel
theorem dX1_lookAtExchanges_51 : decode cX1_lookAtExchanges 51 = .ok (.aload_n 0, 1) := by decide +kernel
theorem dX1_lookAtExchanges_52 : decode cX1_lookAtExchanges 52 = .ok (.getfield 53, 3) := by decide +kernel
theorem dX1_lookAtExchanges_55 : decode cX1_lookAtExchanges 55 = .ok (.iload_n 3, 1) := by decide +kernel
theorem dX1_lookAtExchanges_56 : decode cX1_lookAtExchanges 56 = .ok (.invokevirtual 116, 3) := by decide +kernel
theorem dX1_lookAtExchanges_59 : decode cX1_lookAtExchanges 59 = .ok (.astore 4, 2) := by decide +kernel
theorem dX1_lookAtExchanges_61 : decode cX1_lookAtExchanges 61 = .ok (.aload_n 0, 1) := by decide +kernel
theorem dX1_lookAtExchanges_62 : decode cX1_lookAtExchanges 62 = .ok (.getfield 53, 3) := by decide +kernel
theorem dX1_lookAtExchanges_65 : decode cX1_lookAtExchanges 65 = .ok (.iconst 3, 1) := by decide +kernel
theorem dX1_lookAtExchanges_66 : decode cX1_lookAtExchanges 66 = .ok (.aload 4, 2) := by decide +kernel
theorem dX1_lookAtExchanges_68 : decode cX1_lookAtExchanges 68 = .ok (.invokevirtual 106, 3) := by decide +kernel
theorem dX1_lookAtExchanges_71 : decode cX1_lookAtExchanges 71 = .ok (.ifCond .eq 5, 3) := by decide +kernel
theorem dX1_lookAtExchanges_74 : decode cX1_lookAtExchanges 74 = .ok (.iconst 5, 1) := by decide +kernel
theorem dX1_lookAtExchanges_75 : decode cX1_lookAtExchanges 75 = .ok (.ireturn, 1) := by decide +kernel
theorem dX1_lookAtExchanges_76 : decode cX1_lookAtExchanges 76 = .ok (.aload_n 0, 1) := by decide +kernel
theorem dX1_lookAtExchanges_77 : decode cX1_lookAtExchanges 77 = .ok (.getfield 53, 3) := by decide +kernel
theorem dX1_lookAtExchanges_80 : decode cX1_lookAtExchanges 80 = .ok (.aload 4, 2) := by decide +kernel
theorem dX1_lookAtExchanges_82 : decode cX1_lookAtExchanges 82 = .ok (.aload_n 0, 1) := by decide +kernel
theorem dX1_lookAtExchanges_83 : decode cX1_lookAtExchanges 83 = .ok (.getfield 39, 3) := by decide +kernel
theorem dX1_lookAtExchanges_86 : decode cX1_lookAtExchanges 86 = .ok (.iload_n 2, 1) := by decide +kernel
theorem dX1_lookAtExchanges_87 : decode cX1_lookAtExchanges 87 = .ok (.invokevirtual 175, 3) := by decide +kernel
theorem dX1_lookAtExchanges_90 : decode cX1_lookAtExchanges 90 = .ok (.ifCond .eq 5, 3) := by decide +kernel
theorem dX1_lookAtExchanges_93 : decode cX1_lookAtExchanges 93 = .ok (.iconst 2, 1) := by decide +kernel
theorem dX1_lookAtExchanges_94 : decode cX1_lookAtExchanges 94 = .ok (.ireturn, 1) := by decide +kernel
theorem dX1_lookAtExchanges_95 : decode cX1_lookAtExchanges 95 = .ok (.iinc 3 1, 3) := by decide +kernel
theorem dX1_lookAtExchanges_98 : decode cX1_lookAtExchanges 98 = .ok (.goto (-96), 3) := by decide +kernel
theorem dX1_lookAtExchanges_101 : decode cX1_lookAtExchanges 101 = .ok (.iconst 0, 1) := by decide +kernel
theorem dX1_lookAtExchanges_102 : decode cX1_lookAtExchanges 102 = .ok (.ireturn, 1) := by decide +kernel
theorem kt_596 : Cond.fieldLink RX1 53 "PostGate$Checker" "directory" "LPostGate$Directory;" ∈ tb := tb_at (i := 221) (by decide +kernel) (by decide +kernel)
theorem kt_597 : Cond.methodLink RX1 194 yX0_same ∈ tb := tb_at (i := 773) (by decide +kernel) (by decide +kernel)
theorem kt_598 : Cond.methodLink RX1 116 yX2_valueAt ∈ tb := tb_at (i := 672) (by decide +kernel) (by decide +kernel)
theorem kt_599 : Cond.methodLink RX1 106 yX2_has ∈ tb := tb_at (i := 601) (by decide +kernel) (by decide +kernel)
theorem kt_600 : Cond.fieldLink RX1 39 "PostGate$Checker" "address" "I" ∈ tb := tb_at (i := 229) (by decide +kernel) (by decide +kernel)
theorem kt_601 : Cond.code yX2_hasAddress cX2_hasAddress 5 (some .boolean) ∈ tb := tb_at (i := 777) (by decide +kernel) (by decide +kernel)
theorem kt_602 : Cond.methodLink RX1 175 yX2_hasAddress ∈ tb := tb_at (i := 774) (by decide +kernel) (by decide +kernel)
theorem kt_603 : Cond.instanceMethod yX2_hasAddress ∈ tb := tb_at (i := 775) (by decide +kernel) (by decide +kernel)
theorem kt_604 : Cond.selects RX2 yX2_hasAddress yX2_hasAddress ∈ tb := tb_at (i := 776) (by decide +kernel) (by decide +kernel)
theorem kt_605 : Cond.fieldLink RX1 50 "PostGate$Checker" "voids" "I" ∈ tb := tb_at (i := 234) (by decide +kernel) (by decide +kernel)
theorem kt_606 : Cond.code yX1_lookAtExchanges cX1_lookAtExchanges 5 (some .int) ∈ tb := tb_at (i := 772) (by decide +kernel) (by decide +kernel)
theorem kt_607 : Cond.methodLink RX1 172 yX1_lookAtExchanges ∈ tb := tb_at (i := 769) (by decide +kernel) (by decide +kernel)
theorem kt_608 : Cond.instanceMethod yX1_lookAtExchanges ∈ tb := tb_at (i := 771) (by decide +kernel) (by decide +kernel)
theorem kt_609 : Cond.selects RX1 yX1_lookAtExchanges yX1_lookAtExchanges ∈ tb := tb_at (i := 11) (by decide +kernel) (by decide +kernel)
theorem kn_27 : Cond.fieldLinkNest RX1 179 "PostGate$Directory" "count" "I" "PostGate" ∈ nw := nw_at (i := 94) (by decide +kernel) rfl
theorem kn_28 : Cond.fieldLinkNest RX1 182 "PostGate$Directory" "entries" "[LPostGate$Entry;" "PostGate" ∈ nw := nw_at (i := 92) (by decide +kernel) rfl
theorem kn_29 : Cond.fieldLinkNest RX1 186 "PostGate$Entry" "sort" "I" "PostGate" ∈ nw := nw_at (i := 79) (by decide +kernel) rfl
theorem kn_30 : Cond.fieldLinkNest RX1 191 "PostGate$Entry" "name" "LPostGate$Bytes;" "PostGate" ∈ nw := nw_at (i := 74) (by decide +kernel) rfl
theorem kn_31 : Cond.fieldLinkNest RX1 161 "PostGate$Term" "bits" "I" "PostGate" ∈ nw := nw_at (i := 125) (by decide +kernel) rfl
noncomputable def lew (D : Nat → ETY) (ze : Nat) (oo : Int32) (y : Nat) (fa : Nat → Int32) (ad : Int32) (w : Nat) : Nat → Nat → Nat
  | 0, _ => 0
  | n + 1, k => @ite Nat ((D k).1 = 2 ∧ SAMN (D k) oo y fa) (Classical.propDecidable _) (@ite Nat (HAS D ze 3 0 (D k).2.2.2.2.1 (D k).2.2.2.2.2) (Classical.propDecidable _) 5 (@ite Nat (HAD D ze ad w 0 (D k).2.2.2.2.1 (D k).2.2.2.2.2) (Classical.propDecidable _) 2 (lew D ze oo y fa ad w n (k + 1)))) (lew D ze oo y fa ad w n (k + 1))
theorem lew_s {D : Nat → ETY} {ze : Nat} {oo : Int32} {y : Nat} {fa : Nat → Int32} {ad : Int32} {w n k : Nat} : lew D ze oo y fa ad w (n + 1) k = @ite Nat ((D k).1 = 2 ∧ SAMN (D k) oo y fa) (Classical.propDecidable _) (@ite Nat (HAS D ze 3 0 (D k).2.2.2.2.1 (D k).2.2.2.2.2) (Classical.propDecidable _) 5 (@ite Nat (HAD D ze ad w 0 (D k).2.2.2.2.1 (D k).2.2.2.2.2) (Classical.propDecidable _) 2 (lew D ze oo y fa ad w n (k + 1)))) (lew D ze oo y fa ad w n (k + 1)) := rfl
theorem lew_n {D : Nat → ETY} {ze : Nat} {oo : Int32} {y : Nat} {fa : Nat → Int32} {ad : Int32} {w k X : Nat} (h : lew D ze oo y fa ad w (ze - k) k = X) (hk : k < ze) (h1 : ¬ ((D k).1 = 2 ∧ SAMN (D k) oo y fa)) : lew D ze oo y fa ad w (ze - (k + 1)) (k + 1) = X := by
  rw [show ze - k = ze - (k + 1) + 1 by omega, lew_s, if_neg h1] at h
  exact h
theorem lew_t {D : Nat → ETY} {ze : Nat} {oo : Int32} {y : Nat} {fa : Nat → Int32} {ad : Int32} {w k X : Nat} (h : lew D ze oo y fa ad w (ze - k) k = X) (hk : k < ze) (h1 : (D k).1 = 2 ∧ SAMN (D k) oo y fa) (h2 : HAS D ze 3 0 (D k).2.2.2.2.1 (D k).2.2.2.2.2) : X = 5 := by
  rw [show ze - k = ze - (k + 1) + 1 by omega, lew_s, if_pos h1, if_pos h2] at h
  exact h.symm
theorem lew_p {D : Nat → ETY} {ze : Nat} {oo : Int32} {y : Nat} {fa : Nat → Int32} {ad : Int32} {w k X : Nat} (h : lew D ze oo y fa ad w (ze - k) k = X) (hk : k < ze) (h1 : (D k).1 = 2 ∧ SAMN (D k) oo y fa) (h2 : ¬ HAS D ze 3 0 (D k).2.2.2.2.1 (D k).2.2.2.2.2) (h3 : HAD D ze ad w 0 (D k).2.2.2.2.1 (D k).2.2.2.2.2) : X = 2 := by
  rw [show ze - k = ze - (k + 1) + 1 by omega, lew_s, if_pos h1, if_neg h2, if_pos h3] at h
  exact h.symm
theorem lew_o {D : Nat → ETY} {ze : Nat} {oo : Int32} {y : Nat} {fa : Nat → Int32} {ad : Int32} {w k X : Nat} (h : lew D ze oo y fa ad w (ze - k) k = X) (hk : k < ze) (h1 : (D k).1 = 2 ∧ SAMN (D k) oo y fa) (h2 : ¬ HAS D ze 3 0 (D k).2.2.2.2.1 (D k).2.2.2.2.2) (h3 : ¬ HAD D ze ad w 0 (D k).2.2.2.2.1 (D k).2.2.2.2.2) : lew D ze oo y fa ad w (ze - (k + 1)) (k + 1) = X := by
  rw [show ze - k = ze - (k + 1) + 1 by omega, lew_s, if_pos h1, if_neg h2, if_neg h3] at h
  exact h
theorem lew_e {D : Nat → ETY} {ze : Nat} {oo : Int32} {y : Nat} {fa : Nat → Int32} {ad : Int32} {w k X : Nat} (h : lew D ze oo y fa ad w (ze - k) k = X) (hk : ze ≤ k) : X = 0 := by
  rw [show ze - k = 0 by omega] at h
  exact h.symm
set_option maxHeartbeats 4000000 in
set_option maxRecDepth 100000 in
theorem s_X2_valueAt_e (l : Launch) (dC : Nat → ClassId) (dI : Nat → Nat → Nat) (cs : Nat → ClassId) (ty : TyM) (L : List Nat) (sz : Nat) (F : Nat → va_E) (h0 : Nat) (ρ : Nat) (ea : Nat) (j : Nat) (cn : Nat) (D : Nat → ETY) (hW : WT ty L) (hL_h0 : h0 ∈ L) (hT_h0 : ty h0 = (2, ρ, [ea])) (hcn : cn ≤ 40) (hj : j < cn) (hDI : DIRC cs F ea cn D) : Met l yX2_valueAt (.code yX2_valueAt cX2_valueAt 2 (some (.object "PostGate$Bytes")) :: tb) ({ frames := 0, cells := 0, slots := 0, locals := 0 }) (va_Pc [.ref h0, .int (nI j)] (PT (dC, dI) cs ty L F sz)) (va_Qr (fun _ : Unit => True) (fun _ ra T9 => ∃ F2 : Nat → va_E, ∃ vr : Nat, ∃ μ : Nat, QT (dC, dI) cs ty L [] F F2 (va_A (va_pl L F) sz) T9 ∧ ra ∈ L ∧ ty ra = (0, μ, [vr, 700]) ∧ (F2 ra = .inr (0, [.ref vr, .int (nI (D j).2.2.2.2.1), .int 0]) ∧ F2 vr = .inl (cs 16, 700, .inl (D j).2.2.2.2.2) ∧ (D j).2.2.2.2.1 ≤ 700 ∧ ρ + 100 ≤ μ)) (va_A (va_pl L F) sz)) 0 0 (va_A (va_pl L F) sz) := by
  refine Met.ofW (cc := cX2_valueAt) (maxL := 2) (ret := (some (.object "PostGate$Bytes"))) (by decide) rfl ?_
  intro p e s m args below meth c s₁ B hml hv
  obtain ⟨rfl, hsz, hP, hK, hD0, hE, hO⟩ := hv
  have hx := B.exec
  have hb := B.bytes
  have hr := B.returns
  have hts : ∀ w ∈ tb, w.before _ s = true := fun w h => atoms_spec (ws := .code yX2_valueAt cX2_valueAt 2 (some (.object "PostGate$Bytes")) :: tb) B.pre w (List.mem_cons_of_mem _ h)
  have hown : s.vm.findClass RX2 = some m.cls := findClass_of_methodNamed B.named
  have hlocks := B.notSynchronized
  subst hsz
  have hD := hD0.self (sz := s.heap.size)
  generalize hAe : va_A (va_pl L F) s.heap.size = A at hD ⊢
  have hA : ∀ q : Nat, s.heap.size ≤ q → A q := fun q h => by rw [← hAe]; exact Or.inr h
  have hS : va_S A s.heap s.heap [] := va_S.rf
  have hR : FR ty [] F F := FR.refl
  have hl := lv_entry ([.ref h0, .int (nI j)]) (n := 2) (Nat.le_of_ble_eq_true rfl)
  rw [lg_entry_eq]
  generalize (lg_sl ([.ref h0, .int (nI j)]) ++ List.replicate (2 - (lg_sl ([.ref h0, .int (nI j)])).length) Slot.unset).toArray = ls at hl ⊢
  have hl : lv_has ls 2 [(0, .ref h0), (1, .int (nI j))] := hl
  obtain ⟨hi_1, ht_2⟩ := hW.dir hL_h0 hT_h0
  obtain ⟨f_3, hF_4, hq_5⟩ := hO.rentry hi_1 ht_2
  have hjz := hj
  refine lv_aload_n hx hb dX2_valueAt_0 rfl (lv_at hl 0 rfl) ?_
  obtain ⟨z_6, hF_7, hq_8⟩ := hO.dir hL_h0 hT_h0
  refine pg_get (ci := 2) (v := .ref ea) (C := RX2) (T := TX2) (N := 2) hx hb hts it_2 hown hK hP hL_h0 hF_7 rfl 0 (by decide) (hts _ kt_84) (fun _ h9 => h9) rfl dX2_valueAt_1 ?_
  refine lv_iload_n hx hb dX2_valueAt_4 rfl (lv_at hl 1 rfl) ?_
  refine lv_if_lt (tgt := 18) hx hb dX2_valueAt_5 (by decide) (fun c_9 => absurd c_9 (nI_pos (by omega))) (fun c_9 => ?_)
  refine lv_iload_n hx hb dX2_valueAt_8 rfl (lv_at hl 1 rfl) ?_
  refine lv_bipush (v := 40) hx hb dX2_valueAt_9 (by decide) ?_
  refine lv_icmp_ge (tgt := 18) hx hb dX2_valueAt_11 (by decide) (fun c_10 => absurd c_10 (fun q => absurd ((nI_leI (a := 40) (by omega) (by omega)).mp q) (by omega))) (fun c_10 => ?_)
  refine lv_iload_n hx hb dX2_valueAt_14 rfl (lv_at hl 1 rfl) ?_
  refine lv_goto (tgt := 19) hx hb dX2_valueAt_15 (by decide) ?_
  obtain ⟨b_11, x_12, y_13, hbf_14, hi_15, ht_16⟩ := hq_5 j (by omega)
  refine pg_aald (r := b_11) hx hb hK hP hi_1 5 hF_4 rfl (vp_in_nI (by omega) (by omega)) (show f_3 ((nI j) : Int32).toNatClampNeg = _ from by rw [show ((nI j) : Int32) = nI j from rfl, nI_clamp (by omega)]; exact hbf_14) dX2_valueAt_19 ?_
  obtain ⟨hi_17, hi_18, ⟨r_19, ht_20⟩, ⟨r_21, ht_22⟩⟩ := hW.entry hi_15 ht_16
  have ht_20 : ty x_12 = (0, ρ + j + j + j + 101, [r_19, 60]) := ht_20
  have ht_22 : ty y_13 = (0, ρ + j + j + j + 102, [r_21, 700]) := ht_22
  obtain ⟨hen1, hen2, hen3, hen4, hen5⟩ := DIRC.get hDI hO hF_4 hjz hbf_14 hi_15 ht_16
  obtain ⟨hen6, hen7⟩ := hen2 _ _ hi_17 ht_20
  obtain ⟨hi_23, ht_24, hq_25⟩ := hW.bytes hi_17 ht_20
  obtain ⟨hen8, hen9⟩ := hen3 _ _ hi_18 ht_22
  obtain ⟨hi_26, ht_27, hq_28⟩ := hW.bytes hi_18 ht_22
  refine pg_getN (ci := 3) (v := .ref y_13) (C := RX3) (T := TX3) (N := 4) hx hb hts it_3 hown hK hP hi_15 hen1 rfl 1 (by decide) (hE.nest kn_4) (fun _ h9 => h9) rfl dX2_valueAt_20 ?_
  refine W.widen (k := 0) (n := 0) (by omega) (by omega) ?_
  exact W.aret hx hb hr (Or.inl ⟨_, rfl⟩) (Or.inr ⟨_, rfl⟩) (fun t ht hWm => ⟨⟨(), y_13, rfl, trivial, ⟨F, r_21, ρ + j + j + j + 102, QT.mk ht hP hD hO hR, hi_18, ht_22, ⟨hen8, hen9, by omega, by omega⟩⟩⟩, hS.F ht⟩) hS.2.2 dX2_valueAt_23
set_option maxHeartbeats 4000000 in
set_option maxRecDepth 100000 in
theorem s_X1_isCountedOut_e (l : Launch) (dC : Nat → ClassId) (dI : Nat → Nat → Nat) (cs : Nat → ClassId) (ty : TyM) (L : List Nat) (sz : Nat) (F : Nat → va_E) (h0 : Nat) (ρ : Nat) (d : Nat) (δ : Nat) (ea : Nat) (w0 : Nat) (w1 : Nat) (w2 : Nat) (w3 : Nat) (nm : Nat) (te : Nat) (cc : Nat) (vo : Nat) (ad : Int32) (v1 : Int32) (hW : WT ty L) (hL_h0 : h0 ∈ L) (hT_h0 : ty h0 = (1, ρ, [d, δ, ea, w0, w1, w2, w3, nm, te])) (hFh : F h0 = .inr (1, [.ref d, .ref w0, .ref w1, .ref w2, .ref w3, .ref nm, .ref te, .int ad, .int v1, .int (nI cc), .int (nI vo)])) (hcc : cc ≤ 10000) : Met l yX1_isCountedOut (.code yX1_isCountedOut cX1_isCountedOut 1 (some .boolean) :: tb) ({ frames := 0, cells := 0, slots := 0, locals := 0 }) (va_Pc [.ref h0] (PT (dC, dI) cs ty L F sz)) (va_Qi (fun (r : Int32) (_ : Unit) => (r = 1 ∧ 10 < cc + 1) ∨ (r = 0 ∧ ¬ 10 < cc + 1)) (fun _ T9 => ∃ F2 : Nat → va_E, QT (dC, dI) cs ty L [ρ] F F2 (va_A (va_pl L F) sz) T9 ∧ F2 h0 = .inr (1, [.ref d, .ref w0, .ref w1, .ref w2, .ref w3, .ref nm, .ref te, .int ad, .int v1, .int (nI (cc + 1)), .int (nI vo)])) (va_A (va_pl L F) sz)) 0 0 (va_A (va_pl L F) sz) := by
  refine Met.ofW (cc := cX1_isCountedOut) (maxL := 1) (ret := (some .boolean)) (by decide) rfl ?_
  intro p e s m args below meth c s₁ B hml hv
  obtain ⟨rfl, hsz, hP, hK, hD0, hE, hO⟩ := hv
  have hx := B.exec
  have hb := B.bytes
  have hr := B.returns
  have hts : ∀ w ∈ tb, w.before _ s = true := fun w h => atoms_spec (ws := .code yX1_isCountedOut cX1_isCountedOut 1 (some .boolean) :: tb) B.pre w (List.mem_cons_of_mem _ h)
  have hown : s.vm.findClass RX1 = some m.cls := findClass_of_methodNamed B.named
  have hlocks := B.notSynchronized
  subst hsz
  have hD := hD0.self (sz := s.heap.size)
  generalize hAe : va_A (va_pl L F) s.heap.size = A at hD ⊢
  have hA : ∀ q : Nat, s.heap.size ≤ q → A q := fun q h => by rw [← hAe]; exact Or.inr h
  have hS : va_S A s.heap s.heap [] := va_S.rf
  have hR : FR ty [ρ] F F := FR.refl
  have hl := lv_entry ([.ref h0]) (n := 1) (Nat.le_of_ble_eq_true rfl)
  rw [lg_entry_eq]
  generalize (lg_sl ([.ref h0]) ++ List.replicate (1 - (lg_sl ([.ref h0])).length) Slot.unset).toArray = ls at hl ⊢
  have hl : lv_has ls 1 [(0, .ref h0)] := hl
  refine lv_aload_n hx hb dX1_isCountedOut_0 rfl (lv_at hl 0 rfl) ?_
  refine lv_dup hx hb dX1_isCountedOut_1 rfl ?_
  obtain ⟨hi_1, ht_2, hi_3, ⟨r_4, ht_5⟩, hi_6, ⟨r_7, ht_8⟩, hi_9, ⟨r_10, ht_11⟩, hi_12, ⟨r_13, ht_14⟩, hi_15, ht_16, hi_17, ht_18⟩ := hW.chk hL_h0 hT_h0
  refine pg_get (ci := 1) (v := .int (nI cc)) (C := RX1) (T := TX1) (N := 11) hx hb hts it_1 hown hK hP hL_h0 hFh rfl 9 (by decide) (hts _ kt_304) (fun _ h9 => h9) rfl dX1_isCountedOut_2 ?_
  refine lv_iconst (v := 1) hx hb dX1_isCountedOut_5 (by decide) ?_
  refine lv_iadd hx hb dX1_isCountedOut_6 ?_
  refine lv_topi (fun x_19 ex_19 => ?_)
  obtain rfl : x_19 = (nI (cc + 1)) := ex_19.trans (nI_1 cc)
  refine pg_put (ci := 1) (v := .int (nI (cc + 1))) (ty := .int) (C := RX1) (T := TX1) (N := 11) hx hb hts it_1 tyX1 tyX1_ok nmX1 hown hK hP hD hS hL_h0 hFh rfl 9 (by decide) (hts _ kt_304) (fun _ h9 => h9) rfl (by decide +kernel) (rfl) (rfl) (Nat.le_of_ble_eq_true rfl) dX1_isCountedOut_7 (fun H locs hP hD hS => ?_)
  obtain ⟨F_20, he_21, hP, hD, hO, hR⟩ : ∃ G, G = va_up F h0 (.inr (1, [.ref d, .ref w0, .ref w1, .ref w2, .ref w3, .ref nm, .ref te, .int ad, .int v1, .int (nI (cc + 1)), .int (nI vo)])) ∧ va_P (dC, dI) vwCl (va_pl L G) H ∧ va_D A (va_pl L G) ∧ OK cs ty L G ∧ FR ty [ρ] F G := ⟨_, rfl, hP, hD, hO.up (sh.chk hT_h0 ⟨ad, v1, (nI (cc + 1)), (nI vo), rfl⟩), hR.up hT_h0 (by simp)⟩
  have hF_22 : F_20 h0 = .inr (1, [.ref d, .ref w0, .ref w1, .ref w2, .ref w3, .ref nm, .ref te, .int ad, .int v1, .int (nI (cc + 1)), .int (nI vo)]) := by rw [he_21]; exact up_self
  refine lv_aload_n hx hb dX1_isCountedOut_10 rfl (lv_at hl 0 rfl) ?_
  refine pg_get (ci := 1) (v := .int (nI (cc + 1))) (C := RX1) (T := TX1) (N := 11) hx hb hts it_1 hown hK hP hL_h0 hF_22 rfl 9 (by decide) (hts _ kt_304) (fun _ h9 => h9) rfl dX1_isCountedOut_11 ?_
  refine lv_bipush (v := 10) hx hb dX1_isCountedOut_14 (by decide) ?_
  refine lv_icmp_le (tgt := 23) hx hb dX1_isCountedOut_16 (by decide) (fun c_23 => ?_) (fun c_23 => ?_)
  ·
    refine lv_iconst (v := 0) hx hb dX1_isCountedOut_23 (by decide) ?_
    refine W.widen (k := 0) (n := 0) (by omega) (by omega) ?_
    exact W.zret (v := 0) (ty := .boolean) hx hb hr (by decide) (fun t ht hWm => ⟨⟨0, (), rfl, (Or.inr ⟨rfl, by have h9 : cc + 1 ≤ 10 := (nI_leI (b := 10) (by omega) (by omega)).mp c_23; omega⟩), ⟨F_20, QT.mk ht hP hD hO hR, hF_22⟩⟩, hS.F ht⟩) hS.2.2 dX1_isCountedOut_24
  ·
    refine lv_iconst (v := 1) hx hb dX1_isCountedOut_19 (by decide) ?_
    refine lv_goto (tgt := 24) hx hb dX1_isCountedOut_20 (by decide) ?_
    refine W.widen (k := 0) (n := 0) (by omega) (by omega) ?_
    exact W.zret (v := 1) (ty := .boolean) hx hb hr (by decide) (fun t ht hWm => ⟨⟨1, (), rfl, (Or.inl ⟨rfl, Nat.not_le.mp (fun q => c_23 ((nI_leI (b := 10) (by omega) (by omega)).mpr q))⟩), ⟨F_20, QT.mk ht hP hD hO hR, hF_22⟩⟩, hS.F ht⟩) hS.2.2 dX1_isCountedOut_24
set_option maxHeartbeats 4000000 in
set_option maxRecDepth 100000 in
theorem s_X1_lookAtExchanges_e (l : Launch) (dC : Nat → ClassId) (dI : Nat → Nat → Nat) (cs : Nat → ClassId) (ty : TyM) (L : List Nat) (sz : Nat) (F : Nat → va_E) (h0 : Nat) (ρ : Nat) (d : Nat) (δ : Nat) (ea : Nat) (w0 : Nat) (w1 : Nat) (w2 : Nat) (w3 : Nat) (nm : Nat) (te : Nat) (g1 : Nat) (σ : Nat) (r1 : Nat) (n1 : Nat) (cc : Nat) (vo : Nat) (ad : Int32) (v1 : Int32) (y : Nat) (cn : Nat) (w : Nat) (fa : Nat → Int32) (D : Nat → ETY) (oo : Int32) (hW : WT ty L) (hL_h0 : h0 ∈ L) (hT_h0 : ty h0 = (1, ρ, [d, δ, ea, w0, w1, w2, w3, nm, te])) (hL_g1 : g1 ∈ L) (hT_g1 : ty g1 = (0, σ, [r1, n1])) (hFh : F h0 = .inr (1, [.ref d, .ref w0, .ref w1, .ref w2, .ref w3, .ref nm, .ref te, .int ad, .int v1, .int (nI cc), .int (nI vo)])) (hFd : F d = .inr (2, [.ref ea, .int (nI cn)])) (hcn : cn ≤ 40) (hFg : F g1 = .inr (0, [.ref r1, .int (nI y), .int oo])) (hFr1 : F r1 = .inl (cs 16, n1, .inl fa)) (hyn : y ≤ n1) (hm9 : n1 ≤ 10000) (hDI : DIRC cs F ea cn D) (hw9 : w ≤ 32) : Met l yX1_lookAtExchanges (.code yX1_lookAtExchanges cX1_lookAtExchanges 5 (some .int) :: tb) ({ frames := 2, cells := 0, slots := 0, locals := 46 }) (va_Pc [.ref h0, .ref g1, .int (nI w)] (PT (dC, dI) cs ty L F sz)) (va_Qi (fun (r : Int32) (_ : Unit) => r = nI (lew D cn oo y fa ad w cn 0)) (fun _ T9 => ∃ F2 : Nat → va_E, QT (dC, dI) cs ty L [] F F2 (va_A (va_pl L F) sz) T9) (va_A (va_pl L F) sz)) 0 0 (va_A (va_pl L F) sz) := by
  refine Met.ofW (cc := cX1_lookAtExchanges) (maxL := 5) (ret := (some .int)) (by decide) rfl ?_
  intro p e s m args below meth c s₁ B hml hv
  obtain ⟨rfl, hsz, hP, hK, hD0, hE, hO⟩ := hv
  have hx := B.exec
  have hb := B.bytes
  have hr := B.returns
  have hts : ∀ w ∈ tb, w.before _ s = true := fun w h => atoms_spec (ws := .code yX1_lookAtExchanges cX1_lookAtExchanges 5 (some .int) :: tb) B.pre w (List.mem_cons_of_mem _ h)
  have hown : s.vm.findClass RX1 = some m.cls := findClass_of_methodNamed B.named
  have hlocks := B.notSynchronized
  subst hsz
  have hD := hD0.self (sz := s.heap.size)
  generalize hAe : va_A (va_pl L F) s.heap.size = A at hD ⊢
  have hA : ∀ q : Nat, s.heap.size ≤ q → A q := fun q h => by rw [← hAe]; exact Or.inr h
  have hS : va_S A s.heap s.heap [] := va_S.rf
  have hR : FR ty [] F F := FR.refl
  have hl := lv_entry ([.ref h0, .ref g1, .int (nI w)]) (n := 5) (Nat.le_of_ble_eq_true rfl)
  rw [lg_entry_eq]
  generalize (lg_sl ([.ref h0, .ref g1, .int (nI w)]) ++ List.replicate (5 - (lg_sl ([.ref h0, .ref g1, .int (nI w)])).length) Slot.unset).toArray = ls at hl ⊢
  have hl : lv_has ls 5 [(0, .ref h0), (1, .ref g1), (2, .int (nI w))] := hl
  obtain ⟨hi_1, ht_2, hi_3, ⟨r_4, ht_5⟩, hi_6, ⟨r_7, ht_8⟩, hi_9, ⟨r_10, ht_11⟩, hi_12, ⟨r_13, ht_14⟩, hi_15, ht_16, hi_17, ht_18⟩ := hW.chk hL_h0 hT_h0
  obtain ⟨hi_19, ht_20⟩ := hW.dir hi_1 ht_2
  obtain ⟨f_21, hF_22, hq_23⟩ := hO.rentry hi_19 ht_20
  obtain ⟨hi_24, ht_25, hq_26⟩ := hW.bytes hL_g1 hT_g1
  refine lv_iconst (v := 0) hx hb dX1_lookAtExchanges_0 (by decide) ?_
  refine lv_istore_n (lv' := [(3, .int 0), (0, .ref h0), (1, .ref g1), (2, .int (nI w))]) hx hb dX1_lookAtExchanges_1 rfl hl (by decide) rfl (fun ls hl => ?_)
  refine W.widen (k := 0) (n := 0) (by omega) (by omega) ?_
  refine pl_loop (σ := Nat) A (dC, dI) cs ty L [] F 2 5 (fun j => [(3, .int (nI j)), (0, .ref h0), (1, .ref g1), (2, .int (nI w))]) (fun j => []) (fun j _ => j ≤ cn ∧ lew D cn oo y fa ad w (cn - j) j = lew D cn oo y fa ad w cn 0) (fun j => cn - j) ?_ 0 F (⟨Nat.zero_le _, rfl⟩) hO hR _ _ hP hD hS ls (lv_sub hl [0, 1, 2, 3] rfl)
  rintro j F_27 hv_28 hO hR ih_29 H locs hP hD hS ls hl
  have hl : lv_has ls 5 [(3, .int (nI j)), (0, .ref h0), (1, .ref g1), (2, .int (nI w))] := hl
  have hv_28 : j ≤ cn ∧ lew D cn oo y fa ad w (cn - j) j = lew D cn oo y fa ad w cn 0 := hv_28
  refine W.eq (g2 := F0 m 2 ls []) rfl ?_
  obtain rfl : F = F_27 := (funext (fun a => hR a List.not_mem_nil)).symm
  obtain ⟨hv1, hv2⟩ := id hv_28
  refine lv_iload_n hx hb dX1_lookAtExchanges_2 rfl (lv_at hl 0 rfl) ?_
  refine lv_aload_n hx hb dX1_lookAtExchanges_3 rfl (lv_at hl 1 rfl) ?_
  refine pg_get (ci := 1) (v := .ref d) (C := RX1) (T := TX1) (N := 11) hx hb hts it_1 hown hK hP hL_h0 hFh rfl 0 (by decide) (hts _ kt_596) (fun _ h9 => h9) rfl dX1_lookAtExchanges_4 ?_
  refine pg_getN (ci := 2) (v := .int (nI cn)) (C := RX2) (T := TX2) (N := 2) hx hb hts it_2 hown hK hP hi_1 hFd rfl 1 (by decide) (hE.nest kn_27) (fun _ h9 => h9) rfl dX1_lookAtExchanges_7 ?_
  refine lv_icmp_ge (tgt := 101) hx hb dX1_lookAtExchanges_10 (by decide) (fun c_30 => ?_) (fun c_30 => ?_)
  ·
    have hi_31 : cn ≤ j := leN (N := cn) c_30
    have hjc : j = cn := by have h9 : cn ≤ j := (nI_leI (by omega) (by omega)).mp c_30; omega
    refine lv_iconst (v := 0) hx hb dX1_lookAtExchanges_101 (by decide) ?_
    refine W.widen (k := 0) (n := 0) (by omega) (by omega) ?_
    exact W.iret (v := 0) hx hb hr (fun t ht hWm => ⟨⟨0, (), rfl, (congrArg nI (lew_e hv2 (by omega))).symm, ⟨F, QT.mk ht hP hD hO hR⟩⟩, hS.F ht⟩) hS.2.2 dX1_lookAtExchanges_102
  ·
    have hi_32 : j < cn := ltN (N := cn) c_30
    have hjz : j < cn := Nat.not_le.mp (fun q => c_30 ((nI_leI (by omega) (by omega)).mpr q))
    refine lv_aload_n hx hb dX1_lookAtExchanges_13 rfl (lv_at hl 1 rfl) ?_
    refine pg_get (ci := 1) (v := .ref d) (C := RX1) (T := TX1) (N := 11) hx hb hts it_1 hown hK hP hL_h0 hFh rfl 0 (by decide) (hts _ kt_596) (fun _ h9 => h9) rfl dX1_lookAtExchanges_14 ?_
    refine pg_getN (ci := 2) (v := .ref ea) (C := RX2) (T := TX2) (N := 2) hx hb hts it_2 hown hK hP hi_1 hFd rfl 0 (by decide) (hE.nest kn_28) (fun _ h9 => h9) rfl dX1_lookAtExchanges_17 ?_
    refine lv_iload_n hx hb dX1_lookAtExchanges_20 rfl (lv_at hl 0 rfl) ?_
    obtain ⟨b_33, x_34, y_35, hbf_36, hi_37, ht_38⟩ := hq_23 j (by omega)
    refine pg_aald (r := b_33) hx hb hK hP hi_19 5 hF_22 rfl (vp_in_nI (by omega) (by omega)) (show f_21 ((nI j) : Int32).toNatClampNeg = _ from by rw [show ((nI j) : Int32) = nI j from rfl, nI_clamp (by omega)]; exact hbf_36) dX1_lookAtExchanges_21 ?_
    obtain ⟨hi_39, hi_40, ⟨r_41, ht_42⟩, ⟨r_43, ht_44⟩⟩ := hW.entry hi_37 ht_38
    have ht_42 : ty x_34 = (0, δ + j + j + j + 101, [r_41, 60]) := ht_42
    have ht_44 : ty y_35 = (0, δ + j + j + j + 102, [r_43, 700]) := ht_44
    obtain ⟨hen1, hen2, hen3, hen4, hen5⟩ := DIRC.get hDI hO hF_22 hjz hbf_36 hi_37 ht_38
    obtain ⟨hen6, hen7⟩ := hen2 _ _ hi_39 ht_42
    obtain ⟨hi_45, ht_46, hq_47⟩ := hW.bytes hi_39 ht_42
    refine pg_getN (ci := 3) (v := .int ((D j).1)) (C := RX3) (T := TX3) (N := 4) hx hb hts it_3 hown hK hP hi_37 hen1 rfl 2 (by decide) (hE.nest kn_29) (fun _ h9 => h9) rfl dX1_lookAtExchanges_22 ?_
    refine lv_iconst (v := 2) hx hb dX1_lookAtExchanges_25 (by decide) ?_
    refine lv_icmp_ne (tgt := 95) hx hb dX1_lookAtExchanges_26 (by decide) (fun c_48 => ?_) (fun c_48 => ?_)
    ·
      refine lv_iinc (v := (nI (j + 1))) (lv' := [(3, .int (nI (j + 1))), (0, .ref h0), (1, .ref g1), (2, .int (nI w))]) hx hb dX1_lookAtExchanges_95 hl (k := 0) rfl (nI_1 _) (by decide) rfl (fun ls hl => ?_)
      refine lv_goto (tgt := 2) hx hb dX1_lookAtExchanges_98 (by decide) ?_
      refine W.widen (k := 0) (n := 0) (by omega) (by omega) ?_
      exact ih_29 (j + 1) F (⟨by omega, lew_n hv2 hjz (fun q => c_48 q.1)⟩) (by show cn - (j + 1) < cn - j; omega) hO hR _ _ hP hD hS ls (lv_sub hl [0, 1, 2, 3] rfl)
    ·
      refine lv_aload_n hx hb dX1_lookAtExchanges_29 rfl (lv_at hl 1 rfl) ?_
      refine pg_get (ci := 1) (v := .ref d) (C := RX1) (T := TX1) (N := 11) hx hb hts it_1 hown hK hP hL_h0 hFh rfl 0 (by decide) (hts _ kt_596) (fun _ h9 => h9) rfl dX1_lookAtExchanges_30 ?_
      refine pg_getN (ci := 2) (v := .ref ea) (C := RX2) (T := TX2) (N := 2) hx hb hts it_2 hown hK hP hi_1 hFd rfl 0 (by decide) (hE.nest kn_28) (fun _ h9 => h9) rfl dX1_lookAtExchanges_33 ?_
      refine lv_iload_n hx hb dX1_lookAtExchanges_36 rfl (lv_at hl 0 rfl) ?_
      refine pg_aald (r := b_33) hx hb hK hP hi_19 5 hF_22 rfl (vp_in_nI (by omega) (by omega)) (show f_21 ((nI j) : Int32).toNatClampNeg = _ from by rw [show ((nI j) : Int32) = nI j from rfl, nI_clamp (by omega)]; exact hbf_36) dX1_lookAtExchanges_37 ?_
      refine pg_getN (ci := 3) (v := .ref x_34) (C := RX3) (T := TX3) (N := 4) hx hb hts it_3 hown hK hP hi_37 hen1 rfl 0 (by decide) (hE.nest kn_30) (fun _ h9 => h9) rfl dX1_lookAtExchanges_38 ?_
      refine lv_aload_n hx hb dX1_lookAtExchanges_41 rfl (lv_at hl 2 rfl) ?_
      have hFc := pg_free hD hS hA
      refine va_calli (va_runV (As := [.ref g1]) (rest := []) ⟨hx, hb, hml, hown, hts⟩ (s_X0_same_e l dC dI cs ty L H.size F x_34 (δ + j + j + j + 101) r_41 60 g1 σ r1 n1 ((D j).2.2.1) y ((D j).2.2.2.1) fa oo hW hi_39 ht_42 hL_g1 hT_g1 hen6 hen7 hFg hFr1 (by omega) (by omega) (by omega) (by omega)) ⟨callB_of 1 hts (gi kt_85) rfl rfl rfl (hts _ kt_1) (hts _ kt_597) (by decide +kernel) ⟨Nat.le_of_ble_eq_true rfl, Nat.le_of_ble_eq_true rfl⟩, (hts _ kt_87), (hts _ kt_88)⟩ ⟨fun a U g mk q => ⟨q.1, PT.calling q.2⟩, pg_recv hK hP hi_39 hen6 (q := (RX0, TX0, 3)) rfl, fun U hU hWm => ⟨rfl, PT.mk hU hWm hP hK hD hE hO⟩⟩ rfl rfl hl.1 rfl (lv_room (Nat.le_of_ble_eq_true rfl)) dX1_lookAtExchanges_42 ⟨by show _ + 0 ≤ 0; omega, by show _ + 0 ≤ 0; omega⟩) hS (fun q _ h => hFc q h) hFc (fun r_49 u t H1 locs ht hvm hw hB hz1 hk1 hS => ?_)
      obtain ⟨F_50, hB1⟩ := hB
      obtain rfl : F = F_50 := (funext (fun a => hB1.2.2.2 a List.not_mem_nil)).symm
      obtain ⟨hP, hD, hO, hR⟩ := QT.back hB1 ht hFc hR (fun q h => absurd h List.not_mem_nil)
      generalize H1 = H at hP hS ⊢
      have hw : (r_49 = 1 ∧ ((oo : Int32) = 0 ∧ (D j).2.2.1 = y ∧ ∀ j9, j9 < (D j).2.2.1 → (D j).2.2.2.1 j9 = fa j9)) ∨ (r_49 = 0 ∧ ¬ ((oo : Int32) = 0 ∧ (D j).2.2.1 = y ∧ ∀ j9, j9 < (D j).2.2.1 → (D j).2.2.2.1 j9 = fa j9)) := hw
      have hw_51 := hw
      refine lv_if_ne (tgt := 51) hx hb dX1_lookAtExchanges_45 (by decide) (fun c_52 => ?_) (fun c_52 => ?_)
      ·
        refine lv_aload_n hx hb dX1_lookAtExchanges_51 rfl (lv_at hl 1 rfl) ?_
        refine pg_get (ci := 1) (v := .ref d) (C := RX1) (T := TX1) (N := 11) hx hb hts it_1 hown hK hP hL_h0 hFh rfl 0 (by decide) (hts _ kt_596) (fun _ h9 => h9) rfl dX1_lookAtExchanges_52 ?_
        refine lv_iload_n hx hb dX1_lookAtExchanges_55 rfl (lv_at hl 0 rfl) ?_
        have hFc := pg_free hD hS hA
        refine va_callr (va_runV (As := [.int (nI j)]) (rest := []) ⟨hx, hb, hml, hown, hts⟩ (s_X2_valueAt_e l dC dI cs ty L H.size F d δ ea j cn D hW hi_1 ht_2 (by omega) (hjz) (hDI)) ⟨callB_of 1 hts (gi kt_381) rfl rfl rfl (hts _ kt_103) (hts _ kt_598) (by decide +kernel) ⟨Nat.le_of_ble_eq_true rfl, Nat.le_of_ble_eq_true rfl⟩, (hts _ kt_383), (hts _ kt_384)⟩ ⟨fun a U g mk q => ⟨q.1, PT.calling q.2⟩, pg_recv hK hP hi_1 hFd (q := (RX2, TX2, 2)) rfl, fun U hU hWm => ⟨rfl, PT.mk hU hWm hP hK hD hE hO⟩⟩ rfl rfl hl.1 rfl (lv_room (Nat.le_of_ble_eq_true rfl)) dX1_lookAtExchanges_56 ⟨by show _ + 0 ≤ 0; omega, by show _ + 0 ≤ 0; omega⟩) hS (fun q _ h => hFc q h) hFc (fun u r_53 t H1 locs ht hvm hw hB hz1 hk1 hS => ?_)
        obtain ⟨F_54, vr_55, μ_56, hB1, hq_57, hq_58, hq_59⟩ := hB
        obtain rfl : F = F_54 := (funext (fun a => hB1.2.2.2 a List.not_mem_nil)).symm
        obtain ⟨hP, hD, hO, hR⟩ := QT.back hB1 ht hFc hR (fun q h => absurd h List.not_mem_nil)
        generalize H1 = H at hP hS ⊢
        obtain ⟨hva1, hva2, hva3, hva4⟩ := hq_59
        obtain ⟨hi_60, ht_61, hq_62⟩ := hW.bytes hq_57 hq_58
        refine lv_astore (lv' := [(4, .ref r_53), (3, .int (nI j)), (0, .ref h0), (1, .ref g1), (2, .int (nI w))]) hx hb dX1_lookAtExchanges_59 hl (by decide) rfl (fun ls hl => ?_)
        refine lv_aload_n hx hb dX1_lookAtExchanges_61 rfl (lv_at hl 2 rfl) ?_
        refine pg_get (ci := 1) (v := .ref d) (C := RX1) (T := TX1) (N := 11) hx hb hts it_1 hown hK hP hL_h0 hFh rfl 0 (by decide) (hts _ kt_596) (fun _ h9 => h9) rfl dX1_lookAtExchanges_62 ?_
        refine lv_iconst (v := 3) hx hb dX1_lookAtExchanges_65 (by decide) ?_
        refine lv_aload hx hb dX1_lookAtExchanges_66 (lv_at hl 0 rfl) ?_
        have hFc := pg_free hD hS hA
        refine va_calli (va_runV (As := [.int 3, .ref r_53]) (rest := []) ⟨hx, hb, hml, hown, hts⟩ (s_X2_has_e l dC dI cs ty L H.size F d δ ea r_53 μ_56 vr_55 700 ((D j).2.2.2.2.1) cn ((D j).2.2.2.2.2) D 3 0 hW hi_1 ht_2 hq_57 hq_58 hFd (by omega) hva1 hva2 (by omega) (by omega) (hDI)) ⟨callB_of 2 hts (gi kt_373) rfl rfl rfl (hts _ kt_103) (hts _ kt_599) (by decide +kernel) ⟨Nat.le_of_ble_eq_true rfl, Nat.le_of_ble_eq_true rfl⟩, (hts _ kt_375), (hts _ kt_376)⟩ ⟨fun a U g mk q => ⟨q.1, PT.calling q.2⟩, pg_recv hK hP hi_1 hFd (q := (RX2, TX2, 2)) rfl, fun U hU hWm => ⟨rfl, PT.mk hU hWm hP hK hD hE hO⟩⟩ rfl rfl hl.1 rfl (lv_room (Nat.le_of_ble_eq_true rfl)) dX1_lookAtExchanges_68 ⟨by show _ + 0 ≤ 0; omega, by show _ + 0 ≤ 0; omega⟩) hS (fun q _ h => hFc q h) hFc (fun r_63 u t H1 locs ht hvm hw hB hz1 hk1 hS => ?_)
        obtain ⟨F_64, hB1⟩ := hB
        obtain rfl : F = F_64 := (funext (fun a => hB1.2.2.2 a List.not_mem_nil)).symm
        obtain ⟨hP, hD, hO, hR⟩ := QT.back hB1 ht hFc hR (fun q h => absurd h List.not_mem_nil)
        generalize H1 = H at hP hS ⊢
        have hw : (r_63 = 1 ∧ HAS D cn 3 0 (D j).2.2.2.2.1 (D j).2.2.2.2.2) ∨ (r_63 = 0 ∧ ¬ HAS D cn 3 0 (D j).2.2.2.2.1 (D j).2.2.2.2.2) := hw
        have hw_65 := hw
        refine lv_if_eq (tgt := 76) hx hb dX1_lookAtExchanges_71 (by decide) (fun c_66 => ?_) (fun c_66 => ?_)
        ·
          refine lv_aload_n hx hb dX1_lookAtExchanges_76 rfl (lv_at hl 2 rfl) ?_
          refine pg_get (ci := 1) (v := .ref d) (C := RX1) (T := TX1) (N := 11) hx hb hts it_1 hown hK hP hL_h0 hFh rfl 0 (by decide) (hts _ kt_596) (fun _ h9 => h9) rfl dX1_lookAtExchanges_77 ?_
          refine lv_aload hx hb dX1_lookAtExchanges_80 (lv_at hl 0 rfl) ?_
          refine lv_aload_n hx hb dX1_lookAtExchanges_82 rfl (lv_at hl 2 rfl) ?_
          refine pg_get (ci := 1) (v := .int ad) (C := RX1) (T := TX1) (N := 11) hx hb hts it_1 hown hK hP hL_h0 hFh rfl 7 (by decide) (hts _ kt_600) (fun _ h9 => h9) rfl dX1_lookAtExchanges_83 ?_
          refine lv_iload_n hx hb dX1_lookAtExchanges_86 rfl (lv_at hl 4 rfl) ?_
          have hFc := pg_free hD hS hA
          refine va_calli (va_runV (As := [.ref r_53, .int ad, .int (nI w)]) (rest := []) ⟨hx, hb, hml, hown, hts⟩ (s_X2_hasAddress_e l dC dI cs ty L H.size F d δ ea r_53 μ_56 vr_55 700 ((D j).2.2.2.2.1) cn w ((D j).2.2.2.2.2) D ad 0 hW hi_1 ht_2 hq_57 hq_58 hFd (by omega) hva1 hva2 (by omega) (by omega) (hDI) (hw9)) ⟨callB_of 3 hts (gi kt_601) rfl rfl rfl (hts _ kt_103) (hts _ kt_602) (by decide +kernel) ⟨Nat.le_of_ble_eq_true rfl, Nat.le_of_ble_eq_true rfl⟩, (hts _ kt_603), (hts _ kt_604)⟩ ⟨fun a U g mk q => ⟨q.1, PT.calling q.2⟩, pg_recv hK hP hi_1 hFd (q := (RX2, TX2, 2)) rfl, fun U hU hWm => ⟨rfl, PT.mk hU hWm hP hK hD hE hO⟩⟩ rfl rfl hl.1 rfl (lv_room (Nat.le_of_ble_eq_true rfl)) dX1_lookAtExchanges_87 ⟨by show _ + 0 ≤ 0; omega, by show _ + 0 ≤ 0; omega⟩) hS (fun q _ h => hFc q h) hFc (fun r_67 u t H1 locs ht hvm hw hB hz1 hk1 hS => ?_)
          obtain ⟨F_68, hB1⟩ := hB
          obtain rfl : F = F_68 := (funext (fun a => hB1.2.2.2 a List.not_mem_nil)).symm
          obtain ⟨hP, hD, hO, hR⟩ := QT.back hB1 ht hFc hR (fun q h => absurd h List.not_mem_nil)
          generalize H1 = H at hP hS ⊢
          have hw : (r_67 = 1 ∧ HAD D cn ad w 0 (D j).2.2.2.2.1 (D j).2.2.2.2.2) ∨ (r_67 = 0 ∧ ¬ HAD D cn ad w 0 (D j).2.2.2.2.1 (D j).2.2.2.2.2) := hw
          have hw_69 := hw
          refine lv_if_eq (tgt := 95) hx hb dX1_lookAtExchanges_90 (by decide) (fun c_70 => ?_) (fun c_70 => ?_)
          ·
            refine lv_iinc (v := (nI (j + 1))) (lv' := [(3, .int (nI (j + 1))), (4, .ref r_53), (0, .ref h0), (1, .ref g1), (2, .int (nI w))]) hx hb dX1_lookAtExchanges_95 hl (k := 1) rfl (nI_1 _) (by decide) rfl (fun ls hl => ?_)
            refine lv_goto (tgt := 2) hx hb dX1_lookAtExchanges_98 (by decide) ?_
            refine W.widen (k := 0) (n := 0) (by omega) (by omega) ?_
            exact ih_29 (j + 1) F (⟨by omega, lew_o hv2 hjz ⟨c_48, orp1 hw_51 c_52⟩ (orp0 hw_65 c_66) (orp0 hw_69 c_70)⟩) (by show cn - (j + 1) < cn - j; omega) hO hR _ _ hP hD hS ls (lv_sub hl [0, 2, 3, 4] rfl)
          ·
            refine lv_iconst (v := 2) hx hb dX1_lookAtExchanges_93 (by decide) ?_
            refine W.widen (k := 0) (n := 0) (by omega) (by omega) ?_
            exact W.iret (v := 2) hx hb hr (fun t ht hWm => ⟨⟨2, (), rfl, (congrArg nI (lew_p hv2 hjz ⟨c_48, orp1 hw_51 c_52⟩ (orp0 hw_65 c_66) (orp1 hw_69 c_70))).symm, ⟨F, QT.mk ht hP hD hO hR⟩⟩, hS.F ht⟩) hS.2.2 dX1_lookAtExchanges_94
        ·
          refine lv_iconst (v := 5) hx hb dX1_lookAtExchanges_74 (by decide) ?_
          refine W.widen (k := 0) (n := 0) (by omega) (by omega) ?_
          exact W.iret (v := 5) hx hb hr (fun t ht hWm => ⟨⟨5, (), rfl, (congrArg nI (lew_t hv2 hjz ⟨c_48, orp1 hw_51 c_52⟩ (orp1 hw_65 c_66))).symm, ⟨F, QT.mk ht hP hD hO hR⟩⟩, hS.F ht⟩) hS.2.2 dX1_lookAtExchanges_75
      ·
        refine lv_goto (tgt := 95) hx hb dX1_lookAtExchanges_48 (by decide) ?_
        refine lv_iinc (v := (nI (j + 1))) (lv' := [(3, .int (nI (j + 1))), (0, .ref h0), (1, .ref g1), (2, .int (nI w))]) hx hb dX1_lookAtExchanges_95 hl (k := 0) rfl (nI_1 _) (by decide) rfl (fun ls hl => ?_)
        refine lv_goto (tgt := 2) hx hb dX1_lookAtExchanges_98 (by decide) ?_
        refine W.widen (k := 0) (n := 0) (by omega) (by omega) ?_
        exact ih_29 (j + 1) F (⟨by omega, lew_n hv2 hjz (fun q => orp0 hw_51 c_52 q.2)⟩) (by show cn - (j + 1) < cn - j; omega) hO hR _ _ hP hD hS ls (lv_sub hl [0, 1, 2, 3] rfl)
def skW (k : Nat) : Int32 := if k = 4 then 2 else 1
noncomputable def lkW (D : Nat → ETY) (ze : Nat) (oo : Int32) (y : Nat) (fa : Nat → Int32) (ad : Int32) (w k vo : Nat) : Nat × Nat := @ite (Nat × Nat) (HAS D ze 3 oo y fa) (Classical.propDecidable _) (5, vo) (@ite (Nat × Nat) (HAS D ze (skW k) oo y fa) (Classical.propDecidable _) (if k = 4 then (lew D ze oo y fa ad w ze 0, vo) else @ite (Nat × Nat) (k = 6 ∨ HAD D ze ad w oo y fa) (Classical.propDecidable _) (2, vo) (0, vo)) (if 2 < vo + 1 then 6 else 0, vo + 1))
set_option maxHeartbeats 4000000 in
set_option maxRecDepth 100000 in
theorem s_X1_look_e (l : Launch) (dC : Nat → ClassId) (dI : Nat → Nat → Nat) (cs : Nat → ClassId) (ty : TyM) (L : List Nat) (sz : Nat) (F : Nat → va_E) (h0 : Nat) (ρ : Nat) (d : Nat) (δ : Nat) (ea : Nat) (w0 : Nat) (w1 : Nat) (w2 : Nat) (w3 : Nat) (nm : Nat) (te : Nat) (tm : Nat) (τ : Nat) (g1 : Nat) (σ : Nat) (r1 : Nat) (n1 : Nat) (cc : Nat) (vo : Nat) (ad : Int32) (v1 : Int32) (y : Nat) (cn : Nat) (w : Nat) (fa : Nat → Int32) (D : Nat → ETY) (oo : Int32) (k1 : Nat) (t3 : Nat) (d1 : Int32) (d2 : Int32) (d5 : Int32) (hW : WT ty L) (hL_h0 : h0 ∈ L) (hT_h0 : ty h0 = (1, ρ, [d, δ, ea, w0, w1, w2, w3, nm, te])) (hL_tm : tm ∈ L) (hT_tm : ty tm = (10, τ, [])) (hL_g1 : g1 ∈ L) (hT_g1 : ty g1 = (0, σ, [r1, n1])) (hFh : F h0 = .inr (1, [.ref d, .ref w0, .ref w1, .ref w2, .ref w3, .ref nm, .ref te, .int ad, .int v1, .int (nI cc), .int (nI vo)])) (hFd : F d = .inr (2, [.ref ea, .int (nI cn)])) (hcn : cn ≤ 40) (hFg : F g1 = .inr (0, [.ref r1, .int (nI y), .int oo])) (hFr1 : F r1 = .inl (cs 16, n1, .inl fa)) (hyn : y ≤ n1) (hm9 : n1 ≤ 10000) (hDI : DIRC cs F ea cn D) (hw9 : w ≤ 32) (hvo : vo ≤ 10000) (hk8 : k1 ≤ 8) (hFt : F tm = .inr (10, [.int (nI k1), .int d1, .int d2, .int (nI t3), .int (nI w), .int d5])) : Met l yX1_look (.code yX1_look cX1_look 3 (some .int) :: tb) ({ frames := 3, cells := 0, slots := 0, locals := 70 }) (va_Pc [.ref h0, .ref tm, .ref g1] (PT (dC, dI) cs ty L F sz)) (va_Qi (fun (r : Int32) (gv : Nat) => (r = nI (lkW D cn oo y fa ad w k1 vo).1 ∧ gv = (lkW D cn oo y fa ad w k1 vo).2)) (fun (gv : Nat) T9 => ∃ F2 : Nat → va_E, QT (dC, dI) cs ty L [ρ] F F2 (va_A (va_pl L F) sz) T9 ∧ F2 h0 = .inr (1, [.ref d, .ref w0, .ref w1, .ref w2, .ref w3, .ref nm, .ref te, .int ad, .int v1, .int (nI cc), .int (nI gv)])) (va_A (va_pl L F) sz)) 0 0 (va_A (va_pl L F) sz) := by
  refine Met.ofW (cc := cX1_look) (maxL := 3) (ret := (some .int)) (by decide) rfl ?_
  intro p e s m args below meth c s₁ B hml hv
  obtain ⟨rfl, hsz, hP, hK, hD0, hE, hO⟩ := hv
  have hx := B.exec
  have hb := B.bytes
  have hr := B.returns
  have hts : ∀ w ∈ tb, w.before _ s = true := fun w h => atoms_spec (ws := .code yX1_look cX1_look 3 (some .int) :: tb) B.pre w (List.mem_cons_of_mem _ h)
  have hown : s.vm.findClass RX1 = some m.cls := findClass_of_methodNamed B.named
  have hlocks := B.notSynchronized
  subst hsz
  have hD := hD0.self (sz := s.heap.size)
  generalize hAe : va_A (va_pl L F) s.heap.size = A at hD ⊢
  have hA : ∀ q : Nat, s.heap.size ≤ q → A q := fun q h => by rw [← hAe]; exact Or.inr h
  have hS : va_S A s.heap s.heap [] := va_S.rf
  have hR : FR ty [ρ] F F := FR.refl
  have hl := lv_entry ([.ref h0, .ref tm, .ref g1]) (n := 3) (Nat.le_of_ble_eq_true rfl)
  rw [lg_entry_eq]
  generalize (lg_sl ([.ref h0, .ref tm, .ref g1]) ++ List.replicate (3 - (lg_sl ([.ref h0, .ref tm, .ref g1])).length) Slot.unset).toArray = ls at hl ⊢
  have hl : lv_has ls 3 [(0, .ref h0), (1, .ref tm), (2, .ref g1)] := hl
  obtain ⟨hi_1, ht_2, hi_3, ⟨r_4, ht_5⟩, hi_6, ⟨r_7, ht_8⟩, hi_9, ⟨r_10, ht_11⟩, hi_12, ⟨r_13, ht_14⟩, hi_15, ht_16, hi_17, ht_18⟩ := hW.chk hL_h0 hT_h0
  obtain ⟨hi_19, ht_20⟩ := hW.dir hi_1 ht_2
  obtain ⟨f_21, hF_22, hq_23⟩ := hO.rentry hi_19 ht_20
  obtain ⟨hi_24, ht_25, hq_26⟩ := hW.bytes hL_g1 hT_g1
  refine lv_aload_n hx hb dX1_look_0 rfl (lv_at hl 0 rfl) ?_
  refine pg_get (ci := 1) (v := .ref d) (C := RX1) (T := TX1) (N := 11) hx hb hts it_1 hown hK hP hL_h0 hFh rfl 0 (by decide) (hts _ kt_596) (fun _ h9 => h9) rfl dX1_look_1 ?_
  refine lv_iconst (v := 3) hx hb dX1_look_4 (by decide) ?_
  refine lv_aload_n hx hb dX1_look_5 rfl (lv_at hl 2 rfl) ?_
  have hFc := pg_free hD hS hA
  refine va_calli (va_runV (As := [.int 3, .ref g1]) (rest := []) ⟨hx, hb, hml, hown, hts⟩ (s_X2_has_e l dC dI cs ty L s.heap.size F d δ ea g1 σ r1 n1 y cn fa D 3 oo hW hi_1 ht_2 hL_g1 hT_g1 hFd (by omega) hFg hFr1 (by omega) (by omega) (hDI)) ⟨callB_of 2 hts (gi kt_373) rfl rfl rfl (hts _ kt_103) (hts _ kt_599) (by decide +kernel) ⟨Nat.le_of_ble_eq_true rfl, Nat.le_of_ble_eq_true rfl⟩, (hts _ kt_375), (hts _ kt_376)⟩ ⟨fun a U g mk q => ⟨q.1, PT.calling q.2⟩, pg_recv hK hP hi_1 hFd (q := (RX2, TX2, 2)) rfl, fun U hU hWm => ⟨rfl, PT.mk hU hWm hP hK hD hE hO⟩⟩ rfl rfl hl.1 rfl (lv_room (Nat.le_of_ble_eq_true rfl)) dX1_look_6 ⟨by show _ + 0 ≤ 0; omega, by show _ + 0 ≤ 0; omega⟩) hS (fun q _ h => hFc q h) hFc (fun r_27 u t H1 locs ht hvm hw hB hz1 hk1 hS => ?_)
  obtain ⟨F_28, hB1⟩ := hB
  obtain rfl : F = F_28 := (funext (fun a => hB1.2.2.2 a List.not_mem_nil)).symm
  obtain ⟨hP, hD, hO, hR⟩ := QT.back hB1 ht hFc hR (fun q h => absurd h List.not_mem_nil)
  generalize H1 = H at hP hS ⊢
  have hw : (r_27 = 1 ∧ HAS D cn 3 oo y fa) ∨ (r_27 = 0 ∧ ¬ HAS D cn 3 oo y fa) := hw
  have hw_29 := hw
  refine lv_if_eq (tgt := 14) hx hb dX1_look_9 (by decide) (fun c_30 => ?_) (fun c_30 => ?_)
  ·
    refine lv_aload_n hx hb dX1_look_14 rfl (lv_at hl 0 rfl) ?_
    refine pg_get (ci := 1) (v := .ref d) (C := RX1) (T := TX1) (N := 11) hx hb hts it_1 hown hK hP hL_h0 hFh rfl 0 (by decide) (hts _ kt_596) (fun _ h9 => h9) rfl dX1_look_15 ?_
    refine lv_aload_n hx hb dX1_look_18 rfl (lv_at hl 1 rfl) ?_
    refine pg_getN (ci := 10) (v := .int (nI k1)) (C := RX10) (T := TX10) (N := 6) hx hb hts it_10 hown hK hP hL_tm hFt rfl 0 (by decide) (hE.nest kn_26) (fun _ h9 => h9) rfl dX1_look_19 ?_
    refine lv_iconst (v := 4) hx hb dX1_look_22 (by decide) ?_
    refine lv_icmp_ne (tgt := 30) hx hb dX1_look_23 (by decide) (fun c_31 => ?_) (fun c_31 => ?_)
    ·
      refine lv_iconst (v := 1) hx hb dX1_look_30 (by decide) ?_
      refine lv_aload_n hx hb dX1_look_31 rfl (lv_at hl 2 rfl) ?_
      have hFc := pg_free hD hS hA
      refine va_calli (va_runV (As := [.int 1, .ref g1]) (rest := []) ⟨hx, hb, hml, hown, hts⟩ (s_X2_has_e l dC dI cs ty L H.size F d δ ea g1 σ r1 n1 y cn fa D 1 oo hW hi_1 ht_2 hL_g1 hT_g1 hFd (by omega) hFg hFr1 (by omega) (by omega) (hDI)) ⟨callB_of 2 hts (gi kt_373) rfl rfl rfl (hts _ kt_103) (hts _ kt_599) (by decide +kernel) ⟨Nat.le_of_ble_eq_true rfl, Nat.le_of_ble_eq_true rfl⟩, (hts _ kt_375), (hts _ kt_376)⟩ ⟨fun a U g mk q => ⟨q.1, PT.calling q.2⟩, pg_recv hK hP hi_1 hFd (q := (RX2, TX2, 2)) rfl, fun U hU hWm => ⟨rfl, PT.mk hU hWm hP hK hD hE hO⟩⟩ rfl rfl hl.1 rfl (lv_room (Nat.le_of_ble_eq_true rfl)) dX1_look_32 ⟨by show _ + 0 ≤ 0; omega, by show _ + 0 ≤ 0; omega⟩) hS (fun q _ h => hFc q h) hFc (fun r_33 u t H1 locs ht hvm hw hB hz1 hk1 hS => ?_)
      obtain ⟨F_34, hB1⟩ := hB
      obtain rfl : F = F_34 := (funext (fun a => hB1.2.2.2 a List.not_mem_nil)).symm
      obtain ⟨hP, hD, hO, hR⟩ := QT.back hB1 ht hFc hR (fun q h => absurd h List.not_mem_nil)
      generalize H1 = H at hP hS ⊢
      have hw : (r_33 = 1 ∧ HAS D cn 1 oo y fa) ∨ (r_33 = 0 ∧ ¬ HAS D cn 1 oo y fa) := hw
      have hw_35 := hw
      refine lv_if_ne (tgt := 63) hx hb dX1_look_35 (by decide) (fun c_36 => ?_) (fun c_36 => ?_)
      ·
        refine lv_aload_n hx hb dX1_look_63 rfl (lv_at hl 1 rfl) ?_
        refine pg_getN (ci := 10) (v := .int (nI k1)) (C := RX10) (T := TX10) (N := 6) hx hb hts it_10 hown hK hP hL_tm hFt rfl 0 (by decide) (hE.nest kn_26) (fun _ h9 => h9) rfl dX1_look_64 ?_
        refine lv_iconst (v := 4) hx hb dX1_look_67 (by decide) ?_
        refine lv_icmp_ne (tgt := 81) hx hb dX1_look_68 (by decide) (fun c_37 => ?_) (fun c_37 => absurd c_37 (c_31))
        refine lv_aload_n hx hb dX1_look_81 rfl (lv_at hl 1 rfl) ?_
        refine pg_getN (ci := 10) (v := .int (nI k1)) (C := RX10) (T := TX10) (N := 6) hx hb hts it_10 hown hK hP hL_tm hFt rfl 0 (by decide) (hE.nest kn_26) (fun _ h9 => h9) rfl dX1_look_82 ?_
        refine lv_bipush (v := 6) hx hb dX1_look_85 (by decide) ?_
        refine lv_icmp_eq (tgt := 109) hx hb dX1_look_87 (by decide) (fun c_38 => ?_) (fun c_38 => ?_)
        ·
          refine lv_iconst (v := 2) hx hb dX1_look_109 (by decide) ?_
          refine lv_goto (tgt := 114) hx hb dX1_look_110 (by decide) ?_
          refine W.widen (k := 0) (n := 0) (by omega) (by omega) ?_
          exact W.iret (v := 2) hx hb hr (fun t ht hWm => ⟨⟨2, vo, rfl, (by unfold lkW; rw [if_neg (orp0 hw_29 c_30), if_pos (show HAS D cn (skW k1) oo y fa by rw [show skW k1 = 1 from if_neg (show ¬ k1 = 4 from fun q => c_31 (by rw [q]; rfl))]; exact orp1 hw_35 c_36), if_neg (show ¬ k1 = 4 from fun q => c_31 (by rw [q]; rfl)), if_pos (Or.inl (show k1 = 6 from (nI_eq (b := 6) (by omega) (by omega)).mp c_38))]; exact ⟨rfl, rfl⟩), ⟨F, QT.mk ht hP hD hO hR, hFh⟩⟩, hS.F ht⟩) hS.2.2 dX1_look_114
        ·
          refine lv_aload_n hx hb dX1_look_90 rfl (lv_at hl 0 rfl) ?_
          refine pg_get (ci := 1) (v := .ref d) (C := RX1) (T := TX1) (N := 11) hx hb hts it_1 hown hK hP hL_h0 hFh rfl 0 (by decide) (hts _ kt_596) (fun _ h9 => h9) rfl dX1_look_91 ?_
          refine lv_aload_n hx hb dX1_look_94 rfl (lv_at hl 2 rfl) ?_
          refine lv_aload_n hx hb dX1_look_95 rfl (lv_at hl 0 rfl) ?_
          refine pg_get (ci := 1) (v := .int ad) (C := RX1) (T := TX1) (N := 11) hx hb hts it_1 hown hK hP hL_h0 hFh rfl 7 (by decide) (hts _ kt_600) (fun _ h9 => h9) rfl dX1_look_96 ?_
          refine lv_aload_n hx hb dX1_look_99 rfl (lv_at hl 1 rfl) ?_
          refine pg_getN (ci := 10) (v := .int (nI w)) (C := RX10) (T := TX10) (N := 6) hx hb hts it_10 hown hK hP hL_tm hFt rfl 4 (by decide) (hE.nest kn_31) (fun _ h9 => h9) rfl dX1_look_100 ?_
          have hFc := pg_free hD hS hA
          refine va_calli (va_runV (As := [.ref g1, .int ad, .int (nI w)]) (rest := []) ⟨hx, hb, hml, hown, hts⟩ (s_X2_hasAddress_e l dC dI cs ty L H.size F d δ ea g1 σ r1 n1 y cn w fa D ad oo hW hi_1 ht_2 hL_g1 hT_g1 hFd (by omega) hFg hFr1 (by omega) (by omega) (hDI) (hw9)) ⟨callB_of 3 hts (gi kt_601) rfl rfl rfl (hts _ kt_103) (hts _ kt_602) (by decide +kernel) ⟨Nat.le_of_ble_eq_true rfl, Nat.le_of_ble_eq_true rfl⟩, (hts _ kt_603), (hts _ kt_604)⟩ ⟨fun a U g mk q => ⟨q.1, PT.calling q.2⟩, pg_recv hK hP hi_1 hFd (q := (RX2, TX2, 2)) rfl, fun U hU hWm => ⟨rfl, PT.mk hU hWm hP hK hD hE hO⟩⟩ rfl rfl hl.1 rfl (lv_room (Nat.le_of_ble_eq_true rfl)) dX1_look_103 ⟨by show _ + 0 ≤ 0; omega, by show _ + 0 ≤ 0; omega⟩) hS (fun q _ h => hFc q h) hFc (fun r_41 u t H1 locs ht hvm hw hB hz1 hk1 hS => ?_)
          obtain ⟨F_42, hB1⟩ := hB
          obtain rfl : F = F_42 := (funext (fun a => hB1.2.2.2 a List.not_mem_nil)).symm
          obtain ⟨hP, hD, hO, hR⟩ := QT.back hB1 ht hFc hR (fun q h => absurd h List.not_mem_nil)
          generalize H1 = H at hP hS ⊢
          have hw : (r_41 = 1 ∧ HAD D cn ad w oo y fa) ∨ (r_41 = 0 ∧ ¬ HAD D cn ad w oo y fa) := hw
          have hw_43 := hw
          refine lv_if_eq (tgt := 113) hx hb dX1_look_106 (by decide) (fun c_44 => ?_) (fun c_44 => ?_)
          ·
            refine lv_iconst (v := 0) hx hb dX1_look_113 (by decide) ?_
            refine W.widen (k := 0) (n := 0) (by omega) (by omega) ?_
            exact W.iret (v := 0) hx hb hr (fun t ht hWm => ⟨⟨0, vo, rfl, (by unfold lkW; rw [if_neg (orp0 hw_29 c_30), if_pos (show HAS D cn (skW k1) oo y fa by rw [show skW k1 = 1 from if_neg (show ¬ k1 = 4 from fun q => c_31 (by rw [q]; rfl))]; exact orp1 hw_35 c_36), if_neg (show ¬ k1 = 4 from fun q => c_31 (by rw [q]; rfl)), if_neg (fun q => q.elim (show ¬ k1 = 6 from fun q => c_38 (by rw [q]; rfl)) (orp0 hw_43 c_44))]; exact ⟨rfl, rfl⟩), ⟨F, QT.mk ht hP hD hO hR, hFh⟩⟩, hS.F ht⟩) hS.2.2 dX1_look_114
          ·
            refine lv_iconst (v := 2) hx hb dX1_look_109 (by decide) ?_
            refine lv_goto (tgt := 114) hx hb dX1_look_110 (by decide) ?_
            refine W.widen (k := 0) (n := 0) (by omega) (by omega) ?_
            exact W.iret (v := 2) hx hb hr (fun t ht hWm => ⟨⟨2, vo, rfl, (by unfold lkW; rw [if_neg (orp0 hw_29 c_30), if_pos (show HAS D cn (skW k1) oo y fa by rw [show skW k1 = 1 from if_neg (show ¬ k1 = 4 from fun q => c_31 (by rw [q]; rfl))]; exact orp1 hw_35 c_36), if_neg (show ¬ k1 = 4 from fun q => c_31 (by rw [q]; rfl)), if_pos (Or.inr (orp1 hw_43 c_44))]; exact ⟨rfl, rfl⟩), ⟨F, QT.mk ht hP hD hO hR, hFh⟩⟩, hS.F ht⟩) hS.2.2 dX1_look_114
      ·
        refine lv_aload_n hx hb dX1_look_38 rfl (lv_at hl 0 rfl) ?_
        refine lv_dup hx hb dX1_look_39 rfl ?_
        refine pg_get (ci := 1) (v := .int (nI vo)) (C := RX1) (T := TX1) (N := 11) hx hb hts it_1 hown hK hP hL_h0 hFh rfl 10 (by decide) (hts _ kt_605) (fun _ h9 => h9) rfl dX1_look_40 ?_
        refine lv_iconst (v := 1) hx hb dX1_look_43 (by decide) ?_
        refine lv_iadd hx hb dX1_look_44 ?_
        refine lv_topi (fun x_45 ex_45 => ?_)
        obtain rfl : x_45 = (nI (vo + 1)) := ex_45.trans (nI_1 vo)
        refine pg_put (ci := 1) (v := .int (nI (vo + 1))) (ty := .int) (C := RX1) (T := TX1) (N := 11) hx hb hts it_1 tyX1 tyX1_ok nmX1 hown hK hP hD hS hL_h0 hFh rfl 10 (by decide) (hts _ kt_605) (fun _ h9 => h9) rfl (by decide +kernel) (rfl) (rfl) (Nat.le_of_ble_eq_true rfl) dX1_look_45 (fun H locs hP hD hS => ?_)
        obtain ⟨F_46, he_47, hP, hD, hO, hR⟩ : ∃ G, G = va_up F h0 (.inr (1, [.ref d, .ref w0, .ref w1, .ref w2, .ref w3, .ref nm, .ref te, .int ad, .int v1, .int (nI cc), .int (nI (vo + 1))])) ∧ va_P (dC, dI) vwCl (va_pl L G) H ∧ va_D A (va_pl L G) ∧ OK cs ty L G ∧ FR ty [ρ] F G := ⟨_, rfl, hP, hD, hO.up (sh.chk hT_h0 ⟨ad, v1, (nI cc), (nI (vo + 1)), rfl⟩), hR.up hT_h0 (by simp)⟩
        have hF_48 : F_46 h0 = .inr (1, [.ref d, .ref w0, .ref w1, .ref w2, .ref w3, .ref nm, .ref te, .int ad, .int v1, .int (nI cc), .int (nI (vo + 1))]) := by rw [he_47]; exact up_self
        have hF_49 : F_46 d = .inr (2, [.ref ea, .int (nI cn)]) := by rw [he_47, up_ne (ne_ty ht_2 hT_h0 (by simp))]; exact hFd
        have hF_50 : F_46 g1 = .inr (0, [.ref r1, .int (nI y), .int oo]) := by rw [he_47, up_ne (ne_ty hT_g1 hT_h0 (by simp))]; exact hFg
        have hF_51 : F_46 r1 = .inl (cs 16, n1, .inl fa) := by rw [he_47, up_ne (ne_ty ht_25 hT_h0 (by simp))]; exact hFr1
        have hF_52 : F_46 tm = .inr (10, [.int (nI k1), .int d1, .int d2, .int (nI t3), .int (nI w), .int d5]) := by rw [he_47, up_ne (ne_ty hT_tm hT_h0 (by simp))]; exact hFt
        have hF_53 : F_46 ea = .inl (cs 21, 40, .inr (.inr (.inr (.inr f_21)))) := by rw [he_47, up_ne (ne_ty ht_20 hT_h0 (by simp))]; exact hF_22
        refine lv_aload_n hx hb dX1_look_48 rfl (lv_at hl 0 rfl) ?_
        refine pg_get (ci := 1) (v := .int (nI (vo + 1))) (C := RX1) (T := TX1) (N := 11) hx hb hts it_1 hown hK hP hL_h0 hF_48 rfl 10 (by decide) (hts _ kt_605) (fun _ h9 => h9) rfl dX1_look_49 ?_
        refine lv_iconst (v := 2) hx hb dX1_look_52 (by decide) ?_
        refine lv_icmp_le (tgt := 61) hx hb dX1_look_53 (by decide) (fun c_54 => ?_) (fun c_54 => ?_)
        ·
          refine lv_iconst (v := 0) hx hb dX1_look_61 (by decide) ?_
          refine W.widen (k := 0) (n := 0) (by omega) (by omega) ?_
          exact W.iret (v := 0) hx hb hr (fun t ht hWm => ⟨⟨0, (vo + 1), rfl, (by unfold lkW; rw [if_neg (orp0 hw_29 c_30), if_neg (show ¬ HAS D cn (skW k1) oo y fa by rw [show skW k1 = 1 from if_neg (show ¬ k1 = 4 from fun q => c_31 (by rw [q]; rfl))]; exact orp0 hw_35 c_36), if_neg (show ¬ 2 < vo + 1 by have h9 : vo + 1 ≤ 2 := (nI_leI (b := 2) (by omega) (by omega)).mp c_54; omega)]; exact ⟨rfl, rfl⟩), ⟨F_46, QT.mk ht hP hD hO hR, hF_48⟩⟩, hS.F ht⟩) hS.2.2 dX1_look_62
        ·
          refine lv_bipush (v := 6) hx hb dX1_look_56 (by decide) ?_
          refine lv_goto (tgt := 62) hx hb dX1_look_58 (by decide) ?_
          refine W.widen (k := 0) (n := 0) (by omega) (by omega) ?_
          exact W.iret (v := 6) hx hb hr (fun t ht hWm => ⟨⟨6, (vo + 1), rfl, (by unfold lkW; rw [if_neg (orp0 hw_29 c_30), if_neg (show ¬ HAS D cn (skW k1) oo y fa by rw [show skW k1 = 1 from if_neg (show ¬ k1 = 4 from fun q => c_31 (by rw [q]; rfl))]; exact orp0 hw_35 c_36), if_pos (show 2 < vo + 1 from Nat.not_le.mp (fun q => c_54 ((nI_leI (b := 2) (by omega) (by omega)).mpr q)))]; exact ⟨rfl, rfl⟩), ⟨F_46, QT.mk ht hP hD hO hR, hF_48⟩⟩, hS.F ht⟩) hS.2.2 dX1_look_62
    ·
      refine lv_iconst (v := 2) hx hb dX1_look_26 (by decide) ?_
      refine lv_goto (tgt := 31) hx hb dX1_look_27 (by decide) ?_
      refine lv_aload_n hx hb dX1_look_31 rfl (lv_at hl 2 rfl) ?_
      have hFc := pg_free hD hS hA
      refine va_calli (va_runV (As := [.int 2, .ref g1]) (rest := []) ⟨hx, hb, hml, hown, hts⟩ (s_X2_has_e l dC dI cs ty L H.size F d δ ea g1 σ r1 n1 y cn fa D 2 oo hW hi_1 ht_2 hL_g1 hT_g1 hFd (by omega) hFg hFr1 (by omega) (by omega) (hDI)) ⟨callB_of 2 hts (gi kt_373) rfl rfl rfl (hts _ kt_103) (hts _ kt_599) (by decide +kernel) ⟨Nat.le_of_ble_eq_true rfl, Nat.le_of_ble_eq_true rfl⟩, (hts _ kt_375), (hts _ kt_376)⟩ ⟨fun a U g mk q => ⟨q.1, PT.calling q.2⟩, pg_recv hK hP hi_1 hFd (q := (RX2, TX2, 2)) rfl, fun U hU hWm => ⟨rfl, PT.mk hU hWm hP hK hD hE hO⟩⟩ rfl rfl hl.1 rfl (lv_room (Nat.le_of_ble_eq_true rfl)) dX1_look_32 ⟨by show _ + 0 ≤ 0; omega, by show _ + 0 ≤ 0; omega⟩) hS (fun q _ h => hFc q h) hFc (fun r_58 u t H1 locs ht hvm hw hB hz1 hk1 hS => ?_)
      obtain ⟨F_59, hB1⟩ := hB
      obtain rfl : F = F_59 := (funext (fun a => hB1.2.2.2 a List.not_mem_nil)).symm
      obtain ⟨hP, hD, hO, hR⟩ := QT.back hB1 ht hFc hR (fun q h => absurd h List.not_mem_nil)
      generalize H1 = H at hP hS ⊢
      have hw : (r_58 = 1 ∧ HAS D cn 2 oo y fa) ∨ (r_58 = 0 ∧ ¬ HAS D cn 2 oo y fa) := hw
      have hw_60 := hw
      refine lv_if_ne (tgt := 63) hx hb dX1_look_35 (by decide) (fun c_61 => ?_) (fun c_61 => ?_)
      ·
        refine lv_aload_n hx hb dX1_look_63 rfl (lv_at hl 1 rfl) ?_
        refine pg_getN (ci := 10) (v := .int (nI k1)) (C := RX10) (T := TX10) (N := 6) hx hb hts it_10 hown hK hP hL_tm hFt rfl 0 (by decide) (hE.nest kn_26) (fun _ h9 => h9) rfl dX1_look_64 ?_
        refine lv_iconst (v := 4) hx hb dX1_look_67 (by decide) ?_
        refine lv_icmp_ne (tgt := 81) hx hb dX1_look_68 (by decide) (fun c_62 => absurd (c_31) c_62) (fun c_62 => ?_)
        refine lv_aload_n hx hb dX1_look_71 rfl (lv_at hl 0 rfl) ?_
        refine lv_aload_n hx hb dX1_look_72 rfl (lv_at hl 2 rfl) ?_
        refine lv_aload_n hx hb dX1_look_73 rfl (lv_at hl 1 rfl) ?_
        refine pg_getN (ci := 10) (v := .int (nI w)) (C := RX10) (T := TX10) (N := 6) hx hb hts it_10 hown hK hP hL_tm hFt rfl 4 (by decide) (hE.nest kn_31) (fun _ h9 => h9) rfl dX1_look_74 ?_
        have hFc := pg_free hD hS hA
        refine va_calli (va_runV (As := [.ref g1, .int (nI w)]) (rest := []) ⟨hx, hb, hml, hown, hts⟩ (s_X1_lookAtExchanges_e l dC dI cs ty L H.size F h0 ρ d δ ea w0 w1 w2 w3 nm te g1 σ r1 n1 cc vo ad v1 y cn w fa D oo hW hL_h0 hT_h0 hL_g1 hT_g1 hFh hFd (by omega) hFg hFr1 (by omega) (by omega) (hDI) (hw9)) ⟨callB_of 2 hts (gi kt_606) rfl rfl rfl (hts _ kt_572) (hts _ kt_607) (by decide +kernel) ⟨Nat.le_of_ble_eq_true rfl, Nat.le_of_ble_eq_true rfl⟩, (hts _ kt_608), (hts _ kt_609)⟩ ⟨fun a U g mk q => ⟨q.1, PT.calling q.2⟩, pg_recv hK hP hL_h0 hFh (q := (RX1, TX1, 11)) rfl, fun U hU hWm => ⟨rfl, PT.mk hU hWm hP hK hD hE hO⟩⟩ rfl rfl hl.1 rfl (lv_room (Nat.le_of_ble_eq_true rfl)) dX1_look_77 ⟨by show _ + 0 ≤ 0; omega, by show _ + 0 ≤ 0; omega⟩) hS (fun q _ h => hFc q h) hFc (fun r_63 u t H1 locs ht hvm hw hB hz1 hk1 hS => ?_)
        obtain ⟨F_64, hB1⟩ := hB
        obtain rfl : F = F_64 := (funext (fun a => hB1.2.2.2 a List.not_mem_nil)).symm
        obtain ⟨hP, hD, hO, hR⟩ := QT.back hB1 ht hFc hR (fun q h => absurd h List.not_mem_nil)
        generalize H1 = H at hP hS ⊢
        have hw : r_63 = nI (lew D cn oo y fa ad w cn 0) := hw
        have hw_65 := hw
        refine W.widen (k := 0) (n := 0) (by omega) (by omega) ?_
        exact W.iret (v := r_63) hx hb hr (fun t ht hWm => ⟨⟨r_63, vo, rfl, (by unfold lkW; rw [if_neg (orp0 hw_29 c_30), if_pos (show HAS D cn (skW k1) oo y fa by rw [show skW k1 = 2 from if_pos (show k1 = 4 from (nI_eq (b := 4) (by omega) (by omega)).mp c_31)]; exact orp1 hw_60 c_61), if_pos (show k1 = 4 from (nI_eq (b := 4) (by omega) (by omega)).mp c_31)]; exact ⟨hw_65, rfl⟩), ⟨F, QT.mk ht hP hD hO hR, hFh⟩⟩, hS.F ht⟩) hS.2.2 dX1_look_80
      ·
        refine lv_aload_n hx hb dX1_look_38 rfl (lv_at hl 0 rfl) ?_
        refine lv_dup hx hb dX1_look_39 rfl ?_
        refine pg_get (ci := 1) (v := .int (nI vo)) (C := RX1) (T := TX1) (N := 11) hx hb hts it_1 hown hK hP hL_h0 hFh rfl 10 (by decide) (hts _ kt_605) (fun _ h9 => h9) rfl dX1_look_40 ?_
        refine lv_iconst (v := 1) hx hb dX1_look_43 (by decide) ?_
        refine lv_iadd hx hb dX1_look_44 ?_
        refine lv_topi (fun x_66 ex_66 => ?_)
        obtain rfl : x_66 = (nI (vo + 1)) := ex_66.trans (nI_1 vo)
        refine pg_put (ci := 1) (v := .int (nI (vo + 1))) (ty := .int) (C := RX1) (T := TX1) (N := 11) hx hb hts it_1 tyX1 tyX1_ok nmX1 hown hK hP hD hS hL_h0 hFh rfl 10 (by decide) (hts _ kt_605) (fun _ h9 => h9) rfl (by decide +kernel) (rfl) (rfl) (Nat.le_of_ble_eq_true rfl) dX1_look_45 (fun H locs hP hD hS => ?_)
        obtain ⟨F_67, he_68, hP, hD, hO, hR⟩ : ∃ G, G = va_up F h0 (.inr (1, [.ref d, .ref w0, .ref w1, .ref w2, .ref w3, .ref nm, .ref te, .int ad, .int v1, .int (nI cc), .int (nI (vo + 1))])) ∧ va_P (dC, dI) vwCl (va_pl L G) H ∧ va_D A (va_pl L G) ∧ OK cs ty L G ∧ FR ty [ρ] F G := ⟨_, rfl, hP, hD, hO.up (sh.chk hT_h0 ⟨ad, v1, (nI cc), (nI (vo + 1)), rfl⟩), hR.up hT_h0 (by simp)⟩
        have hF_69 : F_67 h0 = .inr (1, [.ref d, .ref w0, .ref w1, .ref w2, .ref w3, .ref nm, .ref te, .int ad, .int v1, .int (nI cc), .int (nI (vo + 1))]) := by rw [he_68]; exact up_self
        have hF_70 : F_67 d = .inr (2, [.ref ea, .int (nI cn)]) := by rw [he_68, up_ne (ne_ty ht_2 hT_h0 (by simp))]; exact hFd
        have hF_71 : F_67 g1 = .inr (0, [.ref r1, .int (nI y), .int oo]) := by rw [he_68, up_ne (ne_ty hT_g1 hT_h0 (by simp))]; exact hFg
        have hF_72 : F_67 r1 = .inl (cs 16, n1, .inl fa) := by rw [he_68, up_ne (ne_ty ht_25 hT_h0 (by simp))]; exact hFr1
        have hF_73 : F_67 tm = .inr (10, [.int (nI k1), .int d1, .int d2, .int (nI t3), .int (nI w), .int d5]) := by rw [he_68, up_ne (ne_ty hT_tm hT_h0 (by simp))]; exact hFt
        have hF_74 : F_67 ea = .inl (cs 21, 40, .inr (.inr (.inr (.inr f_21)))) := by rw [he_68, up_ne (ne_ty ht_20 hT_h0 (by simp))]; exact hF_22
        refine lv_aload_n hx hb dX1_look_48 rfl (lv_at hl 0 rfl) ?_
        refine pg_get (ci := 1) (v := .int (nI (vo + 1))) (C := RX1) (T := TX1) (N := 11) hx hb hts it_1 hown hK hP hL_h0 hF_69 rfl 10 (by decide) (hts _ kt_605) (fun _ h9 => h9) rfl dX1_look_49 ?_
        refine lv_iconst (v := 2) hx hb dX1_look_52 (by decide) ?_
        refine lv_icmp_le (tgt := 61) hx hb dX1_look_53 (by decide) (fun c_75 => ?_) (fun c_75 => ?_)
        ·
          refine lv_iconst (v := 0) hx hb dX1_look_61 (by decide) ?_
          refine W.widen (k := 0) (n := 0) (by omega) (by omega) ?_
          exact W.iret (v := 0) hx hb hr (fun t ht hWm => ⟨⟨0, (vo + 1), rfl, (by unfold lkW; rw [if_neg (orp0 hw_29 c_30), if_neg (show ¬ HAS D cn (skW k1) oo y fa by rw [show skW k1 = 2 from if_pos (show k1 = 4 from (nI_eq (b := 4) (by omega) (by omega)).mp c_31)]; exact orp0 hw_60 c_61), if_neg (show ¬ 2 < vo + 1 by have h9 : vo + 1 ≤ 2 := (nI_leI (b := 2) (by omega) (by omega)).mp c_75; omega)]; exact ⟨rfl, rfl⟩), ⟨F_67, QT.mk ht hP hD hO hR, hF_69⟩⟩, hS.F ht⟩) hS.2.2 dX1_look_62
        ·
          refine lv_bipush (v := 6) hx hb dX1_look_56 (by decide) ?_
          refine lv_goto (tgt := 62) hx hb dX1_look_58 (by decide) ?_
          refine W.widen (k := 0) (n := 0) (by omega) (by omega) ?_
          exact W.iret (v := 6) hx hb hr (fun t ht hWm => ⟨⟨6, (vo + 1), rfl, (by unfold lkW; rw [if_neg (orp0 hw_29 c_30), if_neg (show ¬ HAS D cn (skW k1) oo y fa by rw [show skW k1 = 2 from if_pos (show k1 = 4 from (nI_eq (b := 4) (by omega) (by omega)).mp c_31)]; exact orp0 hw_60 c_61), if_pos (show 2 < vo + 1 from Nat.not_le.mp (fun q => c_75 ((nI_leI (b := 2) (by omega) (by omega)).mpr q)))]; exact ⟨rfl, rfl⟩), ⟨F_67, QT.mk ht hP hD hO hR, hF_69⟩⟩, hS.F ht⟩) hS.2.2 dX1_look_62
  ·
    refine lv_iconst (v := 5) hx hb dX1_look_12 (by decide) ?_
    refine W.widen (k := 0) (n := 0) (by omega) (by omega) ?_
    exact W.iret (v := 5) hx hb hr (fun t ht hWm => ⟨⟨5, vo, rfl, (by unfold lkW; rw [if_pos (orp1 hw_29 c_30)]; exact ⟨rfl, rfl⟩), ⟨F, QT.mk ht hP hD hO hR, hFh⟩⟩, hS.F ht⟩) hS.2.2 dX1_look_13
