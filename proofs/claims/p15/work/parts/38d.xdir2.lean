theorem dX11_entry_0 : decode cX11_entry 0 = .ok (.aload_n 0, 1) := by decide +kernel
theorem dX11_entry_1 : decode cX11_entry 1 = .ok (.getfield 24, 3) := by decide +kernel
theorem dX11_entry_4 : decode cX11_entry 4 = .ok (.iload_n 1, 1) := by decide +kernel
theorem dX11_entry_5 : decode cX11_entry 5 = .ok (.iload_n 2, 1) := by decide +kernel
theorem dX11_entry_6 : decode cX11_entry 6 = .ok (.aload_n 0, 1) := by decide +kernel
theorem dX11_entry_7 : decode cX11_entry 7 = .ok (.getfield 14, 3) := by decide +kernel
theorem dX11_entry_10 : decode cX11_entry 10 = .ok (.invokevirtual 78, 3) := by decide +kernel
theorem dX11_entry_13 : decode cX11_entry 13 = .ok (.istore_n 3, 1) := by decide +kernel
theorem dX11_entry_14 : decode cX11_entry 14 = .ok (.aload_n 0, 1) := by decide +kernel
theorem dX11_entry_15 : decode cX11_entry 15 = .ok (.getfield 14, 3) := by decide +kernel
theorem dX11_entry_18 : decode cX11_entry 18 = .ok (.invokevirtual 82, 3) := by decide +kernel
theorem dX11_entry_21 : decode cX11_entry 21 = .ok (.iload_n 3, 1) := by decide +kernel
theorem dX11_entry_22 : decode cX11_entry 22 = .ok (.ireturn, 1) := by decide +kernel
theorem dX2_take_0 : decode cX2_take 0 = .ok (.aload_n 0, 1) := by decide +kernel
theorem dX2_take_1 : decode cX2_take 1 = .ok (.getfield 17, 3) := by decide +kernel
theorem dX2_take_4 : decode cX2_take 4 = .ok (.bipush 40, 2) := by decide +kernel
theorem dX2_take_6 : decode cX2_take 6 = .ok (.if_icmp .ne 6, 3) := by decide +kernel
theorem dX2_take_9 : decode cX2_take 9 = .ok (.bipush (-3), 2) := by decide +kernel
theorem dX2_take_11 : decode cX2_take 11 = .ok (.ireturn, 1) := by decide +kernel
theorem dX2_take_12 : decode cX2_take 12 = .ok (.iload_n 1, 1) := by decide +kernel
theorem dX2_take_13 : decode cX2_take 13 = .ok (.ifCond .eq 8, 3) := by decide +kernel
theorem dX2_take_16 : decode cX2_take 16 = .ok (.iload_n 1, 1) := by decide +kernel
theorem dX2_take_17 : decode cX2_take 17 = .ok (.iconst 2, 1) := by decide +kernel
theorem dX2_take_18 : decode cX2_take 18 = .ok (.if_icmp .ne 7, 3) := by decide +kernel
theorem dX2_take_21 : decode cX2_take 21 = .ok (.iconst 1, 1) := by decide +kernel
theorem dX2_take_22 : decode cX2_take 22 = .ok (.goto 4, 3) := by decide +kernel
theorem dX2_take_25 : decode cX2_take 25 = .ok (.iconst 0, 1) := by decide +kernel
theorem dX2_take_26 : decode cX2_take 26 = .ok (.istore 4, 2) := by decide +kernel
theorem dX2_take_28 : decode cX2_take 28 = .ok (.iload 4, 2) := by decide +kernel
theorem dX2_take_30 : decode cX2_take 30 = .ok (.ifCond .eq 17, 3) := by decide +kernel
theorem dX2_take_33 : decode cX2_take 33 = .ok (.aload_n 3, 1) := by decide +kernel
theorem dX2_take_34 : decode cX2_take 34 = .ok (.bipush 32, 2) := by decide +kernel
theorem dX2_take_36 : decode cX2_take 36 = .ok (.iconst 0, 1) := by decide +kernel
theorem dX2_take_37 : decode cX2_take 37 = .ok (.aload_n 3, 1) := by decide +kernel
theorem dX2_take_38 : decode cX2_take 38 = .ok (.getfield 22, 3) := by decide +kernel
theorem dX2_take_41 : decode cX2_take 41 = .ok (.invokevirtual 27, 3) := by decide +kernel
theorem dX2_take_44 : decode cX2_take 44 = .ok (.goto 7, 3) := by decide +kernel
theorem dX2_take_47 : decode cX2_take 47 = .ok (.aload_n 3, 1) := by decide +kernel
theorem dX2_take_48 : decode cX2_take 48 = .ok (.getfield 22, 3) := by decide +kernel
theorem dX2_take_51 : decode cX2_take 51 = .ok (.istore 5, 2) := by decide +kernel
theorem dX2_take_53 : decode cX2_take 53 = .ok (.iload_n 1, 1) := by decide +kernel
theorem dX2_take_54 : decode cX2_take 54 = .ok (.ifCond .lt 18, 3) := by decide +kernel
theorem dX2_take_57 : decode cX2_take 57 = .ok (.iload_n 1, 1) := by decide +kernel
theorem dX2_take_58 : decode cX2_take 58 = .ok (.iconst 4, 1) := by decide +kernel
theorem dX2_take_59 : decode cX2_take 59 = .ok (.if_icmp .gt 13, 3) := by decide +kernel
theorem dX2_take_62 : decode cX2_take 62 = .ok (.aload_n 3, 1) := by decide +kernel
theorem dX2_take_63 : decode cX2_take 63 = .ok (.iconst 0, 1) := by decide +kernel
theorem dX2_take_64 : decode cX2_take 64 = .ok (.iload 5, 2) := by decide +kernel
theorem dX2_take_66 : decode cX2_take 66 = .ok (.invokevirtual 31, 3) := by decide +kernel
theorem dX2_take_69 : decode cX2_take 69 = .ok (.ifCond .ne 5, 3) := by decide +kernel
theorem dX2_take_72 : decode cX2_take 72 = .ok (.iconst (-1), 1) := by decide +kernel
theorem dX2_take_73 : decode cX2_take 73 = .ok (.ireturn, 1) := by decide +kernel
theorem dX2_take_74 : decode cX2_take 74 = .ok (.iload 4, 2) := by decide +kernel
theorem dX2_take_76 : decode cX2_take 76 = .ok (.ifCond .eq 15, 3) := by decide +kernel
theorem dX2_take_79 : decode cX2_take 79 = .ok (.iload_n 1, 1) := by decide +kernel
theorem dX2_take_80 : decode cX2_take 80 = .ok (.aload_n 3, 1) := by decide +kernel
theorem dX2_take_81 : decode cX2_take 81 = .ok (.iload 5, 2) := by decide +kernel
theorem dX2_take_83 : decode cX2_take 83 = .ok (.invokestatic 35, 3) := by decide +kernel
theorem dX2_take_86 : decode cX2_take 86 = .ok (.ifCond .ne 5, 3) := by decide +kernel
theorem dX2_take_89 : decode cX2_take 89 = .ok (.iconst (-1), 1) := by decide +kernel
theorem dX2_take_90 : decode cX2_take 90 = .ok (.ireturn, 1) := by decide +kernel
theorem dX2_take_91 : decode cX2_take 91 = .ok (.aload_n 0, 1) := by decide +kernel
theorem dX2_take_92 : decode cX2_take 92 = .ok (.getfield 13, 3) := by decide +kernel
theorem dX2_take_95 : decode cX2_take 95 = .ok (.aload_n 0, 1) := by decide +kernel
theorem dX2_take_96 : decode cX2_take 96 = .ok (.getfield 17, 3) := by decide +kernel
theorem dX2_take_99 : decode cX2_take 99 = .ok (.aaload, 1) := by decide +kernel
theorem dX2_take_100 : decode cX2_take 100 = .ok (.astore 6, 2) := by decide +kernel
theorem dX2_take_102 : decode cX2_take 102 = .ok (.aload 6, 2) := by decide +kernel
theorem dX2_take_104 : decode cX2_take 104 = .ok (.iload_n 1, 1) := by decide +kernel
theorem dX2_take_105 : decode cX2_take 105 = .ok (.putfield 39, 3) := by decide +kernel
theorem dX2_take_108 : decode cX2_take 108 = .ok (.aload 6, 2) := by decide +kernel
theorem dX2_take_110 : decode cX2_take 110 = .ok (.iload_n 2, 1) := by decide +kernel
theorem dX2_take_111 : decode cX2_take 111 = .ok (.putfield 42, 3) := by decide +kernel
theorem dX2_take_114 : decode cX2_take 114 = .ok (.aload 6, 2) := by decide +kernel
theorem dX2_take_116 : decode cX2_take 116 = .ok (.getfield 45, 3) := by decide +kernel
theorem dX2_take_119 : decode cX2_take 119 = .ok (.invokevirtual 49, 3) := by decide +kernel
theorem dX2_take_122 : decode cX2_take 122 = .ok (.aload 6, 2) := by decide +kernel
theorem dX2_take_124 : decode cX2_take 124 = .ok (.getfield 45, 3) := by decide +kernel
theorem dX2_take_127 : decode cX2_take 127 = .ok (.aload_n 3, 1) := by decide +kernel
theorem dX2_take_128 : decode cX2_take 128 = .ok (.iconst 0, 1) := by decide +kernel
theorem dX2_take_129 : decode cX2_take 129 = .ok (.iload 5, 2) := by decide +kernel
theorem dX2_take_131 : decode cX2_take 131 = .ok (.invokevirtual 52, 3) := by decide +kernel
theorem dX2_take_134 : decode cX2_take 134 = .ok (.aload 6, 2) := by decide +kernel
theorem dX2_take_136 : decode cX2_take 136 = .ok (.getfield 56, 3) := by decide +kernel
theorem dX2_take_139 : decode cX2_take 139 = .ok (.invokevirtual 49, 3) := by decide +kernel
theorem dX2_take_142 : decode cX2_take 142 = .ok (.aload 6, 2) := by decide +kernel
theorem dX2_take_144 : decode cX2_take 144 = .ok (.getfield 56, 3) := by decide +kernel
theorem dX2_take_147 : decode cX2_take 147 = .ok (.aload_n 3, 1) := by decide +kernel
theorem dX2_take_148 : decode cX2_take 148 = .ok (.iload 5, 2) := by decide +kernel
theorem dX2_take_150 : decode cX2_take 150 = .ok (.iconst 1, 1) := by decide +kernel
theorem dX2_take_151 : decode cX2_take 151 = .ok (.iadd, 1) := by decide +kernel
theorem dX2_take_152 : decode cX2_take 152 = .ok (.aload_n 3, 1) := by decide +kernel
theorem dX2_take_153 : decode cX2_take 153 = .ok (.getfield 22, 3) := by decide +kernel
theorem dX2_take_156 : decode cX2_take 156 = .ok (.invokevirtual 52, 3) := by decide +kernel
theorem dX2_take_159 : decode cX2_take 159 = .ok (.aload_n 0, 1) := by decide +kernel
theorem dX2_take_160 : decode cX2_take 160 = .ok (.dup, 1) := by decide +kernel
theorem dX2_take_161 : decode cX2_take 161 = .ok (.getfield 17, 3) := by decide +kernel
theorem dX2_take_164 : decode cX2_take 164 = .ok (.iconst 1, 1) := by decide +kernel
theorem dX2_take_165 : decode cX2_take 165 = .ok (.iadd, 1) := by decide +kernel
theorem dX2_take_166 : decode cX2_take 166 = .ok (.putfield 17, 3) := by decide +kernel
theorem dX2_take_169 : decode cX2_take 169 = .ok (.aload_n 0, 1) := by decide +kernel
theorem dX2_take_170 : decode cX2_take 170 = .ok (.getfield 17, 3) := by decide +kernel
theorem dX2_take_173 : decode cX2_take 173 = .ok (.ireturn, 1) := by decide +kernel
theorem kt_547 : Cond.methodLink RX2 27 yX0_find ∈ tb := tb_at (i := 513) (by decide +kernel) (by decide +kernel)
theorem kt_548 : Cond.code yX2_isValue cX2_isValue 3 (some .boolean) ∈ tb := tb_at (i := 536) (by decide +kernel) (by decide +kernel)
theorem kt_549 : Cond.methodLink RX2 35 yX2_isValue ∈ tb := tb_at (i := 534) (by decide +kernel) (by decide +kernel)
theorem kt_550 : Cond.static yX2_isValue ∈ tb := tb_at (i := 535) (by decide +kernel) (by decide +kernel)
theorem kt_551 : Cond.methodLink RX2 49 yX0_clear ∈ tb := tb_at (i := 537) (by decide +kernel) (by decide +kernel)
theorem kt_552 : Cond.methodLink RX2 52 yX0_addRange ∈ tb := tb_at (i := 541) (by decide +kernel) (by decide +kernel)
theorem kt_553 : Cond.code yX2_take cX2_take 7 (some .int) ∈ tb := tb_at (i := 512) (by decide +kernel) (by decide +kernel)
theorem kt_554 : Cond.methodLink RX11 78 yX2_take ∈ tb := tb_at (i := 509) (by decide +kernel) (by decide +kernel)
theorem kt_555 : Cond.instanceMethod yX2_take ∈ tb := tb_at (i := 510) (by decide +kernel) (by decide +kernel)
theorem kt_556 : Cond.selects RX2 yX2_take yX2_take ∈ tb := tb_at (i := 511) (by decide +kernel) (by decide +kernel)
abbrev ETY : Type := Int32 × Int32 × Nat × (Nat → Int32) × Nat × (Nat → Int32)
def ENC (cs : Nat → ClassId) (F : Nat → va_E) (b : Nat) (d : ETY) : Prop := ∃ x y r q : Nat, F b = .inr (3, [.ref x, .ref y, .int d.1, .int d.2.1]) ∧ F x = .inr (0, [.ref r, .int (nI d.2.2.1), .int 0]) ∧ F r = .inl (cs 16, 60, .inl d.2.2.2.1) ∧ F y = .inr (0, [.ref q, .int (nI d.2.2.2.2.1), .int 0]) ∧ F q = .inl (cs 16, 700, .inl d.2.2.2.2.2) ∧ d.2.2.1 ≤ 60 ∧ d.2.2.2.2.1 ≤ 700
def DIRC (cs : Nat → ClassId) (F : Nat → va_E) (ea ze : Nat) (D : Nat → ETY) : Prop := ∃ fe : Nat → Option Nat, F ea = .inl (cs 21, 40, .inr (.inr (.inr (.inr fe)))) ∧ ∀ k, k < ze → ∃ b, fe k = some b ∧ ENC cs F b (D k)
theorem DIRC.none {cs : Nat → ClassId} {ty : TyM} {L : List Nat} {F : Nat → va_E} {δ ea : Nat} {D : Nat → ETY} (hO : OK cs ty L F) (hL : ea ∈ L) (hT : ty ea = (21, δ, [40])) : DIRC cs F ea 0 D := by
  obtain ⟨fe, g1, g2⟩ := hO.rentry hL hT
  exact ⟨fe, g1, fun k hk => absurd hk (Nat.not_lt_zero _)⟩
theorem DIRC.less {cs : Nat → ClassId} {F : Nat → va_E} {ea ze z2 : Nat} {D : Nat → ETY} (h : DIRC cs F ea ze D) (hz : z2 ≤ ze) : DIRC cs F ea z2 D := by
  obtain ⟨fe, h1, h2⟩ := h
  exact ⟨fe, h1, fun k hk => h2 k (by omega)⟩
theorem DIRC.cg {cs : Nat → ClassId} {F : Nat → va_E} {ea ze : Nat} {D E : Nat → ETY} (h : DIRC cs F ea ze D) (he : ∀ k, k < ze → E k = D k) : DIRC cs F ea ze E := by
  obtain ⟨fe, h1, h2⟩ := h
  exact ⟨fe, h1, fun k hk => by rw [he k hk]; exact h2 k hk⟩
theorem DIRC.same {cs : Nat → ClassId} {F : Nat → va_E} {ea ze : Nat} {D : Nat → ETY} {d : ETY} (h : DIRC cs F ea ze D) : DIRC cs F ea ze (fun k => if k = ze then d else D k) :=
  h.cg (fun k hk => if_neg (by omega))
theorem DIRC.fr {cs : Nat → ClassId} {ty : TyM} {L S : List Nat} {F G : Nat → va_E} {δ ea ze : Nat} {D : Nat → ETY} (h : DIRC cs F ea ze D) (hO : OK cs ty L F) (hW : WT ty L) (hL : ea ∈ L) (hT : ty ea = (21, δ, [40])) (hz : ze ≤ 40) (hR : FR ty S F G) (hea : G ea = F ea) (hS : ∀ k, k < ze → δ + k + k + k + 100 ∉ S ∧ δ + k + k + k + 101 ∉ S ∧ δ + k + k + k + 102 ∉ S) : DIRC cs G ea ze D := by
  obtain ⟨fe, h1, h2⟩ := h
  refine ⟨fe, hea.trans h1, fun k hk => ?_⟩
  obtain ⟨b, e1, x, y, r, q, f1, f2, f3, f4, f5, f6⟩ := h2 k hk
  obtain ⟨s1, s2, s3⟩ := hS k hk
  obtain ⟨fe9, g1, g2⟩ := hO.rentry hL hT
  obtain rfl : fe9 = fe := by
    have e9 := g1.symm.trans h1
    simpa using e9
  obtain ⟨b9, x9, y9, k1, k2, k3⟩ := g2 k (by omega)
  obtain rfl : b9 = b := Option.some.inj (k1.symm.trans e1)
  obtain ⟨v0, v1, k4⟩ := hO.entry k2 k3
  have e9 := k4.symm.trans f1
  simp only [Sum.inr.injEq, Prod.mk.injEq, List.cons.injEq, Value.ref.injEq, true_and] at e9
  obtain ⟨rfl, rfl, -⟩ := e9
  obtain ⟨w1, w2, ⟨r9, w3⟩, ⟨q9, w4⟩⟩ := hW.entry k2 k3
  obtain ⟨z1, o1, u1, -, -⟩ := hO.bytes w1 w3
  obtain ⟨z2, o2, u2, -, -⟩ := hO.bytes w2 w4
  obtain ⟨m1, m2, -⟩ := hW.bytes w1 w3
  obtain ⟨n1, n2, -⟩ := hW.bytes w2 w4
  have e8 := u1.symm.trans f2
  simp only [Sum.inr.injEq, Prod.mk.injEq, List.cons.injEq, Value.ref.injEq, true_and] at e8
  obtain ⟨rfl, -⟩ := e8
  have e7 := u2.symm.trans f4
  simp only [Sum.inr.injEq, Prod.mk.injEq, List.cons.injEq, Value.ref.injEq, true_and] at e7
  obtain ⟨rfl, -⟩ := e7
  exact ⟨b9, e1, x9, y9, r9, q9, (hR b9 (by rw [k3]; exact s1)).trans f1, (hR x9 (by rw [w3]; exact s2)).trans f2, (hR r9 (by rw [m2]; exact s2)).trans f3, (hR y9 (by rw [w4]; exact s3)).trans f4, (hR q9 (by rw [n2]; exact s3)).trans f5, f6⟩
theorem DIRC.add {cs : Nat → ClassId} {F : Nat → va_E} {ea ze b : Nat} {fe : Nat → Option Nat} {D : Nat → ETY} {d : ETY} (h : DIRC cs F ea ze D) (h1 : F ea = .inl (cs 21, 40, .inr (.inr (.inr (.inr fe))))) (hb : fe ze = some b) (hn : ENC cs F b d) : DIRC cs F ea (ze + 1) (fun k => if k = ze then d else D k) := by
  obtain ⟨fe9, g1, g2⟩ := h
  obtain rfl : fe9 = fe := by
    have e9 := g1.symm.trans h1
    simpa using e9
  refine ⟨fe9, g1, fun k hk => ?_⟩
  by_cases c : k = ze
  · refine ⟨b, by rw [c]; exact hb, ?_⟩
    show ENC cs F b (if k = ze then d else D k)
    rw [if_pos c]
    exact hn
  · obtain ⟨b8, k1, k2⟩ := g2 k (by omega)
    refine ⟨b8, k1, ?_⟩
    show ENC cs F b8 (if k = ze then d else D k)
    rw [if_neg c]
    exact k2
def ENX (x1 x2 : Int32) (f : Nat → Int32) (z : Nat) (d : ETY) : Prop := d.1 = x1 ∧ d.2.1 = x2 ∧ (∀ j, j < d.2.2.1 → d.2.2.2.1 j = f j) ∧ NM f 0 d.2.2.1 = true ∧ (((x1 = 0 ∨ x1 = 2) ∧ FST f 32 z d.2.2.1 ∧ d.2.2.1 < z ∧ d.2.2.2.2.1 + d.2.2.1 + 1 = z ∧ (∀ j, j < d.2.2.2.2.1 → d.2.2.2.2.2 j = f (d.2.2.1 + 1 + j))) ∨ (¬ (x1 = 0 ∨ x1 = 2) ∧ d.2.2.1 = z ∧ d.2.2.2.2.1 = 0))
theorem enx2 {x1 x2 : Int32} {f fc fd : Nat → Int32} {z k : Nat} (h2 : x1 = 0 ∨ x1 = 2) (hf : FST f 32 z k) (hn : NM f 0 k = true) (hv : ISV x1 f z k) (h1 : ∀ j, j < k - 0 → fc j = f (0 + j)) (h3 : ∀ j, j < z - (k + 1) → fd j = f (k + 1 + j)) : ENX x1 x2 f z (x1, x2, k - 0, fc, z - (k + 1), fd) := by
  have a1 := hf.1
  have a2 := hv.1
  refine ⟨rfl, rfl, fun j hj => (h1 j hj).trans (by rw [Nat.zero_add]), hn, Or.inl ⟨h2, hf, ?_, ?_, h3⟩⟩
  · show k - 0 < z
    omega
  · show z - (k + 1) + (k - 0) + 1 = z
    omega
theorem enx1 {x1 x2 : Int32} {f fc fd : Nat → Int32} {z : Nat} (h2 : ¬ (x1 = 0 ∨ x1 = 2)) (hn : NM f 0 z = true) (h1 : ∀ j, j < z - 0 → fc j = f (0 + j)) : ENX x1 x2 f z (x1, x2, z - 0, fc, 0, fd) :=
  ⟨rfl, rfl, fun j hj => (h1 j hj).trans (by rw [Nat.zero_add]), hn, Or.inr ⟨h2, rfl, rfl⟩⟩
theorem ars_1 {a b : Nat} (h : a = b + 1) (hb : b ≤ 20000) : nI b - nI a = (-1) := by
  refine Int32.toInt_inj.mp ?_
  rw [pk_sub_toInt (by omega) (by omega), h]
  show (b : Int) - ((b + 1 : Nat) : Int) = -1
  omega
theorem mnN {k : Nat} (h : k ≤ 20000) : (if nI k < (-1 : Int32) then nI k else (-1)) = (-1) :=
  if_neg (fun q => nI_pos (n := k) (by omega) (Int32.lt_trans q (by decide)))
set_option maxHeartbeats 4000000 in
set_option maxRecDepth 100000 in
theorem s_X0_addRange_n (l : Launch) (dC : Nat → ClassId) (dI : Nat → Nat → Nat) (cs : Nat → ClassId) (ty : TyM) (L : List Nat) (sz : Nat) (F : Nat → va_E) (h0 : Nat) (ρ : Nat) (r0 : Nat) (n : Nat) (g1 : Nat) (σ : Nat) (r1 : Nat) (n1 : Nat) (z : Nat) (a : Nat) (b : Nat) (f : Nat → Int32) (hW : WT ty L) (hL_h0 : h0 ∈ L) (hT_h0 : ty h0 = (0, ρ, [r0, n])) (hL_g1 : g1 ∈ L) (hT_g1 : ty g1 = (0, σ, [r1, n1])) (hF0 : F h0 = .inr (0, [.ref r0, .int (nI 0), .int 0])) (hFg : F g1 = .inr (0, [.ref r1, .int (nI z), .int 0])) (hFr : F r0 = .inl (cs 16, n, .inl f)) (hzn : z ≤ n1) (hn9 : n1 ≤ 10000) (hm9 : n ≤ 10000) (hab : a = b + 1) (hbz : b ≤ z) : Met l yX0_addRange (.code yX0_addRange cX0_addRange 7 none :: tb) ({ frames := 1, cells := 0, slots := 0, locals := 21 }) (va_Pc [.ref h0, .ref g1, .int (nI a), .int (nI b)] (PT (dC, dI) cs ty L F sz)) (va_Qv (fun _ : Unit => True) (fun _ T9 => ∃ F2 : Nat → va_E, QT (dC, dI) cs ty L [ρ] F F2 (va_A (va_pl L F) sz) T9 ∧ F2 h0 = .inr (0, [.ref r0, .int (nI 0), .int 0]) ∧ F2 r0 = .inl (cs 16, n, .inl f)) (va_A (va_pl L F) sz)) 0 0 (va_A (va_pl L F) sz) := by
  refine Met.ofW (cc := cX0_addRange) (maxL := 7) (ret := none) (by decide) rfl ?_
  intro p e s m args below meth c s₁ B hml hv
  obtain ⟨rfl, hsz, hP, hK, hD0, hE, hO⟩ := hv
  have hx := B.exec
  have hb := B.bytes
  have hr := B.returns
  have hts : ∀ w ∈ tb, w.before _ s = true := fun w h => atoms_spec (ws := .code yX0_addRange cX0_addRange 7 none :: tb) B.pre w (List.mem_cons_of_mem _ h)
  have hown : s.vm.findClass RX0 = some m.cls := findClass_of_methodNamed B.named
  have hlocks := B.notSynchronized
  subst hsz
  have hD := hD0.self (sz := s.heap.size)
  generalize hAe : va_A (va_pl L F) s.heap.size = A at hD ⊢
  have hA : ∀ q : Nat, s.heap.size ≤ q → A q := fun q h => by rw [← hAe]; exact Or.inr h
  have hS : va_S A s.heap s.heap [] := va_S.rf
  have hR : FR ty [ρ] F F := FR.refl
  have hl := lv_entry ([.ref h0, .ref g1, .int (nI a), .int (nI b)]) (n := 7) (Nat.le_of_ble_eq_true rfl)
  rw [lg_entry_eq]
  generalize (lg_sl ([.ref h0, .ref g1, .int (nI a), .int (nI b)]) ++ List.replicate (7 - (lg_sl ([.ref h0, .ref g1, .int (nI a), .int (nI b)])).length) Slot.unset).toArray = ls at hl ⊢
  have hl : lv_has ls 7 [(0, .ref h0), (1, .ref g1), (2, .int (nI a)), (3, .int (nI b))] := hl
  refine lv_iconst (v := 0) hx hb dX0_addRange_0 (by decide) ?_
  refine lv_iload_n hx hb dX0_addRange_1 rfl (lv_at hl 2 rfl) ?_
  refine va_mmax hx hb (by rw [hml]; exact hl.1.symm) hown (hts _ kt_17) (hts _ kt_18) (hts _ kt_19) (hts _ kt_20) (Nat.le_of_ble_eq_true rfl) (Nat.le_of_ble_eq_true rfl) (by show _ ≤ 0; omega) (by show _ ≤ 0; omega) dX0_addRange_2 ?_
  refine lv_topi (fun x_1 ex_1 => ?_)
  obtain rfl : x_1 = (nI a) := ex_1.trans (max0n (by omega))
  refine lv_istore (lv' := [(4, .int (nI a)), (0, .ref h0), (1, .ref g1), (2, .int (nI a)), (3, .int (nI b))]) hx hb dX0_addRange_5 hl (by decide) rfl (fun ls hl => ?_)
  refine lv_iload_n hx hb dX0_addRange_7 rfl (lv_at hl 4 rfl) ?_
  refine lv_aload_n hx hb dX0_addRange_8 rfl (lv_at hl 2 rfl) ?_
  obtain ⟨hi_2, ht_3, hq_4⟩ := hW.bytes hL_g1 hT_g1
  refine pg_get (ci := 0) (v := .int (nI z)) (C := RX0) (T := TX0) (N := 3) hx hb hts it_0 hown hK hP hL_g1 hFg rfl 1 (by decide) (hts _ kt_10) (fun _ h9 => h9) rfl dX0_addRange_9 ?_
  refine va_mmin hx hb (by rw [hml]; exact hl.1.symm) hown (hts _ kt_25) (hts _ kt_26) (hts _ kt_19) (hts _ kt_27) (Nat.le_of_ble_eq_true rfl) (Nat.le_of_ble_eq_true rfl) (by show _ ≤ 0; omega) (by show _ ≤ 0; omega) dX0_addRange_12 ?_
  refine lv_topi (fun x_5 ex_5 => ?_)
  obtain rfl : x_5 = (nI b) := ex_5.trans (mnI_le (by omega) (by omega))
  refine lv_iload hx hb dX0_addRange_15 (lv_at hl 0 rfl) ?_
  refine lv_isub hx hb dX0_addRange_17 ?_
  refine lv_topi (fun x_6 ex_6 => ?_)
  obtain rfl : x_6 = (-1) := ex_6.trans (ars_1 hab (by omega))
  refine lv_istore (lv' := [(5, .int (-1)), (4, .int (nI a)), (0, .ref h0), (1, .ref g1), (2, .int (nI a)), (3, .int (nI b))]) hx hb dX0_addRange_18 hl (by decide) rfl (fun ls hl => ?_)
  refine lv_iload hx hb dX0_addRange_20 (lv_at hl 0 rfl) ?_
  refine lv_aload_n hx hb dX0_addRange_22 rfl (lv_at hl 2 rfl) ?_
  obtain ⟨hi_7, ht_8, hq_9⟩ := hW.bytes hL_h0 hT_h0
  refine pg_get (ci := 0) (v := .ref r0) (C := RX0) (T := TX0) (N := 3) hx hb hts it_0 hown hK hP hL_h0 hF0 rfl 0 (by decide) (hts _ kt_12) (fun _ h9 => h9) rfl dX0_addRange_23 ?_
  refine pg_alen (v := (nI n)) hx hb hK hP hi_7 0 hFr rfl rfl dX0_addRange_26 ?_
  refine lv_aload_n hx hb dX0_addRange_27 rfl (lv_at hl 2 rfl) ?_
  refine pg_get (ci := 0) (v := .int (nI 0)) (C := RX0) (T := TX0) (N := 3) hx hb hts it_0 hown hK hP hL_h0 hF0 rfl 1 (by decide) (hts _ kt_10) (fun _ h9 => h9) rfl dX0_addRange_28 ?_
  refine lv_isub hx hb dX0_addRange_31 ?_
  refine lv_topi (fun x_10 ex_10 => ?_)
  obtain rfl : x_10 = (nI (n - 0)) := ex_10.trans (pk_sub (by omega))
  refine va_mmin hx hb (by rw [hml]; exact hl.1.symm) hown (hts _ kt_25) (hts _ kt_26) (hts _ kt_19) (hts _ kt_27) (Nat.le_of_ble_eq_true rfl) (Nat.le_of_ble_eq_true rfl) (by show _ ≤ 0; omega) (by show _ ≤ 0; omega) dX0_addRange_32 ?_
  refine lv_topi (fun x_11 ex_11 => ?_)
  obtain rfl : x_11 = (-1) := ex_11.trans (mnN (by omega))
  refine lv_istore (lv' := [(6, .int (-1)), (5, .int (-1)), (4, .int (nI a)), (0, .ref h0), (1, .ref g1), (2, .int (nI a)), (3, .int (nI b))]) hx hb dX0_addRange_35 hl (by decide) rfl (fun ls hl => ?_)
  refine lv_iload hx hb dX0_addRange_37 (lv_at hl 0 rfl) ?_
  refine lv_if_le (tgt := 72) hx hb dX0_addRange_39 (by decide) (fun c_12 => ?_) (fun c_12 => absurd (by decide) c_12)
  refine lv_aload_n hx hb dX0_addRange_72 rfl (lv_at hl 3 rfl) ?_
  refine lv_aload_n hx hb dX0_addRange_73 rfl (lv_at hl 3 rfl) ?_
  refine pg_get (ci := 0) (v := .int 0) (C := RX0) (T := TX0) (N := 3) hx hb hts it_0 hown hK hP hL_h0 hF0 rfl 2 (by decide) (hts _ kt_11) (fun _ h9 => h9) rfl dX0_addRange_74 ?_
  refine lv_if_ne (tgt := 87) hx hb dX0_addRange_77 (by decide) (fun c_13 => absurd (by decide) c_13) (fun c_13 => ?_)
  refine lv_iload hx hb dX0_addRange_80 (lv_at hl 0 rfl) ?_
  refine lv_iload hx hb dX0_addRange_82 (lv_at hl 1 rfl) ?_
  refine lv_icmp_ge (tgt := 91) hx hb dX0_addRange_84 (by decide) (fun c_14 => ?_) (fun c_14 => absurd (Int32.le_refl _) c_14)
  refine lv_iconst (v := 0) hx hb dX0_addRange_91 (by decide) ?_
  refine pg_put (ci := 0) (v := .int 0) (ty := .boolean) (C := RX0) (T := TX0) (N := 3) hx hb hts it_0 tyX0 tyX0_ok nmX0 hown hK hP hD hS hL_h0 hF0 rfl 2 (by decide) (hts _ kt_11) (fun _ h9 => h9) rfl (by decide +kernel) (rfl) (rfl) (Nat.le_of_ble_eq_true rfl) dX0_addRange_92 (fun H locs hP hD hS => ?_)
  obtain ⟨F_15, he_16, hP, hD, hO, hR⟩ : ∃ G, G = va_up F h0 (.inr (0, [.ref r0, .int (nI 0), .int 0])) ∧ va_P (dC, dI) vwCl (va_pl L G) H ∧ va_D A (va_pl L G) ∧ OK cs ty L G ∧ FR ty [ρ] F G := ⟨_, rfl, hP, hD, hO.up (sh.bytes hT_h0 ⟨0, 0, rfl, (by first | omega | assumption | exact Or.inl rfl | exact Or.inr rfl), (by first | omega | assumption | exact Or.inl rfl | exact Or.inr rfl)⟩), hR.up hT_h0 (by simp)⟩
  have hF_17 : F_15 h0 = .inr (0, [.ref r0, .int (nI 0), .int 0]) := by rw [he_16]; exact up_self
  have hF_18 : F_15 r0 = .inl (cs 16, n, .inl f) := by rw [he_16, up_ne (ne_ty ht_8 hT_h0 (by simp))]; exact hFr
  refine W.widen (k := 0) (n := 0) (by omega) (by omega) ?_
  exact W.vret hx hb hr (fun t ht hWm => ⟨⟨(), rfl, trivial, ⟨F_15, QT.mk ht hP hD hO hR, hF_17, hF_18⟩⟩, hS.F ht⟩) hS.2.2 dX0_addRange_95
theorem NM_len {f : Nat → Int32} {a b : Nat} (h : NM f a b = true) : a + 1 ≤ b ∧ b ≤ a + 60 := by
  unfold NM at h
  rw [Bool.and_eq_true, decide_eq_true_eq] at h
  exact h.1
theorem isv_len {x : Int32} {f : Nat → Int32} {z k : Nat} (hf : FST f 32 z k) (h : ISV x f z k) : z ≤ k + 701 := by
  by_cases c : x = 2
  · have h9 := NM_len (h.2.1 c)
    omega
  · exact h.2.2 c
set_option maxHeartbeats 4000000 in
set_option maxRecDepth 100000 in
theorem s_X2_take_d (l : Launch) (dC : Nat → ClassId) (dI : Nat → Nat → Nat) (cs : Nat → ClassId) (ty : TyM) (L : List Nat) (sz : Nat) (F : Nat → va_E) (h0 : Nat) (ρ : Nat) (ea : Nat) (g1 : Nat) (σ : Nat) (r1 : Nat) (n1 : Nat) (z : Nat) (cn : Nat) (f : Nat → Int32) (D : Nat → ETY) (x1 : Int32) (x2 : Int32) (hW : WT ty L) (hL_h0 : h0 ∈ L) (hT_h0 : ty h0 = (2, ρ, [ea])) (hL_g1 : g1 ∈ L) (hT_g1 : ty g1 = (0, σ, [r1, n1])) (hFd : F h0 = .inr (2, [.ref ea, .int (nI cn)])) (hcn : cn ≤ 40) (hFg : F g1 = .inr (0, [.ref r1, .int (nI z), .int 0])) (hFr : F r1 = .inl (cs 16, n1, .inl f)) (hzn : z ≤ n1) (hn9 : n1 ≤ 10000) (hsr : σ < ρ) (hDI : DIRC cs F ea cn D) : Met l yX2_take (.code yX2_take cX2_take 7 (some .int) :: tb) ({ frames := 3, cells := 0, slots := 0, locals := 74 }) (va_Pc [.ref h0, .int x1, .int x2, .ref g1] (PT (dC, dI) cs ty L F sz)) (va_Qi (fun (r : Int32) (c2 : Nat) => ENT cn c2 x1 f z r) (fun (c2 : Nat) T9 => ∃ F2 : Nat → va_E, QT (dC, dI) cs ty L [ρ, ρ + cn + cn + cn + 100, ρ + cn + cn + cn + 101, ρ + cn + cn + cn + 102] F F2 (va_A (va_pl L F) sz) T9 ∧ F2 h0 = .inr (2, [.ref ea, .int (nI c2)]) ∧ (∃ d : ETY, DIRC cs F2 ea c2 (fun k => if k = cn then d else D k) ∧ (c2 = cn + 1 → ENX x1 x2 f z d))) (va_A (va_pl L F) sz)) 0 0 (va_A (va_pl L F) sz) := by
  refine Met.ofW (cc := cX2_take) (maxL := 7) (ret := (some .int)) (by decide) rfl ?_
  intro p e s m args below meth c s₁ B hml hv
  obtain ⟨rfl, hsz, hP, hK, hD0, hE, hO⟩ := hv
  have hx := B.exec
  have hb := B.bytes
  have hr := B.returns
  have hts : ∀ w ∈ tb, w.before _ s = true := fun w h => atoms_spec (ws := .code yX2_take cX2_take 7 (some .int) :: tb) B.pre w (List.mem_cons_of_mem _ h)
  have hown : s.vm.findClass RX2 = some m.cls := findClass_of_methodNamed B.named
  have hlocks := B.notSynchronized
  subst hsz
  have hD := hD0.self (sz := s.heap.size)
  generalize hAe : va_A (va_pl L F) s.heap.size = A at hD ⊢
  have hA : ∀ q : Nat, s.heap.size ≤ q → A q := fun q h => by rw [← hAe]; exact Or.inr h
  have hS : va_S A s.heap s.heap [] := va_S.rf
  have hR : FR ty [ρ, ρ + cn + cn + cn + 100, ρ + cn + cn + cn + 101, ρ + cn + cn + cn + 102] F F := FR.refl
  have hl := lv_entry ([.ref h0, .int x1, .int x2, .ref g1]) (n := 7) (Nat.le_of_ble_eq_true rfl)
  rw [lg_entry_eq]
  generalize (lg_sl ([.ref h0, .int x1, .int x2, .ref g1]) ++ List.replicate (7 - (lg_sl ([.ref h0, .int x1, .int x2, .ref g1])).length) Slot.unset).toArray = ls at hl ⊢
  have hl : lv_has ls 7 [(0, .ref h0), (1, .int x1), (2, .int x2), (3, .ref g1)] := hl
  obtain ⟨hi_1, ht_2⟩ := hW.dir hL_h0 hT_h0
  have hO0 := hO
  obtain ⟨f_3, hF_4, hq_5⟩ := hO.rentry hi_1 ht_2
  obtain ⟨hi_6, ht_7, hq_8⟩ := hW.bytes hL_g1 hT_g1
  refine lv_aload_n hx hb dX2_take_0 rfl (lv_at hl 0 rfl) ?_
  refine pg_get (ci := 2) (v := .int (nI cn)) (C := RX2) (T := TX2) (N := 2) hx hb hts it_2 hown hK hP hL_h0 hFd rfl 1 (by decide) (hts _ kt_83) (fun _ h9 => h9) rfl dX2_take_1 ?_
  refine lv_bipush (v := 40) hx hb dX2_take_4 (by decide) ?_
  refine lv_icmp_ne (tgt := 12) hx hb dX2_take_6 (by decide) (fun c_9 => ?_) (fun c_9 => ?_)
  ·
    have hc40 : cn ≠ 40 := fun q => c_9 (by rw [q]; rfl)
    refine lv_iload_n hx hb dX2_take_12 rfl (lv_at hl 1 rfl) ?_
    refine lv_if_eq (tgt := 21) hx hb dX2_take_13 (by decide) (fun c_11 => ?_) (fun c_11 => ?_)
    ·
      refine lv_iconst (v := 1) hx hb dX2_take_21 (by decide) ?_
      refine lv_goto (tgt := 26) hx hb dX2_take_22 (by decide) ?_
      refine lv_istore (lv' := [(4, .int 1), (0, .ref h0), (1, .int x1), (2, .int x2), (3, .ref g1)]) hx hb dX2_take_26 hl (by decide) rfl (fun ls hl => ?_)
      refine lv_iload hx hb dX2_take_28 (lv_at hl 0 rfl) ?_
      refine lv_if_eq (tgt := 47) hx hb dX2_take_30 (by decide) (fun c_12 => absurd c_12 (by decide)) (fun c_12 => ?_)
      refine lv_aload_n hx hb dX2_take_33 rfl (lv_at hl 4 rfl) ?_
      refine lv_bipush (v := 32) hx hb dX2_take_34 (by decide) ?_
      refine lv_iconst (v := 0) hx hb dX2_take_36 (by decide) ?_
      refine lv_aload_n hx hb dX2_take_37 rfl (lv_at hl 4 rfl) ?_
      refine pg_getN (ci := 0) (v := .int (nI z)) (C := RX0) (T := TX0) (N := 3) hx hb hts it_0 hown hK hP hL_g1 hFg rfl 1 (by decide) (hE.nest kn_3) (fun _ h9 => h9) rfl dX2_take_38 ?_
      have hFc := pg_free hD hS hA
      refine va_calli (va_runV (As := [.int 32, .int 0, .int (nI z)]) (rest := []) ⟨hx, hb, hml, hown, hts⟩ (s_X0_find_e l dC dI cs ty L s.heap.size F g1 σ r1 n1 z z f 32 hW hL_g1 hT_g1 hFg hFr (by omega) (by omega) (by omega)) ⟨callB_of 3 hts (gi kt_122) rfl rfl rfl (hts _ kt_1) (hts _ kt_547) (by decide +kernel) ⟨Nat.le_of_ble_eq_true rfl, Nat.le_of_ble_eq_true rfl⟩, (hts _ kt_124), (hts _ kt_125)⟩ ⟨fun a U g mk q => ⟨q.1, PT.calling q.2⟩, pg_recv hK hP hL_g1 hFg (q := (RX0, TX0, 3)) rfl, fun U hU hWm => ⟨rfl, PT.mk hU hWm hP hK hD hE hO⟩⟩ rfl rfl hl.1 rfl (lv_room (Nat.le_of_ble_eq_true rfl)) dX2_take_41 ⟨by show _ + 0 ≤ 0; omega, by show _ + 0 ≤ 0; omega⟩) hS (fun q _ h => hFc q h) hFc (fun r_13 u t H1 locs ht hvm hw hB hz1 hk1 hS => ?_)
      obtain ⟨F_14, hB1⟩ := hB
      obtain rfl : F = F_14 := (funext (fun a => hB1.2.2.2 a List.not_mem_nil)).symm
      obtain ⟨hP, hD, hO, hR⟩ := QT.back hB1 ht hFc hR (fun q h => absurd h List.not_mem_nil)
      generalize H1 = H at hP hS ⊢
      have hw : (∃ k : Nat, k ≤ z ∧ r_13 = nI k ∧ (∀ j, j < k → ¬ f j = 32) ∧ (k = z ∨ f k = 32)) := hw
      have hw_15 := hw
      obtain ⟨k_16, h1k_16, h2k_16, h3k_16, h4k_16⟩ := hw_15
      subst h2k_16
      have hfs : FST f 32 z k_16 := ⟨h1k_16, h3k_16, h4k_16⟩
      refine lv_goto (tgt := 51) hx hb dX2_take_44 (by decide) ?_
      refine lv_istore (lv' := [(5, .int (nI k_16)), (4, .int 1), (0, .ref h0), (1, .int x1), (2, .int x2), (3, .ref g1)]) hx hb dX2_take_51 hl (by decide) rfl (fun ls hl => ?_)
      refine lv_iload_n hx hb dX2_take_53 rfl (lv_at hl 3 rfl) ?_
      refine lv_if_lt (tgt := 72) hx hb dX2_take_54 (by decide) (fun c_17 => ?_) (fun c_17 => ?_)
      ·
        refine lv_iconst (v := (-1)) hx hb dX2_take_72 (by decide) ?_
        refine W.widen (k := 0) (n := 0) (by omega) (by omega) ?_
        exact W.iret (v := (-1)) hx hb hr (fun t ht hWm => ⟨⟨(-1), cn, rfl, (Or.inr (Or.inl ⟨hc40, val_n1 c_17, rfl, rfl⟩)), ⟨F, QT.mk ht hP hD hO hR, hFd, ⟨(0, 0, 0, fun _ => 0, 0, fun _ => 0), DIRC.same hDI, fun q => absurd q (by omega)⟩⟩⟩, hS.F ht⟩) hS.2.2 dX2_take_73
      ·
        refine lv_iload_n hx hb dX2_take_57 rfl (lv_at hl 3 rfl) ?_
        refine lv_iconst (v := 4) hx hb dX2_take_58 (by decide) ?_
        refine lv_icmp_gt (tgt := 72) hx hb dX2_take_59 (by decide) (fun c_18 => ?_) (fun c_18 => ?_)
        ·
          refine lv_iconst (v := (-1)) hx hb dX2_take_72 (by decide) ?_
          refine W.widen (k := 0) (n := 0) (by omega) (by omega) ?_
          exact W.iret (v := (-1)) hx hb hr (fun t ht hWm => ⟨⟨(-1), cn, rfl, (Or.inr (Or.inl ⟨hc40, val_n2 c_18, rfl, rfl⟩)), ⟨F, QT.mk ht hP hD hO hR, hFd, ⟨(0, 0, 0, fun _ => 0, 0, fun _ => 0), DIRC.same hDI, fun q => absurd q (by omega)⟩⟩⟩, hS.F ht⟩) hS.2.2 dX2_take_73
        ·
          refine lv_aload_n hx hb dX2_take_62 rfl (lv_at hl 5 rfl) ?_
          refine lv_iconst (v := 0) hx hb dX2_take_63 (by decide) ?_
          refine lv_iload hx hb dX2_take_64 (lv_at hl 0 rfl) ?_
          refine W.eq (g2 := F0 m 66 ls [.int (nI k_16), .int (nI 0), .ref g1]) rfl ?_
          have hFc := pg_free hD hS hA
          refine va_calli (va_runV (As := [.int (nI 0), .int (nI k_16)]) (rest := []) ⟨hx, hb, hml, hown, hts⟩ (s_X0_isName_e l dC dI cs ty L H.size F g1 σ r1 n1 z 0 k_16 f hW hL_g1 hT_g1 hFg hFr (by omega) (by omega) (by omega) (by omega)) ⟨callB_of 2 hts (gi kt_108) rfl rfl rfl (hts _ kt_1) (hts _ kt_109) (by decide +kernel) ⟨Nat.le_of_ble_eq_true rfl, Nat.le_of_ble_eq_true rfl⟩, (hts _ kt_110), (hts _ kt_111)⟩ ⟨fun a U g mk q => ⟨q.1, PT.calling q.2⟩, pg_recv hK hP hL_g1 hFg (q := (RX0, TX0, 3)) rfl, fun U hU hWm => ⟨rfl, PT.mk hU hWm hP hK hD hE hO⟩⟩ rfl rfl hl.1 rfl (lv_room (Nat.le_of_ble_eq_true rfl)) dX2_take_66 ⟨by show _ + 0 ≤ 0; omega, by show _ + 0 ≤ 0; omega⟩) hS (fun q _ h => hFc q h) hFc (fun r_19 u t H1 locs ht hvm hw hB hz1 hk1 hS => ?_)
          obtain ⟨F_20, hB1⟩ := hB
          obtain rfl : F = F_20 := (funext (fun a => hB1.2.2.2 a List.not_mem_nil)).symm
          obtain ⟨hP, hD, hO, hR⟩ := QT.back hB1 ht hFc hR (fun q h => absurd h List.not_mem_nil)
          generalize H1 = H at hP hS ⊢
          have hw : r_19 = (if NM f 0 k_16 = true then 1 else 0) := hw
          have hw_21 := hw
          refine lv_if_ne (tgt := 74) hx hb dX2_take_69 (by decide) (fun c_22 => ?_) (fun c_22 => ?_)
          ·
            refine lv_iload hx hb dX2_take_74 (lv_at hl 1 rfl) ?_
            refine lv_if_eq (tgt := 91) hx hb dX2_take_76 (by decide) (fun c_23 => absurd c_23 (by decide)) (fun c_23 => ?_)
            refine lv_iload_n hx hb dX2_take_79 rfl (lv_at hl 3 rfl) ?_
            refine lv_aload_n hx hb dX2_take_80 rfl (lv_at hl 5 rfl) ?_
            refine lv_iload hx hb dX2_take_81 (lv_at hl 0 rfl) ?_
            have hFc := pg_free hD hS hA
            refine va_calli (va_runS (As := [.int x1, .ref g1, .int (nI k_16)]) (rest := []) ⟨hx, hb, hml, hown, hts⟩ (s_X2_isValue_e l dC dI cs ty L H.size F g1 σ r1 n1 z k_16 f x1 hW hL_g1 hT_g1 hFg hFr (by omega) (by omega) (by omega)) ⟨callB_of 3 hts (gi kt_548) rfl rfl rfl (hts _ kt_103) (hts _ kt_549) (by decide +kernel) ⟨Nat.le_of_ble_eq_true rfl, Nat.le_of_ble_eq_true rfl⟩, (hts _ kt_550)⟩ ⟨fun a U g mk q => ⟨q.1, PT.calling q.2⟩, fun U hU hWm => ⟨rfl, PT.mk hU hWm hP hK hD hE hO⟩⟩ rfl rfl hl.1 rfl (lv_room (Nat.le_of_ble_eq_true rfl)) dX2_take_83 ⟨by show _ + 0 ≤ 0; omega, by show _ + 0 ≤ 0; omega⟩) hS (fun q _ h => hFc q h) hFc (fun r_24 u t H1 locs ht hvm hw hB hz1 hk1 hS => ?_)
            obtain ⟨F_25, hB1⟩ := hB
            obtain rfl : F = F_25 := (funext (fun a => hB1.2.2.2 a List.not_mem_nil)).symm
            obtain ⟨hP, hD, hO, hR⟩ := QT.back hB1 ht hFc hR (fun q h => absurd h List.not_mem_nil)
            generalize H1 = H at hP hS ⊢
            have hw : (r_24 = 1 ∧ ISV x1 f z k_16) ∨ (r_24 = 0 ∧ ¬ ISV x1 f z k_16) := hw
            have hw_26 := hw
            refine lv_if_ne (tgt := 91) hx hb dX2_take_86 (by decide) (fun c_27 => ?_) (fun c_27 => ?_)
            ·
              refine lv_aload_n hx hb dX2_take_91 rfl (lv_at hl 2 rfl) ?_
              refine pg_get (ci := 2) (v := .ref ea) (C := RX2) (T := TX2) (N := 2) hx hb hts it_2 hown hK hP hL_h0 hFd rfl 0 (by decide) (hts _ kt_84) (fun _ h9 => h9) rfl dX2_take_92 ?_
              refine lv_aload_n hx hb dX2_take_95 rfl (lv_at hl 2 rfl) ?_
              refine pg_get (ci := 2) (v := .int (nI cn)) (C := RX2) (T := TX2) (N := 2) hx hb hts it_2 hown hK hP hL_h0 hFd rfl 1 (by decide) (hts _ kt_83) (fun _ h9 => h9) rfl dX2_take_96 ?_
              obtain ⟨b_28, x_29, y_30, hbf_31, hi_32, ht_33⟩ := hq_5 cn (by omega)
              refine pg_aald (r := b_28) hx hb hK hP hi_1 5 hF_4 rfl (vp_in_nI (by omega) (by omega)) (show f_3 ((nI cn) : Int32).toNatClampNeg = _ from by rw [show ((nI cn) : Int32) = nI cn from rfl, nI_clamp (by omega)]; exact hbf_31) dX2_take_99 ?_
              refine lv_astore (lv' := [(6, .ref b_28), (5, .int (nI k_16)), (4, .int 1), (0, .ref h0), (1, .int x1), (2, .int x2), (3, .ref g1)]) hx hb dX2_take_100 hl (by decide) rfl (fun ls hl => ?_)
              refine lv_aload hx hb dX2_take_102 (lv_at hl 0 rfl) ?_
              refine lv_iload_n hx hb dX2_take_104 rfl (lv_at hl 4 rfl) ?_
              obtain ⟨hi_34, hi_35, ⟨r_36, ht_37⟩, ⟨r_38, ht_39⟩⟩ := hW.entry hi_32 ht_33
              have ht_37 : ty x_29 = (0, ρ + cn + cn + cn + 101, [r_36, 60]) := ht_37
              have ht_39 : ty y_30 = (0, ρ + cn + cn + cn + 102, [r_38, 700]) := ht_39
              obtain ⟨v0_40, v1_41, hF_42⟩ := hO.entry hi_32 ht_33
              refine pg_putN (ci := 3) (v := .int x1) (ty := .int) (C := RX3) (T := TX3) (N := 4) hx hb hts it_3 tyX3 tyX3_ok nmX3 hown hK hP hD hS hi_32 hF_42 rfl 2 (by decide) (hE.nest kn_0) (fun _ h9 => h9) rfl (by decide +kernel) (rfl) (rfl) (Nat.le_of_ble_eq_true rfl) dX2_take_105 (fun H locs hP hD hS => ?_)
              obtain ⟨F_43, he_44, hP, hD, hO, hR⟩ : ∃ G, G = va_up F b_28 (.inr (3, [.ref x_29, .ref y_30, .int x1, .int v1_41])) ∧ va_P (dC, dI) vwCl (va_pl L G) H ∧ va_D A (va_pl L G) ∧ OK cs ty L G ∧ FR ty [ρ, ρ + cn + cn + cn + 100, ρ + cn + cn + cn + 101, ρ + cn + cn + cn + 102] F G := ⟨_, rfl, hP, hD, hO.up (sh.entry ht_33 ⟨x1, v1_41, rfl⟩), hR.up ht_33 (by simp)⟩
              have hF_45 : F_43 b_28 = .inr (3, [.ref x_29, .ref y_30, .int x1, .int v1_41]) := by rw [he_44]; exact up_self
              have hF_46 : F_43 h0 = .inr (2, [.ref ea, .int (nI cn)]) := by rw [he_44, up_ne (ne_ty hT_h0 ht_33 (by simp))]; exact hFd
              have hF_47 : F_43 g1 = .inr (0, [.ref r1, .int (nI z), .int 0]) := by rw [he_44, up_ne (ne_ty hT_g1 ht_33 (by simp))]; exact hFg
              have hF_48 : F_43 r1 = .inl (cs 16, n1, .inl f) := by rw [he_44, up_ne (ne_ty ht_7 ht_33 (by simp))]; exact hFr
              have hF_49 : F_43 ea = .inl (cs 21, 40, .inr (.inr (.inr (.inr f_3)))) := by rw [he_44, up_ne (ne_ty ht_2 ht_33 (by simp))]; exact hF_4
              refine lv_aload hx hb dX2_take_108 (lv_at hl 0 rfl) ?_
              refine lv_iload_n hx hb dX2_take_110 rfl (lv_at hl 5 rfl) ?_
              refine pg_putN (ci := 3) (v := .int x2) (ty := .int) (C := RX3) (T := TX3) (N := 4) hx hb hts it_3 tyX3 tyX3_ok nmX3 hown hK hP hD hS hi_32 hF_45 rfl 3 (by decide) (hE.nest kn_2) (fun _ h9 => h9) rfl (by decide +kernel) (rfl) (rfl) (Nat.le_of_ble_eq_true rfl) dX2_take_111 (fun H locs hP hD hS => ?_)
              obtain ⟨F_50, he_51, hP, hD, hO, hR⟩ : ∃ G, G = va_up F_43 b_28 (.inr (3, [.ref x_29, .ref y_30, .int x1, .int x2])) ∧ va_P (dC, dI) vwCl (va_pl L G) H ∧ va_D A (va_pl L G) ∧ OK cs ty L G ∧ FR ty [ρ, ρ + cn + cn + cn + 100, ρ + cn + cn + cn + 101, ρ + cn + cn + cn + 102] F G := ⟨_, rfl, hP, hD, hO.up (sh.entry ht_33 ⟨x1, x2, rfl⟩), hR.up ht_33 (by simp)⟩
              have hF_52 : F_50 b_28 = .inr (3, [.ref x_29, .ref y_30, .int x1, .int x2]) := by rw [he_51]; exact up_self
              have hF_53 : F_50 h0 = .inr (2, [.ref ea, .int (nI cn)]) := by rw [he_51, up_ne (ne_ty hT_h0 ht_33 (by simp))]; exact hF_46
              have hF_54 : F_50 g1 = .inr (0, [.ref r1, .int (nI z), .int 0]) := by rw [he_51, up_ne (ne_ty hT_g1 ht_33 (by simp))]; exact hF_47
              have hF_55 : F_50 r1 = .inl (cs 16, n1, .inl f) := by rw [he_51, up_ne (ne_ty ht_7 ht_33 (by simp))]; exact hF_48
              have hF_56 : F_50 ea = .inl (cs 21, 40, .inr (.inr (.inr (.inr f_3)))) := by rw [he_51, up_ne (ne_ty ht_2 ht_33 (by simp))]; exact hF_49
              refine lv_aload hx hb dX2_take_114 (lv_at hl 0 rfl) ?_
              refine pg_getN (ci := 3) (v := .ref x_29) (C := RX3) (T := TX3) (N := 4) hx hb hts it_3 hown hK hP hi_32 hF_52 rfl 0 (by decide) (hE.nest kn_1) (fun _ h9 => h9) rfl dX2_take_116 ?_
              have hFc := pg_free hD hS hA
              obtain ⟨hi_57, ht_58, hq_59⟩ := hW.bytes hi_34 ht_37
              obtain ⟨z_60, o_61, hF_62, hq_63, hq_64⟩ := hO.bytes hi_34 ht_37
              refine va_callv (va_runV (As := []) (rest := []) ⟨hx, hb, hml, hown, hts⟩ (s_X0_clear l dC dI cs ty L H.size F_50 x_29 (ρ + cn + cn + cn + 101) r_36 60 hW hi_34 ht_37) ⟨callB_of 0 hts (gi kt_32) rfl rfl rfl (hts _ kt_1) (hts _ kt_551) (by decide +kernel) ⟨Nat.le_of_ble_eq_true rfl, Nat.le_of_ble_eq_true rfl⟩, (hts _ kt_34), (hts _ kt_35)⟩ ⟨fun a U g mk q => ⟨q.1, PT.calling q.2⟩, pg_recv hK hP hi_34 hF_62 (q := (RX0, TX0, 3)) rfl, fun U hU hWm => ⟨rfl, PT.mk hU hWm hP hK hD hE hO⟩⟩ rfl rfl hl.1 rfl (lv_room (Nat.le_of_ble_eq_true rfl)) dX2_take_119 ⟨by show _ + 0 ≤ 0; omega, by show _ + 0 ≤ 0; omega⟩) hS (fun q _ h => hFc q h) hFc (fun u t H1 locs ht hvm hw hB hz1 hk1 hS => ?_)
              obtain ⟨F_66, hB1, hq_67⟩ := hB
              obtain ⟨hP, hD, hO, hR⟩ := QT.back hB1 ht hFc hR (fun q h => by simp only [List.mem_cons, List.not_mem_nil, or_false] at h ⊢; omega)
              have hF_68 : F_66 b_28 = .inr (3, [.ref x_29, .ref y_30, .int x1, .int x2]) := (hB1.2.2.2 b_28 (by rw [ht_33]; simp)).trans hF_52
              have hF_69 : F_66 h0 = .inr (2, [.ref ea, .int (nI cn)]) := (hB1.2.2.2 h0 (by rw [hT_h0]; simp only [List.mem_cons, List.not_mem_nil, or_false]; omega)).trans hF_53
              have hF_70 : F_66 g1 = .inr (0, [.ref r1, .int (nI z), .int 0]) := (hB1.2.2.2 g1 (by rw [hT_g1]; simp only [List.mem_cons, List.not_mem_nil, or_false]; omega)).trans hF_54
              have hF_71 : F_66 r1 = .inl (cs 16, n1, .inl f) := (hB1.2.2.2 r1 (by rw [ht_7]; simp only [List.mem_cons, List.not_mem_nil, or_false]; omega)).trans hF_55
              have hF_72 : F_66 ea = .inl (cs 21, 40, .inr (.inr (.inr (.inr f_3)))) := (hB1.2.2.2 ea (by rw [ht_2]; simp only [List.mem_cons, List.not_mem_nil, or_false]; omega)).trans hF_56
              generalize H1 = H at hP hS ⊢
              refine lv_aload hx hb dX2_take_122 (lv_at hl 0 rfl) ?_
              refine pg_getN (ci := 3) (v := .ref x_29) (C := RX3) (T := TX3) (N := 4) hx hb hts it_3 hown hK hP hi_32 hF_68 rfl 0 (by decide) (hE.nest kn_1) (fun _ h9 => h9) rfl dX2_take_124 ?_
              refine lv_aload_n hx hb dX2_take_127 rfl (lv_at hl 6 rfl) ?_
              refine lv_iconst (v := 0) hx hb dX2_take_128 (by decide) ?_
              refine lv_iload hx hb dX2_take_129 (lv_at hl 1 rfl) ?_
              refine W.eq (g2 := F0 m 131 ls [.int (nI k_16), .int (nI 0), .ref g1, .ref x_29]) rfl ?_
              have hFc := pg_free hD hS hA
              refine va_callv (va_runV (As := [.ref g1, .int (nI 0), .int (nI k_16)]) (rest := []) ⟨hx, hb, hml, hown, hts⟩ (s_X0_addRange_e l dC dI cs ty L H.size F_66 x_29 (ρ + cn + cn + cn + 101) r_36 60 g1 σ r1 n1 z 0 k_16 f hW hi_34 ht_37 hL_g1 hT_g1 hq_67 hF_70 hF_71 (by omega) (by omega) (by omega) (Nat.zero_le _) (by omega) (by have h9 := NM_len (ifb1 hw_21 c_22); omega)) ⟨callB_of 3 hts (gi kt_36) rfl rfl rfl (hts _ kt_1) (hts _ kt_552) (by decide +kernel) ⟨Nat.le_of_ble_eq_true rfl, Nat.le_of_ble_eq_true rfl⟩, (hts _ kt_38), (hts _ kt_39)⟩ ⟨fun a U g mk q => ⟨q.1, PT.calling q.2⟩, pg_recv hK hP hi_34 hq_67 (q := (RX0, TX0, 3)) rfl, fun U hU hWm => ⟨rfl, PT.mk hU hWm hP hK hD hE hO⟩⟩ rfl rfl hl.1 rfl (lv_room (Nat.le_of_ble_eq_true rfl)) dX2_take_131 ⟨by show _ + 0 ≤ 0; omega, by show _ + 0 ≤ 0; omega⟩) hS (fun q _ h => hFc q h) hFc (fun u t H1 locs ht hvm hw hB hz1 hk1 hS => ?_)
              obtain ⟨F_74, fc_75, hB1, hq_76, hq_77, hq_78⟩ := hB
              obtain ⟨hP, hD, hO, hR⟩ := QT.back hB1 ht hFc hR (fun q h => by simp only [List.mem_cons, List.not_mem_nil, or_false] at h ⊢; omega)
              have hF_79 : F_74 b_28 = .inr (3, [.ref x_29, .ref y_30, .int x1, .int x2]) := (hB1.2.2.2 b_28 (by rw [ht_33]; simp)).trans hF_68
              have hF_80 : F_74 h0 = .inr (2, [.ref ea, .int (nI cn)]) := (hB1.2.2.2 h0 (by rw [hT_h0]; simp only [List.mem_cons, List.not_mem_nil, or_false]; omega)).trans hF_69
              have hF_81 : F_74 g1 = .inr (0, [.ref r1, .int (nI z), .int 0]) := (hB1.2.2.2 g1 (by rw [hT_g1]; simp only [List.mem_cons, List.not_mem_nil, or_false]; omega)).trans hF_70
              have hF_82 : F_74 r1 = .inl (cs 16, n1, .inl f) := (hB1.2.2.2 r1 (by rw [ht_7]; simp only [List.mem_cons, List.not_mem_nil, or_false]; omega)).trans hF_71
              have hF_83 : F_74 ea = .inl (cs 21, 40, .inr (.inr (.inr (.inr f_3)))) := (hB1.2.2.2 ea (by rw [ht_2]; simp only [List.mem_cons, List.not_mem_nil, or_false]; omega)).trans hF_72
              generalize H1 = H at hP hS ⊢
              refine lv_aload hx hb dX2_take_134 (lv_at hl 0 rfl) ?_
              refine pg_getN (ci := 3) (v := .ref y_30) (C := RX3) (T := TX3) (N := 4) hx hb hts it_3 hown hK hP hi_32 hF_79 rfl 1 (by decide) (hE.nest kn_4) (fun _ h9 => h9) rfl dX2_take_136 ?_
              have hFc := pg_free hD hS hA
              obtain ⟨hi_84, ht_85, hq_86⟩ := hW.bytes hi_35 ht_39
              obtain ⟨z_87, o_88, hF_89, hq_90, hq_91⟩ := hO.bytes hi_35 ht_39
              refine va_callv (va_runV (As := []) (rest := []) ⟨hx, hb, hml, hown, hts⟩ (s_X0_clear l dC dI cs ty L H.size F_74 y_30 (ρ + cn + cn + cn + 102) r_38 700 hW hi_35 ht_39) ⟨callB_of 0 hts (gi kt_32) rfl rfl rfl (hts _ kt_1) (hts _ kt_551) (by decide +kernel) ⟨Nat.le_of_ble_eq_true rfl, Nat.le_of_ble_eq_true rfl⟩, (hts _ kt_34), (hts _ kt_35)⟩ ⟨fun a U g mk q => ⟨q.1, PT.calling q.2⟩, pg_recv hK hP hi_35 hF_89 (q := (RX0, TX0, 3)) rfl, fun U hU hWm => ⟨rfl, PT.mk hU hWm hP hK hD hE hO⟩⟩ rfl rfl hl.1 rfl (lv_room (Nat.le_of_ble_eq_true rfl)) dX2_take_139 ⟨by show _ + 0 ≤ 0; omega, by show _ + 0 ≤ 0; omega⟩) hS (fun q _ h => hFc q h) hFc (fun u t H1 locs ht hvm hw hB hz1 hk1 hS => ?_)
              obtain ⟨F_93, hB1, hq_94⟩ := hB
              obtain ⟨hP, hD, hO, hR⟩ := QT.back hB1 ht hFc hR (fun q h => by simp only [List.mem_cons, List.not_mem_nil, or_false] at h ⊢; omega)
              have hF_95 : F_93 b_28 = .inr (3, [.ref x_29, .ref y_30, .int x1, .int x2]) := (hB1.2.2.2 b_28 (by rw [ht_33]; simp)).trans hF_79
              have hF_96 : F_93 h0 = .inr (2, [.ref ea, .int (nI cn)]) := (hB1.2.2.2 h0 (by rw [hT_h0]; simp only [List.mem_cons, List.not_mem_nil, or_false]; omega)).trans hF_80
              have hF_97 : F_93 g1 = .inr (0, [.ref r1, .int (nI z), .int 0]) := (hB1.2.2.2 g1 (by rw [hT_g1]; simp only [List.mem_cons, List.not_mem_nil, or_false]; omega)).trans hF_81
              have hF_98 : F_93 r1 = .inl (cs 16, n1, .inl f) := (hB1.2.2.2 r1 (by rw [ht_7]; simp only [List.mem_cons, List.not_mem_nil, or_false]; omega)).trans hF_82
              have hF_99 : F_93 ea = .inl (cs 21, 40, .inr (.inr (.inr (.inr f_3)))) := (hB1.2.2.2 ea (by rw [ht_2]; simp only [List.mem_cons, List.not_mem_nil, or_false]; omega)).trans hF_83
              have hF_100 : F_93 x_29 = .inr (0, [.ref r_36, .int (nI (k_16 - 0)), .int 0]) := (hB1.2.2.2 x_29 (by rw [ht_37]; simp)).trans hq_76
              have hF_101 : F_93 r_36 = .inl (cs 16, 60, .inl fc_75) := (hB1.2.2.2 r_36 (by rw [ht_58]; simp)).trans hq_77
              generalize H1 = H at hP hS ⊢
              refine lv_aload hx hb dX2_take_142 (lv_at hl 0 rfl) ?_
              refine pg_getN (ci := 3) (v := .ref y_30) (C := RX3) (T := TX3) (N := 4) hx hb hts it_3 hown hK hP hi_32 hF_95 rfl 1 (by decide) (hE.nest kn_4) (fun _ h9 => h9) rfl dX2_take_144 ?_
              refine lv_aload_n hx hb dX2_take_147 rfl (lv_at hl 6 rfl) ?_
              refine lv_iload hx hb dX2_take_148 (lv_at hl 1 rfl) ?_
              refine lv_iconst (v := 1) hx hb dX2_take_150 (by decide) ?_
              refine lv_iadd hx hb dX2_take_151 ?_
              refine lv_topi (fun x_102 ex_102 => ?_)
              obtain rfl : x_102 = (nI (k_16 + 1)) := ex_102.trans (nI_1 _)
              refine lv_aload_n hx hb dX2_take_152 rfl (lv_at hl 6 rfl) ?_
              refine pg_getN (ci := 0) (v := .int (nI z)) (C := RX0) (T := TX0) (N := 3) hx hb hts it_0 hown hK hP hL_g1 hF_97 rfl 1 (by decide) (hE.nest kn_3) (fun _ h9 => h9) rfl dX2_take_153 ?_
              have hFc := pg_free hD hS hA
              refine va_callv (va_runV (As := [.ref g1, .int (nI (k_16 + 1)), .int (nI z)]) (rest := []) ⟨hx, hb, hml, hown, hts⟩ (s_X0_addRange_e l dC dI cs ty L H.size F_93 y_30 (ρ + cn + cn + cn + 102) r_38 700 g1 σ r1 n1 z (k_16 + 1) z f hW hi_35 ht_39 hL_g1 hT_g1 hq_94 hF_97 hF_98 (by omega) (by omega) (by omega) (by have h9 := hfs.1; have h8 := (isv1 hw_26 c_27).1; omega) (Nat.le_refl _) (by have h9 := isv_len hfs (isv1 hw_26 c_27); omega)) ⟨callB_of 3 hts (gi kt_36) rfl rfl rfl (hts _ kt_1) (hts _ kt_552) (by decide +kernel) ⟨Nat.le_of_ble_eq_true rfl, Nat.le_of_ble_eq_true rfl⟩, (hts _ kt_38), (hts _ kt_39)⟩ ⟨fun a U g mk q => ⟨q.1, PT.calling q.2⟩, pg_recv hK hP hi_35 hq_94 (q := (RX0, TX0, 3)) rfl, fun U hU hWm => ⟨rfl, PT.mk hU hWm hP hK hD hE hO⟩⟩ rfl rfl hl.1 rfl (lv_room (Nat.le_of_ble_eq_true rfl)) dX2_take_156 ⟨by show _ + 0 ≤ 0; omega, by show _ + 0 ≤ 0; omega⟩) hS (fun q _ h => hFc q h) hFc (fun u t H1 locs ht hvm hw hB hz1 hk1 hS => ?_)
              obtain ⟨F_104, fc_105, hB1, hq_106, hq_107, hq_108⟩ := hB
              obtain ⟨hP, hD, hO, hR⟩ := QT.back hB1 ht hFc hR (fun q h => by simp only [List.mem_cons, List.not_mem_nil, or_false] at h ⊢; omega)
              have hF_109 : F_104 b_28 = .inr (3, [.ref x_29, .ref y_30, .int x1, .int x2]) := (hB1.2.2.2 b_28 (by rw [ht_33]; simp)).trans hF_95
              have hF_110 : F_104 h0 = .inr (2, [.ref ea, .int (nI cn)]) := (hB1.2.2.2 h0 (by rw [hT_h0]; simp only [List.mem_cons, List.not_mem_nil, or_false]; omega)).trans hF_96
              have hF_111 : F_104 g1 = .inr (0, [.ref r1, .int (nI z), .int 0]) := (hB1.2.2.2 g1 (by rw [hT_g1]; simp only [List.mem_cons, List.not_mem_nil, or_false]; omega)).trans hF_97
              have hF_112 : F_104 r1 = .inl (cs 16, n1, .inl f) := (hB1.2.2.2 r1 (by rw [ht_7]; simp only [List.mem_cons, List.not_mem_nil, or_false]; omega)).trans hF_98
              have hF_113 : F_104 ea = .inl (cs 21, 40, .inr (.inr (.inr (.inr f_3)))) := (hB1.2.2.2 ea (by rw [ht_2]; simp only [List.mem_cons, List.not_mem_nil, or_false]; omega)).trans hF_99
              have hF_114 : F_104 x_29 = .inr (0, [.ref r_36, .int (nI (k_16 - 0)), .int 0]) := (hB1.2.2.2 x_29 (by rw [ht_37]; simp)).trans hF_100
              have hF_115 : F_104 r_36 = .inl (cs 16, 60, .inl fc_75) := (hB1.2.2.2 r_36 (by rw [ht_58]; simp)).trans hF_101
              generalize H1 = H at hP hS ⊢
              refine lv_aload_n hx hb dX2_take_159 rfl (lv_at hl 3 rfl) ?_
              refine lv_dup hx hb dX2_take_160 rfl ?_
              refine pg_get (ci := 2) (v := .int (nI cn)) (C := RX2) (T := TX2) (N := 2) hx hb hts it_2 hown hK hP hL_h0 hF_110 rfl 1 (by decide) (hts _ kt_83) (fun _ h9 => h9) rfl dX2_take_161 ?_
              refine lv_iconst (v := 1) hx hb dX2_take_164 (by decide) ?_
              refine lv_iadd hx hb dX2_take_165 ?_
              refine lv_topi (fun x_116 ex_116 => ?_)
              obtain rfl : x_116 = (nI (cn + 1)) := ex_116.trans (nI_1 cn)
              refine pg_put (ci := 2) (v := .int (nI (cn + 1))) (ty := .int) (C := RX2) (T := TX2) (N := 2) hx hb hts it_2 tyX2 tyX2_ok nmX2 hown hK hP hD hS hL_h0 hF_110 rfl 1 (by decide) (hts _ kt_83) (fun _ h9 => h9) rfl (by decide +kernel) (rfl) (rfl) (Nat.le_of_ble_eq_true rfl) dX2_take_166 (fun H locs hP hD hS => ?_)
              obtain ⟨F_117, he_118, hP, hD, hO, hR⟩ : ∃ G, G = va_up F_104 h0 (.inr (2, [.ref ea, .int (nI (cn + 1))])) ∧ va_P (dC, dI) vwCl (va_pl L G) H ∧ va_D A (va_pl L G) ∧ OK cs ty L G ∧ FR ty [ρ, ρ + cn + cn + cn + 100, ρ + cn + cn + cn + 101, ρ + cn + cn + cn + 102] F G := ⟨_, rfl, hP, hD, hO.up (sh.dir hT_h0 ⟨(cn + 1), rfl, (by first | omega | assumption | exact Or.inl rfl | exact Or.inr rfl)⟩), hR.up hT_h0 (by simp)⟩
              have hF_119 : F_117 h0 = .inr (2, [.ref ea, .int (nI (cn + 1))]) := by rw [he_118]; exact up_self
              have hF_120 : F_117 b_28 = .inr (3, [.ref x_29, .ref y_30, .int x1, .int x2]) := by rw [he_118, up_ne (ne_ty ht_33 hT_h0 (by simp))]; exact hF_109
              have hF_121 : F_117 g1 = .inr (0, [.ref r1, .int (nI z), .int 0]) := by rw [he_118, up_ne (ne_ty hT_g1 hT_h0 (by simp))]; exact hF_111
              have hF_122 : F_117 r1 = .inl (cs 16, n1, .inl f) := by rw [he_118, up_ne (ne_ty ht_7 hT_h0 (by simp))]; exact hF_112
              have hF_123 : F_117 ea = .inl (cs 21, 40, .inr (.inr (.inr (.inr f_3)))) := by rw [he_118, up_ne (ne_ty ht_2 hT_h0 (by simp))]; exact hF_113
              have hF_124 : F_117 x_29 = .inr (0, [.ref r_36, .int (nI (k_16 - 0)), .int 0]) := by rw [he_118, up_ne (ne_ty ht_37 hT_h0 (by simp))]; exact hF_114
              have hF_125 : F_117 r_36 = .inl (cs 16, 60, .inl fc_75) := by rw [he_118, up_ne (ne_ty ht_58 hT_h0 (by simp))]; exact hF_115
              have hF_126 : F_117 y_30 = .inr (0, [.ref r_38, .int (nI (z - (k_16 + 1))), .int 0]) := by rw [he_118, up_ne (ne_ty ht_39 hT_h0 (by simp))]; exact hq_106
              have hF_127 : F_117 r_38 = .inl (cs 16, 700, .inl fc_105) := by rw [he_118, up_ne (ne_ty ht_85 hT_h0 (by simp))]; exact hq_107
              refine lv_aload_n hx hb dX2_take_169 rfl (lv_at hl 3 rfl) ?_
              refine pg_get (ci := 2) (v := .int (nI (cn + 1))) (C := RX2) (T := TX2) (N := 2) hx hb hts it_2 hown hK hP hL_h0 hF_119 rfl 1 (by decide) (hts _ kt_83) (fun _ h9 => h9) rfl dX2_take_170 ?_
              refine W.widen (k := 0) (n := 0) (by omega) (by omega) ?_
              exact W.iret (v := (nI (cn + 1))) hx hb hr (fun t ht hWm => ⟨⟨(nI (cn + 1)), (cn + 1), rfl, (Or.inr (Or.inr ⟨hc40, val_y2 c_17 c_18 (Or.inl c_11) hfs (ifb1 hw_21 c_22) (isv1 hw_26 c_27), rfl, rfl⟩)), ⟨F_117, QT.mk ht hP hD hO hR, hF_119, ⟨(x1, x2, k_16 - 0, fc_75, z - (k_16 + 1), fc_105), DIRC.add (DIRC.fr hDI hO0 hW hi_1 ht_2 (by omega) hR (hF_123.trans hF_4.symm) (fun k hk => by simp only [List.mem_cons, List.not_mem_nil, or_false]; omega)) hF_123 hbf_31 ⟨x_29, y_30, r_36, r_38, hF_120, hF_124, hF_125, hF_126, hF_127, (by have h9 := NM_len (ifb1 hw_21 c_22); show k_16 - 0 ≤ 60; omega), (by have h9 := isv_len hfs (isv1 hw_26 c_27); show z - (k_16 + 1) ≤ 700; omega)⟩, fun _ => enx2 (Or.inl c_11) hfs (ifb1 hw_21 c_22) (isv1 hw_26 c_27) hq_78 hq_108⟩⟩⟩, hS.F ht⟩) hS.2.2 dX2_take_173
            ·
              refine lv_iconst (v := (-1)) hx hb dX2_take_89 (by decide) ?_
              refine W.widen (k := 0) (n := 0) (by omega) (by omega) ?_
              exact W.iret (v := (-1)) hx hb hr (fun t ht hWm => ⟨⟨(-1), cn, rfl, (Or.inr (Or.inl ⟨hc40, val_nv (Or.inl c_11) hfs (isv0 hw_26 c_27), rfl, rfl⟩)), ⟨F, QT.mk ht hP hD hO hR, hFd, ⟨(0, 0, 0, fun _ => 0, 0, fun _ => 0), DIRC.same hDI, fun q => absurd q (by omega)⟩⟩⟩, hS.F ht⟩) hS.2.2 dX2_take_90
          ·
            refine lv_iconst (v := (-1)) hx hb dX2_take_72 (by decide) ?_
            refine W.widen (k := 0) (n := 0) (by omega) (by omega) ?_
            exact W.iret (v := (-1)) hx hb hr (fun t ht hWm => ⟨⟨(-1), cn, rfl, (Or.inr (Or.inl ⟨hc40, val_nn (Or.inl c_11) hfs (ifb0 hw_21 c_22), rfl, rfl⟩)), ⟨F, QT.mk ht hP hD hO hR, hFd, ⟨(0, 0, 0, fun _ => 0, 0, fun _ => 0), DIRC.same hDI, fun q => absurd q (by omega)⟩⟩⟩, hS.F ht⟩) hS.2.2 dX2_take_73
    ·
      refine lv_iload_n hx hb dX2_take_16 rfl (lv_at hl 1 rfl) ?_
      refine lv_iconst (v := 2) hx hb dX2_take_17 (by decide) ?_
      refine lv_icmp_ne (tgt := 25) hx hb dX2_take_18 (by decide) (fun c_128 => ?_) (fun c_128 => ?_)
      ·
        refine lv_iconst (v := 0) hx hb dX2_take_25 (by decide) ?_
        refine lv_istore (lv' := [(4, .int 0), (0, .ref h0), (1, .int x1), (2, .int x2), (3, .ref g1)]) hx hb dX2_take_26 hl (by decide) rfl (fun ls hl => ?_)
        refine lv_iload hx hb dX2_take_28 (lv_at hl 0 rfl) ?_
        refine lv_if_eq (tgt := 47) hx hb dX2_take_30 (by decide) (fun c_129 => ?_) (fun c_129 => absurd (by decide) c_129)
        refine lv_aload_n hx hb dX2_take_47 rfl (lv_at hl 4 rfl) ?_
        refine pg_getN (ci := 0) (v := .int (nI z)) (C := RX0) (T := TX0) (N := 3) hx hb hts it_0 hown hK hP hL_g1 hFg rfl 1 (by decide) (hE.nest kn_3) (fun _ h9 => h9) rfl dX2_take_48 ?_
        refine lv_istore (lv' := [(5, .int (nI z)), (4, .int 0), (0, .ref h0), (1, .int x1), (2, .int x2), (3, .ref g1)]) hx hb dX2_take_51 hl (by decide) rfl (fun ls hl => ?_)
        refine lv_iload_n hx hb dX2_take_53 rfl (lv_at hl 3 rfl) ?_
        refine lv_if_lt (tgt := 72) hx hb dX2_take_54 (by decide) (fun c_130 => ?_) (fun c_130 => ?_)
        ·
          refine lv_iconst (v := (-1)) hx hb dX2_take_72 (by decide) ?_
          refine W.widen (k := 0) (n := 0) (by omega) (by omega) ?_
          exact W.iret (v := (-1)) hx hb hr (fun t ht hWm => ⟨⟨(-1), cn, rfl, (Or.inr (Or.inl ⟨hc40, val_n1 c_130, rfl, rfl⟩)), ⟨F, QT.mk ht hP hD hO hR, hFd, ⟨(0, 0, 0, fun _ => 0, 0, fun _ => 0), DIRC.same hDI, fun q => absurd q (by omega)⟩⟩⟩, hS.F ht⟩) hS.2.2 dX2_take_73
        ·
          refine lv_iload_n hx hb dX2_take_57 rfl (lv_at hl 3 rfl) ?_
          refine lv_iconst (v := 4) hx hb dX2_take_58 (by decide) ?_
          refine lv_icmp_gt (tgt := 72) hx hb dX2_take_59 (by decide) (fun c_131 => ?_) (fun c_131 => ?_)
          ·
            refine lv_iconst (v := (-1)) hx hb dX2_take_72 (by decide) ?_
            refine W.widen (k := 0) (n := 0) (by omega) (by omega) ?_
            exact W.iret (v := (-1)) hx hb hr (fun t ht hWm => ⟨⟨(-1), cn, rfl, (Or.inr (Or.inl ⟨hc40, val_n2 c_131, rfl, rfl⟩)), ⟨F, QT.mk ht hP hD hO hR, hFd, ⟨(0, 0, 0, fun _ => 0, 0, fun _ => 0), DIRC.same hDI, fun q => absurd q (by omega)⟩⟩⟩, hS.F ht⟩) hS.2.2 dX2_take_73
          ·
            refine lv_aload_n hx hb dX2_take_62 rfl (lv_at hl 5 rfl) ?_
            refine lv_iconst (v := 0) hx hb dX2_take_63 (by decide) ?_
            refine lv_iload hx hb dX2_take_64 (lv_at hl 0 rfl) ?_
            refine W.eq (g2 := F0 m 66 ls [.int (nI z), .int (nI 0), .ref g1]) rfl ?_
            have hFc := pg_free hD hS hA
            refine va_calli (va_runV (As := [.int (nI 0), .int (nI z)]) (rest := []) ⟨hx, hb, hml, hown, hts⟩ (s_X0_isName_e l dC dI cs ty L s.heap.size F g1 σ r1 n1 z 0 z f hW hL_g1 hT_g1 hFg hFr (by omega) (by omega) (by omega) (by omega)) ⟨callB_of 2 hts (gi kt_108) rfl rfl rfl (hts _ kt_1) (hts _ kt_109) (by decide +kernel) ⟨Nat.le_of_ble_eq_true rfl, Nat.le_of_ble_eq_true rfl⟩, (hts _ kt_110), (hts _ kt_111)⟩ ⟨fun a U g mk q => ⟨q.1, PT.calling q.2⟩, pg_recv hK hP hL_g1 hFg (q := (RX0, TX0, 3)) rfl, fun U hU hWm => ⟨rfl, PT.mk hU hWm hP hK hD hE hO⟩⟩ rfl rfl hl.1 rfl (lv_room (Nat.le_of_ble_eq_true rfl)) dX2_take_66 ⟨by show _ + 0 ≤ 0; omega, by show _ + 0 ≤ 0; omega⟩) hS (fun q _ h => hFc q h) hFc (fun r_132 u t H1 locs ht hvm hw hB hz1 hk1 hS => ?_)
            obtain ⟨F_133, hB1⟩ := hB
            obtain rfl : F = F_133 := (funext (fun a => hB1.2.2.2 a List.not_mem_nil)).symm
            obtain ⟨hP, hD, hO, hR⟩ := QT.back hB1 ht hFc hR (fun q h => absurd h List.not_mem_nil)
            generalize H1 = H at hP hS ⊢
            have hw : r_132 = (if NM f 0 z = true then 1 else 0) := hw
            have hw_134 := hw
            refine lv_if_ne (tgt := 74) hx hb dX2_take_69 (by decide) (fun c_135 => ?_) (fun c_135 => ?_)
            ·
              refine lv_iload hx hb dX2_take_74 (lv_at hl 1 rfl) ?_
              refine lv_if_eq (tgt := 91) hx hb dX2_take_76 (by decide) (fun c_136 => ?_) (fun c_136 => absurd (by decide) c_136)
              refine lv_aload_n hx hb dX2_take_91 rfl (lv_at hl 2 rfl) ?_
              refine pg_get (ci := 2) (v := .ref ea) (C := RX2) (T := TX2) (N := 2) hx hb hts it_2 hown hK hP hL_h0 hFd rfl 0 (by decide) (hts _ kt_84) (fun _ h9 => h9) rfl dX2_take_92 ?_
              refine lv_aload_n hx hb dX2_take_95 rfl (lv_at hl 2 rfl) ?_
              refine pg_get (ci := 2) (v := .int (nI cn)) (C := RX2) (T := TX2) (N := 2) hx hb hts it_2 hown hK hP hL_h0 hFd rfl 1 (by decide) (hts _ kt_83) (fun _ h9 => h9) rfl dX2_take_96 ?_
              obtain ⟨b_137, x_138, y_139, hbf_140, hi_141, ht_142⟩ := hq_5 cn (by omega)
              refine pg_aald (r := b_137) hx hb hK hP hi_1 5 hF_4 rfl (vp_in_nI (by omega) (by omega)) (show f_3 ((nI cn) : Int32).toNatClampNeg = _ from by rw [show ((nI cn) : Int32) = nI cn from rfl, nI_clamp (by omega)]; exact hbf_140) dX2_take_99 ?_
              refine lv_astore (lv' := [(6, .ref b_137), (5, .int (nI z)), (4, .int 0), (0, .ref h0), (1, .int x1), (2, .int x2), (3, .ref g1)]) hx hb dX2_take_100 hl (by decide) rfl (fun ls hl => ?_)
              refine lv_aload hx hb dX2_take_102 (lv_at hl 0 rfl) ?_
              refine lv_iload_n hx hb dX2_take_104 rfl (lv_at hl 4 rfl) ?_
              obtain ⟨hi_143, hi_144, ⟨r_145, ht_146⟩, ⟨r_147, ht_148⟩⟩ := hW.entry hi_141 ht_142
              have ht_146 : ty x_138 = (0, ρ + cn + cn + cn + 101, [r_145, 60]) := ht_146
              have ht_148 : ty y_139 = (0, ρ + cn + cn + cn + 102, [r_147, 700]) := ht_148
              obtain ⟨v0_149, v1_150, hF_151⟩ := hO.entry hi_141 ht_142
              refine pg_putN (ci := 3) (v := .int x1) (ty := .int) (C := RX3) (T := TX3) (N := 4) hx hb hts it_3 tyX3 tyX3_ok nmX3 hown hK hP hD hS hi_141 hF_151 rfl 2 (by decide) (hE.nest kn_0) (fun _ h9 => h9) rfl (by decide +kernel) (rfl) (rfl) (Nat.le_of_ble_eq_true rfl) dX2_take_105 (fun H locs hP hD hS => ?_)
              obtain ⟨F_152, he_153, hP, hD, hO, hR⟩ : ∃ G, G = va_up F b_137 (.inr (3, [.ref x_138, .ref y_139, .int x1, .int v1_150])) ∧ va_P (dC, dI) vwCl (va_pl L G) H ∧ va_D A (va_pl L G) ∧ OK cs ty L G ∧ FR ty [ρ, ρ + cn + cn + cn + 100, ρ + cn + cn + cn + 101, ρ + cn + cn + cn + 102] F G := ⟨_, rfl, hP, hD, hO.up (sh.entry ht_142 ⟨x1, v1_150, rfl⟩), hR.up ht_142 (by simp)⟩
              have hF_154 : F_152 b_137 = .inr (3, [.ref x_138, .ref y_139, .int x1, .int v1_150]) := by rw [he_153]; exact up_self
              have hF_155 : F_152 h0 = .inr (2, [.ref ea, .int (nI cn)]) := by rw [he_153, up_ne (ne_ty hT_h0 ht_142 (by simp))]; exact hFd
              have hF_156 : F_152 g1 = .inr (0, [.ref r1, .int (nI z), .int 0]) := by rw [he_153, up_ne (ne_ty hT_g1 ht_142 (by simp))]; exact hFg
              have hF_157 : F_152 r1 = .inl (cs 16, n1, .inl f) := by rw [he_153, up_ne (ne_ty ht_7 ht_142 (by simp))]; exact hFr
              have hF_158 : F_152 ea = .inl (cs 21, 40, .inr (.inr (.inr (.inr f_3)))) := by rw [he_153, up_ne (ne_ty ht_2 ht_142 (by simp))]; exact hF_4
              refine lv_aload hx hb dX2_take_108 (lv_at hl 0 rfl) ?_
              refine lv_iload_n hx hb dX2_take_110 rfl (lv_at hl 5 rfl) ?_
              refine pg_putN (ci := 3) (v := .int x2) (ty := .int) (C := RX3) (T := TX3) (N := 4) hx hb hts it_3 tyX3 tyX3_ok nmX3 hown hK hP hD hS hi_141 hF_154 rfl 3 (by decide) (hE.nest kn_2) (fun _ h9 => h9) rfl (by decide +kernel) (rfl) (rfl) (Nat.le_of_ble_eq_true rfl) dX2_take_111 (fun H locs hP hD hS => ?_)
              obtain ⟨F_159, he_160, hP, hD, hO, hR⟩ : ∃ G, G = va_up F_152 b_137 (.inr (3, [.ref x_138, .ref y_139, .int x1, .int x2])) ∧ va_P (dC, dI) vwCl (va_pl L G) H ∧ va_D A (va_pl L G) ∧ OK cs ty L G ∧ FR ty [ρ, ρ + cn + cn + cn + 100, ρ + cn + cn + cn + 101, ρ + cn + cn + cn + 102] F G := ⟨_, rfl, hP, hD, hO.up (sh.entry ht_142 ⟨x1, x2, rfl⟩), hR.up ht_142 (by simp)⟩
              have hF_161 : F_159 b_137 = .inr (3, [.ref x_138, .ref y_139, .int x1, .int x2]) := by rw [he_160]; exact up_self
              have hF_162 : F_159 h0 = .inr (2, [.ref ea, .int (nI cn)]) := by rw [he_160, up_ne (ne_ty hT_h0 ht_142 (by simp))]; exact hF_155
              have hF_163 : F_159 g1 = .inr (0, [.ref r1, .int (nI z), .int 0]) := by rw [he_160, up_ne (ne_ty hT_g1 ht_142 (by simp))]; exact hF_156
              have hF_164 : F_159 r1 = .inl (cs 16, n1, .inl f) := by rw [he_160, up_ne (ne_ty ht_7 ht_142 (by simp))]; exact hF_157
              have hF_165 : F_159 ea = .inl (cs 21, 40, .inr (.inr (.inr (.inr f_3)))) := by rw [he_160, up_ne (ne_ty ht_2 ht_142 (by simp))]; exact hF_158
              refine lv_aload hx hb dX2_take_114 (lv_at hl 0 rfl) ?_
              refine pg_getN (ci := 3) (v := .ref x_138) (C := RX3) (T := TX3) (N := 4) hx hb hts it_3 hown hK hP hi_141 hF_161 rfl 0 (by decide) (hE.nest kn_1) (fun _ h9 => h9) rfl dX2_take_116 ?_
              have hFc := pg_free hD hS hA
              obtain ⟨hi_166, ht_167, hq_168⟩ := hW.bytes hi_143 ht_146
              obtain ⟨z_169, o_170, hF_171, hq_172, hq_173⟩ := hO.bytes hi_143 ht_146
              refine va_callv (va_runV (As := []) (rest := []) ⟨hx, hb, hml, hown, hts⟩ (s_X0_clear l dC dI cs ty L H.size F_159 x_138 (ρ + cn + cn + cn + 101) r_145 60 hW hi_143 ht_146) ⟨callB_of 0 hts (gi kt_32) rfl rfl rfl (hts _ kt_1) (hts _ kt_551) (by decide +kernel) ⟨Nat.le_of_ble_eq_true rfl, Nat.le_of_ble_eq_true rfl⟩, (hts _ kt_34), (hts _ kt_35)⟩ ⟨fun a U g mk q => ⟨q.1, PT.calling q.2⟩, pg_recv hK hP hi_143 hF_171 (q := (RX0, TX0, 3)) rfl, fun U hU hWm => ⟨rfl, PT.mk hU hWm hP hK hD hE hO⟩⟩ rfl rfl hl.1 rfl (lv_room (Nat.le_of_ble_eq_true rfl)) dX2_take_119 ⟨by show _ + 0 ≤ 0; omega, by show _ + 0 ≤ 0; omega⟩) hS (fun q _ h => hFc q h) hFc (fun u t H1 locs ht hvm hw hB hz1 hk1 hS => ?_)
              obtain ⟨F_175, hB1, hq_176⟩ := hB
              obtain ⟨hP, hD, hO, hR⟩ := QT.back hB1 ht hFc hR (fun q h => by simp only [List.mem_cons, List.not_mem_nil, or_false] at h ⊢; omega)
              have hF_177 : F_175 b_137 = .inr (3, [.ref x_138, .ref y_139, .int x1, .int x2]) := (hB1.2.2.2 b_137 (by rw [ht_142]; simp)).trans hF_161
              have hF_178 : F_175 h0 = .inr (2, [.ref ea, .int (nI cn)]) := (hB1.2.2.2 h0 (by rw [hT_h0]; simp only [List.mem_cons, List.not_mem_nil, or_false]; omega)).trans hF_162
              have hF_179 : F_175 g1 = .inr (0, [.ref r1, .int (nI z), .int 0]) := (hB1.2.2.2 g1 (by rw [hT_g1]; simp only [List.mem_cons, List.not_mem_nil, or_false]; omega)).trans hF_163
              have hF_180 : F_175 r1 = .inl (cs 16, n1, .inl f) := (hB1.2.2.2 r1 (by rw [ht_7]; simp only [List.mem_cons, List.not_mem_nil, or_false]; omega)).trans hF_164
              have hF_181 : F_175 ea = .inl (cs 21, 40, .inr (.inr (.inr (.inr f_3)))) := (hB1.2.2.2 ea (by rw [ht_2]; simp only [List.mem_cons, List.not_mem_nil, or_false]; omega)).trans hF_165
              generalize H1 = H at hP hS ⊢
              refine lv_aload hx hb dX2_take_122 (lv_at hl 0 rfl) ?_
              refine pg_getN (ci := 3) (v := .ref x_138) (C := RX3) (T := TX3) (N := 4) hx hb hts it_3 hown hK hP hi_141 hF_177 rfl 0 (by decide) (hE.nest kn_1) (fun _ h9 => h9) rfl dX2_take_124 ?_
              refine lv_aload_n hx hb dX2_take_127 rfl (lv_at hl 6 rfl) ?_
              refine lv_iconst (v := 0) hx hb dX2_take_128 (by decide) ?_
              refine lv_iload hx hb dX2_take_129 (lv_at hl 1 rfl) ?_
              refine W.eq (g2 := F0 m 131 ls [.int (nI z), .int (nI 0), .ref g1, .ref x_138]) rfl ?_
              have hFc := pg_free hD hS hA
              refine va_callv (va_runV (As := [.ref g1, .int (nI 0), .int (nI z)]) (rest := []) ⟨hx, hb, hml, hown, hts⟩ (s_X0_addRange_e l dC dI cs ty L H.size F_175 x_138 (ρ + cn + cn + cn + 101) r_145 60 g1 σ r1 n1 z 0 z f hW hi_143 ht_146 hL_g1 hT_g1 hq_176 hF_179 hF_180 (by omega) (by omega) (by omega) (Nat.zero_le _) (by omega) (by have h9 := NM_len (ifb1 hw_134 c_135); omega)) ⟨callB_of 3 hts (gi kt_36) rfl rfl rfl (hts _ kt_1) (hts _ kt_552) (by decide +kernel) ⟨Nat.le_of_ble_eq_true rfl, Nat.le_of_ble_eq_true rfl⟩, (hts _ kt_38), (hts _ kt_39)⟩ ⟨fun a U g mk q => ⟨q.1, PT.calling q.2⟩, pg_recv hK hP hi_143 hq_176 (q := (RX0, TX0, 3)) rfl, fun U hU hWm => ⟨rfl, PT.mk hU hWm hP hK hD hE hO⟩⟩ rfl rfl hl.1 rfl (lv_room (Nat.le_of_ble_eq_true rfl)) dX2_take_131 ⟨by show _ + 0 ≤ 0; omega, by show _ + 0 ≤ 0; omega⟩) hS (fun q _ h => hFc q h) hFc (fun u t H1 locs ht hvm hw hB hz1 hk1 hS => ?_)
              obtain ⟨F_183, fc_184, hB1, hq_185, hq_186, hq_187⟩ := hB
              obtain ⟨hP, hD, hO, hR⟩ := QT.back hB1 ht hFc hR (fun q h => by simp only [List.mem_cons, List.not_mem_nil, or_false] at h ⊢; omega)
              have hF_188 : F_183 b_137 = .inr (3, [.ref x_138, .ref y_139, .int x1, .int x2]) := (hB1.2.2.2 b_137 (by rw [ht_142]; simp)).trans hF_177
              have hF_189 : F_183 h0 = .inr (2, [.ref ea, .int (nI cn)]) := (hB1.2.2.2 h0 (by rw [hT_h0]; simp only [List.mem_cons, List.not_mem_nil, or_false]; omega)).trans hF_178
              have hF_190 : F_183 g1 = .inr (0, [.ref r1, .int (nI z), .int 0]) := (hB1.2.2.2 g1 (by rw [hT_g1]; simp only [List.mem_cons, List.not_mem_nil, or_false]; omega)).trans hF_179
              have hF_191 : F_183 r1 = .inl (cs 16, n1, .inl f) := (hB1.2.2.2 r1 (by rw [ht_7]; simp only [List.mem_cons, List.not_mem_nil, or_false]; omega)).trans hF_180
              have hF_192 : F_183 ea = .inl (cs 21, 40, .inr (.inr (.inr (.inr f_3)))) := (hB1.2.2.2 ea (by rw [ht_2]; simp only [List.mem_cons, List.not_mem_nil, or_false]; omega)).trans hF_181
              generalize H1 = H at hP hS ⊢
              refine lv_aload hx hb dX2_take_134 (lv_at hl 0 rfl) ?_
              refine pg_getN (ci := 3) (v := .ref y_139) (C := RX3) (T := TX3) (N := 4) hx hb hts it_3 hown hK hP hi_141 hF_188 rfl 1 (by decide) (hE.nest kn_4) (fun _ h9 => h9) rfl dX2_take_136 ?_
              have hFc := pg_free hD hS hA
              obtain ⟨hi_193, ht_194, hq_195⟩ := hW.bytes hi_144 ht_148
              obtain ⟨z_196, o_197, hF_198, hq_199, hq_200⟩ := hO.bytes hi_144 ht_148
              refine va_callv (va_runV (As := []) (rest := []) ⟨hx, hb, hml, hown, hts⟩ (s_X0_clear l dC dI cs ty L H.size F_183 y_139 (ρ + cn + cn + cn + 102) r_147 700 hW hi_144 ht_148) ⟨callB_of 0 hts (gi kt_32) rfl rfl rfl (hts _ kt_1) (hts _ kt_551) (by decide +kernel) ⟨Nat.le_of_ble_eq_true rfl, Nat.le_of_ble_eq_true rfl⟩, (hts _ kt_34), (hts _ kt_35)⟩ ⟨fun a U g mk q => ⟨q.1, PT.calling q.2⟩, pg_recv hK hP hi_144 hF_198 (q := (RX0, TX0, 3)) rfl, fun U hU hWm => ⟨rfl, PT.mk hU hWm hP hK hD hE hO⟩⟩ rfl rfl hl.1 rfl (lv_room (Nat.le_of_ble_eq_true rfl)) dX2_take_139 ⟨by show _ + 0 ≤ 0; omega, by show _ + 0 ≤ 0; omega⟩) hS (fun q _ h => hFc q h) hFc (fun u t H1 locs ht hvm hw hB hz1 hk1 hS => ?_)
              obtain ⟨F_202, hB1, hq_203⟩ := hB
              obtain ⟨hP, hD, hO, hR⟩ := QT.back hB1 ht hFc hR (fun q h => by simp only [List.mem_cons, List.not_mem_nil, or_false] at h ⊢; omega)
              have hF_204 : F_202 b_137 = .inr (3, [.ref x_138, .ref y_139, .int x1, .int x2]) := (hB1.2.2.2 b_137 (by rw [ht_142]; simp)).trans hF_188
              have hF_205 : F_202 h0 = .inr (2, [.ref ea, .int (nI cn)]) := (hB1.2.2.2 h0 (by rw [hT_h0]; simp only [List.mem_cons, List.not_mem_nil, or_false]; omega)).trans hF_189
              have hF_206 : F_202 g1 = .inr (0, [.ref r1, .int (nI z), .int 0]) := (hB1.2.2.2 g1 (by rw [hT_g1]; simp only [List.mem_cons, List.not_mem_nil, or_false]; omega)).trans hF_190
              have hF_207 : F_202 r1 = .inl (cs 16, n1, .inl f) := (hB1.2.2.2 r1 (by rw [ht_7]; simp only [List.mem_cons, List.not_mem_nil, or_false]; omega)).trans hF_191
              have hF_208 : F_202 ea = .inl (cs 21, 40, .inr (.inr (.inr (.inr f_3)))) := (hB1.2.2.2 ea (by rw [ht_2]; simp only [List.mem_cons, List.not_mem_nil, or_false]; omega)).trans hF_192
              have hF_209 : F_202 x_138 = .inr (0, [.ref r_145, .int (nI (z - 0)), .int 0]) := (hB1.2.2.2 x_138 (by rw [ht_146]; simp)).trans hq_185
              have hF_210 : F_202 r_145 = .inl (cs 16, 60, .inl fc_184) := (hB1.2.2.2 r_145 (by rw [ht_167]; simp)).trans hq_186
              generalize H1 = H at hP hS ⊢
              refine lv_aload hx hb dX2_take_142 (lv_at hl 0 rfl) ?_
              refine pg_getN (ci := 3) (v := .ref y_139) (C := RX3) (T := TX3) (N := 4) hx hb hts it_3 hown hK hP hi_141 hF_204 rfl 1 (by decide) (hE.nest kn_4) (fun _ h9 => h9) rfl dX2_take_144 ?_
              refine lv_aload_n hx hb dX2_take_147 rfl (lv_at hl 6 rfl) ?_
              refine lv_iload hx hb dX2_take_148 (lv_at hl 1 rfl) ?_
              refine lv_iconst (v := 1) hx hb dX2_take_150 (by decide) ?_
              refine lv_iadd hx hb dX2_take_151 ?_
              refine lv_topi (fun x_211 ex_211 => ?_)
              obtain rfl : x_211 = (nI (z + 1)) := ex_211.trans (nI_1 _)
              refine lv_aload_n hx hb dX2_take_152 rfl (lv_at hl 6 rfl) ?_
              refine pg_getN (ci := 0) (v := .int (nI z)) (C := RX0) (T := TX0) (N := 3) hx hb hts it_0 hown hK hP hL_g1 hF_206 rfl 1 (by decide) (hE.nest kn_3) (fun _ h9 => h9) rfl dX2_take_153 ?_
              obtain ⟨f_212, hF_213⟩ := hO.ints hi_193 ht_194
              have hFc := pg_free hD hS hA
              refine va_callv (va_runV (As := [.ref g1, .int (nI (z + 1)), .int (nI z)]) (rest := []) ⟨hx, hb, hml, hown, hts⟩ (s_X0_addRange_n l dC dI cs ty L H.size F_202 y_139 (ρ + cn + cn + cn + 102) r_147 700 g1 σ r1 n1 z (z + 1) z f_212 hW hi_144 ht_148 hL_g1 hT_g1 hq_203 hF_206 hF_213 (by omega) (by omega) (by omega) (rfl) (Nat.le_refl _)) ⟨callB_of 3 hts (gi kt_36) rfl rfl rfl (hts _ kt_1) (hts _ kt_552) (by decide +kernel) ⟨Nat.le_of_ble_eq_true rfl, Nat.le_of_ble_eq_true rfl⟩, (hts _ kt_38), (hts _ kt_39)⟩ ⟨fun a U g mk q => ⟨q.1, PT.calling q.2⟩, pg_recv hK hP hi_144 hq_203 (q := (RX0, TX0, 3)) rfl, fun U hU hWm => ⟨rfl, PT.mk hU hWm hP hK hD hE hO⟩⟩ rfl rfl hl.1 rfl (lv_room (Nat.le_of_ble_eq_true rfl)) dX2_take_156 ⟨by show _ + 0 ≤ 0; omega, by show _ + 0 ≤ 0; omega⟩) hS (fun q _ h => hFc q h) hFc (fun u t H1 locs ht hvm hw hB hz1 hk1 hS => ?_)
              obtain ⟨F_215, hB1, hq_216, hq_217⟩ := hB
              obtain ⟨hP, hD, hO, hR⟩ := QT.back hB1 ht hFc hR (fun q h => by simp only [List.mem_cons, List.not_mem_nil, or_false] at h ⊢; omega)
              have hF_218 : F_215 b_137 = .inr (3, [.ref x_138, .ref y_139, .int x1, .int x2]) := (hB1.2.2.2 b_137 (by rw [ht_142]; simp)).trans hF_204
              have hF_219 : F_215 h0 = .inr (2, [.ref ea, .int (nI cn)]) := (hB1.2.2.2 h0 (by rw [hT_h0]; simp only [List.mem_cons, List.not_mem_nil, or_false]; omega)).trans hF_205
              have hF_220 : F_215 g1 = .inr (0, [.ref r1, .int (nI z), .int 0]) := (hB1.2.2.2 g1 (by rw [hT_g1]; simp only [List.mem_cons, List.not_mem_nil, or_false]; omega)).trans hF_206
              have hF_221 : F_215 r1 = .inl (cs 16, n1, .inl f) := (hB1.2.2.2 r1 (by rw [ht_7]; simp only [List.mem_cons, List.not_mem_nil, or_false]; omega)).trans hF_207
              have hF_222 : F_215 ea = .inl (cs 21, 40, .inr (.inr (.inr (.inr f_3)))) := (hB1.2.2.2 ea (by rw [ht_2]; simp only [List.mem_cons, List.not_mem_nil, or_false]; omega)).trans hF_208
              have hF_223 : F_215 x_138 = .inr (0, [.ref r_145, .int (nI (z - 0)), .int 0]) := (hB1.2.2.2 x_138 (by rw [ht_146]; simp)).trans hF_209
              have hF_224 : F_215 r_145 = .inl (cs 16, 60, .inl fc_184) := (hB1.2.2.2 r_145 (by rw [ht_167]; simp)).trans hF_210
              generalize H1 = H at hP hS ⊢
              refine lv_aload_n hx hb dX2_take_159 rfl (lv_at hl 3 rfl) ?_
              refine lv_dup hx hb dX2_take_160 rfl ?_
              refine pg_get (ci := 2) (v := .int (nI cn)) (C := RX2) (T := TX2) (N := 2) hx hb hts it_2 hown hK hP hL_h0 hF_219 rfl 1 (by decide) (hts _ kt_83) (fun _ h9 => h9) rfl dX2_take_161 ?_
              refine lv_iconst (v := 1) hx hb dX2_take_164 (by decide) ?_
              refine lv_iadd hx hb dX2_take_165 ?_
              refine lv_topi (fun x_225 ex_225 => ?_)
              obtain rfl : x_225 = (nI (cn + 1)) := ex_225.trans (nI_1 cn)
              refine pg_put (ci := 2) (v := .int (nI (cn + 1))) (ty := .int) (C := RX2) (T := TX2) (N := 2) hx hb hts it_2 tyX2 tyX2_ok nmX2 hown hK hP hD hS hL_h0 hF_219 rfl 1 (by decide) (hts _ kt_83) (fun _ h9 => h9) rfl (by decide +kernel) (rfl) (rfl) (Nat.le_of_ble_eq_true rfl) dX2_take_166 (fun H locs hP hD hS => ?_)
              obtain ⟨F_226, he_227, hP, hD, hO, hR⟩ : ∃ G, G = va_up F_215 h0 (.inr (2, [.ref ea, .int (nI (cn + 1))])) ∧ va_P (dC, dI) vwCl (va_pl L G) H ∧ va_D A (va_pl L G) ∧ OK cs ty L G ∧ FR ty [ρ, ρ + cn + cn + cn + 100, ρ + cn + cn + cn + 101, ρ + cn + cn + cn + 102] F G := ⟨_, rfl, hP, hD, hO.up (sh.dir hT_h0 ⟨(cn + 1), rfl, (by first | omega | assumption | exact Or.inl rfl | exact Or.inr rfl)⟩), hR.up hT_h0 (by simp)⟩
              have hF_228 : F_226 h0 = .inr (2, [.ref ea, .int (nI (cn + 1))]) := by rw [he_227]; exact up_self
              have hF_229 : F_226 b_137 = .inr (3, [.ref x_138, .ref y_139, .int x1, .int x2]) := by rw [he_227, up_ne (ne_ty ht_142 hT_h0 (by simp))]; exact hF_218
              have hF_230 : F_226 g1 = .inr (0, [.ref r1, .int (nI z), .int 0]) := by rw [he_227, up_ne (ne_ty hT_g1 hT_h0 (by simp))]; exact hF_220
              have hF_231 : F_226 r1 = .inl (cs 16, n1, .inl f) := by rw [he_227, up_ne (ne_ty ht_7 hT_h0 (by simp))]; exact hF_221
              have hF_232 : F_226 ea = .inl (cs 21, 40, .inr (.inr (.inr (.inr f_3)))) := by rw [he_227, up_ne (ne_ty ht_2 hT_h0 (by simp))]; exact hF_222
              have hF_233 : F_226 x_138 = .inr (0, [.ref r_145, .int (nI (z - 0)), .int 0]) := by rw [he_227, up_ne (ne_ty ht_146 hT_h0 (by simp))]; exact hF_223
              have hF_234 : F_226 r_145 = .inl (cs 16, 60, .inl fc_184) := by rw [he_227, up_ne (ne_ty ht_167 hT_h0 (by simp))]; exact hF_224
              have hF_235 : F_226 y_139 = .inr (0, [.ref r_147, .int (nI 0), .int 0]) := by rw [he_227, up_ne (ne_ty ht_148 hT_h0 (by simp))]; exact hq_216
              have hF_236 : F_226 r_147 = .inl (cs 16, 700, .inl f_212) := by rw [he_227, up_ne (ne_ty ht_194 hT_h0 (by simp))]; exact hq_217
              refine lv_aload_n hx hb dX2_take_169 rfl (lv_at hl 3 rfl) ?_
              refine pg_get (ci := 2) (v := .int (nI (cn + 1))) (C := RX2) (T := TX2) (N := 2) hx hb hts it_2 hown hK hP hL_h0 hF_228 rfl 1 (by decide) (hts _ kt_83) (fun _ h9 => h9) rfl dX2_take_170 ?_
              refine W.widen (k := 0) (n := 0) (by omega) (by omega) ?_
              exact W.iret (v := (nI (cn + 1))) hx hb hr (fun t ht hWm => ⟨⟨(nI (cn + 1)), (cn + 1), rfl, (Or.inr (Or.inr ⟨hc40, val_y1 c_130 c_131 (fun q => q.elim c_11 c_128) (ifb1 hw_134 c_135), rfl, rfl⟩)), ⟨F_226, QT.mk ht hP hD hO hR, hF_228, ⟨(x1, x2, z - 0, fc_184, 0, f_212), DIRC.add (DIRC.fr hDI hO0 hW hi_1 ht_2 (by omega) hR (hF_232.trans hF_4.symm) (fun k hk => by simp only [List.mem_cons, List.not_mem_nil, or_false]; omega)) hF_232 hbf_140 ⟨x_138, y_139, r_145, r_147, hF_229, hF_233, hF_234, hF_235, hF_236, (by have h9 := NM_len (ifb1 hw_134 c_135); show z - 0 ≤ 60; omega), (by show 0 ≤ 700; omega)⟩, fun _ => enx1 (fun q => q.elim c_11 c_128) (ifb1 hw_134 c_135) hq_187⟩⟩⟩, hS.F ht⟩) hS.2.2 dX2_take_173
            ·
              refine lv_iconst (v := (-1)) hx hb dX2_take_72 (by decide) ?_
              refine W.widen (k := 0) (n := 0) (by omega) (by omega) ?_
              exact W.iret (v := (-1)) hx hb hr (fun t ht hWm => ⟨⟨(-1), cn, rfl, (Or.inr (Or.inl ⟨hc40, val_nz (fun q => q.elim c_11 c_128) (ifb0 hw_134 c_135), rfl, rfl⟩)), ⟨F, QT.mk ht hP hD hO hR, hFd, ⟨(0, 0, 0, fun _ => 0, 0, fun _ => 0), DIRC.same hDI, fun q => absurd q (by omega)⟩⟩⟩, hS.F ht⟩) hS.2.2 dX2_take_73
      ·
        refine lv_iconst (v := 1) hx hb dX2_take_21 (by decide) ?_
        refine lv_goto (tgt := 26) hx hb dX2_take_22 (by decide) ?_
        refine lv_istore (lv' := [(4, .int 1), (0, .ref h0), (1, .int x1), (2, .int x2), (3, .ref g1)]) hx hb dX2_take_26 hl (by decide) rfl (fun ls hl => ?_)
        refine lv_iload hx hb dX2_take_28 (lv_at hl 0 rfl) ?_
        refine lv_if_eq (tgt := 47) hx hb dX2_take_30 (by decide) (fun c_237 => absurd c_237 (by decide)) (fun c_237 => ?_)
        refine lv_aload_n hx hb dX2_take_33 rfl (lv_at hl 4 rfl) ?_
        refine lv_bipush (v := 32) hx hb dX2_take_34 (by decide) ?_
        refine lv_iconst (v := 0) hx hb dX2_take_36 (by decide) ?_
        refine lv_aload_n hx hb dX2_take_37 rfl (lv_at hl 4 rfl) ?_
        refine pg_getN (ci := 0) (v := .int (nI z)) (C := RX0) (T := TX0) (N := 3) hx hb hts it_0 hown hK hP hL_g1 hFg rfl 1 (by decide) (hE.nest kn_3) (fun _ h9 => h9) rfl dX2_take_38 ?_
        have hFc := pg_free hD hS hA
        refine va_calli (va_runV (As := [.int 32, .int 0, .int (nI z)]) (rest := []) ⟨hx, hb, hml, hown, hts⟩ (s_X0_find_e l dC dI cs ty L s.heap.size F g1 σ r1 n1 z z f 32 hW hL_g1 hT_g1 hFg hFr (by omega) (by omega) (by omega)) ⟨callB_of 3 hts (gi kt_122) rfl rfl rfl (hts _ kt_1) (hts _ kt_547) (by decide +kernel) ⟨Nat.le_of_ble_eq_true rfl, Nat.le_of_ble_eq_true rfl⟩, (hts _ kt_124), (hts _ kt_125)⟩ ⟨fun a U g mk q => ⟨q.1, PT.calling q.2⟩, pg_recv hK hP hL_g1 hFg (q := (RX0, TX0, 3)) rfl, fun U hU hWm => ⟨rfl, PT.mk hU hWm hP hK hD hE hO⟩⟩ rfl rfl hl.1 rfl (lv_room (Nat.le_of_ble_eq_true rfl)) dX2_take_41 ⟨by show _ + 0 ≤ 0; omega, by show _ + 0 ≤ 0; omega⟩) hS (fun q _ h => hFc q h) hFc (fun r_238 u t H1 locs ht hvm hw hB hz1 hk1 hS => ?_)
        obtain ⟨F_239, hB1⟩ := hB
        obtain rfl : F = F_239 := (funext (fun a => hB1.2.2.2 a List.not_mem_nil)).symm
        obtain ⟨hP, hD, hO, hR⟩ := QT.back hB1 ht hFc hR (fun q h => absurd h List.not_mem_nil)
        generalize H1 = H at hP hS ⊢
        have hw : (∃ k : Nat, k ≤ z ∧ r_238 = nI k ∧ (∀ j, j < k → ¬ f j = 32) ∧ (k = z ∨ f k = 32)) := hw
        have hw_240 := hw
        obtain ⟨k_241, h1k_241, h2k_241, h3k_241, h4k_241⟩ := hw_240
        subst h2k_241
        have hfs : FST f 32 z k_241 := ⟨h1k_241, h3k_241, h4k_241⟩
        refine lv_goto (tgt := 51) hx hb dX2_take_44 (by decide) ?_
        refine lv_istore (lv' := [(5, .int (nI k_241)), (4, .int 1), (0, .ref h0), (1, .int x1), (2, .int x2), (3, .ref g1)]) hx hb dX2_take_51 hl (by decide) rfl (fun ls hl => ?_)
        refine lv_iload_n hx hb dX2_take_53 rfl (lv_at hl 3 rfl) ?_
        refine lv_if_lt (tgt := 72) hx hb dX2_take_54 (by decide) (fun c_242 => ?_) (fun c_242 => ?_)
        ·
          refine lv_iconst (v := (-1)) hx hb dX2_take_72 (by decide) ?_
          refine W.widen (k := 0) (n := 0) (by omega) (by omega) ?_
          exact W.iret (v := (-1)) hx hb hr (fun t ht hWm => ⟨⟨(-1), cn, rfl, (Or.inr (Or.inl ⟨hc40, val_n1 c_242, rfl, rfl⟩)), ⟨F, QT.mk ht hP hD hO hR, hFd, ⟨(0, 0, 0, fun _ => 0, 0, fun _ => 0), DIRC.same hDI, fun q => absurd q (by omega)⟩⟩⟩, hS.F ht⟩) hS.2.2 dX2_take_73
        ·
          refine lv_iload_n hx hb dX2_take_57 rfl (lv_at hl 3 rfl) ?_
          refine lv_iconst (v := 4) hx hb dX2_take_58 (by decide) ?_
          refine lv_icmp_gt (tgt := 72) hx hb dX2_take_59 (by decide) (fun c_243 => ?_) (fun c_243 => ?_)
          ·
            refine lv_iconst (v := (-1)) hx hb dX2_take_72 (by decide) ?_
            refine W.widen (k := 0) (n := 0) (by omega) (by omega) ?_
            exact W.iret (v := (-1)) hx hb hr (fun t ht hWm => ⟨⟨(-1), cn, rfl, (Or.inr (Or.inl ⟨hc40, val_n2 c_243, rfl, rfl⟩)), ⟨F, QT.mk ht hP hD hO hR, hFd, ⟨(0, 0, 0, fun _ => 0, 0, fun _ => 0), DIRC.same hDI, fun q => absurd q (by omega)⟩⟩⟩, hS.F ht⟩) hS.2.2 dX2_take_73
          ·
            refine lv_aload_n hx hb dX2_take_62 rfl (lv_at hl 5 rfl) ?_
            refine lv_iconst (v := 0) hx hb dX2_take_63 (by decide) ?_
            refine lv_iload hx hb dX2_take_64 (lv_at hl 0 rfl) ?_
            refine W.eq (g2 := F0 m 66 ls [.int (nI k_241), .int (nI 0), .ref g1]) rfl ?_
            have hFc := pg_free hD hS hA
            refine va_calli (va_runV (As := [.int (nI 0), .int (nI k_241)]) (rest := []) ⟨hx, hb, hml, hown, hts⟩ (s_X0_isName_e l dC dI cs ty L H.size F g1 σ r1 n1 z 0 k_241 f hW hL_g1 hT_g1 hFg hFr (by omega) (by omega) (by omega) (by omega)) ⟨callB_of 2 hts (gi kt_108) rfl rfl rfl (hts _ kt_1) (hts _ kt_109) (by decide +kernel) ⟨Nat.le_of_ble_eq_true rfl, Nat.le_of_ble_eq_true rfl⟩, (hts _ kt_110), (hts _ kt_111)⟩ ⟨fun a U g mk q => ⟨q.1, PT.calling q.2⟩, pg_recv hK hP hL_g1 hFg (q := (RX0, TX0, 3)) rfl, fun U hU hWm => ⟨rfl, PT.mk hU hWm hP hK hD hE hO⟩⟩ rfl rfl hl.1 rfl (lv_room (Nat.le_of_ble_eq_true rfl)) dX2_take_66 ⟨by show _ + 0 ≤ 0; omega, by show _ + 0 ≤ 0; omega⟩) hS (fun q _ h => hFc q h) hFc (fun r_244 u t H1 locs ht hvm hw hB hz1 hk1 hS => ?_)
            obtain ⟨F_245, hB1⟩ := hB
            obtain rfl : F = F_245 := (funext (fun a => hB1.2.2.2 a List.not_mem_nil)).symm
            obtain ⟨hP, hD, hO, hR⟩ := QT.back hB1 ht hFc hR (fun q h => absurd h List.not_mem_nil)
            generalize H1 = H at hP hS ⊢
            have hw : r_244 = (if NM f 0 k_241 = true then 1 else 0) := hw
            have hw_246 := hw
            refine lv_if_ne (tgt := 74) hx hb dX2_take_69 (by decide) (fun c_247 => ?_) (fun c_247 => ?_)
            ·
              refine lv_iload hx hb dX2_take_74 (lv_at hl 1 rfl) ?_
              refine lv_if_eq (tgt := 91) hx hb dX2_take_76 (by decide) (fun c_248 => absurd c_248 (by decide)) (fun c_248 => ?_)
              refine lv_iload_n hx hb dX2_take_79 rfl (lv_at hl 3 rfl) ?_
              refine lv_aload_n hx hb dX2_take_80 rfl (lv_at hl 5 rfl) ?_
              refine lv_iload hx hb dX2_take_81 (lv_at hl 0 rfl) ?_
              have hFc := pg_free hD hS hA
              refine va_calli (va_runS (As := [.int x1, .ref g1, .int (nI k_241)]) (rest := []) ⟨hx, hb, hml, hown, hts⟩ (s_X2_isValue_e l dC dI cs ty L H.size F g1 σ r1 n1 z k_241 f x1 hW hL_g1 hT_g1 hFg hFr (by omega) (by omega) (by omega)) ⟨callB_of 3 hts (gi kt_548) rfl rfl rfl (hts _ kt_103) (hts _ kt_549) (by decide +kernel) ⟨Nat.le_of_ble_eq_true rfl, Nat.le_of_ble_eq_true rfl⟩, (hts _ kt_550)⟩ ⟨fun a U g mk q => ⟨q.1, PT.calling q.2⟩, fun U hU hWm => ⟨rfl, PT.mk hU hWm hP hK hD hE hO⟩⟩ rfl rfl hl.1 rfl (lv_room (Nat.le_of_ble_eq_true rfl)) dX2_take_83 ⟨by show _ + 0 ≤ 0; omega, by show _ + 0 ≤ 0; omega⟩) hS (fun q _ h => hFc q h) hFc (fun r_249 u t H1 locs ht hvm hw hB hz1 hk1 hS => ?_)
              obtain ⟨F_250, hB1⟩ := hB
              obtain rfl : F = F_250 := (funext (fun a => hB1.2.2.2 a List.not_mem_nil)).symm
              obtain ⟨hP, hD, hO, hR⟩ := QT.back hB1 ht hFc hR (fun q h => absurd h List.not_mem_nil)
              generalize H1 = H at hP hS ⊢
              have hw : (r_249 = 1 ∧ ISV x1 f z k_241) ∨ (r_249 = 0 ∧ ¬ ISV x1 f z k_241) := hw
              have hw_251 := hw
              refine lv_if_ne (tgt := 91) hx hb dX2_take_86 (by decide) (fun c_252 => ?_) (fun c_252 => ?_)
              ·
                refine lv_aload_n hx hb dX2_take_91 rfl (lv_at hl 2 rfl) ?_
                refine pg_get (ci := 2) (v := .ref ea) (C := RX2) (T := TX2) (N := 2) hx hb hts it_2 hown hK hP hL_h0 hFd rfl 0 (by decide) (hts _ kt_84) (fun _ h9 => h9) rfl dX2_take_92 ?_
                refine lv_aload_n hx hb dX2_take_95 rfl (lv_at hl 2 rfl) ?_
                refine pg_get (ci := 2) (v := .int (nI cn)) (C := RX2) (T := TX2) (N := 2) hx hb hts it_2 hown hK hP hL_h0 hFd rfl 1 (by decide) (hts _ kt_83) (fun _ h9 => h9) rfl dX2_take_96 ?_
                obtain ⟨b_253, x_254, y_255, hbf_256, hi_257, ht_258⟩ := hq_5 cn (by omega)
                refine pg_aald (r := b_253) hx hb hK hP hi_1 5 hF_4 rfl (vp_in_nI (by omega) (by omega)) (show f_3 ((nI cn) : Int32).toNatClampNeg = _ from by rw [show ((nI cn) : Int32) = nI cn from rfl, nI_clamp (by omega)]; exact hbf_256) dX2_take_99 ?_
                refine lv_astore (lv' := [(6, .ref b_253), (5, .int (nI k_241)), (4, .int 1), (0, .ref h0), (1, .int x1), (2, .int x2), (3, .ref g1)]) hx hb dX2_take_100 hl (by decide) rfl (fun ls hl => ?_)
                refine lv_aload hx hb dX2_take_102 (lv_at hl 0 rfl) ?_
                refine lv_iload_n hx hb dX2_take_104 rfl (lv_at hl 4 rfl) ?_
                obtain ⟨hi_259, hi_260, ⟨r_261, ht_262⟩, ⟨r_263, ht_264⟩⟩ := hW.entry hi_257 ht_258
                have ht_262 : ty x_254 = (0, ρ + cn + cn + cn + 101, [r_261, 60]) := ht_262
                have ht_264 : ty y_255 = (0, ρ + cn + cn + cn + 102, [r_263, 700]) := ht_264
                obtain ⟨v0_265, v1_266, hF_267⟩ := hO.entry hi_257 ht_258
                refine pg_putN (ci := 3) (v := .int x1) (ty := .int) (C := RX3) (T := TX3) (N := 4) hx hb hts it_3 tyX3 tyX3_ok nmX3 hown hK hP hD hS hi_257 hF_267 rfl 2 (by decide) (hE.nest kn_0) (fun _ h9 => h9) rfl (by decide +kernel) (rfl) (rfl) (Nat.le_of_ble_eq_true rfl) dX2_take_105 (fun H locs hP hD hS => ?_)
                obtain ⟨F_268, he_269, hP, hD, hO, hR⟩ : ∃ G, G = va_up F b_253 (.inr (3, [.ref x_254, .ref y_255, .int x1, .int v1_266])) ∧ va_P (dC, dI) vwCl (va_pl L G) H ∧ va_D A (va_pl L G) ∧ OK cs ty L G ∧ FR ty [ρ, ρ + cn + cn + cn + 100, ρ + cn + cn + cn + 101, ρ + cn + cn + cn + 102] F G := ⟨_, rfl, hP, hD, hO.up (sh.entry ht_258 ⟨x1, v1_266, rfl⟩), hR.up ht_258 (by simp)⟩
                have hF_270 : F_268 b_253 = .inr (3, [.ref x_254, .ref y_255, .int x1, .int v1_266]) := by rw [he_269]; exact up_self
                have hF_271 : F_268 h0 = .inr (2, [.ref ea, .int (nI cn)]) := by rw [he_269, up_ne (ne_ty hT_h0 ht_258 (by simp))]; exact hFd
                have hF_272 : F_268 g1 = .inr (0, [.ref r1, .int (nI z), .int 0]) := by rw [he_269, up_ne (ne_ty hT_g1 ht_258 (by simp))]; exact hFg
                have hF_273 : F_268 r1 = .inl (cs 16, n1, .inl f) := by rw [he_269, up_ne (ne_ty ht_7 ht_258 (by simp))]; exact hFr
                have hF_274 : F_268 ea = .inl (cs 21, 40, .inr (.inr (.inr (.inr f_3)))) := by rw [he_269, up_ne (ne_ty ht_2 ht_258 (by simp))]; exact hF_4
                refine lv_aload hx hb dX2_take_108 (lv_at hl 0 rfl) ?_
                refine lv_iload_n hx hb dX2_take_110 rfl (lv_at hl 5 rfl) ?_
                refine pg_putN (ci := 3) (v := .int x2) (ty := .int) (C := RX3) (T := TX3) (N := 4) hx hb hts it_3 tyX3 tyX3_ok nmX3 hown hK hP hD hS hi_257 hF_270 rfl 3 (by decide) (hE.nest kn_2) (fun _ h9 => h9) rfl (by decide +kernel) (rfl) (rfl) (Nat.le_of_ble_eq_true rfl) dX2_take_111 (fun H locs hP hD hS => ?_)
                obtain ⟨F_275, he_276, hP, hD, hO, hR⟩ : ∃ G, G = va_up F_268 b_253 (.inr (3, [.ref x_254, .ref y_255, .int x1, .int x2])) ∧ va_P (dC, dI) vwCl (va_pl L G) H ∧ va_D A (va_pl L G) ∧ OK cs ty L G ∧ FR ty [ρ, ρ + cn + cn + cn + 100, ρ + cn + cn + cn + 101, ρ + cn + cn + cn + 102] F G := ⟨_, rfl, hP, hD, hO.up (sh.entry ht_258 ⟨x1, x2, rfl⟩), hR.up ht_258 (by simp)⟩
                have hF_277 : F_275 b_253 = .inr (3, [.ref x_254, .ref y_255, .int x1, .int x2]) := by rw [he_276]; exact up_self
                have hF_278 : F_275 h0 = .inr (2, [.ref ea, .int (nI cn)]) := by rw [he_276, up_ne (ne_ty hT_h0 ht_258 (by simp))]; exact hF_271
                have hF_279 : F_275 g1 = .inr (0, [.ref r1, .int (nI z), .int 0]) := by rw [he_276, up_ne (ne_ty hT_g1 ht_258 (by simp))]; exact hF_272
                have hF_280 : F_275 r1 = .inl (cs 16, n1, .inl f) := by rw [he_276, up_ne (ne_ty ht_7 ht_258 (by simp))]; exact hF_273
                have hF_281 : F_275 ea = .inl (cs 21, 40, .inr (.inr (.inr (.inr f_3)))) := by rw [he_276, up_ne (ne_ty ht_2 ht_258 (by simp))]; exact hF_274
                refine lv_aload hx hb dX2_take_114 (lv_at hl 0 rfl) ?_
                refine pg_getN (ci := 3) (v := .ref x_254) (C := RX3) (T := TX3) (N := 4) hx hb hts it_3 hown hK hP hi_257 hF_277 rfl 0 (by decide) (hE.nest kn_1) (fun _ h9 => h9) rfl dX2_take_116 ?_
                have hFc := pg_free hD hS hA
                obtain ⟨hi_282, ht_283, hq_284⟩ := hW.bytes hi_259 ht_262
                obtain ⟨z_285, o_286, hF_287, hq_288, hq_289⟩ := hO.bytes hi_259 ht_262
                refine va_callv (va_runV (As := []) (rest := []) ⟨hx, hb, hml, hown, hts⟩ (s_X0_clear l dC dI cs ty L H.size F_275 x_254 (ρ + cn + cn + cn + 101) r_261 60 hW hi_259 ht_262) ⟨callB_of 0 hts (gi kt_32) rfl rfl rfl (hts _ kt_1) (hts _ kt_551) (by decide +kernel) ⟨Nat.le_of_ble_eq_true rfl, Nat.le_of_ble_eq_true rfl⟩, (hts _ kt_34), (hts _ kt_35)⟩ ⟨fun a U g mk q => ⟨q.1, PT.calling q.2⟩, pg_recv hK hP hi_259 hF_287 (q := (RX0, TX0, 3)) rfl, fun U hU hWm => ⟨rfl, PT.mk hU hWm hP hK hD hE hO⟩⟩ rfl rfl hl.1 rfl (lv_room (Nat.le_of_ble_eq_true rfl)) dX2_take_119 ⟨by show _ + 0 ≤ 0; omega, by show _ + 0 ≤ 0; omega⟩) hS (fun q _ h => hFc q h) hFc (fun u t H1 locs ht hvm hw hB hz1 hk1 hS => ?_)
                obtain ⟨F_291, hB1, hq_292⟩ := hB
                obtain ⟨hP, hD, hO, hR⟩ := QT.back hB1 ht hFc hR (fun q h => by simp only [List.mem_cons, List.not_mem_nil, or_false] at h ⊢; omega)
                have hF_293 : F_291 b_253 = .inr (3, [.ref x_254, .ref y_255, .int x1, .int x2]) := (hB1.2.2.2 b_253 (by rw [ht_258]; simp)).trans hF_277
                have hF_294 : F_291 h0 = .inr (2, [.ref ea, .int (nI cn)]) := (hB1.2.2.2 h0 (by rw [hT_h0]; simp only [List.mem_cons, List.not_mem_nil, or_false]; omega)).trans hF_278
                have hF_295 : F_291 g1 = .inr (0, [.ref r1, .int (nI z), .int 0]) := (hB1.2.2.2 g1 (by rw [hT_g1]; simp only [List.mem_cons, List.not_mem_nil, or_false]; omega)).trans hF_279
                have hF_296 : F_291 r1 = .inl (cs 16, n1, .inl f) := (hB1.2.2.2 r1 (by rw [ht_7]; simp only [List.mem_cons, List.not_mem_nil, or_false]; omega)).trans hF_280
                have hF_297 : F_291 ea = .inl (cs 21, 40, .inr (.inr (.inr (.inr f_3)))) := (hB1.2.2.2 ea (by rw [ht_2]; simp only [List.mem_cons, List.not_mem_nil, or_false]; omega)).trans hF_281
                generalize H1 = H at hP hS ⊢
                refine lv_aload hx hb dX2_take_122 (lv_at hl 0 rfl) ?_
                refine pg_getN (ci := 3) (v := .ref x_254) (C := RX3) (T := TX3) (N := 4) hx hb hts it_3 hown hK hP hi_257 hF_293 rfl 0 (by decide) (hE.nest kn_1) (fun _ h9 => h9) rfl dX2_take_124 ?_
                refine lv_aload_n hx hb dX2_take_127 rfl (lv_at hl 6 rfl) ?_
                refine lv_iconst (v := 0) hx hb dX2_take_128 (by decide) ?_
                refine lv_iload hx hb dX2_take_129 (lv_at hl 1 rfl) ?_
                refine W.eq (g2 := F0 m 131 ls [.int (nI k_241), .int (nI 0), .ref g1, .ref x_254]) rfl ?_
                have hFc := pg_free hD hS hA
                refine va_callv (va_runV (As := [.ref g1, .int (nI 0), .int (nI k_241)]) (rest := []) ⟨hx, hb, hml, hown, hts⟩ (s_X0_addRange_e l dC dI cs ty L H.size F_291 x_254 (ρ + cn + cn + cn + 101) r_261 60 g1 σ r1 n1 z 0 k_241 f hW hi_259 ht_262 hL_g1 hT_g1 hq_292 hF_295 hF_296 (by omega) (by omega) (by omega) (Nat.zero_le _) (by omega) (by have h9 := NM_len (ifb1 hw_246 c_247); omega)) ⟨callB_of 3 hts (gi kt_36) rfl rfl rfl (hts _ kt_1) (hts _ kt_552) (by decide +kernel) ⟨Nat.le_of_ble_eq_true rfl, Nat.le_of_ble_eq_true rfl⟩, (hts _ kt_38), (hts _ kt_39)⟩ ⟨fun a U g mk q => ⟨q.1, PT.calling q.2⟩, pg_recv hK hP hi_259 hq_292 (q := (RX0, TX0, 3)) rfl, fun U hU hWm => ⟨rfl, PT.mk hU hWm hP hK hD hE hO⟩⟩ rfl rfl hl.1 rfl (lv_room (Nat.le_of_ble_eq_true rfl)) dX2_take_131 ⟨by show _ + 0 ≤ 0; omega, by show _ + 0 ≤ 0; omega⟩) hS (fun q _ h => hFc q h) hFc (fun u t H1 locs ht hvm hw hB hz1 hk1 hS => ?_)
                obtain ⟨F_299, fc_300, hB1, hq_301, hq_302, hq_303⟩ := hB
                obtain ⟨hP, hD, hO, hR⟩ := QT.back hB1 ht hFc hR (fun q h => by simp only [List.mem_cons, List.not_mem_nil, or_false] at h ⊢; omega)
                have hF_304 : F_299 b_253 = .inr (3, [.ref x_254, .ref y_255, .int x1, .int x2]) := (hB1.2.2.2 b_253 (by rw [ht_258]; simp)).trans hF_293
                have hF_305 : F_299 h0 = .inr (2, [.ref ea, .int (nI cn)]) := (hB1.2.2.2 h0 (by rw [hT_h0]; simp only [List.mem_cons, List.not_mem_nil, or_false]; omega)).trans hF_294
                have hF_306 : F_299 g1 = .inr (0, [.ref r1, .int (nI z), .int 0]) := (hB1.2.2.2 g1 (by rw [hT_g1]; simp only [List.mem_cons, List.not_mem_nil, or_false]; omega)).trans hF_295
                have hF_307 : F_299 r1 = .inl (cs 16, n1, .inl f) := (hB1.2.2.2 r1 (by rw [ht_7]; simp only [List.mem_cons, List.not_mem_nil, or_false]; omega)).trans hF_296
                have hF_308 : F_299 ea = .inl (cs 21, 40, .inr (.inr (.inr (.inr f_3)))) := (hB1.2.2.2 ea (by rw [ht_2]; simp only [List.mem_cons, List.not_mem_nil, or_false]; omega)).trans hF_297
                generalize H1 = H at hP hS ⊢
                refine lv_aload hx hb dX2_take_134 (lv_at hl 0 rfl) ?_
                refine pg_getN (ci := 3) (v := .ref y_255) (C := RX3) (T := TX3) (N := 4) hx hb hts it_3 hown hK hP hi_257 hF_304 rfl 1 (by decide) (hE.nest kn_4) (fun _ h9 => h9) rfl dX2_take_136 ?_
                have hFc := pg_free hD hS hA
                obtain ⟨hi_309, ht_310, hq_311⟩ := hW.bytes hi_260 ht_264
                obtain ⟨z_312, o_313, hF_314, hq_315, hq_316⟩ := hO.bytes hi_260 ht_264
                refine va_callv (va_runV (As := []) (rest := []) ⟨hx, hb, hml, hown, hts⟩ (s_X0_clear l dC dI cs ty L H.size F_299 y_255 (ρ + cn + cn + cn + 102) r_263 700 hW hi_260 ht_264) ⟨callB_of 0 hts (gi kt_32) rfl rfl rfl (hts _ kt_1) (hts _ kt_551) (by decide +kernel) ⟨Nat.le_of_ble_eq_true rfl, Nat.le_of_ble_eq_true rfl⟩, (hts _ kt_34), (hts _ kt_35)⟩ ⟨fun a U g mk q => ⟨q.1, PT.calling q.2⟩, pg_recv hK hP hi_260 hF_314 (q := (RX0, TX0, 3)) rfl, fun U hU hWm => ⟨rfl, PT.mk hU hWm hP hK hD hE hO⟩⟩ rfl rfl hl.1 rfl (lv_room (Nat.le_of_ble_eq_true rfl)) dX2_take_139 ⟨by show _ + 0 ≤ 0; omega, by show _ + 0 ≤ 0; omega⟩) hS (fun q _ h => hFc q h) hFc (fun u t H1 locs ht hvm hw hB hz1 hk1 hS => ?_)
                obtain ⟨F_318, hB1, hq_319⟩ := hB
                obtain ⟨hP, hD, hO, hR⟩ := QT.back hB1 ht hFc hR (fun q h => by simp only [List.mem_cons, List.not_mem_nil, or_false] at h ⊢; omega)
                have hF_320 : F_318 b_253 = .inr (3, [.ref x_254, .ref y_255, .int x1, .int x2]) := (hB1.2.2.2 b_253 (by rw [ht_258]; simp)).trans hF_304
                have hF_321 : F_318 h0 = .inr (2, [.ref ea, .int (nI cn)]) := (hB1.2.2.2 h0 (by rw [hT_h0]; simp only [List.mem_cons, List.not_mem_nil, or_false]; omega)).trans hF_305
                have hF_322 : F_318 g1 = .inr (0, [.ref r1, .int (nI z), .int 0]) := (hB1.2.2.2 g1 (by rw [hT_g1]; simp only [List.mem_cons, List.not_mem_nil, or_false]; omega)).trans hF_306
                have hF_323 : F_318 r1 = .inl (cs 16, n1, .inl f) := (hB1.2.2.2 r1 (by rw [ht_7]; simp only [List.mem_cons, List.not_mem_nil, or_false]; omega)).trans hF_307
                have hF_324 : F_318 ea = .inl (cs 21, 40, .inr (.inr (.inr (.inr f_3)))) := (hB1.2.2.2 ea (by rw [ht_2]; simp only [List.mem_cons, List.not_mem_nil, or_false]; omega)).trans hF_308
                have hF_325 : F_318 x_254 = .inr (0, [.ref r_261, .int (nI (k_241 - 0)), .int 0]) := (hB1.2.2.2 x_254 (by rw [ht_262]; simp)).trans hq_301
                have hF_326 : F_318 r_261 = .inl (cs 16, 60, .inl fc_300) := (hB1.2.2.2 r_261 (by rw [ht_283]; simp)).trans hq_302
                generalize H1 = H at hP hS ⊢
                refine lv_aload hx hb dX2_take_142 (lv_at hl 0 rfl) ?_
                refine pg_getN (ci := 3) (v := .ref y_255) (C := RX3) (T := TX3) (N := 4) hx hb hts it_3 hown hK hP hi_257 hF_320 rfl 1 (by decide) (hE.nest kn_4) (fun _ h9 => h9) rfl dX2_take_144 ?_
                refine lv_aload_n hx hb dX2_take_147 rfl (lv_at hl 6 rfl) ?_
                refine lv_iload hx hb dX2_take_148 (lv_at hl 1 rfl) ?_
                refine lv_iconst (v := 1) hx hb dX2_take_150 (by decide) ?_
                refine lv_iadd hx hb dX2_take_151 ?_
                refine lv_topi (fun x_327 ex_327 => ?_)
                obtain rfl : x_327 = (nI (k_241 + 1)) := ex_327.trans (nI_1 _)
                refine lv_aload_n hx hb dX2_take_152 rfl (lv_at hl 6 rfl) ?_
                refine pg_getN (ci := 0) (v := .int (nI z)) (C := RX0) (T := TX0) (N := 3) hx hb hts it_0 hown hK hP hL_g1 hF_322 rfl 1 (by decide) (hE.nest kn_3) (fun _ h9 => h9) rfl dX2_take_153 ?_
                have hFc := pg_free hD hS hA
                refine va_callv (va_runV (As := [.ref g1, .int (nI (k_241 + 1)), .int (nI z)]) (rest := []) ⟨hx, hb, hml, hown, hts⟩ (s_X0_addRange_e l dC dI cs ty L H.size F_318 y_255 (ρ + cn + cn + cn + 102) r_263 700 g1 σ r1 n1 z (k_241 + 1) z f hW hi_260 ht_264 hL_g1 hT_g1 hq_319 hF_322 hF_323 (by omega) (by omega) (by omega) (by have h9 := hfs.1; have h8 := (isv1 hw_251 c_252).1; omega) (Nat.le_refl _) (by have h9 := isv_len hfs (isv1 hw_251 c_252); omega)) ⟨callB_of 3 hts (gi kt_36) rfl rfl rfl (hts _ kt_1) (hts _ kt_552) (by decide +kernel) ⟨Nat.le_of_ble_eq_true rfl, Nat.le_of_ble_eq_true rfl⟩, (hts _ kt_38), (hts _ kt_39)⟩ ⟨fun a U g mk q => ⟨q.1, PT.calling q.2⟩, pg_recv hK hP hi_260 hq_319 (q := (RX0, TX0, 3)) rfl, fun U hU hWm => ⟨rfl, PT.mk hU hWm hP hK hD hE hO⟩⟩ rfl rfl hl.1 rfl (lv_room (Nat.le_of_ble_eq_true rfl)) dX2_take_156 ⟨by show _ + 0 ≤ 0; omega, by show _ + 0 ≤ 0; omega⟩) hS (fun q _ h => hFc q h) hFc (fun u t H1 locs ht hvm hw hB hz1 hk1 hS => ?_)
                obtain ⟨F_329, fc_330, hB1, hq_331, hq_332, hq_333⟩ := hB
                obtain ⟨hP, hD, hO, hR⟩ := QT.back hB1 ht hFc hR (fun q h => by simp only [List.mem_cons, List.not_mem_nil, or_false] at h ⊢; omega)
                have hF_334 : F_329 b_253 = .inr (3, [.ref x_254, .ref y_255, .int x1, .int x2]) := (hB1.2.2.2 b_253 (by rw [ht_258]; simp)).trans hF_320
                have hF_335 : F_329 h0 = .inr (2, [.ref ea, .int (nI cn)]) := (hB1.2.2.2 h0 (by rw [hT_h0]; simp only [List.mem_cons, List.not_mem_nil, or_false]; omega)).trans hF_321
                have hF_336 : F_329 g1 = .inr (0, [.ref r1, .int (nI z), .int 0]) := (hB1.2.2.2 g1 (by rw [hT_g1]; simp only [List.mem_cons, List.not_mem_nil, or_false]; omega)).trans hF_322
                have hF_337 : F_329 r1 = .inl (cs 16, n1, .inl f) := (hB1.2.2.2 r1 (by rw [ht_7]; simp only [List.mem_cons, List.not_mem_nil, or_false]; omega)).trans hF_323
                have hF_338 : F_329 ea = .inl (cs 21, 40, .inr (.inr (.inr (.inr f_3)))) := (hB1.2.2.2 ea (by rw [ht_2]; simp only [List.mem_cons, List.not_mem_nil, or_false]; omega)).trans hF_324
                have hF_339 : F_329 x_254 = .inr (0, [.ref r_261, .int (nI (k_241 - 0)), .int 0]) := (hB1.2.2.2 x_254 (by rw [ht_262]; simp)).trans hF_325
                have hF_340 : F_329 r_261 = .inl (cs 16, 60, .inl fc_300) := (hB1.2.2.2 r_261 (by rw [ht_283]; simp)).trans hF_326
                generalize H1 = H at hP hS ⊢
                refine lv_aload_n hx hb dX2_take_159 rfl (lv_at hl 3 rfl) ?_
                refine lv_dup hx hb dX2_take_160 rfl ?_
                refine pg_get (ci := 2) (v := .int (nI cn)) (C := RX2) (T := TX2) (N := 2) hx hb hts it_2 hown hK hP hL_h0 hF_335 rfl 1 (by decide) (hts _ kt_83) (fun _ h9 => h9) rfl dX2_take_161 ?_
                refine lv_iconst (v := 1) hx hb dX2_take_164 (by decide) ?_
                refine lv_iadd hx hb dX2_take_165 ?_
                refine lv_topi (fun x_341 ex_341 => ?_)
                obtain rfl : x_341 = (nI (cn + 1)) := ex_341.trans (nI_1 cn)
                refine pg_put (ci := 2) (v := .int (nI (cn + 1))) (ty := .int) (C := RX2) (T := TX2) (N := 2) hx hb hts it_2 tyX2 tyX2_ok nmX2 hown hK hP hD hS hL_h0 hF_335 rfl 1 (by decide) (hts _ kt_83) (fun _ h9 => h9) rfl (by decide +kernel) (rfl) (rfl) (Nat.le_of_ble_eq_true rfl) dX2_take_166 (fun H locs hP hD hS => ?_)
                obtain ⟨F_342, he_343, hP, hD, hO, hR⟩ : ∃ G, G = va_up F_329 h0 (.inr (2, [.ref ea, .int (nI (cn + 1))])) ∧ va_P (dC, dI) vwCl (va_pl L G) H ∧ va_D A (va_pl L G) ∧ OK cs ty L G ∧ FR ty [ρ, ρ + cn + cn + cn + 100, ρ + cn + cn + cn + 101, ρ + cn + cn + cn + 102] F G := ⟨_, rfl, hP, hD, hO.up (sh.dir hT_h0 ⟨(cn + 1), rfl, (by first | omega | assumption | exact Or.inl rfl | exact Or.inr rfl)⟩), hR.up hT_h0 (by simp)⟩
                have hF_344 : F_342 h0 = .inr (2, [.ref ea, .int (nI (cn + 1))]) := by rw [he_343]; exact up_self
                have hF_345 : F_342 b_253 = .inr (3, [.ref x_254, .ref y_255, .int x1, .int x2]) := by rw [he_343, up_ne (ne_ty ht_258 hT_h0 (by simp))]; exact hF_334
                have hF_346 : F_342 g1 = .inr (0, [.ref r1, .int (nI z), .int 0]) := by rw [he_343, up_ne (ne_ty hT_g1 hT_h0 (by simp))]; exact hF_336
                have hF_347 : F_342 r1 = .inl (cs 16, n1, .inl f) := by rw [he_343, up_ne (ne_ty ht_7 hT_h0 (by simp))]; exact hF_337
                have hF_348 : F_342 ea = .inl (cs 21, 40, .inr (.inr (.inr (.inr f_3)))) := by rw [he_343, up_ne (ne_ty ht_2 hT_h0 (by simp))]; exact hF_338
                have hF_349 : F_342 x_254 = .inr (0, [.ref r_261, .int (nI (k_241 - 0)), .int 0]) := by rw [he_343, up_ne (ne_ty ht_262 hT_h0 (by simp))]; exact hF_339
                have hF_350 : F_342 r_261 = .inl (cs 16, 60, .inl fc_300) := by rw [he_343, up_ne (ne_ty ht_283 hT_h0 (by simp))]; exact hF_340
                have hF_351 : F_342 y_255 = .inr (0, [.ref r_263, .int (nI (z - (k_241 + 1))), .int 0]) := by rw [he_343, up_ne (ne_ty ht_264 hT_h0 (by simp))]; exact hq_331
                have hF_352 : F_342 r_263 = .inl (cs 16, 700, .inl fc_330) := by rw [he_343, up_ne (ne_ty ht_310 hT_h0 (by simp))]; exact hq_332
                refine lv_aload_n hx hb dX2_take_169 rfl (lv_at hl 3 rfl) ?_
                refine pg_get (ci := 2) (v := .int (nI (cn + 1))) (C := RX2) (T := TX2) (N := 2) hx hb hts it_2 hown hK hP hL_h0 hF_344 rfl 1 (by decide) (hts _ kt_83) (fun _ h9 => h9) rfl dX2_take_170 ?_
                refine W.widen (k := 0) (n := 0) (by omega) (by omega) ?_
                exact W.iret (v := (nI (cn + 1))) hx hb hr (fun t ht hWm => ⟨⟨(nI (cn + 1)), (cn + 1), rfl, (Or.inr (Or.inr ⟨hc40, val_y2 c_242 c_243 (Or.inr c_128) hfs (ifb1 hw_246 c_247) (isv1 hw_251 c_252), rfl, rfl⟩)), ⟨F_342, QT.mk ht hP hD hO hR, hF_344, ⟨(x1, x2, k_241 - 0, fc_300, z - (k_241 + 1), fc_330), DIRC.add (DIRC.fr hDI hO0 hW hi_1 ht_2 (by omega) hR (hF_348.trans hF_4.symm) (fun k hk => by simp only [List.mem_cons, List.not_mem_nil, or_false]; omega)) hF_348 hbf_256 ⟨x_254, y_255, r_261, r_263, hF_345, hF_349, hF_350, hF_351, hF_352, (by have h9 := NM_len (ifb1 hw_246 c_247); show k_241 - 0 ≤ 60; omega), (by have h9 := isv_len hfs (isv1 hw_251 c_252); show z - (k_241 + 1) ≤ 700; omega)⟩, fun _ => enx2 (Or.inr c_128) hfs (ifb1 hw_246 c_247) (isv1 hw_251 c_252) hq_303 hq_333⟩⟩⟩, hS.F ht⟩) hS.2.2 dX2_take_173
              ·
                refine lv_iconst (v := (-1)) hx hb dX2_take_89 (by decide) ?_
                refine W.widen (k := 0) (n := 0) (by omega) (by omega) ?_
                exact W.iret (v := (-1)) hx hb hr (fun t ht hWm => ⟨⟨(-1), cn, rfl, (Or.inr (Or.inl ⟨hc40, val_nv (Or.inr c_128) hfs (isv0 hw_251 c_252), rfl, rfl⟩)), ⟨F, QT.mk ht hP hD hO hR, hFd, ⟨(0, 0, 0, fun _ => 0, 0, fun _ => 0), DIRC.same hDI, fun q => absurd q (by omega)⟩⟩⟩, hS.F ht⟩) hS.2.2 dX2_take_90
            ·
              refine lv_iconst (v := (-1)) hx hb dX2_take_72 (by decide) ?_
              refine W.widen (k := 0) (n := 0) (by omega) (by omega) ?_
              exact W.iret (v := (-1)) hx hb hr (fun t ht hWm => ⟨⟨(-1), cn, rfl, (Or.inr (Or.inl ⟨hc40, val_nn (Or.inr c_128) hfs (ifb0 hw_246 c_247), rfl, rfl⟩)), ⟨F, QT.mk ht hP hD hO hR, hFd, ⟨(0, 0, 0, fun _ => 0, 0, fun _ => 0), DIRC.same hDI, fun q => absurd q (by omega)⟩⟩⟩, hS.F ht⟩) hS.2.2 dX2_take_73
  ·
    have hc40 : cn = 40 := (nI_eq (b := 40) (by omega) (by omega)).mp c_9
    refine lv_bipush (v := (-3)) hx hb dX2_take_9 (by decide) ?_
    refine W.widen (k := 0) (n := 0) (by omega) (by omega) ?_
    exact W.iret (v := (-3)) hx hb hr (fun t ht hWm => ⟨⟨(-3), cn, rfl, (Or.inl ⟨hc40, rfl, rfl⟩), ⟨F, QT.mk ht hP hD hO hR, hFd, ⟨(0, 0, 0, fun _ => 0, 0, fun _ => 0), DIRC.same hDI, fun q => absurd q (by omega)⟩⟩⟩, hS.F ht⟩) hS.2.2 dX2_take_11
theorem ent_le {cn c2 z : Nat} {x r : Int32} {f : Nat → Int32} (h : ENT cn c2 x f z r) (hc : cn ≤ 40) : c2 ≤ 40 := by
  rcases h with ⟨a1, a2, -⟩ | ⟨a1, -, a2, -⟩ | ⟨a1, -, a2, -⟩ <;> omega
set_option maxHeartbeats 4000000 in
set_option maxRecDepth 100000 in
theorem s_X11_entry_d (l : Launch) (dC : Nat → ClassId) (dI : Nat → Nat → Nat) (cs : Nat → ClassId) (ty : TyM) (L : List Nat) (sz : Nat) (F : Nat → va_E) (h0 : Nat) (ρ : Nat) (ta : Nat) (ou : Nat) (di : Nat) (ea : Nat) (ck : Nat) (sl : Nat) (po : Nat) (hs : Nat) (zt : Nat) (rt : Nat) (cn : Nat) (f : Nat → Int32) (D : Nat → ETY) (x1 : Int32) (x2 : Int32) (hW : WT ty L) (hL_h0 : h0 ∈ L) (hT_h0 : ty h0 = (11, ρ, [ta, ou, di, ea, ck, sl, po, hs])) (hL_ta : ta ∈ L) (hT_ta : ty ta = (0, ρ + 1, [rt, 3000])) (hFt : F ta = .inr (0, [.ref rt, .int (nI zt), .int 0])) (hFr : F rt = .inl (cs 16, 3000, .inl f)) (hzt : zt ≤ 3000) (hFd : F di = .inr (2, [.ref ea, .int (nI cn)])) (hcn : cn ≤ 40) (hDI : DIRC cs F ea cn D) : Met l yX11_entry (.code yX11_entry cX11_entry 4 (some .int) :: tb) ({ frames := 4, cells := 0, slots := 0, locals := 100 }) (va_Pc [.ref h0, .int x1, .int x2] (PT (dC, dI) cs ty L F sz)) (va_Qi (fun (r : Int32) (c2 : Nat) => ENT cn c2 x1 f zt r) (fun (c2 : Nat) T9 => ∃ F2 : Nat → va_E, QT (dC, dI) cs ty L [ρ + 1, ρ + 3, ρ + 3 + cn + cn + cn + 100, ρ + 3 + cn + cn + cn + 101, ρ + 3 + cn + cn + cn + 102] F F2 (va_A (va_pl L F) sz) T9 ∧ F2 ta = .inr (0, [.ref rt, .int (nI 0), .int 0]) ∧ F2 di = .inr (2, [.ref ea, .int (nI c2)]) ∧ (∃ d : ETY, DIRC cs F2 ea c2 (fun k => if k = cn then d else D k) ∧ (c2 = cn + 1 → ENX x1 x2 f zt d))) (va_A (va_pl L F) sz)) 0 0 (va_A (va_pl L F) sz) := by
  refine Met.ofW (cc := cX11_entry) (maxL := 4) (ret := (some .int)) (by decide) rfl ?_
  intro p e s m args below meth c s₁ B hml hv
  obtain ⟨rfl, hsz, hP, hK, hD0, hE, hO⟩ := hv
  have hx := B.exec
  have hb := B.bytes
  have hr := B.returns
  have hts : ∀ w ∈ tb, w.before _ s = true := fun w h => atoms_spec (ws := .code yX11_entry cX11_entry 4 (some .int) :: tb) B.pre w (List.mem_cons_of_mem _ h)
  have hown : s.vm.findClass RX11 = some m.cls := findClass_of_methodNamed B.named
  have hlocks := B.notSynchronized
  subst hsz
  have hD := hD0.self (sz := s.heap.size)
  generalize hAe : va_A (va_pl L F) s.heap.size = A at hD ⊢
  have hA : ∀ q : Nat, s.heap.size ≤ q → A q := fun q h => by rw [← hAe]; exact Or.inr h
  have hS : va_S A s.heap s.heap [] := va_S.rf
  have hR : FR ty [ρ + 1, ρ + 3, ρ + 3 + cn + cn + cn + 100, ρ + 3 + cn + cn + cn + 101, ρ + 3 + cn + cn + cn + 102] F F := FR.refl
  have hl := lv_entry ([.ref h0, .int x1, .int x2]) (n := 4) (Nat.le_of_ble_eq_true rfl)
  rw [lg_entry_eq]
  generalize (lg_sl ([.ref h0, .int x1, .int x2]) ++ List.replicate (4 - (lg_sl ([.ref h0, .int x1, .int x2])).length) Slot.unset).toArray = ls at hl ⊢
  have hl : lv_has ls 4 [(0, .ref h0), (1, .int x1), (2, .int x2)] := hl
  obtain ⟨_, _, hi_1, ⟨r_2, ht_3⟩, hi_4, ht_5, hi_6, ⟨w0_7, w1_8, w2_9, w3_10, nm_11, te_12, ht_13⟩, hi_14, ⟨l1_15, lx_16, ly0_17, ly1_18, ly2_19, k1_20, kx_21, ky0_22, ky1_23, ky2_24, w0_25, w1_26, w2_27, w3_28, w4_29, w5_30, w6_31, w7_32, w8_33, tk_34, h1_35, hx_36, hy_37, hw_38, pw_39, px_40, py_41, pz_42, pu_43, ht_44⟩, hi_45, ⟨w0_46, w1_47, rc_48, rx_49, ry0_50, ry1_51, ry2_52, ht_53⟩, hi_54, ⟨hx_55, hy_56, hw_57, ht_58⟩⟩ := hW.gate hL_h0 hT_h0
  obtain ⟨hi_59, ht_60⟩ := hW.dir hi_4 ht_5
  refine lv_aload_n hx hb dX11_entry_0 rfl (lv_at hl 0 rfl) ?_
  obtain ⟨le_61, sp_62, μ_63, ν_64, hF_65, hq_66, hq_67, hq_68, hq_69, hq_70, hq_71⟩ := hO.gate hL_h0 hT_h0
  obtain ⟨x_72, y0_73, y1_74, y2_75, ht_76⟩ := id hq_67
  obtain ⟨x_77, y0_78, y1_79, y2_80, ht_81⟩ := id hq_69
  refine pg_get (ci := 11) (v := .ref di) (C := RX11) (T := TX11) (N := 9) hx hb hts it_11 hown hK hP hL_h0 hF_65 rfl 2 (by decide) (hts _ kt_512) (fun _ h9 => h9) rfl dX11_entry_1 ?_
  refine lv_iload_n hx hb dX11_entry_4 rfl (lv_at hl 1 rfl) ?_
  refine lv_iload_n hx hb dX11_entry_5 rfl (lv_at hl 2 rfl) ?_
  refine lv_aload_n hx hb dX11_entry_6 rfl (lv_at hl 0 rfl) ?_
  refine pg_get (ci := 11) (v := .ref ta) (C := RX11) (T := TX11) (N := 9) hx hb hts it_11 hown hK hP hL_h0 hF_65 rfl 0 (by decide) (hts _ kt_509) (fun _ h9 => h9) rfl dX11_entry_7 ?_
  obtain ⟨hi_82, ht_83, hq_84⟩ := hW.bytes hL_ta hT_ta
  have hFc := pg_free hD hS hA
  refine va_calli (va_runV (As := [.int x1, .int x2, .ref ta]) (rest := []) ⟨hx, hb, hml, hown, hts⟩ (s_X2_take_d l dC dI cs ty L s.heap.size F di (ρ + 3) ea ta (ρ + 1) rt 3000 zt cn f D x1 x2 hW hi_4 ht_5 hL_ta hT_ta hFd (by omega) hFt hFr (by omega) (by omega) (by omega) (hDI)) ⟨callB_of 3 hts (gi kt_553) rfl rfl rfl (hts _ kt_103) (hts _ kt_554) (by decide +kernel) ⟨Nat.le_of_ble_eq_true rfl, Nat.le_of_ble_eq_true rfl⟩, (hts _ kt_555), (hts _ kt_556)⟩ ⟨fun a U g mk q => ⟨q.1, PT.calling q.2⟩, pg_recv hK hP hi_4 hFd (q := (RX2, TX2, 2)) rfl, fun U hU hWm => ⟨rfl, PT.mk hU hWm hP hK hD hE hO⟩⟩ rfl rfl hl.1 rfl (lv_room (Nat.le_of_ble_eq_true rfl)) dX11_entry_10 ⟨by show _ + 0 ≤ 0; omega, by show _ + 0 ≤ 0; omega⟩) hS (fun q _ h => hFc q h) hFc (fun r_86 c2_85 t H1 locs ht hvm hw hB hz1 hk1 hS => ?_)
  obtain ⟨F_87, hB1, hq_88, hq_89⟩ := hB
  obtain ⟨hP, hD, hO, hR⟩ := QT.back hB1 ht hFc hR (fun q h => by simp only [List.mem_cons, List.not_mem_nil, or_false] at h ⊢; omega)
  have hF_90 : F_87 ta = .inr (0, [.ref rt, .int (nI zt), .int 0]) := (hB1.2.2.2 ta (by rw [hT_ta]; simp only [List.mem_cons, List.not_mem_nil, or_false]; omega)).trans hFt
  have hF_91 : F_87 rt = .inl (cs 16, 3000, .inl f) := (hB1.2.2.2 rt (by rw [ht_83]; simp only [List.mem_cons, List.not_mem_nil, or_false]; omega)).trans hFr
  have hF_92 : F_87 h0 = .inr (11, [.ref ta, .ref ou, .ref di, .ref ck, .ref sl, .ref po, .ref hs, .ref le_61, .ref sp_62]) := (hB1.2.2.2 h0 (by rw [hT_h0]; simp only [List.mem_cons, List.not_mem_nil, or_false]; omega)).trans hF_65
  generalize H1 = H at hP hS ⊢
  have hw : ENT cn c2_85 x1 f zt r_86 := hw
  have hw_93 := hw
  obtain ⟨d9, hd1, hd2⟩ := hq_89
  have hO5 := hO
  have hc5 : c2_85 ≤ 40 := ent_le hw_93 hcn
  refine lv_istore_n (lv' := [(3, .int r_86), (0, .ref h0), (1, .int x1), (2, .int x2)]) hx hb dX11_entry_13 rfl hl (by decide) rfl (fun ls hl => ?_)
  refine lv_aload_n hx hb dX11_entry_14 rfl (lv_at hl 1 rfl) ?_
  refine pg_get (ci := 11) (v := .ref ta) (C := RX11) (T := TX11) (N := 9) hx hb hts it_11 hown hK hP hL_h0 hF_92 rfl 0 (by decide) (hts _ kt_509) (fun _ h9 => h9) rfl dX11_entry_15 ?_
  have hFc := pg_free hD hS hA
  refine va_callv (va_runV (As := []) (rest := []) ⟨hx, hb, hml, hown, hts⟩ (s_X0_clear l dC dI cs ty L H.size F_87 ta (ρ + 1) rt 3000 hW hL_ta hT_ta) ⟨callB_of 0 hts (gi kt_32) rfl rfl rfl (hts _ kt_1) (hts _ kt_527) (by decide +kernel) ⟨Nat.le_of_ble_eq_true rfl, Nat.le_of_ble_eq_true rfl⟩, (hts _ kt_34), (hts _ kt_35)⟩ ⟨fun a U g mk q => ⟨q.1, PT.calling q.2⟩, pg_recv hK hP hL_ta hF_90 (q := (RX0, TX0, 3)) rfl, fun U hU hWm => ⟨rfl, PT.mk hU hWm hP hK hD hE hO⟩⟩ rfl rfl hl.1 rfl (lv_room (Nat.le_of_ble_eq_true rfl)) dX11_entry_18 ⟨by show _ + 0 ≤ 0; omega, by show _ + 0 ≤ 0; omega⟩) hS (fun q _ h => hFc q h) hFc (fun u t H1 locs ht hvm hw hB hz1 hk1 hS => ?_)
  obtain ⟨F_95, hB1, hq_96⟩ := hB
  obtain ⟨hP, hD, hO, hR⟩ := QT.back hB1 ht hFc hR (fun q h => by simp only [List.mem_cons, List.not_mem_nil, or_false] at h ⊢; omega)
  have hF_97 : F_95 h0 = .inr (11, [.ref ta, .ref ou, .ref di, .ref ck, .ref sl, .ref po, .ref hs, .ref le_61, .ref sp_62]) := (hB1.2.2.2 h0 (by rw [hT_h0]; simp)).trans hF_92
  have hF_98 : F_95 di = .inr (2, [.ref ea, .int (nI c2_85)]) := (hB1.2.2.2 di (by rw [ht_5]; simp)).trans hq_88
  generalize H1 = H at hP hS ⊢
  have hd1 := DIRC.fr hd1 hO5 hW hi_59 ht_60 hc5 hB1.2.2.2 (hB1.2.2.2 _ (by rw [ht_60]; simp)) (fun k hk => by simp only [List.mem_cons, List.not_mem_nil, or_false]; omega)
  refine lv_iload_n hx hb dX11_entry_21 rfl (lv_at hl 0 rfl) ?_
  refine W.widen (k := 0) (n := 0) (by omega) (by omega) ?_
  exact W.iret (v := r_86) hx hb hr (fun t ht hWm => ⟨⟨r_86, c2_85, rfl, hw_93, ⟨F_95, QT.mk ht hP hD hO hR, hq_96, hF_98, ⟨d9, hd1, hd2⟩⟩⟩, hS.F ht⟩) hS.2.2 dX11_entry_22
