theorem dX15_entry_0 : decode cX15_entry 0 = .ok (.aload_n 0, 1) := by decide +kernel
theorem dX15_entry_1 : decode cX15_entry 1 = .ok (.invokevirtual 174, 3) := by decide +kernel
theorem dX15_entry_4 : decode cX15_entry 4 = .ok (.istore_n 3, 1) := by decide +kernel
theorem dX15_entry_5 : decode cX15_entry 5 = .ok (.iconst 0, 1) := by decide +kernel
theorem dX15_entry_6 : decode cX15_entry 6 = .ok (.istore 4, 2) := by decide +kernel
theorem dX15_entry_8 : decode cX15_entry 8 = .ok (.aload_n 0, 1) := by decide +kernel
theorem dX15_entry_9 : decode cX15_entry 9 = .ok (.getfield 177, 3) := by decide +kernel
theorem dX15_entry_12 : decode cX15_entry 12 = .ok (.bipush 40, 2) := by decide +kernel
theorem dX15_entry_14 : decode cX15_entry 14 = .ok (.if_icmp .ne 6, 3) := by decide +kernel
theorem dX15_entry_17 : decode cX15_entry 17 = .ok (.bipush (-3), 2) := by decide +kernel
theorem dX15_entry_19 : decode cX15_entry 19 = .ok (.ireturn, 1) := by decide +kernel
theorem dX15_entry_20 : decode cX15_entry 20 = .ok (.iload_n 1, 1) := by decide +kernel
theorem dX15_entry_21 : decode cX15_entry 21 = .ok (.i2l, 1) := by decide +kernel
theorem dX15_entry_22 : decode cX15_entry 22 = .ok (.lconst 0, 1) := by decide +kernel
theorem dX15_entry_23 : decode cX15_entry 23 = .ok (.ldc2_w 180, 3) := by decide +kernel
theorem dX15_entry_26 : decode cX15_entry 26 = .ok (.invokestatic 170, 3) := by decide +kernel
theorem dX15_entry_29 : decode cX15_entry 29 = .ok (.ifCond .ne 5, 3) := by decide +kernel
theorem dX15_entry_32 : decode cX15_entry 32 = .ok (.iconst (-1), 1) := by decide +kernel
theorem dX15_entry_33 : decode cX15_entry 33 = .ok (.ireturn, 1) := by decide +kernel
theorem dX15_entry_34 : decode cX15_entry 34 = .ok (.iload_n 1, 1) := by decide +kernel
theorem dX15_entry_35 : decode cX15_entry 35 = .ok (.ifCond .eq 8, 3) := by decide +kernel
theorem dX15_entry_38 : decode cX15_entry 38 = .ok (.iload_n 1, 1) := by decide +kernel
theorem dX15_entry_39 : decode cX15_entry 39 = .ok (.iconst 2, 1) := by decide +kernel
theorem dX15_entry_40 : decode cX15_entry 40 = .ok (.if_icmp .ne 7, 3) := by decide +kernel
theorem dX15_entry_43 : decode cX15_entry 43 = .ok (.iconst 1, 1) := by decide +kernel
theorem dX15_entry_44 : decode cX15_entry 44 = .ok (.goto 4, 3) := by decide +kernel
theorem dX15_entry_47 : decode cX15_entry 47 = .ok (.iconst 0, 1) := by decide +kernel
theorem dX15_entry_48 : decode cX15_entry 48 = .ok (.istore 5, 2) := by decide +kernel
theorem dX15_entry_50 : decode cX15_entry 50 = .ok (.iload 5, 2) := by decide +kernel
theorem dX15_entry_52 : decode cX15_entry 52 = .ok (.ifCond .eq 27, 3) := by decide +kernel
theorem dX15_entry_55 : decode cX15_entry 55 = .ok (.iload 4, 2) := by decide +kernel
theorem dX15_entry_57 : decode cX15_entry 57 = .ok (.iload_n 3, 1) := by decide +kernel
theorem dX15_entry_58 : decode cX15_entry 58 = .ok (.if_icmp .ge 21, 3) := by decide +kernel
theorem dX15_entry_61 : decode cX15_entry 61 = .ok (.aload_n 0, 1) := by decide +kernel
theorem dX15_entry_62 : decode cX15_entry 62 = .ok (.getfield 31, 3) := by decide +kernel
theorem dX15_entry_65 : decode cX15_entry 65 = .ok (.iload 4, 2) := by decide +kernel
theorem dX15_entry_67 : decode cX15_entry 67 = .ok (.baload, 1) := by decide +kernel
theorem dX15_entry_68 : decode cX15_entry 68 = .ok (.bipush 32, 2) := by decide +kernel
theorem dX15_entry_70 : decode cX15_entry 70 = .ok (.if_icmp .eq 9, 3) := by decide +kernel
theorem dX15_entry_73 : decode cX15_entry 73 = .ok (.iinc 4 1, 3) := by decide +kernel
theorem dX15_entry_76 : decode cX15_entry 76 = .ok (.goto (-26), 3) := by decide +kernel
theorem dX15_entry_79 : decode cX15_entry 79 = .ok (.iload 5, 2) := by decide +kernel
theorem dX15_entry_81 : decode cX15_entry 81 = .ok (.ifCond .eq 8, 3) := by decide +kernel
theorem dX15_entry_84 : decode cX15_entry 84 = .ok (.iload 4, 2) := by decide +kernel
theorem dX15_entry_86 : decode cX15_entry 86 = .ok (.goto 4, 3) := by decide +kernel
theorem dX15_entry_89 : decode cX15_entry 89 = .ok (.iload_n 3, 1) := by decide +kernel
theorem dX15_entry_90 : decode cX15_entry 90 = .ok (.istore 6, 2) := by decide +kernel
theorem dX15_entry_92 : decode cX15_entry 92 = .ok (.iload 5, 2) := by decide +kernel
theorem dX15_entry_94 : decode cX15_entry 94 = .ok (.ifCond .eq 9, 3) := by decide +kernel
theorem dX15_entry_97 : decode cX15_entry 97 = .ok (.iload 4, 2) := by decide +kernel
theorem dX15_entry_99 : decode cX15_entry 99 = .ok (.iload_n 3, 1) := by decide +kernel
theorem dX15_entry_100 : decode cX15_entry 100 = .ok (.if_icmp .eq 16, 3) := by decide +kernel
theorem dX15_entry_103 : decode cX15_entry 103 = .ok (.aload_n 0, 1) := by decide +kernel
theorem dX15_entry_104 : decode cX15_entry 104 = .ok (.getfield 31, 3) := by decide +kernel
theorem dX15_entry_107 : decode cX15_entry 107 = .ok (.iconst 0, 1) := by decide +kernel
theorem dX15_entry_108 : decode cX15_entry 108 = .ok (.iload 6, 2) := by decide +kernel
theorem dX15_entry_110 : decode cX15_entry 110 = .ok (.invokestatic 182, 3) := by decide +kernel
theorem dX15_entry_113 : decode cX15_entry 113 = .ok (.ifCond .ne 5, 3) := by decide +kernel
theorem dX15_entry_116 : decode cX15_entry 116 = .ok (.iconst (-1), 1) := by decide +kernel
theorem dX15_entry_117 : decode cX15_entry 117 = .ok (.ireturn, 1) := by decide +kernel
theorem dX15_entry_118 : decode cX15_entry 118 = .ok (.iload_n 1, 1) := by decide +kernel
theorem dX15_entry_119 : decode cX15_entry 119 = .ok (.iconst 2, 1) := by decide +kernel
theorem dX15_entry_120 : decode cX15_entry 120 = .ok (.if_icmp .ne 18, 3) := by decide +kernel
theorem dX15_entry_123 : decode cX15_entry 123 = .ok (.aload_n 0, 1) := by decide +kernel
theorem dX15_entry_124 : decode cX15_entry 124 = .ok (.getfield 31, 3) := by decide +kernel
theorem dX15_entry_127 : decode cX15_entry 127 = .ok (.iload 4, 2) := by decide +kernel
theorem dX15_entry_129 : decode cX15_entry 129 = .ok (.iconst 1, 1) := by decide +kernel
theorem dX15_entry_130 : decode cX15_entry 130 = .ok (.iadd, 1) := by decide +kernel
theorem dX15_entry_131 : decode cX15_entry 131 = .ok (.iload_n 3, 1) := by decide +kernel
theorem dX15_entry_132 : decode cX15_entry 132 = .ok (.invokestatic 182, 3) := by decide +kernel
theorem dX15_entry_135 : decode cX15_entry 135 = .ok (.ifCond .eq 19, 3) := by decide +kernel
theorem dX15_entry_138 : decode cX15_entry 138 = .ok (.iload_n 1, 1) := by decide +kernel
theorem dX15_entry_139 : decode cX15_entry 139 = .ok (.ifCond .ne 17, 3) := by decide +kernel
theorem dX15_entry_142 : decode cX15_entry 142 = .ok (.iload_n 3, 1) := by decide +kernel
theorem dX15_entry_143 : decode cX15_entry 143 = .ok (.iload 4, 2) := by decide +kernel
theorem dX15_entry_145 : decode cX15_entry 145 = .ok (.isub, 1) := by decide +kernel
theorem dX15_entry_146 : decode cX15_entry 146 = .ok (.iconst 1, 1) := by decide +kernel
theorem dX15_entry_147 : decode cX15_entry 147 = .ok (.isub, 1) := by decide +kernel
theorem dX15_entry_148 : decode cX15_entry 148 = .ok (.sipush 700, 3) := by decide +kernel
theorem dX15_entry_151 : decode cX15_entry 151 = .ok (.if_icmp .le 5, 3) := by decide +kernel
theorem dX15_entry_154 : decode cX15_entry 154 = .ok (.iconst (-1), 1) := by decide +kernel
theorem dX15_entry_155 : decode cX15_entry 155 = .ok (.ireturn, 1) := by decide +kernel
theorem dX15_entry_156 : decode cX15_entry 156 = .ok (.aload_n 0, 1) := by decide +kernel
theorem dX15_entry_157 : decode cX15_entry 157 = .ok (.getfield 38, 3) := by decide +kernel
theorem dX15_entry_160 : decode cX15_entry 160 = .ok (.aload_n 0, 1) := by decide +kernel
theorem dX15_entry_161 : decode cX15_entry 161 = .ok (.getfield 177, 3) := by decide +kernel
theorem dX15_entry_164 : decode cX15_entry 164 = .ok (.iload_n 1, 1) := by decide +kernel
theorem dX15_entry_165 : decode cX15_entry 165 = .ok (.iastore, 1) := by decide +kernel
theorem dX15_entry_166 : decode cX15_entry 166 = .ok (.aload_n 0, 1) := by decide +kernel
theorem dX15_entry_167 : decode cX15_entry 167 = .ok (.getfield 42, 3) := by decide +kernel
theorem dX15_entry_170 : decode cX15_entry 170 = .ok (.aload_n 0, 1) := by decide +kernel
theorem dX15_entry_171 : decode cX15_entry 171 = .ok (.getfield 177, 3) := by decide +kernel
theorem dX15_entry_174 : decode cX15_entry 174 = .ok (.iload_n 2, 1) := by decide +kernel
theorem dX15_entry_175 : decode cX15_entry 175 = .ok (.iastore, 1) := by decide +kernel
theorem dX15_entry_176 : decode cX15_entry 176 = .ok (.aload_n 0, 1) := by decide +kernel
theorem dX15_entry_177 : decode cX15_entry 177 = .ok (.getfield 47, 3) := by decide +kernel
theorem dX15_entry_180 : decode cX15_entry 180 = .ok (.aload_n 0, 1) := by decide +kernel
theorem dX15_entry_181 : decode cX15_entry 181 = .ok (.getfield 177, 3) := by decide +kernel
theorem dX15_entry_184 : decode cX15_entry 184 = .ok (.aaload, 1) := by decide +kernel
theorem dX15_entry_185 : decode cX15_entry 185 = .ok (.aload_n 0, 1) := by decide +kernel
theorem dX15_entry_186 : decode cX15_entry 186 = .ok (.getfield 31, 3) := by decide +kernel
theorem dX15_entry_189 : decode cX15_entry 189 = .ok (.iconst 0, 1) := by decide +kernel
theorem dX15_entry_190 : decode cX15_entry 190 = .ok (.iload 6, 2) := by decide +kernel
theorem dX15_entry_192 : decode cX15_entry 192 = .ok (.invokevirtual 186, 3) := by decide +kernel
theorem dX15_entry_195 : decode cX15_entry 195 = .ok (.aload_n 0, 1) := by decide +kernel
theorem dX15_entry_196 : decode cX15_entry 196 = .ok (.getfield 51, 3) := by decide +kernel
theorem dX15_entry_199 : decode cX15_entry 199 = .ok (.aload_n 0, 1) := by decide +kernel
theorem dX15_entry_200 : decode cX15_entry 200 = .ok (.getfield 177, 3) := by decide +kernel
theorem dX15_entry_203 : decode cX15_entry 203 = .ok (.aaload, 1) := by decide +kernel
theorem dX15_entry_204 : decode cX15_entry 204 = .ok (.iconst 0, 1) := by decide +kernel
theorem dX15_entry_205 : decode cX15_entry 205 = .ok (.putfield 190, 3) := by decide +kernel
theorem dX15_entry_208 : decode cX15_entry 208 = .ok (.iload 5, 2) := by decide +kernel
theorem dX15_entry_210 : decode cX15_entry 210 = .ok (.ifCond .eq 24, 3) := by decide +kernel
theorem dX15_entry_213 : decode cX15_entry 213 = .ok (.aload_n 0, 1) := by decide +kernel
theorem dX15_entry_214 : decode cX15_entry 214 = .ok (.getfield 51, 3) := by decide +kernel
theorem dX15_entry_217 : decode cX15_entry 217 = .ok (.aload_n 0, 1) := by decide +kernel
theorem dX15_entry_218 : decode cX15_entry 218 = .ok (.getfield 177, 3) := by decide +kernel
theorem dX15_entry_221 : decode cX15_entry 221 = .ok (.aaload, 1) := by decide +kernel
theorem dX15_entry_222 : decode cX15_entry 222 = .ok (.aload_n 0, 1) := by decide +kernel
theorem dX15_entry_223 : decode cX15_entry 223 = .ok (.getfield 31, 3) := by decide +kernel
theorem dX15_entry_226 : decode cX15_entry 226 = .ok (.iload 4, 2) := by decide +kernel
theorem dX15_entry_228 : decode cX15_entry 228 = .ok (.iconst 1, 1) := by decide +kernel
theorem dX15_entry_229 : decode cX15_entry 229 = .ok (.iadd, 1) := by decide +kernel
theorem dX15_entry_230 : decode cX15_entry 230 = .ok (.iload_n 3, 1) := by decide +kernel
theorem dX15_entry_231 : decode cX15_entry 231 = .ok (.invokevirtual 186, 3) := by decide +kernel
theorem dX15_entry_234 : decode cX15_entry 234 = .ok (.aload_n 0, 1) := by decide +kernel
theorem dX15_entry_235 : decode cX15_entry 235 = .ok (.dup, 1) := by decide +kernel
theorem dX15_entry_236 : decode cX15_entry 236 = .ok (.getfield 177, 3) := by decide +kernel
theorem dX15_entry_239 : decode cX15_entry 239 = .ok (.iconst 1, 1) := by decide +kernel
theorem dX15_entry_240 : decode cX15_entry 240 = .ok (.iadd, 1) := by decide +kernel
theorem dX15_entry_241 : decode cX15_entry 241 = .ok (.putfield 177, 3) := by decide +kernel
theorem dX15_entry_244 : decode cX15_entry 244 = .ok (.aload_n 0, 1) := by decide +kernel
theorem dX15_entry_245 : decode cX15_entry 245 = .ok (.getfield 177, 3) := by decide +kernel
theorem dX15_entry_248 : decode cX15_entry 248 = .ok (.ireturn, 1) := by decide +kernel
theorem kt_1200 : Cond.constantLong RX15 180 4 ∈ tb := tb_at (i := 1486) (by decide +kernel) (by decide +kernel)
def UNM (f : Nat → Int32) (z : Nat) (g : Nat → Int32) (y : Nat) : Prop := y ≤ z ∧ (z = y ∨ (z ≠ y + 1 ∧ f (z - y - 1) = 46)) ∧ (∀ j, j < y → f (z - y + j) = g j)
theorem bfmo {F : Nat → va_E} {a n : Nat} {c : ClassId} {f : Nat → Int32} (hF : F a = .inl (c, n, .inl f)) (h : ∃ g : Nat → Int32, F a = .inl (c, n, .inl g) ∧ BFm g) : BFm f := by
  obtain ⟨g, h1, h2⟩ := h
  obtain rfl : g = f := by
    have e9 := h1.symm.trans hF
    simpa using e9
  exact h2
def ENM (cs : Nat → ClassId) (F : Nat → va_E) (o : Option Nat) (rm n : Nat) (f : Nat → Int32) : Prop := ∃ b r : Nat, o = some b ∧ F b = .inr (14, [.ref r, .int (nI n)]) ∧ F r = .inl (cs 17, rm, .inl f) ∧ n ≤ rm
def DM1 (cs : Nat → ClassId) (F : Nat → va_E) (x9 y9 : Int32) (o1 o2 : Option Nat) (d : ETY) : Prop := x9 = d.1 ∧ y9 = d.2.1 ∧ ENM cs F o1 60 d.2.2.1 d.2.2.2.1 ∧ ENM cs F o2 700 d.2.2.2.2.1 d.2.2.2.2.2
def DIRM (cs : Nat → ClassId) (F : Nat → va_E) (so ad na va ze : Nat) (D : Nat → ETY) : Prop := ∃ fs fd : Nat → Int32, ∃ fn fv : Nat → Option Nat, F so = .inl (cs 16, 40, .inl fs) ∧ F ad = .inl (cs 16, 40, .inl fd) ∧ F na = .inl (cs 23, 40, .inr (.inr (.inr (.inr fn)))) ∧ F va = .inl (cs 23, 40, .inr (.inr (.inr (.inr fv)))) ∧ ∀ k, k < ze → DM1 cs F (fs k) (fd k) (fn k) (fv k) (D k)
theorem ENM.fr {cs : Nat → ClassId} {ty : TyM} {gm : Nat → Nat → Nat} {L S : List Nat} {F G : Nat → va_E} {δ na k rm n : Nat} {f : Nat → Int32} {fn : Nat → Option Nat} (h : ENM cs F (fn k) rm n f) (hO : OKm cs ty gm L F) (hW : WTm ty gm L) (hL : na ∈ L) (hT : ty na = (27, δ, [40, rm])) (hn : F na = .inl (cs 23, 40, .inr (.inr (.inr (.inr fn))))) (hk : k < 40) (hR : FR ty S F G) (hS : δ + k + 100 ∉ S) : ENM cs G (fn k) rm n f := by
  obtain ⟨b, r, h1, h2, h3, h4⟩ := h
  obtain ⟨f9, g1, g2⟩ := hO.rtxj hL hT
  obtain rfl : f9 = fn := by
    have e9 := g1.symm.trans hn
    simpa using e9
  obtain ⟨b9, r9, k1, k2, k3⟩ := g2 k hk
  obtain rfl : b9 = b := Option.some.inj (k1.symm.trans h1)
  obtain ⟨z1, u1, -⟩ := hO.txt k2 k3
  have e8 := u1.symm.trans h2
  simp only [Sum.inr.injEq, Prod.mk.injEq, List.cons.injEq, Value.ref.injEq, true_and] at e8
  obtain ⟨rfl, -⟩ := e8
  obtain ⟨m1, m2, -⟩ := hW.txt k2 k3
  exact ⟨b9, r9, h1, (hR b9 (by rw [k3]; exact hS)).trans h2, (hR r9 (by rw [m2]; exact hS)).trans h3, h4⟩
theorem DIRM.fr {cs : Nat → ClassId} {ty : TyM} {gm : Nat → Nat → Nat} {L S : List Nat} {F G : Nat → va_E} {ρ so ad na va ze : Nat} {D : Nat → ETY} (h : DIRM cs F so ad na va ze D) (hO : OKm cs ty gm L F) (hW : WTm ty gm L) (hLn : na ∈ L) (hTn : ty na = (27, ρ + 4, [40, 60])) (hLv : va ∈ L) (hTv : ty va = (27, ρ + 50, [40, 700])) (hz : ze ≤ 40) (hR : FR ty S F G) (h1 : G so = F so) (h2 : G ad = F ad) (h3 : G na = F na) (h4 : G va = F va) (hS : ∀ k, k < ze → ρ + 4 + k + 100 ∉ S ∧ ρ + 50 + k + 100 ∉ S) : DIRM cs G so ad na va ze D := by
  obtain ⟨fs, fd, fn, fv, a1, a2, a3, a4, a5⟩ := h
  refine ⟨fs, fd, fn, fv, h1.trans a1, h2.trans a2, h3.trans a3, h4.trans a4, fun k hk => ?_⟩
  obtain ⟨b1, b2, b3, b4⟩ := a5 k hk
  exact ⟨b1, b2, b3.fr hO hW hLn hTn a3 (by omega) hR (hS k hk).1, b4.fr hO hW hLv hTv a4 (by omega) hR (hS k hk).2⟩
theorem DIRM.none {cs : Nat → ClassId} {F : Nat → va_E} {so ad na va : Nat} {D : Nat → ETY} {fs fd : Nat → Int32} {fn fv : Nat → Option Nat} (a1 : F so = .inl (cs 16, 40, .inl fs)) (a2 : F ad = .inl (cs 16, 40, .inl fd)) (a3 : F na = .inl (cs 23, 40, .inr (.inr (.inr (.inr fn))))) (a4 : F va = .inl (cs 23, 40, .inr (.inr (.inr (.inr fv))))) : DIRM cs F so ad na va 0 D :=
  ⟨fs, fd, fn, fv, a1, a2, a3, a4, fun k hk => absurd hk (Nat.not_lt_zero _)⟩
theorem FR.unre {ty ty2 : TyM} {h k ρ : Nat} {im im2 : List Nat} {S : List Nat} {F G : Nat → va_E} (hT : ty h = (k, ρ, im)) (he : ty2 = rtf ty h (k, ρ, im2)) (hR : FR ty2 S F G) : FR ty S F G := by
  subst he
  intro a ha
  refine hR a ?_
  by_cases c : a = h
  · subst c
    rw [rtf_self]
    rw [hT] at ha
    exact ha
  · rw [rtf_ne c]
    exact ha
theorem DIRM.less {cs : Nat → ClassId} {F : Nat → va_E} {so ad na va ze z2 : Nat} {D : Nat → ETY} (h : DIRM cs F so ad na va ze D) (hz : z2 ≤ ze) : DIRM cs F so ad na va z2 D := by
  obtain ⟨fs, fd, fn, fv, a1, a2, a3, a4, a5⟩ := h
  exact ⟨fs, fd, fn, fv, a1, a2, a3, a4, fun k hk => a5 k (by omega)⟩
theorem DIRM.same {cs : Nat → ClassId} {F : Nat → va_E} {so ad na va ze : Nat} {D : Nat → ETY} {d : ETY} (h : DIRM cs F so ad na va ze D) : DIRM cs F so ad na va ze (fun k => if k = ze then d else D k) := by
  obtain ⟨fs, fd, fn, fv, a1, a2, a3, a4, a5⟩ := h
  refine ⟨fs, fd, fn, fv, a1, a2, a3, a4, fun k hk => ?_⟩
  show DM1 cs F (fs k) (fd k) (fn k) (fv k) (if k = ze then d else D k)
  rw [if_neg (by omega)]
  exact a5 k hk
theorem DIRM.add {cs : Nat → ClassId} {ty : TyM} {gm : Nat → Nat → Nat} {L S : List Nat} {F G : Nat → va_E} {ρ so ad na va ze : Nat} {D : Nat → ETY} {d : ETY} {fs fd : Nat → Int32} {fn fv : Nat → Option Nat} (h : DIRM cs F so ad na va ze D) (hO : OKm cs ty gm L F) (hW : WTm ty gm L) (hLn : na ∈ L) (hTn : ty na = (27, ρ + 4, [40, 60])) (hLv : va ∈ L) (hTv : ty va = (27, ρ + 50, [40, 700])) (hz : ze ≤ 40) (hR : FR ty S F G) (h3 : G na = F na) (h4 : G va = F va) (hS : ∀ k, k < ze → ρ + 4 + k + 100 ∉ S ∧ ρ + 50 + k + 100 ∉ S) (a1 : F so = .inl (cs 16, 40, .inl fs)) (a2 : F ad = .inl (cs 16, 40, .inl fd)) (a3 : F na = .inl (cs 23, 40, .inr (.inr (.inr (.inr fn))))) (a4 : F va = .inl (cs 23, 40, .inr (.inr (.inr (.inr fv))))) (g1 : G so = .inl (cs 16, 40, .inl (upd fs ze d.1))) (g2 : G ad = .inl (cs 16, 40, .inl (upd fd ze d.2.1))) (e1 : ENM cs G (fn ze) 60 d.2.2.1 d.2.2.2.1) (e2 : ENM cs G (fv ze) 700 d.2.2.2.2.1 d.2.2.2.2.2) : DIRM cs G so ad na va (ze + 1) (fun k => if k = ze then d else D k) := by
  obtain ⟨fs9, fd9, fn9, fv9, b1, b2, b3, b4, b5⟩ := h
  obtain rfl : fs = fs9 := by
    have e9 := a1.symm.trans b1
    simpa using e9
  obtain rfl : fd = fd9 := by
    have e9 := a2.symm.trans b2
    simpa using e9
  obtain rfl : fn = fn9 := by
    have e9 := a3.symm.trans b3
    simpa using e9
  obtain rfl : fv = fv9 := by
    have e9 := a4.symm.trans b4
    simpa using e9
  refine ⟨upd fs ze d.1, upd fd ze d.2.1, fn, fv, g1, g2, h3.trans a3, h4.trans a4, fun k hk => ?_⟩
  show DM1 cs G (upd fs ze d.1 k) (upd fd ze d.2.1 k) (fn k) (fv k) (if k = ze then d else D k)
  by_cases c : k = ze
  · rw [if_pos c, c]
    exact ⟨if_pos rfl, if_pos rfl, e1, e2⟩
  · rw [if_neg c]
    obtain ⟨c1, c2, c3, c4⟩ := b5 k (by omega)
    exact ⟨(if_neg c).trans c1, (if_neg c).trans c2, c3.fr hO hW hLn hTn a3 (by omega) hR (hS k (by omega)).1, c4.fr hO hW hLv hTv a4 (by omega) hR (hS k (by omega)).2⟩
theorem enx3 {x1 x2 : Int32} {f fc fd : Nat → Int32} {z k kn : Nat} (hk : kn = k) (h2 : x1 = 0 ∨ x1 = 2) (hf : FST f 32 z k) (hn : NM f 0 kn = true) (hv : ISV x1 f z k) (h1 : ∀ j, j < kn - 0 → fc j = f (0 + j)) (h3 : ∀ j, j < z - (k + 1) → fd j = f (k + 1 + j)) : ENX x1 x2 f z (x1, x2, kn - 0, fc, z - (k + 1), fd) := by
  subst hk
  exact enx2 h2 hf hn hv h1 h3
theorem enx4 {x1 x2 : Int32} {f fc fd : Nat → Int32} {z kn : Nat} (hk : kn = z) (h2 : ¬ (x1 = 0 ∨ x1 = 2)) (hn : NM f 0 kn = true) (h1 : ∀ j, j < kn - 0 → fc j = f (0 + j)) : ENX x1 x2 f z (x1, x2, kn - 0, fc, 0, fd) := by
  subst hk
  exact enx1 h2 hn h1
set_option maxHeartbeats 4000000 in
set_option maxRecDepth 100000 in
theorem s_X14_add_e (l : Launch) (dC : Nat → ClassId) (dI : Nat → Nat → Nat) (cs : Nat → ClassId) (ty : TyM) (gm : Nat → Nat → Nat) (L : List Nat) (sz : Nat) (F : Nat → va_E) (h0 : Nat) (ρ : Nat) (r0 : Nat) (n : Nat) (g1 : Nat) (σ : Nat) (n1 : Nat) (a : Nat) (tt : Nat) (gf : Nat → Int32) (hW : WTm ty gm L) (hL_h0 : h0 ∈ L) (hT_h0 : ty h0 = (14, ρ, [r0, n])) (hL_g1 : g1 ∈ L) (hT_g1 : ty g1 = (17, σ, [n1])) (hF0 : F h0 = .inr (14, [.ref r0, .int (nI 0)])) (hFg : F g1 = .inl (cs 17, n1, .inl gf)) (hat : a ≤ tt) (htn : tt ≤ n1) (hfit : tt - a ≤ n) : Met l yX14_add_ (.code yX14_add_ cX14_add_ 4 none :: tb) ({ frames := 1, cells := 0, slots := 0, locals := 48 }) (va_Pc [.ref h0, .ref g1, .int (nI a), .int (nI tt)] (PTm (dC, dI) cs ty gm L F sz)) (va_Qv (fun _ : Unit => True) (fun _ T9 => ∃ F2 : Nat → va_E, ∃ fc : Nat → Int32, QTm (dC, dI) cs ty gm L [ρ] F F2 (va_A (va_pl L F) sz) T9 ∧ F2 h0 = .inr (14, [.ref r0, .int (nI (0 + (tt - a)))]) ∧ F2 r0 = .inl (cs 17, n, .inl fc) ∧ (∀ j, j < tt - a → fc j = gf (a + j))) (va_A (va_pl L F) sz)) 0 0 (va_A (va_pl L F) sz) := by
  refine Met.ofW (cc := cX14_add_) (maxL := 4) (ret := none) (by decide) rfl ?_
  intro p e s m args below meth c s₁ B hml hv
  obtain ⟨rfl, hsz, hP, hK, hD0, hE, hO⟩ := hv
  have hx := B.exec
  have hb := B.bytes
  have hr := B.returns
  have hts : ∀ w ∈ tb, w.before _ s = true := fun w h => atoms_spec (ws := .code yX14_add_ cX14_add_ 4 none :: tb) B.pre w (List.mem_cons_of_mem _ h)
  have hown : s.vm.findClass RX14 = some m.cls := findClass_of_methodNamed B.named
  have hlocks := B.notSynchronized
  subst hsz
  have hD := hD0.self (sz := s.heap.size)
  generalize hAe : va_A (va_pl L F) s.heap.size = A at hD ⊢
  have hA : ∀ q : Nat, s.heap.size ≤ q → A q := fun q h => by rw [← hAe]; exact Or.inr h
  have hS : va_S A s.heap s.heap [] := va_S.rf
  have hR : FR ty [ρ] F F := FR.refl
  have hl := lv_entry ([.ref h0, .ref g1, .int (nI a), .int (nI tt)]) (n := 4) (Nat.le_of_ble_eq_true rfl)
  rw [lg_entry_eq]
  generalize (lg_sl ([.ref h0, .ref g1, .int (nI a), .int (nI tt)]) ++ List.replicate (4 - (lg_sl ([.ref h0, .ref g1, .int (nI a), .int (nI tt)])).length) Slot.unset).toArray = ls at hl ⊢
  have hl : lv_has ls 4 [(0, .ref h0), (1, .ref g1), (2, .int (nI a)), (3, .int (nI tt))] := hl
  have hBg := bfmo hFg (hO.octs hL_g1 hT_g1)
  refine lv_aload_n hx hb dX14_add__0 rfl (lv_at hl 1 rfl) ?_
  refine lv_iload_n hx hb dX14_add__1 rfl (lv_at hl 2 rfl) ?_
  refine lv_aload_n hx hb dX14_add__2 rfl (lv_at hl 0 rfl) ?_
  obtain ⟨hi_1, ht_2, hq_3⟩ := hW.txt hL_h0 hT_h0
  refine pg_get (ci := 14) (v := .ref r0) (C := RX14) (T := TX14) (N := 2) hx hb hts it_14 hown hK hP hL_h0 hF0 rfl 0 (by decide) (hts _ kt_662) (fun _ h9 => h9) rfl dX14_add__3 ?_
  refine lv_aload_n hx hb dX14_add__6 rfl (lv_at hl 0 rfl) ?_
  refine pg_get (ci := 14) (v := .int (nI 0)) (C := RX14) (T := TX14) (N := 2) hx hb hts it_14 hown hK hP hL_h0 hF0 rfl 1 (by decide) (hts _ kt_663) (fun _ h9 => h9) rfl dX14_add__7 ?_
  refine lv_iload_n hx hb dX14_add__10 rfl (lv_at hl 3 rfl) ?_
  refine lv_iload_n hx hb dX14_add__11 rfl (lv_at hl 2 rfl) ?_
  refine lv_isub hx hb dX14_add__12 ?_
  refine lv_topi (fun x_4 ex_4 => ?_)
  obtain rfl : x_4 = (nI (tt - a)) := ex_4.trans (pk_sub (a := tt) (b := a) (by omega))
  obtain ⟨hq_5, hq_6⟩ := hW.octs hL_g1 hT_g1
  obtain ⟨hq_7, hq_8⟩ := hW.octs hi_1 ht_2
  obtain ⟨f_9, hF_10, hq_11⟩ := hO.octs hi_1 ht_2
  refine pg_copyi hx hb (by rw [hml]; exact hl.1.symm) hown (hts _ kt_664) (hts _ kt_29) (hts _ kt_30) (hts _ kt_31) hK hP hD hS hL_g1 hi_1 1 1 hFg hF_10 rfl rfl rfl (nI_pos (by omega)) (nI_pos (by omega)) (nI_pos (by omega)) (by rw [nI_clamp (by omega), nI_clamp (by omega)]; omega) (by rw [nI_clamp (by omega), nI_clamp (by omega)]; omega) (fun _ _ => hBg _) (Nat.le_of_ble_eq_true rfl) (by decide) dX14_add__13 (fun H locs hP hD hS => ?_)
  obtain ⟨F_12, he_13, hP, hD, hO, hR⟩ : ∃ G, G = va_up F r0 (.inl (cs 17, n, .inl (va_cpy gf f_9 ((nI a)).toNatClampNeg ((nI 0)).toNatClampNeg ((nI (tt - a))).toNatClampNeg))) ∧ va_P (dC, dI) vwCl (va_pl L G) H ∧ va_D A (va_pl L G) ∧ OKm cs ty gm L G ∧ FR ty [ρ] F G := ⟨_, rfl, hP, hD, hO.up (shm.octs ht_2 ⟨_, rfl, bfm_cpy hBg hq_11 _ _ _⟩), hR.up ht_2 (by simp)⟩
  have hF_14 : F_12 r0 = .inl (cs 17, n, .inl (va_cpy gf f_9 ((nI a)).toNatClampNeg ((nI 0)).toNatClampNeg ((nI (tt - a))).toNatClampNeg)) := by rw [he_13]; exact up_self
  have hF_15 : F_12 h0 = .inr (14, [.ref r0, .int (nI 0)]) := by rw [he_13, up_ne (ne_ty hT_h0 ht_2 (by simp))]; exact hF0
  obtain ⟨f_16, hF_14, hq_17, hfe_18⟩ : ∃ f : Nat → Int32, F_12 r0 = .inl (cs 17, n, .inl f) ∧ BFm f ∧ f = va_cpy gf f_9 ((nI a)).toNatClampNeg ((nI 0)).toNatClampNeg ((nI (tt - a))).toNatClampNeg := ⟨_, hF_14, bfm_cpy hBg hq_11 _ _ _, rfl⟩
  refine lv_aload_n hx hb dX14_add__16 rfl (lv_at hl 0 rfl) ?_
  refine lv_dup hx hb dX14_add__17 rfl ?_
  refine pg_get (ci := 14) (v := .int (nI 0)) (C := RX14) (T := TX14) (N := 2) hx hb hts it_14 hown hK hP hL_h0 hF_15 rfl 1 (by decide) (hts _ kt_663) (fun _ h9 => h9) rfl dX14_add__18 ?_
  refine lv_iload_n hx hb dX14_add__21 rfl (lv_at hl 3 rfl) ?_
  refine lv_iload_n hx hb dX14_add__22 rfl (lv_at hl 2 rfl) ?_
  refine lv_isub hx hb dX14_add__23 ?_
  refine lv_topi (fun x_19 ex_19 => ?_)
  obtain rfl : x_19 = (nI (tt - a)) := ex_19.trans (pk_sub (a := tt) (b := a) (by omega))
  refine lv_iadd hx hb dX14_add__24 ?_
  refine lv_topi (fun x_20 ex_20 => ?_)
  obtain rfl : x_20 = (nI (0 + (tt - a))) := ex_20.trans (nI_add 0 (tt - a))
  refine pg_put (ci := 14) (v := .int (nI (0 + (tt - a)))) (ty := .int) (C := RX14) (T := TX14) (N := 2) hx hb hts it_14 tyX14 tyX14_ok nmX14 hown hK hP hD hS hL_h0 hF_15 rfl 1 (by decide) (hts _ kt_663) (fun _ h9 => h9) rfl (by decide +kernel) (rfl) (rfl) (Nat.le_of_ble_eq_true rfl) dX14_add__25 (fun H locs hP hD hS => ?_)
  obtain ⟨F_21, he_22, hP, hD, hO, hR⟩ : ∃ G, G = va_up F_12 h0 (.inr (14, [.ref r0, .int (nI (0 + (tt - a)))])) ∧ va_P (dC, dI) vwCl (va_pl L G) H ∧ va_D A (va_pl L G) ∧ OKm cs ty gm L G ∧ FR ty [ρ] F G := ⟨_, rfl, hP, hD, hO.up (shm.txt hT_h0 ⟨(0 + (tt - a)), rfl, (by first | omega | assumption | exact Or.inl rfl | exact Or.inr rfl)⟩), hR.up hT_h0 (by simp)⟩
  have hF_23 : F_21 h0 = .inr (14, [.ref r0, .int (nI (0 + (tt - a)))]) := by rw [he_22]; exact up_self
  have hF_24 : F_21 r0 = .inl (cs 17, n, .inl f_16) := by rw [he_22, up_ne (ne_ty ht_2 hT_h0 (by simp))]; exact hF_14
  refine W.widen (k := 0) (n := 0) (by omega) (by omega) ?_
  exact W.vret hx hb hr (fun t ht hWm => ⟨⟨(), rfl, trivial, ⟨F_21, f_16, QTm.mk ht hP hD hO hR, hF_23, hF_24, (by rw [hfe_18]; exact cpy_at (by omega) (by omega))⟩⟩, hS.F ht⟩) hS.2.2 dX14_add__28
set_option maxHeartbeats 4000000 in
set_option maxRecDepth 100000 in
theorem s_X14_set_e (l : Launch) (dC : Nat → ClassId) (dI : Nat → Nat → Nat) (cs : Nat → ClassId) (ty : TyM) (gm : Nat → Nat → Nat) (L : List Nat) (sz : Nat) (F : Nat → va_E) (h0 : Nat) (ρ : Nat) (r0 : Nat) (n : Nat) (g1 : Nat) (σ : Nat) (n1 : Nat) (a : Nat) (tt : Nat) (gf : Nat → Int32) (hW : WTm ty gm L) (hL_h0 : h0 ∈ L) (hT_h0 : ty h0 = (14, ρ, [r0, n])) (hL_g1 : g1 ∈ L) (hT_g1 : ty g1 = (17, σ, [n1])) (hFg : F g1 = .inl (cs 17, n1, .inl gf)) (hat : a ≤ tt) (htn : tt ≤ n1) (hfit : tt - a ≤ n) : Met l yX14_set (.code yX14_set cX14_set 4 none :: tb) ({ frames := 2, cells := 0, slots := 0, locals := 71 }) (va_Pc [.ref h0, .ref g1, .int (nI a), .int (nI tt)] (PTm (dC, dI) cs ty gm L F sz)) (va_Qv (fun _ : Unit => True) (fun _ T9 => ∃ F2 : Nat → va_E, ∃ fc : Nat → Int32, QTm (dC, dI) cs ty gm L [ρ] F F2 (va_A (va_pl L F) sz) T9 ∧ F2 h0 = .inr (14, [.ref r0, .int (nI (tt - a))]) ∧ F2 r0 = .inl (cs 17, n, .inl fc) ∧ (∀ j, j < tt - a → fc j = gf (a + j))) (va_A (va_pl L F) sz)) 0 0 (va_A (va_pl L F) sz) := by
  refine Met.ofW (cc := cX14_set) (maxL := 4) (ret := none) (by decide) rfl ?_
  intro p e s m args below meth c s₁ B hml hv
  obtain ⟨rfl, hsz, hP, hK, hD0, hE, hO⟩ := hv
  have hx := B.exec
  have hb := B.bytes
  have hr := B.returns
  have hts : ∀ w ∈ tb, w.before _ s = true := fun w h => atoms_spec (ws := .code yX14_set cX14_set 4 none :: tb) B.pre w (List.mem_cons_of_mem _ h)
  have hown : s.vm.findClass RX14 = some m.cls := findClass_of_methodNamed B.named
  have hlocks := B.notSynchronized
  subst hsz
  have hD := hD0.self (sz := s.heap.size)
  generalize hAe : va_A (va_pl L F) s.heap.size = A at hD ⊢
  have hA : ∀ q : Nat, s.heap.size ≤ q → A q := fun q h => by rw [← hAe]; exact Or.inr h
  have hS : va_S A s.heap s.heap [] := va_S.rf
  have hR : FR ty [ρ] F F := FR.refl
  have hl := lv_entry ([.ref h0, .ref g1, .int (nI a), .int (nI tt)]) (n := 4) (Nat.le_of_ble_eq_true rfl)
  rw [lg_entry_eq]
  generalize (lg_sl ([.ref h0, .ref g1, .int (nI a), .int (nI tt)]) ++ List.replicate (4 - (lg_sl ([.ref h0, .ref g1, .int (nI a), .int (nI tt)])).length) Slot.unset).toArray = ls at hl ⊢
  have hl : lv_has ls 4 [(0, .ref h0), (1, .ref g1), (2, .int (nI a)), (3, .int (nI tt))] := hl
  refine lv_aload_n hx hb dX14_set_0 rfl (lv_at hl 0 rfl) ?_
  refine lv_iconst (v := 0) hx hb dX14_set_1 (by decide) ?_
  obtain ⟨hi_1, ht_2, hq_3⟩ := hW.txt hL_h0 hT_h0
  obtain ⟨z_4, hF_5, hq_6⟩ := hO.txt hL_h0 hT_h0
  refine pg_put (ci := 14) (v := .int 0) (ty := .int) (C := RX14) (T := TX14) (N := 2) hx hb hts it_14 tyX14 tyX14_ok nmX14 hown hK hP hD hS hL_h0 hF_5 rfl 1 (by decide) (hts _ kt_663) (fun _ h9 => h9) rfl (by decide +kernel) (rfl) (rfl) (Nat.le_of_ble_eq_true rfl) dX14_set_2 (fun H locs hP hD hS => ?_)
  obtain ⟨F_7, he_8, hP, hD, hO, hR⟩ : ∃ G, G = va_up F h0 (.inr (14, [.ref r0, .int 0])) ∧ va_P (dC, dI) vwCl (va_pl L G) H ∧ va_D A (va_pl L G) ∧ OKm cs ty gm L G ∧ FR ty [ρ] F G := ⟨_, rfl, hP, hD, hO.up (shm.txt hT_h0 ⟨0, rfl, (by first | omega | assumption | exact Or.inl rfl | exact Or.inr rfl)⟩), hR.up hT_h0 (by simp)⟩
  have hF_9 : F_7 h0 = .inr (14, [.ref r0, .int 0]) := by rw [he_8]; exact up_self
  have hF_10 : F_7 g1 = .inl (cs 17, n1, .inl gf) := by rw [he_8, up_ne (ne_ty hT_g1 hT_h0 (by simp))]; exact hFg
  refine lv_aload_n hx hb dX14_set_5 rfl (lv_at hl 0 rfl) ?_
  refine lv_aload_n hx hb dX14_set_6 rfl (lv_at hl 1 rfl) ?_
  refine lv_iload_n hx hb dX14_set_7 rfl (lv_at hl 2 rfl) ?_
  refine lv_iload_n hx hb dX14_set_8 rfl (lv_at hl 3 rfl) ?_
  obtain ⟨hq_11, hq_12⟩ := hW.octs hL_g1 hT_g1
  have hFc := pg_free hD hS hA
  refine va_callv (va_runV (As := [.ref g1, .int (nI a), .int (nI tt)]) (rest := []) ⟨hx, hb, hml, hown, hts⟩ (s_X14_add_e l dC dI cs ty gm L H.size F_7 h0 ρ r0 n g1 σ n1 a tt gf hW hL_h0 hT_h0 hL_g1 hT_g1 hF_9 hF_10 (hat) (htn) (hfit)) ⟨callB_of 3 hts (gi kt_665) rfl rfl rfl (hts _ kt_666) (hts _ kt_667) (by decide +kernel) ⟨Nat.le_of_ble_eq_true rfl, Nat.le_of_ble_eq_true rfl⟩, (hts _ kt_668), (hts _ kt_669)⟩ ⟨fun a U g mk q => ⟨q.1, PTm.calling q.2⟩, pg_recv hK hP hL_h0 hF_9 (q := (RX14, TX14, 2)) rfl, fun U hU hWm => ⟨rfl, PTm.mk hU hWm hP hK hD hE hO⟩⟩ rfl rfl hl.1 rfl (lv_room (Nat.le_of_ble_eq_true rfl)) dX14_set_9 ⟨by show _ + 0 ≤ 0; omega, by show _ + 0 ≤ 0; omega⟩) hS (fun q _ h => hFc q h) hFc (fun u t H1 locs ht hvm hw hB hz1 hk1 hS => ?_)
  obtain ⟨F_14, fc_15, hB1, hq_16, hq_17, hq_18⟩ := hB
  obtain ⟨hP, hD, hO, hR⟩ := QTm.back hB1 ht hFc hR (fun q h => by simp only [List.mem_cons, List.not_mem_nil, or_false] at h ⊢; omega)
  generalize H1 = H at hP hS ⊢
  refine W.widen (k := 0) (n := 0) (by omega) (by omega) ?_
  exact W.vret hx hb hr (fun t ht hWm => ⟨⟨(), rfl, trivial, ⟨F_14, fc_15, QTm.mk ht hP hD hO hR, (by rw [hq_16, Nat.zero_add]), hq_17, hq_18⟩⟩, hS.F ht⟩) hS.2.2 dX14_set_12
set_option maxHeartbeats 4000000 in
set_option maxRecDepth 100000 in
theorem s_X14_isUnder_e (l : Launch) (dC : Nat → ClassId) (dI : Nat → Nat → Nat) (cs : Nat → ClassId) (ty : TyM) (gm : Nat → Nat → Nat) (L : List Nat) (sz : Nat) (F : Nat → va_E) (h0 : Nat) (ρ : Nat) (r0 : Nat) (n : Nat) (g1 : Nat) (σ : Nat) (r1 : Nat) (n1 : Nat) (z : Nat) (y : Nat) (gf : Nat → Int32) (hf : Nat → Int32) (hW : WTm ty gm L) (hL_h0 : h0 ∈ L) (hT_h0 : ty h0 = (14, ρ, [r0, n])) (hL_g1 : g1 ∈ L) (hT_g1 : ty g1 = (14, σ, [r1, n1])) (hF0 : F h0 = .inr (14, [.ref r0, .int (nI z)])) (hFr0 : F r0 = .inl (cs 17, n, .inl gf)) (hF1 : F g1 = .inr (14, [.ref r1, .int (nI y)])) (hFr1 : F r1 = .inl (cs 17, n1, .inl hf)) (hzn : z ≤ n) (hy1 : y ≤ n1) : Met l yX14_isUnder (.code yX14_isUnder cX14_isUnder 3 (some .boolean) :: tb) ({ frames := 0, cells := 0, slots := 0, locals := 0 }) (va_Pc [.ref h0, .ref g1] (PTm (dC, dI) cs ty gm L F sz)) (va_Qi (fun (r : Int32) (_ : Unit) => (r = 1 ∧ UNM gf z hf y) ∨ (r = 0 ∧ ¬ UNM gf z hf y)) (fun _ T9 => ∃ F2 : Nat → va_E, QTm (dC, dI) cs ty gm L [] F F2 (va_A (va_pl L F) sz) T9) (va_A (va_pl L F) sz)) 0 0 (va_A (va_pl L F) sz) := by
  refine Met.ofW (cc := cX14_isUnder) (maxL := 3) (ret := (some .boolean)) (by decide) rfl ?_
  intro p e s m args below meth c s₁ B hml hv
  obtain ⟨rfl, hsz, hP, hK, hD0, hE, hO⟩ := hv
  have hx := B.exec
  have hb := B.bytes
  have hr := B.returns
  have hts : ∀ w ∈ tb, w.before _ s = true := fun w h => atoms_spec (ws := .code yX14_isUnder cX14_isUnder 3 (some .boolean) :: tb) B.pre w (List.mem_cons_of_mem _ h)
  have hown : s.vm.findClass RX14 = some m.cls := findClass_of_methodNamed B.named
  have hlocks := B.notSynchronized
  subst hsz
  have hD := hD0.self (sz := s.heap.size)
  generalize hAe : va_A (va_pl L F) s.heap.size = A at hD ⊢
  have hA : ∀ q : Nat, s.heap.size ≤ q → A q := fun q h => by rw [← hAe]; exact Or.inr h
  have hS : va_S A s.heap s.heap [] := va_S.rf
  have hR : FR ty [] F F := FR.refl
  have hl := lv_entry ([.ref h0, .ref g1]) (n := 3) (Nat.le_of_ble_eq_true rfl)
  rw [lg_entry_eq]
  generalize (lg_sl ([.ref h0, .ref g1]) ++ List.replicate (3 - (lg_sl ([.ref h0, .ref g1])).length) Slot.unset).toArray = ls at hl ⊢
  have hl : lv_has ls 3 [(0, .ref h0), (1, .ref g1)] := hl
  obtain ⟨hi_1, ht_2, hq_3⟩ := hW.txt hL_h0 hT_h0
  obtain ⟨hi_4, ht_5, hq_6⟩ := hW.txt hL_g1 hT_g1
  refine lv_aload_n hx hb dX14_isUnder_0 rfl (lv_at hl 0 rfl) ?_
  refine pg_get (ci := 14) (v := .int (nI z)) (C := RX14) (T := TX14) (N := 2) hx hb hts it_14 hown hK hP hL_h0 hF0 rfl 1 (by decide) (hts _ kt_663) (fun _ h9 => h9) rfl dX14_isUnder_1 ?_
  refine lv_aload_n hx hb dX14_isUnder_4 rfl (lv_at hl 1 rfl) ?_
  refine pg_get (ci := 14) (v := .int (nI y)) (C := RX14) (T := TX14) (N := 2) hx hb hts it_14 hown hK hP hL_g1 hF1 rfl 1 (by decide) (hts _ kt_663) (fun _ h9 => h9) rfl dX14_isUnder_5 ?_
  refine lv_icmp_lt (tgt := 56) hx hb dX14_isUnder_8 (by decide) (fun c_7 => ?_) (fun c_7 => ?_)
  ·
    have hi_8 : z < y := ltN (N := y) (Int32.not_le.mpr c_7)
    refine lv_iconst (v := 0) hx hb dX14_isUnder_56 (by decide) ?_
    refine W.widen (k := 0) (n := 0) (by omega) (by omega) ?_
    exact W.zret (v := 0) (ty := .boolean) hx hb hr (by decide) (fun t ht hWm => ⟨⟨0, (), rfl, (Or.inr ⟨rfl, fun q => absurd q.1 (by omega)⟩), ⟨F, QTm.mk ht hP hD hO hR⟩⟩, hS.F ht⟩) hS.2.2 dX14_isUnder_57
  ·
    have hi_9 : y ≤ z := leN (N := y) (Int32.not_lt.mp c_7)
    refine W.widen (k := 0) (n := 0) (by omega) (by omega) ?_
    refine pl_cutm (σ := Unit) A (dC, dI) cs ty gm L [] F 58 3 (fun u0 => [(0, .ref h0), (1, .ref g1)]) (fun u0 => []) (fun u0 _ => y ≤ z ∧ (z = y ∨ (z ≠ y + 1 ∧ gf (z - y - 1) = 46))) ?_ (fun jn_10 => ?_)
    ·
      rintro u0 F_11 hv_12 hO hR H locs hP hD hS ls hl
      have hl : lv_has ls 3 [(0, .ref h0), (1, .ref g1)] := hl
      have hv_12 : y ≤ z ∧ (z = y ∨ (z ≠ y + 1 ∧ gf (z - y - 1) = 46)) := hv_12
      refine W.eq (g2 := F0 m 58 ls []) rfl ?_
      obtain rfl : F = F_11 := (funext (fun a => hR a List.not_mem_nil)).symm
      obtain ⟨hu1, hu2⟩ := id hv_12
      refine lv_iconst (v := 0) hx hb dX14_isUnder_58 (by decide) ?_
      refine lv_istore_n (lv' := [(2, .int 0), (0, .ref h0), (1, .ref g1)]) hx hb dX14_isUnder_59 rfl hl (by decide) rfl (fun ls hl => ?_)
      refine W.widen (k := 0) (n := 0) (by omega) (by omega) ?_
      refine pl_loopm (σ := Nat) A (dC, dI) cs ty gm L [] F 60 3 (fun j => [(2, .int (nI j)), (0, .ref h0), (1, .ref g1)]) (fun j => []) (fun j _ => j ≤ y ∧ (∀ i, i < j → gf (z - y + i) = hf i)) (fun j => y - j) ?_ 0 F (⟨by omega, fun i hi => absurd hi (Nat.not_lt_zero _)⟩) hO hR _ _ hP hD hS ls (lv_sub hl [0, 1, 2] rfl)
      rintro j F_13 hv_14 hO hR ih_15 H locs hP hD hS ls hl
      have hl : lv_has ls 3 [(2, .int (nI j)), (0, .ref h0), (1, .ref g1)] := hl
      have hv_14 : j ≤ y ∧ (∀ i, i < j → gf (z - y + i) = hf i) := hv_14
      refine W.eq (g2 := F0 m 60 ls []) rfl ?_
      obtain rfl : F = F_13 := (funext (fun a => hR a List.not_mem_nil)).symm
      obtain ⟨hv1, hv2⟩ := id hv_14
      refine lv_iload_n hx hb dX14_isUnder_60 rfl (lv_at hl 0 rfl) ?_
      refine lv_aload_n hx hb dX14_isUnder_61 rfl (lv_at hl 2 rfl) ?_
      refine pg_get (ci := 14) (v := .int (nI y)) (C := RX14) (T := TX14) (N := 2) hx hb hts it_14 hown hK hP hL_g1 hF1 rfl 1 (by decide) (hts _ kt_663) (fun _ h9 => h9) rfl dX14_isUnder_62 ?_
      refine lv_icmp_ge (tgt := 101) hx hb dX14_isUnder_65 (by decide) (fun c_16 => ?_) (fun c_16 => ?_)
      ·
        have hi_17 : y ≤ j := leN (N := y) c_16
        refine lv_iconst (v := 1) hx hb dX14_isUnder_101 (by decide) ?_
        refine W.widen (k := 0) (n := 0) (by omega) (by omega) ?_
        exact W.zret (v := 1) (ty := .boolean) hx hb hr (by decide) (fun t ht hWm => ⟨⟨1, (), rfl, (Or.inl ⟨rfl, hu1, hu2, fun i hi => hv2 i (by omega)⟩), ⟨F, QTm.mk ht hP hD hO hR⟩⟩, hS.F ht⟩) hS.2.2 dX14_isUnder_102
      ·
        have hi_18 : j < y := ltN (N := y) c_16
        refine lv_aload_n hx hb dX14_isUnder_68 rfl (lv_at hl 1 rfl) ?_
        refine pg_get (ci := 14) (v := .ref r0) (C := RX14) (T := TX14) (N := 2) hx hb hts it_14 hown hK hP hL_h0 hF0 rfl 0 (by decide) (hts _ kt_662) (fun _ h9 => h9) rfl dX14_isUnder_69 ?_
        refine lv_aload_n hx hb dX14_isUnder_72 rfl (lv_at hl 1 rfl) ?_
        refine pg_get (ci := 14) (v := .int (nI z)) (C := RX14) (T := TX14) (N := 2) hx hb hts it_14 hown hK hP hL_h0 hF0 rfl 1 (by decide) (hts _ kt_663) (fun _ h9 => h9) rfl dX14_isUnder_73 ?_
        refine lv_aload_n hx hb dX14_isUnder_76 rfl (lv_at hl 2 rfl) ?_
        refine pg_get (ci := 14) (v := .int (nI y)) (C := RX14) (T := TX14) (N := 2) hx hb hts it_14 hown hK hP hL_g1 hF1 rfl 1 (by decide) (hts _ kt_663) (fun _ h9 => h9) rfl dX14_isUnder_77 ?_
        refine lv_isub hx hb dX14_isUnder_80 ?_
        refine lv_topi (fun x_19 ex_19 => ?_)
        obtain rfl : x_19 = (nI (z - y)) := ex_19.trans (pk_sub (a := z) (b := y) (by omega))
        refine lv_iload_n hx hb dX14_isUnder_81 rfl (lv_at hl 0 rfl) ?_
        refine lv_iadd hx hb dX14_isUnder_82 ?_
        refine lv_topi (fun x_20 ex_20 => ?_)
        obtain rfl : x_20 = (nI ((z - y) + j)) := ex_20.trans (nI_add (z - y) j)
        obtain ⟨hq_21, hq_22⟩ := hW.octs hi_1 ht_2
        refine pg_bald hx hb hK hP hi_1 1 hFr0 rfl (vp_in_nI (by omega) (by omega)) dX14_isUnder_83 ?_
        refine lv_topi (fun x_23 ex_23 => ?_)
        obtain rfl : x_23 = gf ((z - y) + j) := ex_23.trans (congrArg gf (show ((nI ((z - y) + j)) : Int32).toNatClampNeg = ((z - y) + j) from nI_clamp (by omega)))
        refine lv_aload_n hx hb dX14_isUnder_84 rfl (lv_at hl 2 rfl) ?_
        refine pg_get (ci := 14) (v := .ref r1) (C := RX14) (T := TX14) (N := 2) hx hb hts it_14 hown hK hP hL_g1 hF1 rfl 0 (by decide) (hts _ kt_662) (fun _ h9 => h9) rfl dX14_isUnder_85 ?_
        refine lv_iload_n hx hb dX14_isUnder_88 rfl (lv_at hl 0 rfl) ?_
        obtain ⟨hq_24, hq_25⟩ := hW.octs hi_4 ht_5
        refine pg_bald hx hb hK hP hi_4 1 hFr1 rfl (vp_in_nI (by omega) (by omega)) dX14_isUnder_89 ?_
        refine lv_topi (fun x_26 ex_26 => ?_)
        obtain rfl : x_26 = hf j := ex_26.trans (congrArg hf (show ((nI j) : Int32).toNatClampNeg = j from nI_clamp (by omega)))
        refine lv_icmp_eq (tgt := 95) hx hb dX14_isUnder_90 (by decide) (fun c_27 => ?_) (fun c_27 => ?_)
        ·
          refine lv_iinc (v := (nI (j + 1))) (lv' := [(2, .int (nI (j + 1))), (0, .ref h0), (1, .ref g1)]) hx hb dX14_isUnder_95 hl (k := 0) rfl (nI_1 _) (by decide) rfl (fun ls hl => ?_)
          refine lv_goto (tgt := 60) hx hb dX14_isUnder_98 (by decide) ?_
          refine W.widen (k := 0) (n := 0) (by omega) (by omega) ?_
          exact ih_15 (j + 1) F (⟨by omega, fun i hi => by rcases Nat.lt_or_ge i j with q | q; exact hv2 i q; rw [show i = j by omega]; exact c_27⟩) (by show y - (j + 1) < y - j; omega) hO hR _ _ hP hD hS ls (lv_sub hl [0, 1, 2] rfl)
        ·
          refine lv_iconst (v := 0) hx hb dX14_isUnder_93 (by decide) ?_
          refine W.widen (k := 0) (n := 0) (by omega) (by omega) ?_
          exact W.zret (v := 0) (ty := .boolean) hx hb hr (by decide) (fun t ht hWm => ⟨⟨0, (), rfl, (Or.inr ⟨rfl, fun q => c_27 (q.2.2 j (by omega))⟩), ⟨F, QTm.mk ht hP hD hO hR⟩⟩, hS.F ht⟩) hS.2.2 dX14_isUnder_94
    ·
      refine lv_aload_n hx hb dX14_isUnder_11 rfl (lv_at hl 0 rfl) ?_
      refine pg_get (ci := 14) (v := .int (nI z)) (C := RX14) (T := TX14) (N := 2) hx hb hts it_14 hown hK hP hL_h0 hF0 rfl 1 (by decide) (hts _ kt_663) (fun _ h9 => h9) rfl dX14_isUnder_12 ?_
      refine lv_aload_n hx hb dX14_isUnder_15 rfl (lv_at hl 1 rfl) ?_
      refine pg_get (ci := 14) (v := .int (nI y)) (C := RX14) (T := TX14) (N := 2) hx hb hts it_14 hown hK hP hL_g1 hF1 rfl 1 (by decide) (hts _ kt_663) (fun _ h9 => h9) rfl dX14_isUnder_16 ?_
      refine lv_icmp_le (tgt := 58) hx hb dX14_isUnder_19 (by decide) (fun c_28 => ?_) (fun c_28 => ?_)
      ·
        have hi_29 : z ≤ y := (nI_leI (a := z) (b := y) (by omega) (by omega)).mp c_28
        refine W.widen (k := 0) (n := 0) (by omega) (by omega) ?_
        exact jn_10 () F (⟨by omega, Or.inl (by omega)⟩) hO hR _ _ hP hD hS ls (lv_sub hl [0, 1] rfl)
      ·
        have hi_30 : y < z := Nat.not_le.mp (fun q => c_28 ((nI_leI (a := z) (b := y) (by omega) (by omega)).mpr q))
        refine lv_aload_n hx hb dX14_isUnder_22 rfl (lv_at hl 0 rfl) ?_
        refine pg_get (ci := 14) (v := .int (nI z)) (C := RX14) (T := TX14) (N := 2) hx hb hts it_14 hown hK hP hL_h0 hF0 rfl 1 (by decide) (hts _ kt_663) (fun _ h9 => h9) rfl dX14_isUnder_23 ?_
        refine lv_aload_n hx hb dX14_isUnder_26 rfl (lv_at hl 1 rfl) ?_
        refine pg_get (ci := 14) (v := .int (nI y)) (C := RX14) (T := TX14) (N := 2) hx hb hts it_14 hown hK hP hL_g1 hF1 rfl 1 (by decide) (hts _ kt_663) (fun _ h9 => h9) rfl dX14_isUnder_27 ?_
        refine lv_iconst (v := 1) hx hb dX14_isUnder_30 (by decide) ?_
        refine lv_iadd hx hb dX14_isUnder_31 ?_
        refine lv_topi (fun x_31 ex_31 => ?_)
        obtain rfl : x_31 = (nI (y + 1)) := ex_31.trans (nI_add y 1)
        refine lv_icmp_eq (tgt := 56) hx hb dX14_isUnder_32 (by decide) (fun c_32 => ?_) (fun c_32 => ?_)
        ·
          have hi_33 : z = (y + 1) := (nI_eq (a := z) (b := (y + 1)) (by omega) (by omega)).mp c_32
          refine lv_iconst (v := 0) hx hb dX14_isUnder_56 (by decide) ?_
          refine W.widen (k := 0) (n := 0) (by omega) (by omega) ?_
          exact W.zret (v := 0) (ty := .boolean) hx hb hr (by decide) (fun t ht hWm => ⟨⟨0, (), rfl, (Or.inr ⟨rfl, fun q => q.2.1.elim (fun c => absurd c (by omega)) (fun c => c.1 (by omega))⟩), ⟨F, QTm.mk ht hP hD hO hR⟩⟩, hS.F ht⟩) hS.2.2 dX14_isUnder_57
        ·
          have hi_34 : z ≠ (y + 1) := fun q => c_32 (by rw [q])
          refine lv_aload_n hx hb dX14_isUnder_35 rfl (lv_at hl 0 rfl) ?_
          refine pg_get (ci := 14) (v := .ref r0) (C := RX14) (T := TX14) (N := 2) hx hb hts it_14 hown hK hP hL_h0 hF0 rfl 0 (by decide) (hts _ kt_662) (fun _ h9 => h9) rfl dX14_isUnder_36 ?_
          refine lv_aload_n hx hb dX14_isUnder_39 rfl (lv_at hl 0 rfl) ?_
          refine pg_get (ci := 14) (v := .int (nI z)) (C := RX14) (T := TX14) (N := 2) hx hb hts it_14 hown hK hP hL_h0 hF0 rfl 1 (by decide) (hts _ kt_663) (fun _ h9 => h9) rfl dX14_isUnder_40 ?_
          refine lv_aload_n hx hb dX14_isUnder_43 rfl (lv_at hl 1 rfl) ?_
          refine pg_get (ci := 14) (v := .int (nI y)) (C := RX14) (T := TX14) (N := 2) hx hb hts it_14 hown hK hP hL_g1 hF1 rfl 1 (by decide) (hts _ kt_663) (fun _ h9 => h9) rfl dX14_isUnder_44 ?_
          refine lv_isub hx hb dX14_isUnder_47 ?_
          refine lv_topi (fun x_35 ex_35 => ?_)
          obtain rfl : x_35 = (nI (z - y)) := ex_35.trans (pk_sub (a := z) (b := y) (by omega))
          refine lv_iconst (v := 1) hx hb dX14_isUnder_48 (by decide) ?_
          refine lv_isub hx hb dX14_isUnder_49 ?_
          refine lv_topi (fun x_36 ex_36 => ?_)
          obtain rfl : x_36 = (nI ((z - y) - 1)) := ex_36.trans (pk_sub (a := (z - y)) (b := 1) (by omega))
          obtain ⟨hq_37, hq_38⟩ := hW.octs hi_1 ht_2
          refine pg_bald hx hb hK hP hi_1 1 hFr0 rfl (vp_in_nI (by omega) (by omega)) dX14_isUnder_50 ?_
          refine lv_topi (fun x_39 ex_39 => ?_)
          obtain rfl : x_39 = gf ((z - y) - 1) := ex_39.trans (congrArg gf (show ((nI ((z - y) - 1)) : Int32).toNatClampNeg = ((z - y) - 1) from nI_clamp (by omega)))
          refine lv_bipush (v := 46) hx hb dX14_isUnder_51 (by decide) ?_
          refine lv_icmp_eq (tgt := 58) hx hb dX14_isUnder_53 (by decide) (fun c_40 => ?_) (fun c_40 => ?_)
          ·
            refine W.widen (k := 0) (n := 0) (by omega) (by omega) ?_
            exact jn_10 () F (⟨by omega, Or.inr ⟨by omega, c_40⟩⟩) hO hR _ _ hP hD hS ls (lv_sub hl [0, 1] rfl)
          ·
            refine lv_iconst (v := 0) hx hb dX14_isUnder_56 (by decide) ?_
            refine W.widen (k := 0) (n := 0) (by omega) (by omega) ?_
            exact W.zret (v := 0) (ty := .boolean) hx hb hr (by decide) (fun t ht hWm => ⟨⟨0, (), rfl, (Or.inr ⟨rfl, fun q => q.2.1.elim (fun c => absurd c (by omega)) (fun c => c_40 c.2)⟩), ⟨F, QTm.mk ht hP hD hO hR⟩⟩, hS.F ht⟩) hS.2.2 dX14_isUnder_57
set_option maxHeartbeats 4000000 in
set_option maxRecDepth 100000 in
theorem s_X15_entry_d (l : Launch) (dC : Nat → ClassId) (dI : Nat → Nat → Nat) (cs : Nat → ClassId) (ty : TyM) (gm : Nat → Nat → Nat) (L : List Nat) (sz : Nat) (F : Nat → va_E) (h0 : Nat) (ρ : Nat) (ta : Nat) (ou : Nat) (so : Nat) (ad : Nat) (na : Nat) (va : Nat) (lc : Nat) (dm : Nat) (tg : Nat) (pe : Nat) (ml : Nat) (bg : Nat) (co : Nat) (sp : Nat) (nb0 : Nat) (nb1 : Nat) (nb2 : Nat) (pl : Nat) (se : Nat) (ke : Nat) (wi : Nat) (hs : Nat) (mo : Nat) (po : Nat) (nu : Nat) (pr : Nat) (sq : Nat) (xa : Nat) (sa : Nat) (n64 : Nat) (m64 : Nat) (ex : Nat) (wh : Nat) (sd : Nat) (tk : Nat) (hd : Nat) (ak : Nat) (ho : Nat) (ot : Nat) (sx : Nat) (s0 : Nat) (s1 : Nat) (s2 : Nat) (nf : Nat) (bd : Nat) (mm : Nat) (zo : Nat) (ze : Nat) (zt : Nat) (x1 : Int32) (x2 : Int32) (gt : Nat → Int32) (D : Nat → ETY) (hW : WTm ty gm L) (hL_h0 : h0 ∈ L) (hT_h0 : ty h0 = (15, ρ, [ta, ou, so, ad, na, va, lc, dm, tg, pe, ml, bg, co, sp, nb0, nb1, nb2, pl, se, ke, wi, hs, mo, po, nu, pr, sq, xa, sa, n64, m64, ex, wh, sd, tk, hd, ak, ho, ot, sx, s0, s1, s2, nf, bd, mm, zo, ze, zt])) (hFta : F ta = .inl (cs 17, 3000, .inl gt)) (hDM : DIRM cs F so ad na va ze D) : Met l yX15_entry (.code yX15_entry cX15_entry 7 (some .int) :: tb) ({ frames := 3, cells := 0, slots := 0, locals := 94 }) (va_Pc [.ref h0, .int x1, .int x2] (PTm (dC, dI) cs ty gm L F sz)) (va_Qi (fun (r : Int32) (c2 : Nat) => ENT ze c2 x1 gt zt r) (fun (c2 : Nat) T9 => ∃ F2 : Nat → va_E, ∃ ty2 : TyM, ty2 = rtf ty h0 (15, ρ, [ta, ou, so, ad, na, va, lc, dm, tg, pe, ml, bg, co, sp, nb0, nb1, nb2, pl, se, ke, wi, hs, mo, po, nu, pr, sq, xa, sa, n64, m64, ex, wh, sd, tk, hd, ak, ho, ot, sx, s0, s1, s2, nf, bd, mm, zo, c2, 0]) ∧ QTm (dC, dI) cs ty2 gm L [ρ, ρ + 3, ρ + 31, ρ + 4 + ze + 100, ρ + 50 + ze + 100] F F2 (va_A (va_pl L F) sz) T9 ∧ WTm ty2 gm L ∧ (∃ d : ETY, DIRM cs F2 so ad na va c2 (fun k => if k = ze then d else D k) ∧ (c2 = ze + 1 → ENX x1 x2 gt zt d))) (va_A (va_pl L F) sz)) 0 0 (va_A (va_pl L F) sz) := by
  refine Met.ofW (cc := cX15_entry) (maxL := 7) (ret := (some .int)) (by decide) rfl ?_
  intro p e s m args below meth c s₁ B hml hv
  obtain ⟨rfl, hsz, hP, hK, hD0, hE, hO⟩ := hv
  have hx := B.exec
  have hb := B.bytes
  have hr := B.returns
  have hts : ∀ w ∈ tb, w.before _ s = true := fun w h => atoms_spec (ws := .code yX15_entry cX15_entry 7 (some .int) :: tb) B.pre w (List.mem_cons_of_mem _ h)
  have hown : s.vm.findClass RX15 = some m.cls := findClass_of_methodNamed B.named
  have hlocks := B.notSynchronized
  subst hsz
  have hD := hD0.self (sz := s.heap.size)
  generalize hAe : va_A (va_pl L F) s.heap.size = A at hD ⊢
  have hA : ∀ q : Nat, s.heap.size ≤ q → A q := fun q h => by rw [← hAe]; exact Or.inr h
  have hS : va_S A s.heap s.heap [] := va_S.rf
  have hR : FR ty [ρ, ρ + 3, ρ + 31, ρ + 4 + ze + 100, ρ + 50 + ze + 100] F F := FR.refl
  have hl := lv_entry ([.ref h0, .int x1, .int x2]) (n := 7) (Nat.le_of_ble_eq_true rfl)
  rw [lg_entry_eq]
  generalize (lg_sl ([.ref h0, .int x1, .int x2]) ++ List.replicate (7 - (lg_sl ([.ref h0, .int x1, .int x2])).length) Slot.unset).toArray = ls at hl ⊢
  have hl : lv_has ls 7 [(0, .ref h0), (1, .int x1), (2, .int x2)] := hl
  obtain ⟨hq_23, hq_24, hq_25, hq_26, hq_27, hgO, hgA, hgB⟩ := hW.sc hL_h0 hT_h0
  have hO0 := hO
  have hW0 := hW
  have hT00 := hT_h0
  obtain ⟨hLs0, hTs0⟩ := hW.f_so hL_h0 hT_h0
  obtain ⟨hLd0, hTd0⟩ := hW.f_ad hL_h0 hT_h0
  obtain ⟨hLn0, hTn0⟩ := hW.f_na hL_h0 hT_h0
  obtain ⟨hLv0, hTv0⟩ := hW.f_va hL_h0 hT_h0
  obtain ⟨fs, fd, fn, fv, hd1, hd2, hd3, hd4, hd5⟩ := id hDM
  refine lv_aload_n hx hb dX15_entry_0 rfl (lv_at hl 0 rfl) ?_
  obtain ⟨v11_28, v12_29, v14_30, v15_31, v17_32, v18_33, v19_34, v20_35, v21_36, v22_37, v33_38, v52_39, v53_40, v54_41, hF_42, hq_43, hq_44, hq_45, hq_46⟩ := hO.mod hL_h0 hT_h0
  have hFc := pg_free hD hS hA
  refine va_calli (va_runV (As := []) (rest := []) ⟨hx, hb, hml, hown, hts⟩ (s_X15_used l dC dI cs ty gm L s.heap.size F h0 ρ ta ou so ad na va lc dm tg pe ml bg co sp nb0 nb1 nb2 pl se ke wi hs mo po nu pr sq xa sa n64 m64 ex wh sd tk hd ak ho ot sx s0 s1 s2 nf bd mm zo ze zt v11_28 v12_29 v14_30 v15_31 v17_32 v18_33 v19_34 v20_35 v21_36 v22_37 v33_38 v52_39 v53_40 v54_41 hW hL_h0 hT_h0 hF_42 (by first | omega | assumption) (by first | omega | assumption) (by first | omega | assumption) (by first | omega | assumption)) ⟨callB_of 0 hts (gi kt_1055) rfl rfl rfl (hts _ kt_659) (hts _ kt_1056) (by decide +kernel) ⟨Nat.le_of_ble_eq_true rfl, Nat.le_of_ble_eq_true rfl⟩, (hts _ kt_1057), (hts _ kt_1058)⟩ ⟨fun a U g mk q => ⟨q.1, PTm.calling q.2⟩, pg_recv hK hP hL_h0 hF_42 (q := (RX15, TX15, 59)) rfl, fun U hU hWm => ⟨rfl, PTm.mk hU hWm hP hK hD hE hO⟩⟩ rfl rfl hl.1 rfl (lv_room (Nat.le_of_ble_eq_true rfl)) dX15_entry_1 ⟨by show _ + 0 ≤ 0; omega, by show _ + 0 ≤ 0; omega⟩) hS (fun q _ h => hFc q h) hFc (fun r_47 u t H1 locs ht hvm hw hB hz1 hk1 hS => ?_)
  obtain ⟨F_48, ty9, hty9, hB1, hW9, hq_49⟩ := hB
  subst hty9
  have hR9 := FR.retype (im2 := [ta, ou, so, ad, na, va, lc, dm, tg, pe, ml, bg, co, sp, nb0, nb1, nb2, pl, se, ke, wi, hs, mo, po, nu, pr, sq, xa, sa, n64, m64, ex, wh, sd, tk, hd, ak, ho, ot, sx, s0, s1, s2, nf, bd, mm, zo, ze, 0]) hT_h0 hR
  obtain ⟨hP, hD, hO, hR⟩ := QTm.back hB1 ht hFc hR9 (fun q h => by simp only [List.mem_cons, List.not_mem_nil, or_false] at h ⊢; omega)
  obtain ⟨ty, hty, hT_h0, hW, hO, hR⟩ : ∃ t9 : TyM, t9 = rtf ty h0 (15, ρ, [ta, ou, so, ad, na, va, lc, dm, tg, pe, ml, bg, co, sp, nb0, nb1, nb2, pl, se, ke, wi, hs, mo, po, nu, pr, sq, xa, sa, n64, m64, ex, wh, sd, tk, hd, ak, ho, ot, sx, s0, s1, s2, nf, bd, mm, zo, ze, 0]) ∧ t9 h0 = (15, ρ, [ta, ou, so, ad, na, va, lc, dm, tg, pe, ml, bg, co, sp, nb0, nb1, nb2, pl, se, ke, wi, hs, mo, po, nu, pr, sq, xa, sa, n64, m64, ex, wh, sd, tk, hd, ak, ho, ot, sx, s0, s1, s2, nf, bd, mm, zo, ze, 0]) ∧ WTm t9 gm L ∧ OKm cs t9 gm L F_48 ∧ FR t9 [ρ, ρ + 3, ρ + 31, ρ + 4 + ze + 100, ρ + 50 + ze + 100] F F_48 := ⟨_, rfl, rtf_self, hW9, hO, hR⟩
  generalize H1 = H at hP hS ⊢
  have hw : r_47 = nI zt := hw
  subst hw
  obtain ⟨hq_72, hq_73, hq_74, hq_75, hq_76, hgO, hgA, hgB⟩ := hW.sc hL_h0 hT_h0
  obtain ⟨hi_78, ht_79⟩ := hW.f_ta hL_h0 hT_h0
  have hF_77 : F_48 ta = .inl (cs 17, 3000, .inl gt) := (hB1.2.2.2 ta (by rw [← hty, ht_79]; simp)).trans hFta
  obtain ⟨hi_81, ht_82⟩ := hW.f_so hL_h0 hT_h0
  have hF_80 : F_48 so = .inl (cs 16, 40, .inl fs) := (hB1.2.2.2 so (by rw [← hty, ht_82]; simp)).trans hd1
  obtain ⟨hi_84, ht_85⟩ := hW.f_ad hL_h0 hT_h0
  have hF_83 : F_48 ad = .inl (cs 16, 40, .inl fd) := (hB1.2.2.2 ad (by rw [← hty, ht_85]; simp)).trans hd2
  refine lv_istore_n (lv' := [(3, .int (nI zt)), (0, .ref h0), (1, .int x1), (2, .int x2)]) hx hb dX15_entry_4 rfl hl (by decide) rfl (fun ls hl => ?_)
  refine lv_iconst (v := 0) hx hb dX15_entry_5 (by decide) ?_
  refine lv_istore (lv' := [(4, .int 0), (3, .int (nI zt)), (0, .ref h0), (1, .int x1), (2, .int x2)]) hx hb dX15_entry_6 hl (by decide) rfl (fun ls hl => ?_)
  refine lv_aload_n hx hb dX15_entry_8 rfl (lv_at hl 2 rfl) ?_
  refine pg_get (ci := 15) (v := .int (nI ze)) (C := RX15) (T := TX15) (N := 59) hx hb hts it_15 hown hK hP hL_h0 hq_49 rfl 3 (by decide) (hts _ kt_714) (fun _ h9 => h9) rfl dX15_entry_9 ?_
  refine lv_bipush (v := 40) hx hb dX15_entry_12 (by decide) ?_
  refine lv_icmp_ne (tgt := 20) hx hb dX15_entry_14 (by decide) (fun c_86 => ?_) (fun c_86 => ?_)
  ·
    have hi_87 : ze ≠ 40 := fun q => c_86 (by rw [q]; rfl)
    have hc40 : ze ≠ 40 := by omega
    refine lv_iload_n hx hb dX15_entry_20 rfl (lv_at hl 3 rfl) ?_
    refine lv_i2l (v := x1.toInt64) hx hb dX15_entry_21 rfl ?_
    refine lv_lconst (v := 0) hx hb dX15_entry_22 (by decide) ?_
    refine lv_ldc2 (v := 4) hx hb hown (hts _ kt_1200) dX15_entry_23 ?_
    have hFc := pg_free hD hS hA
    refine va_calli (va_runS (As := [.long x1.toInt64, .long 0, .long 4]) (rest := []) ⟨hx, hb, hml, hown, hts⟩ (s_X15_in l dC dI cs ty gm L H.size F_48 x1.toInt64 0 4 hW ) ⟨callB_of 3 hts (gi kt_675) rfl rfl rfl (hts _ kt_659) (hts _ kt_695) (by decide +kernel) ⟨Nat.le_of_ble_eq_true rfl, Nat.le_of_ble_eq_true rfl⟩, (hts _ kt_676)⟩ ⟨fun a U g mk q => ⟨q.1, PTm.calling q.2⟩, fun U hU hWm => ⟨rfl, PTm.mk hU hWm hP hK hD hE hO⟩⟩ rfl rfl hl.1 rfl (lv_room (Nat.le_of_ble_eq_true rfl)) dX15_entry_26 ⟨by show _ + 0 ≤ 0; omega, by show _ + 0 ≤ 0; omega⟩) hS (fun q _ h => hFc q h) hFc (fun r_88 u t H1 locs ht hvm hw hB hz1 hk1 hS => ?_)
    obtain ⟨F_89, hB1⟩ := hB
    obtain rfl : F_48 = F_89 := (funext (fun a => hB1.2.2.2 a List.not_mem_nil)).symm
    obtain ⟨hP, hD, hO, hR⟩ := QTm.back hB1 ht hFc hR (fun q h => absurd h List.not_mem_nil)
    generalize H1 = H at hP hS ⊢
    have hw : r_88 = (if 0 ≤ x1.toInt64 ∧ x1.toInt64 ≤ 4 then 1 else 0) := hw
    have hw_90 := hw
    refine lv_if_ne (tgt := 34) hx hb dX15_entry_29 (by decide) (fun c_91 => ?_) (fun c_91 => ?_)
    ·
      obtain ⟨hx0, hx4⟩ := ((in_04 hw_90).resolve_left (fun q => c_91 q.1)).2
      have hF_94 : F ta = .inl (cs 17, 3000, .inl gt) := (hR ta (by rw [ht_79]; simp only [List.mem_cons, List.not_mem_nil, or_false]; omega)).symm.trans hF_77
      refine W.widen (k := 0) (n := 0) (by omega) (by omega) ?_
      refine pl_cutm (σ := Int32) A (dC, dI) cs ty gm L [ρ, ρ + 3, ρ + 31, ρ + 4 + ze + 100, ρ + 50 + ze + 100] F 48 7 (fun s5 => [(4, .int 0), (3, .int (nI zt)), (0, .ref h0), (1, .int x1), (2, .int x2)]) (fun s5 => [.int s5]) (fun s5 FF => (s5 = 0 ∨ s5 = 1) ∧ (s5 = 1 → (x1 = 0 ∨ x1 = 2)) ∧ (s5 = 0 → ¬ (x1 = 0 ∨ x1 = 2)) ∧ FF h0 = .inr (15, (.ref ta) :: (.int 0) :: (.int (nI zo)) :: (.int (nI ze)) :: (.ref ou) :: (.ref so) :: (.ref ad) :: (.ref na) :: (.ref va) :: (.ref lc) :: (.ref dm) :: (.int v11_28) :: (.int v12_29) :: (.ref tg) :: (.int v14_30) :: (.int v15_31) :: (.ref pe) :: (.int v17_32) :: (.int v18_33) :: (.int v19_34) :: (.int v20_35) :: (.int v21_36) :: (.int v22_37) :: (.ref ml) :: (.ref bg) :: (.ref co) :: (.ref sp) :: (.ref nb0) :: (.ref nb1) :: (.ref nb2) :: (.int (nI nf)) :: (.int (nI bd)) :: (.int (nI mm)) :: (.int v33_38) :: (.ref pl) :: (.ref se) :: (.ref ke) :: (.ref wi) :: (.ref hs) :: (.ref mo) :: (.ref po) :: (.ref nu) :: (.ref pr) :: (.ref sq) :: (.ref xa) :: (.ref sa) :: (.ref n64) :: (.ref m64) :: (.ref ex) :: (.ref wh) :: (.ref sd) :: (.ref tk) :: (.int v52_39) :: (.int v53_40) :: (.int v54_41) :: (.ref hd) :: (.ref ak) :: (.ref ho) :: (.ref ot) :: []) ∧ FF so = .inl (cs 16, 40, .inl fs) ∧ FF ad = .inl (cs 16, 40, .inl fd)) ?_ (fun jn_92 => ?_)
      ·
        rintro s5 F_93 hv_95 hO hR H locs hP hD hS ls hl
        have hl : lv_has ls 7 [(4, .int 0), (3, .int (nI zt)), (0, .ref h0), (1, .int x1), (2, .int x2)] := hl
        have hv_95 : (s5 = 0 ∨ s5 = 1) ∧ (s5 = 1 → (x1 = 0 ∨ x1 = 2)) ∧ (s5 = 0 → ¬ (x1 = 0 ∨ x1 = 2)) ∧ F_93 h0 = .inr (15, (.ref ta) :: (.int 0) :: (.int (nI zo)) :: (.int (nI ze)) :: (.ref ou) :: (.ref so) :: (.ref ad) :: (.ref na) :: (.ref va) :: (.ref lc) :: (.ref dm) :: (.int v11_28) :: (.int v12_29) :: (.ref tg) :: (.int v14_30) :: (.int v15_31) :: (.ref pe) :: (.int v17_32) :: (.int v18_33) :: (.int v19_34) :: (.int v20_35) :: (.int v21_36) :: (.int v22_37) :: (.ref ml) :: (.ref bg) :: (.ref co) :: (.ref sp) :: (.ref nb0) :: (.ref nb1) :: (.ref nb2) :: (.int (nI nf)) :: (.int (nI bd)) :: (.int (nI mm)) :: (.int v33_38) :: (.ref pl) :: (.ref se) :: (.ref ke) :: (.ref wi) :: (.ref hs) :: (.ref mo) :: (.ref po) :: (.ref nu) :: (.ref pr) :: (.ref sq) :: (.ref xa) :: (.ref sa) :: (.ref n64) :: (.ref m64) :: (.ref ex) :: (.ref wh) :: (.ref sd) :: (.ref tk) :: (.int v52_39) :: (.int v53_40) :: (.int v54_41) :: (.ref hd) :: (.ref ak) :: (.ref ho) :: (.ref ot) :: []) ∧ F_93 so = .inl (cs 16, 40, .inl fs) ∧ F_93 ad = .inl (cs 16, 40, .inl fd) := hv_95
        refine W.eq (g2 := F0 m 48 ls [.int s5]) rfl ?_
        have hF_96 : F_93 ta = .inl (cs 17, 3000, .inl gt) := (hR ta (by rw [ht_79]; simp only [List.mem_cons, List.not_mem_nil, or_false]; omega)).trans hF_94
        obtain ⟨hs5, hs5x, hs5n, hs5h⟩ := hv_95
        obtain ⟨hs5h, hs5hso, hs5had⟩ := hs5h
        refine lv_istore (lv' := [(5, .int s5), (4, .int 0), (3, .int (nI zt)), (0, .ref h0), (1, .int x1), (2, .int x2)]) hx hb dX15_entry_48 hl (by decide) rfl (fun ls hl => ?_)
        obtain ⟨hq_97, hq_98⟩ := hW.ints hi_81 ht_82
        obtain ⟨hq_99, hq_100⟩ := hW.ints hi_84 ht_85
        refine W.widen (k := 0) (n := 0) (by omega) (by omega) ?_
        have hF_102 : F ta = .inl (cs 17, 3000, .inl gt) := (hR ta (by rw [ht_79]; simp only [List.mem_cons, List.not_mem_nil, or_false]; omega)).symm.trans hF_96
        refine pl_loopm (σ := Nat) A (dC, dI) cs ty gm L [ρ, ρ + 3, ρ + 31, ρ + 4 + ze + 100, ρ + 50 + ze + 100] F 50 7 (fun j => [(5, .int s5), (4, .int (nI j)), (3, .int (nI zt)), (0, .ref h0), (1, .int x1), (2, .int x2)]) (fun j => []) (fun j FF => j ≤ zt ∧ (∀ i, i < j → ¬ gt i = 32) ∧ FF h0 = .inr (15, (.ref ta) :: (.int 0) :: (.int (nI zo)) :: (.int (nI ze)) :: (.ref ou) :: (.ref so) :: (.ref ad) :: (.ref na) :: (.ref va) :: (.ref lc) :: (.ref dm) :: (.int v11_28) :: (.int v12_29) :: (.ref tg) :: (.int v14_30) :: (.int v15_31) :: (.ref pe) :: (.int v17_32) :: (.int v18_33) :: (.int v19_34) :: (.int v20_35) :: (.int v21_36) :: (.int v22_37) :: (.ref ml) :: (.ref bg) :: (.ref co) :: (.ref sp) :: (.ref nb0) :: (.ref nb1) :: (.ref nb2) :: (.int (nI nf)) :: (.int (nI bd)) :: (.int (nI mm)) :: (.int v33_38) :: (.ref pl) :: (.ref se) :: (.ref ke) :: (.ref wi) :: (.ref hs) :: (.ref mo) :: (.ref po) :: (.ref nu) :: (.ref pr) :: (.ref sq) :: (.ref xa) :: (.ref sa) :: (.ref n64) :: (.ref m64) :: (.ref ex) :: (.ref wh) :: (.ref sd) :: (.ref tk) :: (.int v52_39) :: (.int v53_40) :: (.int v54_41) :: (.ref hd) :: (.ref ak) :: (.ref ho) :: (.ref ot) :: []) ∧ FF so = .inl (cs 16, 40, .inl fs) ∧ FF ad = .inl (cs 16, 40, .inl fd)) (fun j => zt - j) ?_ 0 F_93 (⟨by omega, fun i hi => absurd hi (Nat.not_lt_zero _), hs5h, hs5hso, hs5had⟩) hO hR _ _ hP hD hS ls (lv_sub hl [0, 1, 2, 3, 4, 5] rfl)
        rintro j F_101 hv_103 hO hR ih_104 H locs hP hD hS ls hl
        have hl : lv_has ls 7 [(5, .int s5), (4, .int (nI j)), (3, .int (nI zt)), (0, .ref h0), (1, .int x1), (2, .int x2)] := hl
        have hv_103 : j ≤ zt ∧ (∀ i, i < j → ¬ gt i = 32) ∧ F_101 h0 = .inr (15, (.ref ta) :: (.int 0) :: (.int (nI zo)) :: (.int (nI ze)) :: (.ref ou) :: (.ref so) :: (.ref ad) :: (.ref na) :: (.ref va) :: (.ref lc) :: (.ref dm) :: (.int v11_28) :: (.int v12_29) :: (.ref tg) :: (.int v14_30) :: (.int v15_31) :: (.ref pe) :: (.int v17_32) :: (.int v18_33) :: (.int v19_34) :: (.int v20_35) :: (.int v21_36) :: (.int v22_37) :: (.ref ml) :: (.ref bg) :: (.ref co) :: (.ref sp) :: (.ref nb0) :: (.ref nb1) :: (.ref nb2) :: (.int (nI nf)) :: (.int (nI bd)) :: (.int (nI mm)) :: (.int v33_38) :: (.ref pl) :: (.ref se) :: (.ref ke) :: (.ref wi) :: (.ref hs) :: (.ref mo) :: (.ref po) :: (.ref nu) :: (.ref pr) :: (.ref sq) :: (.ref xa) :: (.ref sa) :: (.ref n64) :: (.ref m64) :: (.ref ex) :: (.ref wh) :: (.ref sd) :: (.ref tk) :: (.int v52_39) :: (.int v53_40) :: (.int v54_41) :: (.ref hd) :: (.ref ak) :: (.ref ho) :: (.ref ot) :: []) ∧ F_101 so = .inl (cs 16, 40, .inl fs) ∧ F_101 ad = .inl (cs 16, 40, .inl fd) := hv_103
        refine W.eq (g2 := F0 m 50 ls []) rfl ?_
        have hF_105 : F_101 ta = .inl (cs 17, 3000, .inl gt) := (hR ta (by rw [ht_79]; simp only [List.mem_cons, List.not_mem_nil, or_false]; omega)).trans hF_102
        obtain ⟨ha1, ha3, ha2⟩ := hv_103
        obtain ⟨ha2, ha2so, ha2ad⟩ := ha2
        refine lv_iload hx hb dX15_entry_50 (lv_at hl 0 rfl) ?_
        refine lv_if_eq (tgt := 79) hx hb dX15_entry_52 (by decide) (fun c_106 => ?_) (fun c_106 => ?_)
        ·
          have hfst : s5 = 1 → FST gt 32 zt j := fun h => absurd (h.symm.trans c_106) (by decide)
          have hF_109 : F ta = .inl (cs 17, 3000, .inl gt) := (hR ta (by rw [ht_79]; simp only [List.mem_cons, List.not_mem_nil, or_false]; omega)).symm.trans hF_105
          refine W.widen (k := 0) (n := 0) (by omega) (by omega) ?_
          refine pl_cutm (σ := Int32) A (dC, dI) cs ty gm L [ρ, ρ + 3, ρ + 31, ρ + 4 + ze + 100, ρ + 50 + ze + 100] F 90 7 (fun s6 => [(5, .int s5), (4, .int (nI j)), (3, .int (nI zt)), (0, .ref h0), (1, .int x1), (2, .int x2)]) (fun s6 => [.int s6]) (fun s6 FF => (∃ k : Nat, k ≤ zt ∧ s6 = nI k ∧ (s5 = 1 → k = j) ∧ (s5 = 0 → k = zt)) ∧ FF h0 = .inr (15, (.ref ta) :: (.int 0) :: (.int (nI zo)) :: (.int (nI ze)) :: (.ref ou) :: (.ref so) :: (.ref ad) :: (.ref na) :: (.ref va) :: (.ref lc) :: (.ref dm) :: (.int v11_28) :: (.int v12_29) :: (.ref tg) :: (.int v14_30) :: (.int v15_31) :: (.ref pe) :: (.int v17_32) :: (.int v18_33) :: (.int v19_34) :: (.int v20_35) :: (.int v21_36) :: (.int v22_37) :: (.ref ml) :: (.ref bg) :: (.ref co) :: (.ref sp) :: (.ref nb0) :: (.ref nb1) :: (.ref nb2) :: (.int (nI nf)) :: (.int (nI bd)) :: (.int (nI mm)) :: (.int v33_38) :: (.ref pl) :: (.ref se) :: (.ref ke) :: (.ref wi) :: (.ref hs) :: (.ref mo) :: (.ref po) :: (.ref nu) :: (.ref pr) :: (.ref sq) :: (.ref xa) :: (.ref sa) :: (.ref n64) :: (.ref m64) :: (.ref ex) :: (.ref wh) :: (.ref sd) :: (.ref tk) :: (.int v52_39) :: (.int v53_40) :: (.int v54_41) :: (.ref hd) :: (.ref ak) :: (.ref ho) :: (.ref ot) :: []) ∧ FF so = .inl (cs 16, 40, .inl fs) ∧ FF ad = .inl (cs 16, 40, .inl fd)) ?_ (fun jn_107 => ?_)
          ·
            rintro s6 F_108 hv_110 hO hR H locs hP hD hS ls hl
            have hl : lv_has ls 7 [(5, .int s5), (4, .int (nI j)), (3, .int (nI zt)), (0, .ref h0), (1, .int x1), (2, .int x2)] := hl
            have hv_110 : (∃ k : Nat, k ≤ zt ∧ s6 = nI k ∧ (s5 = 1 → k = j) ∧ (s5 = 0 → k = zt)) ∧ F_108 h0 = .inr (15, (.ref ta) :: (.int 0) :: (.int (nI zo)) :: (.int (nI ze)) :: (.ref ou) :: (.ref so) :: (.ref ad) :: (.ref na) :: (.ref va) :: (.ref lc) :: (.ref dm) :: (.int v11_28) :: (.int v12_29) :: (.ref tg) :: (.int v14_30) :: (.int v15_31) :: (.ref pe) :: (.int v17_32) :: (.int v18_33) :: (.int v19_34) :: (.int v20_35) :: (.int v21_36) :: (.int v22_37) :: (.ref ml) :: (.ref bg) :: (.ref co) :: (.ref sp) :: (.ref nb0) :: (.ref nb1) :: (.ref nb2) :: (.int (nI nf)) :: (.int (nI bd)) :: (.int (nI mm)) :: (.int v33_38) :: (.ref pl) :: (.ref se) :: (.ref ke) :: (.ref wi) :: (.ref hs) :: (.ref mo) :: (.ref po) :: (.ref nu) :: (.ref pr) :: (.ref sq) :: (.ref xa) :: (.ref sa) :: (.ref n64) :: (.ref m64) :: (.ref ex) :: (.ref wh) :: (.ref sd) :: (.ref tk) :: (.int v52_39) :: (.int v53_40) :: (.int v54_41) :: (.ref hd) :: (.ref ak) :: (.ref ho) :: (.ref ot) :: []) ∧ F_108 so = .inl (cs 16, 40, .inl fs) ∧ F_108 ad = .inl (cs 16, 40, .inl fd) := hv_110
            refine W.eq (g2 := F0 m 90 ls [.int s6]) rfl ?_
            have hF_111 : F_108 ta = .inl (cs 17, 3000, .inl gt) := (hR ta (by rw [ht_79]; simp only [List.mem_cons, List.not_mem_nil, or_false]; omega)).trans hF_109
            obtain ⟨⟨kend, hke, eke, hk1e, hk0e⟩, hb2⟩ := hv_110
            subst eke
            refine W.eq (g2 := F0 m 90 ls [.int (nI kend)]) rfl ?_
            obtain ⟨hb2, hb2so, hb2ad⟩ := hb2
            refine lv_istore (lv' := [(6, .int (nI kend)), (5, .int s5), (4, .int (nI j)), (3, .int (nI zt)), (0, .ref h0), (1, .int x1), (2, .int x2)]) hx hb dX15_entry_90 hl (by decide) rfl (fun ls hl => ?_)
            have hF_114 : F ta = .inl (cs 17, 3000, .inl gt) := (hR ta (by rw [ht_79]; simp only [List.mem_cons, List.not_mem_nil, or_false]; omega)).symm.trans hF_111
            refine W.widen (k := 0) (n := 0) (by omega) (by omega) ?_
            refine pl_cutm (σ := Unit) A (dC, dI) cs ty gm L [ρ, ρ + 3, ρ + 31, ρ + 4 + ze + 100, ρ + 50 + ze + 100] F 118 7 (fun u0 => [(6, .int (nI kend)), (5, .int s5), (4, .int (nI j)), (3, .int (nI zt)), (0, .ref h0), (1, .int x1), (2, .int x2)]) (fun u0 => []) (fun u0 FF => NM gt 0 kend = true ∧ kend ≤ 60 ∧ (s5 = 1 → j < zt) ∧ FF h0 = .inr (15, (.ref ta) :: (.int 0) :: (.int (nI zo)) :: (.int (nI ze)) :: (.ref ou) :: (.ref so) :: (.ref ad) :: (.ref na) :: (.ref va) :: (.ref lc) :: (.ref dm) :: (.int v11_28) :: (.int v12_29) :: (.ref tg) :: (.int v14_30) :: (.int v15_31) :: (.ref pe) :: (.int v17_32) :: (.int v18_33) :: (.int v19_34) :: (.int v20_35) :: (.int v21_36) :: (.int v22_37) :: (.ref ml) :: (.ref bg) :: (.ref co) :: (.ref sp) :: (.ref nb0) :: (.ref nb1) :: (.ref nb2) :: (.int (nI nf)) :: (.int (nI bd)) :: (.int (nI mm)) :: (.int v33_38) :: (.ref pl) :: (.ref se) :: (.ref ke) :: (.ref wi) :: (.ref hs) :: (.ref mo) :: (.ref po) :: (.ref nu) :: (.ref pr) :: (.ref sq) :: (.ref xa) :: (.ref sa) :: (.ref n64) :: (.ref m64) :: (.ref ex) :: (.ref wh) :: (.ref sd) :: (.ref tk) :: (.int v52_39) :: (.int v53_40) :: (.int v54_41) :: (.ref hd) :: (.ref ak) :: (.ref ho) :: (.ref ot) :: []) ∧ FF so = .inl (cs 16, 40, .inl fs) ∧ FF ad = .inl (cs 16, 40, .inl fd)) ?_ (fun jn_112 => ?_)
            ·
              rintro u0 F_113 hv_115 hO hR H locs hP hD hS ls hl
              have hl : lv_has ls 7 [(6, .int (nI kend)), (5, .int s5), (4, .int (nI j)), (3, .int (nI zt)), (0, .ref h0), (1, .int x1), (2, .int x2)] := hl
              have hv_115 : NM gt 0 kend = true ∧ kend ≤ 60 ∧ (s5 = 1 → j < zt) ∧ F_113 h0 = .inr (15, (.ref ta) :: (.int 0) :: (.int (nI zo)) :: (.int (nI ze)) :: (.ref ou) :: (.ref so) :: (.ref ad) :: (.ref na) :: (.ref va) :: (.ref lc) :: (.ref dm) :: (.int v11_28) :: (.int v12_29) :: (.ref tg) :: (.int v14_30) :: (.int v15_31) :: (.ref pe) :: (.int v17_32) :: (.int v18_33) :: (.int v19_34) :: (.int v20_35) :: (.int v21_36) :: (.int v22_37) :: (.ref ml) :: (.ref bg) :: (.ref co) :: (.ref sp) :: (.ref nb0) :: (.ref nb1) :: (.ref nb2) :: (.int (nI nf)) :: (.int (nI bd)) :: (.int (nI mm)) :: (.int v33_38) :: (.ref pl) :: (.ref se) :: (.ref ke) :: (.ref wi) :: (.ref hs) :: (.ref mo) :: (.ref po) :: (.ref nu) :: (.ref pr) :: (.ref sq) :: (.ref xa) :: (.ref sa) :: (.ref n64) :: (.ref m64) :: (.ref ex) :: (.ref wh) :: (.ref sd) :: (.ref tk) :: (.int v52_39) :: (.int v53_40) :: (.int v54_41) :: (.ref hd) :: (.ref ak) :: (.ref ho) :: (.ref ot) :: []) ∧ F_113 so = .inl (cs 16, 40, .inl fs) ∧ F_113 ad = .inl (cs 16, 40, .inl fd) := hv_115
              refine W.eq (g2 := F0 m 118 ls []) rfl ?_
              have hF_116 : F_113 ta = .inl (cs 17, 3000, .inl gt) := (hR ta (by rw [ht_79]; simp only [List.mem_cons, List.not_mem_nil, or_false]; omega)).trans hF_114
              obtain ⟨hn1, hn6, hn2, hn3⟩ := hv_115
              obtain ⟨hn3, hn3so, hn3ad⟩ := hn3
              have hF_119 : F ta = .inl (cs 17, 3000, .inl gt) := (hR ta (by rw [ht_79]; simp only [List.mem_cons, List.not_mem_nil, or_false]; omega)).symm.trans hF_116
              refine W.widen (k := 0) (n := 0) (by omega) (by omega) ?_
              refine pl_cutm (σ := Unit) A (dC, dI) cs ty gm L [ρ, ρ + 3, ρ + 31, ρ + 4 + ze + 100, ρ + 50 + ze + 100] F 156 7 (fun u0 => [(6, .int (nI kend)), (5, .int s5), (4, .int (nI j)), (3, .int (nI zt)), (0, .ref h0), (1, .int x1), (2, .int x2)]) (fun u0 => []) (fun u0 FF => (s5 = 1 → ISV x1 gt zt j ∧ zt - j - 1 ≤ 700) ∧ FF h0 = .inr (15, (.ref ta) :: (.int 0) :: (.int (nI zo)) :: (.int (nI ze)) :: (.ref ou) :: (.ref so) :: (.ref ad) :: (.ref na) :: (.ref va) :: (.ref lc) :: (.ref dm) :: (.int v11_28) :: (.int v12_29) :: (.ref tg) :: (.int v14_30) :: (.int v15_31) :: (.ref pe) :: (.int v17_32) :: (.int v18_33) :: (.int v19_34) :: (.int v20_35) :: (.int v21_36) :: (.int v22_37) :: (.ref ml) :: (.ref bg) :: (.ref co) :: (.ref sp) :: (.ref nb0) :: (.ref nb1) :: (.ref nb2) :: (.int (nI nf)) :: (.int (nI bd)) :: (.int (nI mm)) :: (.int v33_38) :: (.ref pl) :: (.ref se) :: (.ref ke) :: (.ref wi) :: (.ref hs) :: (.ref mo) :: (.ref po) :: (.ref nu) :: (.ref pr) :: (.ref sq) :: (.ref xa) :: (.ref sa) :: (.ref n64) :: (.ref m64) :: (.ref ex) :: (.ref wh) :: (.ref sd) :: (.ref tk) :: (.int v52_39) :: (.int v53_40) :: (.int v54_41) :: (.ref hd) :: (.ref ak) :: (.ref ho) :: (.ref ot) :: []) ∧ FF so = .inl (cs 16, 40, .inl fs) ∧ FF ad = .inl (cs 16, 40, .inl fd)) ?_ (fun jn_117 => ?_)
              ·
                rintro u0 F_118 hv_120 hO hR H locs hP hD hS ls hl
                have hl : lv_has ls 7 [(6, .int (nI kend)), (5, .int s5), (4, .int (nI j)), (3, .int (nI zt)), (0, .ref h0), (1, .int x1), (2, .int x2)] := hl
                have hv_120 : (s5 = 1 → ISV x1 gt zt j ∧ zt - j - 1 ≤ 700) ∧ F_118 h0 = .inr (15, (.ref ta) :: (.int 0) :: (.int (nI zo)) :: (.int (nI ze)) :: (.ref ou) :: (.ref so) :: (.ref ad) :: (.ref na) :: (.ref va) :: (.ref lc) :: (.ref dm) :: (.int v11_28) :: (.int v12_29) :: (.ref tg) :: (.int v14_30) :: (.int v15_31) :: (.ref pe) :: (.int v17_32) :: (.int v18_33) :: (.int v19_34) :: (.int v20_35) :: (.int v21_36) :: (.int v22_37) :: (.ref ml) :: (.ref bg) :: (.ref co) :: (.ref sp) :: (.ref nb0) :: (.ref nb1) :: (.ref nb2) :: (.int (nI nf)) :: (.int (nI bd)) :: (.int (nI mm)) :: (.int v33_38) :: (.ref pl) :: (.ref se) :: (.ref ke) :: (.ref wi) :: (.ref hs) :: (.ref mo) :: (.ref po) :: (.ref nu) :: (.ref pr) :: (.ref sq) :: (.ref xa) :: (.ref sa) :: (.ref n64) :: (.ref m64) :: (.ref ex) :: (.ref wh) :: (.ref sd) :: (.ref tk) :: (.int v52_39) :: (.int v53_40) :: (.int v54_41) :: (.ref hd) :: (.ref ak) :: (.ref ho) :: (.ref ot) :: []) ∧ F_118 so = .inl (cs 16, 40, .inl fs) ∧ F_118 ad = .inl (cs 16, 40, .inl fd) := hv_120
                refine W.eq (g2 := F0 m 156 ls []) rfl ?_
                have hF_121 : F_118 ta = .inl (cs 17, 3000, .inl gt) := (hR ta (by rw [ht_79]; simp only [List.mem_cons, List.not_mem_nil, or_false]; omega)).trans hF_119
                obtain ⟨ho1, ho2⟩ := hv_120
                obtain ⟨ho2, ho2so, ho2ad⟩ := ho2
                refine lv_aload_n hx hb dX15_entry_156 rfl (lv_at hl 4 rfl) ?_
                refine pg_get (ci := 15) (v := .ref so) (C := RX15) (T := TX15) (N := 59) hx hb hts it_15 hown hK hP hL_h0 ho2 rfl 5 (by decide) (hts _ kt_708) (fun _ h9 => h9) rfl dX15_entry_157 ?_
                refine lv_aload_n hx hb dX15_entry_160 rfl (lv_at hl 4 rfl) ?_
                refine pg_get (ci := 15) (v := .int (nI ze)) (C := RX15) (T := TX15) (N := 59) hx hb hts it_15 hown hK hP hL_h0 ho2 rfl 3 (by decide) (hts _ kt_714) (fun _ h9 => h9) rfl dX15_entry_161 ?_
                refine lv_iload_n hx hb dX15_entry_164 rfl (lv_at hl 5 rfl) ?_
                refine pg_iast hx hb hK hP hD hS hi_81 0 ho2so rfl (vp_in_nI (by omega) (by omega)) dX15_entry_165 (fun H locs hP hD hS => ?_)
                obtain ⟨F_122, he_123, hP, hD, hO, hR⟩ : ∃ G, G = va_up F_118 so (.inl (cs 16, 40, .inl (upd fs ((nI ze)).toNatClampNeg (x1)))) ∧ va_P (dC, dI) vwCl (va_pl L G) H ∧ va_D A (va_pl L G) ∧ OKm cs ty gm L G ∧ FR ty [ρ, ρ + 3, ρ + 31, ρ + 4 + ze + 100, ρ + 50 + ze + 100] F G := ⟨_, rfl, hP, hD, hO.up (shm.ints ht_82 ⟨_, rfl⟩), hR.up ht_82 (by simp)⟩
                have hF_124 : F_122 so = .inl (cs 16, 40, .inl (upd fs ((nI ze)).toNatClampNeg (x1))) := by rw [he_123]; exact up_self
                have hF_125 : F_122 ta = .inl (cs 17, 3000, .inl gt) := by rw [he_123, up_ne (ne_ty ht_79 ht_82 (by simp))]; exact hF_121
                have hF_126 : F_122 h0 = .inr (15, (.ref ta) :: (.int 0) :: (.int (nI zo)) :: (.int (nI ze)) :: (.ref ou) :: (.ref so) :: (.ref ad) :: (.ref na) :: (.ref va) :: (.ref lc) :: (.ref dm) :: (.int v11_28) :: (.int v12_29) :: (.ref tg) :: (.int v14_30) :: (.int v15_31) :: (.ref pe) :: (.int v17_32) :: (.int v18_33) :: (.int v19_34) :: (.int v20_35) :: (.int v21_36) :: (.int v22_37) :: (.ref ml) :: (.ref bg) :: (.ref co) :: (.ref sp) :: (.ref nb0) :: (.ref nb1) :: (.ref nb2) :: (.int (nI nf)) :: (.int (nI bd)) :: (.int (nI mm)) :: (.int v33_38) :: (.ref pl) :: (.ref se) :: (.ref ke) :: (.ref wi) :: (.ref hs) :: (.ref mo) :: (.ref po) :: (.ref nu) :: (.ref pr) :: (.ref sq) :: (.ref xa) :: (.ref sa) :: (.ref n64) :: (.ref m64) :: (.ref ex) :: (.ref wh) :: (.ref sd) :: (.ref tk) :: (.int v52_39) :: (.int v53_40) :: (.int v54_41) :: (.ref hd) :: (.ref ak) :: (.ref ho) :: (.ref ot) :: []) := by rw [he_123, up_ne (ne_ty hT_h0 ht_82 (by simp))]; exact ho2
                have hF_127 : F_122 ad = .inl (cs 16, 40, .inl fd) := by rw [he_123, up_ne (ne_ty2 ht_85 ht_82 (by simp))]; exact ho2ad
                have hF_128 : F_122 so = .inl (cs 16, 40, .inl (upd fs ze x1)) := by have h9 := hF_124; rwa [nI_clamp (by omega)] at h9
                refine lv_aload_n hx hb dX15_entry_166 rfl (lv_at hl 4 rfl) ?_
                refine pg_get (ci := 15) (v := .ref ad) (C := RX15) (T := TX15) (N := 59) hx hb hts it_15 hown hK hP hL_h0 hF_126 rfl 6 (by decide) (hts _ kt_730) (fun _ h9 => h9) rfl dX15_entry_167 ?_
                refine lv_aload_n hx hb dX15_entry_170 rfl (lv_at hl 4 rfl) ?_
                refine pg_get (ci := 15) (v := .int (nI ze)) (C := RX15) (T := TX15) (N := 59) hx hb hts it_15 hown hK hP hL_h0 hF_126 rfl 3 (by decide) (hts _ kt_714) (fun _ h9 => h9) rfl dX15_entry_171 ?_
                refine lv_iload_n hx hb dX15_entry_174 rfl (lv_at hl 6 rfl) ?_
                refine pg_iast hx hb hK hP hD hS hi_84 0 hF_127 rfl (vp_in_nI (by omega) (by omega)) dX15_entry_175 (fun H locs hP hD hS => ?_)
                obtain ⟨F_129, he_130, hP, hD, hO, hR⟩ : ∃ G, G = va_up F_122 ad (.inl (cs 16, 40, .inl (upd fd ((nI ze)).toNatClampNeg (x2)))) ∧ va_P (dC, dI) vwCl (va_pl L G) H ∧ va_D A (va_pl L G) ∧ OKm cs ty gm L G ∧ FR ty [ρ, ρ + 3, ρ + 31, ρ + 4 + ze + 100, ρ + 50 + ze + 100] F G := ⟨_, rfl, hP, hD, hO.up (shm.ints ht_85 ⟨_, rfl⟩), hR.up ht_85 (by simp)⟩
                have hF_131 : F_129 ad = .inl (cs 16, 40, .inl (upd fd ((nI ze)).toNatClampNeg (x2))) := by rw [he_130]; exact up_self
                have hF_132 : F_129 so = .inl (cs 16, 40, .inl (upd fs ze x1)) := by rw [he_130, up_ne (ne_ty2 ht_82 ht_85 (by simp))]; exact hF_128
                have hF_133 : F_129 ta = .inl (cs 17, 3000, .inl gt) := by rw [he_130, up_ne (ne_ty ht_79 ht_85 (by simp))]; exact hF_125
                have hF_134 : F_129 h0 = .inr (15, (.ref ta) :: (.int 0) :: (.int (nI zo)) :: (.int (nI ze)) :: (.ref ou) :: (.ref so) :: (.ref ad) :: (.ref na) :: (.ref va) :: (.ref lc) :: (.ref dm) :: (.int v11_28) :: (.int v12_29) :: (.ref tg) :: (.int v14_30) :: (.int v15_31) :: (.ref pe) :: (.int v17_32) :: (.int v18_33) :: (.int v19_34) :: (.int v20_35) :: (.int v21_36) :: (.int v22_37) :: (.ref ml) :: (.ref bg) :: (.ref co) :: (.ref sp) :: (.ref nb0) :: (.ref nb1) :: (.ref nb2) :: (.int (nI nf)) :: (.int (nI bd)) :: (.int (nI mm)) :: (.int v33_38) :: (.ref pl) :: (.ref se) :: (.ref ke) :: (.ref wi) :: (.ref hs) :: (.ref mo) :: (.ref po) :: (.ref nu) :: (.ref pr) :: (.ref sq) :: (.ref xa) :: (.ref sa) :: (.ref n64) :: (.ref m64) :: (.ref ex) :: (.ref wh) :: (.ref sd) :: (.ref tk) :: (.int v52_39) :: (.int v53_40) :: (.int v54_41) :: (.ref hd) :: (.ref ak) :: (.ref ho) :: (.ref ot) :: []) := by rw [he_130, up_ne (ne_ty hT_h0 ht_85 (by simp))]; exact hF_126
                have hF_135 : F_129 ad = .inl (cs 16, 40, .inl (upd fd ze x2)) := by have h9 := hF_131; rwa [nI_clamp (by omega)] at h9
                refine lv_aload_n hx hb dX15_entry_176 rfl (lv_at hl 4 rfl) ?_
                refine pg_get (ci := 15) (v := .ref na) (C := RX15) (T := TX15) (N := 59) hx hb hts it_15 hown hK hP hL_h0 hF_134 rfl 7 (by decide) (hts _ kt_709) (fun _ h9 => h9) rfl dX15_entry_177 ?_
                refine lv_aload_n hx hb dX15_entry_180 rfl (lv_at hl 4 rfl) ?_
                refine pg_get (ci := 15) (v := .int (nI ze)) (C := RX15) (T := TX15) (N := 59) hx hb hts it_15 hown hK hP hL_h0 hF_134 rfl 3 (by decide) (hts _ kt_714) (fun _ h9 => h9) rfl dX15_entry_181 ?_
                have hzna := FR.unre hT00 hty hR na (by rw [hTn0]; simp only [List.mem_cons, List.not_mem_nil, or_false]; omega)
                obtain ⟨hi_136, ht_137⟩ := hW.f_na hL_h0 hT_h0
                obtain ⟨f_138, hF_139, hq_140⟩ := hO.rtxj hi_136 ht_137
                obtain rfl : fn = f_138 := by have e9 := (hzna.trans hd3).symm.trans hF_139; simpa using e9
                obtain ⟨b_141, r_142, hbf_143, hi_144, ht_145⟩ := hq_140 ze (by omega)
                refine pg_aald (r := b_141) hx hb hK hP hi_136 7 hF_139 rfl (vp_in_nI (by omega) (by omega)) (show fn ((nI ze) : Int32).toNatClampNeg = _ from by rw [show ((nI ze) : Int32) = nI ze from rfl, nI_clamp (by omega)]; exact hbf_143) dX15_entry_184 ?_
                refine lv_aload_n hx hb dX15_entry_185 rfl (lv_at hl 4 rfl) ?_
                refine pg_get (ci := 15) (v := .ref ta) (C := RX15) (T := TX15) (N := 59) hx hb hts it_15 hown hK hP hL_h0 hF_134 rfl 0 (by decide) (hts _ kt_1060) (fun _ h9 => h9) rfl dX15_entry_186 ?_
                refine lv_iconst (v := 0) hx hb dX15_entry_189 (by decide) ?_
                refine lv_iload hx hb dX15_entry_190 (lv_at hl 0 rfl) ?_
                refine W.eq (g2 := F0 m 192 ls [.int (nI kend), .int (nI 0), .ref ta, .ref b_141]) rfl ?_
                obtain ⟨hi_146, ht_147, hq_148⟩ := hW.txt hi_144 ht_145
                obtain ⟨hq_149, hq_150⟩ := hW.octs hi_78 ht_79
                have hFc := pg_free hD hS hA
                obtain ⟨z_151, hF_152, hq_153⟩ := hO.txt hi_144 ht_145
                refine va_callv (va_runV (As := [.ref ta, .int (nI 0), .int (nI kend)]) (rest := []) ⟨hx, hb, hml, hown, hts⟩ (s_X14_set_e l dC dI cs ty gm L H.size F_129 b_141 (ρ + 4 + ze + 100) r_142 60 ta (ρ + 1) 3000 0 kend gt hW hi_144 ht_145 hi_78 ht_79 hF_133 (Nat.zero_le _) (by omega) (by omega)) ⟨callB_of 3 hts (gi kt_959) rfl rfl rfl (hts _ kt_666) (hts _ kt_960) (by decide +kernel) ⟨Nat.le_of_ble_eq_true rfl, Nat.le_of_ble_eq_true rfl⟩, (hts _ kt_961), (hts _ kt_962)⟩ ⟨fun a U g mk q => ⟨q.1, PTm.calling q.2⟩, pg_recv hK hP hi_144 hF_152 (q := (RX14, TX14, 2)) rfl, fun U hU hWm => ⟨rfl, PTm.mk hU hWm hP hK hD hE hO⟩⟩ rfl rfl hl.1 rfl (lv_room (Nat.le_of_ble_eq_true rfl)) dX15_entry_192 ⟨by show _ + 0 ≤ 0; omega, by show _ + 0 ≤ 0; omega⟩) hS (fun q _ h => hFc q h) hFc (fun u t H1 locs ht hvm hw hB hz1 hk1 hS => ?_)
                obtain ⟨F_155, fc_156, hB1, hq_157, hq_158, hq_159⟩ := hB
                obtain ⟨hP, hD, hO, hR⟩ := QTm.back hB1 ht hFc hR (fun q h => by simp only [List.mem_cons, List.not_mem_nil, or_false] at h ⊢; omega)
                have hF_160 : F_155 ad = .inl (cs 16, 40, .inl (upd fd ze x2)) := (hB1.2.2.2 ad (by rw [ht_85]; simp only [List.mem_cons, List.not_mem_nil, or_false]; omega)).trans hF_135
                have hF_161 : F_155 so = .inl (cs 16, 40, .inl (upd fs ze x1)) := (hB1.2.2.2 so (by rw [ht_82]; simp only [List.mem_cons, List.not_mem_nil, or_false]; omega)).trans hF_132
                have hF_162 : F_155 ta = .inl (cs 17, 3000, .inl gt) := (hB1.2.2.2 ta (by rw [ht_79]; simp only [List.mem_cons, List.not_mem_nil, or_false]; omega)).trans hF_133
                have hF_163 : F_155 h0 = .inr (15, (.ref ta) :: (.int 0) :: (.int (nI zo)) :: (.int (nI ze)) :: (.ref ou) :: (.ref so) :: (.ref ad) :: (.ref na) :: (.ref va) :: (.ref lc) :: (.ref dm) :: (.int v11_28) :: (.int v12_29) :: (.ref tg) :: (.int v14_30) :: (.int v15_31) :: (.ref pe) :: (.int v17_32) :: (.int v18_33) :: (.int v19_34) :: (.int v20_35) :: (.int v21_36) :: (.int v22_37) :: (.ref ml) :: (.ref bg) :: (.ref co) :: (.ref sp) :: (.ref nb0) :: (.ref nb1) :: (.ref nb2) :: (.int (nI nf)) :: (.int (nI bd)) :: (.int (nI mm)) :: (.int v33_38) :: (.ref pl) :: (.ref se) :: (.ref ke) :: (.ref wi) :: (.ref hs) :: (.ref mo) :: (.ref po) :: (.ref nu) :: (.ref pr) :: (.ref sq) :: (.ref xa) :: (.ref sa) :: (.ref n64) :: (.ref m64) :: (.ref ex) :: (.ref wh) :: (.ref sd) :: (.ref tk) :: (.int v52_39) :: (.int v53_40) :: (.int v54_41) :: (.ref hd) :: (.ref ak) :: (.ref ho) :: (.ref ot) :: []) := (hB1.2.2.2 h0 (by rw [hT_h0]; simp only [List.mem_cons, List.not_mem_nil, or_false]; omega)).trans hF_134
                have hF_164 : F_155 na = .inl (cs 23, 40, .inr (.inr (.inr (.inr fn)))) := (hB1.2.2.2 na (by rw [ht_137]; simp only [List.mem_cons, List.not_mem_nil, or_false]; omega)).trans hF_139
                generalize H1 = H at hP hS ⊢
                refine lv_aload_n hx hb dX15_entry_195 rfl (lv_at hl 4 rfl) ?_
                refine pg_get (ci := 15) (v := .ref va) (C := RX15) (T := TX15) (N := 59) hx hb hts it_15 hown hK hP hL_h0 hF_163 rfl 8 (by decide) (hts _ kt_722) (fun _ h9 => h9) rfl dX15_entry_196 ?_
                refine lv_aload_n hx hb dX15_entry_199 rfl (lv_at hl 4 rfl) ?_
                refine pg_get (ci := 15) (v := .int (nI ze)) (C := RX15) (T := TX15) (N := 59) hx hb hts it_15 hown hK hP hL_h0 hF_163 rfl 3 (by decide) (hts _ kt_714) (fun _ h9 => h9) rfl dX15_entry_200 ?_
                have hzva := FR.unre hT00 hty hR va (by rw [hTv0]; simp only [List.mem_cons, List.not_mem_nil, or_false]; omega)
                obtain ⟨hi_165, ht_166⟩ := hW.f_va hL_h0 hT_h0
                obtain ⟨f_167, hF_168, hq_169⟩ := hO.rtxj hi_165 ht_166
                obtain rfl : fv = f_167 := by have e9 := (hzva.trans hd4).symm.trans hF_168; simpa using e9
                obtain ⟨b_170, r_171, hbf_172, hi_173, ht_174⟩ := hq_169 ze (by omega)
                refine pg_aald (r := b_170) hx hb hK hP hi_165 7 hF_168 rfl (vp_in_nI (by omega) (by omega)) (show fv ((nI ze) : Int32).toNatClampNeg = _ from by rw [show ((nI ze) : Int32) = nI ze from rfl, nI_clamp (by omega)]; exact hbf_172) dX15_entry_203 ?_
                refine lv_iconst (v := 0) hx hb dX15_entry_204 (by decide) ?_
                obtain ⟨hi_175, ht_176, hq_177⟩ := hW.txt hi_173 ht_174
                obtain ⟨z_178, hF_179, hq_180⟩ := hO.txt hi_173 ht_174
                refine pg_put (ci := 14) (v := .int 0) (ty := .int) (C := RX14) (T := TX14) (N := 2) hx hb hts it_14 tyX14 tyX14_ok nmX14 hown hK hP hD hS hi_173 hF_179 rfl 1 (by decide) (hts _ kt_699) (fun _ h9 => h9) rfl (by decide +kernel) (rfl) (rfl) (Nat.le_of_ble_eq_true rfl) dX15_entry_205 (fun H locs hP hD hS => ?_)
                obtain ⟨F_181, he_182, hP, hD, hO, hR⟩ : ∃ G, G = va_up F_155 b_170 (.inr (14, [.ref r_171, .int 0])) ∧ va_P (dC, dI) vwCl (va_pl L G) H ∧ va_D A (va_pl L G) ∧ OKm cs ty gm L G ∧ FR ty [ρ, ρ + 3, ρ + 31, ρ + 4 + ze + 100, ρ + 50 + ze + 100] F G := ⟨_, rfl, hP, hD, hO.up (shm.txt ht_174 ⟨0, rfl, (by first | omega | assumption | exact Or.inl rfl | exact Or.inr rfl)⟩), hR.up ht_174 (by simp)⟩
                have hF_183 : F_181 b_170 = .inr (14, [.ref r_171, .int 0]) := by rw [he_182]; exact up_self
                have hF_184 : F_181 ad = .inl (cs 16, 40, .inl (upd fd ze x2)) := by rw [he_182, up_ne (ne_ty ht_85 ht_174 (by simp))]; exact hF_160
                have hF_185 : F_181 so = .inl (cs 16, 40, .inl (upd fs ze x1)) := by rw [he_182, up_ne (ne_ty ht_82 ht_174 (by simp))]; exact hF_161
                have hF_186 : F_181 ta = .inl (cs 17, 3000, .inl gt) := by rw [he_182, up_ne (ne_ty ht_79 ht_174 (by simp))]; exact hF_162
                have hF_187 : F_181 h0 = .inr (15, (.ref ta) :: (.int 0) :: (.int (nI zo)) :: (.int (nI ze)) :: (.ref ou) :: (.ref so) :: (.ref ad) :: (.ref na) :: (.ref va) :: (.ref lc) :: (.ref dm) :: (.int v11_28) :: (.int v12_29) :: (.ref tg) :: (.int v14_30) :: (.int v15_31) :: (.ref pe) :: (.int v17_32) :: (.int v18_33) :: (.int v19_34) :: (.int v20_35) :: (.int v21_36) :: (.int v22_37) :: (.ref ml) :: (.ref bg) :: (.ref co) :: (.ref sp) :: (.ref nb0) :: (.ref nb1) :: (.ref nb2) :: (.int (nI nf)) :: (.int (nI bd)) :: (.int (nI mm)) :: (.int v33_38) :: (.ref pl) :: (.ref se) :: (.ref ke) :: (.ref wi) :: (.ref hs) :: (.ref mo) :: (.ref po) :: (.ref nu) :: (.ref pr) :: (.ref sq) :: (.ref xa) :: (.ref sa) :: (.ref n64) :: (.ref m64) :: (.ref ex) :: (.ref wh) :: (.ref sd) :: (.ref tk) :: (.int v52_39) :: (.int v53_40) :: (.int v54_41) :: (.ref hd) :: (.ref ak) :: (.ref ho) :: (.ref ot) :: []) := by rw [he_182, up_ne (ne_ty hT_h0 ht_174 (by simp))]; exact hF_163
                have hF_188 : F_181 na = .inl (cs 23, 40, .inr (.inr (.inr (.inr fn)))) := by rw [he_182, up_ne (ne_ty ht_137 ht_174 (by simp))]; exact hF_164
                have hF_189 : F_181 b_141 = .inr (14, [.ref r_142, .int (nI (kend - 0))]) := by rw [he_182, up_ne (ne_ty2 ht_145 ht_174 (by simp))]; exact hq_157
                have hF_190 : F_181 r_142 = .inl (cs 17, 60, .inl fc_156) := by rw [he_182, up_ne (ne_ty ht_147 ht_174 (by simp))]; exact hq_158
                have hF_191 : F_181 va = .inl (cs 23, 40, .inr (.inr (.inr (.inr fv)))) := by rw [he_182, up_ne (ne_ty ht_166 ht_174 (by simp))]; exact hF_168
                refine lv_iload hx hb dX15_entry_208 (lv_at hl 1 rfl) ?_
                refine lv_if_eq (tgt := 234) hx hb dX15_entry_210 (by decide) (fun c_192 => ?_) (fun c_192 => ?_)
                ·
                  refine lv_aload_n hx hb dX15_entry_234 rfl (lv_at hl 4 rfl) ?_
                  refine lv_dup hx hb dX15_entry_235 rfl ?_
                  refine pg_get (ci := 15) (v := .int (nI ze)) (C := RX15) (T := TX15) (N := 59) hx hb hts it_15 hown hK hP hL_h0 hF_187 rfl 3 (by decide) (hts _ kt_714) (fun _ h9 => h9) rfl dX15_entry_236 ?_
                  refine lv_iconst (v := 1) hx hb dX15_entry_239 (by decide) ?_
                  refine lv_iadd hx hb dX15_entry_240 ?_
                  refine lv_topi (fun x_193 ex_193 => ?_)
                  obtain rfl : x_193 = (nI (ze + 1)) := ex_193.trans (nI_add ze 1)
                  have htyU := hty
                  have hTU := hT_h0
                  obtain ⟨hq_194, hq_195⟩ := hW.octs hi_146 ht_147
                  obtain ⟨hq_196, hq_197⟩ := hW.octs hi_175 ht_176
                  obtain ⟨f_198, hF_199, hq_200⟩ := hO.octs hi_175 ht_176
                  refine pg_put (ci := 15) (v := .int (nI (ze + 1))) (ty := .int) (C := RX15) (T := TX15) (N := 59) hx hb hts it_15 tyX15 tyX15_ok nmX15 hown hK hP hD hS hL_h0 hF_187 rfl 3 (by decide) (hts _ kt_714) (fun _ h9 => h9) rfl (by decide +kernel) (rfl) (rfl) (Nat.le_of_ble_eq_true rfl) dX15_entry_241 (fun H locs hP hD hS => ?_)
                  obtain ⟨F_201, he_202, hP, hD, hR⟩ : ∃ G, G = va_up F_181 h0 (.inr (15, (.ref ta) :: (.int 0) :: (.int (nI zo)) :: (.int (nI (ze + 1))) :: (.ref ou) :: (.ref so) :: (.ref ad) :: (.ref na) :: (.ref va) :: (.ref lc) :: (.ref dm) :: (.int v11_28) :: (.int v12_29) :: (.ref tg) :: (.int v14_30) :: (.int v15_31) :: (.ref pe) :: (.int v17_32) :: (.int v18_33) :: (.int v19_34) :: (.int v20_35) :: (.int v21_36) :: (.int v22_37) :: (.ref ml) :: (.ref bg) :: (.ref co) :: (.ref sp) :: (.ref nb0) :: (.ref nb1) :: (.ref nb2) :: (.int (nI nf)) :: (.int (nI bd)) :: (.int (nI mm)) :: (.int v33_38) :: (.ref pl) :: (.ref se) :: (.ref ke) :: (.ref wi) :: (.ref hs) :: (.ref mo) :: (.ref po) :: (.ref nu) :: (.ref pr) :: (.ref sq) :: (.ref xa) :: (.ref sa) :: (.ref n64) :: (.ref m64) :: (.ref ex) :: (.ref wh) :: (.ref sd) :: (.ref tk) :: (.int v52_39) :: (.int v53_40) :: (.int v54_41) :: (.ref hd) :: (.ref ak) :: (.ref ho) :: (.ref ot) :: [])) ∧ va_P (dC, dI) vwCl (va_pl L G) H ∧ va_D A (va_pl L G) ∧ FR ty [ρ, ρ + 3, ρ + 31, ρ + 4 + ze + 100, ρ + 50 + ze + 100] F G := ⟨_, rfl, hP, hD, hR.up hT_h0 (by simp)⟩
                  have hF_203 : F_201 ta = .inl (cs 17, 3000, .inl gt) := by rw [he_202, up_ne (ne_ty ht_79 hT_h0 (by simp))]; exact hF_186
                  have hF_204 : F_201 so = .inl (cs 16, 40, .inl (upd fs ze x1)) := by rw [he_202, up_ne (ne_ty ht_82 hT_h0 (by simp))]; exact hF_185
                  have hF_205 : F_201 ad = .inl (cs 16, 40, .inl (upd fd ze x2)) := by rw [he_202, up_ne (ne_ty ht_85 hT_h0 (by simp))]; exact hF_184
                  have hF_206 : F_201 b_141 = .inr (14, [.ref r_142, .int (nI (kend - 0))]) := by rw [he_202, up_ne (ne_ty ht_145 hT_h0 (by simp))]; exact hF_189
                  have hF_207 : F_201 r_142 = .inl (cs 17, 60, .inl fc_156) := by rw [he_202, up_ne (ne_ty ht_147 hT_h0 (by simp))]; exact hF_190
                  have hF_208 : F_201 b_170 = .inr (14, [.ref r_171, .int 0]) := by rw [he_202, up_ne (ne_ty ht_174 hT_h0 (by simp))]; exact hF_183
                  have hF_209 : F_201 r_171 = .inl (cs 17, 700, .inl f_198) := by rw [he_202, up_ne (ne_ty ht_176 hT_h0 (by simp))]; exact hF_199
                  obtain ⟨ty, hty, hT_h0, hW, hO, hR⟩ : ∃ t9 : TyM, t9 = rtf ty h0 (15, ρ, [ta, ou, so, ad, na, va, lc, dm, tg, pe, ml, bg, co, sp, nb0, nb1, nb2, pl, se, ke, wi, hs, mo, po, nu, pr, sq, xa, sa, n64, m64, ex, wh, sd, tk, hd, ak, ho, ot, sx, s0, s1, s2, nf, bd, mm, zo, (ze + 1), 0]) ∧ t9 h0 = (15, ρ, [ta, ou, so, ad, na, va, lc, dm, tg, pe, ml, bg, co, sp, nb0, nb1, nb2, pl, se, ke, wi, hs, mo, po, nu, pr, sq, xa, sa, n64, m64, ex, wh, sd, tk, hd, ak, ho, ot, sx, s0, s1, s2, nf, bd, mm, zo, (ze + 1), 0]) ∧ WTm t9 gm L ∧ OKm cs t9 gm L F_201 ∧ FR t9 [ρ, ρ + 3, ρ + 31, ρ + 4 + ze + 100, ρ + 50 + ze + 100] F F_201 := ⟨_, rfl, rtf_self, hW.ze hL_h0 hT_h0, (by rw [he_202]; exact OKm.retype hO hT_h0 (shm.mod rtf_self ⟨v11_28, v12_29, v14_30, v15_31, v17_32, v18_33, v19_34, v20_35, v21_36, v22_37, v33_38, v52_39, v53_40, v54_41, rfl, (by first | omega | assumption | exact Or.inl rfl | exact Or.inr rfl), (by first | omega | assumption | exact Or.inl rfl | exact Or.inr rfl), (by first | omega | assumption | exact Or.inl rfl | exact Or.inr rfl), (by first | omega | assumption | exact Or.inl rfl | exact Or.inr rfl)⟩)), FR.retype hT_h0 hR⟩
                  have hF_210 : F_201 h0 = .inr (15, (.ref ta) :: (.int 0) :: (.int (nI zo)) :: (.int (nI (ze + 1))) :: (.ref ou) :: (.ref so) :: (.ref ad) :: (.ref na) :: (.ref va) :: (.ref lc) :: (.ref dm) :: (.int v11_28) :: (.int v12_29) :: (.ref tg) :: (.int v14_30) :: (.int v15_31) :: (.ref pe) :: (.int v17_32) :: (.int v18_33) :: (.int v19_34) :: (.int v20_35) :: (.int v21_36) :: (.int v22_37) :: (.ref ml) :: (.ref bg) :: (.ref co) :: (.ref sp) :: (.ref nb0) :: (.ref nb1) :: (.ref nb2) :: (.int (nI nf)) :: (.int (nI bd)) :: (.int (nI mm)) :: (.int v33_38) :: (.ref pl) :: (.ref se) :: (.ref ke) :: (.ref wi) :: (.ref hs) :: (.ref mo) :: (.ref po) :: (.ref nu) :: (.ref pr) :: (.ref sq) :: (.ref xa) :: (.ref sa) :: (.ref n64) :: (.ref m64) :: (.ref ex) :: (.ref wh) :: (.ref sd) :: (.ref tk) :: (.int v52_39) :: (.int v53_40) :: (.int v54_41) :: (.ref hd) :: (.ref ak) :: (.ref ho) :: (.ref ot) :: []) := by rw [he_202]; exact up_self
                  obtain ⟨hq_233, hq_234, hq_235, hq_236, hq_237, hgO, hgA, hgB⟩ := hW.sc hL_h0 hT_h0
                  refine lv_aload_n hx hb dX15_entry_244 rfl (lv_at hl 4 rfl) ?_
                  refine pg_get (ci := 15) (v := .int (nI (ze + 1))) (C := RX15) (T := TX15) (N := 59) hx hb hts it_15 hown hK hP hL_h0 hF_210 rfl 3 (by decide) (hts _ kt_714) (fun _ h9 => h9) rfl dX15_entry_245 ?_
                  refine W.widen (k := 0) (n := 0) (by omega) (by omega) ?_
                  have hR0 := FR.unre hT00 htyU (FR.unre hTU hty hR)
                  have hQna := hR0 na (by rw [hTn0]; simp only [List.mem_cons, List.not_mem_nil, or_false]; omega)
                  have hQva := hR0 va (by rw [hTv0]; simp only [List.mem_cons, List.not_mem_nil, or_false]; omega)
                  exact W.iret (v := (nI (ze + 1))) hx hb hr (fun t ht hWm => ⟨⟨(nI (ze + 1)), (ze + 1), rfl, (Or.inr (Or.inr ⟨hc40, hs5.elim (fun h => val_y1 hx0 hx4 (hs5n h) (by rw [← hk0e h]; exact hn1)) (fun h => val_y2 hx0 hx4 (hs5x h) (hfst h) (by rw [← hk1e h]; exact hn1) (ho1 h).1), rfl, rfl⟩)), ⟨F_201, ty, (by rw [hty, htyU, rtf_rtf2]), QTm.mk ht hP hD hO hR, hW, ⟨(x1, x2, kend - 0, fc_156, 0, f_198), DIRM.add hDM hO0 hW0 hLn0 hTn0 hLv0 hTv0 (by omega) hR0 hQna hQva (fun k hk => ⟨by simp only [List.mem_cons, List.not_mem_nil, or_false]; omega, by simp only [List.mem_cons, List.not_mem_nil, or_false]; omega⟩) hd1 hd2 hd3 hd4 hF_204 hF_205 ⟨b_141, r_142, hbf_143, hF_206, hF_207, by show kend - 0 ≤ 60; omega⟩ ⟨b_170, r_171, hbf_172, hF_208, hF_209, by show 0 ≤ 700; omega⟩, fun _ => enx4 (hk0e c_192) (hs5n c_192) hn1 hq_159⟩⟩⟩, hS.F ht⟩) hS.2.2 dX15_entry_248
                ·
                  have h51 := hs5.resolve_left c_192
                  refine lv_aload_n hx hb dX15_entry_213 rfl (lv_at hl 4 rfl) ?_
                  refine pg_get (ci := 15) (v := .ref va) (C := RX15) (T := TX15) (N := 59) hx hb hts it_15 hown hK hP hL_h0 hF_187 rfl 8 (by decide) (hts _ kt_722) (fun _ h9 => h9) rfl dX15_entry_214 ?_
                  refine lv_aload_n hx hb dX15_entry_217 rfl (lv_at hl 4 rfl) ?_
                  refine pg_get (ci := 15) (v := .int (nI ze)) (C := RX15) (T := TX15) (N := 59) hx hb hts it_15 hown hK hP hL_h0 hF_187 rfl 3 (by decide) (hts _ kt_714) (fun _ h9 => h9) rfl dX15_entry_218 ?_
                  refine pg_aald (r := b_170) hx hb hK hP hi_165 7 hF_191 rfl (vp_in_nI (by omega) (by omega)) (show fv ((nI ze) : Int32).toNatClampNeg = _ from by rw [show ((nI ze) : Int32) = nI ze from rfl, nI_clamp (by omega)]; exact hbf_172) dX15_entry_221 ?_
                  refine lv_aload_n hx hb dX15_entry_222 rfl (lv_at hl 4 rfl) ?_
                  refine pg_get (ci := 15) (v := .ref ta) (C := RX15) (T := TX15) (N := 59) hx hb hts it_15 hown hK hP hL_h0 hF_187 rfl 0 (by decide) (hts _ kt_1060) (fun _ h9 => h9) rfl dX15_entry_223 ?_
                  refine lv_iload hx hb dX15_entry_226 (lv_at hl 2 rfl) ?_
                  refine lv_iconst (v := 1) hx hb dX15_entry_228 (by decide) ?_
                  refine lv_iadd hx hb dX15_entry_229 ?_
                  refine lv_topi (fun x_238 ex_238 => ?_)
                  obtain rfl : x_238 = (nI (j + 1)) := ex_238.trans (nI_add j 1)
                  refine lv_iload_n hx hb dX15_entry_230 rfl (lv_at hl 3 rfl) ?_
                  have hFc := pg_free hD hS hA
                  refine va_callv (va_runV (As := [.ref ta, .int (nI (j + 1)), .int (nI zt)]) (rest := []) ⟨hx, hb, hml, hown, hts⟩ (s_X14_set_e l dC dI cs ty gm L H.size F_181 b_170 (ρ + 50 + ze + 100) r_171 700 ta (ρ + 1) 3000 (j + 1) zt gt hW hi_173 ht_174 hi_78 ht_79 hF_186 (by have h9 := hn2 h51; omega) (by omega) (by have h9 := (ho1 h51).2; omega)) ⟨callB_of 3 hts (gi kt_959) rfl rfl rfl (hts _ kt_666) (hts _ kt_960) (by decide +kernel) ⟨Nat.le_of_ble_eq_true rfl, Nat.le_of_ble_eq_true rfl⟩, (hts _ kt_961), (hts _ kt_962)⟩ ⟨fun a U g mk q => ⟨q.1, PTm.calling q.2⟩, pg_recv hK hP hi_173 hF_183 (q := (RX14, TX14, 2)) rfl, fun U hU hWm => ⟨rfl, PTm.mk hU hWm hP hK hD hE hO⟩⟩ rfl rfl hl.1 rfl (lv_room (Nat.le_of_ble_eq_true rfl)) dX15_entry_231 ⟨by show _ + 0 ≤ 0; omega, by show _ + 0 ≤ 0; omega⟩) hS (fun q _ h => hFc q h) hFc (fun u t H1 locs ht hvm hw hB hz1 hk1 hS => ?_)
                  obtain ⟨F_240, fc_241, hB1, hq_242, hq_243, hq_244⟩ := hB
                  obtain ⟨hP, hD, hO, hR⟩ := QTm.back hB1 ht hFc hR (fun q h => by simp only [List.mem_cons, List.not_mem_nil, or_false] at h ⊢; omega)
                  have hF_245 : F_240 ad = .inl (cs 16, 40, .inl (upd fd ze x2)) := (hB1.2.2.2 ad (by rw [ht_85]; simp only [List.mem_cons, List.not_mem_nil, or_false]; omega)).trans hF_184
                  have hF_246 : F_240 so = .inl (cs 16, 40, .inl (upd fs ze x1)) := (hB1.2.2.2 so (by rw [ht_82]; simp only [List.mem_cons, List.not_mem_nil, or_false]; omega)).trans hF_185
                  have hF_247 : F_240 ta = .inl (cs 17, 3000, .inl gt) := (hB1.2.2.2 ta (by rw [ht_79]; simp only [List.mem_cons, List.not_mem_nil, or_false]; omega)).trans hF_186
                  have hF_248 : F_240 h0 = .inr (15, (.ref ta) :: (.int 0) :: (.int (nI zo)) :: (.int (nI ze)) :: (.ref ou) :: (.ref so) :: (.ref ad) :: (.ref na) :: (.ref va) :: (.ref lc) :: (.ref dm) :: (.int v11_28) :: (.int v12_29) :: (.ref tg) :: (.int v14_30) :: (.int v15_31) :: (.ref pe) :: (.int v17_32) :: (.int v18_33) :: (.int v19_34) :: (.int v20_35) :: (.int v21_36) :: (.int v22_37) :: (.ref ml) :: (.ref bg) :: (.ref co) :: (.ref sp) :: (.ref nb0) :: (.ref nb1) :: (.ref nb2) :: (.int (nI nf)) :: (.int (nI bd)) :: (.int (nI mm)) :: (.int v33_38) :: (.ref pl) :: (.ref se) :: (.ref ke) :: (.ref wi) :: (.ref hs) :: (.ref mo) :: (.ref po) :: (.ref nu) :: (.ref pr) :: (.ref sq) :: (.ref xa) :: (.ref sa) :: (.ref n64) :: (.ref m64) :: (.ref ex) :: (.ref wh) :: (.ref sd) :: (.ref tk) :: (.int v52_39) :: (.int v53_40) :: (.int v54_41) :: (.ref hd) :: (.ref ak) :: (.ref ho) :: (.ref ot) :: []) := (hB1.2.2.2 h0 (by rw [hT_h0]; simp only [List.mem_cons, List.not_mem_nil, or_false]; omega)).trans hF_187
                  have hF_249 : F_240 na = .inl (cs 23, 40, .inr (.inr (.inr (.inr fn)))) := (hB1.2.2.2 na (by rw [ht_137]; simp only [List.mem_cons, List.not_mem_nil, or_false]; omega)).trans hF_188
                  have hF_250 : F_240 b_141 = .inr (14, [.ref r_142, .int (nI (kend - 0))]) := (hB1.2.2.2 b_141 (by rw [ht_145]; simp only [List.mem_cons, List.not_mem_nil, or_false]; omega)).trans hF_189
                  have hF_251 : F_240 r_142 = .inl (cs 17, 60, .inl fc_156) := (hB1.2.2.2 r_142 (by rw [ht_147]; simp only [List.mem_cons, List.not_mem_nil, or_false]; omega)).trans hF_190
                  have hF_252 : F_240 va = .inl (cs 23, 40, .inr (.inr (.inr (.inr fv)))) := (hB1.2.2.2 va (by rw [ht_166]; simp only [List.mem_cons, List.not_mem_nil, or_false]; omega)).trans hF_191
                  generalize H1 = H at hP hS ⊢
                  refine lv_aload_n hx hb dX15_entry_234 rfl (lv_at hl 4 rfl) ?_
                  refine lv_dup hx hb dX15_entry_235 rfl ?_
                  refine pg_get (ci := 15) (v := .int (nI ze)) (C := RX15) (T := TX15) (N := 59) hx hb hts it_15 hown hK hP hL_h0 hF_248 rfl 3 (by decide) (hts _ kt_714) (fun _ h9 => h9) rfl dX15_entry_236 ?_
                  refine lv_iconst (v := 1) hx hb dX15_entry_239 (by decide) ?_
                  refine lv_iadd hx hb dX15_entry_240 ?_
                  refine lv_topi (fun x_253 ex_253 => ?_)
                  obtain rfl : x_253 = (nI (ze + 1)) := ex_253.trans (nI_add ze 1)
                  have htyU := hty
                  have hTU := hT_h0
                  obtain ⟨hq_254, hq_255⟩ := hW.octs hi_146 ht_147
                  obtain ⟨hq_256, hq_257⟩ := hW.octs hi_175 ht_176
                  refine pg_put (ci := 15) (v := .int (nI (ze + 1))) (ty := .int) (C := RX15) (T := TX15) (N := 59) hx hb hts it_15 tyX15 tyX15_ok nmX15 hown hK hP hD hS hL_h0 hF_248 rfl 3 (by decide) (hts _ kt_714) (fun _ h9 => h9) rfl (by decide +kernel) (rfl) (rfl) (Nat.le_of_ble_eq_true rfl) dX15_entry_241 (fun H locs hP hD hS => ?_)
                  obtain ⟨F_258, he_259, hP, hD, hR⟩ : ∃ G, G = va_up F_240 h0 (.inr (15, (.ref ta) :: (.int 0) :: (.int (nI zo)) :: (.int (nI (ze + 1))) :: (.ref ou) :: (.ref so) :: (.ref ad) :: (.ref na) :: (.ref va) :: (.ref lc) :: (.ref dm) :: (.int v11_28) :: (.int v12_29) :: (.ref tg) :: (.int v14_30) :: (.int v15_31) :: (.ref pe) :: (.int v17_32) :: (.int v18_33) :: (.int v19_34) :: (.int v20_35) :: (.int v21_36) :: (.int v22_37) :: (.ref ml) :: (.ref bg) :: (.ref co) :: (.ref sp) :: (.ref nb0) :: (.ref nb1) :: (.ref nb2) :: (.int (nI nf)) :: (.int (nI bd)) :: (.int (nI mm)) :: (.int v33_38) :: (.ref pl) :: (.ref se) :: (.ref ke) :: (.ref wi) :: (.ref hs) :: (.ref mo) :: (.ref po) :: (.ref nu) :: (.ref pr) :: (.ref sq) :: (.ref xa) :: (.ref sa) :: (.ref n64) :: (.ref m64) :: (.ref ex) :: (.ref wh) :: (.ref sd) :: (.ref tk) :: (.int v52_39) :: (.int v53_40) :: (.int v54_41) :: (.ref hd) :: (.ref ak) :: (.ref ho) :: (.ref ot) :: [])) ∧ va_P (dC, dI) vwCl (va_pl L G) H ∧ va_D A (va_pl L G) ∧ FR ty [ρ, ρ + 3, ρ + 31, ρ + 4 + ze + 100, ρ + 50 + ze + 100] F G := ⟨_, rfl, hP, hD, hR.up hT_h0 (by simp)⟩
                  have hF_260 : F_258 ta = .inl (cs 17, 3000, .inl gt) := by rw [he_259, up_ne (ne_ty ht_79 hT_h0 (by simp))]; exact hF_247
                  have hF_261 : F_258 so = .inl (cs 16, 40, .inl (upd fs ze x1)) := by rw [he_259, up_ne (ne_ty ht_82 hT_h0 (by simp))]; exact hF_246
                  have hF_262 : F_258 ad = .inl (cs 16, 40, .inl (upd fd ze x2)) := by rw [he_259, up_ne (ne_ty ht_85 hT_h0 (by simp))]; exact hF_245
                  have hF_263 : F_258 b_141 = .inr (14, [.ref r_142, .int (nI (kend - 0))]) := by rw [he_259, up_ne (ne_ty ht_145 hT_h0 (by simp))]; exact hF_250
                  have hF_264 : F_258 r_142 = .inl (cs 17, 60, .inl fc_156) := by rw [he_259, up_ne (ne_ty ht_147 hT_h0 (by simp))]; exact hF_251
                  have hF_265 : F_258 b_170 = .inr (14, [.ref r_171, .int (nI (zt - (j + 1)))]) := by rw [he_259, up_ne (ne_ty ht_174 hT_h0 (by simp))]; exact hq_242
                  have hF_266 : F_258 r_171 = .inl (cs 17, 700, .inl fc_241) := by rw [he_259, up_ne (ne_ty ht_176 hT_h0 (by simp))]; exact hq_243
                  obtain ⟨ty, hty, hT_h0, hW, hO, hR⟩ : ∃ t9 : TyM, t9 = rtf ty h0 (15, ρ, [ta, ou, so, ad, na, va, lc, dm, tg, pe, ml, bg, co, sp, nb0, nb1, nb2, pl, se, ke, wi, hs, mo, po, nu, pr, sq, xa, sa, n64, m64, ex, wh, sd, tk, hd, ak, ho, ot, sx, s0, s1, s2, nf, bd, mm, zo, (ze + 1), 0]) ∧ t9 h0 = (15, ρ, [ta, ou, so, ad, na, va, lc, dm, tg, pe, ml, bg, co, sp, nb0, nb1, nb2, pl, se, ke, wi, hs, mo, po, nu, pr, sq, xa, sa, n64, m64, ex, wh, sd, tk, hd, ak, ho, ot, sx, s0, s1, s2, nf, bd, mm, zo, (ze + 1), 0]) ∧ WTm t9 gm L ∧ OKm cs t9 gm L F_258 ∧ FR t9 [ρ, ρ + 3, ρ + 31, ρ + 4 + ze + 100, ρ + 50 + ze + 100] F F_258 := ⟨_, rfl, rtf_self, hW.ze hL_h0 hT_h0, (by rw [he_259]; exact OKm.retype hO hT_h0 (shm.mod rtf_self ⟨v11_28, v12_29, v14_30, v15_31, v17_32, v18_33, v19_34, v20_35, v21_36, v22_37, v33_38, v52_39, v53_40, v54_41, rfl, (by first | omega | assumption | exact Or.inl rfl | exact Or.inr rfl), (by first | omega | assumption | exact Or.inl rfl | exact Or.inr rfl), (by first | omega | assumption | exact Or.inl rfl | exact Or.inr rfl), (by first | omega | assumption | exact Or.inl rfl | exact Or.inr rfl)⟩)), FR.retype hT_h0 hR⟩
                  have hF_267 : F_258 h0 = .inr (15, (.ref ta) :: (.int 0) :: (.int (nI zo)) :: (.int (nI (ze + 1))) :: (.ref ou) :: (.ref so) :: (.ref ad) :: (.ref na) :: (.ref va) :: (.ref lc) :: (.ref dm) :: (.int v11_28) :: (.int v12_29) :: (.ref tg) :: (.int v14_30) :: (.int v15_31) :: (.ref pe) :: (.int v17_32) :: (.int v18_33) :: (.int v19_34) :: (.int v20_35) :: (.int v21_36) :: (.int v22_37) :: (.ref ml) :: (.ref bg) :: (.ref co) :: (.ref sp) :: (.ref nb0) :: (.ref nb1) :: (.ref nb2) :: (.int (nI nf)) :: (.int (nI bd)) :: (.int (nI mm)) :: (.int v33_38) :: (.ref pl) :: (.ref se) :: (.ref ke) :: (.ref wi) :: (.ref hs) :: (.ref mo) :: (.ref po) :: (.ref nu) :: (.ref pr) :: (.ref sq) :: (.ref xa) :: (.ref sa) :: (.ref n64) :: (.ref m64) :: (.ref ex) :: (.ref wh) :: (.ref sd) :: (.ref tk) :: (.int v52_39) :: (.int v53_40) :: (.int v54_41) :: (.ref hd) :: (.ref ak) :: (.ref ho) :: (.ref ot) :: []) := by rw [he_259]; exact up_self
                  obtain ⟨hq_290, hq_291, hq_292, hq_293, hq_294, hgO, hgA, hgB⟩ := hW.sc hL_h0 hT_h0
                  refine lv_aload_n hx hb dX15_entry_244 rfl (lv_at hl 4 rfl) ?_
                  refine pg_get (ci := 15) (v := .int (nI (ze + 1))) (C := RX15) (T := TX15) (N := 59) hx hb hts it_15 hown hK hP hL_h0 hF_267 rfl 3 (by decide) (hts _ kt_714) (fun _ h9 => h9) rfl dX15_entry_245 ?_
                  refine W.widen (k := 0) (n := 0) (by omega) (by omega) ?_
                  have hR0 := FR.unre hT00 htyU (FR.unre hTU hty hR)
                  have hQna := hR0 na (by rw [hTn0]; simp only [List.mem_cons, List.not_mem_nil, or_false]; omega)
                  have hQva := hR0 va (by rw [hTv0]; simp only [List.mem_cons, List.not_mem_nil, or_false]; omega)
                  exact W.iret (v := (nI (ze + 1))) hx hb hr (fun t ht hWm => ⟨⟨(nI (ze + 1)), (ze + 1), rfl, (Or.inr (Or.inr ⟨hc40, hs5.elim (fun h => val_y1 hx0 hx4 (hs5n h) (by rw [← hk0e h]; exact hn1)) (fun h => val_y2 hx0 hx4 (hs5x h) (hfst h) (by rw [← hk1e h]; exact hn1) (ho1 h).1), rfl, rfl⟩)), ⟨F_258, ty, (by rw [hty, htyU, rtf_rtf2]), QTm.mk ht hP hD hO hR, hW, ⟨(x1, x2, kend - 0, fc_156, zt - (j + 1), fc_241), DIRM.add hDM hO0 hW0 hLn0 hTn0 hLv0 hTv0 (by omega) hR0 hQna hQva (fun k hk => ⟨by simp only [List.mem_cons, List.not_mem_nil, or_false]; omega, by simp only [List.mem_cons, List.not_mem_nil, or_false]; omega⟩) hd1 hd2 hd3 hd4 hF_261 hF_262 ⟨b_141, r_142, hbf_143, hF_263, hF_264, by show kend - 0 ≤ 60; omega⟩ ⟨b_170, r_171, hbf_172, hF_265, hF_266, by show zt - (j + 1) ≤ 700; have h9 := (ho1 h51).2; omega⟩, fun _ => enx3 (hk1e h51) (hs5x h51) (hfst h51) hn1 (ho1 h51).1 hq_159 hq_244⟩⟩⟩, hS.F ht⟩) hS.2.2 dX15_entry_248
              ·
                refine lv_iload_n hx hb dX15_entry_118 rfl (lv_at hl 5 rfl) ?_
                refine lv_iconst (v := 2) hx hb dX15_entry_119 (by decide) ?_
                refine lv_icmp_ne (tgt := 138) hx hb dX15_entry_120 (by decide) (fun c_295 => ?_) (fun c_295 => ?_)
                ·
                  refine lv_iload_n hx hb dX15_entry_138 rfl (lv_at hl 5 rfl) ?_
                  refine lv_if_ne (tgt := 156) hx hb dX15_entry_139 (by decide) (fun c_296 => ?_) (fun c_296 => ?_)
                  ·
                    refine W.widen (k := 0) (n := 0) (by omega) (by omega) ?_
                    exact jn_117 () F_113 (⟨fun h => absurd (hs5x h) (fun q => q.elim c_296 c_295), hn3, hn3so, hn3ad⟩) hO hR _ _ hP hD hS ls (lv_sub hl [0, 1, 2, 3, 4, 5, 6] rfl)
                  ·
                    have h51 : s5 = 1 := hs5.resolve_left (fun q => hs5n q (Or.inl c_296))
                    have hkz := hn2 h51
                    refine lv_iload_n hx hb dX15_entry_142 rfl (lv_at hl 3 rfl) ?_
                    refine lv_iload hx hb dX15_entry_143 (lv_at hl 2 rfl) ?_
                    refine lv_isub hx hb dX15_entry_145 ?_
                    refine lv_topi (fun x_297 ex_297 => ?_)
                    obtain rfl : x_297 = (nI (zt - j)) := ex_297.trans (pk_sub (a := zt) (b := j) (by omega))
                    refine lv_iconst (v := 1) hx hb dX15_entry_146 (by decide) ?_
                    refine lv_isub hx hb dX15_entry_147 ?_
                    refine lv_topi (fun x_298 ex_298 => ?_)
                    obtain rfl : x_298 = (nI ((zt - j) - 1)) := ex_298.trans (pk_sub (a := (zt - j)) (b := 1) (by omega))
                    refine lv_sipush (v := 700) hx hb dX15_entry_148 (by decide) ?_
                    refine lv_icmp_le (tgt := 156) hx hb dX15_entry_151 (by decide) (fun c_299 => ?_) (fun c_299 => ?_)
                    ·
                      have hi_300 : ((zt - j) - 1) ≤ 700 := (nI_leI (a := ((zt - j) - 1)) (b := 700) (by omega) (by omega)).mp c_299
                      refine W.widen (k := 0) (n := 0) (by omega) (by omega) ?_
                      exact jn_117 () F_113 (⟨fun _ => ⟨⟨by omega, fun q => absurd (q.symm.trans c_296) (by decide), fun _ => by omega⟩, by omega⟩, hn3, hn3so, hn3ad⟩) hO hR _ _ hP hD hS ls (lv_sub hl [0, 1, 2, 3, 4, 5, 6] rfl)
                    ·
                      have hi_301 : 700 < ((zt - j) - 1) := Nat.not_le.mp (fun q => c_299 ((nI_leI (a := ((zt - j) - 1)) (b := 700) (by omega) (by omega)).mpr q))
                      refine lv_iconst (v := (-1)) hx hb dX15_entry_154 (by decide) ?_
                      refine W.widen (k := 0) (n := 0) (by omega) (by omega) ?_
                      have hR0 := FR.unre hT00 hty hR
                      have hQna := hR0 na (by rw [hTn0]; simp only [List.mem_cons, List.not_mem_nil, or_false]; omega)
                      have hQva := hR0 va (by rw [hTv0]; simp only [List.mem_cons, List.not_mem_nil, or_false]; omega)
                      exact W.iret (v := (-1)) hx hb hr (fun t ht hWm => ⟨⟨(-1), ze, rfl, (Or.inr (Or.inl ⟨hc40, val_nv (Or.inl c_296) (hfst h51) (fun q => absurd (q.2.2 (fun w => absurd (w.symm.trans c_296) (by decide))) (by omega)), rfl, rfl⟩)), ⟨F_113, ty, hty, QTm.mk ht hP hD hO hR, hW, ⟨(0, 0, 0, fun _ => 0, 0, fun _ => 0), DIRM.same (DIRM.fr hDM hO0 hW0 hLn0 hTn0 hLv0 hTv0 (by omega) hR0 (hn3so.trans hd1.symm) (hn3ad.trans hd2.symm) hQna hQva (fun k hk => ⟨by simp only [List.mem_cons, List.not_mem_nil, or_false]; omega, by simp only [List.mem_cons, List.not_mem_nil, or_false]; omega⟩)), fun q => absurd q (by omega)⟩⟩⟩, hS.F ht⟩) hS.2.2 dX15_entry_155
                ·
                  have h51 : s5 = 1 := hs5.resolve_left (fun q => hs5n q (Or.inr c_295))
                  have hkz := hn2 h51
                  refine lv_aload_n hx hb dX15_entry_123 rfl (lv_at hl 4 rfl) ?_
                  refine pg_get (ci := 15) (v := .ref ta) (C := RX15) (T := TX15) (N := 59) hx hb hts it_15 hown hK hP hL_h0 hn3 rfl 0 (by decide) (hts _ kt_1060) (fun _ h9 => h9) rfl dX15_entry_124 ?_
                  refine lv_iload hx hb dX15_entry_127 (lv_at hl 2 rfl) ?_
                  refine lv_iconst (v := 1) hx hb dX15_entry_129 (by decide) ?_
                  refine lv_iadd hx hb dX15_entry_130 ?_
                  refine lv_topi (fun x_302 ex_302 => ?_)
                  obtain rfl : x_302 = (nI (j + 1)) := ex_302.trans (nI_add j 1)
                  refine lv_iload_n hx hb dX15_entry_131 rfl (lv_at hl 3 rfl) ?_
                  obtain ⟨hq_303, hq_304⟩ := hW.octs hi_78 ht_79
                  have hFc := pg_free hD hS hA
                  refine va_calli (va_runS (As := [.ref ta, .int (nI (j + 1)), .int (nI zt)]) (rest := []) ⟨hx, hb, hml, hown, hts⟩ (s_X14_isName_e l dC dI cs ty gm L H.size F_113 ta (ρ + 1) 3000 (j + 1) zt gt hW hi_78 ht_79 hF_116 (by first | omega | assumption) (by first | omega | assumption)) ⟨callB_of 3 hts (gi kt_679) rfl rfl rfl (hts _ kt_666) (hts _ kt_853) (by decide +kernel) ⟨Nat.le_of_ble_eq_true rfl, Nat.le_of_ble_eq_true rfl⟩, (hts _ kt_681)⟩ ⟨fun a U g mk q => ⟨q.1, PTm.calling q.2⟩, fun U hU hWm => ⟨rfl, PTm.mk hU hWm hP hK hD hE hO⟩⟩ rfl rfl hl.1 rfl (lv_room (Nat.le_of_ble_eq_true rfl)) dX15_entry_132 ⟨by show _ + 0 ≤ 0; omega, by show _ + 0 ≤ 0; omega⟩) hS (fun q _ h => hFc q h) hFc (fun r_305 u t H1 locs ht hvm hw hB hz1 hk1 hS => ?_)
                  obtain ⟨F_306, hB1⟩ := hB
                  obtain rfl : F_113 = F_306 := (funext (fun a => hB1.2.2.2 a List.not_mem_nil)).symm
                  obtain ⟨hP, hD, hO, hR⟩ := QTm.back hB1 ht hFc hR (fun q h => absurd h List.not_mem_nil)
                  generalize H1 = H at hP hS ⊢
                  have hw : r_305 = (if NM gt (j + 1) zt = true then 1 else 0) := hw
                  have hw_307 := hw
                  refine lv_if_eq (tgt := 154) hx hb dX15_entry_135 (by decide) (fun c_308 => ?_) (fun c_308 => ?_)
                  ·
                    refine lv_iconst (v := (-1)) hx hb dX15_entry_154 (by decide) ?_
                    refine W.widen (k := 0) (n := 0) (by omega) (by omega) ?_
                    have hR0 := FR.unre hT00 hty hR
                    have hQna := hR0 na (by rw [hTn0]; simp only [List.mem_cons, List.not_mem_nil, or_false]; omega)
                    have hQva := hR0 va (by rw [hTv0]; simp only [List.mem_cons, List.not_mem_nil, or_false]; omega)
                    exact W.iret (v := (-1)) hx hb hr (fun t ht hWm => ⟨⟨(-1), ze, rfl, (Or.inr (Or.inl ⟨hc40, val_nv (Or.inr c_295) (hfst h51) (fun q => ifb0 hw_307 c_308 (q.2.1 c_295)), rfl, rfl⟩)), ⟨F_113, ty, hty, QTm.mk ht hP hD hO hR, hW, ⟨(0, 0, 0, fun _ => 0, 0, fun _ => 0), DIRM.same (DIRM.fr hDM hO0 hW0 hLn0 hTn0 hLv0 hTv0 (by omega) hR0 (hn3so.trans hd1.symm) (hn3ad.trans hd2.symm) hQna hQva (fun k hk => ⟨by simp only [List.mem_cons, List.not_mem_nil, or_false]; omega, by simp only [List.mem_cons, List.not_mem_nil, or_false]; omega⟩)), fun q => absurd q (by omega)⟩⟩⟩, hS.F ht⟩) hS.2.2 dX15_entry_155
                  ·
                    refine lv_iload_n hx hb dX15_entry_138 rfl (lv_at hl 5 rfl) ?_
                    refine lv_if_ne (tgt := 156) hx hb dX15_entry_139 (by decide) (fun c_309 => ?_) (fun c_309 => ?_)
                    ·
                      refine W.widen (k := 0) (n := 0) (by omega) (by omega) ?_
                      exact jn_117 () F_113 (⟨fun _ => ⟨⟨by omega, fun _ => ifb1 hw_307 c_308, fun q => absurd c_295 q⟩, by have h9 := nm_60 (ifb1 hw_307 c_308); omega⟩, hn3, hn3so, hn3ad⟩) hO hR _ _ hP hD hS ls (lv_sub hl [0, 1, 2, 3, 4, 5, 6] rfl)
                    ·
                      have h51 : s5 = 1 := hs5.resolve_left (fun q => hs5n q (Or.inl c_309))
                      have hkz := hn2 h51
                      refine lv_iload_n hx hb dX15_entry_142 rfl (lv_at hl 3 rfl) ?_
                      refine lv_iload hx hb dX15_entry_143 (lv_at hl 2 rfl) ?_
                      refine lv_isub hx hb dX15_entry_145 ?_
                      refine lv_topi (fun x_310 ex_310 => ?_)
                      obtain rfl : x_310 = (nI (zt - j)) := ex_310.trans (pk_sub (a := zt) (b := j) (by omega))
                      refine lv_iconst (v := 1) hx hb dX15_entry_146 (by decide) ?_
                      refine lv_isub hx hb dX15_entry_147 ?_
                      refine lv_topi (fun x_311 ex_311 => ?_)
                      obtain rfl : x_311 = (nI ((zt - j) - 1)) := ex_311.trans (pk_sub (a := (zt - j)) (b := 1) (by omega))
                      refine lv_sipush (v := 700) hx hb dX15_entry_148 (by decide) ?_
                      refine lv_icmp_le (tgt := 156) hx hb dX15_entry_151 (by decide) (fun c_312 => ?_) (fun c_312 => ?_)
                      ·
                        have hi_313 : ((zt - j) - 1) ≤ 700 := (nI_leI (a := ((zt - j) - 1)) (b := 700) (by omega) (by omega)).mp c_312
                        refine W.widen (k := 0) (n := 0) (by omega) (by omega) ?_
                        exact jn_117 () F_113 (⟨fun _ => ⟨⟨by omega, fun q => absurd (q.symm.trans c_309) (by decide), fun _ => by omega⟩, by omega⟩, hn3, hn3so, hn3ad⟩) hO hR _ _ hP hD hS ls (lv_sub hl [0, 1, 2, 3, 4, 5, 6] rfl)
                      ·
                        have hi_314 : 700 < ((zt - j) - 1) := Nat.not_le.mp (fun q => c_312 ((nI_leI (a := ((zt - j) - 1)) (b := 700) (by omega) (by omega)).mpr q))
                        refine lv_iconst (v := (-1)) hx hb dX15_entry_154 (by decide) ?_
                        refine W.widen (k := 0) (n := 0) (by omega) (by omega) ?_
                        have hR0 := FR.unre hT00 hty hR
                        have hQna := hR0 na (by rw [hTn0]; simp only [List.mem_cons, List.not_mem_nil, or_false]; omega)
                        have hQva := hR0 va (by rw [hTv0]; simp only [List.mem_cons, List.not_mem_nil, or_false]; omega)
                        exact W.iret (v := (-1)) hx hb hr (fun t ht hWm => ⟨⟨(-1), ze, rfl, (Or.inr (Or.inl ⟨hc40, val_nv (Or.inl c_309) (hfst h51) (fun q => absurd (q.2.2 (fun w => absurd (w.symm.trans c_309) (by decide))) (by omega)), rfl, rfl⟩)), ⟨F_113, ty, hty, QTm.mk ht hP hD hO hR, hW, ⟨(0, 0, 0, fun _ => 0, 0, fun _ => 0), DIRM.same (DIRM.fr hDM hO0 hW0 hLn0 hTn0 hLv0 hTv0 (by omega) hR0 (hn3so.trans hd1.symm) (hn3ad.trans hd2.symm) hQna hQva (fun k hk => ⟨by simp only [List.mem_cons, List.not_mem_nil, or_false]; omega, by simp only [List.mem_cons, List.not_mem_nil, or_false]; omega⟩)), fun q => absurd q (by omega)⟩⟩⟩, hS.F ht⟩) hS.2.2 dX15_entry_155
            ·
              refine lv_iload hx hb dX15_entry_92 (lv_at hl 1 rfl) ?_
              refine lv_if_eq (tgt := 103) hx hb dX15_entry_94 (by decide) (fun c_315 => ?_) (fun c_315 => ?_)
              ·
                refine lv_aload_n hx hb dX15_entry_103 rfl (lv_at hl 4 rfl) ?_
                refine pg_get (ci := 15) (v := .ref ta) (C := RX15) (T := TX15) (N := 59) hx hb hts it_15 hown hK hP hL_h0 hb2 rfl 0 (by decide) (hts _ kt_1060) (fun _ h9 => h9) rfl dX15_entry_104 ?_
                refine lv_iconst (v := 0) hx hb dX15_entry_107 (by decide) ?_
                refine lv_iload hx hb dX15_entry_108 (lv_at hl 0 rfl) ?_
                refine W.eq (g2 := F0 m 110 ls [.int (nI kend), .int (nI 0), .ref ta]) rfl ?_
                obtain ⟨hq_316, hq_317⟩ := hW.octs hi_78 ht_79
                have hFc := pg_free hD hS hA
                refine va_calli (va_runS (As := [.ref ta, .int (nI 0), .int (nI kend)]) (rest := []) ⟨hx, hb, hml, hown, hts⟩ (s_X14_isName_e l dC dI cs ty gm L H.size F_108 ta (ρ + 1) 3000 0 kend gt hW hi_78 ht_79 hF_111 (by first | omega | assumption) (by first | omega | assumption)) ⟨callB_of 3 hts (gi kt_679) rfl rfl rfl (hts _ kt_666) (hts _ kt_853) (by decide +kernel) ⟨Nat.le_of_ble_eq_true rfl, Nat.le_of_ble_eq_true rfl⟩, (hts _ kt_681)⟩ ⟨fun a U g mk q => ⟨q.1, PTm.calling q.2⟩, fun U hU hWm => ⟨rfl, PTm.mk hU hWm hP hK hD hE hO⟩⟩ rfl rfl hl.1 rfl (lv_room (Nat.le_of_ble_eq_true rfl)) dX15_entry_110 ⟨by show _ + 0 ≤ 0; omega, by show _ + 0 ≤ 0; omega⟩) hS (fun q _ h => hFc q h) hFc (fun r_318 u t H1 locs ht hvm hw hB hz1 hk1 hS => ?_)
                obtain ⟨F_319, hB1⟩ := hB
                obtain rfl : F_108 = F_319 := (funext (fun a => hB1.2.2.2 a List.not_mem_nil)).symm
                obtain ⟨hP, hD, hO, hR⟩ := QTm.back hB1 ht hFc hR (fun q h => absurd h List.not_mem_nil)
                generalize H1 = H at hP hS ⊢
                have hw : r_318 = (if NM gt 0 kend = true then 1 else 0) := hw
                have hw_320 := hw
                refine lv_if_ne (tgt := 118) hx hb dX15_entry_113 (by decide) (fun c_321 => ?_) (fun c_321 => ?_)
                ·
                  refine W.widen (k := 0) (n := 0) (by omega) (by omega) ?_
                  exact jn_112 () F_108 (⟨ifb1 hw_320 c_321, nm_60 (ifb1 hw_320 c_321), fun h => absurd (h.symm.trans c_315) (by decide), hb2, hb2so, hb2ad⟩) hO hR _ _ hP hD hS ls (lv_sub hl [0, 1, 2, 3, 4, 5, 6] rfl)
                ·
                  refine lv_iconst (v := (-1)) hx hb dX15_entry_116 (by decide) ?_
                  refine W.widen (k := 0) (n := 0) (by omega) (by omega) ?_
                  have hR0 := FR.unre hT00 hty hR
                  have hQna := hR0 na (by rw [hTn0]; simp only [List.mem_cons, List.not_mem_nil, or_false]; omega)
                  have hQva := hR0 va (by rw [hTv0]; simp only [List.mem_cons, List.not_mem_nil, or_false]; omega)
                  exact W.iret (v := (-1)) hx hb hr (fun t ht hWm => ⟨⟨(-1), ze, rfl, (Or.inr (Or.inl ⟨hc40, val_nz (hs5n c_315) (by rw [← hk0e c_315]; exact (ifb0 hw_320 c_321)), rfl, rfl⟩)), ⟨F_108, ty, hty, QTm.mk ht hP hD hO hR, hW, ⟨(0, 0, 0, fun _ => 0, 0, fun _ => 0), DIRM.same (DIRM.fr hDM hO0 hW0 hLn0 hTn0 hLv0 hTv0 (by omega) hR0 (hb2so.trans hd1.symm) (hb2ad.trans hd2.symm) hQna hQva (fun k hk => ⟨by simp only [List.mem_cons, List.not_mem_nil, or_false]; omega, by simp only [List.mem_cons, List.not_mem_nil, or_false]; omega⟩)), fun q => absurd q (by omega)⟩⟩⟩, hS.F ht⟩) hS.2.2 dX15_entry_117
              ·
                refine lv_iload hx hb dX15_entry_97 (lv_at hl 2 rfl) ?_
                refine lv_iload_n hx hb dX15_entry_99 rfl (lv_at hl 3 rfl) ?_
                refine lv_icmp_eq (tgt := 116) hx hb dX15_entry_100 (by decide) (fun c_322 => ?_) (fun c_322 => ?_)
                ·
                  have hi_323 : j = zt := (nI_eq (a := j) (b := zt) (by omega) (by omega)).mp c_322
                  refine lv_iconst (v := (-1)) hx hb dX15_entry_116 (by decide) ?_
                  refine W.widen (k := 0) (n := 0) (by omega) (by omega) ?_
                  have hR0 := FR.unre hT00 hty hR
                  have hQna := hR0 na (by rw [hTn0]; simp only [List.mem_cons, List.not_mem_nil, or_false]; omega)
                  have hQva := hR0 va (by rw [hTv0]; simp only [List.mem_cons, List.not_mem_nil, or_false]; omega)
                  exact W.iret (v := (-1)) hx hb hr (fun t ht hWm => ⟨⟨(-1), ze, rfl, (Or.inr (Or.inl ⟨hc40, val_nv (hs5x (hs5.resolve_left c_315)) (hfst (hs5.resolve_left c_315)) (fun q => q.1 (by omega)), rfl, rfl⟩)), ⟨F_108, ty, hty, QTm.mk ht hP hD hO hR, hW, ⟨(0, 0, 0, fun _ => 0, 0, fun _ => 0), DIRM.same (DIRM.fr hDM hO0 hW0 hLn0 hTn0 hLv0 hTv0 (by omega) hR0 (hb2so.trans hd1.symm) (hb2ad.trans hd2.symm) hQna hQva (fun k hk => ⟨by simp only [List.mem_cons, List.not_mem_nil, or_false]; omega, by simp only [List.mem_cons, List.not_mem_nil, or_false]; omega⟩)), fun q => absurd q (by omega)⟩⟩⟩, hS.F ht⟩) hS.2.2 dX15_entry_117
                ·
                  have hi_324 : j ≠ zt := fun q => c_322 (by rw [q])
                  refine lv_aload_n hx hb dX15_entry_103 rfl (lv_at hl 4 rfl) ?_
                  refine pg_get (ci := 15) (v := .ref ta) (C := RX15) (T := TX15) (N := 59) hx hb hts it_15 hown hK hP hL_h0 hb2 rfl 0 (by decide) (hts _ kt_1060) (fun _ h9 => h9) rfl dX15_entry_104 ?_
                  refine lv_iconst (v := 0) hx hb dX15_entry_107 (by decide) ?_
                  refine lv_iload hx hb dX15_entry_108 (lv_at hl 0 rfl) ?_
                  refine W.eq (g2 := F0 m 110 ls [.int (nI kend), .int (nI 0), .ref ta]) rfl ?_
                  obtain ⟨hq_325, hq_326⟩ := hW.octs hi_78 ht_79
                  have hFc := pg_free hD hS hA
                  refine va_calli (va_runS (As := [.ref ta, .int (nI 0), .int (nI kend)]) (rest := []) ⟨hx, hb, hml, hown, hts⟩ (s_X14_isName_e l dC dI cs ty gm L H.size F_108 ta (ρ + 1) 3000 0 kend gt hW hi_78 ht_79 hF_111 (by first | omega | assumption) (by first | omega | assumption)) ⟨callB_of 3 hts (gi kt_679) rfl rfl rfl (hts _ kt_666) (hts _ kt_853) (by decide +kernel) ⟨Nat.le_of_ble_eq_true rfl, Nat.le_of_ble_eq_true rfl⟩, (hts _ kt_681)⟩ ⟨fun a U g mk q => ⟨q.1, PTm.calling q.2⟩, fun U hU hWm => ⟨rfl, PTm.mk hU hWm hP hK hD hE hO⟩⟩ rfl rfl hl.1 rfl (lv_room (Nat.le_of_ble_eq_true rfl)) dX15_entry_110 ⟨by show _ + 0 ≤ 0; omega, by show _ + 0 ≤ 0; omega⟩) hS (fun q _ h => hFc q h) hFc (fun r_327 u t H1 locs ht hvm hw hB hz1 hk1 hS => ?_)
                  obtain ⟨F_328, hB1⟩ := hB
                  obtain rfl : F_108 = F_328 := (funext (fun a => hB1.2.2.2 a List.not_mem_nil)).symm
                  obtain ⟨hP, hD, hO, hR⟩ := QTm.back hB1 ht hFc hR (fun q h => absurd h List.not_mem_nil)
                  generalize H1 = H at hP hS ⊢
                  have hw : r_327 = (if NM gt 0 kend = true then 1 else 0) := hw
                  have hw_329 := hw
                  refine lv_if_ne (tgt := 118) hx hb dX15_entry_113 (by decide) (fun c_330 => ?_) (fun c_330 => ?_)
                  ·
                    refine W.widen (k := 0) (n := 0) (by omega) (by omega) ?_
                    exact jn_112 () F_108 (⟨ifb1 hw_329 c_330, nm_60 (ifb1 hw_329 c_330), fun _ => by omega, hb2, hb2so, hb2ad⟩) hO hR _ _ hP hD hS ls (lv_sub hl [0, 1, 2, 3, 4, 5, 6] rfl)
                  ·
                    refine lv_iconst (v := (-1)) hx hb dX15_entry_116 (by decide) ?_
                    refine W.widen (k := 0) (n := 0) (by omega) (by omega) ?_
                    have hR0 := FR.unre hT00 hty hR
                    have hQna := hR0 na (by rw [hTn0]; simp only [List.mem_cons, List.not_mem_nil, or_false]; omega)
                    have hQva := hR0 va (by rw [hTv0]; simp only [List.mem_cons, List.not_mem_nil, or_false]; omega)
                    exact W.iret (v := (-1)) hx hb hr (fun t ht hWm => ⟨⟨(-1), ze, rfl, (Or.inr (Or.inl ⟨hc40, val_nn (hs5x (hs5.resolve_left c_315)) (hfst (hs5.resolve_left c_315)) (by rw [← hk1e (hs5.resolve_left c_315)]; exact (ifb0 hw_329 c_330)), rfl, rfl⟩)), ⟨F_108, ty, hty, QTm.mk ht hP hD hO hR, hW, ⟨(0, 0, 0, fun _ => 0, 0, fun _ => 0), DIRM.same (DIRM.fr hDM hO0 hW0 hLn0 hTn0 hLv0 hTv0 (by omega) hR0 (hb2so.trans hd1.symm) (hb2ad.trans hd2.symm) hQna hQva (fun k hk => ⟨by simp only [List.mem_cons, List.not_mem_nil, or_false]; omega, by simp only [List.mem_cons, List.not_mem_nil, or_false]; omega⟩)), fun q => absurd q (by omega)⟩⟩⟩, hS.F ht⟩) hS.2.2 dX15_entry_117
          ·
            refine lv_iload hx hb dX15_entry_79 (lv_at hl 0 rfl) ?_
            refine lv_if_eq (tgt := 89) hx hb dX15_entry_81 (by decide) (fun c_331 => ?_) (fun c_331 => ?_)
            ·
              refine lv_iload_n hx hb dX15_entry_89 rfl (lv_at hl 2 rfl) ?_
              refine W.widen (k := 0) (n := 0) (by omega) (by omega) ?_
              exact jn_107 (nI zt) F_101 (⟨⟨zt, Nat.le_refl _, rfl, fun h => absurd (h.symm.trans c_331) (by decide), fun _ => rfl⟩, ha2, ha2so, ha2ad⟩) hO hR _ _ hP hD hS ls (lv_sub hl [0, 1, 2, 3, 4, 5] rfl)
            ·
              refine lv_iload hx hb dX15_entry_84 (lv_at hl 1 rfl) ?_
              refine lv_goto (tgt := 90) hx hb dX15_entry_86 (by decide) ?_
              refine W.widen (k := 0) (n := 0) (by omega) (by omega) ?_
              exact jn_107 (nI j) F_101 (⟨⟨j, by omega, rfl, fun _ => rfl, fun h => absurd h c_331⟩, ha2, ha2so, ha2ad⟩) hO hR _ _ hP hD hS ls (lv_sub hl [0, 1, 2, 3, 4, 5] rfl)
        ·
          refine lv_iload hx hb dX15_entry_55 (lv_at hl 1 rfl) ?_
          refine lv_iload_n hx hb dX15_entry_57 rfl (lv_at hl 2 rfl) ?_
          refine lv_icmp_ge (tgt := 79) hx hb dX15_entry_58 (by decide) (fun c_332 => ?_) (fun c_332 => ?_)
          ·
            have hi_333 : zt ≤ j := leN (N := zt) c_332
            have hfst : s5 = 1 → FST gt 32 zt j := fun _ => ⟨by omega, ha3, Or.inl (by omega)⟩
            have hF_336 : F ta = .inl (cs 17, 3000, .inl gt) := (hR ta (by rw [ht_79]; simp only [List.mem_cons, List.not_mem_nil, or_false]; omega)).symm.trans hF_105
            refine W.widen (k := 0) (n := 0) (by omega) (by omega) ?_
            refine pl_cutm (σ := Int32) A (dC, dI) cs ty gm L [ρ, ρ + 3, ρ + 31, ρ + 4 + ze + 100, ρ + 50 + ze + 100] F 90 7 (fun s6 => [(5, .int s5), (4, .int (nI j)), (3, .int (nI zt)), (0, .ref h0), (1, .int x1), (2, .int x2)]) (fun s6 => [.int s6]) (fun s6 FF => (∃ k : Nat, k ≤ zt ∧ s6 = nI k ∧ (s5 = 1 → k = j) ∧ (s5 = 0 → k = zt)) ∧ FF h0 = .inr (15, (.ref ta) :: (.int 0) :: (.int (nI zo)) :: (.int (nI ze)) :: (.ref ou) :: (.ref so) :: (.ref ad) :: (.ref na) :: (.ref va) :: (.ref lc) :: (.ref dm) :: (.int v11_28) :: (.int v12_29) :: (.ref tg) :: (.int v14_30) :: (.int v15_31) :: (.ref pe) :: (.int v17_32) :: (.int v18_33) :: (.int v19_34) :: (.int v20_35) :: (.int v21_36) :: (.int v22_37) :: (.ref ml) :: (.ref bg) :: (.ref co) :: (.ref sp) :: (.ref nb0) :: (.ref nb1) :: (.ref nb2) :: (.int (nI nf)) :: (.int (nI bd)) :: (.int (nI mm)) :: (.int v33_38) :: (.ref pl) :: (.ref se) :: (.ref ke) :: (.ref wi) :: (.ref hs) :: (.ref mo) :: (.ref po) :: (.ref nu) :: (.ref pr) :: (.ref sq) :: (.ref xa) :: (.ref sa) :: (.ref n64) :: (.ref m64) :: (.ref ex) :: (.ref wh) :: (.ref sd) :: (.ref tk) :: (.int v52_39) :: (.int v53_40) :: (.int v54_41) :: (.ref hd) :: (.ref ak) :: (.ref ho) :: (.ref ot) :: []) ∧ FF so = .inl (cs 16, 40, .inl fs) ∧ FF ad = .inl (cs 16, 40, .inl fd)) ?_ (fun jn_334 => ?_)
            ·
              rintro s6 F_335 hv_337 hO hR H locs hP hD hS ls hl
              have hl : lv_has ls 7 [(5, .int s5), (4, .int (nI j)), (3, .int (nI zt)), (0, .ref h0), (1, .int x1), (2, .int x2)] := hl
              have hv_337 : (∃ k : Nat, k ≤ zt ∧ s6 = nI k ∧ (s5 = 1 → k = j) ∧ (s5 = 0 → k = zt)) ∧ F_335 h0 = .inr (15, (.ref ta) :: (.int 0) :: (.int (nI zo)) :: (.int (nI ze)) :: (.ref ou) :: (.ref so) :: (.ref ad) :: (.ref na) :: (.ref va) :: (.ref lc) :: (.ref dm) :: (.int v11_28) :: (.int v12_29) :: (.ref tg) :: (.int v14_30) :: (.int v15_31) :: (.ref pe) :: (.int v17_32) :: (.int v18_33) :: (.int v19_34) :: (.int v20_35) :: (.int v21_36) :: (.int v22_37) :: (.ref ml) :: (.ref bg) :: (.ref co) :: (.ref sp) :: (.ref nb0) :: (.ref nb1) :: (.ref nb2) :: (.int (nI nf)) :: (.int (nI bd)) :: (.int (nI mm)) :: (.int v33_38) :: (.ref pl) :: (.ref se) :: (.ref ke) :: (.ref wi) :: (.ref hs) :: (.ref mo) :: (.ref po) :: (.ref nu) :: (.ref pr) :: (.ref sq) :: (.ref xa) :: (.ref sa) :: (.ref n64) :: (.ref m64) :: (.ref ex) :: (.ref wh) :: (.ref sd) :: (.ref tk) :: (.int v52_39) :: (.int v53_40) :: (.int v54_41) :: (.ref hd) :: (.ref ak) :: (.ref ho) :: (.ref ot) :: []) ∧ F_335 so = .inl (cs 16, 40, .inl fs) ∧ F_335 ad = .inl (cs 16, 40, .inl fd) := hv_337
              refine W.eq (g2 := F0 m 90 ls [.int s6]) rfl ?_
              have hF_338 : F_335 ta = .inl (cs 17, 3000, .inl gt) := (hR ta (by rw [ht_79]; simp only [List.mem_cons, List.not_mem_nil, or_false]; omega)).trans hF_336
              obtain ⟨⟨kend, hke, eke, hk1e, hk0e⟩, hb2⟩ := hv_337
              subst eke
              refine W.eq (g2 := F0 m 90 ls [.int (nI kend)]) rfl ?_
              obtain ⟨hb2, hb2so, hb2ad⟩ := hb2
              refine lv_istore (lv' := [(6, .int (nI kend)), (5, .int s5), (4, .int (nI j)), (3, .int (nI zt)), (0, .ref h0), (1, .int x1), (2, .int x2)]) hx hb dX15_entry_90 hl (by decide) rfl (fun ls hl => ?_)
              have hF_341 : F ta = .inl (cs 17, 3000, .inl gt) := (hR ta (by rw [ht_79]; simp only [List.mem_cons, List.not_mem_nil, or_false]; omega)).symm.trans hF_338
              refine W.widen (k := 0) (n := 0) (by omega) (by omega) ?_
              refine pl_cutm (σ := Unit) A (dC, dI) cs ty gm L [ρ, ρ + 3, ρ + 31, ρ + 4 + ze + 100, ρ + 50 + ze + 100] F 118 7 (fun u0 => [(6, .int (nI kend)), (5, .int s5), (4, .int (nI j)), (3, .int (nI zt)), (0, .ref h0), (1, .int x1), (2, .int x2)]) (fun u0 => []) (fun u0 FF => NM gt 0 kend = true ∧ kend ≤ 60 ∧ (s5 = 1 → j < zt) ∧ FF h0 = .inr (15, (.ref ta) :: (.int 0) :: (.int (nI zo)) :: (.int (nI ze)) :: (.ref ou) :: (.ref so) :: (.ref ad) :: (.ref na) :: (.ref va) :: (.ref lc) :: (.ref dm) :: (.int v11_28) :: (.int v12_29) :: (.ref tg) :: (.int v14_30) :: (.int v15_31) :: (.ref pe) :: (.int v17_32) :: (.int v18_33) :: (.int v19_34) :: (.int v20_35) :: (.int v21_36) :: (.int v22_37) :: (.ref ml) :: (.ref bg) :: (.ref co) :: (.ref sp) :: (.ref nb0) :: (.ref nb1) :: (.ref nb2) :: (.int (nI nf)) :: (.int (nI bd)) :: (.int (nI mm)) :: (.int v33_38) :: (.ref pl) :: (.ref se) :: (.ref ke) :: (.ref wi) :: (.ref hs) :: (.ref mo) :: (.ref po) :: (.ref nu) :: (.ref pr) :: (.ref sq) :: (.ref xa) :: (.ref sa) :: (.ref n64) :: (.ref m64) :: (.ref ex) :: (.ref wh) :: (.ref sd) :: (.ref tk) :: (.int v52_39) :: (.int v53_40) :: (.int v54_41) :: (.ref hd) :: (.ref ak) :: (.ref ho) :: (.ref ot) :: []) ∧ FF so = .inl (cs 16, 40, .inl fs) ∧ FF ad = .inl (cs 16, 40, .inl fd)) ?_ (fun jn_339 => ?_)
              ·
                rintro u0 F_340 hv_342 hO hR H locs hP hD hS ls hl
                have hl : lv_has ls 7 [(6, .int (nI kend)), (5, .int s5), (4, .int (nI j)), (3, .int (nI zt)), (0, .ref h0), (1, .int x1), (2, .int x2)] := hl
                have hv_342 : NM gt 0 kend = true ∧ kend ≤ 60 ∧ (s5 = 1 → j < zt) ∧ F_340 h0 = .inr (15, (.ref ta) :: (.int 0) :: (.int (nI zo)) :: (.int (nI ze)) :: (.ref ou) :: (.ref so) :: (.ref ad) :: (.ref na) :: (.ref va) :: (.ref lc) :: (.ref dm) :: (.int v11_28) :: (.int v12_29) :: (.ref tg) :: (.int v14_30) :: (.int v15_31) :: (.ref pe) :: (.int v17_32) :: (.int v18_33) :: (.int v19_34) :: (.int v20_35) :: (.int v21_36) :: (.int v22_37) :: (.ref ml) :: (.ref bg) :: (.ref co) :: (.ref sp) :: (.ref nb0) :: (.ref nb1) :: (.ref nb2) :: (.int (nI nf)) :: (.int (nI bd)) :: (.int (nI mm)) :: (.int v33_38) :: (.ref pl) :: (.ref se) :: (.ref ke) :: (.ref wi) :: (.ref hs) :: (.ref mo) :: (.ref po) :: (.ref nu) :: (.ref pr) :: (.ref sq) :: (.ref xa) :: (.ref sa) :: (.ref n64) :: (.ref m64) :: (.ref ex) :: (.ref wh) :: (.ref sd) :: (.ref tk) :: (.int v52_39) :: (.int v53_40) :: (.int v54_41) :: (.ref hd) :: (.ref ak) :: (.ref ho) :: (.ref ot) :: []) ∧ F_340 so = .inl (cs 16, 40, .inl fs) ∧ F_340 ad = .inl (cs 16, 40, .inl fd) := hv_342
                refine W.eq (g2 := F0 m 118 ls []) rfl ?_
                have hF_343 : F_340 ta = .inl (cs 17, 3000, .inl gt) := (hR ta (by rw [ht_79]; simp only [List.mem_cons, List.not_mem_nil, or_false]; omega)).trans hF_341
                obtain ⟨hn1, hn6, hn2, hn3⟩ := hv_342
                obtain ⟨hn3, hn3so, hn3ad⟩ := hn3
                have hF_346 : F ta = .inl (cs 17, 3000, .inl gt) := (hR ta (by rw [ht_79]; simp only [List.mem_cons, List.not_mem_nil, or_false]; omega)).symm.trans hF_343
                refine W.widen (k := 0) (n := 0) (by omega) (by omega) ?_
                refine pl_cutm (σ := Unit) A (dC, dI) cs ty gm L [ρ, ρ + 3, ρ + 31, ρ + 4 + ze + 100, ρ + 50 + ze + 100] F 156 7 (fun u0 => [(6, .int (nI kend)), (5, .int s5), (4, .int (nI j)), (3, .int (nI zt)), (0, .ref h0), (1, .int x1), (2, .int x2)]) (fun u0 => []) (fun u0 FF => (s5 = 1 → ISV x1 gt zt j ∧ zt - j - 1 ≤ 700) ∧ FF h0 = .inr (15, (.ref ta) :: (.int 0) :: (.int (nI zo)) :: (.int (nI ze)) :: (.ref ou) :: (.ref so) :: (.ref ad) :: (.ref na) :: (.ref va) :: (.ref lc) :: (.ref dm) :: (.int v11_28) :: (.int v12_29) :: (.ref tg) :: (.int v14_30) :: (.int v15_31) :: (.ref pe) :: (.int v17_32) :: (.int v18_33) :: (.int v19_34) :: (.int v20_35) :: (.int v21_36) :: (.int v22_37) :: (.ref ml) :: (.ref bg) :: (.ref co) :: (.ref sp) :: (.ref nb0) :: (.ref nb1) :: (.ref nb2) :: (.int (nI nf)) :: (.int (nI bd)) :: (.int (nI mm)) :: (.int v33_38) :: (.ref pl) :: (.ref se) :: (.ref ke) :: (.ref wi) :: (.ref hs) :: (.ref mo) :: (.ref po) :: (.ref nu) :: (.ref pr) :: (.ref sq) :: (.ref xa) :: (.ref sa) :: (.ref n64) :: (.ref m64) :: (.ref ex) :: (.ref wh) :: (.ref sd) :: (.ref tk) :: (.int v52_39) :: (.int v53_40) :: (.int v54_41) :: (.ref hd) :: (.ref ak) :: (.ref ho) :: (.ref ot) :: []) ∧ FF so = .inl (cs 16, 40, .inl fs) ∧ FF ad = .inl (cs 16, 40, .inl fd)) ?_ (fun jn_344 => ?_)
                ·
                  rintro u0 F_345 hv_347 hO hR H locs hP hD hS ls hl
                  have hl : lv_has ls 7 [(6, .int (nI kend)), (5, .int s5), (4, .int (nI j)), (3, .int (nI zt)), (0, .ref h0), (1, .int x1), (2, .int x2)] := hl
                  have hv_347 : (s5 = 1 → ISV x1 gt zt j ∧ zt - j - 1 ≤ 700) ∧ F_345 h0 = .inr (15, (.ref ta) :: (.int 0) :: (.int (nI zo)) :: (.int (nI ze)) :: (.ref ou) :: (.ref so) :: (.ref ad) :: (.ref na) :: (.ref va) :: (.ref lc) :: (.ref dm) :: (.int v11_28) :: (.int v12_29) :: (.ref tg) :: (.int v14_30) :: (.int v15_31) :: (.ref pe) :: (.int v17_32) :: (.int v18_33) :: (.int v19_34) :: (.int v20_35) :: (.int v21_36) :: (.int v22_37) :: (.ref ml) :: (.ref bg) :: (.ref co) :: (.ref sp) :: (.ref nb0) :: (.ref nb1) :: (.ref nb2) :: (.int (nI nf)) :: (.int (nI bd)) :: (.int (nI mm)) :: (.int v33_38) :: (.ref pl) :: (.ref se) :: (.ref ke) :: (.ref wi) :: (.ref hs) :: (.ref mo) :: (.ref po) :: (.ref nu) :: (.ref pr) :: (.ref sq) :: (.ref xa) :: (.ref sa) :: (.ref n64) :: (.ref m64) :: (.ref ex) :: (.ref wh) :: (.ref sd) :: (.ref tk) :: (.int v52_39) :: (.int v53_40) :: (.int v54_41) :: (.ref hd) :: (.ref ak) :: (.ref ho) :: (.ref ot) :: []) ∧ F_345 so = .inl (cs 16, 40, .inl fs) ∧ F_345 ad = .inl (cs 16, 40, .inl fd) := hv_347
                  refine W.eq (g2 := F0 m 156 ls []) rfl ?_
                  have hF_348 : F_345 ta = .inl (cs 17, 3000, .inl gt) := (hR ta (by rw [ht_79]; simp only [List.mem_cons, List.not_mem_nil, or_false]; omega)).trans hF_346
                  obtain ⟨ho1, ho2⟩ := hv_347
                  obtain ⟨ho2, ho2so, ho2ad⟩ := ho2
                  refine lv_aload_n hx hb dX15_entry_156 rfl (lv_at hl 4 rfl) ?_
                  refine pg_get (ci := 15) (v := .ref so) (C := RX15) (T := TX15) (N := 59) hx hb hts it_15 hown hK hP hL_h0 ho2 rfl 5 (by decide) (hts _ kt_708) (fun _ h9 => h9) rfl dX15_entry_157 ?_
                  refine lv_aload_n hx hb dX15_entry_160 rfl (lv_at hl 4 rfl) ?_
                  refine pg_get (ci := 15) (v := .int (nI ze)) (C := RX15) (T := TX15) (N := 59) hx hb hts it_15 hown hK hP hL_h0 ho2 rfl 3 (by decide) (hts _ kt_714) (fun _ h9 => h9) rfl dX15_entry_161 ?_
                  refine lv_iload_n hx hb dX15_entry_164 rfl (lv_at hl 5 rfl) ?_
                  refine pg_iast hx hb hK hP hD hS hi_81 0 ho2so rfl (vp_in_nI (by omega) (by omega)) dX15_entry_165 (fun H locs hP hD hS => ?_)
                  obtain ⟨F_349, he_350, hP, hD, hO, hR⟩ : ∃ G, G = va_up F_345 so (.inl (cs 16, 40, .inl (upd fs ((nI ze)).toNatClampNeg (x1)))) ∧ va_P (dC, dI) vwCl (va_pl L G) H ∧ va_D A (va_pl L G) ∧ OKm cs ty gm L G ∧ FR ty [ρ, ρ + 3, ρ + 31, ρ + 4 + ze + 100, ρ + 50 + ze + 100] F G := ⟨_, rfl, hP, hD, hO.up (shm.ints ht_82 ⟨_, rfl⟩), hR.up ht_82 (by simp)⟩
                  have hF_351 : F_349 so = .inl (cs 16, 40, .inl (upd fs ((nI ze)).toNatClampNeg (x1))) := by rw [he_350]; exact up_self
                  have hF_352 : F_349 ta = .inl (cs 17, 3000, .inl gt) := by rw [he_350, up_ne (ne_ty ht_79 ht_82 (by simp))]; exact hF_348
                  have hF_353 : F_349 h0 = .inr (15, (.ref ta) :: (.int 0) :: (.int (nI zo)) :: (.int (nI ze)) :: (.ref ou) :: (.ref so) :: (.ref ad) :: (.ref na) :: (.ref va) :: (.ref lc) :: (.ref dm) :: (.int v11_28) :: (.int v12_29) :: (.ref tg) :: (.int v14_30) :: (.int v15_31) :: (.ref pe) :: (.int v17_32) :: (.int v18_33) :: (.int v19_34) :: (.int v20_35) :: (.int v21_36) :: (.int v22_37) :: (.ref ml) :: (.ref bg) :: (.ref co) :: (.ref sp) :: (.ref nb0) :: (.ref nb1) :: (.ref nb2) :: (.int (nI nf)) :: (.int (nI bd)) :: (.int (nI mm)) :: (.int v33_38) :: (.ref pl) :: (.ref se) :: (.ref ke) :: (.ref wi) :: (.ref hs) :: (.ref mo) :: (.ref po) :: (.ref nu) :: (.ref pr) :: (.ref sq) :: (.ref xa) :: (.ref sa) :: (.ref n64) :: (.ref m64) :: (.ref ex) :: (.ref wh) :: (.ref sd) :: (.ref tk) :: (.int v52_39) :: (.int v53_40) :: (.int v54_41) :: (.ref hd) :: (.ref ak) :: (.ref ho) :: (.ref ot) :: []) := by rw [he_350, up_ne (ne_ty hT_h0 ht_82 (by simp))]; exact ho2
                  have hF_354 : F_349 ad = .inl (cs 16, 40, .inl fd) := by rw [he_350, up_ne (ne_ty2 ht_85 ht_82 (by simp))]; exact ho2ad
                  have hF_355 : F_349 so = .inl (cs 16, 40, .inl (upd fs ze x1)) := by have h9 := hF_351; rwa [nI_clamp (by omega)] at h9
                  refine lv_aload_n hx hb dX15_entry_166 rfl (lv_at hl 4 rfl) ?_
                  refine pg_get (ci := 15) (v := .ref ad) (C := RX15) (T := TX15) (N := 59) hx hb hts it_15 hown hK hP hL_h0 hF_353 rfl 6 (by decide) (hts _ kt_730) (fun _ h9 => h9) rfl dX15_entry_167 ?_
                  refine lv_aload_n hx hb dX15_entry_170 rfl (lv_at hl 4 rfl) ?_
                  refine pg_get (ci := 15) (v := .int (nI ze)) (C := RX15) (T := TX15) (N := 59) hx hb hts it_15 hown hK hP hL_h0 hF_353 rfl 3 (by decide) (hts _ kt_714) (fun _ h9 => h9) rfl dX15_entry_171 ?_
                  refine lv_iload_n hx hb dX15_entry_174 rfl (lv_at hl 6 rfl) ?_
                  refine pg_iast hx hb hK hP hD hS hi_84 0 hF_354 rfl (vp_in_nI (by omega) (by omega)) dX15_entry_175 (fun H locs hP hD hS => ?_)
                  obtain ⟨F_356, he_357, hP, hD, hO, hR⟩ : ∃ G, G = va_up F_349 ad (.inl (cs 16, 40, .inl (upd fd ((nI ze)).toNatClampNeg (x2)))) ∧ va_P (dC, dI) vwCl (va_pl L G) H ∧ va_D A (va_pl L G) ∧ OKm cs ty gm L G ∧ FR ty [ρ, ρ + 3, ρ + 31, ρ + 4 + ze + 100, ρ + 50 + ze + 100] F G := ⟨_, rfl, hP, hD, hO.up (shm.ints ht_85 ⟨_, rfl⟩), hR.up ht_85 (by simp)⟩
                  have hF_358 : F_356 ad = .inl (cs 16, 40, .inl (upd fd ((nI ze)).toNatClampNeg (x2))) := by rw [he_357]; exact up_self
                  have hF_359 : F_356 so = .inl (cs 16, 40, .inl (upd fs ze x1)) := by rw [he_357, up_ne (ne_ty2 ht_82 ht_85 (by simp))]; exact hF_355
                  have hF_360 : F_356 ta = .inl (cs 17, 3000, .inl gt) := by rw [he_357, up_ne (ne_ty ht_79 ht_85 (by simp))]; exact hF_352
                  have hF_361 : F_356 h0 = .inr (15, (.ref ta) :: (.int 0) :: (.int (nI zo)) :: (.int (nI ze)) :: (.ref ou) :: (.ref so) :: (.ref ad) :: (.ref na) :: (.ref va) :: (.ref lc) :: (.ref dm) :: (.int v11_28) :: (.int v12_29) :: (.ref tg) :: (.int v14_30) :: (.int v15_31) :: (.ref pe) :: (.int v17_32) :: (.int v18_33) :: (.int v19_34) :: (.int v20_35) :: (.int v21_36) :: (.int v22_37) :: (.ref ml) :: (.ref bg) :: (.ref co) :: (.ref sp) :: (.ref nb0) :: (.ref nb1) :: (.ref nb2) :: (.int (nI nf)) :: (.int (nI bd)) :: (.int (nI mm)) :: (.int v33_38) :: (.ref pl) :: (.ref se) :: (.ref ke) :: (.ref wi) :: (.ref hs) :: (.ref mo) :: (.ref po) :: (.ref nu) :: (.ref pr) :: (.ref sq) :: (.ref xa) :: (.ref sa) :: (.ref n64) :: (.ref m64) :: (.ref ex) :: (.ref wh) :: (.ref sd) :: (.ref tk) :: (.int v52_39) :: (.int v53_40) :: (.int v54_41) :: (.ref hd) :: (.ref ak) :: (.ref ho) :: (.ref ot) :: []) := by rw [he_357, up_ne (ne_ty hT_h0 ht_85 (by simp))]; exact hF_353
                  have hF_362 : F_356 ad = .inl (cs 16, 40, .inl (upd fd ze x2)) := by have h9 := hF_358; rwa [nI_clamp (by omega)] at h9
                  refine lv_aload_n hx hb dX15_entry_176 rfl (lv_at hl 4 rfl) ?_
                  refine pg_get (ci := 15) (v := .ref na) (C := RX15) (T := TX15) (N := 59) hx hb hts it_15 hown hK hP hL_h0 hF_361 rfl 7 (by decide) (hts _ kt_709) (fun _ h9 => h9) rfl dX15_entry_177 ?_
                  refine lv_aload_n hx hb dX15_entry_180 rfl (lv_at hl 4 rfl) ?_
                  refine pg_get (ci := 15) (v := .int (nI ze)) (C := RX15) (T := TX15) (N := 59) hx hb hts it_15 hown hK hP hL_h0 hF_361 rfl 3 (by decide) (hts _ kt_714) (fun _ h9 => h9) rfl dX15_entry_181 ?_
                  have hzna := FR.unre hT00 hty hR na (by rw [hTn0]; simp only [List.mem_cons, List.not_mem_nil, or_false]; omega)
                  obtain ⟨hi_363, ht_364⟩ := hW.f_na hL_h0 hT_h0
                  obtain ⟨f_365, hF_366, hq_367⟩ := hO.rtxj hi_363 ht_364
                  obtain rfl : fn = f_365 := by have e9 := (hzna.trans hd3).symm.trans hF_366; simpa using e9
                  obtain ⟨b_368, r_369, hbf_370, hi_371, ht_372⟩ := hq_367 ze (by omega)
                  refine pg_aald (r := b_368) hx hb hK hP hi_363 7 hF_366 rfl (vp_in_nI (by omega) (by omega)) (show fn ((nI ze) : Int32).toNatClampNeg = _ from by rw [show ((nI ze) : Int32) = nI ze from rfl, nI_clamp (by omega)]; exact hbf_370) dX15_entry_184 ?_
                  refine lv_aload_n hx hb dX15_entry_185 rfl (lv_at hl 4 rfl) ?_
                  refine pg_get (ci := 15) (v := .ref ta) (C := RX15) (T := TX15) (N := 59) hx hb hts it_15 hown hK hP hL_h0 hF_361 rfl 0 (by decide) (hts _ kt_1060) (fun _ h9 => h9) rfl dX15_entry_186 ?_
                  refine lv_iconst (v := 0) hx hb dX15_entry_189 (by decide) ?_
                  refine lv_iload hx hb dX15_entry_190 (lv_at hl 0 rfl) ?_
                  refine W.eq (g2 := F0 m 192 ls [.int (nI kend), .int (nI 0), .ref ta, .ref b_368]) rfl ?_
                  obtain ⟨hi_373, ht_374, hq_375⟩ := hW.txt hi_371 ht_372
                  obtain ⟨hq_376, hq_377⟩ := hW.octs hi_78 ht_79
                  have hFc := pg_free hD hS hA
                  obtain ⟨z_378, hF_379, hq_380⟩ := hO.txt hi_371 ht_372
                  refine va_callv (va_runV (As := [.ref ta, .int (nI 0), .int (nI kend)]) (rest := []) ⟨hx, hb, hml, hown, hts⟩ (s_X14_set_e l dC dI cs ty gm L H.size F_356 b_368 (ρ + 4 + ze + 100) r_369 60 ta (ρ + 1) 3000 0 kend gt hW hi_371 ht_372 hi_78 ht_79 hF_360 (Nat.zero_le _) (by omega) (by omega)) ⟨callB_of 3 hts (gi kt_959) rfl rfl rfl (hts _ kt_666) (hts _ kt_960) (by decide +kernel) ⟨Nat.le_of_ble_eq_true rfl, Nat.le_of_ble_eq_true rfl⟩, (hts _ kt_961), (hts _ kt_962)⟩ ⟨fun a U g mk q => ⟨q.1, PTm.calling q.2⟩, pg_recv hK hP hi_371 hF_379 (q := (RX14, TX14, 2)) rfl, fun U hU hWm => ⟨rfl, PTm.mk hU hWm hP hK hD hE hO⟩⟩ rfl rfl hl.1 rfl (lv_room (Nat.le_of_ble_eq_true rfl)) dX15_entry_192 ⟨by show _ + 0 ≤ 0; omega, by show _ + 0 ≤ 0; omega⟩) hS (fun q _ h => hFc q h) hFc (fun u t H1 locs ht hvm hw hB hz1 hk1 hS => ?_)
                  obtain ⟨F_382, fc_383, hB1, hq_384, hq_385, hq_386⟩ := hB
                  obtain ⟨hP, hD, hO, hR⟩ := QTm.back hB1 ht hFc hR (fun q h => by simp only [List.mem_cons, List.not_mem_nil, or_false] at h ⊢; omega)
                  have hF_387 : F_382 ad = .inl (cs 16, 40, .inl (upd fd ze x2)) := (hB1.2.2.2 ad (by rw [ht_85]; simp only [List.mem_cons, List.not_mem_nil, or_false]; omega)).trans hF_362
                  have hF_388 : F_382 so = .inl (cs 16, 40, .inl (upd fs ze x1)) := (hB1.2.2.2 so (by rw [ht_82]; simp only [List.mem_cons, List.not_mem_nil, or_false]; omega)).trans hF_359
                  have hF_389 : F_382 ta = .inl (cs 17, 3000, .inl gt) := (hB1.2.2.2 ta (by rw [ht_79]; simp only [List.mem_cons, List.not_mem_nil, or_false]; omega)).trans hF_360
                  have hF_390 : F_382 h0 = .inr (15, (.ref ta) :: (.int 0) :: (.int (nI zo)) :: (.int (nI ze)) :: (.ref ou) :: (.ref so) :: (.ref ad) :: (.ref na) :: (.ref va) :: (.ref lc) :: (.ref dm) :: (.int v11_28) :: (.int v12_29) :: (.ref tg) :: (.int v14_30) :: (.int v15_31) :: (.ref pe) :: (.int v17_32) :: (.int v18_33) :: (.int v19_34) :: (.int v20_35) :: (.int v21_36) :: (.int v22_37) :: (.ref ml) :: (.ref bg) :: (.ref co) :: (.ref sp) :: (.ref nb0) :: (.ref nb1) :: (.ref nb2) :: (.int (nI nf)) :: (.int (nI bd)) :: (.int (nI mm)) :: (.int v33_38) :: (.ref pl) :: (.ref se) :: (.ref ke) :: (.ref wi) :: (.ref hs) :: (.ref mo) :: (.ref po) :: (.ref nu) :: (.ref pr) :: (.ref sq) :: (.ref xa) :: (.ref sa) :: (.ref n64) :: (.ref m64) :: (.ref ex) :: (.ref wh) :: (.ref sd) :: (.ref tk) :: (.int v52_39) :: (.int v53_40) :: (.int v54_41) :: (.ref hd) :: (.ref ak) :: (.ref ho) :: (.ref ot) :: []) := (hB1.2.2.2 h0 (by rw [hT_h0]; simp only [List.mem_cons, List.not_mem_nil, or_false]; omega)).trans hF_361
                  have hF_391 : F_382 na = .inl (cs 23, 40, .inr (.inr (.inr (.inr fn)))) := (hB1.2.2.2 na (by rw [ht_364]; simp only [List.mem_cons, List.not_mem_nil, or_false]; omega)).trans hF_366
                  generalize H1 = H at hP hS ⊢
                  refine lv_aload_n hx hb dX15_entry_195 rfl (lv_at hl 4 rfl) ?_
                  refine pg_get (ci := 15) (v := .ref va) (C := RX15) (T := TX15) (N := 59) hx hb hts it_15 hown hK hP hL_h0 hF_390 rfl 8 (by decide) (hts _ kt_722) (fun _ h9 => h9) rfl dX15_entry_196 ?_
                  refine lv_aload_n hx hb dX15_entry_199 rfl (lv_at hl 4 rfl) ?_
                  refine pg_get (ci := 15) (v := .int (nI ze)) (C := RX15) (T := TX15) (N := 59) hx hb hts it_15 hown hK hP hL_h0 hF_390 rfl 3 (by decide) (hts _ kt_714) (fun _ h9 => h9) rfl dX15_entry_200 ?_
                  have hzva := FR.unre hT00 hty hR va (by rw [hTv0]; simp only [List.mem_cons, List.not_mem_nil, or_false]; omega)
                  obtain ⟨hi_392, ht_393⟩ := hW.f_va hL_h0 hT_h0
                  obtain ⟨f_394, hF_395, hq_396⟩ := hO.rtxj hi_392 ht_393
                  obtain rfl : fv = f_394 := by have e9 := (hzva.trans hd4).symm.trans hF_395; simpa using e9
                  obtain ⟨b_397, r_398, hbf_399, hi_400, ht_401⟩ := hq_396 ze (by omega)
                  refine pg_aald (r := b_397) hx hb hK hP hi_392 7 hF_395 rfl (vp_in_nI (by omega) (by omega)) (show fv ((nI ze) : Int32).toNatClampNeg = _ from by rw [show ((nI ze) : Int32) = nI ze from rfl, nI_clamp (by omega)]; exact hbf_399) dX15_entry_203 ?_
                  refine lv_iconst (v := 0) hx hb dX15_entry_204 (by decide) ?_
                  obtain ⟨hi_402, ht_403, hq_404⟩ := hW.txt hi_400 ht_401
                  obtain ⟨z_405, hF_406, hq_407⟩ := hO.txt hi_400 ht_401
                  refine pg_put (ci := 14) (v := .int 0) (ty := .int) (C := RX14) (T := TX14) (N := 2) hx hb hts it_14 tyX14 tyX14_ok nmX14 hown hK hP hD hS hi_400 hF_406 rfl 1 (by decide) (hts _ kt_699) (fun _ h9 => h9) rfl (by decide +kernel) (rfl) (rfl) (Nat.le_of_ble_eq_true rfl) dX15_entry_205 (fun H locs hP hD hS => ?_)
                  obtain ⟨F_408, he_409, hP, hD, hO, hR⟩ : ∃ G, G = va_up F_382 b_397 (.inr (14, [.ref r_398, .int 0])) ∧ va_P (dC, dI) vwCl (va_pl L G) H ∧ va_D A (va_pl L G) ∧ OKm cs ty gm L G ∧ FR ty [ρ, ρ + 3, ρ + 31, ρ + 4 + ze + 100, ρ + 50 + ze + 100] F G := ⟨_, rfl, hP, hD, hO.up (shm.txt ht_401 ⟨0, rfl, (by first | omega | assumption | exact Or.inl rfl | exact Or.inr rfl)⟩), hR.up ht_401 (by simp)⟩
                  have hF_410 : F_408 b_397 = .inr (14, [.ref r_398, .int 0]) := by rw [he_409]; exact up_self
                  have hF_411 : F_408 ad = .inl (cs 16, 40, .inl (upd fd ze x2)) := by rw [he_409, up_ne (ne_ty ht_85 ht_401 (by simp))]; exact hF_387
                  have hF_412 : F_408 so = .inl (cs 16, 40, .inl (upd fs ze x1)) := by rw [he_409, up_ne (ne_ty ht_82 ht_401 (by simp))]; exact hF_388
                  have hF_413 : F_408 ta = .inl (cs 17, 3000, .inl gt) := by rw [he_409, up_ne (ne_ty ht_79 ht_401 (by simp))]; exact hF_389
                  have hF_414 : F_408 h0 = .inr (15, (.ref ta) :: (.int 0) :: (.int (nI zo)) :: (.int (nI ze)) :: (.ref ou) :: (.ref so) :: (.ref ad) :: (.ref na) :: (.ref va) :: (.ref lc) :: (.ref dm) :: (.int v11_28) :: (.int v12_29) :: (.ref tg) :: (.int v14_30) :: (.int v15_31) :: (.ref pe) :: (.int v17_32) :: (.int v18_33) :: (.int v19_34) :: (.int v20_35) :: (.int v21_36) :: (.int v22_37) :: (.ref ml) :: (.ref bg) :: (.ref co) :: (.ref sp) :: (.ref nb0) :: (.ref nb1) :: (.ref nb2) :: (.int (nI nf)) :: (.int (nI bd)) :: (.int (nI mm)) :: (.int v33_38) :: (.ref pl) :: (.ref se) :: (.ref ke) :: (.ref wi) :: (.ref hs) :: (.ref mo) :: (.ref po) :: (.ref nu) :: (.ref pr) :: (.ref sq) :: (.ref xa) :: (.ref sa) :: (.ref n64) :: (.ref m64) :: (.ref ex) :: (.ref wh) :: (.ref sd) :: (.ref tk) :: (.int v52_39) :: (.int v53_40) :: (.int v54_41) :: (.ref hd) :: (.ref ak) :: (.ref ho) :: (.ref ot) :: []) := by rw [he_409, up_ne (ne_ty hT_h0 ht_401 (by simp))]; exact hF_390
                  have hF_415 : F_408 na = .inl (cs 23, 40, .inr (.inr (.inr (.inr fn)))) := by rw [he_409, up_ne (ne_ty ht_364 ht_401 (by simp))]; exact hF_391
                  have hF_416 : F_408 b_368 = .inr (14, [.ref r_369, .int (nI (kend - 0))]) := by rw [he_409, up_ne (ne_ty2 ht_372 ht_401 (by simp))]; exact hq_384
                  have hF_417 : F_408 r_369 = .inl (cs 17, 60, .inl fc_383) := by rw [he_409, up_ne (ne_ty ht_374 ht_401 (by simp))]; exact hq_385
                  have hF_418 : F_408 va = .inl (cs 23, 40, .inr (.inr (.inr (.inr fv)))) := by rw [he_409, up_ne (ne_ty ht_393 ht_401 (by simp))]; exact hF_395
                  refine lv_iload hx hb dX15_entry_208 (lv_at hl 1 rfl) ?_
                  refine lv_if_eq (tgt := 234) hx hb dX15_entry_210 (by decide) (fun c_419 => ?_) (fun c_419 => ?_)
                  ·
                    refine lv_aload_n hx hb dX15_entry_234 rfl (lv_at hl 4 rfl) ?_
                    refine lv_dup hx hb dX15_entry_235 rfl ?_
                    refine pg_get (ci := 15) (v := .int (nI ze)) (C := RX15) (T := TX15) (N := 59) hx hb hts it_15 hown hK hP hL_h0 hF_414 rfl 3 (by decide) (hts _ kt_714) (fun _ h9 => h9) rfl dX15_entry_236 ?_
                    refine lv_iconst (v := 1) hx hb dX15_entry_239 (by decide) ?_
                    refine lv_iadd hx hb dX15_entry_240 ?_
                    refine lv_topi (fun x_420 ex_420 => ?_)
                    obtain rfl : x_420 = (nI (ze + 1)) := ex_420.trans (nI_add ze 1)
                    have htyU := hty
                    have hTU := hT_h0
                    obtain ⟨hq_421, hq_422⟩ := hW.octs hi_373 ht_374
                    obtain ⟨hq_423, hq_424⟩ := hW.octs hi_402 ht_403
                    obtain ⟨f_425, hF_426, hq_427⟩ := hO.octs hi_402 ht_403
                    refine pg_put (ci := 15) (v := .int (nI (ze + 1))) (ty := .int) (C := RX15) (T := TX15) (N := 59) hx hb hts it_15 tyX15 tyX15_ok nmX15 hown hK hP hD hS hL_h0 hF_414 rfl 3 (by decide) (hts _ kt_714) (fun _ h9 => h9) rfl (by decide +kernel) (rfl) (rfl) (Nat.le_of_ble_eq_true rfl) dX15_entry_241 (fun H locs hP hD hS => ?_)
                    obtain ⟨F_428, he_429, hP, hD, hR⟩ : ∃ G, G = va_up F_408 h0 (.inr (15, (.ref ta) :: (.int 0) :: (.int (nI zo)) :: (.int (nI (ze + 1))) :: (.ref ou) :: (.ref so) :: (.ref ad) :: (.ref na) :: (.ref va) :: (.ref lc) :: (.ref dm) :: (.int v11_28) :: (.int v12_29) :: (.ref tg) :: (.int v14_30) :: (.int v15_31) :: (.ref pe) :: (.int v17_32) :: (.int v18_33) :: (.int v19_34) :: (.int v20_35) :: (.int v21_36) :: (.int v22_37) :: (.ref ml) :: (.ref bg) :: (.ref co) :: (.ref sp) :: (.ref nb0) :: (.ref nb1) :: (.ref nb2) :: (.int (nI nf)) :: (.int (nI bd)) :: (.int (nI mm)) :: (.int v33_38) :: (.ref pl) :: (.ref se) :: (.ref ke) :: (.ref wi) :: (.ref hs) :: (.ref mo) :: (.ref po) :: (.ref nu) :: (.ref pr) :: (.ref sq) :: (.ref xa) :: (.ref sa) :: (.ref n64) :: (.ref m64) :: (.ref ex) :: (.ref wh) :: (.ref sd) :: (.ref tk) :: (.int v52_39) :: (.int v53_40) :: (.int v54_41) :: (.ref hd) :: (.ref ak) :: (.ref ho) :: (.ref ot) :: [])) ∧ va_P (dC, dI) vwCl (va_pl L G) H ∧ va_D A (va_pl L G) ∧ FR ty [ρ, ρ + 3, ρ + 31, ρ + 4 + ze + 100, ρ + 50 + ze + 100] F G := ⟨_, rfl, hP, hD, hR.up hT_h0 (by simp)⟩
                    have hF_430 : F_428 ta = .inl (cs 17, 3000, .inl gt) := by rw [he_429, up_ne (ne_ty ht_79 hT_h0 (by simp))]; exact hF_413
                    have hF_431 : F_428 so = .inl (cs 16, 40, .inl (upd fs ze x1)) := by rw [he_429, up_ne (ne_ty ht_82 hT_h0 (by simp))]; exact hF_412
                    have hF_432 : F_428 ad = .inl (cs 16, 40, .inl (upd fd ze x2)) := by rw [he_429, up_ne (ne_ty ht_85 hT_h0 (by simp))]; exact hF_411
                    have hF_433 : F_428 b_368 = .inr (14, [.ref r_369, .int (nI (kend - 0))]) := by rw [he_429, up_ne (ne_ty ht_372 hT_h0 (by simp))]; exact hF_416
                    have hF_434 : F_428 r_369 = .inl (cs 17, 60, .inl fc_383) := by rw [he_429, up_ne (ne_ty ht_374 hT_h0 (by simp))]; exact hF_417
                    have hF_435 : F_428 b_397 = .inr (14, [.ref r_398, .int 0]) := by rw [he_429, up_ne (ne_ty ht_401 hT_h0 (by simp))]; exact hF_410
                    have hF_436 : F_428 r_398 = .inl (cs 17, 700, .inl f_425) := by rw [he_429, up_ne (ne_ty ht_403 hT_h0 (by simp))]; exact hF_426
                    obtain ⟨ty, hty, hT_h0, hW, hO, hR⟩ : ∃ t9 : TyM, t9 = rtf ty h0 (15, ρ, [ta, ou, so, ad, na, va, lc, dm, tg, pe, ml, bg, co, sp, nb0, nb1, nb2, pl, se, ke, wi, hs, mo, po, nu, pr, sq, xa, sa, n64, m64, ex, wh, sd, tk, hd, ak, ho, ot, sx, s0, s1, s2, nf, bd, mm, zo, (ze + 1), 0]) ∧ t9 h0 = (15, ρ, [ta, ou, so, ad, na, va, lc, dm, tg, pe, ml, bg, co, sp, nb0, nb1, nb2, pl, se, ke, wi, hs, mo, po, nu, pr, sq, xa, sa, n64, m64, ex, wh, sd, tk, hd, ak, ho, ot, sx, s0, s1, s2, nf, bd, mm, zo, (ze + 1), 0]) ∧ WTm t9 gm L ∧ OKm cs t9 gm L F_428 ∧ FR t9 [ρ, ρ + 3, ρ + 31, ρ + 4 + ze + 100, ρ + 50 + ze + 100] F F_428 := ⟨_, rfl, rtf_self, hW.ze hL_h0 hT_h0, (by rw [he_429]; exact OKm.retype hO hT_h0 (shm.mod rtf_self ⟨v11_28, v12_29, v14_30, v15_31, v17_32, v18_33, v19_34, v20_35, v21_36, v22_37, v33_38, v52_39, v53_40, v54_41, rfl, (by first | omega | assumption | exact Or.inl rfl | exact Or.inr rfl), (by first | omega | assumption | exact Or.inl rfl | exact Or.inr rfl), (by first | omega | assumption | exact Or.inl rfl | exact Or.inr rfl), (by first | omega | assumption | exact Or.inl rfl | exact Or.inr rfl)⟩)), FR.retype hT_h0 hR⟩
                    have hF_437 : F_428 h0 = .inr (15, (.ref ta) :: (.int 0) :: (.int (nI zo)) :: (.int (nI (ze + 1))) :: (.ref ou) :: (.ref so) :: (.ref ad) :: (.ref na) :: (.ref va) :: (.ref lc) :: (.ref dm) :: (.int v11_28) :: (.int v12_29) :: (.ref tg) :: (.int v14_30) :: (.int v15_31) :: (.ref pe) :: (.int v17_32) :: (.int v18_33) :: (.int v19_34) :: (.int v20_35) :: (.int v21_36) :: (.int v22_37) :: (.ref ml) :: (.ref bg) :: (.ref co) :: (.ref sp) :: (.ref nb0) :: (.ref nb1) :: (.ref nb2) :: (.int (nI nf)) :: (.int (nI bd)) :: (.int (nI mm)) :: (.int v33_38) :: (.ref pl) :: (.ref se) :: (.ref ke) :: (.ref wi) :: (.ref hs) :: (.ref mo) :: (.ref po) :: (.ref nu) :: (.ref pr) :: (.ref sq) :: (.ref xa) :: (.ref sa) :: (.ref n64) :: (.ref m64) :: (.ref ex) :: (.ref wh) :: (.ref sd) :: (.ref tk) :: (.int v52_39) :: (.int v53_40) :: (.int v54_41) :: (.ref hd) :: (.ref ak) :: (.ref ho) :: (.ref ot) :: []) := by rw [he_429]; exact up_self
                    obtain ⟨hq_460, hq_461, hq_462, hq_463, hq_464, hgO, hgA, hgB⟩ := hW.sc hL_h0 hT_h0
                    refine lv_aload_n hx hb dX15_entry_244 rfl (lv_at hl 4 rfl) ?_
                    refine pg_get (ci := 15) (v := .int (nI (ze + 1))) (C := RX15) (T := TX15) (N := 59) hx hb hts it_15 hown hK hP hL_h0 hF_437 rfl 3 (by decide) (hts _ kt_714) (fun _ h9 => h9) rfl dX15_entry_245 ?_
                    refine W.widen (k := 0) (n := 0) (by omega) (by omega) ?_
                    have hR0 := FR.unre hT00 htyU (FR.unre hTU hty hR)
                    have hQna := hR0 na (by rw [hTn0]; simp only [List.mem_cons, List.not_mem_nil, or_false]; omega)
                    have hQva := hR0 va (by rw [hTv0]; simp only [List.mem_cons, List.not_mem_nil, or_false]; omega)
                    exact W.iret (v := (nI (ze + 1))) hx hb hr (fun t ht hWm => ⟨⟨(nI (ze + 1)), (ze + 1), rfl, (Or.inr (Or.inr ⟨hc40, hs5.elim (fun h => val_y1 hx0 hx4 (hs5n h) (by rw [← hk0e h]; exact hn1)) (fun h => val_y2 hx0 hx4 (hs5x h) (hfst h) (by rw [← hk1e h]; exact hn1) (ho1 h).1), rfl, rfl⟩)), ⟨F_428, ty, (by rw [hty, htyU, rtf_rtf2]), QTm.mk ht hP hD hO hR, hW, ⟨(x1, x2, kend - 0, fc_383, 0, f_425), DIRM.add hDM hO0 hW0 hLn0 hTn0 hLv0 hTv0 (by omega) hR0 hQna hQva (fun k hk => ⟨by simp only [List.mem_cons, List.not_mem_nil, or_false]; omega, by simp only [List.mem_cons, List.not_mem_nil, or_false]; omega⟩) hd1 hd2 hd3 hd4 hF_431 hF_432 ⟨b_368, r_369, hbf_370, hF_433, hF_434, by show kend - 0 ≤ 60; omega⟩ ⟨b_397, r_398, hbf_399, hF_435, hF_436, by show 0 ≤ 700; omega⟩, fun _ => enx4 (hk0e c_419) (hs5n c_419) hn1 hq_386⟩⟩⟩, hS.F ht⟩) hS.2.2 dX15_entry_248
                  ·
                    have h51 := hs5.resolve_left c_419
                    refine lv_aload_n hx hb dX15_entry_213 rfl (lv_at hl 4 rfl) ?_
                    refine pg_get (ci := 15) (v := .ref va) (C := RX15) (T := TX15) (N := 59) hx hb hts it_15 hown hK hP hL_h0 hF_414 rfl 8 (by decide) (hts _ kt_722) (fun _ h9 => h9) rfl dX15_entry_214 ?_
                    refine lv_aload_n hx hb dX15_entry_217 rfl (lv_at hl 4 rfl) ?_
                    refine pg_get (ci := 15) (v := .int (nI ze)) (C := RX15) (T := TX15) (N := 59) hx hb hts it_15 hown hK hP hL_h0 hF_414 rfl 3 (by decide) (hts _ kt_714) (fun _ h9 => h9) rfl dX15_entry_218 ?_
                    refine pg_aald (r := b_397) hx hb hK hP hi_392 7 hF_418 rfl (vp_in_nI (by omega) (by omega)) (show fv ((nI ze) : Int32).toNatClampNeg = _ from by rw [show ((nI ze) : Int32) = nI ze from rfl, nI_clamp (by omega)]; exact hbf_399) dX15_entry_221 ?_
                    refine lv_aload_n hx hb dX15_entry_222 rfl (lv_at hl 4 rfl) ?_
                    refine pg_get (ci := 15) (v := .ref ta) (C := RX15) (T := TX15) (N := 59) hx hb hts it_15 hown hK hP hL_h0 hF_414 rfl 0 (by decide) (hts _ kt_1060) (fun _ h9 => h9) rfl dX15_entry_223 ?_
                    refine lv_iload hx hb dX15_entry_226 (lv_at hl 2 rfl) ?_
                    refine lv_iconst (v := 1) hx hb dX15_entry_228 (by decide) ?_
                    refine lv_iadd hx hb dX15_entry_229 ?_
                    refine lv_topi (fun x_465 ex_465 => ?_)
                    obtain rfl : x_465 = (nI (j + 1)) := ex_465.trans (nI_add j 1)
                    refine lv_iload_n hx hb dX15_entry_230 rfl (lv_at hl 3 rfl) ?_
                    have hFc := pg_free hD hS hA
                    refine va_callv (va_runV (As := [.ref ta, .int (nI (j + 1)), .int (nI zt)]) (rest := []) ⟨hx, hb, hml, hown, hts⟩ (s_X14_set_e l dC dI cs ty gm L H.size F_408 b_397 (ρ + 50 + ze + 100) r_398 700 ta (ρ + 1) 3000 (j + 1) zt gt hW hi_400 ht_401 hi_78 ht_79 hF_413 (by have h9 := hn2 h51; omega) (by omega) (by have h9 := (ho1 h51).2; omega)) ⟨callB_of 3 hts (gi kt_959) rfl rfl rfl (hts _ kt_666) (hts _ kt_960) (by decide +kernel) ⟨Nat.le_of_ble_eq_true rfl, Nat.le_of_ble_eq_true rfl⟩, (hts _ kt_961), (hts _ kt_962)⟩ ⟨fun a U g mk q => ⟨q.1, PTm.calling q.2⟩, pg_recv hK hP hi_400 hF_410 (q := (RX14, TX14, 2)) rfl, fun U hU hWm => ⟨rfl, PTm.mk hU hWm hP hK hD hE hO⟩⟩ rfl rfl hl.1 rfl (lv_room (Nat.le_of_ble_eq_true rfl)) dX15_entry_231 ⟨by show _ + 0 ≤ 0; omega, by show _ + 0 ≤ 0; omega⟩) hS (fun q _ h => hFc q h) hFc (fun u t H1 locs ht hvm hw hB hz1 hk1 hS => ?_)
                    obtain ⟨F_467, fc_468, hB1, hq_469, hq_470, hq_471⟩ := hB
                    obtain ⟨hP, hD, hO, hR⟩ := QTm.back hB1 ht hFc hR (fun q h => by simp only [List.mem_cons, List.not_mem_nil, or_false] at h ⊢; omega)
                    have hF_472 : F_467 ad = .inl (cs 16, 40, .inl (upd fd ze x2)) := (hB1.2.2.2 ad (by rw [ht_85]; simp only [List.mem_cons, List.not_mem_nil, or_false]; omega)).trans hF_411
                    have hF_473 : F_467 so = .inl (cs 16, 40, .inl (upd fs ze x1)) := (hB1.2.2.2 so (by rw [ht_82]; simp only [List.mem_cons, List.not_mem_nil, or_false]; omega)).trans hF_412
                    have hF_474 : F_467 ta = .inl (cs 17, 3000, .inl gt) := (hB1.2.2.2 ta (by rw [ht_79]; simp only [List.mem_cons, List.not_mem_nil, or_false]; omega)).trans hF_413
                    have hF_475 : F_467 h0 = .inr (15, (.ref ta) :: (.int 0) :: (.int (nI zo)) :: (.int (nI ze)) :: (.ref ou) :: (.ref so) :: (.ref ad) :: (.ref na) :: (.ref va) :: (.ref lc) :: (.ref dm) :: (.int v11_28) :: (.int v12_29) :: (.ref tg) :: (.int v14_30) :: (.int v15_31) :: (.ref pe) :: (.int v17_32) :: (.int v18_33) :: (.int v19_34) :: (.int v20_35) :: (.int v21_36) :: (.int v22_37) :: (.ref ml) :: (.ref bg) :: (.ref co) :: (.ref sp) :: (.ref nb0) :: (.ref nb1) :: (.ref nb2) :: (.int (nI nf)) :: (.int (nI bd)) :: (.int (nI mm)) :: (.int v33_38) :: (.ref pl) :: (.ref se) :: (.ref ke) :: (.ref wi) :: (.ref hs) :: (.ref mo) :: (.ref po) :: (.ref nu) :: (.ref pr) :: (.ref sq) :: (.ref xa) :: (.ref sa) :: (.ref n64) :: (.ref m64) :: (.ref ex) :: (.ref wh) :: (.ref sd) :: (.ref tk) :: (.int v52_39) :: (.int v53_40) :: (.int v54_41) :: (.ref hd) :: (.ref ak) :: (.ref ho) :: (.ref ot) :: []) := (hB1.2.2.2 h0 (by rw [hT_h0]; simp only [List.mem_cons, List.not_mem_nil, or_false]; omega)).trans hF_414
                    have hF_476 : F_467 na = .inl (cs 23, 40, .inr (.inr (.inr (.inr fn)))) := (hB1.2.2.2 na (by rw [ht_364]; simp only [List.mem_cons, List.not_mem_nil, or_false]; omega)).trans hF_415
                    have hF_477 : F_467 b_368 = .inr (14, [.ref r_369, .int (nI (kend - 0))]) := (hB1.2.2.2 b_368 (by rw [ht_372]; simp only [List.mem_cons, List.not_mem_nil, or_false]; omega)).trans hF_416
                    have hF_478 : F_467 r_369 = .inl (cs 17, 60, .inl fc_383) := (hB1.2.2.2 r_369 (by rw [ht_374]; simp only [List.mem_cons, List.not_mem_nil, or_false]; omega)).trans hF_417
                    have hF_479 : F_467 va = .inl (cs 23, 40, .inr (.inr (.inr (.inr fv)))) := (hB1.2.2.2 va (by rw [ht_393]; simp only [List.mem_cons, List.not_mem_nil, or_false]; omega)).trans hF_418
                    generalize H1 = H at hP hS ⊢
                    refine lv_aload_n hx hb dX15_entry_234 rfl (lv_at hl 4 rfl) ?_
                    refine lv_dup hx hb dX15_entry_235 rfl ?_
                    refine pg_get (ci := 15) (v := .int (nI ze)) (C := RX15) (T := TX15) (N := 59) hx hb hts it_15 hown hK hP hL_h0 hF_475 rfl 3 (by decide) (hts _ kt_714) (fun _ h9 => h9) rfl dX15_entry_236 ?_
                    refine lv_iconst (v := 1) hx hb dX15_entry_239 (by decide) ?_
                    refine lv_iadd hx hb dX15_entry_240 ?_
                    refine lv_topi (fun x_480 ex_480 => ?_)
                    obtain rfl : x_480 = (nI (ze + 1)) := ex_480.trans (nI_add ze 1)
                    have htyU := hty
                    have hTU := hT_h0
                    obtain ⟨hq_481, hq_482⟩ := hW.octs hi_373 ht_374
                    obtain ⟨hq_483, hq_484⟩ := hW.octs hi_402 ht_403
                    refine pg_put (ci := 15) (v := .int (nI (ze + 1))) (ty := .int) (C := RX15) (T := TX15) (N := 59) hx hb hts it_15 tyX15 tyX15_ok nmX15 hown hK hP hD hS hL_h0 hF_475 rfl 3 (by decide) (hts _ kt_714) (fun _ h9 => h9) rfl (by decide +kernel) (rfl) (rfl) (Nat.le_of_ble_eq_true rfl) dX15_entry_241 (fun H locs hP hD hS => ?_)
                    obtain ⟨F_485, he_486, hP, hD, hR⟩ : ∃ G, G = va_up F_467 h0 (.inr (15, (.ref ta) :: (.int 0) :: (.int (nI zo)) :: (.int (nI (ze + 1))) :: (.ref ou) :: (.ref so) :: (.ref ad) :: (.ref na) :: (.ref va) :: (.ref lc) :: (.ref dm) :: (.int v11_28) :: (.int v12_29) :: (.ref tg) :: (.int v14_30) :: (.int v15_31) :: (.ref pe) :: (.int v17_32) :: (.int v18_33) :: (.int v19_34) :: (.int v20_35) :: (.int v21_36) :: (.int v22_37) :: (.ref ml) :: (.ref bg) :: (.ref co) :: (.ref sp) :: (.ref nb0) :: (.ref nb1) :: (.ref nb2) :: (.int (nI nf)) :: (.int (nI bd)) :: (.int (nI mm)) :: (.int v33_38) :: (.ref pl) :: (.ref se) :: (.ref ke) :: (.ref wi) :: (.ref hs) :: (.ref mo) :: (.ref po) :: (.ref nu) :: (.ref pr) :: (.ref sq) :: (.ref xa) :: (.ref sa) :: (.ref n64) :: (.ref m64) :: (.ref ex) :: (.ref wh) :: (.ref sd) :: (.ref tk) :: (.int v52_39) :: (.int v53_40) :: (.int v54_41) :: (.ref hd) :: (.ref ak) :: (.ref ho) :: (.ref ot) :: [])) ∧ va_P (dC, dI) vwCl (va_pl L G) H ∧ va_D A (va_pl L G) ∧ FR ty [ρ, ρ + 3, ρ + 31, ρ + 4 + ze + 100, ρ + 50 + ze + 100] F G := ⟨_, rfl, hP, hD, hR.up hT_h0 (by simp)⟩
                    have hF_487 : F_485 ta = .inl (cs 17, 3000, .inl gt) := by rw [he_486, up_ne (ne_ty ht_79 hT_h0 (by simp))]; exact hF_474
                    have hF_488 : F_485 so = .inl (cs 16, 40, .inl (upd fs ze x1)) := by rw [he_486, up_ne (ne_ty ht_82 hT_h0 (by simp))]; exact hF_473
                    have hF_489 : F_485 ad = .inl (cs 16, 40, .inl (upd fd ze x2)) := by rw [he_486, up_ne (ne_ty ht_85 hT_h0 (by simp))]; exact hF_472
                    have hF_490 : F_485 b_368 = .inr (14, [.ref r_369, .int (nI (kend - 0))]) := by rw [he_486, up_ne (ne_ty ht_372 hT_h0 (by simp))]; exact hF_477
                    have hF_491 : F_485 r_369 = .inl (cs 17, 60, .inl fc_383) := by rw [he_486, up_ne (ne_ty ht_374 hT_h0 (by simp))]; exact hF_478
                    have hF_492 : F_485 b_397 = .inr (14, [.ref r_398, .int (nI (zt - (j + 1)))]) := by rw [he_486, up_ne (ne_ty ht_401 hT_h0 (by simp))]; exact hq_469
                    have hF_493 : F_485 r_398 = .inl (cs 17, 700, .inl fc_468) := by rw [he_486, up_ne (ne_ty ht_403 hT_h0 (by simp))]; exact hq_470
                    obtain ⟨ty, hty, hT_h0, hW, hO, hR⟩ : ∃ t9 : TyM, t9 = rtf ty h0 (15, ρ, [ta, ou, so, ad, na, va, lc, dm, tg, pe, ml, bg, co, sp, nb0, nb1, nb2, pl, se, ke, wi, hs, mo, po, nu, pr, sq, xa, sa, n64, m64, ex, wh, sd, tk, hd, ak, ho, ot, sx, s0, s1, s2, nf, bd, mm, zo, (ze + 1), 0]) ∧ t9 h0 = (15, ρ, [ta, ou, so, ad, na, va, lc, dm, tg, pe, ml, bg, co, sp, nb0, nb1, nb2, pl, se, ke, wi, hs, mo, po, nu, pr, sq, xa, sa, n64, m64, ex, wh, sd, tk, hd, ak, ho, ot, sx, s0, s1, s2, nf, bd, mm, zo, (ze + 1), 0]) ∧ WTm t9 gm L ∧ OKm cs t9 gm L F_485 ∧ FR t9 [ρ, ρ + 3, ρ + 31, ρ + 4 + ze + 100, ρ + 50 + ze + 100] F F_485 := ⟨_, rfl, rtf_self, hW.ze hL_h0 hT_h0, (by rw [he_486]; exact OKm.retype hO hT_h0 (shm.mod rtf_self ⟨v11_28, v12_29, v14_30, v15_31, v17_32, v18_33, v19_34, v20_35, v21_36, v22_37, v33_38, v52_39, v53_40, v54_41, rfl, (by first | omega | assumption | exact Or.inl rfl | exact Or.inr rfl), (by first | omega | assumption | exact Or.inl rfl | exact Or.inr rfl), (by first | omega | assumption | exact Or.inl rfl | exact Or.inr rfl), (by first | omega | assumption | exact Or.inl rfl | exact Or.inr rfl)⟩)), FR.retype hT_h0 hR⟩
                    have hF_494 : F_485 h0 = .inr (15, (.ref ta) :: (.int 0) :: (.int (nI zo)) :: (.int (nI (ze + 1))) :: (.ref ou) :: (.ref so) :: (.ref ad) :: (.ref na) :: (.ref va) :: (.ref lc) :: (.ref dm) :: (.int v11_28) :: (.int v12_29) :: (.ref tg) :: (.int v14_30) :: (.int v15_31) :: (.ref pe) :: (.int v17_32) :: (.int v18_33) :: (.int v19_34) :: (.int v20_35) :: (.int v21_36) :: (.int v22_37) :: (.ref ml) :: (.ref bg) :: (.ref co) :: (.ref sp) :: (.ref nb0) :: (.ref nb1) :: (.ref nb2) :: (.int (nI nf)) :: (.int (nI bd)) :: (.int (nI mm)) :: (.int v33_38) :: (.ref pl) :: (.ref se) :: (.ref ke) :: (.ref wi) :: (.ref hs) :: (.ref mo) :: (.ref po) :: (.ref nu) :: (.ref pr) :: (.ref sq) :: (.ref xa) :: (.ref sa) :: (.ref n64) :: (.ref m64) :: (.ref ex) :: (.ref wh) :: (.ref sd) :: (.ref tk) :: (.int v52_39) :: (.int v53_40) :: (.int v54_41) :: (.ref hd) :: (.ref ak) :: (.ref ho) :: (.ref ot) :: []) := by rw [he_486]; exact up_self
                    obtain ⟨hq_517, hq_518, hq_519, hq_520, hq_521, hgO, hgA, hgB⟩ := hW.sc hL_h0 hT_h0
                    refine lv_aload_n hx hb dX15_entry_244 rfl (lv_at hl 4 rfl) ?_
                    refine pg_get (ci := 15) (v := .int (nI (ze + 1))) (C := RX15) (T := TX15) (N := 59) hx hb hts it_15 hown hK hP hL_h0 hF_494 rfl 3 (by decide) (hts _ kt_714) (fun _ h9 => h9) rfl dX15_entry_245 ?_
                    refine W.widen (k := 0) (n := 0) (by omega) (by omega) ?_
                    have hR0 := FR.unre hT00 htyU (FR.unre hTU hty hR)
                    have hQna := hR0 na (by rw [hTn0]; simp only [List.mem_cons, List.not_mem_nil, or_false]; omega)
                    have hQva := hR0 va (by rw [hTv0]; simp only [List.mem_cons, List.not_mem_nil, or_false]; omega)
                    exact W.iret (v := (nI (ze + 1))) hx hb hr (fun t ht hWm => ⟨⟨(nI (ze + 1)), (ze + 1), rfl, (Or.inr (Or.inr ⟨hc40, hs5.elim (fun h => val_y1 hx0 hx4 (hs5n h) (by rw [← hk0e h]; exact hn1)) (fun h => val_y2 hx0 hx4 (hs5x h) (hfst h) (by rw [← hk1e h]; exact hn1) (ho1 h).1), rfl, rfl⟩)), ⟨F_485, ty, (by rw [hty, htyU, rtf_rtf2]), QTm.mk ht hP hD hO hR, hW, ⟨(x1, x2, kend - 0, fc_383, zt - (j + 1), fc_468), DIRM.add hDM hO0 hW0 hLn0 hTn0 hLv0 hTv0 (by omega) hR0 hQna hQva (fun k hk => ⟨by simp only [List.mem_cons, List.not_mem_nil, or_false]; omega, by simp only [List.mem_cons, List.not_mem_nil, or_false]; omega⟩) hd1 hd2 hd3 hd4 hF_488 hF_489 ⟨b_368, r_369, hbf_370, hF_490, hF_491, by show kend - 0 ≤ 60; omega⟩ ⟨b_397, r_398, hbf_399, hF_492, hF_493, by show zt - (j + 1) ≤ 700; have h9 := (ho1 h51).2; omega⟩, fun _ => enx3 (hk1e h51) (hs5x h51) (hfst h51) hn1 (ho1 h51).1 hq_386 hq_471⟩⟩⟩, hS.F ht⟩) hS.2.2 dX15_entry_248
                ·
                  refine lv_iload_n hx hb dX15_entry_118 rfl (lv_at hl 5 rfl) ?_
                  refine lv_iconst (v := 2) hx hb dX15_entry_119 (by decide) ?_
                  refine lv_icmp_ne (tgt := 138) hx hb dX15_entry_120 (by decide) (fun c_522 => ?_) (fun c_522 => ?_)
                  ·
                    refine lv_iload_n hx hb dX15_entry_138 rfl (lv_at hl 5 rfl) ?_
                    refine lv_if_ne (tgt := 156) hx hb dX15_entry_139 (by decide) (fun c_523 => ?_) (fun c_523 => ?_)
                    ·
                      refine W.widen (k := 0) (n := 0) (by omega) (by omega) ?_
                      exact jn_344 () F_340 (⟨fun h => absurd (hs5x h) (fun q => q.elim c_523 c_522), hn3, hn3so, hn3ad⟩) hO hR _ _ hP hD hS ls (lv_sub hl [0, 1, 2, 3, 4, 5, 6] rfl)
                    ·
                      have h51 : s5 = 1 := hs5.resolve_left (fun q => hs5n q (Or.inl c_523))
                      have hkz := hn2 h51
                      refine lv_iload_n hx hb dX15_entry_142 rfl (lv_at hl 3 rfl) ?_
                      refine lv_iload hx hb dX15_entry_143 (lv_at hl 2 rfl) ?_
                      refine lv_isub hx hb dX15_entry_145 ?_
                      refine lv_topi (fun x_524 ex_524 => ?_)
                      obtain rfl : x_524 = (nI (zt - j)) := ex_524.trans (pk_sub (a := zt) (b := j) (by omega))
                      refine lv_iconst (v := 1) hx hb dX15_entry_146 (by decide) ?_
                      refine lv_isub hx hb dX15_entry_147 ?_
                      refine lv_topi (fun x_525 ex_525 => ?_)
                      obtain rfl : x_525 = (nI ((zt - j) - 1)) := ex_525.trans (pk_sub (a := (zt - j)) (b := 1) (by omega))
                      refine lv_sipush (v := 700) hx hb dX15_entry_148 (by decide) ?_
                      refine lv_icmp_le (tgt := 156) hx hb dX15_entry_151 (by decide) (fun c_526 => ?_) (fun c_526 => ?_)
                      ·
                        have hi_527 : ((zt - j) - 1) ≤ 700 := (nI_leI (a := ((zt - j) - 1)) (b := 700) (by omega) (by omega)).mp c_526
                        refine W.widen (k := 0) (n := 0) (by omega) (by omega) ?_
                        exact jn_344 () F_340 (⟨fun _ => ⟨⟨by omega, fun q => absurd (q.symm.trans c_523) (by decide), fun _ => by omega⟩, by omega⟩, hn3, hn3so, hn3ad⟩) hO hR _ _ hP hD hS ls (lv_sub hl [0, 1, 2, 3, 4, 5, 6] rfl)
                      ·
                        have hi_528 : 700 < ((zt - j) - 1) := Nat.not_le.mp (fun q => c_526 ((nI_leI (a := ((zt - j) - 1)) (b := 700) (by omega) (by omega)).mpr q))
                        refine lv_iconst (v := (-1)) hx hb dX15_entry_154 (by decide) ?_
                        refine W.widen (k := 0) (n := 0) (by omega) (by omega) ?_
                        have hR0 := FR.unre hT00 hty hR
                        have hQna := hR0 na (by rw [hTn0]; simp only [List.mem_cons, List.not_mem_nil, or_false]; omega)
                        have hQva := hR0 va (by rw [hTv0]; simp only [List.mem_cons, List.not_mem_nil, or_false]; omega)
                        exact W.iret (v := (-1)) hx hb hr (fun t ht hWm => ⟨⟨(-1), ze, rfl, (Or.inr (Or.inl ⟨hc40, val_nv (Or.inl c_523) (hfst h51) (fun q => absurd (q.2.2 (fun w => absurd (w.symm.trans c_523) (by decide))) (by omega)), rfl, rfl⟩)), ⟨F_340, ty, hty, QTm.mk ht hP hD hO hR, hW, ⟨(0, 0, 0, fun _ => 0, 0, fun _ => 0), DIRM.same (DIRM.fr hDM hO0 hW0 hLn0 hTn0 hLv0 hTv0 (by omega) hR0 (hn3so.trans hd1.symm) (hn3ad.trans hd2.symm) hQna hQva (fun k hk => ⟨by simp only [List.mem_cons, List.not_mem_nil, or_false]; omega, by simp only [List.mem_cons, List.not_mem_nil, or_false]; omega⟩)), fun q => absurd q (by omega)⟩⟩⟩, hS.F ht⟩) hS.2.2 dX15_entry_155
                  ·
                    have h51 : s5 = 1 := hs5.resolve_left (fun q => hs5n q (Or.inr c_522))
                    have hkz := hn2 h51
                    refine lv_aload_n hx hb dX15_entry_123 rfl (lv_at hl 4 rfl) ?_
                    refine pg_get (ci := 15) (v := .ref ta) (C := RX15) (T := TX15) (N := 59) hx hb hts it_15 hown hK hP hL_h0 hn3 rfl 0 (by decide) (hts _ kt_1060) (fun _ h9 => h9) rfl dX15_entry_124 ?_
                    refine lv_iload hx hb dX15_entry_127 (lv_at hl 2 rfl) ?_
                    refine lv_iconst (v := 1) hx hb dX15_entry_129 (by decide) ?_
                    refine lv_iadd hx hb dX15_entry_130 ?_
                    refine lv_topi (fun x_529 ex_529 => ?_)
                    obtain rfl : x_529 = (nI (j + 1)) := ex_529.trans (nI_add j 1)
                    refine lv_iload_n hx hb dX15_entry_131 rfl (lv_at hl 3 rfl) ?_
                    obtain ⟨hq_530, hq_531⟩ := hW.octs hi_78 ht_79
                    have hFc := pg_free hD hS hA
                    refine va_calli (va_runS (As := [.ref ta, .int (nI (j + 1)), .int (nI zt)]) (rest := []) ⟨hx, hb, hml, hown, hts⟩ (s_X14_isName_e l dC dI cs ty gm L H.size F_340 ta (ρ + 1) 3000 (j + 1) zt gt hW hi_78 ht_79 hF_343 (by first | omega | assumption) (by first | omega | assumption)) ⟨callB_of 3 hts (gi kt_679) rfl rfl rfl (hts _ kt_666) (hts _ kt_853) (by decide +kernel) ⟨Nat.le_of_ble_eq_true rfl, Nat.le_of_ble_eq_true rfl⟩, (hts _ kt_681)⟩ ⟨fun a U g mk q => ⟨q.1, PTm.calling q.2⟩, fun U hU hWm => ⟨rfl, PTm.mk hU hWm hP hK hD hE hO⟩⟩ rfl rfl hl.1 rfl (lv_room (Nat.le_of_ble_eq_true rfl)) dX15_entry_132 ⟨by show _ + 0 ≤ 0; omega, by show _ + 0 ≤ 0; omega⟩) hS (fun q _ h => hFc q h) hFc (fun r_532 u t H1 locs ht hvm hw hB hz1 hk1 hS => ?_)
                    obtain ⟨F_533, hB1⟩ := hB
                    obtain rfl : F_340 = F_533 := (funext (fun a => hB1.2.2.2 a List.not_mem_nil)).symm
                    obtain ⟨hP, hD, hO, hR⟩ := QTm.back hB1 ht hFc hR (fun q h => absurd h List.not_mem_nil)
                    generalize H1 = H at hP hS ⊢
                    have hw : r_532 = (if NM gt (j + 1) zt = true then 1 else 0) := hw
                    have hw_534 := hw
                    refine lv_if_eq (tgt := 154) hx hb dX15_entry_135 (by decide) (fun c_535 => ?_) (fun c_535 => ?_)
                    ·
                      refine lv_iconst (v := (-1)) hx hb dX15_entry_154 (by decide) ?_
                      refine W.widen (k := 0) (n := 0) (by omega) (by omega) ?_
                      have hR0 := FR.unre hT00 hty hR
                      have hQna := hR0 na (by rw [hTn0]; simp only [List.mem_cons, List.not_mem_nil, or_false]; omega)
                      have hQva := hR0 va (by rw [hTv0]; simp only [List.mem_cons, List.not_mem_nil, or_false]; omega)
                      exact W.iret (v := (-1)) hx hb hr (fun t ht hWm => ⟨⟨(-1), ze, rfl, (Or.inr (Or.inl ⟨hc40, val_nv (Or.inr c_522) (hfst h51) (fun q => ifb0 hw_534 c_535 (q.2.1 c_522)), rfl, rfl⟩)), ⟨F_340, ty, hty, QTm.mk ht hP hD hO hR, hW, ⟨(0, 0, 0, fun _ => 0, 0, fun _ => 0), DIRM.same (DIRM.fr hDM hO0 hW0 hLn0 hTn0 hLv0 hTv0 (by omega) hR0 (hn3so.trans hd1.symm) (hn3ad.trans hd2.symm) hQna hQva (fun k hk => ⟨by simp only [List.mem_cons, List.not_mem_nil, or_false]; omega, by simp only [List.mem_cons, List.not_mem_nil, or_false]; omega⟩)), fun q => absurd q (by omega)⟩⟩⟩, hS.F ht⟩) hS.2.2 dX15_entry_155
                    ·
                      refine lv_iload_n hx hb dX15_entry_138 rfl (lv_at hl 5 rfl) ?_
                      refine lv_if_ne (tgt := 156) hx hb dX15_entry_139 (by decide) (fun c_536 => ?_) (fun c_536 => ?_)
                      ·
                        refine W.widen (k := 0) (n := 0) (by omega) (by omega) ?_
                        exact jn_344 () F_340 (⟨fun _ => ⟨⟨by omega, fun _ => ifb1 hw_534 c_535, fun q => absurd c_522 q⟩, by have h9 := nm_60 (ifb1 hw_534 c_535); omega⟩, hn3, hn3so, hn3ad⟩) hO hR _ _ hP hD hS ls (lv_sub hl [0, 1, 2, 3, 4, 5, 6] rfl)
                      ·
                        have h51 : s5 = 1 := hs5.resolve_left (fun q => hs5n q (Or.inl c_536))
                        have hkz := hn2 h51
                        refine lv_iload_n hx hb dX15_entry_142 rfl (lv_at hl 3 rfl) ?_
                        refine lv_iload hx hb dX15_entry_143 (lv_at hl 2 rfl) ?_
                        refine lv_isub hx hb dX15_entry_145 ?_
                        refine lv_topi (fun x_537 ex_537 => ?_)
                        obtain rfl : x_537 = (nI (zt - j)) := ex_537.trans (pk_sub (a := zt) (b := j) (by omega))
                        refine lv_iconst (v := 1) hx hb dX15_entry_146 (by decide) ?_
                        refine lv_isub hx hb dX15_entry_147 ?_
                        refine lv_topi (fun x_538 ex_538 => ?_)
                        obtain rfl : x_538 = (nI ((zt - j) - 1)) := ex_538.trans (pk_sub (a := (zt - j)) (b := 1) (by omega))
                        refine lv_sipush (v := 700) hx hb dX15_entry_148 (by decide) ?_
                        refine lv_icmp_le (tgt := 156) hx hb dX15_entry_151 (by decide) (fun c_539 => ?_) (fun c_539 => ?_)
                        ·
                          have hi_540 : ((zt - j) - 1) ≤ 700 := (nI_leI (a := ((zt - j) - 1)) (b := 700) (by omega) (by omega)).mp c_539
                          refine W.widen (k := 0) (n := 0) (by omega) (by omega) ?_
                          exact jn_344 () F_340 (⟨fun _ => ⟨⟨by omega, fun q => absurd (q.symm.trans c_536) (by decide), fun _ => by omega⟩, by omega⟩, hn3, hn3so, hn3ad⟩) hO hR _ _ hP hD hS ls (lv_sub hl [0, 1, 2, 3, 4, 5, 6] rfl)
                        ·
                          have hi_541 : 700 < ((zt - j) - 1) := Nat.not_le.mp (fun q => c_539 ((nI_leI (a := ((zt - j) - 1)) (b := 700) (by omega) (by omega)).mpr q))
                          refine lv_iconst (v := (-1)) hx hb dX15_entry_154 (by decide) ?_
                          refine W.widen (k := 0) (n := 0) (by omega) (by omega) ?_
                          have hR0 := FR.unre hT00 hty hR
                          have hQna := hR0 na (by rw [hTn0]; simp only [List.mem_cons, List.not_mem_nil, or_false]; omega)
                          have hQva := hR0 va (by rw [hTv0]; simp only [List.mem_cons, List.not_mem_nil, or_false]; omega)
                          exact W.iret (v := (-1)) hx hb hr (fun t ht hWm => ⟨⟨(-1), ze, rfl, (Or.inr (Or.inl ⟨hc40, val_nv (Or.inl c_536) (hfst h51) (fun q => absurd (q.2.2 (fun w => absurd (w.symm.trans c_536) (by decide))) (by omega)), rfl, rfl⟩)), ⟨F_340, ty, hty, QTm.mk ht hP hD hO hR, hW, ⟨(0, 0, 0, fun _ => 0, 0, fun _ => 0), DIRM.same (DIRM.fr hDM hO0 hW0 hLn0 hTn0 hLv0 hTv0 (by omega) hR0 (hn3so.trans hd1.symm) (hn3ad.trans hd2.symm) hQna hQva (fun k hk => ⟨by simp only [List.mem_cons, List.not_mem_nil, or_false]; omega, by simp only [List.mem_cons, List.not_mem_nil, or_false]; omega⟩)), fun q => absurd q (by omega)⟩⟩⟩, hS.F ht⟩) hS.2.2 dX15_entry_155
              ·
                refine lv_iload hx hb dX15_entry_92 (lv_at hl 1 rfl) ?_
                refine lv_if_eq (tgt := 103) hx hb dX15_entry_94 (by decide) (fun c_542 => ?_) (fun c_542 => ?_)
                ·
                  refine lv_aload_n hx hb dX15_entry_103 rfl (lv_at hl 4 rfl) ?_
                  refine pg_get (ci := 15) (v := .ref ta) (C := RX15) (T := TX15) (N := 59) hx hb hts it_15 hown hK hP hL_h0 hb2 rfl 0 (by decide) (hts _ kt_1060) (fun _ h9 => h9) rfl dX15_entry_104 ?_
                  refine lv_iconst (v := 0) hx hb dX15_entry_107 (by decide) ?_
                  refine lv_iload hx hb dX15_entry_108 (lv_at hl 0 rfl) ?_
                  refine W.eq (g2 := F0 m 110 ls [.int (nI kend), .int (nI 0), .ref ta]) rfl ?_
                  obtain ⟨hq_543, hq_544⟩ := hW.octs hi_78 ht_79
                  have hFc := pg_free hD hS hA
                  refine va_calli (va_runS (As := [.ref ta, .int (nI 0), .int (nI kend)]) (rest := []) ⟨hx, hb, hml, hown, hts⟩ (s_X14_isName_e l dC dI cs ty gm L H.size F_335 ta (ρ + 1) 3000 0 kend gt hW hi_78 ht_79 hF_338 (by first | omega | assumption) (by first | omega | assumption)) ⟨callB_of 3 hts (gi kt_679) rfl rfl rfl (hts _ kt_666) (hts _ kt_853) (by decide +kernel) ⟨Nat.le_of_ble_eq_true rfl, Nat.le_of_ble_eq_true rfl⟩, (hts _ kt_681)⟩ ⟨fun a U g mk q => ⟨q.1, PTm.calling q.2⟩, fun U hU hWm => ⟨rfl, PTm.mk hU hWm hP hK hD hE hO⟩⟩ rfl rfl hl.1 rfl (lv_room (Nat.le_of_ble_eq_true rfl)) dX15_entry_110 ⟨by show _ + 0 ≤ 0; omega, by show _ + 0 ≤ 0; omega⟩) hS (fun q _ h => hFc q h) hFc (fun r_545 u t H1 locs ht hvm hw hB hz1 hk1 hS => ?_)
                  obtain ⟨F_546, hB1⟩ := hB
                  obtain rfl : F_335 = F_546 := (funext (fun a => hB1.2.2.2 a List.not_mem_nil)).symm
                  obtain ⟨hP, hD, hO, hR⟩ := QTm.back hB1 ht hFc hR (fun q h => absurd h List.not_mem_nil)
                  generalize H1 = H at hP hS ⊢
                  have hw : r_545 = (if NM gt 0 kend = true then 1 else 0) := hw
                  have hw_547 := hw
                  refine lv_if_ne (tgt := 118) hx hb dX15_entry_113 (by decide) (fun c_548 => ?_) (fun c_548 => ?_)
                  ·
                    refine W.widen (k := 0) (n := 0) (by omega) (by omega) ?_
                    exact jn_339 () F_335 (⟨ifb1 hw_547 c_548, nm_60 (ifb1 hw_547 c_548), fun h => absurd (h.symm.trans c_542) (by decide), hb2, hb2so, hb2ad⟩) hO hR _ _ hP hD hS ls (lv_sub hl [0, 1, 2, 3, 4, 5, 6] rfl)
                  ·
                    refine lv_iconst (v := (-1)) hx hb dX15_entry_116 (by decide) ?_
                    refine W.widen (k := 0) (n := 0) (by omega) (by omega) ?_
                    have hR0 := FR.unre hT00 hty hR
                    have hQna := hR0 na (by rw [hTn0]; simp only [List.mem_cons, List.not_mem_nil, or_false]; omega)
                    have hQva := hR0 va (by rw [hTv0]; simp only [List.mem_cons, List.not_mem_nil, or_false]; omega)
                    exact W.iret (v := (-1)) hx hb hr (fun t ht hWm => ⟨⟨(-1), ze, rfl, (Or.inr (Or.inl ⟨hc40, val_nz (hs5n c_542) (by rw [← hk0e c_542]; exact (ifb0 hw_547 c_548)), rfl, rfl⟩)), ⟨F_335, ty, hty, QTm.mk ht hP hD hO hR, hW, ⟨(0, 0, 0, fun _ => 0, 0, fun _ => 0), DIRM.same (DIRM.fr hDM hO0 hW0 hLn0 hTn0 hLv0 hTv0 (by omega) hR0 (hb2so.trans hd1.symm) (hb2ad.trans hd2.symm) hQna hQva (fun k hk => ⟨by simp only [List.mem_cons, List.not_mem_nil, or_false]; omega, by simp only [List.mem_cons, List.not_mem_nil, or_false]; omega⟩)), fun q => absurd q (by omega)⟩⟩⟩, hS.F ht⟩) hS.2.2 dX15_entry_117
                ·
                  refine lv_iload hx hb dX15_entry_97 (lv_at hl 2 rfl) ?_
                  refine lv_iload_n hx hb dX15_entry_99 rfl (lv_at hl 3 rfl) ?_
                  refine lv_icmp_eq (tgt := 116) hx hb dX15_entry_100 (by decide) (fun c_549 => ?_) (fun c_549 => ?_)
                  ·
                    have hi_550 : j = zt := (nI_eq (a := j) (b := zt) (by omega) (by omega)).mp c_549
                    refine lv_iconst (v := (-1)) hx hb dX15_entry_116 (by decide) ?_
                    refine W.widen (k := 0) (n := 0) (by omega) (by omega) ?_
                    have hR0 := FR.unre hT00 hty hR
                    have hQna := hR0 na (by rw [hTn0]; simp only [List.mem_cons, List.not_mem_nil, or_false]; omega)
                    have hQva := hR0 va (by rw [hTv0]; simp only [List.mem_cons, List.not_mem_nil, or_false]; omega)
                    exact W.iret (v := (-1)) hx hb hr (fun t ht hWm => ⟨⟨(-1), ze, rfl, (Or.inr (Or.inl ⟨hc40, val_nv (hs5x (hs5.resolve_left c_542)) (hfst (hs5.resolve_left c_542)) (fun q => q.1 (by omega)), rfl, rfl⟩)), ⟨F_335, ty, hty, QTm.mk ht hP hD hO hR, hW, ⟨(0, 0, 0, fun _ => 0, 0, fun _ => 0), DIRM.same (DIRM.fr hDM hO0 hW0 hLn0 hTn0 hLv0 hTv0 (by omega) hR0 (hb2so.trans hd1.symm) (hb2ad.trans hd2.symm) hQna hQva (fun k hk => ⟨by simp only [List.mem_cons, List.not_mem_nil, or_false]; omega, by simp only [List.mem_cons, List.not_mem_nil, or_false]; omega⟩)), fun q => absurd q (by omega)⟩⟩⟩, hS.F ht⟩) hS.2.2 dX15_entry_117
                  ·
                    have hi_551 : j ≠ zt := fun q => c_549 (by rw [q])
                    refine lv_aload_n hx hb dX15_entry_103 rfl (lv_at hl 4 rfl) ?_
                    refine pg_get (ci := 15) (v := .ref ta) (C := RX15) (T := TX15) (N := 59) hx hb hts it_15 hown hK hP hL_h0 hb2 rfl 0 (by decide) (hts _ kt_1060) (fun _ h9 => h9) rfl dX15_entry_104 ?_
                    refine lv_iconst (v := 0) hx hb dX15_entry_107 (by decide) ?_
                    refine lv_iload hx hb dX15_entry_108 (lv_at hl 0 rfl) ?_
                    refine W.eq (g2 := F0 m 110 ls [.int (nI kend), .int (nI 0), .ref ta]) rfl ?_
                    obtain ⟨hq_552, hq_553⟩ := hW.octs hi_78 ht_79
                    have hFc := pg_free hD hS hA
                    refine va_calli (va_runS (As := [.ref ta, .int (nI 0), .int (nI kend)]) (rest := []) ⟨hx, hb, hml, hown, hts⟩ (s_X14_isName_e l dC dI cs ty gm L H.size F_335 ta (ρ + 1) 3000 0 kend gt hW hi_78 ht_79 hF_338 (by first | omega | assumption) (by first | omega | assumption)) ⟨callB_of 3 hts (gi kt_679) rfl rfl rfl (hts _ kt_666) (hts _ kt_853) (by decide +kernel) ⟨Nat.le_of_ble_eq_true rfl, Nat.le_of_ble_eq_true rfl⟩, (hts _ kt_681)⟩ ⟨fun a U g mk q => ⟨q.1, PTm.calling q.2⟩, fun U hU hWm => ⟨rfl, PTm.mk hU hWm hP hK hD hE hO⟩⟩ rfl rfl hl.1 rfl (lv_room (Nat.le_of_ble_eq_true rfl)) dX15_entry_110 ⟨by show _ + 0 ≤ 0; omega, by show _ + 0 ≤ 0; omega⟩) hS (fun q _ h => hFc q h) hFc (fun r_554 u t H1 locs ht hvm hw hB hz1 hk1 hS => ?_)
                    obtain ⟨F_555, hB1⟩ := hB
                    obtain rfl : F_335 = F_555 := (funext (fun a => hB1.2.2.2 a List.not_mem_nil)).symm
                    obtain ⟨hP, hD, hO, hR⟩ := QTm.back hB1 ht hFc hR (fun q h => absurd h List.not_mem_nil)
                    generalize H1 = H at hP hS ⊢
                    have hw : r_554 = (if NM gt 0 kend = true then 1 else 0) := hw
                    have hw_556 := hw
                    refine lv_if_ne (tgt := 118) hx hb dX15_entry_113 (by decide) (fun c_557 => ?_) (fun c_557 => ?_)
                    ·
                      refine W.widen (k := 0) (n := 0) (by omega) (by omega) ?_
                      exact jn_339 () F_335 (⟨ifb1 hw_556 c_557, nm_60 (ifb1 hw_556 c_557), fun _ => by omega, hb2, hb2so, hb2ad⟩) hO hR _ _ hP hD hS ls (lv_sub hl [0, 1, 2, 3, 4, 5, 6] rfl)
                    ·
                      refine lv_iconst (v := (-1)) hx hb dX15_entry_116 (by decide) ?_
                      refine W.widen (k := 0) (n := 0) (by omega) (by omega) ?_
                      have hR0 := FR.unre hT00 hty hR
                      have hQna := hR0 na (by rw [hTn0]; simp only [List.mem_cons, List.not_mem_nil, or_false]; omega)
                      have hQva := hR0 va (by rw [hTv0]; simp only [List.mem_cons, List.not_mem_nil, or_false]; omega)
                      exact W.iret (v := (-1)) hx hb hr (fun t ht hWm => ⟨⟨(-1), ze, rfl, (Or.inr (Or.inl ⟨hc40, val_nn (hs5x (hs5.resolve_left c_542)) (hfst (hs5.resolve_left c_542)) (by rw [← hk1e (hs5.resolve_left c_542)]; exact (ifb0 hw_556 c_557)), rfl, rfl⟩)), ⟨F_335, ty, hty, QTm.mk ht hP hD hO hR, hW, ⟨(0, 0, 0, fun _ => 0, 0, fun _ => 0), DIRM.same (DIRM.fr hDM hO0 hW0 hLn0 hTn0 hLv0 hTv0 (by omega) hR0 (hb2so.trans hd1.symm) (hb2ad.trans hd2.symm) hQna hQva (fun k hk => ⟨by simp only [List.mem_cons, List.not_mem_nil, or_false]; omega, by simp only [List.mem_cons, List.not_mem_nil, or_false]; omega⟩)), fun q => absurd q (by omega)⟩⟩⟩, hS.F ht⟩) hS.2.2 dX15_entry_117
            ·
              refine lv_iload hx hb dX15_entry_79 (lv_at hl 0 rfl) ?_
              refine lv_if_eq (tgt := 89) hx hb dX15_entry_81 (by decide) (fun c_558 => ?_) (fun c_558 => ?_)
              ·
                refine lv_iload_n hx hb dX15_entry_89 rfl (lv_at hl 2 rfl) ?_
                refine W.widen (k := 0) (n := 0) (by omega) (by omega) ?_
                exact jn_334 (nI zt) F_101 (⟨⟨zt, Nat.le_refl _, rfl, fun h => absurd (h.symm.trans c_558) (by decide), fun _ => rfl⟩, ha2, ha2so, ha2ad⟩) hO hR _ _ hP hD hS ls (lv_sub hl [0, 1, 2, 3, 4, 5] rfl)
              ·
                refine lv_iload hx hb dX15_entry_84 (lv_at hl 1 rfl) ?_
                refine lv_goto (tgt := 90) hx hb dX15_entry_86 (by decide) ?_
                refine W.widen (k := 0) (n := 0) (by omega) (by omega) ?_
                exact jn_334 (nI j) F_101 (⟨⟨j, by omega, rfl, fun _ => rfl, fun h => absurd h c_558⟩, ha2, ha2so, ha2ad⟩) hO hR _ _ hP hD hS ls (lv_sub hl [0, 1, 2, 3, 4, 5] rfl)
          ·
            have hi_559 : j < zt := ltN (N := zt) c_332
            refine lv_aload_n hx hb dX15_entry_61 rfl (lv_at hl 3 rfl) ?_
            refine pg_get (ci := 15) (v := .ref ta) (C := RX15) (T := TX15) (N := 59) hx hb hts it_15 hown hK hP hL_h0 ha2 rfl 0 (by decide) (hts _ kt_1060) (fun _ h9 => h9) rfl dX15_entry_62 ?_
            refine lv_iload hx hb dX15_entry_65 (lv_at hl 1 rfl) ?_
            obtain ⟨hq_560, hq_561⟩ := hW.octs hi_78 ht_79
            refine pg_bald hx hb hK hP hi_78 1 hF_105 rfl (vp_in_nI (by omega) (by omega)) dX15_entry_67 ?_
            refine lv_topi (fun x_562 ex_562 => ?_)
            obtain rfl : x_562 = gt j := ex_562.trans (congrArg gt (show ((nI j) : Int32).toNatClampNeg = j from nI_clamp (by omega)))
            refine lv_bipush (v := 32) hx hb dX15_entry_68 (by decide) ?_
            refine lv_icmp_eq (tgt := 79) hx hb dX15_entry_70 (by decide) (fun c_563 => ?_) (fun c_563 => ?_)
            ·
              have hfst : s5 = 1 → FST gt 32 zt j := fun _ => ⟨by omega, ha3, Or.inr c_563⟩
              have hF_566 : F ta = .inl (cs 17, 3000, .inl gt) := (hR ta (by rw [ht_79]; simp only [List.mem_cons, List.not_mem_nil, or_false]; omega)).symm.trans hF_105
              refine W.widen (k := 0) (n := 0) (by omega) (by omega) ?_
              refine pl_cutm (σ := Int32) A (dC, dI) cs ty gm L [ρ, ρ + 3, ρ + 31, ρ + 4 + ze + 100, ρ + 50 + ze + 100] F 90 7 (fun s6 => [(5, .int s5), (4, .int (nI j)), (3, .int (nI zt)), (0, .ref h0), (1, .int x1), (2, .int x2)]) (fun s6 => [.int s6]) (fun s6 FF => (∃ k : Nat, k ≤ zt ∧ s6 = nI k ∧ (s5 = 1 → k = j) ∧ (s5 = 0 → k = zt)) ∧ FF h0 = .inr (15, (.ref ta) :: (.int 0) :: (.int (nI zo)) :: (.int (nI ze)) :: (.ref ou) :: (.ref so) :: (.ref ad) :: (.ref na) :: (.ref va) :: (.ref lc) :: (.ref dm) :: (.int v11_28) :: (.int v12_29) :: (.ref tg) :: (.int v14_30) :: (.int v15_31) :: (.ref pe) :: (.int v17_32) :: (.int v18_33) :: (.int v19_34) :: (.int v20_35) :: (.int v21_36) :: (.int v22_37) :: (.ref ml) :: (.ref bg) :: (.ref co) :: (.ref sp) :: (.ref nb0) :: (.ref nb1) :: (.ref nb2) :: (.int (nI nf)) :: (.int (nI bd)) :: (.int (nI mm)) :: (.int v33_38) :: (.ref pl) :: (.ref se) :: (.ref ke) :: (.ref wi) :: (.ref hs) :: (.ref mo) :: (.ref po) :: (.ref nu) :: (.ref pr) :: (.ref sq) :: (.ref xa) :: (.ref sa) :: (.ref n64) :: (.ref m64) :: (.ref ex) :: (.ref wh) :: (.ref sd) :: (.ref tk) :: (.int v52_39) :: (.int v53_40) :: (.int v54_41) :: (.ref hd) :: (.ref ak) :: (.ref ho) :: (.ref ot) :: []) ∧ FF so = .inl (cs 16, 40, .inl fs) ∧ FF ad = .inl (cs 16, 40, .inl fd)) ?_ (fun jn_564 => ?_)
              ·
                rintro s6 F_565 hv_567 hO hR H locs hP hD hS ls hl
                have hl : lv_has ls 7 [(5, .int s5), (4, .int (nI j)), (3, .int (nI zt)), (0, .ref h0), (1, .int x1), (2, .int x2)] := hl
                have hv_567 : (∃ k : Nat, k ≤ zt ∧ s6 = nI k ∧ (s5 = 1 → k = j) ∧ (s5 = 0 → k = zt)) ∧ F_565 h0 = .inr (15, (.ref ta) :: (.int 0) :: (.int (nI zo)) :: (.int (nI ze)) :: (.ref ou) :: (.ref so) :: (.ref ad) :: (.ref na) :: (.ref va) :: (.ref lc) :: (.ref dm) :: (.int v11_28) :: (.int v12_29) :: (.ref tg) :: (.int v14_30) :: (.int v15_31) :: (.ref pe) :: (.int v17_32) :: (.int v18_33) :: (.int v19_34) :: (.int v20_35) :: (.int v21_36) :: (.int v22_37) :: (.ref ml) :: (.ref bg) :: (.ref co) :: (.ref sp) :: (.ref nb0) :: (.ref nb1) :: (.ref nb2) :: (.int (nI nf)) :: (.int (nI bd)) :: (.int (nI mm)) :: (.int v33_38) :: (.ref pl) :: (.ref se) :: (.ref ke) :: (.ref wi) :: (.ref hs) :: (.ref mo) :: (.ref po) :: (.ref nu) :: (.ref pr) :: (.ref sq) :: (.ref xa) :: (.ref sa) :: (.ref n64) :: (.ref m64) :: (.ref ex) :: (.ref wh) :: (.ref sd) :: (.ref tk) :: (.int v52_39) :: (.int v53_40) :: (.int v54_41) :: (.ref hd) :: (.ref ak) :: (.ref ho) :: (.ref ot) :: []) ∧ F_565 so = .inl (cs 16, 40, .inl fs) ∧ F_565 ad = .inl (cs 16, 40, .inl fd) := hv_567
                refine W.eq (g2 := F0 m 90 ls [.int s6]) rfl ?_
                have hF_568 : F_565 ta = .inl (cs 17, 3000, .inl gt) := (hR ta (by rw [ht_79]; simp only [List.mem_cons, List.not_mem_nil, or_false]; omega)).trans hF_566
                obtain ⟨⟨kend, hke, eke, hk1e, hk0e⟩, hb2⟩ := hv_567
                subst eke
                refine W.eq (g2 := F0 m 90 ls [.int (nI kend)]) rfl ?_
                obtain ⟨hb2, hb2so, hb2ad⟩ := hb2
                refine lv_istore (lv' := [(6, .int (nI kend)), (5, .int s5), (4, .int (nI j)), (3, .int (nI zt)), (0, .ref h0), (1, .int x1), (2, .int x2)]) hx hb dX15_entry_90 hl (by decide) rfl (fun ls hl => ?_)
                have hF_571 : F ta = .inl (cs 17, 3000, .inl gt) := (hR ta (by rw [ht_79]; simp only [List.mem_cons, List.not_mem_nil, or_false]; omega)).symm.trans hF_568
                refine W.widen (k := 0) (n := 0) (by omega) (by omega) ?_
                refine pl_cutm (σ := Unit) A (dC, dI) cs ty gm L [ρ, ρ + 3, ρ + 31, ρ + 4 + ze + 100, ρ + 50 + ze + 100] F 118 7 (fun u0 => [(6, .int (nI kend)), (5, .int s5), (4, .int (nI j)), (3, .int (nI zt)), (0, .ref h0), (1, .int x1), (2, .int x2)]) (fun u0 => []) (fun u0 FF => NM gt 0 kend = true ∧ kend ≤ 60 ∧ (s5 = 1 → j < zt) ∧ FF h0 = .inr (15, (.ref ta) :: (.int 0) :: (.int (nI zo)) :: (.int (nI ze)) :: (.ref ou) :: (.ref so) :: (.ref ad) :: (.ref na) :: (.ref va) :: (.ref lc) :: (.ref dm) :: (.int v11_28) :: (.int v12_29) :: (.ref tg) :: (.int v14_30) :: (.int v15_31) :: (.ref pe) :: (.int v17_32) :: (.int v18_33) :: (.int v19_34) :: (.int v20_35) :: (.int v21_36) :: (.int v22_37) :: (.ref ml) :: (.ref bg) :: (.ref co) :: (.ref sp) :: (.ref nb0) :: (.ref nb1) :: (.ref nb2) :: (.int (nI nf)) :: (.int (nI bd)) :: (.int (nI mm)) :: (.int v33_38) :: (.ref pl) :: (.ref se) :: (.ref ke) :: (.ref wi) :: (.ref hs) :: (.ref mo) :: (.ref po) :: (.ref nu) :: (.ref pr) :: (.ref sq) :: (.ref xa) :: (.ref sa) :: (.ref n64) :: (.ref m64) :: (.ref ex) :: (.ref wh) :: (.ref sd) :: (.ref tk) :: (.int v52_39) :: (.int v53_40) :: (.int v54_41) :: (.ref hd) :: (.ref ak) :: (.ref ho) :: (.ref ot) :: []) ∧ FF so = .inl (cs 16, 40, .inl fs) ∧ FF ad = .inl (cs 16, 40, .inl fd)) ?_ (fun jn_569 => ?_)
                ·
                  rintro u0 F_570 hv_572 hO hR H locs hP hD hS ls hl
                  have hl : lv_has ls 7 [(6, .int (nI kend)), (5, .int s5), (4, .int (nI j)), (3, .int (nI zt)), (0, .ref h0), (1, .int x1), (2, .int x2)] := hl
                  have hv_572 : NM gt 0 kend = true ∧ kend ≤ 60 ∧ (s5 = 1 → j < zt) ∧ F_570 h0 = .inr (15, (.ref ta) :: (.int 0) :: (.int (nI zo)) :: (.int (nI ze)) :: (.ref ou) :: (.ref so) :: (.ref ad) :: (.ref na) :: (.ref va) :: (.ref lc) :: (.ref dm) :: (.int v11_28) :: (.int v12_29) :: (.ref tg) :: (.int v14_30) :: (.int v15_31) :: (.ref pe) :: (.int v17_32) :: (.int v18_33) :: (.int v19_34) :: (.int v20_35) :: (.int v21_36) :: (.int v22_37) :: (.ref ml) :: (.ref bg) :: (.ref co) :: (.ref sp) :: (.ref nb0) :: (.ref nb1) :: (.ref nb2) :: (.int (nI nf)) :: (.int (nI bd)) :: (.int (nI mm)) :: (.int v33_38) :: (.ref pl) :: (.ref se) :: (.ref ke) :: (.ref wi) :: (.ref hs) :: (.ref mo) :: (.ref po) :: (.ref nu) :: (.ref pr) :: (.ref sq) :: (.ref xa) :: (.ref sa) :: (.ref n64) :: (.ref m64) :: (.ref ex) :: (.ref wh) :: (.ref sd) :: (.ref tk) :: (.int v52_39) :: (.int v53_40) :: (.int v54_41) :: (.ref hd) :: (.ref ak) :: (.ref ho) :: (.ref ot) :: []) ∧ F_570 so = .inl (cs 16, 40, .inl fs) ∧ F_570 ad = .inl (cs 16, 40, .inl fd) := hv_572
                  refine W.eq (g2 := F0 m 118 ls []) rfl ?_
                  have hF_573 : F_570 ta = .inl (cs 17, 3000, .inl gt) := (hR ta (by rw [ht_79]; simp only [List.mem_cons, List.not_mem_nil, or_false]; omega)).trans hF_571
                  obtain ⟨hn1, hn6, hn2, hn3⟩ := hv_572
                  obtain ⟨hn3, hn3so, hn3ad⟩ := hn3
                  have hF_576 : F ta = .inl (cs 17, 3000, .inl gt) := (hR ta (by rw [ht_79]; simp only [List.mem_cons, List.not_mem_nil, or_false]; omega)).symm.trans hF_573
                  refine W.widen (k := 0) (n := 0) (by omega) (by omega) ?_
                  refine pl_cutm (σ := Unit) A (dC, dI) cs ty gm L [ρ, ρ + 3, ρ + 31, ρ + 4 + ze + 100, ρ + 50 + ze + 100] F 156 7 (fun u0 => [(6, .int (nI kend)), (5, .int s5), (4, .int (nI j)), (3, .int (nI zt)), (0, .ref h0), (1, .int x1), (2, .int x2)]) (fun u0 => []) (fun u0 FF => (s5 = 1 → ISV x1 gt zt j ∧ zt - j - 1 ≤ 700) ∧ FF h0 = .inr (15, (.ref ta) :: (.int 0) :: (.int (nI zo)) :: (.int (nI ze)) :: (.ref ou) :: (.ref so) :: (.ref ad) :: (.ref na) :: (.ref va) :: (.ref lc) :: (.ref dm) :: (.int v11_28) :: (.int v12_29) :: (.ref tg) :: (.int v14_30) :: (.int v15_31) :: (.ref pe) :: (.int v17_32) :: (.int v18_33) :: (.int v19_34) :: (.int v20_35) :: (.int v21_36) :: (.int v22_37) :: (.ref ml) :: (.ref bg) :: (.ref co) :: (.ref sp) :: (.ref nb0) :: (.ref nb1) :: (.ref nb2) :: (.int (nI nf)) :: (.int (nI bd)) :: (.int (nI mm)) :: (.int v33_38) :: (.ref pl) :: (.ref se) :: (.ref ke) :: (.ref wi) :: (.ref hs) :: (.ref mo) :: (.ref po) :: (.ref nu) :: (.ref pr) :: (.ref sq) :: (.ref xa) :: (.ref sa) :: (.ref n64) :: (.ref m64) :: (.ref ex) :: (.ref wh) :: (.ref sd) :: (.ref tk) :: (.int v52_39) :: (.int v53_40) :: (.int v54_41) :: (.ref hd) :: (.ref ak) :: (.ref ho) :: (.ref ot) :: []) ∧ FF so = .inl (cs 16, 40, .inl fs) ∧ FF ad = .inl (cs 16, 40, .inl fd)) ?_ (fun jn_574 => ?_)
                  ·
                    rintro u0 F_575 hv_577 hO hR H locs hP hD hS ls hl
                    have hl : lv_has ls 7 [(6, .int (nI kend)), (5, .int s5), (4, .int (nI j)), (3, .int (nI zt)), (0, .ref h0), (1, .int x1), (2, .int x2)] := hl
                    have hv_577 : (s5 = 1 → ISV x1 gt zt j ∧ zt - j - 1 ≤ 700) ∧ F_575 h0 = .inr (15, (.ref ta) :: (.int 0) :: (.int (nI zo)) :: (.int (nI ze)) :: (.ref ou) :: (.ref so) :: (.ref ad) :: (.ref na) :: (.ref va) :: (.ref lc) :: (.ref dm) :: (.int v11_28) :: (.int v12_29) :: (.ref tg) :: (.int v14_30) :: (.int v15_31) :: (.ref pe) :: (.int v17_32) :: (.int v18_33) :: (.int v19_34) :: (.int v20_35) :: (.int v21_36) :: (.int v22_37) :: (.ref ml) :: (.ref bg) :: (.ref co) :: (.ref sp) :: (.ref nb0) :: (.ref nb1) :: (.ref nb2) :: (.int (nI nf)) :: (.int (nI bd)) :: (.int (nI mm)) :: (.int v33_38) :: (.ref pl) :: (.ref se) :: (.ref ke) :: (.ref wi) :: (.ref hs) :: (.ref mo) :: (.ref po) :: (.ref nu) :: (.ref pr) :: (.ref sq) :: (.ref xa) :: (.ref sa) :: (.ref n64) :: (.ref m64) :: (.ref ex) :: (.ref wh) :: (.ref sd) :: (.ref tk) :: (.int v52_39) :: (.int v53_40) :: (.int v54_41) :: (.ref hd) :: (.ref ak) :: (.ref ho) :: (.ref ot) :: []) ∧ F_575 so = .inl (cs 16, 40, .inl fs) ∧ F_575 ad = .inl (cs 16, 40, .inl fd) := hv_577
                    refine W.eq (g2 := F0 m 156 ls []) rfl ?_
                    have hF_578 : F_575 ta = .inl (cs 17, 3000, .inl gt) := (hR ta (by rw [ht_79]; simp only [List.mem_cons, List.not_mem_nil, or_false]; omega)).trans hF_576
                    obtain ⟨ho1, ho2⟩ := hv_577
                    obtain ⟨ho2, ho2so, ho2ad⟩ := ho2
                    refine lv_aload_n hx hb dX15_entry_156 rfl (lv_at hl 4 rfl) ?_
                    refine pg_get (ci := 15) (v := .ref so) (C := RX15) (T := TX15) (N := 59) hx hb hts it_15 hown hK hP hL_h0 ho2 rfl 5 (by decide) (hts _ kt_708) (fun _ h9 => h9) rfl dX15_entry_157 ?_
                    refine lv_aload_n hx hb dX15_entry_160 rfl (lv_at hl 4 rfl) ?_
                    refine pg_get (ci := 15) (v := .int (nI ze)) (C := RX15) (T := TX15) (N := 59) hx hb hts it_15 hown hK hP hL_h0 ho2 rfl 3 (by decide) (hts _ kt_714) (fun _ h9 => h9) rfl dX15_entry_161 ?_
                    refine lv_iload_n hx hb dX15_entry_164 rfl (lv_at hl 5 rfl) ?_
                    refine pg_iast hx hb hK hP hD hS hi_81 0 ho2so rfl (vp_in_nI (by omega) (by omega)) dX15_entry_165 (fun H locs hP hD hS => ?_)
                    obtain ⟨F_579, he_580, hP, hD, hO, hR⟩ : ∃ G, G = va_up F_575 so (.inl (cs 16, 40, .inl (upd fs ((nI ze)).toNatClampNeg (x1)))) ∧ va_P (dC, dI) vwCl (va_pl L G) H ∧ va_D A (va_pl L G) ∧ OKm cs ty gm L G ∧ FR ty [ρ, ρ + 3, ρ + 31, ρ + 4 + ze + 100, ρ + 50 + ze + 100] F G := ⟨_, rfl, hP, hD, hO.up (shm.ints ht_82 ⟨_, rfl⟩), hR.up ht_82 (by simp)⟩
                    have hF_581 : F_579 so = .inl (cs 16, 40, .inl (upd fs ((nI ze)).toNatClampNeg (x1))) := by rw [he_580]; exact up_self
                    have hF_582 : F_579 ta = .inl (cs 17, 3000, .inl gt) := by rw [he_580, up_ne (ne_ty ht_79 ht_82 (by simp))]; exact hF_578
                    have hF_583 : F_579 h0 = .inr (15, (.ref ta) :: (.int 0) :: (.int (nI zo)) :: (.int (nI ze)) :: (.ref ou) :: (.ref so) :: (.ref ad) :: (.ref na) :: (.ref va) :: (.ref lc) :: (.ref dm) :: (.int v11_28) :: (.int v12_29) :: (.ref tg) :: (.int v14_30) :: (.int v15_31) :: (.ref pe) :: (.int v17_32) :: (.int v18_33) :: (.int v19_34) :: (.int v20_35) :: (.int v21_36) :: (.int v22_37) :: (.ref ml) :: (.ref bg) :: (.ref co) :: (.ref sp) :: (.ref nb0) :: (.ref nb1) :: (.ref nb2) :: (.int (nI nf)) :: (.int (nI bd)) :: (.int (nI mm)) :: (.int v33_38) :: (.ref pl) :: (.ref se) :: (.ref ke) :: (.ref wi) :: (.ref hs) :: (.ref mo) :: (.ref po) :: (.ref nu) :: (.ref pr) :: (.ref sq) :: (.ref xa) :: (.ref sa) :: (.ref n64) :: (.ref m64) :: (.ref ex) :: (.ref wh) :: (.ref sd) :: (.ref tk) :: (.int v52_39) :: (.int v53_40) :: (.int v54_41) :: (.ref hd) :: (.ref ak) :: (.ref ho) :: (.ref ot) :: []) := by rw [he_580, up_ne (ne_ty hT_h0 ht_82 (by simp))]; exact ho2
                    have hF_584 : F_579 ad = .inl (cs 16, 40, .inl fd) := by rw [he_580, up_ne (ne_ty2 ht_85 ht_82 (by simp))]; exact ho2ad
                    have hF_585 : F_579 so = .inl (cs 16, 40, .inl (upd fs ze x1)) := by have h9 := hF_581; rwa [nI_clamp (by omega)] at h9
                    refine lv_aload_n hx hb dX15_entry_166 rfl (lv_at hl 4 rfl) ?_
                    refine pg_get (ci := 15) (v := .ref ad) (C := RX15) (T := TX15) (N := 59) hx hb hts it_15 hown hK hP hL_h0 hF_583 rfl 6 (by decide) (hts _ kt_730) (fun _ h9 => h9) rfl dX15_entry_167 ?_
                    refine lv_aload_n hx hb dX15_entry_170 rfl (lv_at hl 4 rfl) ?_
                    refine pg_get (ci := 15) (v := .int (nI ze)) (C := RX15) (T := TX15) (N := 59) hx hb hts it_15 hown hK hP hL_h0 hF_583 rfl 3 (by decide) (hts _ kt_714) (fun _ h9 => h9) rfl dX15_entry_171 ?_
                    refine lv_iload_n hx hb dX15_entry_174 rfl (lv_at hl 6 rfl) ?_
                    refine pg_iast hx hb hK hP hD hS hi_84 0 hF_584 rfl (vp_in_nI (by omega) (by omega)) dX15_entry_175 (fun H locs hP hD hS => ?_)
                    obtain ⟨F_586, he_587, hP, hD, hO, hR⟩ : ∃ G, G = va_up F_579 ad (.inl (cs 16, 40, .inl (upd fd ((nI ze)).toNatClampNeg (x2)))) ∧ va_P (dC, dI) vwCl (va_pl L G) H ∧ va_D A (va_pl L G) ∧ OKm cs ty gm L G ∧ FR ty [ρ, ρ + 3, ρ + 31, ρ + 4 + ze + 100, ρ + 50 + ze + 100] F G := ⟨_, rfl, hP, hD, hO.up (shm.ints ht_85 ⟨_, rfl⟩), hR.up ht_85 (by simp)⟩
                    have hF_588 : F_586 ad = .inl (cs 16, 40, .inl (upd fd ((nI ze)).toNatClampNeg (x2))) := by rw [he_587]; exact up_self
                    have hF_589 : F_586 so = .inl (cs 16, 40, .inl (upd fs ze x1)) := by rw [he_587, up_ne (ne_ty2 ht_82 ht_85 (by simp))]; exact hF_585
                    have hF_590 : F_586 ta = .inl (cs 17, 3000, .inl gt) := by rw [he_587, up_ne (ne_ty ht_79 ht_85 (by simp))]; exact hF_582
                    have hF_591 : F_586 h0 = .inr (15, (.ref ta) :: (.int 0) :: (.int (nI zo)) :: (.int (nI ze)) :: (.ref ou) :: (.ref so) :: (.ref ad) :: (.ref na) :: (.ref va) :: (.ref lc) :: (.ref dm) :: (.int v11_28) :: (.int v12_29) :: (.ref tg) :: (.int v14_30) :: (.int v15_31) :: (.ref pe) :: (.int v17_32) :: (.int v18_33) :: (.int v19_34) :: (.int v20_35) :: (.int v21_36) :: (.int v22_37) :: (.ref ml) :: (.ref bg) :: (.ref co) :: (.ref sp) :: (.ref nb0) :: (.ref nb1) :: (.ref nb2) :: (.int (nI nf)) :: (.int (nI bd)) :: (.int (nI mm)) :: (.int v33_38) :: (.ref pl) :: (.ref se) :: (.ref ke) :: (.ref wi) :: (.ref hs) :: (.ref mo) :: (.ref po) :: (.ref nu) :: (.ref pr) :: (.ref sq) :: (.ref xa) :: (.ref sa) :: (.ref n64) :: (.ref m64) :: (.ref ex) :: (.ref wh) :: (.ref sd) :: (.ref tk) :: (.int v52_39) :: (.int v53_40) :: (.int v54_41) :: (.ref hd) :: (.ref ak) :: (.ref ho) :: (.ref ot) :: []) := by rw [he_587, up_ne (ne_ty hT_h0 ht_85 (by simp))]; exact hF_583
                    have hF_592 : F_586 ad = .inl (cs 16, 40, .inl (upd fd ze x2)) := by have h9 := hF_588; rwa [nI_clamp (by omega)] at h9
                    refine lv_aload_n hx hb dX15_entry_176 rfl (lv_at hl 4 rfl) ?_
                    refine pg_get (ci := 15) (v := .ref na) (C := RX15) (T := TX15) (N := 59) hx hb hts it_15 hown hK hP hL_h0 hF_591 rfl 7 (by decide) (hts _ kt_709) (fun _ h9 => h9) rfl dX15_entry_177 ?_
                    refine lv_aload_n hx hb dX15_entry_180 rfl (lv_at hl 4 rfl) ?_
                    refine pg_get (ci := 15) (v := .int (nI ze)) (C := RX15) (T := TX15) (N := 59) hx hb hts it_15 hown hK hP hL_h0 hF_591 rfl 3 (by decide) (hts _ kt_714) (fun _ h9 => h9) rfl dX15_entry_181 ?_
                    have hzna := FR.unre hT00 hty hR na (by rw [hTn0]; simp only [List.mem_cons, List.not_mem_nil, or_false]; omega)
                    obtain ⟨hi_593, ht_594⟩ := hW.f_na hL_h0 hT_h0
                    obtain ⟨f_595, hF_596, hq_597⟩ := hO.rtxj hi_593 ht_594
                    obtain rfl : fn = f_595 := by have e9 := (hzna.trans hd3).symm.trans hF_596; simpa using e9
                    obtain ⟨b_598, r_599, hbf_600, hi_601, ht_602⟩ := hq_597 ze (by omega)
                    refine pg_aald (r := b_598) hx hb hK hP hi_593 7 hF_596 rfl (vp_in_nI (by omega) (by omega)) (show fn ((nI ze) : Int32).toNatClampNeg = _ from by rw [show ((nI ze) : Int32) = nI ze from rfl, nI_clamp (by omega)]; exact hbf_600) dX15_entry_184 ?_
                    refine lv_aload_n hx hb dX15_entry_185 rfl (lv_at hl 4 rfl) ?_
                    refine pg_get (ci := 15) (v := .ref ta) (C := RX15) (T := TX15) (N := 59) hx hb hts it_15 hown hK hP hL_h0 hF_591 rfl 0 (by decide) (hts _ kt_1060) (fun _ h9 => h9) rfl dX15_entry_186 ?_
                    refine lv_iconst (v := 0) hx hb dX15_entry_189 (by decide) ?_
                    refine lv_iload hx hb dX15_entry_190 (lv_at hl 0 rfl) ?_
                    refine W.eq (g2 := F0 m 192 ls [.int (nI kend), .int (nI 0), .ref ta, .ref b_598]) rfl ?_
                    obtain ⟨hi_603, ht_604, hq_605⟩ := hW.txt hi_601 ht_602
                    have hFc := pg_free hD hS hA
                    obtain ⟨z_606, hF_607, hq_608⟩ := hO.txt hi_601 ht_602
                    refine va_callv (va_runV (As := [.ref ta, .int (nI 0), .int (nI kend)]) (rest := []) ⟨hx, hb, hml, hown, hts⟩ (s_X14_set_e l dC dI cs ty gm L H.size F_586 b_598 (ρ + 4 + ze + 100) r_599 60 ta (ρ + 1) 3000 0 kend gt hW hi_601 ht_602 hi_78 ht_79 hF_590 (Nat.zero_le _) (by omega) (by omega)) ⟨callB_of 3 hts (gi kt_959) rfl rfl rfl (hts _ kt_666) (hts _ kt_960) (by decide +kernel) ⟨Nat.le_of_ble_eq_true rfl, Nat.le_of_ble_eq_true rfl⟩, (hts _ kt_961), (hts _ kt_962)⟩ ⟨fun a U g mk q => ⟨q.1, PTm.calling q.2⟩, pg_recv hK hP hi_601 hF_607 (q := (RX14, TX14, 2)) rfl, fun U hU hWm => ⟨rfl, PTm.mk hU hWm hP hK hD hE hO⟩⟩ rfl rfl hl.1 rfl (lv_room (Nat.le_of_ble_eq_true rfl)) dX15_entry_192 ⟨by show _ + 0 ≤ 0; omega, by show _ + 0 ≤ 0; omega⟩) hS (fun q _ h => hFc q h) hFc (fun u t H1 locs ht hvm hw hB hz1 hk1 hS => ?_)
                    obtain ⟨F_610, fc_611, hB1, hq_612, hq_613, hq_614⟩ := hB
                    obtain ⟨hP, hD, hO, hR⟩ := QTm.back hB1 ht hFc hR (fun q h => by simp only [List.mem_cons, List.not_mem_nil, or_false] at h ⊢; omega)
                    have hF_615 : F_610 ad = .inl (cs 16, 40, .inl (upd fd ze x2)) := (hB1.2.2.2 ad (by rw [ht_85]; simp only [List.mem_cons, List.not_mem_nil, or_false]; omega)).trans hF_592
                    have hF_616 : F_610 so = .inl (cs 16, 40, .inl (upd fs ze x1)) := (hB1.2.2.2 so (by rw [ht_82]; simp only [List.mem_cons, List.not_mem_nil, or_false]; omega)).trans hF_589
                    have hF_617 : F_610 ta = .inl (cs 17, 3000, .inl gt) := (hB1.2.2.2 ta (by rw [ht_79]; simp only [List.mem_cons, List.not_mem_nil, or_false]; omega)).trans hF_590
                    have hF_618 : F_610 h0 = .inr (15, (.ref ta) :: (.int 0) :: (.int (nI zo)) :: (.int (nI ze)) :: (.ref ou) :: (.ref so) :: (.ref ad) :: (.ref na) :: (.ref va) :: (.ref lc) :: (.ref dm) :: (.int v11_28) :: (.int v12_29) :: (.ref tg) :: (.int v14_30) :: (.int v15_31) :: (.ref pe) :: (.int v17_32) :: (.int v18_33) :: (.int v19_34) :: (.int v20_35) :: (.int v21_36) :: (.int v22_37) :: (.ref ml) :: (.ref bg) :: (.ref co) :: (.ref sp) :: (.ref nb0) :: (.ref nb1) :: (.ref nb2) :: (.int (nI nf)) :: (.int (nI bd)) :: (.int (nI mm)) :: (.int v33_38) :: (.ref pl) :: (.ref se) :: (.ref ke) :: (.ref wi) :: (.ref hs) :: (.ref mo) :: (.ref po) :: (.ref nu) :: (.ref pr) :: (.ref sq) :: (.ref xa) :: (.ref sa) :: (.ref n64) :: (.ref m64) :: (.ref ex) :: (.ref wh) :: (.ref sd) :: (.ref tk) :: (.int v52_39) :: (.int v53_40) :: (.int v54_41) :: (.ref hd) :: (.ref ak) :: (.ref ho) :: (.ref ot) :: []) := (hB1.2.2.2 h0 (by rw [hT_h0]; simp only [List.mem_cons, List.not_mem_nil, or_false]; omega)).trans hF_591
                    have hF_619 : F_610 na = .inl (cs 23, 40, .inr (.inr (.inr (.inr fn)))) := (hB1.2.2.2 na (by rw [ht_594]; simp only [List.mem_cons, List.not_mem_nil, or_false]; omega)).trans hF_596
                    generalize H1 = H at hP hS ⊢
                    refine lv_aload_n hx hb dX15_entry_195 rfl (lv_at hl 4 rfl) ?_
                    refine pg_get (ci := 15) (v := .ref va) (C := RX15) (T := TX15) (N := 59) hx hb hts it_15 hown hK hP hL_h0 hF_618 rfl 8 (by decide) (hts _ kt_722) (fun _ h9 => h9) rfl dX15_entry_196 ?_
                    refine lv_aload_n hx hb dX15_entry_199 rfl (lv_at hl 4 rfl) ?_
                    refine pg_get (ci := 15) (v := .int (nI ze)) (C := RX15) (T := TX15) (N := 59) hx hb hts it_15 hown hK hP hL_h0 hF_618 rfl 3 (by decide) (hts _ kt_714) (fun _ h9 => h9) rfl dX15_entry_200 ?_
                    have hzva := FR.unre hT00 hty hR va (by rw [hTv0]; simp only [List.mem_cons, List.not_mem_nil, or_false]; omega)
                    obtain ⟨hi_620, ht_621⟩ := hW.f_va hL_h0 hT_h0
                    obtain ⟨f_622, hF_623, hq_624⟩ := hO.rtxj hi_620 ht_621
                    obtain rfl : fv = f_622 := by have e9 := (hzva.trans hd4).symm.trans hF_623; simpa using e9
                    obtain ⟨b_625, r_626, hbf_627, hi_628, ht_629⟩ := hq_624 ze (by omega)
                    refine pg_aald (r := b_625) hx hb hK hP hi_620 7 hF_623 rfl (vp_in_nI (by omega) (by omega)) (show fv ((nI ze) : Int32).toNatClampNeg = _ from by rw [show ((nI ze) : Int32) = nI ze from rfl, nI_clamp (by omega)]; exact hbf_627) dX15_entry_203 ?_
                    refine lv_iconst (v := 0) hx hb dX15_entry_204 (by decide) ?_
                    obtain ⟨hi_630, ht_631, hq_632⟩ := hW.txt hi_628 ht_629
                    obtain ⟨z_633, hF_634, hq_635⟩ := hO.txt hi_628 ht_629
                    refine pg_put (ci := 14) (v := .int 0) (ty := .int) (C := RX14) (T := TX14) (N := 2) hx hb hts it_14 tyX14 tyX14_ok nmX14 hown hK hP hD hS hi_628 hF_634 rfl 1 (by decide) (hts _ kt_699) (fun _ h9 => h9) rfl (by decide +kernel) (rfl) (rfl) (Nat.le_of_ble_eq_true rfl) dX15_entry_205 (fun H locs hP hD hS => ?_)
                    obtain ⟨F_636, he_637, hP, hD, hO, hR⟩ : ∃ G, G = va_up F_610 b_625 (.inr (14, [.ref r_626, .int 0])) ∧ va_P (dC, dI) vwCl (va_pl L G) H ∧ va_D A (va_pl L G) ∧ OKm cs ty gm L G ∧ FR ty [ρ, ρ + 3, ρ + 31, ρ + 4 + ze + 100, ρ + 50 + ze + 100] F G := ⟨_, rfl, hP, hD, hO.up (shm.txt ht_629 ⟨0, rfl, (by first | omega | assumption | exact Or.inl rfl | exact Or.inr rfl)⟩), hR.up ht_629 (by simp)⟩
                    have hF_638 : F_636 b_625 = .inr (14, [.ref r_626, .int 0]) := by rw [he_637]; exact up_self
                    have hF_639 : F_636 ad = .inl (cs 16, 40, .inl (upd fd ze x2)) := by rw [he_637, up_ne (ne_ty ht_85 ht_629 (by simp))]; exact hF_615
                    have hF_640 : F_636 so = .inl (cs 16, 40, .inl (upd fs ze x1)) := by rw [he_637, up_ne (ne_ty ht_82 ht_629 (by simp))]; exact hF_616
                    have hF_641 : F_636 ta = .inl (cs 17, 3000, .inl gt) := by rw [he_637, up_ne (ne_ty ht_79 ht_629 (by simp))]; exact hF_617
                    have hF_642 : F_636 h0 = .inr (15, (.ref ta) :: (.int 0) :: (.int (nI zo)) :: (.int (nI ze)) :: (.ref ou) :: (.ref so) :: (.ref ad) :: (.ref na) :: (.ref va) :: (.ref lc) :: (.ref dm) :: (.int v11_28) :: (.int v12_29) :: (.ref tg) :: (.int v14_30) :: (.int v15_31) :: (.ref pe) :: (.int v17_32) :: (.int v18_33) :: (.int v19_34) :: (.int v20_35) :: (.int v21_36) :: (.int v22_37) :: (.ref ml) :: (.ref bg) :: (.ref co) :: (.ref sp) :: (.ref nb0) :: (.ref nb1) :: (.ref nb2) :: (.int (nI nf)) :: (.int (nI bd)) :: (.int (nI mm)) :: (.int v33_38) :: (.ref pl) :: (.ref se) :: (.ref ke) :: (.ref wi) :: (.ref hs) :: (.ref mo) :: (.ref po) :: (.ref nu) :: (.ref pr) :: (.ref sq) :: (.ref xa) :: (.ref sa) :: (.ref n64) :: (.ref m64) :: (.ref ex) :: (.ref wh) :: (.ref sd) :: (.ref tk) :: (.int v52_39) :: (.int v53_40) :: (.int v54_41) :: (.ref hd) :: (.ref ak) :: (.ref ho) :: (.ref ot) :: []) := by rw [he_637, up_ne (ne_ty hT_h0 ht_629 (by simp))]; exact hF_618
                    have hF_643 : F_636 na = .inl (cs 23, 40, .inr (.inr (.inr (.inr fn)))) := by rw [he_637, up_ne (ne_ty ht_594 ht_629 (by simp))]; exact hF_619
                    have hF_644 : F_636 b_598 = .inr (14, [.ref r_599, .int (nI (kend - 0))]) := by rw [he_637, up_ne (ne_ty2 ht_602 ht_629 (by simp))]; exact hq_612
                    have hF_645 : F_636 r_599 = .inl (cs 17, 60, .inl fc_611) := by rw [he_637, up_ne (ne_ty ht_604 ht_629 (by simp))]; exact hq_613
                    have hF_646 : F_636 va = .inl (cs 23, 40, .inr (.inr (.inr (.inr fv)))) := by rw [he_637, up_ne (ne_ty ht_621 ht_629 (by simp))]; exact hF_623
                    refine lv_iload hx hb dX15_entry_208 (lv_at hl 1 rfl) ?_
                    refine lv_if_eq (tgt := 234) hx hb dX15_entry_210 (by decide) (fun c_647 => ?_) (fun c_647 => ?_)
                    ·
                      refine lv_aload_n hx hb dX15_entry_234 rfl (lv_at hl 4 rfl) ?_
                      refine lv_dup hx hb dX15_entry_235 rfl ?_
                      refine pg_get (ci := 15) (v := .int (nI ze)) (C := RX15) (T := TX15) (N := 59) hx hb hts it_15 hown hK hP hL_h0 hF_642 rfl 3 (by decide) (hts _ kt_714) (fun _ h9 => h9) rfl dX15_entry_236 ?_
                      refine lv_iconst (v := 1) hx hb dX15_entry_239 (by decide) ?_
                      refine lv_iadd hx hb dX15_entry_240 ?_
                      refine lv_topi (fun x_648 ex_648 => ?_)
                      obtain rfl : x_648 = (nI (ze + 1)) := ex_648.trans (nI_add ze 1)
                      have htyU := hty
                      have hTU := hT_h0
                      obtain ⟨hq_649, hq_650⟩ := hW.octs hi_603 ht_604
                      obtain ⟨hq_651, hq_652⟩ := hW.octs hi_630 ht_631
                      obtain ⟨f_653, hF_654, hq_655⟩ := hO.octs hi_630 ht_631
                      refine pg_put (ci := 15) (v := .int (nI (ze + 1))) (ty := .int) (C := RX15) (T := TX15) (N := 59) hx hb hts it_15 tyX15 tyX15_ok nmX15 hown hK hP hD hS hL_h0 hF_642 rfl 3 (by decide) (hts _ kt_714) (fun _ h9 => h9) rfl (by decide +kernel) (rfl) (rfl) (Nat.le_of_ble_eq_true rfl) dX15_entry_241 (fun H locs hP hD hS => ?_)
                      obtain ⟨F_656, he_657, hP, hD, hR⟩ : ∃ G, G = va_up F_636 h0 (.inr (15, (.ref ta) :: (.int 0) :: (.int (nI zo)) :: (.int (nI (ze + 1))) :: (.ref ou) :: (.ref so) :: (.ref ad) :: (.ref na) :: (.ref va) :: (.ref lc) :: (.ref dm) :: (.int v11_28) :: (.int v12_29) :: (.ref tg) :: (.int v14_30) :: (.int v15_31) :: (.ref pe) :: (.int v17_32) :: (.int v18_33) :: (.int v19_34) :: (.int v20_35) :: (.int v21_36) :: (.int v22_37) :: (.ref ml) :: (.ref bg) :: (.ref co) :: (.ref sp) :: (.ref nb0) :: (.ref nb1) :: (.ref nb2) :: (.int (nI nf)) :: (.int (nI bd)) :: (.int (nI mm)) :: (.int v33_38) :: (.ref pl) :: (.ref se) :: (.ref ke) :: (.ref wi) :: (.ref hs) :: (.ref mo) :: (.ref po) :: (.ref nu) :: (.ref pr) :: (.ref sq) :: (.ref xa) :: (.ref sa) :: (.ref n64) :: (.ref m64) :: (.ref ex) :: (.ref wh) :: (.ref sd) :: (.ref tk) :: (.int v52_39) :: (.int v53_40) :: (.int v54_41) :: (.ref hd) :: (.ref ak) :: (.ref ho) :: (.ref ot) :: [])) ∧ va_P (dC, dI) vwCl (va_pl L G) H ∧ va_D A (va_pl L G) ∧ FR ty [ρ, ρ + 3, ρ + 31, ρ + 4 + ze + 100, ρ + 50 + ze + 100] F G := ⟨_, rfl, hP, hD, hR.up hT_h0 (by simp)⟩
                      have hF_658 : F_656 ta = .inl (cs 17, 3000, .inl gt) := by rw [he_657, up_ne (ne_ty ht_79 hT_h0 (by simp))]; exact hF_641
                      have hF_659 : F_656 so = .inl (cs 16, 40, .inl (upd fs ze x1)) := by rw [he_657, up_ne (ne_ty ht_82 hT_h0 (by simp))]; exact hF_640
                      have hF_660 : F_656 ad = .inl (cs 16, 40, .inl (upd fd ze x2)) := by rw [he_657, up_ne (ne_ty ht_85 hT_h0 (by simp))]; exact hF_639
                      have hF_661 : F_656 b_598 = .inr (14, [.ref r_599, .int (nI (kend - 0))]) := by rw [he_657, up_ne (ne_ty ht_602 hT_h0 (by simp))]; exact hF_644
                      have hF_662 : F_656 r_599 = .inl (cs 17, 60, .inl fc_611) := by rw [he_657, up_ne (ne_ty ht_604 hT_h0 (by simp))]; exact hF_645
                      have hF_663 : F_656 b_625 = .inr (14, [.ref r_626, .int 0]) := by rw [he_657, up_ne (ne_ty ht_629 hT_h0 (by simp))]; exact hF_638
                      have hF_664 : F_656 r_626 = .inl (cs 17, 700, .inl f_653) := by rw [he_657, up_ne (ne_ty ht_631 hT_h0 (by simp))]; exact hF_654
                      obtain ⟨ty, hty, hT_h0, hW, hO, hR⟩ : ∃ t9 : TyM, t9 = rtf ty h0 (15, ρ, [ta, ou, so, ad, na, va, lc, dm, tg, pe, ml, bg, co, sp, nb0, nb1, nb2, pl, se, ke, wi, hs, mo, po, nu, pr, sq, xa, sa, n64, m64, ex, wh, sd, tk, hd, ak, ho, ot, sx, s0, s1, s2, nf, bd, mm, zo, (ze + 1), 0]) ∧ t9 h0 = (15, ρ, [ta, ou, so, ad, na, va, lc, dm, tg, pe, ml, bg, co, sp, nb0, nb1, nb2, pl, se, ke, wi, hs, mo, po, nu, pr, sq, xa, sa, n64, m64, ex, wh, sd, tk, hd, ak, ho, ot, sx, s0, s1, s2, nf, bd, mm, zo, (ze + 1), 0]) ∧ WTm t9 gm L ∧ OKm cs t9 gm L F_656 ∧ FR t9 [ρ, ρ + 3, ρ + 31, ρ + 4 + ze + 100, ρ + 50 + ze + 100] F F_656 := ⟨_, rfl, rtf_self, hW.ze hL_h0 hT_h0, (by rw [he_657]; exact OKm.retype hO hT_h0 (shm.mod rtf_self ⟨v11_28, v12_29, v14_30, v15_31, v17_32, v18_33, v19_34, v20_35, v21_36, v22_37, v33_38, v52_39, v53_40, v54_41, rfl, (by first | omega | assumption | exact Or.inl rfl | exact Or.inr rfl), (by first | omega | assumption | exact Or.inl rfl | exact Or.inr rfl), (by first | omega | assumption | exact Or.inl rfl | exact Or.inr rfl), (by first | omega | assumption | exact Or.inl rfl | exact Or.inr rfl)⟩)), FR.retype hT_h0 hR⟩
                      have hF_665 : F_656 h0 = .inr (15, (.ref ta) :: (.int 0) :: (.int (nI zo)) :: (.int (nI (ze + 1))) :: (.ref ou) :: (.ref so) :: (.ref ad) :: (.ref na) :: (.ref va) :: (.ref lc) :: (.ref dm) :: (.int v11_28) :: (.int v12_29) :: (.ref tg) :: (.int v14_30) :: (.int v15_31) :: (.ref pe) :: (.int v17_32) :: (.int v18_33) :: (.int v19_34) :: (.int v20_35) :: (.int v21_36) :: (.int v22_37) :: (.ref ml) :: (.ref bg) :: (.ref co) :: (.ref sp) :: (.ref nb0) :: (.ref nb1) :: (.ref nb2) :: (.int (nI nf)) :: (.int (nI bd)) :: (.int (nI mm)) :: (.int v33_38) :: (.ref pl) :: (.ref se) :: (.ref ke) :: (.ref wi) :: (.ref hs) :: (.ref mo) :: (.ref po) :: (.ref nu) :: (.ref pr) :: (.ref sq) :: (.ref xa) :: (.ref sa) :: (.ref n64) :: (.ref m64) :: (.ref ex) :: (.ref wh) :: (.ref sd) :: (.ref tk) :: (.int v52_39) :: (.int v53_40) :: (.int v54_41) :: (.ref hd) :: (.ref ak) :: (.ref ho) :: (.ref ot) :: []) := by rw [he_657]; exact up_self
                      obtain ⟨hq_688, hq_689, hq_690, hq_691, hq_692, hgO, hgA, hgB⟩ := hW.sc hL_h0 hT_h0
                      refine lv_aload_n hx hb dX15_entry_244 rfl (lv_at hl 4 rfl) ?_
                      refine pg_get (ci := 15) (v := .int (nI (ze + 1))) (C := RX15) (T := TX15) (N := 59) hx hb hts it_15 hown hK hP hL_h0 hF_665 rfl 3 (by decide) (hts _ kt_714) (fun _ h9 => h9) rfl dX15_entry_245 ?_
                      refine W.widen (k := 0) (n := 0) (by omega) (by omega) ?_
                      have hR0 := FR.unre hT00 htyU (FR.unre hTU hty hR)
                      have hQna := hR0 na (by rw [hTn0]; simp only [List.mem_cons, List.not_mem_nil, or_false]; omega)
                      have hQva := hR0 va (by rw [hTv0]; simp only [List.mem_cons, List.not_mem_nil, or_false]; omega)
                      exact W.iret (v := (nI (ze + 1))) hx hb hr (fun t ht hWm => ⟨⟨(nI (ze + 1)), (ze + 1), rfl, (Or.inr (Or.inr ⟨hc40, hs5.elim (fun h => val_y1 hx0 hx4 (hs5n h) (by rw [← hk0e h]; exact hn1)) (fun h => val_y2 hx0 hx4 (hs5x h) (hfst h) (by rw [← hk1e h]; exact hn1) (ho1 h).1), rfl, rfl⟩)), ⟨F_656, ty, (by rw [hty, htyU, rtf_rtf2]), QTm.mk ht hP hD hO hR, hW, ⟨(x1, x2, kend - 0, fc_611, 0, f_653), DIRM.add hDM hO0 hW0 hLn0 hTn0 hLv0 hTv0 (by omega) hR0 hQna hQva (fun k hk => ⟨by simp only [List.mem_cons, List.not_mem_nil, or_false]; omega, by simp only [List.mem_cons, List.not_mem_nil, or_false]; omega⟩) hd1 hd2 hd3 hd4 hF_659 hF_660 ⟨b_598, r_599, hbf_600, hF_661, hF_662, by show kend - 0 ≤ 60; omega⟩ ⟨b_625, r_626, hbf_627, hF_663, hF_664, by show 0 ≤ 700; omega⟩, fun _ => enx4 (hk0e c_647) (hs5n c_647) hn1 hq_614⟩⟩⟩, hS.F ht⟩) hS.2.2 dX15_entry_248
                    ·
                      have h51 := hs5.resolve_left c_647
                      refine lv_aload_n hx hb dX15_entry_213 rfl (lv_at hl 4 rfl) ?_
                      refine pg_get (ci := 15) (v := .ref va) (C := RX15) (T := TX15) (N := 59) hx hb hts it_15 hown hK hP hL_h0 hF_642 rfl 8 (by decide) (hts _ kt_722) (fun _ h9 => h9) rfl dX15_entry_214 ?_
                      refine lv_aload_n hx hb dX15_entry_217 rfl (lv_at hl 4 rfl) ?_
                      refine pg_get (ci := 15) (v := .int (nI ze)) (C := RX15) (T := TX15) (N := 59) hx hb hts it_15 hown hK hP hL_h0 hF_642 rfl 3 (by decide) (hts _ kt_714) (fun _ h9 => h9) rfl dX15_entry_218 ?_
                      refine pg_aald (r := b_625) hx hb hK hP hi_620 7 hF_646 rfl (vp_in_nI (by omega) (by omega)) (show fv ((nI ze) : Int32).toNatClampNeg = _ from by rw [show ((nI ze) : Int32) = nI ze from rfl, nI_clamp (by omega)]; exact hbf_627) dX15_entry_221 ?_
                      refine lv_aload_n hx hb dX15_entry_222 rfl (lv_at hl 4 rfl) ?_
                      refine pg_get (ci := 15) (v := .ref ta) (C := RX15) (T := TX15) (N := 59) hx hb hts it_15 hown hK hP hL_h0 hF_642 rfl 0 (by decide) (hts _ kt_1060) (fun _ h9 => h9) rfl dX15_entry_223 ?_
                      refine lv_iload hx hb dX15_entry_226 (lv_at hl 2 rfl) ?_
                      refine lv_iconst (v := 1) hx hb dX15_entry_228 (by decide) ?_
                      refine lv_iadd hx hb dX15_entry_229 ?_
                      refine lv_topi (fun x_693 ex_693 => ?_)
                      obtain rfl : x_693 = (nI (j + 1)) := ex_693.trans (nI_add j 1)
                      refine lv_iload_n hx hb dX15_entry_230 rfl (lv_at hl 3 rfl) ?_
                      have hFc := pg_free hD hS hA
                      refine va_callv (va_runV (As := [.ref ta, .int (nI (j + 1)), .int (nI zt)]) (rest := []) ⟨hx, hb, hml, hown, hts⟩ (s_X14_set_e l dC dI cs ty gm L H.size F_636 b_625 (ρ + 50 + ze + 100) r_626 700 ta (ρ + 1) 3000 (j + 1) zt gt hW hi_628 ht_629 hi_78 ht_79 hF_641 (by have h9 := hn2 h51; omega) (by omega) (by have h9 := (ho1 h51).2; omega)) ⟨callB_of 3 hts (gi kt_959) rfl rfl rfl (hts _ kt_666) (hts _ kt_960) (by decide +kernel) ⟨Nat.le_of_ble_eq_true rfl, Nat.le_of_ble_eq_true rfl⟩, (hts _ kt_961), (hts _ kt_962)⟩ ⟨fun a U g mk q => ⟨q.1, PTm.calling q.2⟩, pg_recv hK hP hi_628 hF_638 (q := (RX14, TX14, 2)) rfl, fun U hU hWm => ⟨rfl, PTm.mk hU hWm hP hK hD hE hO⟩⟩ rfl rfl hl.1 rfl (lv_room (Nat.le_of_ble_eq_true rfl)) dX15_entry_231 ⟨by show _ + 0 ≤ 0; omega, by show _ + 0 ≤ 0; omega⟩) hS (fun q _ h => hFc q h) hFc (fun u t H1 locs ht hvm hw hB hz1 hk1 hS => ?_)
                      obtain ⟨F_695, fc_696, hB1, hq_697, hq_698, hq_699⟩ := hB
                      obtain ⟨hP, hD, hO, hR⟩ := QTm.back hB1 ht hFc hR (fun q h => by simp only [List.mem_cons, List.not_mem_nil, or_false] at h ⊢; omega)
                      have hF_700 : F_695 ad = .inl (cs 16, 40, .inl (upd fd ze x2)) := (hB1.2.2.2 ad (by rw [ht_85]; simp only [List.mem_cons, List.not_mem_nil, or_false]; omega)).trans hF_639
                      have hF_701 : F_695 so = .inl (cs 16, 40, .inl (upd fs ze x1)) := (hB1.2.2.2 so (by rw [ht_82]; simp only [List.mem_cons, List.not_mem_nil, or_false]; omega)).trans hF_640
                      have hF_702 : F_695 ta = .inl (cs 17, 3000, .inl gt) := (hB1.2.2.2 ta (by rw [ht_79]; simp only [List.mem_cons, List.not_mem_nil, or_false]; omega)).trans hF_641
                      have hF_703 : F_695 h0 = .inr (15, (.ref ta) :: (.int 0) :: (.int (nI zo)) :: (.int (nI ze)) :: (.ref ou) :: (.ref so) :: (.ref ad) :: (.ref na) :: (.ref va) :: (.ref lc) :: (.ref dm) :: (.int v11_28) :: (.int v12_29) :: (.ref tg) :: (.int v14_30) :: (.int v15_31) :: (.ref pe) :: (.int v17_32) :: (.int v18_33) :: (.int v19_34) :: (.int v20_35) :: (.int v21_36) :: (.int v22_37) :: (.ref ml) :: (.ref bg) :: (.ref co) :: (.ref sp) :: (.ref nb0) :: (.ref nb1) :: (.ref nb2) :: (.int (nI nf)) :: (.int (nI bd)) :: (.int (nI mm)) :: (.int v33_38) :: (.ref pl) :: (.ref se) :: (.ref ke) :: (.ref wi) :: (.ref hs) :: (.ref mo) :: (.ref po) :: (.ref nu) :: (.ref pr) :: (.ref sq) :: (.ref xa) :: (.ref sa) :: (.ref n64) :: (.ref m64) :: (.ref ex) :: (.ref wh) :: (.ref sd) :: (.ref tk) :: (.int v52_39) :: (.int v53_40) :: (.int v54_41) :: (.ref hd) :: (.ref ak) :: (.ref ho) :: (.ref ot) :: []) := (hB1.2.2.2 h0 (by rw [hT_h0]; simp only [List.mem_cons, List.not_mem_nil, or_false]; omega)).trans hF_642
                      have hF_704 : F_695 na = .inl (cs 23, 40, .inr (.inr (.inr (.inr fn)))) := (hB1.2.2.2 na (by rw [ht_594]; simp only [List.mem_cons, List.not_mem_nil, or_false]; omega)).trans hF_643
                      have hF_705 : F_695 b_598 = .inr (14, [.ref r_599, .int (nI (kend - 0))]) := (hB1.2.2.2 b_598 (by rw [ht_602]; simp only [List.mem_cons, List.not_mem_nil, or_false]; omega)).trans hF_644
                      have hF_706 : F_695 r_599 = .inl (cs 17, 60, .inl fc_611) := (hB1.2.2.2 r_599 (by rw [ht_604]; simp only [List.mem_cons, List.not_mem_nil, or_false]; omega)).trans hF_645
                      have hF_707 : F_695 va = .inl (cs 23, 40, .inr (.inr (.inr (.inr fv)))) := (hB1.2.2.2 va (by rw [ht_621]; simp only [List.mem_cons, List.not_mem_nil, or_false]; omega)).trans hF_646
                      generalize H1 = H at hP hS ⊢
                      refine lv_aload_n hx hb dX15_entry_234 rfl (lv_at hl 4 rfl) ?_
                      refine lv_dup hx hb dX15_entry_235 rfl ?_
                      refine pg_get (ci := 15) (v := .int (nI ze)) (C := RX15) (T := TX15) (N := 59) hx hb hts it_15 hown hK hP hL_h0 hF_703 rfl 3 (by decide) (hts _ kt_714) (fun _ h9 => h9) rfl dX15_entry_236 ?_
                      refine lv_iconst (v := 1) hx hb dX15_entry_239 (by decide) ?_
                      refine lv_iadd hx hb dX15_entry_240 ?_
                      refine lv_topi (fun x_708 ex_708 => ?_)
                      obtain rfl : x_708 = (nI (ze + 1)) := ex_708.trans (nI_add ze 1)
                      have htyU := hty
                      have hTU := hT_h0
                      obtain ⟨hq_709, hq_710⟩ := hW.octs hi_603 ht_604
                      obtain ⟨hq_711, hq_712⟩ := hW.octs hi_630 ht_631
                      refine pg_put (ci := 15) (v := .int (nI (ze + 1))) (ty := .int) (C := RX15) (T := TX15) (N := 59) hx hb hts it_15 tyX15 tyX15_ok nmX15 hown hK hP hD hS hL_h0 hF_703 rfl 3 (by decide) (hts _ kt_714) (fun _ h9 => h9) rfl (by decide +kernel) (rfl) (rfl) (Nat.le_of_ble_eq_true rfl) dX15_entry_241 (fun H locs hP hD hS => ?_)
                      obtain ⟨F_713, he_714, hP, hD, hR⟩ : ∃ G, G = va_up F_695 h0 (.inr (15, (.ref ta) :: (.int 0) :: (.int (nI zo)) :: (.int (nI (ze + 1))) :: (.ref ou) :: (.ref so) :: (.ref ad) :: (.ref na) :: (.ref va) :: (.ref lc) :: (.ref dm) :: (.int v11_28) :: (.int v12_29) :: (.ref tg) :: (.int v14_30) :: (.int v15_31) :: (.ref pe) :: (.int v17_32) :: (.int v18_33) :: (.int v19_34) :: (.int v20_35) :: (.int v21_36) :: (.int v22_37) :: (.ref ml) :: (.ref bg) :: (.ref co) :: (.ref sp) :: (.ref nb0) :: (.ref nb1) :: (.ref nb2) :: (.int (nI nf)) :: (.int (nI bd)) :: (.int (nI mm)) :: (.int v33_38) :: (.ref pl) :: (.ref se) :: (.ref ke) :: (.ref wi) :: (.ref hs) :: (.ref mo) :: (.ref po) :: (.ref nu) :: (.ref pr) :: (.ref sq) :: (.ref xa) :: (.ref sa) :: (.ref n64) :: (.ref m64) :: (.ref ex) :: (.ref wh) :: (.ref sd) :: (.ref tk) :: (.int v52_39) :: (.int v53_40) :: (.int v54_41) :: (.ref hd) :: (.ref ak) :: (.ref ho) :: (.ref ot) :: [])) ∧ va_P (dC, dI) vwCl (va_pl L G) H ∧ va_D A (va_pl L G) ∧ FR ty [ρ, ρ + 3, ρ + 31, ρ + 4 + ze + 100, ρ + 50 + ze + 100] F G := ⟨_, rfl, hP, hD, hR.up hT_h0 (by simp)⟩
                      have hF_715 : F_713 ta = .inl (cs 17, 3000, .inl gt) := by rw [he_714, up_ne (ne_ty ht_79 hT_h0 (by simp))]; exact hF_702
                      have hF_716 : F_713 so = .inl (cs 16, 40, .inl (upd fs ze x1)) := by rw [he_714, up_ne (ne_ty ht_82 hT_h0 (by simp))]; exact hF_701
                      have hF_717 : F_713 ad = .inl (cs 16, 40, .inl (upd fd ze x2)) := by rw [he_714, up_ne (ne_ty ht_85 hT_h0 (by simp))]; exact hF_700
                      have hF_718 : F_713 b_598 = .inr (14, [.ref r_599, .int (nI (kend - 0))]) := by rw [he_714, up_ne (ne_ty ht_602 hT_h0 (by simp))]; exact hF_705
                      have hF_719 : F_713 r_599 = .inl (cs 17, 60, .inl fc_611) := by rw [he_714, up_ne (ne_ty ht_604 hT_h0 (by simp))]; exact hF_706
                      have hF_720 : F_713 b_625 = .inr (14, [.ref r_626, .int (nI (zt - (j + 1)))]) := by rw [he_714, up_ne (ne_ty ht_629 hT_h0 (by simp))]; exact hq_697
                      have hF_721 : F_713 r_626 = .inl (cs 17, 700, .inl fc_696) := by rw [he_714, up_ne (ne_ty ht_631 hT_h0 (by simp))]; exact hq_698
                      obtain ⟨ty, hty, hT_h0, hW, hO, hR⟩ : ∃ t9 : TyM, t9 = rtf ty h0 (15, ρ, [ta, ou, so, ad, na, va, lc, dm, tg, pe, ml, bg, co, sp, nb0, nb1, nb2, pl, se, ke, wi, hs, mo, po, nu, pr, sq, xa, sa, n64, m64, ex, wh, sd, tk, hd, ak, ho, ot, sx, s0, s1, s2, nf, bd, mm, zo, (ze + 1), 0]) ∧ t9 h0 = (15, ρ, [ta, ou, so, ad, na, va, lc, dm, tg, pe, ml, bg, co, sp, nb0, nb1, nb2, pl, se, ke, wi, hs, mo, po, nu, pr, sq, xa, sa, n64, m64, ex, wh, sd, tk, hd, ak, ho, ot, sx, s0, s1, s2, nf, bd, mm, zo, (ze + 1), 0]) ∧ WTm t9 gm L ∧ OKm cs t9 gm L F_713 ∧ FR t9 [ρ, ρ + 3, ρ + 31, ρ + 4 + ze + 100, ρ + 50 + ze + 100] F F_713 := ⟨_, rfl, rtf_self, hW.ze hL_h0 hT_h0, (by rw [he_714]; exact OKm.retype hO hT_h0 (shm.mod rtf_self ⟨v11_28, v12_29, v14_30, v15_31, v17_32, v18_33, v19_34, v20_35, v21_36, v22_37, v33_38, v52_39, v53_40, v54_41, rfl, (by first | omega | assumption | exact Or.inl rfl | exact Or.inr rfl), (by first | omega | assumption | exact Or.inl rfl | exact Or.inr rfl), (by first | omega | assumption | exact Or.inl rfl | exact Or.inr rfl), (by first | omega | assumption | exact Or.inl rfl | exact Or.inr rfl)⟩)), FR.retype hT_h0 hR⟩
                      have hF_722 : F_713 h0 = .inr (15, (.ref ta) :: (.int 0) :: (.int (nI zo)) :: (.int (nI (ze + 1))) :: (.ref ou) :: (.ref so) :: (.ref ad) :: (.ref na) :: (.ref va) :: (.ref lc) :: (.ref dm) :: (.int v11_28) :: (.int v12_29) :: (.ref tg) :: (.int v14_30) :: (.int v15_31) :: (.ref pe) :: (.int v17_32) :: (.int v18_33) :: (.int v19_34) :: (.int v20_35) :: (.int v21_36) :: (.int v22_37) :: (.ref ml) :: (.ref bg) :: (.ref co) :: (.ref sp) :: (.ref nb0) :: (.ref nb1) :: (.ref nb2) :: (.int (nI nf)) :: (.int (nI bd)) :: (.int (nI mm)) :: (.int v33_38) :: (.ref pl) :: (.ref se) :: (.ref ke) :: (.ref wi) :: (.ref hs) :: (.ref mo) :: (.ref po) :: (.ref nu) :: (.ref pr) :: (.ref sq) :: (.ref xa) :: (.ref sa) :: (.ref n64) :: (.ref m64) :: (.ref ex) :: (.ref wh) :: (.ref sd) :: (.ref tk) :: (.int v52_39) :: (.int v53_40) :: (.int v54_41) :: (.ref hd) :: (.ref ak) :: (.ref ho) :: (.ref ot) :: []) := by rw [he_714]; exact up_self
                      obtain ⟨hq_745, hq_746, hq_747, hq_748, hq_749, hgO, hgA, hgB⟩ := hW.sc hL_h0 hT_h0
                      refine lv_aload_n hx hb dX15_entry_244 rfl (lv_at hl 4 rfl) ?_
                      refine pg_get (ci := 15) (v := .int (nI (ze + 1))) (C := RX15) (T := TX15) (N := 59) hx hb hts it_15 hown hK hP hL_h0 hF_722 rfl 3 (by decide) (hts _ kt_714) (fun _ h9 => h9) rfl dX15_entry_245 ?_
                      refine W.widen (k := 0) (n := 0) (by omega) (by omega) ?_
                      have hR0 := FR.unre hT00 htyU (FR.unre hTU hty hR)
                      have hQna := hR0 na (by rw [hTn0]; simp only [List.mem_cons, List.not_mem_nil, or_false]; omega)
                      have hQva := hR0 va (by rw [hTv0]; simp only [List.mem_cons, List.not_mem_nil, or_false]; omega)
                      exact W.iret (v := (nI (ze + 1))) hx hb hr (fun t ht hWm => ⟨⟨(nI (ze + 1)), (ze + 1), rfl, (Or.inr (Or.inr ⟨hc40, hs5.elim (fun h => val_y1 hx0 hx4 (hs5n h) (by rw [← hk0e h]; exact hn1)) (fun h => val_y2 hx0 hx4 (hs5x h) (hfst h) (by rw [← hk1e h]; exact hn1) (ho1 h).1), rfl, rfl⟩)), ⟨F_713, ty, (by rw [hty, htyU, rtf_rtf2]), QTm.mk ht hP hD hO hR, hW, ⟨(x1, x2, kend - 0, fc_611, zt - (j + 1), fc_696), DIRM.add hDM hO0 hW0 hLn0 hTn0 hLv0 hTv0 (by omega) hR0 hQna hQva (fun k hk => ⟨by simp only [List.mem_cons, List.not_mem_nil, or_false]; omega, by simp only [List.mem_cons, List.not_mem_nil, or_false]; omega⟩) hd1 hd2 hd3 hd4 hF_716 hF_717 ⟨b_598, r_599, hbf_600, hF_718, hF_719, by show kend - 0 ≤ 60; omega⟩ ⟨b_625, r_626, hbf_627, hF_720, hF_721, by show zt - (j + 1) ≤ 700; have h9 := (ho1 h51).2; omega⟩, fun _ => enx3 (hk1e h51) (hs5x h51) (hfst h51) hn1 (ho1 h51).1 hq_614 hq_699⟩⟩⟩, hS.F ht⟩) hS.2.2 dX15_entry_248
                  ·
                    refine lv_iload_n hx hb dX15_entry_118 rfl (lv_at hl 5 rfl) ?_
                    refine lv_iconst (v := 2) hx hb dX15_entry_119 (by decide) ?_
                    refine lv_icmp_ne (tgt := 138) hx hb dX15_entry_120 (by decide) (fun c_750 => ?_) (fun c_750 => ?_)
                    ·
                      refine lv_iload_n hx hb dX15_entry_138 rfl (lv_at hl 5 rfl) ?_
                      refine lv_if_ne (tgt := 156) hx hb dX15_entry_139 (by decide) (fun c_751 => ?_) (fun c_751 => ?_)
                      ·
                        refine W.widen (k := 0) (n := 0) (by omega) (by omega) ?_
                        exact jn_574 () F_570 (⟨fun h => absurd (hs5x h) (fun q => q.elim c_751 c_750), hn3, hn3so, hn3ad⟩) hO hR _ _ hP hD hS ls (lv_sub hl [0, 1, 2, 3, 4, 5, 6] rfl)
                      ·
                        have h51 : s5 = 1 := hs5.resolve_left (fun q => hs5n q (Or.inl c_751))
                        have hkz := hn2 h51
                        refine lv_iload_n hx hb dX15_entry_142 rfl (lv_at hl 3 rfl) ?_
                        refine lv_iload hx hb dX15_entry_143 (lv_at hl 2 rfl) ?_
                        refine lv_isub hx hb dX15_entry_145 ?_
                        refine lv_topi (fun x_752 ex_752 => ?_)
                        obtain rfl : x_752 = (nI (zt - j)) := ex_752.trans (pk_sub (a := zt) (b := j) (by omega))
                        refine lv_iconst (v := 1) hx hb dX15_entry_146 (by decide) ?_
                        refine lv_isub hx hb dX15_entry_147 ?_
                        refine lv_topi (fun x_753 ex_753 => ?_)
                        obtain rfl : x_753 = (nI ((zt - j) - 1)) := ex_753.trans (pk_sub (a := (zt - j)) (b := 1) (by omega))
                        refine lv_sipush (v := 700) hx hb dX15_entry_148 (by decide) ?_
                        refine lv_icmp_le (tgt := 156) hx hb dX15_entry_151 (by decide) (fun c_754 => ?_) (fun c_754 => ?_)
                        ·
                          have hi_755 : ((zt - j) - 1) ≤ 700 := (nI_leI (a := ((zt - j) - 1)) (b := 700) (by omega) (by omega)).mp c_754
                          refine W.widen (k := 0) (n := 0) (by omega) (by omega) ?_
                          exact jn_574 () F_570 (⟨fun _ => ⟨⟨by omega, fun q => absurd (q.symm.trans c_751) (by decide), fun _ => by omega⟩, by omega⟩, hn3, hn3so, hn3ad⟩) hO hR _ _ hP hD hS ls (lv_sub hl [0, 1, 2, 3, 4, 5, 6] rfl)
                        ·
                          have hi_756 : 700 < ((zt - j) - 1) := Nat.not_le.mp (fun q => c_754 ((nI_leI (a := ((zt - j) - 1)) (b := 700) (by omega) (by omega)).mpr q))
                          refine lv_iconst (v := (-1)) hx hb dX15_entry_154 (by decide) ?_
                          refine W.widen (k := 0) (n := 0) (by omega) (by omega) ?_
                          have hR0 := FR.unre hT00 hty hR
                          have hQna := hR0 na (by rw [hTn0]; simp only [List.mem_cons, List.not_mem_nil, or_false]; omega)
                          have hQva := hR0 va (by rw [hTv0]; simp only [List.mem_cons, List.not_mem_nil, or_false]; omega)
                          exact W.iret (v := (-1)) hx hb hr (fun t ht hWm => ⟨⟨(-1), ze, rfl, (Or.inr (Or.inl ⟨hc40, val_nv (Or.inl c_751) (hfst h51) (fun q => absurd (q.2.2 (fun w => absurd (w.symm.trans c_751) (by decide))) (by omega)), rfl, rfl⟩)), ⟨F_570, ty, hty, QTm.mk ht hP hD hO hR, hW, ⟨(0, 0, 0, fun _ => 0, 0, fun _ => 0), DIRM.same (DIRM.fr hDM hO0 hW0 hLn0 hTn0 hLv0 hTv0 (by omega) hR0 (hn3so.trans hd1.symm) (hn3ad.trans hd2.symm) hQna hQva (fun k hk => ⟨by simp only [List.mem_cons, List.not_mem_nil, or_false]; omega, by simp only [List.mem_cons, List.not_mem_nil, or_false]; omega⟩)), fun q => absurd q (by omega)⟩⟩⟩, hS.F ht⟩) hS.2.2 dX15_entry_155
                    ·
                      have h51 : s5 = 1 := hs5.resolve_left (fun q => hs5n q (Or.inr c_750))
                      have hkz := hn2 h51
                      refine lv_aload_n hx hb dX15_entry_123 rfl (lv_at hl 4 rfl) ?_
                      refine pg_get (ci := 15) (v := .ref ta) (C := RX15) (T := TX15) (N := 59) hx hb hts it_15 hown hK hP hL_h0 hn3 rfl 0 (by decide) (hts _ kt_1060) (fun _ h9 => h9) rfl dX15_entry_124 ?_
                      refine lv_iload hx hb dX15_entry_127 (lv_at hl 2 rfl) ?_
                      refine lv_iconst (v := 1) hx hb dX15_entry_129 (by decide) ?_
                      refine lv_iadd hx hb dX15_entry_130 ?_
                      refine lv_topi (fun x_757 ex_757 => ?_)
                      obtain rfl : x_757 = (nI (j + 1)) := ex_757.trans (nI_add j 1)
                      refine lv_iload_n hx hb dX15_entry_131 rfl (lv_at hl 3 rfl) ?_
                      have hFc := pg_free hD hS hA
                      refine va_calli (va_runS (As := [.ref ta, .int (nI (j + 1)), .int (nI zt)]) (rest := []) ⟨hx, hb, hml, hown, hts⟩ (s_X14_isName_e l dC dI cs ty gm L H.size F_570 ta (ρ + 1) 3000 (j + 1) zt gt hW hi_78 ht_79 hF_573 (by first | omega | assumption) (by first | omega | assumption)) ⟨callB_of 3 hts (gi kt_679) rfl rfl rfl (hts _ kt_666) (hts _ kt_853) (by decide +kernel) ⟨Nat.le_of_ble_eq_true rfl, Nat.le_of_ble_eq_true rfl⟩, (hts _ kt_681)⟩ ⟨fun a U g mk q => ⟨q.1, PTm.calling q.2⟩, fun U hU hWm => ⟨rfl, PTm.mk hU hWm hP hK hD hE hO⟩⟩ rfl rfl hl.1 rfl (lv_room (Nat.le_of_ble_eq_true rfl)) dX15_entry_132 ⟨by show _ + 0 ≤ 0; omega, by show _ + 0 ≤ 0; omega⟩) hS (fun q _ h => hFc q h) hFc (fun r_758 u t H1 locs ht hvm hw hB hz1 hk1 hS => ?_)
                      obtain ⟨F_759, hB1⟩ := hB
                      obtain rfl : F_570 = F_759 := (funext (fun a => hB1.2.2.2 a List.not_mem_nil)).symm
                      obtain ⟨hP, hD, hO, hR⟩ := QTm.back hB1 ht hFc hR (fun q h => absurd h List.not_mem_nil)
                      generalize H1 = H at hP hS ⊢
                      have hw : r_758 = (if NM gt (j + 1) zt = true then 1 else 0) := hw
                      have hw_760 := hw
                      refine lv_if_eq (tgt := 154) hx hb dX15_entry_135 (by decide) (fun c_761 => ?_) (fun c_761 => ?_)
                      ·
                        refine lv_iconst (v := (-1)) hx hb dX15_entry_154 (by decide) ?_
                        refine W.widen (k := 0) (n := 0) (by omega) (by omega) ?_
                        have hR0 := FR.unre hT00 hty hR
                        have hQna := hR0 na (by rw [hTn0]; simp only [List.mem_cons, List.not_mem_nil, or_false]; omega)
                        have hQva := hR0 va (by rw [hTv0]; simp only [List.mem_cons, List.not_mem_nil, or_false]; omega)
                        exact W.iret (v := (-1)) hx hb hr (fun t ht hWm => ⟨⟨(-1), ze, rfl, (Or.inr (Or.inl ⟨hc40, val_nv (Or.inr c_750) (hfst h51) (fun q => ifb0 hw_760 c_761 (q.2.1 c_750)), rfl, rfl⟩)), ⟨F_570, ty, hty, QTm.mk ht hP hD hO hR, hW, ⟨(0, 0, 0, fun _ => 0, 0, fun _ => 0), DIRM.same (DIRM.fr hDM hO0 hW0 hLn0 hTn0 hLv0 hTv0 (by omega) hR0 (hn3so.trans hd1.symm) (hn3ad.trans hd2.symm) hQna hQva (fun k hk => ⟨by simp only [List.mem_cons, List.not_mem_nil, or_false]; omega, by simp only [List.mem_cons, List.not_mem_nil, or_false]; omega⟩)), fun q => absurd q (by omega)⟩⟩⟩, hS.F ht⟩) hS.2.2 dX15_entry_155
                      ·
                        refine lv_iload_n hx hb dX15_entry_138 rfl (lv_at hl 5 rfl) ?_
                        refine lv_if_ne (tgt := 156) hx hb dX15_entry_139 (by decide) (fun c_762 => ?_) (fun c_762 => ?_)
                        ·
                          refine W.widen (k := 0) (n := 0) (by omega) (by omega) ?_
                          exact jn_574 () F_570 (⟨fun _ => ⟨⟨by omega, fun _ => ifb1 hw_760 c_761, fun q => absurd c_750 q⟩, by have h9 := nm_60 (ifb1 hw_760 c_761); omega⟩, hn3, hn3so, hn3ad⟩) hO hR _ _ hP hD hS ls (lv_sub hl [0, 1, 2, 3, 4, 5, 6] rfl)
                        ·
                          have h51 : s5 = 1 := hs5.resolve_left (fun q => hs5n q (Or.inl c_762))
                          have hkz := hn2 h51
                          refine lv_iload_n hx hb dX15_entry_142 rfl (lv_at hl 3 rfl) ?_
                          refine lv_iload hx hb dX15_entry_143 (lv_at hl 2 rfl) ?_
                          refine lv_isub hx hb dX15_entry_145 ?_
                          refine lv_topi (fun x_763 ex_763 => ?_)
                          obtain rfl : x_763 = (nI (zt - j)) := ex_763.trans (pk_sub (a := zt) (b := j) (by omega))
                          refine lv_iconst (v := 1) hx hb dX15_entry_146 (by decide) ?_
                          refine lv_isub hx hb dX15_entry_147 ?_
                          refine lv_topi (fun x_764 ex_764 => ?_)
                          obtain rfl : x_764 = (nI ((zt - j) - 1)) := ex_764.trans (pk_sub (a := (zt - j)) (b := 1) (by omega))
                          refine lv_sipush (v := 700) hx hb dX15_entry_148 (by decide) ?_
                          refine lv_icmp_le (tgt := 156) hx hb dX15_entry_151 (by decide) (fun c_765 => ?_) (fun c_765 => ?_)
                          ·
                            have hi_766 : ((zt - j) - 1) ≤ 700 := (nI_leI (a := ((zt - j) - 1)) (b := 700) (by omega) (by omega)).mp c_765
                            refine W.widen (k := 0) (n := 0) (by omega) (by omega) ?_
                            exact jn_574 () F_570 (⟨fun _ => ⟨⟨by omega, fun q => absurd (q.symm.trans c_762) (by decide), fun _ => by omega⟩, by omega⟩, hn3, hn3so, hn3ad⟩) hO hR _ _ hP hD hS ls (lv_sub hl [0, 1, 2, 3, 4, 5, 6] rfl)
                          ·
                            have hi_767 : 700 < ((zt - j) - 1) := Nat.not_le.mp (fun q => c_765 ((nI_leI (a := ((zt - j) - 1)) (b := 700) (by omega) (by omega)).mpr q))
                            refine lv_iconst (v := (-1)) hx hb dX15_entry_154 (by decide) ?_
                            refine W.widen (k := 0) (n := 0) (by omega) (by omega) ?_
                            have hR0 := FR.unre hT00 hty hR
                            have hQna := hR0 na (by rw [hTn0]; simp only [List.mem_cons, List.not_mem_nil, or_false]; omega)
                            have hQva := hR0 va (by rw [hTv0]; simp only [List.mem_cons, List.not_mem_nil, or_false]; omega)
                            exact W.iret (v := (-1)) hx hb hr (fun t ht hWm => ⟨⟨(-1), ze, rfl, (Or.inr (Or.inl ⟨hc40, val_nv (Or.inl c_762) (hfst h51) (fun q => absurd (q.2.2 (fun w => absurd (w.symm.trans c_762) (by decide))) (by omega)), rfl, rfl⟩)), ⟨F_570, ty, hty, QTm.mk ht hP hD hO hR, hW, ⟨(0, 0, 0, fun _ => 0, 0, fun _ => 0), DIRM.same (DIRM.fr hDM hO0 hW0 hLn0 hTn0 hLv0 hTv0 (by omega) hR0 (hn3so.trans hd1.symm) (hn3ad.trans hd2.symm) hQna hQva (fun k hk => ⟨by simp only [List.mem_cons, List.not_mem_nil, or_false]; omega, by simp only [List.mem_cons, List.not_mem_nil, or_false]; omega⟩)), fun q => absurd q (by omega)⟩⟩⟩, hS.F ht⟩) hS.2.2 dX15_entry_155
                ·
                  refine lv_iload hx hb dX15_entry_92 (lv_at hl 1 rfl) ?_
                  refine lv_if_eq (tgt := 103) hx hb dX15_entry_94 (by decide) (fun c_768 => ?_) (fun c_768 => ?_)
                  ·
                    refine lv_aload_n hx hb dX15_entry_103 rfl (lv_at hl 4 rfl) ?_
                    refine pg_get (ci := 15) (v := .ref ta) (C := RX15) (T := TX15) (N := 59) hx hb hts it_15 hown hK hP hL_h0 hb2 rfl 0 (by decide) (hts _ kt_1060) (fun _ h9 => h9) rfl dX15_entry_104 ?_
                    refine lv_iconst (v := 0) hx hb dX15_entry_107 (by decide) ?_
                    refine lv_iload hx hb dX15_entry_108 (lv_at hl 0 rfl) ?_
                    refine W.eq (g2 := F0 m 110 ls [.int (nI kend), .int (nI 0), .ref ta]) rfl ?_
                    have hFc := pg_free hD hS hA
                    refine va_calli (va_runS (As := [.ref ta, .int (nI 0), .int (nI kend)]) (rest := []) ⟨hx, hb, hml, hown, hts⟩ (s_X14_isName_e l dC dI cs ty gm L H.size F_565 ta (ρ + 1) 3000 0 kend gt hW hi_78 ht_79 hF_568 (by first | omega | assumption) (by first | omega | assumption)) ⟨callB_of 3 hts (gi kt_679) rfl rfl rfl (hts _ kt_666) (hts _ kt_853) (by decide +kernel) ⟨Nat.le_of_ble_eq_true rfl, Nat.le_of_ble_eq_true rfl⟩, (hts _ kt_681)⟩ ⟨fun a U g mk q => ⟨q.1, PTm.calling q.2⟩, fun U hU hWm => ⟨rfl, PTm.mk hU hWm hP hK hD hE hO⟩⟩ rfl rfl hl.1 rfl (lv_room (Nat.le_of_ble_eq_true rfl)) dX15_entry_110 ⟨by show _ + 0 ≤ 0; omega, by show _ + 0 ≤ 0; omega⟩) hS (fun q _ h => hFc q h) hFc (fun r_769 u t H1 locs ht hvm hw hB hz1 hk1 hS => ?_)
                    obtain ⟨F_770, hB1⟩ := hB
                    obtain rfl : F_565 = F_770 := (funext (fun a => hB1.2.2.2 a List.not_mem_nil)).symm
                    obtain ⟨hP, hD, hO, hR⟩ := QTm.back hB1 ht hFc hR (fun q h => absurd h List.not_mem_nil)
                    generalize H1 = H at hP hS ⊢
                    have hw : r_769 = (if NM gt 0 kend = true then 1 else 0) := hw
                    have hw_771 := hw
                    refine lv_if_ne (tgt := 118) hx hb dX15_entry_113 (by decide) (fun c_772 => ?_) (fun c_772 => ?_)
                    ·
                      refine W.widen (k := 0) (n := 0) (by omega) (by omega) ?_
                      exact jn_569 () F_565 (⟨ifb1 hw_771 c_772, nm_60 (ifb1 hw_771 c_772), fun h => absurd (h.symm.trans c_768) (by decide), hb2, hb2so, hb2ad⟩) hO hR _ _ hP hD hS ls (lv_sub hl [0, 1, 2, 3, 4, 5, 6] rfl)
                    ·
                      refine lv_iconst (v := (-1)) hx hb dX15_entry_116 (by decide) ?_
                      refine W.widen (k := 0) (n := 0) (by omega) (by omega) ?_
                      have hR0 := FR.unre hT00 hty hR
                      have hQna := hR0 na (by rw [hTn0]; simp only [List.mem_cons, List.not_mem_nil, or_false]; omega)
                      have hQva := hR0 va (by rw [hTv0]; simp only [List.mem_cons, List.not_mem_nil, or_false]; omega)
                      exact W.iret (v := (-1)) hx hb hr (fun t ht hWm => ⟨⟨(-1), ze, rfl, (Or.inr (Or.inl ⟨hc40, val_nz (hs5n c_768) (by rw [← hk0e c_768]; exact (ifb0 hw_771 c_772)), rfl, rfl⟩)), ⟨F_565, ty, hty, QTm.mk ht hP hD hO hR, hW, ⟨(0, 0, 0, fun _ => 0, 0, fun _ => 0), DIRM.same (DIRM.fr hDM hO0 hW0 hLn0 hTn0 hLv0 hTv0 (by omega) hR0 (hb2so.trans hd1.symm) (hb2ad.trans hd2.symm) hQna hQva (fun k hk => ⟨by simp only [List.mem_cons, List.not_mem_nil, or_false]; omega, by simp only [List.mem_cons, List.not_mem_nil, or_false]; omega⟩)), fun q => absurd q (by omega)⟩⟩⟩, hS.F ht⟩) hS.2.2 dX15_entry_117
                  ·
                    refine lv_iload hx hb dX15_entry_97 (lv_at hl 2 rfl) ?_
                    refine lv_iload_n hx hb dX15_entry_99 rfl (lv_at hl 3 rfl) ?_
                    refine lv_icmp_eq (tgt := 116) hx hb dX15_entry_100 (by decide) (fun c_773 => ?_) (fun c_773 => ?_)
                    ·
                      have hi_774 : j = zt := (nI_eq (a := j) (b := zt) (by omega) (by omega)).mp c_773
                      refine lv_iconst (v := (-1)) hx hb dX15_entry_116 (by decide) ?_
                      refine W.widen (k := 0) (n := 0) (by omega) (by omega) ?_
                      have hR0 := FR.unre hT00 hty hR
                      have hQna := hR0 na (by rw [hTn0]; simp only [List.mem_cons, List.not_mem_nil, or_false]; omega)
                      have hQva := hR0 va (by rw [hTv0]; simp only [List.mem_cons, List.not_mem_nil, or_false]; omega)
                      exact W.iret (v := (-1)) hx hb hr (fun t ht hWm => ⟨⟨(-1), ze, rfl, (Or.inr (Or.inl ⟨hc40, val_nv (hs5x (hs5.resolve_left c_768)) (hfst (hs5.resolve_left c_768)) (fun q => q.1 (by omega)), rfl, rfl⟩)), ⟨F_565, ty, hty, QTm.mk ht hP hD hO hR, hW, ⟨(0, 0, 0, fun _ => 0, 0, fun _ => 0), DIRM.same (DIRM.fr hDM hO0 hW0 hLn0 hTn0 hLv0 hTv0 (by omega) hR0 (hb2so.trans hd1.symm) (hb2ad.trans hd2.symm) hQna hQva (fun k hk => ⟨by simp only [List.mem_cons, List.not_mem_nil, or_false]; omega, by simp only [List.mem_cons, List.not_mem_nil, or_false]; omega⟩)), fun q => absurd q (by omega)⟩⟩⟩, hS.F ht⟩) hS.2.2 dX15_entry_117
                    ·
                      have hi_775 : j ≠ zt := fun q => c_773 (by rw [q])
                      refine lv_aload_n hx hb dX15_entry_103 rfl (lv_at hl 4 rfl) ?_
                      refine pg_get (ci := 15) (v := .ref ta) (C := RX15) (T := TX15) (N := 59) hx hb hts it_15 hown hK hP hL_h0 hb2 rfl 0 (by decide) (hts _ kt_1060) (fun _ h9 => h9) rfl dX15_entry_104 ?_
                      refine lv_iconst (v := 0) hx hb dX15_entry_107 (by decide) ?_
                      refine lv_iload hx hb dX15_entry_108 (lv_at hl 0 rfl) ?_
                      refine W.eq (g2 := F0 m 110 ls [.int (nI kend), .int (nI 0), .ref ta]) rfl ?_
                      have hFc := pg_free hD hS hA
                      refine va_calli (va_runS (As := [.ref ta, .int (nI 0), .int (nI kend)]) (rest := []) ⟨hx, hb, hml, hown, hts⟩ (s_X14_isName_e l dC dI cs ty gm L H.size F_565 ta (ρ + 1) 3000 0 kend gt hW hi_78 ht_79 hF_568 (by first | omega | assumption) (by first | omega | assumption)) ⟨callB_of 3 hts (gi kt_679) rfl rfl rfl (hts _ kt_666) (hts _ kt_853) (by decide +kernel) ⟨Nat.le_of_ble_eq_true rfl, Nat.le_of_ble_eq_true rfl⟩, (hts _ kt_681)⟩ ⟨fun a U g mk q => ⟨q.1, PTm.calling q.2⟩, fun U hU hWm => ⟨rfl, PTm.mk hU hWm hP hK hD hE hO⟩⟩ rfl rfl hl.1 rfl (lv_room (Nat.le_of_ble_eq_true rfl)) dX15_entry_110 ⟨by show _ + 0 ≤ 0; omega, by show _ + 0 ≤ 0; omega⟩) hS (fun q _ h => hFc q h) hFc (fun r_776 u t H1 locs ht hvm hw hB hz1 hk1 hS => ?_)
                      obtain ⟨F_777, hB1⟩ := hB
                      obtain rfl : F_565 = F_777 := (funext (fun a => hB1.2.2.2 a List.not_mem_nil)).symm
                      obtain ⟨hP, hD, hO, hR⟩ := QTm.back hB1 ht hFc hR (fun q h => absurd h List.not_mem_nil)
                      generalize H1 = H at hP hS ⊢
                      have hw : r_776 = (if NM gt 0 kend = true then 1 else 0) := hw
                      have hw_778 := hw
                      refine lv_if_ne (tgt := 118) hx hb dX15_entry_113 (by decide) (fun c_779 => ?_) (fun c_779 => ?_)
                      ·
                        refine W.widen (k := 0) (n := 0) (by omega) (by omega) ?_
                        exact jn_569 () F_565 (⟨ifb1 hw_778 c_779, nm_60 (ifb1 hw_778 c_779), fun _ => by omega, hb2, hb2so, hb2ad⟩) hO hR _ _ hP hD hS ls (lv_sub hl [0, 1, 2, 3, 4, 5, 6] rfl)
                      ·
                        refine lv_iconst (v := (-1)) hx hb dX15_entry_116 (by decide) ?_
                        refine W.widen (k := 0) (n := 0) (by omega) (by omega) ?_
                        have hR0 := FR.unre hT00 hty hR
                        have hQna := hR0 na (by rw [hTn0]; simp only [List.mem_cons, List.not_mem_nil, or_false]; omega)
                        have hQva := hR0 va (by rw [hTv0]; simp only [List.mem_cons, List.not_mem_nil, or_false]; omega)
                        exact W.iret (v := (-1)) hx hb hr (fun t ht hWm => ⟨⟨(-1), ze, rfl, (Or.inr (Or.inl ⟨hc40, val_nn (hs5x (hs5.resolve_left c_768)) (hfst (hs5.resolve_left c_768)) (by rw [← hk1e (hs5.resolve_left c_768)]; exact (ifb0 hw_778 c_779)), rfl, rfl⟩)), ⟨F_565, ty, hty, QTm.mk ht hP hD hO hR, hW, ⟨(0, 0, 0, fun _ => 0, 0, fun _ => 0), DIRM.same (DIRM.fr hDM hO0 hW0 hLn0 hTn0 hLv0 hTv0 (by omega) hR0 (hb2so.trans hd1.symm) (hb2ad.trans hd2.symm) hQna hQva (fun k hk => ⟨by simp only [List.mem_cons, List.not_mem_nil, or_false]; omega, by simp only [List.mem_cons, List.not_mem_nil, or_false]; omega⟩)), fun q => absurd q (by omega)⟩⟩⟩, hS.F ht⟩) hS.2.2 dX15_entry_117
              ·
                refine lv_iload hx hb dX15_entry_79 (lv_at hl 0 rfl) ?_
                refine lv_if_eq (tgt := 89) hx hb dX15_entry_81 (by decide) (fun c_780 => ?_) (fun c_780 => ?_)
                ·
                  refine lv_iload_n hx hb dX15_entry_89 rfl (lv_at hl 2 rfl) ?_
                  refine W.widen (k := 0) (n := 0) (by omega) (by omega) ?_
                  exact jn_564 (nI zt) F_101 (⟨⟨zt, Nat.le_refl _, rfl, fun h => absurd (h.symm.trans c_780) (by decide), fun _ => rfl⟩, ha2, ha2so, ha2ad⟩) hO hR _ _ hP hD hS ls (lv_sub hl [0, 1, 2, 3, 4, 5] rfl)
                ·
                  refine lv_iload hx hb dX15_entry_84 (lv_at hl 1 rfl) ?_
                  refine lv_goto (tgt := 90) hx hb dX15_entry_86 (by decide) ?_
                  refine W.widen (k := 0) (n := 0) (by omega) (by omega) ?_
                  exact jn_564 (nI j) F_101 (⟨⟨j, by omega, rfl, fun _ => rfl, fun h => absurd h c_780⟩, ha2, ha2so, ha2ad⟩) hO hR _ _ hP hD hS ls (lv_sub hl [0, 1, 2, 3, 4, 5] rfl)
            ·
              refine lv_iinc (v := (nI (j + 1))) (lv' := [(4, .int (nI (j + 1))), (5, .int s5), (3, .int (nI zt)), (0, .ref h0), (1, .int x1), (2, .int x2)]) hx hb dX15_entry_73 hl (k := 1) rfl (nI_1 _) (by decide) rfl (fun ls hl => ?_)
              refine lv_goto (tgt := 50) hx hb dX15_entry_76 (by decide) ?_
              refine W.widen (k := 0) (n := 0) (by omega) (by omega) ?_
              exact ih_104 (j + 1) F_101 (⟨by omega, fun i hi => by rcases Nat.lt_or_ge i j with q | q; exact ha3 i q; rw [show i = j by omega]; exact c_563, ha2, ha2so, ha2ad⟩) (by show zt - (j + 1) < zt - j; omega) hO hR _ _ hP hD hS ls (lv_sub hl [1, 0, 2, 3, 4, 5] rfl)
      ·
        refine lv_iload_n hx hb dX15_entry_34 rfl (lv_at hl 3 rfl) ?_
        refine lv_if_eq (tgt := 43) hx hb dX15_entry_35 (by decide) (fun c_781 => ?_) (fun c_781 => ?_)
        ·
          refine lv_iconst (v := 1) hx hb dX15_entry_43 (by decide) ?_
          refine lv_goto (tgt := 48) hx hb dX15_entry_44 (by decide) ?_
          refine W.widen (k := 0) (n := 0) (by omega) (by omega) ?_
          obtain ⟨hq_782, hq_783⟩ := hW.ints hi_81 ht_82
          obtain ⟨hq_784, hq_785⟩ := hW.ints hi_84 ht_85
          exact jn_92 1 F_48 (⟨Or.inr rfl, fun _ => Or.inl c_781, fun h => absurd h (by decide), hq_49, hF_80, hF_83⟩) hO hR _ _ hP hD hS ls (lv_sub hl [0, 1, 2, 3, 4] rfl)
        ·
          refine lv_iload_n hx hb dX15_entry_38 rfl (lv_at hl 3 rfl) ?_
          refine lv_iconst (v := 2) hx hb dX15_entry_39 (by decide) ?_
          refine lv_icmp_ne (tgt := 47) hx hb dX15_entry_40 (by decide) (fun c_786 => ?_) (fun c_786 => ?_)
          ·
            refine lv_iconst (v := 0) hx hb dX15_entry_47 (by decide) ?_
            refine W.widen (k := 0) (n := 0) (by omega) (by omega) ?_
            obtain ⟨hq_787, hq_788⟩ := hW.ints hi_81 ht_82
            obtain ⟨hq_789, hq_790⟩ := hW.ints hi_84 ht_85
            exact jn_92 0 F_48 (⟨Or.inl rfl, fun h => absurd h (by decide), fun _ q => q.elim c_781 c_786, hq_49, hF_80, hF_83⟩) hO hR _ _ hP hD hS ls (lv_sub hl [0, 1, 2, 3, 4] rfl)
          ·
            refine lv_iconst (v := 1) hx hb dX15_entry_43 (by decide) ?_
            refine lv_goto (tgt := 48) hx hb dX15_entry_44 (by decide) ?_
            refine W.widen (k := 0) (n := 0) (by omega) (by omega) ?_
            obtain ⟨hq_791, hq_792⟩ := hW.ints hi_81 ht_82
            obtain ⟨hq_793, hq_794⟩ := hW.ints hi_84 ht_85
            exact jn_92 1 F_48 (⟨Or.inr rfl, fun _ => Or.inr c_786, fun h => absurd h (by decide), hq_49, hF_80, hF_83⟩) hO hR _ _ hP hD hS ls (lv_sub hl [0, 1, 2, 3, 4] rfl)
    ·
      have hxo := ((in_04 hw_90).resolve_right (fun q => absurd (q.1.symm.trans c_91) (by decide))).2
      refine lv_iconst (v := (-1)) hx hb dX15_entry_32 (by decide) ?_
      refine W.widen (k := 0) (n := 0) (by omega) (by omega) ?_
      have hR0 := FR.unre hT00 hty hR
      have hQna := hR0 na (by rw [hTn0]; simp only [List.mem_cons, List.not_mem_nil, or_false]; omega)
      have hQva := hR0 va (by rw [hTv0]; simp only [List.mem_cons, List.not_mem_nil, or_false]; omega)
      obtain ⟨hq_795, hq_796⟩ := hW.ints hi_81 ht_82
      obtain ⟨hq_797, hq_798⟩ := hW.ints hi_84 ht_85
      exact W.iret (v := (-1)) hx hb hr (fun t ht hWm => ⟨⟨(-1), ze, rfl, (Or.inr (Or.inl ⟨hc40, hxo.elim val_n1 val_n2, rfl, rfl⟩)), ⟨F_48, ty, hty, QTm.mk ht hP hD hO hR, hW, ⟨(0, 0, 0, fun _ => 0, 0, fun _ => 0), DIRM.same (DIRM.fr hDM hO0 hW0 hLn0 hTn0 hLv0 hTv0 (by omega) hR0 (hF_80.trans hd1.symm) (hF_83.trans hd2.symm) hQna hQva (fun k hk => ⟨by simp only [List.mem_cons, List.not_mem_nil, or_false]; omega, by simp only [List.mem_cons, List.not_mem_nil, or_false]; omega⟩)), fun q => absurd q (by omega)⟩⟩⟩, hS.F ht⟩) hS.2.2 dX15_entry_33
  ·
    have hi_799 : ze = 40 := (nI_eq (a := ze) (b := 40) (by omega) (by omega)).mp c_86
    have hc40 : ze = 40 := by omega
    refine lv_bipush (v := (-3)) hx hb dX15_entry_17 (by decide) ?_
    refine W.widen (k := 0) (n := 0) (by omega) (by omega) ?_
    have hR0 := FR.unre hT00 hty hR
    have hQna := hR0 na (by rw [hTn0]; simp only [List.mem_cons, List.not_mem_nil, or_false]; omega)
    have hQva := hR0 va (by rw [hTv0]; simp only [List.mem_cons, List.not_mem_nil, or_false]; omega)
    obtain ⟨hq_800, hq_801⟩ := hW.ints hi_81 ht_82
    obtain ⟨hq_802, hq_803⟩ := hW.ints hi_84 ht_85
    exact W.iret (v := (-3)) hx hb hr (fun t ht hWm => ⟨⟨(-3), ze, rfl, (Or.inl ⟨hc40, rfl, rfl⟩), ⟨F_48, ty, hty, QTm.mk ht hP hD hO hR, hW, ⟨(0, 0, 0, fun _ => 0, 0, fun _ => 0), DIRM.same (DIRM.fr hDM hO0 hW0 hLn0 hTn0 hLv0 hTv0 (by omega) hR0 (hF_80.trans hd1.symm) (hF_83.trans hd2.symm) hQna hQva (fun k hk => ⟨by simp only [List.mem_cons, List.not_mem_nil, or_false]; omega, by simp only [List.mem_cons, List.not_mem_nil, or_false]; omega⟩)), fun q => absurd q (by omega)⟩⟩⟩, hS.F ht⟩) hS.2.2 dX15_entry_19
