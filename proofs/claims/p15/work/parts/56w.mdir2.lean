theorem dX15_entry_0 : decode cX15_entry 0 = .ok (.aload_n 0, 1) := by decide +kernel
theorem dX15_entry_1 : decode cX15_entry 1 = .ok (.invokevirtual 174, 3) := by decide +kernel
theorem dX15_entry_4 : decode cX15_entry 4 = .ok (.istore_n 3, 1) := by decide +kernel
theorem dX15_entry_5 : decode cX15_entry 5 = .ok (.iconst 0, 1) := by decide +kernel
theorem dX15_entry_6 : decode cX15_entry 6 = .ok (.istore 4, 2) := by decide +kernel
theorem dX15_entry_8 : decode cX15_entry 8 = .ok (.aload_n 0, 1) := by decide +kernel
theorem dX15_entry_9 : decode cX15_entry 9 = .ok (.getfield 177, 3) := by decide +kernel
theorem dX15_entry_12 : decode cX15_entry 12 = .ok (.bipush 40, 2) := by decide +kernel
theorem dX15_entry_14 : decode cX15_entry 14 = .ok (.if_icmp .ne 6, 3) := by decide +kernel
theorem dX15_entry_17 : decode cX15_entry 17 = .ok (.bipush (-3), 2) := by decide +kernel
theorem dX15_entry_19 : decode cX15_entry 19 = .ok (.ireturn, 1) := by decide +kernel
theorem dX15_entry_20 : decode cX15_entry 20 = .ok (.iload_n 1, 1) := by decide +kernel
theorem dX15_entry_21 : decode cX15_entry 21 = .ok (.i2l, 1) := by decide +kernel
theorem dX15_entry_22 : decode cX15_entry 22 = .ok (.lconst 0, 1) := by decide +kernel
theorem dX15_entry_23 : decode cX15_entry 23 = .ok (.ldc2_w 180, 3) := by decide +kernel
theorem dX15_entry_26 : decode cX15_entry 26 = .ok (.invokestatic 170, 3) := by decide +kernel
theorem dX15_entry_29 : decode cX15_entry 29 = .ok (.ifCond .ne 5, 3) := by decide +kernel
theorem dX15_entry_32 : decode cX15_entry 32 = .ok (.iconst (-1), 1) := by decide +kernel
theorem dX15_entry_33 : decode cX15_entry 33 = .ok (.ireturn, 1) := by decide +kernel
theorem dX15_entry_34 : decode cX15_entry 34 = .ok (.iload_n 1, 1) := by decide +kernel
theorem dX15_entry_35 : decode cX15_entry 35 = .ok (.ifCond .eq 8, 3) := by decide +kernel
theorem dX15_entry_38 : decode cX15_entry 38 = .ok (.iload_n 1, 1) := by decide +kernel
theorem dX15_entry_39 : decode cX15_entry 39 = .ok (.iconst 2, 1) := by decide +kernel
theorem dX15_entry_40 : decode cX15_entry 40 = .ok (.if_icmp .ne 7, 3) := by decide +kernel
theorem dX15_entry_43 : decode cX15_entry 43 = .ok (.iconst 1, 1) := by decide +kernel
theorem dX15_entry_44 : decode cX15_entry 44 = .ok (.goto 4, 3) := by decide +kernel
theorem dX15_entry_47 : decode cX15_entry 47 = .ok (.iconst 0, 1) := by decide +kernel
theorem dX15_entry_48 : decode cX15_entry 48 = .ok (.istore 5, 2) := by decide +kernel
theorem dX15_entry_50 : decode cX15_entry 50 = .ok (.iload 5, 2) := by decide +kernel
theorem dX15_entry_52 : decode cX15_entry 52 = .ok (.ifCond .eq 27, 3) := by decide +kernel
theorem dX15_entry_55 : decode cX15_entry 55 = .ok (.iload 4, 2) := by decide +kernel
theorem dX15_entry_57 : decode cX15_entry 57 = .ok (.iload_n 3, 1) := by decide +kernel
theorem dX15_entry_58 : decode cX15_entry 58 = .ok (.if_icmp .ge 21, 3) := by decide +kernel
theorem dX15_entry_61 : decode cX15_entry 61 = .ok (.aload_n 0, 1) := by decide +kernel
theorem dX15_entry_62 : decode cX15_entry 62 = .ok (.getfield 31, 3) := by decide +kernel
theorem dX15_entry_65 : decode cX15_entry 65 = .ok (.iload 4, 2) := by decide +kernel
theorem dX15_entry_67 : decode cX15_entry 67 = .ok (.baload, 1) := by decide +kernel
theorem dX15_entry_68 : decode cX15_entry 68 = .ok (.bipush 32, 2) := by decide +kernel
theorem dX15_entry_70 : decode cX15_entry 70 = .ok (.if_icmp .eq 9, 3) := by decide +kernel
theorem dX15_entry_73 : decode cX15_entry 73 = .ok (.iinc 4 1, 3) := by decide +kernel
theorem dX15_entry_76 : decode cX15_entry 76 = .ok (.goto (-26), 3) := by decide +kernel
theorem dX15_entry_79 : decode cX15_entry 79 = .ok (.iload 5, 2) := by decide +kernel
theorem dX15_entry_81 : decode cX15_entry 81 = .ok (.ifCond .eq 8, 3) := by decide +kernel
theorem dX15_entry_84 : decode cX15_entry 84 = .ok (.iload 4, 2) := by decide +kernel
theorem dX15_entry_86 : decode cX15_entry 86 = .ok (.goto 4, 3) := by decide +kernel
theorem dX15_entry_89 : decode cX15_entry 89 = .ok (.iload_n 3, 1) := by decide +kernel
theorem dX15_entry_90 : decode cX15_entry 90 = .ok (.istore 6, 2) := by decide +kernel
theorem dX15_entry_92 : decode cX15_entry 92 = .ok (.iload 5, 2) := by decide +kernel
theorem dX15_entry_94 : decode cX15_entry 94 = .ok (.ifCond .eq 9, 3) := by decide +kernel
theorem dX15_entry_97 : decode cX15_entry 97 = .ok (.iload 4, 2) := by decide +kernel
theorem dX15_entry_99 : decode cX15_entry 99 = .ok (.iload_n 3, 1) := by decide +kernel
theorem dX15_entry_100 : decode cX15_entry 100 = .ok (.if_icmp .eq 16, 3) := by decide +kernel
theorem dX15_entry_103 : decode cX15_entry 103 = .ok (.aload_n 0, 1) := by decide +kernel
theorem dX15_entry_104 : decode cX15_entry 104 = .ok (.getfield 31, 3) := by decide +kernel
theorem dX15_entry_107 : decode cX15_entry 107 = .ok (.iconst 0, 1) := by decide +kernel
theorem dX15_entry_108 : decode cX15_entry 108 = .ok (.iload 6, 2) := by decide +kernel
theorem dX15_entry_110 : decode cX15_entry 110 = .ok (.invokestatic 182, 3) := by decide +kernel
theorem dX15_entry_113 : decode cX15_entry 113 = .ok (.ifCond .ne 5, 3) := by decide +kernel
theorem dX15_entry_116 : decode cX15_entry 116 = .ok (.iconst (-1), 1) := by decide +kernel
theorem dX15_entry_117 : decode cX15_entry 117 = .ok (.ireturn, 1) := by decide +kernel
theorem dX15_entry_118 : decode cX15_entry 118 = .ok (.iload_n 1, 1) := by decide +kernel
theorem dX15_entry_119 : decode cX15_entry 119 = .ok (.iconst 2, 1) := by decide +kernel
theorem dX15_entry_120 : decode cX15_entry 120 = .ok (.if_icmp .ne 18, 3) := by decide +kernel
theorem dX15_entry_123 : decode cX15_entry 123 = .ok (.aload_n 0, 1) := by decide +kernel
theorem dX15_entry_124 : decode cX15_entry 124 = .ok (.getfield 31, 3) := by decide +kernel
theorem dX15_entry_127 : decode cX15_entry 127 = .ok (.iload 4, 2) := by decide +kernel
theorem dX15_entry_129 : decode cX15_entry 129 = .ok (.iconst 1, 1) := by decide +kernel
theorem dX15_entry_130 : decode cX15_entry 130 = .ok (.iadd, 1) := by decide +kernel
theorem dX15_entry_131 : decode cX15_entry 131 = .ok (.iload_n 3, 1) := by decide +kernel
theorem dX15_entry_132 : decode cX15_entry 132 = .ok (.invokestatic 182, 3) := by decide +kernel
theorem dX15_entry_135 : decode cX15_entry 135 = .ok (.ifCond .eq 19, 3) := by decide +kernel
theorem dX15_entry_138 : decode cX15_entry 138 = .ok (.iload_n 1, 1) := by decide +kernel
theorem dX15_entry_139 : decode cX15_entry 139 = .ok (.ifCond .ne 17, 3) := by decide +kernel
theorem dX15_entry_142 : decode cX15_entry 142 = .ok (.iload_n 3, 1) := by decide +kernel
theorem dX15_entry_143 : decode cX15_entry 143 = .ok (.iload 4, 2) := by decide +kernel
theorem dX15_entry_145 : decode cX15_entry 145 = .ok (.isub, 1) := by decide +kernel
theorem dX15_entry_146 : decode cX15_entry 146 = .ok (.iconst 1, 1) := by decide +kernel
theorem dX15_entry_147 : decode cX15_entry 147 = .ok (.isub, 1) := by decide +kernel
theorem dX15_entry_148 : decode cX15_entry 148 = .ok (.sipush 700, 3) := by decide +kernel
theorem dX15_entry_151 : decode cX15_entry 151 = .ok (.if_icmp .le 5, 3) := by decide +kernel
theorem dX15_entry_154 : decode cX15_entry 154 = .ok (.iconst (-1), 1) := by decide +kernel
theorem dX15_entry_155 : decode cX15_entry 155 = .ok (.ireturn, 1) := by decide +kernel
theorem dX15_entry_156 : decode cX15_entry 156 = .ok (.aload_n 0, 1) := by decide +kernel
theorem dX15_entry_157 : decode cX15_entry 157 = .ok (.getfield 38, 3) := by decide +kernel
theorem dX15_entry_160 : decode cX15_entry 160 = .ok (.aload_n 0, 1) := by decide +kernel
theorem dX15_entry_161 : decode cX15_entry 161 = .ok (.getfield 177, 3) := by decide +kernel
theorem dX15_entry_164 : decode cX15_entry 164 = .ok (.iload_n 1, 1) := by decide +kernel
theorem dX15_entry_165 : decode cX15_entry 165 = .ok (.iastore, 1) := by decide +kernel
theorem dX15_entry_166 : decode cX15_entry 166 = .ok (.aload_n 0, 1) := by decide +kernel
theorem dX15_entry_167 : decode cX15_entry 167 = .ok (.getfield 42, 3) := by decide +kernel
theorem dX15_entry_170 : decode cX15_entry 170 = .ok (.aload_n 0, 1) := by decide +kernel
theorem dX15_entry_171 : decode cX15_entry 171 = .ok (.getfield 177, 3) := by decide +kernel
theorem dX15_entry_174 : decode cX15_entry 174 = .ok (.iload_n 2, 1) := by decide +kernel
theorem dX15_entry_175 : decode cX15_entry 175 = .ok (.iastore, 1) := by decide +kernel
theorem dX15_entry_176 : decode cX15_entry 176 = .ok (.aload_n 0, 1) := by decide +kernel
theorem dX15_entry_177 : decode cX15_entry 177 = .ok (.getfield 47, 3) := by decide +kernel
theorem dX15_entry_180 : decode cX15_entry 180 = .ok (.aload_n 0, 1) := by decide +kernel
theorem dX15_entry_181 : decode cX15_entry 181 = .ok (.getfield 177, 3) := by decide +kernel
theorem dX15_entry_184 : decode cX15_entry 184 = .ok (.aaload, 1) := by decide +kernel
theorem dX15_entry_185 : decode cX15_entry 185 = .ok (.aload_n 0, 1) := by decide +kernel
theorem dX15_entry_186 : decode cX15_entry 186 = .ok (.getfield 31, 3) := by decide +kernel
theorem dX15_entry_189 : decode cX15_entry 189 = .ok (.iconst 0, 1) := by decide +kernel
theorem dX15_entry_190 : decode cX15_entry 190 = .ok (.iload 6, 2) := by decide +kernel
theorem dX15_entry_192 : decode cX15_entry 192 = .ok (.invokevirtual 186, 3) := by decide +kernel
theorem dX15_entry_195 : decode cX15_entry 195 = .ok (.aload_n 0, 1) := by decide +kernel
theorem dX15_entry_196 : decode cX15_entry 196 = .ok (.getfield 51, 3) := by decide +kernel
theorem dX15_entry_199 : decode cX15_entry 199 = .ok (.aload_n 0, 1) := by decide +kernel
theorem dX15_entry_200 : decode cX15_entry 200 = .ok (.getfield 177, 3) := by decide +kernel
theorem dX15_entry_203 : decode cX15_entry 203 = .ok (.aaload, 1) := by decide +kernel
theorem dX15_entry_204 : decode cX15_entry 204 = .ok (.iconst 0, 1) := by decide +kernel
theorem dX15_entry_205 : decode cX15_entry 205 = .ok (.putfield 190, 3) := by decide +kernel
theorem dX15_entry_208 : decode cX15_entry 208 = .ok (.iload 5, 2) := by decide +kernel
theorem dX15_entry_210 : decode cX15_entry 210 = .ok (.ifCond .eq 24, 3) := by decide +kernel
theorem dX15_entry_213 : decode cX15_entry 213 = .ok (.aload_n 0, 1) := by decide +kernel
theorem dX15_entry_214 : decode cX15_entry 214 = .ok (.getfield 51, 3) := by decide +kernel
theorem dX15_entry_217 : decode cX15_entry 217 = .ok (.aload_n 0, 1) := by decide +kernel
theorem dX15_entry_218 : decode cX15_entry 218 = .ok (.getfield 177, 3) := by decide +kernel
theorem dX15_entry_221 : decode cX15_entry 221 = .ok (.aaload, 1) := by decide +kernel
theorem dX15_entry_222 : decode cX15_entry 222 = .ok (.aload_n 0, 1) := by decide +kernel
theorem dX15_entry_223 : decode cX15_entry 223 = .ok (.getfield 31, 3) := by decide +kernel
theorem dX15_entry_226 : decode cX15_entry 226 = .ok (.iload 4, 2) := by decide +kernel
theorem dX15_entry_228 : decode cX15_entry 228 = .ok (.iconst 1, 1) := by decide +kernel
theorem dX15_entry_229 : decode cX15_entry 229 = .ok (.iadd, 1) := by decide +kernel
theorem dX15_entry_230 : decode cX15_entry 230 = .ok (.iload_n 3, 1) := by decide +kernel
theorem dX15_entry_231 : decode cX15_entry 231 = .ok (.invokevirtual 186, 3) := by decide +kernel
theorem dX15_entry_234 : decode cX15_entry 234 = .ok (.aload_n 0, 1) := by decide +kernel
theorem dX15_entry_235 : decode cX15_entry 235 = .ok (.dup, 1) := by decide +kernel
theorem dX15_entry_236 : decode cX15_entry 236 = .ok (.getfield 177, 3) := by decide +kernel
theorem dX15_entry_239 : decode cX15_entry 239 = .ok (.iconst 1, 1) := by decide +kernel
theorem dX15_entry_240 : decode cX15_entry 240 = .ok (.iadd, 1) := by decide +kernel
theorem dX15_entry_241 : decode cX15_entry 241 = .ok (.putfield 177, 3) := by decide +kernel
theorem dX15_entry_244 : decode cX15_entry 244 = .ok (.aload_n 0, 1) := by decide +kernel
theorem dX15_entry_245 : decode cX15_entry 245 = .ok (.getfield 177, 3) := by decide +kernel
theorem dX15_entry_248 : decode cX15_entry 248 = .ok (.ireturn, 1) := by decide +kernel
theorem kt_1138 : Cond.constantLong RX15 180 4 ∈ tb := tb_at (i := 1486) (by decide +kernel) (by decide +kernel)
def UNM (f : Nat → Int32) (z : Nat) (g : Nat → Int32) (y : Nat) : Prop := y ≤ z ∧ (z = y ∨ (z ≠ y + 1 ∧ f (z - y - 1) = 46)) ∧ (∀ j, j < y → f (z - y + j) = g j)
theorem bfmo {F : Nat → va_E} {a n : Nat} {c : ClassId} {f : Nat → Int32} (hF : F a = .inl (c, n, .inl f)) (h : ∃ g : Nat → Int32, F a = .inl (c, n, .inl g) ∧ BFm g) : BFm f := by
  obtain ⟨g, h1, h2⟩ := h
  obtain rfl : g = f := by
    have e9 := h1.symm.trans hF
    simpa using e9
  exact h2
def ENM (cs : Nat → ClassId) (F : Nat → va_E) (o : Option Nat) (rm n : Nat) (f : Nat → Int32) : Prop := ∃ b r : Nat, o = some b ∧ F b = .inr (14, [.ref r, .int (nI n)]) ∧ F r = .inl (cs 17, rm, .inl f) ∧ n ≤ rm
def DM1 (cs : Nat → ClassId) (F : Nat → va_E) (x9 y9 : Int32) (o1 o2 : Option Nat) (d : ETY) : Prop := x9 = d.1 ∧ y9 = d.2.1 ∧ ENM cs F o1 60 d.2.2.1 d.2.2.2.1 ∧ ENM cs F o2 700 d.2.2.2.2.1 d.2.2.2.2.2
def DIRM (cs : Nat → ClassId) (F : Nat → va_E) (so ad na va ze : Nat) (D : Nat → ETY) : Prop := ∃ fs fd : Nat → Int32, ∃ fn fv : Nat → Option Nat, F so = .inl (cs 16, 40, .inl fs) ∧ F ad = .inl (cs 16, 40, .inl fd) ∧ F na = .inl (cs 23, 40, .inr (.inr (.inr (.inr fn)))) ∧ F va = .inl (cs 23, 40, .inr (.inr (.inr (.inr fv)))) ∧ ∀ k, k < ze → DM1 cs F (fs k) (fd k) (fn k) (fv k) (D k)
theorem ENM.fr {cs : Nat → ClassId} {ty : TyM} {gm : Nat → Nat → Nat} {L S : List Nat} {F G : Nat → va_E} {δ na k rm n : Nat} {f : Nat → Int32} {fn : Nat → Option Nat} (h : ENM cs F (fn k) rm n f) (hO : OKm cs ty gm L F) (hW : WTm ty gm L) (hL : na ∈ L) (hT : ty na = (27, δ, [40, rm])) (hn : F na = .inl (cs 23, 40, .inr (.inr (.inr (.inr fn))))) (hk : k < 40) (hR : FR ty S F G) (hS : δ + k + 100 ∉ S) : ENM cs G (fn k) rm n f := by
  obtain ⟨b, r, h1, h2, h3, h4⟩ := h
  obtain ⟨f9, g1, g2⟩ := hO.rtxj hL hT
  obtain rfl : f9 = fn := by
    have e9 := g1.symm.trans hn
    simpa using e9
  obtain ⟨b9, r9, k1, k2, k3⟩ := g2 k hk
  obtain rfl : b9 = b := Option.some.inj (k1.symm.trans h1)
  obtain ⟨z1, u1, -⟩ := hO.txt k2 k3
  have e8 := u1.symm.trans h2
  simp only [Sum.inr.injEq, Prod.mk.injEq, List.cons.injEq, Value.ref.injEq, true_and] at e8
  obtain ⟨rfl, -⟩ := e8
  obtain ⟨m1, m2, -⟩ := hW.txt k2 k3
  exact ⟨b9, r9, h1, (hR b9 (by rw [k3]; exact hS)).trans h2, (hR r9 (by rw [m2]; exact hS)).trans h3, h4⟩
theorem DIRM.fr {cs : Nat → ClassId} {ty : TyM} {gm : Nat → Nat → Nat} {L S : List Nat} {F G : Nat → va_E} {ρ so ad na va ze : Nat} {D : Nat → ETY} (h : DIRM cs F so ad na va ze D) (hO : OKm cs ty gm L F) (hW : WTm ty gm L) (hLn : na ∈ L) (hTn : ty na = (27, ρ + 4, [40, 60])) (hLv : va ∈ L) (hTv : ty va = (27, ρ + 50, [40, 700])) (hz : ze ≤ 40) (hR : FR ty S F G) (h1 : G so = F so) (h2 : G ad = F ad) (h3 : G na = F na) (h4 : G va = F va) (hS : ∀ k, k < ze → ρ + 4 + k + 100 ∉ S ∧ ρ + 50 + k + 100 ∉ S) : DIRM cs G so ad na va ze D := by
  obtain ⟨fs, fd, fn, fv, a1, a2, a3, a4, a5⟩ := h
  refine ⟨fs, fd, fn, fv, h1.trans a1, h2.trans a2, h3.trans a3, h4.trans a4, fun k hk => ?_⟩
  obtain ⟨b1, b2, b3, b4⟩ := a5 k hk
  exact ⟨b1, b2, b3.fr hO hW hLn hTn a3 (by omega) hR (hS k hk).1, b4.fr hO hW hLv hTv a4 (by omega) hR (hS k hk).2⟩
theorem DIRM.none {cs : Nat → ClassId} {F : Nat → va_E} {so ad na va : Nat} {D : Nat → ETY} {fs fd : Nat → Int32} {fn fv : Nat → Option Nat} (a1 : F so = .inl (cs 16, 40, .inl fs)) (a2 : F ad = .inl (cs 16, 40, .inl fd)) (a3 : F na = .inl (cs 23, 40, .inr (.inr (.inr (.inr fn))))) (a4 : F va = .inl (cs 23, 40, .inr (.inr (.inr (.inr fv))))) : DIRM cs F so ad na va 0 D :=
  ⟨fs, fd, fn, fv, a1, a2, a3, a4, fun k hk => absurd hk (Nat.not_lt_zero _)⟩
theorem FR.unre {ty ty2 : TyM} {h k ρ : Nat} {im im2 : List Nat} {S : List Nat} {F G : Nat → va_E} (hT : ty h = (k, ρ, im)) (he : ty2 = rtf ty h (k, ρ, im2)) (hR : FR ty2 S F G) : FR ty S F G := by
  subst he
  intro a ha
  refine hR a ?_
  by_cases c : a = h
  · subst c
    rw [rtf_self]
    rw [hT] at ha
    exact ha
  · rw [rtf_ne c]
    exact ha
theorem DIRM.less {cs : Nat → ClassId} {F : Nat → va_E} {so ad na va ze z2 : Nat} {D : Nat → ETY} (h : DIRM cs F so ad na va ze D) (hz : z2 ≤ ze) : DIRM cs F so ad na va z2 D := by
  obtain ⟨fs, fd, fn, fv, a1, a2, a3, a4, a5⟩ := h
  exact ⟨fs, fd, fn, fv, a1, a2, a3, a4, fun k hk => a5 k (by omega)⟩
theorem DIRM.same {cs : Nat → ClassId} {F : Nat → va_E} {so ad na va ze : Nat} {D : Nat → ETY} {d : ETY} (h : DIRM cs F so ad na va ze D) : DIRM cs F so ad na va ze (fun k => if k = ze then d else D k) := by
  obtain ⟨fs, fd, fn, fv, a1, a2, a3, a4, a5⟩ := h
  refine ⟨fs, fd, fn, fv, a1, a2, a3, a4, fun k hk => ?_⟩
  show DM1 cs F (fs k) (fd k) (fn k) (fv k) (if k = ze then d else D k)
  rw [if_neg (by omega)]
  exact a5 k hk
theorem DIRM.add {cs : Nat → ClassId} {ty : TyM} {gm : Nat → Nat → Nat} {L S : List Nat} {F G : Nat → va_E} {ρ so ad na va ze : Nat} {D : Nat → ETY} {d : ETY} {fs fd : Nat → Int32} {fn fv : Nat → Option Nat} (h : DIRM cs F so ad na va ze D) (hO : OKm cs ty gm L F) (hW : WTm ty gm L) (hLn : na ∈ L) (hTn : ty na = (27, ρ + 4, [40, 60])) (hLv : va ∈ L) (hTv : ty va = (27, ρ + 50, [40, 700])) (hz : ze ≤ 40) (hR : FR ty S F G) (h3 : G na = F na) (h4 : G va = F va) (hS : ∀ k, k < ze → ρ + 4 + k + 100 ∉ S ∧ ρ + 50 + k + 100 ∉ S) (a1 : F so = .inl (cs 16, 40, .inl fs)) (a2 : F ad = .inl (cs 16, 40, .inl fd)) (a3 : F na = .inl (cs 23, 40, .inr (.inr (.inr (.inr fn))))) (a4 : F va = .inl (cs 23, 40, .inr (.inr (.inr (.inr fv))))) (g1 : G so = .inl (cs 16, 40, .inl (upd fs ze d.1))) (g2 : G ad = .inl (cs 16, 40, .inl (upd fd ze d.2.1))) (e1 : ENM cs G (fn ze) 60 d.2.2.1 d.2.2.2.1) (e2 : ENM cs G (fv ze) 700 d.2.2.2.2.1 d.2.2.2.2.2) : DIRM cs G so ad na va (ze + 1) (fun k => if k = ze then d else D k) := by
  obtain ⟨fs9, fd9, fn9, fv9, b1, b2, b3, b4, b5⟩ := h
  obtain rfl : fs = fs9 := by
    have e9 := a1.symm.trans b1
    simpa using e9
  obtain rfl : fd = fd9 := by
    have e9 := a2.symm.trans b2
    simpa using e9
  obtain rfl : fn = fn9 := by
    have e9 := a3.symm.trans b3
    simpa using e9
  obtain rfl : fv = fv9 := by
    have e9 := a4.symm.trans b4
    simpa using e9
  refine ⟨upd fs ze d.1, upd fd ze d.2.1, fn, fv, g1, g2, h3.trans a3, h4.trans a4, fun k hk => ?_⟩
  show DM1 cs G (upd fs ze d.1 k) (upd fd ze d.2.1 k) (fn k) (fv k) (if k = ze then d else D k)
  by_cases c : k = ze
  · rw [if_pos c, c]
    exact ⟨if_pos rfl, if_pos rfl, e1, e2⟩
  · rw [if_neg c]
    obtain ⟨c1, c2, c3, c4⟩ := b5 k (by omega)
    exact ⟨(if_neg c).trans c1, (if_neg c).trans c2, c3.fr hO hW hLn hTn a3 (by omega) hR (hS k (by omega)).1, c4.fr hO hW hLv hTv a4 (by omega) hR (hS k (by omega)).2⟩
theorem enx3 {x1 x2 : Int32} {f fc fd : Nat → Int32} {z k kn : Nat} (hk : kn = k) (h2 : x1 = 0 ∨ x1 = 2) (hf : FST f 32 z k) (hn : NM f 0 kn = true) (hv : ISV x1 f z k) (h1 : ∀ j, j < kn - 0 → fc j = f (0 + j)) (h3 : ∀ j, j < z - (k + 1) → fd j = f (k + 1 + j)) : ENX x1 x2 f z (x1, x2, kn - 0, fc, z - (k + 1), fd) := by
  subst hk
  exact enx2 h2 hf hn hv h1 h3
theorem enx4 {x1 x2 : Int32} {f fc fd : Nat → Int32} {z kn : Nat} (hk : kn = z) (h2 : ¬ (x1 = 0 ∨ x1 = 2)) (hn : NM f 0 kn = true) (h1 : ∀ j, j < kn - 0 → fc j = f (0 + j)) : ENX x1 x2 f z (x1, x2, kn - 0, fc, 0, fd) := by
  subst hk
  exact enx1 h2 hn h1
set_option maxHeartbeats 4000000 in
set_option maxRecDepth 100000 in
theorem s_X14_add_e (l : Launch) (dC : Nat → ClassId) (dI : Nat → Nat → Nat) (cs : Nat → ClassId) (ty : TyM) (gm : Nat → Nat → Nat) (L : List Nat) (sz : Nat) (F : Nat → va_E) (h0 : Nat) (ρ : Nat) (r0 : Nat) (n : Nat) (g1 : Nat) (σ : Nat) (n1 : Nat) (a : Nat) (tt : Nat) (gf : Nat → Int32) (hW : WTm ty gm L) (hL_h0 : h0 ∈ L) (hT_h0 : ty h0 = (14, ρ, [r0, n])) (hL_g1 : g1 ∈ L) (hT_g1 : ty g1 = (17, σ, [n1])) (hF0 : F h0 = .inr (14, [.ref r0, .int (nI 0)])) (hFg : F g1 = .inl (cs 17, n1, .inl gf)) (hat : a ≤ tt) (htn : tt ≤ n1) (hfit : tt - a ≤ n) : Met l yX14_add_ (.code yX14_add_ cX14_add_ 4 none :: tb) ({ frames := 1, cells := 0, slots := 0, locals := 48 }) (va_Pc [.ref h0, .ref g1, .int (nI a), .int (nI tt)] (PTm (dC, dI) cs ty gm L F sz)) (va_Qv (fun _ : Unit => True) (fun _ T9 => ∃ F2 : Nat → va_E, ∃ fc : Nat → Int32, QTm (dC, dI) cs ty gm L [ρ] F F2 (va_A (va_pl L F) sz) T9 ∧ F2 h0 = .inr (14, [.ref r0, .int (nI (0 + (tt - a)))]) ∧ F2 r0 = .inl (cs 17, n, .inl fc) ∧ (∀ j, j < tt - a → fc j = gf (a + j))) (va_A (va_pl L F) sz)) 0 0 (va_A (va_pl L F) sz) := by
  refine Met.ofW (cc := cX14_add_) (maxL := 4) (ret := none) (by decide) rfl ?_
  intro p e s m args below meth c s₁ B hml hv
  obtain ⟨rfl, hsz, hP, hK, hD0, hE, hO⟩ := hv
  have hx := B.exec
  have hb := B.bytes
  have hr := B.returns
  have hts : ∀ w ∈ tb, w.before _ s = true := fun w h => atoms_spec (ws := .code yX14_add_ cX14_add_ 4 none :: tb) B.pre w (List.mem_cons_of_mem _ h)
  have hown : s.vm.findClass RX14 = some m.cls := findClass_of_methodNamed B.named
  have hlocks := B.notSynchronized
  subst hsz
  have hD := hD0.self (sz := s.heap.size)
  generalize hAe : va_A (va_pl L F) s.heap.size = A at hD ⊢
  have hA : ∀ q : Nat, s.heap.size ≤ q → A q := fun q h => by rw [← hAe]; exact Or.inr h
  have hS : va_S A s.heap s.heap [] := va_S.rf
  have hR : FR ty [ρ] F F := FR.refl
  have hl := lv_entry ([.ref h0, .ref g1, .int (nI a), .int (nI tt)]) (n := 4) (Nat.le_of_ble_eq_true rfl)
  rw [lg_entry_eq]
  generalize (lg_sl ([.ref h0, .ref g1, .int (nI a), .int (nI tt)]) ++ List.replicate (4 - (lg_sl ([.ref h0, .ref g1, .int (nI a), .int (nI tt)])).length) Slot.unset).toArray = ls at hl ⊢
  have hl : lv_has ls 4 [(0, .ref h0), (1, .ref g1), (2, .int (nI a)), (3, .int (nI tt))] := hl
  have hBg := bfmo hFg (hO.octs hL_g1 hT_g1)
  refine lv_aload_n hx hb dX14_add__0 rfl (lv_at hl 1 rfl) ?_
  refine lv_iload_n hx hb dX14_add__1 rfl (lv_at hl 2 rfl) ?_
  refine lv_aload_n hx hb dX14_add__2 rfl (lv_at hl 0 rfl) ?_
  obtain ⟨hi_1, ht_2, hq_3⟩ := hW.txt hL_h0 hT_h0
  refine pg_get (ci := 14) (v := .ref r0) (C := RX14) (T := TX14) (N := 2) hx hb hts it_14 hown hK hP hL_h0 hF0 rfl 0 (by decide) (hts _ kt_672) (fun _ h9 => h9) rfl dX14_add__3 ?_
  refine lv_aload_n hx hb dX14_add__6 rfl (lv_at hl 0 rfl) ?_
  refine pg_get (ci := 14) (v := .int (nI 0)) (C := RX14) (T := TX14) (N := 2) hx hb hts it_14 hown hK hP hL_h0 hF0 rfl 1 (by decide) (hts _ kt_673) (fun _ h9 => h9) rfl dX14_add__7 ?_
  refine lv_iload_n hx hb dX14_add__10 rfl (lv_at hl 3 rfl) ?_
  refine lv_iload_n hx hb dX14_add__11 rfl (lv_at hl 2 rfl) ?_
  refine lv_isub hx hb dX14_add__12 ?_
  refine lv_topi (fun x_4 ex_4 => ?_)
  obtain rfl : x_4 = (nI (tt - a)) := ex_4.trans (pk_sub (a := tt) (b := a) (by omega))
  obtain ⟨hq_5, hq_6⟩ := hW.octs hL_g1 hT_g1
  obtain ⟨hq_7, hq_8⟩ := hW.octs hi_1 ht_2
  obtain ⟨f_9, hF_10, hq_11⟩ := hO.octs hi_1 ht_2
  refine pg_copyi hx hb (by rw [hml]; exact hl.1.symm) hown (hts _ kt_674) (hts _ kt_29) (hts _ kt_30) (hts _ kt_31) hK hP hD hS hL_g1 hi_1 1 1 hFg hF_10 rfl rfl rfl (nI_pos (by omega)) (nI_pos (by omega)) (nI_pos (by omega)) (by rw [nI_clamp (by omega), nI_clamp (by omega)]; omega) (by rw [nI_clamp (by omega), nI_clamp (by omega)]; omega) (fun _ _ => hBg _) (Nat.le_of_ble_eq_true rfl) (by decide) dX14_add__13 (fun H locs hP hD hS => ?_)
  obtain ⟨F_12, he_13, hP, hD, hO, hR⟩ : ∃ G, G = va_up F r0 (.inl (cs 17, n, .inl (va_cpy gf f_9 ((nI a)).toNatClampNeg ((nI 0)).toNatClampNeg ((nI (tt - a))).toNatClampNeg))) ∧ va_P (dC, dI) vwCl (va_pl L G) H ∧ va_D A (va_pl L G) ∧ OKm cs ty gm L G ∧ FR ty [ρ] F G := ⟨_, rfl, hP, hD, hO.up (shm.octs ht_2 ⟨_, rfl, bfm_cpy hBg hq_11 _ _ _⟩), hR.up ht_2 (by simp)⟩
  have hF_14 : F_12 r0 = .inl (cs 17, n, .inl (va_cpy gf f_9 ((nI a)).toNatClampNeg ((nI 0)).toNatClampNeg ((nI (tt - a))).toNatClampNeg)) := by rw [he_13]; exact up_self
  have hF_15 : F_12 h0 = .inr (14, [.ref r0, .int (nI 0)]) := by rw [he_13, up_ne (ne_ty hT_h0 ht_2 (by simp))]; exact hF0
  obtain ⟨f_16, hF_14, hq_17, hfe_18⟩ : ∃ f : Nat → Int32, F_12 r0 = .inl (cs 17, n, .inl f) ∧ BFm f ∧ f = va_cpy gf f_9 ((nI a)).toNatClampNeg ((nI 0)).toNatClampNeg ((nI (tt - a))).toNatClampNeg := ⟨_, hF_14, bfm_cpy hBg hq_11 _ _ _, rfl⟩
  refine lv_aload_n hx hb dX14_add__16 rfl (lv_at hl 0 rfl) ?_
  refine lv_dup hx hb dX14_add__17 rfl ?_
  refine pg_get (ci := 14) (v := .int (nI 0)) (C := RX14) (T := TX14) (N := 2) hx hb hts it_14 hown hK hP hL_h0 hF_15 rfl 1 (by decide) (hts _ kt_673) (fun _ h9 => h9) rfl dX14_add__18 ?_
  refine lv_iload_n hx hb dX14_add__21 rfl (lv_at hl 3 rfl) ?_
  refine lv_iload_n hx hb dX14_add__22 rfl (lv_at hl 2 rfl) ?_
  refine lv_isub hx hb dX14_add__23 ?_
  refine lv_topi (fun x_19 ex_19 => ?_)
  obtain rfl : x_19 = (nI (tt - a)) := ex_19.trans (pk_sub (a := tt) (b := a) (by omega))
  refine lv_iadd hx hb dX14_add__24 ?_
  refine lv_topi (fun x_20 ex_20 => ?_)
  obtain rfl : x_20 = (nI (0 + (tt - a))) := ex_20.trans (nI_add 0 (tt - a))
  refine pg_put (ci := 14) (v := .int (nI (0 + (tt - a)))) (ty := .int) (C := RX14) (T := TX14) (N := 2) hx hb hts it_14 tyX14 tyX14_ok nmX14 hown hK hP hD hS hL_h0 hF_15 rfl 1 (by decide) (hts _ kt_673) (fun _ h9 => h9) rfl (by decide +kernel) (rfl) (rfl) (Nat.le_of_ble_eq_true rfl) dX14_add__25 (fun H locs hP hD hS => ?_)
  obtain ⟨F_21, he_22, hP, hD, hO, hR⟩ : ∃ G, G = va_up F_12 h0 (.inr (14, [.ref r0, .int (nI (0 + (tt - a)))])) ∧ va_P (dC, dI) vwCl (va_pl L G) H ∧ va_D A (va_pl L G) ∧ OKm cs ty gm L G ∧ FR ty [ρ] F G := ⟨_, rfl, hP, hD, hO.up (shm.txt hT_h0 ⟨(0 + (tt - a)), rfl, (by first | omega | assumption | exact Or.inl rfl | exact Or.inr rfl)⟩), hR.up hT_h0 (by simp)⟩
  have hF_23 : F_21 h0 = .inr (14, [.ref r0, .int (nI (0 + (tt - a)))]) := by rw [he_22]; exact up_self
  have hF_24 : F_21 r0 = .inl (cs 17, n, .inl f_16) := by rw [he_22, up_ne (ne_ty ht_2 hT_h0 (by simp))]; exact hF_14
  refine W.widen (k := 0) (n := 0) (by omega) (by omega) ?_
  exact W.vret hx hb hr (fun t ht hWm => ⟨⟨(), rfl, trivial, ⟨F_21, f_16, QTm.mk ht hP hD hO hR, hF_23, hF_24, (by rw [hfe_18]; exact cpy_at (by omega) (by omega))⟩⟩, hS.F ht⟩) hS.2.2 dX14_add__28
set_option maxHeartbeats 4000000 in
set_option maxRecDepth 100000 in
theorem s_X14_set_e (l : Launch) (dC : Nat → ClassId) (dI : Nat → Nat → Nat) (cs : Nat → ClassId) (ty : TyM) (gm : Nat → Nat → Nat) (L : List Nat) (sz : Nat) (F : Nat → va_E) (h0 : Nat) (ρ : Nat) (r0 : Nat) (n : Nat) (g1 : Nat) (σ : Nat) (n1 : Nat) (a : Nat) (tt : Nat) (gf : Nat → Int32) (hW : WTm ty gm L) (hL_h0 : h0 ∈ L) (hT_h0 : ty h0 = (14, ρ, [r0, n])) (hL_g1 : g1 ∈ L) (hT_g1 : ty g1 = (17, σ, [n1])) (hFg : F g1 = .inl (cs 17, n1, .inl gf)) (hat : a ≤ tt) (htn : tt ≤ n1) (hfit : tt - a ≤ n) : Met l yX14_set (.code yX14_set cX14_set 4 none :: tb) ({ frames := 2, cells := 0, slots := 0, locals := 71 }) (va_Pc [.ref h0, .ref g1, .int (nI a), .int (nI tt)] (PTm (dC, dI) cs ty gm L F sz)) (va_Qv (fun _ : Unit => True) (fun _ T9 => ∃ F2 : Nat → va_E, ∃ fc : Nat → Int32, QTm (dC, dI) cs ty gm L [ρ] F F2 (va_A (va_pl L F) sz) T9 ∧ F2 h0 = .inr (14, [.ref r0, .int (nI (tt - a))]) ∧ F2 r0 = .inl (cs 17, n, .inl fc) ∧ (∀ j, j < tt - a → fc j = gf (a + j))) (va_A (va_pl L F) sz)) 0 0 (va_A (va_pl L F) sz) := by
  refine Met.ofW (cc := cX14_set) (maxL := 4) (ret := none) (by decide) rfl ?_
  intro p e s m args below meth c s₁ B hml hv
  obtain ⟨rfl, hsz, hP, hK, hD0, hE, hO⟩ := hv
  have hx := B.exec
  have hb := B.bytes
  have hr := B.returns
  have hts : ∀ w ∈ tb, w.before _ s = true := fun w h => atoms_spec (ws := .code yX14_set cX14_set 4 none :: tb) B.pre w (List.mem_cons_of_mem _ h)
  have hown : s.vm.findClass RX14 = some m.cls := findClass_of_methodNamed B.named
  have hlocks := B.notSynchronized
  subst hsz
  have hD := hD0.self (sz := s.heap.size)
  generalize hAe : va_A (va_pl L F) s.heap.size = A at hD ⊢
  have hA : ∀ q : Nat, s.heap.size ≤ q → A q := fun q h => by rw [← hAe]; exact Or.inr h
  have hS : va_S A s.heap s.heap [] := va_S.rf
  have hR : FR ty [ρ] F F := FR.refl
  have hl := lv_entry ([.ref h0, .ref g1, .int (nI a), .int (nI tt)]) (n := 4) (Nat.le_of_ble_eq_true rfl)
  rw [lg_entry_eq]
  generalize (lg_sl ([.ref h0, .ref g1, .int (nI a), .int (nI tt)]) ++ List.replicate (4 - (lg_sl ([.ref h0, .ref g1, .int (nI a), .int (nI tt)])).length) Slot.unset).toArray = ls at hl ⊢
  have hl : lv_has ls 4 [(0, .ref h0), (1, .ref g1), (2, .int (nI a)), (3, .int (nI tt))] := hl
  refine lv_aload_n hx hb dX14_set_0 rfl (lv_at hl 0 rfl) ?_
  refine lv_iconst (v := 0) hx hb dX14_set_1 (by decide) ?_
  obtain ⟨hi_1, ht_2, hq_3⟩ := hW.txt hL_h0 hT_h0
  obtain ⟨z_4, hF_5, hq_6⟩ := hO.txt hL_h0 hT_h0
  refine pg_put (ci := 14) (v := .int 0) (ty := .int) (C := RX14) (T := TX14) (N := 2) hx hb hts it_14 tyX14 tyX14_ok nmX14 hown hK hP hD hS hL_h0 hF_5 rfl 1 (by decide) (hts _ kt_673) (fun _ h9 => h9) rfl (by decide +kernel) (rfl) (rfl) (Nat.le_of_ble_eq_true rfl) dX14_set_2 (fun H locs hP hD hS => ?_)
  obtain ⟨F_7, he_8, hP, hD, hO, hR⟩ : ∃ G, G = va_up F h0 (.inr (14, [.ref r0, .int 0])) ∧ va_P (dC, dI) vwCl (va_pl L G) H ∧ va_D A (va_pl L G) ∧ OKm cs ty gm L G ∧ FR ty [ρ] F G := ⟨_, rfl, hP, hD, hO.up (shm.txt hT_h0 ⟨0, rfl, (by first | omega | assumption | exact Or.inl rfl | exact Or.inr rfl)⟩), hR.up hT_h0 (by simp)⟩
  have hF_9 : F_7 h0 = .inr (14, [.ref r0, .int 0]) := by rw [he_8]; exact up_self
  have hF_10 : F_7 g1 = .inl (cs 17, n1, .inl gf) := by rw [he_8, up_ne (ne_ty hT_g1 hT_h0 (by simp))]; exact hFg
  refine lv_aload_n hx hb dX14_set_5 rfl (lv_at hl 0 rfl) ?_
  refine lv_aload_n hx hb dX14_set_6 rfl (lv_at hl 1 rfl) ?_
  refine lv_iload_n hx hb dX14_set_7 rfl (lv_at hl 2 rfl) ?_
  refine lv_iload_n hx hb dX14_set_8 rfl (lv_at hl 3 rfl) ?_
  obtain ⟨hq_11, hq_12⟩ := hW.octs hL_g1 hT_g1
  have hFc := pg_free hD hS hA
  refine va_callv (va_runV (As := [.ref g1, .int (nI a), .int (nI tt)]) (rest := []) ⟨hx, hb, hml, hown, hts⟩ (s_X14_add_e l dC dI cs ty gm L H.size F_7 h0 ρ r0 n g1 σ n1 a tt gf hW hL_h0 hT_h0 hL_g1 hT_g1 hF_9 hF_10 (hat) (htn) (hfit)) ⟨callB_of 3 hts (gi kt_675) rfl rfl rfl (hts _ kt_676) (hts _ kt_677) (by decide +kernel) ⟨Nat.le_of_ble_eq_true rfl, Nat.le_of_ble_eq_true rfl⟩, (hts _ kt_678), (hts _ kt_679)⟩ ⟨fun a U g mk q => ⟨q.1, PTm.calling q.2⟩, pg_recv hK hP hL_h0 hF_9 (q := (RX14, TX14, 2)) rfl, fun U hU hWm => ⟨rfl, PTm.mk hU hWm hP hK hD hE hO⟩⟩ rfl rfl hl.1 rfl (lv_room (Nat.le_of_ble_eq_true rfl)) dX14_set_9 ⟨by show _ + 0 ≤ 0; omega, by show _ + 0 ≤ 0; omega⟩) hS (fun q _ h => hFc q h) hFc (fun u t H1 locs ht hvm hw hB hz1 hk1 hS => ?_)
  obtain ⟨F_14, fc_15, hB1, hq_16, hq_17, hq_18⟩ := hB
  obtain ⟨hP, hD, hO, hR⟩ := QTm.back hB1 ht hFc hR (fun q h => by simp only [List.mem_cons, List.not_mem_nil, or_false] at h ⊢; omega)
  generalize H1 = H at hP hS ⊢
  refine W.widen (k := 0) (n := 0) (by omega) (by omega) ?_
  exact W.vret hx hb hr (fun t ht hWm => ⟨⟨(), rfl, trivial, ⟨F_14, fc_15, QTm.mk ht hP hD hO hR, (by rw [hq_16, Nat.zero_add]), hq_17, hq_18⟩⟩, hS.F ht⟩) hS.2.2 dX14_set_12
set_option maxHeartbeats 4000000 in
set_option maxRecDepth 100000 in
theorem s_X14_isUnder_e (l : Launch) (dC : Nat → ClassId) (dI : Nat → Nat → Nat) (cs : Nat → ClassId) (ty : TyM) (gm : Nat → Nat → Nat) (L : List Nat) (sz : Nat) (F : Nat → va_E) (h0 : Nat) (ρ : Nat) (r0 : Nat) (n : Nat) (g1 : Nat) (σ : Nat) (r1 : Nat) (n1 : Nat) (z : Nat) (y : Nat) (gf : Nat → Int32) (hf : Nat → Int32) (hW : WTm ty gm L) (hL_h0 : h0 ∈ L) (hT_h0 : ty h0 = (14, ρ, [r0, n])) (hL_g1 : g1 ∈ L) (hT_g1 : ty g1 = (14, σ, [r1, n1])) (hF0 : F h0 = .inr (14, [.ref r0, .int (nI z)])) (hFr0 : F r0 = .inl (cs 17, n, .inl gf)) (hF1 : F g1 = .inr (14, [.ref r1, .int (nI y)])) (hFr1 : F r1 = .inl (cs 17, n1, .inl hf)) (hzn : z ≤ n) (hy1 : y ≤ n1) : Met l yX14_isUnder (.code yX14_isUnder cX14_isUnder 3 (some .boolean) :: tb) ({ frames := 0, cells := 0, slots := 0, locals := 0 }) (va_Pc [.ref h0, .ref g1] (PTm (dC, dI) cs ty gm L F sz)) (va_Qi (fun (r : Int32) (_ : Unit) => (r = 1 ∧ UNM gf z hf y) ∨ (r = 0 ∧ ¬ UNM gf z hf y)) (fun _ T9 => ∃ F2 : Nat → va_E, QTm (dC, dI) cs ty gm L [] F F2 (va_A (va_pl L F) sz) T9) (va_A (va_pl L F) sz)) 0 0 (va_A (va_pl L F) sz) := by
  refine Met.ofW (cc := cX14_isUnder) (maxL := 3) (ret := (some .boolean)) (by decide) rfl ?_
  intro p e s m args below meth c s₁ B hml hv
  obtain ⟨rfl, hsz, hP, hK, hD0, hE, hO⟩ := hv
  have hx := B.exec
  have hb := B.bytes
  have hr := B.returns
  have hts : ∀ w ∈ tb, w.before _ s = true := fun w h => atoms_spec (ws := .code yX14_isUnder cX14_isUnder 3 (some .boolean) :: tb) B.pre w (List.mem_cons_of_mem _ h)
  have hown : s.vm.findClass RX14 = some m.cls := findClass_of_methodNamed B.named
  have hlocks := B.notSynchronized
  subst hsz
  have hD := hD0.self (sz := s.heap.size)
  generalize hAe : va_A (va_pl L F) s.heap.size = A at hD ⊢
  have hA : ∀ q : Nat, s.heap.size ≤ q → A q := fun q h => by rw [← hAe]; exact Or.inr h
  have hS : va_S A s.heap s.heap [] := va_S.rf
  have hR : FR ty [] F F := FR.refl
  have hl := lv_entry ([.ref h0, .ref g1]) (n := 3) (Nat.le_of_ble_eq_true rfl)
  rw [lg_entry_eq]
  generalize (lg_sl ([.ref h0, .ref g1]) ++ List.replicate (3 - (lg_sl ([.ref h0, .ref g1])).length) Slot.unset).toArray = ls at hl ⊢
  have hl : lv_has ls 3 [(0, .ref h0), (1, .ref g1)] := hl
  obtain ⟨hi_1, ht_2, hq_3⟩ := hW.txt hL_h0 hT_h0
  obtain ⟨hi_4, ht_5, hq_6⟩ := hW.txt hL_g1 hT_g1
  refine lv_aload_n hx hb dX14_isUnder_0 rfl (lv_at hl 0 rfl) ?_
  refine pg_get (ci := 14) (v := .int (nI z)) (C := RX14) (T := TX14) (N := 2) hx hb hts it_14 hown hK hP hL_h0 hF0 rfl 1 (by decide) (hts _ kt_673) (fun _ h9 => h9) rfl dX14_isUnder_1 ?_
  refine lv_aload_n hx hb dX14_isUnder_4 rfl (lv_at hl 1 rfl) ?_
  refine pg_get (ci := 14) (v := .int (nI y)) (C := RX14) (T := TX14) (N := 2) hx hb hts it_14 hown hK hP hL_g1 hF1 rfl 1 (by decide) (hts _ kt_673) (fun _ h9 => h9) rfl dX14_isUnder_5 ?_
  refine lv_icmp_lt (tgt := 56) hx hb dX14_isUnder_8 (by decide) (fun c_7 => ?_) (fun c_7 => ?_)
  ·
    have hi_8 : z < y := ltN (N := y) (Int32.not_le.mpr c_7)
    refine lv_iconst (v := 0) hx hb dX14_isUnder_56 (by decide) ?_
    refine W.widen (k := 0) (n := 0) (by omega) (by omega) ?_
    exact W.zret (v := 0) (ty := .boolean) hx hb hr (by decide) (fun t ht hWm => ⟨⟨0, (), rfl, (Or.inr ⟨rfl, fun q => absurd q.1 (by omega)⟩), ⟨F, QTm.mk ht hP hD hO hR⟩⟩, hS.F ht⟩) hS.2.2 dX14_isUnder_57
  ·
    have hi_9 : y ≤ z := leN (N := y) (Int32.not_lt.mp c_7)
    refine W.widen (k := 0) (n := 0) (by omega) (by omega) ?_
    refine pl_cutm (σ := Unit) A (dC, dI) cs ty gm L [] F 58 3 (fun u0 => [(0, .ref h0), (1, .ref g1)]) (fun u0 => []) (fun u0 _ => y ≤ z ∧ (z = y ∨ (z ≠ y + 1 ∧ gf (z - y - 1) = 46))) ?_ (fun jn_10 => ?_)
    ·
      rintro u0 F_11 hv_12 hO hR H locs hP hD hS ls hl
      have hl : lv_has ls 3 [(0, .ref h0), (1, .ref g1)] := hl
      have hv_12 : y ≤ z ∧ (z = y ∨ (z ≠ y + 1 ∧ gf (z - y - 1) = 46)) := hv_12
      refine W.eq (g2 := F0 m 58 ls []) rfl ?_
      obtain rfl : F = F_11 := (funext (fun a => hR a List.not_mem_nil)).symm
      obtain ⟨hu1, hu2⟩ := id hv_12
      refine lv_iconst (v := 0) hx hb dX14_isUnder_58 (by decide) ?_
      refine lv_istore_n (lv' := [(2, .int 0), (0, .ref h0), (1, .ref g1)]) hx hb dX14_isUnder_59 rfl hl (by decide) rfl (fun ls hl => ?_)
      refine W.widen (k := 0) (n := 0) (by omega) (by omega) ?_
      refine pl_loopm (σ := Nat) A (dC, dI) cs ty gm L [] F 60 3 (fun j => [(2, .int (nI j)), (0, .ref h0), (1, .ref g1)]) (fun j => []) (fun j _ => j ≤ y ∧ (∀ i, i < j → gf (z - y + i) = hf i)) (fun j => y - j) ?_ 0 F (⟨by omega, fun i hi => absurd hi (Nat.not_lt_zero _)⟩) hO hR _ _ hP hD hS ls (lv_sub hl [0, 1, 2] rfl)
      rintro j F_13 hv_14 hO hR ih_15 H locs hP hD hS ls hl
      have hl : lv_has ls 3 [(2, .int (nI j)), (0, .ref h0), (1, .ref g1)] := hl
      have hv_14 : j ≤ y ∧ (∀ i, i < j → gf (z - y + i) = hf i) := hv_14
      refine W.eq (g2 := F0 m 60 ls []) rfl ?_
      obtain rfl : F = F_13 := (funext (fun a => hR a List.not_mem_nil)).symm
      obtain ⟨hv1, hv2⟩ := id hv_14
      refine lv_iload_n hx hb dX14_isUnder_60 rfl (lv_at hl 0 rfl) ?_
      refine lv_aload_n hx hb dX14_isUnder_61 rfl (lv_at hl 2 rfl) ?_
      refine pg_get (ci := 14) (v := .int (nI y)) (C := RX14) (T := TX14) (N := 2) hx hb hts it_14 hown hK hP hL_g1 hF1 rfl 1 (by decide) (hts _ kt_673) (fun _ h9 => h9) rfl dX14_isUnder_62 ?_
      refine lv_icmp_ge (tgt := 101) hx hb dX14_isUnder_65 (by decide) (fun c_16 => ?_) (fun c_16 => ?_)
      ·
        have hi_17 : y ≤ j := leN (N := y) c_16
        refine lv_iconst (v := 1) hx hb dX14_isUnder_101 (by decide) ?_
        refine W.widen (k := 0) (n := 0) (by omega) (by omega) ?_
        exact W.zret (v := 1) (ty := .boolean) hx hb hr (by decide) (fun t ht hWm => ⟨⟨1, (), rfl, (Or.inl ⟨rfl, hu1, hu2, fun i hi => hv2 i (by omega)⟩), ⟨F, QTm.mk ht hP hD hO hR⟩⟩, hS.F ht⟩) hS.2.2 dX14_isUnder_102
      ·
        have hi_18 : j < y := ltN (N := y) c_16
        refine lv_aload_n hx hb dX14_isUnder_68 rfl (lv_at hl 1 rfl) ?_
        refine pg_get (ci := 14) (v := .ref r0) (C := RX14) (T := TX14) (N := 2) hx hb hts it_14 hown hK hP hL_h0 hF0 rfl 0 (by decide) (hts _ kt_672) (fun _ h9 => h9) rfl dX14_isUnder_69 ?_
        refine lv_aload_n hx hb dX14_isUnder_72 rfl (lv_at hl 1 rfl) ?_
        refine pg_get (ci := 14) (v := .int (nI z)) (C := RX14) (T := TX14) (N := 2) hx hb hts it_14 hown hK hP hL_h0 hF0 rfl 1 (by decide) (hts _ kt_673) (fun _ h9 => h9) rfl dX14_isUnder_73 ?_
        refine lv_aload_n hx hb dX14_isUnder_76 rfl (lv_at hl 2 rfl) ?_
        refine pg_get (ci := 14) (v := .int (nI y)) (C := RX14) (T := TX14) (N := 2) hx hb hts it_14 hown hK hP hL_g1 hF1 rfl 1 (by decide) (hts _ kt_673) (fun _ h9 => h9) rfl dX14_isUnder_77 ?_
        refine lv_isub hx hb dX14_isUnder_80 ?_
        refine lv_topi (fun x_19 ex_19 => ?_)
        obtain rfl : x_19 = (nI (z - y)) := ex_19.trans (pk_sub (a := z) (b := y) (by omega))
        refine lv_iload_n hx hb dX14_isUnder_81 rfl (lv_at hl 0 rfl) ?_
        refine lv_iadd hx hb dX14_isUnder_82 ?_
        refine lv_topi (fun x_20 ex_20 => ?_)
        obtain rfl : x_20 = (nI ((z - y) + j)) := ex_20.trans (nI_add (z - y) j)
        obtain ⟨hq_21, hq_22⟩ := hW.octs hi_1 ht_2
        refine pg_bald hx hb hK hP hi_1 1 hFr0 rfl (vp_in_nI (by omega) (by omega)) dX14_isUnder_83 ?_
        refine lv_topi (fun x_23 ex_23 => ?_)
        obtain rfl : x_23 = gf ((z - y) + j) := ex_23.trans (congrArg gf (show ((nI ((z - y) + j)) : Int32).toNatClampNeg = ((z - y) + j) from nI_clamp (by omega)))
        refine lv_aload_n hx hb dX14_isUnder_84 rfl (lv_at hl 2 rfl) ?_
        refine pg_get (ci := 14) (v := .ref r1) (C := RX14) (T := TX14) (N := 2) hx hb hts it_14 hown hK hP hL_g1 hF1 rfl 0 (by decide) (hts _ kt_672) (fun _ h9 => h9) rfl dX14_isUnder_85 ?_
        refine lv_iload_n hx hb dX14_isUnder_88 rfl (lv_at hl 0 rfl) ?_
        obtain ⟨hq_24, hq_25⟩ := hW.octs hi_4 ht_5
        refine pg_bald hx hb hK hP hi_4 1 hFr1 rfl (vp_in_nI (by omega) (by omega)) dX14_isUnder_89 ?_
        refine lv_topi (fun x_26 ex_26 => ?_)
        obtain rfl : x_26 = hf j := ex_26.trans (congrArg hf (show ((nI j) : Int32).toNatClampNeg = j from nI_clamp (by omega)))
        refine lv_icmp_eq (tgt := 95) hx hb dX14_isUnder_90 (by decide) (fun c_27 => ?_) (fun c_27 => ?_)
        ·
          refine lv_iinc (v := (nI (j + 1))) (lv' := [(2, .int (nI (j + 1))), (0, .ref h0), (1, .ref g1)]) hx hb dX14_isUnder_95 hl (k := 0) rfl (nI_1 _) (by decide) rfl (fun ls hl => ?_)
          refine lv_goto (tgt := 60) hx hb dX14_isUnder_98 (by decide) ?_
          refine W.widen (k := 0) (n := 0) (by omega) (by omega) ?_
          exact ih_15 (j + 1) F (⟨by omega, fun i hi => by rcases Nat.lt_or_ge i j with q | q; exact hv2 i q; rw [show i = j by omega]; exact c_27⟩) (by show y - (j + 1) < y - j; omega) hO hR _ _ hP hD hS ls (lv_sub hl [0, 1, 2] rfl)
        ·
          refine lv_iconst (v := 0) hx hb dX14_isUnder_93 (by decide) ?_
          refine W.widen (k := 0) (n := 0) (by omega) (by omega) ?_
          exact W.zret (v := 0) (ty := .boolean) hx hb hr (by decide) (fun t ht hWm => ⟨⟨0, (), rfl, (Or.inr ⟨rfl, fun q => c_27 (q.2.2 j (by omega))⟩), ⟨F, QTm.mk ht hP hD hO hR⟩⟩, hS.F ht⟩) hS.2.2 dX14_isUnder_94
    ·
      refine lv_aload_n hx hb dX14_isUnder_11 rfl (lv_at hl 0 rfl) ?_
      refine pg_get (ci := 14) (v := .int (nI z)) (C := RX14) (T := TX14) (N := 2) hx hb hts it_14 hown hK hP hL_h0 hF0 rfl 1 (by decide) (hts _ kt_673) (fun _ h9 => h9) rfl dX14_isUnder_12 ?_
      refine lv_aload_n hx hb dX14_isUnder_15 rfl (lv_at hl 1 rfl) ?_
      refine pg_get (ci := 14) (v := .int (nI y)) (C := RX14) (T := TX14) (N := 2) hx hb hts it_14 hown hK hP hL_g1 hF1 rfl 1 (by decide) (hts _ kt_673) (fun _ h9 => h9) rfl dX14_isUnder_16 ?_
      refine lv_icmp_le (tgt := 58) hx hb dX14_isUnder_19 (by decide) (fun c_28 => ?_) (fun c_28 => ?_)
      ·
        have hi_29 : z ≤ y := (nI_leI (a := z) (b := y) (by omega) (by omega)).mp c_28
        refine W.widen (k := 0) (n := 0) (by omega) (by omega) ?_
        exact jn_10 () F (⟨by omega, Or.inl (by omega)⟩) hO hR _ _ hP hD hS ls (lv_sub hl [0, 1] rfl)
      ·
        have hi_30 : y < z := Nat.not_le.mp (fun q => c_28 ((nI_leI (a := z) (b := y) (by omega) (by omega)).mpr q))
        refine lv_aload_n hx hb dX14_isUnder_22 rfl (lv_at hl 0 rfl) ?_
        refine pg_get (ci := 14) (v := .int (nI z)) (C := RX14) (T := TX14) (N := 2) hx hb hts it_14 hown hK hP hL_h0 hF0 rfl 1 (by decide) (hts _ kt_673) (fun _ h9 => h9) rfl dX14_isUnder_23 ?_
        refine lv_aload_n hx hb dX14_isUnder_26 rfl (lv_at hl 1 rfl) ?_
        refine pg_get (ci := 14) (v := .int (nI y)) (C := RX14) (T := TX14) (N := 2) hx hb hts it_14 hown hK hP hL_g1 hF1 rfl 1 (by decide) (hts _ kt_673) (fun _ h9 => h9) rfl dX14_isUnder_27 ?_
        refine lv_iconst (v := 1) hx hb dX14_isUnder_30 (by decide) ?_
        refine lv_iadd hx hb dX14_isUnder_31 ?_
        refine lv_topi (fun x_31 ex_31 => ?_)
        obtain rfl : x_31 = (nI (y + 1)) := ex_31.trans (nI_add y 1)
        refine lv_icmp_eq (tgt := 56) hx hb dX14_isUnder_32 (by decide) (fun c_32 => ?_) (fun c_32 => ?_)
        ·
          have hi_33 : z = (y + 1) := (nI_eq (a := z) (b := (y + 1)) (by omega) (by omega)).mp c_32
          refine lv_iconst (v := 0) hx hb dX14_isUnder_56 (by decide) ?_
          refine W.widen (k := 0) (n := 0) (by omega) (by omega) ?_
          exact W.zret (v := 0) (ty := .boolean) hx hb hr (by decide) (fun t ht hWm => ⟨⟨0, (), rfl, (Or.inr ⟨rfl, fun q => q.2.1.elim (fun c => absurd c (by omega)) (fun c => c.1 (by omega))⟩), ⟨F, QTm.mk ht hP hD hO hR⟩⟩, hS.F ht⟩) hS.2.2 dX14_isUnder_57
        ·
          have hi_34 : z ≠ (y + 1) := fun q => c_32 (by rw [q])
          refine lv_aload_n hx hb dX14_isUnder_35 rfl (lv_at hl 0 rfl) ?_
          refine pg_get (ci := 14) (v := .ref r0) (C := RX14) (T := TX14) (N := 2) hx hb hts it_14 hown hK hP hL_h0 hF0 rfl 0 (by decide) (hts _ kt_672) (fun _ h9 => h9) rfl dX14_isUnder_36 ?_
          refine lv_aload_n hx hb dX14_isUnder_39 rfl (lv_at hl 0 rfl) ?_
          refine pg_get (ci := 14) (v := .int (nI z)) (C := RX14) (T := TX14) (N := 2) hx hb hts it_14 hown hK hP hL_h0 hF0 rfl 1 (by decide) (hts _ kt_673) (fun _ h9 => h9) rfl dX14_isUnder_40 ?_
          refine lv_aload_n hx hb dX14_isUnder_43 rfl (lv_at hl 1 rfl) ?_
          refine pg_get (ci := 14) (v := .int (nI y)) (C := RX14) (T := TX14) (N := 2) hx hb hts it_14 hown hK hP hL_g1 hF1 rfl 1 (by decide) (hts _ kt_673) (fun _ h9 => h9) rfl dX14_isUnder_44 ?_
          refine lv_isub hx hb dX14_isUnder_47 ?_
          refine lv_topi (fun x_35 ex_35 => ?_)
          obtain rfl : x_35 = (nI (z - y)) := ex_35.trans (pk_sub (a := z) (b := y) (by omega))
          refine lv_iconst (v := 1) hx hb dX14_isUnder_48 (by decide) ?_
          refine lv_isub hx hb dX14_isUnder_49 ?_
          refine lv_topi (fun x_36 ex_36 => ?_)
          obtain rfl : x_36 = (nI ((z - y) - 1)) := ex_36.trans (pk_sub (a := (z - y)) (b := 1) (by omega))
          obtain ⟨hq_37, hq_38⟩ := hW.octs hi_1 ht_2
          refine pg_bald hx hb hK hP hi_1 1 hFr0 rfl (vp_in_nI (by omega) (by omega)) dX14_isUnder_50 ?_
          refine lv_topi (fun x_39 ex_39 => ?_)
          obtain rfl : x_39 = gf ((z - y) - 1) := ex_39.trans (congrArg gf (show ((nI ((z - y) - 1)) : Int32).toNatClampNeg = ((z - y) - 1) from nI_clamp (by omega)))
          refine lv_bipush (v := 46) hx hb dX14_isUnder_51 (by decide) ?_
          refine lv_icmp_eq (tgt := 58) hx hb dX14_isUnder_53 (by decide) (fun c_40 => ?_) (fun c_40 => ?_)
          ·
            refine W.widen (k := 0) (n := 0) (by omega) (by omega) ?_
            exact jn_10 () F (⟨by omega, Or.inr ⟨by omega, c_40⟩⟩) hO hR _ _ hP hD hS ls (lv_sub hl [0, 1] rfl)
          ·
            refine lv_iconst (v := 0) hx hb dX14_isUnder_56 (by decide) ?_
            refine W.widen (k := 0) (n := 0) (by omega) (by omega) ?_
            exact W.zret (v := 0) (ty := .boolean) hx hb hr (by decide) (fun t ht hWm => ⟨⟨0, (), rfl, (Or.inr ⟨rfl, fun q => q.2.1.elim (fun c => absurd c (by omega)) (fun c => c_40 c.2)⟩), ⟨F, QTm.mk ht hP hD hO hR⟩⟩, hS.F ht⟩) hS.2.2 dX14_isUnder_57
set_option maxHeartbeats 4000000 in
set_option maxRecDepth 100000 in
theorem s_X15_entry_d (l : Launch) (dC : Nat → ClassId) (dI : Nat → Nat → Nat) (cs : Nat → ClassId) (ty : TyM) (gm : Nat → Nat → Nat) (L : List Nat) (sz : Nat) (F : Nat → va_E) (h0 : Nat) (ρ : Nat) (ta : Nat) (ou : Nat) (so : Nat) (ad : Nat) (na : Nat) (va : Nat) (lc : Nat) (dm : Nat) (tg : Nat) (pe : Nat) (ml : Nat) (bg : Nat) (co : Nat) (sp : Nat) (nb0 : Nat) (nb1 : Nat) (nb2 : Nat) (pl : Nat) (se : Nat) (ke : Nat) (wi : Nat) (hs : Nat) (mo : Nat) (po : Nat) (nu : Nat) (pr : Nat) (sq : Nat) (xa : Nat) (sa : Nat) (n64 : Nat) (m64 : Nat) (ex : Nat) (wh : Nat) (sd : Nat) (tk : Nat) (hd : Nat) (ak : Nat) (ho : Nat) (ot : Nat) (sx : Nat) (s0 : Nat) (s1 : Nat) (s2 : Nat) (nf : Nat) (bd : Nat) (mm : Nat) (zo : Nat) (fm : Nat) (sn : Nat) (hg : Nat) (gc : Nat) (gv : Nat) (ze : Nat) (zt : Nat) (x1 : Int32) (x2 : Int32) (gt : Nat → Int32) (D : Nat → ETY) (hW : WTm ty gm L) (hL_h0 : h0 ∈ L) (hT_h0 : ty h0 = (15, ρ, [ta, ou, so, ad, na, va, lc, dm, tg, pe, ml, bg, co, sp, nb0, nb1, nb2, pl, se, ke, wi, hs, mo, po, nu, pr, sq, xa, sa, n64, m64, ex, wh, sd, tk, hd, ak, ho, ot, sx, s0, s1, s2, nf, bd, mm, zo, fm, sn, hg, gc, gv, ze, zt])) (hFta : F ta = .inl (cs 17, 3000, .inl gt)) (hDM : DIRM cs F so ad na va ze D) : Met l yX15_entry (.code yX15_entry cX15_entry 7 (some .int) :: tb) ({ frames := 3, cells := 0, slots := 0, locals := 94 }) (va_Pc [.ref h0, .int x1, .int x2] (PTm (dC, dI) cs ty gm L F sz)) (va_Qi (fun (r : Int32) (c2 : Nat) => ENT ze c2 x1 gt zt r) (fun (c2 : Nat) T9 => ∃ F2 : Nat → va_E, ∃ ty2 : TyM, ty2 = rtf ty h0 (15, ρ, [ta, ou, so, ad, na, va, lc, dm, tg, pe, ml, bg, co, sp, nb0, nb1, nb2, pl, se, ke, wi, hs, mo, po, nu, pr, sq, xa, sa, n64, m64, ex, wh, sd, tk, hd, ak, ho, ot, sx, s0, s1, s2, nf, bd, mm, zo, fm, sn, hg, gc, gv, c2, 0]) ∧ QTm (dC, dI) cs ty2 gm L [ρ, ρ + 3, ρ + 31, ρ + 4 + ze + 100, ρ + 50 + ze + 100] F F2 (va_A (va_pl L F) sz) T9 ∧ WTm ty2 gm L ∧ (∃ d : ETY, DIRM cs F2 so ad na va c2 (fun k => if k = ze then d else D k) ∧ (c2 = ze + 1 → ENX x1 x2 gt zt d))) (va_A (va_pl L F) sz)) 0 0 (va_A (va_pl L F) sz) := by
  refine Met.ofW (cc := cX15_entry) (maxL := 7) (ret := (some .int)) (by decide) rfl ?_
  intro p e s m args below meth c s₁ B hml hv
  obtain ⟨rfl, hsz, hP, hK, hD0, hE, hO⟩ := hv
  have hx := B.exec
  have hb := B.bytes
  have hr := B.returns
  have hts : ∀ w ∈ tb, w.before _ s = true := fun w h => atoms_spec (ws := .code yX15_entry cX15_entry 7 (some .int) :: tb) B.pre w (List.mem_cons_of_mem _ h)
  have hown : s.vm.findClass RX15 = some m.cls := findClass_of_methodNamed B.named
  have hlocks := B.notSynchronized
  subst hsz
  have hD := hD0.self (sz := s.heap.size)
  generalize hAe : va_A (va_pl L F) s.heap.size = A at hD ⊢
  have hA : ∀ q : Nat, s.heap.size ≤ q → A q := fun q h => by rw [← hAe]; exact Or.inr h
  have hS : va_S A s.heap s.heap [] := va_S.rf
  have hR : FR ty [ρ, ρ + 3, ρ + 31, ρ + 4 + ze + 100, ρ + 50 + ze + 100] F F := FR.refl
  have hl := lv_entry ([.ref h0, .int x1, .int x2]) (n := 7) (Nat.le_of_ble_eq_true rfl)
  rw [lg_entry_eq]
  generalize (lg_sl ([.ref h0, .int x1, .int x2]) ++ List.replicate (7 - (lg_sl ([.ref h0, .int x1, .int x2])).length) Slot.unset).toArray = ls at hl ⊢
  have hl : lv_has ls 7 [(0, .ref h0), (1, .int x1), (2, .int x2)] := hl
  obtain ⟨hq_23, hq_24, hq_25, hq_26, hq_27, hgO, hgA, hgB, hq_28⟩ := hW.sc hL_h0 hT_h0
  have hO0 := hO
  have hW0 := hW
  have hT00 := hT_h0
  obtain ⟨hLs0, hTs0⟩ := hW.f_so hL_h0 hT_h0
  obtain ⟨hLd0, hTd0⟩ := hW.f_ad hL_h0 hT_h0
  obtain ⟨hLn0, hTn0⟩ := hW.f_na hL_h0 hT_h0
  obtain ⟨hLv0, hTv0⟩ := hW.f_va hL_h0 hT_h0
  obtain ⟨fs, fd, fn, fv, hd1, hd2, hd3, hd4, hd5⟩ := id hDM
  refine lv_aload_n hx hb dX15_entry_0 rfl (lv_at hl 0 rfl) ?_
  obtain ⟨v14_29, v15_30, v17_31, v18_32, v19_33, v20_34, v21_35, v22_36, v33_37, v52_38, v53_39, v54_40, hF_41, hq_42, hq_43, hq_44, hq_45, hq_46⟩ := hO.mod hL_h0 hT_h0
  have hFc := pg_free hD hS hA
  refine va_calli (va_runV (As := []) (rest := []) ⟨hx, hb, hml, hown, hts⟩ (s_X15_used l dC dI cs ty gm L s.heap.size F h0 ρ ta ou so ad na va lc dm tg pe ml bg co sp nb0 nb1 nb2 pl se ke wi hs mo po nu pr sq xa sa n64 m64 ex wh sd tk hd ak ho ot sx s0 s1 s2 nf bd mm zo fm sn hg gc gv ze zt v14_29 v15_30 v17_31 v18_32 v19_33 v20_34 v21_35 v22_36 v33_37 v52_38 v53_39 v54_40 hW hL_h0 hT_h0 hF_41 (by first | omega | assumption | exact Or.inl rfl) (by first | omega | assumption | exact Or.inl rfl) (by first | omega | assumption | exact Or.inl rfl) (by first | omega | assumption | exact Or.inl rfl) (by first | omega | assumption | exact Or.inl rfl)) ⟨callB_of 0 hts (gi kt_999) rfl rfl rfl (hts _ kt_669) (hts _ kt_1000) (by decide +kernel) ⟨Nat.le_of_ble_eq_true rfl, Nat.le_of_ble_eq_true rfl⟩, (hts _ kt_1001), (hts _ kt_1002)⟩ ⟨fun a U g mk q => ⟨q.1, PTm.calling q.2⟩, pg_recv hK hP hL_h0 hF_41 (q := (RX15, TX15, 59)) rfl, fun U hU hWm => ⟨rfl, PTm.mk hU hWm hP hK hD hE hO⟩⟩ rfl rfl hl.1 rfl (lv_room (Nat.le_of_ble_eq_true rfl)) dX15_entry_1 ⟨by show _ + 0 ≤ 0; omega, by show _ + 0 ≤ 0; omega⟩) hS (fun q _ h => hFc q h) hFc (fun r_47 u t H1 locs ht hvm hw hB hz1 hk1 hS => ?_)
  obtain ⟨F_48, ty9, hty9, hB1, hW9, hq_49⟩ := hB
  subst hty9
  have hR9 := FR.retype (im2 := [ta, ou, so, ad, na, va, lc, dm, tg, pe, ml, bg, co, sp, nb0, nb1, nb2, pl, se, ke, wi, hs, mo, po, nu, pr, sq, xa, sa, n64, m64, ex, wh, sd, tk, hd, ak, ho, ot, sx, s0, s1, s2, nf, bd, mm, zo, fm, sn, hg, gc, gv, ze, 0]) hT_h0 hR
  obtain ⟨hP, hD, hO, hR⟩ := QTm.back hB1 ht hFc hR9 (fun q h => by simp only [List.mem_cons, List.not_mem_nil, or_false] at h ⊢; omega)
  obtain ⟨ty, hty, hT_h0, hW, hO, hR⟩ : ∃ t9 : TyM, t9 = rtf ty h0 (15, ρ, [ta, ou, so, ad, na, va, lc, dm, tg, pe, ml, bg, co, sp, nb0, nb1, nb2, pl, se, ke, wi, hs, mo, po, nu, pr, sq, xa, sa, n64, m64, ex, wh, sd, tk, hd, ak, ho, ot, sx, s0, s1, s2, nf, bd, mm, zo, fm, sn, hg, gc, gv, ze, 0]) ∧ t9 h0 = (15, ρ, [ta, ou, so, ad, na, va, lc, dm, tg, pe, ml, bg, co, sp, nb0, nb1, nb2, pl, se, ke, wi, hs, mo, po, nu, pr, sq, xa, sa, n64, m64, ex, wh, sd, tk, hd, ak, ho, ot, sx, s0, s1, s2, nf, bd, mm, zo, fm, sn, hg, gc, gv, ze, 0]) ∧ WTm t9 gm L ∧ OKm cs t9 gm L F_48 ∧ FR t9 [ρ, ρ + 3, ρ + 31, ρ + 4 + ze + 100, ρ + 50 + ze + 100] F F_48 := ⟨_, rfl, rtf_self, hW9, hO, hR⟩
  generalize H1 = H at hP hS ⊢
  have hw : r_47 = nI zt := hw
  subst hw
  obtain ⟨hq_72, hq_73, hq_74, hq_75, hq_76, hgO, hgA, hgB, hq_77⟩ := hW.sc hL_h0 hT_h0
  obtain ⟨hi_79, ht_80⟩ := hW.f_ta hL_h0 hT_h0
  have hF_78 : F_48 ta = .inl (cs 17, 3000, .inl gt) := (hB1.2.2.2 ta (by rw [← hty, ht_80]; simp)).trans hFta
  obtain ⟨hi_82, ht_83⟩ := hW.f_so hL_h0 hT_h0
  have hF_81 : F_48 so = .inl (cs 16, 40, .inl fs) := (hB1.2.2.2 so (by rw [← hty, ht_83]; simp)).trans hd1
  obtain ⟨hi_85, ht_86⟩ := hW.f_ad hL_h0 hT_h0
  have hF_84 : F_48 ad = .inl (cs 16, 40, .inl fd) := (hB1.2.2.2 ad (by rw [← hty, ht_86]; simp)).trans hd2
  refine lv_istore_n (lv' := [(3, .int (nI zt)), (0, .ref h0), (1, .int x1), (2, .int x2)]) hx hb dX15_entry_4 rfl hl (by decide) rfl (fun ls hl => ?_)
  refine lv_iconst (v := 0) hx hb dX15_entry_5 (by decide) ?_
  refine lv_istore (lv' := [(4, .int 0), (3, .int (nI zt)), (0, .ref h0), (1, .int x1), (2, .int x2)]) hx hb dX15_entry_6 hl (by decide) rfl (fun ls hl => ?_)
  refine lv_aload_n hx hb dX15_entry_8 rfl (lv_at hl 2 rfl) ?_
  refine pg_get (ci := 15) (v := .int (nI ze)) (C := RX15) (T := TX15) (N := 59) hx hb hts it_15 hown hK hP hL_h0 hq_49 rfl 3 (by decide) (hts _ kt_724) (fun _ h9 => h9) rfl dX15_entry_9 ?_
  refine lv_bipush (v := 40) hx hb dX15_entry_12 (by decide) ?_
  refine lv_icmp_ne (tgt := 20) hx hb dX15_entry_14 (by decide) (fun c_87 => ?_) (fun c_87 => ?_)
  ·
    have hi_88 : ze ≠ 40 := fun q => c_87 (by rw [q]; rfl)
    have hc40 : ze ≠ 40 := by omega
    refine lv_iload_n hx hb dX15_entry_20 rfl (lv_at hl 3 rfl) ?_
    refine lv_i2l (v := x1.toInt64) hx hb dX15_entry_21 rfl ?_
    refine lv_lconst (v := 0) hx hb dX15_entry_22 (by decide) ?_
    refine lv_ldc2 (v := 4) hx hb hown (hts _ kt_1138) dX15_entry_23 ?_
    have hFc := pg_free hD hS hA
    refine va_calli (va_runS (As := [.long x1.toInt64, .long 0, .long 4]) (rest := []) ⟨hx, hb, hml, hown, hts⟩ (s_X15_in l dC dI cs ty gm L H.size F_48 x1.toInt64 0 4 hW ) ⟨callB_of 3 hts (gi kt_685) rfl rfl rfl (hts _ kt_669) (hts _ kt_705) (by decide +kernel) ⟨Nat.le_of_ble_eq_true rfl, Nat.le_of_ble_eq_true rfl⟩, (hts _ kt_686)⟩ ⟨fun a U g mk q => ⟨q.1, PTm.calling q.2⟩, fun U hU hWm => ⟨rfl, PTm.mk hU hWm hP hK hD hE hO⟩⟩ rfl rfl hl.1 rfl (lv_room (Nat.le_of_ble_eq_true rfl)) dX15_entry_26 ⟨by show _ + 0 ≤ 0; omega, by show _ + 0 ≤ 0; omega⟩) hS (fun q _ h => hFc q h) hFc (fun r_89 u t H1 locs ht hvm hw hB hz1 hk1 hS => ?_)
    obtain ⟨F_90, hB1⟩ := hB
    obtain rfl : F_48 = F_90 := (funext (fun a => hB1.2.2.2 a List.not_mem_nil)).symm
    obtain ⟨hP, hD, hO, hR⟩ := QTm.back hB1 ht hFc hR (fun q h => absurd h List.not_mem_nil)
    generalize H1 = H at hP hS ⊢
    have hw : r_89 = (if 0 ≤ x1.toInt64 ∧ x1.toInt64 ≤ 4 then 1 else 0) := hw
    have hw_91 := hw
    refine lv_if_ne (tgt := 34) hx hb dX15_entry_29 (by decide) (fun c_92 => ?_) (fun c_92 => ?_)
    ·
      obtain ⟨hx0, hx4⟩ := ((in_04 hw_91).resolve_left (fun q => c_92 q.1)).2
      have hF_95 : F ta = .inl (cs 17, 3000, .inl gt) := (hR ta (by rw [ht_80]; simp only [List.mem_cons, List.not_mem_nil, or_false]; omega)).symm.trans hF_78
      refine W.widen (k := 0) (n := 0) (by omega) (by omega) ?_
      refine pl_cutm (σ := Int32) A (dC, dI) cs ty gm L [ρ, ρ + 3, ρ + 31, ρ + 4 + ze + 100, ρ + 50 + ze + 100] F 48 7 (fun s5 => [(4, .int 0), (3, .int (nI zt)), (0, .ref h0), (1, .int x1), (2, .int x2)]) (fun s5 => [.int s5]) (fun s5 FF => (s5 = 0 ∨ s5 = 1) ∧ (s5 = 1 → (x1 = 0 ∨ x1 = 2)) ∧ (s5 = 0 → ¬ (x1 = 0 ∨ x1 = 2)) ∧ FF h0 = .inr (15, (.ref ta) :: (.int 0) :: (.int (nI zo)) :: (.int (nI ze)) :: (.ref ou) :: (.ref so) :: (.ref ad) :: (.ref na) :: (.ref va) :: (.ref lc) :: (.ref dm) :: (.int (nI fm)) :: (.int (nI sn)) :: (.ref tg) :: (.int v14_29) :: (.int v15_30) :: (.ref pe) :: (.int v17_31) :: (.int v18_32) :: (.int v19_33) :: (.int v20_34) :: (.int v21_35) :: (.int v22_36) :: (.ref ml) :: (.ref bg) :: (.ref co) :: (.ref sp) :: (.ref nb0) :: (.ref nb1) :: (.ref nb2) :: (.int (nI nf)) :: (.int (nI bd)) :: (.int (nI mm)) :: (.int v33_37) :: (.ref pl) :: (.ref se) :: (.ref ke) :: (.ref wi) :: (.ref hs) :: (.ref mo) :: (.ref po) :: (.ref nu) :: (.ref pr) :: (.ref sq) :: (.ref xa) :: (.ref sa) :: (.ref n64) :: (.ref m64) :: (.ref ex) :: (.ref wh) :: (.ref sd) :: (.ref tk) :: (.int v52_38) :: (.int v53_39) :: (.int v54_40) :: (.ref hd) :: (.ref ak) :: (.ref ho) :: (.ref ot) :: []) ∧ FF so = .inl (cs 16, 40, .inl fs) ∧ FF ad = .inl (cs 16, 40, .inl fd)) ?_ (fun jn_93 => ?_)
      ·
        rintro s5 F_94 hv_96 hO hR H locs hP hD hS ls hl
        have hl : lv_has ls 7 [(4, .int 0), (3, .int (nI zt)), (0, .ref h0), (1, .int x1), (2, .int x2)] := hl
        have hv_96 : (s5 = 0 ∨ s5 = 1) ∧ (s5 = 1 → (x1 = 0 ∨ x1 = 2)) ∧ (s5 = 0 → ¬ (x1 = 0 ∨ x1 = 2)) ∧ F_94 h0 = .inr (15, (.ref ta) :: (.int 0) :: (.int (nI zo)) :: (.int (nI ze)) :: (.ref ou) :: (.ref so) :: (.ref ad) :: (.ref na) :: (.ref va) :: (.ref lc) :: (.ref dm) :: (.int (nI fm)) :: (.int (nI sn)) :: (.ref tg) :: (.int v14_29) :: (.int v15_30) :: (.ref pe) :: (.int v17_31) :: (.int v18_32) :: (.int v19_33) :: (.int v20_34) :: (.int v21_35) :: (.int v22_36) :: (.ref ml) :: (.ref bg) :: (.ref co) :: (.ref sp) :: (.ref nb0) :: (.ref nb1) :: (.ref nb2) :: (.int (nI nf)) :: (.int (nI bd)) :: (.int (nI mm)) :: (.int v33_37) :: (.ref pl) :: (.ref se) :: (.ref ke) :: (.ref wi) :: (.ref hs) :: (.ref mo) :: (.ref po) :: (.ref nu) :: (.ref pr) :: (.ref sq) :: (.ref xa) :: (.ref sa) :: (.ref n64) :: (.ref m64) :: (.ref ex) :: (.ref wh) :: (.ref sd) :: (.ref tk) :: (.int v52_38) :: (.int v53_39) :: (.int v54_40) :: (.ref hd) :: (.ref ak) :: (.ref ho) :: (.ref ot) :: []) ∧ F_94 so = .inl (cs 16, 40, .inl fs) ∧ F_94 ad = .inl (cs 16, 40, .inl fd) := hv_96
        refine W.eq (g2 := F0 m 48 ls [.int s5]) rfl ?_
        have hF_97 : F_94 ta = .inl (cs 17, 3000, .inl gt) := (hR ta (by rw [ht_80]; simp only [List.mem_cons, List.not_mem_nil, or_false]; omega)).trans hF_95
        obtain ⟨hs5, hs5x, hs5n, hs5h⟩ := hv_96
        obtain ⟨hs5h, hs5hso, hs5had⟩ := hs5h
        refine lv_istore (lv' := [(5, .int s5), (4, .int 0), (3, .int (nI zt)), (0, .ref h0), (1, .int x1), (2, .int x2)]) hx hb dX15_entry_48 hl (by decide) rfl (fun ls hl => ?_)
        obtain ⟨hq_98, hq_99⟩ := hW.ints hi_82 ht_83
        obtain ⟨hq_100, hq_101⟩ := hW.ints hi_85 ht_86
        refine W.widen (k := 0) (n := 0) (by omega) (by omega) ?_
        have hF_103 : F ta = .inl (cs 17, 3000, .inl gt) := (hR ta (by rw [ht_80]; simp only [List.mem_cons, List.not_mem_nil, or_false]; omega)).symm.trans hF_97
        refine pl_loopm (σ := Nat) A (dC, dI) cs ty gm L [ρ, ρ + 3, ρ + 31, ρ + 4 + ze + 100, ρ + 50 + ze + 100] F 50 7 (fun j => [(5, .int s5), (4, .int (nI j)), (3, .int (nI zt)), (0, .ref h0), (1, .int x1), (2, .int x2)]) (fun j => []) (fun j FF => j ≤ zt ∧ (∀ i, i < j → ¬ gt i = 32) ∧ FF h0 = .inr (15, (.ref ta) :: (.int 0) :: (.int (nI zo)) :: (.int (nI ze)) :: (.ref ou) :: (.ref so) :: (.ref ad) :: (.ref na) :: (.ref va) :: (.ref lc) :: (.ref dm) :: (.int (nI fm)) :: (.int (nI sn)) :: (.ref tg) :: (.int v14_29) :: (.int v15_30) :: (.ref pe) :: (.int v17_31) :: (.int v18_32) :: (.int v19_33) :: (.int v20_34) :: (.int v21_35) :: (.int v22_36) :: (.ref ml) :: (.ref bg) :: (.ref co) :: (.ref sp) :: (.ref nb0) :: (.ref nb1) :: (.ref nb2) :: (.int (nI nf)) :: (.int (nI bd)) :: (.int (nI mm)) :: (.int v33_37) :: (.ref pl) :: (.ref se) :: (.ref ke) :: (.ref wi) :: (.ref hs) :: (.ref mo) :: (.ref po) :: (.ref nu) :: (.ref pr) :: (.ref sq) :: (.ref xa) :: (.ref sa) :: (.ref n64) :: (.ref m64) :: (.ref ex) :: (.ref wh) :: (.ref sd) :: (.ref tk) :: (.int v52_38) :: (.int v53_39) :: (.int v54_40) :: (.ref hd) :: (.ref ak) :: (.ref ho) :: (.ref ot) :: []) ∧ FF so = .inl (cs 16, 40, .inl fs) ∧ FF ad = .inl (cs 16, 40, .inl fd)) (fun j => zt - j) ?_ 0 F_94 (⟨by omega, fun i hi => absurd hi (Nat.not_lt_zero _), hs5h, hs5hso, hs5had⟩) hO hR _ _ hP hD hS ls (lv_sub hl [0, 1, 2, 3, 4, 5] rfl)
        rintro j F_102 hv_104 hO hR ih_105 H locs hP hD hS ls hl
        have hl : lv_has ls 7 [(5, .int s5), (4, .int (nI j)), (3, .int (nI zt)), (0, .ref h0), (1, .int x1), (2, .int x2)] := hl
        have hv_104 : j ≤ zt ∧ (∀ i, i < j → ¬ gt i = 32) ∧ F_102 h0 = .inr (15, (.ref ta) :: (.int 0) :: (.int (nI zo)) :: (.int (nI ze)) :: (.ref ou) :: (.ref so) :: (.ref ad) :: (.ref na) :: (.ref va) :: (.ref lc) :: (.ref dm) :: (.int (nI fm)) :: (.int (nI sn)) :: (.ref tg) :: (.int v14_29) :: (.int v15_30) :: (.ref pe) :: (.int v17_31) :: (.int v18_32) :: (.int v19_33) :: (.int v20_34) :: (.int v21_35) :: (.int v22_36) :: (.ref ml) :: (.ref bg) :: (.ref co) :: (.ref sp) :: (.ref nb0) :: (.ref nb1) :: (.ref nb2) :: (.int (nI nf)) :: (.int (nI bd)) :: (.int (nI mm)) :: (.int v33_37) :: (.ref pl) :: (.ref se) :: (.ref ke) :: (.ref wi) :: (.ref hs) :: (.ref mo) :: (.ref po) :: (.ref nu) :: (.ref pr) :: (.ref sq) :: (.ref xa) :: (.ref sa) :: (.ref n64) :: (.ref m64) :: (.ref ex) :: (.ref wh) :: (.ref sd) :: (.ref tk) :: (.int v52_38) :: (.int v53_39) :: (.int v54_40) :: (.ref hd) :: (.ref ak) :: (.ref ho) :: (.ref ot) :: []) ∧ F_102 so = .inl (cs 16, 40, .inl fs) ∧ F_102 ad = .inl (cs 16, 40, .inl fd) := hv_104
        refine W.eq (g2 := F0 m 50 ls []) rfl ?_
        have hF_106 : F_102 ta = .inl (cs 17, 3000, .inl gt) := (hR ta (by rw [ht_80]; simp only [List.mem_cons, List.not_mem_nil, or_false]; omega)).trans hF_103
        obtain ⟨ha1, ha3, ha2⟩ := hv_104
        obtain ⟨ha2, ha2so, ha2ad⟩ := ha2
        refine lv_iload hx hb dX15_entry_50 (lv_at hl 0 rfl) ?_
        refine lv_if_eq (tgt := 79) hx hb dX15_entry_52 (by decide) (fun c_107 => ?_) (fun c_107 => ?_)
        ·
          have hfst : s5 = 1 → FST gt 32 zt j := fun h => absurd (h.symm.trans c_107) (by decide)
          have hF_110 : F ta = .inl (cs 17, 3000, .inl gt) := (hR ta (by rw [ht_80]; simp only [List.mem_cons, List.not_mem_nil, or_false]; omega)).symm.trans hF_106
          refine W.widen (k := 0) (n := 0) (by omega) (by omega) ?_
          refine pl_cutm (σ := Int32) A (dC, dI) cs ty gm L [ρ, ρ + 3, ρ + 31, ρ + 4 + ze + 100, ρ + 50 + ze + 100] F 90 7 (fun s6 => [(5, .int s5), (4, .int (nI j)), (3, .int (nI zt)), (0, .ref h0), (1, .int x1), (2, .int x2)]) (fun s6 => [.int s6]) (fun s6 FF => (∃ k : Nat, k ≤ zt ∧ s6 = nI k ∧ (s5 = 1 → k = j) ∧ (s5 = 0 → k = zt)) ∧ FF h0 = .inr (15, (.ref ta) :: (.int 0) :: (.int (nI zo)) :: (.int (nI ze)) :: (.ref ou) :: (.ref so) :: (.ref ad) :: (.ref na) :: (.ref va) :: (.ref lc) :: (.ref dm) :: (.int (nI fm)) :: (.int (nI sn)) :: (.ref tg) :: (.int v14_29) :: (.int v15_30) :: (.ref pe) :: (.int v17_31) :: (.int v18_32) :: (.int v19_33) :: (.int v20_34) :: (.int v21_35) :: (.int v22_36) :: (.ref ml) :: (.ref bg) :: (.ref co) :: (.ref sp) :: (.ref nb0) :: (.ref nb1) :: (.ref nb2) :: (.int (nI nf)) :: (.int (nI bd)) :: (.int (nI mm)) :: (.int v33_37) :: (.ref pl) :: (.ref se) :: (.ref ke) :: (.ref wi) :: (.ref hs) :: (.ref mo) :: (.ref po) :: (.ref nu) :: (.ref pr) :: (.ref sq) :: (.ref xa) :: (.ref sa) :: (.ref n64) :: (.ref m64) :: (.ref ex) :: (.ref wh) :: (.ref sd) :: (.ref tk) :: (.int v52_38) :: (.int v53_39) :: (.int v54_40) :: (.ref hd) :: (.ref ak) :: (.ref ho) :: (.ref ot) :: []) ∧ FF so = .inl (cs 16, 40, .inl fs) ∧ FF ad = .inl (cs 16, 40, .inl fd)) ?_ (fun jn_108 => ?_)
          ·
            rintro s6 F_109 hv_111 hO hR H locs hP hD hS ls hl
            have hl : lv_has ls 7 [(5, .int s5), (4, .int (nI j)), (3, .int (nI zt)), (0, .ref h0), (1, .int x1), (2, .int x2)] := hl
            have hv_111 : (∃ k : Nat, k ≤ zt ∧ s6 = nI k ∧ (s5 = 1 → k = j) ∧ (s5 = 0 → k = zt)) ∧ F_109 h0 = .inr (15, (.ref ta) :: (.int 0) :: (.int (nI zo)) :: (.int (nI ze)) :: (.ref ou) :: (.ref so) :: (.ref ad) :: (.ref na) :: (.ref va) :: (.ref lc) :: (.ref dm) :: (.int (nI fm)) :: (.int (nI sn)) :: (.ref tg) :: (.int v14_29) :: (.int v15_30) :: (.ref pe) :: (.int v17_31) :: (.int v18_32) :: (.int v19_33) :: (.int v20_34) :: (.int v21_35) :: (.int v22_36) :: (.ref ml) :: (.ref bg) :: (.ref co) :: (.ref sp) :: (.ref nb0) :: (.ref nb1) :: (.ref nb2) :: (.int (nI nf)) :: (.int (nI bd)) :: (.int (nI mm)) :: (.int v33_37) :: (.ref pl) :: (.ref se) :: (.ref ke) :: (.ref wi) :: (.ref hs) :: (.ref mo) :: (.ref po) :: (.ref nu) :: (.ref pr) :: (.ref sq) :: (.ref xa) :: (.ref sa) :: (.ref n64) :: (.ref m64) :: (.ref ex) :: (.ref wh) :: (.ref sd) :: (.ref tk) :: (.int v52_38) :: (.int v53_39) :: (.int v54_40) :: (.ref hd) :: (.ref ak) :: (.ref ho) :: (.ref ot) :: []) ∧ F_109 so = .inl (cs 16, 40, .inl fs) ∧ F_109 ad = .inl (cs 16, 40, .inl fd) := hv_111
            refine W.eq (g2 := F0 m 90 ls [.int s6]) rfl ?_
            have hF_112 : F_109 ta = .inl (cs 17, 3000, .inl gt) := (hR ta (by rw [ht_80]; simp only [List.mem_cons, List.not_mem_nil, or_false]; omega)).trans hF_110
            obtain ⟨⟨kend, hke, eke, hk1e, hk0e⟩, hb2⟩ := hv_111
            subst eke
            refine W.eq (g2 := F0 m 90 ls [.int (nI kend)]) rfl ?_
            obtain ⟨hb2, hb2so, hb2ad⟩ := hb2
            refine lv_istore (lv' := [(6, .int (nI kend)), (5, .int s5), (4, .int (nI j)), (3, .int (nI zt)), (0, .ref h0), (1, .int x1), (2, .int x2)]) hx hb dX15_entry_90 hl (by decide) rfl (fun ls hl => ?_)
            have hF_115 : F ta = .inl (cs 17, 3000, .inl gt) := (hR ta (by rw [ht_80]; simp only [List.mem_cons, List.not_mem_nil, or_false]; omega)).symm.trans hF_112
            refine W.widen (k := 0) (n := 0) (by omega) (by omega) ?_
            refine pl_cutm (σ := Unit) A (dC, dI) cs ty gm L [ρ, ρ + 3, ρ + 31, ρ + 4 + ze + 100, ρ + 50 + ze + 100] F 118 7 (fun u0 => [(6, .int (nI kend)), (5, .int s5), (4, .int (nI j)), (3, .int (nI zt)), (0, .ref h0), (1, .int x1), (2, .int x2)]) (fun u0 => []) (fun u0 FF => NM gt 0 kend = true ∧ kend ≤ 60 ∧ (s5 = 1 → j < zt) ∧ FF h0 = .inr (15, (.ref ta) :: (.int 0) :: (.int (nI zo)) :: (.int (nI ze)) :: (.ref ou) :: (.ref so) :: (.ref ad) :: (.ref na) :: (.ref va) :: (.ref lc) :: (.ref dm) :: (.int (nI fm)) :: (.int (nI sn)) :: (.ref tg) :: (.int v14_29) :: (.int v15_30) :: (.ref pe) :: (.int v17_31) :: (.int v18_32) :: (.int v19_33) :: (.int v20_34) :: (.int v21_35) :: (.int v22_36) :: (.ref ml) :: (.ref bg) :: (.ref co) :: (.ref sp) :: (.ref nb0) :: (.ref nb1) :: (.ref nb2) :: (.int (nI nf)) :: (.int (nI bd)) :: (.int (nI mm)) :: (.int v33_37) :: (.ref pl) :: (.ref se) :: (.ref ke) :: (.ref wi) :: (.ref hs) :: (.ref mo) :: (.ref po) :: (.ref nu) :: (.ref pr) :: (.ref sq) :: (.ref xa) :: (.ref sa) :: (.ref n64) :: (.ref m64) :: (.ref ex) :: (.ref wh) :: (.ref sd) :: (.ref tk) :: (.int v52_38) :: (.int v53_39) :: (.int v54_40) :: (.ref hd) :: (.ref ak) :: (.ref ho) :: (.ref ot) :: []) ∧ FF so = .inl (cs 16, 40, .inl fs) ∧ FF ad = .inl (cs 16, 40, .inl fd)) ?_ (fun jn_113 => ?_)
            ·
              rintro u0 F_114 hv_116 hO hR H locs hP hD hS ls hl
              have hl : lv_has ls 7 [(6, .int (nI kend)), (5, .int s5), (4, .int (nI j)), (3, .int (nI zt)), (0, .ref h0), (1, .int x1), (2, .int x2)] := hl
              have hv_116 : NM gt 0 kend = true ∧ kend ≤ 60 ∧ (s5 = 1 → j < zt) ∧ F_114 h0 = .inr (15, (.ref ta) :: (.int 0) :: (.int (nI zo)) :: (.int (nI ze)) :: (.ref ou) :: (.ref so) :: (.ref ad) :: (.ref na) :: (.ref va) :: (.ref lc) :: (.ref dm) :: (.int (nI fm)) :: (.int (nI sn)) :: (.ref tg) :: (.int v14_29) :: (.int v15_30) :: (.ref pe) :: (.int v17_31) :: (.int v18_32) :: (.int v19_33) :: (.int v20_34) :: (.int v21_35) :: (.int v22_36) :: (.ref ml) :: (.ref bg) :: (.ref co) :: (.ref sp) :: (.ref nb0) :: (.ref nb1) :: (.ref nb2) :: (.int (nI nf)) :: (.int (nI bd)) :: (.int (nI mm)) :: (.int v33_37) :: (.ref pl) :: (.ref se) :: (.ref ke) :: (.ref wi) :: (.ref hs) :: (.ref mo) :: (.ref po) :: (.ref nu) :: (.ref pr) :: (.ref sq) :: (.ref xa) :: (.ref sa) :: (.ref n64) :: (.ref m64) :: (.ref ex) :: (.ref wh) :: (.ref sd) :: (.ref tk) :: (.int v52_38) :: (.int v53_39) :: (.int v54_40) :: (.ref hd) :: (.ref ak) :: (.ref ho) :: (.ref ot) :: []) ∧ F_114 so = .inl (cs 16, 40, .inl fs) ∧ F_114 ad = .inl (cs 16, 40, .inl fd) := hv_116
              refine W.eq (g2 := F0 m 118 ls []) rfl ?_
              have hF_117 : F_114 ta = .inl (cs 17, 3000, .inl gt) := (hR ta (by rw [ht_80]; simp only [List.mem_cons, List.not_mem_nil, or_false]; omega)).trans hF_115
              obtain ⟨hn1, hn6, hn2, hn3⟩ := hv_116
              obtain ⟨hn3, hn3so, hn3ad⟩ := hn3
              have hF_120 : F ta = .inl (cs 17, 3000, .inl gt) := (hR ta (by rw [ht_80]; simp only [List.mem_cons, List.not_mem_nil, or_false]; omega)).symm.trans hF_117
              refine W.widen (k := 0) (n := 0) (by omega) (by omega) ?_
              refine pl_cutm (σ := Unit) A (dC, dI) cs ty gm L [ρ, ρ + 3, ρ + 31, ρ + 4 + ze + 100, ρ + 50 + ze + 100] F 156 7 (fun u0 => [(6, .int (nI kend)), (5, .int s5), (4, .int (nI j)), (3, .int (nI zt)), (0, .ref h0), (1, .int x1), (2, .int x2)]) (fun u0 => []) (fun u0 FF => (s5 = 1 → ISV x1 gt zt j ∧ zt - j - 1 ≤ 700) ∧ FF h0 = .inr (15, (.ref ta) :: (.int 0) :: (.int (nI zo)) :: (.int (nI ze)) :: (.ref ou) :: (.ref so) :: (.ref ad) :: (.ref na) :: (.ref va) :: (.ref lc) :: (.ref dm) :: (.int (nI fm)) :: (.int (nI sn)) :: (.ref tg) :: (.int v14_29) :: (.int v15_30) :: (.ref pe) :: (.int v17_31) :: (.int v18_32) :: (.int v19_33) :: (.int v20_34) :: (.int v21_35) :: (.int v22_36) :: (.ref ml) :: (.ref bg) :: (.ref co) :: (.ref sp) :: (.ref nb0) :: (.ref nb1) :: (.ref nb2) :: (.int (nI nf)) :: (.int (nI bd)) :: (.int (nI mm)) :: (.int v33_37) :: (.ref pl) :: (.ref se) :: (.ref ke) :: (.ref wi) :: (.ref hs) :: (.ref mo) :: (.ref po) :: (.ref nu) :: (.ref pr) :: (.ref sq) :: (.ref xa) :: (.ref sa) :: (.ref n64) :: (.ref m64) :: (.ref ex) :: (.ref wh) :: (.ref sd) :: (.ref tk) :: (.int v52_38) :: (.int v53_39) :: (.int v54_40) :: (.ref hd) :: (.ref ak) :: (.ref ho) :: (.ref ot) :: []) ∧ FF so = .inl (cs 16, 40, .inl fs) ∧ FF ad = .inl (cs 16, 40, .inl fd)) ?_ (fun jn_118 => ?_)
              ·
                rintro u0 F_119 hv_121 hO hR H locs hP hD hS ls hl
                have hl : lv_has ls 7 [(6, .int (nI kend)), (5, .int s5), (4, .int (nI j)), (3, .int (nI zt)), (0, .ref h0), (1, .int x1), (2, .int x2)] := hl
                have hv_121 : (s5 = 1 → ISV x1 gt zt j ∧ zt - j - 1 ≤ 700) ∧ F_119 h0 = .inr (15, (.ref ta) :: (.int 0) :: (.int (nI zo)) :: (.int (nI ze)) :: (.ref ou) :: (.ref so) :: (.ref ad) :: (.ref na) :: (.ref va) :: (.ref lc) :: (.ref dm) :: (.int (nI fm)) :: (.int (nI sn)) :: (.ref tg) :: (.int v14_29) :: (.int v15_30) :: (.ref pe) :: (.int v17_31) :: (.int v18_32) :: (.int v19_33) :: (.int v20_34) :: (.int v21_35) :: (.int v22_36) :: (.ref ml) :: (.ref bg) :: (.ref co) :: (.ref sp) :: (.ref nb0) :: (.ref nb1) :: (.ref nb2) :: (.int (nI nf)) :: (.int (nI bd)) :: (.int (nI mm)) :: (.int v33_37) :: (.ref pl) :: (.ref se) :: (.ref ke) :: (.ref wi) :: (.ref hs) :: (.ref mo) :: (.ref po) :: (.ref nu) :: (.ref pr) :: (.ref sq) :: (.ref xa) :: (.ref sa) :: (.ref n64) :: (.ref m64) :: (.ref ex) :: (.ref wh) :: (.ref sd) :: (.ref tk) :: (.int v52_38) :: (.int v53_39) :: (.int v54_40) :: (.ref hd) :: (.ref ak) :: (.ref ho) :: (.ref ot) :: []) ∧ F_119 so = .inl (cs 16, 40, .inl fs) ∧ F_119 ad = .inl (cs 16, 40, .inl fd) := hv_121
                refine W.eq (g2 := F0 m 156 ls []) rfl ?_
                have hF_122 : F_119 ta = .inl (cs 17, 3000, .inl gt) := (hR ta (by rw [ht_80]; simp only [List.mem_cons, List.not_mem_nil, or_false]; omega)).trans hF_120
                obtain ⟨ho1, ho2⟩ := hv_121
                obtain ⟨ho2, ho2so, ho2ad⟩ := ho2
                refine lv_aload_n hx hb dX15_entry_156 rfl (lv_at hl 4 rfl) ?_
                refine pg_get (ci := 15) (v := .ref so) (C := RX15) (T := TX15) (N := 59) hx hb hts it_15 hown hK hP hL_h0 ho2 rfl 5 (by decide) (hts _ kt_718) (fun _ h9 => h9) rfl dX15_entry_157 ?_
                refine lv_aload_n hx hb dX15_entry_160 rfl (lv_at hl 4 rfl) ?_
                refine pg_get (ci := 15) (v := .int (nI ze)) (C := RX15) (T := TX15) (N := 59) hx hb hts it_15 hown hK hP hL_h0 ho2 rfl 3 (by decide) (hts _ kt_724) (fun _ h9 => h9) rfl dX15_entry_161 ?_
                refine lv_iload_n hx hb dX15_entry_164 rfl (lv_at hl 5 rfl) ?_
                refine pg_iast hx hb hK hP hD hS hi_82 0 ho2so rfl (vp_in_nI (by omega) (by omega)) dX15_entry_165 (fun H locs hP hD hS => ?_)
                obtain ⟨F_123, he_124, hP, hD, hO, hR⟩ : ∃ G, G = va_up F_119 so (.inl (cs 16, 40, .inl (upd fs ((nI ze)).toNatClampNeg (x1)))) ∧ va_P (dC, dI) vwCl (va_pl L G) H ∧ va_D A (va_pl L G) ∧ OKm cs ty gm L G ∧ FR ty [ρ, ρ + 3, ρ + 31, ρ + 4 + ze + 100, ρ + 50 + ze + 100] F G := ⟨_, rfl, hP, hD, hO.up (shm.ints ht_83 ⟨_, rfl⟩), hR.up ht_83 (by simp)⟩
                have hF_125 : F_123 so = .inl (cs 16, 40, .inl (upd fs ((nI ze)).toNatClampNeg (x1))) := by rw [he_124]; exact up_self
                have hF_126 : F_123 ta = .inl (cs 17, 3000, .inl gt) := by rw [he_124, up_ne (ne_ty ht_80 ht_83 (by simp))]; exact hF_122
                have hF_127 : F_123 h0 = .inr (15, (.ref ta) :: (.int 0) :: (.int (nI zo)) :: (.int (nI ze)) :: (.ref ou) :: (.ref so) :: (.ref ad) :: (.ref na) :: (.ref va) :: (.ref lc) :: (.ref dm) :: (.int (nI fm)) :: (.int (nI sn)) :: (.ref tg) :: (.int v14_29) :: (.int v15_30) :: (.ref pe) :: (.int v17_31) :: (.int v18_32) :: (.int v19_33) :: (.int v20_34) :: (.int v21_35) :: (.int v22_36) :: (.ref ml) :: (.ref bg) :: (.ref co) :: (.ref sp) :: (.ref nb0) :: (.ref nb1) :: (.ref nb2) :: (.int (nI nf)) :: (.int (nI bd)) :: (.int (nI mm)) :: (.int v33_37) :: (.ref pl) :: (.ref se) :: (.ref ke) :: (.ref wi) :: (.ref hs) :: (.ref mo) :: (.ref po) :: (.ref nu) :: (.ref pr) :: (.ref sq) :: (.ref xa) :: (.ref sa) :: (.ref n64) :: (.ref m64) :: (.ref ex) :: (.ref wh) :: (.ref sd) :: (.ref tk) :: (.int v52_38) :: (.int v53_39) :: (.int v54_40) :: (.ref hd) :: (.ref ak) :: (.ref ho) :: (.ref ot) :: []) := by rw [he_124, up_ne (ne_ty hT_h0 ht_83 (by simp))]; exact ho2
                have hF_128 : F_123 ad = .inl (cs 16, 40, .inl fd) := by rw [he_124, up_ne (ne_ty2 ht_86 ht_83 (by simp))]; exact ho2ad
                have hF_129 : F_123 so = .inl (cs 16, 40, .inl (upd fs ze x1)) := by have h9 := hF_125; rwa [nI_clamp (by omega)] at h9
                refine lv_aload_n hx hb dX15_entry_166 rfl (lv_at hl 4 rfl) ?_
                refine pg_get (ci := 15) (v := .ref ad) (C := RX15) (T := TX15) (N := 59) hx hb hts it_15 hown hK hP hL_h0 hF_127 rfl 6 (by decide) (hts _ kt_740) (fun _ h9 => h9) rfl dX15_entry_167 ?_
                refine lv_aload_n hx hb dX15_entry_170 rfl (lv_at hl 4 rfl) ?_
                refine pg_get (ci := 15) (v := .int (nI ze)) (C := RX15) (T := TX15) (N := 59) hx hb hts it_15 hown hK hP hL_h0 hF_127 rfl 3 (by decide) (hts _ kt_724) (fun _ h9 => h9) rfl dX15_entry_171 ?_
                refine lv_iload_n hx hb dX15_entry_174 rfl (lv_at hl 6 rfl) ?_
                refine pg_iast hx hb hK hP hD hS hi_85 0 hF_128 rfl (vp_in_nI (by omega) (by omega)) dX15_entry_175 (fun H locs hP hD hS => ?_)
                obtain ⟨F_130, he_131, hP, hD, hO, hR⟩ : ∃ G, G = va_up F_123 ad (.inl (cs 16, 40, .inl (upd fd ((nI ze)).toNatClampNeg (x2)))) ∧ va_P (dC, dI) vwCl (va_pl L G) H ∧ va_D A (va_pl L G) ∧ OKm cs ty gm L G ∧ FR ty [ρ, ρ + 3, ρ + 31, ρ + 4 + ze + 100, ρ + 50 + ze + 100] F G := ⟨_, rfl, hP, hD, hO.up (shm.ints ht_86 ⟨_, rfl⟩), hR.up ht_86 (by simp)⟩
                have hF_132 : F_130 ad = .inl (cs 16, 40, .inl (upd fd ((nI ze)).toNatClampNeg (x2))) := by rw [he_131]; exact up_self
                have hF_133 : F_130 so = .inl (cs 16, 40, .inl (upd fs ze x1)) := by rw [he_131, up_ne (ne_ty2 ht_83 ht_86 (by simp))]; exact hF_129
                have hF_134 : F_130 ta = .inl (cs 17, 3000, .inl gt) := by rw [he_131, up_ne (ne_ty ht_80 ht_86 (by simp))]; exact hF_126
                have hF_135 : F_130 h0 = .inr (15, (.ref ta) :: (.int 0) :: (.int (nI zo)) :: (.int (nI ze)) :: (.ref ou) :: (.ref so) :: (.ref ad) :: (.ref na) :: (.ref va) :: (.ref lc) :: (.ref dm) :: (.int (nI fm)) :: (.int (nI sn)) :: (.ref tg) :: (.int v14_29) :: (.int v15_30) :: (.ref pe) :: (.int v17_31) :: (.int v18_32) :: (.int v19_33) :: (.int v20_34) :: (.int v21_35) :: (.int v22_36) :: (.ref ml) :: (.ref bg) :: (.ref co) :: (.ref sp) :: (.ref nb0) :: (.ref nb1) :: (.ref nb2) :: (.int (nI nf)) :: (.int (nI bd)) :: (.int (nI mm)) :: (.int v33_37) :: (.ref pl) :: (.ref se) :: (.ref ke) :: (.ref wi) :: (.ref hs) :: (.ref mo) :: (.ref po) :: (.ref nu) :: (.ref pr) :: (.ref sq) :: (.ref xa) :: (.ref sa) :: (.ref n64) :: (.ref m64) :: (.ref ex) :: (.ref wh) :: (.ref sd) :: (.ref tk) :: (.int v52_38) :: (.int v53_39) :: (.int v54_40) :: (.ref hd) :: (.ref ak) :: (.ref ho) :: (.ref ot) :: []) := by rw [he_131, up_ne (ne_ty hT_h0 ht_86 (by simp))]; exact hF_127
                have hF_136 : F_130 ad = .inl (cs 16, 40, .inl (upd fd ze x2)) := by have h9 := hF_132; rwa [nI_clamp (by omega)] at h9
                refine lv_aload_n hx hb dX15_entry_176 rfl (lv_at hl 4 rfl) ?_
                refine pg_get (ci := 15) (v := .ref na) (C := RX15) (T := TX15) (N := 59) hx hb hts it_15 hown hK hP hL_h0 hF_135 rfl 7 (by decide) (hts _ kt_719) (fun _ h9 => h9) rfl dX15_entry_177 ?_
                refine lv_aload_n hx hb dX15_entry_180 rfl (lv_at hl 4 rfl) ?_
                refine pg_get (ci := 15) (v := .int (nI ze)) (C := RX15) (T := TX15) (N := 59) hx hb hts it_15 hown hK hP hL_h0 hF_135 rfl 3 (by decide) (hts _ kt_724) (fun _ h9 => h9) rfl dX15_entry_181 ?_
                have hzna := FR.unre hT00 hty hR na (by rw [hTn0]; simp only [List.mem_cons, List.not_mem_nil, or_false]; omega)
                obtain ⟨hi_137, ht_138⟩ := hW.f_na hL_h0 hT_h0
                obtain ⟨f_139, hF_140, hq_141⟩ := hO.rtxj hi_137 ht_138
                obtain rfl : fn = f_139 := by have e9 := (hzna.trans hd3).symm.trans hF_140; simpa using e9
                obtain ⟨b_142, r_143, hbf_144, hi_145, ht_146⟩ := hq_141 ze (by omega)
                refine pg_aald (r := b_142) hx hb hK hP hi_137 7 hF_140 rfl (vp_in_nI (by omega) (by omega)) (show fn ((nI ze) : Int32).toNatClampNeg = _ from by rw [show ((nI ze) : Int32) = nI ze from rfl, nI_clamp (by omega)]; exact hbf_144) dX15_entry_184 ?_
                refine lv_aload_n hx hb dX15_entry_185 rfl (lv_at hl 4 rfl) ?_
                refine pg_get (ci := 15) (v := .ref ta) (C := RX15) (T := TX15) (N := 59) hx hb hts it_15 hown hK hP hL_h0 hF_135 rfl 0 (by decide) (hts _ kt_1006) (fun _ h9 => h9) rfl dX15_entry_186 ?_
                refine lv_iconst (v := 0) hx hb dX15_entry_189 (by decide) ?_
                refine lv_iload hx hb dX15_entry_190 (lv_at hl 0 rfl) ?_
                refine W.eq (g2 := F0 m 192 ls [.int (nI kend), .int (nI 0), .ref ta, .ref b_142]) rfl ?_
                obtain ⟨hi_147, ht_148, hq_149⟩ := hW.txt hi_145 ht_146
                obtain ⟨hq_150, hq_151⟩ := hW.octs hi_79 ht_80
                have hFc := pg_free hD hS hA
                obtain ⟨z_152, hF_153, hq_154⟩ := hO.txt hi_145 ht_146
                refine va_callv (va_runV (As := [.ref ta, .int (nI 0), .int (nI kend)]) (rest := []) ⟨hx, hb, hml, hown, hts⟩ (s_X14_set_e l dC dI cs ty gm L H.size F_130 b_142 (ρ + 4 + ze + 100) r_143 60 ta (ρ + 1) 3000 0 kend gt hW hi_145 ht_146 hi_79 ht_80 hF_134 (Nat.zero_le _) (by omega) (by omega)) ⟨callB_of 3 hts (gi kt_941) rfl rfl rfl (hts _ kt_676) (hts _ kt_942) (by decide +kernel) ⟨Nat.le_of_ble_eq_true rfl, Nat.le_of_ble_eq_true rfl⟩, (hts _ kt_943), (hts _ kt_944)⟩ ⟨fun a U g mk q => ⟨q.1, PTm.calling q.2⟩, pg_recv hK hP hi_145 hF_153 (q := (RX14, TX14, 2)) rfl, fun U hU hWm => ⟨rfl, PTm.mk hU hWm hP hK hD hE hO⟩⟩ rfl rfl hl.1 rfl (lv_room (Nat.le_of_ble_eq_true rfl)) dX15_entry_192 ⟨by show _ + 0 ≤ 0; omega, by show _ + 0 ≤ 0; omega⟩) hS (fun q _ h => hFc q h) hFc (fun u t H1 locs ht hvm hw hB hz1 hk1 hS => ?_)
                obtain ⟨F_156, fc_157, hB1, hq_158, hq_159, hq_160⟩ := hB
                obtain ⟨hP, hD, hO, hR⟩ := QTm.back hB1 ht hFc hR (fun q h => by simp only [List.mem_cons, List.not_mem_nil, or_false] at h ⊢; omega)
                have hF_161 : F_156 ad = .inl (cs 16, 40, .inl (upd fd ze x2)) := (hB1.2.2.2 ad (by rw [ht_86]; simp only [List.mem_cons, List.not_mem_nil, or_false]; omega)).trans hF_136
                have hF_162 : F_156 so = .inl (cs 16, 40, .inl (upd fs ze x1)) := (hB1.2.2.2 so (by rw [ht_83]; simp only [List.mem_cons, List.not_mem_nil, or_false]; omega)).trans hF_133
                have hF_163 : F_156 ta = .inl (cs 17, 3000, .inl gt) := (hB1.2.2.2 ta (by rw [ht_80]; simp only [List.mem_cons, List.not_mem_nil, or_false]; omega)).trans hF_134
                have hF_164 : F_156 h0 = .inr (15, (.ref ta) :: (.int 0) :: (.int (nI zo)) :: (.int (nI ze)) :: (.ref ou) :: (.ref so) :: (.ref ad) :: (.ref na) :: (.ref va) :: (.ref lc) :: (.ref dm) :: (.int (nI fm)) :: (.int (nI sn)) :: (.ref tg) :: (.int v14_29) :: (.int v15_30) :: (.ref pe) :: (.int v17_31) :: (.int v18_32) :: (.int v19_33) :: (.int v20_34) :: (.int v21_35) :: (.int v22_36) :: (.ref ml) :: (.ref bg) :: (.ref co) :: (.ref sp) :: (.ref nb0) :: (.ref nb1) :: (.ref nb2) :: (.int (nI nf)) :: (.int (nI bd)) :: (.int (nI mm)) :: (.int v33_37) :: (.ref pl) :: (.ref se) :: (.ref ke) :: (.ref wi) :: (.ref hs) :: (.ref mo) :: (.ref po) :: (.ref nu) :: (.ref pr) :: (.ref sq) :: (.ref xa) :: (.ref sa) :: (.ref n64) :: (.ref m64) :: (.ref ex) :: (.ref wh) :: (.ref sd) :: (.ref tk) :: (.int v52_38) :: (.int v53_39) :: (.int v54_40) :: (.ref hd) :: (.ref ak) :: (.ref ho) :: (.ref ot) :: []) := (hB1.2.2.2 h0 (by rw [hT_h0]; simp only [List.mem_cons, List.not_mem_nil, or_false]; omega)).trans hF_135
                have hF_165 : F_156 na = .inl (cs 23, 40, .inr (.inr (.inr (.inr fn)))) := (hB1.2.2.2 na (by rw [ht_138]; simp only [List.mem_cons, List.not_mem_nil, or_false]; omega)).trans hF_140
                generalize H1 = H at hP hS ⊢
                refine lv_aload_n hx hb dX15_entry_195 rfl (lv_at hl 4 rfl) ?_
                refine pg_get (ci := 15) (v := .ref va) (C := RX15) (T := TX15) (N := 59) hx hb hts it_15 hown hK hP hL_h0 hF_164 rfl 8 (by decide) (hts _ kt_732) (fun _ h9 => h9) rfl dX15_entry_196 ?_
                refine lv_aload_n hx hb dX15_entry_199 rfl (lv_at hl 4 rfl) ?_
                refine pg_get (ci := 15) (v := .int (nI ze)) (C := RX15) (T := TX15) (N := 59) hx hb hts it_15 hown hK hP hL_h0 hF_164 rfl 3 (by decide) (hts _ kt_724) (fun _ h9 => h9) rfl dX15_entry_200 ?_
                have hzva := FR.unre hT00 hty hR va (by rw [hTv0]; simp only [List.mem_cons, List.not_mem_nil, or_false]; omega)
                obtain ⟨hi_166, ht_167⟩ := hW.f_va hL_h0 hT_h0
                obtain ⟨f_168, hF_169, hq_170⟩ := hO.rtxj hi_166 ht_167
                obtain rfl : fv = f_168 := by have e9 := (hzva.trans hd4).symm.trans hF_169; simpa using e9
                obtain ⟨b_171, r_172, hbf_173, hi_174, ht_175⟩ := hq_170 ze (by omega)
                refine pg_aald (r := b_171) hx hb hK hP hi_166 7 hF_169 rfl (vp_in_nI (by omega) (by omega)) (show fv ((nI ze) : Int32).toNatClampNeg = _ from by rw [show ((nI ze) : Int32) = nI ze from rfl, nI_clamp (by omega)]; exact hbf_173) dX15_entry_203 ?_
                refine lv_iconst (v := 0) hx hb dX15_entry_204 (by decide) ?_
                obtain ⟨hi_176, ht_177, hq_178⟩ := hW.txt hi_174 ht_175
                obtain ⟨z_179, hF_180, hq_181⟩ := hO.txt hi_174 ht_175
                refine pg_put (ci := 14) (v := .int 0) (ty := .int) (C := RX14) (T := TX14) (N := 2) hx hb hts it_14 tyX14 tyX14_ok nmX14 hown hK hP hD hS hi_174 hF_180 rfl 1 (by decide) (hts _ kt_709) (fun _ h9 => h9) rfl (by decide +kernel) (rfl) (rfl) (Nat.le_of_ble_eq_true rfl) dX15_entry_205 (fun H locs hP hD hS => ?_)
                obtain ⟨F_182, he_183, hP, hD, hO, hR⟩ : ∃ G, G = va_up F_156 b_171 (.inr (14, [.ref r_172, .int 0])) ∧ va_P (dC, dI) vwCl (va_pl L G) H ∧ va_D A (va_pl L G) ∧ OKm cs ty gm L G ∧ FR ty [ρ, ρ + 3, ρ + 31, ρ + 4 + ze + 100, ρ + 50 + ze + 100] F G := ⟨_, rfl, hP, hD, hO.up (shm.txt ht_175 ⟨0, rfl, (by first | omega | assumption | exact Or.inl rfl | exact Or.inr rfl)⟩), hR.up ht_175 (by simp)⟩
                have hF_184 : F_182 b_171 = .inr (14, [.ref r_172, .int 0]) := by rw [he_183]; exact up_self
                have hF_185 : F_182 ad = .inl (cs 16, 40, .inl (upd fd ze x2)) := by rw [he_183, up_ne (ne_ty ht_86 ht_175 (by simp))]; exact hF_161
                have hF_186 : F_182 so = .inl (cs 16, 40, .inl (upd fs ze x1)) := by rw [he_183, up_ne (ne_ty ht_83 ht_175 (by simp))]; exact hF_162
                have hF_187 : F_182 ta = .inl (cs 17, 3000, .inl gt) := by rw [he_183, up_ne (ne_ty ht_80 ht_175 (by simp))]; exact hF_163
                have hF_188 : F_182 h0 = .inr (15, (.ref ta) :: (.int 0) :: (.int (nI zo)) :: (.int (nI ze)) :: (.ref ou) :: (.ref so) :: (.ref ad) :: (.ref na) :: (.ref va) :: (.ref lc) :: (.ref dm) :: (.int (nI fm)) :: (.int (nI sn)) :: (.ref tg) :: (.int v14_29) :: (.int v15_30) :: (.ref pe) :: (.int v17_31) :: (.int v18_32) :: (.int v19_33) :: (.int v20_34) :: (.int v21_35) :: (.int v22_36) :: (.ref ml) :: (.ref bg) :: (.ref co) :: (.ref sp) :: (.ref nb0) :: (.ref nb1) :: (.ref nb2) :: (.int (nI nf)) :: (.int (nI bd)) :: (.int (nI mm)) :: (.int v33_37) :: (.ref pl) :: (.ref se) :: (.ref ke) :: (.ref wi) :: (.ref hs) :: (.ref mo) :: (.ref po) :: (.ref nu) :: (.ref pr) :: (.ref sq) :: (.ref xa) :: (.ref sa) :: (.ref n64) :: (.ref m64) :: (.ref ex) :: (.ref wh) :: (.ref sd) :: (.ref tk) :: (.int v52_38) :: (.int v53_39) :: (.int v54_40) :: (.ref hd) :: (.ref ak) :: (.ref ho) :: (.ref ot) :: []) := by rw [he_183, up_ne (ne_ty hT_h0 ht_175 (by simp))]; exact hF_164
                have hF_189 : F_182 na = .inl (cs 23, 40, .inr (.inr (.inr (.inr fn)))) := by rw [he_183, up_ne (ne_ty ht_138 ht_175 (by simp))]; exact hF_165
                have hF_190 : F_182 b_142 = .inr (14, [.ref r_143, .int (nI (kend - 0))]) := by rw [he_183, up_ne (ne_ty2 ht_146 ht_175 (by simp))]; exact hq_158
                have hF_191 : F_182 r_143 = .inl (cs 17, 60, .inl fc_157) := by rw [he_183, up_ne (ne_ty ht_148 ht_175 (by simp))]; exact hq_159
                have hF_192 : F_182 va = .inl (cs 23, 40, .inr (.inr (.inr (.inr fv)))) := by rw [he_183, up_ne (ne_ty ht_167 ht_175 (by simp))]; exact hF_169
                refine lv_iload hx hb dX15_entry_208 (lv_at hl 1 rfl) ?_
                refine lv_if_eq (tgt := 234) hx hb dX15_entry_210 (by decide) (fun c_193 => ?_) (fun c_193 => ?_)
                ·
                  refine lv_aload_n hx hb dX15_entry_234 rfl (lv_at hl 4 rfl) ?_
                  refine lv_dup hx hb dX15_entry_235 rfl ?_
                  refine pg_get (ci := 15) (v := .int (nI ze)) (C := RX15) (T := TX15) (N := 59) hx hb hts it_15 hown hK hP hL_h0 hF_188 rfl 3 (by decide) (hts _ kt_724) (fun _ h9 => h9) rfl dX15_entry_236 ?_
                  refine lv_iconst (v := 1) hx hb dX15_entry_239 (by decide) ?_
                  refine lv_iadd hx hb dX15_entry_240 ?_
                  refine lv_topi (fun x_194 ex_194 => ?_)
                  obtain rfl : x_194 = (nI (ze + 1)) := ex_194.trans (nI_add ze 1)
                  have htyU := hty
                  have hTU := hT_h0
                  obtain ⟨hq_195, hq_196⟩ := hW.octs hi_147 ht_148
                  obtain ⟨hq_197, hq_198⟩ := hW.octs hi_176 ht_177
                  obtain ⟨f_199, hF_200, hq_201⟩ := hO.octs hi_176 ht_177
                  refine pg_put (ci := 15) (v := .int (nI (ze + 1))) (ty := .int) (C := RX15) (T := TX15) (N := 59) hx hb hts it_15 tyX15 tyX15_ok nmX15 hown hK hP hD hS hL_h0 hF_188 rfl 3 (by decide) (hts _ kt_724) (fun _ h9 => h9) rfl (by decide +kernel) (rfl) (rfl) (Nat.le_of_ble_eq_true rfl) dX15_entry_241 (fun H locs hP hD hS => ?_)
                  obtain ⟨F_202, he_203, hP, hD, hR⟩ : ∃ G, G = va_up F_182 h0 (.inr (15, (.ref ta) :: (.int 0) :: (.int (nI zo)) :: (.int (nI (ze + 1))) :: (.ref ou) :: (.ref so) :: (.ref ad) :: (.ref na) :: (.ref va) :: (.ref lc) :: (.ref dm) :: (.int (nI fm)) :: (.int (nI sn)) :: (.ref tg) :: (.int v14_29) :: (.int v15_30) :: (.ref pe) :: (.int v17_31) :: (.int v18_32) :: (.int v19_33) :: (.int v20_34) :: (.int v21_35) :: (.int v22_36) :: (.ref ml) :: (.ref bg) :: (.ref co) :: (.ref sp) :: (.ref nb0) :: (.ref nb1) :: (.ref nb2) :: (.int (nI nf)) :: (.int (nI bd)) :: (.int (nI mm)) :: (.int v33_37) :: (.ref pl) :: (.ref se) :: (.ref ke) :: (.ref wi) :: (.ref hs) :: (.ref mo) :: (.ref po) :: (.ref nu) :: (.ref pr) :: (.ref sq) :: (.ref xa) :: (.ref sa) :: (.ref n64) :: (.ref m64) :: (.ref ex) :: (.ref wh) :: (.ref sd) :: (.ref tk) :: (.int v52_38) :: (.int v53_39) :: (.int v54_40) :: (.ref hd) :: (.ref ak) :: (.ref ho) :: (.ref ot) :: [])) ∧ va_P (dC, dI) vwCl (va_pl L G) H ∧ va_D A (va_pl L G) ∧ FR ty [ρ, ρ + 3, ρ + 31, ρ + 4 + ze + 100, ρ + 50 + ze + 100] F G := ⟨_, rfl, hP, hD, hR.up hT_h0 (by simp)⟩
                  have hF_204 : F_202 ta = .inl (cs 17, 3000, .inl gt) := by rw [he_203, up_ne (ne_ty ht_80 hT_h0 (by simp))]; exact hF_187
                  have hF_205 : F_202 so = .inl (cs 16, 40, .inl (upd fs ze x1)) := by rw [he_203, up_ne (ne_ty ht_83 hT_h0 (by simp))]; exact hF_186
                  have hF_206 : F_202 ad = .inl (cs 16, 40, .inl (upd fd ze x2)) := by rw [he_203, up_ne (ne_ty ht_86 hT_h0 (by simp))]; exact hF_185
                  have hF_207 : F_202 b_142 = .inr (14, [.ref r_143, .int (nI (kend - 0))]) := by rw [he_203, up_ne (ne_ty ht_146 hT_h0 (by simp))]; exact hF_190
                  have hF_208 : F_202 r_143 = .inl (cs 17, 60, .inl fc_157) := by rw [he_203, up_ne (ne_ty ht_148 hT_h0 (by simp))]; exact hF_191
                  have hF_209 : F_202 b_171 = .inr (14, [.ref r_172, .int 0]) := by rw [he_203, up_ne (ne_ty ht_175 hT_h0 (by simp))]; exact hF_184
                  have hF_210 : F_202 r_172 = .inl (cs 17, 700, .inl f_199) := by rw [he_203, up_ne (ne_ty ht_177 hT_h0 (by simp))]; exact hF_200
                  obtain ⟨ty, hty, hT_h0, hW, hO, hR⟩ : ∃ t9 : TyM, t9 = rtf ty h0 (15, ρ, [ta, ou, so, ad, na, va, lc, dm, tg, pe, ml, bg, co, sp, nb0, nb1, nb2, pl, se, ke, wi, hs, mo, po, nu, pr, sq, xa, sa, n64, m64, ex, wh, sd, tk, hd, ak, ho, ot, sx, s0, s1, s2, nf, bd, mm, zo, fm, sn, hg, gc, gv, (ze + 1), 0]) ∧ t9 h0 = (15, ρ, [ta, ou, so, ad, na, va, lc, dm, tg, pe, ml, bg, co, sp, nb0, nb1, nb2, pl, se, ke, wi, hs, mo, po, nu, pr, sq, xa, sa, n64, m64, ex, wh, sd, tk, hd, ak, ho, ot, sx, s0, s1, s2, nf, bd, mm, zo, fm, sn, hg, gc, gv, (ze + 1), 0]) ∧ WTm t9 gm L ∧ OKm cs t9 gm L F_202 ∧ FR t9 [ρ, ρ + 3, ρ + 31, ρ + 4 + ze + 100, ρ + 50 + ze + 100] F F_202 := ⟨_, rfl, rtf_self, hW.ze hL_h0 hT_h0, (by rw [he_203]; exact OKm.retype hO hT_h0 (shm.mod rtf_self ⟨v14_29, v15_30, v17_31, v18_32, v19_33, v20_34, v21_35, v22_36, v33_37, v52_38, v53_39, v54_40, rfl, (by first | omega | assumption | exact Or.inl rfl | exact Or.inr rfl), (by first | omega | assumption | exact Or.inl rfl | exact Or.inr rfl), (by first | omega | assumption | exact Or.inl rfl | exact Or.inr rfl), (by first | omega | assumption | exact Or.inl rfl | exact Or.inr rfl), (by first | omega | assumption | exact Or.inl rfl | exact Or.inr rfl)⟩)), FR.retype hT_h0 hR⟩
                  have hF_211 : F_202 h0 = .inr (15, (.ref ta) :: (.int 0) :: (.int (nI zo)) :: (.int (nI (ze + 1))) :: (.ref ou) :: (.ref so) :: (.ref ad) :: (.ref na) :: (.ref va) :: (.ref lc) :: (.ref dm) :: (.int (nI fm)) :: (.int (nI sn)) :: (.ref tg) :: (.int v14_29) :: (.int v15_30) :: (.ref pe) :: (.int v17_31) :: (.int v18_32) :: (.int v19_33) :: (.int v20_34) :: (.int v21_35) :: (.int v22_36) :: (.ref ml) :: (.ref bg) :: (.ref co) :: (.ref sp) :: (.ref nb0) :: (.ref nb1) :: (.ref nb2) :: (.int (nI nf)) :: (.int (nI bd)) :: (.int (nI mm)) :: (.int v33_37) :: (.ref pl) :: (.ref se) :: (.ref ke) :: (.ref wi) :: (.ref hs) :: (.ref mo) :: (.ref po) :: (.ref nu) :: (.ref pr) :: (.ref sq) :: (.ref xa) :: (.ref sa) :: (.ref n64) :: (.ref m64) :: (.ref ex) :: (.ref wh) :: (.ref sd) :: (.ref tk) :: (.int v52_38) :: (.int v53_39) :: (.int v54_40) :: (.ref hd) :: (.ref ak) :: (.ref ho) :: (.ref ot) :: []) := by rw [he_203]; exact up_self
                  obtain ⟨hq_234, hq_235, hq_236, hq_237, hq_238, hgO, hgA, hgB, hq_239⟩ := hW.sc hL_h0 hT_h0
                  refine lv_aload_n hx hb dX15_entry_244 rfl (lv_at hl 4 rfl) ?_
                  refine pg_get (ci := 15) (v := .int (nI (ze + 1))) (C := RX15) (T := TX15) (N := 59) hx hb hts it_15 hown hK hP hL_h0 hF_211 rfl 3 (by decide) (hts _ kt_724) (fun _ h9 => h9) rfl dX15_entry_245 ?_
                  refine W.widen (k := 0) (n := 0) (by omega) (by omega) ?_
                  have hR0 := FR.unre hT00 htyU (FR.unre hTU hty hR)
                  have hQna := hR0 na (by rw [hTn0]; simp only [List.mem_cons, List.not_mem_nil, or_false]; omega)
                  have hQva := hR0 va (by rw [hTv0]; simp only [List.mem_cons, List.not_mem_nil, or_false]; omega)
                  exact W.iret (v := (nI (ze + 1))) hx hb hr (fun t ht hWm => ⟨⟨(nI (ze + 1)), (ze + 1), rfl, (Or.inr (Or.inr ⟨hc40, hs5.elim (fun h => val_y1 hx0 hx4 (hs5n h) (by rw [← hk0e h]; exact hn1)) (fun h => val_y2 hx0 hx4 (hs5x h) (hfst h) (by rw [← hk1e h]; exact hn1) (ho1 h).1), rfl, rfl⟩)), ⟨F_202, ty, (by rw [hty, htyU, rtf_rtf2]), QTm.mk ht hP hD hO hR, hW, ⟨(x1, x2, kend - 0, fc_157, 0, f_199), DIRM.add hDM hO0 hW0 hLn0 hTn0 hLv0 hTv0 (by omega) hR0 hQna hQva (fun k hk => ⟨by simp only [List.mem_cons, List.not_mem_nil, or_false]; omega, by simp only [List.mem_cons, List.not_mem_nil, or_false]; omega⟩) hd1 hd2 hd3 hd4 hF_205 hF_206 ⟨b_142, r_143, hbf_144, hF_207, hF_208, by show kend - 0 ≤ 60; omega⟩ ⟨b_171, r_172, hbf_173, hF_209, hF_210, by show 0 ≤ 700; omega⟩, fun _ => enx4 (hk0e c_193) (hs5n c_193) hn1 hq_160⟩⟩⟩, hS.F ht⟩) hS.2.2 dX15_entry_248
                ·
                  have h51 := hs5.resolve_left c_193
                  refine lv_aload_n hx hb dX15_entry_213 rfl (lv_at hl 4 rfl) ?_
                  refine pg_get (ci := 15) (v := .ref va) (C := RX15) (T := TX15) (N := 59) hx hb hts it_15 hown hK hP hL_h0 hF_188 rfl 8 (by decide) (hts _ kt_732) (fun _ h9 => h9) rfl dX15_entry_214 ?_
                  refine lv_aload_n hx hb dX15_entry_217 rfl (lv_at hl 4 rfl) ?_
                  refine pg_get (ci := 15) (v := .int (nI ze)) (C := RX15) (T := TX15) (N := 59) hx hb hts it_15 hown hK hP hL_h0 hF_188 rfl 3 (by decide) (hts _ kt_724) (fun _ h9 => h9) rfl dX15_entry_218 ?_
                  refine pg_aald (r := b_171) hx hb hK hP hi_166 7 hF_192 rfl (vp_in_nI (by omega) (by omega)) (show fv ((nI ze) : Int32).toNatClampNeg = _ from by rw [show ((nI ze) : Int32) = nI ze from rfl, nI_clamp (by omega)]; exact hbf_173) dX15_entry_221 ?_
                  refine lv_aload_n hx hb dX15_entry_222 rfl (lv_at hl 4 rfl) ?_
                  refine pg_get (ci := 15) (v := .ref ta) (C := RX15) (T := TX15) (N := 59) hx hb hts it_15 hown hK hP hL_h0 hF_188 rfl 0 (by decide) (hts _ kt_1006) (fun _ h9 => h9) rfl dX15_entry_223 ?_
                  refine lv_iload hx hb dX15_entry_226 (lv_at hl 2 rfl) ?_
                  refine lv_iconst (v := 1) hx hb dX15_entry_228 (by decide) ?_
                  refine lv_iadd hx hb dX15_entry_229 ?_
                  refine lv_topi (fun x_240 ex_240 => ?_)
                  obtain rfl : x_240 = (nI (j + 1)) := ex_240.trans (nI_add j 1)
                  refine lv_iload_n hx hb dX15_entry_230 rfl (lv_at hl 3 rfl) ?_
                  have hFc := pg_free hD hS hA
                  refine va_callv (va_runV (As := [.ref ta, .int (nI (j + 1)), .int (nI zt)]) (rest := []) ⟨hx, hb, hml, hown, hts⟩ (s_X14_set_e l dC dI cs ty gm L H.size F_182 b_171 (ρ + 50 + ze + 100) r_172 700 ta (ρ + 1) 3000 (j + 1) zt gt hW hi_174 ht_175 hi_79 ht_80 hF_187 (by have h9 := hn2 h51; omega) (by omega) (by have h9 := (ho1 h51).2; omega)) ⟨callB_of 3 hts (gi kt_941) rfl rfl rfl (hts _ kt_676) (hts _ kt_942) (by decide +kernel) ⟨Nat.le_of_ble_eq_true rfl, Nat.le_of_ble_eq_true rfl⟩, (hts _ kt_943), (hts _ kt_944)⟩ ⟨fun a U g mk q => ⟨q.1, PTm.calling q.2⟩, pg_recv hK hP hi_174 hF_184 (q := (RX14, TX14, 2)) rfl, fun U hU hWm => ⟨rfl, PTm.mk hU hWm hP hK hD hE hO⟩⟩ rfl rfl hl.1 rfl (lv_room (Nat.le_of_ble_eq_true rfl)) dX15_entry_231 ⟨by show _ + 0 ≤ 0; omega, by show _ + 0 ≤ 0; omega⟩) hS (fun q _ h => hFc q h) hFc (fun u t H1 locs ht hvm hw hB hz1 hk1 hS => ?_)
                  obtain ⟨F_242, fc_243, hB1, hq_244, hq_245, hq_246⟩ := hB
                  obtain ⟨hP, hD, hO, hR⟩ := QTm.back hB1 ht hFc hR (fun q h => by simp only [List.mem_cons, List.not_mem_nil, or_false] at h ⊢; omega)
                  have hF_247 : F_242 ad = .inl (cs 16, 40, .inl (upd fd ze x2)) := (hB1.2.2.2 ad (by rw [ht_86]; simp only [List.mem_cons, List.not_mem_nil, or_false]; omega)).trans hF_185
                  have hF_248 : F_242 so = .inl (cs 16, 40, .inl (upd fs ze x1)) := (hB1.2.2.2 so (by rw [ht_83]; simp only [List.mem_cons, List.not_mem_nil, or_false]; omega)).trans hF_186
                  have hF_249 : F_242 ta = .inl (cs 17, 3000, .inl gt) := (hB1.2.2.2 ta (by rw [ht_80]; simp only [List.mem_cons, List.not_mem_nil, or_false]; omega)).trans hF_187
                  have hF_250 : F_242 h0 = .inr (15, (.ref ta) :: (.int 0) :: (.int (nI zo)) :: (.int (nI ze)) :: (.ref ou) :: (.ref so) :: (.ref ad) :: (.ref na) :: (.ref va) :: (.ref lc) :: (.ref dm) :: (.int (nI fm)) :: (.int (nI sn)) :: (.ref tg) :: (.int v14_29) :: (.int v15_30) :: (.ref pe) :: (.int v17_31) :: (.int v18_32) :: (.int v19_33) :: (.int v20_34) :: (.int v21_35) :: (.int v22_36) :: (.ref ml) :: (.ref bg) :: (.ref co) :: (.ref sp) :: (.ref nb0) :: (.ref nb1) :: (.ref nb2) :: (.int (nI nf)) :: (.int (nI bd)) :: (.int (nI mm)) :: (.int v33_37) :: (.ref pl) :: (.ref se) :: (.ref ke) :: (.ref wi) :: (.ref hs) :: (.ref mo) :: (.ref po) :: (.ref nu) :: (.ref pr) :: (.ref sq) :: (.ref xa) :: (.ref sa) :: (.ref n64) :: (.ref m64) :: (.ref ex) :: (.ref wh) :: (.ref sd) :: (.ref tk) :: (.int v52_38) :: (.int v53_39) :: (.int v54_40) :: (.ref hd) :: (.ref ak) :: (.ref ho) :: (.ref ot) :: []) := (hB1.2.2.2 h0 (by rw [hT_h0]; simp only [List.mem_cons, List.not_mem_nil, or_false]; omega)).trans hF_188
                  have hF_251 : F_242 na = .inl (cs 23, 40, .inr (.inr (.inr (.inr fn)))) := (hB1.2.2.2 na (by rw [ht_138]; simp only [List.mem_cons, List.not_mem_nil, or_false]; omega)).trans hF_189
                  have hF_252 : F_242 b_142 = .inr (14, [.ref r_143, .int (nI (kend - 0))]) := (hB1.2.2.2 b_142 (by rw [ht_146]; simp only [List.mem_cons, List.not_mem_nil, or_false]; omega)).trans hF_190
                  have hF_253 : F_242 r_143 = .inl (cs 17, 60, .inl fc_157) := (hB1.2.2.2 r_143 (by rw [ht_148]; simp only [List.mem_cons, List.not_mem_nil, or_false]; omega)).trans hF_191
                  have hF_254 : F_242 va = .inl (cs 23, 40, .inr (.inr (.inr (.inr fv)))) := (hB1.2.2.2 va (by rw [ht_167]; simp only [List.mem_cons, List.not_mem_nil, or_false]; omega)).trans hF_192
                  generalize H1 = H at hP hS ⊢
                  refine lv_aload_n hx hb dX15_entry_234 rfl (lv_at hl 4 rfl) ?_
                  refine lv_dup hx hb dX15_entry_235 rfl ?_
                  refine pg_get (ci := 15) (v := .int (nI ze)) (C := RX15) (T := TX15) (N := 59) hx hb hts it_15 hown hK hP hL_h0 hF_250 rfl 3 (by decide) (hts _ kt_724) (fun _ h9 => h9) rfl dX15_entry_236 ?_
                  refine lv_iconst (v := 1) hx hb dX15_entry_239 (by decide) ?_
                  refine lv_iadd hx hb dX15_entry_240 ?_
                  refine lv_topi (fun x_255 ex_255 => ?_)
                  obtain rfl : x_255 = (nI (ze + 1)) := ex_255.trans (nI_add ze 1)
                  have htyU := hty
                  have hTU := hT_h0
                  obtain ⟨hq_256, hq_257⟩ := hW.octs hi_147 ht_148
                  obtain ⟨hq_258, hq_259⟩ := hW.octs hi_176 ht_177
                  refine pg_put (ci := 15) (v := .int (nI (ze + 1))) (ty := .int) (C := RX15) (T := TX15) (N := 59) hx hb hts it_15 tyX15 tyX15_ok nmX15 hown hK hP hD hS hL_h0 hF_250 rfl 3 (by decide) (hts _ kt_724) (fun _ h9 => h9) rfl (by decide +kernel) (rfl) (rfl) (Nat.le_of_ble_eq_true rfl) dX15_entry_241 (fun H locs hP hD hS => ?_)
                  obtain ⟨F_260, he_261, hP, hD, hR⟩ : ∃ G, G = va_up F_242 h0 (.inr (15, (.ref ta) :: (.int 0) :: (.int (nI zo)) :: (.int (nI (ze + 1))) :: (.ref ou) :: (.ref so) :: (.ref ad) :: (.ref na) :: (.ref va) :: (.ref lc) :: (.ref dm) :: (.int (nI fm)) :: (.int (nI sn)) :: (.ref tg) :: (.int v14_29) :: (.int v15_30) :: (.ref pe) :: (.int v17_31) :: (.int v18_32) :: (.int v19_33) :: (.int v20_34) :: (.int v21_35) :: (.int v22_36) :: (.ref ml) :: (.ref bg) :: (.ref co) :: (.ref sp) :: (.ref nb0) :: (.ref nb1) :: (.ref nb2) :: (.int (nI nf)) :: (.int (nI bd)) :: (.int (nI mm)) :: (.int v33_37) :: (.ref pl) :: (.ref se) :: (.ref ke) :: (.ref wi) :: (.ref hs) :: (.ref mo) :: (.ref po) :: (.ref nu) :: (.ref pr) :: (.ref sq) :: (.ref xa) :: (.ref sa) :: (.ref n64) :: (.ref m64) :: (.ref ex) :: (.ref wh) :: (.ref sd) :: (.ref tk) :: (.int v52_38) :: (.int v53_39) :: (.int v54_40) :: (.ref hd) :: (.ref ak) :: (.ref ho) :: (.ref ot) :: [])) ∧ va_P (dC, dI) vwCl (va_pl L G) H ∧ va_D A (va_pl L G) ∧ FR ty [ρ, ρ + 3, ρ + 31, ρ + 4 + ze + 100, ρ + 50 + ze + 100] F G := ⟨_, rfl, hP, hD, hR.up hT_h0 (by simp)⟩
                  have hF_262 : F_260 ta = .inl (cs 17, 3000, .inl gt) := by rw [he_261, up_ne (ne_ty ht_80 hT_h0 (by simp))]; exact hF_249
                  have hF_263 : F_260 so = .inl (cs 16, 40, .inl (upd fs ze x1)) := by rw [he_261, up_ne (ne_ty ht_83 hT_h0 (by simp))]; exact hF_248
                  have hF_264 : F_260 ad = .inl (cs 16, 40, .inl (upd fd ze x2)) := by rw [he_261, up_ne (ne_ty ht_86 hT_h0 (by simp))]; exact hF_247
                  have hF_265 : F_260 b_142 = .inr (14, [.ref r_143, .int (nI (kend - 0))]) := by rw [he_261, up_ne (ne_ty ht_146 hT_h0 (by simp))]; exact hF_252
                  have hF_266 : F_260 r_143 = .inl (cs 17, 60, .inl fc_157) := by rw [he_261, up_ne (ne_ty ht_148 hT_h0 (by simp))]; exact hF_253
                  have hF_267 : F_260 b_171 = .inr (14, [.ref r_172, .int (nI (zt - (j + 1)))]) := by rw [he_261, up_ne (ne_ty ht_175 hT_h0 (by simp))]; exact hq_244
                  have hF_268 : F_260 r_172 = .inl (cs 17, 700, .inl fc_243) := by rw [he_261, up_ne (ne_ty ht_177 hT_h0 (by simp))]; exact hq_245
                  obtain ⟨ty, hty, hT_h0, hW, hO, hR⟩ : ∃ t9 : TyM, t9 = rtf ty h0 (15, ρ, [ta, ou, so, ad, na, va, lc, dm, tg, pe, ml, bg, co, sp, nb0, nb1, nb2, pl, se, ke, wi, hs, mo, po, nu, pr, sq, xa, sa, n64, m64, ex, wh, sd, tk, hd, ak, ho, ot, sx, s0, s1, s2, nf, bd, mm, zo, fm, sn, hg, gc, gv, (ze + 1), 0]) ∧ t9 h0 = (15, ρ, [ta, ou, so, ad, na, va, lc, dm, tg, pe, ml, bg, co, sp, nb0, nb1, nb2, pl, se, ke, wi, hs, mo, po, nu, pr, sq, xa, sa, n64, m64, ex, wh, sd, tk, hd, ak, ho, ot, sx, s0, s1, s2, nf, bd, mm, zo, fm, sn, hg, gc, gv, (ze + 1), 0]) ∧ WTm t9 gm L ∧ OKm cs t9 gm L F_260 ∧ FR t9 [ρ, ρ + 3, ρ + 31, ρ + 4 + ze + 100, ρ + 50 + ze + 100] F F_260 := ⟨_, rfl, rtf_self, hW.ze hL_h0 hT_h0, (by rw [he_261]; exact OKm.retype hO hT_h0 (shm.mod rtf_self ⟨v14_29, v15_30, v17_31, v18_32, v19_33, v20_34, v21_35, v22_36, v33_37, v52_38, v53_39, v54_40, rfl, (by first | omega | assumption | exact Or.inl rfl | exact Or.inr rfl), (by first | omega | assumption | exact Or.inl rfl | exact Or.inr rfl), (by first | omega | assumption | exact Or.inl rfl | exact Or.inr rfl), (by first | omega | assumption | exact Or.inl rfl | exact Or.inr rfl), (by first | omega | assumption | exact Or.inl rfl | exact Or.inr rfl)⟩)), FR.retype hT_h0 hR⟩
                  have hF_269 : F_260 h0 = .inr (15, (.ref ta) :: (.int 0) :: (.int (nI zo)) :: (.int (nI (ze + 1))) :: (.ref ou) :: (.ref so) :: (.ref ad) :: (.ref na) :: (.ref va) :: (.ref lc) :: (.ref dm) :: (.int (nI fm)) :: (.int (nI sn)) :: (.ref tg) :: (.int v14_29) :: (.int v15_30) :: (.ref pe) :: (.int v17_31) :: (.int v18_32) :: (.int v19_33) :: (.int v20_34) :: (.int v21_35) :: (.int v22_36) :: (.ref ml) :: (.ref bg) :: (.ref co) :: (.ref sp) :: (.ref nb0) :: (.ref nb1) :: (.ref nb2) :: (.int (nI nf)) :: (.int (nI bd)) :: (.int (nI mm)) :: (.int v33_37) :: (.ref pl) :: (.ref se) :: (.ref ke) :: (.ref wi) :: (.ref hs) :: (.ref mo) :: (.ref po) :: (.ref nu) :: (.ref pr) :: (.ref sq) :: (.ref xa) :: (.ref sa) :: (.ref n64) :: (.ref m64) :: (.ref ex) :: (.ref wh) :: (.ref sd) :: (.ref tk) :: (.int v52_38) :: (.int v53_39) :: (.int v54_40) :: (.ref hd) :: (.ref ak) :: (.ref ho) :: (.ref ot) :: []) := by rw [he_261]; exact up_self
                  obtain ⟨hq_292, hq_293, hq_294, hq_295, hq_296, hgO, hgA, hgB, hq_297⟩ := hW.sc hL_h0 hT_h0
                  refine lv_aload_n hx hb dX15_entry_244 rfl (lv_at hl 4 rfl) ?_
                  refine pg_get (ci := 15) (v := .int (nI (ze + 1))) (C := RX15) (T := TX15) (N := 59) hx hb hts it_15 hown hK hP hL_h0 hF_269 rfl 3 (by decide) (hts _ kt_724) (fun _ h9 => h9) rfl dX15_entry_245 ?_
                  refine W.widen (k := 0) (n := 0) (by omega) (by omega) ?_
                  have hR0 := FR.unre hT00 htyU (FR.unre hTU hty hR)
                  have hQna := hR0 na (by rw [hTn0]; simp only [List.mem_cons, List.not_mem_nil, or_false]; omega)
                  have hQva := hR0 va (by rw [hTv0]; simp only [List.mem_cons, List.not_mem_nil, or_false]; omega)
                  exact W.iret (v := (nI (ze + 1))) hx hb hr (fun t ht hWm => ⟨⟨(nI (ze + 1)), (ze + 1), rfl, (Or.inr (Or.inr ⟨hc40, hs5.elim (fun h => val_y1 hx0 hx4 (hs5n h) (by rw [← hk0e h]; exact hn1)) (fun h => val_y2 hx0 hx4 (hs5x h) (hfst h) (by rw [← hk1e h]; exact hn1) (ho1 h).1), rfl, rfl⟩)), ⟨F_260, ty, (by rw [hty, htyU, rtf_rtf2]), QTm.mk ht hP hD hO hR, hW, ⟨(x1, x2, kend - 0, fc_157, zt - (j + 1), fc_243), DIRM.add hDM hO0 hW0 hLn0 hTn0 hLv0 hTv0 (by omega) hR0 hQna hQva (fun k hk => ⟨by simp only [List.mem_cons, List.not_mem_nil, or_false]; omega, by simp only [List.mem_cons, List.not_mem_nil, or_false]; omega⟩) hd1 hd2 hd3 hd4 hF_263 hF_264 ⟨b_142, r_143, hbf_144, hF_265, hF_266, by show kend - 0 ≤ 60; omega⟩ ⟨b_171, r_172, hbf_173, hF_267, hF_268, by show zt - (j + 1) ≤ 700; have h9 := (ho1 h51).2; omega⟩, fun _ => enx3 (hk1e h51) (hs5x h51) (hfst h51) hn1 (ho1 h51).1 hq_160 hq_246⟩⟩⟩, hS.F ht⟩) hS.2.2 dX15_entry_248
              ·
                refine lv_iload_n hx hb dX15_entry_118 rfl (lv_at hl 5 rfl) ?_
                refine lv_iconst (v := 2) hx hb dX15_entry_119 (by decide) ?_
                refine lv_icmp_ne (tgt := 138) hx hb dX15_entry_120 (by decide) (fun c_298 => ?_) (fun c_298 => ?_)
                ·
                  refine lv_iload_n hx hb dX15_entry_138 rfl (lv_at hl 5 rfl) ?_
                  refine lv_if_ne (tgt := 156) hx hb dX15_entry_139 (by decide) (fun c_299 => ?_) (fun c_299 => ?_)
                  ·
                    refine W.widen (k := 0) (n := 0) (by omega) (by omega) ?_
                    exact jn_118 () F_114 (⟨fun h => absurd (hs5x h) (fun q => q.elim c_299 c_298), hn3, hn3so, hn3ad⟩) hO hR _ _ hP hD hS ls (lv_sub hl [0, 1, 2, 3, 4, 5, 6] rfl)
                  ·
                    have h51 : s5 = 1 := hs5.resolve_left (fun q => hs5n q (Or.inl c_299))
                    have hkz := hn2 h51
                    refine lv_iload_n hx hb dX15_entry_142 rfl (lv_at hl 3 rfl) ?_
                    refine lv_iload hx hb dX15_entry_143 (lv_at hl 2 rfl) ?_
                    refine lv_isub hx hb dX15_entry_145 ?_
                    refine lv_topi (fun x_300 ex_300 => ?_)
                    obtain rfl : x_300 = (nI (zt - j)) := ex_300.trans (pk_sub (a := zt) (b := j) (by omega))
                    refine lv_iconst (v := 1) hx hb dX15_entry_146 (by decide) ?_
                    refine lv_isub hx hb dX15_entry_147 ?_
                    refine lv_topi (fun x_301 ex_301 => ?_)
                    obtain rfl : x_301 = (nI ((zt - j) - 1)) := ex_301.trans (pk_sub (a := (zt - j)) (b := 1) (by omega))
                    refine lv_sipush (v := 700) hx hb dX15_entry_148 (by decide) ?_
                    refine lv_icmp_le (tgt := 156) hx hb dX15_entry_151 (by decide) (fun c_302 => ?_) (fun c_302 => ?_)
                    ·
                      have hi_303 : ((zt - j) - 1) ≤ 700 := (nI_leI (a := ((zt - j) - 1)) (b := 700) (by omega) (by omega)).mp c_302
                      refine W.widen (k := 0) (n := 0) (by omega) (by omega) ?_
                      exact jn_118 () F_114 (⟨fun _ => ⟨⟨by omega, fun q => absurd (q.symm.trans c_299) (by decide), fun _ => by omega⟩, by omega⟩, hn3, hn3so, hn3ad⟩) hO hR _ _ hP hD hS ls (lv_sub hl [0, 1, 2, 3, 4, 5, 6] rfl)
                    ·
                      have hi_304 : 700 < ((zt - j) - 1) := Nat.not_le.mp (fun q => c_302 ((nI_leI (a := ((zt - j) - 1)) (b := 700) (by omega) (by omega)).mpr q))
                      refine lv_iconst (v := (-1)) hx hb dX15_entry_154 (by decide) ?_
                      refine W.widen (k := 0) (n := 0) (by omega) (by omega) ?_
                      have hR0 := FR.unre hT00 hty hR
                      have hQna := hR0 na (by rw [hTn0]; simp only [List.mem_cons, List.not_mem_nil, or_false]; omega)
                      have hQva := hR0 va (by rw [hTv0]; simp only [List.mem_cons, List.not_mem_nil, or_false]; omega)
                      exact W.iret (v := (-1)) hx hb hr (fun t ht hWm => ⟨⟨(-1), ze, rfl, (Or.inr (Or.inl ⟨hc40, val_nv (Or.inl c_299) (hfst h51) (fun q => absurd (q.2.2 (fun w => absurd (w.symm.trans c_299) (by decide))) (by omega)), rfl, rfl⟩)), ⟨F_114, ty, hty, QTm.mk ht hP hD hO hR, hW, ⟨(0, 0, 0, fun _ => 0, 0, fun _ => 0), DIRM.same (DIRM.fr hDM hO0 hW0 hLn0 hTn0 hLv0 hTv0 (by omega) hR0 (hn3so.trans hd1.symm) (hn3ad.trans hd2.symm) hQna hQva (fun k hk => ⟨by simp only [List.mem_cons, List.not_mem_nil, or_false]; omega, by simp only [List.mem_cons, List.not_mem_nil, or_false]; omega⟩)), fun q => absurd q (by omega)⟩⟩⟩, hS.F ht⟩) hS.2.2 dX15_entry_155
                ·
                  have h51 : s5 = 1 := hs5.resolve_left (fun q => hs5n q (Or.inr c_298))
                  have hkz := hn2 h51
                  refine lv_aload_n hx hb dX15_entry_123 rfl (lv_at hl 4 rfl) ?_
                  refine pg_get (ci := 15) (v := .ref ta) (C := RX15) (T := TX15) (N := 59) hx hb hts it_15 hown hK hP hL_h0 hn3 rfl 0 (by decide) (hts _ kt_1006) (fun _ h9 => h9) rfl dX15_entry_124 ?_
                  refine lv_iload hx hb dX15_entry_127 (lv_at hl 2 rfl) ?_
                  refine lv_iconst (v := 1) hx hb dX15_entry_129 (by decide) ?_
                  refine lv_iadd hx hb dX15_entry_130 ?_
                  refine lv_topi (fun x_305 ex_305 => ?_)
                  obtain rfl : x_305 = (nI (j + 1)) := ex_305.trans (nI_add j 1)
                  refine lv_iload_n hx hb dX15_entry_131 rfl (lv_at hl 3 rfl) ?_
                  obtain ⟨hq_306, hq_307⟩ := hW.octs hi_79 ht_80
                  have hFc := pg_free hD hS hA
                  refine va_calli (va_runS (As := [.ref ta, .int (nI (j + 1)), .int (nI zt)]) (rest := []) ⟨hx, hb, hml, hown, hts⟩ (s_X14_isName_e l dC dI cs ty gm L H.size F_114 ta (ρ + 1) 3000 (j + 1) zt gt hW hi_79 ht_80 hF_117 (by first | omega | assumption | exact Or.inl rfl) (by first | omega | assumption | exact Or.inl rfl)) ⟨callB_of 3 hts (gi kt_689) rfl rfl rfl (hts _ kt_676) (hts _ kt_848) (by decide +kernel) ⟨Nat.le_of_ble_eq_true rfl, Nat.le_of_ble_eq_true rfl⟩, (hts _ kt_691)⟩ ⟨fun a U g mk q => ⟨q.1, PTm.calling q.2⟩, fun U hU hWm => ⟨rfl, PTm.mk hU hWm hP hK hD hE hO⟩⟩ rfl rfl hl.1 rfl (lv_room (Nat.le_of_ble_eq_true rfl)) dX15_entry_132 ⟨by show _ + 0 ≤ 0; omega, by show _ + 0 ≤ 0; omega⟩) hS (fun q _ h => hFc q h) hFc (fun r_308 u t H1 locs ht hvm hw hB hz1 hk1 hS => ?_)
                  obtain ⟨F_309, hB1⟩ := hB
                  obtain rfl : F_114 = F_309 := (funext (fun a => hB1.2.2.2 a List.not_mem_nil)).symm
                  obtain ⟨hP, hD, hO, hR⟩ := QTm.back hB1 ht hFc hR (fun q h => absurd h List.not_mem_nil)
                  generalize H1 = H at hP hS ⊢
                  have hw : r_308 = (if NM gt (j + 1) zt = true then 1 else 0) := hw
                  have hw_310 := hw
                  refine lv_if_eq (tgt := 154) hx hb dX15_entry_135 (by decide) (fun c_311 => ?_) (fun c_311 => ?_)
                  ·
                    refine lv_iconst (v := (-1)) hx hb dX15_entry_154 (by decide) ?_
                    refine W.widen (k := 0) (n := 0) (by omega) (by omega) ?_
                    have hR0 := FR.unre hT00 hty hR
                    have hQna := hR0 na (by rw [hTn0]; simp only [List.mem_cons, List.not_mem_nil, or_false]; omega)
                    have hQva := hR0 va (by rw [hTv0]; simp only [List.mem_cons, List.not_mem_nil, or_false]; omega)
                    exact W.iret (v := (-1)) hx hb hr (fun t ht hWm => ⟨⟨(-1), ze, rfl, (Or.inr (Or.inl ⟨hc40, val_nv (Or.inr c_298) (hfst h51) (fun q => ifb0 hw_310 c_311 (q.2.1 c_298)), rfl, rfl⟩)), ⟨F_114, ty, hty, QTm.mk ht hP hD hO hR, hW, ⟨(0, 0, 0, fun _ => 0, 0, fun _ => 0), DIRM.same (DIRM.fr hDM hO0 hW0 hLn0 hTn0 hLv0 hTv0 (by omega) hR0 (hn3so.trans hd1.symm) (hn3ad.trans hd2.symm) hQna hQva (fun k hk => ⟨by simp only [List.mem_cons, List.not_mem_nil, or_false]; omega, by simp only [List.mem_cons, List.not_mem_nil, or_false]; omega⟩)), fun q => absurd q (by omega)⟩⟩⟩, hS.F ht⟩) hS.2.2 dX15_entry_155
                  ·
                    refine lv_iload_n hx hb dX15_entry_138 rfl (lv_at hl 5 rfl) ?_
                    refine lv_if_ne (tgt := 156) hx hb dX15_entry_139 (by decide) (fun c_312 => ?_) (fun c_312 => ?_)
                    ·
                      refine W.widen (k := 0) (n := 0) (by omega) (by omega) ?_
                      exact jn_118 () F_114 (⟨fun _ => ⟨⟨by omega, fun _ => ifb1 hw_310 c_311, fun q => absurd c_298 q⟩, by have h9 := nm_60 (ifb1 hw_310 c_311); omega⟩, hn3, hn3so, hn3ad⟩) hO hR _ _ hP hD hS ls (lv_sub hl [0, 1, 2, 3, 4, 5, 6] rfl)
                    ·
                      have h51 : s5 = 1 := hs5.resolve_left (fun q => hs5n q (Or.inl c_312))
                      have hkz := hn2 h51
                      refine lv_iload_n hx hb dX15_entry_142 rfl (lv_at hl 3 rfl) ?_
                      refine lv_iload hx hb dX15_entry_143 (lv_at hl 2 rfl) ?_
                      refine lv_isub hx hb dX15_entry_145 ?_
                      refine lv_topi (fun x_313 ex_313 => ?_)
                      obtain rfl : x_313 = (nI (zt - j)) := ex_313.trans (pk_sub (a := zt) (b := j) (by omega))
                      refine lv_iconst (v := 1) hx hb dX15_entry_146 (by decide) ?_
                      refine lv_isub hx hb dX15_entry_147 ?_
                      refine lv_topi (fun x_314 ex_314 => ?_)
                      obtain rfl : x_314 = (nI ((zt - j) - 1)) := ex_314.trans (pk_sub (a := (zt - j)) (b := 1) (by omega))
                      refine lv_sipush (v := 700) hx hb dX15_entry_148 (by decide) ?_
                      refine lv_icmp_le (tgt := 156) hx hb dX15_entry_151 (by decide) (fun c_315 => ?_) (fun c_315 => ?_)
                      ·
                        have hi_316 : ((zt - j) - 1) ≤ 700 := (nI_leI (a := ((zt - j) - 1)) (b := 700) (by omega) (by omega)).mp c_315
                        refine W.widen (k := 0) (n := 0) (by omega) (by omega) ?_
                        exact jn_118 () F_114 (⟨fun _ => ⟨⟨by omega, fun q => absurd (q.symm.trans c_312) (by decide), fun _ => by omega⟩, by omega⟩, hn3, hn3so, hn3ad⟩) hO hR _ _ hP hD hS ls (lv_sub hl [0, 1, 2, 3, 4, 5, 6] rfl)
                      ·
                        have hi_317 : 700 < ((zt - j) - 1) := Nat.not_le.mp (fun q => c_315 ((nI_leI (a := ((zt - j) - 1)) (b := 700) (by omega) (by omega)).mpr q))
                        refine lv_iconst (v := (-1)) hx hb dX15_entry_154 (by decide) ?_
                        refine W.widen (k := 0) (n := 0) (by omega) (by omega) ?_
                        have hR0 := FR.unre hT00 hty hR
                        have hQna := hR0 na (by rw [hTn0]; simp only [List.mem_cons, List.not_mem_nil, or_false]; omega)
                        have hQva := hR0 va (by rw [hTv0]; simp only [List.mem_cons, List.not_mem_nil, or_false]; omega)
                        exact W.iret (v := (-1)) hx hb hr (fun t ht hWm => ⟨⟨(-1), ze, rfl, (Or.inr (Or.inl ⟨hc40, val_nv (Or.inl c_312) (hfst h51) (fun q => absurd (q.2.2 (fun w => absurd (w.symm.trans c_312) (by decide))) (by omega)), rfl, rfl⟩)), ⟨F_114, ty, hty, QTm.mk ht hP hD hO hR, hW, ⟨(0, 0, 0, fun _ => 0, 0, fun _ => 0), DIRM.same (DIRM.fr hDM hO0 hW0 hLn0 hTn0 hLv0 hTv0 (by omega) hR0 (hn3so.trans hd1.symm) (hn3ad.trans hd2.symm) hQna hQva (fun k hk => ⟨by simp only [List.mem_cons, List.not_mem_nil, or_false]; omega, by simp only [List.mem_cons, List.not_mem_nil, or_false]; omega⟩)), fun q => absurd q (by omega)⟩⟩⟩, hS.F ht⟩) hS.2.2 dX15_entry_155
            ·
              refine lv_iload hx hb dX15_entry_92 (lv_at hl 1 rfl) ?_
              refine lv_if_eq (tgt := 103) hx hb dX15_entry_94 (by decide) (fun c_318 => ?_) (fun c_318 => ?_)
              ·
                refine lv_aload_n hx hb dX15_entry_103 rfl (lv_at hl 4 rfl) ?_
                refine pg_get (ci := 15) (v := .ref ta) (C := RX15) (T := TX15) (N := 59) hx hb hts it_15 hown hK hP hL_h0 hb2 rfl 0 (by decide) (hts _ kt_1006) (fun _ h9 => h9) rfl dX15_entry_104 ?_
                refine lv_iconst (v := 0) hx hb dX15_entry_107 (by decide) ?_
                refine lv_iload hx hb dX15_entry_108 (lv_at hl 0 rfl) ?_
                refine W.eq (g2 := F0 m 110 ls [.int (nI kend), .int (nI 0), .ref ta]) rfl ?_
                obtain ⟨hq_319, hq_320⟩ := hW.octs hi_79 ht_80
                have hFc := pg_free hD hS hA
                refine va_calli (va_runS (As := [.ref ta, .int (nI 0), .int (nI kend)]) (rest := []) ⟨hx, hb, hml, hown, hts⟩ (s_X14_isName_e l dC dI cs ty gm L H.size F_109 ta (ρ + 1) 3000 0 kend gt hW hi_79 ht_80 hF_112 (by first | omega | assumption | exact Or.inl rfl) (by first | omega | assumption | exact Or.inl rfl)) ⟨callB_of 3 hts (gi kt_689) rfl rfl rfl (hts _ kt_676) (hts _ kt_848) (by decide +kernel) ⟨Nat.le_of_ble_eq_true rfl, Nat.le_of_ble_eq_true rfl⟩, (hts _ kt_691)⟩ ⟨fun a U g mk q => ⟨q.1, PTm.calling q.2⟩, fun U hU hWm => ⟨rfl, PTm.mk hU hWm hP hK hD hE hO⟩⟩ rfl rfl hl.1 rfl (lv_room (Nat.le_of_ble_eq_true rfl)) dX15_entry_110 ⟨by show _ + 0 ≤ 0; omega, by show _ + 0 ≤ 0; omega⟩) hS (fun q _ h => hFc q h) hFc (fun r_321 u t H1 locs ht hvm hw hB hz1 hk1 hS => ?_)
                obtain ⟨F_322, hB1⟩ := hB
                obtain rfl : F_109 = F_322 := (funext (fun a => hB1.2.2.2 a List.not_mem_nil)).symm
                obtain ⟨hP, hD, hO, hR⟩ := QTm.back hB1 ht hFc hR (fun q h => absurd h List.not_mem_nil)
                generalize H1 = H at hP hS ⊢
                have hw : r_321 = (if NM gt 0 kend = true then 1 else 0) := hw
                have hw_323 := hw
                refine lv_if_ne (tgt := 118) hx hb dX15_entry_113 (by decide) (fun c_324 => ?_) (fun c_324 => ?_)
                ·
                  refine W.widen (k := 0) (n := 0) (by omega) (by omega) ?_
                  exact jn_113 () F_109 (⟨ifb1 hw_323 c_324, nm_60 (ifb1 hw_323 c_324), fun h => absurd (h.symm.trans c_318) (by decide), hb2, hb2so, hb2ad⟩) hO hR _ _ hP hD hS ls (lv_sub hl [0, 1, 2, 3, 4, 5, 6] rfl)
                ·
                  refine lv_iconst (v := (-1)) hx hb dX15_entry_116 (by decide) ?_
                  refine W.widen (k := 0) (n := 0) (by omega) (by omega) ?_
                  have hR0 := FR.unre hT00 hty hR
                  have hQna := hR0 na (by rw [hTn0]; simp only [List.mem_cons, List.not_mem_nil, or_false]; omega)
                  have hQva := hR0 va (by rw [hTv0]; simp only [List.mem_cons, List.not_mem_nil, or_false]; omega)
                  exact W.iret (v := (-1)) hx hb hr (fun t ht hWm => ⟨⟨(-1), ze, rfl, (Or.inr (Or.inl ⟨hc40, val_nz (hs5n c_318) (by rw [← hk0e c_318]; exact (ifb0 hw_323 c_324)), rfl, rfl⟩)), ⟨F_109, ty, hty, QTm.mk ht hP hD hO hR, hW, ⟨(0, 0, 0, fun _ => 0, 0, fun _ => 0), DIRM.same (DIRM.fr hDM hO0 hW0 hLn0 hTn0 hLv0 hTv0 (by omega) hR0 (hb2so.trans hd1.symm) (hb2ad.trans hd2.symm) hQna hQva (fun k hk => ⟨by simp only [List.mem_cons, List.not_mem_nil, or_false]; omega, by simp only [List.mem_cons, List.not_mem_nil, or_false]; omega⟩)), fun q => absurd q (by omega)⟩⟩⟩, hS.F ht⟩) hS.2.2 dX15_entry_117
              ·
                refine lv_iload hx hb dX15_entry_97 (lv_at hl 2 rfl) ?_
                refine lv_iload_n hx hb dX15_entry_99 rfl (lv_at hl 3 rfl) ?_
                refine lv_icmp_eq (tgt := 116) hx hb dX15_entry_100 (by decide) (fun c_325 => ?_) (fun c_325 => ?_)
                ·
                  have hi_326 : j = zt := (nI_eq (a := j) (b := zt) (by omega) (by omega)).mp c_325
                  refine lv_iconst (v := (-1)) hx hb dX15_entry_116 (by decide) ?_
                  refine W.widen (k := 0) (n := 0) (by omega) (by omega) ?_
                  have hR0 := FR.unre hT00 hty hR
                  have hQna := hR0 na (by rw [hTn0]; simp only [List.mem_cons, List.not_mem_nil, or_false]; omega)
                  have hQva := hR0 va (by rw [hTv0]; simp only [List.mem_cons, List.not_mem_nil, or_false]; omega)
                  exact W.iret (v := (-1)) hx hb hr (fun t ht hWm => ⟨⟨(-1), ze, rfl, (Or.inr (Or.inl ⟨hc40, val_nv (hs5x (hs5.resolve_left c_318)) (hfst (hs5.resolve_left c_318)) (fun q => q.1 (by omega)), rfl, rfl⟩)), ⟨F_109, ty, hty, QTm.mk ht hP hD hO hR, hW, ⟨(0, 0, 0, fun _ => 0, 0, fun _ => 0), DIRM.same (DIRM.fr hDM hO0 hW0 hLn0 hTn0 hLv0 hTv0 (by omega) hR0 (hb2so.trans hd1.symm) (hb2ad.trans hd2.symm) hQna hQva (fun k hk => ⟨by simp only [List.mem_cons, List.not_mem_nil, or_false]; omega, by simp only [List.mem_cons, List.not_mem_nil, or_false]; omega⟩)), fun q => absurd q (by omega)⟩⟩⟩, hS.F ht⟩) hS.2.2 dX15_entry_117
                ·
                  have hi_327 : j ≠ zt := fun q => c_325 (by rw [q])
                  refine lv_aload_n hx hb dX15_entry_103 rfl (lv_at hl 4 rfl) ?_
                  refine pg_get (ci := 15) (v := .ref ta) (C := RX15) (T := TX15) (N := 59) hx hb hts it_15 hown hK hP hL_h0 hb2 rfl 0 (by decide) (hts _ kt_1006) (fun _ h9 => h9) rfl dX15_entry_104 ?_
                  refine lv_iconst (v := 0) hx hb dX15_entry_107 (by decide) ?_
                  refine lv_iload hx hb dX15_entry_108 (lv_at hl 0 rfl) ?_
                  refine W.eq (g2 := F0 m 110 ls [.int (nI kend), .int (nI 0), .ref ta]) rfl ?_
                  obtain ⟨hq_328, hq_329⟩ := hW.octs hi_79 ht_80
                  have hFc := pg_free hD hS hA
                  refine va_calli (va_runS (As := [.ref ta, .int (nI 0), .int (nI kend)]) (rest := []) ⟨hx, hb, hml, hown, hts⟩ (s_X14_isName_e l dC dI cs ty gm L H.size F_109 ta (ρ + 1) 3000 0 kend gt hW hi_79 ht_80 hF_112 (by first | omega | assumption | exact Or.inl rfl) (by first | omega | assumption | exact Or.inl rfl)) ⟨callB_of 3 hts (gi kt_689) rfl rfl rfl (hts _ kt_676) (hts _ kt_848) (by decide +kernel) ⟨Nat.le_of_ble_eq_true rfl, Nat.le_of_ble_eq_true rfl⟩, (hts _ kt_691)⟩ ⟨fun a U g mk q => ⟨q.1, PTm.calling q.2⟩, fun U hU hWm => ⟨rfl, PTm.mk hU hWm hP hK hD hE hO⟩⟩ rfl rfl hl.1 rfl (lv_room (Nat.le_of_ble_eq_true rfl)) dX15_entry_110 ⟨by show _ + 0 ≤ 0; omega, by show _ + 0 ≤ 0; omega⟩) hS (fun q _ h => hFc q h) hFc (fun r_330 u t H1 locs ht hvm hw hB hz1 hk1 hS => ?_)
                  obtain ⟨F_331, hB1⟩ := hB
                  obtain rfl : F_109 = F_331 := (funext (fun a => hB1.2.2.2 a List.not_mem_nil)).symm
                  obtain ⟨hP, hD, hO, hR⟩ := QTm.back hB1 ht hFc hR (fun q h => absurd h List.not_mem_nil)
                  generalize H1 = H at hP hS ⊢
                  have hw : r_330 = (if NM gt 0 kend = true then 1 else 0) := hw
                  have hw_332 := hw
                  refine lv_if_ne (tgt := 118) hx hb dX15_entry_113 (by decide) (fun c_333 => ?_) (fun c_333 => ?_)
                  ·
                    refine W.widen (k := 0) (n := 0) (by omega) (by omega) ?_
                    exact jn_113 () F_109 (⟨ifb1 hw_332 c_333, nm_60 (ifb1 hw_332 c_333), fun _ => by omega, hb2, hb2so, hb2ad⟩) hO hR _ _ hP hD hS ls (lv_sub hl [0, 1, 2, 3, 4, 5, 6] rfl)
                  ·
                    refine lv_iconst (v := (-1)) hx hb dX15_entry_116 (by decide) ?_
                    refine W.widen (k := 0) (n := 0) (by omega) (by omega) ?_
                    have hR0 := FR.unre hT00 hty hR
                    have hQna := hR0 na (by rw [hTn0]; simp only [List.mem_cons, List.not_mem_nil, or_false]; omega)
                    have hQva := hR0 va (by rw [hTv0]; simp only [List.mem_cons, List.not_mem_nil, or_false]; omega)
                    exact W.iret (v := (-1)) hx hb hr (fun t ht hWm => ⟨⟨(-1), ze, rfl, (Or.inr (Or.inl ⟨hc40, val_nn (hs5x (hs5.resolve_left c_318)) (hfst (hs5.resolve_left c_318)) (by rw [← hk1e (hs5.resolve_left c_318)]; exact (ifb0 hw_332 c_333)), rfl, rfl⟩)), ⟨F_109, ty, hty, QTm.mk ht hP hD hO hR, hW, ⟨(0, 0, 0, fun _ => 0, 0, fun _ => 0), DIRM.same (DIRM.fr hDM hO0 hW0 hLn0 hTn0 hLv0 hTv0 (by omega) hR0 (hb2so.trans hd1.symm) (hb2ad.trans hd2.symm) hQna hQva (fun k hk => ⟨by simp only [List.mem_cons, List.not_mem_nil, or_false]; omega, by simp only [List.mem_cons, List.not_mem_nil, or_false]; omega⟩)), fun q => absurd q (by omega)⟩⟩⟩, hS.F ht⟩) hS.2.2 dX15_entry_117
          ·
            refine lv_iload hx hb dX15_entry_79 (lv_at hl 0 rfl) ?_
            refine lv_if_eq (tgt := 89) hx hb dX15_entry_81 (by decide) (fun c_334 => ?_) (fun c_334 => ?_)
            ·
              refine lv_iload_n hx hb dX15_entry_89 rfl (lv_at hl 2 rfl) ?_
              refine W.widen (k := 0) (n := 0) (by omega) (by omega) ?_
              exact jn_108 (nI zt) F_102 (⟨⟨zt, Nat.le_refl _, rfl, fun h => absurd (h.symm.trans c_334) (by decide), fun _ => rfl⟩, ha2, ha2so, ha2ad⟩) hO hR _ _ hP hD hS ls (lv_sub hl [0, 1, 2, 3, 4, 5] rfl)
            ·
              refine lv_iload hx hb dX15_entry_84 (lv_at hl 1 rfl) ?_
              refine lv_goto (tgt := 90) hx hb dX15_entry_86 (by decide) ?_
              refine W.widen (k := 0) (n := 0) (by omega) (by omega) ?_
              exact jn_108 (nI j) F_102 (⟨⟨j, by omega, rfl, fun _ => rfl, fun h => absurd h c_334⟩, ha2, ha2so, ha2ad⟩) hO hR _ _ hP hD hS ls (lv_sub hl [0, 1, 2, 3, 4, 5] rfl)
        ·
          refine lv_iload hx hb dX15_entry_55 (lv_at hl 1 rfl) ?_
          refine lv_iload_n hx hb dX15_entry_57 rfl (lv_at hl 2 rfl) ?_
          refine lv_icmp_ge (tgt := 79) hx hb dX15_entry_58 (by decide) (fun c_335 => ?_) (fun c_335 => ?_)
          ·
            have hi_336 : zt ≤ j := leN (N := zt) c_335
            have hfst : s5 = 1 → FST gt 32 zt j := fun _ => ⟨by omega, ha3, Or.inl (by omega)⟩
            have hF_339 : F ta = .inl (cs 17, 3000, .inl gt) := (hR ta (by rw [ht_80]; simp only [List.mem_cons, List.not_mem_nil, or_false]; omega)).symm.trans hF_106
            refine W.widen (k := 0) (n := 0) (by omega) (by omega) ?_
            refine pl_cutm (σ := Int32) A (dC, dI) cs ty gm L [ρ, ρ + 3, ρ + 31, ρ + 4 + ze + 100, ρ + 50 + ze + 100] F 90 7 (fun s6 => [(5, .int s5), (4, .int (nI j)), (3, .int (nI zt)), (0, .ref h0), (1, .int x1), (2, .int x2)]) (fun s6 => [.int s6]) (fun s6 FF => (∃ k : Nat, k ≤ zt ∧ s6 = nI k ∧ (s5 = 1 → k = j) ∧ (s5 = 0 → k = zt)) ∧ FF h0 = .inr (15, (.ref ta) :: (.int 0) :: (.int (nI zo)) :: (.int (nI ze)) :: (.ref ou) :: (.ref so) :: (.ref ad) :: (.ref na) :: (.ref va) :: (.ref lc) :: (.ref dm) :: (.int (nI fm)) :: (.int (nI sn)) :: (.ref tg) :: (.int v14_29) :: (.int v15_30) :: (.ref pe) :: (.int v17_31) :: (.int v18_32) :: (.int v19_33) :: (.int v20_34) :: (.int v21_35) :: (.int v22_36) :: (.ref ml) :: (.ref bg) :: (.ref co) :: (.ref sp) :: (.ref nb0) :: (.ref nb1) :: (.ref nb2) :: (.int (nI nf)) :: (.int (nI bd)) :: (.int (nI mm)) :: (.int v33_37) :: (.ref pl) :: (.ref se) :: (.ref ke) :: (.ref wi) :: (.ref hs) :: (.ref mo) :: (.ref po) :: (.ref nu) :: (.ref pr) :: (.ref sq) :: (.ref xa) :: (.ref sa) :: (.ref n64) :: (.ref m64) :: (.ref ex) :: (.ref wh) :: (.ref sd) :: (.ref tk) :: (.int v52_38) :: (.int v53_39) :: (.int v54_40) :: (.ref hd) :: (.ref ak) :: (.ref ho) :: (.ref ot) :: []) ∧ FF so = .inl (cs 16, 40, .inl fs) ∧ FF ad = .inl (cs 16, 40, .inl fd)) ?_ (fun jn_337 => ?_)
            ·
              rintro s6 F_338 hv_340 hO hR H locs hP hD hS ls hl
              have hl : lv_has ls 7 [(5, .int s5), (4, .int (nI j)), (3, .int (nI zt)), (0, .ref h0), (1, .int x1), (2, .int x2)] := hl
              have hv_340 : (∃ k : Nat, k ≤ zt ∧ s6 = nI k ∧ (s5 = 1 → k = j) ∧ (s5 = 0 → k = zt)) ∧ F_338 h0 = .inr (15, (.ref ta) :: (.int 0) :: (.int (nI zo)) :: (.int (nI ze)) :: (.ref ou) :: (.ref so) :: (.ref ad) :: (.ref na) :: (.ref va) :: (.ref lc) :: (.ref dm) :: (.int (nI fm)) :: (.int (nI sn)) :: (.ref tg) :: (.int v14_29) :: (.int v15_30) :: (.ref pe) :: (.int v17_31) :: (.int v18_32) :: (.int v19_33) :: (.int v20_34) :: (.int v21_35) :: (.int v22_36) :: (.ref ml) :: (.ref bg) :: (.ref co) :: (.ref sp) :: (.ref nb0) :: (.ref nb1) :: (.ref nb2) :: (.int (nI nf)) :: (.int (nI bd)) :: (.int (nI mm)) :: (.int v33_37) :: (.ref pl) :: (.ref se) :: (.ref ke) :: (.ref wi) :: (.ref hs) :: (.ref mo) :: (.ref po) :: (.ref nu) :: (.ref pr) :: (.ref sq) :: (.ref xa) :: (.ref sa) :: (.ref n64) :: (.ref m64) :: (.ref ex) :: (.ref wh) :: (.ref sd) :: (.ref tk) :: (.int v52_38) :: (.int v53_39) :: (.int v54_40) :: (.ref hd) :: (.ref ak) :: (.ref ho) :: (.ref ot) :: []) ∧ F_338 so = .inl (cs 16, 40, .inl fs) ∧ F_338 ad = .inl (cs 16, 40, .inl fd) := hv_340
              refine W.eq (g2 := F0 m 90 ls [.int s6]) rfl ?_
              have hF_341 : F_338 ta = .inl (cs 17, 3000, .inl gt) := (hR ta (by rw [ht_80]; simp only [List.mem_cons, List.not_mem_nil, or_false]; omega)).trans hF_339
              obtain ⟨⟨kend, hke, eke, hk1e, hk0e⟩, hb2⟩ := hv_340
              subst eke
              refine W.eq (g2 := F0 m 90 ls [.int (nI kend)]) rfl ?_
              obtain ⟨hb2, hb2so, hb2ad⟩ := hb2
              refine lv_istore (lv' := [(6, .int (nI kend)), (5, .int s5), (4, .int (nI j)), (3, .int (nI zt)), (0, .ref h0), (1, .int x1), (2, .int x2)]) hx hb dX15_entry_90 hl (by decide) rfl (fun ls hl => ?_)
              have hF_344 : F ta = .inl (cs 17, 3000, .inl gt) := (hR ta (by rw [ht_80]; simp only [List.mem_cons, List.not_mem_nil, or_false]; omega)).symm.trans hF_341
              refine W.widen (k := 0) (n := 0) (by omega) (by omega) ?_
              refine pl_cutm (σ := Unit) A (dC, dI) cs ty gm L [ρ, ρ + 3, ρ + 31, ρ + 4 + ze + 100, ρ + 50 + ze + 100] F 118 7 (fun u0 => [(6, .int (nI kend)), (5, .int s5), (4, .int (nI j)), (3, .int (nI zt)), (0, .ref h0), (1, .int x1), (2, .int x2)]) (fun u0 => []) (fun u0 FF => NM gt 0 kend = true ∧ kend ≤ 60 ∧ (s5 = 1 → j < zt) ∧ FF h0 = .inr (15, (.ref ta) :: (.int 0) :: (.int (nI zo)) :: (.int (nI ze)) :: (.ref ou) :: (.ref so) :: (.ref ad) :: (.ref na) :: (.ref va) :: (.ref lc) :: (.ref dm) :: (.int (nI fm)) :: (.int (nI sn)) :: (.ref tg) :: (.int v14_29) :: (.int v15_30) :: (.ref pe) :: (.int v17_31) :: (.int v18_32) :: (.int v19_33) :: (.int v20_34) :: (.int v21_35) :: (.int v22_36) :: (.ref ml) :: (.ref bg) :: (.ref co) :: (.ref sp) :: (.ref nb0) :: (.ref nb1) :: (.ref nb2) :: (.int (nI nf)) :: (.int (nI bd)) :: (.int (nI mm)) :: (.int v33_37) :: (.ref pl) :: (.ref se) :: (.ref ke) :: (.ref wi) :: (.ref hs) :: (.ref mo) :: (.ref po) :: (.ref nu) :: (.ref pr) :: (.ref sq) :: (.ref xa) :: (.ref sa) :: (.ref n64) :: (.ref m64) :: (.ref ex) :: (.ref wh) :: (.ref sd) :: (.ref tk) :: (.int v52_38) :: (.int v53_39) :: (.int v54_40) :: (.ref hd) :: (.ref ak) :: (.ref ho) :: (.ref ot) :: []) ∧ FF so = .inl (cs 16, 40, .inl fs) ∧ FF ad = .inl (cs 16, 40, .inl fd)) ?_ (fun jn_342 => ?_)
              ·
                rintro u0 F_343 hv_345 hO hR H locs hP hD hS ls hl
                have hl : lv_has ls 7 [(6, .int (nI kend)), (5, .int s5), (4, .int (nI j)), (3, .int (nI zt)), (0, .ref h0), (1, .int x1), (2, .int x2)] := hl
                have hv_345 : NM gt 0 kend = true ∧ kend ≤ 60 ∧ (s5 = 1 → j < zt) ∧ F_343 h0 = .inr (15, (.ref ta) :: (.int 0) :: (.int (nI zo)) :: (.int (nI ze)) :: (.ref ou) :: (.ref so) :: (.ref ad) :: (.ref na) :: (.ref va) :: (.ref lc) :: (.ref dm) :: (.int (nI fm)) :: (.int (nI sn)) :: (.ref tg) :: (.int v14_29) :: (.int v15_30) :: (.ref pe) :: (.int v17_31) :: (.int v18_32) :: (.int v19_33) :: (.int v20_34) :: (.int v21_35) :: (.int v22_36) :: (.ref ml) :: (.ref bg) :: (.ref co) :: (.ref sp) :: (.ref nb0) :: (.ref nb1) :: (.ref nb2) :: (.int (nI nf)) :: (.int (nI bd)) :: (.int (nI mm)) :: (.int v33_37) :: (.ref pl) :: (.ref se) :: (.ref ke) :: (.ref wi) :: (.ref hs) :: (.ref mo) :: (.ref po) :: (.ref nu) :: (.ref pr) :: (.ref sq) :: (.ref xa) :: (.ref sa) :: (.ref n64) :: (.ref m64) :: (.ref ex) :: (.ref wh) :: (.ref sd) :: (.ref tk) :: (.int v52_38) :: (.int v53_39) :: (.int v54_40) :: (.ref hd) :: (.ref ak) :: (.ref ho) :: (.ref ot) :: []) ∧ F_343 so = .inl (cs 16, 40, .inl fs) ∧ F_343 ad = .inl (cs 16, 40, .inl fd) := hv_345
                refine W.eq (g2 := F0 m 118 ls []) rfl ?_
                have hF_346 : F_343 ta = .inl (cs 17, 3000, .inl gt) := (hR ta (by rw [ht_80]; simp only [List.mem_cons, List.not_mem_nil, or_false]; omega)).trans hF_344
                obtain ⟨hn1, hn6, hn2, hn3⟩ := hv_345
                obtain ⟨hn3, hn3so, hn3ad⟩ := hn3
                have hF_349 : F ta = .inl (cs 17, 3000, .inl gt) := (hR ta (by rw [ht_80]; simp only [List.mem_cons, List.not_mem_nil, or_false]; omega)).symm.trans hF_346
                refine W.widen (k := 0) (n := 0) (by omega) (by omega) ?_
                refine pl_cutm (σ := Unit) A (dC, dI) cs ty gm L [ρ, ρ + 3, ρ + 31, ρ + 4 + ze + 100, ρ + 50 + ze + 100] F 156 7 (fun u0 => [(6, .int (nI kend)), (5, .int s5), (4, .int (nI j)), (3, .int (nI zt)), (0, .ref h0), (1, .int x1), (2, .int x2)]) (fun u0 => []) (fun u0 FF => (s5 = 1 → ISV x1 gt zt j ∧ zt - j - 1 ≤ 700) ∧ FF h0 = .inr (15, (.ref ta) :: (.int 0) :: (.int (nI zo)) :: (.int (nI ze)) :: (.ref ou) :: (.ref so) :: (.ref ad) :: (.ref na) :: (.ref va) :: (.ref lc) :: (.ref dm) :: (.int (nI fm)) :: (.int (nI sn)) :: (.ref tg) :: (.int v14_29) :: (.int v15_30) :: (.ref pe) :: (.int v17_31) :: (.int v18_32) :: (.int v19_33) :: (.int v20_34) :: (.int v21_35) :: (.int v22_36) :: (.ref ml) :: (.ref bg) :: (.ref co) :: (.ref sp) :: (.ref nb0) :: (.ref nb1) :: (.ref nb2) :: (.int (nI nf)) :: (.int (nI bd)) :: (.int (nI mm)) :: (.int v33_37) :: (.ref pl) :: (.ref se) :: (.ref ke) :: (.ref wi) :: (.ref hs) :: (.ref mo) :: (.ref po) :: (.ref nu) :: (.ref pr) :: (.ref sq) :: (.ref xa) :: (.ref sa) :: (.ref n64) :: (.ref m64) :: (.ref ex) :: (.ref wh) :: (.ref sd) :: (.ref tk) :: (.int v52_38) :: (.int v53_39) :: (.int v54_40) :: (.ref hd) :: (.ref ak) :: (.ref ho) :: (.ref ot) :: []) ∧ FF so = .inl (cs 16, 40, .inl fs) ∧ FF ad = .inl (cs 16, 40, .inl fd)) ?_ (fun jn_347 => ?_)
                ·
                  rintro u0 F_348 hv_350 hO hR H locs hP hD hS ls hl
                  have hl : lv_has ls 7 [(6, .int (nI kend)), (5, .int s5), (4, .int (nI j)), (3, .int (nI zt)), (0, .ref h0), (1, .int x1), (2, .int x2)] := hl
                  have hv_350 : (s5 = 1 → ISV x1 gt zt j ∧ zt - j - 1 ≤ 700) ∧ F_348 h0 = .inr (15, (.ref ta) :: (.int 0) :: (.int (nI zo)) :: (.int (nI ze)) :: (.ref ou) :: (.ref so) :: (.ref ad) :: (.ref na) :: (.ref va) :: (.ref lc) :: (.ref dm) :: (.int (nI fm)) :: (.int (nI sn)) :: (.ref tg) :: (.int v14_29) :: (.int v15_30) :: (.ref pe) :: (.int v17_31) :: (.int v18_32) :: (.int v19_33) :: (.int v20_34) :: (.int v21_35) :: (.int v22_36) :: (.ref ml) :: (.ref bg) :: (.ref co) :: (.ref sp) :: (.ref nb0) :: (.ref nb1) :: (.ref nb2) :: (.int (nI nf)) :: (.int (nI bd)) :: (.int (nI mm)) :: (.int v33_37) :: (.ref pl) :: (.ref se) :: (.ref ke) :: (.ref wi) :: (.ref hs) :: (.ref mo) :: (.ref po) :: (.ref nu) :: (.ref pr) :: (.ref sq) :: (.ref xa) :: (.ref sa) :: (.ref n64) :: (.ref m64) :: (.ref ex) :: (.ref wh) :: (.ref sd) :: (.ref tk) :: (.int v52_38) :: (.int v53_39) :: (.int v54_40) :: (.ref hd) :: (.ref ak) :: (.ref ho) :: (.ref ot) :: []) ∧ F_348 so = .inl (cs 16, 40, .inl fs) ∧ F_348 ad = .inl (cs 16, 40, .inl fd) := hv_350
                  refine W.eq (g2 := F0 m 156 ls []) rfl ?_
                  have hF_351 : F_348 ta = .inl (cs 17, 3000, .inl gt) := (hR ta (by rw [ht_80]; simp only [List.mem_cons, List.not_mem_nil, or_false]; omega)).trans hF_349
                  obtain ⟨ho1, ho2⟩ := hv_350
                  obtain ⟨ho2, ho2so, ho2ad⟩ := ho2
                  refine lv_aload_n hx hb dX15_entry_156 rfl (lv_at hl 4 rfl) ?_
                  refine pg_get (ci := 15) (v := .ref so) (C := RX15) (T := TX15) (N := 59) hx hb hts it_15 hown hK hP hL_h0 ho2 rfl 5 (by decide) (hts _ kt_718) (fun _ h9 => h9) rfl dX15_entry_157 ?_
                  refine lv_aload_n hx hb dX15_entry_160 rfl (lv_at hl 4 rfl) ?_
                  refine pg_get (ci := 15) (v := .int (nI ze)) (C := RX15) (T := TX15) (N := 59) hx hb hts it_15 hown hK hP hL_h0 ho2 rfl 3 (by decide) (hts _ kt_724) (fun _ h9 => h9) rfl dX15_entry_161 ?_
                  refine lv_iload_n hx hb dX15_entry_164 rfl (lv_at hl 5 rfl) ?_
                  refine pg_iast hx hb hK hP hD hS hi_82 0 ho2so rfl (vp_in_nI (by omega) (by omega)) dX15_entry_165 (fun H locs hP hD hS => ?_)
                  obtain ⟨F_352, he_353, hP, hD, hO, hR⟩ : ∃ G, G = va_up F_348 so (.inl (cs 16, 40, .inl (upd fs ((nI ze)).toNatClampNeg (x1)))) ∧ va_P (dC, dI) vwCl (va_pl L G) H ∧ va_D A (va_pl L G) ∧ OKm cs ty gm L G ∧ FR ty [ρ, ρ + 3, ρ + 31, ρ + 4 + ze + 100, ρ + 50 + ze + 100] F G := ⟨_, rfl, hP, hD, hO.up (shm.ints ht_83 ⟨_, rfl⟩), hR.up ht_83 (by simp)⟩
                  have hF_354 : F_352 so = .inl (cs 16, 40, .inl (upd fs ((nI ze)).toNatClampNeg (x1))) := by rw [he_353]; exact up_self
                  have hF_355 : F_352 ta = .inl (cs 17, 3000, .inl gt) := by rw [he_353, up_ne (ne_ty ht_80 ht_83 (by simp))]; exact hF_351
                  have hF_356 : F_352 h0 = .inr (15, (.ref ta) :: (.int 0) :: (.int (nI zo)) :: (.int (nI ze)) :: (.ref ou) :: (.ref so) :: (.ref ad) :: (.ref na) :: (.ref va) :: (.ref lc) :: (.ref dm) :: (.int (nI fm)) :: (.int (nI sn)) :: (.ref tg) :: (.int v14_29) :: (.int v15_30) :: (.ref pe) :: (.int v17_31) :: (.int v18_32) :: (.int v19_33) :: (.int v20_34) :: (.int v21_35) :: (.int v22_36) :: (.ref ml) :: (.ref bg) :: (.ref co) :: (.ref sp) :: (.ref nb0) :: (.ref nb1) :: (.ref nb2) :: (.int (nI nf)) :: (.int (nI bd)) :: (.int (nI mm)) :: (.int v33_37) :: (.ref pl) :: (.ref se) :: (.ref ke) :: (.ref wi) :: (.ref hs) :: (.ref mo) :: (.ref po) :: (.ref nu) :: (.ref pr) :: (.ref sq) :: (.ref xa) :: (.ref sa) :: (.ref n64) :: (.ref m64) :: (.ref ex) :: (.ref wh) :: (.ref sd) :: (.ref tk) :: (.int v52_38) :: (.int v53_39) :: (.int v54_40) :: (.ref hd) :: (.ref ak) :: (.ref ho) :: (.ref ot) :: []) := by rw [he_353, up_ne (ne_ty hT_h0 ht_83 (by simp))]; exact ho2
                  have hF_357 : F_352 ad = .inl (cs 16, 40, .inl fd) := by rw [he_353, up_ne (ne_ty2 ht_86 ht_83 (by simp))]; exact ho2ad
                  have hF_358 : F_352 so = .inl (cs 16, 40, .inl (upd fs ze x1)) := by have h9 := hF_354; rwa [nI_clamp (by omega)] at h9
                  refine lv_aload_n hx hb dX15_entry_166 rfl (lv_at hl 4 rfl) ?_
                  refine pg_get (ci := 15) (v := .ref ad) (C := RX15) (T := TX15) (N := 59) hx hb hts it_15 hown hK hP hL_h0 hF_356 rfl 6 (by decide) (hts _ kt_740) (fun _ h9 => h9) rfl dX15_entry_167 ?_
                  refine lv_aload_n hx hb dX15_entry_170 rfl (lv_at hl 4 rfl) ?_
                  refine pg_get (ci := 15) (v := .int (nI ze)) (C := RX15) (T := TX15) (N := 59) hx hb hts it_15 hown hK hP hL_h0 hF_356 rfl 3 (by decide) (hts _ kt_724) (fun _ h9 => h9) rfl dX15_entry_171 ?_
                  refine lv_iload_n hx hb dX15_entry_174 rfl (lv_at hl 6 rfl) ?_
                  refine pg_iast hx hb hK hP hD hS hi_85 0 hF_357 rfl (vp_in_nI (by omega) (by omega)) dX15_entry_175 (fun H locs hP hD hS => ?_)
                  obtain ⟨F_359, he_360, hP, hD, hO, hR⟩ : ∃ G, G = va_up F_352 ad (.inl (cs 16, 40, .inl (upd fd ((nI ze)).toNatClampNeg (x2)))) ∧ va_P (dC, dI) vwCl (va_pl L G) H ∧ va_D A (va_pl L G) ∧ OKm cs ty gm L G ∧ FR ty [ρ, ρ + 3, ρ + 31, ρ + 4 + ze + 100, ρ + 50 + ze + 100] F G := ⟨_, rfl, hP, hD, hO.up (shm.ints ht_86 ⟨_, rfl⟩), hR.up ht_86 (by simp)⟩
                  have hF_361 : F_359 ad = .inl (cs 16, 40, .inl (upd fd ((nI ze)).toNatClampNeg (x2))) := by rw [he_360]; exact up_self
                  have hF_362 : F_359 so = .inl (cs 16, 40, .inl (upd fs ze x1)) := by rw [he_360, up_ne (ne_ty2 ht_83 ht_86 (by simp))]; exact hF_358
                  have hF_363 : F_359 ta = .inl (cs 17, 3000, .inl gt) := by rw [he_360, up_ne (ne_ty ht_80 ht_86 (by simp))]; exact hF_355
                  have hF_364 : F_359 h0 = .inr (15, (.ref ta) :: (.int 0) :: (.int (nI zo)) :: (.int (nI ze)) :: (.ref ou) :: (.ref so) :: (.ref ad) :: (.ref na) :: (.ref va) :: (.ref lc) :: (.ref dm) :: (.int (nI fm)) :: (.int (nI sn)) :: (.ref tg) :: (.int v14_29) :: (.int v15_30) :: (.ref pe) :: (.int v17_31) :: (.int v18_32) :: (.int v19_33) :: (.int v20_34) :: (.int v21_35) :: (.int v22_36) :: (.ref ml) :: (.ref bg) :: (.ref co) :: (.ref sp) :: (.ref nb0) :: (.ref nb1) :: (.ref nb2) :: (.int (nI nf)) :: (.int (nI bd)) :: (.int (nI mm)) :: (.int v33_37) :: (.ref pl) :: (.ref se) :: (.ref ke) :: (.ref wi) :: (.ref hs) :: (.ref mo) :: (.ref po) :: (.ref nu) :: (.ref pr) :: (.ref sq) :: (.ref xa) :: (.ref sa) :: (.ref n64) :: (.ref m64) :: (.ref ex) :: (.ref wh) :: (.ref sd) :: (.ref tk) :: (.int v52_38) :: (.int v53_39) :: (.int v54_40) :: (.ref hd) :: (.ref ak) :: (.ref ho) :: (.ref ot) :: []) := by rw [he_360, up_ne (ne_ty hT_h0 ht_86 (by simp))]; exact hF_356
                  have hF_365 : F_359 ad = .inl (cs 16, 40, .inl (upd fd ze x2)) := by have h9 := hF_361; rwa [nI_clamp (by omega)] at h9
                  refine lv_aload_n hx hb dX15_entry_176 rfl (lv_at hl 4 rfl) ?_
                  refine pg_get (ci := 15) (v := .ref na) (C := RX15) (T := TX15) (N := 59) hx hb hts it_15 hown hK hP hL_h0 hF_364 rfl 7 (by decide) (hts _ kt_719) (fun _ h9 => h9) rfl dX15_entry_177 ?_
                  refine lv_aload_n hx hb dX15_entry_180 rfl (lv_at hl 4 rfl) ?_
                  refine pg_get (ci := 15) (v := .int (nI ze)) (C := RX15) (T := TX15) (N := 59) hx hb hts it_15 hown hK hP hL_h0 hF_364 rfl 3 (by decide) (hts _ kt_724) (fun _ h9 => h9) rfl dX15_entry_181 ?_
                  have hzna := FR.unre hT00 hty hR na (by rw [hTn0]; simp only [List.mem_cons, List.not_mem_nil, or_false]; omega)
                  obtain ⟨hi_366, ht_367⟩ := hW.f_na hL_h0 hT_h0
                  obtain ⟨f_368, hF_369, hq_370⟩ := hO.rtxj hi_366 ht_367
                  obtain rfl : fn = f_368 := by have e9 := (hzna.trans hd3).symm.trans hF_369; simpa using e9
                  obtain ⟨b_371, r_372, hbf_373, hi_374, ht_375⟩ := hq_370 ze (by omega)
                  refine pg_aald (r := b_371) hx hb hK hP hi_366 7 hF_369 rfl (vp_in_nI (by omega) (by omega)) (show fn ((nI ze) : Int32).toNatClampNeg = _ from by rw [show ((nI ze) : Int32) = nI ze from rfl, nI_clamp (by omega)]; exact hbf_373) dX15_entry_184 ?_
                  refine lv_aload_n hx hb dX15_entry_185 rfl (lv_at hl 4 rfl) ?_
                  refine pg_get (ci := 15) (v := .ref ta) (C := RX15) (T := TX15) (N := 59) hx hb hts it_15 hown hK hP hL_h0 hF_364 rfl 0 (by decide) (hts _ kt_1006) (fun _ h9 => h9) rfl dX15_entry_186 ?_
                  refine lv_iconst (v := 0) hx hb dX15_entry_189 (by decide) ?_
                  refine lv_iload hx hb dX15_entry_190 (lv_at hl 0 rfl) ?_
                  refine W.eq (g2 := F0 m 192 ls [.int (nI kend), .int (nI 0), .ref ta, .ref b_371]) rfl ?_
                  obtain ⟨hi_376, ht_377, hq_378⟩ := hW.txt hi_374 ht_375
                  obtain ⟨hq_379, hq_380⟩ := hW.octs hi_79 ht_80
                  have hFc := pg_free hD hS hA
                  obtain ⟨z_381, hF_382, hq_383⟩ := hO.txt hi_374 ht_375
                  refine va_callv (va_runV (As := [.ref ta, .int (nI 0), .int (nI kend)]) (rest := []) ⟨hx, hb, hml, hown, hts⟩ (s_X14_set_e l dC dI cs ty gm L H.size F_359 b_371 (ρ + 4 + ze + 100) r_372 60 ta (ρ + 1) 3000 0 kend gt hW hi_374 ht_375 hi_79 ht_80 hF_363 (Nat.zero_le _) (by omega) (by omega)) ⟨callB_of 3 hts (gi kt_941) rfl rfl rfl (hts _ kt_676) (hts _ kt_942) (by decide +kernel) ⟨Nat.le_of_ble_eq_true rfl, Nat.le_of_ble_eq_true rfl⟩, (hts _ kt_943), (hts _ kt_944)⟩ ⟨fun a U g mk q => ⟨q.1, PTm.calling q.2⟩, pg_recv hK hP hi_374 hF_382 (q := (RX14, TX14, 2)) rfl, fun U hU hWm => ⟨rfl, PTm.mk hU hWm hP hK hD hE hO⟩⟩ rfl rfl hl.1 rfl (lv_room (Nat.le_of_ble_eq_true rfl)) dX15_entry_192 ⟨by show _ + 0 ≤ 0; omega, by show _ + 0 ≤ 0; omega⟩) hS (fun q _ h => hFc q h) hFc (fun u t H1 locs ht hvm hw hB hz1 hk1 hS => ?_)
                  obtain ⟨F_385, fc_386, hB1, hq_387, hq_388, hq_389⟩ := hB
                  obtain ⟨hP, hD, hO, hR⟩ := QTm.back hB1 ht hFc hR (fun q h => by simp only [List.mem_cons, List.not_mem_nil, or_false] at h ⊢; omega)
                  have hF_390 : F_385 ad = .inl (cs 16, 40, .inl (upd fd ze x2)) := (hB1.2.2.2 ad (by rw [ht_86]; simp only [List.mem_cons, List.not_mem_nil, or_false]; omega)).trans hF_365
                  have hF_391 : F_385 so = .inl (cs 16, 40, .inl (upd fs ze x1)) := (hB1.2.2.2 so (by rw [ht_83]; simp only [List.mem_cons, List.not_mem_nil, or_false]; omega)).trans hF_362
                  have hF_392 : F_385 ta = .inl (cs 17, 3000, .inl gt) := (hB1.2.2.2 ta (by rw [ht_80]; simp only [List.mem_cons, List.not_mem_nil, or_false]; omega)).trans hF_363
                  have hF_393 : F_385 h0 = .inr (15, (.ref ta) :: (.int 0) :: (.int (nI zo)) :: (.int (nI ze)) :: (.ref ou) :: (.ref so) :: (.ref ad) :: (.ref na) :: (.ref va) :: (.ref lc) :: (.ref dm) :: (.int (nI fm)) :: (.int (nI sn)) :: (.ref tg) :: (.int v14_29) :: (.int v15_30) :: (.ref pe) :: (.int v17_31) :: (.int v18_32) :: (.int v19_33) :: (.int v20_34) :: (.int v21_35) :: (.int v22_36) :: (.ref ml) :: (.ref bg) :: (.ref co) :: (.ref sp) :: (.ref nb0) :: (.ref nb1) :: (.ref nb2) :: (.int (nI nf)) :: (.int (nI bd)) :: (.int (nI mm)) :: (.int v33_37) :: (.ref pl) :: (.ref se) :: (.ref ke) :: (.ref wi) :: (.ref hs) :: (.ref mo) :: (.ref po) :: (.ref nu) :: (.ref pr) :: (.ref sq) :: (.ref xa) :: (.ref sa) :: (.ref n64) :: (.ref m64) :: (.ref ex) :: (.ref wh) :: (.ref sd) :: (.ref tk) :: (.int v52_38) :: (.int v53_39) :: (.int v54_40) :: (.ref hd) :: (.ref ak) :: (.ref ho) :: (.ref ot) :: []) := (hB1.2.2.2 h0 (by rw [hT_h0]; simp only [List.mem_cons, List.not_mem_nil, or_false]; omega)).trans hF_364
                  have hF_394 : F_385 na = .inl (cs 23, 40, .inr (.inr (.inr (.inr fn)))) := (hB1.2.2.2 na (by rw [ht_367]; simp only [List.mem_cons, List.not_mem_nil, or_false]; omega)).trans hF_369
                  generalize H1 = H at hP hS ⊢
                  refine lv_aload_n hx hb dX15_entry_195 rfl (lv_at hl 4 rfl) ?_
                  refine pg_get (ci := 15) (v := .ref va) (C := RX15) (T := TX15) (N := 59) hx hb hts it_15 hown hK hP hL_h0 hF_393 rfl 8 (by decide) (hts _ kt_732) (fun _ h9 => h9) rfl dX15_entry_196 ?_
                  refine lv_aload_n hx hb dX15_entry_199 rfl (lv_at hl 4 rfl) ?_
                  refine pg_get (ci := 15) (v := .int (nI ze)) (C := RX15) (T := TX15) (N := 59) hx hb hts it_15 hown hK hP hL_h0 hF_393 rfl 3 (by decide) (hts _ kt_724) (fun _ h9 => h9) rfl dX15_entry_200 ?_
                  have hzva := FR.unre hT00 hty hR va (by rw [hTv0]; simp only [List.mem_cons, List.not_mem_nil, or_false]; omega)
                  obtain ⟨hi_395, ht_396⟩ := hW.f_va hL_h0 hT_h0
                  obtain ⟨f_397, hF_398, hq_399⟩ := hO.rtxj hi_395 ht_396
                  obtain rfl : fv = f_397 := by have e9 := (hzva.trans hd4).symm.trans hF_398; simpa using e9
                  obtain ⟨b_400, r_401, hbf_402, hi_403, ht_404⟩ := hq_399 ze (by omega)
                  refine pg_aald (r := b_400) hx hb hK hP hi_395 7 hF_398 rfl (vp_in_nI (by omega) (by omega)) (show fv ((nI ze) : Int32).toNatClampNeg = _ from by rw [show ((nI ze) : Int32) = nI ze from rfl, nI_clamp (by omega)]; exact hbf_402) dX15_entry_203 ?_
                  refine lv_iconst (v := 0) hx hb dX15_entry_204 (by decide) ?_
                  obtain ⟨hi_405, ht_406, hq_407⟩ := hW.txt hi_403 ht_404
                  obtain ⟨z_408, hF_409, hq_410⟩ := hO.txt hi_403 ht_404
                  refine pg_put (ci := 14) (v := .int 0) (ty := .int) (C := RX14) (T := TX14) (N := 2) hx hb hts it_14 tyX14 tyX14_ok nmX14 hown hK hP hD hS hi_403 hF_409 rfl 1 (by decide) (hts _ kt_709) (fun _ h9 => h9) rfl (by decide +kernel) (rfl) (rfl) (Nat.le_of_ble_eq_true rfl) dX15_entry_205 (fun H locs hP hD hS => ?_)
                  obtain ⟨F_411, he_412, hP, hD, hO, hR⟩ : ∃ G, G = va_up F_385 b_400 (.inr (14, [.ref r_401, .int 0])) ∧ va_P (dC, dI) vwCl (va_pl L G) H ∧ va_D A (va_pl L G) ∧ OKm cs ty gm L G ∧ FR ty [ρ, ρ + 3, ρ + 31, ρ + 4 + ze + 100, ρ + 50 + ze + 100] F G := ⟨_, rfl, hP, hD, hO.up (shm.txt ht_404 ⟨0, rfl, (by first | omega | assumption | exact Or.inl rfl | exact Or.inr rfl)⟩), hR.up ht_404 (by simp)⟩
                  have hF_413 : F_411 b_400 = .inr (14, [.ref r_401, .int 0]) := by rw [he_412]; exact up_self
                  have hF_414 : F_411 ad = .inl (cs 16, 40, .inl (upd fd ze x2)) := by rw [he_412, up_ne (ne_ty ht_86 ht_404 (by simp))]; exact hF_390
                  have hF_415 : F_411 so = .inl (cs 16, 40, .inl (upd fs ze x1)) := by rw [he_412, up_ne (ne_ty ht_83 ht_404 (by simp))]; exact hF_391
                  have hF_416 : F_411 ta = .inl (cs 17, 3000, .inl gt) := by rw [he_412, up_ne (ne_ty ht_80 ht_404 (by simp))]; exact hF_392
                  have hF_417 : F_411 h0 = .inr (15, (.ref ta) :: (.int 0) :: (.int (nI zo)) :: (.int (nI ze)) :: (.ref ou) :: (.ref so) :: (.ref ad) :: (.ref na) :: (.ref va) :: (.ref lc) :: (.ref dm) :: (.int (nI fm)) :: (.int (nI sn)) :: (.ref tg) :: (.int v14_29) :: (.int v15_30) :: (.ref pe) :: (.int v17_31) :: (.int v18_32) :: (.int v19_33) :: (.int v20_34) :: (.int v21_35) :: (.int v22_36) :: (.ref ml) :: (.ref bg) :: (.ref co) :: (.ref sp) :: (.ref nb0) :: (.ref nb1) :: (.ref nb2) :: (.int (nI nf)) :: (.int (nI bd)) :: (.int (nI mm)) :: (.int v33_37) :: (.ref pl) :: (.ref se) :: (.ref ke) :: (.ref wi) :: (.ref hs) :: (.ref mo) :: (.ref po) :: (.ref nu) :: (.ref pr) :: (.ref sq) :: (.ref xa) :: (.ref sa) :: (.ref n64) :: (.ref m64) :: (.ref ex) :: (.ref wh) :: (.ref sd) :: (.ref tk) :: (.int v52_38) :: (.int v53_39) :: (.int v54_40) :: (.ref hd) :: (.ref ak) :: (.ref ho) :: (.ref ot) :: []) := by rw [he_412, up_ne (ne_ty hT_h0 ht_404 (by simp))]; exact hF_393
                  have hF_418 : F_411 na = .inl (cs 23, 40, .inr (.inr (.inr (.inr fn)))) := by rw [he_412, up_ne (ne_ty ht_367 ht_404 (by simp))]; exact hF_394
                  have hF_419 : F_411 b_371 = .inr (14, [.ref r_372, .int (nI (kend - 0))]) := by rw [he_412, up_ne (ne_ty2 ht_375 ht_404 (by simp))]; exact hq_387
                  have hF_420 : F_411 r_372 = .inl (cs 17, 60, .inl fc_386) := by rw [he_412, up_ne (ne_ty ht_377 ht_404 (by simp))]; exact hq_388
                  have hF_421 : F_411 va = .inl (cs 23, 40, .inr (.inr (.inr (.inr fv)))) := by rw [he_412, up_ne (ne_ty ht_396 ht_404 (by simp))]; exact hF_398
                  refine lv_iload hx hb dX15_entry_208 (lv_at hl 1 rfl) ?_
                  refine lv_if_eq (tgt := 234) hx hb dX15_entry_210 (by decide) (fun c_422 => ?_) (fun c_422 => ?_)
                  ·
                    refine lv_aload_n hx hb dX15_entry_234 rfl (lv_at hl 4 rfl) ?_
                    refine lv_dup hx hb dX15_entry_235 rfl ?_
                    refine pg_get (ci := 15) (v := .int (nI ze)) (C := RX15) (T := TX15) (N := 59) hx hb hts it_15 hown hK hP hL_h0 hF_417 rfl 3 (by decide) (hts _ kt_724) (fun _ h9 => h9) rfl dX15_entry_236 ?_
                    refine lv_iconst (v := 1) hx hb dX15_entry_239 (by decide) ?_
                    refine lv_iadd hx hb dX15_entry_240 ?_
                    refine lv_topi (fun x_423 ex_423 => ?_)
                    obtain rfl : x_423 = (nI (ze + 1)) := ex_423.trans (nI_add ze 1)
                    have htyU := hty
                    have hTU := hT_h0
                    obtain ⟨hq_424, hq_425⟩ := hW.octs hi_376 ht_377
                    obtain ⟨hq_426, hq_427⟩ := hW.octs hi_405 ht_406
                    obtain ⟨f_428, hF_429, hq_430⟩ := hO.octs hi_405 ht_406
                    refine pg_put (ci := 15) (v := .int (nI (ze + 1))) (ty := .int) (C := RX15) (T := TX15) (N := 59) hx hb hts it_15 tyX15 tyX15_ok nmX15 hown hK hP hD hS hL_h0 hF_417 rfl 3 (by decide) (hts _ kt_724) (fun _ h9 => h9) rfl (by decide +kernel) (rfl) (rfl) (Nat.le_of_ble_eq_true rfl) dX15_entry_241 (fun H locs hP hD hS => ?_)
                    obtain ⟨F_431, he_432, hP, hD, hR⟩ : ∃ G, G = va_up F_411 h0 (.inr (15, (.ref ta) :: (.int 0) :: (.int (nI zo)) :: (.int (nI (ze + 1))) :: (.ref ou) :: (.ref so) :: (.ref ad) :: (.ref na) :: (.ref va) :: (.ref lc) :: (.ref dm) :: (.int (nI fm)) :: (.int (nI sn)) :: (.ref tg) :: (.int v14_29) :: (.int v15_30) :: (.ref pe) :: (.int v17_31) :: (.int v18_32) :: (.int v19_33) :: (.int v20_34) :: (.int v21_35) :: (.int v22_36) :: (.ref ml) :: (.ref bg) :: (.ref co) :: (.ref sp) :: (.ref nb0) :: (.ref nb1) :: (.ref nb2) :: (.int (nI nf)) :: (.int (nI bd)) :: (.int (nI mm)) :: (.int v33_37) :: (.ref pl) :: (.ref se) :: (.ref ke) :: (.ref wi) :: (.ref hs) :: (.ref mo) :: (.ref po) :: (.ref nu) :: (.ref pr) :: (.ref sq) :: (.ref xa) :: (.ref sa) :: (.ref n64) :: (.ref m64) :: (.ref ex) :: (.ref wh) :: (.ref sd) :: (.ref tk) :: (.int v52_38) :: (.int v53_39) :: (.int v54_40) :: (.ref hd) :: (.ref ak) :: (.ref ho) :: (.ref ot) :: [])) ∧ va_P (dC, dI) vwCl (va_pl L G) H ∧ va_D A (va_pl L G) ∧ FR ty [ρ, ρ + 3, ρ + 31, ρ + 4 + ze + 100, ρ + 50 + ze + 100] F G := ⟨_, rfl, hP, hD, hR.up hT_h0 (by simp)⟩
                    have hF_433 : F_431 ta = .inl (cs 17, 3000, .inl gt) := by rw [he_432, up_ne (ne_ty ht_80 hT_h0 (by simp))]; exact hF_416
                    have hF_434 : F_431 so = .inl (cs 16, 40, .inl (upd fs ze x1)) := by rw [he_432, up_ne (ne_ty ht_83 hT_h0 (by simp))]; exact hF_415
                    have hF_435 : F_431 ad = .inl (cs 16, 40, .inl (upd fd ze x2)) := by rw [he_432, up_ne (ne_ty ht_86 hT_h0 (by simp))]; exact hF_414
                    have hF_436 : F_431 b_371 = .inr (14, [.ref r_372, .int (nI (kend - 0))]) := by rw [he_432, up_ne (ne_ty ht_375 hT_h0 (by simp))]; exact hF_419
                    have hF_437 : F_431 r_372 = .inl (cs 17, 60, .inl fc_386) := by rw [he_432, up_ne (ne_ty ht_377 hT_h0 (by simp))]; exact hF_420
                    have hF_438 : F_431 b_400 = .inr (14, [.ref r_401, .int 0]) := by rw [he_432, up_ne (ne_ty ht_404 hT_h0 (by simp))]; exact hF_413
                    have hF_439 : F_431 r_401 = .inl (cs 17, 700, .inl f_428) := by rw [he_432, up_ne (ne_ty ht_406 hT_h0 (by simp))]; exact hF_429
                    obtain ⟨ty, hty, hT_h0, hW, hO, hR⟩ : ∃ t9 : TyM, t9 = rtf ty h0 (15, ρ, [ta, ou, so, ad, na, va, lc, dm, tg, pe, ml, bg, co, sp, nb0, nb1, nb2, pl, se, ke, wi, hs, mo, po, nu, pr, sq, xa, sa, n64, m64, ex, wh, sd, tk, hd, ak, ho, ot, sx, s0, s1, s2, nf, bd, mm, zo, fm, sn, hg, gc, gv, (ze + 1), 0]) ∧ t9 h0 = (15, ρ, [ta, ou, so, ad, na, va, lc, dm, tg, pe, ml, bg, co, sp, nb0, nb1, nb2, pl, se, ke, wi, hs, mo, po, nu, pr, sq, xa, sa, n64, m64, ex, wh, sd, tk, hd, ak, ho, ot, sx, s0, s1, s2, nf, bd, mm, zo, fm, sn, hg, gc, gv, (ze + 1), 0]) ∧ WTm t9 gm L ∧ OKm cs t9 gm L F_431 ∧ FR t9 [ρ, ρ + 3, ρ + 31, ρ + 4 + ze + 100, ρ + 50 + ze + 100] F F_431 := ⟨_, rfl, rtf_self, hW.ze hL_h0 hT_h0, (by rw [he_432]; exact OKm.retype hO hT_h0 (shm.mod rtf_self ⟨v14_29, v15_30, v17_31, v18_32, v19_33, v20_34, v21_35, v22_36, v33_37, v52_38, v53_39, v54_40, rfl, (by first | omega | assumption | exact Or.inl rfl | exact Or.inr rfl), (by first | omega | assumption | exact Or.inl rfl | exact Or.inr rfl), (by first | omega | assumption | exact Or.inl rfl | exact Or.inr rfl), (by first | omega | assumption | exact Or.inl rfl | exact Or.inr rfl), (by first | omega | assumption | exact Or.inl rfl | exact Or.inr rfl)⟩)), FR.retype hT_h0 hR⟩
                    have hF_440 : F_431 h0 = .inr (15, (.ref ta) :: (.int 0) :: (.int (nI zo)) :: (.int (nI (ze + 1))) :: (.ref ou) :: (.ref so) :: (.ref ad) :: (.ref na) :: (.ref va) :: (.ref lc) :: (.ref dm) :: (.int (nI fm)) :: (.int (nI sn)) :: (.ref tg) :: (.int v14_29) :: (.int v15_30) :: (.ref pe) :: (.int v17_31) :: (.int v18_32) :: (.int v19_33) :: (.int v20_34) :: (.int v21_35) :: (.int v22_36) :: (.ref ml) :: (.ref bg) :: (.ref co) :: (.ref sp) :: (.ref nb0) :: (.ref nb1) :: (.ref nb2) :: (.int (nI nf)) :: (.int (nI bd)) :: (.int (nI mm)) :: (.int v33_37) :: (.ref pl) :: (.ref se) :: (.ref ke) :: (.ref wi) :: (.ref hs) :: (.ref mo) :: (.ref po) :: (.ref nu) :: (.ref pr) :: (.ref sq) :: (.ref xa) :: (.ref sa) :: (.ref n64) :: (.ref m64) :: (.ref ex) :: (.ref wh) :: (.ref sd) :: (.ref tk) :: (.int v52_38) :: (.int v53_39) :: (.int v54_40) :: (.ref hd) :: (.ref ak) :: (.ref ho) :: (.ref ot) :: []) := by rw [he_432]; exact up_self
                    obtain ⟨hq_463, hq_464, hq_465, hq_466, hq_467, hgO, hgA, hgB, hq_468⟩ := hW.sc hL_h0 hT_h0
                    refine lv_aload_n hx hb dX15_entry_244 rfl (lv_at hl 4 rfl) ?_
                    refine pg_get (ci := 15) (v := .int (nI (ze + 1))) (C := RX15) (T := TX15) (N := 59) hx hb hts it_15 hown hK hP hL_h0 hF_440 rfl 3 (by decide) (hts _ kt_724) (fun _ h9 => h9) rfl dX15_entry_245 ?_
                    refine W.widen (k := 0) (n := 0) (by omega) (by omega) ?_
                    have hR0 := FR.unre hT00 htyU (FR.unre hTU hty hR)
                    have hQna := hR0 na (by rw [hTn0]; simp only [List.mem_cons, List.not_mem_nil, or_false]; omega)
                    have hQva := hR0 va (by rw [hTv0]; simp only [List.mem_cons, List.not_mem_nil, or_false]; omega)
                    exact W.iret (v := (nI (ze + 1))) hx hb hr (fun t ht hWm => ⟨⟨(nI (ze + 1)), (ze + 1), rfl, (Or.inr (Or.inr ⟨hc40, hs5.elim (fun h => val_y1 hx0 hx4 (hs5n h) (by rw [← hk0e h]; exact hn1)) (fun h => val_y2 hx0 hx4 (hs5x h) (hfst h) (by rw [← hk1e h]; exact hn1) (ho1 h).1), rfl, rfl⟩)), ⟨F_431, ty, (by rw [hty, htyU, rtf_rtf2]), QTm.mk ht hP hD hO hR, hW, ⟨(x1, x2, kend - 0, fc_386, 0, f_428), DIRM.add hDM hO0 hW0 hLn0 hTn0 hLv0 hTv0 (by omega) hR0 hQna hQva (fun k hk => ⟨by simp only [List.mem_cons, List.not_mem_nil, or_false]; omega, by simp only [List.mem_cons, List.not_mem_nil, or_false]; omega⟩) hd1 hd2 hd3 hd4 hF_434 hF_435 ⟨b_371, r_372, hbf_373, hF_436, hF_437, by show kend - 0 ≤ 60; omega⟩ ⟨b_400, r_401, hbf_402, hF_438, hF_439, by show 0 ≤ 700; omega⟩, fun _ => enx4 (hk0e c_422) (hs5n c_422) hn1 hq_389⟩⟩⟩, hS.F ht⟩) hS.2.2 dX15_entry_248
                  ·
                    have h51 := hs5.resolve_left c_422
                    refine lv_aload_n hx hb dX15_entry_213 rfl (lv_at hl 4 rfl) ?_
                    refine pg_get (ci := 15) (v := .ref va) (C := RX15) (T := TX15) (N := 59) hx hb hts it_15 hown hK hP hL_h0 hF_417 rfl 8 (by decide) (hts _ kt_732) (fun _ h9 => h9) rfl dX15_entry_214 ?_
                    refine lv_aload_n hx hb dX15_entry_217 rfl (lv_at hl 4 rfl) ?_
                    refine pg_get (ci := 15) (v := .int (nI ze)) (C := RX15) (T := TX15) (N := 59) hx hb hts it_15 hown hK hP hL_h0 hF_417 rfl 3 (by decide) (hts _ kt_724) (fun _ h9 => h9) rfl dX15_entry_218 ?_
                    refine pg_aald (r := b_400) hx hb hK hP hi_395 7 hF_421 rfl (vp_in_nI (by omega) (by omega)) (show fv ((nI ze) : Int32).toNatClampNeg = _ from by rw [show ((nI ze) : Int32) = nI ze from rfl, nI_clamp (by omega)]; exact hbf_402) dX15_entry_221 ?_
                    refine lv_aload_n hx hb dX15_entry_222 rfl (lv_at hl 4 rfl) ?_
                    refine pg_get (ci := 15) (v := .ref ta) (C := RX15) (T := TX15) (N := 59) hx hb hts it_15 hown hK hP hL_h0 hF_417 rfl 0 (by decide) (hts _ kt_1006) (fun _ h9 => h9) rfl dX15_entry_223 ?_
                    refine lv_iload hx hb dX15_entry_226 (lv_at hl 2 rfl) ?_
                    refine lv_iconst (v := 1) hx hb dX15_entry_228 (by decide) ?_
                    refine lv_iadd hx hb dX15_entry_229 ?_
                    refine lv_topi (fun x_469 ex_469 => ?_)
                    obtain rfl : x_469 = (nI (j + 1)) := ex_469.trans (nI_add j 1)
                    refine lv_iload_n hx hb dX15_entry_230 rfl (lv_at hl 3 rfl) ?_
                    have hFc := pg_free hD hS hA
                    refine va_callv (va_runV (As := [.ref ta, .int (nI (j + 1)), .int (nI zt)]) (rest := []) ⟨hx, hb, hml, hown, hts⟩ (s_X14_set_e l dC dI cs ty gm L H.size F_411 b_400 (ρ + 50 + ze + 100) r_401 700 ta (ρ + 1) 3000 (j + 1) zt gt hW hi_403 ht_404 hi_79 ht_80 hF_416 (by have h9 := hn2 h51; omega) (by omega) (by have h9 := (ho1 h51).2; omega)) ⟨callB_of 3 hts (gi kt_941) rfl rfl rfl (hts _ kt_676) (hts _ kt_942) (by decide +kernel) ⟨Nat.le_of_ble_eq_true rfl, Nat.le_of_ble_eq_true rfl⟩, (hts _ kt_943), (hts _ kt_944)⟩ ⟨fun a U g mk q => ⟨q.1, PTm.calling q.2⟩, pg_recv hK hP hi_403 hF_413 (q := (RX14, TX14, 2)) rfl, fun U hU hWm => ⟨rfl, PTm.mk hU hWm hP hK hD hE hO⟩⟩ rfl rfl hl.1 rfl (lv_room (Nat.le_of_ble_eq_true rfl)) dX15_entry_231 ⟨by show _ + 0 ≤ 0; omega, by show _ + 0 ≤ 0; omega⟩) hS (fun q _ h => hFc q h) hFc (fun u t H1 locs ht hvm hw hB hz1 hk1 hS => ?_)
                    obtain ⟨F_471, fc_472, hB1, hq_473, hq_474, hq_475⟩ := hB
                    obtain ⟨hP, hD, hO, hR⟩ := QTm.back hB1 ht hFc hR (fun q h => by simp only [List.mem_cons, List.not_mem_nil, or_false] at h ⊢; omega)
                    have hF_476 : F_471 ad = .inl (cs 16, 40, .inl (upd fd ze x2)) := (hB1.2.2.2 ad (by rw [ht_86]; simp only [List.mem_cons, List.not_mem_nil, or_false]; omega)).trans hF_414
                    have hF_477 : F_471 so = .inl (cs 16, 40, .inl (upd fs ze x1)) := (hB1.2.2.2 so (by rw [ht_83]; simp only [List.mem_cons, List.not_mem_nil, or_false]; omega)).trans hF_415
                    have hF_478 : F_471 ta = .inl (cs 17, 3000, .inl gt) := (hB1.2.2.2 ta (by rw [ht_80]; simp only [List.mem_cons, List.not_mem_nil, or_false]; omega)).trans hF_416
                    have hF_479 : F_471 h0 = .inr (15, (.ref ta) :: (.int 0) :: (.int (nI zo)) :: (.int (nI ze)) :: (.ref ou) :: (.ref so) :: (.ref ad) :: (.ref na) :: (.ref va) :: (.ref lc) :: (.ref dm) :: (.int (nI fm)) :: (.int (nI sn)) :: (.ref tg) :: (.int v14_29) :: (.int v15_30) :: (.ref pe) :: (.int v17_31) :: (.int v18_32) :: (.int v19_33) :: (.int v20_34) :: (.int v21_35) :: (.int v22_36) :: (.ref ml) :: (.ref bg) :: (.ref co) :: (.ref sp) :: (.ref nb0) :: (.ref nb1) :: (.ref nb2) :: (.int (nI nf)) :: (.int (nI bd)) :: (.int (nI mm)) :: (.int v33_37) :: (.ref pl) :: (.ref se) :: (.ref ke) :: (.ref wi) :: (.ref hs) :: (.ref mo) :: (.ref po) :: (.ref nu) :: (.ref pr) :: (.ref sq) :: (.ref xa) :: (.ref sa) :: (.ref n64) :: (.ref m64) :: (.ref ex) :: (.ref wh) :: (.ref sd) :: (.ref tk) :: (.int v52_38) :: (.int v53_39) :: (.int v54_40) :: (.ref hd) :: (.ref ak) :: (.ref ho) :: (.ref ot) :: []) := (hB1.2.2.2 h0 (by rw [hT_h0]; simp only [List.mem_cons, List.not_mem_nil, or_false]; omega)).trans hF_417
                    have hF_480 : F_471 na = .inl (cs 23, 40, .inr (.inr (.inr (.inr fn)))) := (hB1.2.2.2 na (by rw [ht_367]; simp only [List.mem_cons, List.not_mem_nil, or_false]; omega)).trans hF_418
                    have hF_481 : F_471 b_371 = .inr (14, [.ref r_372, .int (nI (kend - 0))]) := (hB1.2.2.2 b_371 (by rw [ht_375]; simp only [List.mem_cons, List.not_mem_nil, or_false]; omega)).trans hF_419
                    have hF_482 : F_471 r_372 = .inl (cs 17, 60, .inl fc_386) := (hB1.2.2.2 r_372 (by rw [ht_377]; simp only [List.mem_cons, List.not_mem_nil, or_false]; omega)).trans hF_420
                    have hF_483 : F_471 va = .inl (cs 23, 40, .inr (.inr (.inr (.inr fv)))) := (hB1.2.2.2 va (by rw [ht_396]; simp only [List.mem_cons, List.not_mem_nil, or_false]; omega)).trans hF_421
                    generalize H1 = H at hP hS ⊢
                    refine lv_aload_n hx hb dX15_entry_234 rfl (lv_at hl 4 rfl) ?_
                    refine lv_dup hx hb dX15_entry_235 rfl ?_
                    refine pg_get (ci := 15) (v := .int (nI ze)) (C := RX15) (T := TX15) (N := 59) hx hb hts it_15 hown hK hP hL_h0 hF_479 rfl 3 (by decide) (hts _ kt_724) (fun _ h9 => h9) rfl dX15_entry_236 ?_
                    refine lv_iconst (v := 1) hx hb dX15_entry_239 (by decide) ?_
                    refine lv_iadd hx hb dX15_entry_240 ?_
                    refine lv_topi (fun x_484 ex_484 => ?_)
                    obtain rfl : x_484 = (nI (ze + 1)) := ex_484.trans (nI_add ze 1)
                    have htyU := hty
                    have hTU := hT_h0
                    obtain ⟨hq_485, hq_486⟩ := hW.octs hi_376 ht_377
                    obtain ⟨hq_487, hq_488⟩ := hW.octs hi_405 ht_406
                    refine pg_put (ci := 15) (v := .int (nI (ze + 1))) (ty := .int) (C := RX15) (T := TX15) (N := 59) hx hb hts it_15 tyX15 tyX15_ok nmX15 hown hK hP hD hS hL_h0 hF_479 rfl 3 (by decide) (hts _ kt_724) (fun _ h9 => h9) rfl (by decide +kernel) (rfl) (rfl) (Nat.le_of_ble_eq_true rfl) dX15_entry_241 (fun H locs hP hD hS => ?_)
                    obtain ⟨F_489, he_490, hP, hD, hR⟩ : ∃ G, G = va_up F_471 h0 (.inr (15, (.ref ta) :: (.int 0) :: (.int (nI zo)) :: (.int (nI (ze + 1))) :: (.ref ou) :: (.ref so) :: (.ref ad) :: (.ref na) :: (.ref va) :: (.ref lc) :: (.ref dm) :: (.int (nI fm)) :: (.int (nI sn)) :: (.ref tg) :: (.int v14_29) :: (.int v15_30) :: (.ref pe) :: (.int v17_31) :: (.int v18_32) :: (.int v19_33) :: (.int v20_34) :: (.int v21_35) :: (.int v22_36) :: (.ref ml) :: (.ref bg) :: (.ref co) :: (.ref sp) :: (.ref nb0) :: (.ref nb1) :: (.ref nb2) :: (.int (nI nf)) :: (.int (nI bd)) :: (.int (nI mm)) :: (.int v33_37) :: (.ref pl) :: (.ref se) :: (.ref ke) :: (.ref wi) :: (.ref hs) :: (.ref mo) :: (.ref po) :: (.ref nu) :: (.ref pr) :: (.ref sq) :: (.ref xa) :: (.ref sa) :: (.ref n64) :: (.ref m64) :: (.ref ex) :: (.ref wh) :: (.ref sd) :: (.ref tk) :: (.int v52_38) :: (.int v53_39) :: (.int v54_40) :: (.ref hd) :: (.ref ak) :: (.ref ho) :: (.ref ot) :: [])) ∧ va_P (dC, dI) vwCl (va_pl L G) H ∧ va_D A (va_pl L G) ∧ FR ty [ρ, ρ + 3, ρ + 31, ρ + 4 + ze + 100, ρ + 50 + ze + 100] F G := ⟨_, rfl, hP, hD, hR.up hT_h0 (by simp)⟩
                    have hF_491 : F_489 ta = .inl (cs 17, 3000, .inl gt) := by rw [he_490, up_ne (ne_ty ht_80 hT_h0 (by simp))]; exact hF_478
                    have hF_492 : F_489 so = .inl (cs 16, 40, .inl (upd fs ze x1)) := by rw [he_490, up_ne (ne_ty ht_83 hT_h0 (by simp))]; exact hF_477
                    have hF_493 : F_489 ad = .inl (cs 16, 40, .inl (upd fd ze x2)) := by rw [he_490, up_ne (ne_ty ht_86 hT_h0 (by simp))]; exact hF_476
                    have hF_494 : F_489 b_371 = .inr (14, [.ref r_372, .int (nI (kend - 0))]) := by rw [he_490, up_ne (ne_ty ht_375 hT_h0 (by simp))]; exact hF_481
                    have hF_495 : F_489 r_372 = .inl (cs 17, 60, .inl fc_386) := by rw [he_490, up_ne (ne_ty ht_377 hT_h0 (by simp))]; exact hF_482
                    have hF_496 : F_489 b_400 = .inr (14, [.ref r_401, .int (nI (zt - (j + 1)))]) := by rw [he_490, up_ne (ne_ty ht_404 hT_h0 (by simp))]; exact hq_473
                    have hF_497 : F_489 r_401 = .inl (cs 17, 700, .inl fc_472) := by rw [he_490, up_ne (ne_ty ht_406 hT_h0 (by simp))]; exact hq_474
                    obtain ⟨ty, hty, hT_h0, hW, hO, hR⟩ : ∃ t9 : TyM, t9 = rtf ty h0 (15, ρ, [ta, ou, so, ad, na, va, lc, dm, tg, pe, ml, bg, co, sp, nb0, nb1, nb2, pl, se, ke, wi, hs, mo, po, nu, pr, sq, xa, sa, n64, m64, ex, wh, sd, tk, hd, ak, ho, ot, sx, s0, s1, s2, nf, bd, mm, zo, fm, sn, hg, gc, gv, (ze + 1), 0]) ∧ t9 h0 = (15, ρ, [ta, ou, so, ad, na, va, lc, dm, tg, pe, ml, bg, co, sp, nb0, nb1, nb2, pl, se, ke, wi, hs, mo, po, nu, pr, sq, xa, sa, n64, m64, ex, wh, sd, tk, hd, ak, ho, ot, sx, s0, s1, s2, nf, bd, mm, zo, fm, sn, hg, gc, gv, (ze + 1), 0]) ∧ WTm t9 gm L ∧ OKm cs t9 gm L F_489 ∧ FR t9 [ρ, ρ + 3, ρ + 31, ρ + 4 + ze + 100, ρ + 50 + ze + 100] F F_489 := ⟨_, rfl, rtf_self, hW.ze hL_h0 hT_h0, (by rw [he_490]; exact OKm.retype hO hT_h0 (shm.mod rtf_self ⟨v14_29, v15_30, v17_31, v18_32, v19_33, v20_34, v21_35, v22_36, v33_37, v52_38, v53_39, v54_40, rfl, (by first | omega | assumption | exact Or.inl rfl | exact Or.inr rfl), (by first | omega | assumption | exact Or.inl rfl | exact Or.inr rfl), (by first | omega | assumption | exact Or.inl rfl | exact Or.inr rfl), (by first | omega | assumption | exact Or.inl rfl | exact Or.inr rfl), (by first | omega | assumption | exact Or.inl rfl | exact Or.inr rfl)⟩)), FR.retype hT_h0 hR⟩
                    have hF_498 : F_489 h0 = .inr (15, (.ref ta) :: (.int 0) :: (.int (nI zo)) :: (.int (nI (ze + 1))) :: (.ref ou) :: (.ref so) :: (.ref ad) :: (.ref na) :: (.ref va) :: (.ref lc) :: (.ref dm) :: (.int (nI fm)) :: (.int (nI sn)) :: (.ref tg) :: (.int v14_29) :: (.int v15_30) :: (.ref pe) :: (.int v17_31) :: (.int v18_32) :: (.int v19_33) :: (.int v20_34) :: (.int v21_35) :: (.int v22_36) :: (.ref ml) :: (.ref bg) :: (.ref co) :: (.ref sp) :: (.ref nb0) :: (.ref nb1) :: (.ref nb2) :: (.int (nI nf)) :: (.int (nI bd)) :: (.int (nI mm)) :: (.int v33_37) :: (.ref pl) :: (.ref se) :: (.ref ke) :: (.ref wi) :: (.ref hs) :: (.ref mo) :: (.ref po) :: (.ref nu) :: (.ref pr) :: (.ref sq) :: (.ref xa) :: (.ref sa) :: (.ref n64) :: (.ref m64) :: (.ref ex) :: (.ref wh) :: (.ref sd) :: (.ref tk) :: (.int v52_38) :: (.int v53_39) :: (.int v54_40) :: (.ref hd) :: (.ref ak) :: (.ref ho) :: (.ref ot) :: []) := by rw [he_490]; exact up_self
                    obtain ⟨hq_521, hq_522, hq_523, hq_524, hq_525, hgO, hgA, hgB, hq_526⟩ := hW.sc hL_h0 hT_h0
                    refine lv_aload_n hx hb dX15_entry_244 rfl (lv_at hl 4 rfl) ?_
                    refine pg_get (ci := 15) (v := .int (nI (ze + 1))) (C := RX15) (T := TX15) (N := 59) hx hb hts it_15 hown hK hP hL_h0 hF_498 rfl 3 (by decide) (hts _ kt_724) (fun _ h9 => h9) rfl dX15_entry_245 ?_
                    refine W.widen (k := 0) (n := 0) (by omega) (by omega) ?_
                    have hR0 := FR.unre hT00 htyU (FR.unre hTU hty hR)
                    have hQna := hR0 na (by rw [hTn0]; simp only [List.mem_cons, List.not_mem_nil, or_false]; omega)
                    have hQva := hR0 va (by rw [hTv0]; simp only [List.mem_cons, List.not_mem_nil, or_false]; omega)
                    exact W.iret (v := (nI (ze + 1))) hx hb hr (fun t ht hWm => ⟨⟨(nI (ze + 1)), (ze + 1), rfl, (Or.inr (Or.inr ⟨hc40, hs5.elim (fun h => val_y1 hx0 hx4 (hs5n h) (by rw [← hk0e h]; exact hn1)) (fun h => val_y2 hx0 hx4 (hs5x h) (hfst h) (by rw [← hk1e h]; exact hn1) (ho1 h).1), rfl, rfl⟩)), ⟨F_489, ty, (by rw [hty, htyU, rtf_rtf2]), QTm.mk ht hP hD hO hR, hW, ⟨(x1, x2, kend - 0, fc_386, zt - (j + 1), fc_472), DIRM.add hDM hO0 hW0 hLn0 hTn0 hLv0 hTv0 (by omega) hR0 hQna hQva (fun k hk => ⟨by simp only [List.mem_cons, List.not_mem_nil, or_false]; omega, by simp only [List.mem_cons, List.not_mem_nil, or_false]; omega⟩) hd1 hd2 hd3 hd4 hF_492 hF_493 ⟨b_371, r_372, hbf_373, hF_494, hF_495, by show kend - 0 ≤ 60; omega⟩ ⟨b_400, r_401, hbf_402, hF_496, hF_497, by show zt - (j + 1) ≤ 700; have h9 := (ho1 h51).2; omega⟩, fun _ => enx3 (hk1e h51) (hs5x h51) (hfst h51) hn1 (ho1 h51).1 hq_389 hq_475⟩⟩⟩, hS.F ht⟩) hS.2.2 dX15_entry_248
                ·
                  refine lv_iload_n hx hb dX15_entry_118 rfl (lv_at hl 5 rfl) ?_
                  refine lv_iconst (v := 2) hx hb dX15_entry_119 (by decide) ?_
                  refine lv_icmp_ne (tgt := 138) hx hb dX15_entry_120 (by decide) (fun c_527 => ?_) (fun c_527 => ?_)
                  ·
                    refine lv_iload_n hx hb dX15_entry_138 rfl (lv_at hl 5 rfl) ?_
                    refine lv_if_ne (tgt := 156) hx hb dX15_entry_139 (by decide) (fun c_528 => ?_) (fun c_528 => ?_)
                    ·
                      refine W.widen (k := 0) (n := 0) (by omega) (by omega) ?_
                      exact jn_347 () F_343 (⟨fun h => absurd (hs5x h) (fun q => q.elim c_528 c_527), hn3, hn3so, hn3ad⟩) hO hR _ _ hP hD hS ls (lv_sub hl [0, 1, 2, 3, 4, 5, 6] rfl)
                    ·
                      have h51 : s5 = 1 := hs5.resolve_left (fun q => hs5n q (Or.inl c_528))
                      have hkz := hn2 h51
                      refine lv_iload_n hx hb dX15_entry_142 rfl (lv_at hl 3 rfl) ?_
                      refine lv_iload hx hb dX15_entry_143 (lv_at hl 2 rfl) ?_
                      refine lv_isub hx hb dX15_entry_145 ?_
                      refine lv_topi (fun x_529 ex_529 => ?_)
                      obtain rfl : x_529 = (nI (zt - j)) := ex_529.trans (pk_sub (a := zt) (b := j) (by omega))
                      refine lv_iconst (v := 1) hx hb dX15_entry_146 (by decide) ?_
                      refine lv_isub hx hb dX15_entry_147 ?_
                      refine lv_topi (fun x_530 ex_530 => ?_)
                      obtain rfl : x_530 = (nI ((zt - j) - 1)) := ex_530.trans (pk_sub (a := (zt - j)) (b := 1) (by omega))
                      refine lv_sipush (v := 700) hx hb dX15_entry_148 (by decide) ?_
                      refine lv_icmp_le (tgt := 156) hx hb dX15_entry_151 (by decide) (fun c_531 => ?_) (fun c_531 => ?_)
                      ·
                        have hi_532 : ((zt - j) - 1) ≤ 700 := (nI_leI (a := ((zt - j) - 1)) (b := 700) (by omega) (by omega)).mp c_531
                        refine W.widen (k := 0) (n := 0) (by omega) (by omega) ?_
                        exact jn_347 () F_343 (⟨fun _ => ⟨⟨by omega, fun q => absurd (q.symm.trans c_528) (by decide), fun _ => by omega⟩, by omega⟩, hn3, hn3so, hn3ad⟩) hO hR _ _ hP hD hS ls (lv_sub hl [0, 1, 2, 3, 4, 5, 6] rfl)
                      ·
                        have hi_533 : 700 < ((zt - j) - 1) := Nat.not_le.mp (fun q => c_531 ((nI_leI (a := ((zt - j) - 1)) (b := 700) (by omega) (by omega)).mpr q))
                        refine lv_iconst (v := (-1)) hx hb dX15_entry_154 (by decide) ?_
                        refine W.widen (k := 0) (n := 0) (by omega) (by omega) ?_
                        have hR0 := FR.unre hT00 hty hR
                        have hQna := hR0 na (by rw [hTn0]; simp only [List.mem_cons, List.not_mem_nil, or_false]; omega)
                        have hQva := hR0 va (by rw [hTv0]; simp only [List.mem_cons, List.not_mem_nil, or_false]; omega)
                        exact W.iret (v := (-1)) hx hb hr (fun t ht hWm => ⟨⟨(-1), ze, rfl, (Or.inr (Or.inl ⟨hc40, val_nv (Or.inl c_528) (hfst h51) (fun q => absurd (q.2.2 (fun w => absurd (w.symm.trans c_528) (by decide))) (by omega)), rfl, rfl⟩)), ⟨F_343, ty, hty, QTm.mk ht hP hD hO hR, hW, ⟨(0, 0, 0, fun _ => 0, 0, fun _ => 0), DIRM.same (DIRM.fr hDM hO0 hW0 hLn0 hTn0 hLv0 hTv0 (by omega) hR0 (hn3so.trans hd1.symm) (hn3ad.trans hd2.symm) hQna hQva (fun k hk => ⟨by simp only [List.mem_cons, List.not_mem_nil, or_false]; omega, by simp only [List.mem_cons, List.not_mem_nil, or_false]; omega⟩)), fun q => absurd q (by omega)⟩⟩⟩, hS.F ht⟩) hS.2.2 dX15_entry_155
                  ·
                    have h51 : s5 = 1 := hs5.resolve_left (fun q => hs5n q (Or.inr c_527))
                    have hkz := hn2 h51
                    refine lv_aload_n hx hb dX15_entry_123 rfl (lv_at hl 4 rfl) ?_
                    refine pg_get (ci := 15) (v := .ref ta) (C := RX15) (T := TX15) (N := 59) hx hb hts it_15 hown hK hP hL_h0 hn3 rfl 0 (by decide) (hts _ kt_1006) (fun _ h9 => h9) rfl dX15_entry_124 ?_
                    refine lv_iload hx hb dX15_entry_127 (lv_at hl 2 rfl) ?_
                    refine lv_iconst (v := 1) hx hb dX15_entry_129 (by decide) ?_
                    refine lv_iadd hx hb dX15_entry_130 ?_
                    refine lv_topi (fun x_534 ex_534 => ?_)
                    obtain rfl : x_534 = (nI (j + 1)) := ex_534.trans (nI_add j 1)
                    refine lv_iload_n hx hb dX15_entry_131 rfl (lv_at hl 3 rfl) ?_
                    obtain ⟨hq_535, hq_536⟩ := hW.octs hi_79 ht_80
                    have hFc := pg_free hD hS hA
                    refine va_calli (va_runS (As := [.ref ta, .int (nI (j + 1)), .int (nI zt)]) (rest := []) ⟨hx, hb, hml, hown, hts⟩ (s_X14_isName_e l dC dI cs ty gm L H.size F_343 ta (ρ + 1) 3000 (j + 1) zt gt hW hi_79 ht_80 hF_346 (by first | omega | assumption | exact Or.inl rfl) (by first | omega | assumption | exact Or.inl rfl)) ⟨callB_of 3 hts (gi kt_689) rfl rfl rfl (hts _ kt_676) (hts _ kt_848) (by decide +kernel) ⟨Nat.le_of_ble_eq_true rfl, Nat.le_of_ble_eq_true rfl⟩, (hts _ kt_691)⟩ ⟨fun a U g mk q => ⟨q.1, PTm.calling q.2⟩, fun U hU hWm => ⟨rfl, PTm.mk hU hWm hP hK hD hE hO⟩⟩ rfl rfl hl.1 rfl (lv_room (Nat.le_of_ble_eq_true rfl)) dX15_entry_132 ⟨by show _ + 0 ≤ 0; omega, by show _ + 0 ≤ 0; omega⟩) hS (fun q _ h => hFc q h) hFc (fun r_537 u t H1 locs ht hvm hw hB hz1 hk1 hS => ?_)
                    obtain ⟨F_538, hB1⟩ := hB
                    obtain rfl : F_343 = F_538 := (funext (fun a => hB1.2.2.2 a List.not_mem_nil)).symm
                    obtain ⟨hP, hD, hO, hR⟩ := QTm.back hB1 ht hFc hR (fun q h => absurd h List.not_mem_nil)
                    generalize H1 = H at hP hS ⊢
                    have hw : r_537 = (if NM gt (j + 1) zt = true then 1 else 0) := hw
                    have hw_539 := hw
                    refine lv_if_eq (tgt := 154) hx hb dX15_entry_135 (by decide) (fun c_540 => ?_) (fun c_540 => ?_)
                    ·
                      refine lv_iconst (v := (-1)) hx hb dX15_entry_154 (by decide) ?_
                      refine W.widen (k := 0) (n := 0) (by omega) (by omega) ?_
                      have hR0 := FR.unre hT00 hty hR
                      have hQna := hR0 na (by rw [hTn0]; simp only [List.mem_cons, List.not_mem_nil, or_false]; omega)
                      have hQva := hR0 va (by rw [hTv0]; simp only [List.mem_cons, List.not_mem_nil, or_false]; omega)
                      exact W.iret (v := (-1)) hx hb hr (fun t ht hWm => ⟨⟨(-1), ze, rfl, (Or.inr (Or.inl ⟨hc40, val_nv (Or.inr c_527) (hfst h51) (fun q => ifb0 hw_539 c_540 (q.2.1 c_527)), rfl, rfl⟩)), ⟨F_343, ty, hty, QTm.mk ht hP hD hO hR, hW, ⟨(0, 0, 0, fun _ => 0, 0, fun _ => 0), DIRM.same (DIRM.fr hDM hO0 hW0 hLn0 hTn0 hLv0 hTv0 (by omega) hR0 (hn3so.trans hd1.symm) (hn3ad.trans hd2.symm) hQna hQva (fun k hk => ⟨by simp only [List.mem_cons, List.not_mem_nil, or_false]; omega, by simp only [List.mem_cons, List.not_mem_nil, or_false]; omega⟩)), fun q => absurd q (by omega)⟩⟩⟩, hS.F ht⟩) hS.2.2 dX15_entry_155
                    ·
                      refine lv_iload_n hx hb dX15_entry_138 rfl (lv_at hl 5 rfl) ?_
                      refine lv_if_ne (tgt := 156) hx hb dX15_entry_139 (by decide) (fun c_541 => ?_) (fun c_541 => ?_)
                      ·
                        refine W.widen (k := 0) (n := 0) (by omega) (by omega) ?_
                        exact jn_347 () F_343 (⟨fun _ => ⟨⟨by omega, fun _ => ifb1 hw_539 c_540, fun q => absurd c_527 q⟩, by have h9 := nm_60 (ifb1 hw_539 c_540); omega⟩, hn3, hn3so, hn3ad⟩) hO hR _ _ hP hD hS ls (lv_sub hl [0, 1, 2, 3, 4, 5, 6] rfl)
                      ·
                        have h51 : s5 = 1 := hs5.resolve_left (fun q => hs5n q (Or.inl c_541))
                        have hkz := hn2 h51
                        refine lv_iload_n hx hb dX15_entry_142 rfl (lv_at hl 3 rfl) ?_
                        refine lv_iload hx hb dX15_entry_143 (lv_at hl 2 rfl) ?_
                        refine lv_isub hx hb dX15_entry_145 ?_
                        refine lv_topi (fun x_542 ex_542 => ?_)
                        obtain rfl : x_542 = (nI (zt - j)) := ex_542.trans (pk_sub (a := zt) (b := j) (by omega))
                        refine lv_iconst (v := 1) hx hb dX15_entry_146 (by decide) ?_
                        refine lv_isub hx hb dX15_entry_147 ?_
                        refine lv_topi (fun x_543 ex_543 => ?_)
                        obtain rfl : x_543 = (nI ((zt - j) - 1)) := ex_543.trans (pk_sub (a := (zt - j)) (b := 1) (by omega))
                        refine lv_sipush (v := 700) hx hb dX15_entry_148 (by decide) ?_
                        refine lv_icmp_le (tgt := 156) hx hb dX15_entry_151 (by decide) (fun c_544 => ?_) (fun c_544 => ?_)
                        ·
                          have hi_545 : ((zt - j) - 1) ≤ 700 := (nI_leI (a := ((zt - j) - 1)) (b := 700) (by omega) (by omega)).mp c_544
                          refine W.widen (k := 0) (n := 0) (by omega) (by omega) ?_
                          exact jn_347 () F_343 (⟨fun _ => ⟨⟨by omega, fun q => absurd (q.symm.trans c_541) (by decide), fun _ => by omega⟩, by omega⟩, hn3, hn3so, hn3ad⟩) hO hR _ _ hP hD hS ls (lv_sub hl [0, 1, 2, 3, 4, 5, 6] rfl)
                        ·
                          have hi_546 : 700 < ((zt - j) - 1) := Nat.not_le.mp (fun q => c_544 ((nI_leI (a := ((zt - j) - 1)) (b := 700) (by omega) (by omega)).mpr q))
                          refine lv_iconst (v := (-1)) hx hb dX15_entry_154 (by decide) ?_
                          refine W.widen (k := 0) (n := 0) (by omega) (by omega) ?_
                          have hR0 := FR.unre hT00 hty hR
                          have hQna := hR0 na (by rw [hTn0]; simp only [List.mem_cons, List.not_mem_nil, or_false]; omega)
                          have hQva := hR0 va (by rw [hTv0]; simp only [List.mem_cons, List.not_mem_nil, or_false]; omega)
                          exact W.iret (v := (-1)) hx hb hr (fun t ht hWm => ⟨⟨(-1), ze, rfl, (Or.inr (Or.inl ⟨hc40, val_nv (Or.inl c_541) (hfst h51) (fun q => absurd (q.2.2 (fun w => absurd (w.symm.trans c_541) (by decide))) (by omega)), rfl, rfl⟩)), ⟨F_343, ty, hty, QTm.mk ht hP hD hO hR, hW, ⟨(0, 0, 0, fun _ => 0, 0, fun _ => 0), DIRM.same (DIRM.fr hDM hO0 hW0 hLn0 hTn0 hLv0 hTv0 (by omega) hR0 (hn3so.trans hd1.symm) (hn3ad.trans hd2.symm) hQna hQva (fun k hk => ⟨by simp only [List.mem_cons, List.not_mem_nil, or_false]; omega, by simp only [List.mem_cons, List.not_mem_nil, or_false]; omega⟩)), fun q => absurd q (by omega)⟩⟩⟩, hS.F ht⟩) hS.2.2 dX15_entry_155
              ·
                refine lv_iload hx hb dX15_entry_92 (lv_at hl 1 rfl) ?_
                refine lv_if_eq (tgt := 103) hx hb dX15_entry_94 (by decide) (fun c_547 => ?_) (fun c_547 => ?_)
                ·
                  refine lv_aload_n hx hb dX15_entry_103 rfl (lv_at hl 4 rfl) ?_
                  refine pg_get (ci := 15) (v := .ref ta) (C := RX15) (T := TX15) (N := 59) hx hb hts it_15 hown hK hP hL_h0 hb2 rfl 0 (by decide) (hts _ kt_1006) (fun _ h9 => h9) rfl dX15_entry_104 ?_
                  refine lv_iconst (v := 0) hx hb dX15_entry_107 (by decide) ?_
                  refine lv_iload hx hb dX15_entry_108 (lv_at hl 0 rfl) ?_
                  refine W.eq (g2 := F0 m 110 ls [.int (nI kend), .int (nI 0), .ref ta]) rfl ?_
                  obtain ⟨hq_548, hq_549⟩ := hW.octs hi_79 ht_80
                  have hFc := pg_free hD hS hA
                  refine va_calli (va_runS (As := [.ref ta, .int (nI 0), .int (nI kend)]) (rest := []) ⟨hx, hb, hml, hown, hts⟩ (s_X14_isName_e l dC dI cs ty gm L H.size F_338 ta (ρ + 1) 3000 0 kend gt hW hi_79 ht_80 hF_341 (by first | omega | assumption | exact Or.inl rfl) (by first | omega | assumption | exact Or.inl rfl)) ⟨callB_of 3 hts (gi kt_689) rfl rfl rfl (hts _ kt_676) (hts _ kt_848) (by decide +kernel) ⟨Nat.le_of_ble_eq_true rfl, Nat.le_of_ble_eq_true rfl⟩, (hts _ kt_691)⟩ ⟨fun a U g mk q => ⟨q.1, PTm.calling q.2⟩, fun U hU hWm => ⟨rfl, PTm.mk hU hWm hP hK hD hE hO⟩⟩ rfl rfl hl.1 rfl (lv_room (Nat.le_of_ble_eq_true rfl)) dX15_entry_110 ⟨by show _ + 0 ≤ 0; omega, by show _ + 0 ≤ 0; omega⟩) hS (fun q _ h => hFc q h) hFc (fun r_550 u t H1 locs ht hvm hw hB hz1 hk1 hS => ?_)
                  obtain ⟨F_551, hB1⟩ := hB
                  obtain rfl : F_338 = F_551 := (funext (fun a => hB1.2.2.2 a List.not_mem_nil)).symm
                  obtain ⟨hP, hD, hO, hR⟩ := QTm.back hB1 ht hFc hR (fun q h => absurd h List.not_mem_nil)
                  generalize H1 = H at hP hS ⊢
                  have hw : r_550 = (if NM gt 0 kend = true then 1 else 0) := hw
                  have hw_552 := hw
                  refine lv_if_ne (tgt := 118) hx hb dX15_entry_113 (by decide) (fun c_553 => ?_) (fun c_553 => ?_)
                  ·
                    refine W.widen (k := 0) (n := 0) (by omega) (by omega) ?_
                    exact jn_342 () F_338 (⟨ifb1 hw_552 c_553, nm_60 (ifb1 hw_552 c_553), fun h => absurd (h.symm.trans c_547) (by decide), hb2, hb2so, hb2ad⟩) hO hR _ _ hP hD hS ls (lv_sub hl [0, 1, 2, 3, 4, 5, 6] rfl)
                  ·
                    refine lv_iconst (v := (-1)) hx hb dX15_entry_116 (by decide) ?_
                    refine W.widen (k := 0) (n := 0) (by omega) (by omega) ?_
                    have hR0 := FR.unre hT00 hty hR
                    have hQna := hR0 na (by rw [hTn0]; simp only [List.mem_cons, List.not_mem_nil, or_false]; omega)
                    have hQva := hR0 va (by rw [hTv0]; simp only [List.mem_cons, List.not_mem_nil, or_false]; omega)
                    exact W.iret (v := (-1)) hx hb hr (fun t ht hWm => ⟨⟨(-1), ze, rfl, (Or.inr (Or.inl ⟨hc40, val_nz (hs5n c_547) (by rw [← hk0e c_547]; exact (ifb0 hw_552 c_553)), rfl, rfl⟩)), ⟨F_338, ty, hty, QTm.mk ht hP hD hO hR, hW, ⟨(0, 0, 0, fun _ => 0, 0, fun _ => 0), DIRM.same (DIRM.fr hDM hO0 hW0 hLn0 hTn0 hLv0 hTv0 (by omega) hR0 (hb2so.trans hd1.symm) (hb2ad.trans hd2.symm) hQna hQva (fun k hk => ⟨by simp only [List.mem_cons, List.not_mem_nil, or_false]; omega, by simp only [List.mem_cons, List.not_mem_nil, or_false]; omega⟩)), fun q => absurd q (by omega)⟩⟩⟩, hS.F ht⟩) hS.2.2 dX15_entry_117
                ·
                  refine lv_iload hx hb dX15_entry_97 (lv_at hl 2 rfl) ?_
                  refine lv_iload_n hx hb dX15_entry_99 rfl (lv_at hl 3 rfl) ?_
                  refine lv_icmp_eq (tgt := 116) hx hb dX15_entry_100 (by decide) (fun c_554 => ?_) (fun c_554 => ?_)
                  ·
                    have hi_555 : j = zt := (nI_eq (a := j) (b := zt) (by omega) (by omega)).mp c_554
                    refine lv_iconst (v := (-1)) hx hb dX15_entry_116 (by decide) ?_
                    refine W.widen (k := 0) (n := 0) (by omega) (by omega) ?_
                    have hR0 := FR.unre hT00 hty hR
                    have hQna := hR0 na (by rw [hTn0]; simp only [List.mem_cons, List.not_mem_nil, or_false]; omega)
                    have hQva := hR0 va (by rw [hTv0]; simp only [List.mem_cons, List.not_mem_nil, or_false]; omega)
                    exact W.iret (v := (-1)) hx hb hr (fun t ht hWm => ⟨⟨(-1), ze, rfl, (Or.inr (Or.inl ⟨hc40, val_nv (hs5x (hs5.resolve_left c_547)) (hfst (hs5.resolve_left c_547)) (fun q => q.1 (by omega)), rfl, rfl⟩)), ⟨F_338, ty, hty, QTm.mk ht hP hD hO hR, hW, ⟨(0, 0, 0, fun _ => 0, 0, fun _ => 0), DIRM.same (DIRM.fr hDM hO0 hW0 hLn0 hTn0 hLv0 hTv0 (by omega) hR0 (hb2so.trans hd1.symm) (hb2ad.trans hd2.symm) hQna hQva (fun k hk => ⟨by simp only [List.mem_cons, List.not_mem_nil, or_false]; omega, by simp only [List.mem_cons, List.not_mem_nil, or_false]; omega⟩)), fun q => absurd q (by omega)⟩⟩⟩, hS.F ht⟩) hS.2.2 dX15_entry_117
                  ·
                    have hi_556 : j ≠ zt := fun q => c_554 (by rw [q])
                    refine lv_aload_n hx hb dX15_entry_103 rfl (lv_at hl 4 rfl) ?_
                    refine pg_get (ci := 15) (v := .ref ta) (C := RX15) (T := TX15) (N := 59) hx hb hts it_15 hown hK hP hL_h0 hb2 rfl 0 (by decide) (hts _ kt_1006) (fun _ h9 => h9) rfl dX15_entry_104 ?_
                    refine lv_iconst (v := 0) hx hb dX15_entry_107 (by decide) ?_
                    refine lv_iload hx hb dX15_entry_108 (lv_at hl 0 rfl) ?_
                    refine W.eq (g2 := F0 m 110 ls [.int (nI kend), .int (nI 0), .ref ta]) rfl ?_
                    obtain ⟨hq_557, hq_558⟩ := hW.octs hi_79 ht_80
                    have hFc := pg_free hD hS hA
                    refine va_calli (va_runS (As := [.ref ta, .int (nI 0), .int (nI kend)]) (rest := []) ⟨hx, hb, hml, hown, hts⟩ (s_X14_isName_e l dC dI cs ty gm L H.size F_338 ta (ρ + 1) 3000 0 kend gt hW hi_79 ht_80 hF_341 (by first | omega | assumption | exact Or.inl rfl) (by first | omega | assumption | exact Or.inl rfl)) ⟨callB_of 3 hts (gi kt_689) rfl rfl rfl (hts _ kt_676) (hts _ kt_848) (by decide +kernel) ⟨Nat.le_of_ble_eq_true rfl, Nat.le_of_ble_eq_true rfl⟩, (hts _ kt_691)⟩ ⟨fun a U g mk q => ⟨q.1, PTm.calling q.2⟩, fun U hU hWm => ⟨rfl, PTm.mk hU hWm hP hK hD hE hO⟩⟩ rfl rfl hl.1 rfl (lv_room (Nat.le_of_ble_eq_true rfl)) dX15_entry_110 ⟨by show _ + 0 ≤ 0; omega, by show _ + 0 ≤ 0; omega⟩) hS (fun q _ h => hFc q h) hFc (fun r_559 u t H1 locs ht hvm hw hB hz1 hk1 hS => ?_)
                    obtain ⟨F_560, hB1⟩ := hB
                    obtain rfl : F_338 = F_560 := (funext (fun a => hB1.2.2.2 a List.not_mem_nil)).symm
                    obtain ⟨hP, hD, hO, hR⟩ := QTm.back hB1 ht hFc hR (fun q h => absurd h List.not_mem_nil)
                    generalize H1 = H at hP hS ⊢
                    have hw : r_559 = (if NM gt 0 kend = true then 1 else 0) := hw
                    have hw_561 := hw
                    refine lv_if_ne (tgt := 118) hx hb dX15_entry_113 (by decide) (fun c_562 => ?_) (fun c_562 => ?_)
                    ·
                      refine W.widen (k := 0) (n := 0) (by omega) (by omega) ?_
                      exact jn_342 () F_338 (⟨ifb1 hw_561 c_562, nm_60 (ifb1 hw_561 c_562), fun _ => by omega, hb2, hb2so, hb2ad⟩) hO hR _ _ hP hD hS ls (lv_sub hl [0, 1, 2, 3, 4, 5, 6] rfl)
                    ·
                      refine lv_iconst (v := (-1)) hx hb dX15_entry_116 (by decide) ?_
                      refine W.widen (k := 0) (n := 0) (by omega) (by omega) ?_
                      have hR0 := FR.unre hT00 hty hR
                      have hQna := hR0 na (by rw [hTn0]; simp only [List.mem_cons, List.not_mem_nil, or_false]; omega)
                      have hQva := hR0 va (by rw [hTv0]; simp only [List.mem_cons, List.not_mem_nil, or_false]; omega)
                      exact W.iret (v := (-1)) hx hb hr (fun t ht hWm => ⟨⟨(-1), ze, rfl, (Or.inr (Or.inl ⟨hc40, val_nn (hs5x (hs5.resolve_left c_547)) (hfst (hs5.resolve_left c_547)) (by rw [← hk1e (hs5.resolve_left c_547)]; exact (ifb0 hw_561 c_562)), rfl, rfl⟩)), ⟨F_338, ty, hty, QTm.mk ht hP hD hO hR, hW, ⟨(0, 0, 0, fun _ => 0, 0, fun _ => 0), DIRM.same (DIRM.fr hDM hO0 hW0 hLn0 hTn0 hLv0 hTv0 (by omega) hR0 (hb2so.trans hd1.symm) (hb2ad.trans hd2.symm) hQna hQva (fun k hk => ⟨by simp only [List.mem_cons, List.not_mem_nil, or_false]; omega, by simp only [List.mem_cons, List.not_mem_nil, or_false]; omega⟩)), fun q => absurd q (by omega)⟩⟩⟩, hS.F ht⟩) hS.2.2 dX15_entry_117
            ·
              refine lv_iload hx hb dX15_entry_79 (lv_at hl 0 rfl) ?_
              refine lv_if_eq (tgt := 89) hx hb dX15_entry_81 (by decide) (fun c_563 => ?_) (fun c_563 => ?_)
              ·
                refine lv_iload_n hx hb dX15_entry_89 rfl (lv_at hl 2 rfl) ?_
                refine W.widen (k := 0) (n := 0) (by omega) (by omega) ?_
                exact jn_337 (nI zt) F_102 (⟨⟨zt, Nat.le_refl _, rfl, fun h => absurd (h.symm.trans c_563) (by decide), fun _ => rfl⟩, ha2, ha2so, ha2ad⟩) hO hR _ _ hP hD hS ls (lv_sub hl [0, 1, 2, 3, 4, 5] rfl)
              ·
                refine lv_iload hx hb dX15_entry_84 (lv_at hl 1 rfl) ?_
                refine lv_goto (tgt := 90) hx hb dX15_entry_86 (by decide) ?_
                refine W.widen (k := 0) (n := 0) (by omega) (by omega) ?_
                exact jn_337 (nI j) F_102 (⟨⟨j, by omega, rfl, fun _ => rfl, fun h => absurd h c_563⟩, ha2, ha2so, ha2ad⟩) hO hR _ _ hP hD hS ls (lv_sub hl [0, 1, 2, 3, 4, 5] rfl)
          ·
            have hi_564 : j < zt := ltN (N := zt) c_335
            refine lv_aload_n hx hb dX15_entry_61 rfl (lv_at hl 3 rfl) ?_
            refine pg_get (ci := 15) (v := .ref ta) (C := RX15) (T := TX15) (N := 59) hx hb hts it_15 hown hK hP hL_h0 ha2 rfl 0 (by decide) (hts _ kt_1006) (fun _ h9 => h9) rfl dX15_entry_62 ?_
            refine lv_iload hx hb dX15_entry_65 (lv_at hl 1 rfl) ?_
            obtain ⟨hq_565, hq_566⟩ := hW.octs hi_79 ht_80
            refine pg_bald hx hb hK hP hi_79 1 hF_106 rfl (vp_in_nI (by omega) (by omega)) dX15_entry_67 ?_
            refine lv_topi (fun x_567 ex_567 => ?_)
            obtain rfl : x_567 = gt j := ex_567.trans (congrArg gt (show ((nI j) : Int32).toNatClampNeg = j from nI_clamp (by omega)))
            refine lv_bipush (v := 32) hx hb dX15_entry_68 (by decide) ?_
            refine lv_icmp_eq (tgt := 79) hx hb dX15_entry_70 (by decide) (fun c_568 => ?_) (fun c_568 => ?_)
            ·
              have hfst : s5 = 1 → FST gt 32 zt j := fun _ => ⟨by omega, ha3, Or.inr c_568⟩
              have hF_571 : F ta = .inl (cs 17, 3000, .inl gt) := (hR ta (by rw [ht_80]; simp only [List.mem_cons, List.not_mem_nil, or_false]; omega)).symm.trans hF_106
              refine W.widen (k := 0) (n := 0) (by omega) (by omega) ?_
              refine pl_cutm (σ := Int32) A (dC, dI) cs ty gm L [ρ, ρ + 3, ρ + 31, ρ + 4 + ze + 100, ρ + 50 + ze + 100] F 90 7 (fun s6 => [(5, .int s5), (4, .int (nI j)), (3, .int (nI zt)), (0, .ref h0), (1, .int x1), (2, .int x2)]) (fun s6 => [.int s6]) (fun s6 FF => (∃ k : Nat, k ≤ zt ∧ s6 = nI k ∧ (s5 = 1 → k = j) ∧ (s5 = 0 → k = zt)) ∧ FF h0 = .inr (15, (.ref ta) :: (.int 0) :: (.int (nI zo)) :: (.int (nI ze)) :: (.ref ou) :: (.ref so) :: (.ref ad) :: (.ref na) :: (.ref va) :: (.ref lc) :: (.ref dm) :: (.int (nI fm)) :: (.int (nI sn)) :: (.ref tg) :: (.int v14_29) :: (.int v15_30) :: (.ref pe) :: (.int v17_31) :: (.int v18_32) :: (.int v19_33) :: (.int v20_34) :: (.int v21_35) :: (.int v22_36) :: (.ref ml) :: (.ref bg) :: (.ref co) :: (.ref sp) :: (.ref nb0) :: (.ref nb1) :: (.ref nb2) :: (.int (nI nf)) :: (.int (nI bd)) :: (.int (nI mm)) :: (.int v33_37) :: (.ref pl) :: (.ref se) :: (.ref ke) :: (.ref wi) :: (.ref hs) :: (.ref mo) :: (.ref po) :: (.ref nu) :: (.ref pr) :: (.ref sq) :: (.ref xa) :: (.ref sa) :: (.ref n64) :: (.ref m64) :: (.ref ex) :: (.ref wh) :: (.ref sd) :: (.ref tk) :: (.int v52_38) :: (.int v53_39) :: (.int v54_40) :: (.ref hd) :: (.ref ak) :: (.ref ho) :: (.ref ot) :: []) ∧ FF so = .inl (cs 16, 40, .inl fs) ∧ FF ad = .inl (cs 16, 40, .inl fd)) ?_ (fun jn_569 => ?_)
              ·
                rintro s6 F_570 hv_572 hO hR H locs hP hD hS ls hl
                have hl : lv_has ls 7 [(5, .int s5), (4, .int (nI j)), (3, .int (nI zt)), (0, .ref h0), (1, .int x1), (2, .int x2)] := hl
                have hv_572 : (∃ k : Nat, k ≤ zt ∧ s6 = nI k ∧ (s5 = 1 → k = j) ∧ (s5 = 0 → k = zt)) ∧ F_570 h0 = .inr (15, (.ref ta) :: (.int 0) :: (.int (nI zo)) :: (.int (nI ze)) :: (.ref ou) :: (.ref so) :: (.ref ad) :: (.ref na) :: (.ref va) :: (.ref lc) :: (.ref dm) :: (.int (nI fm)) :: (.int (nI sn)) :: (.ref tg) :: (.int v14_29) :: (.int v15_30) :: (.ref pe) :: (.int v17_31) :: (.int v18_32) :: (.int v19_33) :: (.int v20_34) :: (.int v21_35) :: (.int v22_36) :: (.ref ml) :: (.ref bg) :: (.ref co) :: (.ref sp) :: (.ref nb0) :: (.ref nb1) :: (.ref nb2) :: (.int (nI nf)) :: (.int (nI bd)) :: (.int (nI mm)) :: (.int v33_37) :: (.ref pl) :: (.ref se) :: (.ref ke) :: (.ref wi) :: (.ref hs) :: (.ref mo) :: (.ref po) :: (.ref nu) :: (.ref pr) :: (.ref sq) :: (.ref xa) :: (.ref sa) :: (.ref n64) :: (.ref m64) :: (.ref ex) :: (.ref wh) :: (.ref sd) :: (.ref tk) :: (.int v52_38) :: (.int v53_39) :: (.int v54_40) :: (.ref hd) :: (.ref ak) :: (.ref ho) :: (.ref ot) :: []) ∧ F_570 so = .inl (cs 16, 40, .inl fs) ∧ F_570 ad = .inl (cs 16, 40, .inl fd) := hv_572
                refine W.eq (g2 := F0 m 90 ls [.int s6]) rfl ?_
                have hF_573 : F_570 ta = .inl (cs 17, 3000, .inl gt) := (hR ta (by rw [ht_80]; simp only [List.mem_cons, List.not_mem_nil, or_false]; omega)).trans hF_571
                obtain ⟨⟨kend, hke, eke, hk1e, hk0e⟩, hb2⟩ := hv_572
                subst eke
                refine W.eq (g2 := F0 m 90 ls [.int (nI kend)]) rfl ?_
                obtain ⟨hb2, hb2so, hb2ad⟩ := hb2
                refine lv_istore (lv' := [(6, .int (nI kend)), (5, .int s5), (4, .int (nI j)), (3, .int (nI zt)), (0, .ref h0), (1, .int x1), (2, .int x2)]) hx hb dX15_entry_90 hl (by decide) rfl (fun ls hl => ?_)
                have hF_576 : F ta = .inl (cs 17, 3000, .inl gt) := (hR ta (by rw [ht_80]; simp only [List.mem_cons, List.not_mem_nil, or_false]; omega)).symm.trans hF_573
                refine W.widen (k := 0) (n := 0) (by omega) (by omega) ?_
                refine pl_cutm (σ := Unit) A (dC, dI) cs ty gm L [ρ, ρ + 3, ρ + 31, ρ + 4 + ze + 100, ρ + 50 + ze + 100] F 118 7 (fun u0 => [(6, .int (nI kend)), (5, .int s5), (4, .int (nI j)), (3, .int (nI zt)), (0, .ref h0), (1, .int x1), (2, .int x2)]) (fun u0 => []) (fun u0 FF => NM gt 0 kend = true ∧ kend ≤ 60 ∧ (s5 = 1 → j < zt) ∧ FF h0 = .inr (15, (.ref ta) :: (.int 0) :: (.int (nI zo)) :: (.int (nI ze)) :: (.ref ou) :: (.ref so) :: (.ref ad) :: (.ref na) :: (.ref va) :: (.ref lc) :: (.ref dm) :: (.int (nI fm)) :: (.int (nI sn)) :: (.ref tg) :: (.int v14_29) :: (.int v15_30) :: (.ref pe) :: (.int v17_31) :: (.int v18_32) :: (.int v19_33) :: (.int v20_34) :: (.int v21_35) :: (.int v22_36) :: (.ref ml) :: (.ref bg) :: (.ref co) :: (.ref sp) :: (.ref nb0) :: (.ref nb1) :: (.ref nb2) :: (.int (nI nf)) :: (.int (nI bd)) :: (.int (nI mm)) :: (.int v33_37) :: (.ref pl) :: (.ref se) :: (.ref ke) :: (.ref wi) :: (.ref hs) :: (.ref mo) :: (.ref po) :: (.ref nu) :: (.ref pr) :: (.ref sq) :: (.ref xa) :: (.ref sa) :: (.ref n64) :: (.ref m64) :: (.ref ex) :: (.ref wh) :: (.ref sd) :: (.ref tk) :: (.int v52_38) :: (.int v53_39) :: (.int v54_40) :: (.ref hd) :: (.ref ak) :: (.ref ho) :: (.ref ot) :: []) ∧ FF so = .inl (cs 16, 40, .inl fs) ∧ FF ad = .inl (cs 16, 40, .inl fd)) ?_ (fun jn_574 => ?_)
                ·
                  rintro u0 F_575 hv_577 hO hR H locs hP hD hS ls hl
                  have hl : lv_has ls 7 [(6, .int (nI kend)), (5, .int s5), (4, .int (nI j)), (3, .int (nI zt)), (0, .ref h0), (1, .int x1), (2, .int x2)] := hl
                  have hv_577 : NM gt 0 kend = true ∧ kend ≤ 60 ∧ (s5 = 1 → j < zt) ∧ F_575 h0 = .inr (15, (.ref ta) :: (.int 0) :: (.int (nI zo)) :: (.int (nI ze)) :: (.ref ou) :: (.ref so) :: (.ref ad) :: (.ref na) :: (.ref va) :: (.ref lc) :: (.ref dm) :: (.int (nI fm)) :: (.int (nI sn)) :: (.ref tg) :: (.int v14_29) :: (.int v15_30) :: (.ref pe) :: (.int v17_31) :: (.int v18_32) :: (.int v19_33) :: (.int v20_34) :: (.int v21_35) :: (.int v22_36) :: (.ref ml) :: (.ref bg) :: (.ref co) :: (.ref sp) :: (.ref nb0) :: (.ref nb1) :: (.ref nb2) :: (.int (nI nf)) :: (.int (nI bd)) :: (.int (nI mm)) :: (.int v33_37) :: (.ref pl) :: (.ref se) :: (.ref ke) :: (.ref wi) :: (.ref hs) :: (.ref mo) :: (.ref po) :: (.ref nu) :: (.ref pr) :: (.ref sq) :: (.ref xa) :: (.ref sa) :: (.ref n64) :: (.ref m64) :: (.ref ex) :: (.ref wh) :: (.ref sd) :: (.ref tk) :: (.int v52_38) :: (.int v53_39) :: (.int v54_40) :: (.ref hd) :: (.ref ak) :: (.ref ho) :: (.ref ot) :: []) ∧ F_575 so = .inl (cs 16, 40, .inl fs) ∧ F_575 ad = .inl (cs 16, 40, .inl fd) := hv_577
                  refine W.eq (g2 := F0 m 118 ls []) rfl ?_
                  have hF_578 : F_575 ta = .inl (cs 17, 3000, .inl gt) := (hR ta (by rw [ht_80]; simp only [List.mem_cons, List.not_mem_nil, or_false]; omega)).trans hF_576
                  obtain ⟨hn1, hn6, hn2, hn3⟩ := hv_577
                  obtain ⟨hn3, hn3so, hn3ad⟩ := hn3
                  have hF_581 : F ta = .inl (cs 17, 3000, .inl gt) := (hR ta (by rw [ht_80]; simp only [List.mem_cons, List.not_mem_nil, or_false]; omega)).symm.trans hF_578
                  refine W.widen (k := 0) (n := 0) (by omega) (by omega) ?_
                  refine pl_cutm (σ := Unit) A (dC, dI) cs ty gm L [ρ, ρ + 3, ρ + 31, ρ + 4 + ze + 100, ρ + 50 + ze + 100] F 156 7 (fun u0 => [(6, .int (nI kend)), (5, .int s5), (4, .int (nI j)), (3, .int (nI zt)), (0, .ref h0), (1, .int x1), (2, .int x2)]) (fun u0 => []) (fun u0 FF => (s5 = 1 → ISV x1 gt zt j ∧ zt - j - 1 ≤ 700) ∧ FF h0 = .inr (15, (.ref ta) :: (.int 0) :: (.int (nI zo)) :: (.int (nI ze)) :: (.ref ou) :: (.ref so) :: (.ref ad) :: (.ref na) :: (.ref va) :: (.ref lc) :: (.ref dm) :: (.int (nI fm)) :: (.int (nI sn)) :: (.ref tg) :: (.int v14_29) :: (.int v15_30) :: (.ref pe) :: (.int v17_31) :: (.int v18_32) :: (.int v19_33) :: (.int v20_34) :: (.int v21_35) :: (.int v22_36) :: (.ref ml) :: (.ref bg) :: (.ref co) :: (.ref sp) :: (.ref nb0) :: (.ref nb1) :: (.ref nb2) :: (.int (nI nf)) :: (.int (nI bd)) :: (.int (nI mm)) :: (.int v33_37) :: (.ref pl) :: (.ref se) :: (.ref ke) :: (.ref wi) :: (.ref hs) :: (.ref mo) :: (.ref po) :: (.ref nu) :: (.ref pr) :: (.ref sq) :: (.ref xa) :: (.ref sa) :: (.ref n64) :: (.ref m64) :: (.ref ex) :: (.ref wh) :: (.ref sd) :: (.ref tk) :: (.int v52_38) :: (.int v53_39) :: (.int v54_40) :: (.ref hd) :: (.ref ak) :: (.ref ho) :: (.ref ot) :: []) ∧ FF so = .inl (cs 16, 40, .inl fs) ∧ FF ad = .inl (cs 16, 40, .inl fd)) ?_ (fun jn_579 => ?_)
                  ·
                    rintro u0 F_580 hv_582 hO hR H locs hP hD hS ls hl
                    have hl : lv_has ls 7 [(6, .int (nI kend)), (5, .int s5), (4, .int (nI j)), (3, .int (nI zt)), (0, .ref h0), (1, .int x1), (2, .int x2)] := hl
                    have hv_582 : (s5 = 1 → ISV x1 gt zt j ∧ zt - j - 1 ≤ 700) ∧ F_580 h0 = .inr (15, (.ref ta) :: (.int 0) :: (.int (nI zo)) :: (.int (nI ze)) :: (.ref ou) :: (.ref so) :: (.ref ad) :: (.ref na) :: (.ref va) :: (.ref lc) :: (.ref dm) :: (.int (nI fm)) :: (.int (nI sn)) :: (.ref tg) :: (.int v14_29) :: (.int v15_30) :: (.ref pe) :: (.int v17_31) :: (.int v18_32) :: (.int v19_33) :: (.int v20_34) :: (.int v21_35) :: (.int v22_36) :: (.ref ml) :: (.ref bg) :: (.ref co) :: (.ref sp) :: (.ref nb0) :: (.ref nb1) :: (.ref nb2) :: (.int (nI nf)) :: (.int (nI bd)) :: (.int (nI mm)) :: (.int v33_37) :: (.ref pl) :: (.ref se) :: (.ref ke) :: (.ref wi) :: (.ref hs) :: (.ref mo) :: (.ref po) :: (.ref nu) :: (.ref pr) :: (.ref sq) :: (.ref xa) :: (.ref sa) :: (.ref n64) :: (.ref m64) :: (.ref ex) :: (.ref wh) :: (.ref sd) :: (.ref tk) :: (.int v52_38) :: (.int v53_39) :: (.int v54_40) :: (.ref hd) :: (.ref ak) :: (.ref ho) :: (.ref ot) :: []) ∧ F_580 so = .inl (cs 16, 40, .inl fs) ∧ F_580 ad = .inl (cs 16, 40, .inl fd) := hv_582
                    refine W.eq (g2 := F0 m 156 ls []) rfl ?_
                    have hF_583 : F_580 ta = .inl (cs 17, 3000, .inl gt) := (hR ta (by rw [ht_80]; simp only [List.mem_cons, List.not_mem_nil, or_false]; omega)).trans hF_581
                    obtain ⟨ho1, ho2⟩ := hv_582
                    obtain ⟨ho2, ho2so, ho2ad⟩ := ho2
                    refine lv_aload_n hx hb dX15_entry_156 rfl (lv_at hl 4 rfl) ?_
                    refine pg_get (ci := 15) (v := .ref so) (C := RX15) (T := TX15) (N := 59) hx hb hts it_15 hown hK hP hL_h0 ho2 rfl 5 (by decide) (hts _ kt_718) (fun _ h9 => h9) rfl dX15_entry_157 ?_
                    refine lv_aload_n hx hb dX15_entry_160 rfl (lv_at hl 4 rfl) ?_
                    refine pg_get (ci := 15) (v := .int (nI ze)) (C := RX15) (T := TX15) (N := 59) hx hb hts it_15 hown hK hP hL_h0 ho2 rfl 3 (by decide) (hts _ kt_724) (fun _ h9 => h9) rfl dX15_entry_161 ?_
                    refine lv_iload_n hx hb dX15_entry_164 rfl (lv_at hl 5 rfl) ?_
                    refine pg_iast hx hb hK hP hD hS hi_82 0 ho2so rfl (vp_in_nI (by omega) (by omega)) dX15_entry_165 (fun H locs hP hD hS => ?_)
                    obtain ⟨F_584, he_585, hP, hD, hO, hR⟩ : ∃ G, G = va_up F_580 so (.inl (cs 16, 40, .inl (upd fs ((nI ze)).toNatClampNeg (x1)))) ∧ va_P (dC, dI) vwCl (va_pl L G) H ∧ va_D A (va_pl L G) ∧ OKm cs ty gm L G ∧ FR ty [ρ, ρ + 3, ρ + 31, ρ + 4 + ze + 100, ρ + 50 + ze + 100] F G := ⟨_, rfl, hP, hD, hO.up (shm.ints ht_83 ⟨_, rfl⟩), hR.up ht_83 (by simp)⟩
                    have hF_586 : F_584 so = .inl (cs 16, 40, .inl (upd fs ((nI ze)).toNatClampNeg (x1))) := by rw [he_585]; exact up_self
                    have hF_587 : F_584 ta = .inl (cs 17, 3000, .inl gt) := by rw [he_585, up_ne (ne_ty ht_80 ht_83 (by simp))]; exact hF_583
                    have hF_588 : F_584 h0 = .inr (15, (.ref ta) :: (.int 0) :: (.int (nI zo)) :: (.int (nI ze)) :: (.ref ou) :: (.ref so) :: (.ref ad) :: (.ref na) :: (.ref va) :: (.ref lc) :: (.ref dm) :: (.int (nI fm)) :: (.int (nI sn)) :: (.ref tg) :: (.int v14_29) :: (.int v15_30) :: (.ref pe) :: (.int v17_31) :: (.int v18_32) :: (.int v19_33) :: (.int v20_34) :: (.int v21_35) :: (.int v22_36) :: (.ref ml) :: (.ref bg) :: (.ref co) :: (.ref sp) :: (.ref nb0) :: (.ref nb1) :: (.ref nb2) :: (.int (nI nf)) :: (.int (nI bd)) :: (.int (nI mm)) :: (.int v33_37) :: (.ref pl) :: (.ref se) :: (.ref ke) :: (.ref wi) :: (.ref hs) :: (.ref mo) :: (.ref po) :: (.ref nu) :: (.ref pr) :: (.ref sq) :: (.ref xa) :: (.ref sa) :: (.ref n64) :: (.ref m64) :: (.ref ex) :: (.ref wh) :: (.ref sd) :: (.ref tk) :: (.int v52_38) :: (.int v53_39) :: (.int v54_40) :: (.ref hd) :: (.ref ak) :: (.ref ho) :: (.ref ot) :: []) := by rw [he_585, up_ne (ne_ty hT_h0 ht_83 (by simp))]; exact ho2
                    have hF_589 : F_584 ad = .inl (cs 16, 40, .inl fd) := by rw [he_585, up_ne (ne_ty2 ht_86 ht_83 (by simp))]; exact ho2ad
                    have hF_590 : F_584 so = .inl (cs 16, 40, .inl (upd fs ze x1)) := by have h9 := hF_586; rwa [nI_clamp (by omega)] at h9
                    refine lv_aload_n hx hb dX15_entry_166 rfl (lv_at hl 4 rfl) ?_
                    refine pg_get (ci := 15) (v := .ref ad) (C := RX15) (T := TX15) (N := 59) hx hb hts it_15 hown hK hP hL_h0 hF_588 rfl 6 (by decide) (hts _ kt_740) (fun _ h9 => h9) rfl dX15_entry_167 ?_
                    refine lv_aload_n hx hb dX15_entry_170 rfl (lv_at hl 4 rfl) ?_
                    refine pg_get (ci := 15) (v := .int (nI ze)) (C := RX15) (T := TX15) (N := 59) hx hb hts it_15 hown hK hP hL_h0 hF_588 rfl 3 (by decide) (hts _ kt_724) (fun _ h9 => h9) rfl dX15_entry_171 ?_
                    refine lv_iload_n hx hb dX15_entry_174 rfl (lv_at hl 6 rfl) ?_
                    refine pg_iast hx hb hK hP hD hS hi_85 0 hF_589 rfl (vp_in_nI (by omega) (by omega)) dX15_entry_175 (fun H locs hP hD hS => ?_)
                    obtain ⟨F_591, he_592, hP, hD, hO, hR⟩ : ∃ G, G = va_up F_584 ad (.inl (cs 16, 40, .inl (upd fd ((nI ze)).toNatClampNeg (x2)))) ∧ va_P (dC, dI) vwCl (va_pl L G) H ∧ va_D A (va_pl L G) ∧ OKm cs ty gm L G ∧ FR ty [ρ, ρ + 3, ρ + 31, ρ + 4 + ze + 100, ρ + 50 + ze + 100] F G := ⟨_, rfl, hP, hD, hO.up (shm.ints ht_86 ⟨_, rfl⟩), hR.up ht_86 (by simp)⟩
                    have hF_593 : F_591 ad = .inl (cs 16, 40, .inl (upd fd ((nI ze)).toNatClampNeg (x2))) := by rw [he_592]; exact up_self
                    have hF_594 : F_591 so = .inl (cs 16, 40, .inl (upd fs ze x1)) := by rw [he_592, up_ne (ne_ty2 ht_83 ht_86 (by simp))]; exact hF_590
                    have hF_595 : F_591 ta = .inl (cs 17, 3000, .inl gt) := by rw [he_592, up_ne (ne_ty ht_80 ht_86 (by simp))]; exact hF_587
                    have hF_596 : F_591 h0 = .inr (15, (.ref ta) :: (.int 0) :: (.int (nI zo)) :: (.int (nI ze)) :: (.ref ou) :: (.ref so) :: (.ref ad) :: (.ref na) :: (.ref va) :: (.ref lc) :: (.ref dm) :: (.int (nI fm)) :: (.int (nI sn)) :: (.ref tg) :: (.int v14_29) :: (.int v15_30) :: (.ref pe) :: (.int v17_31) :: (.int v18_32) :: (.int v19_33) :: (.int v20_34) :: (.int v21_35) :: (.int v22_36) :: (.ref ml) :: (.ref bg) :: (.ref co) :: (.ref sp) :: (.ref nb0) :: (.ref nb1) :: (.ref nb2) :: (.int (nI nf)) :: (.int (nI bd)) :: (.int (nI mm)) :: (.int v33_37) :: (.ref pl) :: (.ref se) :: (.ref ke) :: (.ref wi) :: (.ref hs) :: (.ref mo) :: (.ref po) :: (.ref nu) :: (.ref pr) :: (.ref sq) :: (.ref xa) :: (.ref sa) :: (.ref n64) :: (.ref m64) :: (.ref ex) :: (.ref wh) :: (.ref sd) :: (.ref tk) :: (.int v52_38) :: (.int v53_39) :: (.int v54_40) :: (.ref hd) :: (.ref ak) :: (.ref ho) :: (.ref ot) :: []) := by rw [he_592, up_ne (ne_ty hT_h0 ht_86 (by simp))]; exact hF_588
                    have hF_597 : F_591 ad = .inl (cs 16, 40, .inl (upd fd ze x2)) := by have h9 := hF_593; rwa [nI_clamp (by omega)] at h9
                    refine lv_aload_n hx hb dX15_entry_176 rfl (lv_at hl 4 rfl) ?_
                    refine pg_get (ci := 15) (v := .ref na) (C := RX15) (T := TX15) (N := 59) hx hb hts it_15 hown hK hP hL_h0 hF_596 rfl 7 (by decide) (hts _ kt_719) (fun _ h9 => h9) rfl dX15_entry_177 ?_
                    refine lv_aload_n hx hb dX15_entry_180 rfl (lv_at hl 4 rfl) ?_
                    refine pg_get (ci := 15) (v := .int (nI ze)) (C := RX15) (T := TX15) (N := 59) hx hb hts it_15 hown hK hP hL_h0 hF_596 rfl 3 (by decide) (hts _ kt_724) (fun _ h9 => h9) rfl dX15_entry_181 ?_
                    have hzna := FR.unre hT00 hty hR na (by rw [hTn0]; simp only [List.mem_cons, List.not_mem_nil, or_false]; omega)
                    obtain ⟨hi_598, ht_599⟩ := hW.f_na hL_h0 hT_h0
                    obtain ⟨f_600, hF_601, hq_602⟩ := hO.rtxj hi_598 ht_599
                    obtain rfl : fn = f_600 := by have e9 := (hzna.trans hd3).symm.trans hF_601; simpa using e9
                    obtain ⟨b_603, r_604, hbf_605, hi_606, ht_607⟩ := hq_602 ze (by omega)
                    refine pg_aald (r := b_603) hx hb hK hP hi_598 7 hF_601 rfl (vp_in_nI (by omega) (by omega)) (show fn ((nI ze) : Int32).toNatClampNeg = _ from by rw [show ((nI ze) : Int32) = nI ze from rfl, nI_clamp (by omega)]; exact hbf_605) dX15_entry_184 ?_
                    refine lv_aload_n hx hb dX15_entry_185 rfl (lv_at hl 4 rfl) ?_
                    refine pg_get (ci := 15) (v := .ref ta) (C := RX15) (T := TX15) (N := 59) hx hb hts it_15 hown hK hP hL_h0 hF_596 rfl 0 (by decide) (hts _ kt_1006) (fun _ h9 => h9) rfl dX15_entry_186 ?_
                    refine lv_iconst (v := 0) hx hb dX15_entry_189 (by decide) ?_
                    refine lv_iload hx hb dX15_entry_190 (lv_at hl 0 rfl) ?_
                    refine W.eq (g2 := F0 m 192 ls [.int (nI kend), .int (nI 0), .ref ta, .ref b_603]) rfl ?_
                    obtain ⟨hi_608, ht_609, hq_610⟩ := hW.txt hi_606 ht_607
                    have hFc := pg_free hD hS hA
                    obtain ⟨z_611, hF_612, hq_613⟩ := hO.txt hi_606 ht_607
                    refine va_callv (va_runV (As := [.ref ta, .int (nI 0), .int (nI kend)]) (rest := []) ⟨hx, hb, hml, hown, hts⟩ (s_X14_set_e l dC dI cs ty gm L H.size F_591 b_603 (ρ + 4 + ze + 100) r_604 60 ta (ρ + 1) 3000 0 kend gt hW hi_606 ht_607 hi_79 ht_80 hF_595 (Nat.zero_le _) (by omega) (by omega)) ⟨callB_of 3 hts (gi kt_941) rfl rfl rfl (hts _ kt_676) (hts _ kt_942) (by decide +kernel) ⟨Nat.le_of_ble_eq_true rfl, Nat.le_of_ble_eq_true rfl⟩, (hts _ kt_943), (hts _ kt_944)⟩ ⟨fun a U g mk q => ⟨q.1, PTm.calling q.2⟩, pg_recv hK hP hi_606 hF_612 (q := (RX14, TX14, 2)) rfl, fun U hU hWm => ⟨rfl, PTm.mk hU hWm hP hK hD hE hO⟩⟩ rfl rfl hl.1 rfl (lv_room (Nat.le_of_ble_eq_true rfl)) dX15_entry_192 ⟨by show _ + 0 ≤ 0; omega, by show _ + 0 ≤ 0; omega⟩) hS (fun q _ h => hFc q h) hFc (fun u t H1 locs ht hvm hw hB hz1 hk1 hS => ?_)
                    obtain ⟨F_615, fc_616, hB1, hq_617, hq_618, hq_619⟩ := hB
                    obtain ⟨hP, hD, hO, hR⟩ := QTm.back hB1 ht hFc hR (fun q h => by simp only [List.mem_cons, List.not_mem_nil, or_false] at h ⊢; omega)
                    have hF_620 : F_615 ad = .inl (cs 16, 40, .inl (upd fd ze x2)) := (hB1.2.2.2 ad (by rw [ht_86]; simp only [List.mem_cons, List.not_mem_nil, or_false]; omega)).trans hF_597
                    have hF_621 : F_615 so = .inl (cs 16, 40, .inl (upd fs ze x1)) := (hB1.2.2.2 so (by rw [ht_83]; simp only [List.mem_cons, List.not_mem_nil, or_false]; omega)).trans hF_594
                    have hF_622 : F_615 ta = .inl (cs 17, 3000, .inl gt) := (hB1.2.2.2 ta (by rw [ht_80]; simp only [List.mem_cons, List.not_mem_nil, or_false]; omega)).trans hF_595
                    have hF_623 : F_615 h0 = .inr (15, (.ref ta) :: (.int 0) :: (.int (nI zo)) :: (.int (nI ze)) :: (.ref ou) :: (.ref so) :: (.ref ad) :: (.ref na) :: (.ref va) :: (.ref lc) :: (.ref dm) :: (.int (nI fm)) :: (.int (nI sn)) :: (.ref tg) :: (.int v14_29) :: (.int v15_30) :: (.ref pe) :: (.int v17_31) :: (.int v18_32) :: (.int v19_33) :: (.int v20_34) :: (.int v21_35) :: (.int v22_36) :: (.ref ml) :: (.ref bg) :: (.ref co) :: (.ref sp) :: (.ref nb0) :: (.ref nb1) :: (.ref nb2) :: (.int (nI nf)) :: (.int (nI bd)) :: (.int (nI mm)) :: (.int v33_37) :: (.ref pl) :: (.ref se) :: (.ref ke) :: (.ref wi) :: (.ref hs) :: (.ref mo) :: (.ref po) :: (.ref nu) :: (.ref pr) :: (.ref sq) :: (.ref xa) :: (.ref sa) :: (.ref n64) :: (.ref m64) :: (.ref ex) :: (.ref wh) :: (.ref sd) :: (.ref tk) :: (.int v52_38) :: (.int v53_39) :: (.int v54_40) :: (.ref hd) :: (.ref ak) :: (.ref ho) :: (.ref ot) :: []) := (hB1.2.2.2 h0 (by rw [hT_h0]; simp only [List.mem_cons, List.not_mem_nil, or_false]; omega)).trans hF_596
                    have hF_624 : F_615 na = .inl (cs 23, 40, .inr (.inr (.inr (.inr fn)))) := (hB1.2.2.2 na (by rw [ht_599]; simp only [List.mem_cons, List.not_mem_nil, or_false]; omega)).trans hF_601
                    generalize H1 = H at hP hS ⊢
                    refine lv_aload_n hx hb dX15_entry_195 rfl (lv_at hl 4 rfl) ?_
                    refine pg_get (ci := 15) (v := .ref va) (C := RX15) (T := TX15) (N := 59) hx hb hts it_15 hown hK hP hL_h0 hF_623 rfl 8 (by decide) (hts _ kt_732) (fun _ h9 => h9) rfl dX15_entry_196 ?_
                    refine lv_aload_n hx hb dX15_entry_199 rfl (lv_at hl 4 rfl) ?_
                    refine pg_get (ci := 15) (v := .int (nI ze)) (C := RX15) (T := TX15) (N := 59) hx hb hts it_15 hown hK hP hL_h0 hF_623 rfl 3 (by decide) (hts _ kt_724) (fun _ h9 => h9) rfl dX15_entry_200 ?_
                    have hzva := FR.unre hT00 hty hR va (by rw [hTv0]; simp only [List.mem_cons, List.not_mem_nil, or_false]; omega)
                    obtain ⟨hi_625, ht_626⟩ := hW.f_va hL_h0 hT_h0
                    obtain ⟨f_627, hF_628, hq_629⟩ := hO.rtxj hi_625 ht_626
                    obtain rfl : fv = f_627 := by have e9 := (hzva.trans hd4).symm.trans hF_628; simpa using e9
                    obtain ⟨b_630, r_631, hbf_632, hi_633, ht_634⟩ := hq_629 ze (by omega)
                    refine pg_aald (r := b_630) hx hb hK hP hi_625 7 hF_628 rfl (vp_in_nI (by omega) (by omega)) (show fv ((nI ze) : Int32).toNatClampNeg = _ from by rw [show ((nI ze) : Int32) = nI ze from rfl, nI_clamp (by omega)]; exact hbf_632) dX15_entry_203 ?_
                    refine lv_iconst (v := 0) hx hb dX15_entry_204 (by decide) ?_
                    obtain ⟨hi_635, ht_636, hq_637⟩ := hW.txt hi_633 ht_634
                    obtain ⟨z_638, hF_639, hq_640⟩ := hO.txt hi_633 ht_634
                    refine pg_put (ci := 14) (v := .int 0) (ty := .int) (C := RX14) (T := TX14) (N := 2) hx hb hts it_14 tyX14 tyX14_ok nmX14 hown hK hP hD hS hi_633 hF_639 rfl 1 (by decide) (hts _ kt_709) (fun _ h9 => h9) rfl (by decide +kernel) (rfl) (rfl) (Nat.le_of_ble_eq_true rfl) dX15_entry_205 (fun H locs hP hD hS => ?_)
                    obtain ⟨F_641, he_642, hP, hD, hO, hR⟩ : ∃ G, G = va_up F_615 b_630 (.inr (14, [.ref r_631, .int 0])) ∧ va_P (dC, dI) vwCl (va_pl L G) H ∧ va_D A (va_pl L G) ∧ OKm cs ty gm L G ∧ FR ty [ρ, ρ + 3, ρ + 31, ρ + 4 + ze + 100, ρ + 50 + ze + 100] F G := ⟨_, rfl, hP, hD, hO.up (shm.txt ht_634 ⟨0, rfl, (by first | omega | assumption | exact Or.inl rfl | exact Or.inr rfl)⟩), hR.up ht_634 (by simp)⟩
                    have hF_643 : F_641 b_630 = .inr (14, [.ref r_631, .int 0]) := by rw [he_642]; exact up_self
                    have hF_644 : F_641 ad = .inl (cs 16, 40, .inl (upd fd ze x2)) := by rw [he_642, up_ne (ne_ty ht_86 ht_634 (by simp))]; exact hF_620
                    have hF_645 : F_641 so = .inl (cs 16, 40, .inl (upd fs ze x1)) := by rw [he_642, up_ne (ne_ty ht_83 ht_634 (by simp))]; exact hF_621
                    have hF_646 : F_641 ta = .inl (cs 17, 3000, .inl gt) := by rw [he_642, up_ne (ne_ty ht_80 ht_634 (by simp))]; exact hF_622
                    have hF_647 : F_641 h0 = .inr (15, (.ref ta) :: (.int 0) :: (.int (nI zo)) :: (.int (nI ze)) :: (.ref ou) :: (.ref so) :: (.ref ad) :: (.ref na) :: (.ref va) :: (.ref lc) :: (.ref dm) :: (.int (nI fm)) :: (.int (nI sn)) :: (.ref tg) :: (.int v14_29) :: (.int v15_30) :: (.ref pe) :: (.int v17_31) :: (.int v18_32) :: (.int v19_33) :: (.int v20_34) :: (.int v21_35) :: (.int v22_36) :: (.ref ml) :: (.ref bg) :: (.ref co) :: (.ref sp) :: (.ref nb0) :: (.ref nb1) :: (.ref nb2) :: (.int (nI nf)) :: (.int (nI bd)) :: (.int (nI mm)) :: (.int v33_37) :: (.ref pl) :: (.ref se) :: (.ref ke) :: (.ref wi) :: (.ref hs) :: (.ref mo) :: (.ref po) :: (.ref nu) :: (.ref pr) :: (.ref sq) :: (.ref xa) :: (.ref sa) :: (.ref n64) :: (.ref m64) :: (.ref ex) :: (.ref wh) :: (.ref sd) :: (.ref tk) :: (.int v52_38) :: (.int v53_39) :: (.int v54_40) :: (.ref hd) :: (.ref ak) :: (.ref ho) :: (.ref ot) :: []) := by rw [he_642, up_ne (ne_ty hT_h0 ht_634 (by simp))]; exact hF_623
                    have hF_648 : F_641 na = .inl (cs 23, 40, .inr (.inr (.inr (.inr fn)))) := by rw [he_642, up_ne (ne_ty ht_599 ht_634 (by simp))]; exact hF_624
                    have hF_649 : F_641 b_603 = .inr (14, [.ref r_604, .int (nI (kend - 0))]) := by rw [he_642, up_ne (ne_ty2 ht_607 ht_634 (by simp))]; exact hq_617
                    have hF_650 : F_641 r_604 = .inl (cs 17, 60, .inl fc_616) := by rw [he_642, up_ne (ne_ty ht_609 ht_634 (by simp))]; exact hq_618
                    have hF_651 : F_641 va = .inl (cs 23, 40, .inr (.inr (.inr (.inr fv)))) := by rw [he_642, up_ne (ne_ty ht_626 ht_634 (by simp))]; exact hF_628
                    refine lv_iload hx hb dX15_entry_208 (lv_at hl 1 rfl) ?_
                    refine lv_if_eq (tgt := 234) hx hb dX15_entry_210 (by decide) (fun c_652 => ?_) (fun c_652 => ?_)
                    ·
                      refine lv_aload_n hx hb dX15_entry_234 rfl (lv_at hl 4 rfl) ?_
                      refine lv_dup hx hb dX15_entry_235 rfl ?_
                      refine pg_get (ci := 15) (v := .int (nI ze)) (C := RX15) (T := TX15) (N := 59) hx hb hts it_15 hown hK hP hL_h0 hF_647 rfl 3 (by decide) (hts _ kt_724) (fun _ h9 => h9) rfl dX15_entry_236 ?_
                      refine lv_iconst (v := 1) hx hb dX15_entry_239 (by decide) ?_
                      refine lv_iadd hx hb dX15_entry_240 ?_
                      refine lv_topi (fun x_653 ex_653 => ?_)
                      obtain rfl : x_653 = (nI (ze + 1)) := ex_653.trans (nI_add ze 1)
                      have htyU := hty
                      have hTU := hT_h0
                      obtain ⟨hq_654, hq_655⟩ := hW.octs hi_608 ht_609
                      obtain ⟨hq_656, hq_657⟩ := hW.octs hi_635 ht_636
                      obtain ⟨f_658, hF_659, hq_660⟩ := hO.octs hi_635 ht_636
                      refine pg_put (ci := 15) (v := .int (nI (ze + 1))) (ty := .int) (C := RX15) (T := TX15) (N := 59) hx hb hts it_15 tyX15 tyX15_ok nmX15 hown hK hP hD hS hL_h0 hF_647 rfl 3 (by decide) (hts _ kt_724) (fun _ h9 => h9) rfl (by decide +kernel) (rfl) (rfl) (Nat.le_of_ble_eq_true rfl) dX15_entry_241 (fun H locs hP hD hS => ?_)
                      obtain ⟨F_661, he_662, hP, hD, hR⟩ : ∃ G, G = va_up F_641 h0 (.inr (15, (.ref ta) :: (.int 0) :: (.int (nI zo)) :: (.int (nI (ze + 1))) :: (.ref ou) :: (.ref so) :: (.ref ad) :: (.ref na) :: (.ref va) :: (.ref lc) :: (.ref dm) :: (.int (nI fm)) :: (.int (nI sn)) :: (.ref tg) :: (.int v14_29) :: (.int v15_30) :: (.ref pe) :: (.int v17_31) :: (.int v18_32) :: (.int v19_33) :: (.int v20_34) :: (.int v21_35) :: (.int v22_36) :: (.ref ml) :: (.ref bg) :: (.ref co) :: (.ref sp) :: (.ref nb0) :: (.ref nb1) :: (.ref nb2) :: (.int (nI nf)) :: (.int (nI bd)) :: (.int (nI mm)) :: (.int v33_37) :: (.ref pl) :: (.ref se) :: (.ref ke) :: (.ref wi) :: (.ref hs) :: (.ref mo) :: (.ref po) :: (.ref nu) :: (.ref pr) :: (.ref sq) :: (.ref xa) :: (.ref sa) :: (.ref n64) :: (.ref m64) :: (.ref ex) :: (.ref wh) :: (.ref sd) :: (.ref tk) :: (.int v52_38) :: (.int v53_39) :: (.int v54_40) :: (.ref hd) :: (.ref ak) :: (.ref ho) :: (.ref ot) :: [])) ∧ va_P (dC, dI) vwCl (va_pl L G) H ∧ va_D A (va_pl L G) ∧ FR ty [ρ, ρ + 3, ρ + 31, ρ + 4 + ze + 100, ρ + 50 + ze + 100] F G := ⟨_, rfl, hP, hD, hR.up hT_h0 (by simp)⟩
                      have hF_663 : F_661 ta = .inl (cs 17, 3000, .inl gt) := by rw [he_662, up_ne (ne_ty ht_80 hT_h0 (by simp))]; exact hF_646
                      have hF_664 : F_661 so = .inl (cs 16, 40, .inl (upd fs ze x1)) := by rw [he_662, up_ne (ne_ty ht_83 hT_h0 (by simp))]; exact hF_645
                      have hF_665 : F_661 ad = .inl (cs 16, 40, .inl (upd fd ze x2)) := by rw [he_662, up_ne (ne_ty ht_86 hT_h0 (by simp))]; exact hF_644
                      have hF_666 : F_661 b_603 = .inr (14, [.ref r_604, .int (nI (kend - 0))]) := by rw [he_662, up_ne (ne_ty ht_607 hT_h0 (by simp))]; exact hF_649
                      have hF_667 : F_661 r_604 = .inl (cs 17, 60, .inl fc_616) := by rw [he_662, up_ne (ne_ty ht_609 hT_h0 (by simp))]; exact hF_650
                      have hF_668 : F_661 b_630 = .inr (14, [.ref r_631, .int 0]) := by rw [he_662, up_ne (ne_ty ht_634 hT_h0 (by simp))]; exact hF_643
                      have hF_669 : F_661 r_631 = .inl (cs 17, 700, .inl f_658) := by rw [he_662, up_ne (ne_ty ht_636 hT_h0 (by simp))]; exact hF_659
                      obtain ⟨ty, hty, hT_h0, hW, hO, hR⟩ : ∃ t9 : TyM, t9 = rtf ty h0 (15, ρ, [ta, ou, so, ad, na, va, lc, dm, tg, pe, ml, bg, co, sp, nb0, nb1, nb2, pl, se, ke, wi, hs, mo, po, nu, pr, sq, xa, sa, n64, m64, ex, wh, sd, tk, hd, ak, ho, ot, sx, s0, s1, s2, nf, bd, mm, zo, fm, sn, hg, gc, gv, (ze + 1), 0]) ∧ t9 h0 = (15, ρ, [ta, ou, so, ad, na, va, lc, dm, tg, pe, ml, bg, co, sp, nb0, nb1, nb2, pl, se, ke, wi, hs, mo, po, nu, pr, sq, xa, sa, n64, m64, ex, wh, sd, tk, hd, ak, ho, ot, sx, s0, s1, s2, nf, bd, mm, zo, fm, sn, hg, gc, gv, (ze + 1), 0]) ∧ WTm t9 gm L ∧ OKm cs t9 gm L F_661 ∧ FR t9 [ρ, ρ + 3, ρ + 31, ρ + 4 + ze + 100, ρ + 50 + ze + 100] F F_661 := ⟨_, rfl, rtf_self, hW.ze hL_h0 hT_h0, (by rw [he_662]; exact OKm.retype hO hT_h0 (shm.mod rtf_self ⟨v14_29, v15_30, v17_31, v18_32, v19_33, v20_34, v21_35, v22_36, v33_37, v52_38, v53_39, v54_40, rfl, (by first | omega | assumption | exact Or.inl rfl | exact Or.inr rfl), (by first | omega | assumption | exact Or.inl rfl | exact Or.inr rfl), (by first | omega | assumption | exact Or.inl rfl | exact Or.inr rfl), (by first | omega | assumption | exact Or.inl rfl | exact Or.inr rfl), (by first | omega | assumption | exact Or.inl rfl | exact Or.inr rfl)⟩)), FR.retype hT_h0 hR⟩
                      have hF_670 : F_661 h0 = .inr (15, (.ref ta) :: (.int 0) :: (.int (nI zo)) :: (.int (nI (ze + 1))) :: (.ref ou) :: (.ref so) :: (.ref ad) :: (.ref na) :: (.ref va) :: (.ref lc) :: (.ref dm) :: (.int (nI fm)) :: (.int (nI sn)) :: (.ref tg) :: (.int v14_29) :: (.int v15_30) :: (.ref pe) :: (.int v17_31) :: (.int v18_32) :: (.int v19_33) :: (.int v20_34) :: (.int v21_35) :: (.int v22_36) :: (.ref ml) :: (.ref bg) :: (.ref co) :: (.ref sp) :: (.ref nb0) :: (.ref nb1) :: (.ref nb2) :: (.int (nI nf)) :: (.int (nI bd)) :: (.int (nI mm)) :: (.int v33_37) :: (.ref pl) :: (.ref se) :: (.ref ke) :: (.ref wi) :: (.ref hs) :: (.ref mo) :: (.ref po) :: (.ref nu) :: (.ref pr) :: (.ref sq) :: (.ref xa) :: (.ref sa) :: (.ref n64) :: (.ref m64) :: (.ref ex) :: (.ref wh) :: (.ref sd) :: (.ref tk) :: (.int v52_38) :: (.int v53_39) :: (.int v54_40) :: (.ref hd) :: (.ref ak) :: (.ref ho) :: (.ref ot) :: []) := by rw [he_662]; exact up_self
                      obtain ⟨hq_693, hq_694, hq_695, hq_696, hq_697, hgO, hgA, hgB, hq_698⟩ := hW.sc hL_h0 hT_h0
                      refine lv_aload_n hx hb dX15_entry_244 rfl (lv_at hl 4 rfl) ?_
                      refine pg_get (ci := 15) (v := .int (nI (ze + 1))) (C := RX15) (T := TX15) (N := 59) hx hb hts it_15 hown hK hP hL_h0 hF_670 rfl 3 (by decide) (hts _ kt_724) (fun _ h9 => h9) rfl dX15_entry_245 ?_
                      refine W.widen (k := 0) (n := 0) (by omega) (by omega) ?_
                      have hR0 := FR.unre hT00 htyU (FR.unre hTU hty hR)
                      have hQna := hR0 na (by rw [hTn0]; simp only [List.mem_cons, List.not_mem_nil, or_false]; omega)
                      have hQva := hR0 va (by rw [hTv0]; simp only [List.mem_cons, List.not_mem_nil, or_false]; omega)
                      exact W.iret (v := (nI (ze + 1))) hx hb hr (fun t ht hWm => ⟨⟨(nI (ze + 1)), (ze + 1), rfl, (Or.inr (Or.inr ⟨hc40, hs5.elim (fun h => val_y1 hx0 hx4 (hs5n h) (by rw [← hk0e h]; exact hn1)) (fun h => val_y2 hx0 hx4 (hs5x h) (hfst h) (by rw [← hk1e h]; exact hn1) (ho1 h).1), rfl, rfl⟩)), ⟨F_661, ty, (by rw [hty, htyU, rtf_rtf2]), QTm.mk ht hP hD hO hR, hW, ⟨(x1, x2, kend - 0, fc_616, 0, f_658), DIRM.add hDM hO0 hW0 hLn0 hTn0 hLv0 hTv0 (by omega) hR0 hQna hQva (fun k hk => ⟨by simp only [List.mem_cons, List.not_mem_nil, or_false]; omega, by simp only [List.mem_cons, List.not_mem_nil, or_false]; omega⟩) hd1 hd2 hd3 hd4 hF_664 hF_665 ⟨b_603, r_604, hbf_605, hF_666, hF_667, by show kend - 0 ≤ 60; omega⟩ ⟨b_630, r_631, hbf_632, hF_668, hF_669, by show 0 ≤ 700; omega⟩, fun _ => enx4 (hk0e c_652) (hs5n c_652) hn1 hq_619⟩⟩⟩, hS.F ht⟩) hS.2.2 dX15_entry_248
                    ·
                      have h51 := hs5.resolve_left c_652
                      refine lv_aload_n hx hb dX15_entry_213 rfl (lv_at hl 4 rfl) ?_
                      refine pg_get (ci := 15) (v := .ref va) (C := RX15) (T := TX15) (N := 59) hx hb hts it_15 hown hK hP hL_h0 hF_647 rfl 8 (by decide) (hts _ kt_732) (fun _ h9 => h9) rfl dX15_entry_214 ?_
                      refine lv_aload_n hx hb dX15_entry_217 rfl (lv_at hl 4 rfl) ?_
                      refine pg_get (ci := 15) (v := .int (nI ze)) (C := RX15) (T := TX15) (N := 59) hx hb hts it_15 hown hK hP hL_h0 hF_647 rfl 3 (by decide) (hts _ kt_724) (fun _ h9 => h9) rfl dX15_entry_218 ?_
                      refine pg_aald (r := b_630) hx hb hK hP hi_625 7 hF_651 rfl (vp_in_nI (by omega) (by omega)) (show fv ((nI ze) : Int32).toNatClampNeg = _ from by rw [show ((nI ze) : Int32) = nI ze from rfl, nI_clamp (by omega)]; exact hbf_632) dX15_entry_221 ?_
                      refine lv_aload_n hx hb dX15_entry_222 rfl (lv_at hl 4 rfl) ?_
                      refine pg_get (ci := 15) (v := .ref ta) (C := RX15) (T := TX15) (N := 59) hx hb hts it_15 hown hK hP hL_h0 hF_647 rfl 0 (by decide) (hts _ kt_1006) (fun _ h9 => h9) rfl dX15_entry_223 ?_
                      refine lv_iload hx hb dX15_entry_226 (lv_at hl 2 rfl) ?_
                      refine lv_iconst (v := 1) hx hb dX15_entry_228 (by decide) ?_
                      refine lv_iadd hx hb dX15_entry_229 ?_
                      refine lv_topi (fun x_699 ex_699 => ?_)
                      obtain rfl : x_699 = (nI (j + 1)) := ex_699.trans (nI_add j 1)
                      refine lv_iload_n hx hb dX15_entry_230 rfl (lv_at hl 3 rfl) ?_
                      have hFc := pg_free hD hS hA
                      refine va_callv (va_runV (As := [.ref ta, .int (nI (j + 1)), .int (nI zt)]) (rest := []) ⟨hx, hb, hml, hown, hts⟩ (s_X14_set_e l dC dI cs ty gm L H.size F_641 b_630 (ρ + 50 + ze + 100) r_631 700 ta (ρ + 1) 3000 (j + 1) zt gt hW hi_633 ht_634 hi_79 ht_80 hF_646 (by have h9 := hn2 h51; omega) (by omega) (by have h9 := (ho1 h51).2; omega)) ⟨callB_of 3 hts (gi kt_941) rfl rfl rfl (hts _ kt_676) (hts _ kt_942) (by decide +kernel) ⟨Nat.le_of_ble_eq_true rfl, Nat.le_of_ble_eq_true rfl⟩, (hts _ kt_943), (hts _ kt_944)⟩ ⟨fun a U g mk q => ⟨q.1, PTm.calling q.2⟩, pg_recv hK hP hi_633 hF_643 (q := (RX14, TX14, 2)) rfl, fun U hU hWm => ⟨rfl, PTm.mk hU hWm hP hK hD hE hO⟩⟩ rfl rfl hl.1 rfl (lv_room (Nat.le_of_ble_eq_true rfl)) dX15_entry_231 ⟨by show _ + 0 ≤ 0; omega, by show _ + 0 ≤ 0; omega⟩) hS (fun q _ h => hFc q h) hFc (fun u t H1 locs ht hvm hw hB hz1 hk1 hS => ?_)
                      obtain ⟨F_701, fc_702, hB1, hq_703, hq_704, hq_705⟩ := hB
                      obtain ⟨hP, hD, hO, hR⟩ := QTm.back hB1 ht hFc hR (fun q h => by simp only [List.mem_cons, List.not_mem_nil, or_false] at h ⊢; omega)
                      have hF_706 : F_701 ad = .inl (cs 16, 40, .inl (upd fd ze x2)) := (hB1.2.2.2 ad (by rw [ht_86]; simp only [List.mem_cons, List.not_mem_nil, or_false]; omega)).trans hF_644
                      have hF_707 : F_701 so = .inl (cs 16, 40, .inl (upd fs ze x1)) := (hB1.2.2.2 so (by rw [ht_83]; simp only [List.mem_cons, List.not_mem_nil, or_false]; omega)).trans hF_645
                      have hF_708 : F_701 ta = .inl (cs 17, 3000, .inl gt) := (hB1.2.2.2 ta (by rw [ht_80]; simp only [List.mem_cons, List.not_mem_nil, or_false]; omega)).trans hF_646
                      have hF_709 : F_701 h0 = .inr (15, (.ref ta) :: (.int 0) :: (.int (nI zo)) :: (.int (nI ze)) :: (.ref ou) :: (.ref so) :: (.ref ad) :: (.ref na) :: (.ref va) :: (.ref lc) :: (.ref dm) :: (.int (nI fm)) :: (.int (nI sn)) :: (.ref tg) :: (.int v14_29) :: (.int v15_30) :: (.ref pe) :: (.int v17_31) :: (.int v18_32) :: (.int v19_33) :: (.int v20_34) :: (.int v21_35) :: (.int v22_36) :: (.ref ml) :: (.ref bg) :: (.ref co) :: (.ref sp) :: (.ref nb0) :: (.ref nb1) :: (.ref nb2) :: (.int (nI nf)) :: (.int (nI bd)) :: (.int (nI mm)) :: (.int v33_37) :: (.ref pl) :: (.ref se) :: (.ref ke) :: (.ref wi) :: (.ref hs) :: (.ref mo) :: (.ref po) :: (.ref nu) :: (.ref pr) :: (.ref sq) :: (.ref xa) :: (.ref sa) :: (.ref n64) :: (.ref m64) :: (.ref ex) :: (.ref wh) :: (.ref sd) :: (.ref tk) :: (.int v52_38) :: (.int v53_39) :: (.int v54_40) :: (.ref hd) :: (.ref ak) :: (.ref ho) :: (.ref ot) :: []) := (hB1.2.2.2 h0 (by rw [hT_h0]; simp only [List.mem_cons, List.not_mem_nil, or_false]; omega)).trans hF_647
                      have hF_710 : F_701 na = .inl (cs 23, 40, .inr (.inr (.inr (.inr fn)))) := (hB1.2.2.2 na (by rw [ht_599]; simp only [List.mem_cons, List.not_mem_nil, or_false]; omega)).trans hF_648
                      have hF_711 : F_701 b_603 = .inr (14, [.ref r_604, .int (nI (kend - 0))]) := (hB1.2.2.2 b_603 (by rw [ht_607]; simp only [List.mem_cons, List.not_mem_nil, or_false]; omega)).trans hF_649
                      have hF_712 : F_701 r_604 = .inl (cs 17, 60, .inl fc_616) := (hB1.2.2.2 r_604 (by rw [ht_609]; simp only [List.mem_cons, List.not_mem_nil, or_false]; omega)).trans hF_650
                      have hF_713 : F_701 va = .inl (cs 23, 40, .inr (.inr (.inr (.inr fv)))) := (hB1.2.2.2 va (by rw [ht_626]; simp only [List.mem_cons, List.not_mem_nil, or_false]; omega)).trans hF_651
                      generalize H1 = H at hP hS ⊢
                      refine lv_aload_n hx hb dX15_entry_234 rfl (lv_at hl 4 rfl) ?_
                      refine lv_dup hx hb dX15_entry_235 rfl ?_
                      refine pg_get (ci := 15) (v := .int (nI ze)) (C := RX15) (T := TX15) (N := 59) hx hb hts it_15 hown hK hP hL_h0 hF_709 rfl 3 (by decide) (hts _ kt_724) (fun _ h9 => h9) rfl dX15_entry_236 ?_
                      refine lv_iconst (v := 1) hx hb dX15_entry_239 (by decide) ?_
                      refine lv_iadd hx hb dX15_entry_240 ?_
                      refine lv_topi (fun x_714 ex_714 => ?_)
                      obtain rfl : x_714 = (nI (ze + 1)) := ex_714.trans (nI_add ze 1)
                      have htyU := hty
                      have hTU := hT_h0
                      obtain ⟨hq_715, hq_716⟩ := hW.octs hi_608 ht_609
                      obtain ⟨hq_717, hq_718⟩ := hW.octs hi_635 ht_636
                      refine pg_put (ci := 15) (v := .int (nI (ze + 1))) (ty := .int) (C := RX15) (T := TX15) (N := 59) hx hb hts it_15 tyX15 tyX15_ok nmX15 hown hK hP hD hS hL_h0 hF_709 rfl 3 (by decide) (hts _ kt_724) (fun _ h9 => h9) rfl (by decide +kernel) (rfl) (rfl) (Nat.le_of_ble_eq_true rfl) dX15_entry_241 (fun H locs hP hD hS => ?_)
                      obtain ⟨F_719, he_720, hP, hD, hR⟩ : ∃ G, G = va_up F_701 h0 (.inr (15, (.ref ta) :: (.int 0) :: (.int (nI zo)) :: (.int (nI (ze + 1))) :: (.ref ou) :: (.ref so) :: (.ref ad) :: (.ref na) :: (.ref va) :: (.ref lc) :: (.ref dm) :: (.int (nI fm)) :: (.int (nI sn)) :: (.ref tg) :: (.int v14_29) :: (.int v15_30) :: (.ref pe) :: (.int v17_31) :: (.int v18_32) :: (.int v19_33) :: (.int v20_34) :: (.int v21_35) :: (.int v22_36) :: (.ref ml) :: (.ref bg) :: (.ref co) :: (.ref sp) :: (.ref nb0) :: (.ref nb1) :: (.ref nb2) :: (.int (nI nf)) :: (.int (nI bd)) :: (.int (nI mm)) :: (.int v33_37) :: (.ref pl) :: (.ref se) :: (.ref ke) :: (.ref wi) :: (.ref hs) :: (.ref mo) :: (.ref po) :: (.ref nu) :: (.ref pr) :: (.ref sq) :: (.ref xa) :: (.ref sa) :: (.ref n64) :: (.ref m64) :: (.ref ex) :: (.ref wh) :: (.ref sd) :: (.ref tk) :: (.int v52_38) :: (.int v53_39) :: (.int v54_40) :: (.ref hd) :: (.ref ak) :: (.ref ho) :: (.ref ot) :: [])) ∧ va_P (dC, dI) vwCl (va_pl L G) H ∧ va_D A (va_pl L G) ∧ FR ty [ρ, ρ + 3, ρ + 31, ρ + 4 + ze + 100, ρ + 50 + ze + 100] F G := ⟨_, rfl, hP, hD, hR.up hT_h0 (by simp)⟩
                      have hF_721 : F_719 ta = .inl (cs 17, 3000, .inl gt) := by rw [he_720, up_ne (ne_ty ht_80 hT_h0 (by simp))]; exact hF_708
                      have hF_722 : F_719 so = .inl (cs 16, 40, .inl (upd fs ze x1)) := by rw [he_720, up_ne (ne_ty ht_83 hT_h0 (by simp))]; exact hF_707
                      have hF_723 : F_719 ad = .inl (cs 16, 40, .inl (upd fd ze x2)) := by rw [he_720, up_ne (ne_ty ht_86 hT_h0 (by simp))]; exact hF_706
                      have hF_724 : F_719 b_603 = .inr (14, [.ref r_604, .int (nI (kend - 0))]) := by rw [he_720, up_ne (ne_ty ht_607 hT_h0 (by simp))]; exact hF_711
                      have hF_725 : F_719 r_604 = .inl (cs 17, 60, .inl fc_616) := by rw [he_720, up_ne (ne_ty ht_609 hT_h0 (by simp))]; exact hF_712
                      have hF_726 : F_719 b_630 = .inr (14, [.ref r_631, .int (nI (zt - (j + 1)))]) := by rw [he_720, up_ne (ne_ty ht_634 hT_h0 (by simp))]; exact hq_703
                      have hF_727 : F_719 r_631 = .inl (cs 17, 700, .inl fc_702) := by rw [he_720, up_ne (ne_ty ht_636 hT_h0 (by simp))]; exact hq_704
                      obtain ⟨ty, hty, hT_h0, hW, hO, hR⟩ : ∃ t9 : TyM, t9 = rtf ty h0 (15, ρ, [ta, ou, so, ad, na, va, lc, dm, tg, pe, ml, bg, co, sp, nb0, nb1, nb2, pl, se, ke, wi, hs, mo, po, nu, pr, sq, xa, sa, n64, m64, ex, wh, sd, tk, hd, ak, ho, ot, sx, s0, s1, s2, nf, bd, mm, zo, fm, sn, hg, gc, gv, (ze + 1), 0]) ∧ t9 h0 = (15, ρ, [ta, ou, so, ad, na, va, lc, dm, tg, pe, ml, bg, co, sp, nb0, nb1, nb2, pl, se, ke, wi, hs, mo, po, nu, pr, sq, xa, sa, n64, m64, ex, wh, sd, tk, hd, ak, ho, ot, sx, s0, s1, s2, nf, bd, mm, zo, fm, sn, hg, gc, gv, (ze + 1), 0]) ∧ WTm t9 gm L ∧ OKm cs t9 gm L F_719 ∧ FR t9 [ρ, ρ + 3, ρ + 31, ρ + 4 + ze + 100, ρ + 50 + ze + 100] F F_719 := ⟨_, rfl, rtf_self, hW.ze hL_h0 hT_h0, (by rw [he_720]; exact OKm.retype hO hT_h0 (shm.mod rtf_self ⟨v14_29, v15_30, v17_31, v18_32, v19_33, v20_34, v21_35, v22_36, v33_37, v52_38, v53_39, v54_40, rfl, (by first | omega | assumption | exact Or.inl rfl | exact Or.inr rfl), (by first | omega | assumption | exact Or.inl rfl | exact Or.inr rfl), (by first | omega | assumption | exact Or.inl rfl | exact Or.inr rfl), (by first | omega | assumption | exact Or.inl rfl | exact Or.inr rfl), (by first | omega | assumption | exact Or.inl rfl | exact Or.inr rfl)⟩)), FR.retype hT_h0 hR⟩
                      have hF_728 : F_719 h0 = .inr (15, (.ref ta) :: (.int 0) :: (.int (nI zo)) :: (.int (nI (ze + 1))) :: (.ref ou) :: (.ref so) :: (.ref ad) :: (.ref na) :: (.ref va) :: (.ref lc) :: (.ref dm) :: (.int (nI fm)) :: (.int (nI sn)) :: (.ref tg) :: (.int v14_29) :: (.int v15_30) :: (.ref pe) :: (.int v17_31) :: (.int v18_32) :: (.int v19_33) :: (.int v20_34) :: (.int v21_35) :: (.int v22_36) :: (.ref ml) :: (.ref bg) :: (.ref co) :: (.ref sp) :: (.ref nb0) :: (.ref nb1) :: (.ref nb2) :: (.int (nI nf)) :: (.int (nI bd)) :: (.int (nI mm)) :: (.int v33_37) :: (.ref pl) :: (.ref se) :: (.ref ke) :: (.ref wi) :: (.ref hs) :: (.ref mo) :: (.ref po) :: (.ref nu) :: (.ref pr) :: (.ref sq) :: (.ref xa) :: (.ref sa) :: (.ref n64) :: (.ref m64) :: (.ref ex) :: (.ref wh) :: (.ref sd) :: (.ref tk) :: (.int v52_38) :: (.int v53_39) :: (.int v54_40) :: (.ref hd) :: (.ref ak) :: (.ref ho) :: (.ref ot) :: []) := by rw [he_720]; exact up_self
                      obtain ⟨hq_751, hq_752, hq_753, hq_754, hq_755, hgO, hgA, hgB, hq_756⟩ := hW.sc hL_h0 hT_h0
                      refine lv_aload_n hx hb dX15_entry_244 rfl (lv_at hl 4 rfl) ?_
                      refine pg_get (ci := 15) (v := .int (nI (ze + 1))) (C := RX15) (T := TX15) (N := 59) hx hb hts it_15 hown hK hP hL_h0 hF_728 rfl 3 (by decide) (hts _ kt_724) (fun _ h9 => h9) rfl dX15_entry_245 ?_
                      refine W.widen (k := 0) (n := 0) (by omega) (by omega) ?_
                      have hR0 := FR.unre hT00 htyU (FR.unre hTU hty hR)
                      have hQna := hR0 na (by rw [hTn0]; simp only [List.mem_cons, List.not_mem_nil, or_false]; omega)
                      have hQva := hR0 va (by rw [hTv0]; simp only [List.mem_cons, List.not_mem_nil, or_false]; omega)
                      exact W.iret (v := (nI (ze + 1))) hx hb hr (fun t ht hWm => ⟨⟨(nI (ze + 1)), (ze + 1), rfl, (Or.inr (Or.inr ⟨hc40, hs5.elim (fun h => val_y1 hx0 hx4 (hs5n h) (by rw [← hk0e h]; exact hn1)) (fun h => val_y2 hx0 hx4 (hs5x h) (hfst h) (by rw [← hk1e h]; exact hn1) (ho1 h).1), rfl, rfl⟩)), ⟨F_719, ty, (by rw [hty, htyU, rtf_rtf2]), QTm.mk ht hP hD hO hR, hW, ⟨(x1, x2, kend - 0, fc_616, zt - (j + 1), fc_702), DIRM.add hDM hO0 hW0 hLn0 hTn0 hLv0 hTv0 (by omega) hR0 hQna hQva (fun k hk => ⟨by simp only [List.mem_cons, List.not_mem_nil, or_false]; omega, by simp only [List.mem_cons, List.not_mem_nil, or_false]; omega⟩) hd1 hd2 hd3 hd4 hF_722 hF_723 ⟨b_603, r_604, hbf_605, hF_724, hF_725, by show kend - 0 ≤ 60; omega⟩ ⟨b_630, r_631, hbf_632, hF_726, hF_727, by show zt - (j + 1) ≤ 700; have h9 := (ho1 h51).2; omega⟩, fun _ => enx3 (hk1e h51) (hs5x h51) (hfst h51) hn1 (ho1 h51).1 hq_619 hq_705⟩⟩⟩, hS.F ht⟩) hS.2.2 dX15_entry_248
                  ·
                    refine lv_iload_n hx hb dX15_entry_118 rfl (lv_at hl 5 rfl) ?_
                    refine lv_iconst (v := 2) hx hb dX15_entry_119 (by decide) ?_
                    refine lv_icmp_ne (tgt := 138) hx hb dX15_entry_120 (by decide) (fun c_757 => ?_) (fun c_757 => ?_)
                    ·
                      refine lv_iload_n hx hb dX15_entry_138 rfl (lv_at hl 5 rfl) ?_
                      refine lv_if_ne (tgt := 156) hx hb dX15_entry_139 (by decide) (fun c_758 => ?_) (fun c_758 => ?_)
                      ·
                        refine W.widen (k := 0) (n := 0) (by omega) (by omega) ?_
                        exact jn_579 () F_575 (⟨fun h => absurd (hs5x h) (fun q => q.elim c_758 c_757), hn3, hn3so, hn3ad⟩) hO hR _ _ hP hD hS ls (lv_sub hl [0, 1, 2, 3, 4, 5, 6] rfl)
                      ·
                        have h51 : s5 = 1 := hs5.resolve_left (fun q => hs5n q (Or.inl c_758))
                        have hkz := hn2 h51
                        refine lv_iload_n hx hb dX15_entry_142 rfl (lv_at hl 3 rfl) ?_
                        refine lv_iload hx hb dX15_entry_143 (lv_at hl 2 rfl) ?_
                        refine lv_isub hx hb dX15_entry_145 ?_
                        refine lv_topi (fun x_759 ex_759 => ?_)
                        obtain rfl : x_759 = (nI (zt - j)) := ex_759.trans (pk_sub (a := zt) (b := j) (by omega))
                        refine lv_iconst (v := 1) hx hb dX15_entry_146 (by decide) ?_
                        refine lv_isub hx hb dX15_entry_147 ?_
                        refine lv_topi (fun x_760 ex_760 => ?_)
                        obtain rfl : x_760 = (nI ((zt - j) - 1)) := ex_760.trans (pk_sub (a := (zt - j)) (b := 1) (by omega))
                        refine lv_sipush (v := 700) hx hb dX15_entry_148 (by decide) ?_
                        refine lv_icmp_le (tgt := 156) hx hb dX15_entry_151 (by decide) (fun c_761 => ?_) (fun c_761 => ?_)
                        ·
                          have hi_762 : ((zt - j) - 1) ≤ 700 := (nI_leI (a := ((zt - j) - 1)) (b := 700) (by omega) (by omega)).mp c_761
                          refine W.widen (k := 0) (n := 0) (by omega) (by omega) ?_
                          exact jn_579 () F_575 (⟨fun _ => ⟨⟨by omega, fun q => absurd (q.symm.trans c_758) (by decide), fun _ => by omega⟩, by omega⟩, hn3, hn3so, hn3ad⟩) hO hR _ _ hP hD hS ls (lv_sub hl [0, 1, 2, 3, 4, 5, 6] rfl)
                        ·
                          have hi_763 : 700 < ((zt - j) - 1) := Nat.not_le.mp (fun q => c_761 ((nI_leI (a := ((zt - j) - 1)) (b := 700) (by omega) (by omega)).mpr q))
                          refine lv_iconst (v := (-1)) hx hb dX15_entry_154 (by decide) ?_
                          refine W.widen (k := 0) (n := 0) (by omega) (by omega) ?_
                          have hR0 := FR.unre hT00 hty hR
                          have hQna := hR0 na (by rw [hTn0]; simp only [List.mem_cons, List.not_mem_nil, or_false]; omega)
                          have hQva := hR0 va (by rw [hTv0]; simp only [List.mem_cons, List.not_mem_nil, or_false]; omega)
                          exact W.iret (v := (-1)) hx hb hr (fun t ht hWm => ⟨⟨(-1), ze, rfl, (Or.inr (Or.inl ⟨hc40, val_nv (Or.inl c_758) (hfst h51) (fun q => absurd (q.2.2 (fun w => absurd (w.symm.trans c_758) (by decide))) (by omega)), rfl, rfl⟩)), ⟨F_575, ty, hty, QTm.mk ht hP hD hO hR, hW, ⟨(0, 0, 0, fun _ => 0, 0, fun _ => 0), DIRM.same (DIRM.fr hDM hO0 hW0 hLn0 hTn0 hLv0 hTv0 (by omega) hR0 (hn3so.trans hd1.symm) (hn3ad.trans hd2.symm) hQna hQva (fun k hk => ⟨by simp only [List.mem_cons, List.not_mem_nil, or_false]; omega, by simp only [List.mem_cons, List.not_mem_nil, or_false]; omega⟩)), fun q => absurd q (by omega)⟩⟩⟩, hS.F ht⟩) hS.2.2 dX15_entry_155
                    ·
                      have h51 : s5 = 1 := hs5.resolve_left (fun q => hs5n q (Or.inr c_757))
                      have hkz := hn2 h51
                      refine lv_aload_n hx hb dX15_entry_123 rfl (lv_at hl 4 rfl) ?_
                      refine pg_get (ci := 15) (v := .ref ta) (C := RX15) (T := TX15) (N := 59) hx hb hts it_15 hown hK hP hL_h0 hn3 rfl 0 (by decide) (hts _ kt_1006) (fun _ h9 => h9) rfl dX15_entry_124 ?_
                      refine lv_iload hx hb dX15_entry_127 (lv_at hl 2 rfl) ?_
                      refine lv_iconst (v := 1) hx hb dX15_entry_129 (by decide) ?_
                      refine lv_iadd hx hb dX15_entry_130 ?_
                      refine lv_topi (fun x_764 ex_764 => ?_)
                      obtain rfl : x_764 = (nI (j + 1)) := ex_764.trans (nI_add j 1)
                      refine lv_iload_n hx hb dX15_entry_131 rfl (lv_at hl 3 rfl) ?_
                      have hFc := pg_free hD hS hA
                      refine va_calli (va_runS (As := [.ref ta, .int (nI (j + 1)), .int (nI zt)]) (rest := []) ⟨hx, hb, hml, hown, hts⟩ (s_X14_isName_e l dC dI cs ty gm L H.size F_575 ta (ρ + 1) 3000 (j + 1) zt gt hW hi_79 ht_80 hF_578 (by first | omega | assumption | exact Or.inl rfl) (by first | omega | assumption | exact Or.inl rfl)) ⟨callB_of 3 hts (gi kt_689) rfl rfl rfl (hts _ kt_676) (hts _ kt_848) (by decide +kernel) ⟨Nat.le_of_ble_eq_true rfl, Nat.le_of_ble_eq_true rfl⟩, (hts _ kt_691)⟩ ⟨fun a U g mk q => ⟨q.1, PTm.calling q.2⟩, fun U hU hWm => ⟨rfl, PTm.mk hU hWm hP hK hD hE hO⟩⟩ rfl rfl hl.1 rfl (lv_room (Nat.le_of_ble_eq_true rfl)) dX15_entry_132 ⟨by show _ + 0 ≤ 0; omega, by show _ + 0 ≤ 0; omega⟩) hS (fun q _ h => hFc q h) hFc (fun r_765 u t H1 locs ht hvm hw hB hz1 hk1 hS => ?_)
                      obtain ⟨F_766, hB1⟩ := hB
                      obtain rfl : F_575 = F_766 := (funext (fun a => hB1.2.2.2 a List.not_mem_nil)).symm
                      obtain ⟨hP, hD, hO, hR⟩ := QTm.back hB1 ht hFc hR (fun q h => absurd h List.not_mem_nil)
                      generalize H1 = H at hP hS ⊢
                      have hw : r_765 = (if NM gt (j + 1) zt = true then 1 else 0) := hw
                      have hw_767 := hw
                      refine lv_if_eq (tgt := 154) hx hb dX15_entry_135 (by decide) (fun c_768 => ?_) (fun c_768 => ?_)
                      ·
                        refine lv_iconst (v := (-1)) hx hb dX15_entry_154 (by decide) ?_
                        refine W.widen (k := 0) (n := 0) (by omega) (by omega) ?_
                        have hR0 := FR.unre hT00 hty hR
                        have hQna := hR0 na (by rw [hTn0]; simp only [List.mem_cons, List.not_mem_nil, or_false]; omega)
                        have hQva := hR0 va (by rw [hTv0]; simp only [List.mem_cons, List.not_mem_nil, or_false]; omega)
                        exact W.iret (v := (-1)) hx hb hr (fun t ht hWm => ⟨⟨(-1), ze, rfl, (Or.inr (Or.inl ⟨hc40, val_nv (Or.inr c_757) (hfst h51) (fun q => ifb0 hw_767 c_768 (q.2.1 c_757)), rfl, rfl⟩)), ⟨F_575, ty, hty, QTm.mk ht hP hD hO hR, hW, ⟨(0, 0, 0, fun _ => 0, 0, fun _ => 0), DIRM.same (DIRM.fr hDM hO0 hW0 hLn0 hTn0 hLv0 hTv0 (by omega) hR0 (hn3so.trans hd1.symm) (hn3ad.trans hd2.symm) hQna hQva (fun k hk => ⟨by simp only [List.mem_cons, List.not_mem_nil, or_false]; omega, by simp only [List.mem_cons, List.not_mem_nil, or_false]; omega⟩)), fun q => absurd q (by omega)⟩⟩⟩, hS.F ht⟩) hS.2.2 dX15_entry_155
                      ·
                        refine lv_iload_n hx hb dX15_entry_138 rfl (lv_at hl 5 rfl) ?_
                        refine lv_if_ne (tgt := 156) hx hb dX15_entry_139 (by decide) (fun c_769 => ?_) (fun c_769 => ?_)
                        ·
                          refine W.widen (k := 0) (n := 0) (by omega) (by omega) ?_
                          exact jn_579 () F_575 (⟨fun _ => ⟨⟨by omega, fun _ => ifb1 hw_767 c_768, fun q => absurd c_757 q⟩, by have h9 := nm_60 (ifb1 hw_767 c_768); omega⟩, hn3, hn3so, hn3ad⟩) hO hR _ _ hP hD hS ls (lv_sub hl [0, 1, 2, 3, 4, 5, 6] rfl)
                        ·
                          have h51 : s5 = 1 := hs5.resolve_left (fun q => hs5n q (Or.inl c_769))
                          have hkz := hn2 h51
                          refine lv_iload_n hx hb dX15_entry_142 rfl (lv_at hl 3 rfl) ?_
                          refine lv_iload hx hb dX15_entry_143 (lv_at hl 2 rfl) ?_
                          refine lv_isub hx hb dX15_entry_145 ?_
                          refine lv_topi (fun x_770 ex_770 => ?_)
                          obtain rfl : x_770 = (nI (zt - j)) := ex_770.trans (pk_sub (a := zt) (b := j) (by omega))
                          refine lv_iconst (v := 1) hx hb dX15_entry_146 (by decide) ?_
                          refine lv_isub hx hb dX15_entry_147 ?_
                          refine lv_topi (fun x_771 ex_771 => ?_)
                          obtain rfl : x_771 = (nI ((zt - j) - 1)) := ex_771.trans (pk_sub (a := (zt - j)) (b := 1) (by omega))
                          refine lv_sipush (v := 700) hx hb dX15_entry_148 (by decide) ?_
                          refine lv_icmp_le (tgt := 156) hx hb dX15_entry_151 (by decide) (fun c_772 => ?_) (fun c_772 => ?_)
                          ·
                            have hi_773 : ((zt - j) - 1) ≤ 700 := (nI_leI (a := ((zt - j) - 1)) (b := 700) (by omega) (by omega)).mp c_772
                            refine W.widen (k := 0) (n := 0) (by omega) (by omega) ?_
                            exact jn_579 () F_575 (⟨fun _ => ⟨⟨by omega, fun q => absurd (q.symm.trans c_769) (by decide), fun _ => by omega⟩, by omega⟩, hn3, hn3so, hn3ad⟩) hO hR _ _ hP hD hS ls (lv_sub hl [0, 1, 2, 3, 4, 5, 6] rfl)
                          ·
                            have hi_774 : 700 < ((zt - j) - 1) := Nat.not_le.mp (fun q => c_772 ((nI_leI (a := ((zt - j) - 1)) (b := 700) (by omega) (by omega)).mpr q))
                            refine lv_iconst (v := (-1)) hx hb dX15_entry_154 (by decide) ?_
                            refine W.widen (k := 0) (n := 0) (by omega) (by omega) ?_
                            have hR0 := FR.unre hT00 hty hR
                            have hQna := hR0 na (by rw [hTn0]; simp only [List.mem_cons, List.not_mem_nil, or_false]; omega)
                            have hQva := hR0 va (by rw [hTv0]; simp only [List.mem_cons, List.not_mem_nil, or_false]; omega)
                            exact W.iret (v := (-1)) hx hb hr (fun t ht hWm => ⟨⟨(-1), ze, rfl, (Or.inr (Or.inl ⟨hc40, val_nv (Or.inl c_769) (hfst h51) (fun q => absurd (q.2.2 (fun w => absurd (w.symm.trans c_769) (by decide))) (by omega)), rfl, rfl⟩)), ⟨F_575, ty, hty, QTm.mk ht hP hD hO hR, hW, ⟨(0, 0, 0, fun _ => 0, 0, fun _ => 0), DIRM.same (DIRM.fr hDM hO0 hW0 hLn0 hTn0 hLv0 hTv0 (by omega) hR0 (hn3so.trans hd1.symm) (hn3ad.trans hd2.symm) hQna hQva (fun k hk => ⟨by simp only [List.mem_cons, List.not_mem_nil, or_false]; omega, by simp only [List.mem_cons, List.not_mem_nil, or_false]; omega⟩)), fun q => absurd q (by omega)⟩⟩⟩, hS.F ht⟩) hS.2.2 dX15_entry_155
                ·
                  refine lv_iload hx hb dX15_entry_92 (lv_at hl 1 rfl) ?_
                  refine lv_if_eq (tgt := 103) hx hb dX15_entry_94 (by decide) (fun c_775 => ?_) (fun c_775 => ?_)
                  ·
                    refine lv_aload_n hx hb dX15_entry_103 rfl (lv_at hl 4 rfl) ?_
                    refine pg_get (ci := 15) (v := .ref ta) (C := RX15) (T := TX15) (N := 59) hx hb hts it_15 hown hK hP hL_h0 hb2 rfl 0 (by decide) (hts _ kt_1006) (fun _ h9 => h9) rfl dX15_entry_104 ?_
                    refine lv_iconst (v := 0) hx hb dX15_entry_107 (by decide) ?_
                    refine lv_iload hx hb dX15_entry_108 (lv_at hl 0 rfl) ?_
                    refine W.eq (g2 := F0 m 110 ls [.int (nI kend), .int (nI 0), .ref ta]) rfl ?_
                    have hFc := pg_free hD hS hA
                    refine va_calli (va_runS (As := [.ref ta, .int (nI 0), .int (nI kend)]) (rest := []) ⟨hx, hb, hml, hown, hts⟩ (s_X14_isName_e l dC dI cs ty gm L H.size F_570 ta (ρ + 1) 3000 0 kend gt hW hi_79 ht_80 hF_573 (by first | omega | assumption | exact Or.inl rfl) (by first | omega | assumption | exact Or.inl rfl)) ⟨callB_of 3 hts (gi kt_689) rfl rfl rfl (hts _ kt_676) (hts _ kt_848) (by decide +kernel) ⟨Nat.le_of_ble_eq_true rfl, Nat.le_of_ble_eq_true rfl⟩, (hts _ kt_691)⟩ ⟨fun a U g mk q => ⟨q.1, PTm.calling q.2⟩, fun U hU hWm => ⟨rfl, PTm.mk hU hWm hP hK hD hE hO⟩⟩ rfl rfl hl.1 rfl (lv_room (Nat.le_of_ble_eq_true rfl)) dX15_entry_110 ⟨by show _ + 0 ≤ 0; omega, by show _ + 0 ≤ 0; omega⟩) hS (fun q _ h => hFc q h) hFc (fun r_776 u t H1 locs ht hvm hw hB hz1 hk1 hS => ?_)
                    obtain ⟨F_777, hB1⟩ := hB
                    obtain rfl : F_570 = F_777 := (funext (fun a => hB1.2.2.2 a List.not_mem_nil)).symm
                    obtain ⟨hP, hD, hO, hR⟩ := QTm.back hB1 ht hFc hR (fun q h => absurd h List.not_mem_nil)
                    generalize H1 = H at hP hS ⊢
                    have hw : r_776 = (if NM gt 0 kend = true then 1 else 0) := hw
                    have hw_778 := hw
                    refine lv_if_ne (tgt := 118) hx hb dX15_entry_113 (by decide) (fun c_779 => ?_) (fun c_779 => ?_)
                    ·
                      refine W.widen (k := 0) (n := 0) (by omega) (by omega) ?_
                      exact jn_574 () F_570 (⟨ifb1 hw_778 c_779, nm_60 (ifb1 hw_778 c_779), fun h => absurd (h.symm.trans c_775) (by decide), hb2, hb2so, hb2ad⟩) hO hR _ _ hP hD hS ls (lv_sub hl [0, 1, 2, 3, 4, 5, 6] rfl)
                    ·
                      refine lv_iconst (v := (-1)) hx hb dX15_entry_116 (by decide) ?_
                      refine W.widen (k := 0) (n := 0) (by omega) (by omega) ?_
                      have hR0 := FR.unre hT00 hty hR
                      have hQna := hR0 na (by rw [hTn0]; simp only [List.mem_cons, List.not_mem_nil, or_false]; omega)
                      have hQva := hR0 va (by rw [hTv0]; simp only [List.mem_cons, List.not_mem_nil, or_false]; omega)
                      exact W.iret (v := (-1)) hx hb hr (fun t ht hWm => ⟨⟨(-1), ze, rfl, (Or.inr (Or.inl ⟨hc40, val_nz (hs5n c_775) (by rw [← hk0e c_775]; exact (ifb0 hw_778 c_779)), rfl, rfl⟩)), ⟨F_570, ty, hty, QTm.mk ht hP hD hO hR, hW, ⟨(0, 0, 0, fun _ => 0, 0, fun _ => 0), DIRM.same (DIRM.fr hDM hO0 hW0 hLn0 hTn0 hLv0 hTv0 (by omega) hR0 (hb2so.trans hd1.symm) (hb2ad.trans hd2.symm) hQna hQva (fun k hk => ⟨by simp only [List.mem_cons, List.not_mem_nil, or_false]; omega, by simp only [List.mem_cons, List.not_mem_nil, or_false]; omega⟩)), fun q => absurd q (by omega)⟩⟩⟩, hS.F ht⟩) hS.2.2 dX15_entry_117
                  ·
                    refine lv_iload hx hb dX15_entry_97 (lv_at hl 2 rfl) ?_
                    refine lv_iload_n hx hb dX15_entry_99 rfl (lv_at hl 3 rfl) ?_
                    refine lv_icmp_eq (tgt := 116) hx hb dX15_entry_100 (by decide) (fun c_780 => ?_) (fun c_780 => ?_)
                    ·
                      have hi_781 : j = zt := (nI_eq (a := j) (b := zt) (by omega) (by omega)).mp c_780
                      refine lv_iconst (v := (-1)) hx hb dX15_entry_116 (by decide) ?_
                      refine W.widen (k := 0) (n := 0) (by omega) (by omega) ?_
                      have hR0 := FR.unre hT00 hty hR
                      have hQna := hR0 na (by rw [hTn0]; simp only [List.mem_cons, List.not_mem_nil, or_false]; omega)
                      have hQva := hR0 va (by rw [hTv0]; simp only [List.mem_cons, List.not_mem_nil, or_false]; omega)
                      exact W.iret (v := (-1)) hx hb hr (fun t ht hWm => ⟨⟨(-1), ze, rfl, (Or.inr (Or.inl ⟨hc40, val_nv (hs5x (hs5.resolve_left c_775)) (hfst (hs5.resolve_left c_775)) (fun q => q.1 (by omega)), rfl, rfl⟩)), ⟨F_570, ty, hty, QTm.mk ht hP hD hO hR, hW, ⟨(0, 0, 0, fun _ => 0, 0, fun _ => 0), DIRM.same (DIRM.fr hDM hO0 hW0 hLn0 hTn0 hLv0 hTv0 (by omega) hR0 (hb2so.trans hd1.symm) (hb2ad.trans hd2.symm) hQna hQva (fun k hk => ⟨by simp only [List.mem_cons, List.not_mem_nil, or_false]; omega, by simp only [List.mem_cons, List.not_mem_nil, or_false]; omega⟩)), fun q => absurd q (by omega)⟩⟩⟩, hS.F ht⟩) hS.2.2 dX15_entry_117
                    ·
                      have hi_782 : j ≠ zt := fun q => c_780 (by rw [q])
                      refine lv_aload_n hx hb dX15_entry_103 rfl (lv_at hl 4 rfl) ?_
                      refine pg_get (ci := 15) (v := .ref ta) (C := RX15) (T := TX15) (N := 59) hx hb hts it_15 hown hK hP hL_h0 hb2 rfl 0 (by decide) (hts _ kt_1006) (fun _ h9 => h9) rfl dX15_entry_104 ?_
                      refine lv_iconst (v := 0) hx hb dX15_entry_107 (by decide) ?_
                      refine lv_iload hx hb dX15_entry_108 (lv_at hl 0 rfl) ?_
                      refine W.eq (g2 := F0 m 110 ls [.int (nI kend), .int (nI 0), .ref ta]) rfl ?_
                      have hFc := pg_free hD hS hA
                      refine va_calli (va_runS (As := [.ref ta, .int (nI 0), .int (nI kend)]) (rest := []) ⟨hx, hb, hml, hown, hts⟩ (s_X14_isName_e l dC dI cs ty gm L H.size F_570 ta (ρ + 1) 3000 0 kend gt hW hi_79 ht_80 hF_573 (by first | omega | assumption | exact Or.inl rfl) (by first | omega | assumption | exact Or.inl rfl)) ⟨callB_of 3 hts (gi kt_689) rfl rfl rfl (hts _ kt_676) (hts _ kt_848) (by decide +kernel) ⟨Nat.le_of_ble_eq_true rfl, Nat.le_of_ble_eq_true rfl⟩, (hts _ kt_691)⟩ ⟨fun a U g mk q => ⟨q.1, PTm.calling q.2⟩, fun U hU hWm => ⟨rfl, PTm.mk hU hWm hP hK hD hE hO⟩⟩ rfl rfl hl.1 rfl (lv_room (Nat.le_of_ble_eq_true rfl)) dX15_entry_110 ⟨by show _ + 0 ≤ 0; omega, by show _ + 0 ≤ 0; omega⟩) hS (fun q _ h => hFc q h) hFc (fun r_783 u t H1 locs ht hvm hw hB hz1 hk1 hS => ?_)
                      obtain ⟨F_784, hB1⟩ := hB
                      obtain rfl : F_570 = F_784 := (funext (fun a => hB1.2.2.2 a List.not_mem_nil)).symm
                      obtain ⟨hP, hD, hO, hR⟩ := QTm.back hB1 ht hFc hR (fun q h => absurd h List.not_mem_nil)
                      generalize H1 = H at hP hS ⊢
                      have hw : r_783 = (if NM gt 0 kend = true then 1 else 0) := hw
                      have hw_785 := hw
                      refine lv_if_ne (tgt := 118) hx hb dX15_entry_113 (by decide) (fun c_786 => ?_) (fun c_786 => ?_)
                      ·
                        refine W.widen (k := 0) (n := 0) (by omega) (by omega) ?_
                        exact jn_574 () F_570 (⟨ifb1 hw_785 c_786, nm_60 (ifb1 hw_785 c_786), fun _ => by omega, hb2, hb2so, hb2ad⟩) hO hR _ _ hP hD hS ls (lv_sub hl [0, 1, 2, 3, 4, 5, 6] rfl)
                      ·
                        refine lv_iconst (v := (-1)) hx hb dX15_entry_116 (by decide) ?_
                        refine W.widen (k := 0) (n := 0) (by omega) (by omega) ?_
                        have hR0 := FR.unre hT00 hty hR
                        have hQna := hR0 na (by rw [hTn0]; simp only [List.mem_cons, List.not_mem_nil, or_false]; omega)
                        have hQva := hR0 va (by rw [hTv0]; simp only [List.mem_cons, List.not_mem_nil, or_false]; omega)
                        exact W.iret (v := (-1)) hx hb hr (fun t ht hWm => ⟨⟨(-1), ze, rfl, (Or.inr (Or.inl ⟨hc40, val_nn (hs5x (hs5.resolve_left c_775)) (hfst (hs5.resolve_left c_775)) (by rw [← hk1e (hs5.resolve_left c_775)]; exact (ifb0 hw_785 c_786)), rfl, rfl⟩)), ⟨F_570, ty, hty, QTm.mk ht hP hD hO hR, hW, ⟨(0, 0, 0, fun _ => 0, 0, fun _ => 0), DIRM.same (DIRM.fr hDM hO0 hW0 hLn0 hTn0 hLv0 hTv0 (by omega) hR0 (hb2so.trans hd1.symm) (hb2ad.trans hd2.symm) hQna hQva (fun k hk => ⟨by simp only [List.mem_cons, List.not_mem_nil, or_false]; omega, by simp only [List.mem_cons, List.not_mem_nil, or_false]; omega⟩)), fun q => absurd q (by omega)⟩⟩⟩, hS.F ht⟩) hS.2.2 dX15_entry_117
              ·
                refine lv_iload hx hb dX15_entry_79 (lv_at hl 0 rfl) ?_
                refine lv_if_eq (tgt := 89) hx hb dX15_entry_81 (by decide) (fun c_787 => ?_) (fun c_787 => ?_)
                ·
                  refine lv_iload_n hx hb dX15_entry_89 rfl (lv_at hl 2 rfl) ?_
                  refine W.widen (k := 0) (n := 0) (by omega) (by omega) ?_
                  exact jn_569 (nI zt) F_102 (⟨⟨zt, Nat.le_refl _, rfl, fun h => absurd (h.symm.trans c_787) (by decide), fun _ => rfl⟩, ha2, ha2so, ha2ad⟩) hO hR _ _ hP hD hS ls (lv_sub hl [0, 1, 2, 3, 4, 5] rfl)
                ·
                  refine lv_iload hx hb dX15_entry_84 (lv_at hl 1 rfl) ?_
                  refine lv_goto (tgt := 90) hx hb dX15_entry_86 (by decide) ?_
                  refine W.widen (k := 0) (n := 0) (by omega) (by omega) ?_
                  exact jn_569 (nI j) F_102 (⟨⟨j, by omega, rfl, fun _ => rfl, fun h => absurd h c_787⟩, ha2, ha2so, ha2ad⟩) hO hR _ _ hP hD hS ls (lv_sub hl [0, 1, 2, 3, 4, 5] rfl)
            ·
              refine lv_iinc (v := (nI (j + 1))) (lv' := [(4, .int (nI (j + 1))), (5, .int s5), (3, .int (nI zt)), (0, .ref h0), (1, .int x1), (2, .int x2)]) hx hb dX15_entry_73 hl (k := 1) rfl (nI_1 _) (by decide) rfl (fun ls hl => ?_)
              refine lv_goto (tgt := 50) hx hb dX15_entry_76 (by decide) ?_
              refine W.widen (k := 0) (n := 0) (by omega) (by omega) ?_
              exact ih_105 (j + 1) F_102 (⟨by omega, fun i hi => by rcases Nat.lt_or_ge i j with q | q; exact ha3 i q; rw [show i = j by omega]; exact c_568, ha2, ha2so, ha2ad⟩) (by show zt - (j + 1) < zt - j; omega) hO hR _ _ hP hD hS ls (lv_sub hl [1, 0, 2, 3, 4, 5] rfl)
      ·
        refine lv_iload_n hx hb dX15_entry_34 rfl (lv_at hl 3 rfl) ?_
        refine lv_if_eq (tgt := 43) hx hb dX15_entry_35 (by decide) (fun c_788 => ?_) (fun c_788 => ?_)
        ·
          refine lv_iconst (v := 1) hx hb dX15_entry_43 (by decide) ?_
          refine lv_goto (tgt := 48) hx hb dX15_entry_44 (by decide) ?_
          refine W.widen (k := 0) (n := 0) (by omega) (by omega) ?_
          obtain ⟨hq_789, hq_790⟩ := hW.ints hi_82 ht_83
          obtain ⟨hq_791, hq_792⟩ := hW.ints hi_85 ht_86
          exact jn_93 1 F_48 (⟨Or.inr rfl, fun _ => Or.inl c_788, fun h => absurd h (by decide), hq_49, hF_81, hF_84⟩) hO hR _ _ hP hD hS ls (lv_sub hl [0, 1, 2, 3, 4] rfl)
        ·
          refine lv_iload_n hx hb dX15_entry_38 rfl (lv_at hl 3 rfl) ?_
          refine lv_iconst (v := 2) hx hb dX15_entry_39 (by decide) ?_
          refine lv_icmp_ne (tgt := 47) hx hb dX15_entry_40 (by decide) (fun c_793 => ?_) (fun c_793 => ?_)
          ·
            refine lv_iconst (v := 0) hx hb dX15_entry_47 (by decide) ?_
            refine W.widen (k := 0) (n := 0) (by omega) (by omega) ?_
            obtain ⟨hq_794, hq_795⟩ := hW.ints hi_82 ht_83
            obtain ⟨hq_796, hq_797⟩ := hW.ints hi_85 ht_86
            exact jn_93 0 F_48 (⟨Or.inl rfl, fun h => absurd h (by decide), fun _ q => q.elim c_788 c_793, hq_49, hF_81, hF_84⟩) hO hR _ _ hP hD hS ls (lv_sub hl [0, 1, 2, 3, 4] rfl)
          ·
            refine lv_iconst (v := 1) hx hb dX15_entry_43 (by decide) ?_
            refine lv_goto (tgt := 48) hx hb dX15_entry_44 (by decide) ?_
            refine W.widen (k := 0) (n := 0) (by omega) (by omega) ?_
            obtain ⟨hq_798, hq_799⟩ := hW.ints hi_82 ht_83
            obtain ⟨hq_800, hq_801⟩ := hW.ints hi_85 ht_86
            exact jn_93 1 F_48 (⟨Or.inr rfl, fun _ => Or.inr c_793, fun h => absurd h (by decide), hq_49, hF_81, hF_84⟩) hO hR _ _ hP hD hS ls (lv_sub hl [0, 1, 2, 3, 4] rfl)
    ·
      have hxo := ((in_04 hw_91).resolve_right (fun q => absurd (q.1.symm.trans c_92) (by decide))).2
      refine lv_iconst (v := (-1)) hx hb dX15_entry_32 (by decide) ?_
      refine W.widen (k := 0) (n := 0) (by omega) (by omega) ?_
      have hR0 := FR.unre hT00 hty hR
      have hQna := hR0 na (by rw [hTn0]; simp only [List.mem_cons, List.not_mem_nil, or_false]; omega)
      have hQva := hR0 va (by rw [hTv0]; simp only [List.mem_cons, List.not_mem_nil, or_false]; omega)
      obtain ⟨hq_802, hq_803⟩ := hW.ints hi_82 ht_83
      obtain ⟨hq_804, hq_805⟩ := hW.ints hi_85 ht_86
      exact W.iret (v := (-1)) hx hb hr (fun t ht hWm => ⟨⟨(-1), ze, rfl, (Or.inr (Or.inl ⟨hc40, hxo.elim val_n1 val_n2, rfl, rfl⟩)), ⟨F_48, ty, hty, QTm.mk ht hP hD hO hR, hW, ⟨(0, 0, 0, fun _ => 0, 0, fun _ => 0), DIRM.same (DIRM.fr hDM hO0 hW0 hLn0 hTn0 hLv0 hTv0 (by omega) hR0 (hF_81.trans hd1.symm) (hF_84.trans hd2.symm) hQna hQva (fun k hk => ⟨by simp only [List.mem_cons, List.not_mem_nil, or_false]; omega, by simp only [List.mem_cons, List.not_mem_nil, or_false]; omega⟩)), fun q => absurd q (by omega)⟩⟩⟩, hS.F ht⟩) hS.2.2 dX15_entry_33
  ·
    have hi_806 : ze = 40 := (nI_eq (a := ze) (b := 40) (by omega) (by omega)).mp c_87
    have hc40 : ze = 40 := by omega
    refine lv_bipush (v := (-3)) hx hb dX15_entry_17 (by decide) ?_
    refine W.widen (k := 0) (n := 0) (by omega) (by omega) ?_
    have hR0 := FR.unre hT00 hty hR
    have hQna := hR0 na (by rw [hTn0]; simp only [List.mem_cons, List.not_mem_nil, or_false]; omega)
    have hQva := hR0 va (by rw [hTv0]; simp only [List.mem_cons, List.not_mem_nil, or_false]; omega)
    obtain ⟨hq_807, hq_808⟩ := hW.ints hi_82 ht_83
    obtain ⟨hq_809, hq_810⟩ := hW.ints hi_85 ht_86
    exact W.iret (v := (-3)) hx hb hr (fun t ht hWm => ⟨⟨(-3), ze, rfl, (Or.inl ⟨hc40, rfl, rfl⟩), ⟨F_48, ty, hty, QTm.mk ht hP hD hO hR, hW, ⟨(0, 0, 0, fun _ => 0, 0, fun _ => 0), DIRM.same (DIRM.fr hDM hO0 hW0 hLn0 hTn0 hLv0 hTv0 (by omega) hR0 (hF_81.trans hd1.symm) (hF_84.trans hd2.symm) hQna hQva (fun k hk => ⟨by simp only [List.mem_cons, List.not_mem_nil, or_false]; omega, by simp only [List.mem_cons, List.not_mem_nil, or_false]; omega⟩)), fun q => absurd q (by omega)⟩⟩⟩, hS.F ht⟩) hS.2.2 dX15_entry_19
