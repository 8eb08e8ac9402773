theorem dX15_entry_0 : decode cX15_entry 0 = .ok (.aload_n 0, 1) := by decide +kernel
theorem dX15_entry_1 : decode cX15_entry 1 = .ok (.invokevirtual 174, 3) := by decide +kernel
theorem dX15_entry_4 : decode cX15_entry 4 = .ok (.istore_n 3, 1) := by decide +kernel
theorem dX15_entry_5 : decode cX15_entry 5 = .ok (.iconst 0, 1) := by decide +kernel
theorem dX15_entry_6 : decode cX15_entry 6 = .ok (.istore 4, 2) := by decide +kernel
theorem dX15_entry_8 : decode cX15_entry 8 = .ok (.aload_n 0, 1) := by decide +kernel
theorem dX15_entry_9 : decode cX15_entry 9 = .ok (.getfield 177, 3) := by decide +kernel
theorem dX15_entry_12 : decode cX15_entry 12 = .ok (.bipush 40, 2) := by decide +kernel
theorem dX15_entry_14 : decode cX15_entry 14 = .ok (.if_icmp .ne 6, 3) := by decide +kernel
theorem dX15_entry_17 : decode cX15_entry 17 = .ok (.bipush (-3), 2) := by decide +kernel
theorem dX15_entry_19 : decode cX15_entry 19 = .ok (.ireturn, 1) := by decide +kernel
theorem dX15_entry_20 : decode cX15_entry 20 = .ok (.iload_n 1, 1) := by decide +kernel
theorem dX15_entry_21 : decode cX15_entry 21 = .ok (.i2l, 1) := by decide +kernel
theorem dX15_entry_22 : decode cX15_entry 22 = .ok (.lconst 0, 1) := by decide +kernel
theorem dX15_entry_23 : decode cX15_entry 23 = .ok (.ldc2_w 180, 3) := by decide +kernel
theorem dX15_entry_26 : decode cX15_entry 26 = .ok (.invokestatic 170, 3) := by decide +kernel
theorem dX15_entry_29 : decode cX15_entry 29 = .ok (.ifCond .ne 5, 3) := by decide +kernel
theorem dX15_entry_32 : decode cX15_entry 32 = .ok (.iconst (-1), 1) := by decide +kernel
theorem dX15_entry_33 : decode cX15_entry 33 = .ok (.ireturn, 1) := by decide +kernel
theorem dX15_entry_34 : decode cX15_entry 34 = .ok (.iload_n 1, 1) := by decide +kernel
theorem dX15_entry_35 : decode cX15_entry 35 = .ok (.ifCond .eq 8, 3) := by decide +kernel
theorem dX15_entry_38 : decode cX15_entry 38 = .ok (.iload_n 1, 1) := by decide +kernel
theorem dX15_entry_39 : decode cX15_entry 39 = .ok (.iconst 2, 1) := by decide +kernel
theorem dX15_entry_40 : decode cX15_entry 40 = .ok (.if_icmp .ne 7, 3) := by decide +kernel
theorem dX15_entry_43 : decode cX15_entry 43 = .ok (.iconst 1, 1) := by decide +kernel
theorem dX15_entry_44 : decode cX15_entry 44 = .ok (.goto 4, 3) := by decide +kernel
theorem dX15_entry_47 : decode cX15_entry 47 = .ok (.iconst 0, 1) := by decide +kernel
theorem dX15_entry_48 : decode cX15_entry 48 = .ok (.istore 5, 2) := by decide +kernel
theorem dX15_entry_50 : decode cX15_entry 50 = .ok (.iload 5, 2) := by decide +kernel
theorem dX15_entry_52 : decode cX15_entry 52 = .ok (.ifCond .eq 27, 3) := by decide +kernel
theorem dX15_entry_55 : decode cX15_entry 55 = .ok (.iload 4, 2) := by decide +kernel
theorem dX15_entry_57 : decode cX15_entry 57 = .ok (.iload_n 3, 1) := by decide +kernel
theorem dX15_entry_58 : decode cX15_entry 58 = .ok (.if_icmp .ge 21, 3) := by decide +kernel
theorem dX15_entry_61 : decode cX15_entry 61 = .ok (.aload_n 0, 1) := by decide +kernel
theorem dX15_entry_62 : decode cX15_entry 62 = .ok (.getfield 31, 3) := by decide +kernel
theorem dX15_entry_65 : decode cX15_entry 65 = .ok (.iload 4, 2) := by decide +kernel
theorem dX15_entry_67 : decode cX15_entry 67 = .ok (.baload, 1) := by decide +kernel
theorem dX15_entry_68 : decode cX15_entry 68 = .ok (.bipush 32, 2) := by decide +kernel
theorem dX15_entry_70 : decode cX15_entry 70 = .ok (.if_icmp .eq 9, 3) := by decide +kernel
theorem dX15_entry_73 : decode cX15_entry 73 = .ok (.iinc 4 1, 3) := by decide +kernel
theorem dX15_entry_76 : decode cX15_entry 76 = .ok (.goto (-26), 3) := by decide +kernel
theorem dX15_entry_79 : decode cX15_entry 79 = .ok (.iload 5, 2) := by decide +kernel
theorem dX15_entry_81 : decode cX15_entry 81 = .ok (.ifCond .eq 8, 3) := by decide +kernel
theorem dX15_entry_84 : decode cX15_entry 84 = .ok (.iload 4, 2) := by decide +kernel
theorem dX15_entry_86 : decode cX15_entry 86 = .ok (.goto 4, 3) := by decide +kernel
theorem dX15_entry_89 : decode cX15_entry 89 = .ok (.iload_n 3, 1) := by decide +kernel
theorem dX15_entry_90 : decode cX15_entry 90 = .ok (.istore 6, 2) := by decide +kernel
theorem dX15_entry_92 : decode cX15_entry 92 = .ok (.iload 5, 2) := by decide +kernel
theorem dX15_entry_94 : decode cX15_entry 94 = .ok (.ifCond .eq 9, 3) := by decide +kernel
theorem dX15_entry_97 : decode cX15_entry 97 = .ok (.iload 4, 2) := by decide +kernel
theorem dX15_entry_99 : decode cX15_entry 99 = .ok (.iload_n 3, 1) := by decide +kernel
theorem dX15_entry_100 : decode cX15_entry 100 = .ok (.if_icmp .eq 16, 3) := by decide +kernel
theorem dX15_entry_103 : decode cX15_entry 103 = .ok (.aload_n 0, 1) := by decide +kernel
theorem dX15_entry_104 : decode cX15_entry 104 = .ok (.getfield 31, 3) := by decide +kernel
theorem dX15_entry_107 : decode cX15_entry 107 = .ok (.iconst 0, 1) := by decide +kernel
theorem dX15_entry_108 : decode cX15_entry 108 = .ok (.iload 6, 2) := by decide +kernel
theorem dX15_entry_110 : decode cX15_entry 110 = .ok (.invokestatic 182, 3) := by decide +kernel
theorem dX15_entry_113 : decode cX15_entry 113 = .ok (.ifCond .ne 5, 3) := by decide +kernel
theorem dX15_entry_116 : decode cX15_entry 116 = .ok (.iconst (-1), 1) := by decide +kernel
theorem dX15_entry_117 : decode cX15_entry 117 = .ok (.ireturn, 1) := by decide +kernel
theorem dX15_entry_118 : decode cX15_entry 118 = .ok (.iload_n 1, 1) := by decide +kernel
theorem dX15_entry_119 : decode cX15_entry 119 = .ok (.iconst 2, 1) := by decide +kernel
theorem dX15_entry_120 : decode cX15_entry 120 = .ok (.if_icmp .ne 18, 3) := by decide +kernel
theorem dX15_entry_123 : decode cX15_entry 123 = .ok (.aload_n 0, 1) := by decide +kernel
theorem dX15_entry_124 : decode cX15_entry 124 = .ok (.getfield 31, 3) := by decide +kernel
theorem dX15_entry_127 : decode cX15_entry 127 = .ok (.iload 4, 2) := by decide +kernel
theorem dX15_entry_129 : decode cX15_entry 129 = .ok (.iconst 1, 1) := by decide +kernel
theorem dX15_entry_130 : decode cX15_entry 130 = .ok (.iadd, 1) := by decide +kernel
theorem dX15_entry_131 : decode cX15_entry 131 = .ok (.iload_n 3, 1) := by decide +kernel
theorem dX15_entry_132 : decode cX15_entry 132 = .ok (.invokestatic 182, 3) := by decide +kernel
theorem dX15_entry_135 : decode cX15_entry 135 = .ok (.ifCond .eq 19, 3) := by decide +kernel
theorem dX15_entry_138 : decode cX15_entry 138 = .ok (.iload_n 1, 1) := by decide +kernel
theorem dX15_entry_139 : decode cX15_entry 139 = .ok (.ifCond .ne 17, 3) := by decide +kernel
theorem dX15_entry_142 : decode cX15_entry 142 = .ok (.iload_n 3, 1) := by decide +kernel
theorem dX15_entry_143 : decode cX15_entry 143 = .ok (.iload 4, 2) := by decide +kernel
theorem dX15_entry_145 : decode cX15_entry 145 = .ok (.isub, 1) := by decide +kernel
theorem dX15_entry_146 : decode cX15_entry 146 = .ok (.iconst 1, 1) := by decide +kernel
theorem dX15_entry_147 : decode cX15_entry 147 = .ok (.isub, 1) := by decide +kernel
theorem dX15_entry_148 : decode cX15_entry 148 = .ok (.sipush 700, 3) := by decide +kernel
theorem dX15_entry_151 : decode cX15_entry 151 = .ok (.if_icmp .le 5, 3) := by decide +kernel
theorem dX15_entry_154 : decode cX15_entry 154 = .ok (.iconst (-1), 1) := by decide +kernel
theorem dX15_entry_155 : decode cX15_entry 155 = .ok (.ireturn, 1) := by decide +kernel
theorem dX15_entry_156 : decode cX15_entry 156 = .ok (.aload_n 0, 1) := by decide +kernel
theorem dX15_entry_157 : decode cX15_entry 157 = .ok (.getfield 38, 3) := by decide +kernel
theorem dX15_entry_160 : decode cX15_entry 160 = .ok (.aload_n 0, 1) := by decide +kernel
theorem dX15_entry_161 : decode cX15_entry 161 = .ok (.getfield 177, 3) := by decide +kernel
theorem dX15_entry_164 : decode cX15_entry 164 = .ok (.iload_n 1, 1) := by decide +kernel
theorem dX15_entry_165 : decode cX15_entry 165 = .ok (.iastore, 1) := by decide +kernel
theorem dX15_entry_166 : decode cX15_entry 166 = .ok (.aload_n 0, 1) := by decide +kernel
theorem dX15_entry_167 : decode cX15_entry 167 = .ok (.getfield 42, 3) := by decide +kernel
theorem dX15_entry_170 : decode cX15_entry 170 = .ok (.aload_n 0, 1) := by decide +kernel
theorem dX15_entry_171 : decode cX15_entry 171 = .ok (.getfield 177, 3) := by decide +kernel
theorem dX15_entry_174 : decode cX15_entry 174 = .ok (.iload_n 2, 1) := by decide +kernel
theorem dX15_entry_175 : decode cX15_entry 175 = .ok (.iastore, 1) := by decide +kernel
theorem dX15_entry_176 : decode cX15_entry 176 = .ok (.aload_n 0, 1) := by decide +kernel
theorem dX15_entry_177 : decode cX15_entry 177 = .ok (.getfield 47, 3) := by decide +kernel
theorem dX15_entry_180 : decode cX15_entry 180 = .ok (.aload_n 0, 1) := by decide +kernel
theorem dX15_entry_181 : decode cX15_entry 181 = .ok (.getfield 177, 3) := by decide +kernel
theorem dX15_entry_184 : decode cX15_entry 184 = .ok (.aaload, 1) := by decide +kernel
theorem dX15_entry_185 : decode cX15_entry 185 = .ok (.aload_n 0, 1) := by decide +kernel
theorem dX15_entry_186 : decode cX15_entry 186 = .ok (.getfield 31, 3) := by decide +kernel
theorem dX15_entry_189 : decode cX15_entry 189 = .ok (.iconst 0, 1) := by decide +kernel
theorem dX15_entry_190 : decode cX15_entry 190 = .ok (.iload 6, 2) := by decide +kernel
theorem dX15_entry_192 : decode cX15_entry 192 = .ok (.invokevirtual 186, 3) := by decide +kernel
theorem dX15_entry_195 : decode cX15_entry 195 = .ok (.aload_n 0, 1) := by decide +kernel
theorem dX15_entry_196 : decode cX15_entry 196 = .ok (.getfield 51, 3) := by decide +kernel
theorem dX15_entry_199 : decode cX15_entry 199 = .ok (.aload_n 0, 1) := by decide +kernel
theorem dX15_entry_200 : decode cX15_entry 200 = .ok (.getfield 177, 3) := by decide +kernel
theorem dX15_entry_203 : decode cX15_entry 203 = .ok (.aaload, 1) := by decide +kernel
theorem dX15_entry_204 : decode cX15_entry 204 = .ok (.iconst 0, 1) := by decide +kernel
theorem dX15_entry_205 : decode cX15_entry 205 = .ok (.putfield 190, 3) := by decide +kernel
theorem dX15_entry_208 : decode cX15_entry 208 = .ok (.iload 5, 2) := by decide +kernel
theorem dX15_entry_210 : decode cX15_entry 210 = .ok (.ifCond .eq 24, 3) := by decide +kernel
theorem dX15_entry_213 : decode cX15_entry 213 = .ok (.aload_n 0, 1) := by decide +kernel
theorem dX15_entry_214 : decode cX15_entry 214 = .ok (.getfield 51, 3) := by decide +kernel
theorem dX15_entry_217 : decode cX15_entry 217 = .ok (.aload_n 0, 1) := by decide +kernel
theorem dX15_entry_218 : decode cX15_entry 218 = .ok (.getfield 177, 3) := by decide +kernel
theorem dX15_entry_221 : decode cX15_entry 221 = .ok (.aaload, 1) := by decide +kernel
theorem dX15_entry_222 : decode cX15_entry 222 = .ok (.aload_n 0, 1) := by decide +kernel
theorem dX15_entry_223 : decode cX15_entry 223 = .ok (.getfield 31, 3) := by decide +kernel
theorem dX15_entry_226 : decode cX15_entry 226 = .ok (.iload 4, 2) := by decide +kernel
theorem dX15_entry_228 : decode cX15_entry 228 = .ok (.iconst 1, 1) := by decide +kernel
theorem dX15_entry_229 : decode cX15_entry 229 = .ok (.iadd, 1) := by decide +kernel
theorem dX15_entry_230 : decode cX15_entry 230 = .ok (.iload_n 3, 1) := by decide +kernel
theorem dX15_entry_231 : decode cX15_entry 231 = .ok (.invokevirtual 186, 3) := by decide +kernel
theorem dX15_entry_234 : decode cX15_entry 234 = .ok (.aload_n 0, 1) := by decide +kernel
theorem dX15_entry_235 : decode cX15_entry 235 = .ok (.dup, 1) := by decide +kernel
theorem dX15_entry_236 : decode cX15_entry 236 = .ok (.getfield 177, 3) := by decide +kernel
theorem dX15_entry_239 : decode cX15_entry 239 = .ok (.iconst 1, 1) := by decide +kernel
theorem dX15_entry_240 : decode cX15_entry 240 = .ok (.iadd, 1) := by decide +kernel
theorem dX15_entry_241 : decode cX15_entry 241 = .ok (.putfield 177, 3) := by decide +kernel
theorem dX15_entry_244 : decode cX15_entry 244 = .ok (.aload_n 0, 1) := by decide +kernel
theorem dX15_entry_245 : decode cX15_entry 245 = .ok (.getfield 177, 3) := by decide +kernel
theorem dX15_entry_248 : decode cX15_entry 248 = .ok (.ireturn, 1) := by decide +kernel
theorem kt_1144 : Cond.constantLong RX15 180 4 ∈ tb := tb_at (i := 1486) (by decide +kernel) (by decide +kernel)
def UNM (f : Nat → Int32) (z : Nat) (g : Nat → Int32) (y : Nat) : Prop := y ≤ z ∧ (z = y ∨ (z ≠ y + 1 ∧ f (z - y - 1) = 46)) ∧ (∀ j, j < y → f (z - y + j) = g j)
theorem bfmo {F : Nat → va_E} {a n : Nat} {c : ClassId} {f : Nat → Int32} (hF : F a = .inl (c, n, .inl f)) (h : ∃ g : Nat → Int32, F a = .inl (c, n, .inl g) ∧ BFm g) : BFm f := by
  obtain ⟨g, h1, h2⟩ := h
  obtain rfl : g = f := by
    have e9 := h1.symm.trans hF
    simpa using e9
  exact h2
def ENM (cs : Nat → ClassId) (F : Nat → va_E) (o : Option Nat) (rm n : Nat) (f : Nat → Int32) : Prop := ∃ b r : Nat, o = some b ∧ F b = .inr (14, [.ref r, .int (nI n)]) ∧ F r = .inl (cs 17, rm, .inl f) ∧ n ≤ rm
def DM1 (cs : Nat → ClassId) (F : Nat → va_E) (x9 y9 : Int32) (o1 o2 : Option Nat) (d : ETY) : Prop := x9 = d.1 ∧ y9 = d.2.1 ∧ ENM cs F o1 60 d.2.2.1 d.2.2.2.1 ∧ ENM cs F o2 700 d.2.2.2.2.1 d.2.2.2.2.2
def DIRM (cs : Nat → ClassId) (F : Nat → va_E) (so ad na va ze : Nat) (D : Nat → ETY) : Prop := ∃ fs fd : Nat → Int32, ∃ fn fv : Nat → Option Nat, F so = .inl (cs 16, 40, .inl fs) ∧ F ad = .inl (cs 16, 40, .inl fd) ∧ F na = .inl (cs 23, 40, .inr (.inr (.inr (.inr fn)))) ∧ F va = .inl (cs 23, 40, .inr (.inr (.inr (.inr fv)))) ∧ ∀ k, k < ze → DM1 cs F (fs k) (fd k) (fn k) (fv k) (D k)
theorem ENM.fr {cs : Nat → ClassId} {ty : TyM} {gm : Nat → Nat → Nat} {L S : List Nat} {F G : Nat → va_E} {δ na k rm n : Nat} {f : Nat → Int32} {fn : Nat → Option Nat} (h : ENM cs F (fn k) rm n f) (hO : OKm cs ty gm L F) (hW : WTm ty gm L) (hL : na ∈ L) (hT : ty na = (27, δ, [40, rm])) (hn : F na = .inl (cs 23, 40, .inr (.inr (.inr (.inr fn))))) (hk : k < 40) (hR : FR ty S F G) (hS : δ + k + 100 ∉ S) : ENM cs G (fn k) rm n f := by
  obtain ⟨b, r, h1, h2, h3, h4⟩ := h
  obtain ⟨f9, g1, g2⟩ := hO.rtxj hL hT
  obtain rfl : f9 = fn := by
    have e9 := g1.symm.trans hn
    simpa using e9
  obtain ⟨b9, r9, k1, k2, k3⟩ := g2 k hk
  obtain rfl : b9 = b := Option.some.inj (k1.symm.trans h1)
  obtain ⟨z1, u1, -⟩ := hO.txt k2 k3
  have e8 := u1.symm.trans h2
  simp only [Sum.inr.injEq, Prod.mk.injEq, List.cons.injEq, Value.ref.injEq, true_and] at e8
  obtain ⟨rfl, -⟩ := e8
  obtain ⟨m1, m2, -⟩ := hW.txt k2 k3
  exact ⟨b9, r9, h1, (hR b9 (by rw [k3]; exact hS)).trans h2, (hR r9 (by rw [m2]; exact hS)).trans h3, h4⟩
theorem DIRM.fr {cs : Nat → ClassId} {ty : TyM} {gm : Nat → Nat → Nat} {L S : List Nat} {F G : Nat → va_E} {ρ so ad na va ze : Nat} {D : Nat → ETY} (h : DIRM cs F so ad na va ze D) (hO : OKm cs ty gm L F) (hW : WTm ty gm L) (hLn : na ∈ L) (hTn : ty na = (27, ρ + 4, [40, 60])) (hLv : va ∈ L) (hTv : ty va = (27, ρ + 50, [40, 700])) (hz : ze ≤ 40) (hR : FR ty S F G) (h1 : G so = F so) (h2 : G ad = F ad) (h3 : G na = F na) (h4 : G va = F va) (hS : ∀ k, k < ze → ρ + 4 + k + 100 ∉ S ∧ ρ + 50 + k + 100 ∉ S) : DIRM cs G so ad na va ze D := by
  obtain ⟨fs, fd, fn, fv, a1, a2, a3, a4, a5⟩ := h
  refine ⟨fs, fd, fn, fv, h1.trans a1, h2.trans a2, h3.trans a3, h4.trans a4, fun k hk => ?_⟩
  obtain ⟨b1, b2, b3, b4⟩ := a5 k hk
  exact ⟨b1, b2, b3.fr hO hW hLn hTn a3 (by omega) hR (hS k hk).1, b4.fr hO hW hLv hTv a4 (by omega) hR (hS k hk).2⟩
theorem DIRM.none {cs : Nat → ClassId} {F : Nat → va_E} {so ad na va : Nat} {D : Nat → ETY} {fs fd : Nat → Int32} {fn fv : Nat → Option Nat} (a1 : F so = .inl (cs 16, 40, .inl fs)) (a2 : F ad = .inl (cs 16, 40, .inl fd)) (a3 : F na = .inl (cs 23, 40, .inr (.inr (.inr (.inr fn))))) (a4 : F va = .inl (cs 23, 40, .inr (.inr (.inr (.inr fv))))) : DIRM cs F so ad na va 0 D :=
  ⟨fs, fd, fn, fv, a1, a2, a3, a4, fun k hk => absurd hk (Nat.not_lt_zero _)⟩
theorem FR.unre {ty ty2 : TyM} {h k ρ : Nat} {im im2 : List Nat} {S : List Nat} {F G : Nat → va_E} (hT : ty h = (k, ρ, im)) (he : ty2 = rtf ty h (k, ρ, im2)) (hR : FR ty2 S F G) : FR ty S F G := by
  subst he
  intro a ha
  refine hR a ?_
  by_cases c : a = h
  · subst c
    rw [rtf_self]
    rw [hT] at ha
    exact ha
  · rw [rtf_ne c]
    exact ha
theorem DIRM.less {cs : Nat → ClassId} {F : Nat → va_E} {so ad na va ze z2 : Nat} {D : Nat → ETY} (h : DIRM cs F so ad na va ze D) (hz : z2 ≤ ze) : DIRM cs F so ad na va z2 D := by
  obtain ⟨fs, fd, fn, fv, a1, a2, a3, a4, a5⟩ := h
  exact ⟨fs, fd, fn, fv, a1, a2, a3, a4, fun k hk => a5 k (by omega)⟩
theorem DIRM.same {cs : Nat → ClassId} {F : Nat → va_E} {so ad na va ze : Nat} {D : Nat → ETY} {d : ETY} (h : DIRM cs F so ad na va ze D) : DIRM cs F so ad na va ze (fun k => if k = ze then d else D k) := by
  obtain ⟨fs, fd, fn, fv, a1, a2, a3, a4, a5⟩ := h
  refine ⟨fs, fd, fn, fv, a1, a2, a3, a4, fun k hk => ?_⟩
  show DM1 cs F (fs k) (fd k) (fn k) (fv k) (if k = ze then d else D k)
  rw [if_neg (by omega)]
  exact a5 k hk
theorem DIRM.add {cs : Nat → ClassId} {ty : TyM} {gm : Nat → Nat → Nat} {L S : List Nat} {F G : Nat → va_E} {ρ so ad na va ze : Nat} {D : Nat → ETY} {d : ETY} {fs fd : Nat → Int32} {fn fv : Nat → Option Nat} (h : DIRM cs F so ad na va ze D) (hO : OKm cs ty gm L F) (hW : WTm ty gm L) (hLn : na ∈ L) (hTn : ty na = (27, ρ + 4, [40, 60])) (hLv : va ∈ L) (hTv : ty va = (27, ρ + 50, [40, 700])) (hz : ze ≤ 40) (hR : FR ty S F G) (h3 : G na = F na) (h4 : G va = F va) (hS : ∀ k, k < ze → ρ + 4 + k + 100 ∉ S ∧ ρ + 50 + k + 100 ∉ S) (a1 : F so = .inl (cs 16, 40, .inl fs)) (a2 : F ad = .inl (cs 16, 40, .inl fd)) (a3 : F na = .inl (cs 23, 40, .inr (.inr (.inr (.inr fn))))) (a4 : F va = .inl (cs 23, 40, .inr (.inr (.inr (.inr fv))))) (g1 : G so = .inl (cs 16, 40, .inl (upd fs ze d.1))) (g2 : G ad = .inl (cs 16, 40, .inl (upd fd ze d.2.1))) (e1 : ENM cs G (fn ze) 60 d.2.2.1 d.2.2.2.1) (e2 : ENM cs G (fv ze) 700 d.2.2.2.2.1 d.2.2.2.2.2) : DIRM cs G so ad na va (ze + 1) (fun k => if k = ze then d else D k) := by
  obtain ⟨fs9, fd9, fn9, fv9, b1, b2, b3, b4, b5⟩ := h
  obtain rfl : fs = fs9 := by
    have e9 := a1.symm.trans b1
    simpa using e9
  obtain rfl : fd = fd9 := by
    have e9 := a2.symm.trans b2
    simpa using e9
  obtain rfl : fn = fn9 := by
    have e9 := a3.symm.trans b3
    simpa using e9
  obtain rfl : fv = fv9 := by
    have e9 := a4.symm.trans b4
    simpa using e9
  refine ⟨upd fs ze d.1, upd fd ze d.2.1, fn, fv, g1, g2, h3.trans a3, h4.trans a4, fun k hk => ?_⟩
  show DM1 cs G (upd fs ze d.1 k) (upd fd ze d.2.1 k) (fn k) (fv k) (if k = ze then d else D k)
  by_cases c : k = ze
  · rw [if_pos c, c]
    exact ⟨if_pos rfl, if_pos rfl, e1, e2⟩
  · rw [if_neg c]
    obtain ⟨c1, c2, c3, c4⟩ := b5 k (by omega)
    exact ⟨(if_neg c).trans c1, (if_neg c).trans c2, c3.fr hO hW hLn hTn a3 (by omega) hR (hS k (by omega)).1, c4.fr hO hW hLv hTv a4 (by omega) hR (hS k (by omega)).2⟩
theorem enx3 {x1 x2 : Int32} {f fc fd : Nat → Int32} {z k kn : Nat} (hk : kn = k) (h2 : x1 = 0 ∨ x1 = 2) (hf : FST f 32 z k) (hn : NM f 0 kn = true) (hv : ISV x1 f z k) (h1 : ∀ j, j < kn - 0 → fc j = f (0 + j)) (h3 : ∀ j, j < z - (k + 1) → fd j = f (k + 1 + j)) : ENX x1 x2 f z (x1, x2, kn - 0, fc, z - (k + 1), fd) := by
  subst hk
  exact enx2 h2 hf hn hv h1 h3
theorem enx4 {x1 x2 : Int32} {f fc fd : Nat → Int32} {z kn : Nat} (hk : kn = z) (h2 : ¬ (x1 = 0 ∨ x1 = 2)) (hn : NM f 0 kn = true) (h1 : ∀ j, j < kn - 0 → fc j = f (0 + j)) : ENX x1 x2 f z (x1, x2, kn - 0, fc, 0, fd) := by
  subst hk
  exact enx1 h2 hn h1
set_option maxHeartbeats 4000000 in
set_option maxRecDepth 100000 in
theorem s_X14_add_e (l : Launch) (dC : Nat → ClassId) (dI : Nat → Nat → Nat) (cs : Nat → ClassId) (ty : TyM) (gm : Nat → Nat → Nat) (L : List Nat) (sz : Nat) (F : Nat → va_E) (h0 : Nat) (ρ : Nat) (r0 : Nat) (n : Nat) (g1 : Nat) (σ : Nat) (n1 : Nat) (a : Nat) (tt : Nat) (gf : Nat → Int32) (hW : WTm ty gm L) (hL_h0 : h0 ∈ L) (hT_h0 : ty h0 = (14, ρ, [r0, n])) (hL_g1 : g1 ∈ L) (hT_g1 : ty g1 = (17, σ, [n1])) (hF0 : F h0 = .inr (14, [.ref r0, .int (nI 0)])) (hFg : F g1 = .inl (cs 17, n1, .inl gf)) (hat : a ≤ tt) (htn : tt ≤ n1) (hfit : tt - a ≤ n) : Met l yX14_add_ (.code yX14_add_ cX14_add_ 4 none :: tb) ({ frames := 1, cells := 0, slots := 0, locals := 48 }) (va_Pc [.ref h0, .ref g1, .int (nI a), .int (nI tt)] (PTm (dC, dI) cs ty gm L F sz)) (va_Qv (fun _ : Unit => True) (fun _ T9 => ∃ F2 : Nat → va_E, ∃ fc : Nat → Int32, QTm (dC, dI) cs ty gm L [ρ] F F2 (va_A (va_pl L F) sz) T9 ∧ F2 h0 = .inr (14, [.ref r0, .int (nI (0 + (tt - a)))]) ∧ F2 r0 = .inl (cs 17, n, .inl fc) ∧ (∀ j, j < tt - a → fc j = gf (a + j))) (va_A (va_pl L F) sz)) 0 0 (va_A (va_pl L F) sz) := by
  refine Met.ofW (cc := cX14_add_) (maxL := 4) (ret := none) (by decide) rfl ?_
  intro p e s m args below meth c s₁ B hml hv
  obtain ⟨rfl, hsz, hP, hK, hD0, hE, hO⟩ := hv
  have hx := B.exec
  have hb := B.bytes
  have hr := B.returns
  have hts : ∀ w ∈ tb, w.before _ s = true := fun w h => atoms_spec (ws := .code yX14_add_ cX14_add_ 4 none :: tb) B.pre w (List.mem_cons_of_mem _ h)
  have hown : s.vm.findClass RX14 = some m.cls := findClass_of_methodNamed B.named
  have hlocks := B.notSynchronized
  subst hsz
  have hD := hD0.self (sz := s.heap.size)
  generalize hAe : va_A (va_pl L F) s.heap.size = A at hD ⊢
  have hA : ∀ q : Nat, s.heap.size ≤ q → A q := fun q h => by rw [← hAe]; exact Or.inr h
  have hS : va_S A s.heap s.heap [] := va_S.rf
  have hR : FR ty [ρ] F F := FR.refl
  have hl := lv_entry ([.ref h0, .ref g1, .int (nI a), .int (nI tt)]) (n := 4) (Nat.le_of_ble_eq_true rfl)
  rw [lg_entry_eq]
  generalize (lg_sl ([.ref h0, .ref g1, .int (nI a), .int (nI tt)]) ++ List.replicate (4 - (lg_sl ([.ref h0, .ref g1, .int (nI a), .int (nI tt)])).length) Slot.unset).toArray = ls at hl ⊢
  have hl : lv_has ls 4 [(0, .ref h0), (1, .ref g1), (2, .int (nI a)), (3, .int (nI tt))] := hl
  have hBg := bfmo hFg (hO.octs hL_g1 hT_g1)
  refine lv_aload_n hx hb dX14_add__0 rfl (lv_at hl 1 rfl) ?_
  refine lv_iload_n hx hb dX14_add__1 rfl (lv_at hl 2 rfl) ?_
  refine lv_aload_n hx hb dX14_add__2 rfl (lv_at hl 0 rfl) ?_
  obtain ⟨hi_1, ht_2, hq_3⟩ := hW.txt hL_h0 hT_h0
  refine pg_get (ci := 14) (v := .ref r0) (C := RX14) (T := TX14) (N := 2) hx hb hts it_14 hown hK hP hL_h0 hF0 rfl 0 (by decide) (hts _ kt_672) (fun _ h9 => h9) rfl dX14_add__3 ?_
  refine lv_aload_n hx hb dX14_add__6 rfl (lv_at hl 0 rfl) ?_
  refine pg_get (ci := 14) (v := .int (nI 0)) (C := RX14) (T := TX14) (N := 2) hx hb hts it_14 hown hK hP hL_h0 hF0 rfl 1 (by decide) (hts _ kt_673) (fun _ h9 => h9) rfl dX14_add__7 ?_
  refine lv_iload_n hx hb dX14_add__10 rfl (lv_at hl 3 rfl) ?_
  refine lv_iload_n hx hb dX14_add__11 rfl (lv_at hl 2 rfl) ?_
  refine lv_isub hx hb dX14_add__12 ?_
  refine lv_topi (fun x_4 ex_4 => ?_)
  obtain rfl : x_4 = (nI (tt - a)) := ex_4.trans (pk_sub (a := tt) (b := a) (by omega))
  obtain ⟨hq_5, hq_6⟩ := hW.octs hL_g1 hT_g1
  obtain ⟨hq_7, hq_8⟩ := hW.octs hi_1 ht_2
  obtain ⟨f_9, hF_10, hq_11⟩ := hO.octs hi_1 ht_2
  refine pg_copyi hx hb (by rw [hml]; exact hl.1.symm) hown (hts _ kt_674) (hts _ kt_29) (hts _ kt_30) (hts _ kt_31) hK hP hD hS hL_g1 hi_1 1 1 hFg hF_10 rfl rfl rfl (nI_pos (by omega)) (nI_pos (by omega)) (nI_pos (by omega)) (by rw [nI_clamp (by omega), nI_clamp (by omega)]; omega) (by rw [nI_clamp (by omega), nI_clamp (by omega)]; omega) (fun _ _ => hBg _) (Nat.le_of_ble_eq_true rfl) (by decide) dX14_add__13 (fun H locs hP hD hS => ?_)
  obtain ⟨F_12, he_13, hP, hD, hO, hR⟩ : ∃ G, G = va_up F r0 (.inl (cs 17, n, .inl (va_cpy gf f_9 ((nI a)).toNatClampNeg ((nI 0)).toNatClampNeg ((nI (tt - a))).toNatClampNeg))) ∧ va_P (dC, dI) vwCl (va_pl L G) H ∧ va_D A (va_pl L G) ∧ OKm cs ty gm L G ∧ FR ty [ρ] F G := ⟨_, rfl, hP, hD, hO.up (shm.octs ht_2 ⟨_, rfl, bfm_cpy hBg hq_11 _ _ _⟩), hR.up ht_2 (by simp)⟩
  have hF_14 : F_12 r0 = .inl (cs 17, n, .inl (va_cpy gf f_9 ((nI a)).toNatClampNeg ((nI 0)).toNatClampNeg ((nI (tt - a))).toNatClampNeg)) := by rw [he_13]; exact up_self
  have hF_15 : F_12 h0 = .inr (14, [.ref r0, .int (nI 0)]) := by rw [he_13, up_ne (ne_ty hT_h0 ht_2 (by simp))]; exact hF0
  obtain ⟨f_16, hF_14, hq_17, hfe_18⟩ : ∃ f : Nat → Int32, F_12 r0 = .inl (cs 17, n, .inl f) ∧ BFm f ∧ f = va_cpy gf f_9 ((nI a)).toNatClampNeg ((nI 0)).toNatClampNeg ((nI (tt - a))).toNatClampNeg := ⟨_, hF_14, bfm_cpy hBg hq_11 _ _ _, rfl⟩
  refine lv_aload_n hx hb dX14_add__16 rfl (lv_at hl 0 rfl) ?_
  refine lv_dup hx hb dX14_add__17 rfl ?_
  refine pg_get (ci := 14) (v := .int (nI 0)) (C := RX14) (T := TX14) (N := 2) hx hb hts it_14 hown hK hP hL_h0 hF_15 rfl 1 (by decide) (hts _ kt_673) (fun _ h9 => h9) rfl dX14_add__18 ?_
  refine lv_iload_n hx hb dX14_add__21 rfl (lv_at hl 3 rfl) ?_
  refine lv_iload_n hx hb dX14_add__22 rfl (lv_at hl 2 rfl) ?_
  refine lv_isub hx hb dX14_add__23 ?_
  refine lv_topi (fun x_19 ex_19 => ?_)
  obtain rfl : x_19 = (nI (tt - a)) := ex_19.trans (pk_sub (a := tt) (b := a) (by omega))
  refine lv_iadd hx hb dX14_add__24 ?_
  refine lv_topi (fun x_20 ex_20 => ?_)
  obtain rfl : x_20 = (nI (0 + (tt - a))) := ex_20.trans (nI_add 0 (tt - a))
  refine pg_put (ci := 14) (v := .int (nI (0 + (tt - a)))) (ty := .int) (C := RX14) (T := TX14) (N := 2) hx hb hts it_14 tyX14 tyX14_ok nmX14 hown hK hP hD hS hL_h0 hF_15 rfl 1 (by decide) (hts _ kt_673) (fun _ h9 => h9) rfl (by decide +kernel) (rfl) (rfl) (Nat.le_of_ble_eq_true rfl) dX14_add__25 (fun H locs hP hD hS => ?_)
  obtain ⟨F_21, he_22, hP, hD, hO, hR⟩ : ∃ G, G = va_up F_12 h0 (.inr (14, [.ref r0, .int (nI (0 + (tt - a)))])) ∧ va_P (dC, dI) vwCl (va_pl L G) H ∧ va_D A (va_pl L G) ∧ OKm cs ty gm L G ∧ FR ty [ρ] F G := ⟨_, rfl, hP, hD, hO.up (shm.txt hT_h0 ⟨(0 + (tt - a)), rfl, (by first | omega | assumption | exact Or.inl rfl | exact Or.inr rfl)⟩), hR.up hT_h0 (by simp)⟩
  have hF_23 : F_21 h0 = .inr (14, [.ref r0, .int (nI (0 + (tt - a)))]) := by rw [he_22]; exact up_self
  have hF_24 : F_21 r0 = .inl (cs 17, n, .inl f_16) := by rw [he_22, up_ne (ne_ty ht_2 hT_h0 (by simp))]; exact hF_14
  refine W.widen (k := 0) (n := 0) (by omega) (by omega) ?_
  exact W.vret hx hb hr (fun t ht hWm => ⟨⟨(), rfl, trivial, ⟨F_21, f_16, QTm.mk ht hP hD hO hR, hF_23, hF_24, (by rw [hfe_18]; exact cpy_at (by omega) (by omega))⟩⟩, hS.F ht⟩) hS.2.2 dX14_add__28
set_option maxHeartbeats 4000000 in
set_option maxRecDepth 100000 in
theorem s_X14_set_e (l : Launch) (dC : Nat → ClassId) (dI : Nat → Nat → Nat) (cs : Nat → ClassId) (ty : TyM) (gm : Nat → Nat → Nat) (L : List Nat) (sz : Nat) (F : Nat → va_E) (h0 : Nat) (ρ : Nat) (r0 : Nat) (n : Nat) (g1 : Nat) (σ : Nat) (n1 : Nat) (a : Nat) (tt : Nat) (gf : Nat → Int32) (hW : WTm ty gm L) (hL_h0 : h0 ∈ L) (hT_h0 : ty h0 = (14, ρ, [r0, n])) (hL_g1 : g1 ∈ L) (hT_g1 : ty g1 = (17, σ, [n1])) (hFg : F g1 = .inl (cs 17, n1, .inl gf)) (hat : a ≤ tt) (htn : tt ≤ n1) (hfit : tt - a ≤ n) : Met l yX14_set (.code yX14_set cX14_set 4 none :: tb) ({ frames := 2, cells := 0, slots := 0, locals := 71 }) (va_Pc [.ref h0, .ref g1, .int (nI a), .int (nI tt)] (PTm (dC, dI) cs ty gm L F sz)) (va_Qv (fun _ : Unit => True) (fun _ T9 => ∃ F2 : Nat → va_E, ∃ fc : Nat → Int32, QTm (dC, dI) cs ty gm L [ρ] F F2 (va_A (va_pl L F) sz) T9 ∧ F2 h0 = .inr (14, [.ref r0, .int (nI (tt - a))]) ∧ F2 r0 = .inl (cs 17, n, .inl fc) ∧ (∀ j, j < tt - a → fc j = gf (a + j))) (va_A (va_pl L F) sz)) 0 0 (va_A (va_pl L F) sz) := by
  refine Met.ofW (cc := cX14_set) (maxL := 4) (ret := none) (by decide) rfl ?_
  intro p e s m args below meth c s₁ B hml hv
  obtain ⟨rfl, hsz, hP, hK, hD0, hE, hO⟩ := hv
  have hx := B.exec
  have hb := B.bytes
  have hr := B.returns
  have hts : ∀ w ∈ tb, w.before _ s = true := fun w h => atoms_spec (ws := .code yX14_set cX14_set 4 none :: tb) B.pre w (List.mem_cons_of_mem _ h)
  have hown : s.vm.findClass RX14 = some m.cls := findClass_of_methodNamed B.named
  have hlocks := B.notSynchronized
  subst hsz
  have hD := hD0.self (sz := s.heap.size)
  generalize hAe : va_A (va_pl L F) s.heap.size = A at hD ⊢
  have hA : ∀ q : Nat, s.heap.size ≤ q → A q := fun q h => by rw [← hAe]; exact Or.inr h
  have hS : va_S A s.heap s.heap [] := va_S.rf
  have hR : FR ty [ρ] F F := FR.refl
  have hl := lv_entry ([.ref h0, .ref g1, .int (nI a), .int (nI tt)]) (n := 4) (Nat.le_of_ble_eq_true rfl)
  rw [lg_entry_eq]
  generalize (lg_sl ([.ref h0, .ref g1, .int (nI a), .int (nI tt)]) ++ List.replicate (4 - (lg_sl ([.ref h0, .ref g1, .int (nI a), .int (nI tt)])).length) Slot.unset).toArray = ls at hl ⊢
  have hl : lv_has ls 4 [(0, .ref h0), (1, .ref g1), (2, .int (nI a)), (3, .int (nI tt))] := hl
  refine lv_aload_n hx hb dX14_set_0 rfl (lv_at hl 0 rfl) ?_
  refine lv_iconst (v := 0) hx hb dX14_set_1 (by decide) ?_
  obtain ⟨hi_1, ht_2, hq_3⟩ := hW.txt hL_h0 hT_h0
  obtain ⟨z_4, hF_5, hq_6⟩ := hO.txt hL_h0 hT_h0
  refine pg_put (ci := 14) (v := .int 0) (ty := .int) (C := RX14) (T := TX14) (N := 2) hx hb hts it_14 tyX14 tyX14_ok nmX14 hown hK hP hD hS hL_h0 hF_5 rfl 1 (by decide) (hts _ kt_673) (fun _ h9 => h9) rfl (by decide +kernel) (rfl) (rfl) (Nat.le_of_ble_eq_true rfl) dX14_set_2 (fun H locs hP hD hS => ?_)
  obtain ⟨F_7, he_8, hP, hD, hO, hR⟩ : ∃ G, G = va_up F h0 (.inr (14, [.ref r0, .int 0])) ∧ va_P (dC, dI) vwCl (va_pl L G) H ∧ va_D A (va_pl L G) ∧ OKm cs ty gm L G ∧ FR ty [ρ] F G := ⟨_, rfl, hP, hD, hO.up (shm.txt hT_h0 ⟨0, rfl, (by first | omega | assumption | exact Or.inl rfl | exact Or.inr rfl)⟩), hR.up hT_h0 (by simp)⟩
  have hF_9 : F_7 h0 = .inr (14, [.ref r0, .int 0]) := by rw [he_8]; exact up_self
  have hF_10 : F_7 g1 = .inl (cs 17, n1, .inl gf) := by rw [he_8, up_ne (ne_ty hT_g1 hT_h0 (by simp))]; exact hFg
  refine lv_aload_n hx hb dX14_set_5 rfl (lv_at hl 0 rfl) ?_
  refine lv_aload_n hx hb dX14_set_6 rfl (lv_at hl 1 rfl) ?_
  refine lv_iload_n hx hb dX14_set_7 rfl (lv_at hl 2 rfl) ?_
  refine lv_iload_n hx hb dX14_set_8 rfl (lv_at hl 3 rfl) ?_
  obtain ⟨hq_11, hq_12⟩ := hW.octs hL_g1 hT_g1
  have hFc := pg_free hD hS hA
  refine va_callv (va_runV (As := [.ref g1, .int (nI a), .int (nI tt)]) (rest := []) ⟨hx, hb, hml, hown, hts⟩ (s_X14_add_e l dC dI cs ty gm L H.size F_7 h0 ρ r0 n g1 σ n1 a tt gf hW hL_h0 hT_h0 hL_g1 hT_g1 hF_9 hF_10 (hat) (htn) (hfit)) ⟨callB_of 3 hts (gi kt_675) rfl rfl rfl (hts _ kt_676) (hts _ kt_677) (by decide +kernel) ⟨Nat.le_of_ble_eq_true rfl, Nat.le_of_ble_eq_true rfl⟩, (hts _ kt_678), (hts _ kt_679)⟩ ⟨fun a U g mk q => ⟨q.1, PTm.calling q.2⟩, pg_recv hK hP hL_h0 hF_9 (q := (RX14, TX14, 2)) rfl, fun U hU hWm => ⟨rfl, PTm.mk hU hWm hP hK hD hE hO⟩⟩ rfl rfl hl.1 rfl (lv_room (Nat.le_of_ble_eq_true rfl)) dX14_set_9 ⟨by show _ + 0 ≤ 0; omega, by show _ + 0 ≤ 0; omega⟩) hS (fun q _ h => hFc q h) hFc (fun u t H1 locs ht hvm hw hB hz1 hk1 hS => ?_)
  obtain ⟨F_14, fc_15, hB1, hq_16, hq_17, hq_18⟩ := hB
  obtain ⟨hP, hD, hO, hR⟩ := QTm.back hB1 ht hFc hR (fun q h => by simp only [List.mem_cons, List.not_mem_nil, or_false] at h ⊢; omega)
  generalize H1 = H at hP hS ⊢
  refine W.widen (k := 0) (n := 0) (by omega) (by omega) ?_
  exact W.vret hx hb hr (fun t ht hWm => ⟨⟨(), rfl, trivial, ⟨F_14, fc_15, QTm.mk ht hP hD hO hR, (by rw [hq_16, Nat.zero_add]), hq_17, hq_18⟩⟩, hS.F ht⟩) hS.2.2 dX14_set_12
set_option maxHeartbeats 4000000 in
set_option maxRecDepth 100000 in
theorem s_X14_isUnder_e (l : Launch) (dC : Nat → ClassId) (dI : Nat → Nat → Nat) (cs : Nat → ClassId) (ty : TyM) (gm : Nat → Nat → Nat) (L : List Nat) (sz : Nat) (F : Nat → va_E) (h0 : Nat) (ρ : Nat) (r0 : Nat) (n : Nat) (g1 : Nat) (σ : Nat) (r1 : Nat) (n1 : Nat) (z : Nat) (y : Nat) (gf : Nat → Int32) (hf : Nat → Int32) (hW : WTm ty gm L) (hL_h0 : h0 ∈ L) (hT_h0 : ty h0 = (14, ρ, [r0, n])) (hL_g1 : g1 ∈ L) (hT_g1 : ty g1 = (14, σ, [r1, n1])) (hF0 : F h0 = .inr (14, [.ref r0, .int (nI z)])) (hFr0 : F r0 = .inl (cs 17, n, .inl gf)) (hF1 : F g1 = .inr (14, [.ref r1, .int (nI y)])) (hFr1 : F r1 = .inl (cs 17, n1, .inl hf)) (hzn : z ≤ n) (hy1 : y ≤ n1) : Met l yX14_isUnder (.code yX14_isUnder cX14_isUnder 3 (some .boolean) :: tb) ({ frames := 0, cells := 0, slots := 0, locals := 0 }) (va_Pc [.ref h0, .ref g1] (PTm (dC, dI) cs ty gm L F sz)) (va_Qi (fun (r : Int32) (_ : Unit) => (r = 1 ∧ UNM gf z hf y) ∨ (r = 0 ∧ ¬ UNM gf z hf y)) (fun _ T9 => ∃ F2 : Nat → va_E, QTm (dC, dI) cs ty gm L [] F F2 (va_A (va_pl L F) sz) T9) (va_A (va_pl L F) sz)) 0 0 (va_A (va_pl L F) sz) := by
  refine Met.ofW (cc := cX14_isUnder) (maxL := 3) (ret := (some .boolean)) (by decide) rfl ?_
  intro p e s m args below meth c s₁ B hml hv
  obtain ⟨rfl, hsz, hP, hK, hD0, hE, hO⟩ := hv
  have hx := B.exec
  have hb := B.bytes
  have hr := B.returns
  have hts : ∀ w ∈ tb, w.before _ s = true := fun w h => atoms_spec (ws := .code yX14_isUnder cX14_isUnder 3 (some .boolean) :: tb) B.pre w (List.mem_cons_of_mem _ h)
  have hown : s.vm.findClass RX14 = some m.cls := findClass_of_methodNamed B.named
  have hlocks := B.notSynchronized
  subst hsz
  have hD := hD0.self (sz := s.heap.size)
  generalize hAe : va_A (va_pl L F) s.heap.size = A at hD ⊢
  have hA : ∀ q : Nat, s.heap.size ≤ q → A q := fun q h => by rw [← hAe]; exact Or.inr h
  have hS : va_S A s.heap s.heap [] := va_S.rf
  have hR : FR ty [] F F := FR.refl
  have hl := lv_entry ([.ref h0, .ref g1]) (n := 3) (Nat.le_of_ble_eq_true rfl)
  rw [lg_entry_eq]
  generalize (lg_sl ([.ref h0, .ref g1]) ++ List.replicate (3 - (lg_sl ([.ref h0, .ref g1])).length) Slot.unset).toArray = ls at hl ⊢
  have hl : lv_has ls 3 [(0, .ref h0), (1, .ref g1)] := hl
  obtain ⟨hi_1, ht_2, hq_3⟩ := hW.txt hL_h0 hT_h0
  obtain ⟨hi_4, ht_5, hq_6⟩ := hW.txt hL_g1 hT_g1
  refine lv_aload_n hx hb dX14_isUnder_0 rfl (lv_at hl 0 rfl) ?_
  refine pg_get (ci := 14) (v := .int (nI z)) (C := RX14) (T := TX14) (N := 2) hx hb hts it_14 hown hK hP hL_h0 hF0 rfl 1 (by decide) (hts _ kt_673) (fun _ h9 => h9) rfl dX14_isUnder_1 ?_
  refine lv_aload_n hx hb dX14_isUnder_4 rfl (lv_at hl 1 rfl) ?_
  refine pg_get (ci := 14) (v := .int (nI y)) (C := RX14) (T := TX14) (N := 2) hx hb hts it_14 hown hK hP hL_g1 hF1 rfl 1 (by decide) (hts _ kt_673) (fun _ h9 => h9) rfl dX14_isUnder_5 ?_
  refine lv_icmp_lt (tgt := 56) hx hb dX14_isUnder_8 (by decide) (fun c_7 => ?_) (fun c_7 => ?_)
  ·
    have hi_8 : z < y := ltN (N := y) (Int32.not_le.mpr c_7)
    refine lv_iconst (v := 0) hx hb dX14_isUnder_56 (by decide) ?_
    refine W.widen (k := 0) (n := 0) (by omega) (by omega) ?_
    exact W.zret (v := 0) (ty := .boolean) hx hb hr (by decide) (fun t ht hWm => ⟨⟨0, (), rfl, (Or.inr ⟨rfl, fun q => absurd q.1 (by omega)⟩), ⟨F, QTm.mk ht hP hD hO hR⟩⟩, hS.F ht⟩) hS.2.2 dX14_isUnder_57
  ·
    have hi_9 : y ≤ z := leN (N := y) (Int32.not_lt.mp c_7)
    refine W.widen (k := 0) (n := 0) (by omega) (by omega) ?_
    refine pl_cutm (σ := Unit) A (dC, dI) cs ty gm L [] F 58 3 (fun u0 => [(0, .ref h0), (1, .ref g1)]) (fun u0 => []) (fun u0 _ => y ≤ z ∧ (z = y ∨ (z ≠ y + 1 ∧ gf (z - y - 1) = 46))) ?_ (fun jn_10 => ?_)
    ·
      rintro u0 F_11 hv_12 hO hR H locs hP hD hS ls hl
      have hl : lv_has ls 3 [(0, .ref h0), (1, .ref g1)] := hl
      have hv_12 : y ≤ z ∧ (z = y ∨ (z ≠ y + 1 ∧ gf (z - y - 1) = 46)) := hv_12
      refine W.eq (g2 := F0 m 58 ls []) rfl ?_
      obtain rfl : F = F_11 := (funext (fun a => hR a List.not_mem_nil)).symm
      obtain ⟨hu1, hu2⟩ := id hv_12
      refine lv_iconst (v := 0) hx hb dX14_isUnder_58 (by decide) ?_
      refine lv_istore_n (lv' := [(2, .int 0), (0, .ref h0), (1, .ref g1)]) hx hb dX14_isUnder_59 rfl hl (by decide) rfl (fun ls hl => ?_)
      refine W.widen (k := 0) (n := 0) (by omega) (by omega) ?_
      refine pl_loopm (σ := Nat) A (dC, dI) cs ty gm L [] F 60 3 (fun j => [(2, .int (nI j)), (0, .ref h0), (1, .ref g1)]) (fun j => []) (fun j _ => j ≤ y ∧ (∀ i, i < j → gf (z - y + i) = hf i)) (fun j => y - j) ?_ 0 F (⟨by omega, fun i hi => absurd hi (Nat.not_lt_zero _)⟩) hO hR _ _ hP hD hS ls (lv_sub hl [0, 1, 2] rfl)
      rintro j F_13 hv_14 hO hR ih_15 H locs hP hD hS ls hl
      have hl : lv_has ls 3 [(2, .int (nI j)), (0, .ref h0), (1, .ref g1)] := hl
      have hv_14 : j ≤ y ∧ (∀ i, i < j → gf (z - y + i) = hf i) := hv_14
      refine W.eq (g2 := F0 m 60 ls []) rfl ?_
      obtain rfl : F = F_13 := (funext (fun a => hR a List.not_mem_nil)).symm
      obtain ⟨hv1, hv2⟩ := id hv_14
      refine lv_iload_n hx hb dX14_isUnder_60 rfl (lv_at hl 0 rfl) ?_
      refine lv_aload_n hx hb dX14_isUnder_61 rfl (lv_at hl 2 rfl) ?_
      refine pg_get (ci := 14) (v := .int (nI y)) (C := RX14) (T := TX14) (N := 2) hx hb hts it_14 hown hK hP hL_g1 hF1 rfl 1 (by decide) (hts _ kt_673) (fun _ h9 => h9) rfl dX14_isUnder_62 ?_
      refine lv_icmp_ge (tgt := 101) hx hb dX14_isUnder_65 (by decide) (fun c_16 => ?_) (fun c_16 => ?_)
      ·
        have hi_17 : y ≤ j := leN (N := y) c_16
        refine lv_iconst (v := 1) hx hb dX14_isUnder_101 (by decide) ?_
        refine W.widen (k := 0) (n := 0) (by omega) (by omega) ?_
        exact W.zret (v := 1) (ty := .boolean) hx hb hr (by decide) (fun t ht hWm => ⟨⟨1, (), rfl, (Or.inl ⟨rfl, hu1, hu2, fun i hi => hv2 i (by omega)⟩), ⟨F, QTm.mk ht hP hD hO hR⟩⟩, hS.F ht⟩) hS.2.2 dX14_isUnder_102
      ·
        have hi_18 : j < y := ltN (N := y) c_16
        refine lv_aload_n hx hb dX14_isUnder_68 rfl (lv_at hl 1 rfl) ?_
        refine pg_get (ci := 14) (v := .ref r0) (C := RX14) (T := TX14) (N := 2) hx hb hts it_14 hown hK hP hL_h0 hF0 rfl 0 (by decide) (hts _ kt_672) (fun _ h9 => h9) rfl dX14_isUnder_69 ?_
        refine lv_aload_n hx hb dX14_isUnder_72 rfl (lv_at hl 1 rfl) ?_
        refine pg_get (ci := 14) (v := .int (nI z)) (C := RX14) (T := TX14) (N := 2) hx hb hts it_14 hown hK hP hL_h0 hF0 rfl 1 (by decide) (hts _ kt_673) (fun _ h9 => h9) rfl dX14_isUnder_73 ?_
        refine lv_aload_n hx hb dX14_isUnder_76 rfl (lv_at hl 2 rfl) ?_
        refine pg_get (ci := 14) (v := .int (nI y)) (C := RX14) (T := TX14) (N := 2) hx hb hts it_14 hown hK hP hL_g1 hF1 rfl 1 (by decide) (hts _ kt_673) (fun _ h9 => h9) rfl dX14_isUnder_77 ?_
        refine lv_isub hx hb dX14_isUnder_80 ?_
        refine lv_topi (fun x_19 ex_19 => ?_)
        obtain rfl : x_19 = (nI (z - y)) := ex_19.trans (pk_sub (a := z) (b := y) (by omega))
        refine lv_iload_n hx hb dX14_isUnder_81 rfl (lv_at hl 0 rfl) ?_
        refine lv_iadd hx hb dX14_isUnder_82 ?_
        refine lv_topi (fun x_20 ex_20 => ?_)
        obtain rfl : x_20 = (nI ((z - y) + j)) := ex_20.trans (nI_add (z - y) j)
        obtain ⟨hq_21, hq_22⟩ := hW.octs hi_1 ht_2
        refine pg_bald hx hb hK hP hi_1 1 hFr0 rfl (vp_in_nI (by omega) (by omega)) dX14_isUnder_83 ?_
        refine lv_topi (fun x_23 ex_23 => ?_)
        obtain rfl : x_23 = gf ((z - y) + j) := ex_23.trans (congrArg gf (show ((nI ((z - y) + j)) : Int32).toNatClampNeg = ((z - y) + j) from nI_clamp (by omega)))
        refine lv_aload_n hx hb dX14_isUnder_84 rfl (lv_at hl 2 rfl) ?_
        refine pg_get (ci := 14) (v := .ref r1) (C := RX14) (T := TX14) (N := 2) hx hb hts it_14 hown hK hP hL_g1 hF1 rfl 0 (by decide) (hts _ kt_672) (fun _ h9 => h9) rfl dX14_isUnder_85 ?_
        refine lv_iload_n hx hb dX14_isUnder_88 rfl (lv_at hl 0 rfl) ?_
        obtain ⟨hq_24, hq_25⟩ := hW.octs hi_4 ht_5
        refine pg_bald hx hb hK hP hi_4 1 hFr1 rfl (vp_in_nI (by omega) (by omega)) dX14_isUnder_89 ?_
        refine lv_topi (fun x_26 ex_26 => ?_)
        obtain rfl : x_26 = hf j := ex_26.trans (congrArg hf (show ((nI j) : Int32).toNatClampNeg = j from nI_clamp (by omega)))
        refine lv_icmp_eq (tgt := 95) hx hb dX14_isUnder_90 (by decide) (fun c_27 => ?_) (fun c_27 => ?_)
        ·
          refine lv_iinc (v := (nI (j + 1))) (lv' := [(2, .int (nI (j + 1))), (0, .ref h0), (1, .ref g1)]) hx hb dX14_isUnder_95 hl (k := 0) rfl (nI_1 _) (by decide) rfl (fun ls hl => ?_)
          refine lv_goto (tgt := 60) hx hb dX14_isUnder_98 (by decide) ?_
          refine W.widen (k := 0) (n := 0) (by omega) (by omega) ?_
          exact ih_15 (j + 1) F (⟨by omega, fun i hi => by rcases Nat.lt_or_ge i j with q | q; exact hv2 i q; rw [show i = j by omega]; exact c_27⟩) (by show y - (j + 1) < y - j; omega) hO hR _ _ hP hD hS ls (lv_sub hl [0, 1, 2] rfl)
        ·
          refine lv_iconst (v := 0) hx hb dX14_isUnder_93 (by decide) ?_
          refine W.widen (k := 0) (n := 0) (by omega) (by omega) ?_
          exact W.zret (v := 0) (ty := .boolean) hx hb hr (by decide) (fun t ht hWm => ⟨⟨0, (), rfl, (Or.inr ⟨rfl, fun q => c_27 (q.2.2 j (by omega))⟩), ⟨F, QTm.mk ht hP hD hO hR⟩⟩, hS.F ht⟩) hS.2.2 dX14_isUnder_94
    ·
      refine lv_aload_n hx hb dX14_isUnder_11 rfl (lv_at hl 0 rfl) ?_
      refine pg_get (ci := 14) (v := .int (nI z)) (C := RX14) (T := TX14) (N := 2) hx hb hts it_14 hown hK hP hL_h0 hF0 rfl 1 (by decide) (hts _ kt_673) (fun _ h9 => h9) rfl dX14_isUnder_12 ?_
      refine lv_aload_n hx hb dX14_isUnder_15 rfl (lv_at hl 1 rfl) ?_
      refine pg_get (ci := 14) (v := .int (nI y)) (C := RX14) (T := TX14) (N := 2) hx hb hts it_14 hown hK hP hL_g1 hF1 rfl 1 (by decide) (hts _ kt_673) (fun _ h9 => h9) rfl dX14_isUnder_16 ?_
      refine lv_icmp_le (tgt := 58) hx hb dX14_isUnder_19 (by decide) (fun c_28 => ?_) (fun c_28 => ?_)
      ·
        have hi_29 : z ≤ y := (nI_leI (a := z) (b := y) (by omega) (by omega)).mp c_28
        refine W.widen (k := 0) (n := 0) (by omega) (by omega) ?_
        exact jn_10 () F (⟨by omega, Or.inl (by omega)⟩) hO hR _ _ hP hD hS ls (lv_sub hl [0, 1] rfl)
      ·
        have hi_30 : y < z := Nat.not_le.mp (fun q => c_28 ((nI_leI (a := z) (b := y) (by omega) (by omega)).mpr q))
        refine lv_aload_n hx hb dX14_isUnder_22 rfl (lv_at hl 0 rfl) ?_
        refine pg_get (ci := 14) (v := .int (nI z)) (C := RX14) (T := TX14) (N := 2) hx hb hts it_14 hown hK hP hL_h0 hF0 rfl 1 (by decide) (hts _ kt_673) (fun _ h9 => h9) rfl dX14_isUnder_23 ?_
        refine lv_aload_n hx hb dX14_isUnder_26 rfl (lv_at hl 1 rfl) ?_
        refine pg_get (ci := 14) (v := .int (nI y)) (C := RX14) (T := TX14) (N := 2) hx hb hts it_14 hown hK hP hL_g1 hF1 rfl 1 (by decide) (hts _ kt_673) (fun _ h9 => h9) rfl dX14_isUnder_27 ?_
        refine lv_iconst (v := 1) hx hb dX14_isUnder_30 (by decide) ?_
        refine lv_iadd hx hb dX14_isUnder_31 ?_
        refine lv_topi (fun x_31 ex_31 => ?_)
        obtain rfl : x_31 = (nI (y + 1)) := ex_31.trans (nI_add y 1)
        refine lv_icmp_eq (tgt := 56) hx hb dX14_isUnder_32 (by decide) (fun c_32 => ?_) (fun c_32 => ?_)
        ·
          have hi_33 : z = (y + 1) := (nI_eq (a := z) (b := (y + 1)) (by omega) (by omega)).mp c_32
          refine lv_iconst (v := 0) hx hb dX14_isUnder_56 (by decide) ?_
          refine W.widen (k := 0) (n := 0) (by omega) (by omega) ?_
          exact W.zret (v := 0) (ty := .boolean) hx hb hr (by decide) (fun t ht hWm => ⟨⟨0, (), rfl, (Or.inr ⟨rfl, fun q => q.2.1.elim (fun c => absurd c (by omega)) (fun c => c.1 (by omega))⟩), ⟨F, QTm.mk ht hP hD hO hR⟩⟩, hS.F ht⟩) hS.2.2 dX14_isUnder_57
        ·
          have hi_34 : z ≠ (y + 1) := fun q => c_32 (by rw [q])
          refine lv_aload_n hx hb dX14_isUnder_35 rfl (lv_at hl 0 rfl) ?_
          refine pg_get (ci := 14) (v := .ref r0) (C := RX14) (T := TX14) (N := 2) hx hb hts it_14 hown hK hP hL_h0 hF0 rfl 0 (by decide) (hts _ kt_672) (fun _ h9 => h9) rfl dX14_isUnder_36 ?_
          refine lv_aload_n hx hb dX14_isUnder_39 rfl (lv_at hl 0 rfl) ?_
          refine pg_get (ci := 14) (v := .int (nI z)) (C := RX14) (T := TX14) (N := 2) hx hb hts it_14 hown hK hP hL_h0 hF0 rfl 1 (by decide) (hts _ kt_673) (fun _ h9 => h9) rfl dX14_isUnder_40 ?_
          refine lv_aload_n hx hb dX14_isUnder_43 rfl (lv_at hl 1 rfl) ?_
          refine pg_get (ci := 14) (v := .int (nI y)) (C := RX14) (T := TX14) (N := 2) hx hb hts it_14 hown hK hP hL_g1 hF1 rfl 1 (by decide) (hts _ kt_673) (fun _ h9 => h9) rfl dX14_isUnder_44 ?_
          refine lv_isub hx hb dX14_isUnder_47 ?_
          refine lv_topi (fun x_35 ex_35 => ?_)
          obtain rfl : x_35 = (nI (z - y)) := ex_35.trans (pk_sub (a := z) (b := y) (by omega))
          refine lv_iconst (v := 1) hx hb dX14_isUnder_48 (by decide) ?_
          refine lv_isub hx hb dX14_isUnder_49 ?_
          refine lv_topi (fun x_36 ex_36 => ?_)
          obtain rfl : x_36 = (nI ((z - y) - 1)) := ex_36.trans (pk_sub (a := (z - y)) (b := 1) (by omega))
          obtain ⟨hq_37, hq_38⟩ := hW.octs hi_1 ht_2
          refine pg_bald hx hb hK hP hi_1 1 hFr0 rfl (vp_in_nI (by omega) (by omega)) dX14_isUnder_50 ?_
          refine lv_topi (fun x_39 ex_39 => ?_)
          obtain rfl : x_39 = gf ((z - y) - 1) := ex_39.trans (congrArg gf (show ((nI ((z - y) - 1)) : Int32).toNatClampNeg = ((z - y) - 1) from nI_clamp (by omega)))
          refine lv_bipush (v := 46) hx hb dX14_isUnder_51 (by decide) ?_
          refine lv_icmp_eq (tgt := 58) hx hb dX14_isUnder_53 (by decide) (fun c_40 => ?_) (fun c_40 => ?_)
          ·
            refine W.widen (k := 0) (n := 0) (by omega) (by omega) ?_
            exact jn_10 () F (⟨by omega, Or.inr ⟨by omega, c_40⟩⟩) hO hR _ _ hP hD hS ls (lv_sub hl [0, 1] rfl)
          ·
            refine lv_iconst (v := 0) hx hb dX14_isUnder_56 (by decide) ?_
            refine W.widen (k := 0) (n := 0) (by omega) (by omega) ?_
            exact W.zret (v := 0) (ty := .boolean) hx hb hr (by decide) (fun t ht hWm => ⟨⟨0, (), rfl, (Or.inr ⟨rfl, fun q => q.2.1.elim (fun c => absurd c (by omega)) (fun c => c_40 c.2)⟩), ⟨F, QTm.mk ht hP hD hO hR⟩⟩, hS.F ht⟩) hS.2.2 dX14_isUnder_57
set_option maxHeartbeats 4000000 in
set_option maxRecDepth 100000 in
theorem s_X15_entry_d (l : Launch) (dC : Nat → ClassId) (dI : Nat → Nat → Nat) (cs : Nat → ClassId) (ty : TyM) (gm : Nat → Nat → Nat) (L : List Nat) (sz : Nat) (F : Nat → va_E) (h0 : Nat) (ρ : Nat) (ta : Nat) (ou : Nat) (so : Nat) (ad : Nat) (na : Nat) (va : Nat) (lc : Nat) (dm : Nat) (tg : Nat) (pe : Nat) (ml : Nat) (bg : Nat) (co : Nat) (sp : Nat) (nb0 : Nat) (nb1 : Nat) (nb2 : Nat) (pl : Nat) (se : Nat) (ke : Nat) (wi : Nat) (hs : Nat) (mo : Nat) (po : Nat) (nu : Nat) (pr : Nat) (sq : Nat) (xa : Nat) (sa : Nat) (n64 : Nat) (m64 : Nat) (ex : Nat) (wh : Nat) (sd : Nat) (tk : Nat) (hd : Nat) (ak : Nat) (ho : Nat) (ot : Nat) (sx : Nat) (s0 : Nat) (s1 : Nat) (s2 : Nat) (nf : Nat) (bd : Nat) (mm : Nat) (fm : Nat) (sn : Nat) (hg : Nat) (gc : Nat) (gv : Nat) (ze : Nat) (zt : Nat) (x1 : Int32) (x2 : Int32) (gt : Nat → Int32) (D : Nat → ETY) (hW : WTm ty gm L) (hL_h0 : h0 ∈ L) (hT_h0 : ty h0 = (15, ρ, [ta, ou, so, ad, na, va, lc, dm, tg, pe, ml, bg, co, sp, nb0, nb1, nb2, pl, se, ke, wi, hs, mo, po, nu, pr, sq, xa, sa, n64, m64, ex, wh, sd, tk, hd, ak, ho, ot, sx, s0, s1, s2, nf, bd, mm, fm, sn, hg, gc, gv, ze, zt])) (hFta : F ta = .inl (cs 17, 3000, .inl gt)) (hDM : DIRM cs F so ad na va ze D) : Met l yX15_entry (.code yX15_entry cX15_entry 7 (some .int) :: tb) ({ frames := 3, cells := 0, slots := 0, locals := 94 }) (va_Pc [.ref h0, .int x1, .int x2] (PTm (dC, dI) cs ty gm L F sz)) (va_Qi (fun (r : Int32) (c2 : Nat) => ENT ze c2 x1 gt zt r) (fun (c2 : Nat) T9 => ∃ F2 : Nat → va_E, ∃ ty2 : TyM, ty2 = rtf ty h0 (15, ρ, [ta, ou, so, ad, na, va, lc, dm, tg, pe, ml, bg, co, sp, nb0, nb1, nb2, pl, se, ke, wi, hs, mo, po, nu, pr, sq, xa, sa, n64, m64, ex, wh, sd, tk, hd, ak, ho, ot, sx, s0, s1, s2, nf, bd, mm, fm, sn, hg, gc, gv, c2, 0]) ∧ QTm (dC, dI) cs ty2 gm L [ρ, ρ + 3, ρ + 31, ρ + 4 + ze + 100, ρ + 50 + ze + 100] F F2 (va_A (va_pl L F) sz) T9 ∧ WTm ty2 gm L ∧ (∃ d : ETY, DIRM cs F2 so ad na va c2 (fun k => if k = ze then d else D k) ∧ (c2 = ze + 1 → ENX x1 x2 gt zt d))) (va_A (va_pl L F) sz)) 0 0 (va_A (va_pl L F) sz) := by
  refine Met.ofW (cc := cX15_entry) (maxL := 7) (ret := (some .int)) (by decide) rfl ?_
  intro p e s m args below meth c s₁ B hml hv
  obtain ⟨rfl, hsz, hP, hK, hD0, hE, hO⟩ := hv
  have hx := B.exec
  have hb := B.bytes
  have hr := B.returns
  have hts : ∀ w ∈ tb, w.before _ s = true := fun w h => atoms_spec (ws := .code yX15_entry cX15_entry 7 (some .int) :: tb) B.pre w (List.mem_cons_of_mem _ h)
  have hown : s.vm.findClass RX15 = some m.cls := findClass_of_methodNamed B.named
  have hlocks := B.notSynchronized
  subst hsz
  have hD := hD0.self (sz := s.heap.size)
  generalize hAe : va_A (va_pl L F) s.heap.size = A at hD ⊢
  have hA : ∀ q : Nat, s.heap.size ≤ q → A q := fun q h => by rw [← hAe]; exact Or.inr h
  have hS : va_S A s.heap s.heap [] := va_S.rf
  have hR : FR ty [ρ, ρ + 3, ρ + 31, ρ + 4 + ze + 100, ρ + 50 + ze + 100] F F := FR.refl
  have hl := lv_entry ([.ref h0, .int x1, .int x2]) (n := 7) (Nat.le_of_ble_eq_true rfl)
  rw [lg_entry_eq]
  generalize (lg_sl ([.ref h0, .int x1, .int x2]) ++ List.replicate (7 - (lg_sl ([.ref h0, .int x1, .int x2])).length) Slot.unset).toArray = ls at hl ⊢
  have hl : lv_has ls 7 [(0, .ref h0), (1, .int x1), (2, .int x2)] := hl
  obtain ⟨hq_23, hq_24, hq_25, hq_26, hq_27, hgO, hgA, hgB, hq_28⟩ := hW.sc hL_h0 hT_h0
  have hO0 := hO
  have hW0 := hW
  have hT00 := hT_h0
  obtain ⟨hLs0, hTs0⟩ := hW.f_so hL_h0 hT_h0
  obtain ⟨hLd0, hTd0⟩ := hW.f_ad hL_h0 hT_h0
  obtain ⟨hLn0, hTn0⟩ := hW.f_na hL_h0 hT_h0
  obtain ⟨hLv0, hTv0⟩ := hW.f_va hL_h0 hT_h0
  obtain ⟨fs, fd, fn, fv, hd1, hd2, hd3, hd4, hd5⟩ := id hDM
  refine lv_aload_n hx hb dX15_entry_0 rfl (lv_at hl 0 rfl) ?_
  obtain ⟨zo_29, v14_30, v15_31, v17_32, v18_33, v19_34, v20_35, v21_36, v22_37, v33_38, v52_39, v53_40, v54_41, hF_42, hq_43, hq_44, hq_45, hq_46, hq_47⟩ := hO.mod hL_h0 hT_h0
  have hFc := pg_free hD hS hA
  refine va_calli (va_runV (As := []) (rest := []) ⟨hx, hb, hml, hown, hts⟩ (s_X15_used l dC dI cs ty gm L s.heap.size F h0 ρ ta ou so ad na va lc dm tg pe ml bg co sp nb0 nb1 nb2 pl se ke wi hs mo po nu pr sq xa sa n64 m64 ex wh sd tk hd ak ho ot sx s0 s1 s2 nf bd mm fm sn hg gc gv ze zt zo_29 v14_30 v15_31 v17_32 v18_33 v19_34 v20_35 v21_36 v22_37 v33_38 v52_39 v53_40 v54_41 hW hL_h0 hT_h0 hF_42 (by first | omega | assumption | exact Or.inl rfl) (by first | omega | assumption | exact Or.inl rfl) (by first | omega | assumption | exact Or.inl rfl) (by first | omega | assumption | exact Or.inl rfl) (by first | omega | assumption | exact Or.inl rfl)) ⟨callB_of 0 hts (gi kt_1005) rfl rfl rfl (hts _ kt_669) (hts _ kt_1006) (by decide +kernel) ⟨Nat.le_of_ble_eq_true rfl, Nat.le_of_ble_eq_true rfl⟩, (hts _ kt_1007), (hts _ kt_1008)⟩ ⟨fun a U g mk q => ⟨q.1, PTm.calling q.2⟩, pg_recv hK hP hL_h0 hF_42 (q := (RX15, TX15, 59)) rfl, fun U hU hWm => ⟨rfl, PTm.mk hU hWm hP hK hD hE hO⟩⟩ rfl rfl hl.1 rfl (lv_room (Nat.le_of_ble_eq_true rfl)) dX15_entry_1 ⟨by show _ + 0 ≤ 0; omega, by show _ + 0 ≤ 0; omega⟩) hS (fun q _ h => hFc q h) hFc (fun r_48 u t H1 locs ht hvm hw hB hz1 hk1 hS => ?_)
  obtain ⟨F_49, ty9, hty9, hB1, hW9, hq_50⟩ := hB
  subst hty9
  have hR9 := FR.retype (im2 := [ta, ou, so, ad, na, va, lc, dm, tg, pe, ml, bg, co, sp, nb0, nb1, nb2, pl, se, ke, wi, hs, mo, po, nu, pr, sq, xa, sa, n64, m64, ex, wh, sd, tk, hd, ak, ho, ot, sx, s0, s1, s2, nf, bd, mm, fm, sn, hg, gc, gv, ze, 0]) hT_h0 hR
  obtain ⟨hP, hD, hO, hR⟩ := QTm.back hB1 ht hFc hR9 (fun q h => by simp only [List.mem_cons, List.not_mem_nil, or_false] at h ⊢; omega)
  obtain ⟨ty, hty, hT_h0, hW, hO, hR⟩ : ∃ t9 : TyM, t9 = rtf ty h0 (15, ρ, [ta, ou, so, ad, na, va, lc, dm, tg, pe, ml, bg, co, sp, nb0, nb1, nb2, pl, se, ke, wi, hs, mo, po, nu, pr, sq, xa, sa, n64, m64, ex, wh, sd, tk, hd, ak, ho, ot, sx, s0, s1, s2, nf, bd, mm, fm, sn, hg, gc, gv, ze, 0]) ∧ t9 h0 = (15, ρ, [ta, ou, so, ad, na, va, lc, dm, tg, pe, ml, bg, co, sp, nb0, nb1, nb2, pl, se, ke, wi, hs, mo, po, nu, pr, sq, xa, sa, n64, m64, ex, wh, sd, tk, hd, ak, ho, ot, sx, s0, s1, s2, nf, bd, mm, fm, sn, hg, gc, gv, ze, 0]) ∧ WTm t9 gm L ∧ OKm cs t9 gm L F_49 ∧ FR t9 [ρ, ρ + 3, ρ + 31, ρ + 4 + ze + 100, ρ + 50 + ze + 100] F F_49 := ⟨_, rfl, rtf_self, hW9, hO, hR⟩
  generalize H1 = H at hP hS ⊢
  have hw : r_48 = nI zt := hw
  subst hw
  obtain ⟨hq_73, hq_74, hq_75, hq_76, hq_77, hgO, hgA, hgB, hq_78⟩ := hW.sc hL_h0 hT_h0
  obtain ⟨hi_80, ht_81⟩ := hW.f_ta hL_h0 hT_h0
  have hF_79 : F_49 ta = .inl (cs 17, 3000, .inl gt) := (hB1.2.2.2 ta (by rw [← hty, ht_81]; simp)).trans hFta
  obtain ⟨hi_83, ht_84⟩ := hW.f_so hL_h0 hT_h0
  have hF_82 : F_49 so = .inl (cs 16, 40, .inl fs) := (hB1.2.2.2 so (by rw [← hty, ht_84]; simp)).trans hd1
  obtain ⟨hi_86, ht_87⟩ := hW.f_ad hL_h0 hT_h0
  have hF_85 : F_49 ad = .inl (cs 16, 40, .inl fd) := (hB1.2.2.2 ad (by rw [← hty, ht_87]; simp)).trans hd2
  refine lv_istore_n (lv' := [(3, .int (nI zt)), (0, .ref h0), (1, .int x1), (2, .int x2)]) hx hb dX15_entry_4 rfl hl (by decide) rfl (fun ls hl => ?_)
  refine lv_iconst (v := 0) hx hb dX15_entry_5 (by decide) ?_
  refine lv_istore (lv' := [(4, .int 0), (3, .int (nI zt)), (0, .ref h0), (1, .int x1), (2, .int x2)]) hx hb dX15_entry_6 hl (by decide) rfl (fun ls hl => ?_)
  refine lv_aload_n hx hb dX15_entry_8 rfl (lv_at hl 2 rfl) ?_
  refine pg_get (ci := 15) (v := .int (nI ze)) (C := RX15) (T := TX15) (N := 59) hx hb hts it_15 hown hK hP hL_h0 hq_50 rfl 3 (by decide) (hts _ kt_724) (fun _ h9 => h9) rfl dX15_entry_9 ?_
  refine lv_bipush (v := 40) hx hb dX15_entry_12 (by decide) ?_
  refine lv_icmp_ne (tgt := 20) hx hb dX15_entry_14 (by decide) (fun c_88 => ?_) (fun c_88 => ?_)
  ·
    have hi_89 : ze ≠ 40 := fun q => c_88 (by rw [q]; rfl)
    have hc40 : ze ≠ 40 := by omega
    refine lv_iload_n hx hb dX15_entry_20 rfl (lv_at hl 3 rfl) ?_
    refine lv_i2l (v := x1.toInt64) hx hb dX15_entry_21 rfl ?_
    refine lv_lconst (v := 0) hx hb dX15_entry_22 (by decide) ?_
    refine lv_ldc2 (v := 4) hx hb hown (hts _ kt_1144) dX15_entry_23 ?_
    have hFc := pg_free hD hS hA
    refine va_calli (va_runS (As := [.long x1.toInt64, .long 0, .long 4]) (rest := []) ⟨hx, hb, hml, hown, hts⟩ (s_X15_in l dC dI cs ty gm L H.size F_49 x1.toInt64 0 4 hW ) ⟨callB_of 3 hts (gi kt_685) rfl rfl rfl (hts _ kt_669) (hts _ kt_705) (by decide +kernel) ⟨Nat.le_of_ble_eq_true rfl, Nat.le_of_ble_eq_true rfl⟩, (hts _ kt_686)⟩ ⟨fun a U g mk q => ⟨q.1, PTm.calling q.2⟩, fun U hU hWm => ⟨rfl, PTm.mk hU hWm hP hK hD hE hO⟩⟩ rfl rfl hl.1 rfl (lv_room (Nat.le_of_ble_eq_true rfl)) dX15_entry_26 ⟨by show _ + 0 ≤ 0; omega, by show _ + 0 ≤ 0; omega⟩) hS (fun q _ h => hFc q h) hFc (fun r_90 u t H1 locs ht hvm hw hB hz1 hk1 hS => ?_)
    obtain ⟨F_91, hB1⟩ := hB
    obtain rfl : F_49 = F_91 := (funext (fun a => hB1.2.2.2 a List.not_mem_nil)).symm
    obtain ⟨hP, hD, hO, hR⟩ := QTm.back hB1 ht hFc hR (fun q h => absurd h List.not_mem_nil)
    generalize H1 = H at hP hS ⊢
    have hw : r_90 = (if 0 ≤ x1.toInt64 ∧ x1.toInt64 ≤ 4 then 1 else 0) := hw
    have hw_92 := hw
    refine lv_if_ne (tgt := 34) hx hb dX15_entry_29 (by decide) (fun c_93 => ?_) (fun c_93 => ?_)
    ·
      obtain ⟨hx0, hx4⟩ := ((in_04 hw_92).resolve_left (fun q => c_93 q.1)).2
      have hF_96 : F ta = .inl (cs 17, 3000, .inl gt) := (hR ta (by rw [ht_81]; simp only [List.mem_cons, List.not_mem_nil, or_false]; omega)).symm.trans hF_79
      refine W.widen (k := 0) (n := 0) (by omega) (by omega) ?_
      refine pl_cutm (σ := Int32) A (dC, dI) cs ty gm L [ρ, ρ + 3, ρ + 31, ρ + 4 + ze + 100, ρ + 50 + ze + 100] F 48 7 (fun s5 => [(4, .int 0), (3, .int (nI zt)), (0, .ref h0), (1, .int x1), (2, .int x2)]) (fun s5 => [.int s5]) (fun s5 FF => (s5 = 0 ∨ s5 = 1) ∧ (s5 = 1 → (x1 = 0 ∨ x1 = 2)) ∧ (s5 = 0 → ¬ (x1 = 0 ∨ x1 = 2)) ∧ FF h0 = .inr (15, (.ref ta) :: (.int 0) :: (.int (nI zo_29)) :: (.int (nI ze)) :: (.ref ou) :: (.ref so) :: (.ref ad) :: (.ref na) :: (.ref va) :: (.ref lc) :: (.ref dm) :: (.int (nI fm)) :: (.int (nI sn)) :: (.ref tg) :: (.int v14_30) :: (.int v15_31) :: (.ref pe) :: (.int v17_32) :: (.int v18_33) :: (.int v19_34) :: (.int v20_35) :: (.int v21_36) :: (.int v22_37) :: (.ref ml) :: (.ref bg) :: (.ref co) :: (.ref sp) :: (.ref nb0) :: (.ref nb1) :: (.ref nb2) :: (.int (nI nf)) :: (.int (nI bd)) :: (.int (nI mm)) :: (.int v33_38) :: (.ref pl) :: (.ref se) :: (.ref ke) :: (.ref wi) :: (.ref hs) :: (.ref mo) :: (.ref po) :: (.ref nu) :: (.ref pr) :: (.ref sq) :: (.ref xa) :: (.ref sa) :: (.ref n64) :: (.ref m64) :: (.ref ex) :: (.ref wh) :: (.ref sd) :: (.ref tk) :: (.int v52_39) :: (.int v53_40) :: (.int v54_41) :: (.ref hd) :: (.ref ak) :: (.ref ho) :: (.ref ot) :: []) ∧ FF so = .inl (cs 16, 40, .inl fs) ∧ FF ad = .inl (cs 16, 40, .inl fd)) ?_ (fun jn_94 => ?_)
      ·
        rintro s5 F_95 hv_97 hO hR H locs hP hD hS ls hl
        have hl : lv_has ls 7 [(4, .int 0), (3, .int (nI zt)), (0, .ref h0), (1, .int x1), (2, .int x2)] := hl
        have hv_97 : (s5 = 0 ∨ s5 = 1) ∧ (s5 = 1 → (x1 = 0 ∨ x1 = 2)) ∧ (s5 = 0 → ¬ (x1 = 0 ∨ x1 = 2)) ∧ F_95 h0 = .inr (15, (.ref ta) :: (.int 0) :: (.int (nI zo_29)) :: (.int (nI ze)) :: (.ref ou) :: (.ref so) :: (.ref ad) :: (.ref na) :: (.ref va) :: (.ref lc) :: (.ref dm) :: (.int (nI fm)) :: (.int (nI sn)) :: (.ref tg) :: (.int v14_30) :: (.int v15_31) :: (.ref pe) :: (.int v17_32) :: (.int v18_33) :: (.int v19_34) :: (.int v20_35) :: (.int v21_36) :: (.int v22_37) :: (.ref ml) :: (.ref bg) :: (.ref co) :: (.ref sp) :: (.ref nb0) :: (.ref nb1) :: (.ref nb2) :: (.int (nI nf)) :: (.int (nI bd)) :: (.int (nI mm)) :: (.int v33_38) :: (.ref pl) :: (.ref se) :: (.ref ke) :: (.ref wi) :: (.ref hs) :: (.ref mo) :: (.ref po) :: (.ref nu) :: (.ref pr) :: (.ref sq) :: (.ref xa) :: (.ref sa) :: (.ref n64) :: (.ref m64) :: (.ref ex) :: (.ref wh) :: (.ref sd) :: (.ref tk) :: (.int v52_39) :: (.int v53_40) :: (.int v54_41) :: (.ref hd) :: (.ref ak) :: (.ref ho) :: (.ref ot) :: []) ∧ F_95 so = .inl (cs 16, 40, .inl fs) ∧ F_95 ad = .inl (cs 16, 40, .inl fd) := hv_97
        refine W.eq (g2 := F0 m 48 ls [.int s5]) rfl ?_
        have hF_98 : F_95 ta = .inl (cs 17, 3000, .inl gt) := (hR ta (by rw [ht_81]; simp only [List.mem_cons, List.not_mem_nil, or_false]; omega)).trans hF_96
        obtain ⟨hs5, hs5x, hs5n, hs5h⟩ := hv_97
        obtain ⟨hs5h, hs5hso, hs5had⟩ := hs5h
        refine lv_istore (lv' := [(5, .int s5), (4, .int 0), (3, .int (nI zt)), (0, .ref h0), (1, .int x1), (2, .int x2)]) hx hb dX15_entry_48 hl (by decide) rfl (fun ls hl => ?_)
        obtain ⟨hq_99, hq_100⟩ := hW.ints hi_83 ht_84
        obtain ⟨hq_101, hq_102⟩ := hW.ints hi_86 ht_87
        refine W.widen (k := 0) (n := 0) (by omega) (by omega) ?_
        have hF_104 : F ta = .inl (cs 17, 3000, .inl gt) := (hR ta (by rw [ht_81]; simp only [List.mem_cons, List.not_mem_nil, or_false]; omega)).symm.trans hF_98
        refine pl_loopm (σ := Nat) A (dC, dI) cs ty gm L [ρ, ρ + 3, ρ + 31, ρ + 4 + ze + 100, ρ + 50 + ze + 100] F 50 7 (fun j => [(5, .int s5), (4, .int (nI j)), (3, .int (nI zt)), (0, .ref h0), (1, .int x1), (2, .int x2)]) (fun j => []) (fun j FF => j ≤ zt ∧ (∀ i, i < j → ¬ gt i = 32) ∧ FF h0 = .inr (15, (.ref ta) :: (.int 0) :: (.int (nI zo_29)) :: (.int (nI ze)) :: (.ref ou) :: (.ref so) :: (.ref ad) :: (.ref na) :: (.ref va) :: (.ref lc) :: (.ref dm) :: (.int (nI fm)) :: (.int (nI sn)) :: (.ref tg) :: (.int v14_30) :: (.int v15_31) :: (.ref pe) :: (.int v17_32) :: (.int v18_33) :: (.int v19_34) :: (.int v20_35) :: (.int v21_36) :: (.int v22_37) :: (.ref ml) :: (.ref bg) :: (.ref co) :: (.ref sp) :: (.ref nb0) :: (.ref nb1) :: (.ref nb2) :: (.int (nI nf)) :: (.int (nI bd)) :: (.int (nI mm)) :: (.int v33_38) :: (.ref pl) :: (.ref se) :: (.ref ke) :: (.ref wi) :: (.ref hs) :: (.ref mo) :: (.ref po) :: (.ref nu) :: (.ref pr) :: (.ref sq) :: (.ref xa) :: (.ref sa) :: (.ref n64) :: (.ref m64) :: (.ref ex) :: (.ref wh) :: (.ref sd) :: (.ref tk) :: (.int v52_39) :: (.int v53_40) :: (.int v54_41) :: (.ref hd) :: (.ref ak) :: (.ref ho) :: (.ref ot) :: []) ∧ FF so = .inl (cs 16, 40, .inl fs) ∧ FF ad = .inl (cs 16, 40, .inl fd)) (fun j => zt - j) ?_ 0 F_95 (⟨by omega, fun i hi => absurd hi (Nat.not_lt_zero _), hs5h, hs5hso, hs5had⟩) hO hR _ _ hP hD hS ls (lv_sub hl [0, 1, 2, 3, 4, 5] rfl)
        rintro j F_103 hv_105 hO hR ih_106 H locs hP hD hS ls hl
        have hl : lv_has ls 7 [(5, .int s5), (4, .int (nI j)), (3, .int (nI zt)), (0, .ref h0), (1, .int x1), (2, .int x2)] := hl
        have hv_105 : j ≤ zt ∧ (∀ i, i < j → ¬ gt i = 32) ∧ F_103 h0 = .inr (15, (.ref ta) :: (.int 0) :: (.int (nI zo_29)) :: (.int (nI ze)) :: (.ref ou) :: (.ref so) :: (.ref ad) :: (.ref na) :: (.ref va) :: (.ref lc) :: (.ref dm) :: (.int (nI fm)) :: (.int (nI sn)) :: (.ref tg) :: (.int v14_30) :: (.int v15_31) :: (.ref pe) :: (.int v17_32) :: (.int v18_33) :: (.int v19_34) :: (.int v20_35) :: (.int v21_36) :: (.int v22_37) :: (.ref ml) :: (.ref bg) :: (.ref co) :: (.ref sp) :: (.ref nb0) :: (.ref nb1) :: (.ref nb2) :: (.int (nI nf)) :: (.int (nI bd)) :: (.int (nI mm)) :: (.int v33_38) :: (.ref pl) :: (.ref se) :: (.ref ke) :: (.ref wi) :: (.ref hs) :: (.ref mo) :: (.ref po) :: (.ref nu) :: (.ref pr) :: (.ref sq) :: (.ref xa) :: (.ref sa) :: (.ref n64) :: (.ref m64) :: (.ref ex) :: (.ref wh) :: (.ref sd) :: (.ref tk) :: (.int v52_39) :: (.int v53_40) :: (.int v54_41) :: (.ref hd) :: (.ref ak) :: (.ref ho) :: (.ref ot) :: []) ∧ F_103 so = .inl (cs 16, 40, .inl fs) ∧ F_103 ad = .inl (cs 16, 40, .inl fd) := hv_105
        refine W.eq (g2 := F0 m 50 ls []) rfl ?_
        have hF_107 : F_103 ta = .inl (cs 17, 3000, .inl gt) := (hR ta (by rw [ht_81]; simp only [List.mem_cons, List.not_mem_nil, or_false]; omega)).trans hF_104
        obtain ⟨ha1, ha3, ha2⟩ := hv_105
        obtain ⟨ha2, ha2so, ha2ad⟩ := ha2
        refine lv_iload hx hb dX15_entry_50 (lv_at hl 0 rfl) ?_
        refine lv_if_eq (tgt := 79) hx hb dX15_entry_52 (by decide) (fun c_108 => ?_) (fun c_108 => ?_)
        ·
          have hfst : s5 = 1 → FST gt 32 zt j := fun h => absurd (h.symm.trans c_108) (by decide)
          have hF_111 : F ta = .inl (cs 17, 3000, .inl gt) := (hR ta (by rw [ht_81]; simp only [List.mem_cons, List.not_mem_nil, or_false]; omega)).symm.trans hF_107
          refine W.widen (k := 0) (n := 0) (by omega) (by omega) ?_
          refine pl_cutm (σ := Int32) A (dC, dI) cs ty gm L [ρ, ρ + 3, ρ + 31, ρ + 4 + ze + 100, ρ + 50 + ze + 100] F 90 7 (fun s6 => [(5, .int s5), (4, .int (nI j)), (3, .int (nI zt)), (0, .ref h0), (1, .int x1), (2, .int x2)]) (fun s6 => [.int s6]) (fun s6 FF => (∃ k : Nat, k ≤ zt ∧ s6 = nI k ∧ (s5 = 1 → k = j) ∧ (s5 = 0 → k = zt)) ∧ FF h0 = .inr (15, (.ref ta) :: (.int 0) :: (.int (nI zo_29)) :: (.int (nI ze)) :: (.ref ou) :: (.ref so) :: (.ref ad) :: (.ref na) :: (.ref va) :: (.ref lc) :: (.ref dm) :: (.int (nI fm)) :: (.int (nI sn)) :: (.ref tg) :: (.int v14_30) :: (.int v15_31) :: (.ref pe) :: (.int v17_32) :: (.int v18_33) :: (.int v19_34) :: (.int v20_35) :: (.int v21_36) :: (.int v22_37) :: (.ref ml) :: (.ref bg) :: (.ref co) :: (.ref sp) :: (.ref nb0) :: (.ref nb1) :: (.ref nb2) :: (.int (nI nf)) :: (.int (nI bd)) :: (.int (nI mm)) :: (.int v33_38) :: (.ref pl) :: (.ref se) :: (.ref ke) :: (.ref wi) :: (.ref hs) :: (.ref mo) :: (.ref po) :: (.ref nu) :: (.ref pr) :: (.ref sq) :: (.ref xa) :: (.ref sa) :: (.ref n64) :: (.ref m64) :: (.ref ex) :: (.ref wh) :: (.ref sd) :: (.ref tk) :: (.int v52_39) :: (.int v53_40) :: (.int v54_41) :: (.ref hd) :: (.ref ak) :: (.ref ho) :: (.ref ot) :: []) ∧ FF so = .inl (cs 16, 40, .inl fs) ∧ FF ad = .inl (cs 16, 40, .inl fd)) ?_ (fun jn_109 => ?_)
          ·
            rintro s6 F_110 hv_112 hO hR H locs hP hD hS ls hl
            have hl : lv_has ls 7 [(5, .int s5), (4, .int (nI j)), (3, .int (nI zt)), (0, .ref h0), (1, .int x1), (2, .int x2)] := hl
            have hv_112 : (∃ k : Nat, k ≤ zt ∧ s6 = nI k ∧ (s5 = 1 → k = j) ∧ (s5 = 0 → k = zt)) ∧ F_110 h0 = .inr (15, (.ref ta) :: (.int 0) :: (.int (nI zo_29)) :: (.int (nI ze)) :: (.ref ou) :: (.ref so) :: (.ref ad) :: (.ref na) :: (.ref va) :: (.ref lc) :: (.ref dm) :: (.int (nI fm)) :: (.int (nI sn)) :: (.ref tg) :: (.int v14_30) :: (.int v15_31) :: (.ref pe) :: (.int v17_32) :: (.int v18_33) :: (.int v19_34) :: (.int v20_35) :: (.int v21_36) :: (.int v22_37) :: (.ref ml) :: (.ref bg) :: (.ref co) :: (.ref sp) :: (.ref nb0) :: (.ref nb1) :: (.ref nb2) :: (.int (nI nf)) :: (.int (nI bd)) :: (.int (nI mm)) :: (.int v33_38) :: (.ref pl) :: (.ref se) :: (.ref ke) :: (.ref wi) :: (.ref hs) :: (.ref mo) :: (.ref po) :: (.ref nu) :: (.ref pr) :: (.ref sq) :: (.ref xa) :: (.ref sa) :: (.ref n64) :: (.ref m64) :: (.ref ex) :: (.ref wh) :: (.ref sd) :: (.ref tk) :: (.int v52_39) :: (.int v53_40) :: (.int v54_41) :: (.ref hd) :: (.ref ak) :: (.ref ho) :: (.ref ot) :: []) ∧ F_110 so = .inl (cs 16, 40, .inl fs) ∧ F_110 ad = .inl (cs 16, 40, .inl fd) := hv_112
            refine W.eq (g2 := F0 m 90 ls [.int s6]) rfl ?_
            have hF_113 : F_110 ta = .inl (cs 17, 3000, .inl gt) := (hR ta (by rw [ht_81]; simp only [List.mem_cons, List.not_mem_nil, or_false]; omega)).trans hF_111
            obtain ⟨⟨kend, hke, eke, hk1e, hk0e⟩, hb2⟩ := hv_112
            subst eke
            refine W.eq (g2 := F0 m 90 ls [.int (nI kend)]) rfl ?_
            obtain ⟨hb2, hb2so, hb2ad⟩ := hb2
            refine lv_istore (lv' := [(6, .int (nI kend)), (5, .int s5), (4, .int (nI j)), (3, .int (nI zt)), (0, .ref h0), (1, .int x1), (2, .int x2)]) hx hb dX15_entry_90 hl (by decide) rfl (fun ls hl => ?_)
            have hF_116 : F ta = .inl (cs 17, 3000, .inl gt) := (hR ta (by rw [ht_81]; simp only [List.mem_cons, List.not_mem_nil, or_false]; omega)).symm.trans hF_113
            refine W.widen (k := 0) (n := 0) (by omega) (by omega) ?_
            refine pl_cutm (σ := Unit) A (dC, dI) cs ty gm L [ρ, ρ + 3, ρ + 31, ρ + 4 + ze + 100, ρ + 50 + ze + 100] F 118 7 (fun u0 => [(6, .int (nI kend)), (5, .int s5), (4, .int (nI j)), (3, .int (nI zt)), (0, .ref h0), (1, .int x1), (2, .int x2)]) (fun u0 => []) (fun u0 FF => NM gt 0 kend = true ∧ kend ≤ 60 ∧ (s5 = 1 → j < zt) ∧ FF h0 = .inr (15, (.ref ta) :: (.int 0) :: (.int (nI zo_29)) :: (.int (nI ze)) :: (.ref ou) :: (.ref so) :: (.ref ad) :: (.ref na) :: (.ref va) :: (.ref lc) :: (.ref dm) :: (.int (nI fm)) :: (.int (nI sn)) :: (.ref tg) :: (.int v14_30) :: (.int v15_31) :: (.ref pe) :: (.int v17_32) :: (.int v18_33) :: (.int v19_34) :: (.int v20_35) :: (.int v21_36) :: (.int v22_37) :: (.ref ml) :: (.ref bg) :: (.ref co) :: (.ref sp) :: (.ref nb0) :: (.ref nb1) :: (.ref nb2) :: (.int (nI nf)) :: (.int (nI bd)) :: (.int (nI mm)) :: (.int v33_38) :: (.ref pl) :: (.ref se) :: (.ref ke) :: (.ref wi) :: (.ref hs) :: (.ref mo) :: (.ref po) :: (.ref nu) :: (.ref pr) :: (.ref sq) :: (.ref xa) :: (.ref sa) :: (.ref n64) :: (.ref m64) :: (.ref ex) :: (.ref wh) :: (.ref sd) :: (.ref tk) :: (.int v52_39) :: (.int v53_40) :: (.int v54_41) :: (.ref hd) :: (.ref ak) :: (.ref ho) :: (.ref ot) :: []) ∧ FF so = .inl (cs 16, 40, .inl fs) ∧ FF ad = .inl (cs 16, 40, .inl fd)) ?_ (fun jn_114 => ?_)
            ·
              rintro u0 F_115 hv_117 hO hR H locs hP hD hS ls hl
              have hl : lv_has ls 7 [(6, .int (nI kend)), (5, .int s5), (4, .int (nI j)), (3, .int (nI zt)), (0, .ref h0), (1, .int x1), (2, .int x2)] := hl
              have hv_117 : NM gt 0 kend = true ∧ kend ≤ 60 ∧ (s5 = 1 → j < zt) ∧ F_115 h0 = .inr (15, (.ref ta) :: (.int 0) :: (.int (nI zo_29)) :: (.int (nI ze)) :: (.ref ou) :: (.ref so) :: (.ref ad) :: (.ref na) :: (.ref va) :: (.ref lc) :: (.ref dm) :: (.int (nI fm)) :: (.int (nI sn)) :: (.ref tg) :: (.int v14_30) :: (.int v15_31) :: (.ref pe) :: (.int v17_32) :: (.int v18_33) :: (.int v19_34) :: (.int v20_35) :: (.int v21_36) :: (.int v22_37) :: (.ref ml) :: (.ref bg) :: (.ref co) :: (.ref sp) :: (.ref nb0) :: (.ref nb1) :: (.ref nb2) :: (.int (nI nf)) :: (.int (nI bd)) :: (.int (nI mm)) :: (.int v33_38) :: (.ref pl) :: (.ref se) :: (.ref ke) :: (.ref wi) :: (.ref hs) :: (.ref mo) :: (.ref po) :: (.ref nu) :: (.ref pr) :: (.ref sq) :: (.ref xa) :: (.ref sa) :: (.ref n64) :: (.ref m64) :: (.ref ex) :: (.ref wh) :: (.ref sd) :: (.ref tk) :: (.int v52_39) :: (.int v53_40) :: (.int v54_41) :: (.ref hd) :: (.ref ak) :: (.ref ho) :: (.ref ot) :: []) ∧ F_115 so = .inl (cs 16, 40, .inl fs) ∧ F_115 ad = .inl (cs 16, 40, .inl fd) := hv_117
              refine W.eq (g2 := F0 m 118 ls []) rfl ?_
              have hF_118 : F_115 ta = .inl (cs 17, 3000, .inl gt) := (hR ta (by rw [ht_81]; simp only [List.mem_cons, List.not_mem_nil, or_false]; omega)).trans hF_116
              obtain ⟨hn1, hn6, hn2, hn3⟩ := hv_117
              obtain ⟨hn3, hn3so, hn3ad⟩ := hn3
              have hF_121 : F ta = .inl (cs 17, 3000, .inl gt) := (hR ta (by rw [ht_81]; simp only [List.mem_cons, List.not_mem_nil, or_false]; omega)).symm.trans hF_118
              refine W.widen (k := 0) (n := 0) (by omega) (by omega) ?_
              refine pl_cutm (σ := Unit) A (dC, dI) cs ty gm L [ρ, ρ + 3, ρ + 31, ρ + 4 + ze + 100, ρ + 50 + ze + 100] F 156 7 (fun u0 => [(6, .int (nI kend)), (5, .int s5), (4, .int (nI j)), (3, .int (nI zt)), (0, .ref h0), (1, .int x1), (2, .int x2)]) (fun u0 => []) (fun u0 FF => (s5 = 1 → ISV x1 gt zt j ∧ zt - j - 1 ≤ 700) ∧ FF h0 = .inr (15, (.ref ta) :: (.int 0) :: (.int (nI zo_29)) :: (.int (nI ze)) :: (.ref ou) :: (.ref so) :: (.ref ad) :: (.ref na) :: (.ref va) :: (.ref lc) :: (.ref dm) :: (.int (nI fm)) :: (.int (nI sn)) :: (.ref tg) :: (.int v14_30) :: (.int v15_31) :: (.ref pe) :: (.int v17_32) :: (.int v18_33) :: (.int v19_34) :: (.int v20_35) :: (.int v21_36) :: (.int v22_37) :: (.ref ml) :: (.ref bg) :: (.ref co) :: (.ref sp) :: (.ref nb0) :: (.ref nb1) :: (.ref nb2) :: (.int (nI nf)) :: (.int (nI bd)) :: (.int (nI mm)) :: (.int v33_38) :: (.ref pl) :: (.ref se) :: (.ref ke) :: (.ref wi) :: (.ref hs) :: (.ref mo) :: (.ref po) :: (.ref nu) :: (.ref pr) :: (.ref sq) :: (.ref xa) :: (.ref sa) :: (.ref n64) :: (.ref m64) :: (.ref ex) :: (.ref wh) :: (.ref sd) :: (.ref tk) :: (.int v52_39) :: (.int v53_40) :: (.int v54_41) :: (.ref hd) :: (.ref ak) :: (.ref ho) :: (.ref ot) :: []) ∧ FF so = .inl (cs 16, 40, .inl fs) ∧ FF ad = .inl (cs 16, 40, .inl fd)) ?_ (fun jn_119 => ?_)
              ·
                rintro u0 F_120 hv_122 hO hR H locs hP hD hS ls hl
                have hl : lv_has ls 7 [(6, .int (nI kend)), (5, .int s5), (4, .int (nI j)), (3, .int (nI zt)), (0, .ref h0), (1, .int x1), (2, .int x2)] := hl
                have hv_122 : (s5 = 1 → ISV x1 gt zt j ∧ zt - j - 1 ≤ 700) ∧ F_120 h0 = .inr (15, (.ref ta) :: (.int 0) :: (.int (nI zo_29)) :: (.int (nI ze)) :: (.ref ou) :: (.ref so) :: (.ref ad) :: (.ref na) :: (.ref va) :: (.ref lc) :: (.ref dm) :: (.int (nI fm)) :: (.int (nI sn)) :: (.ref tg) :: (.int v14_30) :: (.int v15_31) :: (.ref pe) :: (.int v17_32) :: (.int v18_33) :: (.int v19_34) :: (.int v20_35) :: (.int v21_36) :: (.int v22_37) :: (.ref ml) :: (.ref bg) :: (.ref co) :: (.ref sp) :: (.ref nb0) :: (.ref nb1) :: (.ref nb2) :: (.int (nI nf)) :: (.int (nI bd)) :: (.int (nI mm)) :: (.int v33_38) :: (.ref pl) :: (.ref se) :: (.ref ke) :: (.ref wi) :: (.ref hs) :: (.ref mo) :: (.ref po) :: (.ref nu) :: (.ref pr) :: (.ref sq) :: (.ref xa) :: (.ref sa) :: (.ref n64) :: (.ref m64) :: (.ref ex) :: (.ref wh) :: (.ref sd) :: (.ref tk) :: (.int v52_39) :: (.int v53_40) :: (.int v54_41) :: (.ref hd) :: (.ref ak) :: (.ref ho) :: (.ref ot) :: []) ∧ F_120 so = .inl (cs 16, 40, .inl fs) ∧ F_120 ad = .inl (cs 16, 40, .inl fd) := hv_122
                refine W.eq (g2 := F0 m 156 ls []) rfl ?_
                have hF_123 : F_120 ta = .inl (cs 17, 3000, .inl gt) := (hR ta (by rw [ht_81]; simp only [List.mem_cons, List.not_mem_nil, or_false]; omega)).trans hF_121
                obtain ⟨ho1, ho2⟩ := hv_122
                obtain ⟨ho2, ho2so, ho2ad⟩ := ho2
                refine lv_aload_n hx hb dX15_entry_156 rfl (lv_at hl 4 rfl) ?_
                refine pg_get (ci := 15) (v := .ref so) (C := RX15) (T := TX15) (N := 59) hx hb hts it_15 hown hK hP hL_h0 ho2 rfl 5 (by decide) (hts _ kt_718) (fun _ h9 => h9) rfl dX15_entry_157 ?_
                refine lv_aload_n hx hb dX15_entry_160 rfl (lv_at hl 4 rfl) ?_
                refine pg_get (ci := 15) (v := .int (nI ze)) (C := RX15) (T := TX15) (N := 59) hx hb hts it_15 hown hK hP hL_h0 ho2 rfl 3 (by decide) (hts _ kt_724) (fun _ h9 => h9) rfl dX15_entry_161 ?_
                refine lv_iload_n hx hb dX15_entry_164 rfl (lv_at hl 5 rfl) ?_
                refine pg_iast hx hb hK hP hD hS hi_83 0 ho2so rfl (vp_in_nI (by omega) (by omega)) dX15_entry_165 (fun H locs hP hD hS => ?_)
                obtain ⟨F_124, he_125, hP, hD, hO, hR⟩ : ∃ G, G = va_up F_120 so (.inl (cs 16, 40, .inl (upd fs ((nI ze)).toNatClampNeg (x1)))) ∧ va_P (dC, dI) vwCl (va_pl L G) H ∧ va_D A (va_pl L G) ∧ OKm cs ty gm L G ∧ FR ty [ρ, ρ + 3, ρ + 31, ρ + 4 + ze + 100, ρ + 50 + ze + 100] F G := ⟨_, rfl, hP, hD, hO.up (shm.ints ht_84 ⟨_, rfl⟩), hR.up ht_84 (by simp)⟩
                have hF_126 : F_124 so = .inl (cs 16, 40, .inl (upd fs ((nI ze)).toNatClampNeg (x1))) := by rw [he_125]; exact up_self
                have hF_127 : F_124 ta = .inl (cs 17, 3000, .inl gt) := by rw [he_125, up_ne (ne_ty ht_81 ht_84 (by simp))]; exact hF_123
                have hF_128 : F_124 h0 = .inr (15, (.ref ta) :: (.int 0) :: (.int (nI zo_29)) :: (.int (nI ze)) :: (.ref ou) :: (.ref so) :: (.ref ad) :: (.ref na) :: (.ref va) :: (.ref lc) :: (.ref dm) :: (.int (nI fm)) :: (.int (nI sn)) :: (.ref tg) :: (.int v14_30) :: (.int v15_31) :: (.ref pe) :: (.int v17_32) :: (.int v18_33) :: (.int v19_34) :: (.int v20_35) :: (.int v21_36) :: (.int v22_37) :: (.ref ml) :: (.ref bg) :: (.ref co) :: (.ref sp) :: (.ref nb0) :: (.ref nb1) :: (.ref nb2) :: (.int (nI nf)) :: (.int (nI bd)) :: (.int (nI mm)) :: (.int v33_38) :: (.ref pl) :: (.ref se) :: (.ref ke) :: (.ref wi) :: (.ref hs) :: (.ref mo) :: (.ref po) :: (.ref nu) :: (.ref pr) :: (.ref sq) :: (.ref xa) :: (.ref sa) :: (.ref n64) :: (.ref m64) :: (.ref ex) :: (.ref wh) :: (.ref sd) :: (.ref tk) :: (.int v52_39) :: (.int v53_40) :: (.int v54_41) :: (.ref hd) :: (.ref ak) :: (.ref ho) :: (.ref ot) :: []) := by rw [he_125, up_ne (ne_ty hT_h0 ht_84 (by simp))]; exact ho2
                have hF_129 : F_124 ad = .inl (cs 16, 40, .inl fd) := by rw [he_125, up_ne (ne_ty2 ht_87 ht_84 (by simp))]; exact ho2ad
                have hF_130 : F_124 so = .inl (cs 16, 40, .inl (upd fs ze x1)) := by have h9 := hF_126; rwa [nI_clamp (by omega)] at h9
                refine lv_aload_n hx hb dX15_entry_166 rfl (lv_at hl 4 rfl) ?_
                refine pg_get (ci := 15) (v := .ref ad) (C := RX15) (T := TX15) (N := 59) hx hb hts it_15 hown hK hP hL_h0 hF_128 rfl 6 (by decide) (hts _ kt_740) (fun _ h9 => h9) rfl dX15_entry_167 ?_
                refine lv_aload_n hx hb dX15_entry_170 rfl (lv_at hl 4 rfl) ?_
                refine pg_get (ci := 15) (v := .int (nI ze)) (C := RX15) (T := TX15) (N := 59) hx hb hts it_15 hown hK hP hL_h0 hF_128 rfl 3 (by decide) (hts _ kt_724) (fun _ h9 => h9) rfl dX15_entry_171 ?_
                refine lv_iload_n hx hb dX15_entry_174 rfl (lv_at hl 6 rfl) ?_
                refine pg_iast hx hb hK hP hD hS hi_86 0 hF_129 rfl (vp_in_nI (by omega) (by omega)) dX15_entry_175 (fun H locs hP hD hS => ?_)
                obtain ⟨F_131, he_132, hP, hD, hO, hR⟩ : ∃ G, G = va_up F_124 ad (.inl (cs 16, 40, .inl (upd fd ((nI ze)).toNatClampNeg (x2)))) ∧ va_P (dC, dI) vwCl (va_pl L G) H ∧ va_D A (va_pl L G) ∧ OKm cs ty gm L G ∧ FR ty [ρ, ρ + 3, ρ + 31, ρ + 4 + ze + 100, ρ + 50 + ze + 100] F G := ⟨_, rfl, hP, hD, hO.up (shm.ints ht_87 ⟨_, rfl⟩), hR.up ht_87 (by simp)⟩
                have hF_133 : F_131 ad = .inl (cs 16, 40, .inl (upd fd ((nI ze)).toNatClampNeg (x2))) := by rw [he_132]; exact up_self
                have hF_134 : F_131 so = .inl (cs 16, 40, .inl (upd fs ze x1)) := by rw [he_132, up_ne (ne_ty2 ht_84 ht_87 (by simp))]; exact hF_130
                have hF_135 : F_131 ta = .inl (cs 17, 3000, .inl gt) := by rw [he_132, up_ne (ne_ty ht_81 ht_87 (by simp))]; exact hF_127
                have hF_136 : F_131 h0 = .inr (15, (.ref ta) :: (.int 0) :: (.int (nI zo_29)) :: (.int (nI ze)) :: (.ref ou) :: (.ref so) :: (.ref ad) :: (.ref na) :: (.ref va) :: (.ref lc) :: (.ref dm) :: (.int (nI fm)) :: (.int (nI sn)) :: (.ref tg) :: (.int v14_30) :: (.int v15_31) :: (.ref pe) :: (.int v17_32) :: (.int v18_33) :: (.int v19_34) :: (.int v20_35) :: (.int v21_36) :: (.int v22_37) :: (.ref ml) :: (.ref bg) :: (.ref co) :: (.ref sp) :: (.ref nb0) :: (.ref nb1) :: (.ref nb2) :: (.int (nI nf)) :: (.int (nI bd)) :: (.int (nI mm)) :: (.int v33_38) :: (.ref pl) :: (.ref se) :: (.ref ke) :: (.ref wi) :: (.ref hs) :: (.ref mo) :: (.ref po) :: (.ref nu) :: (.ref pr) :: (.ref sq) :: (.ref xa) :: (.ref sa) :: (.ref n64) :: (.ref m64) :: (.ref ex) :: (.ref wh) :: (.ref sd) :: (.ref tk) :: (.int v52_39) :: (.int v53_40) :: (.int v54_41) :: (.ref hd) :: (.ref ak) :: (.ref ho) :: (.ref ot) :: []) := by rw [he_132, up_ne (ne_ty hT_h0 ht_87 (by simp))]; exact hF_128
                have hF_137 : F_131 ad = .inl (cs 16, 40, .inl (upd fd ze x2)) := by have h9 := hF_133; rwa [nI_clamp (by omega)] at h9
                refine lv_aload_n hx hb dX15_entry_176 rfl (lv_at hl 4 rfl) ?_
                refine pg_get (ci := 15) (v := .ref na) (C := RX15) (T := TX15) (N := 59) hx hb hts it_15 hown hK hP hL_h0 hF_136 rfl 7 (by decide) (hts _ kt_719) (fun _ h9 => h9) rfl dX15_entry_177 ?_
                refine lv_aload_n hx hb dX15_entry_180 rfl (lv_at hl 4 rfl) ?_
                refine pg_get (ci := 15) (v := .int (nI ze)) (C := RX15) (T := TX15) (N := 59) hx hb hts it_15 hown hK hP hL_h0 hF_136 rfl 3 (by decide) (hts _ kt_724) (fun _ h9 => h9) rfl dX15_entry_181 ?_
                have hzna := FR.unre hT00 hty hR na (by rw [hTn0]; simp only [List.mem_cons, List.not_mem_nil, or_false]; omega)
                obtain ⟨hi_138, ht_139⟩ := hW.f_na hL_h0 hT_h0
                obtain ⟨f_140, hF_141, hq_142⟩ := hO.rtxj hi_138 ht_139
                obtain rfl : fn = f_140 := by have e9 := (hzna.trans hd3).symm.trans hF_141; simpa using e9
                obtain ⟨b_143, r_144, hbf_145, hi_146, ht_147⟩ := hq_142 ze (by omega)
                refine pg_aald (r := b_143) hx hb hK hP hi_138 7 hF_141 rfl (vp_in_nI (by omega) (by omega)) (show fn ((nI ze) : Int32).toNatClampNeg = _ from by rw [show ((nI ze) : Int32) = nI ze from rfl, nI_clamp (by omega)]; exact hbf_145) dX15_entry_184 ?_
                refine lv_aload_n hx hb dX15_entry_185 rfl (lv_at hl 4 rfl) ?_
                refine pg_get (ci := 15) (v := .ref ta) (C := RX15) (T := TX15) (N := 59) hx hb hts it_15 hown hK hP hL_h0 hF_136 rfl 0 (by decide) (hts _ kt_1009) (fun _ h9 => h9) rfl dX15_entry_186 ?_
                refine lv_iconst (v := 0) hx hb dX15_entry_189 (by decide) ?_
                refine lv_iload hx hb dX15_entry_190 (lv_at hl 0 rfl) ?_
                refine W.eq (g2 := F0 m 192 ls [.int (nI kend), .int (nI 0), .ref ta, .ref b_143]) rfl ?_
                obtain ⟨hi_148, ht_149, hq_150⟩ := hW.txt hi_146 ht_147
                obtain ⟨hq_151, hq_152⟩ := hW.octs hi_80 ht_81
                have hFc := pg_free hD hS hA
                obtain ⟨z_153, hF_154, hq_155⟩ := hO.txt hi_146 ht_147
                refine va_callv (va_runV (As := [.ref ta, .int (nI 0), .int (nI kend)]) (rest := []) ⟨hx, hb, hml, hown, hts⟩ (s_X14_set_e l dC dI cs ty gm L H.size F_131 b_143 (ρ + 4 + ze + 100) r_144 60 ta (ρ + 1) 3000 0 kend gt hW hi_146 ht_147 hi_80 ht_81 hF_135 (Nat.zero_le _) (by omega) (by omega)) ⟨callB_of 3 hts (gi kt_951) rfl rfl rfl (hts _ kt_676) (hts _ kt_952) (by decide +kernel) ⟨Nat.le_of_ble_eq_true rfl, Nat.le_of_ble_eq_true rfl⟩, (hts _ kt_953), (hts _ kt_954)⟩ ⟨fun a U g mk q => ⟨q.1, PTm.calling q.2⟩, pg_recv hK hP hi_146 hF_154 (q := (RX14, TX14, 2)) rfl, fun U hU hWm => ⟨rfl, PTm.mk hU hWm hP hK hD hE hO⟩⟩ rfl rfl hl.1 rfl (lv_room (Nat.le_of_ble_eq_true rfl)) dX15_entry_192 ⟨by show _ + 0 ≤ 0; omega, by show _ + 0 ≤ 0; omega⟩) hS (fun q _ h => hFc q h) hFc (fun u t H1 locs ht hvm hw hB hz1 hk1 hS => ?_)
                obtain ⟨F_157, fc_158, hB1, hq_159, hq_160, hq_161⟩ := hB
                obtain ⟨hP, hD, hO, hR⟩ := QTm.back hB1 ht hFc hR (fun q h => by simp only [List.mem_cons, List.not_mem_nil, or_false] at h ⊢; omega)
                have hF_162 : F_157 ad = .inl (cs 16, 40, .inl (upd fd ze x2)) := (hB1.2.2.2 ad (by rw [ht_87]; simp only [List.mem_cons, List.not_mem_nil, or_false]; omega)).trans hF_137
                have hF_163 : F_157 so = .inl (cs 16, 40, .inl (upd fs ze x1)) := (hB1.2.2.2 so (by rw [ht_84]; simp only [List.mem_cons, List.not_mem_nil, or_false]; omega)).trans hF_134
                have hF_164 : F_157 ta = .inl (cs 17, 3000, .inl gt) := (hB1.2.2.2 ta (by rw [ht_81]; simp only [List.mem_cons, List.not_mem_nil, or_false]; omega)).trans hF_135
                have hF_165 : F_157 h0 = .inr (15, (.ref ta) :: (.int 0) :: (.int (nI zo_29)) :: (.int (nI ze)) :: (.ref ou) :: (.ref so) :: (.ref ad) :: (.ref na) :: (.ref va) :: (.ref lc) :: (.ref dm) :: (.int (nI fm)) :: (.int (nI sn)) :: (.ref tg) :: (.int v14_30) :: (.int v15_31) :: (.ref pe) :: (.int v17_32) :: (.int v18_33) :: (.int v19_34) :: (.int v20_35) :: (.int v21_36) :: (.int v22_37) :: (.ref ml) :: (.ref bg) :: (.ref co) :: (.ref sp) :: (.ref nb0) :: (.ref nb1) :: (.ref nb2) :: (.int (nI nf)) :: (.int (nI bd)) :: (.int (nI mm)) :: (.int v33_38) :: (.ref pl) :: (.ref se) :: (.ref ke) :: (.ref wi) :: (.ref hs) :: (.ref mo) :: (.ref po) :: (.ref nu) :: (.ref pr) :: (.ref sq) :: (.ref xa) :: (.ref sa) :: (.ref n64) :: (.ref m64) :: (.ref ex) :: (.ref wh) :: (.ref sd) :: (.ref tk) :: (.int v52_39) :: (.int v53_40) :: (.int v54_41) :: (.ref hd) :: (.ref ak) :: (.ref ho) :: (.ref ot) :: []) := (hB1.2.2.2 h0 (by rw [hT_h0]; simp only [List.mem_cons, List.not_mem_nil, or_false]; omega)).trans hF_136
                have hF_166 : F_157 na = .inl (cs 23, 40, .inr (.inr (.inr (.inr fn)))) := (hB1.2.2.2 na (by rw [ht_139]; simp only [List.mem_cons, List.not_mem_nil, or_false]; omega)).trans hF_141
                generalize H1 = H at hP hS ⊢
                refine lv_aload_n hx hb dX15_entry_195 rfl (lv_at hl 4 rfl) ?_
                refine pg_get (ci := 15) (v := .ref va) (C := RX15) (T := TX15) (N := 59) hx hb hts it_15 hown hK hP hL_h0 hF_165 rfl 8 (by decide) (hts _ kt_732) (fun _ h9 => h9) rfl dX15_entry_196 ?_
                refine lv_aload_n hx hb dX15_entry_199 rfl (lv_at hl 4 rfl) ?_
                refine pg_get (ci := 15) (v := .int (nI ze)) (C := RX15) (T := TX15) (N := 59) hx hb hts it_15 hown hK hP hL_h0 hF_165 rfl 3 (by decide) (hts _ kt_724) (fun _ h9 => h9) rfl dX15_entry_200 ?_
                have hzva := FR.unre hT00 hty hR va (by rw [hTv0]; simp only [List.mem_cons, List.not_mem_nil, or_false]; omega)
                obtain ⟨hi_167, ht_168⟩ := hW.f_va hL_h0 hT_h0
                obtain ⟨f_169, hF_170, hq_171⟩ := hO.rtxj hi_167 ht_168
                obtain rfl : fv = f_169 := by have e9 := (hzva.trans hd4).symm.trans hF_170; simpa using e9
                obtain ⟨b_172, r_173, hbf_174, hi_175, ht_176⟩ := hq_171 ze (by omega)
                refine pg_aald (r := b_172) hx hb hK hP hi_167 7 hF_170 rfl (vp_in_nI (by omega) (by omega)) (show fv ((nI ze) : Int32).toNatClampNeg = _ from by rw [show ((nI ze) : Int32) = nI ze from rfl, nI_clamp (by omega)]; exact hbf_174) dX15_entry_203 ?_
                refine lv_iconst (v := 0) hx hb dX15_entry_204 (by decide) ?_
                obtain ⟨hi_177, ht_178, hq_179⟩ := hW.txt hi_175 ht_176
                obtain ⟨z_180, hF_181, hq_182⟩ := hO.txt hi_175 ht_176
                refine pg_put (ci := 14) (v := .int 0) (ty := .int) (C := RX14) (T := TX14) (N := 2) hx hb hts it_14 tyX14 tyX14_ok nmX14 hown hK hP hD hS hi_175 hF_181 rfl 1 (by decide) (hts _ kt_709) (fun _ h9 => h9) rfl (by decide +kernel) (rfl) (rfl) (Nat.le_of_ble_eq_true rfl) dX15_entry_205 (fun H locs hP hD hS => ?_)
                obtain ⟨F_183, he_184, hP, hD, hO, hR⟩ : ∃ G, G = va_up F_157 b_172 (.inr (14, [.ref r_173, .int 0])) ∧ va_P (dC, dI) vwCl (va_pl L G) H ∧ va_D A (va_pl L G) ∧ OKm cs ty gm L G ∧ FR ty [ρ, ρ + 3, ρ + 31, ρ + 4 + ze + 100, ρ + 50 + ze + 100] F G := ⟨_, rfl, hP, hD, hO.up (shm.txt ht_176 ⟨0, rfl, (by first | omega | assumption | exact Or.inl rfl | exact Or.inr rfl)⟩), hR.up ht_176 (by simp)⟩
                have hF_185 : F_183 b_172 = .inr (14, [.ref r_173, .int 0]) := by rw [he_184]; exact up_self
                have hF_186 : F_183 ad = .inl (cs 16, 40, .inl (upd fd ze x2)) := by rw [he_184, up_ne (ne_ty ht_87 ht_176 (by simp))]; exact hF_162
                have hF_187 : F_183 so = .inl (cs 16, 40, .inl (upd fs ze x1)) := by rw [he_184, up_ne (ne_ty ht_84 ht_176 (by simp))]; exact hF_163
                have hF_188 : F_183 ta = .inl (cs 17, 3000, .inl gt) := by rw [he_184, up_ne (ne_ty ht_81 ht_176 (by simp))]; exact hF_164
                have hF_189 : F_183 h0 = .inr (15, (.ref ta) :: (.int 0) :: (.int (nI zo_29)) :: (.int (nI ze)) :: (.ref ou) :: (.ref so) :: (.ref ad) :: (.ref na) :: (.ref va) :: (.ref lc) :: (.ref dm) :: (.int (nI fm)) :: (.int (nI sn)) :: (.ref tg) :: (.int v14_30) :: (.int v15_31) :: (.ref pe) :: (.int v17_32) :: (.int v18_33) :: (.int v19_34) :: (.int v20_35) :: (.int v21_36) :: (.int v22_37) :: (.ref ml) :: (.ref bg) :: (.ref co) :: (.ref sp) :: (.ref nb0) :: (.ref nb1) :: (.ref nb2) :: (.int (nI nf)) :: (.int (nI bd)) :: (.int (nI mm)) :: (.int v33_38) :: (.ref pl) :: (.ref se) :: (.ref ke) :: (.ref wi) :: (.ref hs) :: (.ref mo) :: (.ref po) :: (.ref nu) :: (.ref pr) :: (.ref sq) :: (.ref xa) :: (.ref sa) :: (.ref n64) :: (.ref m64) :: (.ref ex) :: (.ref wh) :: (.ref sd) :: (.ref tk) :: (.int v52_39) :: (.int v53_40) :: (.int v54_41) :: (.ref hd) :: (.ref ak) :: (.ref ho) :: (.ref ot) :: []) := by rw [he_184, up_ne (ne_ty hT_h0 ht_176 (by simp))]; exact hF_165
                have hF_190 : F_183 na = .inl (cs 23, 40, .inr (.inr (.inr (.inr fn)))) := by rw [he_184, up_ne (ne_ty ht_139 ht_176 (by simp))]; exact hF_166
                have hF_191 : F_183 b_143 = .inr (14, [.ref r_144, .int (nI (kend - 0))]) := by rw [he_184, up_ne (ne_ty2 ht_147 ht_176 (by simp))]; exact hq_159
                have hF_192 : F_183 r_144 = .inl (cs 17, 60, .inl fc_158) := by rw [he_184, up_ne (ne_ty ht_149 ht_176 (by simp))]; exact hq_160
                have hF_193 : F_183 va = .inl (cs 23, 40, .inr (.inr (.inr (.inr fv)))) := by rw [he_184, up_ne (ne_ty ht_168 ht_176 (by simp))]; exact hF_170
                refine lv_iload hx hb dX15_entry_208 (lv_at hl 1 rfl) ?_
                refine lv_if_eq (tgt := 234) hx hb dX15_entry_210 (by decide) (fun c_194 => ?_) (fun c_194 => ?_)
                ·
                  refine lv_aload_n hx hb dX15_entry_234 rfl (lv_at hl 4 rfl) ?_
                  refine lv_dup hx hb dX15_entry_235 rfl ?_
                  refine pg_get (ci := 15) (v := .int (nI ze)) (C := RX15) (T := TX15) (N := 59) hx hb hts it_15 hown hK hP hL_h0 hF_189 rfl 3 (by decide) (hts _ kt_724) (fun _ h9 => h9) rfl dX15_entry_236 ?_
                  refine lv_iconst (v := 1) hx hb dX15_entry_239 (by decide) ?_
                  refine lv_iadd hx hb dX15_entry_240 ?_
                  refine lv_topi (fun x_195 ex_195 => ?_)
                  obtain rfl : x_195 = (nI (ze + 1)) := ex_195.trans (nI_add ze 1)
                  have htyU := hty
                  have hTU := hT_h0
                  obtain ⟨hq_196, hq_197⟩ := hW.octs hi_148 ht_149
                  obtain ⟨hq_198, hq_199⟩ := hW.octs hi_177 ht_178
                  obtain ⟨f_200, hF_201, hq_202⟩ := hO.octs hi_177 ht_178
                  refine pg_put (ci := 15) (v := .int (nI (ze + 1))) (ty := .int) (C := RX15) (T := TX15) (N := 59) hx hb hts it_15 tyX15 tyX15_ok nmX15 hown hK hP hD hS hL_h0 hF_189 rfl 3 (by decide) (hts _ kt_724) (fun _ h9 => h9) rfl (by decide +kernel) (rfl) (rfl) (Nat.le_of_ble_eq_true rfl) dX15_entry_241 (fun H locs hP hD hS => ?_)
                  obtain ⟨F_203, he_204, hP, hD, hR⟩ : ∃ G, G = va_up F_183 h0 (.inr (15, (.ref ta) :: (.int 0) :: (.int (nI zo_29)) :: (.int (nI (ze + 1))) :: (.ref ou) :: (.ref so) :: (.ref ad) :: (.ref na) :: (.ref va) :: (.ref lc) :: (.ref dm) :: (.int (nI fm)) :: (.int (nI sn)) :: (.ref tg) :: (.int v14_30) :: (.int v15_31) :: (.ref pe) :: (.int v17_32) :: (.int v18_33) :: (.int v19_34) :: (.int v20_35) :: (.int v21_36) :: (.int v22_37) :: (.ref ml) :: (.ref bg) :: (.ref co) :: (.ref sp) :: (.ref nb0) :: (.ref nb1) :: (.ref nb2) :: (.int (nI nf)) :: (.int (nI bd)) :: (.int (nI mm)) :: (.int v33_38) :: (.ref pl) :: (.ref se) :: (.ref ke) :: (.ref wi) :: (.ref hs) :: (.ref mo) :: (.ref po) :: (.ref nu) :: (.ref pr) :: (.ref sq) :: (.ref xa) :: (.ref sa) :: (.ref n64) :: (.ref m64) :: (.ref ex) :: (.ref wh) :: (.ref sd) :: (.ref tk) :: (.int v52_39) :: (.int v53_40) :: (.int v54_41) :: (.ref hd) :: (.ref ak) :: (.ref ho) :: (.ref ot) :: [])) ∧ va_P (dC, dI) vwCl (va_pl L G) H ∧ va_D A (va_pl L G) ∧ FR ty [ρ, ρ + 3, ρ + 31, ρ + 4 + ze + 100, ρ + 50 + ze + 100] F G := ⟨_, rfl, hP, hD, hR.up hT_h0 (by simp)⟩
                  have hF_205 : F_203 ta = .inl (cs 17, 3000, .inl gt) := by rw [he_204, up_ne (ne_ty ht_81 hT_h0 (by simp))]; exact hF_188
                  have hF_206 : F_203 so = .inl (cs 16, 40, .inl (upd fs ze x1)) := by rw [he_204, up_ne (ne_ty ht_84 hT_h0 (by simp))]; exact hF_187
                  have hF_207 : F_203 ad = .inl (cs 16, 40, .inl (upd fd ze x2)) := by rw [he_204, up_ne (ne_ty ht_87 hT_h0 (by simp))]; exact hF_186
                  have hF_208 : F_203 b_143 = .inr (14, [.ref r_144, .int (nI (kend - 0))]) := by rw [he_204, up_ne (ne_ty ht_147 hT_h0 (by simp))]; exact hF_191
                  have hF_209 : F_203 r_144 = .inl (cs 17, 60, .inl fc_158) := by rw [he_204, up_ne (ne_ty ht_149 hT_h0 (by simp))]; exact hF_192
                  have hF_210 : F_203 b_172 = .inr (14, [.ref r_173, .int 0]) := by rw [he_204, up_ne (ne_ty ht_176 hT_h0 (by simp))]; exact hF_185
                  have hF_211 : F_203 r_173 = .inl (cs 17, 700, .inl f_200) := by rw [he_204, up_ne (ne_ty ht_178 hT_h0 (by simp))]; exact hF_201
                  obtain ⟨ty, hty, hT_h0, hW, hO, hR⟩ : ∃ t9 : TyM, t9 = rtf ty h0 (15, ρ, [ta, ou, so, ad, na, va, lc, dm, tg, pe, ml, bg, co, sp, nb0, nb1, nb2, pl, se, ke, wi, hs, mo, po, nu, pr, sq, xa, sa, n64, m64, ex, wh, sd, tk, hd, ak, ho, ot, sx, s0, s1, s2, nf, bd, mm, fm, sn, hg, gc, gv, (ze + 1), 0]) ∧ t9 h0 = (15, ρ, [ta, ou, so, ad, na, va, lc, dm, tg, pe, ml, bg, co, sp, nb0, nb1, nb2, pl, se, ke, wi, hs, mo, po, nu, pr, sq, xa, sa, n64, m64, ex, wh, sd, tk, hd, ak, ho, ot, sx, s0, s1, s2, nf, bd, mm, fm, sn, hg, gc, gv, (ze + 1), 0]) ∧ WTm t9 gm L ∧ OKm cs t9 gm L F_203 ∧ FR t9 [ρ, ρ + 3, ρ + 31, ρ + 4 + ze + 100, ρ + 50 + ze + 100] F F_203 := ⟨_, rfl, rtf_self, hW.ze hL_h0 hT_h0, (by rw [he_204]; exact OKm.retype hO hT_h0 (shm.mod rtf_self ⟨zo_29, v14_30, v15_31, v17_32, v18_33, v19_34, v20_35, v21_36, v22_37, v33_38, v52_39, v53_40, v54_41, rfl, (by first | omega | assumption | exact Or.inl rfl | exact Or.inr rfl), (by first | omega | assumption | exact Or.inl rfl | exact Or.inr rfl), (by first | omega | assumption | exact Or.inl rfl | exact Or.inr rfl), (by first | omega | assumption | exact Or.inl rfl | exact Or.inr rfl), (by first | omega | assumption | exact Or.inl rfl | exact Or.inr rfl)⟩)), FR.retype hT_h0 hR⟩
                  have hF_212 : F_203 h0 = .inr (15, (.ref ta) :: (.int 0) :: (.int (nI zo_29)) :: (.int (nI (ze + 1))) :: (.ref ou) :: (.ref so) :: (.ref ad) :: (.ref na) :: (.ref va) :: (.ref lc) :: (.ref dm) :: (.int (nI fm)) :: (.int (nI sn)) :: (.ref tg) :: (.int v14_30) :: (.int v15_31) :: (.ref pe) :: (.int v17_32) :: (.int v18_33) :: (.int v19_34) :: (.int v20_35) :: (.int v21_36) :: (.int v22_37) :: (.ref ml) :: (.ref bg) :: (.ref co) :: (.ref sp) :: (.ref nb0) :: (.ref nb1) :: (.ref nb2) :: (.int (nI nf)) :: (.int (nI bd)) :: (.int (nI mm)) :: (.int v33_38) :: (.ref pl) :: (.ref se) :: (.ref ke) :: (.ref wi) :: (.ref hs) :: (.ref mo) :: (.ref po) :: (.ref nu) :: (.ref pr) :: (.ref sq) :: (.ref xa) :: (.ref sa) :: (.ref n64) :: (.ref m64) :: (.ref ex) :: (.ref wh) :: (.ref sd) :: (.ref tk) :: (.int v52_39) :: (.int v53_40) :: (.int v54_41) :: (.ref hd) :: (.ref ak) :: (.ref ho) :: (.ref ot) :: []) := by rw [he_204]; exact up_self
                  obtain ⟨hq_235, hq_236, hq_237, hq_238, hq_239, hgO, hgA, hgB, hq_240⟩ := hW.sc hL_h0 hT_h0
                  refine lv_aload_n hx hb dX15_entry_244 rfl (lv_at hl 4 rfl) ?_
                  refine pg_get (ci := 15) (v := .int (nI (ze + 1))) (C := RX15) (T := TX15) (N := 59) hx hb hts it_15 hown hK hP hL_h0 hF_212 rfl 3 (by decide) (hts _ kt_724) (fun _ h9 => h9) rfl dX15_entry_245 ?_
                  refine W.widen (k := 0) (n := 0) (by omega) (by omega) ?_
                  have hR0 := FR.unre hT00 htyU (FR.unre hTU hty hR)
                  have hQna := hR0 na (by rw [hTn0]; simp only [List.mem_cons, List.not_mem_nil, or_false]; omega)
                  have hQva := hR0 va (by rw [hTv0]; simp only [List.mem_cons, List.not_mem_nil, or_false]; omega)
                  exact W.iret (v := (nI (ze + 1))) hx hb hr (fun t ht hWm => ⟨⟨(nI (ze + 1)), (ze + 1), rfl, (Or.inr (Or.inr ⟨hc40, hs5.elim (fun h => val_y1 hx0 hx4 (hs5n h) (by rw [← hk0e h]; exact hn1)) (fun h => val_y2 hx0 hx4 (hs5x h) (hfst h) (by rw [← hk1e h]; exact hn1) (ho1 h).1), rfl, rfl⟩)), ⟨F_203, ty, (by rw [hty, htyU, rtf_rtf2]), QTm.mk ht hP hD hO hR, hW, ⟨(x1, x2, kend - 0, fc_158, 0, f_200), DIRM.add hDM hO0 hW0 hLn0 hTn0 hLv0 hTv0 (by omega) hR0 hQna hQva (fun k hk => ⟨by simp only [List.mem_cons, List.not_mem_nil, or_false]; omega, by simp only [List.mem_cons, List.not_mem_nil, or_false]; omega⟩) hd1 hd2 hd3 hd4 hF_206 hF_207 ⟨b_143, r_144, hbf_145, hF_208, hF_209, by show kend - 0 ≤ 60; omega⟩ ⟨b_172, r_173, hbf_174, hF_210, hF_211, by show 0 ≤ 700; omega⟩, fun _ => enx4 (hk0e c_194) (hs5n c_194) hn1 hq_161⟩⟩⟩, hS.F ht⟩) hS.2.2 dX15_entry_248
                ·
                  have h51 := hs5.resolve_left c_194
                  refine lv_aload_n hx hb dX15_entry_213 rfl (lv_at hl 4 rfl) ?_
                  refine pg_get (ci := 15) (v := .ref va) (C := RX15) (T := TX15) (N := 59) hx hb hts it_15 hown hK hP hL_h0 hF_189 rfl 8 (by decide) (hts _ kt_732) (fun _ h9 => h9) rfl dX15_entry_214 ?_
                  refine lv_aload_n hx hb dX15_entry_217 rfl (lv_at hl 4 rfl) ?_
                  refine pg_get (ci := 15) (v := .int (nI ze)) (C := RX15) (T := TX15) (N := 59) hx hb hts it_15 hown hK hP hL_h0 hF_189 rfl 3 (by decide) (hts _ kt_724) (fun _ h9 => h9) rfl dX15_entry_218 ?_
                  refine pg_aald (r := b_172) hx hb hK hP hi_167 7 hF_193 rfl (vp_in_nI (by omega) (by omega)) (show fv ((nI ze) : Int32).toNatClampNeg = _ from by rw [show ((nI ze) : Int32) = nI ze from rfl, nI_clamp (by omega)]; exact hbf_174) dX15_entry_221 ?_
                  refine lv_aload_n hx hb dX15_entry_222 rfl (lv_at hl 4 rfl) ?_
                  refine pg_get (ci := 15) (v := .ref ta) (C := RX15) (T := TX15) (N := 59) hx hb hts it_15 hown hK hP hL_h0 hF_189 rfl 0 (by decide) (hts _ kt_1009) (fun _ h9 => h9) rfl dX15_entry_223 ?_
                  refine lv_iload hx hb dX15_entry_226 (lv_at hl 2 rfl) ?_
                  refine lv_iconst (v := 1) hx hb dX15_entry_228 (by decide) ?_
                  refine lv_iadd hx hb dX15_entry_229 ?_
                  refine lv_topi (fun x_241 ex_241 => ?_)
                  obtain rfl : x_241 = (nI (j + 1)) := ex_241.trans (nI_add j 1)
                  refine lv_iload_n hx hb dX15_entry_230 rfl (lv_at hl 3 rfl) ?_
                  have hFc := pg_free hD hS hA
                  refine va_callv (va_runV (As := [.ref ta, .int (nI (j + 1)), .int (nI zt)]) (rest := []) ⟨hx, hb, hml, hown, hts⟩ (s_X14_set_e l dC dI cs ty gm L H.size F_183 b_172 (ρ + 50 + ze + 100) r_173 700 ta (ρ + 1) 3000 (j + 1) zt gt hW hi_175 ht_176 hi_80 ht_81 hF_188 (by have h9 := hn2 h51; omega) (by omega) (by have h9 := (ho1 h51).2; omega)) ⟨callB_of 3 hts (gi kt_951) rfl rfl rfl (hts _ kt_676) (hts _ kt_952) (by decide +kernel) ⟨Nat.le_of_ble_eq_true rfl, Nat.le_of_ble_eq_true rfl⟩, (hts _ kt_953), (hts _ kt_954)⟩ ⟨fun a U g mk q => ⟨q.1, PTm.calling q.2⟩, pg_recv hK hP hi_175 hF_185 (q := (RX14, TX14, 2)) rfl, fun U hU hWm => ⟨rfl, PTm.mk hU hWm hP hK hD hE hO⟩⟩ rfl rfl hl.1 rfl (lv_room (Nat.le_of_ble_eq_true rfl)) dX15_entry_231 ⟨by show _ + 0 ≤ 0; omega, by show _ + 0 ≤ 0; omega⟩) hS (fun q _ h => hFc q h) hFc (fun u t H1 locs ht hvm hw hB hz1 hk1 hS => ?_)
                  obtain ⟨F_243, fc_244, hB1, hq_245, hq_246, hq_247⟩ := hB
                  obtain ⟨hP, hD, hO, hR⟩ := QTm.back hB1 ht hFc hR (fun q h => by simp only [List.mem_cons, List.not_mem_nil, or_false] at h ⊢; omega)
                  have hF_248 : F_243 ad = .inl (cs 16, 40, .inl (upd fd ze x2)) := (hB1.2.2.2 ad (by rw [ht_87]; simp only [List.mem_cons, List.not_mem_nil, or_false]; omega)).trans hF_186
                  have hF_249 : F_243 so = .inl (cs 16, 40, .inl (upd fs ze x1)) := (hB1.2.2.2 so (by rw [ht_84]; simp only [List.mem_cons, List.not_mem_nil, or_false]; omega)).trans hF_187
                  have hF_250 : F_243 ta = .inl (cs 17, 3000, .inl gt) := (hB1.2.2.2 ta (by rw [ht_81]; simp only [List.mem_cons, List.not_mem_nil, or_false]; omega)).trans hF_188
                  have hF_251 : F_243 h0 = .inr (15, (.ref ta) :: (.int 0) :: (.int (nI zo_29)) :: (.int (nI ze)) :: (.ref ou) :: (.ref so) :: (.ref ad) :: (.ref na) :: (.ref va) :: (.ref lc) :: (.ref dm) :: (.int (nI fm)) :: (.int (nI sn)) :: (.ref tg) :: (.int v14_30) :: (.int v15_31) :: (.ref pe) :: (.int v17_32) :: (.int v18_33) :: (.int v19_34) :: (.int v20_35) :: (.int v21_36) :: (.int v22_37) :: (.ref ml) :: (.ref bg) :: (.ref co) :: (.ref sp) :: (.ref nb0) :: (.ref nb1) :: (.ref nb2) :: (.int (nI nf)) :: (.int (nI bd)) :: (.int (nI mm)) :: (.int v33_38) :: (.ref pl) :: (.ref se) :: (.ref ke) :: (.ref wi) :: (.ref hs) :: (.ref mo) :: (.ref po) :: (.ref nu) :: (.ref pr) :: (.ref sq) :: (.ref xa) :: (.ref sa) :: (.ref n64) :: (.ref m64) :: (.ref ex) :: (.ref wh) :: (.ref sd) :: (.ref tk) :: (.int v52_39) :: (.int v53_40) :: (.int v54_41) :: (.ref hd) :: (.ref ak) :: (.ref ho) :: (.ref ot) :: []) := (hB1.2.2.2 h0 (by rw [hT_h0]; simp only [List.mem_cons, List.not_mem_nil, or_false]; omega)).trans hF_189
                  have hF_252 : F_243 na = .inl (cs 23, 40, .inr (.inr (.inr (.inr fn)))) := (hB1.2.2.2 na (by rw [ht_139]; simp only [List.mem_cons, List.not_mem_nil, or_false]; omega)).trans hF_190
                  have hF_253 : F_243 b_143 = .inr (14, [.ref r_144, .int (nI (kend - 0))]) := (hB1.2.2.2 b_143 (by rw [ht_147]; simp only [List.mem_cons, List.not_mem_nil, or_false]; omega)).trans hF_191
                  have hF_254 : F_243 r_144 = .inl (cs 17, 60, .inl fc_158) := (hB1.2.2.2 r_144 (by rw [ht_149]; simp only [List.mem_cons, List.not_mem_nil, or_false]; omega)).trans hF_192
                  have hF_255 : F_243 va = .inl (cs 23, 40, .inr (.inr (.inr (.inr fv)))) := (hB1.2.2.2 va (by rw [ht_168]; simp only [List.mem_cons, List.not_mem_nil, or_false]; omega)).trans hF_193
                  generalize H1 = H at hP hS ⊢
                  refine lv_aload_n hx hb dX15_entry_234 rfl (lv_at hl 4 rfl) ?_
                  refine lv_dup hx hb dX15_entry_235 rfl ?_
                  refine pg_get (ci := 15) (v := .int (nI ze)) (C := RX15) (T := TX15) (N := 59) hx hb hts it_15 hown hK hP hL_h0 hF_251 rfl 3 (by decide) (hts _ kt_724) (fun _ h9 => h9) rfl dX15_entry_236 ?_
                  refine lv_iconst (v := 1) hx hb dX15_entry_239 (by decide) ?_
                  refine lv_iadd hx hb dX15_entry_240 ?_
                  refine lv_topi (fun x_256 ex_256 => ?_)
                  obtain rfl : x_256 = (nI (ze + 1)) := ex_256.trans (nI_add ze 1)
                  have htyU := hty
                  have hTU := hT_h0
                  obtain ⟨hq_257, hq_258⟩ := hW.octs hi_148 ht_149
                  obtain ⟨hq_259, hq_260⟩ := hW.octs hi_177 ht_178
                  refine pg_put (ci := 15) (v := .int (nI (ze + 1))) (ty := .int) (C := RX15) (T := TX15) (N := 59) hx hb hts it_15 tyX15 tyX15_ok nmX15 hown hK hP hD hS hL_h0 hF_251 rfl 3 (by decide) (hts _ kt_724) (fun _ h9 => h9) rfl (by decide +kernel) (rfl) (rfl) (Nat.le_of_ble_eq_true rfl) dX15_entry_241 (fun H locs hP hD hS => ?_)
                  obtain ⟨F_261, he_262, hP, hD, hR⟩ : ∃ G, G = va_up F_243 h0 (.inr (15, (.ref ta) :: (.int 0) :: (.int (nI zo_29)) :: (.int (nI (ze + 1))) :: (.ref ou) :: (.ref so) :: (.ref ad) :: (.ref na) :: (.ref va) :: (.ref lc) :: (.ref dm) :: (.int (nI fm)) :: (.int (nI sn)) :: (.ref tg) :: (.int v14_30) :: (.int v15_31) :: (.ref pe) :: (.int v17_32) :: (.int v18_33) :: (.int v19_34) :: (.int v20_35) :: (.int v21_36) :: (.int v22_37) :: (.ref ml) :: (.ref bg) :: (.ref co) :: (.ref sp) :: (.ref nb0) :: (.ref nb1) :: (.ref nb2) :: (.int (nI nf)) :: (.int (nI bd)) :: (.int (nI mm)) :: (.int v33_38) :: (.ref pl) :: (.ref se) :: (.ref ke) :: (.ref wi) :: (.ref hs) :: (.ref mo) :: (.ref po) :: (.ref nu) :: (.ref pr) :: (.ref sq) :: (.ref xa) :: (.ref sa) :: (.ref n64) :: (.ref m64) :: (.ref ex) :: (.ref wh) :: (.ref sd) :: (.ref tk) :: (.int v52_39) :: (.int v53_40) :: (.int v54_41) :: (.ref hd) :: (.ref ak) :: (.ref ho) :: (.ref ot) :: [])) ∧ va_P (dC, dI) vwCl (va_pl L G) H ∧ va_D A (va_pl L G) ∧ FR ty [ρ, ρ + 3, ρ + 31, ρ + 4 + ze + 100, ρ + 50 + ze + 100] F G := ⟨_, rfl, hP, hD, hR.up hT_h0 (by simp)⟩
                  have hF_263 : F_261 ta = .inl (cs 17, 3000, .inl gt) := by rw [he_262, up_ne (ne_ty ht_81 hT_h0 (by simp))]; exact hF_250
                  have hF_264 : F_261 so = .inl (cs 16, 40, .inl (upd fs ze x1)) := by rw [he_262, up_ne (ne_ty ht_84 hT_h0 (by simp))]; exact hF_249
                  have hF_265 : F_261 ad = .inl (cs 16, 40, .inl (upd fd ze x2)) := by rw [he_262, up_ne (ne_ty ht_87 hT_h0 (by simp))]; exact hF_248
                  have hF_266 : F_261 b_143 = .inr (14, [.ref r_144, .int (nI (kend - 0))]) := by rw [he_262, up_ne (ne_ty ht_147 hT_h0 (by simp))]; exact hF_253
                  have hF_267 : F_261 r_144 = .inl (cs 17, 60, .inl fc_158) := by rw [he_262, up_ne (ne_ty ht_149 hT_h0 (by simp))]; exact hF_254
                  have hF_268 : F_261 b_172 = .inr (14, [.ref r_173, .int (nI (zt - (j + 1)))]) := by rw [he_262, up_ne (ne_ty ht_176 hT_h0 (by simp))]; exact hq_245
                  have hF_269 : F_261 r_173 = .inl (cs 17, 700, .inl fc_244) := by rw [he_262, up_ne (ne_ty ht_178 hT_h0 (by simp))]; exact hq_246
                  obtain ⟨ty, hty, hT_h0, hW, hO, hR⟩ : ∃ t9 : TyM, t9 = rtf ty h0 (15, ρ, [ta, ou, so, ad, na, va, lc, dm, tg, pe, ml, bg, co, sp, nb0, nb1, nb2, pl, se, ke, wi, hs, mo, po, nu, pr, sq, xa, sa, n64, m64, ex, wh, sd, tk, hd, ak, ho, ot, sx, s0, s1, s2, nf, bd, mm, fm, sn, hg, gc, gv, (ze + 1), 0]) ∧ t9 h0 = (15, ρ, [ta, ou, so, ad, na, va, lc, dm, tg, pe, ml, bg, co, sp, nb0, nb1, nb2, pl, se, ke, wi, hs, mo, po, nu, pr, sq, xa, sa, n64, m64, ex, wh, sd, tk, hd, ak, ho, ot, sx, s0, s1, s2, nf, bd, mm, fm, sn, hg, gc, gv, (ze + 1), 0]) ∧ WTm t9 gm L ∧ OKm cs t9 gm L F_261 ∧ FR t9 [ρ, ρ + 3, ρ + 31, ρ + 4 + ze + 100, ρ + 50 + ze + 100] F F_261 := ⟨_, rfl, rtf_self, hW.ze hL_h0 hT_h0, (by rw [he_262]; exact OKm.retype hO hT_h0 (shm.mod rtf_self ⟨zo_29, v14_30, v15_31, v17_32, v18_33, v19_34, v20_35, v21_36, v22_37, v33_38, v52_39, v53_40, v54_41, rfl, (by first | omega | assumption | exact Or.inl rfl | exact Or.inr rfl), (by first | omega | assumption | exact Or.inl rfl | exact Or.inr rfl), (by first | omega | assumption | exact Or.inl rfl | exact Or.inr rfl), (by first | omega | assumption | exact Or.inl rfl | exact Or.inr rfl), (by first | omega | assumption | exact Or.inl rfl | exact Or.inr rfl)⟩)), FR.retype hT_h0 hR⟩
                  have hF_270 : F_261 h0 = .inr (15, (.ref ta) :: (.int 0) :: (.int (nI zo_29)) :: (.int (nI (ze + 1))) :: (.ref ou) :: (.ref so) :: (.ref ad) :: (.ref na) :: (.ref va) :: (.ref lc) :: (.ref dm) :: (.int (nI fm)) :: (.int (nI sn)) :: (.ref tg) :: (.int v14_30) :: (.int v15_31) :: (.ref pe) :: (.int v17_32) :: (.int v18_33) :: (.int v19_34) :: (.int v20_35) :: (.int v21_36) :: (.int v22_37) :: (.ref ml) :: (.ref bg) :: (.ref co) :: (.ref sp) :: (.ref nb0) :: (.ref nb1) :: (.ref nb2) :: (.int (nI nf)) :: (.int (nI bd)) :: (.int (nI mm)) :: (.int v33_38) :: (.ref pl) :: (.ref se) :: (.ref ke) :: (.ref wi) :: (.ref hs) :: (.ref mo) :: (.ref po) :: (.ref nu) :: (.ref pr) :: (.ref sq) :: (.ref xa) :: (.ref sa) :: (.ref n64) :: (.ref m64) :: (.ref ex) :: (.ref wh) :: (.ref sd) :: (.ref tk) :: (.int v52_39) :: (.int v53_40) :: (.int v54_41) :: (.ref hd) :: (.ref ak) :: (.ref ho) :: (.ref ot) :: []) := by rw [he_262]; exact up_self
                  obtain ⟨hq_293, hq_294, hq_295, hq_296, hq_297, hgO, hgA, hgB, hq_298⟩ := hW.sc hL_h0 hT_h0
                  refine lv_aload_n hx hb dX15_entry_244 rfl (lv_at hl 4 rfl) ?_
                  refine pg_get (ci := 15) (v := .int (nI (ze + 1))) (C := RX15) (T := TX15) (N := 59) hx hb hts it_15 hown hK hP hL_h0 hF_270 rfl 3 (by decide) (hts _ kt_724) (fun _ h9 => h9) rfl dX15_entry_245 ?_
                  refine W.widen (k := 0) (n := 0) (by omega) (by omega) ?_
                  have hR0 := FR.unre hT00 htyU (FR.unre hTU hty hR)
                  have hQna := hR0 na (by rw [hTn0]; simp only [List.mem_cons, List.not_mem_nil, or_false]; omega)
                  have hQva := hR0 va (by rw [hTv0]; simp only [List.mem_cons, List.not_mem_nil, or_false]; omega)
                  exact W.iret (v := (nI (ze + 1))) hx hb hr (fun t ht hWm => ⟨⟨(nI (ze + 1)), (ze + 1), rfl, (Or.inr (Or.inr ⟨hc40, hs5.elim (fun h => val_y1 hx0 hx4 (hs5n h) (by rw [← hk0e h]; exact hn1)) (fun h => val_y2 hx0 hx4 (hs5x h) (hfst h) (by rw [← hk1e h]; exact hn1) (ho1 h).1), rfl, rfl⟩)), ⟨F_261, ty, (by rw [hty, htyU, rtf_rtf2]), QTm.mk ht hP hD hO hR, hW, ⟨(x1, x2, kend - 0, fc_158, zt - (j + 1), fc_244), DIRM.add hDM hO0 hW0 hLn0 hTn0 hLv0 hTv0 (by omega) hR0 hQna hQva (fun k hk => ⟨by simp only [List.mem_cons, List.not_mem_nil, or_false]; omega, by simp only [List.mem_cons, List.not_mem_nil, or_false]; omega⟩) hd1 hd2 hd3 hd4 hF_264 hF_265 ⟨b_143, r_144, hbf_145, hF_266, hF_267, by show kend - 0 ≤ 60; omega⟩ ⟨b_172, r_173, hbf_174, hF_268, hF_269, by show zt - (j + 1) ≤ 700; have h9 := (ho1 h51).2; omega⟩, fun _ => enx3 (hk1e h51) (hs5x h51) (hfst h51) hn1 (ho1 h51).1 hq_161 hq_247⟩⟩⟩, hS.F ht⟩) hS.2.2 dX15_entry_248
              ·
                refine lv_iload_n hx hb dX15_entry_118 rfl (lv_at hl 5 rfl) ?_
                refine lv_iconst (v := 2) hx hb dX15_entry_119 (by decide) ?_
                refine lv_icmp_ne (tgt := 138) hx hb dX15_entry_120 (by decide) (fun c_299 => ?_) (fun c_299 => ?_)
                ·
                  refine lv_iload_n hx hb dX15_entry_138 rfl (lv_at hl 5 rfl) ?_
                  refine lv_if_ne (tgt := 156) hx hb dX15_entry_139 (by decide) (fun c_300 => ?_) (fun c_300 => ?_)
                  ·
                    refine W.widen (k := 0) (n := 0) (by omega) (by omega) ?_
                    exact jn_119 () F_115 (⟨fun h => absurd (hs5x h) (fun q => q.elim c_300 c_299), hn3, hn3so, hn3ad⟩) hO hR _ _ hP hD hS ls (lv_sub hl [0, 1, 2, 3, 4, 5, 6] rfl)
                  ·
                    have h51 : s5 = 1 := hs5.resolve_left (fun q => hs5n q (Or.inl c_300))
                    have hkz := hn2 h51
                    refine lv_iload_n hx hb dX15_entry_142 rfl (lv_at hl 3 rfl) ?_
                    refine lv_iload hx hb dX15_entry_143 (lv_at hl 2 rfl) ?_
                    refine lv_isub hx hb dX15_entry_145 ?_
                    refine lv_topi (fun x_301 ex_301 => ?_)
                    obtain rfl : x_301 = (nI (zt - j)) := ex_301.trans (pk_sub (a := zt) (b := j) (by omega))
                    refine lv_iconst (v := 1) hx hb dX15_entry_146 (by decide) ?_
                    refine lv_isub hx hb dX15_entry_147 ?_
                    refine lv_topi (fun x_302 ex_302 => ?_)
                    obtain rfl : x_302 = (nI ((zt - j) - 1)) := ex_302.trans (pk_sub (a := (zt - j)) (b := 1) (by omega))
                    refine lv_sipush (v := 700) hx hb dX15_entry_148 (by decide) ?_
                    refine lv_icmp_le (tgt := 156) hx hb dX15_entry_151 (by decide) (fun c_303 => ?_) (fun c_303 => ?_)
                    ·
                      have hi_304 : ((zt - j) - 1) ≤ 700 := (nI_leI (a := ((zt - j) - 1)) (b := 700) (by omega) (by omega)).mp c_303
                      refine W.widen (k := 0) (n := 0) (by omega) (by omega) ?_
                      exact jn_119 () F_115 (⟨fun _ => ⟨⟨by omega, fun q => absurd (q.symm.trans c_300) (by decide), fun _ => by omega⟩, by omega⟩, hn3, hn3so, hn3ad⟩) hO hR _ _ hP hD hS ls (lv_sub hl [0, 1, 2, 3, 4, 5, 6] rfl)
                    ·
                      have hi_305 : 700 < ((zt - j) - 1) := Nat.not_le.mp (fun q => c_303 ((nI_leI (a := ((zt - j) - 1)) (b := 700) (by omega) (by omega)).mpr q))
                      refine lv_iconst (v := (-1)) hx hb dX15_entry_154 (by decide) ?_
                      refine W.widen (k := 0) (n := 0) (by omega) (by omega) ?_
                      have hR0 := FR.unre hT00 hty hR
                      have hQna := hR0 na (by rw [hTn0]; simp only [List.mem_cons, List.not_mem_nil, or_false]; omega)
                      have hQva := hR0 va (by rw [hTv0]; simp only [List.mem_cons, List.not_mem_nil, or_false]; omega)
                      exact W.iret (v := (-1)) hx hb hr (fun t ht hWm => ⟨⟨(-1), ze, rfl, (Or.inr (Or.inl ⟨hc40, val_nv (Or.inl c_300) (hfst h51) (fun q => absurd (q.2.2 (fun w => absurd (w.symm.trans c_300) (by decide))) (by omega)), rfl, rfl⟩)), ⟨F_115, ty, hty, QTm.mk ht hP hD hO hR, hW, ⟨(0, 0, 0, fun _ => 0, 0, fun _ => 0), DIRM.same (DIRM.fr hDM hO0 hW0 hLn0 hTn0 hLv0 hTv0 (by omega) hR0 (hn3so.trans hd1.symm) (hn3ad.trans hd2.symm) hQna hQva (fun k hk => ⟨by simp only [List.mem_cons, List.not_mem_nil, or_false]; omega, by simp only [List.mem_cons, List.not_mem_nil, or_false]; omega⟩)), fun q => absurd q (by omega)⟩⟩⟩, hS.F ht⟩) hS.2.2 dX15_entry_155
                ·
                  have h51 : s5 = 1 := hs5.resolve_left (fun q => hs5n q (Or.inr c_299))
                  have hkz := hn2 h51
                  refine lv_aload_n hx hb dX15_entry_123 rfl (lv_at hl 4 rfl) ?_
                  refine pg_get (ci := 15) (v := .ref ta) (C := RX15) (T := TX15) (N := 59) hx hb hts it_15 hown hK hP hL_h0 hn3 rfl 0 (by decide) (hts _ kt_1009) (fun _ h9 => h9) rfl dX15_entry_124 ?_
                  refine lv_iload hx hb dX15_entry_127 (lv_at hl 2 rfl) ?_
                  refine lv_iconst (v := 1) hx hb dX15_entry_129 (by decide) ?_
                  refine lv_iadd hx hb dX15_entry_130 ?_
                  refine lv_topi (fun x_306 ex_306 => ?_)
                  obtain rfl : x_306 = (nI (j + 1)) := ex_306.trans (nI_add j 1)
                  refine lv_iload_n hx hb dX15_entry_131 rfl (lv_at hl 3 rfl) ?_
                  obtain ⟨hq_307, hq_308⟩ := hW.octs hi_80 ht_81
                  have hFc := pg_free hD hS hA
                  refine va_calli (va_runS (As := [.ref ta, .int (nI (j + 1)), .int (nI zt)]) (rest := []) ⟨hx, hb, hml, hown, hts⟩ (s_X14_isName_e l dC dI cs ty gm L H.size F_115 ta (ρ + 1) 3000 (j + 1) zt gt hW hi_80 ht_81 hF_118 (by first | omega | assumption | exact Or.inl rfl) (by first | omega | assumption | exact Or.inl rfl)) ⟨callB_of 3 hts (gi kt_689) rfl rfl rfl (hts _ kt_676) (hts _ kt_848) (by decide +kernel) ⟨Nat.le_of_ble_eq_true rfl, Nat.le_of_ble_eq_true rfl⟩, (hts _ kt_691)⟩ ⟨fun a U g mk q => ⟨q.1, PTm.calling q.2⟩, fun U hU hWm => ⟨rfl, PTm.mk hU hWm hP hK hD hE hO⟩⟩ rfl rfl hl.1 rfl (lv_room (Nat.le_of_ble_eq_true rfl)) dX15_entry_132 ⟨by show _ + 0 ≤ 0; omega, by show _ + 0 ≤ 0; omega⟩) hS (fun q _ h => hFc q h) hFc (fun r_309 u t H1 locs ht hvm hw hB hz1 hk1 hS => ?_)
                  obtain ⟨F_310, hB1⟩ := hB
                  obtain rfl : F_115 = F_310 := (funext (fun a => hB1.2.2.2 a List.not_mem_nil)).symm
                  obtain ⟨hP, hD, hO, hR⟩ := QTm.back hB1 ht hFc hR (fun q h => absurd h List.not_mem_nil)
                  generalize H1 = H at hP hS ⊢
                  have hw : r_309 = (if NM gt (j + 1) zt = true then 1 else 0) := hw
                  have hw_311 := hw
                  refine lv_if_eq (tgt := 154) hx hb dX15_entry_135 (by decide) (fun c_312 => ?_) (fun c_312 => ?_)
                  ·
                    refine lv_iconst (v := (-1)) hx hb dX15_entry_154 (by decide) ?_
                    refine W.widen (k := 0) (n := 0) (by omega) (by omega) ?_
                    have hR0 := FR.unre hT00 hty hR
                    have hQna := hR0 na (by rw [hTn0]; simp only [List.mem_cons, List.not_mem_nil, or_false]; omega)
                    have hQva := hR0 va (by rw [hTv0]; simp only [List.mem_cons, List.not_mem_nil, or_false]; omega)
                    exact W.iret (v := (-1)) hx hb hr (fun t ht hWm => ⟨⟨(-1), ze, rfl, (Or.inr (Or.inl ⟨hc40, val_nv (Or.inr c_299) (hfst h51) (fun q => ifb0 hw_311 c_312 (q.2.1 c_299)), rfl, rfl⟩)), ⟨F_115, ty, hty, QTm.mk ht hP hD hO hR, hW, ⟨(0, 0, 0, fun _ => 0, 0, fun _ => 0), DIRM.same (DIRM.fr hDM hO0 hW0 hLn0 hTn0 hLv0 hTv0 (by omega) hR0 (hn3so.trans hd1.symm) (hn3ad.trans hd2.symm) hQna hQva (fun k hk => ⟨by simp only [List.mem_cons, List.not_mem_nil, or_false]; omega, by simp only [List.mem_cons, List.not_mem_nil, or_false]; omega⟩)), fun q => absurd q (by omega)⟩⟩⟩, hS.F ht⟩) hS.2.2 dX15_entry_155
                  ·
                    refine lv_iload_n hx hb dX15_entry_138 rfl (lv_at hl 5 rfl) ?_
                    refine lv_if_ne (tgt := 156) hx hb dX15_entry_139 (by decide) (fun c_313 => ?_) (fun c_313 => ?_)
                    ·
                      refine W.widen (k := 0) (n := 0) (by omega) (by omega) ?_
                      exact jn_119 () F_115 (⟨fun _ => ⟨⟨by omega, fun _ => ifb1 hw_311 c_312, fun q => absurd c_299 q⟩, by have h9 := nm_60 (ifb1 hw_311 c_312); omega⟩, hn3, hn3so, hn3ad⟩) hO hR _ _ hP hD hS ls (lv_sub hl [0, 1, 2, 3, 4, 5, 6] rfl)
                    ·
                      have h51 : s5 = 1 := hs5.resolve_left (fun q => hs5n q (Or.inl c_313))
                      have hkz := hn2 h51
                      refine lv_iload_n hx hb dX15_entry_142 rfl (lv_at hl 3 rfl) ?_
                      refine lv_iload hx hb dX15_entry_143 (lv_at hl 2 rfl) ?_
                      refine lv_isub hx hb dX15_entry_145 ?_
                      refine lv_topi (fun x_314 ex_314 => ?_)
                      obtain rfl : x_314 = (nI (zt - j)) := ex_314.trans (pk_sub (a := zt) (b := j) (by omega))
                      refine lv_iconst (v := 1) hx hb dX15_entry_146 (by decide) ?_
                      refine lv_isub hx hb dX15_entry_147 ?_
                      refine lv_topi (fun x_315 ex_315 => ?_)
                      obtain rfl : x_315 = (nI ((zt - j) - 1)) := ex_315.trans (pk_sub (a := (zt - j)) (b := 1) (by omega))
                      refine lv_sipush (v := 700) hx hb dX15_entry_148 (by decide) ?_
                      refine lv_icmp_le (tgt := 156) hx hb dX15_entry_151 (by decide) (fun c_316 => ?_) (fun c_316 => ?_)
                      ·
                        have hi_317 : ((zt - j) - 1) ≤ 700 := (nI_leI (a := ((zt - j) - 1)) (b := 700) (by omega) (by omega)).mp c_316
                        refine W.widen (k := 0) (n := 0) (by omega) (by omega) ?_
                        exact jn_119 () F_115 (⟨fun _ => ⟨⟨by omega, fun q => absurd (q.symm.trans c_313) (by decide), fun _ => by omega⟩, by omega⟩, hn3, hn3so, hn3ad⟩) hO hR _ _ hP hD hS ls (lv_sub hl [0, 1, 2, 3, 4, 5, 6] rfl)
                      ·
                        have hi_318 : 700 < ((zt - j) - 1) := Nat.not_le.mp (fun q => c_316 ((nI_leI (a := ((zt - j) - 1)) (b := 700) (by omega) (by omega)).mpr q))
                        refine lv_iconst (v := (-1)) hx hb dX15_entry_154 (by decide) ?_
                        refine W.widen (k := 0) (n := 0) (by omega) (by omega) ?_
                        have hR0 := FR.unre hT00 hty hR
                        have hQna := hR0 na (by rw [hTn0]; simp only [List.mem_cons, List.not_mem_nil, or_false]; omega)
                        have hQva := hR0 va (by rw [hTv0]; simp only [List.mem_cons, List.not_mem_nil, or_false]; omega)
                        exact W.iret (v := (-1)) hx hb hr (fun t ht hWm => ⟨⟨(-1), ze, rfl, (Or.inr (Or.inl ⟨hc40, val_nv (Or.inl c_313) (hfst h51) (fun q => absurd (q.2.2 (fun w => absurd (w.symm.trans c_313) (by decide))) (by omega)), rfl, rfl⟩)), ⟨F_115, ty, hty, QTm.mk ht hP hD hO hR, hW, ⟨(0, 0, 0, fun _ => 0, 0, fun _ => 0), DIRM.same (DIRM.fr hDM hO0 hW0 hLn0 hTn0 hLv0 hTv0 (by omega) hR0 (hn3so.trans hd1.symm) (hn3ad.trans hd2.symm) hQna hQva (fun k hk => ⟨by simp only [List.mem_cons, List.not_mem_nil, or_false]; omega, by simp only [List.mem_cons, List.not_mem_nil, or_false]; omega⟩)), fun q => absurd q (by omega)⟩⟩⟩, hS.F ht⟩) hS.2.2 dX15_entry_155
            ·
              refine lv_iload hx hb dX15_entry_92 (lv_at hl 1 rfl) ?_
              refine lv_if_eq (tgt := 103) hx hb dX15_entry_94 (by decide) (fun c_319 => ?_) (fun c_319 => ?_)
              ·
                refine lv_aload_n hx hb dX15_entry_103 rfl (lv_at hl 4 rfl) ?_
                refine pg_get (ci := 15) (v := .ref ta) (C := RX15) (T := TX15) (N := 59) hx hb hts it_15 hown hK hP hL_h0 hb2 rfl 0 (by decide) (hts _ kt_1009) (fun _ h9 => h9) rfl dX15_entry_104 ?_
                refine lv_iconst (v := 0) hx hb dX15_entry_107 (by decide) ?_
                refine lv_iload hx hb dX15_entry_108 (lv_at hl 0 rfl) ?_
                refine W.eq (g2 := F0 m 110 ls [.int (nI kend), .int (nI 0), .ref ta]) rfl ?_
                obtain ⟨hq_320, hq_321⟩ := hW.octs hi_80 ht_81
                have hFc := pg_free hD hS hA
                refine va_calli (va_runS (As := [.ref ta, .int (nI 0), .int (nI kend)]) (rest := []) ⟨hx, hb, hml, hown, hts⟩ (s_X14_isName_e l dC dI cs ty gm L H.size F_110 ta (ρ + 1) 3000 0 kend gt hW hi_80 ht_81 hF_113 (by first | omega | assumption | exact Or.inl rfl) (by first | omega | assumption | exact Or.inl rfl)) ⟨callB_of 3 hts (gi kt_689) rfl rfl rfl (hts _ kt_676) (hts _ kt_848) (by decide +kernel) ⟨Nat.le_of_ble_eq_true rfl, Nat.le_of_ble_eq_true rfl⟩, (hts _ kt_691)⟩ ⟨fun a U g mk q => ⟨q.1, PTm.calling q.2⟩, fun U hU hWm => ⟨rfl, PTm.mk hU hWm hP hK hD hE hO⟩⟩ rfl rfl hl.1 rfl (lv_room (Nat.le_of_ble_eq_true rfl)) dX15_entry_110 ⟨by show _ + 0 ≤ 0; omega, by show _ + 0 ≤ 0; omega⟩) hS (fun q _ h => hFc q h) hFc (fun r_322 u t H1 locs ht hvm hw hB hz1 hk1 hS => ?_)
                obtain ⟨F_323, hB1⟩ := hB
                obtain rfl : F_110 = F_323 := (funext (fun a => hB1.2.2.2 a List.not_mem_nil)).symm
                obtain ⟨hP, hD, hO, hR⟩ := QTm.back hB1 ht hFc hR (fun q h => absurd h List.not_mem_nil)
                generalize H1 = H at hP hS ⊢
                have hw : r_322 = (if NM gt 0 kend = true then 1 else 0) := hw
                have hw_324 := hw
                refine lv_if_ne (tgt := 118) hx hb dX15_entry_113 (by decide) (fun c_325 => ?_) (fun c_325 => ?_)
                ·
                  refine W.widen (k := 0) (n := 0) (by omega) (by omega) ?_
                  exact jn_114 () F_110 (⟨ifb1 hw_324 c_325, nm_60 (ifb1 hw_324 c_325), fun h => absurd (h.symm.trans c_319) (by decide), hb2, hb2so, hb2ad⟩) hO hR _ _ hP hD hS ls (lv_sub hl [0, 1, 2, 3, 4, 5, 6] rfl)
                ·
                  refine lv_iconst (v := (-1)) hx hb dX15_entry_116 (by decide) ?_
                  refine W.widen (k := 0) (n := 0) (by omega) (by omega) ?_
                  have hR0 := FR.unre hT00 hty hR
                  have hQna := hR0 na (by rw [hTn0]; simp only [List.mem_cons, List.not_mem_nil, or_false]; omega)
                  have hQva := hR0 va (by rw [hTv0]; simp only [List.mem_cons, List.not_mem_nil, or_false]; omega)
                  exact W.iret (v := (-1)) hx hb hr (fun t ht hWm => ⟨⟨(-1), ze, rfl, (Or.inr (Or.inl ⟨hc40, val_nz (hs5n c_319) (by rw [← hk0e c_319]; exact (ifb0 hw_324 c_325)), rfl, rfl⟩)), ⟨F_110, ty, hty, QTm.mk ht hP hD hO hR, hW, ⟨(0, 0, 0, fun _ => 0, 0, fun _ => 0), DIRM.same (DIRM.fr hDM hO0 hW0 hLn0 hTn0 hLv0 hTv0 (by omega) hR0 (hb2so.trans hd1.symm) (hb2ad.trans hd2.symm) hQna hQva (fun k hk => ⟨by simp only [List.mem_cons, List.not_mem_nil, or_false]; omega, by simp only [List.mem_cons, List.not_mem_nil, or_false]; omega⟩)), fun q => absurd q (by omega)⟩⟩⟩, hS.F ht⟩) hS.2.2 dX15_entry_117
              ·
                refine lv_iload hx hb dX15_entry_97 (lv_at hl 2 rfl) ?_
                refine lv_iload_n hx hb dX15_entry_99 rfl (lv_at hl 3 rfl) ?_
                refine lv_icmp_eq (tgt := 116) hx hb dX15_entry_100 (by decide) (fun c_326 => ?_) (fun c_326 => ?_)
                ·
                  have hi_327 : j = zt := (nI_eq (a := j) (b := zt) (by omega) (by omega)).mp c_326
                  refine lv_iconst (v := (-1)) hx hb dX15_entry_116 (by decide) ?_
                  refine W.widen (k := 0) (n := 0) (by omega) (by omega) ?_
                  have hR0 := FR.unre hT00 hty hR
                  have hQna := hR0 na (by rw [hTn0]; simp only [List.mem_cons, List.not_mem_nil, or_false]; omega)
                  have hQva := hR0 va (by rw [hTv0]; simp only [List.mem_cons, List.not_mem_nil, or_false]; omega)
                  exact W.iret (v := (-1)) hx hb hr (fun t ht hWm => ⟨⟨(-1), ze, rfl, (Or.inr (Or.inl ⟨hc40, val_nv (hs5x (hs5.resolve_left c_319)) (hfst (hs5.resolve_left c_319)) (fun q => q.1 (by omega)), rfl, rfl⟩)), ⟨F_110, ty, hty, QTm.mk ht hP hD hO hR, hW, ⟨(0, 0, 0, fun _ => 0, 0, fun _ => 0), DIRM.same (DIRM.fr hDM hO0 hW0 hLn0 hTn0 hLv0 hTv0 (by omega) hR0 (hb2so.trans hd1.symm) (hb2ad.trans hd2.symm) hQna hQva (fun k hk => ⟨by simp only [List.mem_cons, List.not_mem_nil, or_false]; omega, by simp only [List.mem_cons, List.not_mem_nil, or_false]; omega⟩)), fun q => absurd q (by omega)⟩⟩⟩, hS.F ht⟩) hS.2.2 dX15_entry_117
                ·
                  have hi_328 : j ≠ zt := fun q => c_326 (by rw [q])
                  refine lv_aload_n hx hb dX15_entry_103 rfl (lv_at hl 4 rfl) ?_
                  refine pg_get (ci := 15) (v := .ref ta) (C := RX15) (T := TX15) (N := 59) hx hb hts it_15 hown hK hP hL_h0 hb2 rfl 0 (by decide) (hts _ kt_1009) (fun _ h9 => h9) rfl dX15_entry_104 ?_
                  refine lv_iconst (v := 0) hx hb dX15_entry_107 (by decide) ?_
                  refine lv_iload hx hb dX15_entry_108 (lv_at hl 0 rfl) ?_
                  refine W.eq (g2 := F0 m 110 ls [.int (nI kend), .int (nI 0), .ref ta]) rfl ?_
                  obtain ⟨hq_329, hq_330⟩ := hW.octs hi_80 ht_81
                  have hFc := pg_free hD hS hA
                  refine va_calli (va_runS (As := [.ref ta, .int (nI 0), .int (nI kend)]) (rest := []) ⟨hx, hb, hml, hown, hts⟩ (s_X14_isName_e l dC dI cs ty gm L H.size F_110 ta (ρ + 1) 3000 0 kend gt hW hi_80 ht_81 hF_113 (by first | omega | assumption | exact Or.inl rfl) (by first | omega | assumption | exact Or.inl rfl)) ⟨callB_of 3 hts (gi kt_689) rfl rfl rfl (hts _ kt_676) (hts _ kt_848) (by decide +kernel) ⟨Nat.le_of_ble_eq_true rfl, Nat.le_of_ble_eq_true rfl⟩, (hts _ kt_691)⟩ ⟨fun a U g mk q => ⟨q.1, PTm.calling q.2⟩, fun U hU hWm => ⟨rfl, PTm.mk hU hWm hP hK hD hE hO⟩⟩ rfl rfl hl.1 rfl (lv_room (Nat.le_of_ble_eq_true rfl)) dX15_entry_110 ⟨by show _ + 0 ≤ 0; omega, by show _ + 0 ≤ 0; omega⟩) hS (fun q _ h => hFc q h) hFc (fun r_331 u t H1 locs ht hvm hw hB hz1 hk1 hS => ?_)
                  obtain ⟨F_332, hB1⟩ := hB
                  obtain rfl : F_110 = F_332 := (funext (fun a => hB1.2.2.2 a List.not_mem_nil)).symm
                  obtain ⟨hP, hD, hO, hR⟩ := QTm.back hB1 ht hFc hR (fun q h => absurd h List.not_mem_nil)
                  generalize H1 = H at hP hS ⊢
                  have hw : r_331 = (if NM gt 0 kend = true then 1 else 0) := hw
                  have hw_333 := hw
                  refine lv_if_ne (tgt := 118) hx hb dX15_entry_113 (by decide) (fun c_334 => ?_) (fun c_334 => ?_)
                  ·
                    refine W.widen (k := 0) (n := 0) (by omega) (by omega) ?_
                    exact jn_114 () F_110 (⟨ifb1 hw_333 c_334, nm_60 (ifb1 hw_333 c_334), fun _ => by omega, hb2, hb2so, hb2ad⟩) hO hR _ _ hP hD hS ls (lv_sub hl [0, 1, 2, 3, 4, 5, 6] rfl)
                  ·
                    refine lv_iconst (v := (-1)) hx hb dX15_entry_116 (by decide) ?_
                    refine W.widen (k := 0) (n := 0) (by omega) (by omega) ?_
                    have hR0 := FR.unre hT00 hty hR
                    have hQna := hR0 na (by rw [hTn0]; simp only [List.mem_cons, List.not_mem_nil, or_false]; omega)
                    have hQva := hR0 va (by rw [hTv0]; simp only [List.mem_cons, List.not_mem_nil, or_false]; omega)
                    exact W.iret (v := (-1)) hx hb hr (fun t ht hWm => ⟨⟨(-1), ze, rfl, (Or.inr (Or.inl ⟨hc40, val_nn (hs5x (hs5.resolve_left c_319)) (hfst (hs5.resolve_left c_319)) (by rw [← hk1e (hs5.resolve_left c_319)]; exact (ifb0 hw_333 c_334)), rfl, rfl⟩)), ⟨F_110, ty, hty, QTm.mk ht hP hD hO hR, hW, ⟨(0, 0, 0, fun _ => 0, 0, fun _ => 0), DIRM.same (DIRM.fr hDM hO0 hW0 hLn0 hTn0 hLv0 hTv0 (by omega) hR0 (hb2so.trans hd1.symm) (hb2ad.trans hd2.symm) hQna hQva (fun k hk => ⟨by simp only [List.mem_cons, List.not_mem_nil, or_false]; omega, by simp only [List.mem_cons, List.not_mem_nil, or_false]; omega⟩)), fun q => absurd q (by omega)⟩⟩⟩, hS.F ht⟩) hS.2.2 dX15_entry_117
          ·
            refine lv_iload hx hb dX15_entry_79 (lv_at hl 0 rfl) ?_
            refine lv_if_eq (tgt := 89) hx hb dX15_entry_81 (by decide) (fun c_335 => ?_) (fun c_335 => ?_)
            ·
              refine lv_iload_n hx hb dX15_entry_89 rfl (lv_at hl 2 rfl) ?_
              refine W.widen (k := 0) (n := 0) (by omega) (by omega) ?_
              exact jn_109 (nI zt) F_103 (⟨⟨zt, Nat.le_refl _, rfl, fun h => absurd (h.symm.trans c_335) (by decide), fun _ => rfl⟩, ha2, ha2so, ha2ad⟩) hO hR _ _ hP hD hS ls (lv_sub hl [0, 1, 2, 3, 4, 5] rfl)
            ·
              refine lv_iload hx hb dX15_entry_84 (lv_at hl 1 rfl) ?_
              refine lv_goto (tgt := 90) hx hb dX15_entry_86 (by decide) ?_
              refine W.widen (k := 0) (n := 0) (by omega) (by omega) ?_
              exact jn_109 (nI j) F_103 (⟨⟨j, by omega, rfl, fun _ => rfl, fun h => absurd h c_335⟩, ha2, ha2so, ha2ad⟩) hO hR _ _ hP hD hS ls (lv_sub hl [0, 1, 2, 3, 4, 5] rfl)
        ·
          refine lv_iload hx hb dX15_entry_55 (lv_at hl 1 rfl) ?_
          refine lv_iload_n hx hb dX15_entry_57 rfl (lv_at hl 2 rfl) ?_
          refine lv_icmp_ge (tgt := 79) hx hb dX15_entry_58 (by decide) (fun c_336 => ?_) (fun c_336 => ?_)
          ·
            have hi_337 : zt ≤ j := leN (N := zt) c_336
            have hfst : s5 = 1 → FST gt 32 zt j := fun _ => ⟨by omega, ha3, Or.inl (by omega)⟩
            have hF_340 : F ta = .inl (cs 17, 3000, .inl gt) := (hR ta (by rw [ht_81]; simp only [List.mem_cons, List.not_mem_nil, or_false]; omega)).symm.trans hF_107
            refine W.widen (k := 0) (n := 0) (by omega) (by omega) ?_
            refine pl_cutm (σ := Int32) A (dC, dI) cs ty gm L [ρ, ρ + 3, ρ + 31, ρ + 4 + ze + 100, ρ + 50 + ze + 100] F 90 7 (fun s6 => [(5, .int s5), (4, .int (nI j)), (3, .int (nI zt)), (0, .ref h0), (1, .int x1), (2, .int x2)]) (fun s6 => [.int s6]) (fun s6 FF => (∃ k : Nat, k ≤ zt ∧ s6 = nI k ∧ (s5 = 1 → k = j) ∧ (s5 = 0 → k = zt)) ∧ FF h0 = .inr (15, (.ref ta) :: (.int 0) :: (.int (nI zo_29)) :: (.int (nI ze)) :: (.ref ou) :: (.ref so) :: (.ref ad) :: (.ref na) :: (.ref va) :: (.ref lc) :: (.ref dm) :: (.int (nI fm)) :: (.int (nI sn)) :: (.ref tg) :: (.int v14_30) :: (.int v15_31) :: (.ref pe) :: (.int v17_32) :: (.int v18_33) :: (.int v19_34) :: (.int v20_35) :: (.int v21_36) :: (.int v22_37) :: (.ref ml) :: (.ref bg) :: (.ref co) :: (.ref sp) :: (.ref nb0) :: (.ref nb1) :: (.ref nb2) :: (.int (nI nf)) :: (.int (nI bd)) :: (.int (nI mm)) :: (.int v33_38) :: (.ref pl) :: (.ref se) :: (.ref ke) :: (.ref wi) :: (.ref hs) :: (.ref mo) :: (.ref po) :: (.ref nu) :: (.ref pr) :: (.ref sq) :: (.ref xa) :: (.ref sa) :: (.ref n64) :: (.ref m64) :: (.ref ex) :: (.ref wh) :: (.ref sd) :: (.ref tk) :: (.int v52_39) :: (.int v53_40) :: (.int v54_41) :: (.ref hd) :: (.ref ak) :: (.ref ho) :: (.ref ot) :: []) ∧ FF so = .inl (cs 16, 40, .inl fs) ∧ FF ad = .inl (cs 16, 40, .inl fd)) ?_ (fun jn_338 => ?_)
            ·
              rintro s6 F_339 hv_341 hO hR H locs hP hD hS ls hl
              have hl : lv_has ls 7 [(5, .int s5), (4, .int (nI j)), (3, .int (nI zt)), (0, .ref h0), (1, .int x1), (2, .int x2)] := hl
              have hv_341 : (∃ k : Nat, k ≤ zt ∧ s6 = nI k ∧ (s5 = 1 → k = j) ∧ (s5 = 0 → k = zt)) ∧ F_339 h0 = .inr (15, (.ref ta) :: (.int 0) :: (.int (nI zo_29)) :: (.int (nI ze)) :: (.ref ou) :: (.ref so) :: (.ref ad) :: (.ref na) :: (.ref va) :: (.ref lc) :: (.ref dm) :: (.int (nI fm)) :: (.int (nI sn)) :: (.ref tg) :: (.int v14_30) :: (.int v15_31) :: (.ref pe) :: (.int v17_32) :: (.int v18_33) :: (.int v19_34) :: (.int v20_35) :: (.int v21_36) :: (.int v22_37) :: (.ref ml) :: (.ref bg) :: (.ref co) :: (.ref sp) :: (.ref nb0) :: (.ref nb1) :: (.ref nb2) :: (.int (nI nf)) :: (.int (nI bd)) :: (.int (nI mm)) :: (.int v33_38) :: (.ref pl) :: (.ref se) :: (.ref ke) :: (.ref wi) :: (.ref hs) :: (.ref mo) :: (.ref po) :: (.ref nu) :: (.ref pr) :: (.ref sq) :: (.ref xa) :: (.ref sa) :: (.ref n64) :: (.ref m64) :: (.ref ex) :: (.ref wh) :: (.ref sd) :: (.ref tk) :: (.int v52_39) :: (.int v53_40) :: (.int v54_41) :: (.ref hd) :: (.ref ak) :: (.ref ho) :: (.ref ot) :: []) ∧ F_339 so = .inl (cs 16, 40, .inl fs) ∧ F_339 ad = .inl (cs 16, 40, .inl fd) := hv_341
              refine W.eq (g2 := F0 m 90 ls [.int s6]) rfl ?_
              have hF_342 : F_339 ta = .inl (cs 17, 3000, .inl gt) := (hR ta (by rw [ht_81]; simp only [List.mem_cons, List.not_mem_nil, or_false]; omega)).trans hF_340
              obtain ⟨⟨kend, hke, eke, hk1e, hk0e⟩, hb2⟩ := hv_341
              subst eke
              refine W.eq (g2 := F0 m 90 ls [.int (nI kend)]) rfl ?_
              obtain ⟨hb2, hb2so, hb2ad⟩ := hb2
              refine lv_istore (lv' := [(6, .int (nI kend)), (5, .int s5), (4, .int (nI j)), (3, .int (nI zt)), (0, .ref h0), (1, .int x1), (2, .int x2)]) hx hb dX15_entry_90 hl (by decide) rfl (fun ls hl => ?_)
              have hF_345 : F ta = .inl (cs 17, 3000, .inl gt) := (hR ta (by rw [ht_81]; simp only [List.mem_cons, List.not_mem_nil, or_false]; omega)).symm.trans hF_342
              refine W.widen (k := 0) (n := 0) (by omega) (by omega) ?_
              refine pl_cutm (σ := Unit) A (dC, dI) cs ty gm L [ρ, ρ + 3, ρ + 31, ρ + 4 + ze + 100, ρ + 50 + ze + 100] F 118 7 (fun u0 => [(6, .int (nI kend)), (5, .int s5), (4, .int (nI j)), (3, .int (nI zt)), (0, .ref h0), (1, .int x1), (2, .int x2)]) (fun u0 => []) (fun u0 FF => NM gt 0 kend = true ∧ kend ≤ 60 ∧ (s5 = 1 → j < zt) ∧ FF h0 = .inr (15, (.ref ta) :: (.int 0) :: (.int (nI zo_29)) :: (.int (nI ze)) :: (.ref ou) :: (.ref so) :: (.ref ad) :: (.ref na) :: (.ref va) :: (.ref lc) :: (.ref dm) :: (.int (nI fm)) :: (.int (nI sn)) :: (.ref tg) :: (.int v14_30) :: (.int v15_31) :: (.ref pe) :: (.int v17_32) :: (.int v18_33) :: (.int v19_34) :: (.int v20_35) :: (.int v21_36) :: (.int v22_37) :: (.ref ml) :: (.ref bg) :: (.ref co) :: (.ref sp) :: (.ref nb0) :: (.ref nb1) :: (.ref nb2) :: (.int (nI nf)) :: (.int (nI bd)) :: (.int (nI mm)) :: (.int v33_38) :: (.ref pl) :: (.ref se) :: (.ref ke) :: (.ref wi) :: (.ref hs) :: (.ref mo) :: (.ref po) :: (.ref nu) :: (.ref pr) :: (.ref sq) :: (.ref xa) :: (.ref sa) :: (.ref n64) :: (.ref m64) :: (.ref ex) :: (.ref wh) :: (.ref sd) :: (.ref tk) :: (.int v52_39) :: (.int v53_40) :: (.int v54_41) :: (.ref hd) :: (.ref ak) :: (.ref ho) :: (.ref ot) :: []) ∧ FF so = .inl (cs 16, 40, .inl fs) ∧ FF ad = .inl (cs 16, 40, .inl fd)) ?_ (fun jn_343 => ?_)
              ·
                rintro u0 F_344 hv_346 hO hR H locs hP hD hS ls hl
                have hl : lv_has ls 7 [(6, .int (nI kend)), (5, .int s5), (4, .int (nI j)), (3, .int (nI zt)), (0, .ref h0), (1, .int x1), (2, .int x2)] := hl
                have hv_346 : NM gt 0 kend = true ∧ kend ≤ 60 ∧ (s5 = 1 → j < zt) ∧ F_344 h0 = .inr (15, (.ref ta) :: (.int 0) :: (.int (nI zo_29)) :: (.int (nI ze)) :: (.ref ou) :: (.ref so) :: (.ref ad) :: (.ref na) :: (.ref va) :: (.ref lc) :: (.ref dm) :: (.int (nI fm)) :: (.int (nI sn)) :: (.ref tg) :: (.int v14_30) :: (.int v15_31) :: (.ref pe) :: (.int v17_32) :: (.int v18_33) :: (.int v19_34) :: (.int v20_35) :: (.int v21_36) :: (.int v22_37) :: (.ref ml) :: (.ref bg) :: (.ref co) :: (.ref sp) :: (.ref nb0) :: (.ref nb1) :: (.ref nb2) :: (.int (nI nf)) :: (.int (nI bd)) :: (.int (nI mm)) :: (.int v33_38) :: (.ref pl) :: (.ref se) :: (.ref ke) :: (.ref wi) :: (.ref hs) :: (.ref mo) :: (.ref po) :: (.ref nu) :: (.ref pr) :: (.ref sq) :: (.ref xa) :: (.ref sa) :: (.ref n64) :: (.ref m64) :: (.ref ex) :: (.ref wh) :: (.ref sd) :: (.ref tk) :: (.int v52_39) :: (.int v53_40) :: (.int v54_41) :: (.ref hd) :: (.ref ak) :: (.ref ho) :: (.ref ot) :: []) ∧ F_344 so = .inl (cs 16, 40, .inl fs) ∧ F_344 ad = .inl (cs 16, 40, .inl fd) := hv_346
                refine W.eq (g2 := F0 m 118 ls []) rfl ?_
                have hF_347 : F_344 ta = .inl (cs 17, 3000, .inl gt) := (hR ta (by rw [ht_81]; simp only [List.mem_cons, List.not_mem_nil, or_false]; omega)).trans hF_345
                obtain ⟨hn1, hn6, hn2, hn3⟩ := hv_346
                obtain ⟨hn3, hn3so, hn3ad⟩ := hn3
                have hF_350 : F ta = .inl (cs 17, 3000, .inl gt) := (hR ta (by rw [ht_81]; simp only [List.mem_cons, List.not_mem_nil, or_false]; omega)).symm.trans hF_347
                refine W.widen (k := 0) (n := 0) (by omega) (by omega) ?_
                refine pl_cutm (σ := Unit) A (dC, dI) cs ty gm L [ρ, ρ + 3, ρ + 31, ρ + 4 + ze + 100, ρ + 50 + ze + 100] F 156 7 (fun u0 => [(6, .int (nI kend)), (5, .int s5), (4, .int (nI j)), (3, .int (nI zt)), (0, .ref h0), (1, .int x1), (2, .int x2)]) (fun u0 => []) (fun u0 FF => (s5 = 1 → ISV x1 gt zt j ∧ zt - j - 1 ≤ 700) ∧ FF h0 = .inr (15, (.ref ta) :: (.int 0) :: (.int (nI zo_29)) :: (.int (nI ze)) :: (.ref ou) :: (.ref so) :: (.ref ad) :: (.ref na) :: (.ref va) :: (.ref lc) :: (.ref dm) :: (.int (nI fm)) :: (.int (nI sn)) :: (.ref tg) :: (.int v14_30) :: (.int v15_31) :: (.ref pe) :: (.int v17_32) :: (.int v18_33) :: (.int v19_34) :: (.int v20_35) :: (.int v21_36) :: (.int v22_37) :: (.ref ml) :: (.ref bg) :: (.ref co) :: (.ref sp) :: (.ref nb0) :: (.ref nb1) :: (.ref nb2) :: (.int (nI nf)) :: (.int (nI bd)) :: (.int (nI mm)) :: (.int v33_38) :: (.ref pl) :: (.ref se) :: (.ref ke) :: (.ref wi) :: (.ref hs) :: (.ref mo) :: (.ref po) :: (.ref nu) :: (.ref pr) :: (.ref sq) :: (.ref xa) :: (.ref sa) :: (.ref n64) :: (.ref m64) :: (.ref ex) :: (.ref wh) :: (.ref sd) :: (.ref tk) :: (.int v52_39) :: (.int v53_40) :: (.int v54_41) :: (.ref hd) :: (.ref ak) :: (.ref ho) :: (.ref ot) :: []) ∧ FF so = .inl (cs 16, 40, .inl fs) ∧ FF ad = .inl (cs 16, 40, .inl fd)) ?_ (fun jn_348 => ?_)
                ·
                  rintro u0 F_349 hv_351 hO hR H locs hP hD hS ls hl
                  have hl : lv_has ls 7 [(6, .int (nI kend)), (5, .int s5), (4, .int (nI j)), (3, .int (nI zt)), (0, .ref h0), (1, .int x1), (2, .int x2)] := hl
                  have hv_351 : (s5 = 1 → ISV x1 gt zt j ∧ zt - j - 1 ≤ 700) ∧ F_349 h0 = .inr (15, (.ref ta) :: (.int 0) :: (.int (nI zo_29)) :: (.int (nI ze)) :: (.ref ou) :: (.ref so) :: (.ref ad) :: (.ref na) :: (.ref va) :: (.ref lc) :: (.ref dm) :: (.int (nI fm)) :: (.int (nI sn)) :: (.ref tg) :: (.int v14_30) :: (.int v15_31) :: (.ref pe) :: (.int v17_32) :: (.int v18_33) :: (.int v19_34) :: (.int v20_35) :: (.int v21_36) :: (.int v22_37) :: (.ref ml) :: (.ref bg) :: (.ref co) :: (.ref sp) :: (.ref nb0) :: (.ref nb1) :: (.ref nb2) :: (.int (nI nf)) :: (.int (nI bd)) :: (.int (nI mm)) :: (.int v33_38) :: (.ref pl) :: (.ref se) :: (.ref ke) :: (.ref wi) :: (.ref hs) :: (.ref mo) :: (.ref po) :: (.ref nu) :: (.ref pr) :: (.ref sq) :: (.ref xa) :: (.ref sa) :: (.ref n64) :: (.ref m64) :: (.ref ex) :: (.ref wh) :: (.ref sd) :: (.ref tk) :: (.int v52_39) :: (.int v53_40) :: (.int v54_41) :: (.ref hd) :: (.ref ak) :: (.ref ho) :: (.ref ot) :: []) ∧ F_349 so = .inl (cs 16, 40, .inl fs) ∧ F_349 ad = .inl (cs 16, 40, .inl fd) := hv_351
                  refine W.eq (g2 := F0 m 156 ls []) rfl ?_
                  have hF_352 : F_349 ta = .inl (cs 17, 3000, .inl gt) := (hR ta (by rw [ht_81]; simp only [List.mem_cons, List.not_mem_nil, or_false]; omega)).trans hF_350
                  obtain ⟨ho1, ho2⟩ := hv_351
                  obtain ⟨ho2, ho2so, ho2ad⟩ := ho2
                  refine lv_aload_n hx hb dX15_entry_156 rfl (lv_at hl 4 rfl) ?_
                  refine pg_get (ci := 15) (v := .ref so) (C := RX15) (T := TX15) (N := 59) hx hb hts it_15 hown hK hP hL_h0 ho2 rfl 5 (by decide) (hts _ kt_718) (fun _ h9 => h9) rfl dX15_entry_157 ?_
                  refine lv_aload_n hx hb dX15_entry_160 rfl (lv_at hl 4 rfl) ?_
                  refine pg_get (ci := 15) (v := .int (nI ze)) (C := RX15) (T := TX15) (N := 59) hx hb hts it_15 hown hK hP hL_h0 ho2 rfl 3 (by decide) (hts _ kt_724) (fun _ h9 => h9) rfl dX15_entry_161 ?_
                  refine lv_iload_n hx hb dX15_entry_164 rfl (lv_at hl 5 rfl) ?_
                  refine pg_iast hx hb hK hP hD hS hi_83 0 ho2so rfl (vp_in_nI (by omega) (by omega)) dX15_entry_165 (fun H locs hP hD hS => ?_)
                  obtain ⟨F_353, he_354, hP, hD, hO, hR⟩ : ∃ G, G = va_up F_349 so (.inl (cs 16, 40, .inl (upd fs ((nI ze)).toNatClampNeg (x1)))) ∧ va_P (dC, dI) vwCl (va_pl L G) H ∧ va_D A (va_pl L G) ∧ OKm cs ty gm L G ∧ FR ty [ρ, ρ + 3, ρ + 31, ρ + 4 + ze + 100, ρ + 50 + ze + 100] F G := ⟨_, rfl, hP, hD, hO.up (shm.ints ht_84 ⟨_, rfl⟩), hR.up ht_84 (by simp)⟩
                  have hF_355 : F_353 so = .inl (cs 16, 40, .inl (upd fs ((nI ze)).toNatClampNeg (x1))) := by rw [he_354]; exact up_self
                  have hF_356 : F_353 ta = .inl (cs 17, 3000, .inl gt) := by rw [he_354, up_ne (ne_ty ht_81 ht_84 (by simp))]; exact hF_352
                  have hF_357 : F_353 h0 = .inr (15, (.ref ta) :: (.int 0) :: (.int (nI zo_29)) :: (.int (nI ze)) :: (.ref ou) :: (.ref so) :: (.ref ad) :: (.ref na) :: (.ref va) :: (.ref lc) :: (.ref dm) :: (.int (nI fm)) :: (.int (nI sn)) :: (.ref tg) :: (.int v14_30) :: (.int v15_31) :: (.ref pe) :: (.int v17_32) :: (.int v18_33) :: (.int v19_34) :: (.int v20_35) :: (.int v21_36) :: (.int v22_37) :: (.ref ml) :: (.ref bg) :: (.ref co) :: (.ref sp) :: (.ref nb0) :: (.ref nb1) :: (.ref nb2) :: (.int (nI nf)) :: (.int (nI bd)) :: (.int (nI mm)) :: (.int v33_38) :: (.ref pl) :: (.ref se) :: (.ref ke) :: (.ref wi) :: (.ref hs) :: (.ref mo) :: (.ref po) :: (.ref nu) :: (.ref pr) :: (.ref sq) :: (.ref xa) :: (.ref sa) :: (.ref n64) :: (.ref m64) :: (.ref ex) :: (.ref wh) :: (.ref sd) :: (.ref tk) :: (.int v52_39) :: (.int v53_40) :: (.int v54_41) :: (.ref hd) :: (.ref ak) :: (.ref ho) :: (.ref ot) :: []) := by rw [he_354, up_ne (ne_ty hT_h0 ht_84 (by simp))]; exact ho2
                  have hF_358 : F_353 ad = .inl (cs 16, 40, .inl fd) := by rw [he_354, up_ne (ne_ty2 ht_87 ht_84 (by simp))]; exact ho2ad
                  have hF_359 : F_353 so = .inl (cs 16, 40, .inl (upd fs ze x1)) := by have h9 := hF_355; rwa [nI_clamp (by omega)] at h9
                  refine lv_aload_n hx hb dX15_entry_166 rfl (lv_at hl 4 rfl) ?_
                  refine pg_get (ci := 15) (v := .ref ad) (C := RX15) (T := TX15) (N := 59) hx hb hts it_15 hown hK hP hL_h0 hF_357 rfl 6 (by decide) (hts _ kt_740) (fun _ h9 => h9) rfl dX15_entry_167 ?_
                  refine lv_aload_n hx hb dX15_entry_170 rfl (lv_at hl 4 rfl) ?_
                  refine pg_get (ci := 15) (v := .int (nI ze)) (C := RX15) (T := TX15) (N := 59) hx hb hts it_15 hown hK hP hL_h0 hF_357 rfl 3 (by decide) (hts _ kt_724) (fun _ h9 => h9) rfl dX15_entry_171 ?_
                  refine lv_iload_n hx hb dX15_entry_174 rfl (lv_at hl 6 rfl) ?_
                  refine pg_iast hx hb hK hP hD hS hi_86 0 hF_358 rfl (vp_in_nI (by omega) (by omega)) dX15_entry_175 (fun H locs hP hD hS => ?_)
                  obtain ⟨F_360, he_361, hP, hD, hO, hR⟩ : ∃ G, G = va_up F_353 ad (.inl (cs 16, 40, .inl (upd fd ((nI ze)).toNatClampNeg (x2)))) ∧ va_P (dC, dI) vwCl (va_pl L G) H ∧ va_D A (va_pl L G) ∧ OKm cs ty gm L G ∧ FR ty [ρ, ρ + 3, ρ + 31, ρ + 4 + ze + 100, ρ + 50 + ze + 100] F G := ⟨_, rfl, hP, hD, hO.up (shm.ints ht_87 ⟨_, rfl⟩), hR.up ht_87 (by simp)⟩
                  have hF_362 : F_360 ad = .inl (cs 16, 40, .inl (upd fd ((nI ze)).toNatClampNeg (x2))) := by rw [he_361]; exact up_self
                  have hF_363 : F_360 so = .inl (cs 16, 40, .inl (upd fs ze x1)) := by rw [he_361, up_ne (ne_ty2 ht_84 ht_87 (by simp))]; exact hF_359
                  have hF_364 : F_360 ta = .inl (cs 17, 3000, .inl gt) := by rw [he_361, up_ne (ne_ty ht_81 ht_87 (by simp))]; exact hF_356
                  have hF_365 : F_360 h0 = .inr (15, (.ref ta) :: (.int 0) :: (.int (nI zo_29)) :: (.int (nI ze)) :: (.ref ou) :: (.ref so) :: (.ref ad) :: (.ref na) :: (.ref va) :: (.ref lc) :: (.ref dm) :: (.int (nI fm)) :: (.int (nI sn)) :: (.ref tg) :: (.int v14_30) :: (.int v15_31) :: (.ref pe) :: (.int v17_32) :: (.int v18_33) :: (.int v19_34) :: (.int v20_35) :: (.int v21_36) :: (.int v22_37) :: (.ref ml) :: (.ref bg) :: (.ref co) :: (.ref sp) :: (.ref nb0) :: (.ref nb1) :: (.ref nb2) :: (.int (nI nf)) :: (.int (nI bd)) :: (.int (nI mm)) :: (.int v33_38) :: (.ref pl) :: (.ref se) :: (.ref ke) :: (.ref wi) :: (.ref hs) :: (.ref mo) :: (.ref po) :: (.ref nu) :: (.ref pr) :: (.ref sq) :: (.ref xa) :: (.ref sa) :: (.ref n64) :: (.ref m64) :: (.ref ex) :: (.ref wh) :: (.ref sd) :: (.ref tk) :: (.int v52_39) :: (.int v53_40) :: (.int v54_41) :: (.ref hd) :: (.ref ak) :: (.ref ho) :: (.ref ot) :: []) := by rw [he_361, up_ne (ne_ty hT_h0 ht_87 (by simp))]; exact hF_357
                  have hF_366 : F_360 ad = .inl (cs 16, 40, .inl (upd fd ze x2)) := by have h9 := hF_362; rwa [nI_clamp (by omega)] at h9
                  refine lv_aload_n hx hb dX15_entry_176 rfl (lv_at hl 4 rfl) ?_
                  refine pg_get (ci := 15) (v := .ref na) (C := RX15) (T := TX15) (N := 59) hx hb hts it_15 hown hK hP hL_h0 hF_365 rfl 7 (by decide) (hts _ kt_719) (fun _ h9 => h9) rfl dX15_entry_177 ?_
                  refine lv_aload_n hx hb dX15_entry_180 rfl (lv_at hl 4 rfl) ?_
                  refine pg_get (ci := 15) (v := .int (nI ze)) (C := RX15) (T := TX15) (N := 59) hx hb hts it_15 hown hK hP hL_h0 hF_365 rfl 3 (by decide) (hts _ kt_724) (fun _ h9 => h9) rfl dX15_entry_181 ?_
                  have hzna := FR.unre hT00 hty hR na (by rw [hTn0]; simp only [List.mem_cons, List.not_mem_nil, or_false]; omega)
                  obtain ⟨hi_367, ht_368⟩ := hW.f_na hL_h0 hT_h0
                  obtain ⟨f_369, hF_370, hq_371⟩ := hO.rtxj hi_367 ht_368
                  obtain rfl : fn = f_369 := by have e9 := (hzna.trans hd3).symm.trans hF_370; simpa using e9
                  obtain ⟨b_372, r_373, hbf_374, hi_375, ht_376⟩ := hq_371 ze (by omega)
                  refine pg_aald (r := b_372) hx hb hK hP hi_367 7 hF_370 rfl (vp_in_nI (by omega) (by omega)) (show fn ((nI ze) : Int32).toNatClampNeg = _ from by rw [show ((nI ze) : Int32) = nI ze from rfl, nI_clamp (by omega)]; exact hbf_374) dX15_entry_184 ?_
                  refine lv_aload_n hx hb dX15_entry_185 rfl (lv_at hl 4 rfl) ?_
                  refine pg_get (ci := 15) (v := .ref ta) (C := RX15) (T := TX15) (N := 59) hx hb hts it_15 hown hK hP hL_h0 hF_365 rfl 0 (by decide) (hts _ kt_1009) (fun _ h9 => h9) rfl dX15_entry_186 ?_
                  refine lv_iconst (v := 0) hx hb dX15_entry_189 (by decide) ?_
                  refine lv_iload hx hb dX15_entry_190 (lv_at hl 0 rfl) ?_
                  refine W.eq (g2 := F0 m 192 ls [.int (nI kend), .int (nI 0), .ref ta, .ref b_372]) rfl ?_
                  obtain ⟨hi_377, ht_378, hq_379⟩ := hW.txt hi_375 ht_376
                  obtain ⟨hq_380, hq_381⟩ := hW.octs hi_80 ht_81
                  have hFc := pg_free hD hS hA
                  obtain ⟨z_382, hF_383, hq_384⟩ := hO.txt hi_375 ht_376
                  refine va_callv (va_runV (As := [.ref ta, .int (nI 0), .int (nI kend)]) (rest := []) ⟨hx, hb, hml, hown, hts⟩ (s_X14_set_e l dC dI cs ty gm L H.size F_360 b_372 (ρ + 4 + ze + 100) r_373 60 ta (ρ + 1) 3000 0 kend gt hW hi_375 ht_376 hi_80 ht_81 hF_364 (Nat.zero_le _) (by omega) (by omega)) ⟨callB_of 3 hts (gi kt_951) rfl rfl rfl (hts _ kt_676) (hts _ kt_952) (by decide +kernel) ⟨Nat.le_of_ble_eq_true rfl, Nat.le_of_ble_eq_true rfl⟩, (hts _ kt_953), (hts _ kt_954)⟩ ⟨fun a U g mk q => ⟨q.1, PTm.calling q.2⟩, pg_recv hK hP hi_375 hF_383 (q := (RX14, TX14, 2)) rfl, fun U hU hWm => ⟨rfl, PTm.mk hU hWm hP hK hD hE hO⟩⟩ rfl rfl hl.1 rfl (lv_room (Nat.le_of_ble_eq_true rfl)) dX15_entry_192 ⟨by show _ + 0 ≤ 0; omega, by show _ + 0 ≤ 0; omega⟩) hS (fun q _ h => hFc q h) hFc (fun u t H1 locs ht hvm hw hB hz1 hk1 hS => ?_)
                  obtain ⟨F_386, fc_387, hB1, hq_388, hq_389, hq_390⟩ := hB
                  obtain ⟨hP, hD, hO, hR⟩ := QTm.back hB1 ht hFc hR (fun q h => by simp only [List.mem_cons, List.not_mem_nil, or_false] at h ⊢; omega)
                  have hF_391 : F_386 ad = .inl (cs 16, 40, .inl (upd fd ze x2)) := (hB1.2.2.2 ad (by rw [ht_87]; simp only [List.mem_cons, List.not_mem_nil, or_false]; omega)).trans hF_366
                  have hF_392 : F_386 so = .inl (cs 16, 40, .inl (upd fs ze x1)) := (hB1.2.2.2 so (by rw [ht_84]; simp only [List.mem_cons, List.not_mem_nil, or_false]; omega)).trans hF_363
                  have hF_393 : F_386 ta = .inl (cs 17, 3000, .inl gt) := (hB1.2.2.2 ta (by rw [ht_81]; simp only [List.mem_cons, List.not_mem_nil, or_false]; omega)).trans hF_364
                  have hF_394 : F_386 h0 = .inr (15, (.ref ta) :: (.int 0) :: (.int (nI zo_29)) :: (.int (nI ze)) :: (.ref ou) :: (.ref so) :: (.ref ad) :: (.ref na) :: (.ref va) :: (.ref lc) :: (.ref dm) :: (.int (nI fm)) :: (.int (nI sn)) :: (.ref tg) :: (.int v14_30) :: (.int v15_31) :: (.ref pe) :: (.int v17_32) :: (.int v18_33) :: (.int v19_34) :: (.int v20_35) :: (.int v21_36) :: (.int v22_37) :: (.ref ml) :: (.ref bg) :: (.ref co) :: (.ref sp) :: (.ref nb0) :: (.ref nb1) :: (.ref nb2) :: (.int (nI nf)) :: (.int (nI bd)) :: (.int (nI mm)) :: (.int v33_38) :: (.ref pl) :: (.ref se) :: (.ref ke) :: (.ref wi) :: (.ref hs) :: (.ref mo) :: (.ref po) :: (.ref nu) :: (.ref pr) :: (.ref sq) :: (.ref xa) :: (.ref sa) :: (.ref n64) :: (.ref m64) :: (.ref ex) :: (.ref wh) :: (.ref sd) :: (.ref tk) :: (.int v52_39) :: (.int v53_40) :: (.int v54_41) :: (.ref hd) :: (.ref ak) :: (.ref ho) :: (.ref ot) :: []) := (hB1.2.2.2 h0 (by rw [hT_h0]; simp only [List.mem_cons, List.not_mem_nil, or_false]; omega)).trans hF_365
                  have hF_395 : F_386 na = .inl (cs 23, 40, .inr (.inr (.inr (.inr fn)))) := (hB1.2.2.2 na (by rw [ht_368]; simp only [List.mem_cons, List.not_mem_nil, or_false]; omega)).trans hF_370
                  generalize H1 = H at hP hS ⊢
                  refine lv_aload_n hx hb dX15_entry_195 rfl (lv_at hl 4 rfl) ?_
                  refine pg_get (ci := 15) (v := .ref va) (C := RX15) (T := TX15) (N := 59) hx hb hts it_15 hown hK hP hL_h0 hF_394 rfl 8 (by decide) (hts _ kt_732) (fun _ h9 => h9) rfl dX15_entry_196 ?_
                  refine lv_aload_n hx hb dX15_entry_199 rfl (lv_at hl 4 rfl) ?_
                  refine pg_get (ci := 15) (v := .int (nI ze)) (C := RX15) (T := TX15) (N := 59) hx hb hts it_15 hown hK hP hL_h0 hF_394 rfl 3 (by decide) (hts _ kt_724) (fun _ h9 => h9) rfl dX15_entry_200 ?_
                  have hzva := FR.unre hT00 hty hR va (by rw [hTv0]; simp only [List.mem_cons, List.not_mem_nil, or_false]; omega)
                  obtain ⟨hi_396, ht_397⟩ := hW.f_va hL_h0 hT_h0
                  obtain ⟨f_398, hF_399, hq_400⟩ := hO.rtxj hi_396 ht_397
                  obtain rfl : fv = f_398 := by have e9 := (hzva.trans hd4).symm.trans hF_399; simpa using e9
                  obtain ⟨b_401, r_402, hbf_403, hi_404, ht_405⟩ := hq_400 ze (by omega)
                  refine pg_aald (r := b_401) hx hb hK hP hi_396 7 hF_399 rfl (vp_in_nI (by omega) (by omega)) (show fv ((nI ze) : Int32).toNatClampNeg = _ from by rw [show ((nI ze) : Int32) = nI ze from rfl, nI_clamp (by omega)]; exact hbf_403) dX15_entry_203 ?_
                  refine lv_iconst (v := 0) hx hb dX15_entry_204 (by decide) ?_
                  obtain ⟨hi_406, ht_407, hq_408⟩ := hW.txt hi_404 ht_405
                  obtain ⟨z_409, hF_410, hq_411⟩ := hO.txt hi_404 ht_405
                  refine pg_put (ci := 14) (v := .int 0) (ty := .int) (C := RX14) (T := TX14) (N := 2) hx hb hts it_14 tyX14 tyX14_ok nmX14 hown hK hP hD hS hi_404 hF_410 rfl 1 (by decide) (hts _ kt_709) (fun _ h9 => h9) rfl (by decide +kernel) (rfl) (rfl) (Nat.le_of_ble_eq_true rfl) dX15_entry_205 (fun H locs hP hD hS => ?_)
                  obtain ⟨F_412, he_413, hP, hD, hO, hR⟩ : ∃ G, G = va_up F_386 b_401 (.inr (14, [.ref r_402, .int 0])) ∧ va_P (dC, dI) vwCl (va_pl L G) H ∧ va_D A (va_pl L G) ∧ OKm cs ty gm L G ∧ FR ty [ρ, ρ + 3, ρ + 31, ρ + 4 + ze + 100, ρ + 50 + ze + 100] F G := ⟨_, rfl, hP, hD, hO.up (shm.txt ht_405 ⟨0, rfl, (by first | omega | assumption | exact Or.inl rfl | exact Or.inr rfl)⟩), hR.up ht_405 (by simp)⟩
                  have hF_414 : F_412 b_401 = .inr (14, [.ref r_402, .int 0]) := by rw [he_413]; exact up_self
                  have hF_415 : F_412 ad = .inl (cs 16, 40, .inl (upd fd ze x2)) := by rw [he_413, up_ne (ne_ty ht_87 ht_405 (by simp))]; exact hF_391
                  have hF_416 : F_412 so = .inl (cs 16, 40, .inl (upd fs ze x1)) := by rw [he_413, up_ne (ne_ty ht_84 ht_405 (by simp))]; exact hF_392
                  have hF_417 : F_412 ta = .inl (cs 17, 3000, .inl gt) := by rw [he_413, up_ne (ne_ty ht_81 ht_405 (by simp))]; exact hF_393
                  have hF_418 : F_412 h0 = .inr (15, (.ref ta) :: (.int 0) :: (.int (nI zo_29)) :: (.int (nI ze)) :: (.ref ou) :: (.ref so) :: (.ref ad) :: (.ref na) :: (.ref va) :: (.ref lc) :: (.ref dm) :: (.int (nI fm)) :: (.int (nI sn)) :: (.ref tg) :: (.int v14_30) :: (.int v15_31) :: (.ref pe) :: (.int v17_32) :: (.int v18_33) :: (.int v19_34) :: (.int v20_35) :: (.int v21_36) :: (.int v22_37) :: (.ref ml) :: (.ref bg) :: (.ref co) :: (.ref sp) :: (.ref nb0) :: (.ref nb1) :: (.ref nb2) :: (.int (nI nf)) :: (.int (nI bd)) :: (.int (nI mm)) :: (.int v33_38) :: (.ref pl) :: (.ref se) :: (.ref ke) :: (.ref wi) :: (.ref hs) :: (.ref mo) :: (.ref po) :: (.ref nu) :: (.ref pr) :: (.ref sq) :: (.ref xa) :: (.ref sa) :: (.ref n64) :: (.ref m64) :: (.ref ex) :: (.ref wh) :: (.ref sd) :: (.ref tk) :: (.int v52_39) :: (.int v53_40) :: (.int v54_41) :: (.ref hd) :: (.ref ak) :: (.ref ho) :: (.ref ot) :: []) := by rw [he_413, up_ne (ne_ty hT_h0 ht_405 (by simp))]; exact hF_394
                  have hF_419 : F_412 na = .inl (cs 23, 40, .inr (.inr (.inr (.inr fn)))) := by rw [he_413, up_ne (ne_ty ht_368 ht_405 (by simp))]; exact hF_395
                  have hF_420 : F_412 b_372 = .inr (14, [.ref r_373, .int (nI (kend - 0))]) := by rw [he_413, up_ne (ne_ty2 ht_376 ht_405 (by simp))]; exact hq_388
                  have hF_421 : F_412 r_373 = .inl (cs 17, 60, .inl fc_387) := by rw [he_413, up_ne (ne_ty ht_378 ht_405 (by simp))]; exact hq_389
                  have hF_422 : F_412 va = .inl (cs 23, 40, .inr (.inr (.inr (.inr fv)))) := by rw [he_413, up_ne (ne_ty ht_397 ht_405 (by simp))]; exact hF_399
                  refine lv_iload hx hb dX15_entry_208 (lv_at hl 1 rfl) ?_
                  refine lv_if_eq (tgt := 234) hx hb dX15_entry_210 (by decide) (fun c_423 => ?_) (fun c_423 => ?_)
                  ·
                    refine lv_aload_n hx hb dX15_entry_234 rfl (lv_at hl 4 rfl) ?_
                    refine lv_dup hx hb dX15_entry_235 rfl ?_
                    refine pg_get (ci := 15) (v := .int (nI ze)) (C := RX15) (T := TX15) (N := 59) hx hb hts it_15 hown hK hP hL_h0 hF_418 rfl 3 (by decide) (hts _ kt_724) (fun _ h9 => h9) rfl dX15_entry_236 ?_
                    refine lv_iconst (v := 1) hx hb dX15_entry_239 (by decide) ?_
                    refine lv_iadd hx hb dX15_entry_240 ?_
                    refine lv_topi (fun x_424 ex_424 => ?_)
                    obtain rfl : x_424 = (nI (ze + 1)) := ex_424.trans (nI_add ze 1)
                    have htyU := hty
                    have hTU := hT_h0
                    obtain ⟨hq_425, hq_426⟩ := hW.octs hi_377 ht_378
                    obtain ⟨hq_427, hq_428⟩ := hW.octs hi_406 ht_407
                    obtain ⟨f_429, hF_430, hq_431⟩ := hO.octs hi_406 ht_407
                    refine pg_put (ci := 15) (v := .int (nI (ze + 1))) (ty := .int) (C := RX15) (T := TX15) (N := 59) hx hb hts it_15 tyX15 tyX15_ok nmX15 hown hK hP hD hS hL_h0 hF_418 rfl 3 (by decide) (hts _ kt_724) (fun _ h9 => h9) rfl (by decide +kernel) (rfl) (rfl) (Nat.le_of_ble_eq_true rfl) dX15_entry_241 (fun H locs hP hD hS => ?_)
                    obtain ⟨F_432, he_433, hP, hD, hR⟩ : ∃ G, G = va_up F_412 h0 (.inr (15, (.ref ta) :: (.int 0) :: (.int (nI zo_29)) :: (.int (nI (ze + 1))) :: (.ref ou) :: (.ref so) :: (.ref ad) :: (.ref na) :: (.ref va) :: (.ref lc) :: (.ref dm) :: (.int (nI fm)) :: (.int (nI sn)) :: (.ref tg) :: (.int v14_30) :: (.int v15_31) :: (.ref pe) :: (.int v17_32) :: (.int v18_33) :: (.int v19_34) :: (.int v20_35) :: (.int v21_36) :: (.int v22_37) :: (.ref ml) :: (.ref bg) :: (.ref co) :: (.ref sp) :: (.ref nb0) :: (.ref nb1) :: (.ref nb2) :: (.int (nI nf)) :: (.int (nI bd)) :: (.int (nI mm)) :: (.int v33_38) :: (.ref pl) :: (.ref se) :: (.ref ke) :: (.ref wi) :: (.ref hs) :: (.ref mo) :: (.ref po) :: (.ref nu) :: (.ref pr) :: (.ref sq) :: (.ref xa) :: (.ref sa) :: (.ref n64) :: (.ref m64) :: (.ref ex) :: (.ref wh) :: (.ref sd) :: (.ref tk) :: (.int v52_39) :: (.int v53_40) :: (.int v54_41) :: (.ref hd) :: (.ref ak) :: (.ref ho) :: (.ref ot) :: [])) ∧ va_P (dC, dI) vwCl (va_pl L G) H ∧ va_D A (va_pl L G) ∧ FR ty [ρ, ρ + 3, ρ + 31, ρ + 4 + ze + 100, ρ + 50 + ze + 100] F G := ⟨_, rfl, hP, hD, hR.up hT_h0 (by simp)⟩
                    have hF_434 : F_432 ta = .inl (cs 17, 3000, .inl gt) := by rw [he_433, up_ne (ne_ty ht_81 hT_h0 (by simp))]; exact hF_417
                    have hF_435 : F_432 so = .inl (cs 16, 40, .inl (upd fs ze x1)) := by rw [he_433, up_ne (ne_ty ht_84 hT_h0 (by simp))]; exact hF_416
                    have hF_436 : F_432 ad = .inl (cs 16, 40, .inl (upd fd ze x2)) := by rw [he_433, up_ne (ne_ty ht_87 hT_h0 (by simp))]; exact hF_415
                    have hF_437 : F_432 b_372 = .inr (14, [.ref r_373, .int (nI (kend - 0))]) := by rw [he_433, up_ne (ne_ty ht_376 hT_h0 (by simp))]; exact hF_420
                    have hF_438 : F_432 r_373 = .inl (cs 17, 60, .inl fc_387) := by rw [he_433, up_ne (ne_ty ht_378 hT_h0 (by simp))]; exact hF_421
                    have hF_439 : F_432 b_401 = .inr (14, [.ref r_402, .int 0]) := by rw [he_433, up_ne (ne_ty ht_405 hT_h0 (by simp))]; exact hF_414
                    have hF_440 : F_432 r_402 = .inl (cs 17, 700, .inl f_429) := by rw [he_433, up_ne (ne_ty ht_407 hT_h0 (by simp))]; exact hF_430
                    obtain ⟨ty, hty, hT_h0, hW, hO, hR⟩ : ∃ t9 : TyM, t9 = rtf ty h0 (15, ρ, [ta, ou, so, ad, na, va, lc, dm, tg, pe, ml, bg, co, sp, nb0, nb1, nb2, pl, se, ke, wi, hs, mo, po, nu, pr, sq, xa, sa, n64, m64, ex, wh, sd, tk, hd, ak, ho, ot, sx, s0, s1, s2, nf, bd, mm, fm, sn, hg, gc, gv, (ze + 1), 0]) ∧ t9 h0 = (15, ρ, [ta, ou, so, ad, na, va, lc, dm, tg, pe, ml, bg, co, sp, nb0, nb1, nb2, pl, se, ke, wi, hs, mo, po, nu, pr, sq, xa, sa, n64, m64, ex, wh, sd, tk, hd, ak, ho, ot, sx, s0, s1, s2, nf, bd, mm, fm, sn, hg, gc, gv, (ze + 1), 0]) ∧ WTm t9 gm L ∧ OKm cs t9 gm L F_432 ∧ FR t9 [ρ, ρ + 3, ρ + 31, ρ + 4 + ze + 100, ρ + 50 + ze + 100] F F_432 := ⟨_, rfl, rtf_self, hW.ze hL_h0 hT_h0, (by rw [he_433]; exact OKm.retype hO hT_h0 (shm.mod rtf_self ⟨zo_29, v14_30, v15_31, v17_32, v18_33, v19_34, v20_35, v21_36, v22_37, v33_38, v52_39, v53_40, v54_41, rfl, (by first | omega | assumption | exact Or.inl rfl | exact Or.inr rfl), (by first | omega | assumption | exact Or.inl rfl | exact Or.inr rfl), (by first | omega | assumption | exact Or.inl rfl | exact Or.inr rfl), (by first | omega | assumption | exact Or.inl rfl | exact Or.inr rfl), (by first | omega | assumption | exact Or.inl rfl | exact Or.inr rfl)⟩)), FR.retype hT_h0 hR⟩
                    have hF_441 : F_432 h0 = .inr (15, (.ref ta) :: (.int 0) :: (.int (nI zo_29)) :: (.int (nI (ze + 1))) :: (.ref ou) :: (.ref so) :: (.ref ad) :: (.ref na) :: (.ref va) :: (.ref lc) :: (.ref dm) :: (.int (nI fm)) :: (.int (nI sn)) :: (.ref tg) :: (.int v14_30) :: (.int v15_31) :: (.ref pe) :: (.int v17_32) :: (.int v18_33) :: (.int v19_34) :: (.int v20_35) :: (.int v21_36) :: (.int v22_37) :: (.ref ml) :: (.ref bg) :: (.ref co) :: (.ref sp) :: (.ref nb0) :: (.ref nb1) :: (.ref nb2) :: (.int (nI nf)) :: (.int (nI bd)) :: (.int (nI mm)) :: (.int v33_38) :: (.ref pl) :: (.ref se) :: (.ref ke) :: (.ref wi) :: (.ref hs) :: (.ref mo) :: (.ref po) :: (.ref nu) :: (.ref pr) :: (.ref sq) :: (.ref xa) :: (.ref sa) :: (.ref n64) :: (.ref m64) :: (.ref ex) :: (.ref wh) :: (.ref sd) :: (.ref tk) :: (.int v52_39) :: (.int v53_40) :: (.int v54_41) :: (.ref hd) :: (.ref ak) :: (.ref ho) :: (.ref ot) :: []) := by rw [he_433]; exact up_self
                    obtain ⟨hq_464, hq_465, hq_466, hq_467, hq_468, hgO, hgA, hgB, hq_469⟩ := hW.sc hL_h0 hT_h0
                    refine lv_aload_n hx hb dX15_entry_244 rfl (lv_at hl 4 rfl) ?_
                    refine pg_get (ci := 15) (v := .int (nI (ze + 1))) (C := RX15) (T := TX15) (N := 59) hx hb hts it_15 hown hK hP hL_h0 hF_441 rfl 3 (by decide) (hts _ kt_724) (fun _ h9 => h9) rfl dX15_entry_245 ?_
                    refine W.widen (k := 0) (n := 0) (by omega) (by omega) ?_
                    have hR0 := FR.unre hT00 htyU (FR.unre hTU hty hR)
                    have hQna := hR0 na (by rw [hTn0]; simp only [List.mem_cons, List.not_mem_nil, or_false]; omega)
                    have hQva := hR0 va (by rw [hTv0]; simp only [List.mem_cons, List.not_mem_nil, or_false]; omega)
                    exact W.iret (v := (nI (ze + 1))) hx hb hr (fun t ht hWm => ⟨⟨(nI (ze + 1)), (ze + 1), rfl, (Or.inr (Or.inr ⟨hc40, hs5.elim (fun h => val_y1 hx0 hx4 (hs5n h) (by rw [← hk0e h]; exact hn1)) (fun h => val_y2 hx0 hx4 (hs5x h) (hfst h) (by rw [← hk1e h]; exact hn1) (ho1 h).1), rfl, rfl⟩)), ⟨F_432, ty, (by rw [hty, htyU, rtf_rtf2]), QTm.mk ht hP hD hO hR, hW, ⟨(x1, x2, kend - 0, fc_387, 0, f_429), DIRM.add hDM hO0 hW0 hLn0 hTn0 hLv0 hTv0 (by omega) hR0 hQna hQva (fun k hk => ⟨by simp only [List.mem_cons, List.not_mem_nil, or_false]; omega, by simp only [List.mem_cons, List.not_mem_nil, or_false]; omega⟩) hd1 hd2 hd3 hd4 hF_435 hF_436 ⟨b_372, r_373, hbf_374, hF_437, hF_438, by show kend - 0 ≤ 60; omega⟩ ⟨b_401, r_402, hbf_403, hF_439, hF_440, by show 0 ≤ 700; omega⟩, fun _ => enx4 (hk0e c_423) (hs5n c_423) hn1 hq_390⟩⟩⟩, hS.F ht⟩) hS.2.2 dX15_entry_248
                  ·
                    have h51 := hs5.resolve_left c_423
                    refine lv_aload_n hx hb dX15_entry_213 rfl (lv_at hl 4 rfl) ?_
                    refine pg_get (ci := 15) (v := .ref va) (C := RX15) (T := TX15) (N := 59) hx hb hts it_15 hown hK hP hL_h0 hF_418 rfl 8 (by decide) (hts _ kt_732) (fun _ h9 => h9) rfl dX15_entry_214 ?_
                    refine lv_aload_n hx hb dX15_entry_217 rfl (lv_at hl 4 rfl) ?_
                    refine pg_get (ci := 15) (v := .int (nI ze)) (C := RX15) (T := TX15) (N := 59) hx hb hts it_15 hown hK hP hL_h0 hF_418 rfl 3 (by decide) (hts _ kt_724) (fun _ h9 => h9) rfl dX15_entry_218 ?_
                    refine pg_aald (r := b_401) hx hb hK hP hi_396 7 hF_422 rfl (vp_in_nI (by omega) (by omega)) (show fv ((nI ze) : Int32).toNatClampNeg = _ from by rw [show ((nI ze) : Int32) = nI ze from rfl, nI_clamp (by omega)]; exact hbf_403) dX15_entry_221 ?_
                    refine lv_aload_n hx hb dX15_entry_222 rfl (lv_at hl 4 rfl) ?_
                    refine pg_get (ci := 15) (v := .ref ta) (C := RX15) (T := TX15) (N := 59) hx hb hts it_15 hown hK hP hL_h0 hF_418 rfl 0 (by decide) (hts _ kt_1009) (fun _ h9 => h9) rfl dX15_entry_223 ?_
                    refine lv_iload hx hb dX15_entry_226 (lv_at hl 2 rfl) ?_
                    refine lv_iconst (v := 1) hx hb dX15_entry_228 (by decide) ?_
                    refine lv_iadd hx hb dX15_entry_229 ?_
                    refine lv_topi (fun x_470 ex_470 => ?_)
                    obtain rfl : x_470 = (nI (j + 1)) := ex_470.trans (nI_add j 1)
                    refine lv_iload_n hx hb dX15_entry_230 rfl (lv_at hl 3 rfl) ?_
                    have hFc := pg_free hD hS hA
                    refine va_callv (va_runV (As := [.ref ta, .int (nI (j + 1)), .int (nI zt)]) (rest := []) ⟨hx, hb, hml, hown, hts⟩ (s_X14_set_e l dC dI cs ty gm L H.size F_412 b_401 (ρ + 50 + ze + 100) r_402 700 ta (ρ + 1) 3000 (j + 1) zt gt hW hi_404 ht_405 hi_80 ht_81 hF_417 (by have h9 := hn2 h51; omega) (by omega) (by have h9 := (ho1 h51).2; omega)) ⟨callB_of 3 hts (gi kt_951) rfl rfl rfl (hts _ kt_676) (hts _ kt_952) (by decide +kernel) ⟨Nat.le_of_ble_eq_true rfl, Nat.le_of_ble_eq_true rfl⟩, (hts _ kt_953), (hts _ kt_954)⟩ ⟨fun a U g mk q => ⟨q.1, PTm.calling q.2⟩, pg_recv hK hP hi_404 hF_414 (q := (RX14, TX14, 2)) rfl, fun U hU hWm => ⟨rfl, PTm.mk hU hWm hP hK hD hE hO⟩⟩ rfl rfl hl.1 rfl (lv_room (Nat.le_of_ble_eq_true rfl)) dX15_entry_231 ⟨by show _ + 0 ≤ 0; omega, by show _ + 0 ≤ 0; omega⟩) hS (fun q _ h => hFc q h) hFc (fun u t H1 locs ht hvm hw hB hz1 hk1 hS => ?_)
                    obtain ⟨F_472, fc_473, hB1, hq_474, hq_475, hq_476⟩ := hB
                    obtain ⟨hP, hD, hO, hR⟩ := QTm.back hB1 ht hFc hR (fun q h => by simp only [List.mem_cons, List.not_mem_nil, or_false] at h ⊢; omega)
                    have hF_477 : F_472 ad = .inl (cs 16, 40, .inl (upd fd ze x2)) := (hB1.2.2.2 ad (by rw [ht_87]; simp only [List.mem_cons, List.not_mem_nil, or_false]; omega)).trans hF_415
                    have hF_478 : F_472 so = .inl (cs 16, 40, .inl (upd fs ze x1)) := (hB1.2.2.2 so (by rw [ht_84]; simp only [List.mem_cons, List.not_mem_nil, or_false]; omega)).trans hF_416
                    have hF_479 : F_472 ta = .inl (cs 17, 3000, .inl gt) := (hB1.2.2.2 ta (by rw [ht_81]; simp only [List.mem_cons, List.not_mem_nil, or_false]; omega)).trans hF_417
                    have hF_480 : F_472 h0 = .inr (15, (.ref ta) :: (.int 0) :: (.int (nI zo_29)) :: (.int (nI ze)) :: (.ref ou) :: (.ref so) :: (.ref ad) :: (.ref na) :: (.ref va) :: (.ref lc) :: (.ref dm) :: (.int (nI fm)) :: (.int (nI sn)) :: (.ref tg) :: (.int v14_30) :: (.int v15_31) :: (.ref pe) :: (.int v17_32) :: (.int v18_33) :: (.int v19_34) :: (.int v20_35) :: (.int v21_36) :: (.int v22_37) :: (.ref ml) :: (.ref bg) :: (.ref co) :: (.ref sp) :: (.ref nb0) :: (.ref nb1) :: (.ref nb2) :: (.int (nI nf)) :: (.int (nI bd)) :: (.int (nI mm)) :: (.int v33_38) :: (.ref pl) :: (.ref se) :: (.ref ke) :: (.ref wi) :: (.ref hs) :: (.ref mo) :: (.ref po) :: (.ref nu) :: (.ref pr) :: (.ref sq) :: (.ref xa) :: (.ref sa) :: (.ref n64) :: (.ref m64) :: (.ref ex) :: (.ref wh) :: (.ref sd) :: (.ref tk) :: (.int v52_39) :: (.int v53_40) :: (.int v54_41) :: (.ref hd) :: (.ref ak) :: (.ref ho) :: (.ref ot) :: []) := (hB1.2.2.2 h0 (by rw [hT_h0]; simp only [List.mem_cons, List.not_mem_nil, or_false]; omega)).trans hF_418
                    have hF_481 : F_472 na = .inl (cs 23, 40, .inr (.inr (.inr (.inr fn)))) := (hB1.2.2.2 na (by rw [ht_368]; simp only [List.mem_cons, List.not_mem_nil, or_false]; omega)).trans hF_419
                    have hF_482 : F_472 b_372 = .inr (14, [.ref r_373, .int (nI (kend - 0))]) := (hB1.2.2.2 b_372 (by rw [ht_376]; simp only [List.mem_cons, List.not_mem_nil, or_false]; omega)).trans hF_420
                    have hF_483 : F_472 r_373 = .inl (cs 17, 60, .inl fc_387) := (hB1.2.2.2 r_373 (by rw [ht_378]; simp only [List.mem_cons, List.not_mem_nil, or_false]; omega)).trans hF_421
                    have hF_484 : F_472 va = .inl (cs 23, 40, .inr (.inr (.inr (.inr fv)))) := (hB1.2.2.2 va (by rw [ht_397]; simp only [List.mem_cons, List.not_mem_nil, or_false]; omega)).trans hF_422
                    generalize H1 = H at hP hS ⊢
                    refine lv_aload_n hx hb dX15_entry_234 rfl (lv_at hl 4 rfl) ?_
                    refine lv_dup hx hb dX15_entry_235 rfl ?_
                    refine pg_get (ci := 15) (v := .int (nI ze)) (C := RX15) (T := TX15) (N := 59) hx hb hts it_15 hown hK hP hL_h0 hF_480 rfl 3 (by decide) (hts _ kt_724) (fun _ h9 => h9) rfl dX15_entry_236 ?_
                    refine lv_iconst (v := 1) hx hb dX15_entry_239 (by decide) ?_
                    refine lv_iadd hx hb dX15_entry_240 ?_
                    refine lv_topi (fun x_485 ex_485 => ?_)
                    obtain rfl : x_485 = (nI (ze + 1)) := ex_485.trans (nI_add ze 1)
                    have htyU := hty
                    have hTU := hT_h0
                    obtain ⟨hq_486, hq_487⟩ := hW.octs hi_377 ht_378
                    obtain ⟨hq_488, hq_489⟩ := hW.octs hi_406 ht_407
                    refine pg_put (ci := 15) (v := .int (nI (ze + 1))) (ty := .int) (C := RX15) (T := TX15) (N := 59) hx hb hts it_15 tyX15 tyX15_ok nmX15 hown hK hP hD hS hL_h0 hF_480 rfl 3 (by decide) (hts _ kt_724) (fun _ h9 => h9) rfl (by decide +kernel) (rfl) (rfl) (Nat.le_of_ble_eq_true rfl) dX15_entry_241 (fun H locs hP hD hS => ?_)
                    obtain ⟨F_490, he_491, hP, hD, hR⟩ : ∃ G, G = va_up F_472 h0 (.inr (15, (.ref ta) :: (.int 0) :: (.int (nI zo_29)) :: (.int (nI (ze + 1))) :: (.ref ou) :: (.ref so) :: (.ref ad) :: (.ref na) :: (.ref va) :: (.ref lc) :: (.ref dm) :: (.int (nI fm)) :: (.int (nI sn)) :: (.ref tg) :: (.int v14_30) :: (.int v15_31) :: (.ref pe) :: (.int v17_32) :: (.int v18_33) :: (.int v19_34) :: (.int v20_35) :: (.int v21_36) :: (.int v22_37) :: (.ref ml) :: (.ref bg) :: (.ref co) :: (.ref sp) :: (.ref nb0) :: (.ref nb1) :: (.ref nb2) :: (.int (nI nf)) :: (.int (nI bd)) :: (.int (nI mm)) :: (.int v33_38) :: (.ref pl) :: (.ref se) :: (.ref ke) :: (.ref wi) :: (.ref hs) :: (.ref mo) :: (.ref po) :: (.ref nu) :: (.ref pr) :: (.ref sq) :: (.ref xa) :: (.ref sa) :: (.ref n64) :: (.ref m64) :: (.ref ex) :: (.ref wh) :: (.ref sd) :: (.ref tk) :: (.int v52_39) :: (.int v53_40) :: (.int v54_41) :: (.ref hd) :: (.ref ak) :: (.ref ho) :: (.ref ot) :: [])) ∧ va_P (dC, dI) vwCl (va_pl L G) H ∧ va_D A (va_pl L G) ∧ FR ty [ρ, ρ + 3, ρ + 31, ρ + 4 + ze + 100, ρ + 50 + ze + 100] F G := ⟨_, rfl, hP, hD, hR.up hT_h0 (by simp)⟩
                    have hF_492 : F_490 ta = .inl (cs 17, 3000, .inl gt) := by rw [he_491, up_ne (ne_ty ht_81 hT_h0 (by simp))]; exact hF_479
                    have hF_493 : F_490 so = .inl (cs 16, 40, .inl (upd fs ze x1)) := by rw [he_491, up_ne (ne_ty ht_84 hT_h0 (by simp))]; exact hF_478
                    have hF_494 : F_490 ad = .inl (cs 16, 40, .inl (upd fd ze x2)) := by rw [he_491, up_ne (ne_ty ht_87 hT_h0 (by simp))]; exact hF_477
                    have hF_495 : F_490 b_372 = .inr (14, [.ref r_373, .int (nI (kend - 0))]) := by rw [he_491, up_ne (ne_ty ht_376 hT_h0 (by simp))]; exact hF_482
                    have hF_496 : F_490 r_373 = .inl (cs 17, 60, .inl fc_387) := by rw [he_491, up_ne (ne_ty ht_378 hT_h0 (by simp))]; exact hF_483
                    have hF_497 : F_490 b_401 = .inr (14, [.ref r_402, .int (nI (zt - (j + 1)))]) := by rw [he_491, up_ne (ne_ty ht_405 hT_h0 (by simp))]; exact hq_474
                    have hF_498 : F_490 r_402 = .inl (cs 17, 700, .inl fc_473) := by rw [he_491, up_ne (ne_ty ht_407 hT_h0 (by simp))]; exact hq_475
                    obtain ⟨ty, hty, hT_h0, hW, hO, hR⟩ : ∃ t9 : TyM, t9 = rtf ty h0 (15, ρ, [ta, ou, so, ad, na, va, lc, dm, tg, pe, ml, bg, co, sp, nb0, nb1, nb2, pl, se, ke, wi, hs, mo, po, nu, pr, sq, xa, sa, n64, m64, ex, wh, sd, tk, hd, ak, ho, ot, sx, s0, s1, s2, nf, bd, mm, fm, sn, hg, gc, gv, (ze + 1), 0]) ∧ t9 h0 = (15, ρ, [ta, ou, so, ad, na, va, lc, dm, tg, pe, ml, bg, co, sp, nb0, nb1, nb2, pl, se, ke, wi, hs, mo, po, nu, pr, sq, xa, sa, n64, m64, ex, wh, sd, tk, hd, ak, ho, ot, sx, s0, s1, s2, nf, bd, mm, fm, sn, hg, gc, gv, (ze + 1), 0]) ∧ WTm t9 gm L ∧ OKm cs t9 gm L F_490 ∧ FR t9 [ρ, ρ + 3, ρ + 31, ρ + 4 + ze + 100, ρ + 50 + ze + 100] F F_490 := ⟨_, rfl, rtf_self, hW.ze hL_h0 hT_h0, (by rw [he_491]; exact OKm.retype hO hT_h0 (shm.mod rtf_self ⟨zo_29, v14_30, v15_31, v17_32, v18_33, v19_34, v20_35, v21_36, v22_37, v33_38, v52_39, v53_40, v54_41, rfl, (by first | omega | assumption | exact Or.inl rfl | exact Or.inr rfl), (by first | omega | assumption | exact Or.inl rfl | exact Or.inr rfl), (by first | omega | assumption | exact Or.inl rfl | exact Or.inr rfl), (by first | omega | assumption | exact Or.inl rfl | exact Or.inr rfl), (by first | omega | assumption | exact Or.inl rfl | exact Or.inr rfl)⟩)), FR.retype hT_h0 hR⟩
                    have hF_499 : F_490 h0 = .inr (15, (.ref ta) :: (.int 0) :: (.int (nI zo_29)) :: (.int (nI (ze + 1))) :: (.ref ou) :: (.ref so) :: (.ref ad) :: (.ref na) :: (.ref va) :: (.ref lc) :: (.ref dm) :: (.int (nI fm)) :: (.int (nI sn)) :: (.ref tg) :: (.int v14_30) :: (.int v15_31) :: (.ref pe) :: (.int v17_32) :: (.int v18_33) :: (.int v19_34) :: (.int v20_35) :: (.int v21_36) :: (.int v22_37) :: (.ref ml) :: (.ref bg) :: (.ref co) :: (.ref sp) :: (.ref nb0) :: (.ref nb1) :: (.ref nb2) :: (.int (nI nf)) :: (.int (nI bd)) :: (.int (nI mm)) :: (.int v33_38) :: (.ref pl) :: (.ref se) :: (.ref ke) :: (.ref wi) :: (.ref hs) :: (.ref mo) :: (.ref po) :: (.ref nu) :: (.ref pr) :: (.ref sq) :: (.ref xa) :: (.ref sa) :: (.ref n64) :: (.ref m64) :: (.ref ex) :: (.ref wh) :: (.ref sd) :: (.ref tk) :: (.int v52_39) :: (.int v53_40) :: (.int v54_41) :: (.ref hd) :: (.ref ak) :: (.ref ho) :: (.ref ot) :: []) := by rw [he_491]; exact up_self
                    obtain ⟨hq_522, hq_523, hq_524, hq_525, hq_526, hgO, hgA, hgB, hq_527⟩ := hW.sc hL_h0 hT_h0
                    refine lv_aload_n hx hb dX15_entry_244 rfl (lv_at hl 4 rfl) ?_
                    refine pg_get (ci := 15) (v := .int (nI (ze + 1))) (C := RX15) (T := TX15) (N := 59) hx hb hts it_15 hown hK hP hL_h0 hF_499 rfl 3 (by decide) (hts _ kt_724) (fun _ h9 => h9) rfl dX15_entry_245 ?_
                    refine W.widen (k := 0) (n := 0) (by omega) (by omega) ?_
                    have hR0 := FR.unre hT00 htyU (FR.unre hTU hty hR)
                    have hQna := hR0 na (by rw [hTn0]; simp only [List.mem_cons, List.not_mem_nil, or_false]; omega)
                    have hQva := hR0 va (by rw [hTv0]; simp only [List.mem_cons, List.not_mem_nil, or_false]; omega)
                    exact W.iret (v := (nI (ze + 1))) hx hb hr (fun t ht hWm => ⟨⟨(nI (ze + 1)), (ze + 1), rfl, (Or.inr (Or.inr ⟨hc40, hs5.elim (fun h => val_y1 hx0 hx4 (hs5n h) (by rw [← hk0e h]; exact hn1)) (fun h => val_y2 hx0 hx4 (hs5x h) (hfst h) (by rw [← hk1e h]; exact hn1) (ho1 h).1), rfl, rfl⟩)), ⟨F_490, ty, (by rw [hty, htyU, rtf_rtf2]), QTm.mk ht hP hD hO hR, hW, ⟨(x1, x2, kend - 0, fc_387, zt - (j + 1), fc_473), DIRM.add hDM hO0 hW0 hLn0 hTn0 hLv0 hTv0 (by omega) hR0 hQna hQva (fun k hk => ⟨by simp only [List.mem_cons, List.not_mem_nil, or_false]; omega, by simp only [List.mem_cons, List.not_mem_nil, or_false]; omega⟩) hd1 hd2 hd3 hd4 hF_493 hF_494 ⟨b_372, r_373, hbf_374, hF_495, hF_496, by show kend - 0 ≤ 60; omega⟩ ⟨b_401, r_402, hbf_403, hF_497, hF_498, by show zt - (j + 1) ≤ 700; have h9 := (ho1 h51).2; omega⟩, fun _ => enx3 (hk1e h51) (hs5x h51) (hfst h51) hn1 (ho1 h51).1 hq_390 hq_476⟩⟩⟩, hS.F ht⟩) hS.2.2 dX15_entry_248
                ·
                  refine lv_iload_n hx hb dX15_entry_118 rfl (lv_at hl 5 rfl) ?_
                  refine lv_iconst (v := 2) hx hb dX15_entry_119 (by decide) ?_
                  refine lv_icmp_ne (tgt := 138) hx hb dX15_entry_120 (by decide) (fun c_528 => ?_) (fun c_528 => ?_)
                  ·
                    refine lv_iload_n hx hb dX15_entry_138 rfl (lv_at hl 5 rfl) ?_
                    refine lv_if_ne (tgt := 156) hx hb dX15_entry_139 (by decide) (fun c_529 => ?_) (fun c_529 => ?_)
                    ·
                      refine W.widen (k := 0) (n := 0) (by omega) (by omega) ?_
                      exact jn_348 () F_344 (⟨fun h => absurd (hs5x h) (fun q => q.elim c_529 c_528), hn3, hn3so, hn3ad⟩) hO hR _ _ hP hD hS ls (lv_sub hl [0, 1, 2, 3, 4, 5, 6] rfl)
                    ·
                      have h51 : s5 = 1 := hs5.resolve_left (fun q => hs5n q (Or.inl c_529))
                      have hkz := hn2 h51
                      refine lv_iload_n hx hb dX15_entry_142 rfl (lv_at hl 3 rfl) ?_
                      refine lv_iload hx hb dX15_entry_143 (lv_at hl 2 rfl) ?_
                      refine lv_isub hx hb dX15_entry_145 ?_
                      refine lv_topi (fun x_530 ex_530 => ?_)
                      obtain rfl : x_530 = (nI (zt - j)) := ex_530.trans (pk_sub (a := zt) (b := j) (by omega))
                      refine lv_iconst (v := 1) hx hb dX15_entry_146 (by decide) ?_
                      refine lv_isub hx hb dX15_entry_147 ?_
                      refine lv_topi (fun x_531 ex_531 => ?_)
                      obtain rfl : x_531 = (nI ((zt - j) - 1)) := ex_531.trans (pk_sub (a := (zt - j)) (b := 1) (by omega))
                      refine lv_sipush (v := 700) hx hb dX15_entry_148 (by decide) ?_
                      refine lv_icmp_le (tgt := 156) hx hb dX15_entry_151 (by decide) (fun c_532 => ?_) (fun c_532 => ?_)
                      ·
                        have hi_533 : ((zt - j) - 1) ≤ 700 := (nI_leI (a := ((zt - j) - 1)) (b := 700) (by omega) (by omega)).mp c_532
                        refine W.widen (k := 0) (n := 0) (by omega) (by omega) ?_
                        exact jn_348 () F_344 (⟨fun _ => ⟨⟨by omega, fun q => absurd (q.symm.trans c_529) (by decide), fun _ => by omega⟩, by omega⟩, hn3, hn3so, hn3ad⟩) hO hR _ _ hP hD hS ls (lv_sub hl [0, 1, 2, 3, 4, 5, 6] rfl)
                      ·
                        have hi_534 : 700 < ((zt - j) - 1) := Nat.not_le.mp (fun q => c_532 ((nI_leI (a := ((zt - j) - 1)) (b := 700) (by omega) (by omega)).mpr q))
                        refine lv_iconst (v := (-1)) hx hb dX15_entry_154 (by decide) ?_
                        refine W.widen (k := 0) (n := 0) (by omega) (by omega) ?_
                        have hR0 := FR.unre hT00 hty hR
                        have hQna := hR0 na (by rw [hTn0]; simp only [List.mem_cons, List.not_mem_nil, or_false]; omega)
                        have hQva := hR0 va (by rw [hTv0]; simp only [List.mem_cons, List.not_mem_nil, or_false]; omega)
                        exact W.iret (v := (-1)) hx hb hr (fun t ht hWm => ⟨⟨(-1), ze, rfl, (Or.inr (Or.inl ⟨hc40, val_nv (Or.inl c_529) (hfst h51) (fun q => absurd (q.2.2 (fun w => absurd (w.symm.trans c_529) (by decide))) (by omega)), rfl, rfl⟩)), ⟨F_344, ty, hty, QTm.mk ht hP hD hO hR, hW, ⟨(0, 0, 0, fun _ => 0, 0, fun _ => 0), DIRM.same (DIRM.fr hDM hO0 hW0 hLn0 hTn0 hLv0 hTv0 (by omega) hR0 (hn3so.trans hd1.symm) (hn3ad.trans hd2.symm) hQna hQva (fun k hk => ⟨by simp only [List.mem_cons, List.not_mem_nil, or_false]; omega, by simp only [List.mem_cons, List.not_mem_nil, or_false]; omega⟩)), fun q => absurd q (by omega)⟩⟩⟩, hS.F ht⟩) hS.2.2 dX15_entry_155
                  ·
                    have h51 : s5 = 1 := hs5.resolve_left (fun q => hs5n q (Or.inr c_528))
                    have hkz := hn2 h51
                    refine lv_aload_n hx hb dX15_entry_123 rfl (lv_at hl 4 rfl) ?_
                    refine pg_get (ci := 15) (v := .ref ta) (C := RX15) (T := TX15) (N := 59) hx hb hts it_15 hown hK hP hL_h0 hn3 rfl 0 (by decide) (hts _ kt_1009) (fun _ h9 => h9) rfl dX15_entry_124 ?_
                    refine lv_iload hx hb dX15_entry_127 (lv_at hl 2 rfl) ?_
                    refine lv_iconst (v := 1) hx hb dX15_entry_129 (by decide) ?_
                    refine lv_iadd hx hb dX15_entry_130 ?_
                    refine lv_topi (fun x_535 ex_535 => ?_)
                    obtain rfl : x_535 = (nI (j + 1)) := ex_535.trans (nI_add j 1)
                    refine lv_iload_n hx hb dX15_entry_131 rfl (lv_at hl 3 rfl) ?_
                    obtain ⟨hq_536, hq_537⟩ := hW.octs hi_80 ht_81
                    have hFc := pg_free hD hS hA
                    refine va_calli (va_runS (As := [.ref ta, .int (nI (j + 1)), .int (nI zt)]) (rest := []) ⟨hx, hb, hml, hown, hts⟩ (s_X14_isName_e l dC dI cs ty gm L H.size F_344 ta (ρ + 1) 3000 (j + 1) zt gt hW hi_80 ht_81 hF_347 (by first | omega | assumption | exact Or.inl rfl) (by first | omega | assumption | exact Or.inl rfl)) ⟨callB_of 3 hts (gi kt_689) rfl rfl rfl (hts _ kt_676) (hts _ kt_848) (by decide +kernel) ⟨Nat.le_of_ble_eq_true rfl, Nat.le_of_ble_eq_true rfl⟩, (hts _ kt_691)⟩ ⟨fun a U g mk q => ⟨q.1, PTm.calling q.2⟩, fun U hU hWm => ⟨rfl, PTm.mk hU hWm hP hK hD hE hO⟩⟩ rfl rfl hl.1 rfl (lv_room (Nat.le_of_ble_eq_true rfl)) dX15_entry_132 ⟨by show _ + 0 ≤ 0; omega, by show _ + 0 ≤ 0; omega⟩) hS (fun q _ h => hFc q h) hFc (fun r_538 u t H1 locs ht hvm hw hB hz1 hk1 hS => ?_)
                    obtain ⟨F_539, hB1⟩ := hB
                    obtain rfl : F_344 = F_539 := (funext (fun a => hB1.2.2.2 a List.not_mem_nil)).symm
                    obtain ⟨hP, hD, hO, hR⟩ := QTm.back hB1 ht hFc hR (fun q h => absurd h List.not_mem_nil)
                    generalize H1 = H at hP hS ⊢
                    have hw : r_538 = (if NM gt (j + 1) zt = true then 1 else 0) := hw
                    have hw_540 := hw
                    refine lv_if_eq (tgt := 154) hx hb dX15_entry_135 (by decide) (fun c_541 => ?_) (fun c_541 => ?_)
                    ·
                      refine lv_iconst (v := (-1)) hx hb dX15_entry_154 (by decide) ?_
                      refine W.widen (k := 0) (n := 0) (by omega) (by omega) ?_
                      have hR0 := FR.unre hT00 hty hR
                      have hQna := hR0 na (by rw [hTn0]; simp only [List.mem_cons, List.not_mem_nil, or_false]; omega)
                      have hQva := hR0 va (by rw [hTv0]; simp only [List.mem_cons, List.not_mem_nil, or_false]; omega)
                      exact W.iret (v := (-1)) hx hb hr (fun t ht hWm => ⟨⟨(-1), ze, rfl, (Or.inr (Or.inl ⟨hc40, val_nv (Or.inr c_528) (hfst h51) (fun q => ifb0 hw_540 c_541 (q.2.1 c_528)), rfl, rfl⟩)), ⟨F_344, ty, hty, QTm.mk ht hP hD hO hR, hW, ⟨(0, 0, 0, fun _ => 0, 0, fun _ => 0), DIRM.same (DIRM.fr hDM hO0 hW0 hLn0 hTn0 hLv0 hTv0 (by omega) hR0 (hn3so.trans hd1.symm) (hn3ad.trans hd2.symm) hQna hQva (fun k hk => ⟨by simp only [List.mem_cons, List.not_mem_nil, or_false]; omega, by simp only [List.mem_cons, List.not_mem_nil, or_false]; omega⟩)), fun q => absurd q (by omega)⟩⟩⟩, hS.F ht⟩) hS.2.2 dX15_entry_155
                    ·
                      refine lv_iload_n hx hb dX15_entry_138 rfl (lv_at hl 5 rfl) ?_
                      refine lv_if_ne (tgt := 156) hx hb dX15_entry_139 (by decide) (fun c_542 => ?_) (fun c_542 => ?_)
                      ·
                        refine W.widen (k := 0) (n := 0) (by omega) (by omega) ?_
                        exact jn_348 () F_344 (⟨fun _ => ⟨⟨by omega, fun _ => ifb1 hw_540 c_541, fun q => absurd c_528 q⟩, by have h9 := nm_60 (ifb1 hw_540 c_541); omega⟩, hn3, hn3so, hn3ad⟩) hO hR _ _ hP hD hS ls (lv_sub hl [0, 1, 2, 3, 4, 5, 6] rfl)
                      ·
                        have h51 : s5 = 1 := hs5.resolve_left (fun q => hs5n q (Or.inl c_542))
                        have hkz := hn2 h51
                        refine lv_iload_n hx hb dX15_entry_142 rfl (lv_at hl 3 rfl) ?_
                        refine lv_iload hx hb dX15_entry_143 (lv_at hl 2 rfl) ?_
                        refine lv_isub hx hb dX15_entry_145 ?_
                        refine lv_topi (fun x_543 ex_543 => ?_)
                        obtain rfl : x_543 = (nI (zt - j)) := ex_543.trans (pk_sub (a := zt) (b := j) (by omega))
                        refine lv_iconst (v := 1) hx hb dX15_entry_146 (by decide) ?_
                        refine lv_isub hx hb dX15_entry_147 ?_
                        refine lv_topi (fun x_544 ex_544 => ?_)
                        obtain rfl : x_544 = (nI ((zt - j) - 1)) := ex_544.trans (pk_sub (a := (zt - j)) (b := 1) (by omega))
                        refine lv_sipush (v := 700) hx hb dX15_entry_148 (by decide) ?_
                        refine lv_icmp_le (tgt := 156) hx hb dX15_entry_151 (by decide) (fun c_545 => ?_) (fun c_545 => ?_)
                        ·
                          have hi_546 : ((zt - j) - 1) ≤ 700 := (nI_leI (a := ((zt - j) - 1)) (b := 700) (by omega) (by omega)).mp c_545
                          refine W.widen (k := 0) (n := 0) (by omega) (by omega) ?_
                          exact jn_348 () F_344 (⟨fun _ => ⟨⟨by omega, fun q => absurd (q.symm.trans c_542) (by decide), fun _ => by omega⟩, by omega⟩, hn3, hn3so, hn3ad⟩) hO hR _ _ hP hD hS ls (lv_sub hl [0, 1, 2, 3, 4, 5, 6] rfl)
                        ·
                          have hi_547 : 700 < ((zt - j) - 1) := Nat.not_le.mp (fun q => c_545 ((nI_leI (a := ((zt - j) - 1)) (b := 700) (by omega) (by omega)).mpr q))
                          refine lv_iconst (v := (-1)) hx hb dX15_entry_154 (by decide) ?_
                          refine W.widen (k := 0) (n := 0) (by omega) (by omega) ?_
                          have hR0 := FR.unre hT00 hty hR
                          have hQna := hR0 na (by rw [hTn0]; simp only [List.mem_cons, List.not_mem_nil, or_false]; omega)
                          have hQva := hR0 va (by rw [hTv0]; simp only [List.mem_cons, List.not_mem_nil, or_false]; omega)
                          exact W.iret (v := (-1)) hx hb hr (fun t ht hWm => ⟨⟨(-1), ze, rfl, (Or.inr (Or.inl ⟨hc40, val_nv (Or.inl c_542) (hfst h51) (fun q => absurd (q.2.2 (fun w => absurd (w.symm.trans c_542) (by decide))) (by omega)), rfl, rfl⟩)), ⟨F_344, ty, hty, QTm.mk ht hP hD hO hR, hW, ⟨(0, 0, 0, fun _ => 0, 0, fun _ => 0), DIRM.same (DIRM.fr hDM hO0 hW0 hLn0 hTn0 hLv0 hTv0 (by omega) hR0 (hn3so.trans hd1.symm) (hn3ad.trans hd2.symm) hQna hQva (fun k hk => ⟨by simp only [List.mem_cons, List.not_mem_nil, or_false]; omega, by simp only [List.mem_cons, List.not_mem_nil, or_false]; omega⟩)), fun q => absurd q (by omega)⟩⟩⟩, hS.F ht⟩) hS.2.2 dX15_entry_155
              ·
                refine lv_iload hx hb dX15_entry_92 (lv_at hl 1 rfl) ?_
                refine lv_if_eq (tgt := 103) hx hb dX15_entry_94 (by decide) (fun c_548 => ?_) (fun c_548 => ?_)
                ·
                  refine lv_aload_n hx hb dX15_entry_103 rfl (lv_at hl 4 rfl) ?_
                  refine pg_get (ci := 15) (v := .ref ta) (C := RX15) (T := TX15) (N := 59) hx hb hts it_15 hown hK hP hL_h0 hb2 rfl 0 (by decide) (hts _ kt_1009) (fun _ h9 => h9) rfl dX15_entry_104 ?_
                  refine lv_iconst (v := 0) hx hb dX15_entry_107 (by decide) ?_
                  refine lv_iload hx hb dX15_entry_108 (lv_at hl 0 rfl) ?_
                  refine W.eq (g2 := F0 m 110 ls [.int (nI kend), .int (nI 0), .ref ta]) rfl ?_
                  obtain ⟨hq_549, hq_550⟩ := hW.octs hi_80 ht_81
                  have hFc := pg_free hD hS hA
                  refine va_calli (va_runS (As := [.ref ta, .int (nI 0), .int (nI kend)]) (rest := []) ⟨hx, hb, hml, hown, hts⟩ (s_X14_isName_e l dC dI cs ty gm L H.size F_339 ta (ρ + 1) 3000 0 kend gt hW hi_80 ht_81 hF_342 (by first | omega | assumption | exact Or.inl rfl) (by first | omega | assumption | exact Or.inl rfl)) ⟨callB_of 3 hts (gi kt_689) rfl rfl rfl (hts _ kt_676) (hts _ kt_848) (by decide +kernel) ⟨Nat.le_of_ble_eq_true rfl, Nat.le_of_ble_eq_true rfl⟩, (hts _ kt_691)⟩ ⟨fun a U g mk q => ⟨q.1, PTm.calling q.2⟩, fun U hU hWm => ⟨rfl, PTm.mk hU hWm hP hK hD hE hO⟩⟩ rfl rfl hl.1 rfl (lv_room (Nat.le_of_ble_eq_true rfl)) dX15_entry_110 ⟨by show _ + 0 ≤ 0; omega, by show _ + 0 ≤ 0; omega⟩) hS (fun q _ h => hFc q h) hFc (fun r_551 u t H1 locs ht hvm hw hB hz1 hk1 hS => ?_)
                  obtain ⟨F_552, hB1⟩ := hB
                  obtain rfl : F_339 = F_552 := (funext (fun a => hB1.2.2.2 a List.not_mem_nil)).symm
                  obtain ⟨hP, hD, hO, hR⟩ := QTm.back hB1 ht hFc hR (fun q h => absurd h List.not_mem_nil)
                  generalize H1 = H at hP hS ⊢
                  have hw : r_551 = (if NM gt 0 kend = true then 1 else 0) := hw
                  have hw_553 := hw
                  refine lv_if_ne (tgt := 118) hx hb dX15_entry_113 (by decide) (fun c_554 => ?_) (fun c_554 => ?_)
                  ·
                    refine W.widen (k := 0) (n := 0) (by omega) (by omega) ?_
                    exact jn_343 () F_339 (⟨ifb1 hw_553 c_554, nm_60 (ifb1 hw_553 c_554), fun h => absurd (h.symm.trans c_548) (by decide), hb2, hb2so, hb2ad⟩) hO hR _ _ hP hD hS ls (lv_sub hl [0, 1, 2, 3, 4, 5, 6] rfl)
                  ·
                    refine lv_iconst (v := (-1)) hx hb dX15_entry_116 (by decide) ?_
                    refine W.widen (k := 0) (n := 0) (by omega) (by omega) ?_
                    have hR0 := FR.unre hT00 hty hR
                    have hQna := hR0 na (by rw [hTn0]; simp only [List.mem_cons, List.not_mem_nil, or_false]; omega)
                    have hQva := hR0 va (by rw [hTv0]; simp only [List.mem_cons, List.not_mem_nil, or_false]; omega)
                    exact W.iret (v := (-1)) hx hb hr (fun t ht hWm => ⟨⟨(-1), ze, rfl, (Or.inr (Or.inl ⟨hc40, val_nz (hs5n c_548) (by rw [← hk0e c_548]; exact (ifb0 hw_553 c_554)), rfl, rfl⟩)), ⟨F_339, ty, hty, QTm.mk ht hP hD hO hR, hW, ⟨(0, 0, 0, fun _ => 0, 0, fun _ => 0), DIRM.same (DIRM.fr hDM hO0 hW0 hLn0 hTn0 hLv0 hTv0 (by omega) hR0 (hb2so.trans hd1.symm) (hb2ad.trans hd2.symm) hQna hQva (fun k hk => ⟨by simp only [List.mem_cons, List.not_mem_nil, or_false]; omega, by simp only [List.mem_cons, List.not_mem_nil, or_false]; omega⟩)), fun q => absurd q (by omega)⟩⟩⟩, hS.F ht⟩) hS.2.2 dX15_entry_117
                ·
                  refine lv_iload hx hb dX15_entry_97 (lv_at hl 2 rfl) ?_
                  refine lv_iload_n hx hb dX15_entry_99 rfl (lv_at hl 3 rfl) ?_
                  refine lv_icmp_eq (tgt := 116) hx hb dX15_entry_100 (by decide) (fun c_555 => ?_) (fun c_555 => ?_)
                  ·
                    have hi_556 : j = zt := (nI_eq (a := j) (b := zt) (by omega) (by omega)).mp c_555
                    refine lv_iconst (v := (-1)) hx hb dX15_entry_116 (by decide) ?_
                    refine W.widen (k := 0) (n := 0) (by omega) (by omega) ?_
                    have hR0 := FR.unre hT00 hty hR
                    have hQna := hR0 na (by rw [hTn0]; simp only [List.mem_cons, List.not_mem_nil, or_false]; omega)
                    have hQva := hR0 va (by rw [hTv0]; simp only [List.mem_cons, List.not_mem_nil, or_false]; omega)
                    exact W.iret (v := (-1)) hx hb hr (fun t ht hWm => ⟨⟨(-1), ze, rfl, (Or.inr (Or.inl ⟨hc40, val_nv (hs5x (hs5.resolve_left c_548)) (hfst (hs5.resolve_left c_548)) (fun q => q.1 (by omega)), rfl, rfl⟩)), ⟨F_339, ty, hty, QTm.mk ht hP hD hO hR, hW, ⟨(0, 0, 0, fun _ => 0, 0, fun _ => 0), DIRM.same (DIRM.fr hDM hO0 hW0 hLn0 hTn0 hLv0 hTv0 (by omega) hR0 (hb2so.trans hd1.symm) (hb2ad.trans hd2.symm) hQna hQva (fun k hk => ⟨by simp only [List.mem_cons, List.not_mem_nil, or_false]; omega, by simp only [List.mem_cons, List.not_mem_nil, or_false]; omega⟩)), fun q => absurd q (by omega)⟩⟩⟩, hS.F ht⟩) hS.2.2 dX15_entry_117
                  ·
                    have hi_557 : j ≠ zt := fun q => c_555 (by rw [q])
                    refine lv_aload_n hx hb dX15_entry_103 rfl (lv_at hl 4 rfl) ?_
                    refine pg_get (ci := 15) (v := .ref ta) (C := RX15) (T := TX15) (N := 59) hx hb hts it_15 hown hK hP hL_h0 hb2 rfl 0 (by decide) (hts _ kt_1009) (fun _ h9 => h9) rfl dX15_entry_104 ?_
                    refine lv_iconst (v := 0) hx hb dX15_entry_107 (by decide) ?_
                    refine lv_iload hx hb dX15_entry_108 (lv_at hl 0 rfl) ?_
                    refine W.eq (g2 := F0 m 110 ls [.int (nI kend), .int (nI 0), .ref ta]) rfl ?_
                    obtain ⟨hq_558, hq_559⟩ := hW.octs hi_80 ht_81
                    have hFc := pg_free hD hS hA
                    refine va_calli (va_runS (As := [.ref ta, .int (nI 0), .int (nI kend)]) (rest := []) ⟨hx, hb, hml, hown, hts⟩ (s_X14_isName_e l dC dI cs ty gm L H.size F_339 ta (ρ + 1) 3000 0 kend gt hW hi_80 ht_81 hF_342 (by first | omega | assumption | exact Or.inl rfl) (by first | omega | assumption | exact Or.inl rfl)) ⟨callB_of 3 hts (gi kt_689) rfl rfl rfl (hts _ kt_676) (hts _ kt_848) (by decide +kernel) ⟨Nat.le_of_ble_eq_true rfl, Nat.le_of_ble_eq_true rfl⟩, (hts _ kt_691)⟩ ⟨fun a U g mk q => ⟨q.1, PTm.calling q.2⟩, fun U hU hWm => ⟨rfl, PTm.mk hU hWm hP hK hD hE hO⟩⟩ rfl rfl hl.1 rfl (lv_room (Nat.le_of_ble_eq_true rfl)) dX15_entry_110 ⟨by show _ + 0 ≤ 0; omega, by show _ + 0 ≤ 0; omega⟩) hS (fun q _ h => hFc q h) hFc (fun r_560 u t H1 locs ht hvm hw hB hz1 hk1 hS => ?_)
                    obtain ⟨F_561, hB1⟩ := hB
                    obtain rfl : F_339 = F_561 := (funext (fun a => hB1.2.2.2 a List.not_mem_nil)).symm
                    obtain ⟨hP, hD, hO, hR⟩ := QTm.back hB1 ht hFc hR (fun q h => absurd h List.not_mem_nil)
                    generalize H1 = H at hP hS ⊢
                    have hw : r_560 = (if NM gt 0 kend = true then 1 else 0) := hw
                    have hw_562 := hw
                    refine lv_if_ne (tgt := 118) hx hb dX15_entry_113 (by decide) (fun c_563 => ?_) (fun c_563 => ?_)
                    ·
                      refine W.widen (k := 0) (n := 0) (by omega) (by omega) ?_
                      exact jn_343 () F_339 (⟨ifb1 hw_562 c_563, nm_60 (ifb1 hw_562 c_563), fun _ => by omega, hb2, hb2so, hb2ad⟩) hO hR _ _ hP hD hS ls (lv_sub hl [0, 1, 2, 3, 4, 5, 6] rfl)
                    ·
                      refine lv_iconst (v := (-1)) hx hb dX15_entry_116 (by decide) ?_
                      refine W.widen (k := 0) (n := 0) (by omega) (by omega) ?_
                      have hR0 := FR.unre hT00 hty hR
                      have hQna := hR0 na (by rw [hTn0]; simp only [List.mem_cons, List.not_mem_nil, or_false]; omega)
                      have hQva := hR0 va (by rw [hTv0]; simp only [List.mem_cons, List.not_mem_nil, or_false]; omega)
                      exact W.iret (v := (-1)) hx hb hr (fun t ht hWm => ⟨⟨(-1), ze, rfl, (Or.inr (Or.inl ⟨hc40, val_nn (hs5x (hs5.resolve_left c_548)) (hfst (hs5.resolve_left c_548)) (by rw [← hk1e (hs5.resolve_left c_548)]; exact (ifb0 hw_562 c_563)), rfl, rfl⟩)), ⟨F_339, ty, hty, QTm.mk ht hP hD hO hR, hW, ⟨(0, 0, 0, fun _ => 0, 0, fun _ => 0), DIRM.same (DIRM.fr hDM hO0 hW0 hLn0 hTn0 hLv0 hTv0 (by omega) hR0 (hb2so.trans hd1.symm) (hb2ad.trans hd2.symm) hQna hQva (fun k hk => ⟨by simp only [List.mem_cons, List.not_mem_nil, or_false]; omega, by simp only [List.mem_cons, List.not_mem_nil, or_false]; omega⟩)), fun q => absurd q (by omega)⟩⟩⟩, hS.F ht⟩) hS.2.2 dX15_entry_117
            ·
              refine lv_iload hx hb dX15_entry_79 (lv_at hl 0 rfl) ?_
              refine lv_if_eq (tgt := 89) hx hb dX15_entry_81 (by decide) (fun c_564 => ?_) (fun c_564 => ?_)
              ·
                refine lv_iload_n hx hb dX15_entry_89 rfl (lv_at hl 2 rfl) ?_
                refine W.widen (k := 0) (n := 0) (by omega) (by omega) ?_
                exact jn_338 (nI zt) F_103 (⟨⟨zt, Nat.le_refl _, rfl, fun h => absurd (h.symm.trans c_564) (by decide), fun _ => rfl⟩, ha2, ha2so, ha2ad⟩) hO hR _ _ hP hD hS ls (lv_sub hl [0, 1, 2, 3, 4, 5] rfl)
              ·
                refine lv_iload hx hb dX15_entry_84 (lv_at hl 1 rfl) ?_
                refine lv_goto (tgt := 90) hx hb dX15_entry_86 (by decide) ?_
                refine W.widen (k := 0) (n := 0) (by omega) (by omega) ?_
                exact jn_338 (nI j) F_103 (⟨⟨j, by omega, rfl, fun _ => rfl, fun h => absurd h c_564⟩, ha2, ha2so, ha2ad⟩) hO hR _ _ hP hD hS ls (lv_sub hl [0, 1, 2, 3, 4, 5] rfl)
          ·
            have hi_565 : j < zt := ltN (N := zt) c_336
            refine lv_aload_n hx hb dX15_entry_61 rfl (lv_at hl 3 rfl) ?_
            refine pg_get (ci := 15) (v := .ref ta) (C := RX15) (T := TX15) (N := 59) hx hb hts it_15 hown hK hP hL_h0 ha2 rfl 0 (by decide) (hts _ kt_1009) (fun _ h9 => h9) rfl dX15_entry_62 ?_
            refine lv_iload hx hb dX15_entry_65 (lv_at hl 1 rfl) ?_
            obtain ⟨hq_566, hq_567⟩ := hW.octs hi_80 ht_81
            refine pg_bald hx hb hK hP hi_80 1 hF_107 rfl (vp_in_nI (by omega) (by omega)) dX15_entry_67 ?_
            refine lv_topi (fun x_568 ex_568 => ?_)
            obtain rfl : x_568 = gt j := ex_568.trans (congrArg gt (show ((nI j) : Int32).toNatClampNeg = j from nI_clamp (by omega)))
            refine lv_bipush (v := 32) hx hb dX15_entry_68 (by decide) ?_
            refine lv_icmp_eq (tgt := 79) hx hb dX15_entry_70 (by decide) (fun c_569 => ?_) (fun c_569 => ?_)
            ·
              have hfst : s5 = 1 → FST gt 32 zt j := fun _ => ⟨by omega, ha3, Or.inr c_569⟩
              have hF_572 : F ta = .inl (cs 17, 3000, .inl gt) := (hR ta (by rw [ht_81]; simp only [List.mem_cons, List.not_mem_nil, or_false]; omega)).symm.trans hF_107
              refine W.widen (k := 0) (n := 0) (by omega) (by omega) ?_
              refine pl_cutm (σ := Int32) A (dC, dI) cs ty gm L [ρ, ρ + 3, ρ + 31, ρ + 4 + ze + 100, ρ + 50 + ze + 100] F 90 7 (fun s6 => [(5, .int s5), (4, .int (nI j)), (3, .int (nI zt)), (0, .ref h0), (1, .int x1), (2, .int x2)]) (fun s6 => [.int s6]) (fun s6 FF => (∃ k : Nat, k ≤ zt ∧ s6 = nI k ∧ (s5 = 1 → k = j) ∧ (s5 = 0 → k = zt)) ∧ FF h0 = .inr (15, (.ref ta) :: (.int 0) :: (.int (nI zo_29)) :: (.int (nI ze)) :: (.ref ou) :: (.ref so) :: (.ref ad) :: (.ref na) :: (.ref va) :: (.ref lc) :: (.ref dm) :: (.int (nI fm)) :: (.int (nI sn)) :: (.ref tg) :: (.int v14_30) :: (.int v15_31) :: (.ref pe) :: (.int v17_32) :: (.int v18_33) :: (.int v19_34) :: (.int v20_35) :: (.int v21_36) :: (.int v22_37) :: (.ref ml) :: (.ref bg) :: (.ref co) :: (.ref sp) :: (.ref nb0) :: (.ref nb1) :: (.ref nb2) :: (.int (nI nf)) :: (.int (nI bd)) :: (.int (nI mm)) :: (.int v33_38) :: (.ref pl) :: (.ref se) :: (.ref ke) :: (.ref wi) :: (.ref hs) :: (.ref mo) :: (.ref po) :: (.ref nu) :: (.ref pr) :: (.ref sq) :: (.ref xa) :: (.ref sa) :: (.ref n64) :: (.ref m64) :: (.ref ex) :: (.ref wh) :: (.ref sd) :: (.ref tk) :: (.int v52_39) :: (.int v53_40) :: (.int v54_41) :: (.ref hd) :: (.ref ak) :: (.ref ho) :: (.ref ot) :: []) ∧ FF so = .inl (cs 16, 40, .inl fs) ∧ FF ad = .inl (cs 16, 40, .inl fd)) ?_ (fun jn_570 => ?_)
              ·
                rintro s6 F_571 hv_573 hO hR H locs hP hD hS ls hl
                have hl : lv_has ls 7 [(5, .int s5), (4, .int (nI j)), (3, .int (nI zt)), (0, .ref h0), (1, .int x1), (2, .int x2)] := hl
                have hv_573 : (∃ k : Nat, k ≤ zt ∧ s6 = nI k ∧ (s5 = 1 → k = j) ∧ (s5 = 0 → k = zt)) ∧ F_571 h0 = .inr (15, (.ref ta) :: (.int 0) :: (.int (nI zo_29)) :: (.int (nI ze)) :: (.ref ou) :: (.ref so) :: (.ref ad) :: (.ref na) :: (.ref va) :: (.ref lc) :: (.ref dm) :: (.int (nI fm)) :: (.int (nI sn)) :: (.ref tg) :: (.int v14_30) :: (.int v15_31) :: (.ref pe) :: (.int v17_32) :: (.int v18_33) :: (.int v19_34) :: (.int v20_35) :: (.int v21_36) :: (.int v22_37) :: (.ref ml) :: (.ref bg) :: (.ref co) :: (.ref sp) :: (.ref nb0) :: (.ref nb1) :: (.ref nb2) :: (.int (nI nf)) :: (.int (nI bd)) :: (.int (nI mm)) :: (.int v33_38) :: (.ref pl) :: (.ref se) :: (.ref ke) :: (.ref wi) :: (.ref hs) :: (.ref mo) :: (.ref po) :: (.ref nu) :: (.ref pr) :: (.ref sq) :: (.ref xa) :: (.ref sa) :: (.ref n64) :: (.ref m64) :: (.ref ex) :: (.ref wh) :: (.ref sd) :: (.ref tk) :: (.int v52_39) :: (.int v53_40) :: (.int v54_41) :: (.ref hd) :: (.ref ak) :: (.ref ho) :: (.ref ot) :: []) ∧ F_571 so = .inl (cs 16, 40, .inl fs) ∧ F_571 ad = .inl (cs 16, 40, .inl fd) := hv_573
                refine W.eq (g2 := F0 m 90 ls [.int s6]) rfl ?_
                have hF_574 : F_571 ta = .inl (cs 17, 3000, .inl gt) := (hR ta (by rw [ht_81]; simp only [List.mem_cons, List.not_mem_nil, or_false]; omega)).trans hF_572
                obtain ⟨⟨kend, hke, eke, hk1e, hk0e⟩, hb2⟩ := hv_573
                subst eke
                refine W.eq (g2 := F0 m 90 ls [.int (nI kend)]) rfl ?_
                obtain ⟨hb2, hb2so, hb2ad⟩ := hb2
                refine lv_istore (lv' := [(6, .int (nI kend)), (5, .int s5), (4, .int (nI j)), (3, .int (nI zt)), (0, .ref h0), (1, .int x1), (2, .int x2)]) hx hb dX15_entry_90 hl (by decide) rfl (fun ls hl => ?_)
                have hF_577 : F ta = .inl (cs 17, 3000, .inl gt) := (hR ta (by rw [ht_81]; simp only [List.mem_cons, List.not_mem_nil, or_false]; omega)).symm.trans hF_574
                refine W.widen (k := 0) (n := 0) (by omega) (by omega) ?_
                refine pl_cutm (σ := Unit) A (dC, dI) cs ty gm L [ρ, ρ + 3, ρ + 31, ρ + 4 + ze + 100, ρ + 50 + ze + 100] F 118 7 (fun u0 => [(6, .int (nI kend)), (5, .int s5), (4, .int (nI j)), (3, .int (nI zt)), (0, .ref h0), (1, .int x1), (2, .int x2)]) (fun u0 => []) (fun u0 FF => NM gt 0 kend = true ∧ kend ≤ 60 ∧ (s5 = 1 → j < zt) ∧ FF h0 = .inr (15, (.ref ta) :: (.int 0) :: (.int (nI zo_29)) :: (.int (nI ze)) :: (.ref ou) :: (.ref so) :: (.ref ad) :: (.ref na) :: (.ref va) :: (.ref lc) :: (.ref dm) :: (.int (nI fm)) :: (.int (nI sn)) :: (.ref tg) :: (.int v14_30) :: (.int v15_31) :: (.ref pe) :: (.int v17_32) :: (.int v18_33) :: (.int v19_34) :: (.int v20_35) :: (.int v21_36) :: (.int v22_37) :: (.ref ml) :: (.ref bg) :: (.ref co) :: (.ref sp) :: (.ref nb0) :: (.ref nb1) :: (.ref nb2) :: (.int (nI nf)) :: (.int (nI bd)) :: (.int (nI mm)) :: (.int v33_38) :: (.ref pl) :: (.ref se) :: (.ref ke) :: (.ref wi) :: (.ref hs) :: (.ref mo) :: (.ref po) :: (.ref nu) :: (.ref pr) :: (.ref sq) :: (.ref xa) :: (.ref sa) :: (.ref n64) :: (.ref m64) :: (.ref ex) :: (.ref wh) :: (.ref sd) :: (.ref tk) :: (.int v52_39) :: (.int v53_40) :: (.int v54_41) :: (.ref hd) :: (.ref ak) :: (.ref ho) :: (.ref ot) :: []) ∧ FF so = .inl (cs 16, 40, .inl fs) ∧ FF ad = .inl (cs 16, 40, .inl fd)) ?_ (fun jn_575 => ?_)
                ·
                  rintro u0 F_576 hv_578 hO hR H locs hP hD hS ls hl
                  have hl : lv_has ls 7 [(6, .int (nI kend)), (5, .int s5), (4, .int (nI j)), (3, .int (nI zt)), (0, .ref h0), (1, .int x1), (2, .int x2)] := hl
                  have hv_578 : NM gt 0 kend = true ∧ kend ≤ 60 ∧ (s5 = 1 → j < zt) ∧ F_576 h0 = .inr (15, (.ref ta) :: (.int 0) :: (.int (nI zo_29)) :: (.int (nI ze)) :: (.ref ou) :: (.ref so) :: (.ref ad) :: (.ref na) :: (.ref va) :: (.ref lc) :: (.ref dm) :: (.int (nI fm)) :: (.int (nI sn)) :: (.ref tg) :: (.int v14_30) :: (.int v15_31) :: (.ref pe) :: (.int v17_32) :: (.int v18_33) :: (.int v19_34) :: (.int v20_35) :: (.int v21_36) :: (.int v22_37) :: (.ref ml) :: (.ref bg) :: (.ref co) :: (.ref sp) :: (.ref nb0) :: (.ref nb1) :: (.ref nb2) :: (.int (nI nf)) :: (.int (nI bd)) :: (.int (nI mm)) :: (.int v33_38) :: (.ref pl) :: (.ref se) :: (.ref ke) :: (.ref wi) :: (.ref hs) :: (.ref mo) :: (.ref po) :: (.ref nu) :: (.ref pr) :: (.ref sq) :: (.ref xa) :: (.ref sa) :: (.ref n64) :: (.ref m64) :: (.ref ex) :: (.ref wh) :: (.ref sd) :: (.ref tk) :: (.int v52_39) :: (.int v53_40) :: (.int v54_41) :: (.ref hd) :: (.ref ak) :: (.ref ho) :: (.ref ot) :: []) ∧ F_576 so = .inl (cs 16, 40, .inl fs) ∧ F_576 ad = .inl (cs 16, 40, .inl fd) := hv_578
                  refine W.eq (g2 := F0 m 118 ls []) rfl ?_
                  have hF_579 : F_576 ta = .inl (cs 17, 3000, .inl gt) := (hR ta (by rw [ht_81]; simp only [List.mem_cons, List.not_mem_nil, or_false]; omega)).trans hF_577
                  obtain ⟨hn1, hn6, hn2, hn3⟩ := hv_578
                  obtain ⟨hn3, hn3so, hn3ad⟩ := hn3
                  have hF_582 : F ta = .inl (cs 17, 3000, .inl gt) := (hR ta (by rw [ht_81]; simp only [List.mem_cons, List.not_mem_nil, or_false]; omega)).symm.trans hF_579
                  refine W.widen (k := 0) (n := 0) (by omega) (by omega) ?_
                  refine pl_cutm (σ := Unit) A (dC, dI) cs ty gm L [ρ, ρ + 3, ρ + 31, ρ + 4 + ze + 100, ρ + 50 + ze + 100] F 156 7 (fun u0 => [(6, .int (nI kend)), (5, .int s5), (4, .int (nI j)), (3, .int (nI zt)), (0, .ref h0), (1, .int x1), (2, .int x2)]) (fun u0 => []) (fun u0 FF => (s5 = 1 → ISV x1 gt zt j ∧ zt - j - 1 ≤ 700) ∧ FF h0 = .inr (15, (.ref ta) :: (.int 0) :: (.int (nI zo_29)) :: (.int (nI ze)) :: (.ref ou) :: (.ref so) :: (.ref ad) :: (.ref na) :: (.ref va) :: (.ref lc) :: (.ref dm) :: (.int (nI fm)) :: (.int (nI sn)) :: (.ref tg) :: (.int v14_30) :: (.int v15_31) :: (.ref pe) :: (.int v17_32) :: (.int v18_33) :: (.int v19_34) :: (.int v20_35) :: (.int v21_36) :: (.int v22_37) :: (.ref ml) :: (.ref bg) :: (.ref co) :: (.ref sp) :: (.ref nb0) :: (.ref nb1) :: (.ref nb2) :: (.int (nI nf)) :: (.int (nI bd)) :: (.int (nI mm)) :: (.int v33_38) :: (.ref pl) :: (.ref se) :: (.ref ke) :: (.ref wi) :: (.ref hs) :: (.ref mo) :: (.ref po) :: (.ref nu) :: (.ref pr) :: (.ref sq) :: (.ref xa) :: (.ref sa) :: (.ref n64) :: (.ref m64) :: (.ref ex) :: (.ref wh) :: (.ref sd) :: (.ref tk) :: (.int v52_39) :: (.int v53_40) :: (.int v54_41) :: (.ref hd) :: (.ref ak) :: (.ref ho) :: (.ref ot) :: []) ∧ FF so = .inl (cs 16, 40, .inl fs) ∧ FF ad = .inl (cs 16, 40, .inl fd)) ?_ (fun jn_580 => ?_)
                  ·
                    rintro u0 F_581 hv_583 hO hR H locs hP hD hS ls hl
                    have hl : lv_has ls 7 [(6, .int (nI kend)), (5, .int s5), (4, .int (nI j)), (3, .int (nI zt)), (0, .ref h0), (1, .int x1), (2, .int x2)] := hl
                    have hv_583 : (s5 = 1 → ISV x1 gt zt j ∧ zt - j - 1 ≤ 700) ∧ F_581 h0 = .inr (15, (.ref ta) :: (.int 0) :: (.int (nI zo_29)) :: (.int (nI ze)) :: (.ref ou) :: (.ref so) :: (.ref ad) :: (.ref na) :: (.ref va) :: (.ref lc) :: (.ref dm) :: (.int (nI fm)) :: (.int (nI sn)) :: (.ref tg) :: (.int v14_30) :: (.int v15_31) :: (.ref pe) :: (.int v17_32) :: (.int v18_33) :: (.int v19_34) :: (.int v20_35) :: (.int v21_36) :: (.int v22_37) :: (.ref ml) :: (.ref bg) :: (.ref co) :: (.ref sp) :: (.ref nb0) :: (.ref nb1) :: (.ref nb2) :: (.int (nI nf)) :: (.int (nI bd)) :: (.int (nI mm)) :: (.int v33_38) :: (.ref pl) :: (.ref se) :: (.ref ke) :: (.ref wi) :: (.ref hs) :: (.ref mo) :: (.ref po) :: (.ref nu) :: (.ref pr) :: (.ref sq) :: (.ref xa) :: (.ref sa) :: (.ref n64) :: (.ref m64) :: (.ref ex) :: (.ref wh) :: (.ref sd) :: (.ref tk) :: (.int v52_39) :: (.int v53_40) :: (.int v54_41) :: (.ref hd) :: (.ref ak) :: (.ref ho) :: (.ref ot) :: []) ∧ F_581 so = .inl (cs 16, 40, .inl fs) ∧ F_581 ad = .inl (cs 16, 40, .inl fd) := hv_583
                    refine W.eq (g2 := F0 m 156 ls []) rfl ?_
                    have hF_584 : F_581 ta = .inl (cs 17, 3000, .inl gt) := (hR ta (by rw [ht_81]; simp only [List.mem_cons, List.not_mem_nil, or_false]; omega)).trans hF_582
                    obtain ⟨ho1, ho2⟩ := hv_583
                    obtain ⟨ho2, ho2so, ho2ad⟩ := ho2
                    refine lv_aload_n hx hb dX15_entry_156 rfl (lv_at hl 4 rfl) ?_
                    refine pg_get (ci := 15) (v := .ref so) (C := RX15) (T := TX15) (N := 59) hx hb hts it_15 hown hK hP hL_h0 ho2 rfl 5 (by decide) (hts _ kt_718) (fun _ h9 => h9) rfl dX15_entry_157 ?_
                    refine lv_aload_n hx hb dX15_entry_160 rfl (lv_at hl 4 rfl) ?_
                    refine pg_get (ci := 15) (v := .int (nI ze)) (C := RX15) (T := TX15) (N := 59) hx hb hts it_15 hown hK hP hL_h0 ho2 rfl 3 (by decide) (hts _ kt_724) (fun _ h9 => h9) rfl dX15_entry_161 ?_
                    refine lv_iload_n hx hb dX15_entry_164 rfl (lv_at hl 5 rfl) ?_
                    refine pg_iast hx hb hK hP hD hS hi_83 0 ho2so rfl (vp_in_nI (by omega) (by omega)) dX15_entry_165 (fun H locs hP hD hS => ?_)
                    obtain ⟨F_585, he_586, hP, hD, hO, hR⟩ : ∃ G, G = va_up F_581 so (.inl (cs 16, 40, .inl (upd fs ((nI ze)).toNatClampNeg (x1)))) ∧ va_P (dC, dI) vwCl (va_pl L G) H ∧ va_D A (va_pl L G) ∧ OKm cs ty gm L G ∧ FR ty [ρ, ρ + 3, ρ + 31, ρ + 4 + ze + 100, ρ + 50 + ze + 100] F G := ⟨_, rfl, hP, hD, hO.up (shm.ints ht_84 ⟨_, rfl⟩), hR.up ht_84 (by simp)⟩
                    have hF_587 : F_585 so = .inl (cs 16, 40, .inl (upd fs ((nI ze)).toNatClampNeg (x1))) := by rw [he_586]; exact up_self
                    have hF_588 : F_585 ta = .inl (cs 17, 3000, .inl gt) := by rw [he_586, up_ne (ne_ty ht_81 ht_84 (by simp))]; exact hF_584
                    have hF_589 : F_585 h0 = .inr (15, (.ref ta) :: (.int 0) :: (.int (nI zo_29)) :: (.int (nI ze)) :: (.ref ou) :: (.ref so) :: (.ref ad) :: (.ref na) :: (.ref va) :: (.ref lc) :: (.ref dm) :: (.int (nI fm)) :: (.int (nI sn)) :: (.ref tg) :: (.int v14_30) :: (.int v15_31) :: (.ref pe) :: (.int v17_32) :: (.int v18_33) :: (.int v19_34) :: (.int v20_35) :: (.int v21_36) :: (.int v22_37) :: (.ref ml) :: (.ref bg) :: (.ref co) :: (.ref sp) :: (.ref nb0) :: (.ref nb1) :: (.ref nb2) :: (.int (nI nf)) :: (.int (nI bd)) :: (.int (nI mm)) :: (.int v33_38) :: (.ref pl) :: (.ref se) :: (.ref ke) :: (.ref wi) :: (.ref hs) :: (.ref mo) :: (.ref po) :: (.ref nu) :: (.ref pr) :: (.ref sq) :: (.ref xa) :: (.ref sa) :: (.ref n64) :: (.ref m64) :: (.ref ex) :: (.ref wh) :: (.ref sd) :: (.ref tk) :: (.int v52_39) :: (.int v53_40) :: (.int v54_41) :: (.ref hd) :: (.ref ak) :: (.ref ho) :: (.ref ot) :: []) := by rw [he_586, up_ne (ne_ty hT_h0 ht_84 (by simp))]; exact ho2
                    have hF_590 : F_585 ad = .inl (cs 16, 40, .inl fd) := by rw [he_586, up_ne (ne_ty2 ht_87 ht_84 (by simp))]; exact ho2ad
                    have hF_591 : F_585 so = .inl (cs 16, 40, .inl (upd fs ze x1)) := by have h9 := hF_587; rwa [nI_clamp (by omega)] at h9
                    refine lv_aload_n hx hb dX15_entry_166 rfl (lv_at hl 4 rfl) ?_
                    refine pg_get (ci := 15) (v := .ref ad) (C := RX15) (T := TX15) (N := 59) hx hb hts it_15 hown hK hP hL_h0 hF_589 rfl 6 (by decide) (hts _ kt_740) (fun _ h9 => h9) rfl dX15_entry_167 ?_
                    refine lv_aload_n hx hb dX15_entry_170 rfl (lv_at hl 4 rfl) ?_
                    refine pg_get (ci := 15) (v := .int (nI ze)) (C := RX15) (T := TX15) (N := 59) hx hb hts it_15 hown hK hP hL_h0 hF_589 rfl 3 (by decide) (hts _ kt_724) (fun _ h9 => h9) rfl dX15_entry_171 ?_
                    refine lv_iload_n hx hb dX15_entry_174 rfl (lv_at hl 6 rfl) ?_
                    refine pg_iast hx hb hK hP hD hS hi_86 0 hF_590 rfl (vp_in_nI (by omega) (by omega)) dX15_entry_175 (fun H locs hP hD hS => ?_)
                    obtain ⟨F_592, he_593, hP, hD, hO, hR⟩ : ∃ G, G = va_up F_585 ad (.inl (cs 16, 40, .inl (upd fd ((nI ze)).toNatClampNeg (x2)))) ∧ va_P (dC, dI) vwCl (va_pl L G) H ∧ va_D A (va_pl L G) ∧ OKm cs ty gm L G ∧ FR ty [ρ, ρ + 3, ρ + 31, ρ + 4 + ze + 100, ρ + 50 + ze + 100] F G := ⟨_, rfl, hP, hD, hO.up (shm.ints ht_87 ⟨_, rfl⟩), hR.up ht_87 (by simp)⟩
                    have hF_594 : F_592 ad = .inl (cs 16, 40, .inl (upd fd ((nI ze)).toNatClampNeg (x2))) := by rw [he_593]; exact up_self
                    have hF_595 : F_592 so = .inl (cs 16, 40, .inl (upd fs ze x1)) := by rw [he_593, up_ne (ne_ty2 ht_84 ht_87 (by simp))]; exact hF_591
                    have hF_596 : F_592 ta = .inl (cs 17, 3000, .inl gt) := by rw [he_593, up_ne (ne_ty ht_81 ht_87 (by simp))]; exact hF_588
                    have hF_597 : F_592 h0 = .inr (15, (.ref ta) :: (.int 0) :: (.int (nI zo_29)) :: (.int (nI ze)) :: (.ref ou) :: (.ref so) :: (.ref ad) :: (.ref na) :: (.ref va) :: (.ref lc) :: (.ref dm) :: (.int (nI fm)) :: (.int (nI sn)) :: (.ref tg) :: (.int v14_30) :: (.int v15_31) :: (.ref pe) :: (.int v17_32) :: (.int v18_33) :: (.int v19_34) :: (.int v20_35) :: (.int v21_36) :: (.int v22_37) :: (.ref ml) :: (.ref bg) :: (.ref co) :: (.ref sp) :: (.ref nb0) :: (.ref nb1) :: (.ref nb2) :: (.int (nI nf)) :: (.int (nI bd)) :: (.int (nI mm)) :: (.int v33_38) :: (.ref pl) :: (.ref se) :: (.ref ke) :: (.ref wi) :: (.ref hs) :: (.ref mo) :: (.ref po) :: (.ref nu) :: (.ref pr) :: (.ref sq) :: (.ref xa) :: (.ref sa) :: (.ref n64) :: (.ref m64) :: (.ref ex) :: (.ref wh) :: (.ref sd) :: (.ref tk) :: (.int v52_39) :: (.int v53_40) :: (.int v54_41) :: (.ref hd) :: (.ref ak) :: (.ref ho) :: (.ref ot) :: []) := by rw [he_593, up_ne (ne_ty hT_h0 ht_87 (by simp))]; exact hF_589
                    have hF_598 : F_592 ad = .inl (cs 16, 40, .inl (upd fd ze x2)) := by have h9 := hF_594; rwa [nI_clamp (by omega)] at h9
                    refine lv_aload_n hx hb dX15_entry_176 rfl (lv_at hl 4 rfl) ?_
                    refine pg_get (ci := 15) (v := .ref na) (C := RX15) (T := TX15) (N := 59) hx hb hts it_15 hown hK hP hL_h0 hF_597 rfl 7 (by decide) (hts _ kt_719) (fun _ h9 => h9) rfl dX15_entry_177 ?_
                    refine lv_aload_n hx hb dX15_entry_180 rfl (lv_at hl 4 rfl) ?_
                    refine pg_get (ci := 15) (v := .int (nI ze)) (C := RX15) (T := TX15) (N := 59) hx hb hts it_15 hown hK hP hL_h0 hF_597 rfl 3 (by decide) (hts _ kt_724) (fun _ h9 => h9) rfl dX15_entry_181 ?_
                    have hzna := FR.unre hT00 hty hR na (by rw [hTn0]; simp only [List.mem_cons, List.not_mem_nil, or_false]; omega)
                    obtain ⟨hi_599, ht_600⟩ := hW.f_na hL_h0 hT_h0
                    obtain ⟨f_601, hF_602, hq_603⟩ := hO.rtxj hi_599 ht_600
                    obtain rfl : fn = f_601 := by have e9 := (hzna.trans hd3).symm.trans hF_602; simpa using e9
                    obtain ⟨b_604, r_605, hbf_606, hi_607, ht_608⟩ := hq_603 ze (by omega)
                    refine pg_aald (r := b_604) hx hb hK hP hi_599 7 hF_602 rfl (vp_in_nI (by omega) (by omega)) (show fn ((nI ze) : Int32).toNatClampNeg = _ from by rw [show ((nI ze) : Int32) = nI ze from rfl, nI_clamp (by omega)]; exact hbf_606) dX15_entry_184 ?_
                    refine lv_aload_n hx hb dX15_entry_185 rfl (lv_at hl 4 rfl) ?_
                    refine pg_get (ci := 15) (v := .ref ta) (C := RX15) (T := TX15) (N := 59) hx hb hts it_15 hown hK hP hL_h0 hF_597 rfl 0 (by decide) (hts _ kt_1009) (fun _ h9 => h9) rfl dX15_entry_186 ?_
                    refine lv_iconst (v := 0) hx hb dX15_entry_189 (by decide) ?_
                    refine lv_iload hx hb dX15_entry_190 (lv_at hl 0 rfl) ?_
                    refine W.eq (g2 := F0 m 192 ls [.int (nI kend), .int (nI 0), .ref ta, .ref b_604]) rfl ?_
                    obtain ⟨hi_609, ht_610, hq_611⟩ := hW.txt hi_607 ht_608
                    have hFc := pg_free hD hS hA
                    obtain ⟨z_612, hF_613, hq_614⟩ := hO.txt hi_607 ht_608
                    refine va_callv (va_runV (As := [.ref ta, .int (nI 0), .int (nI kend)]) (rest := []) ⟨hx, hb, hml, hown, hts⟩ (s_X14_set_e l dC dI cs ty gm L H.size F_592 b_604 (ρ + 4 + ze + 100) r_605 60 ta (ρ + 1) 3000 0 kend gt hW hi_607 ht_608 hi_80 ht_81 hF_596 (Nat.zero_le _) (by omega) (by omega)) ⟨callB_of 3 hts (gi kt_951) rfl rfl rfl (hts _ kt_676) (hts _ kt_952) (by decide +kernel) ⟨Nat.le_of_ble_eq_true rfl, Nat.le_of_ble_eq_true rfl⟩, (hts _ kt_953), (hts _ kt_954)⟩ ⟨fun a U g mk q => ⟨q.1, PTm.calling q.2⟩, pg_recv hK hP hi_607 hF_613 (q := (RX14, TX14, 2)) rfl, fun U hU hWm => ⟨rfl, PTm.mk hU hWm hP hK hD hE hO⟩⟩ rfl rfl hl.1 rfl (lv_room (Nat.le_of_ble_eq_true rfl)) dX15_entry_192 ⟨by show _ + 0 ≤ 0; omega, by show _ + 0 ≤ 0; omega⟩) hS (fun q _ h => hFc q h) hFc (fun u t H1 locs ht hvm hw hB hz1 hk1 hS => ?_)
                    obtain ⟨F_616, fc_617, hB1, hq_618, hq_619, hq_620⟩ := hB
                    obtain ⟨hP, hD, hO, hR⟩ := QTm.back hB1 ht hFc hR (fun q h => by simp only [List.mem_cons, List.not_mem_nil, or_false] at h ⊢; omega)
                    have hF_621 : F_616 ad = .inl (cs 16, 40, .inl (upd fd ze x2)) := (hB1.2.2.2 ad (by rw [ht_87]; simp only [List.mem_cons, List.not_mem_nil, or_false]; omega)).trans hF_598
                    have hF_622 : F_616 so = .inl (cs 16, 40, .inl (upd fs ze x1)) := (hB1.2.2.2 so (by rw [ht_84]; simp only [List.mem_cons, List.not_mem_nil, or_false]; omega)).trans hF_595
                    have hF_623 : F_616 ta = .inl (cs 17, 3000, .inl gt) := (hB1.2.2.2 ta (by rw [ht_81]; simp only [List.mem_cons, List.not_mem_nil, or_false]; omega)).trans hF_596
                    have hF_624 : F_616 h0 = .inr (15, (.ref ta) :: (.int 0) :: (.int (nI zo_29)) :: (.int (nI ze)) :: (.ref ou) :: (.ref so) :: (.ref ad) :: (.ref na) :: (.ref va) :: (.ref lc) :: (.ref dm) :: (.int (nI fm)) :: (.int (nI sn)) :: (.ref tg) :: (.int v14_30) :: (.int v15_31) :: (.ref pe) :: (.int v17_32) :: (.int v18_33) :: (.int v19_34) :: (.int v20_35) :: (.int v21_36) :: (.int v22_37) :: (.ref ml) :: (.ref bg) :: (.ref co) :: (.ref sp) :: (.ref nb0) :: (.ref nb1) :: (.ref nb2) :: (.int (nI nf)) :: (.int (nI bd)) :: (.int (nI mm)) :: (.int v33_38) :: (.ref pl) :: (.ref se) :: (.ref ke) :: (.ref wi) :: (.ref hs) :: (.ref mo) :: (.ref po) :: (.ref nu) :: (.ref pr) :: (.ref sq) :: (.ref xa) :: (.ref sa) :: (.ref n64) :: (.ref m64) :: (.ref ex) :: (.ref wh) :: (.ref sd) :: (.ref tk) :: (.int v52_39) :: (.int v53_40) :: (.int v54_41) :: (.ref hd) :: (.ref ak) :: (.ref ho) :: (.ref ot) :: []) := (hB1.2.2.2 h0 (by rw [hT_h0]; simp only [List.mem_cons, List.not_mem_nil, or_false]; omega)).trans hF_597
                    have hF_625 : F_616 na = .inl (cs 23, 40, .inr (.inr (.inr (.inr fn)))) := (hB1.2.2.2 na (by rw [ht_600]; simp only [List.mem_cons, List.not_mem_nil, or_false]; omega)).trans hF_602
                    generalize H1 = H at hP hS ⊢
                    refine lv_aload_n hx hb dX15_entry_195 rfl (lv_at hl 4 rfl) ?_
                    refine pg_get (ci := 15) (v := .ref va) (C := RX15) (T := TX15) (N := 59) hx hb hts it_15 hown hK hP hL_h0 hF_624 rfl 8 (by decide) (hts _ kt_732) (fun _ h9 => h9) rfl dX15_entry_196 ?_
                    refine lv_aload_n hx hb dX15_entry_199 rfl (lv_at hl 4 rfl) ?_
                    refine pg_get (ci := 15) (v := .int (nI ze)) (C := RX15) (T := TX15) (N := 59) hx hb hts it_15 hown hK hP hL_h0 hF_624 rfl 3 (by decide) (hts _ kt_724) (fun _ h9 => h9) rfl dX15_entry_200 ?_
                    have hzva := FR.unre hT00 hty hR va (by rw [hTv0]; simp only [List.mem_cons, List.not_mem_nil, or_false]; omega)
                    obtain ⟨hi_626, ht_627⟩ := hW.f_va hL_h0 hT_h0
                    obtain ⟨f_628, hF_629, hq_630⟩ := hO.rtxj hi_626 ht_627
                    obtain rfl : fv = f_628 := by have e9 := (hzva.trans hd4).symm.trans hF_629; simpa using e9
                    obtain ⟨b_631, r_632, hbf_633, hi_634, ht_635⟩ := hq_630 ze (by omega)
                    refine pg_aald (r := b_631) hx hb hK hP hi_626 7 hF_629 rfl (vp_in_nI (by omega) (by omega)) (show fv ((nI ze) : Int32).toNatClampNeg = _ from by rw [show ((nI ze) : Int32) = nI ze from rfl, nI_clamp (by omega)]; exact hbf_633) dX15_entry_203 ?_
                    refine lv_iconst (v := 0) hx hb dX15_entry_204 (by decide) ?_
                    obtain ⟨hi_636, ht_637, hq_638⟩ := hW.txt hi_634 ht_635
                    obtain ⟨z_639, hF_640, hq_641⟩ := hO.txt hi_634 ht_635
                    refine pg_put (ci := 14) (v := .int 0) (ty := .int) (C := RX14) (T := TX14) (N := 2) hx hb hts it_14 tyX14 tyX14_ok nmX14 hown hK hP hD hS hi_634 hF_640 rfl 1 (by decide) (hts _ kt_709) (fun _ h9 => h9) rfl (by decide +kernel) (rfl) (rfl) (Nat.le_of_ble_eq_true rfl) dX15_entry_205 (fun H locs hP hD hS => ?_)
                    obtain ⟨F_642, he_643, hP, hD, hO, hR⟩ : ∃ G, G = va_up F_616 b_631 (.inr (14, [.ref r_632, .int 0])) ∧ va_P (dC, dI) vwCl (va_pl L G) H ∧ va_D A (va_pl L G) ∧ OKm cs ty gm L G ∧ FR ty [ρ, ρ + 3, ρ + 31, ρ + 4 + ze + 100, ρ + 50 + ze + 100] F G := ⟨_, rfl, hP, hD, hO.up (shm.txt ht_635 ⟨0, rfl, (by first | omega | assumption | exact Or.inl rfl | exact Or.inr rfl)⟩), hR.up ht_635 (by simp)⟩
                    have hF_644 : F_642 b_631 = .inr (14, [.ref r_632, .int 0]) := by rw [he_643]; exact up_self
                    have hF_645 : F_642 ad = .inl (cs 16, 40, .inl (upd fd ze x2)) := by rw [he_643, up_ne (ne_ty ht_87 ht_635 (by simp))]; exact hF_621
                    have hF_646 : F_642 so = .inl (cs 16, 40, .inl (upd fs ze x1)) := by rw [he_643, up_ne (ne_ty ht_84 ht_635 (by simp))]; exact hF_622
                    have hF_647 : F_642 ta = .inl (cs 17, 3000, .inl gt) := by rw [he_643, up_ne (ne_ty ht_81 ht_635 (by simp))]; exact hF_623
                    have hF_648 : F_642 h0 = .inr (15, (.ref ta) :: (.int 0) :: (.int (nI zo_29)) :: (.int (nI ze)) :: (.ref ou) :: (.ref so) :: (.ref ad) :: (.ref na) :: (.ref va) :: (.ref lc) :: (.ref dm) :: (.int (nI fm)) :: (.int (nI sn)) :: (.ref tg) :: (.int v14_30) :: (.int v15_31) :: (.ref pe) :: (.int v17_32) :: (.int v18_33) :: (.int v19_34) :: (.int v20_35) :: (.int v21_36) :: (.int v22_37) :: (.ref ml) :: (.ref bg) :: (.ref co) :: (.ref sp) :: (.ref nb0) :: (.ref nb1) :: (.ref nb2) :: (.int (nI nf)) :: (.int (nI bd)) :: (.int (nI mm)) :: (.int v33_38) :: (.ref pl) :: (.ref se) :: (.ref ke) :: (.ref wi) :: (.ref hs) :: (.ref mo) :: (.ref po) :: (.ref nu) :: (.ref pr) :: (.ref sq) :: (.ref xa) :: (.ref sa) :: (.ref n64) :: (.ref m64) :: (.ref ex) :: (.ref wh) :: (.ref sd) :: (.ref tk) :: (.int v52_39) :: (.int v53_40) :: (.int v54_41) :: (.ref hd) :: (.ref ak) :: (.ref ho) :: (.ref ot) :: []) := by rw [he_643, up_ne (ne_ty hT_h0 ht_635 (by simp))]; exact hF_624
                    have hF_649 : F_642 na = .inl (cs 23, 40, .inr (.inr (.inr (.inr fn)))) := by rw [he_643, up_ne (ne_ty ht_600 ht_635 (by simp))]; exact hF_625
                    have hF_650 : F_642 b_604 = .inr (14, [.ref r_605, .int (nI (kend - 0))]) := by rw [he_643, up_ne (ne_ty2 ht_608 ht_635 (by simp))]; exact hq_618
                    have hF_651 : F_642 r_605 = .inl (cs 17, 60, .inl fc_617) := by rw [he_643, up_ne (ne_ty ht_610 ht_635 (by simp))]; exact hq_619
                    have hF_652 : F_642 va = .inl (cs 23, 40, .inr (.inr (.inr (.inr fv)))) := by rw [he_643, up_ne (ne_ty ht_627 ht_635 (by simp))]; exact hF_629
                    refine lv_iload hx hb dX15_entry_208 (lv_at hl 1 rfl) ?_
                    refine lv_if_eq (tgt := 234) hx hb dX15_entry_210 (by decide) (fun c_653 => ?_) (fun c_653 => ?_)
                    ·
                      refine lv_aload_n hx hb dX15_entry_234 rfl (lv_at hl 4 rfl) ?_
                      refine lv_dup hx hb dX15_entry_235 rfl ?_
                      refine pg_get (ci := 15) (v := .int (nI ze)) (C := RX15) (T := TX15) (N := 59) hx hb hts it_15 hown hK hP hL_h0 hF_648 rfl 3 (by decide) (hts _ kt_724) (fun _ h9 => h9) rfl dX15_entry_236 ?_
                      refine lv_iconst (v := 1) hx hb dX15_entry_239 (by decide) ?_
                      refine lv_iadd hx hb dX15_entry_240 ?_
                      refine lv_topi (fun x_654 ex_654 => ?_)
                      obtain rfl : x_654 = (nI (ze + 1)) := ex_654.trans (nI_add ze 1)
                      have htyU := hty
                      have hTU := hT_h0
                      obtain ⟨hq_655, hq_656⟩ := hW.octs hi_609 ht_610
                      obtain ⟨hq_657, hq_658⟩ := hW.octs hi_636 ht_637
                      obtain ⟨f_659, hF_660, hq_661⟩ := hO.octs hi_636 ht_637
                      refine pg_put (ci := 15) (v := .int (nI (ze + 1))) (ty := .int) (C := RX15) (T := TX15) (N := 59) hx hb hts it_15 tyX15 tyX15_ok nmX15 hown hK hP hD hS hL_h0 hF_648 rfl 3 (by decide) (hts _ kt_724) (fun _ h9 => h9) rfl (by decide +kernel) (rfl) (rfl) (Nat.le_of_ble_eq_true rfl) dX15_entry_241 (fun H locs hP hD hS => ?_)
                      obtain ⟨F_662, he_663, hP, hD, hR⟩ : ∃ G, G = va_up F_642 h0 (.inr (15, (.ref ta) :: (.int 0) :: (.int (nI zo_29)) :: (.int (nI (ze + 1))) :: (.ref ou) :: (.ref so) :: (.ref ad) :: (.ref na) :: (.ref va) :: (.ref lc) :: (.ref dm) :: (.int (nI fm)) :: (.int (nI sn)) :: (.ref tg) :: (.int v14_30) :: (.int v15_31) :: (.ref pe) :: (.int v17_32) :: (.int v18_33) :: (.int v19_34) :: (.int v20_35) :: (.int v21_36) :: (.int v22_37) :: (.ref ml) :: (.ref bg) :: (.ref co) :: (.ref sp) :: (.ref nb0) :: (.ref nb1) :: (.ref nb2) :: (.int (nI nf)) :: (.int (nI bd)) :: (.int (nI mm)) :: (.int v33_38) :: (.ref pl) :: (.ref se) :: (.ref ke) :: (.ref wi) :: (.ref hs) :: (.ref mo) :: (.ref po) :: (.ref nu) :: (.ref pr) :: (.ref sq) :: (.ref xa) :: (.ref sa) :: (.ref n64) :: (.ref m64) :: (.ref ex) :: (.ref wh) :: (.ref sd) :: (.ref tk) :: (.int v52_39) :: (.int v53_40) :: (.int v54_41) :: (.ref hd) :: (.ref ak) :: (.ref ho) :: (.ref ot) :: [])) ∧ va_P (dC, dI) vwCl (va_pl L G) H ∧ va_D A (va_pl L G) ∧ FR ty [ρ, ρ + 3, ρ + 31, ρ + 4 + ze + 100, ρ + 50 + ze + 100] F G := ⟨_, rfl, hP, hD, hR.up hT_h0 (by simp)⟩
                      have hF_664 : F_662 ta = .inl (cs 17, 3000, .inl gt) := by rw [he_663, up_ne (ne_ty ht_81 hT_h0 (by simp))]; exact hF_647
                      have hF_665 : F_662 so = .inl (cs 16, 40, .inl (upd fs ze x1)) := by rw [he_663, up_ne (ne_ty ht_84 hT_h0 (by simp))]; exact hF_646
                      have hF_666 : F_662 ad = .inl (cs 16, 40, .inl (upd fd ze x2)) := by rw [he_663, up_ne (ne_ty ht_87 hT_h0 (by simp))]; exact hF_645
                      have hF_667 : F_662 b_604 = .inr (14, [.ref r_605, .int (nI (kend - 0))]) := by rw [he_663, up_ne (ne_ty ht_608 hT_h0 (by simp))]; exact hF_650
                      have hF_668 : F_662 r_605 = .inl (cs 17, 60, .inl fc_617) := by rw [he_663, up_ne (ne_ty ht_610 hT_h0 (by simp))]; exact hF_651
                      have hF_669 : F_662 b_631 = .inr (14, [.ref r_632, .int 0]) := by rw [he_663, up_ne (ne_ty ht_635 hT_h0 (by simp))]; exact hF_644
                      have hF_670 : F_662 r_632 = .inl (cs 17, 700, .inl f_659) := by rw [he_663, up_ne (ne_ty ht_637 hT_h0 (by simp))]; exact hF_660
                      obtain ⟨ty, hty, hT_h0, hW, hO, hR⟩ : ∃ t9 : TyM, t9 = rtf ty h0 (15, ρ, [ta, ou, so, ad, na, va, lc, dm, tg, pe, ml, bg, co, sp, nb0, nb1, nb2, pl, se, ke, wi, hs, mo, po, nu, pr, sq, xa, sa, n64, m64, ex, wh, sd, tk, hd, ak, ho, ot, sx, s0, s1, s2, nf, bd, mm, fm, sn, hg, gc, gv, (ze + 1), 0]) ∧ t9 h0 = (15, ρ, [ta, ou, so, ad, na, va, lc, dm, tg, pe, ml, bg, co, sp, nb0, nb1, nb2, pl, se, ke, wi, hs, mo, po, nu, pr, sq, xa, sa, n64, m64, ex, wh, sd, tk, hd, ak, ho, ot, sx, s0, s1, s2, nf, bd, mm, fm, sn, hg, gc, gv, (ze + 1), 0]) ∧ WTm t9 gm L ∧ OKm cs t9 gm L F_662 ∧ FR t9 [ρ, ρ + 3, ρ + 31, ρ + 4 + ze + 100, ρ + 50 + ze + 100] F F_662 := ⟨_, rfl, rtf_self, hW.ze hL_h0 hT_h0, (by rw [he_663]; exact OKm.retype hO hT_h0 (shm.mod rtf_self ⟨zo_29, v14_30, v15_31, v17_32, v18_33, v19_34, v20_35, v21_36, v22_37, v33_38, v52_39, v53_40, v54_41, rfl, (by first | omega | assumption | exact Or.inl rfl | exact Or.inr rfl), (by first | omega | assumption | exact Or.inl rfl | exact Or.inr rfl), (by first | omega | assumption | exact Or.inl rfl | exact Or.inr rfl), (by first | omega | assumption | exact Or.inl rfl | exact Or.inr rfl), (by first | omega | assumption | exact Or.inl rfl | exact Or.inr rfl)⟩)), FR.retype hT_h0 hR⟩
                      have hF_671 : F_662 h0 = .inr (15, (.ref ta) :: (.int 0) :: (.int (nI zo_29)) :: (.int (nI (ze + 1))) :: (.ref ou) :: (.ref so) :: (.ref ad) :: (.ref na) :: (.ref va) :: (.ref lc) :: (.ref dm) :: (.int (nI fm)) :: (.int (nI sn)) :: (.ref tg) :: (.int v14_30) :: (.int v15_31) :: (.ref pe) :: (.int v17_32) :: (.int v18_33) :: (.int v19_34) :: (.int v20_35) :: (.int v21_36) :: (.int v22_37) :: (.ref ml) :: (.ref bg) :: (.ref co) :: (.ref sp) :: (.ref nb0) :: (.ref nb1) :: (.ref nb2) :: (.int (nI nf)) :: (.int (nI bd)) :: (.int (nI mm)) :: (.int v33_38) :: (.ref pl) :: (.ref se) :: (.ref ke) :: (.ref wi) :: (.ref hs) :: (.ref mo) :: (.ref po) :: (.ref nu) :: (.ref pr) :: (.ref sq) :: (.ref xa) :: (.ref sa) :: (.ref n64) :: (.ref m64) :: (.ref ex) :: (.ref wh) :: (.ref sd) :: (.ref tk) :: (.int v52_39) :: (.int v53_40) :: (.int v54_41) :: (.ref hd) :: (.ref ak) :: (.ref ho) :: (.ref ot) :: []) := by rw [he_663]; exact up_self
                      obtain ⟨hq_694, hq_695, hq_696, hq_697, hq_698, hgO, hgA, hgB, hq_699⟩ := hW.sc hL_h0 hT_h0
                      refine lv_aload_n hx hb dX15_entry_244 rfl (lv_at hl 4 rfl) ?_
                      refine pg_get (ci := 15) (v := .int (nI (ze + 1))) (C := RX15) (T := TX15) (N := 59) hx hb hts it_15 hown hK hP hL_h0 hF_671 rfl 3 (by decide) (hts _ kt_724) (fun _ h9 => h9) rfl dX15_entry_245 ?_
                      refine W.widen (k := 0) (n := 0) (by omega) (by omega) ?_
                      have hR0 := FR.unre hT00 htyU (FR.unre hTU hty hR)
                      have hQna := hR0 na (by rw [hTn0]; simp only [List.mem_cons, List.not_mem_nil, or_false]; omega)
                      have hQva := hR0 va (by rw [hTv0]; simp only [List.mem_cons, List.not_mem_nil, or_false]; omega)
                      exact W.iret (v := (nI (ze + 1))) hx hb hr (fun t ht hWm => ⟨⟨(nI (ze + 1)), (ze + 1), rfl, (Or.inr (Or.inr ⟨hc40, hs5.elim (fun h => val_y1 hx0 hx4 (hs5n h) (by rw [← hk0e h]; exact hn1)) (fun h => val_y2 hx0 hx4 (hs5x h) (hfst h) (by rw [← hk1e h]; exact hn1) (ho1 h).1), rfl, rfl⟩)), ⟨F_662, ty, (by rw [hty, htyU, rtf_rtf2]), QTm.mk ht hP hD hO hR, hW, ⟨(x1, x2, kend - 0, fc_617, 0, f_659), DIRM.add hDM hO0 hW0 hLn0 hTn0 hLv0 hTv0 (by omega) hR0 hQna hQva (fun k hk => ⟨by simp only [List.mem_cons, List.not_mem_nil, or_false]; omega, by simp only [List.mem_cons, List.not_mem_nil, or_false]; omega⟩) hd1 hd2 hd3 hd4 hF_665 hF_666 ⟨b_604, r_605, hbf_606, hF_667, hF_668, by show kend - 0 ≤ 60; omega⟩ ⟨b_631, r_632, hbf_633, hF_669, hF_670, by show 0 ≤ 700; omega⟩, fun _ => enx4 (hk0e c_653) (hs5n c_653) hn1 hq_620⟩⟩⟩, hS.F ht⟩) hS.2.2 dX15_entry_248
                    ·
                      have h51 := hs5.resolve_left c_653
                      refine lv_aload_n hx hb dX15_entry_213 rfl (lv_at hl 4 rfl) ?_
                      refine pg_get (ci := 15) (v := .ref va) (C := RX15) (T := TX15) (N := 59) hx hb hts it_15 hown hK hP hL_h0 hF_648 rfl 8 (by decide) (hts _ kt_732) (fun _ h9 => h9) rfl dX15_entry_214 ?_
                      refine lv_aload_n hx hb dX15_entry_217 rfl (lv_at hl 4 rfl) ?_
                      refine pg_get (ci := 15) (v := .int (nI ze)) (C := RX15) (T := TX15) (N := 59) hx hb hts it_15 hown hK hP hL_h0 hF_648 rfl 3 (by decide) (hts _ kt_724) (fun _ h9 => h9) rfl dX15_entry_218 ?_
                      refine pg_aald (r := b_631) hx hb hK hP hi_626 7 hF_652 rfl (vp_in_nI (by omega) (by omega)) (show fv ((nI ze) : Int32).toNatClampNeg = _ from by rw [show ((nI ze) : Int32) = nI ze from rfl, nI_clamp (by omega)]; exact hbf_633) dX15_entry_221 ?_
                      refine lv_aload_n hx hb dX15_entry_222 rfl (lv_at hl 4 rfl) ?_
                      refine pg_get (ci := 15) (v := .ref ta) (C := RX15) (T := TX15) (N := 59) hx hb hts it_15 hown hK hP hL_h0 hF_648 rfl 0 (by decide) (hts _ kt_1009) (fun _ h9 => h9) rfl dX15_entry_223 ?_
                      refine lv_iload hx hb dX15_entry_226 (lv_at hl 2 rfl) ?_
                      refine lv_iconst (v := 1) hx hb dX15_entry_228 (by decide) ?_
                      refine lv_iadd hx hb dX15_entry_229 ?_
                      refine lv_topi (fun x_700 ex_700 => ?_)
                      obtain rfl : x_700 = (nI (j + 1)) := ex_700.trans (nI_add j 1)
                      refine lv_iload_n hx hb dX15_entry_230 rfl (lv_at hl 3 rfl) ?_
                      have hFc := pg_free hD hS hA
                      refine va_callv (va_runV (As := [.ref ta, .int (nI (j + 1)), .int (nI zt)]) (rest := []) ⟨hx, hb, hml, hown, hts⟩ (s_X14_set_e l dC dI cs ty gm L H.size F_642 b_631 (ρ + 50 + ze + 100) r_632 700 ta (ρ + 1) 3000 (j + 1) zt gt hW hi_634 ht_635 hi_80 ht_81 hF_647 (by have h9 := hn2 h51; omega) (by omega) (by have h9 := (ho1 h51).2; omega)) ⟨callB_of 3 hts (gi kt_951) rfl rfl rfl (hts _ kt_676) (hts _ kt_952) (by decide +kernel) ⟨Nat.le_of_ble_eq_true rfl, Nat.le_of_ble_eq_true rfl⟩, (hts _ kt_953), (hts _ kt_954)⟩ ⟨fun a U g mk q => ⟨q.1, PTm.calling q.2⟩, pg_recv hK hP hi_634 hF_644 (q := (RX14, TX14, 2)) rfl, fun U hU hWm => ⟨rfl, PTm.mk hU hWm hP hK hD hE hO⟩⟩ rfl rfl hl.1 rfl (lv_room (Nat.le_of_ble_eq_true rfl)) dX15_entry_231 ⟨by show _ + 0 ≤ 0; omega, by show _ + 0 ≤ 0; omega⟩) hS (fun q _ h => hFc q h) hFc (fun u t H1 locs ht hvm hw hB hz1 hk1 hS => ?_)
                      obtain ⟨F_702, fc_703, hB1, hq_704, hq_705, hq_706⟩ := hB
                      obtain ⟨hP, hD, hO, hR⟩ := QTm.back hB1 ht hFc hR (fun q h => by simp only [List.mem_cons, List.not_mem_nil, or_false] at h ⊢; omega)
                      have hF_707 : F_702 ad = .inl (cs 16, 40, .inl (upd fd ze x2)) := (hB1.2.2.2 ad (by rw [ht_87]; simp only [List.mem_cons, List.not_mem_nil, or_false]; omega)).trans hF_645
                      have hF_708 : F_702 so = .inl (cs 16, 40, .inl (upd fs ze x1)) := (hB1.2.2.2 so (by rw [ht_84]; simp only [List.mem_cons, List.not_mem_nil, or_false]; omega)).trans hF_646
                      have hF_709 : F_702 ta = .inl (cs 17, 3000, .inl gt) := (hB1.2.2.2 ta (by rw [ht_81]; simp only [List.mem_cons, List.not_mem_nil, or_false]; omega)).trans hF_647
                      have hF_710 : F_702 h0 = .inr (15, (.ref ta) :: (.int 0) :: (.int (nI zo_29)) :: (.int (nI ze)) :: (.ref ou) :: (.ref so) :: (.ref ad) :: (.ref na) :: (.ref va) :: (.ref lc) :: (.ref dm) :: (.int (nI fm)) :: (.int (nI sn)) :: (.ref tg) :: (.int v14_30) :: (.int v15_31) :: (.ref pe) :: (.int v17_32) :: (.int v18_33) :: (.int v19_34) :: (.int v20_35) :: (.int v21_36) :: (.int v22_37) :: (.ref ml) :: (.ref bg) :: (.ref co) :: (.ref sp) :: (.ref nb0) :: (.ref nb1) :: (.ref nb2) :: (.int (nI nf)) :: (.int (nI bd)) :: (.int (nI mm)) :: (.int v33_38) :: (.ref pl) :: (.ref se) :: (.ref ke) :: (.ref wi) :: (.ref hs) :: (.ref mo) :: (.ref po) :: (.ref nu) :: (.ref pr) :: (.ref sq) :: (.ref xa) :: (.ref sa) :: (.ref n64) :: (.ref m64) :: (.ref ex) :: (.ref wh) :: (.ref sd) :: (.ref tk) :: (.int v52_39) :: (.int v53_40) :: (.int v54_41) :: (.ref hd) :: (.ref ak) :: (.ref ho) :: (.ref ot) :: []) := (hB1.2.2.2 h0 (by rw [hT_h0]; simp only [List.mem_cons, List.not_mem_nil, or_false]; omega)).trans hF_648
                      have hF_711 : F_702 na = .inl (cs 23, 40, .inr (.inr (.inr (.inr fn)))) := (hB1.2.2.2 na (by rw [ht_600]; simp only [List.mem_cons, List.not_mem_nil, or_false]; omega)).trans hF_649
                      have hF_712 : F_702 b_604 = .inr (14, [.ref r_605, .int (nI (kend - 0))]) := (hB1.2.2.2 b_604 (by rw [ht_608]; simp only [List.mem_cons, List.not_mem_nil, or_false]; omega)).trans hF_650
                      have hF_713 : F_702 r_605 = .inl (cs 17, 60, .inl fc_617) := (hB1.2.2.2 r_605 (by rw [ht_610]; simp only [List.mem_cons, List.not_mem_nil, or_false]; omega)).trans hF_651
                      have hF_714 : F_702 va = .inl (cs 23, 40, .inr (.inr (.inr (.inr fv)))) := (hB1.2.2.2 va (by rw [ht_627]; simp only [List.mem_cons, List.not_mem_nil, or_false]; omega)).trans hF_652
                      generalize H1 = H at hP hS ⊢
                      refine lv_aload_n hx hb dX15_entry_234 rfl (lv_at hl 4 rfl) ?_
                      refine lv_dup hx hb dX15_entry_235 rfl ?_
                      refine pg_get (ci := 15) (v := .int (nI ze)) (C := RX15) (T := TX15) (N := 59) hx hb hts it_15 hown hK hP hL_h0 hF_710 rfl 3 (by decide) (hts _ kt_724) (fun _ h9 => h9) rfl dX15_entry_236 ?_
                      refine lv_iconst (v := 1) hx hb dX15_entry_239 (by decide) ?_
                      refine lv_iadd hx hb dX15_entry_240 ?_
                      refine lv_topi (fun x_715 ex_715 => ?_)
                      obtain rfl : x_715 = (nI (ze + 1)) := ex_715.trans (nI_add ze 1)
                      have htyU := hty
                      have hTU := hT_h0
                      obtain ⟨hq_716, hq_717⟩ := hW.octs hi_609 ht_610
                      obtain ⟨hq_718, hq_719⟩ := hW.octs hi_636 ht_637
                      refine pg_put (ci := 15) (v := .int (nI (ze + 1))) (ty := .int) (C := RX15) (T := TX15) (N := 59) hx hb hts it_15 tyX15 tyX15_ok nmX15 hown hK hP hD hS hL_h0 hF_710 rfl 3 (by decide) (hts _ kt_724) (fun _ h9 => h9) rfl (by decide +kernel) (rfl) (rfl) (Nat.le_of_ble_eq_true rfl) dX15_entry_241 (fun H locs hP hD hS => ?_)
                      obtain ⟨F_720, he_721, hP, hD, hR⟩ : ∃ G, G = va_up F_702 h0 (.inr (15, (.ref ta) :: (.int 0) :: (.int (nI zo_29)) :: (.int (nI (ze + 1))) :: (.ref ou) :: (.ref so) :: (.ref ad) :: (.ref na) :: (.ref va) :: (.ref lc) :: (.ref dm) :: (.int (nI fm)) :: (.int (nI sn)) :: (.ref tg) :: (.int v14_30) :: (.int v15_31) :: (.ref pe) :: (.int v17_32) :: (.int v18_33) :: (.int v19_34) :: (.int v20_35) :: (.int v21_36) :: (.int v22_37) :: (.ref ml) :: (.ref bg) :: (.ref co) :: (.ref sp) :: (.ref nb0) :: (.ref nb1) :: (.ref nb2) :: (.int (nI nf)) :: (.int (nI bd)) :: (.int (nI mm)) :: (.int v33_38) :: (.ref pl) :: (.ref se) :: (.ref ke) :: (.ref wi) :: (.ref hs) :: (.ref mo) :: (.ref po) :: (.ref nu) :: (.ref pr) :: (.ref sq) :: (.ref xa) :: (.ref sa) :: (.ref n64) :: (.ref m64) :: (.ref ex) :: (.ref wh) :: (.ref sd) :: (.ref tk) :: (.int v52_39) :: (.int v53_40) :: (.int v54_41) :: (.ref hd) :: (.ref ak) :: (.ref ho) :: (.ref ot) :: [])) ∧ va_P (dC, dI) vwCl (va_pl L G) H ∧ va_D A (va_pl L G) ∧ FR ty [ρ, ρ + 3, ρ + 31, ρ + 4 + ze + 100, ρ + 50 + ze + 100] F G := ⟨_, rfl, hP, hD, hR.up hT_h0 (by simp)⟩
                      have hF_722 : F_720 ta = .inl (cs 17, 3000, .inl gt) := by rw [he_721, up_ne (ne_ty ht_81 hT_h0 (by simp))]; exact hF_709
                      have hF_723 : F_720 so = .inl (cs 16, 40, .inl (upd fs ze x1)) := by rw [he_721, up_ne (ne_ty ht_84 hT_h0 (by simp))]; exact hF_708
                      have hF_724 : F_720 ad = .inl (cs 16, 40, .inl (upd fd ze x2)) := by rw [he_721, up_ne (ne_ty ht_87 hT_h0 (by simp))]; exact hF_707
                      have hF_725 : F_720 b_604 = .inr (14, [.ref r_605, .int (nI (kend - 0))]) := by rw [he_721, up_ne (ne_ty ht_608 hT_h0 (by simp))]; exact hF_712
                      have hF_726 : F_720 r_605 = .inl (cs 17, 60, .inl fc_617) := by rw [he_721, up_ne (ne_ty ht_610 hT_h0 (by simp))]; exact hF_713
                      have hF_727 : F_720 b_631 = .inr (14, [.ref r_632, .int (nI (zt - (j + 1)))]) := by rw [he_721, up_ne (ne_ty ht_635 hT_h0 (by simp))]; exact hq_704
                      have hF_728 : F_720 r_632 = .inl (cs 17, 700, .inl fc_703) := by rw [he_721, up_ne (ne_ty ht_637 hT_h0 (by simp))]; exact hq_705
                      obtain ⟨ty, hty, hT_h0, hW, hO, hR⟩ : ∃ t9 : TyM, t9 = rtf ty h0 (15, ρ, [ta, ou, so, ad, na, va, lc, dm, tg, pe, ml, bg, co, sp, nb0, nb1, nb2, pl, se, ke, wi, hs, mo, po, nu, pr, sq, xa, sa, n64, m64, ex, wh, sd, tk, hd, ak, ho, ot, sx, s0, s1, s2, nf, bd, mm, fm, sn, hg, gc, gv, (ze + 1), 0]) ∧ t9 h0 = (15, ρ, [ta, ou, so, ad, na, va, lc, dm, tg, pe, ml, bg, co, sp, nb0, nb1, nb2, pl, se, ke, wi, hs, mo, po, nu, pr, sq, xa, sa, n64, m64, ex, wh, sd, tk, hd, ak, ho, ot, sx, s0, s1, s2, nf, bd, mm, fm, sn, hg, gc, gv, (ze + 1), 0]) ∧ WTm t9 gm L ∧ OKm cs t9 gm L F_720 ∧ FR t9 [ρ, ρ + 3, ρ + 31, ρ + 4 + ze + 100, ρ + 50 + ze + 100] F F_720 := ⟨_, rfl, rtf_self, hW.ze hL_h0 hT_h0, (by rw [he_721]; exact OKm.retype hO hT_h0 (shm.mod rtf_self ⟨zo_29, v14_30, v15_31, v17_32, v18_33, v19_34, v20_35, v21_36, v22_37, v33_38, v52_39, v53_40, v54_41, rfl, (by first | omega | assumption | exact Or.inl rfl | exact Or.inr rfl), (by first | omega | assumption | exact Or.inl rfl | exact Or.inr rfl), (by first | omega | assumption | exact Or.inl rfl | exact Or.inr rfl), (by first | omega | assumption | exact Or.inl rfl | exact Or.inr rfl), (by first | omega | assumption | exact Or.inl rfl | exact Or.inr rfl)⟩)), FR.retype hT_h0 hR⟩
                      have hF_729 : F_720 h0 = .inr (15, (.ref ta) :: (.int 0) :: (.int (nI zo_29)) :: (.int (nI (ze + 1))) :: (.ref ou) :: (.ref so) :: (.ref ad) :: (.ref na) :: (.ref va) :: (.ref lc) :: (.ref dm) :: (.int (nI fm)) :: (.int (nI sn)) :: (.ref tg) :: (.int v14_30) :: (.int v15_31) :: (.ref pe) :: (.int v17_32) :: (.int v18_33) :: (.int v19_34) :: (.int v20_35) :: (.int v21_36) :: (.int v22_37) :: (.ref ml) :: (.ref bg) :: (.ref co) :: (.ref sp) :: (.ref nb0) :: (.ref nb1) :: (.ref nb2) :: (.int (nI nf)) :: (.int (nI bd)) :: (.int (nI mm)) :: (.int v33_38) :: (.ref pl) :: (.ref se) :: (.ref ke) :: (.ref wi) :: (.ref hs) :: (.ref mo) :: (.ref po) :: (.ref nu) :: (.ref pr) :: (.ref sq) :: (.ref xa) :: (.ref sa) :: (.ref n64) :: (.ref m64) :: (.ref ex) :: (.ref wh) :: (.ref sd) :: (.ref tk) :: (.int v52_39) :: (.int v53_40) :: (.int v54_41) :: (.ref hd) :: (.ref ak) :: (.ref ho) :: (.ref ot) :: []) := by rw [he_721]; exact up_self
                      obtain ⟨hq_752, hq_753, hq_754, hq_755, hq_756, hgO, hgA, hgB, hq_757⟩ := hW.sc hL_h0 hT_h0
                      refine lv_aload_n hx hb dX15_entry_244 rfl (lv_at hl 4 rfl) ?_
                      refine pg_get (ci := 15) (v := .int (nI (ze + 1))) (C := RX15) (T := TX15) (N := 59) hx hb hts it_15 hown hK hP hL_h0 hF_729 rfl 3 (by decide) (hts _ kt_724) (fun _ h9 => h9) rfl dX15_entry_245 ?_
                      refine W.widen (k := 0) (n := 0) (by omega) (by omega) ?_
                      have hR0 := FR.unre hT00 htyU (FR.unre hTU hty hR)
                      have hQna := hR0 na (by rw [hTn0]; simp only [List.mem_cons, List.not_mem_nil, or_false]; omega)
                      have hQva := hR0 va (by rw [hTv0]; simp only [List.mem_cons, List.not_mem_nil, or_false]; omega)
                      exact W.iret (v := (nI (ze + 1))) hx hb hr (fun t ht hWm => ⟨⟨(nI (ze + 1)), (ze + 1), rfl, (Or.inr (Or.inr ⟨hc40, hs5.elim (fun h => val_y1 hx0 hx4 (hs5n h) (by rw [← hk0e h]; exact hn1)) (fun h => val_y2 hx0 hx4 (hs5x h) (hfst h) (by rw [← hk1e h]; exact hn1) (ho1 h).1), rfl, rfl⟩)), ⟨F_720, ty, (by rw [hty, htyU, rtf_rtf2]), QTm.mk ht hP hD hO hR, hW, ⟨(x1, x2, kend - 0, fc_617, zt - (j + 1), fc_703), DIRM.add hDM hO0 hW0 hLn0 hTn0 hLv0 hTv0 (by omega) hR0 hQna hQva (fun k hk => ⟨by simp only [List.mem_cons, List.not_mem_nil, or_false]; omega, by simp only [List.mem_cons, List.not_mem_nil, or_false]; omega⟩) hd1 hd2 hd3 hd4 hF_723 hF_724 ⟨b_604, r_605, hbf_606, hF_725, hF_726, by show kend - 0 ≤ 60; omega⟩ ⟨b_631, r_632, hbf_633, hF_727, hF_728, by show zt - (j + 1) ≤ 700; have h9 := (ho1 h51).2; omega⟩, fun _ => enx3 (hk1e h51) (hs5x h51) (hfst h51) hn1 (ho1 h51).1 hq_620 hq_706⟩⟩⟩, hS.F ht⟩) hS.2.2 dX15_entry_248
                  ·
                    refine lv_iload_n hx hb dX15_entry_118 rfl (lv_at hl 5 rfl) ?_
                    refine lv_iconst (v := 2) hx hb dX15_entry_119 (by decide) ?_
                    refine lv_icmp_ne (tgt := 138) hx hb dX15_entry_120 (by decide) (fun c_758 => ?_) (fun c_758 => ?_)
                    ·
                      refine lv_iload_n hx hb dX15_entry_138 rfl (lv_at hl 5 rfl) ?_
                      refine lv_if_ne (tgt := 156) hx hb dX15_entry_139 (by decide) (fun c_759 => ?_) (fun c_759 => ?_)
                      ·
                        refine W.widen (k := 0) (n := 0) (by omega) (by omega) ?_
                        exact jn_580 () F_576 (⟨fun h => absurd (hs5x h) (fun q => q.elim c_759 c_758), hn3, hn3so, hn3ad⟩) hO hR _ _ hP hD hS ls (lv_sub hl [0, 1, 2, 3, 4, 5, 6] rfl)
                      ·
                        have h51 : s5 = 1 := hs5.resolve_left (fun q => hs5n q (Or.inl c_759))
                        have hkz := hn2 h51
                        refine lv_iload_n hx hb dX15_entry_142 rfl (lv_at hl 3 rfl) ?_
                        refine lv_iload hx hb dX15_entry_143 (lv_at hl 2 rfl) ?_
                        refine lv_isub hx hb dX15_entry_145 ?_
                        refine lv_topi (fun x_760 ex_760 => ?_)
                        obtain rfl : x_760 = (nI (zt - j)) := ex_760.trans (pk_sub (a := zt) (b := j) (by omega))
                        refine lv_iconst (v := 1) hx hb dX15_entry_146 (by decide) ?_
                        refine lv_isub hx hb dX15_entry_147 ?_
                        refine lv_topi (fun x_761 ex_761 => ?_)
                        obtain rfl : x_761 = (nI ((zt - j) - 1)) := ex_761.trans (pk_sub (a := (zt - j)) (b := 1) (by omega))
                        refine lv_sipush (v := 700) hx hb dX15_entry_148 (by decide) ?_
                        refine lv_icmp_le (tgt := 156) hx hb dX15_entry_151 (by decide) (fun c_762 => ?_) (fun c_762 => ?_)
                        ·
                          have hi_763 : ((zt - j) - 1) ≤ 700 := (nI_leI (a := ((zt - j) - 1)) (b := 700) (by omega) (by omega)).mp c_762
                          refine W.widen (k := 0) (n := 0) (by omega) (by omega) ?_
                          exact jn_580 () F_576 (⟨fun _ => ⟨⟨by omega, fun q => absurd (q.symm.trans c_759) (by decide), fun _ => by omega⟩, by omega⟩, hn3, hn3so, hn3ad⟩) hO hR _ _ hP hD hS ls (lv_sub hl [0, 1, 2, 3, 4, 5, 6] rfl)
                        ·
                          have hi_764 : 700 < ((zt - j) - 1) := Nat.not_le.mp (fun q => c_762 ((nI_leI (a := ((zt - j) - 1)) (b := 700) (by omega) (by omega)).mpr q))
                          refine lv_iconst (v := (-1)) hx hb dX15_entry_154 (by decide) ?_
                          refine W.widen (k := 0) (n := 0) (by omega) (by omega) ?_
                          have hR0 := FR.unre hT00 hty hR
                          have hQna := hR0 na (by rw [hTn0]; simp only [List.mem_cons, List.not_mem_nil, or_false]; omega)
                          have hQva := hR0 va (by rw [hTv0]; simp only [List.mem_cons, List.not_mem_nil, or_false]; omega)
                          exact W.iret (v := (-1)) hx hb hr (fun t ht hWm => ⟨⟨(-1), ze, rfl, (Or.inr (Or.inl ⟨hc40, val_nv (Or.inl c_759) (hfst h51) (fun q => absurd (q.2.2 (fun w => absurd (w.symm.trans c_759) (by decide))) (by omega)), rfl, rfl⟩)), ⟨F_576, ty, hty, QTm.mk ht hP hD hO hR, hW, ⟨(0, 0, 0, fun _ => 0, 0, fun _ => 0), DIRM.same (DIRM.fr hDM hO0 hW0 hLn0 hTn0 hLv0 hTv0 (by omega) hR0 (hn3so.trans hd1.symm) (hn3ad.trans hd2.symm) hQna hQva (fun k hk => ⟨by simp only [List.mem_cons, List.not_mem_nil, or_false]; omega, by simp only [List.mem_cons, List.not_mem_nil, or_false]; omega⟩)), fun q => absurd q (by omega)⟩⟩⟩, hS.F ht⟩) hS.2.2 dX15_entry_155
                    ·
                      have h51 : s5 = 1 := hs5.resolve_left (fun q => hs5n q (Or.inr c_758))
                      have hkz := hn2 h51
                      refine lv_aload_n hx hb dX15_entry_123 rfl (lv_at hl 4 rfl) ?_
                      refine pg_get (ci := 15) (v := .ref ta) (C := RX15) (T := TX15) (N := 59) hx hb hts it_15 hown hK hP hL_h0 hn3 rfl 0 (by decide) (hts _ kt_1009) (fun _ h9 => h9) rfl dX15_entry_124 ?_
                      refine lv_iload hx hb dX15_entry_127 (lv_at hl 2 rfl) ?_
                      refine lv_iconst (v := 1) hx hb dX15_entry_129 (by decide) ?_
                      refine lv_iadd hx hb dX15_entry_130 ?_
                      refine lv_topi (fun x_765 ex_765 => ?_)
                      obtain rfl : x_765 = (nI (j + 1)) := ex_765.trans (nI_add j 1)
                      refine lv_iload_n hx hb dX15_entry_131 rfl (lv_at hl 3 rfl) ?_
                      have hFc := pg_free hD hS hA
                      refine va_calli (va_runS (As := [.ref ta, .int (nI (j + 1)), .int (nI zt)]) (rest := []) ⟨hx, hb, hml, hown, hts⟩ (s_X14_isName_e l dC dI cs ty gm L H.size F_576 ta (ρ + 1) 3000 (j + 1) zt gt hW hi_80 ht_81 hF_579 (by first | omega | assumption | exact Or.inl rfl) (by first | omega | assumption | exact Or.inl rfl)) ⟨callB_of 3 hts (gi kt_689) rfl rfl rfl (hts _ kt_676) (hts _ kt_848) (by decide +kernel) ⟨Nat.le_of_ble_eq_true rfl, Nat.le_of_ble_eq_true rfl⟩, (hts _ kt_691)⟩ ⟨fun a U g mk q => ⟨q.1, PTm.calling q.2⟩, fun U hU hWm => ⟨rfl, PTm.mk hU hWm hP hK hD hE hO⟩⟩ rfl rfl hl.1 rfl (lv_room (Nat.le_of_ble_eq_true rfl)) dX15_entry_132 ⟨by show _ + 0 ≤ 0; omega, by show _ + 0 ≤ 0; omega⟩) hS (fun q _ h => hFc q h) hFc (fun r_766 u t H1 locs ht hvm hw hB hz1 hk1 hS => ?_)
                      obtain ⟨F_767, hB1⟩ := hB
                      obtain rfl : F_576 = F_767 := (funext (fun a => hB1.2.2.2 a List.not_mem_nil)).symm
                      obtain ⟨hP, hD, hO, hR⟩ := QTm.back hB1 ht hFc hR (fun q h => absurd h List.not_mem_nil)
                      generalize H1 = H at hP hS ⊢
                      have hw : r_766 = (if NM gt (j + 1) zt = true then 1 else 0) := hw
                      have hw_768 := hw
                      refine lv_if_eq (tgt := 154) hx hb dX15_entry_135 (by decide) (fun c_769 => ?_) (fun c_769 => ?_)
                      ·
                        refine lv_iconst (v := (-1)) hx hb dX15_entry_154 (by decide) ?_
                        refine W.widen (k := 0) (n := 0) (by omega) (by omega) ?_
                        have hR0 := FR.unre hT00 hty hR
                        have hQna := hR0 na (by rw [hTn0]; simp only [List.mem_cons, List.not_mem_nil, or_false]; omega)
                        have hQva := hR0 va (by rw [hTv0]; simp only [List.mem_cons, List.not_mem_nil, or_false]; omega)
                        exact W.iret (v := (-1)) hx hb hr (fun t ht hWm => ⟨⟨(-1), ze, rfl, (Or.inr (Or.inl ⟨hc40, val_nv (Or.inr c_758) (hfst h51) (fun q => ifb0 hw_768 c_769 (q.2.1 c_758)), rfl, rfl⟩)), ⟨F_576, ty, hty, QTm.mk ht hP hD hO hR, hW, ⟨(0, 0, 0, fun _ => 0, 0, fun _ => 0), DIRM.same (DIRM.fr hDM hO0 hW0 hLn0 hTn0 hLv0 hTv0 (by omega) hR0 (hn3so.trans hd1.symm) (hn3ad.trans hd2.symm) hQna hQva (fun k hk => ⟨by simp only [List.mem_cons, List.not_mem_nil, or_false]; omega, by simp only [List.mem_cons, List.not_mem_nil, or_false]; omega⟩)), fun q => absurd q (by omega)⟩⟩⟩, hS.F ht⟩) hS.2.2 dX15_entry_155
                      ·
                        refine lv_iload_n hx hb dX15_entry_138 rfl (lv_at hl 5 rfl) ?_
                        refine lv_if_ne (tgt := 156) hx hb dX15_entry_139 (by decide) (fun c_770 => ?_) (fun c_770 => ?_)
                        ·
                          refine W.widen (k := 0) (n := 0) (by omega) (by omega) ?_
                          exact jn_580 () F_576 (⟨fun _ => ⟨⟨by omega, fun _ => ifb1 hw_768 c_769, fun q => absurd c_758 q⟩, by have h9 := nm_60 (ifb1 hw_768 c_769); omega⟩, hn3, hn3so, hn3ad⟩) hO hR _ _ hP hD hS ls (lv_sub hl [0, 1, 2, 3, 4, 5, 6] rfl)
                        ·
                          have h51 : s5 = 1 := hs5.resolve_left (fun q => hs5n q (Or.inl c_770))
                          have hkz := hn2 h51
                          refine lv_iload_n hx hb dX15_entry_142 rfl (lv_at hl 3 rfl) ?_
                          refine lv_iload hx hb dX15_entry_143 (lv_at hl 2 rfl) ?_
                          refine lv_isub hx hb dX15_entry_145 ?_
                          refine lv_topi (fun x_771 ex_771 => ?_)
                          obtain rfl : x_771 = (nI (zt - j)) := ex_771.trans (pk_sub (a := zt) (b := j) (by omega))
                          refine lv_iconst (v := 1) hx hb dX15_entry_146 (by decide) ?_
                          refine lv_isub hx hb dX15_entry_147 ?_
                          refine lv_topi (fun x_772 ex_772 => ?_)
                          obtain rfl : x_772 = (nI ((zt - j) - 1)) := ex_772.trans (pk_sub (a := (zt - j)) (b := 1) (by omega))
                          refine lv_sipush (v := 700) hx hb dX15_entry_148 (by decide) ?_
                          refine lv_icmp_le (tgt := 156) hx hb dX15_entry_151 (by decide) (fun c_773 => ?_) (fun c_773 => ?_)
                          ·
                            have hi_774 : ((zt - j) - 1) ≤ 700 := (nI_leI (a := ((zt - j) - 1)) (b := 700) (by omega) (by omega)).mp c_773
                            refine W.widen (k := 0) (n := 0) (by omega) (by omega) ?_
                            exact jn_580 () F_576 (⟨fun _ => ⟨⟨by omega, fun q => absurd (q.symm.trans c_770) (by decide), fun _ => by omega⟩, by omega⟩, hn3, hn3so, hn3ad⟩) hO hR _ _ hP hD hS ls (lv_sub hl [0, 1, 2, 3, 4, 5, 6] rfl)
                          ·
                            have hi_775 : 700 < ((zt - j) - 1) := Nat.not_le.mp (fun q => c_773 ((nI_leI (a := ((zt - j) - 1)) (b := 700) (by omega) (by omega)).mpr q))
                            refine lv_iconst (v := (-1)) hx hb dX15_entry_154 (by decide) ?_
                            refine W.widen (k := 0) (n := 0) (by omega) (by omega) ?_
                            have hR0 := FR.unre hT00 hty hR
                            have hQna := hR0 na (by rw [hTn0]; simp only [List.mem_cons, List.not_mem_nil, or_false]; omega)
                            have hQva := hR0 va (by rw [hTv0]; simp only [List.mem_cons, List.not_mem_nil, or_false]; omega)
                            exact W.iret (v := (-1)) hx hb hr (fun t ht hWm => ⟨⟨(-1), ze, rfl, (Or.inr (Or.inl ⟨hc40, val_nv (Or.inl c_770) (hfst h51) (fun q => absurd (q.2.2 (fun w => absurd (w.symm.trans c_770) (by decide))) (by omega)), rfl, rfl⟩)), ⟨F_576, ty, hty, QTm.mk ht hP hD hO hR, hW, ⟨(0, 0, 0, fun _ => 0, 0, fun _ => 0), DIRM.same (DIRM.fr hDM hO0 hW0 hLn0 hTn0 hLv0 hTv0 (by omega) hR0 (hn3so.trans hd1.symm) (hn3ad.trans hd2.symm) hQna hQva (fun k hk => ⟨by simp only [List.mem_cons, List.not_mem_nil, or_false]; omega, by simp only [List.mem_cons, List.not_mem_nil, or_false]; omega⟩)), fun q => absurd q (by omega)⟩⟩⟩, hS.F ht⟩) hS.2.2 dX15_entry_155
                ·
                  refine lv_iload hx hb dX15_entry_92 (lv_at hl 1 rfl) ?_
                  refine lv_if_eq (tgt := 103) hx hb dX15_entry_94 (by decide) (fun c_776 => ?_) (fun c_776 => ?_)
                  ·
                    refine lv_aload_n hx hb dX15_entry_103 rfl (lv_at hl 4 rfl) ?_
                    refine pg_get (ci := 15) (v := .ref ta) (C := RX15) (T := TX15) (N := 59) hx hb hts it_15 hown hK hP hL_h0 hb2 rfl 0 (by decide) (hts _ kt_1009) (fun _ h9 => h9) rfl dX15_entry_104 ?_
                    refine lv_iconst (v := 0) hx hb dX15_entry_107 (by decide) ?_
                    refine lv_iload hx hb dX15_entry_108 (lv_at hl 0 rfl) ?_
                    refine W.eq (g2 := F0 m 110 ls [.int (nI kend), .int (nI 0), .ref ta]) rfl ?_
                    have hFc := pg_free hD hS hA
                    refine va_calli (va_runS (As := [.ref ta, .int (nI 0), .int (nI kend)]) (rest := []) ⟨hx, hb, hml, hown, hts⟩ (s_X14_isName_e l dC dI cs ty gm L H.size F_571 ta (ρ + 1) 3000 0 kend gt hW hi_80 ht_81 hF_574 (by first | omega | assumption | exact Or.inl rfl) (by first | omega | assumption | exact Or.inl rfl)) ⟨callB_of 3 hts (gi kt_689) rfl rfl rfl (hts _ kt_676) (hts _ kt_848) (by decide +kernel) ⟨Nat.le_of_ble_eq_true rfl, Nat.le_of_ble_eq_true rfl⟩, (hts _ kt_691)⟩ ⟨fun a U g mk q => ⟨q.1, PTm.calling q.2⟩, fun U hU hWm => ⟨rfl, PTm.mk hU hWm hP hK hD hE hO⟩⟩ rfl rfl hl.1 rfl (lv_room (Nat.le_of_ble_eq_true rfl)) dX15_entry_110 ⟨by show _ + 0 ≤ 0; omega, by show _ + 0 ≤ 0; omega⟩) hS (fun q _ h => hFc q h) hFc (fun r_777 u t H1 locs ht hvm hw hB hz1 hk1 hS => ?_)
                    obtain ⟨F_778, hB1⟩ := hB
                    obtain rfl : F_571 = F_778 := (funext (fun a => hB1.2.2.2 a List.not_mem_nil)).symm
                    obtain ⟨hP, hD, hO, hR⟩ := QTm.back hB1 ht hFc hR (fun q h => absurd h List.not_mem_nil)
                    generalize H1 = H at hP hS ⊢
                    have hw : r_777 = (if NM gt 0 kend = true then 1 else 0) := hw
                    have hw_779 := hw
                    refine lv_if_ne (tgt := 118) hx hb dX15_entry_113 (by decide) (fun c_780 => ?_) (fun c_780 => ?_)
                    ·
                      refine W.widen (k := 0) (n := 0) (by omega) (by omega) ?_
                      exact jn_575 () F_571 (⟨ifb1 hw_779 c_780, nm_60 (ifb1 hw_779 c_780), fun h => absurd (h.symm.trans c_776) (by decide), hb2, hb2so, hb2ad⟩) hO hR _ _ hP hD hS ls (lv_sub hl [0, 1, 2, 3, 4, 5, 6] rfl)
                    ·
                      refine lv_iconst (v := (-1)) hx hb dX15_entry_116 (by decide) ?_
                      refine W.widen (k := 0) (n := 0) (by omega) (by omega) ?_
                      have hR0 := FR.unre hT00 hty hR
                      have hQna := hR0 na (by rw [hTn0]; simp only [List.mem_cons, List.not_mem_nil, or_false]; omega)
                      have hQva := hR0 va (by rw [hTv0]; simp only [List.mem_cons, List.not_mem_nil, or_false]; omega)
                      exact W.iret (v := (-1)) hx hb hr (fun t ht hWm => ⟨⟨(-1), ze, rfl, (Or.inr (Or.inl ⟨hc40, val_nz (hs5n c_776) (by rw [← hk0e c_776]; exact (ifb0 hw_779 c_780)), rfl, rfl⟩)), ⟨F_571, ty, hty, QTm.mk ht hP hD hO hR, hW, ⟨(0, 0, 0, fun _ => 0, 0, fun _ => 0), DIRM.same (DIRM.fr hDM hO0 hW0 hLn0 hTn0 hLv0 hTv0 (by omega) hR0 (hb2so.trans hd1.symm) (hb2ad.trans hd2.symm) hQna hQva (fun k hk => ⟨by simp only [List.mem_cons, List.not_mem_nil, or_false]; omega, by simp only [List.mem_cons, List.not_mem_nil, or_false]; omega⟩)), fun q => absurd q (by omega)⟩⟩⟩, hS.F ht⟩) hS.2.2 dX15_entry_117
                  ·
                    refine lv_iload hx hb dX15_entry_97 (lv_at hl 2 rfl) ?_
                    refine lv_iload_n hx hb dX15_entry_99 rfl (lv_at hl 3 rfl) ?_
                    refine lv_icmp_eq (tgt := 116) hx hb dX15_entry_100 (by decide) (fun c_781 => ?_) (fun c_781 => ?_)
                    ·
                      have hi_782 : j = zt := (nI_eq (a := j) (b := zt) (by omega) (by omega)).mp c_781
                      refine lv_iconst (v := (-1)) hx hb dX15_entry_116 (by decide) ?_
                      refine W.widen (k := 0) (n := 0) (by omega) (by omega) ?_
                      have hR0 := FR.unre hT00 hty hR
                      have hQna := hR0 na (by rw [hTn0]; simp only [List.mem_cons, List.not_mem_nil, or_false]; omega)
                      have hQva := hR0 va (by rw [hTv0]; simp only [List.mem_cons, List.not_mem_nil, or_false]; omega)
                      exact W.iret (v := (-1)) hx hb hr (fun t ht hWm => ⟨⟨(-1), ze, rfl, (Or.inr (Or.inl ⟨hc40, val_nv (hs5x (hs5.resolve_left c_776)) (hfst (hs5.resolve_left c_776)) (fun q => q.1 (by omega)), rfl, rfl⟩)), ⟨F_571, ty, hty, QTm.mk ht hP hD hO hR, hW, ⟨(0, 0, 0, fun _ => 0, 0, fun _ => 0), DIRM.same (DIRM.fr hDM hO0 hW0 hLn0 hTn0 hLv0 hTv0 (by omega) hR0 (hb2so.trans hd1.symm) (hb2ad.trans hd2.symm) hQna hQva (fun k hk => ⟨by simp only [List.mem_cons, List.not_mem_nil, or_false]; omega, by simp only [List.mem_cons, List.not_mem_nil, or_false]; omega⟩)), fun q => absurd q (by omega)⟩⟩⟩, hS.F ht⟩) hS.2.2 dX15_entry_117
                    ·
                      have hi_783 : j ≠ zt := fun q => c_781 (by rw [q])
                      refine lv_aload_n hx hb dX15_entry_103 rfl (lv_at hl 4 rfl) ?_
                      refine pg_get (ci := 15) (v := .ref ta) (C := RX15) (T := TX15) (N := 59) hx hb hts it_15 hown hK hP hL_h0 hb2 rfl 0 (by decide) (hts _ kt_1009) (fun _ h9 => h9) rfl dX15_entry_104 ?_
                      refine lv_iconst (v := 0) hx hb dX15_entry_107 (by decide) ?_
                      refine lv_iload hx hb dX15_entry_108 (lv_at hl 0 rfl) ?_
                      refine W.eq (g2 := F0 m 110 ls [.int (nI kend), .int (nI 0), .ref ta]) rfl ?_
                      have hFc := pg_free hD hS hA
                      refine va_calli (va_runS (As := [.ref ta, .int (nI 0), .int (nI kend)]) (rest := []) ⟨hx, hb, hml, hown, hts⟩ (s_X14_isName_e l dC dI cs ty gm L H.size F_571 ta (ρ + 1) 3000 0 kend gt hW hi_80 ht_81 hF_574 (by first | omega | assumption | exact Or.inl rfl) (by first | omega | assumption | exact Or.inl rfl)) ⟨callB_of 3 hts (gi kt_689) rfl rfl rfl (hts _ kt_676) (hts _ kt_848) (by decide +kernel) ⟨Nat.le_of_ble_eq_true rfl, Nat.le_of_ble_eq_true rfl⟩, (hts _ kt_691)⟩ ⟨fun a U g mk q => ⟨q.1, PTm.calling q.2⟩, fun U hU hWm => ⟨rfl, PTm.mk hU hWm hP hK hD hE hO⟩⟩ rfl rfl hl.1 rfl (lv_room (Nat.le_of_ble_eq_true rfl)) dX15_entry_110 ⟨by show _ + 0 ≤ 0; omega, by show _ + 0 ≤ 0; omega⟩) hS (fun q _ h => hFc q h) hFc (fun r_784 u t H1 locs ht hvm hw hB hz1 hk1 hS => ?_)
                      obtain ⟨F_785, hB1⟩ := hB
                      obtain rfl : F_571 = F_785 := (funext (fun a => hB1.2.2.2 a List.not_mem_nil)).symm
                      obtain ⟨hP, hD, hO, hR⟩ := QTm.back hB1 ht hFc hR (fun q h => absurd h List.not_mem_nil)
                      generalize H1 = H at hP hS ⊢
                      have hw : r_784 = (if NM gt 0 kend = true then 1 else 0) := hw
                      have hw_786 := hw
                      refine lv_if_ne (tgt := 118) hx hb dX15_entry_113 (by decide) (fun c_787 => ?_) (fun c_787 => ?_)
                      ·
                        refine W.widen (k := 0) (n := 0) (by omega) (by omega) ?_
                        exact jn_575 () F_571 (⟨ifb1 hw_786 c_787, nm_60 (ifb1 hw_786 c_787), fun _ => by omega, hb2, hb2so, hb2ad⟩) hO hR _ _ hP hD hS ls (lv_sub hl [0, 1, 2, 3, 4, 5, 6] rfl)
                      ·
                        refine lv_iconst (v := (-1)) hx hb dX15_entry_116 (by decide) ?_
                        refine W.widen (k := 0) (n := 0) (by omega) (by omega) ?_
                        have hR0 := FR.unre hT00 hty hR
                        have hQna := hR0 na (by rw [hTn0]; simp only [List.mem_cons, List.not_mem_nil, or_false]; omega)
                        have hQva := hR0 va (by rw [hTv0]; simp only [List.mem_cons, List.not_mem_nil, or_false]; omega)
                        exact W.iret (v := (-1)) hx hb hr (fun t ht hWm => ⟨⟨(-1), ze, rfl, (Or.inr (Or.inl ⟨hc40, val_nn (hs5x (hs5.resolve_left c_776)) (hfst (hs5.resolve_left c_776)) (by rw [← hk1e (hs5.resolve_left c_776)]; exact (ifb0 hw_786 c_787)), rfl, rfl⟩)), ⟨F_571, ty, hty, QTm.mk ht hP hD hO hR, hW, ⟨(0, 0, 0, fun _ => 0, 0, fun _ => 0), DIRM.same (DIRM.fr hDM hO0 hW0 hLn0 hTn0 hLv0 hTv0 (by omega) hR0 (hb2so.trans hd1.symm) (hb2ad.trans hd2.symm) hQna hQva (fun k hk => ⟨by simp only [List.mem_cons, List.not_mem_nil, or_false]; omega, by simp only [List.mem_cons, List.not_mem_nil, or_false]; omega⟩)), fun q => absurd q (by omega)⟩⟩⟩, hS.F ht⟩) hS.2.2 dX15_entry_117
              ·
                refine lv_iload hx hb dX15_entry_79 (lv_at hl 0 rfl) ?_
                refine lv_if_eq (tgt := 89) hx hb dX15_entry_81 (by decide) (fun c_788 => ?_) (fun c_788 => ?_)
                ·
                  refine lv_iload_n hx hb dX15_entry_89 rfl (lv_at hl 2 rfl) ?_
                  refine W.widen (k := 0) (n := 0) (by omega) (by omega) ?_
                  exact jn_570 (nI zt) F_103 (⟨⟨zt, Nat.le_refl _, rfl, fun h => absurd (h.symm.trans c_788) (by decide), fun _ => rfl⟩, ha2, ha2so, ha2ad⟩) hO hR _ _ hP hD hS ls (lv_sub hl [0, 1, 2, 3, 4, 5] rfl)
                ·
                  refine lv_iload hx hb dX15_entry_84 (lv_at hl 1 rfl) ?_
                  refine lv_goto (tgt := 90) hx hb dX15_entry_86 (by decide) ?_
                  refine W.widen (k := 0) (n := 0) (by omega) (by omega) ?_
                  exact jn_570 (nI j) F_103 (⟨⟨j, by omega, rfl, fun _ => rfl, fun h => absurd h c_788⟩, ha2, ha2so, ha2ad⟩) hO hR _ _ hP hD hS ls (lv_sub hl [0, 1, 2, 3, 4, 5] rfl)
            ·
              refine lv_iinc (v := (nI (j + 1))) (lv' := [(4, .int (nI (j + 1))), (5, .int s5), (3, .int (nI zt)), (0, .ref h0), (1, .int x1), (2, .int x2)]) hx hb dX15_entry_73 hl (k := 1) rfl (nI_1 _) (by decide) rfl (fun ls hl => ?_)
              refine lv_goto (tgt := 50) hx hb dX15_entry_76 (by decide) ?_
              refine W.widen (k := 0) (n := 0) (by omega) (by omega) ?_
              exact ih_106 (j + 1) F_103 (⟨by omega, fun i hi => by rcases Nat.lt_or_ge i j with q | q; exact ha3 i q; rw [show i = j by omega]; exact c_569, ha2, ha2so, ha2ad⟩) (by show zt - (j + 1) < zt - j; omega) hO hR _ _ hP hD hS ls (lv_sub hl [1, 0, 2, 3, 4, 5] rfl)
      ·
        refine lv_iload_n hx hb dX15_entry_34 rfl (lv_at hl 3 rfl) ?_
        refine lv_if_eq (tgt := 43) hx hb dX15_entry_35 (by decide) (fun c_789 => ?_) (fun c_789 => ?_)
        ·
          refine lv_iconst (v := 1) hx hb dX15_entry_43 (by decide) ?_
          refine lv_goto (tgt := 48) hx hb dX15_entry_44 (by decide) ?_
          refine W.widen (k := 0) (n := 0) (by omega) (by omega) ?_
          obtain ⟨hq_790, hq_791⟩ := hW.ints hi_83 ht_84
          obtain ⟨hq_792, hq_793⟩ := hW.ints hi_86 ht_87
          exact jn_94 1 F_49 (⟨Or.inr rfl, fun _ => Or.inl c_789, fun h => absurd h (by decide), hq_50, hF_82, hF_85⟩) hO hR _ _ hP hD hS ls (lv_sub hl [0, 1, 2, 3, 4] rfl)
        ·
          refine lv_iload_n hx hb dX15_entry_38 rfl (lv_at hl 3 rfl) ?_
          refine lv_iconst (v := 2) hx hb dX15_entry_39 (by decide) ?_
          refine lv_icmp_ne (tgt := 47) hx hb dX15_entry_40 (by decide) (fun c_794 => ?_) (fun c_794 => ?_)
          ·
            refine lv_iconst (v := 0) hx hb dX15_entry_47 (by decide) ?_
            refine W.widen (k := 0) (n := 0) (by omega) (by omega) ?_
            obtain ⟨hq_795, hq_796⟩ := hW.ints hi_83 ht_84
            obtain ⟨hq_797, hq_798⟩ := hW.ints hi_86 ht_87
            exact jn_94 0 F_49 (⟨Or.inl rfl, fun h => absurd h (by decide), fun _ q => q.elim c_789 c_794, hq_50, hF_82, hF_85⟩) hO hR _ _ hP hD hS ls (lv_sub hl [0, 1, 2, 3, 4] rfl)
          ·
            refine lv_iconst (v := 1) hx hb dX15_entry_43 (by decide) ?_
            refine lv_goto (tgt := 48) hx hb dX15_entry_44 (by decide) ?_
            refine W.widen (k := 0) (n := 0) (by omega) (by omega) ?_
            obtain ⟨hq_799, hq_800⟩ := hW.ints hi_83 ht_84
            obtain ⟨hq_801, hq_802⟩ := hW.ints hi_86 ht_87
            exact jn_94 1 F_49 (⟨Or.inr rfl, fun _ => Or.inr c_794, fun h => absurd h (by decide), hq_50, hF_82, hF_85⟩) hO hR _ _ hP hD hS ls (lv_sub hl [0, 1, 2, 3, 4] rfl)
    ·
      have hxo := ((in_04 hw_92).resolve_right (fun q => absurd (q.1.symm.trans c_93) (by decide))).2
      refine lv_iconst (v := (-1)) hx hb dX15_entry_32 (by decide) ?_
      refine W.widen (k := 0) (n := 0) (by omega) (by omega) ?_
      have hR0 := FR.unre hT00 hty hR
      have hQna := hR0 na (by rw [hTn0]; simp only [List.mem_cons, List.not_mem_nil, or_false]; omega)
      have hQva := hR0 va (by rw [hTv0]; simp only [List.mem_cons, List.not_mem_nil, or_false]; omega)
      obtain ⟨hq_803, hq_804⟩ := hW.ints hi_83 ht_84
      obtain ⟨hq_805, hq_806⟩ := hW.ints hi_86 ht_87
      exact W.iret (v := (-1)) hx hb hr (fun t ht hWm => ⟨⟨(-1), ze, rfl, (Or.inr (Or.inl ⟨hc40, hxo.elim val_n1 val_n2, rfl, rfl⟩)), ⟨F_49, ty, hty, QTm.mk ht hP hD hO hR, hW, ⟨(0, 0, 0, fun _ => 0, 0, fun _ => 0), DIRM.same (DIRM.fr hDM hO0 hW0 hLn0 hTn0 hLv0 hTv0 (by omega) hR0 (hF_82.trans hd1.symm) (hF_85.trans hd2.symm) hQna hQva (fun k hk => ⟨by simp only [List.mem_cons, List.not_mem_nil, or_false]; omega, by simp only [List.mem_cons, List.not_mem_nil, or_false]; omega⟩)), fun q => absurd q (by omega)⟩⟩⟩, hS.F ht⟩) hS.2.2 dX15_entry_33
  ·
    have hi_807 : ze = 40 := (nI_eq (a := ze) (b := 40) (by omega) (by omega)).mp c_88
    have hc40 : ze = 40 := by omega
    refine lv_bipush (v := (-3)) hx hb dX15_entry_17 (by decide) ?_
    refine W.widen (k := 0) (n := 0) (by omega) (by omega) ?_
    have hR0 := FR.unre hT00 hty hR
    have hQna := hR0 na (by rw [hTn0]; simp only [List.mem_cons, List.not_mem_nil, or_false]; omega)
    have hQva := hR0 va (by rw [hTv0]; simp only [List.mem_cons, List.not_mem_nil, or_false]; omega)
    obtain ⟨hq_808, hq_809⟩ := hW.ints hi_83 ht_84
    obtain ⟨hq_810, hq_811⟩ := hW.ints hi_86 ht_87
    exact W.iret (v := (-3)) hx hb hr (fun t ht hWm => ⟨⟨(-3), ze, rfl, (Or.inl ⟨hc40, rfl, rfl⟩), ⟨F_49, ty, hty, QTm.mk ht hP hD hO hR, hW, ⟨(0, 0, 0, fun _ => 0, 0, fun _ => 0), DIRM.same (DIRM.fr hDM hO0 hW0 hLn0 hTn0 hLv0 hTv0 (by omega) hR0 (hF_82.trans hd1.symm) (hF_85.trans hd2.symm) hQna hQva (fun k hk => ⟨by simp only [List.mem_cons, List.not_mem_nil, or_false]; omega, by simp only [List.mem_cons, List.not_mem_nil, or_false]; omega⟩)), fun q => absurd q (by omega)⟩⟩⟩, hS.F ht⟩) hS.2.2 dX15_entry_19
