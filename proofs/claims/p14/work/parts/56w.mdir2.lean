theorem dX15_entry_0 : decode cX15_entry 0 = .ok (.aload_n 0, 1) := by decide +kernel
theorem dX15_entry_1 : decode cX15_entry 1 = .ok (.invokevirtual 174, 3) := by decide +kernel
theorem dX15_entry_4 : decode cX15_entry 4 = .ok (.istore_n 3, 1) := by decide +kernel
theorem dX15_entry_5 : decode cX15_entry 5 = .ok (.iconst 0, 1) := by decide +kernel
theorem dX15_entry_6 : decode cX15_entry 6 = .ok (.istore 4, 2) := by decide +kernel
theorem dX15_entry_8 : decode cX15_entry 8 = .ok (.aload_n 0, 1) := by decide +kernel
theorem dX15_entry_9 : decode cX15_entry 9 = .ok (.getfield 177, 3) := by decide +kernel
theorem dX15_entry_12 : decode cX15_entry 12 = .ok (.bipush 40, 2) := by decide +kernel
theorem dX15_entry_14 : decode cX15_entry 14 = .ok (.if_icmp .ne 6, 3) := by decide +kernel
theorem dX15_entry_17 : decode cX15_entry 17 = .ok (.bipush (-3), 2) := by decide +kernel
theorem dX15_entry_19 : decode cX15_entry 19 = .ok (.ireturn, 1) := by decide +kernel
theorem dX15_entry_20 : decode cX15_entry 20 = .ok (.iload_n 1, 1) := by decide +kernel
theorem dX15_entry_21 : decode cX15_entry 21 = .ok (.i2l, 1) := by decide +kernel
theorem dX15_entry_22 : decode cX15_entry 22 = .ok (.lconst 0, 1) := by decide +kernel
theorem dX15_entry_23 : decode cX15_entry 23 = .ok (.ldc2_w 180, 3) := by decide +kernel
theorem dX15_entry_26 : decode cX15_entry 26 = .ok (.invokestatic 170, 3) := by decide +kernel
theorem dX15_entry_29 : decode cX15_entry 29 = .ok (.ifCond .ne 5, 3) := by decide +kernel
theorem dX15_entry_32 : decode cX15_entry 32 = .ok (.iconst (-1), 1) := by decide +kernel
theorem dX15_entry_33 : decode cX15_entry 33 = .ok (.ireturn, 1) := by decide +kernel
theorem dX15_entry_34 : decode cX15_entry 34 = .ok (.iload_n 1, 1) := by decide +kernel
theorem dX15_entry_35 : decode cX15_entry 35 = .ok (.ifCond .eq 8, 3) := by decide +kernel
theorem dX15_entry_38 : decode cX15_entry 38 = .ok (.iload_n 1, 1) := by decide +kernel
theorem dX15_entry_39 : decode cX15_entry 39 = .ok (.iconst 2, 1) := by decide +kernel
theorem dX15_entry_40 : decode cX15_entry 40 = .ok (.if_icmp .ne 7, 3) := by decide +kernel
theorem dX15_entry_43 : decode cX15_entry 43 = .ok (.iconst 1, 1) := by decide +kernel
theorem dX15_entry_44 : decode cX15_entry 44 = .ok (.goto 4, 3) := by decide +kernel
theorem dX15_entry_47 : decode cX15_entry 47 = .ok (.iconst 0, 1) := by decide +kernel
theorem dX15_entry_48 : decode cX15_entry 48 = .ok (.istore 5, 2) := by decide +kernel
theorem dX15_entry_50 : decode cX15_entry 50 = .ok (.iload 5, 2) := by decide +kernel
theorem dX15_entry_52 : decode cX15_entry 52 = .ok (.ifCond .eq 27, 3) := by decide +kernel
theorem dX15_entry_55 : decode cX15_entry 55 = .ok (.iload 4, 2) := by decide +kernel
theorem dX15_entry_57 : decode cX15_entry 57 = .ok (.iload_n 3, 1) := by decide +kernel
theorem dX15_entry_58 : decode cX15_entry 58 = .ok (.if_icmp .ge 21, 3) := by decide +kernel
theorem dX15_entry_61 : decode cX15_entry 61 = .ok (.aload_n 0, 1) := by decide +kernel
theorem dX15_entry_62 : decode cX15_entry 62 = .ok (.getfield 31, 3) := by decide +kernel
theorem dX15_entry_65 : decode cX15_entry 65 = .ok (.iload 4, 2) := by decide +kernel
theorem dX15_entry_67 : decode cX15_entry 67 = .ok (.baload, 1) := by decide +kernel
theorem dX15_entry_68 : decode cX15_entry 68 = .ok (.bipush 32, 2) := by decide +kernel
theorem dX15_entry_70 : decode cX15_entry 70 = .ok (.if_icmp .eq 9, 3) := by decide +kernel
theorem dX15_entry_73 : decode cX15_entry 73 = .ok (.iinc 4 1, 3) := by decide +kernel
theorem dX15_entry_76 : decode cX15_entry 76 = .ok (.goto (-26), 3) := by decide +kernel
theorem dX15_entry_79 : decode cX15_entry 79 = .ok (.iload 5, 2) := by decide +kernel
theorem dX15_entry_81 : decode cX15_entry 81 = .ok (.ifCond .eq 8, 3) := by decide +kernel
theorem dX15_entry_84 : decode cX15_entry 84 = .ok (.iload 4, 2) := by decide +kernel
theorem dX15_entry_86 : decode cX15_entry 86 = .ok (.goto 4, 3) := by decide +kernel
theorem dX15_entry_89 : decode cX15_entry 89 = .ok (.iload_n 3, 1) := by decide +kernel
theorem dX15_entry_90 : decode cX15_entry 90 = .ok (.istore 6, 2) := by decide +kernel
theorem dX15_entry_92 : decode cX15_entry 92 = .ok (.iload 5, 2) := by decide +kernel
theorem dX15_entry_94 : decode cX15_entry 94 = .ok (.ifCond .eq 9, 3) := by decide +kernel
theorem dX15_entry_97 : decode cX15_entry 97 = .ok (.iload 4, 2) := by decide +kernel
theorem dX15_entry_99 : decode cX15_entry 99 = .ok (.iload_n 3, 1) := by decide +kernel
theorem dX15_entry_100 : decode cX15_entry 100 = .ok (.if_icmp .eq 16, 3) := by decide +kernel
theorem dX15_entry_103 : decode cX15_entry 103 = .ok (.aload_n 0, 1) := by decide +kernel
theorem dX15_entry_104 : decode cX15_entry 104 = .ok (.getfield 31, 3) := by decide +kernel
theorem dX15_entry_107 : decode cX15_entry 107 = .ok (.iconst 0, 1) := by decide +kernel
theorem dX15_entry_108 : decode cX15_entry 108 = .ok (.iload 6, 2) := by decide +kernel
theorem dX15_entry_110 : decode cX15_entry 110 = .ok (.invokestatic 182, 3) := by decide +kernel
theorem dX15_entry_113 : decode cX15_entry 113 = .ok (.ifCond .ne 5, 3) := by decide +kernel
theorem dX15_entry_116 : decode cX15_entry 116 = .ok (.iconst (-1), 1) := by decide +kernel
theorem dX15_entry_117 : decode cX15_entry 117 = .ok (.ireturn, 1) := by decide +kernel
theorem dX15_entry_118 : decode cX15_entry 118 = .ok (.iload_n 1, 1) := by decide +kernel
theorem dX15_entry_119 : decode cX15_entry 119 = .ok (.iconst 2, 1) := by decide +kernel
theorem dX15_entry_120 : decode cX15_entry 120 = .ok (.if_icmp .ne 18, 3) := by decide +kernel
theorem dX15_entry_123 : decode cX15_entry 123 = .ok (.aload_n 0, 1) := by decide +kernel
theorem dX15_entry_124 : decode cX15_entry 124 = .ok (.getfield 31, 3) := by decide +kernel
theorem dX15_entry_127 : decode cX15_entry 127 = .ok (.iload 4, 2) := by decide +kernel
theorem dX15_entry_129 : decode cX15_entry 129 = .ok (.iconst 1, 1) := by decide +kernel
theorem dX15_entry_130 : decode cX15_entry 130 = .ok (.iadd, 1) := by decide +kernel
theorem dX15_entry_131 : decode cX15_entry 131 = .ok (.iload_n 3, 1) := by decide +kernel
theorem dX15_entry_132 : decode cX15_entry 132 = .ok (.invokestatic 182, 3) := by decide +kernel
theorem dX15_entry_135 : decode cX15_entry 135 = .ok (.ifCond .eq 19, 3) := by decide +kernel
theorem dX15_entry_138 : decode cX15_entry 138 = .ok (.iload_n 1, 1) := by decide +kernel
theorem dX15_entry_139 : decode cX15_entry 139 = .ok (.ifCond .ne 17, 3) := by decide +kernel
theorem dX15_entry_142 : decode cX15_entry 142 = .ok (.iload_n 3, 1) := by decide +kernel
theorem dX15_entry_143 : decode cX15_entry 143 = .ok (.iload 4, 2) := by decide +kernel
theorem dX15_entry_145 : decode cX15_entry 145 = .ok (.isub, 1) := by decide +kernel
theorem dX15_entry_146 : decode cX15_entry 146 = .ok (.iconst 1, 1) := by decide +kernel
theorem dX15_entry_147 : decode cX15_entry 147 = .ok (.isub, 1) := by decide +kernel
theorem dX15_entry_148 : decode cX15_entry 148 = .ok (.sipush 700, 3) := by decide +kernel
theorem dX15_entry_151 : decode cX15_entry 151 = .ok (.if_icmp .le 5, 3) := by decide +kernel
theorem dX15_entry_154 : decode cX15_entry 154 = .ok (.iconst (-1), 1) := by decide +kernel
theorem dX15_entry_155 : decode cX15_entry 155 = .ok (.ireturn, 1) := by decide +kernel
theorem dX15_entry_156 : decode cX15_entry 156 = .ok (.aload_n 0, 1) := by decide +kernel
theorem dX15_entry_157 : decode cX15_entry 157 = .ok (.getfield 38, 3) := by decide +kernel
theorem dX15_entry_160 : decode cX15_entry 160 = .ok (.aload_n 0, 1) := by decide +kernel
theorem dX15_entry_161 : decode cX15_entry 161 = .ok (.getfield 177, 3) := by decide +kernel
theorem dX15_entry_164 : decode cX15_entry 164 = .ok (.iload_n 1, 1) := by decide +kernel
theorem dX15_entry_165 : decode cX15_entry 165 = .ok (.iastore, 1) := by decide +kernel
theorem dX15_entry_166 : decode cX15_entry 166 = .ok (.aload_n 0, 1) := by decide +kernel
theorem dX15_entry_167 : decode cX15_entry 167 = .ok (.getfield 42, 3) := by decide +kernel
theorem dX15_entry_170 : decode cX15_entry 170 = .ok (.aload_n 0, 1) := by decide +kernel
theorem dX15_entry_171 : decode cX15_entry 171 = .ok (.getfield 177, 3) := by decide +kernel
theorem dX15_entry_174 : decode cX15_entry 174 = .ok (.iload_n 2, 1) := by decide +kernel
theorem dX15_entry_175 : decode cX15_entry 175 = .ok (.iastore, 1) := by decide +kernel
theorem dX15_entry_176 : decode cX15_entry 176 = .ok (.aload_n 0, 1) := by decide +kernel
theorem dX15_entry_177 : decode cX15_entry 177 = .ok (.getfield 47, 3) := by decide +kernel
theorem dX15_entry_180 : decode cX15_entry 180 = .ok (.aload_n 0, 1) := by decide +kernel
theorem dX15_entry_181 : decode cX15_entry 181 = .ok (.getfield 177, 3) := by decide +kernel
theorem dX15_entry_184 : decode cX15_entry 184 = .ok (.aaload, 1) := by decide +kernel
theorem dX15_entry_185 : decode cX15_entry 185 = .ok (.aload_n 0, 1) := by decide +kernel
theorem dX15_entry_186 : decode cX15_entry 186 = .ok (.getfield 31, 3) := by decide +kernel
theorem dX15_entry_189 : decode cX15_entry 189 = .ok (.iconst 0, 1) := by decide +kernel
theorem dX15_entry_190 : decode cX15_entry 190 = .ok (.iload 6, 2) := by decide +kernel
theorem dX15_entry_192 : decode cX15_entry 192 = .ok (.invokevirtual 186, 3) := by decide +kernel
theorem dX15_entry_195 : decode cX15_entry 195 = .ok (.aload_n 0, 1) := by decide +kernel
theorem dX15_entry_196 : decode cX15_entry 196 = .ok (.getfield 51, 3) := by decide +kernel
theorem dX15_entry_199 : decode cX15_entry 199 = .ok (.aload_n 0, 1) := by decide +kernel
theorem dX15_entry_200 : decode cX15_entry 200 = .ok (.getfield 177, 3) := by decide +kernel
theorem dX15_entry_203 : decode cX15_entry 203 = .ok (.aaload, 1) := by decide +kernel
theorem dX15_entry_204 : decode cX15_entry 204 = .ok (.iconst 0, 1) := by decide +kernel
theorem dX15_entry_205 : decode cX15_entry 205 = .ok (.putfield 190, 3) := by decide +kernel
theorem dX15_entry_208 : decode cX15_entry 208 = .ok (.iload 5, 2) := by decide +kernel
theorem dX15_entry_210 : decode cX15_entry 210 = .ok (.ifCond .eq 24, 3) := by decide +kernel
theorem dX15_entry_213 : decode cX15_entry 213 = .ok (.aload_n 0, 1) := by decide +kernel
theorem dX15_entry_214 : decode cX15_entry 214 = .ok (.getfield 51, 3) := by decide +kernel
theorem dX15_entry_217 : decode cX15_entry 217 = .ok (.aload_n 0, 1) := by decide +kernel
theorem dX15_entry_218 : decode cX15_entry 218 = .ok (.getfield 177, 3) := by decide +kernel
theorem dX15_entry_221 : decode cX15_entry 221 = .ok (.aaload, 1) := by decide +kernel
theorem dX15_entry_222 : decode cX15_entry 222 = .ok (.aload_n 0, 1) := by decide +kernel
theorem dX15_entry_223 : decode cX15_entry 223 = .ok (.getfield 31, 3) := by decide +kernel
theorem dX15_entry_226 : decode cX15_entry 226 = .ok (.iload 4, 2) := by decide +kernel
theorem dX15_entry_228 : decode cX15_entry 228 = .ok (.iconst 1, 1) := by decide +kernel
theorem dX15_entry_229 : decode cX15_entry 229 = .ok (.iadd, 1) := by decide +kernel
theorem dX15_entry_230 : decode cX15_entry 230 = .ok (.iload_n 3, 1) := by decide +kernel
theorem dX15_entry_231 : decode cX15_entry 231 = .ok (.invokevirtual 186, 3) := by decide +kernel
theorem dX15_entry_234 : decode cX15_entry 234 = .ok (.aload_n 0, 1) := by decide +kernel
theorem dX15_entry_235 : decode cX15_entry 235 = .ok (.dup, 1) := by decide +kernel
theorem dX15_entry_236 : decode cX15_entry 236 = .ok (.getfield 177, 3) := by decide +kernel
theorem dX15_entry_239 : decode cX15_entry 239 = .ok (.iconst 1, 1) := by decide +kernel
theorem dX15_entry_240 : decode cX15_entry 240 = .ok (.iadd, 1) := by decide +kernel
theorem dX15_entry_241 : decode cX15_entry 241 = .ok (.putfield 177, 3) := by decide +kernel
theorem dX15_entry_244 : decode cX15_entry 244 = .ok (.aload_n 0, 1) := by decide +kernel
theorem dX15_entry_245 : decode cX15_entry 245 = .ok (.getfield 177, 3) := by decide +kernel
theorem dX15_entry_248 : decode cX15_entry 248 = .ok (.ireturn, 1) := by decide +kernel
theorem kt_1206 : Cond.constantLong RX15 180 4 ∈ tb := tb_at (i := 1486) (by decide +kernel) (by decide +kernel)
def UNM (f : Nat → Int32) (z : Nat) (g : Nat → Int32) (y : Nat) : Prop := y ≤ z ∧ (z = y ∨ (z ≠ y + 1 ∧ f (z - y - 1) = 46)) ∧ (∀ j, j < y → f (z - y + j) = g j)
theorem bfmo {F : Nat → va_E} {a n : Nat} {c : ClassId} {f : Nat → Int32} (hF : F a = .inl (c, n, .inl f)) (h : ∃ g : Nat → Int32, F a = .inl (c, n, .inl g) ∧ BFm g) : BFm f := by
  obtain ⟨g, h1, h2⟩ := h
  obtain rfl : g = f := by
    have e9 := h1.symm.trans hF
    simpa using e9
  exact h2
def ENM (cs : Nat → ClassId) (F : Nat → va_E) (o : Option Nat) (rm n : Nat) (f : Nat → Int32) : Prop := ∃ b r : Nat, o = some b ∧ F b = .inr (14, [.ref r, .int (nI n)]) ∧ F r = .inl (cs 17, rm, .inl f) ∧ n ≤ rm
def DM1 (cs : Nat → ClassId) (F : Nat → va_E) (x9 y9 : Int32) (o1 o2 : Option Nat) (d : ETY) : Prop := x9 = d.1 ∧ y9 = d.2.1 ∧ ENM cs F o1 60 d.2.2.1 d.2.2.2.1 ∧ ENM cs F o2 700 d.2.2.2.2.1 d.2.2.2.2.2
def DIRM (cs : Nat → ClassId) (F : Nat → va_E) (so ad na va ze : Nat) (D : Nat → ETY) : Prop := ∃ fs fd : Nat → Int32, ∃ fn fv : Nat → Option Nat, F so = .inl (cs 16, 40, .inl fs) ∧ F ad = .inl (cs 16, 40, .inl fd) ∧ F na = .inl (cs 23, 40, .inr (.inr (.inr (.inr fn)))) ∧ F va = .inl (cs 23, 40, .inr (.inr (.inr (.inr fv)))) ∧ ∀ k, k < ze → DM1 cs F (fs k) (fd k) (fn k) (fv k) (D k)
theorem ENM.fr {cs : Nat → ClassId} {ty : TyM} {gm : Nat → Nat → Nat} {L S : List Nat} {F G : Nat → va_E} {δ na k rm n : Nat} {f : Nat → Int32} {fn : Nat → Option Nat} (h : ENM cs F (fn k) rm n f) (hO : OKm cs ty gm L F) (hW : WTm ty gm L) (hL : na ∈ L) (hT : ty na = (27, δ, [40, rm])) (hn : F na = .inl (cs 23, 40, .inr (.inr (.inr (.inr fn))))) (hk : k < 40) (hR : FR ty S F G) (hS : δ + k + 100 ∉ S) : ENM cs G (fn k) rm n f := by
  obtain ⟨b, r, h1, h2, h3, h4⟩ := h
  obtain ⟨f9, g1, g2⟩ := hO.rtxj hL hT
  obtain rfl : f9 = fn := by
    have e9 := g1.symm.trans hn
    simpa using e9
  obtain ⟨b9, r9, k1, k2, k3⟩ := g2 k hk
  obtain rfl : b9 = b := Option.some.inj (k1.symm.trans h1)
  obtain ⟨z1, u1, -⟩ := hO.txt k2 k3
  have e8 := u1.symm.trans h2
  simp only [Sum.inr.injEq, Prod.mk.injEq, List.cons.injEq, Value.ref.injEq, true_and] at e8
  obtain ⟨rfl, -⟩ := e8
  obtain ⟨m1, m2, -⟩ := hW.txt k2 k3
  exact ⟨b9, r9, h1, (hR b9 (by rw [k3]; exact hS)).trans h2, (hR r9 (by rw [m2]; exact hS)).trans h3, h4⟩
theorem DIRM.fr {cs : Nat → ClassId} {ty : TyM} {gm : Nat → Nat → Nat} {L S : List Nat} {F G : Nat → va_E} {ρ so ad na va ze : Nat} {D : Nat → ETY} (h : DIRM cs F so ad na va ze D) (hO : OKm cs ty gm L F) (hW : WTm ty gm L) (hLn : na ∈ L) (hTn : ty na = (27, ρ + 4, [40, 60])) (hLv : va ∈ L) (hTv : ty va = (27, ρ + 50, [40, 700])) (hz : ze ≤ 40) (hR : FR ty S F G) (h1 : G so = F so) (h2 : G ad = F ad) (h3 : G na = F na) (h4 : G va = F va) (hS : ∀ k, k < ze → ρ + 4 + k + 100 ∉ S ∧ ρ + 50 + k + 100 ∉ S) : DIRM cs G so ad na va ze D := by
  obtain ⟨fs, fd, fn, fv, a1, a2, a3, a4, a5⟩ := h
  refine ⟨fs, fd, fn, fv, h1.trans a1, h2.trans a2, h3.trans a3, h4.trans a4, fun k hk => ?_⟩
  obtain ⟨b1, b2, b3, b4⟩ := a5 k hk
  exact ⟨b1, b2, b3.fr hO hW hLn hTn a3 (by omega) hR (hS k hk).1, b4.fr hO hW hLv hTv a4 (by omega) hR (hS k hk).2⟩
theorem DIRM.none {cs : Nat → ClassId} {F : Nat → va_E} {so ad na va : Nat} {D : Nat → ETY} {fs fd : Nat → Int32} {fn fv : Nat → Option Nat} (a1 : F so = .inl (cs 16, 40, .inl fs)) (a2 : F ad = .inl (cs 16, 40, .inl fd)) (a3 : F na = .inl (cs 23, 40, .inr (.inr (.inr (.inr fn))))) (a4 : F va = .inl (cs 23, 40, .inr (.inr (.inr (.inr fv))))) : DIRM cs F so ad na va 0 D :=
  ⟨fs, fd, fn, fv, a1, a2, a3, a4, fun k hk => absurd hk (Nat.not_lt_zero _)⟩
theorem FR.unre {ty ty2 : TyM} {h k ρ : Nat} {im im2 : List Nat} {S : List Nat} {F G : Nat → va_E} (hT : ty h = (k, ρ, im)) (he : ty2 = rtf ty h (k, ρ, im2)) (hR : FR ty2 S F G) : FR ty S F G := by
  subst he
  intro a ha
  refine hR a ?_
  by_cases c : a = h
  · subst c
    rw [rtf_self]
    rw [hT] at ha
    exact ha
  · rw [rtf_ne c]
    exact ha
theorem DIRM.less {cs : Nat → ClassId} {F : Nat → va_E} {so ad na va ze z2 : Nat} {D : Nat → ETY} (h : DIRM cs F so ad na va ze D) (hz : z2 ≤ ze) : DIRM cs F so ad na va z2 D := by
  obtain ⟨fs, fd, fn, fv, a1, a2, a3, a4, a5⟩ := h
  exact ⟨fs, fd, fn, fv, a1, a2, a3, a4, fun k hk => a5 k (by omega)⟩
theorem DIRM.same {cs : Nat → ClassId} {F : Nat → va_E} {so ad na va ze : Nat} {D : Nat → ETY} {d : ETY} (h : DIRM cs F so ad na va ze D) : DIRM cs F so ad na va ze (fun k => if k = ze then d else D k) := by
  obtain ⟨fs, fd, fn, fv, a1, a2, a3, a4, a5⟩ := h
  refine ⟨fs, fd, fn, fv, a1, a2, a3, a4, fun k hk => ?_⟩
  show DM1 cs F (fs k) (fd k) (fn k) (fv k) (if k = ze then d else D k)
  rw [if_neg (by omega)]
  exact a5 k hk
theorem DIRM.add {cs : Nat → ClassId} {ty : TyM} {gm : Nat → Nat → Nat} {L S : List Nat} {F G : Nat → va_E} {ρ so ad na va ze : Nat} {D : Nat → ETY} {d : ETY} {fs fd : Nat → Int32} {fn fv : Nat → Option Nat} (h : DIRM cs F so ad na va ze D) (hO : OKm cs ty gm L F) (hW : WTm ty gm L) (hLn : na ∈ L) (hTn : ty na = (27, ρ + 4, [40, 60])) (hLv : va ∈ L) (hTv : ty va = (27, ρ + 50, [40, 700])) (hz : ze ≤ 40) (hR : FR ty S F G) (h3 : G na = F na) (h4 : G va = F va) (hS : ∀ k, k < ze → ρ + 4 + k + 100 ∉ S ∧ ρ + 50 + k + 100 ∉ S) (a1 : F so = .inl (cs 16, 40, .inl fs)) (a2 : F ad = .inl (cs 16, 40, .inl fd)) (a3 : F na = .inl (cs 23, 40, .inr (.inr (.inr (.inr fn))))) (a4 : F va = .inl (cs 23, 40, .inr (.inr (.inr (.inr fv))))) (g1 : G so = .inl (cs 16, 40, .inl (upd fs ze d.1))) (g2 : G ad = .inl (cs 16, 40, .inl (upd fd ze d.2.1))) (e1 : ENM cs G (fn ze) 60 d.2.2.1 d.2.2.2.1) (e2 : ENM cs G (fv ze) 700 d.2.2.2.2.1 d.2.2.2.2.2) : DIRM cs G so ad na va (ze + 1) (fun k => if k = ze then d else D k) := by
  obtain ⟨fs9, fd9, fn9, fv9, b1, b2, b3, b4, b5⟩ := h
  obtain rfl : fs = fs9 := by
    have e9 := a1.symm.trans b1
    simpa using e9
  obtain rfl : fd = fd9 := by
    have e9 := a2.symm.trans b2
    simpa using e9
  obtain rfl : fn = fn9 := by
    have e9 := a3.symm.trans b3
    simpa using e9
  obtain rfl : fv = fv9 := by
    have e9 := a4.symm.trans b4
    simpa using e9
  refine ⟨upd fs ze d.1, upd fd ze d.2.1, fn, fv, g1, g2, h3.trans a3, h4.trans a4, fun k hk => ?_⟩
  show DM1 cs G (upd fs ze d.1 k) (upd fd ze d.2.1 k) (fn k) (fv k) (if k = ze then d else D k)
  by_cases c : k = ze
  · rw [if_pos c, c]
    exact ⟨if_pos rfl, if_pos rfl, e1, e2⟩
  · rw [if_neg c]
    obtain ⟨c1, c2, c3, c4⟩ := b5 k (by omega)
    exact ⟨(if_neg c).trans c1, (if_neg c).trans c2, c3.fr hO hW hLn hTn a3 (by omega) hR (hS k (by omega)).1, c4.fr hO hW hLv hTv a4 (by omega) hR (hS k (by omega)).2⟩
theorem enx3 {x1 x2 : Int32} {f fc fd : Nat → Int32} {z k kn : Nat} (hk : kn = k) (h2 : x1 = 0 ∨ x1 = 2) (hf : FST f 32 z k) (hn : NM f 0 kn = true) (hv : ISV x1 f z k) (h1 : ∀ j, j < kn - 0 → fc j = f (0 + j)) (h3 : ∀ j, j < z - (k + 1) → fd j = f (k + 1 + j)) : ENX x1 x2 f z (x1, x2, kn - 0, fc, z - (k + 1), fd) := by
  subst hk
  exact enx2 h2 hf hn hv h1 h3
theorem enx4 {x1 x2 : Int32} {f fc fd : Nat → Int32} {z kn : Nat} (hk : kn = z) (h2 : ¬ (x1 = 0 ∨ x1 = 2)) (hn : NM f 0 kn = true) (h1 : ∀ j, j < kn - 0 → fc j = f (0 + j)) : ENX x1 x2 f z (x1, x2, kn - 0, fc, 0, fd) := by
  subst hk
  exact enx1 h2 hn h1
set_option maxHeartbeats 4000000 in
set_option maxRecDepth 100000 in
theorem s_X14_add_e (l : Launch) (dC : Nat → ClassId) (dI : Nat → Nat → Nat) (cs : Nat → ClassId) (ty : TyM) (gm : Nat → Nat → Nat) (L : List Nat) (sz : Nat) (F : Nat → va_E) (h0 : Nat) (ρ : Nat) (r0 : Nat) (n : Nat) (g1 : Nat) (σ : Nat) (n1 : Nat) (a : Nat) (tt : Nat) (gf : Nat → Int32) (hW : WTm ty gm L) (hL_h0 : h0 ∈ L) (hT_h0 : ty h0 = (14, ρ, [r0, n])) (hL_g1 : g1 ∈ L) (hT_g1 : ty g1 = (17, σ, [n1])) (hF0 : F h0 = .inr (14, [.ref r0, .int (nI 0)])) (hFg : F g1 = .inl (cs 17, n1, .inl gf)) (hat : a ≤ tt) (htn : tt ≤ n1) (hfit : tt - a ≤ n) : Met l yX14_add_ (.code yX14_add_ cX14_add_ 4 none :: tb) ({ frames := 1, cells := 0, slots := 0, locals := 48 }) (va_Pc [.ref h0, .ref g1, .int (nI a), .int (nI tt)] (PTm (dC, dI) cs ty gm L F sz)) (va_Qv (fun _ : Unit => True) (fun _ T9 => ∃ F2 : Nat → va_E, ∃ fc : Nat → Int32, QTm (dC, dI) cs ty gm L [ρ] F F2 (va_A (va_pl L F) sz) T9 ∧ F2 h0 = .inr (14, [.ref r0, .int (nI (0 + (tt - a)))]) ∧ F2 r0 = .inl (cs 17, n, .inl fc) ∧ (∀ j, j < tt - a → fc j = gf (a + j))) (va_A (va_pl L F) sz)) 0 0 (va_A (va_pl L F) sz) := by
  refine Met.ofW (cc := cX14_add_) (maxL := 4) (ret := none) (by decide) rfl ?_
  intro p e s m args below meth c s₁ B hml hv
  obtain ⟨rfl, hsz, hP, hK, hD0, hE, hO⟩ := hv
  have hx := B.exec
  have hb := B.bytes
  have hr := B.returns
  have hts : ∀ w ∈ tb, w.before _ s = true := fun w h => atoms_spec (ws := .code yX14_add_ cX14_add_ 4 none :: tb) B.pre w (List.mem_cons_of_mem _ h)
  have hown : s.vm.findClass RX14 = some m.cls := findClass_of_methodNamed B.named
  have hlocks := B.notSynchronized
  subst hsz
  have hD := hD0.self (sz := s.heap.size)
  generalize hAe : va_A (va_pl L F) s.heap.size = A at hD ⊢
  have hA : ∀ q : Nat, s.heap.size ≤ q → A q := fun q h => by rw [← hAe]; exact Or.inr h
  have hS : va_S A s.heap s.heap [] := va_S.rf
  have hR : FR ty [ρ] F F := FR.refl
  have hl := lv_entry ([.ref h0, .ref g1, .int (nI a), .int (nI tt)]) (n := 4) (Nat.le_of_ble_eq_true rfl)
  rw [lg_entry_eq]
  generalize (lg_sl ([.ref h0, .ref g1, .int (nI a), .int (nI tt)]) ++ List.replicate (4 - (lg_sl ([.ref h0, .ref g1, .int (nI a), .int (nI tt)])).length) Slot.unset).toArray = ls at hl ⊢
  have hl : lv_has ls 4 [(0, .ref h0), (1, .ref g1), (2, .int (nI a)), (3, .int (nI tt))] := hl
  have hBg := bfmo hFg (hO.octs hL_g1 hT_g1)
  refine lv_aload_n hx hb dX14_add__0 rfl (lv_at hl 1 rfl) ?_
  refine lv_iload_n hx hb dX14_add__1 rfl (lv_at hl 2 rfl) ?_
  refine lv_aload_n hx hb dX14_add__2 rfl (lv_at hl 0 rfl) ?_
  obtain ⟨hi_1, ht_2, hq_3⟩ := hW.txt hL_h0 hT_h0
  refine pg_get (ci := 14) (v := .ref r0) (C := RX14) (T := TX14) (N := 2) hx hb hts it_14 hown hK hP hL_h0 hF0 rfl 0 (by decide) (hts _ kt_662) (fun _ h9 => h9) rfl dX14_add__3 ?_
  refine lv_aload_n hx hb dX14_add__6 rfl (lv_at hl 0 rfl) ?_
  refine pg_get (ci := 14) (v := .int (nI 0)) (C := RX14) (T := TX14) (N := 2) hx hb hts it_14 hown hK hP hL_h0 hF0 rfl 1 (by decide) (hts _ kt_663) (fun _ h9 => h9) rfl dX14_add__7 ?_
  refine lv_iload_n hx hb dX14_add__10 rfl (lv_at hl 3 rfl) ?_
  refine lv_iload_n hx hb dX14_add__11 rfl (lv_at hl 2 rfl) ?_
  refine lv_isub hx hb dX14_add__12 ?_
  refine lv_topi (fun x_4 ex_4 => ?_)
  obtain rfl : x_4 = (nI (tt - a)) := ex_4.trans (pk_sub (a := tt) (b := a) (by omega))
  obtain ⟨hq_5, hq_6⟩ := hW.octs hL_g1 hT_g1
  obtain ⟨hq_7, hq_8⟩ := hW.octs hi_1 ht_2
  obtain ⟨f_9, hF_10, hq_11⟩ := hO.octs hi_1 ht_2
  refine pg_copyi hx hb (by rw [hml]; exact hl.1.symm) hown (hts _ kt_664) (hts _ kt_29) (hts _ kt_30) (hts _ kt_31) hK hP hD hS hL_g1 hi_1 1 1 hFg hF_10 rfl rfl rfl (nI_pos (by omega)) (nI_pos (by omega)) (nI_pos (by omega)) (by rw [nI_clamp (by omega), nI_clamp (by omega)]; omega) (by rw [nI_clamp (by omega), nI_clamp (by omega)]; omega) (fun _ _ => hBg _) (Nat.le_of_ble_eq_true rfl) (by decide) dX14_add__13 (fun H locs hP hD hS => ?_)
  obtain ⟨F_12, he_13, hP, hD, hO, hR⟩ : ∃ G, G = va_up F r0 (.inl (cs 17, n, .inl (va_cpy gf f_9 ((nI a)).toNatClampNeg ((nI 0)).toNatClampNeg ((nI (tt - a))).toNatClampNeg))) ∧ va_P (dC, dI) vwCl (va_pl L G) H ∧ va_D A (va_pl L G) ∧ OKm cs ty gm L G ∧ FR ty [ρ] F G := ⟨_, rfl, hP, hD, hO.up (shm.octs ht_2 ⟨_, rfl, bfm_cpy hBg hq_11 _ _ _⟩), hR.up ht_2 (by simp)⟩
  have hF_14 : F_12 r0 = .inl (cs 17, n, .inl (va_cpy gf f_9 ((nI a)).toNatClampNeg ((nI 0)).toNatClampNeg ((nI (tt - a))).toNatClampNeg)) := by rw [he_13]; exact up_self
  have hF_15 : F_12 h0 = .inr (14, [.ref r0, .int (nI 0)]) := by rw [he_13, up_ne (ne_ty hT_h0 ht_2 (by simp))]; exact hF0
  obtain ⟨f_16, hF_14, hq_17, hfe_18⟩ : ∃ f : Nat → Int32, F_12 r0 = .inl (cs 17, n, .inl f) ∧ BFm f ∧ f = va_cpy gf f_9 ((nI a)).toNatClampNeg ((nI 0)).toNatClampNeg ((nI (tt - a))).toNatClampNeg := ⟨_, hF_14, bfm_cpy hBg hq_11 _ _ _, rfl⟩
  refine lv_aload_n hx hb dX14_add__16 rfl (lv_at hl 0 rfl) ?_
  refine lv_dup hx hb dX14_add__17 rfl ?_
  refine pg_get (ci := 14) (v := .int (nI 0)) (C := RX14) (T := TX14) (N := 2) hx hb hts it_14 hown hK hP hL_h0 hF_15 rfl 1 (by decide) (hts _ kt_663) (fun _ h9 => h9) rfl dX14_add__18 ?_
  refine lv_iload_n hx hb dX14_add__21 rfl (lv_at hl 3 rfl) ?_
  refine lv_iload_n hx hb dX14_add__22 rfl (lv_at hl 2 rfl) ?_
  refine lv_isub hx hb dX14_add__23 ?_
  refine lv_topi (fun x_19 ex_19 => ?_)
  obtain rfl : x_19 = (nI (tt - a)) := ex_19.trans (pk_sub (a := tt) (b := a) (by omega))
  refine lv_iadd hx hb dX14_add__24 ?_
  refine lv_topi (fun x_20 ex_20 => ?_)
  obtain rfl : x_20 = (nI (0 + (tt - a))) := ex_20.trans (nI_add 0 (tt - a))
  refine pg_put (ci := 14) (v := .int (nI (0 + (tt - a)))) (ty := .int) (C := RX14) (T := TX14) (N := 2) hx hb hts it_14 tyX14 tyX14_ok nmX14 hown hK hP hD hS hL_h0 hF_15 rfl 1 (by decide) (hts _ kt_663) (fun _ h9 => h9) rfl (by decide +kernel) (rfl) (rfl) (Nat.le_of_ble_eq_true rfl) dX14_add__25 (fun H locs hP hD hS => ?_)
  obtain ⟨F_21, he_22, hP, hD, hO, hR⟩ : ∃ G, G = va_up F_12 h0 (.inr (14, [.ref r0, .int (nI (0 + (tt - a)))])) ∧ va_P (dC, dI) vwCl (va_pl L G) H ∧ va_D A (va_pl L G) ∧ OKm cs ty gm L G ∧ FR ty [ρ] F G := ⟨_, rfl, hP, hD, hO.up (shm.txt hT_h0 ⟨(0 + (tt - a)), rfl, (by first | omega | assumption | exact Or.inl rfl | exact Or.inr rfl)⟩), hR.up hT_h0 (by simp)⟩
  have hF_23 : F_21 h0 = .inr (14, [.ref r0, .int (nI (0 + (tt - a)))]) := by rw [he_22]; exact up_self
  have hF_24 : F_21 r0 = .inl (cs 17, n, .inl f_16) := by rw [he_22, up_ne (ne_ty ht_2 hT_h0 (by simp))]; exact hF_14
  refine W.widen (k := 0) (n := 0) (by omega) (by omega) ?_
  exact W.vret hx hb hr (fun t ht hWm => ⟨⟨(), rfl, trivial, ⟨F_21, f_16, QTm.mk ht hP hD hO hR, hF_23, hF_24, (by rw [hfe_18]; exact cpy_at (by omega) (by omega))⟩⟩, hS.F ht⟩) hS.2.2 dX14_add__28
set_option maxHeartbeats 4000000 in
set_option maxRecDepth 100000 in
theorem s_X14_set_e (l : Launch) (dC : Nat → ClassId) (dI : Nat → Nat → Nat) (cs : Nat → ClassId) (ty : TyM) (gm : Nat → Nat → Nat) (L : List Nat) (sz : Nat) (F : Nat → va_E) (h0 : Nat) (ρ : Nat) (r0 : Nat) (n : Nat) (g1 : Nat) (σ : Nat) (n1 : Nat) (a : Nat) (tt : Nat) (gf : Nat → Int32) (hW : WTm ty gm L) (hL_h0 : h0 ∈ L) (hT_h0 : ty h0 = (14, ρ, [r0, n])) (hL_g1 : g1 ∈ L) (hT_g1 : ty g1 = (17, σ, [n1])) (hFg : F g1 = .inl (cs 17, n1, .inl gf)) (hat : a ≤ tt) (htn : tt ≤ n1) (hfit : tt - a ≤ n) : Met l yX14_set (.code yX14_set cX14_set 4 none :: tb) ({ frames := 2, cells := 0, slots := 0, locals := 71 }) (va_Pc [.ref h0, .ref g1, .int (nI a), .int (nI tt)] (PTm (dC, dI) cs ty gm L F sz)) (va_Qv (fun _ : Unit => True) (fun _ T9 => ∃ F2 : Nat → va_E, ∃ fc : Nat → Int32, QTm (dC, dI) cs ty gm L [ρ] F F2 (va_A (va_pl L F) sz) T9 ∧ F2 h0 = .inr (14, [.ref r0, .int (nI (tt - a))]) ∧ F2 r0 = .inl (cs 17, n, .inl fc) ∧ (∀ j, j < tt - a → fc j = gf (a + j))) (va_A (va_pl L F) sz)) 0 0 (va_A (va_pl L F) sz) := by
  refine Met.ofW (cc := cX14_set) (maxL := 4) (ret := none) (by decide) rfl ?_
  intro p e s m args below meth c s₁ B hml hv
  obtain ⟨rfl, hsz, hP, hK, hD0, hE, hO⟩ := hv
  have hx := B.exec
  have hb := B.bytes
  have hr := B.returns
  have hts : ∀ w ∈ tb, w.before _ s = true := fun w h => atoms_spec (ws := .code yX14_set cX14_set 4 none :: tb) B.pre w (List.mem_cons_of_mem _ h)
  have hown : s.vm.findClass RX14 = some m.cls := findClass_of_methodNamed B.named
  have hlocks := B.notSynchronized
  subst hsz
  have hD := hD0.self (sz := s.heap.size)
  generalize hAe : va_A (va_pl L F) s.heap.size = A at hD ⊢
  have hA : ∀ q : Nat, s.heap.size ≤ q → A q := fun q h => by rw [← hAe]; exact Or.inr h
  have hS : va_S A s.heap s.heap [] := va_S.rf
  have hR : FR ty [ρ] F F := FR.refl
  have hl := lv_entry ([.ref h0, .ref g1, .int (nI a), .int (nI tt)]) (n := 4) (Nat.le_of_ble_eq_true rfl)
  rw [lg_entry_eq]
  generalize (lg_sl ([.ref h0, .ref g1, .int (nI a), .int (nI tt)]) ++ List.replicate (4 - (lg_sl ([.ref h0, .ref g1, .int (nI a), .int (nI tt)])).length) Slot.unset).toArray = ls at hl ⊢
  have hl : lv_has ls 4 [(0, .ref h0), (1, .ref g1), (2, .int (nI a)), (3, .int (nI tt))] := hl
  refine lv_aload_n hx hb dX14_set_0 rfl (lv_at hl 0 rfl) ?_
  refine lv_iconst (v := 0) hx hb dX14_set_1 (by decide) ?_
  obtain ⟨hi_1, ht_2, hq_3⟩ := hW.txt hL_h0 hT_h0
  obtain ⟨z_4, hF_5, hq_6⟩ := hO.txt hL_h0 hT_h0
  refine pg_put (ci := 14) (v := .int 0) (ty := .int) (C := RX14) (T := TX14) (N := 2) hx hb hts it_14 tyX14 tyX14_ok nmX14 hown hK hP hD hS hL_h0 hF_5 rfl 1 (by decide) (hts _ kt_663) (fun _ h9 => h9) rfl (by decide +kernel) (rfl) (rfl) (Nat.le_of_ble_eq_true rfl) dX14_set_2 (fun H locs hP hD hS => ?_)
  obtain ⟨F_7, he_8, hP, hD, hO, hR⟩ : ∃ G, G = va_up F h0 (.inr (14, [.ref r0, .int 0])) ∧ va_P (dC, dI) vwCl (va_pl L G) H ∧ va_D A (va_pl L G) ∧ OKm cs ty gm L G ∧ FR ty [ρ] F G := ⟨_, rfl, hP, hD, hO.up (shm.txt hT_h0 ⟨0, rfl, (by first | omega | assumption | exact Or.inl rfl | exact Or.inr rfl)⟩), hR.up hT_h0 (by simp)⟩
  have hF_9 : F_7 h0 = .inr (14, [.ref r0, .int 0]) := by rw [he_8]; exact up_self
  have hF_10 : F_7 g1 = .inl (cs 17, n1, .inl gf) := by rw [he_8, up_ne (ne_ty hT_g1 hT_h0 (by simp))]; exact hFg
  refine lv_aload_n hx hb dX14_set_5 rfl (lv_at hl 0 rfl) ?_
  refine lv_aload_n hx hb dX14_set_6 rfl (lv_at hl 1 rfl) ?_
  refine lv_iload_n hx hb dX14_set_7 rfl (lv_at hl 2 rfl) ?_
  refine lv_iload_n hx hb dX14_set_8 rfl (lv_at hl 3 rfl) ?_
  obtain ⟨hq_11, hq_12⟩ := hW.octs hL_g1 hT_g1
  have hFc := pg_free hD hS hA
  refine va_callv (va_runV (As := [.ref g1, .int (nI a), .int (nI tt)]) (rest := []) ⟨hx, hb, hml, hown, hts⟩ (s_X14_add_e l dC dI cs ty gm L H.size F_7 h0 ρ r0 n g1 σ n1 a tt gf hW hL_h0 hT_h0 hL_g1 hT_g1 hF_9 hF_10 (hat) (htn) (hfit)) ⟨callB_of 3 hts (gi kt_665) rfl rfl rfl (hts _ kt_666) (hts _ kt_667) (by decide +kernel) ⟨Nat.le_of_ble_eq_true rfl, Nat.le_of_ble_eq_true rfl⟩, (hts _ kt_668), (hts _ kt_669)⟩ ⟨fun a U g mk q => ⟨q.1, PTm.calling q.2⟩, pg_recv hK hP hL_h0 hF_9 (q := (RX14, TX14, 2)) rfl, fun U hU hWm => ⟨rfl, PTm.mk hU hWm hP hK hD hE hO⟩⟩ rfl rfl hl.1 rfl (lv_room (Nat.le_of_ble_eq_true rfl)) dX14_set_9 ⟨by show _ + 0 ≤ 0; omega, by show _ + 0 ≤ 0; omega⟩) hS (fun q _ h => hFc q h) hFc (fun u t H1 locs ht hvm hw hB hz1 hk1 hS => ?_)
  obtain ⟨F_14, fc_15, hB1, hq_16, hq_17, hq_18⟩ := hB
  obtain ⟨hP, hD, hO, hR⟩ := QTm.back hB1 ht hFc hR (fun q h => by simp only [List.mem_cons, List.not_mem_nil, or_false] at h ⊢; omega)
  generalize H1 = H at hP hS ⊢
  refine W.widen (k := 0) (n := 0) (by omega) (by omega) ?_
  exact W.vret hx hb hr (fun t ht hWm => ⟨⟨(), rfl, trivial, ⟨F_14, fc_15, QTm.mk ht hP hD hO hR, (by rw [hq_16, Nat.zero_add]), hq_17, hq_18⟩⟩, hS.F ht⟩) hS.2.2 dX14_set_12
set_option maxHeartbeats 4000000 in
set_option maxRecDepth 100000 in
theorem s_X14_isUnder_e (l : Launch) (dC : Nat → ClassId) (dI : Nat → Nat → Nat) (cs : Nat → ClassId) (ty : TyM) (gm : Nat → Nat → Nat) (L : List Nat) (sz : Nat) (F : Nat → va_E) (h0 : Nat) (ρ : Nat) (r0 : Nat) (n : Nat) (g1 : Nat) (σ : Nat) (r1 : Nat) (n1 : Nat) (z : Nat) (y : Nat) (gf : Nat → Int32) (hf : Nat → Int32) (hW : WTm ty gm L) (hL_h0 : h0 ∈ L) (hT_h0 : ty h0 = (14, ρ, [r0, n])) (hL_g1 : g1 ∈ L) (hT_g1 : ty g1 = (14, σ, [r1, n1])) (hF0 : F h0 = .inr (14, [.ref r0, .int (nI z)])) (hFr0 : F r0 = .inl (cs 17, n, .inl gf)) (hF1 : F g1 = .inr (14, [.ref r1, .int (nI y)])) (hFr1 : F r1 = .inl (cs 17, n1, .inl hf)) (hzn : z ≤ n) (hy1 : y ≤ n1) : Met l yX14_isUnder (.code yX14_isUnder cX14_isUnder 3 (some .boolean) :: tb) ({ frames := 0, cells := 0, slots := 0, locals := 0 }) (va_Pc [.ref h0, .ref g1] (PTm (dC, dI) cs ty gm L F sz)) (va_Qi (fun (r : Int32) (_ : Unit) => (r = 1 ∧ UNM gf z hf y) ∨ (r = 0 ∧ ¬ UNM gf z hf y)) (fun _ T9 => ∃ F2 : Nat → va_E, QTm (dC, dI) cs ty gm L [] F F2 (va_A (va_pl L F) sz) T9) (va_A (va_pl L F) sz)) 0 0 (va_A (va_pl L F) sz) := by
  refine Met.ofW (cc := cX14_isUnder) (maxL := 3) (ret := (some .boolean)) (by decide) rfl ?_
  intro p e s m args below meth c s₁ B hml hv
  obtain ⟨rfl, hsz, hP, hK, hD0, hE, hO⟩ := hv
  have hx := B.exec
  have hb := B.bytes
  have hr := B.returns
  have hts : ∀ w ∈ tb, w.before _ s = true := fun w h => atoms_spec (ws := .code yX14_isUnder cX14_isUnder 3 (some .boolean) :: tb) B.pre w (List.mem_cons_of_mem _ h)
  have hown : s.vm.findClass RX14 = some m.cls := findClass_of_methodNamed B.named
  have hlocks := B.notSynchronized
  subst hsz
  have hD := hD0.self (sz := s.heap.size)
  generalize hAe : va_A (va_pl L F) s.heap.size = A at hD ⊢
  have hA : ∀ q : Nat, s.heap.size ≤ q → A q := fun q h => by rw [← hAe]; exact Or.inr h
  have hS : va_S A s.heap s.heap [] := va_S.rf
  have hR : FR ty [] F F := FR.refl
  have hl := lv_entry ([.ref h0, .ref g1]) (n := 3) (Nat.le_of_ble_eq_true rfl)
  rw [lg_entry_eq]
  generalize (lg_sl ([.ref h0, .ref g1]) ++ List.replicate (3 - (lg_sl ([.ref h0, .ref g1])).length) Slot.unset).toArray = ls at hl ⊢
  have hl : lv_has ls 3 [(0, .ref h0), (1, .ref g1)] := hl
  obtain ⟨hi_1, ht_2, hq_3⟩ := hW.txt hL_h0 hT_h0
  obtain ⟨hi_4, ht_5, hq_6⟩ := hW.txt hL_g1 hT_g1
  refine lv_aload_n hx hb dX14_isUnder_0 rfl (lv_at hl 0 rfl) ?_
  refine pg_get (ci := 14) (v := .int (nI z)) (C := RX14) (T := TX14) (N := 2) hx hb hts it_14 hown hK hP hL_h0 hF0 rfl 1 (by decide) (hts _ kt_663) (fun _ h9 => h9) rfl dX14_isUnder_1 ?_
  refine lv_aload_n hx hb dX14_isUnder_4 rfl (lv_at hl 1 rfl) ?_
  refine pg_get (ci := 14) (v := .int (nI y)) (C := RX14) (T := TX14) (N := 2) hx hb hts it_14 hown hK hP hL_g1 hF1 rfl 1 (by decide) (hts _ kt_663) (fun _ h9 => h9) rfl dX14_isUnder_5 ?_
  refine lv_icmp_lt (tgt := 56) hx hb dX14_isUnder_8 (by decide) (fun c_7 => ?_) (fun c_7 => ?_)
  ·
    have hi_8 : z < y := ltN (N := y) (Int32.not_le.mpr c_7)
    refine lv_iconst (v := 0) hx hb dX14_isUnder_56 (by decide) ?_
    refine W.widen (k := 0) (n := 0) (by omega) (by omega) ?_
    exact W.zret (v := 0) (ty := .boolean) hx hb hr (by decide) (fun t ht hWm => ⟨⟨0, (), rfl, (Or.inr ⟨rfl, fun q => absurd q.1 (by omega)⟩), ⟨F, QTm.mk ht hP hD hO hR⟩⟩, hS.F ht⟩) hS.2.2 dX14_isUnder_57
  ·
    have hi_9 : y ≤ z := leN (N := y) (Int32.not_lt.mp c_7)
    refine W.widen (k := 0) (n := 0) (by omega) (by omega) ?_
    refine pl_cutm (σ := Unit) A (dC, dI) cs ty gm L [] F 58 3 (fun u0 => [(0, .ref h0), (1, .ref g1)]) (fun u0 => []) (fun u0 _ => y ≤ z ∧ (z = y ∨ (z ≠ y + 1 ∧ gf (z - y - 1) = 46))) ?_ (fun jn_10 => ?_)
    ·
      rintro u0 F_11 hv_12 hO hR H locs hP hD hS ls hl
      have hl : lv_has ls 3 [(0, .ref h0), (1, .ref g1)] := hl
      have hv_12 : y ≤ z ∧ (z = y ∨ (z ≠ y + 1 ∧ gf (z - y - 1) = 46)) := hv_12
      refine W.eq (g2 := F0 m 58 ls []) rfl ?_
      obtain rfl : F = F_11 := (funext (fun a => hR a List.not_mem_nil)).symm
      obtain ⟨hu1, hu2⟩ := id hv_12
      refine lv_iconst (v := 0) hx hb dX14_isUnder_58 (by decide) ?_
      refine lv_istore_n (lv' := [(2, .int 0), (0, .ref h0), (1, .ref g1)]) hx hb dX14_isUnder_59 rfl hl (by decide) rfl (fun ls hl => ?_)
      refine W.widen (k := 0) (n := 0) (by omega) (by omega) ?_
      refine pl_loopm (σ := Nat) A (dC, dI) cs ty gm L [] F 60 3 (fun j => [(2, .int (nI j)), (0, .ref h0), (1, .ref g1)]) (fun j => []) (fun j _ => j ≤ y ∧ (∀ i, i < j → gf (z - y + i) = hf i)) (fun j => y - j) ?_ 0 F (⟨by omega, fun i hi => absurd hi (Nat.not_lt_zero _)⟩) hO hR _ _ hP hD hS ls (lv_sub hl [0, 1, 2] rfl)
      rintro j F_13 hv_14 hO hR ih_15 H locs hP hD hS ls hl
      have hl : lv_has ls 3 [(2, .int (nI j)), (0, .ref h0), (1, .ref g1)] := hl
      have hv_14 : j ≤ y ∧ (∀ i, i < j → gf (z - y + i) = hf i) := hv_14
      refine W.eq (g2 := F0 m 60 ls []) rfl ?_
      obtain rfl : F = F_13 := (funext (fun a => hR a List.not_mem_nil)).symm
      obtain ⟨hv1, hv2⟩ := id hv_14
      refine lv_iload_n hx hb dX14_isUnder_60 rfl (lv_at hl 0 rfl) ?_
      refine lv_aload_n hx hb dX14_isUnder_61 rfl (lv_at hl 2 rfl) ?_
      refine pg_get (ci := 14) (v := .int (nI y)) (C := RX14) (T := TX14) (N := 2) hx hb hts it_14 hown hK hP hL_g1 hF1 rfl 1 (by decide) (hts _ kt_663) (fun _ h9 => h9) rfl dX14_isUnder_62 ?_
      refine lv_icmp_ge (tgt := 101) hx hb dX14_isUnder_65 (by decide) (fun c_16 => ?_) (fun c_16 => ?_)
      ·
        have hi_17 : y ≤ j := leN (N := y) c_16
        refine lv_iconst (v := 1) hx hb dX14_isUnder_101 (by decide) ?_
        refine W.widen (k := 0) (n := 0) (by omega) (by omega) ?_
        exact W.zret (v := 1) (ty := .boolean) hx hb hr (by decide) (fun t ht hWm => ⟨⟨1, (), rfl, (Or.inl ⟨rfl, hu1, hu2, fun i hi => hv2 i (by omega)⟩), ⟨F, QTm.mk ht hP hD hO hR⟩⟩, hS.F ht⟩) hS.2.2 dX14_isUnder_102
      ·
        have hi_18 : j < y := ltN (N := y) c_16
        refine lv_aload_n hx hb dX14_isUnder_68 rfl (lv_at hl 1 rfl) ?_
        refine pg_get (ci := 14) (v := .ref r0) (C := RX14) (T := TX14) (N := 2) hx hb hts it_14 hown hK hP hL_h0 hF0 rfl 0 (by decide) (hts _ kt_662) (fun _ h9 => h9) rfl dX14_isUnder_69 ?_
        refine lv_aload_n hx hb dX14_isUnder_72 rfl (lv_at hl 1 rfl) ?_
        refine pg_get (ci := 14) (v := .int (nI z)) (C := RX14) (T := TX14) (N := 2) hx hb hts it_14 hown hK hP hL_h0 hF0 rfl 1 (by decide) (hts _ kt_663) (fun _ h9 => h9) rfl dX14_isUnder_73 ?_
        refine lv_aload_n hx hb dX14_isUnder_76 rfl (lv_at hl 2 rfl) ?_
        refine pg_get (ci := 14) (v := .int (nI y)) (C := RX14) (T := TX14) (N := 2) hx hb hts it_14 hown hK hP hL_g1 hF1 rfl 1 (by decide) (hts _ kt_663) (fun _ h9 => h9) rfl dX14_isUnder_77 ?_
        refine lv_isub hx hb dX14_isUnder_80 ?_
        refine lv_topi (fun x_19 ex_19 => ?_)
        obtain rfl : x_19 = (nI (z - y)) := ex_19.trans (pk_sub (a := z) (b := y) (by omega))
        refine lv_iload_n hx hb dX14_isUnder_81 rfl (lv_at hl 0 rfl) ?_
        refine lv_iadd hx hb dX14_isUnder_82 ?_
        refine lv_topi (fun x_20 ex_20 => ?_)
        obtain rfl : x_20 = (nI ((z - y) + j)) := ex_20.trans (nI_add (z - y) j)
        obtain ⟨hq_21, hq_22⟩ := hW.octs hi_1 ht_2
        refine pg_bald hx hb hK hP hi_1 1 hFr0 rfl (vp_in_nI (by omega) (by omega)) dX14_isUnder_83 ?_
        refine lv_topi (fun x_23 ex_23 => ?_)
        obtain rfl : x_23 = gf ((z - y) + j) := ex_23.trans (congrArg gf (show ((nI ((z - y) + j)) : Int32).toNatClampNeg = ((z - y) + j) from nI_clamp (by omega)))
        refine lv_aload_n hx hb dX14_isUnder_84 rfl (lv_at hl 2 rfl) ?_
        refine pg_get (ci := 14) (v := .ref r1) (C := RX14) (T := TX14) (N := 2) hx hb hts it_14 hown hK hP hL_g1 hF1 rfl 0 (by decide) (hts _ kt_662) (fun _ h9 => h9) rfl dX14_isUnder_85 ?_
        refine lv_iload_n hx hb dX14_isUnder_88 rfl (lv_at hl 0 rfl) ?_
        obtain ⟨hq_24, hq_25⟩ := hW.octs hi_4 ht_5
        refine pg_bald hx hb hK hP hi_4 1 hFr1 rfl (vp_in_nI (by omega) (by omega)) dX14_isUnder_89 ?_
        refine lv_topi (fun x_26 ex_26 => ?_)
        obtain rfl : x_26 = hf j := ex_26.trans (congrArg hf (show ((nI j) : Int32).toNatClampNeg = j from nI_clamp (by omega)))
        refine lv_icmp_eq (tgt := 95) hx hb dX14_isUnder_90 (by decide) (fun c_27 => ?_) (fun c_27 => ?_)
        ·
          refine lv_iinc (v := (nI (j + 1))) (lv' := [(2, .int (nI (j + 1))), (0, .ref h0), (1, .ref g1)]) hx hb dX14_isUnder_95 hl (k := 0) rfl (nI_1 _) (by decide) rfl (fun ls hl => ?_)
          refine lv_goto (tgt := 60) hx hb dX14_isUnder_98 (by decide) ?_
          refine W.widen (k := 0) (n := 0) (by omega) (by omega) ?_
          exact ih_15 (j + 1) F (⟨by omega, fun i hi => by rcases Nat.lt_or_ge i j with q | q; exact hv2 i q; rw [show i = j by omega]; exact c_27⟩) (by show y - (j + 1) < y - j; omega) hO hR _ _ hP hD hS ls (lv_sub hl [0, 1, 2] rfl)
        ·
          refine lv_iconst (v := 0) hx hb dX14_isUnder_93 (by decide) ?_
          refine W.widen (k := 0) (n := 0) (by omega) (by omega) ?_
          exact W.zret (v := 0) (ty := .boolean) hx hb hr (by decide) (fun t ht hWm => ⟨⟨0, (), rfl, (Or.inr ⟨rfl, fun q => c_27 (q.2.2 j (by omega))⟩), ⟨F, QTm.mk ht hP hD hO hR⟩⟩, hS.F ht⟩) hS.2.2 dX14_isUnder_94
    ·
      refine lv_aload_n hx hb dX14_isUnder_11 rfl (lv_at hl 0 rfl) ?_
      refine pg_get (ci := 14) (v := .int (nI z)) (C := RX14) (T := TX14) (N := 2) hx hb hts it_14 hown hK hP hL_h0 hF0 rfl 1 (by decide) (hts _ kt_663) (fun _ h9 => h9) rfl dX14_isUnder_12 ?_
      refine lv_aload_n hx hb dX14_isUnder_15 rfl (lv_at hl 1 rfl) ?_
      refine pg_get (ci := 14) (v := .int (nI y)) (C := RX14) (T := TX14) (N := 2) hx hb hts it_14 hown hK hP hL_g1 hF1 rfl 1 (by decide) (hts _ kt_663) (fun _ h9 => h9) rfl dX14_isUnder_16 ?_
      refine lv_icmp_le (tgt := 58) hx hb dX14_isUnder_19 (by decide) (fun c_28 => ?_) (fun c_28 => ?_)
      ·
        have hi_29 : z ≤ y := (nI_leI (a := z) (b := y) (by omega) (by omega)).mp c_28
        refine W.widen (k := 0) (n := 0) (by omega) (by omega) ?_
        exact jn_10 () F (⟨by omega, Or.inl (by omega)⟩) hO hR _ _ hP hD hS ls (lv_sub hl [0, 1] rfl)
      ·
        have hi_30 : y < z := Nat.not_le.mp (fun q => c_28 ((nI_leI (a := z) (b := y) (by omega) (by omega)).mpr q))
        refine lv_aload_n hx hb dX14_isUnder_22 rfl (lv_at hl 0 rfl) ?_
        refine pg_get (ci := 14) (v := .int (nI z)) (C := RX14) (T := TX14) (N := 2) hx hb hts it_14 hown hK hP hL_h0 hF0 rfl 1 (by decide) (hts _ kt_663) (fun _ h9 => h9) rfl dX14_isUnder_23 ?_
        refine lv_aload_n hx hb dX14_isUnder_26 rfl (lv_at hl 1 rfl) ?_
        refine pg_get (ci := 14) (v := .int (nI y)) (C := RX14) (T := TX14) (N := 2) hx hb hts it_14 hown hK hP hL_g1 hF1 rfl 1 (by decide) (hts _ kt_663) (fun _ h9 => h9) rfl dX14_isUnder_27 ?_
        refine lv_iconst (v := 1) hx hb dX14_isUnder_30 (by decide) ?_
        refine lv_iadd hx hb dX14_isUnder_31 ?_
        refine lv_topi (fun x_31 ex_31 => ?_)
        obtain rfl : x_31 = (nI (y + 1)) := ex_31.trans (nI_add y 1)
        refine lv_icmp_eq (tgt := 56) hx hb dX14_isUnder_32 (by decide) (fun c_32 => ?_) (fun c_32 => ?_)
        ·
          have hi_33 : z = (y + 1) := (nI_eq (a := z) (b := (y + 1)) (by omega) (by omega)).mp c_32
          refine lv_iconst (v := 0) hx hb dX14_isUnder_56 (by decide) ?_
          refine W.widen (k := 0) (n := 0) (by omega) (by omega) ?_
          exact W.zret (v := 0) (ty := .boolean) hx hb hr (by decide) (fun t ht hWm => ⟨⟨0, (), rfl, (Or.inr ⟨rfl, fun q => q.2.1.elim (fun c => absurd c (by omega)) (fun c => c.1 (by omega))⟩), ⟨F, QTm.mk ht hP hD hO hR⟩⟩, hS.F ht⟩) hS.2.2 dX14_isUnder_57
        ·
          have hi_34 : z ≠ (y + 1) := fun q => c_32 (by rw [q])
          refine lv_aload_n hx hb dX14_isUnder_35 rfl (lv_at hl 0 rfl) ?_
          refine pg_get (ci := 14) (v := .ref r0) (C := RX14) (T := TX14) (N := 2) hx hb hts it_14 hown hK hP hL_h0 hF0 rfl 0 (by decide) (hts _ kt_662) (fun _ h9 => h9) rfl dX14_isUnder_36 ?_
          refine lv_aload_n hx hb dX14_isUnder_39 rfl (lv_at hl 0 rfl) ?_
          refine pg_get (ci := 14) (v := .int (nI z)) (C := RX14) (T := TX14) (N := 2) hx hb hts it_14 hown hK hP hL_h0 hF0 rfl 1 (by decide) (hts _ kt_663) (fun _ h9 => h9) rfl dX14_isUnder_40 ?_
          refine lv_aload_n hx hb dX14_isUnder_43 rfl (lv_at hl 1 rfl) ?_
          refine pg_get (ci := 14) (v := .int (nI y)) (C := RX14) (T := TX14) (N := 2) hx hb hts it_14 hown hK hP hL_g1 hF1 rfl 1 (by decide) (hts _ kt_663) (fun _ h9 => h9) rfl dX14_isUnder_44 ?_
          refine lv_isub hx hb dX14_isUnder_47 ?_
          refine lv_topi (fun x_35 ex_35 => ?_)
          obtain rfl : x_35 = (nI (z - y)) := ex_35.trans (pk_sub (a := z) (b := y) (by omega))
          refine lv_iconst (v := 1) hx hb dX14_isUnder_48 (by decide) ?_
          refine lv_isub hx hb dX14_isUnder_49 ?_
          refine lv_topi (fun x_36 ex_36 => ?_)
          obtain rfl : x_36 = (nI ((z - y) - 1)) := ex_36.trans (pk_sub (a := (z - y)) (b := 1) (by omega))
          obtain ⟨hq_37, hq_38⟩ := hW.octs hi_1 ht_2
          refine pg_bald hx hb hK hP hi_1 1 hFr0 rfl (vp_in_nI (by omega) (by omega)) dX14_isUnder_50 ?_
          refine lv_topi (fun x_39 ex_39 => ?_)
          obtain rfl : x_39 = gf ((z - y) - 1) := ex_39.trans (congrArg gf (show ((nI ((z - y) - 1)) : Int32).toNatClampNeg = ((z - y) - 1) from nI_clamp (by omega)))
          refine lv_bipush (v := 46) hx hb dX14_isUnder_51 (by decide) ?_
          refine lv_icmp_eq (tgt := 58) hx hb dX14_isUnder_53 (by decide) (fun c_40 => ?_) (fun c_40 => ?_)
          ·
            refine W.widen (k := 0) (n := 0) (by omega) (by omega) ?_
            exact jn_10 () F (⟨by omega, Or.inr ⟨by omega, c_40⟩⟩) hO hR _ _ hP hD hS ls (lv_sub hl [0, 1] rfl)
          ·
            refine lv_iconst (v := 0) hx hb dX14_isUnder_56 (by decide) ?_
            refine W.widen (k := 0) (n := 0) (by omega) (by omega) ?_
            exact W.zret (v := 0) (ty := .boolean) hx hb hr (by decide) (fun t ht hWm => ⟨⟨0, (), rfl, (Or.inr ⟨rfl, fun q => q.2.1.elim (fun c => absurd c (by omega)) (fun c => c_40 c.2)⟩), ⟨F, QTm.mk ht hP hD hO hR⟩⟩, hS.F ht⟩) hS.2.2 dX14_isUnder_57
set_option maxHeartbeats 4000000 in
set_option maxRecDepth 100000 in
theorem s_X15_entry_d (l : Launch) (dC : Nat → ClassId) (dI : Nat → Nat → Nat) (cs : Nat → ClassId) (ty : TyM) (gm : Nat → Nat → Nat) (L : List Nat) (sz : Nat) (F : Nat → va_E) (h0 : Nat) (ρ : Nat) (ta : Nat) (ou : Nat) (so : Nat) (ad : Nat) (na : Nat) (va : Nat) (lc : Nat) (dm : Nat) (tg : Nat) (pe : Nat) (ml : Nat) (bg : Nat) (co : Nat) (sp : Nat) (nb0 : Nat) (nb1 : Nat) (nb2 : Nat) (pl : Nat) (se : Nat) (ke : Nat) (wi : Nat) (hs : Nat) (mo : Nat) (po : Nat) (nu : Nat) (pr : Nat) (sq : Nat) (xa : Nat) (sa : Nat) (n64 : Nat) (m64 : Nat) (ex : Nat) (wh : Nat) (sd : Nat) (tk : Nat) (hd : Nat) (ak : Nat) (ho : Nat) (ot : Nat) (sx : Nat) (s0 : Nat) (s1 : Nat) (s2 : Nat) (nf : Nat) (bd : Nat) (mm : Nat) (ze : Nat) (zt : Nat) (x1 : Int32) (x2 : Int32) (gt : Nat → Int32) (D : Nat → ETY) (hW : WTm ty gm L) (hL_h0 : h0 ∈ L) (hT_h0 : ty h0 = (15, ρ, [ta, ou, so, ad, na, va, lc, dm, tg, pe, ml, bg, co, sp, nb0, nb1, nb2, pl, se, ke, wi, hs, mo, po, nu, pr, sq, xa, sa, n64, m64, ex, wh, sd, tk, hd, ak, ho, ot, sx, s0, s1, s2, nf, bd, mm, ze, zt])) (hFta : F ta = .inl (cs 17, 3000, .inl gt)) (hDM : DIRM cs F so ad na va ze D) : Met l yX15_entry (.code yX15_entry cX15_entry 7 (some .int) :: tb) ({ frames := 3, cells := 0, slots := 0, locals := 94 }) (va_Pc [.ref h0, .int x1, .int x2] (PTm (dC, dI) cs ty gm L F sz)) (va_Qi (fun (r : Int32) (c2 : Nat) => ENT ze c2 x1 gt zt r) (fun (c2 : Nat) T9 => ∃ F2 : Nat → va_E, ∃ ty2 : TyM, ty2 = rtf ty h0 (15, ρ, [ta, ou, so, ad, na, va, lc, dm, tg, pe, ml, bg, co, sp, nb0, nb1, nb2, pl, se, ke, wi, hs, mo, po, nu, pr, sq, xa, sa, n64, m64, ex, wh, sd, tk, hd, ak, ho, ot, sx, s0, s1, s2, nf, bd, mm, c2, 0]) ∧ QTm (dC, dI) cs ty2 gm L [ρ, ρ + 3, ρ + 31, ρ + 4 + ze + 100, ρ + 50 + ze + 100] F F2 (va_A (va_pl L F) sz) T9 ∧ WTm ty2 gm L ∧ (∃ d : ETY, DIRM cs F2 so ad na va c2 (fun k => if k = ze then d else D k) ∧ (c2 = ze + 1 → ENX x1 x2 gt zt d))) (va_A (va_pl L F) sz)) 0 0 (va_A (va_pl L F) sz) := by
  refine Met.ofW (cc := cX15_entry) (maxL := 7) (ret := (some .int)) (by decide) rfl ?_
  intro p e s m args below meth c s₁ B hml hv
  obtain ⟨rfl, hsz, hP, hK, hD0, hE, hO⟩ := hv
  have hx := B.exec
  have hb := B.bytes
  have hr := B.returns
  have hts : ∀ w ∈ tb, w.before _ s = true := fun w h => atoms_spec (ws := .code yX15_entry cX15_entry 7 (some .int) :: tb) B.pre w (List.mem_cons_of_mem _ h)
  have hown : s.vm.findClass RX15 = some m.cls := findClass_of_methodNamed B.named
  have hlocks := B.notSynchronized
  subst hsz
  have hD := hD0.self (sz := s.heap.size)
  generalize hAe : va_A (va_pl L F) s.heap.size = A at hD ⊢
  have hA : ∀ q : Nat, s.heap.size ≤ q → A q := fun q h => by rw [← hAe]; exact Or.inr h
  have hS : va_S A s.heap s.heap [] := va_S.rf
  have hR : FR ty [ρ, ρ + 3, ρ + 31, ρ + 4 + ze + 100, ρ + 50 + ze + 100] F F := FR.refl
  have hl := lv_entry ([.ref h0, .int x1, .int x2]) (n := 7) (Nat.le_of_ble_eq_true rfl)
  rw [lg_entry_eq]
  generalize (lg_sl ([.ref h0, .int x1, .int x2]) ++ List.replicate (7 - (lg_sl ([.ref h0, .int x1, .int x2])).length) Slot.unset).toArray = ls at hl ⊢
  have hl : lv_has ls 7 [(0, .ref h0), (1, .int x1), (2, .int x2)] := hl
  obtain ⟨hq_23, hq_24, hq_25, hq_26, hq_27, hgO, hgA, hgB⟩ := hW.sc hL_h0 hT_h0
  have hO0 := hO
  have hW0 := hW
  have hT00 := hT_h0
  obtain ⟨hLs0, hTs0⟩ := hW.f_so hL_h0 hT_h0
  obtain ⟨hLd0, hTd0⟩ := hW.f_ad hL_h0 hT_h0
  obtain ⟨hLn0, hTn0⟩ := hW.f_na hL_h0 hT_h0
  obtain ⟨hLv0, hTv0⟩ := hW.f_va hL_h0 hT_h0
  obtain ⟨fs, fd, fn, fv, hd1, hd2, hd3, hd4, hd5⟩ := id hDM
  refine lv_aload_n hx hb dX15_entry_0 rfl (lv_at hl 0 rfl) ?_
  obtain ⟨zo_28, v11_29, v12_30, v14_31, v15_32, v17_33, v18_34, v19_35, v20_36, v21_37, v22_38, v33_39, v52_40, v53_41, v54_42, hF_43, hq_44, hq_45, hq_46, hq_47⟩ := hO.mod hL_h0 hT_h0
  have hFc := pg_free hD hS hA
  refine va_calli (va_runV (As := []) (rest := []) ⟨hx, hb, hml, hown, hts⟩ (s_X15_used l dC dI cs ty gm L s.heap.size F h0 ρ ta ou so ad na va lc dm tg pe ml bg co sp nb0 nb1 nb2 pl se ke wi hs mo po nu pr sq xa sa n64 m64 ex wh sd tk hd ak ho ot sx s0 s1 s2 nf bd mm ze zt zo_28 v11_29 v12_30 v14_31 v15_32 v17_33 v18_34 v19_35 v20_36 v21_37 v22_38 v33_39 v52_40 v53_41 v54_42 hW hL_h0 hT_h0 hF_43 (by first | omega | assumption) (by first | omega | assumption) (by first | omega | assumption) (by first | omega | assumption)) ⟨callB_of 0 hts (gi kt_1061) rfl rfl rfl (hts _ kt_659) (hts _ kt_1062) (by decide +kernel) ⟨Nat.le_of_ble_eq_true rfl, Nat.le_of_ble_eq_true rfl⟩, (hts _ kt_1063), (hts _ kt_1064)⟩ ⟨fun a U g mk q => ⟨q.1, PTm.calling q.2⟩, pg_recv hK hP hL_h0 hF_43 (q := (RX15, TX15, 59)) rfl, fun U hU hWm => ⟨rfl, PTm.mk hU hWm hP hK hD hE hO⟩⟩ rfl rfl hl.1 rfl (lv_room (Nat.le_of_ble_eq_true rfl)) dX15_entry_1 ⟨by show _ + 0 ≤ 0; omega, by show _ + 0 ≤ 0; omega⟩) hS (fun q _ h => hFc q h) hFc (fun r_48 u t H1 locs ht hvm hw hB hz1 hk1 hS => ?_)
  obtain ⟨F_49, ty9, hty9, hB1, hW9, hq_50⟩ := hB
  subst hty9
  have hR9 := FR.retype (im2 := [ta, ou, so, ad, na, va, lc, dm, tg, pe, ml, bg, co, sp, nb0, nb1, nb2, pl, se, ke, wi, hs, mo, po, nu, pr, sq, xa, sa, n64, m64, ex, wh, sd, tk, hd, ak, ho, ot, sx, s0, s1, s2, nf, bd, mm, ze, 0]) hT_h0 hR
  obtain ⟨hP, hD, hO, hR⟩ := QTm.back hB1 ht hFc hR9 (fun q h => by simp only [List.mem_cons, List.not_mem_nil, or_false] at h ⊢; omega)
  obtain ⟨ty, hty, hT_h0, hW, hO, hR⟩ : ∃ t9 : TyM, t9 = rtf ty h0 (15, ρ, [ta, ou, so, ad, na, va, lc, dm, tg, pe, ml, bg, co, sp, nb0, nb1, nb2, pl, se, ke, wi, hs, mo, po, nu, pr, sq, xa, sa, n64, m64, ex, wh, sd, tk, hd, ak, ho, ot, sx, s0, s1, s2, nf, bd, mm, ze, 0]) ∧ t9 h0 = (15, ρ, [ta, ou, so, ad, na, va, lc, dm, tg, pe, ml, bg, co, sp, nb0, nb1, nb2, pl, se, ke, wi, hs, mo, po, nu, pr, sq, xa, sa, n64, m64, ex, wh, sd, tk, hd, ak, ho, ot, sx, s0, s1, s2, nf, bd, mm, ze, 0]) ∧ WTm t9 gm L ∧ OKm cs t9 gm L F_49 ∧ FR t9 [ρ, ρ + 3, ρ + 31, ρ + 4 + ze + 100, ρ + 50 + ze + 100] F F_49 := ⟨_, rfl, rtf_self, hW9, hO, hR⟩
  generalize H1 = H at hP hS ⊢
  have hw : r_48 = nI zt := hw
  subst hw
  obtain ⟨hq_73, hq_74, hq_75, hq_76, hq_77, hgO, hgA, hgB⟩ := hW.sc hL_h0 hT_h0
  obtain ⟨hi_79, ht_80⟩ := hW.f_ta hL_h0 hT_h0
  have hF_78 : F_49 ta = .inl (cs 17, 3000, .inl gt) := (hB1.2.2.2 ta (by rw [← hty, ht_80]; simp)).trans hFta
  obtain ⟨hi_82, ht_83⟩ := hW.f_so hL_h0 hT_h0
  have hF_81 : F_49 so = .inl (cs 16, 40, .inl fs) := (hB1.2.2.2 so (by rw [← hty, ht_83]; simp)).trans hd1
  obtain ⟨hi_85, ht_86⟩ := hW.f_ad hL_h0 hT_h0
  have hF_84 : F_49 ad = .inl (cs 16, 40, .inl fd) := (hB1.2.2.2 ad (by rw [← hty, ht_86]; simp)).trans hd2
  refine lv_istore_n (lv' := [(3, .int (nI zt)), (0, .ref h0), (1, .int x1), (2, .int x2)]) hx hb dX15_entry_4 rfl hl (by decide) rfl (fun ls hl => ?_)
  refine lv_iconst (v := 0) hx hb dX15_entry_5 (by decide) ?_
  refine lv_istore (lv' := [(4, .int 0), (3, .int (nI zt)), (0, .ref h0), (1, .int x1), (2, .int x2)]) hx hb dX15_entry_6 hl (by decide) rfl (fun ls hl => ?_)
  refine lv_aload_n hx hb dX15_entry_8 rfl (lv_at hl 2 rfl) ?_
  refine pg_get (ci := 15) (v := .int (nI ze)) (C := RX15) (T := TX15) (N := 59) hx hb hts it_15 hown hK hP hL_h0 hq_50 rfl 3 (by decide) (hts _ kt_714) (fun _ h9 => h9) rfl dX15_entry_9 ?_
  refine lv_bipush (v := 40) hx hb dX15_entry_12 (by decide) ?_
  refine lv_icmp_ne (tgt := 20) hx hb dX15_entry_14 (by decide) (fun c_87 => ?_) (fun c_87 => ?_)
  ·
    have hi_88 : ze ≠ 40 := fun q => c_87 (by rw [q]; rfl)
    have hc40 : ze ≠ 40 := by omega
    refine lv_iload_n hx hb dX15_entry_20 rfl (lv_at hl 3 rfl) ?_
    refine lv_i2l (v := x1.toInt64) hx hb dX15_entry_21 rfl ?_
    refine lv_lconst (v := 0) hx hb dX15_entry_22 (by decide) ?_
    refine lv_ldc2 (v := 4) hx hb hown (hts _ kt_1206) dX15_entry_23 ?_
    have hFc := pg_free hD hS hA
    refine va_calli (va_runS (As := [.long x1.toInt64, .long 0, .long 4]) (rest := []) ⟨hx, hb, hml, hown, hts⟩ (s_X15_in l dC dI cs ty gm L H.size F_49 x1.toInt64 0 4 hW ) ⟨callB_of 3 hts (gi kt_675) rfl rfl rfl (hts _ kt_659) (hts _ kt_695) (by decide +kernel) ⟨Nat.le_of_ble_eq_true rfl, Nat.le_of_ble_eq_true rfl⟩, (hts _ kt_676)⟩ ⟨fun a U g mk q => ⟨q.1, PTm.calling q.2⟩, fun U hU hWm => ⟨rfl, PTm.mk hU hWm hP hK hD hE hO⟩⟩ rfl rfl hl.1 rfl (lv_room (Nat.le_of_ble_eq_true rfl)) dX15_entry_26 ⟨by show _ + 0 ≤ 0; omega, by show _ + 0 ≤ 0; omega⟩) hS (fun q _ h => hFc q h) hFc (fun r_89 u t H1 locs ht hvm hw hB hz1 hk1 hS => ?_)
    obtain ⟨F_90, hB1⟩ := hB
    obtain rfl : F_49 = F_90 := (funext (fun a => hB1.2.2.2 a List.not_mem_nil)).symm
    obtain ⟨hP, hD, hO, hR⟩ := QTm.back hB1 ht hFc hR (fun q h => absurd h List.not_mem_nil)
    generalize H1 = H at hP hS ⊢
    have hw : r_89 = (if 0 ≤ x1.toInt64 ∧ x1.toInt64 ≤ 4 then 1 else 0) := hw
    have hw_91 := hw
    refine lv_if_ne (tgt := 34) hx hb dX15_entry_29 (by decide) (fun c_92 => ?_) (fun c_92 => ?_)
    ·
      obtain ⟨hx0, hx4⟩ := ((in_04 hw_91).resolve_left (fun q => c_92 q.1)).2
      have hF_95 : F ta = .inl (cs 17, 3000, .inl gt) := (hR ta (by rw [ht_80]; simp only [List.mem_cons, List.not_mem_nil, or_false]; omega)).symm.trans hF_78
      refine W.widen (k := 0) (n := 0) (by omega) (by omega) ?_
      refine pl_cutm (σ := Int32) A (dC, dI) cs ty gm L [ρ, ρ + 3, ρ + 31, ρ + 4 + ze + 100, ρ + 50 + ze + 100] F 48 7 (fun s5 => [(4, .int 0), (3, .int (nI zt)), (0, .ref h0), (1, .int x1), (2, .int x2)]) (fun s5 => [.int s5]) (fun s5 FF => (s5 = 0 ∨ s5 = 1) ∧ (s5 = 1 → (x1 = 0 ∨ x1 = 2)) ∧ (s5 = 0 → ¬ (x1 = 0 ∨ x1 = 2)) ∧ FF h0 = .inr (15, (.ref ta) :: (.int 0) :: (.int (nI zo_28)) :: (.int (nI ze)) :: (.ref ou) :: (.ref so) :: (.ref ad) :: (.ref na) :: (.ref va) :: (.ref lc) :: (.ref dm) :: (.int v11_29) :: (.int v12_30) :: (.ref tg) :: (.int v14_31) :: (.int v15_32) :: (.ref pe) :: (.int v17_33) :: (.int v18_34) :: (.int v19_35) :: (.int v20_36) :: (.int v21_37) :: (.int v22_38) :: (.ref ml) :: (.ref bg) :: (.ref co) :: (.ref sp) :: (.ref nb0) :: (.ref nb1) :: (.ref nb2) :: (.int (nI nf)) :: (.int (nI bd)) :: (.int (nI mm)) :: (.int v33_39) :: (.ref pl) :: (.ref se) :: (.ref ke) :: (.ref wi) :: (.ref hs) :: (.ref mo) :: (.ref po) :: (.ref nu) :: (.ref pr) :: (.ref sq) :: (.ref xa) :: (.ref sa) :: (.ref n64) :: (.ref m64) :: (.ref ex) :: (.ref wh) :: (.ref sd) :: (.ref tk) :: (.int v52_40) :: (.int v53_41) :: (.int v54_42) :: (.ref hd) :: (.ref ak) :: (.ref ho) :: (.ref ot) :: []) ∧ FF so = .inl (cs 16, 40, .inl fs) ∧ FF ad = .inl (cs 16, 40, .inl fd)) ?_ (fun jn_93 => ?_)
      ·
        rintro s5 F_94 hv_96 hO hR H locs hP hD hS ls hl
        have hl : lv_has ls 7 [(4, .int 0), (3, .int (nI zt)), (0, .ref h0), (1, .int x1), (2, .int x2)] := hl
        have hv_96 : (s5 = 0 ∨ s5 = 1) ∧ (s5 = 1 → (x1 = 0 ∨ x1 = 2)) ∧ (s5 = 0 → ¬ (x1 = 0 ∨ x1 = 2)) ∧ F_94 h0 = .inr (15, (.ref ta) :: (.int 0) :: (.int (nI zo_28)) :: (.int (nI ze)) :: (.ref ou) :: (.ref so) :: (.ref ad) :: (.ref na) :: (.ref va) :: (.ref lc) :: (.ref dm) :: (.int v11_29) :: (.int v12_30) :: (.ref tg) :: (.int v14_31) :: (.int v15_32) :: (.ref pe) :: (.int v17_33) :: (.int v18_34) :: (.int v19_35) :: (.int v20_36) :: (.int v21_37) :: (.int v22_38) :: (.ref ml) :: (.ref bg) :: (.ref co) :: (.ref sp) :: (.ref nb0) :: (.ref nb1) :: (.ref nb2) :: (.int (nI nf)) :: (.int (nI bd)) :: (.int (nI mm)) :: (.int v33_39) :: (.ref pl) :: (.ref se) :: (.ref ke) :: (.ref wi) :: (.ref hs) :: (.ref mo) :: (.ref po) :: (.ref nu) :: (.ref pr) :: (.ref sq) :: (.ref xa) :: (.ref sa) :: (.ref n64) :: (.ref m64) :: (.ref ex) :: (.ref wh) :: (.ref sd) :: (.ref tk) :: (.int v52_40) :: (.int v53_41) :: (.int v54_42) :: (.ref hd) :: (.ref ak) :: (.ref ho) :: (.ref ot) :: []) ∧ F_94 so = .inl (cs 16, 40, .inl fs) ∧ F_94 ad = .inl (cs 16, 40, .inl fd) := hv_96
        refine W.eq (g2 := F0 m 48 ls [.int s5]) rfl ?_
        have hF_97 : F_94 ta = .inl (cs 17, 3000, .inl gt) := (hR ta (by rw [ht_80]; simp only [List.mem_cons, List.not_mem_nil, or_false]; omega)).trans hF_95
        obtain ⟨hs5, hs5x, hs5n, hs5h⟩ := hv_96
        obtain ⟨hs5h, hs5hso, hs5had⟩ := hs5h
        refine lv_istore (lv' := [(5, .int s5), (4, .int 0), (3, .int (nI zt)), (0, .ref h0), (1, .int x1), (2, .int x2)]) hx hb dX15_entry_48 hl (by decide) rfl (fun ls hl => ?_)
        obtain ⟨hq_98, hq_99⟩ := hW.ints hi_82 ht_83
        obtain ⟨hq_100, hq_101⟩ := hW.ints hi_85 ht_86
        refine W.widen (k := 0) (n := 0) (by omega) (by omega) ?_
        have hF_103 : F ta = .inl (cs 17, 3000, .inl gt) := (hR ta (by rw [ht_80]; simp only [List.mem_cons, List.not_mem_nil, or_false]; omega)).symm.trans hF_97
        refine pl_loopm (σ := Nat) A (dC, dI) cs ty gm L [ρ, ρ + 3, ρ + 31, ρ + 4 + ze + 100, ρ + 50 + ze + 100] F 50 7 (fun j => [(5, .int s5), (4, .int (nI j)), (3, .int (nI zt)), (0, .ref h0), (1, .int x1), (2, .int x2)]) (fun j => []) (fun j FF => j ≤ zt ∧ (∀ i, i < j → ¬ gt i = 32) ∧ FF h0 = .inr (15, (.ref ta) :: (.int 0) :: (.int (nI zo_28)) :: (.int (nI ze)) :: (.ref ou) :: (.ref so) :: (.ref ad) :: (.ref na) :: (.ref va) :: (.ref lc) :: (.ref dm) :: (.int v11_29) :: (.int v12_30) :: (.ref tg) :: (.int v14_31) :: (.int v15_32) :: (.ref pe) :: (.int v17_33) :: (.int v18_34) :: (.int v19_35) :: (.int v20_36) :: (.int v21_37) :: (.int v22_38) :: (.ref ml) :: (.ref bg) :: (.ref co) :: (.ref sp) :: (.ref nb0) :: (.ref nb1) :: (.ref nb2) :: (.int (nI nf)) :: (.int (nI bd)) :: (.int (nI mm)) :: (.int v33_39) :: (.ref pl) :: (.ref se) :: (.ref ke) :: (.ref wi) :: (.ref hs) :: (.ref mo) :: (.ref po) :: (.ref nu) :: (.ref pr) :: (.ref sq) :: (.ref xa) :: (.ref sa) :: (.ref n64) :: (.ref m64) :: (.ref ex) :: (.ref wh) :: (.ref sd) :: (.ref tk) :: (.int v52_40) :: (.int v53_41) :: (.int v54_42) :: (.ref hd) :: (.ref ak) :: (.ref ho) :: (.ref ot) :: []) ∧ FF so = .inl (cs 16, 40, .inl fs) ∧ FF ad = .inl (cs 16, 40, .inl fd)) (fun j => zt - j) ?_ 0 F_94 (⟨by omega, fun i hi => absurd hi (Nat.not_lt_zero _), hs5h, hs5hso, hs5had⟩) hO hR _ _ hP hD hS ls (lv_sub hl [0, 1, 2, 3, 4, 5] rfl)
        rintro j F_102 hv_104 hO hR ih_105 H locs hP hD hS ls hl
        have hl : lv_has ls 7 [(5, .int s5), (4, .int (nI j)), (3, .int (nI zt)), (0, .ref h0), (1, .int x1), (2, .int x2)] := hl
        have hv_104 : j ≤ zt ∧ (∀ i, i < j → ¬ gt i = 32) ∧ F_102 h0 = .inr (15, (.ref ta) :: (.int 0) :: (.int (nI zo_28)) :: (.int (nI ze)) :: (.ref ou) :: (.ref so) :: (.ref ad) :: (.ref na) :: (.ref va) :: (.ref lc) :: (.ref dm) :: (.int v11_29) :: (.int v12_30) :: (.ref tg) :: (.int v14_31) :: (.int v15_32) :: (.ref pe) :: (.int v17_33) :: (.int v18_34) :: (.int v19_35) :: (.int v20_36) :: (.int v21_37) :: (.int v22_38) :: (.ref ml) :: (.ref bg) :: (.ref co) :: (.ref sp) :: (.ref nb0) :: (.ref nb1) :: (.ref nb2) :: (.int (nI nf)) :: (.int (nI bd)) :: (.int (nI mm)) :: (.int v33_39) :: (.ref pl) :: (.ref se) :: (.ref ke) :: (.ref wi) :: (.ref hs) :: (.ref mo) :: (.ref po) :: (.ref nu) :: (.ref pr) :: (.ref sq) :: (.ref xa) :: (.ref sa) :: (.ref n64) :: (.ref m64) :: (.ref ex) :: (.ref wh) :: (.ref sd) :: (.ref tk) :: (.int v52_40) :: (.int v53_41) :: (.int v54_42) :: (.ref hd) :: (.ref ak) :: (.ref ho) :: (.ref ot) :: []) ∧ F_102 so = .inl (cs 16, 40, .inl fs) ∧ F_102 ad = .inl (cs 16, 40, .inl fd) := hv_104
        refine W.eq (g2 := F0 m 50 ls []) rfl ?_
        have hF_106 : F_102 ta = .inl (cs 17, 3000, .inl gt) := (hR ta (by rw [ht_80]; simp only [List.mem_cons, List.not_mem_nil, or_false]; omega)).trans hF_103
        obtain ⟨ha1, ha3, ha2⟩ := hv_104
        obtain ⟨ha2, ha2so, ha2ad⟩ := ha2
        refine lv_iload hx hb dX15_entry_50 (lv_at hl 0 rfl) ?_
        refine lv_if_eq (tgt := 79) hx hb dX15_entry_52 (by decide) (fun c_107 => ?_) (fun c_107 => ?_)
        ·
          have hfst : s5 = 1 → FST gt 32 zt j := fun h => absurd (h.symm.trans c_107) (by decide)
          have hF_110 : F ta = .inl (cs 17, 3000, .inl gt) := (hR ta (by rw [ht_80]; simp only [List.mem_cons, List.not_mem_nil, or_false]; omega)).symm.trans hF_106
          refine W.widen (k := 0) (n := 0) (by omega) (by omega) ?_
          refine pl_cutm (σ := Int32) A (dC, dI) cs ty gm L [ρ, ρ + 3, ρ + 31, ρ + 4 + ze + 100, ρ + 50 + ze + 100] F 90 7 (fun s6 => [(5, .int s5), (4, .int (nI j)), (3, .int (nI zt)), (0, .ref h0), (1, .int x1), (2, .int x2)]) (fun s6 => [.int s6]) (fun s6 FF => (∃ k : Nat, k ≤ zt ∧ s6 = nI k ∧ (s5 = 1 → k = j) ∧ (s5 = 0 → k = zt)) ∧ FF h0 = .inr (15, (.ref ta) :: (.int 0) :: (.int (nI zo_28)) :: (.int (nI ze)) :: (.ref ou) :: (.ref so) :: (.ref ad) :: (.ref na) :: (.ref va) :: (.ref lc) :: (.ref dm) :: (.int v11_29) :: (.int v12_30) :: (.ref tg) :: (.int v14_31) :: (.int v15_32) :: (.ref pe) :: (.int v17_33) :: (.int v18_34) :: (.int v19_35) :: (.int v20_36) :: (.int v21_37) :: (.int v22_38) :: (.ref ml) :: (.ref bg) :: (.ref co) :: (.ref sp) :: (.ref nb0) :: (.ref nb1) :: (.ref nb2) :: (.int (nI nf)) :: (.int (nI bd)) :: (.int (nI mm)) :: (.int v33_39) :: (.ref pl) :: (.ref se) :: (.ref ke) :: (.ref wi) :: (.ref hs) :: (.ref mo) :: (.ref po) :: (.ref nu) :: (.ref pr) :: (.ref sq) :: (.ref xa) :: (.ref sa) :: (.ref n64) :: (.ref m64) :: (.ref ex) :: (.ref wh) :: (.ref sd) :: (.ref tk) :: (.int v52_40) :: (.int v53_41) :: (.int v54_42) :: (.ref hd) :: (.ref ak) :: (.ref ho) :: (.ref ot) :: []) ∧ FF so = .inl (cs 16, 40, .inl fs) ∧ FF ad = .inl (cs 16, 40, .inl fd)) ?_ (fun jn_108 => ?_)
          ·
            rintro s6 F_109 hv_111 hO hR H locs hP hD hS ls hl
            have hl : lv_has ls 7 [(5, .int s5), (4, .int (nI j)), (3, .int (nI zt)), (0, .ref h0), (1, .int x1), (2, .int x2)] := hl
            have hv_111 : (∃ k : Nat, k ≤ zt ∧ s6 = nI k ∧ (s5 = 1 → k = j) ∧ (s5 = 0 → k = zt)) ∧ F_109 h0 = .inr (15, (.ref ta) :: (.int 0) :: (.int (nI zo_28)) :: (.int (nI ze)) :: (.ref ou) :: (.ref so) :: (.ref ad) :: (.ref na) :: (.ref va) :: (.ref lc) :: (.ref dm) :: (.int v11_29) :: (.int v12_30) :: (.ref tg) :: (.int v14_31) :: (.int v15_32) :: (.ref pe) :: (.int v17_33) :: (.int v18_34) :: (.int v19_35) :: (.int v20_36) :: (.int v21_37) :: (.int v22_38) :: (.ref ml) :: (.ref bg) :: (.ref co) :: (.ref sp) :: (.ref nb0) :: (.ref nb1) :: (.ref nb2) :: (.int (nI nf)) :: (.int (nI bd)) :: (.int (nI mm)) :: (.int v33_39) :: (.ref pl) :: (.ref se) :: (.ref ke) :: (.ref wi) :: (.ref hs) :: (.ref mo) :: (.ref po) :: (.ref nu) :: (.ref pr) :: (.ref sq) :: (.ref xa) :: (.ref sa) :: (.ref n64) :: (.ref m64) :: (.ref ex) :: (.ref wh) :: (.ref sd) :: (.ref tk) :: (.int v52_40) :: (.int v53_41) :: (.int v54_42) :: (.ref hd) :: (.ref ak) :: (.ref ho) :: (.ref ot) :: []) ∧ F_109 so = .inl (cs 16, 40, .inl fs) ∧ F_109 ad = .inl (cs 16, 40, .inl fd) := hv_111
            refine W.eq (g2 := F0 m 90 ls [.int s6]) rfl ?_
            have hF_112 : F_109 ta = .inl (cs 17, 3000, .inl gt) := (hR ta (by rw [ht_80]; simp only [List.mem_cons, List.not_mem_nil, or_false]; omega)).trans hF_110
            obtain ⟨⟨kend, hke, eke, hk1e, hk0e⟩, hb2⟩ := hv_111
            subst eke
            refine W.eq (g2 := F0 m 90 ls [.int (nI kend)]) rfl ?_
            obtain ⟨hb2, hb2so, hb2ad⟩ := hb2
            refine lv_istore (lv' := [(6, .int (nI kend)), (5, .int s5), (4, .int (nI j)), (3, .int (nI zt)), (0, .ref h0), (1, .int x1), (2, .int x2)]) hx hb dX15_entry_90 hl (by decide) rfl (fun ls hl => ?_)
            have hF_115 : F ta = .inl (cs 17, 3000, .inl gt) := (hR ta (by rw [ht_80]; simp only [List.mem_cons, List.not_mem_nil, or_false]; omega)).symm.trans hF_112
            refine W.widen (k := 0) (n := 0) (by omega) (by omega) ?_
            refine pl_cutm (σ := Unit) A (dC, dI) cs ty gm L [ρ, ρ + 3, ρ + 31, ρ + 4 + ze + 100, ρ + 50 + ze + 100] F 118 7 (fun u0 => [(6, .int (nI kend)), (5, .int s5), (4, .int (nI j)), (3, .int (nI zt)), (0, .ref h0), (1, .int x1), (2, .int x2)]) (fun u0 => []) (fun u0 FF => NM gt 0 kend = true ∧ kend ≤ 60 ∧ (s5 = 1 → j < zt) ∧ FF h0 = .inr (15, (.ref ta) :: (.int 0) :: (.int (nI zo_28)) :: (.int (nI ze)) :: (.ref ou) :: (.ref so) :: (.ref ad) :: (.ref na) :: (.ref va) :: (.ref lc) :: (.ref dm) :: (.int v11_29) :: (.int v12_30) :: (.ref tg) :: (.int v14_31) :: (.int v15_32) :: (.ref pe) :: (.int v17_33) :: (.int v18_34) :: (.int v19_35) :: (.int v20_36) :: (.int v21_37) :: (.int v22_38) :: (.ref ml) :: (.ref bg) :: (.ref co) :: (.ref sp) :: (.ref nb0) :: (.ref nb1) :: (.ref nb2) :: (.int (nI nf)) :: (.int (nI bd)) :: (.int (nI mm)) :: (.int v33_39) :: (.ref pl) :: (.ref se) :: (.ref ke) :: (.ref wi) :: (.ref hs) :: (.ref mo) :: (.ref po) :: (.ref nu) :: (.ref pr) :: (.ref sq) :: (.ref xa) :: (.ref sa) :: (.ref n64) :: (.ref m64) :: (.ref ex) :: (.ref wh) :: (.ref sd) :: (.ref tk) :: (.int v52_40) :: (.int v53_41) :: (.int v54_42) :: (.ref hd) :: (.ref ak) :: (.ref ho) :: (.ref ot) :: []) ∧ FF so = .inl (cs 16, 40, .inl fs) ∧ FF ad = .inl (cs 16, 40, .inl fd)) ?_ (fun jn_113 => ?_)
            ·
              rintro u0 F_114 hv_116 hO hR H locs hP hD hS ls hl
              have hl : lv_has ls 7 [(6, .int (nI kend)), (5, .int s5), (4, .int (nI j)), (3, .int (nI zt)), (0, .ref h0), (1, .int x1), (2, .int x2)] := hl
              have hv_116 : NM gt 0 kend = true ∧ kend ≤ 60 ∧ (s5 = 1 → j < zt) ∧ F_114 h0 = .inr (15, (.ref ta) :: (.int 0) :: (.int (nI zo_28)) :: (.int (nI ze)) :: (.ref ou) :: (.ref so) :: (.ref ad) :: (.ref na) :: (.ref va) :: (.ref lc) :: (.ref dm) :: (.int v11_29) :: (.int v12_30) :: (.ref tg) :: (.int v14_31) :: (.int v15_32) :: (.ref pe) :: (.int v17_33) :: (.int v18_34) :: (.int v19_35) :: (.int v20_36) :: (.int v21_37) :: (.int v22_38) :: (.ref ml) :: (.ref bg) :: (.ref co) :: (.ref sp) :: (.ref nb0) :: (.ref nb1) :: (.ref nb2) :: (.int (nI nf)) :: (.int (nI bd)) :: (.int (nI mm)) :: (.int v33_39) :: (.ref pl) :: (.ref se) :: (.ref ke) :: (.ref wi) :: (.ref hs) :: (.ref mo) :: (.ref po) :: (.ref nu) :: (.ref pr) :: (.ref sq) :: (.ref xa) :: (.ref sa) :: (.ref n64) :: (.ref m64) :: (.ref ex) :: (.ref wh) :: (.ref sd) :: (.ref tk) :: (.int v52_40) :: (.int v53_41) :: (.int v54_42) :: (.ref hd) :: (.ref ak) :: (.ref ho) :: (.ref ot) :: []) ∧ F_114 so = .inl (cs 16, 40, .inl fs) ∧ F_114 ad = .inl (cs 16, 40, .inl fd) := hv_116
              refine W.eq (g2 := F0 m 118 ls []) rfl ?_
              have hF_117 : F_114 ta = .inl (cs 17, 3000, .inl gt) := (hR ta (by rw [ht_80]; simp only [List.mem_cons, List.not_mem_nil, or_false]; omega)).trans hF_115
              obtain ⟨hn1, hn6, hn2, hn3⟩ := hv_116
              obtain ⟨hn3, hn3so, hn3ad⟩ := hn3
              have hF_120 : F ta = .inl (cs 17, 3000, .inl gt) := (hR ta (by rw [ht_80]; simp only [List.mem_cons, List.not_mem_nil, or_false]; omega)).symm.trans hF_117
              refine W.widen (k := 0) (n := 0) (by omega) (by omega) ?_
              refine pl_cutm (σ := Unit) A (dC, dI) cs ty gm L [ρ, ρ + 3, ρ + 31, ρ + 4 + ze + 100, ρ + 50 + ze + 100] F 156 7 (fun u0 => [(6, .int (nI kend)), (5, .int s5), (4, .int (nI j)), (3, .int (nI zt)), (0, .ref h0), (1, .int x1), (2, .int x2)]) (fun u0 => []) (fun u0 FF => (s5 = 1 → ISV x1 gt zt j ∧ zt - j - 1 ≤ 700) ∧ FF h0 = .inr (15, (.ref ta) :: (.int 0) :: (.int (nI zo_28)) :: (.int (nI ze)) :: (.ref ou) :: (.ref so) :: (.ref ad) :: (.ref na) :: (.ref va) :: (.ref lc) :: (.ref dm) :: (.int v11_29) :: (.int v12_30) :: (.ref tg) :: (.int v14_31) :: (.int v15_32) :: (.ref pe) :: (.int v17_33) :: (.int v18_34) :: (.int v19_35) :: (.int v20_36) :: (.int v21_37) :: (.int v22_38) :: (.ref ml) :: (.ref bg) :: (.ref co) :: (.ref sp) :: (.ref nb0) :: (.ref nb1) :: (.ref nb2) :: (.int (nI nf)) :: (.int (nI bd)) :: (.int (nI mm)) :: (.int v33_39) :: (.ref pl) :: (.ref se) :: (.ref ke) :: (.ref wi) :: (.ref hs) :: (.ref mo) :: (.ref po) :: (.ref nu) :: (.ref pr) :: (.ref sq) :: (.ref xa) :: (.ref sa) :: (.ref n64) :: (.ref m64) :: (.ref ex) :: (.ref wh) :: (.ref sd) :: (.ref tk) :: (.int v52_40) :: (.int v53_41) :: (.int v54_42) :: (.ref hd) :: (.ref ak) :: (.ref ho) :: (.ref ot) :: []) ∧ FF so = .inl (cs 16, 40, .inl fs) ∧ FF ad = .inl (cs 16, 40, .inl fd)) ?_ (fun jn_118 => ?_)
              ·
                rintro u0 F_119 hv_121 hO hR H locs hP hD hS ls hl
                have hl : lv_has ls 7 [(6, .int (nI kend)), (5, .int s5), (4, .int (nI j)), (3, .int (nI zt)), (0, .ref h0), (1, .int x1), (2, .int x2)] := hl
                have hv_121 : (s5 = 1 → ISV x1 gt zt j ∧ zt - j - 1 ≤ 700) ∧ F_119 h0 = .inr (15, (.ref ta) :: (.int 0) :: (.int (nI zo_28)) :: (.int (nI ze)) :: (.ref ou) :: (.ref so) :: (.ref ad) :: (.ref na) :: (.ref va) :: (.ref lc) :: (.ref dm) :: (.int v11_29) :: (.int v12_30) :: (.ref tg) :: (.int v14_31) :: (.int v15_32) :: (.ref pe) :: (.int v17_33) :: (.int v18_34) :: (.int v19_35) :: (.int v20_36) :: (.int v21_37) :: (.int v22_38) :: (.ref ml) :: (.ref bg) :: (.ref co) :: (.ref sp) :: (.ref nb0) :: (.ref nb1) :: (.ref nb2) :: (.int (nI nf)) :: (.int (nI bd)) :: (.int (nI mm)) :: (.int v33_39) :: (.ref pl) :: (.ref se) :: (.ref ke) :: (.ref wi) :: (.ref hs) :: (.ref mo) :: (.ref po) :: (.ref nu) :: (.ref pr) :: (.ref sq) :: (.ref xa) :: (.ref sa) :: (.ref n64) :: (.ref m64) :: (.ref ex) :: (.ref wh) :: (.ref sd) :: (.ref tk) :: (.int v52_40) :: (.int v53_41) :: (.int v54_42) :: (.ref hd) :: (.ref ak) :: (.ref ho) :: (.ref ot) :: []) ∧ F_119 so = .inl (cs 16, 40, .inl fs) ∧ F_119 ad = .inl (cs 16, 40, .inl fd) := hv_121
                refine W.eq (g2 := F0 m 156 ls []) rfl ?_
                have hF_122 : F_119 ta = .inl (cs 17, 3000, .inl gt) := (hR ta (by rw [ht_80]; simp only [List.mem_cons, List.not_mem_nil, or_false]; omega)).trans hF_120
                obtain ⟨ho1, ho2⟩ := hv_121
                obtain ⟨ho2, ho2so, ho2ad⟩ := ho2
                refine lv_aload_n hx hb dX15_entry_156 rfl (lv_at hl 4 rfl) ?_
                refine pg_get (ci := 15) (v := .ref so) (C := RX15) (T := TX15) (N := 59) hx hb hts it_15 hown hK hP hL_h0 ho2 rfl 5 (by decide) (hts _ kt_708) (fun _ h9 => h9) rfl dX15_entry_157 ?_
                refine lv_aload_n hx hb dX15_entry_160 rfl (lv_at hl 4 rfl) ?_
                refine pg_get (ci := 15) (v := .int (nI ze)) (C := RX15) (T := TX15) (N := 59) hx hb hts it_15 hown hK hP hL_h0 ho2 rfl 3 (by decide) (hts _ kt_714) (fun _ h9 => h9) rfl dX15_entry_161 ?_
                refine lv_iload_n hx hb dX15_entry_164 rfl (lv_at hl 5 rfl) ?_
                refine pg_iast hx hb hK hP hD hS hi_82 0 ho2so rfl (vp_in_nI (by omega) (by omega)) dX15_entry_165 (fun H locs hP hD hS => ?_)
                obtain ⟨F_123, he_124, hP, hD, hO, hR⟩ : ∃ G, G = va_up F_119 so (.inl (cs 16, 40, .inl (upd fs ((nI ze)).toNatClampNeg (x1)))) ∧ va_P (dC, dI) vwCl (va_pl L G) H ∧ va_D A (va_pl L G) ∧ OKm cs ty gm L G ∧ FR ty [ρ, ρ + 3, ρ + 31, ρ + 4 + ze + 100, ρ + 50 + ze + 100] F G := ⟨_, rfl, hP, hD, hO.up (shm.ints ht_83 ⟨_, rfl⟩), hR.up ht_83 (by simp)⟩
                have hF_125 : F_123 so = .inl (cs 16, 40, .inl (upd fs ((nI ze)).toNatClampNeg (x1))) := by rw [he_124]; exact up_self
                have hF_126 : F_123 ta = .inl (cs 17, 3000, .inl gt) := by rw [he_124, up_ne (ne_ty ht_80 ht_83 (by simp))]; exact hF_122
                have hF_127 : F_123 h0 = .inr (15, (.ref ta) :: (.int 0) :: (.int (nI zo_28)) :: (.int (nI ze)) :: (.ref ou) :: (.ref so) :: (.ref ad) :: (.ref na) :: (.ref va) :: (.ref lc) :: (.ref dm) :: (.int v11_29) :: (.int v12_30) :: (.ref tg) :: (.int v14_31) :: (.int v15_32) :: (.ref pe) :: (.int v17_33) :: (.int v18_34) :: (.int v19_35) :: (.int v20_36) :: (.int v21_37) :: (.int v22_38) :: (.ref ml) :: (.ref bg) :: (.ref co) :: (.ref sp) :: (.ref nb0) :: (.ref nb1) :: (.ref nb2) :: (.int (nI nf)) :: (.int (nI bd)) :: (.int (nI mm)) :: (.int v33_39) :: (.ref pl) :: (.ref se) :: (.ref ke) :: (.ref wi) :: (.ref hs) :: (.ref mo) :: (.ref po) :: (.ref nu) :: (.ref pr) :: (.ref sq) :: (.ref xa) :: (.ref sa) :: (.ref n64) :: (.ref m64) :: (.ref ex) :: (.ref wh) :: (.ref sd) :: (.ref tk) :: (.int v52_40) :: (.int v53_41) :: (.int v54_42) :: (.ref hd) :: (.ref ak) :: (.ref ho) :: (.ref ot) :: []) := by rw [he_124, up_ne (ne_ty hT_h0 ht_83 (by simp))]; exact ho2
                have hF_128 : F_123 ad = .inl (cs 16, 40, .inl fd) := by rw [he_124, up_ne (ne_ty2 ht_86 ht_83 (by simp))]; exact ho2ad
                have hF_129 : F_123 so = .inl (cs 16, 40, .inl (upd fs ze x1)) := by have h9 := hF_125; rwa [nI_clamp (by omega)] at h9
                refine lv_aload_n hx hb dX15_entry_166 rfl (lv_at hl 4 rfl) ?_
                refine pg_get (ci := 15) (v := .ref ad) (C := RX15) (T := TX15) (N := 59) hx hb hts it_15 hown hK hP hL_h0 hF_127 rfl 6 (by decide) (hts _ kt_730) (fun _ h9 => h9) rfl dX15_entry_167 ?_
                refine lv_aload_n hx hb dX15_entry_170 rfl (lv_at hl 4 rfl) ?_
                refine pg_get (ci := 15) (v := .int (nI ze)) (C := RX15) (T := TX15) (N := 59) hx hb hts it_15 hown hK hP hL_h0 hF_127 rfl 3 (by decide) (hts _ kt_714) (fun _ h9 => h9) rfl dX15_entry_171 ?_
                refine lv_iload_n hx hb dX15_entry_174 rfl (lv_at hl 6 rfl) ?_
                refine pg_iast hx hb hK hP hD hS hi_85 0 hF_128 rfl (vp_in_nI (by omega) (by omega)) dX15_entry_175 (fun H locs hP hD hS => ?_)
                obtain ⟨F_130, he_131, hP, hD, hO, hR⟩ : ∃ G, G = va_up F_123 ad (.inl (cs 16, 40, .inl (upd fd ((nI ze)).toNatClampNeg (x2)))) ∧ va_P (dC, dI) vwCl (va_pl L G) H ∧ va_D A (va_pl L G) ∧ OKm cs ty gm L G ∧ FR ty [ρ, ρ + 3, ρ + 31, ρ + 4 + ze + 100, ρ + 50 + ze + 100] F G := ⟨_, rfl, hP, hD, hO.up (shm.ints ht_86 ⟨_, rfl⟩), hR.up ht_86 (by simp)⟩
                have hF_132 : F_130 ad = .inl (cs 16, 40, .inl (upd fd ((nI ze)).toNatClampNeg (x2))) := by rw [he_131]; exact up_self
                have hF_133 : F_130 so = .inl (cs 16, 40, .inl (upd fs ze x1)) := by rw [he_131, up_ne (ne_ty2 ht_83 ht_86 (by simp))]; exact hF_129
                have hF_134 : F_130 ta = .inl (cs 17, 3000, .inl gt) := by rw [he_131, up_ne (ne_ty ht_80 ht_86 (by simp))]; exact hF_126
                have hF_135 : F_130 h0 = .inr (15, (.ref ta) :: (.int 0) :: (.int (nI zo_28)) :: (.int (nI ze)) :: (.ref ou) :: (.ref so) :: (.ref ad) :: (.ref na) :: (.ref va) :: (.ref lc) :: (.ref dm) :: (.int v11_29) :: (.int v12_30) :: (.ref tg) :: (.int v14_31) :: (.int v15_32) :: (.ref pe) :: (.int v17_33) :: (.int v18_34) :: (.int v19_35) :: (.int v20_36) :: (.int v21_37) :: (.int v22_38) :: (.ref ml) :: (.ref bg) :: (.ref co) :: (.ref sp) :: (.ref nb0) :: (.ref nb1) :: (.ref nb2) :: (.int (nI nf)) :: (.int (nI bd)) :: (.int (nI mm)) :: (.int v33_39) :: (.ref pl) :: (.ref se) :: (.ref ke) :: (.ref wi) :: (.ref hs) :: (.ref mo) :: (.ref po) :: (.ref nu) :: (.ref pr) :: (.ref sq) :: (.ref xa) :: (.ref sa) :: (.ref n64) :: (.ref m64) :: (.ref ex) :: (.ref wh) :: (.ref sd) :: (.ref tk) :: (.int v52_40) :: (.int v53_41) :: (.int v54_42) :: (.ref hd) :: (.ref ak) :: (.ref ho) :: (.ref ot) :: []) := by rw [he_131, up_ne (ne_ty hT_h0 ht_86 (by simp))]; exact hF_127
                have hF_136 : F_130 ad = .inl (cs 16, 40, .inl (upd fd ze x2)) := by have h9 := hF_132; rwa [nI_clamp (by omega)] at h9
                refine lv_aload_n hx hb dX15_entry_176 rfl (lv_at hl 4 rfl) ?_
                refine pg_get (ci := 15) (v := .ref na) (C := RX15) (T := TX15) (N := 59) hx hb hts it_15 hown hK hP hL_h0 hF_135 rfl 7 (by decide) (hts _ kt_709) (fun _ h9 => h9) rfl dX15_entry_177 ?_
                refine lv_aload_n hx hb dX15_entry_180 rfl (lv_at hl 4 rfl) ?_
                refine pg_get (ci := 15) (v := .int (nI ze)) (C := RX15) (T := TX15) (N := 59) hx hb hts it_15 hown hK hP hL_h0 hF_135 rfl 3 (by decide) (hts _ kt_714) (fun _ h9 => h9) rfl dX15_entry_181 ?_
                have hzna := FR.unre hT00 hty hR na (by rw [hTn0]; simp only [List.mem_cons, List.not_mem_nil, or_false]; omega)
                obtain ⟨hi_137, ht_138⟩ := hW.f_na hL_h0 hT_h0
                obtain ⟨f_139, hF_140, hq_141⟩ := hO.rtxj hi_137 ht_138
                obtain rfl : fn = f_139 := by have e9 := (hzna.trans hd3).symm.trans hF_140; simpa using e9
                obtain ⟨b_142, r_143, hbf_144, hi_145, ht_146⟩ := hq_141 ze (by omega)
                refine pg_aald (r := b_142) hx hb hK hP hi_137 7 hF_140 rfl (vp_in_nI (by omega) (by omega)) (show fn ((nI ze) : Int32).toNatClampNeg = _ from by rw [show ((nI ze) : Int32) = nI ze from rfl, nI_clamp (by omega)]; exact hbf_144) dX15_entry_184 ?_
                refine lv_aload_n hx hb dX15_entry_185 rfl (lv_at hl 4 rfl) ?_
                refine pg_get (ci := 15) (v := .ref ta) (C := RX15) (T := TX15) (N := 59) hx hb hts it_15 hown hK hP hL_h0 hF_135 rfl 0 (by decide) (hts _ kt_1065) (fun _ h9 => h9) rfl dX15_entry_186 ?_
                refine lv_iconst (v := 0) hx hb dX15_entry_189 (by decide) ?_
                refine lv_iload hx hb dX15_entry_190 (lv_at hl 0 rfl) ?_
                refine W.eq (g2 := F0 m 192 ls [.int (nI kend), .int (nI 0), .ref ta, .ref b_142]) rfl ?_
                obtain ⟨hi_147, ht_148, hq_149⟩ := hW.txt hi_145 ht_146
                obtain ⟨hq_150, hq_151⟩ := hW.octs hi_79 ht_80
                have hFc := pg_free hD hS hA
                obtain ⟨z_152, hF_153, hq_154⟩ := hO.txt hi_145 ht_146
                refine va_callv (va_runV (As := [.ref ta, .int (nI 0), .int (nI kend)]) (rest := []) ⟨hx, hb, hml, hown, hts⟩ (s_X14_set_e l dC dI cs ty gm L H.size F_130 b_142 (ρ + 4 + ze + 100) r_143 60 ta (ρ + 1) 3000 0 kend gt hW hi_145 ht_146 hi_79 ht_80 hF_134 (Nat.zero_le _) (by omega) (by omega)) ⟨callB_of 3 hts (gi kt_969) rfl rfl rfl (hts _ kt_666) (hts _ kt_970) (by decide +kernel) ⟨Nat.le_of_ble_eq_true rfl, Nat.le_of_ble_eq_true rfl⟩, (hts _ kt_971), (hts _ kt_972)⟩ ⟨fun a U g mk q => ⟨q.1, PTm.calling q.2⟩, pg_recv hK hP hi_145 hF_153 (q := (RX14, TX14, 2)) rfl, fun U hU hWm => ⟨rfl, PTm.mk hU hWm hP hK hD hE hO⟩⟩ rfl rfl hl.1 rfl (lv_room (Nat.le_of_ble_eq_true rfl)) dX15_entry_192 ⟨by show _ + 0 ≤ 0; omega, by show _ + 0 ≤ 0; omega⟩) hS (fun q _ h => hFc q h) hFc (fun u t H1 locs ht hvm hw hB hz1 hk1 hS => ?_)
                obtain ⟨F_156, fc_157, hB1, hq_158, hq_159, hq_160⟩ := hB
                obtain ⟨hP, hD, hO, hR⟩ := QTm.back hB1 ht hFc hR (fun q h => by simp only [List.mem_cons, List.not_mem_nil, or_false] at h ⊢; omega)
                have hF_161 : F_156 ad = .inl (cs 16, 40, .inl (upd fd ze x2)) := (hB1.2.2.2 ad (by rw [ht_86]; simp only [List.mem_cons, List.not_mem_nil, or_false]; omega)).trans hF_136
                have hF_162 : F_156 so = .inl (cs 16, 40, .inl (upd fs ze x1)) := (hB1.2.2.2 so (by rw [ht_83]; simp only [List.mem_cons, List.not_mem_nil, or_false]; omega)).trans hF_133
                have hF_163 : F_156 ta = .inl (cs 17, 3000, .inl gt) := (hB1.2.2.2 ta (by rw [ht_80]; simp only [List.mem_cons, List.not_mem_nil, or_false]; omega)).trans hF_134
                have hF_164 : F_156 h0 = .inr (15, (.ref ta) :: (.int 0) :: (.int (nI zo_28)) :: (.int (nI ze)) :: (.ref ou) :: (.ref so) :: (.ref ad) :: (.ref na) :: (.ref va) :: (.ref lc) :: (.ref dm) :: (.int v11_29) :: (.int v12_30) :: (.ref tg) :: (.int v14_31) :: (.int v15_32) :: (.ref pe) :: (.int v17_33) :: (.int v18_34) :: (.int v19_35) :: (.int v20_36) :: (.int v21_37) :: (.int v22_38) :: (.ref ml) :: (.ref bg) :: (.ref co) :: (.ref sp) :: (.ref nb0) :: (.ref nb1) :: (.ref nb2) :: (.int (nI nf)) :: (.int (nI bd)) :: (.int (nI mm)) :: (.int v33_39) :: (.ref pl) :: (.ref se) :: (.ref ke) :: (.ref wi) :: (.ref hs) :: (.ref mo) :: (.ref po) :: (.ref nu) :: (.ref pr) :: (.ref sq) :: (.ref xa) :: (.ref sa) :: (.ref n64) :: (.ref m64) :: (.ref ex) :: (.ref wh) :: (.ref sd) :: (.ref tk) :: (.int v52_40) :: (.int v53_41) :: (.int v54_42) :: (.ref hd) :: (.ref ak) :: (.ref ho) :: (.ref ot) :: []) := (hB1.2.2.2 h0 (by rw [hT_h0]; simp only [List.mem_cons, List.not_mem_nil, or_false]; omega)).trans hF_135
                have hF_165 : F_156 na = .inl (cs 23, 40, .inr (.inr (.inr (.inr fn)))) := (hB1.2.2.2 na (by rw [ht_138]; simp only [List.mem_cons, List.not_mem_nil, or_false]; omega)).trans hF_140
                generalize H1 = H at hP hS ⊢
                refine lv_aload_n hx hb dX15_entry_195 rfl (lv_at hl 4 rfl) ?_
                refine pg_get (ci := 15) (v := .ref va) (C := RX15) (T := TX15) (N := 59) hx hb hts it_15 hown hK hP hL_h0 hF_164 rfl 8 (by decide) (hts _ kt_722) (fun _ h9 => h9) rfl dX15_entry_196 ?_
                refine lv_aload_n hx hb dX15_entry_199 rfl (lv_at hl 4 rfl) ?_
                refine pg_get (ci := 15) (v := .int (nI ze)) (C := RX15) (T := TX15) (N := 59) hx hb hts it_15 hown hK hP hL_h0 hF_164 rfl 3 (by decide) (hts _ kt_714) (fun _ h9 => h9) rfl dX15_entry_200 ?_
                have hzva := FR.unre hT00 hty hR va (by rw [hTv0]; simp only [List.mem_cons, List.not_mem_nil, or_false]; omega)
                obtain ⟨hi_166, ht_167⟩ := hW.f_va hL_h0 hT_h0
                obtain ⟨f_168, hF_169, hq_170⟩ := hO.rtxj hi_166 ht_167
                obtain rfl : fv = f_168 := by have e9 := (hzva.trans hd4).symm.trans hF_169; simpa using e9
                obtain ⟨b_171, r_172, hbf_173, hi_174, ht_175⟩ := hq_170 ze (by omega)
                refine pg_aald (r := b_171) hx hb hK hP hi_166 7 hF_169 rfl (vp_in_nI (by omega) (by omega)) (show fv ((nI ze) : Int32).toNatClampNeg = _ from by rw [show ((nI ze) : Int32) = nI ze from rfl, nI_clamp (by omega)]; exact hbf_173) dX15_entry_203 ?_
                refine lv_iconst (v := 0) hx hb dX15_entry_204 (by decide) ?_
                obtain ⟨hi_176, ht_177, hq_178⟩ := hW.txt hi_174 ht_175
                obtain ⟨z_179, hF_180, hq_181⟩ := hO.txt hi_174 ht_175
                refine pg_put (ci := 14) (v := .int 0) (ty := .int) (C := RX14) (T := TX14) (N := 2) hx hb hts it_14 tyX14 tyX14_ok nmX14 hown hK hP hD hS hi_174 hF_180 rfl 1 (by decide) (hts _ kt_699) (fun _ h9 => h9) rfl (by decide +kernel) (rfl) (rfl) (Nat.le_of_ble_eq_true rfl) dX15_entry_205 (fun H locs hP hD hS => ?_)
                obtain ⟨F_182, he_183, hP, hD, hO, hR⟩ : ∃ G, G = va_up F_156 b_171 (.inr (14, [.ref r_172, .int 0])) ∧ va_P (dC, dI) vwCl (va_pl L G) H ∧ va_D A (va_pl L G) ∧ OKm cs ty gm L G ∧ FR ty [ρ, ρ + 3, ρ + 31, ρ + 4 + ze + 100, ρ + 50 + ze + 100] F G := ⟨_, rfl, hP, hD, hO.up (shm.txt ht_175 ⟨0, rfl, (by first | omega | assumption | exact Or.inl rfl | exact Or.inr rfl)⟩), hR.up ht_175 (by simp)⟩
                have hF_184 : F_182 b_171 = .inr (14, [.ref r_172, .int 0]) := by rw [he_183]; exact up_self
                have hF_185 : F_182 ad = .inl (cs 16, 40, .inl (upd fd ze x2)) := by rw [he_183, up_ne (ne_ty ht_86 ht_175 (by simp))]; exact hF_161
                have hF_186 : F_182 so = .inl (cs 16, 40, .inl (upd fs ze x1)) := by rw [he_183, up_ne (ne_ty ht_83 ht_175 (by simp))]; exact hF_162
                have hF_187 : F_182 ta = .inl (cs 17, 3000, .inl gt) := by rw [he_183, up_ne (ne_ty ht_80 ht_175 (by simp))]; exact hF_163
                have hF_188 : F_182 h0 = .inr (15, (.ref ta) :: (.int 0) :: (.int (nI zo_28)) :: (.int (nI ze)) :: (.ref ou) :: (.ref so) :: (.ref ad) :: (.ref na) :: (.ref va) :: (.ref lc) :: (.ref dm) :: (.int v11_29) :: (.int v12_30) :: (.ref tg) :: (.int v14_31) :: (.int v15_32) :: (.ref pe) :: (.int v17_33) :: (.int v18_34) :: (.int v19_35) :: (.int v20_36) :: (.int v21_37) :: (.int v22_38) :: (.ref ml) :: (.ref bg) :: (.ref co) :: (.ref sp) :: (.ref nb0) :: (.ref nb1) :: (.ref nb2) :: (.int (nI nf)) :: (.int (nI bd)) :: (.int (nI mm)) :: (.int v33_39) :: (.ref pl) :: (.ref se) :: (.ref ke) :: (.ref wi) :: (.ref hs) :: (.ref mo) :: (.ref po) :: (.ref nu) :: (.ref pr) :: (.ref sq) :: (.ref xa) :: (.ref sa) :: (.ref n64) :: (.ref m64) :: (.ref ex) :: (.ref wh) :: (.ref sd) :: (.ref tk) :: (.int v52_40) :: (.int v53_41) :: (.int v54_42) :: (.ref hd) :: (.ref ak) :: (.ref ho) :: (.ref ot) :: []) := by rw [he_183, up_ne (ne_ty hT_h0 ht_175 (by simp))]; exact hF_164
                have hF_189 : F_182 na = .inl (cs 23, 40, .inr (.inr (.inr (.inr fn)))) := by rw [he_183, up_ne (ne_ty ht_138 ht_175 (by simp))]; exact hF_165
                have hF_190 : F_182 b_142 = .inr (14, [.ref r_143, .int (nI (kend - 0))]) := by rw [he_183, up_ne (ne_ty2 ht_146 ht_175 (by simp))]; exact hq_158
                have hF_191 : F_182 r_143 = .inl (cs 17, 60, .inl fc_157) := by rw [he_183, up_ne (ne_ty ht_148 ht_175 (by simp))]; exact hq_159
                have hF_192 : F_182 va = .inl (cs 23, 40, .inr (.inr (.inr (.inr fv)))) := by rw [he_183, up_ne (ne_ty ht_167 ht_175 (by simp))]; exact hF_169
                refine lv_iload hx hb dX15_entry_208 (lv_at hl 1 rfl) ?_
                refine lv_if_eq (tgt := 234) hx hb dX15_entry_210 (by decide) (fun c_193 => ?_) (fun c_193 => ?_)
                ·
                  refine lv_aload_n hx hb dX15_entry_234 rfl (lv_at hl 4 rfl) ?_
                  refine lv_dup hx hb dX15_entry_235 rfl ?_
                  refine pg_get (ci := 15) (v := .int (nI ze)) (C := RX15) (T := TX15) (N := 59) hx hb hts it_15 hown hK hP hL_h0 hF_188 rfl 3 (by decide) (hts _ kt_714) (fun _ h9 => h9) rfl dX15_entry_236 ?_
                  refine lv_iconst (v := 1) hx hb dX15_entry_239 (by decide) ?_
                  refine lv_iadd hx hb dX15_entry_240 ?_
                  refine lv_topi (fun x_194 ex_194 => ?_)
                  obtain rfl : x_194 = (nI (ze + 1)) := ex_194.trans (nI_add ze 1)
                  have htyU := hty
                  have hTU := hT_h0
                  obtain ⟨hq_195, hq_196⟩ := hW.octs hi_147 ht_148
                  obtain ⟨hq_197, hq_198⟩ := hW.octs hi_176 ht_177
                  obtain ⟨f_199, hF_200, hq_201⟩ := hO.octs hi_176 ht_177
                  refine pg_put (ci := 15) (v := .int (nI (ze + 1))) (ty := .int) (C := RX15) (T := TX15) (N := 59) hx hb hts it_15 tyX15 tyX15_ok nmX15 hown hK hP hD hS hL_h0 hF_188 rfl 3 (by decide) (hts _ kt_714) (fun _ h9 => h9) rfl (by decide +kernel) (rfl) (rfl) (Nat.le_of_ble_eq_true rfl) dX15_entry_241 (fun H locs hP hD hS => ?_)
                  obtain ⟨F_202, he_203, hP, hD, hR⟩ : ∃ G, G = va_up F_182 h0 (.inr (15, (.ref ta) :: (.int 0) :: (.int (nI zo_28)) :: (.int (nI (ze + 1))) :: (.ref ou) :: (.ref so) :: (.ref ad) :: (.ref na) :: (.ref va) :: (.ref lc) :: (.ref dm) :: (.int v11_29) :: (.int v12_30) :: (.ref tg) :: (.int v14_31) :: (.int v15_32) :: (.ref pe) :: (.int v17_33) :: (.int v18_34) :: (.int v19_35) :: (.int v20_36) :: (.int v21_37) :: (.int v22_38) :: (.ref ml) :: (.ref bg) :: (.ref co) :: (.ref sp) :: (.ref nb0) :: (.ref nb1) :: (.ref nb2) :: (.int (nI nf)) :: (.int (nI bd)) :: (.int (nI mm)) :: (.int v33_39) :: (.ref pl) :: (.ref se) :: (.ref ke) :: (.ref wi) :: (.ref hs) :: (.ref mo) :: (.ref po) :: (.ref nu) :: (.ref pr) :: (.ref sq) :: (.ref xa) :: (.ref sa) :: (.ref n64) :: (.ref m64) :: (.ref ex) :: (.ref wh) :: (.ref sd) :: (.ref tk) :: (.int v52_40) :: (.int v53_41) :: (.int v54_42) :: (.ref hd) :: (.ref ak) :: (.ref ho) :: (.ref ot) :: [])) ∧ va_P (dC, dI) vwCl (va_pl L G) H ∧ va_D A (va_pl L G) ∧ FR ty [ρ, ρ + 3, ρ + 31, ρ + 4 + ze + 100, ρ + 50 + ze + 100] F G := ⟨_, rfl, hP, hD, hR.up hT_h0 (by simp)⟩
                  have hF_204 : F_202 ta = .inl (cs 17, 3000, .inl gt) := by rw [he_203, up_ne (ne_ty ht_80 hT_h0 (by simp))]; exact hF_187
                  have hF_205 : F_202 so = .inl (cs 16, 40, .inl (upd fs ze x1)) := by rw [he_203, up_ne (ne_ty ht_83 hT_h0 (by simp))]; exact hF_186
                  have hF_206 : F_202 ad = .inl (cs 16, 40, .inl (upd fd ze x2)) := by rw [he_203, up_ne (ne_ty ht_86 hT_h0 (by simp))]; exact hF_185
                  have hF_207 : F_202 b_142 = .inr (14, [.ref r_143, .int (nI (kend - 0))]) := by rw [he_203, up_ne (ne_ty ht_146 hT_h0 (by simp))]; exact hF_190
                  have hF_208 : F_202 r_143 = .inl (cs 17, 60, .inl fc_157) := by rw [he_203, up_ne (ne_ty ht_148 hT_h0 (by simp))]; exact hF_191
                  have hF_209 : F_202 b_171 = .inr (14, [.ref r_172, .int 0]) := by rw [he_203, up_ne (ne_ty ht_175 hT_h0 (by simp))]; exact hF_184
                  have hF_210 : F_202 r_172 = .inl (cs 17, 700, .inl f_199) := by rw [he_203, up_ne (ne_ty ht_177 hT_h0 (by simp))]; exact hF_200
                  obtain ⟨ty, hty, hT_h0, hW, hO, hR⟩ : ∃ t9 : TyM, t9 = rtf ty h0 (15, ρ, [ta, ou, so, ad, na, va, lc, dm, tg, pe, ml, bg, co, sp, nb0, nb1, nb2, pl, se, ke, wi, hs, mo, po, nu, pr, sq, xa, sa, n64, m64, ex, wh, sd, tk, hd, ak, ho, ot, sx, s0, s1, s2, nf, bd, mm, (ze + 1), 0]) ∧ t9 h0 = (15, ρ, [ta, ou, so, ad, na, va, lc, dm, tg, pe, ml, bg, co, sp, nb0, nb1, nb2, pl, se, ke, wi, hs, mo, po, nu, pr, sq, xa, sa, n64, m64, ex, wh, sd, tk, hd, ak, ho, ot, sx, s0, s1, s2, nf, bd, mm, (ze + 1), 0]) ∧ WTm t9 gm L ∧ OKm cs t9 gm L F_202 ∧ FR t9 [ρ, ρ + 3, ρ + 31, ρ + 4 + ze + 100, ρ + 50 + ze + 100] F F_202 := ⟨_, rfl, rtf_self, hW.ze hL_h0 hT_h0, (by rw [he_203]; exact OKm.retype hO hT_h0 (shm.mod rtf_self ⟨zo_28, v11_29, v12_30, v14_31, v15_32, v17_33, v18_34, v19_35, v20_36, v21_37, v22_38, v33_39, v52_40, v53_41, v54_42, rfl, (by first | omega | assumption | exact Or.inl rfl | exact Or.inr rfl), (by first | omega | assumption | exact Or.inl rfl | exact Or.inr rfl), (by first | omega | assumption | exact Or.inl rfl | exact Or.inr rfl), (by first | omega | assumption | exact Or.inl rfl | exact Or.inr rfl)⟩)), FR.retype hT_h0 hR⟩
                  have hF_211 : F_202 h0 = .inr (15, (.ref ta) :: (.int 0) :: (.int (nI zo_28)) :: (.int (nI (ze + 1))) :: (.ref ou) :: (.ref so) :: (.ref ad) :: (.ref na) :: (.ref va) :: (.ref lc) :: (.ref dm) :: (.int v11_29) :: (.int v12_30) :: (.ref tg) :: (.int v14_31) :: (.int v15_32) :: (.ref pe) :: (.int v17_33) :: (.int v18_34) :: (.int v19_35) :: (.int v20_36) :: (.int v21_37) :: (.int v22_38) :: (.ref ml) :: (.ref bg) :: (.ref co) :: (.ref sp) :: (.ref nb0) :: (.ref nb1) :: (.ref nb2) :: (.int (nI nf)) :: (.int (nI bd)) :: (.int (nI mm)) :: (.int v33_39) :: (.ref pl) :: (.ref se) :: (.ref ke) :: (.ref wi) :: (.ref hs) :: (.ref mo) :: (.ref po) :: (.ref nu) :: (.ref pr) :: (.ref sq) :: (.ref xa) :: (.ref sa) :: (.ref n64) :: (.ref m64) :: (.ref ex) :: (.ref wh) :: (.ref sd) :: (.ref tk) :: (.int v52_40) :: (.int v53_41) :: (.int v54_42) :: (.ref hd) :: (.ref ak) :: (.ref ho) :: (.ref ot) :: []) := by rw [he_203]; exact up_self
                  obtain ⟨hq_234, hq_235, hq_236, hq_237, hq_238, hgO, hgA, hgB⟩ := hW.sc hL_h0 hT_h0
                  refine lv_aload_n hx hb dX15_entry_244 rfl (lv_at hl 4 rfl) ?_
                  refine pg_get (ci := 15) (v := .int (nI (ze + 1))) (C := RX15) (T := TX15) (N := 59) hx hb hts it_15 hown hK hP hL_h0 hF_211 rfl 3 (by decide) (hts _ kt_714) (fun _ h9 => h9) rfl dX15_entry_245 ?_
                  refine W.widen (k := 0) (n := 0) (by omega) (by omega) ?_
                  have hR0 := FR.unre hT00 htyU (FR.unre hTU hty hR)
                  have hQna := hR0 na (by rw [hTn0]; simp only [List.mem_cons, List.not_mem_nil, or_false]; omega)
                  have hQva := hR0 va (by rw [hTv0]; simp only [List.mem_cons, List.not_mem_nil, or_false]; omega)
                  exact W.iret (v := (nI (ze + 1))) hx hb hr (fun t ht hWm => ⟨⟨(nI (ze + 1)), (ze + 1), rfl, (Or.inr (Or.inr ⟨hc40, hs5.elim (fun h => val_y1 hx0 hx4 (hs5n h) (by rw [← hk0e h]; exact hn1)) (fun h => val_y2 hx0 hx4 (hs5x h) (hfst h) (by rw [← hk1e h]; exact hn1) (ho1 h).1), rfl, rfl⟩)), ⟨F_202, ty, (by rw [hty, htyU, rtf_rtf2]), QTm.mk ht hP hD hO hR, hW, ⟨(x1, x2, kend - 0, fc_157, 0, f_199), DIRM.add hDM hO0 hW0 hLn0 hTn0 hLv0 hTv0 (by omega) hR0 hQna hQva (fun k hk => ⟨by simp only [List.mem_cons, List.not_mem_nil, or_false]; omega, by simp only [List.mem_cons, List.not_mem_nil, or_false]; omega⟩) hd1 hd2 hd3 hd4 hF_205 hF_206 ⟨b_142, r_143, hbf_144, hF_207, hF_208, by show kend - 0 ≤ 60; omega⟩ ⟨b_171, r_172, hbf_173, hF_209, hF_210, by show 0 ≤ 700; omega⟩, fun _ => enx4 (hk0e c_193) (hs5n c_193) hn1 hq_160⟩⟩⟩, hS.F ht⟩) hS.2.2 dX15_entry_248
                ·
                  have h51 := hs5.resolve_left c_193
                  refine lv_aload_n hx hb dX15_entry_213 rfl (lv_at hl 4 rfl) ?_
                  refine pg_get (ci := 15) (v := .ref va) (C := RX15) (T := TX15) (N := 59) hx hb hts it_15 hown hK hP hL_h0 hF_188 rfl 8 (by decide) (hts _ kt_722) (fun _ h9 => h9) rfl dX15_entry_214 ?_
                  refine lv_aload_n hx hb dX15_entry_217 rfl (lv_at hl 4 rfl) ?_
                  refine pg_get (ci := 15) (v := .int (nI ze)) (C := RX15) (T := TX15) (N := 59) hx hb hts it_15 hown hK hP hL_h0 hF_188 rfl 3 (by decide) (hts _ kt_714) (fun _ h9 => h9) rfl dX15_entry_218 ?_
                  refine pg_aald (r := b_171) hx hb hK hP hi_166 7 hF_192 rfl (vp_in_nI (by omega) (by omega)) (show fv ((nI ze) : Int32).toNatClampNeg = _ from by rw [show ((nI ze) : Int32) = nI ze from rfl, nI_clamp (by omega)]; exact hbf_173) dX15_entry_221 ?_
                  refine lv_aload_n hx hb dX15_entry_222 rfl (lv_at hl 4 rfl) ?_
                  refine pg_get (ci := 15) (v := .ref ta) (C := RX15) (T := TX15) (N := 59) hx hb hts it_15 hown hK hP hL_h0 hF_188 rfl 0 (by decide) (hts _ kt_1065) (fun _ h9 => h9) rfl dX15_entry_223 ?_
                  refine lv_iload hx hb dX15_entry_226 (lv_at hl 2 rfl) ?_
                  refine lv_iconst (v := 1) hx hb dX15_entry_228 (by decide) ?_
                  refine lv_iadd hx hb dX15_entry_229 ?_
                  refine lv_topi (fun x_239 ex_239 => ?_)
                  obtain rfl : x_239 = (nI (j + 1)) := ex_239.trans (nI_add j 1)
                  refine lv_iload_n hx hb dX15_entry_230 rfl (lv_at hl 3 rfl) ?_
                  have hFc := pg_free hD hS hA
                  refine va_callv (va_runV (As := [.ref ta, .int (nI (j + 1)), .int (nI zt)]) (rest := []) ⟨hx, hb, hml, hown, hts⟩ (s_X14_set_e l dC dI cs ty gm L H.size F_182 b_171 (ρ + 50 + ze + 100) r_172 700 ta (ρ + 1) 3000 (j + 1) zt gt hW hi_174 ht_175 hi_79 ht_80 hF_187 (by have h9 := hn2 h51; omega) (by omega) (by have h9 := (ho1 h51).2; omega)) ⟨callB_of 3 hts (gi kt_969) rfl rfl rfl (hts _ kt_666) (hts _ kt_970) (by decide +kernel) ⟨Nat.le_of_ble_eq_true rfl, Nat.le_of_ble_eq_true rfl⟩, (hts _ kt_971), (hts _ kt_972)⟩ ⟨fun a U g mk q => ⟨q.1, PTm.calling q.2⟩, pg_recv hK hP hi_174 hF_184 (q := (RX14, TX14, 2)) rfl, fun U hU hWm => ⟨rfl, PTm.mk hU hWm hP hK hD hE hO⟩⟩ rfl rfl hl.1 rfl (lv_room (Nat.le_of_ble_eq_true rfl)) dX15_entry_231 ⟨by show _ + 0 ≤ 0; omega, by show _ + 0 ≤ 0; omega⟩) hS (fun q _ h => hFc q h) hFc (fun u t H1 locs ht hvm hw hB hz1 hk1 hS => ?_)
                  obtain ⟨F_241, fc_242, hB1, hq_243, hq_244, hq_245⟩ := hB
                  obtain ⟨hP, hD, hO, hR⟩ := QTm.back hB1 ht hFc hR (fun q h => by simp only [List.mem_cons, List.not_mem_nil, or_false] at h ⊢; omega)
                  have hF_246 : F_241 ad = .inl (cs 16, 40, .inl (upd fd ze x2)) := (hB1.2.2.2 ad (by rw [ht_86]; simp only [List.mem_cons, List.not_mem_nil, or_false]; omega)).trans hF_185
                  have hF_247 : F_241 so = .inl (cs 16, 40, .inl (upd fs ze x1)) := (hB1.2.2.2 so (by rw [ht_83]; simp only [List.mem_cons, List.not_mem_nil, or_false]; omega)).trans hF_186
                  have hF_248 : F_241 ta = .inl (cs 17, 3000, .inl gt) := (hB1.2.2.2 ta (by rw [ht_80]; simp only [List.mem_cons, List.not_mem_nil, or_false]; omega)).trans hF_187
                  have hF_249 : F_241 h0 = .inr (15, (.ref ta) :: (.int 0) :: (.int (nI zo_28)) :: (.int (nI ze)) :: (.ref ou) :: (.ref so) :: (.ref ad) :: (.ref na) :: (.ref va) :: (.ref lc) :: (.ref dm) :: (.int v11_29) :: (.int v12_30) :: (.ref tg) :: (.int v14_31) :: (.int v15_32) :: (.ref pe) :: (.int v17_33) :: (.int v18_34) :: (.int v19_35) :: (.int v20_36) :: (.int v21_37) :: (.int v22_38) :: (.ref ml) :: (.ref bg) :: (.ref co) :: (.ref sp) :: (.ref nb0) :: (.ref nb1) :: (.ref nb2) :: (.int (nI nf)) :: (.int (nI bd)) :: (.int (nI mm)) :: (.int v33_39) :: (.ref pl) :: (.ref se) :: (.ref ke) :: (.ref wi) :: (.ref hs) :: (.ref mo) :: (.ref po) :: (.ref nu) :: (.ref pr) :: (.ref sq) :: (.ref xa) :: (.ref sa) :: (.ref n64) :: (.ref m64) :: (.ref ex) :: (.ref wh) :: (.ref sd) :: (.ref tk) :: (.int v52_40) :: (.int v53_41) :: (.int v54_42) :: (.ref hd) :: (.ref ak) :: (.ref ho) :: (.ref ot) :: []) := (hB1.2.2.2 h0 (by rw [hT_h0]; simp only [List.mem_cons, List.not_mem_nil, or_false]; omega)).trans hF_188
                  have hF_250 : F_241 na = .inl (cs 23, 40, .inr (.inr (.inr (.inr fn)))) := (hB1.2.2.2 na (by rw [ht_138]; simp only [List.mem_cons, List.not_mem_nil, or_false]; omega)).trans hF_189
                  have hF_251 : F_241 b_142 = .inr (14, [.ref r_143, .int (nI (kend - 0))]) := (hB1.2.2.2 b_142 (by rw [ht_146]; simp only [List.mem_cons, List.not_mem_nil, or_false]; omega)).trans hF_190
                  have hF_252 : F_241 r_143 = .inl (cs 17, 60, .inl fc_157) := (hB1.2.2.2 r_143 (by rw [ht_148]; simp only [List.mem_cons, List.not_mem_nil, or_false]; omega)).trans hF_191
                  have hF_253 : F_241 va = .inl (cs 23, 40, .inr (.inr (.inr (.inr fv)))) := (hB1.2.2.2 va (by rw [ht_167]; simp only [List.mem_cons, List.not_mem_nil, or_false]; omega)).trans hF_192
                  generalize H1 = H at hP hS ⊢
                  refine lv_aload_n hx hb dX15_entry_234 rfl (lv_at hl 4 rfl) ?_
                  refine lv_dup hx hb dX15_entry_235 rfl ?_
                  refine pg_get (ci := 15) (v := .int (nI ze)) (C := RX15) (T := TX15) (N := 59) hx hb hts it_15 hown hK hP hL_h0 hF_249 rfl 3 (by decide) (hts _ kt_714) (fun _ h9 => h9) rfl dX15_entry_236 ?_
                  refine lv_iconst (v := 1) hx hb dX15_entry_239 (by decide) ?_
                  refine lv_iadd hx hb dX15_entry_240 ?_
                  refine lv_topi (fun x_254 ex_254 => ?_)
                  obtain rfl : x_254 = (nI (ze + 1)) := ex_254.trans (nI_add ze 1)
                  have htyU := hty
                  have hTU := hT_h0
                  obtain ⟨hq_255, hq_256⟩ := hW.octs hi_147 ht_148
                  obtain ⟨hq_257, hq_258⟩ := hW.octs hi_176 ht_177
                  refine pg_put (ci := 15) (v := .int (nI (ze + 1))) (ty := .int) (C := RX15) (T := TX15) (N := 59) hx hb hts it_15 tyX15 tyX15_ok nmX15 hown hK hP hD hS hL_h0 hF_249 rfl 3 (by decide) (hts _ kt_714) (fun _ h9 => h9) rfl (by decide +kernel) (rfl) (rfl) (Nat.le_of_ble_eq_true rfl) dX15_entry_241 (fun H locs hP hD hS => ?_)
                  obtain ⟨F_259, he_260, hP, hD, hR⟩ : ∃ G, G = va_up F_241 h0 (.inr (15, (.ref ta) :: (.int 0) :: (.int (nI zo_28)) :: (.int (nI (ze + 1))) :: (.ref ou) :: (.ref so) :: (.ref ad) :: (.ref na) :: (.ref va) :: (.ref lc) :: (.ref dm) :: (.int v11_29) :: (.int v12_30) :: (.ref tg) :: (.int v14_31) :: (.int v15_32) :: (.ref pe) :: (.int v17_33) :: (.int v18_34) :: (.int v19_35) :: (.int v20_36) :: (.int v21_37) :: (.int v22_38) :: (.ref ml) :: (.ref bg) :: (.ref co) :: (.ref sp) :: (.ref nb0) :: (.ref nb1) :: (.ref nb2) :: (.int (nI nf)) :: (.int (nI bd)) :: (.int (nI mm)) :: (.int v33_39) :: (.ref pl) :: (.ref se) :: (.ref ke) :: (.ref wi) :: (.ref hs) :: (.ref mo) :: (.ref po) :: (.ref nu) :: (.ref pr) :: (.ref sq) :: (.ref xa) :: (.ref sa) :: (.ref n64) :: (.ref m64) :: (.ref ex) :: (.ref wh) :: (.ref sd) :: (.ref tk) :: (.int v52_40) :: (.int v53_41) :: (.int v54_42) :: (.ref hd) :: (.ref ak) :: (.ref ho) :: (.ref ot) :: [])) ∧ va_P (dC, dI) vwCl (va_pl L G) H ∧ va_D A (va_pl L G) ∧ FR ty [ρ, ρ + 3, ρ + 31, ρ + 4 + ze + 100, ρ + 50 + ze + 100] F G := ⟨_, rfl, hP, hD, hR.up hT_h0 (by simp)⟩
                  have hF_261 : F_259 ta = .inl (cs 17, 3000, .inl gt) := by rw [he_260, up_ne (ne_ty ht_80 hT_h0 (by simp))]; exact hF_248
                  have hF_262 : F_259 so = .inl (cs 16, 40, .inl (upd fs ze x1)) := by rw [he_260, up_ne (ne_ty ht_83 hT_h0 (by simp))]; exact hF_247
                  have hF_263 : F_259 ad = .inl (cs 16, 40, .inl (upd fd ze x2)) := by rw [he_260, up_ne (ne_ty ht_86 hT_h0 (by simp))]; exact hF_246
                  have hF_264 : F_259 b_142 = .inr (14, [.ref r_143, .int (nI (kend - 0))]) := by rw [he_260, up_ne (ne_ty ht_146 hT_h0 (by simp))]; exact hF_251
                  have hF_265 : F_259 r_143 = .inl (cs 17, 60, .inl fc_157) := by rw [he_260, up_ne (ne_ty ht_148 hT_h0 (by simp))]; exact hF_252
                  have hF_266 : F_259 b_171 = .inr (14, [.ref r_172, .int (nI (zt - (j + 1)))]) := by rw [he_260, up_ne (ne_ty ht_175 hT_h0 (by simp))]; exact hq_243
                  have hF_267 : F_259 r_172 = .inl (cs 17, 700, .inl fc_242) := by rw [he_260, up_ne (ne_ty ht_177 hT_h0 (by simp))]; exact hq_244
                  obtain ⟨ty, hty, hT_h0, hW, hO, hR⟩ : ∃ t9 : TyM, t9 = rtf ty h0 (15, ρ, [ta, ou, so, ad, na, va, lc, dm, tg, pe, ml, bg, co, sp, nb0, nb1, nb2, pl, se, ke, wi, hs, mo, po, nu, pr, sq, xa, sa, n64, m64, ex, wh, sd, tk, hd, ak, ho, ot, sx, s0, s1, s2, nf, bd, mm, (ze + 1), 0]) ∧ t9 h0 = (15, ρ, [ta, ou, so, ad, na, va, lc, dm, tg, pe, ml, bg, co, sp, nb0, nb1, nb2, pl, se, ke, wi, hs, mo, po, nu, pr, sq, xa, sa, n64, m64, ex, wh, sd, tk, hd, ak, ho, ot, sx, s0, s1, s2, nf, bd, mm, (ze + 1), 0]) ∧ WTm t9 gm L ∧ OKm cs t9 gm L F_259 ∧ FR t9 [ρ, ρ + 3, ρ + 31, ρ + 4 + ze + 100, ρ + 50 + ze + 100] F F_259 := ⟨_, rfl, rtf_self, hW.ze hL_h0 hT_h0, (by rw [he_260]; exact OKm.retype hO hT_h0 (shm.mod rtf_self ⟨zo_28, v11_29, v12_30, v14_31, v15_32, v17_33, v18_34, v19_35, v20_36, v21_37, v22_38, v33_39, v52_40, v53_41, v54_42, rfl, (by first | omega | assumption | exact Or.inl rfl | exact Or.inr rfl), (by first | omega | assumption | exact Or.inl rfl | exact Or.inr rfl), (by first | omega | assumption | exact Or.inl rfl | exact Or.inr rfl), (by first | omega | assumption | exact Or.inl rfl | exact Or.inr rfl)⟩)), FR.retype hT_h0 hR⟩
                  have hF_268 : F_259 h0 = .inr (15, (.ref ta) :: (.int 0) :: (.int (nI zo_28)) :: (.int (nI (ze + 1))) :: (.ref ou) :: (.ref so) :: (.ref ad) :: (.ref na) :: (.ref va) :: (.ref lc) :: (.ref dm) :: (.int v11_29) :: (.int v12_30) :: (.ref tg) :: (.int v14_31) :: (.int v15_32) :: (.ref pe) :: (.int v17_33) :: (.int v18_34) :: (.int v19_35) :: (.int v20_36) :: (.int v21_37) :: (.int v22_38) :: (.ref ml) :: (.ref bg) :: (.ref co) :: (.ref sp) :: (.ref nb0) :: (.ref nb1) :: (.ref nb2) :: (.int (nI nf)) :: (.int (nI bd)) :: (.int (nI mm)) :: (.int v33_39) :: (.ref pl) :: (.ref se) :: (.ref ke) :: (.ref wi) :: (.ref hs) :: (.ref mo) :: (.ref po) :: (.ref nu) :: (.ref pr) :: (.ref sq) :: (.ref xa) :: (.ref sa) :: (.ref n64) :: (.ref m64) :: (.ref ex) :: (.ref wh) :: (.ref sd) :: (.ref tk) :: (.int v52_40) :: (.int v53_41) :: (.int v54_42) :: (.ref hd) :: (.ref ak) :: (.ref ho) :: (.ref ot) :: []) := by rw [he_260]; exact up_self
                  obtain ⟨hq_291, hq_292, hq_293, hq_294, hq_295, hgO, hgA, hgB⟩ := hW.sc hL_h0 hT_h0
                  refine lv_aload_n hx hb dX15_entry_244 rfl (lv_at hl 4 rfl) ?_
                  refine pg_get (ci := 15) (v := .int (nI (ze + 1))) (C := RX15) (T := TX15) (N := 59) hx hb hts it_15 hown hK hP hL_h0 hF_268 rfl 3 (by decide) (hts _ kt_714) (fun _ h9 => h9) rfl dX15_entry_245 ?_
                  refine W.widen (k := 0) (n := 0) (by omega) (by omega) ?_
                  have hR0 := FR.unre hT00 htyU (FR.unre hTU hty hR)
                  have hQna := hR0 na (by rw [hTn0]; simp only [List.mem_cons, List.not_mem_nil, or_false]; omega)
                  have hQva := hR0 va (by rw [hTv0]; simp only [List.mem_cons, List.not_mem_nil, or_false]; omega)
                  exact W.iret (v := (nI (ze + 1))) hx hb hr (fun t ht hWm => ⟨⟨(nI (ze + 1)), (ze + 1), rfl, (Or.inr (Or.inr ⟨hc40, hs5.elim (fun h => val_y1 hx0 hx4 (hs5n h) (by rw [← hk0e h]; exact hn1)) (fun h => val_y2 hx0 hx4 (hs5x h) (hfst h) (by rw [← hk1e h]; exact hn1) (ho1 h).1), rfl, rfl⟩)), ⟨F_259, ty, (by rw [hty, htyU, rtf_rtf2]), QTm.mk ht hP hD hO hR, hW, ⟨(x1, x2, kend - 0, fc_157, zt - (j + 1), fc_242), DIRM.add hDM hO0 hW0 hLn0 hTn0 hLv0 hTv0 (by omega) hR0 hQna hQva (fun k hk => ⟨by simp only [List.mem_cons, List.not_mem_nil, or_false]; omega, by simp only [List.mem_cons, List.not_mem_nil, or_false]; omega⟩) hd1 hd2 hd3 hd4 hF_262 hF_263 ⟨b_142, r_143, hbf_144, hF_264, hF_265, by show kend - 0 ≤ 60; omega⟩ ⟨b_171, r_172, hbf_173, hF_266, hF_267, by show zt - (j + 1) ≤ 700; have h9 := (ho1 h51).2; omega⟩, fun _ => enx3 (hk1e h51) (hs5x h51) (hfst h51) hn1 (ho1 h51).1 hq_160 hq_245⟩⟩⟩, hS.F ht⟩) hS.2.2 dX15_entry_248
              ·
                refine lv_iload_n hx hb dX15_entry_118 rfl (lv_at hl 5 rfl) ?_
                refine lv_iconst (v := 2) hx hb dX15_entry_119 (by decide) ?_
                refine lv_icmp_ne (tgt := 138) hx hb dX15_entry_120 (by decide) (fun c_296 => ?_) (fun c_296 => ?_)
                ·
                  refine lv_iload_n hx hb dX15_entry_138 rfl (lv_at hl 5 rfl) ?_
                  refine lv_if_ne (tgt := 156) hx hb dX15_entry_139 (by decide) (fun c_297 => ?_) (fun c_297 => ?_)
                  ·
                    refine W.widen (k := 0) (n := 0) (by omega) (by omega) ?_
                    exact jn_118 () F_114 (⟨fun h => absurd (hs5x h) (fun q => q.elim c_297 c_296), hn3, hn3so, hn3ad⟩) hO hR _ _ hP hD hS ls (lv_sub hl [0, 1, 2, 3, 4, 5, 6] rfl)
                  ·
                    have h51 : s5 = 1 := hs5.resolve_left (fun q => hs5n q (Or.inl c_297))
                    have hkz := hn2 h51
                    refine lv_iload_n hx hb dX15_entry_142 rfl (lv_at hl 3 rfl) ?_
                    refine lv_iload hx hb dX15_entry_143 (lv_at hl 2 rfl) ?_
                    refine lv_isub hx hb dX15_entry_145 ?_
                    refine lv_topi (fun x_298 ex_298 => ?_)
                    obtain rfl : x_298 = (nI (zt - j)) := ex_298.trans (pk_sub (a := zt) (b := j) (by omega))
                    refine lv_iconst (v := 1) hx hb dX15_entry_146 (by decide) ?_
                    refine lv_isub hx hb dX15_entry_147 ?_
                    refine lv_topi (fun x_299 ex_299 => ?_)
                    obtain rfl : x_299 = (nI ((zt - j) - 1)) := ex_299.trans (pk_sub (a := (zt - j)) (b := 1) (by omega))
                    refine lv_sipush (v := 700) hx hb dX15_entry_148 (by decide) ?_
                    refine lv_icmp_le (tgt := 156) hx hb dX15_entry_151 (by decide) (fun c_300 => ?_) (fun c_300 => ?_)
                    ·
                      have hi_301 : ((zt - j) - 1) ≤ 700 := (nI_leI (a := ((zt - j) - 1)) (b := 700) (by omega) (by omega)).mp c_300
                      refine W.widen (k := 0) (n := 0) (by omega) (by omega) ?_
                      exact jn_118 () F_114 (⟨fun _ => ⟨⟨by omega, fun q => absurd (q.symm.trans c_297) (by decide), fun _ => by omega⟩, by omega⟩, hn3, hn3so, hn3ad⟩) hO hR _ _ hP hD hS ls (lv_sub hl [0, 1, 2, 3, 4, 5, 6] rfl)
                    ·
                      have hi_302 : 700 < ((zt - j) - 1) := Nat.not_le.mp (fun q => c_300 ((nI_leI (a := ((zt - j) - 1)) (b := 700) (by omega) (by omega)).mpr q))
                      refine lv_iconst (v := (-1)) hx hb dX15_entry_154 (by decide) ?_
                      refine W.widen (k := 0) (n := 0) (by omega) (by omega) ?_
                      have hR0 := FR.unre hT00 hty hR
                      have hQna := hR0 na (by rw [hTn0]; simp only [List.mem_cons, List.not_mem_nil, or_false]; omega)
                      have hQva := hR0 va (by rw [hTv0]; simp only [List.mem_cons, List.not_mem_nil, or_false]; omega)
                      exact W.iret (v := (-1)) hx hb hr (fun t ht hWm => ⟨⟨(-1), ze, rfl, (Or.inr (Or.inl ⟨hc40, val_nv (Or.inl c_297) (hfst h51) (fun q => absurd (q.2.2 (fun w => absurd (w.symm.trans c_297) (by decide))) (by omega)), rfl, rfl⟩)), ⟨F_114, ty, hty, QTm.mk ht hP hD hO hR, hW, ⟨(0, 0, 0, fun _ => 0, 0, fun _ => 0), DIRM.same (DIRM.fr hDM hO0 hW0 hLn0 hTn0 hLv0 hTv0 (by omega) hR0 (hn3so.trans hd1.symm) (hn3ad.trans hd2.symm) hQna hQva (fun k hk => ⟨by simp only [List.mem_cons, List.not_mem_nil, or_false]; omega, by simp only [List.mem_cons, List.not_mem_nil, or_false]; omega⟩)), fun q => absurd q (by omega)⟩⟩⟩, hS.F ht⟩) hS.2.2 dX15_entry_155
                ·
                  have h51 : s5 = 1 := hs5.resolve_left (fun q => hs5n q (Or.inr c_296))
                  have hkz := hn2 h51
                  refine lv_aload_n hx hb dX15_entry_123 rfl (lv_at hl 4 rfl) ?_
                  refine pg_get (ci := 15) (v := .ref ta) (C := RX15) (T := TX15) (N := 59) hx hb hts it_15 hown hK hP hL_h0 hn3 rfl 0 (by decide) (hts _ kt_1065) (fun _ h9 => h9) rfl dX15_entry_124 ?_
                  refine lv_iload hx hb dX15_entry_127 (lv_at hl 2 rfl) ?_
                  refine lv_iconst (v := 1) hx hb dX15_entry_129 (by decide) ?_
                  refine lv_iadd hx hb dX15_entry_130 ?_
                  refine lv_topi (fun x_303 ex_303 => ?_)
                  obtain rfl : x_303 = (nI (j + 1)) := ex_303.trans (nI_add j 1)
                  refine lv_iload_n hx hb dX15_entry_131 rfl (lv_at hl 3 rfl) ?_
                  obtain ⟨hq_304, hq_305⟩ := hW.octs hi_79 ht_80
                  have hFc := pg_free hD hS hA
                  refine va_calli (va_runS (As := [.ref ta, .int (nI (j + 1)), .int (nI zt)]) (rest := []) ⟨hx, hb, hml, hown, hts⟩ (s_X14_isName_e l dC dI cs ty gm L H.size F_114 ta (ρ + 1) 3000 (j + 1) zt gt hW hi_79 ht_80 hF_117 (by first | omega | assumption) (by first | omega | assumption)) ⟨callB_of 3 hts (gi kt_679) rfl rfl rfl (hts _ kt_666) (hts _ kt_853) (by decide +kernel) ⟨Nat.le_of_ble_eq_true rfl, Nat.le_of_ble_eq_true rfl⟩, (hts _ kt_681)⟩ ⟨fun a U g mk q => ⟨q.1, PTm.calling q.2⟩, fun U hU hWm => ⟨rfl, PTm.mk hU hWm hP hK hD hE hO⟩⟩ rfl rfl hl.1 rfl (lv_room (Nat.le_of_ble_eq_true rfl)) dX15_entry_132 ⟨by show _ + 0 ≤ 0; omega, by show _ + 0 ≤ 0; omega⟩) hS (fun q _ h => hFc q h) hFc (fun r_306 u t H1 locs ht hvm hw hB hz1 hk1 hS => ?_)
                  obtain ⟨F_307, hB1⟩ := hB
                  obtain rfl : F_114 = F_307 := (funext (fun a => hB1.2.2.2 a List.not_mem_nil)).symm
                  obtain ⟨hP, hD, hO, hR⟩ := QTm.back hB1 ht hFc hR (fun q h => absurd h List.not_mem_nil)
                  generalize H1 = H at hP hS ⊢
                  have hw : r_306 = (if NM gt (j + 1) zt = true then 1 else 0) := hw
                  have hw_308 := hw
                  refine lv_if_eq (tgt := 154) hx hb dX15_entry_135 (by decide) (fun c_309 => ?_) (fun c_309 => ?_)
                  ·
                    refine lv_iconst (v := (-1)) hx hb dX15_entry_154 (by decide) ?_
                    refine W.widen (k := 0) (n := 0) (by omega) (by omega) ?_
                    have hR0 := FR.unre hT00 hty hR
                    have hQna := hR0 na (by rw [hTn0]; simp only [List.mem_cons, List.not_mem_nil, or_false]; omega)
                    have hQva := hR0 va (by rw [hTv0]; simp only [List.mem_cons, List.not_mem_nil, or_false]; omega)
                    exact W.iret (v := (-1)) hx hb hr (fun t ht hWm => ⟨⟨(-1), ze, rfl, (Or.inr (Or.inl ⟨hc40, val_nv (Or.inr c_296) (hfst h51) (fun q => ifb0 hw_308 c_309 (q.2.1 c_296)), rfl, rfl⟩)), ⟨F_114, ty, hty, QTm.mk ht hP hD hO hR, hW, ⟨(0, 0, 0, fun _ => 0, 0, fun _ => 0), DIRM.same (DIRM.fr hDM hO0 hW0 hLn0 hTn0 hLv0 hTv0 (by omega) hR0 (hn3so.trans hd1.symm) (hn3ad.trans hd2.symm) hQna hQva (fun k hk => ⟨by simp only [List.mem_cons, List.not_mem_nil, or_false]; omega, by simp only [List.mem_cons, List.not_mem_nil, or_false]; omega⟩)), fun q => absurd q (by omega)⟩⟩⟩, hS.F ht⟩) hS.2.2 dX15_entry_155
                  ·
                    refine lv_iload_n hx hb dX15_entry_138 rfl (lv_at hl 5 rfl) ?_
                    refine lv_if_ne (tgt := 156) hx hb dX15_entry_139 (by decide) (fun c_310 => ?_) (fun c_310 => ?_)
                    ·
                      refine W.widen (k := 0) (n := 0) (by omega) (by omega) ?_
                      exact jn_118 () F_114 (⟨fun _ => ⟨⟨by omega, fun _ => ifb1 hw_308 c_309, fun q => absurd c_296 q⟩, by have h9 := nm_60 (ifb1 hw_308 c_309); omega⟩, hn3, hn3so, hn3ad⟩) hO hR _ _ hP hD hS ls (lv_sub hl [0, 1, 2, 3, 4, 5, 6] rfl)
                    ·
                      have h51 : s5 = 1 := hs5.resolve_left (fun q => hs5n q (Or.inl c_310))
                      have hkz := hn2 h51
                      refine lv_iload_n hx hb dX15_entry_142 rfl (lv_at hl 3 rfl) ?_
                      refine lv_iload hx hb dX15_entry_143 (lv_at hl 2 rfl) ?_
                      refine lv_isub hx hb dX15_entry_145 ?_
                      refine lv_topi (fun x_311 ex_311 => ?_)
                      obtain rfl : x_311 = (nI (zt - j)) := ex_311.trans (pk_sub (a := zt) (b := j) (by omega))
                      refine lv_iconst (v := 1) hx hb dX15_entry_146 (by decide) ?_
                      refine lv_isub hx hb dX15_entry_147 ?_
                      refine lv_topi (fun x_312 ex_312 => ?_)
                      obtain rfl : x_312 = (nI ((zt - j) - 1)) := ex_312.trans (pk_sub (a := (zt - j)) (b := 1) (by omega))
                      refine lv_sipush (v := 700) hx hb dX15_entry_148 (by decide) ?_
                      refine lv_icmp_le (tgt := 156) hx hb dX15_entry_151 (by decide) (fun c_313 => ?_) (fun c_313 => ?_)
                      ·
                        have hi_314 : ((zt - j) - 1) ≤ 700 := (nI_leI (a := ((zt - j) - 1)) (b := 700) (by omega) (by omega)).mp c_313
                        refine W.widen (k := 0) (n := 0) (by omega) (by omega) ?_
                        exact jn_118 () F_114 (⟨fun _ => ⟨⟨by omega, fun q => absurd (q.symm.trans c_310) (by decide), fun _ => by omega⟩, by omega⟩, hn3, hn3so, hn3ad⟩) hO hR _ _ hP hD hS ls (lv_sub hl [0, 1, 2, 3, 4, 5, 6] rfl)
                      ·
                        have hi_315 : 700 < ((zt - j) - 1) := Nat.not_le.mp (fun q => c_313 ((nI_leI (a := ((zt - j) - 1)) (b := 700) (by omega) (by omega)).mpr q))
                        refine lv_iconst (v := (-1)) hx hb dX15_entry_154 (by decide) ?_
                        refine W.widen (k := 0) (n := 0) (by omega) (by omega) ?_
                        have hR0 := FR.unre hT00 hty hR
                        have hQna := hR0 na (by rw [hTn0]; simp only [List.mem_cons, List.not_mem_nil, or_false]; omega)
                        have hQva := hR0 va (by rw [hTv0]; simp only [List.mem_cons, List.not_mem_nil, or_false]; omega)
                        exact W.iret (v := (-1)) hx hb hr (fun t ht hWm => ⟨⟨(-1), ze, rfl, (Or.inr (Or.inl ⟨hc40, val_nv (Or.inl c_310) (hfst h51) (fun q => absurd (q.2.2 (fun w => absurd (w.symm.trans c_310) (by decide))) (by omega)), rfl, rfl⟩)), ⟨F_114, ty, hty, QTm.mk ht hP hD hO hR, hW, ⟨(0, 0, 0, fun _ => 0, 0, fun _ => 0), DIRM.same (DIRM.fr hDM hO0 hW0 hLn0 hTn0 hLv0 hTv0 (by omega) hR0 (hn3so.trans hd1.symm) (hn3ad.trans hd2.symm) hQna hQva (fun k hk => ⟨by simp only [List.mem_cons, List.not_mem_nil, or_false]; omega, by simp only [List.mem_cons, List.not_mem_nil, or_false]; omega⟩)), fun q => absurd q (by omega)⟩⟩⟩, hS.F ht⟩) hS.2.2 dX15_entry_155
            ·
              refine lv_iload hx hb dX15_entry_92 (lv_at hl 1 rfl) ?_
              refine lv_if_eq (tgt := 103) hx hb dX15_entry_94 (by decide) (fun c_316 => ?_) (fun c_316 => ?_)
              ·
                refine lv_aload_n hx hb dX15_entry_103 rfl (lv_at hl 4 rfl) ?_
                refine pg_get (ci := 15) (v := .ref ta) (C := RX15) (T := TX15) (N := 59) hx hb hts it_15 hown hK hP hL_h0 hb2 rfl 0 (by decide) (hts _ kt_1065) (fun _ h9 => h9) rfl dX15_entry_104 ?_
                refine lv_iconst (v := 0) hx hb dX15_entry_107 (by decide) ?_
                refine lv_iload hx hb dX15_entry_108 (lv_at hl 0 rfl) ?_
                refine W.eq (g2 := F0 m 110 ls [.int (nI kend), .int (nI 0), .ref ta]) rfl ?_
                obtain ⟨hq_317, hq_318⟩ := hW.octs hi_79 ht_80
                have hFc := pg_free hD hS hA
                refine va_calli (va_runS (As := [.ref ta, .int (nI 0), .int (nI kend)]) (rest := []) ⟨hx, hb, hml, hown, hts⟩ (s_X14_isName_e l dC dI cs ty gm L H.size F_109 ta (ρ + 1) 3000 0 kend gt hW hi_79 ht_80 hF_112 (by first | omega | assumption) (by first | omega | assumption)) ⟨callB_of 3 hts (gi kt_679) rfl rfl rfl (hts _ kt_666) (hts _ kt_853) (by decide +kernel) ⟨Nat.le_of_ble_eq_true rfl, Nat.le_of_ble_eq_true rfl⟩, (hts _ kt_681)⟩ ⟨fun a U g mk q => ⟨q.1, PTm.calling q.2⟩, fun U hU hWm => ⟨rfl, PTm.mk hU hWm hP hK hD hE hO⟩⟩ rfl rfl hl.1 rfl (lv_room (Nat.le_of_ble_eq_true rfl)) dX15_entry_110 ⟨by show _ + 0 ≤ 0; omega, by show _ + 0 ≤ 0; omega⟩) hS (fun q _ h => hFc q h) hFc (fun r_319 u t H1 locs ht hvm hw hB hz1 hk1 hS => ?_)
                obtain ⟨F_320, hB1⟩ := hB
                obtain rfl : F_109 = F_320 := (funext (fun a => hB1.2.2.2 a List.not_mem_nil)).symm
                obtain ⟨hP, hD, hO, hR⟩ := QTm.back hB1 ht hFc hR (fun q h => absurd h List.not_mem_nil)
                generalize H1 = H at hP hS ⊢
                have hw : r_319 = (if NM gt 0 kend = true then 1 else 0) := hw
                have hw_321 := hw
                refine lv_if_ne (tgt := 118) hx hb dX15_entry_113 (by decide) (fun c_322 => ?_) (fun c_322 => ?_)
                ·
                  refine W.widen (k := 0) (n := 0) (by omega) (by omega) ?_
                  exact jn_113 () F_109 (⟨ifb1 hw_321 c_322, nm_60 (ifb1 hw_321 c_322), fun h => absurd (h.symm.trans c_316) (by decide), hb2, hb2so, hb2ad⟩) hO hR _ _ hP hD hS ls (lv_sub hl [0, 1, 2, 3, 4, 5, 6] rfl)
                ·
                  refine lv_iconst (v := (-1)) hx hb dX15_entry_116 (by decide) ?_
                  refine W.widen (k := 0) (n := 0) (by omega) (by omega) ?_
                  have hR0 := FR.unre hT00 hty hR
                  have hQna := hR0 na (by rw [hTn0]; simp only [List.mem_cons, List.not_mem_nil, or_false]; omega)
                  have hQva := hR0 va (by rw [hTv0]; simp only [List.mem_cons, List.not_mem_nil, or_false]; omega)
                  exact W.iret (v := (-1)) hx hb hr (fun t ht hWm => ⟨⟨(-1), ze, rfl, (Or.inr (Or.inl ⟨hc40, val_nz (hs5n c_316) (by rw [← hk0e c_316]; exact (ifb0 hw_321 c_322)), rfl, rfl⟩)), ⟨F_109, ty, hty, QTm.mk ht hP hD hO hR, hW, ⟨(0, 0, 0, fun _ => 0, 0, fun _ => 0), DIRM.same (DIRM.fr hDM hO0 hW0 hLn0 hTn0 hLv0 hTv0 (by omega) hR0 (hb2so.trans hd1.symm) (hb2ad.trans hd2.symm) hQna hQva (fun k hk => ⟨by simp only [List.mem_cons, List.not_mem_nil, or_false]; omega, by simp only [List.mem_cons, List.not_mem_nil, or_false]; omega⟩)), fun q => absurd q (by omega)⟩⟩⟩, hS.F ht⟩) hS.2.2 dX15_entry_117
              ·
                refine lv_iload hx hb dX15_entry_97 (lv_at hl 2 rfl) ?_
                refine lv_iload_n hx hb dX15_entry_99 rfl (lv_at hl 3 rfl) ?_
                refine lv_icmp_eq (tgt := 116) hx hb dX15_entry_100 (by decide) (fun c_323 => ?_) (fun c_323 => ?_)
                ·
                  have hi_324 : j = zt := (nI_eq (a := j) (b := zt) (by omega) (by omega)).mp c_323
                  refine lv_iconst (v := (-1)) hx hb dX15_entry_116 (by decide) ?_
                  refine W.widen (k := 0) (n := 0) (by omega) (by omega) ?_
                  have hR0 := FR.unre hT00 hty hR
                  have hQna := hR0 na (by rw [hTn0]; simp only [List.mem_cons, List.not_mem_nil, or_false]; omega)
                  have hQva := hR0 va (by rw [hTv0]; simp only [List.mem_cons, List.not_mem_nil, or_false]; omega)
                  exact W.iret (v := (-1)) hx hb hr (fun t ht hWm => ⟨⟨(-1), ze, rfl, (Or.inr (Or.inl ⟨hc40, val_nv (hs5x (hs5.resolve_left c_316)) (hfst (hs5.resolve_left c_316)) (fun q => q.1 (by omega)), rfl, rfl⟩)), ⟨F_109, ty, hty, QTm.mk ht hP hD hO hR, hW, ⟨(0, 0, 0, fun _ => 0, 0, fun _ => 0), DIRM.same (DIRM.fr hDM hO0 hW0 hLn0 hTn0 hLv0 hTv0 (by omega) hR0 (hb2so.trans hd1.symm) (hb2ad.trans hd2.symm) hQna hQva (fun k hk => ⟨by simp only [List.mem_cons, List.not_mem_nil, or_false]; omega, by simp only [List.mem_cons, List.not_mem_nil, or_false]; omega⟩)), fun q => absurd q (by omega)⟩⟩⟩, hS.F ht⟩) hS.2.2 dX15_entry_117
                ·
                  have hi_325 : j ≠ zt := fun q => c_323 (by rw [q])
                  refine lv_aload_n hx hb dX15_entry_103 rfl (lv_at hl 4 rfl) ?_
                  refine pg_get (ci := 15) (v := .ref ta) (C := RX15) (T := TX15) (N := 59) hx hb hts it_15 hown hK hP hL_h0 hb2 rfl 0 (by decide) (hts _ kt_1065) (fun _ h9 => h9) rfl dX15_entry_104 ?_
                  refine lv_iconst (v := 0) hx hb dX15_entry_107 (by decide) ?_
                  refine lv_iload hx hb dX15_entry_108 (lv_at hl 0 rfl) ?_
                  refine W.eq (g2 := F0 m 110 ls [.int (nI kend), .int (nI 0), .ref ta]) rfl ?_
                  obtain ⟨hq_326, hq_327⟩ := hW.octs hi_79 ht_80
                  have hFc := pg_free hD hS hA
                  refine va_calli (va_runS (As := [.ref ta, .int (nI 0), .int (nI kend)]) (rest := []) ⟨hx, hb, hml, hown, hts⟩ (s_X14_isName_e l dC dI cs ty gm L H.size F_109 ta (ρ + 1) 3000 0 kend gt hW hi_79 ht_80 hF_112 (by first | omega | assumption) (by first | omega | assumption)) ⟨callB_of 3 hts (gi kt_679) rfl rfl rfl (hts _ kt_666) (hts _ kt_853) (by decide +kernel) ⟨Nat.le_of_ble_eq_true rfl, Nat.le_of_ble_eq_true rfl⟩, (hts _ kt_681)⟩ ⟨fun a U g mk q => ⟨q.1, PTm.calling q.2⟩, fun U hU hWm => ⟨rfl, PTm.mk hU hWm hP hK hD hE hO⟩⟩ rfl rfl hl.1 rfl (lv_room (Nat.le_of_ble_eq_true rfl)) dX15_entry_110 ⟨by show _ + 0 ≤ 0; omega, by show _ + 0 ≤ 0; omega⟩) hS (fun q _ h => hFc q h) hFc (fun r_328 u t H1 locs ht hvm hw hB hz1 hk1 hS => ?_)
                  obtain ⟨F_329, hB1⟩ := hB
                  obtain rfl : F_109 = F_329 := (funext (fun a => hB1.2.2.2 a List.not_mem_nil)).symm
                  obtain ⟨hP, hD, hO, hR⟩ := QTm.back hB1 ht hFc hR (fun q h => absurd h List.not_mem_nil)
                  generalize H1 = H at hP hS ⊢
                  have hw : r_328 = (if NM gt 0 kend = true then 1 else 0) := hw
                  have hw_330 := hw
                  refine lv_if_ne (tgt := 118) hx hb dX15_entry_113 (by decide) (fun c_331 => ?_) (fun c_331 => ?_)
                  ·
                    refine W.widen (k := 0) (n := 0) (by omega) (by omega) ?_
                    exact jn_113 () F_109 (⟨ifb1 hw_330 c_331, nm_60 (ifb1 hw_330 c_331), fun _ => by omega, hb2, hb2so, hb2ad⟩) hO hR _ _ hP hD hS ls (lv_sub hl [0, 1, 2, 3, 4, 5, 6] rfl)
                  ·
                    refine lv_iconst (v := (-1)) hx hb dX15_entry_116 (by decide) ?_
                    refine W.widen (k := 0) (n := 0) (by omega) (by omega) ?_
                    have hR0 := FR.unre hT00 hty hR
                    have hQna := hR0 na (by rw [hTn0]; simp only [List.mem_cons, List.not_mem_nil, or_false]; omega)
                    have hQva := hR0 va (by rw [hTv0]; simp only [List.mem_cons, List.not_mem_nil, or_false]; omega)
                    exact W.iret (v := (-1)) hx hb hr (fun t ht hWm => ⟨⟨(-1), ze, rfl, (Or.inr (Or.inl ⟨hc40, val_nn (hs5x (hs5.resolve_left c_316)) (hfst (hs5.resolve_left c_316)) (by rw [← hk1e (hs5.resolve_left c_316)]; exact (ifb0 hw_330 c_331)), rfl, rfl⟩)), ⟨F_109, ty, hty, QTm.mk ht hP hD hO hR, hW, ⟨(0, 0, 0, fun _ => 0, 0, fun _ => 0), DIRM.same (DIRM.fr hDM hO0 hW0 hLn0 hTn0 hLv0 hTv0 (by omega) hR0 (hb2so.trans hd1.symm) (hb2ad.trans hd2.symm) hQna hQva (fun k hk => ⟨by simp only [List.mem_cons, List.not_mem_nil, or_false]; omega, by simp only [List.mem_cons, List.not_mem_nil, or_false]; omega⟩)), fun q => absurd q (by omega)⟩⟩⟩, hS.F ht⟩) hS.2.2 dX15_entry_117
          ·
            refine lv_iload hx hb dX15_entry_79 (lv_at hl 0 rfl) ?_
            refine lv_if_eq (tgt := 89) hx hb dX15_entry_81 (by decide) (fun c_332 => ?_) (fun c_332 => ?_)
            ·
              refine lv_iload_n hx hb dX15_entry_89 rfl (lv_at hl 2 rfl) ?_
              refine W.widen (k := 0) (n := 0) (by omega) (by omega) ?_
              exact jn_108 (nI zt) F_102 (⟨⟨zt, Nat.le_refl _, rfl, fun h => absurd (h.symm.trans c_332) (by decide), fun _ => rfl⟩, ha2, ha2so, ha2ad⟩) hO hR _ _ hP hD hS ls (lv_sub hl [0, 1, 2, 3, 4, 5] rfl)
            ·
              refine lv_iload hx hb dX15_entry_84 (lv_at hl 1 rfl) ?_
              refine lv_goto (tgt := 90) hx hb dX15_entry_86 (by decide) ?_
              refine W.widen (k := 0) (n := 0) (by omega) (by omega) ?_
              exact jn_108 (nI j) F_102 (⟨⟨j, by omega, rfl, fun _ => rfl, fun h => absurd h c_332⟩, ha2, ha2so, ha2ad⟩) hO hR _ _ hP hD hS ls (lv_sub hl [0, 1, 2, 3, 4, 5] rfl)
        ·
          refine lv_iload hx hb dX15_entry_55 (lv_at hl 1 rfl) ?_
          refine lv_iload_n hx hb dX15_entry_57 rfl (lv_at hl 2 rfl) ?_
          refine lv_icmp_ge (tgt := 79) hx hb dX15_entry_58 (by decide) (fun c_333 => ?_) (fun c_333 => ?_)
          ·
            have hi_334 : zt ≤ j := leN (N := zt) c_333
            have hfst : s5 = 1 → FST gt 32 zt j := fun _ => ⟨by omega, ha3, Or.inl (by omega)⟩
            have hF_337 : F ta = .inl (cs 17, 3000, .inl gt) := (hR ta (by rw [ht_80]; simp only [List.mem_cons, List.not_mem_nil, or_false]; omega)).symm.trans hF_106
            refine W.widen (k := 0) (n := 0) (by omega) (by omega) ?_
            refine pl_cutm (σ := Int32) A (dC, dI) cs ty gm L [ρ, ρ + 3, ρ + 31, ρ + 4 + ze + 100, ρ + 50 + ze + 100] F 90 7 (fun s6 => [(5, .int s5), (4, .int (nI j)), (3, .int (nI zt)), (0, .ref h0), (1, .int x1), (2, .int x2)]) (fun s6 => [.int s6]) (fun s6 FF => (∃ k : Nat, k ≤ zt ∧ s6 = nI k ∧ (s5 = 1 → k = j) ∧ (s5 = 0 → k = zt)) ∧ FF h0 = .inr (15, (.ref ta) :: (.int 0) :: (.int (nI zo_28)) :: (.int (nI ze)) :: (.ref ou) :: (.ref so) :: (.ref ad) :: (.ref na) :: (.ref va) :: (.ref lc) :: (.ref dm) :: (.int v11_29) :: (.int v12_30) :: (.ref tg) :: (.int v14_31) :: (.int v15_32) :: (.ref pe) :: (.int v17_33) :: (.int v18_34) :: (.int v19_35) :: (.int v20_36) :: (.int v21_37) :: (.int v22_38) :: (.ref ml) :: (.ref bg) :: (.ref co) :: (.ref sp) :: (.ref nb0) :: (.ref nb1) :: (.ref nb2) :: (.int (nI nf)) :: (.int (nI bd)) :: (.int (nI mm)) :: (.int v33_39) :: (.ref pl) :: (.ref se) :: (.ref ke) :: (.ref wi) :: (.ref hs) :: (.ref mo) :: (.ref po) :: (.ref nu) :: (.ref pr) :: (.ref sq) :: (.ref xa) :: (.ref sa) :: (.ref n64) :: (.ref m64) :: (.ref ex) :: (.ref wh) :: (.ref sd) :: (.ref tk) :: (.int v52_40) :: (.int v53_41) :: (.int v54_42) :: (.ref hd) :: (.ref ak) :: (.ref ho) :: (.ref ot) :: []) ∧ FF so = .inl (cs 16, 40, .inl fs) ∧ FF ad = .inl (cs 16, 40, .inl fd)) ?_ (fun jn_335 => ?_)
            ·
              rintro s6 F_336 hv_338 hO hR H locs hP hD hS ls hl
              have hl : lv_has ls 7 [(5, .int s5), (4, .int (nI j)), (3, .int (nI zt)), (0, .ref h0), (1, .int x1), (2, .int x2)] := hl
              have hv_338 : (∃ k : Nat, k ≤ zt ∧ s6 = nI k ∧ (s5 = 1 → k = j) ∧ (s5 = 0 → k = zt)) ∧ F_336 h0 = .inr (15, (.ref ta) :: (.int 0) :: (.int (nI zo_28)) :: (.int (nI ze)) :: (.ref ou) :: (.ref so) :: (.ref ad) :: (.ref na) :: (.ref va) :: (.ref lc) :: (.ref dm) :: (.int v11_29) :: (.int v12_30) :: (.ref tg) :: (.int v14_31) :: (.int v15_32) :: (.ref pe) :: (.int v17_33) :: (.int v18_34) :: (.int v19_35) :: (.int v20_36) :: (.int v21_37) :: (.int v22_38) :: (.ref ml) :: (.ref bg) :: (.ref co) :: (.ref sp) :: (.ref nb0) :: (.ref nb1) :: (.ref nb2) :: (.int (nI nf)) :: (.int (nI bd)) :: (.int (nI mm)) :: (.int v33_39) :: (.ref pl) :: (.ref se) :: (.ref ke) :: (.ref wi) :: (.ref hs) :: (.ref mo) :: (.ref po) :: (.ref nu) :: (.ref pr) :: (.ref sq) :: (.ref xa) :: (.ref sa) :: (.ref n64) :: (.ref m64) :: (.ref ex) :: (.ref wh) :: (.ref sd) :: (.ref tk) :: (.int v52_40) :: (.int v53_41) :: (.int v54_42) :: (.ref hd) :: (.ref ak) :: (.ref ho) :: (.ref ot) :: []) ∧ F_336 so = .inl (cs 16, 40, .inl fs) ∧ F_336 ad = .inl (cs 16, 40, .inl fd) := hv_338
              refine W.eq (g2 := F0 m 90 ls [.int s6]) rfl ?_
              have hF_339 : F_336 ta = .inl (cs 17, 3000, .inl gt) := (hR ta (by rw [ht_80]; simp only [List.mem_cons, List.not_mem_nil, or_false]; omega)).trans hF_337
              obtain ⟨⟨kend, hke, eke, hk1e, hk0e⟩, hb2⟩ := hv_338
              subst eke
              refine W.eq (g2 := F0 m 90 ls [.int (nI kend)]) rfl ?_
              obtain ⟨hb2, hb2so, hb2ad⟩ := hb2
              refine lv_istore (lv' := [(6, .int (nI kend)), (5, .int s5), (4, .int (nI j)), (3, .int (nI zt)), (0, .ref h0), (1, .int x1), (2, .int x2)]) hx hb dX15_entry_90 hl (by decide) rfl (fun ls hl => ?_)
              have hF_342 : F ta = .inl (cs 17, 3000, .inl gt) := (hR ta (by rw [ht_80]; simp only [List.mem_cons, List.not_mem_nil, or_false]; omega)).symm.trans hF_339
              refine W.widen (k := 0) (n := 0) (by omega) (by omega) ?_
              refine pl_cutm (σ := Unit) A (dC, dI) cs ty gm L [ρ, ρ + 3, ρ + 31, ρ + 4 + ze + 100, ρ + 50 + ze + 100] F 118 7 (fun u0 => [(6, .int (nI kend)), (5, .int s5), (4, .int (nI j)), (3, .int (nI zt)), (0, .ref h0), (1, .int x1), (2, .int x2)]) (fun u0 => []) (fun u0 FF => NM gt 0 kend = true ∧ kend ≤ 60 ∧ (s5 = 1 → j < zt) ∧ FF h0 = .inr (15, (.ref ta) :: (.int 0) :: (.int (nI zo_28)) :: (.int (nI ze)) :: (.ref ou) :: (.ref so) :: (.ref ad) :: (.ref na) :: (.ref va) :: (.ref lc) :: (.ref dm) :: (.int v11_29) :: (.int v12_30) :: (.ref tg) :: (.int v14_31) :: (.int v15_32) :: (.ref pe) :: (.int v17_33) :: (.int v18_34) :: (.int v19_35) :: (.int v20_36) :: (.int v21_37) :: (.int v22_38) :: (.ref ml) :: (.ref bg) :: (.ref co) :: (.ref sp) :: (.ref nb0) :: (.ref nb1) :: (.ref nb2) :: (.int (nI nf)) :: (.int (nI bd)) :: (.int (nI mm)) :: (.int v33_39) :: (.ref pl) :: (.ref se) :: (.ref ke) :: (.ref wi) :: (.ref hs) :: (.ref mo) :: (.ref po) :: (.ref nu) :: (.ref pr) :: (.ref sq) :: (.ref xa) :: (.ref sa) :: (.ref n64) :: (.ref m64) :: (.ref ex) :: (.ref wh) :: (.ref sd) :: (.ref tk) :: (.int v52_40) :: (.int v53_41) :: (.int v54_42) :: (.ref hd) :: (.ref ak) :: (.ref ho) :: (.ref ot) :: []) ∧ FF so = .inl (cs 16, 40, .inl fs) ∧ FF ad = .inl (cs 16, 40, .inl fd)) ?_ (fun jn_340 => ?_)
              ·
                rintro u0 F_341 hv_343 hO hR H locs hP hD hS ls hl
                have hl : lv_has ls 7 [(6, .int (nI kend)), (5, .int s5), (4, .int (nI j)), (3, .int (nI zt)), (0, .ref h0), (1, .int x1), (2, .int x2)] := hl
                have hv_343 : NM gt 0 kend = true ∧ kend ≤ 60 ∧ (s5 = 1 → j < zt) ∧ F_341 h0 = .inr (15, (.ref ta) :: (.int 0) :: (.int (nI zo_28)) :: (.int (nI ze)) :: (.ref ou) :: (.ref so) :: (.ref ad) :: (.ref na) :: (.ref va) :: (.ref lc) :: (.ref dm) :: (.int v11_29) :: (.int v12_30) :: (.ref tg) :: (.int v14_31) :: (.int v15_32) :: (.ref pe) :: (.int v17_33) :: (.int v18_34) :: (.int v19_35) :: (.int v20_36) :: (.int v21_37) :: (.int v22_38) :: (.ref ml) :: (.ref bg) :: (.ref co) :: (.ref sp) :: (.ref nb0) :: (.ref nb1) :: (.ref nb2) :: (.int (nI nf)) :: (.int (nI bd)) :: (.int (nI mm)) :: (.int v33_39) :: (.ref pl) :: (.ref se) :: (.ref ke) :: (.ref wi) :: (.ref hs) :: (.ref mo) :: (.ref po) :: (.ref nu) :: (.ref pr) :: (.ref sq) :: (.ref xa) :: (.ref sa) :: (.ref n64) :: (.ref m64) :: (.ref ex) :: (.ref wh) :: (.ref sd) :: (.ref tk) :: (.int v52_40) :: (.int v53_41) :: (.int v54_42) :: (.ref hd) :: (.ref ak) :: (.ref ho) :: (.ref ot) :: []) ∧ F_341 so = .inl (cs 16, 40, .inl fs) ∧ F_341 ad = .inl (cs 16, 40, .inl fd) := hv_343
                refine W.eq (g2 := F0 m 118 ls []) rfl ?_
                have hF_344 : F_341 ta = .inl (cs 17, 3000, .inl gt) := (hR ta (by rw [ht_80]; simp only [List.mem_cons, List.not_mem_nil, or_false]; omega)).trans hF_342
                obtain ⟨hn1, hn6, hn2, hn3⟩ := hv_343
                obtain ⟨hn3, hn3so, hn3ad⟩ := hn3
                have hF_347 : F ta = .inl (cs 17, 3000, .inl gt) := (hR ta (by rw [ht_80]; simp only [List.mem_cons, List.not_mem_nil, or_false]; omega)).symm.trans hF_344
                refine W.widen (k := 0) (n := 0) (by omega) (by omega) ?_
                refine pl_cutm (σ := Unit) A (dC, dI) cs ty gm L [ρ, ρ + 3, ρ + 31, ρ + 4 + ze + 100, ρ + 50 + ze + 100] F 156 7 (fun u0 => [(6, .int (nI kend)), (5, .int s5), (4, .int (nI j)), (3, .int (nI zt)), (0, .ref h0), (1, .int x1), (2, .int x2)]) (fun u0 => []) (fun u0 FF => (s5 = 1 → ISV x1 gt zt j ∧ zt - j - 1 ≤ 700) ∧ FF h0 = .inr (15, (.ref ta) :: (.int 0) :: (.int (nI zo_28)) :: (.int (nI ze)) :: (.ref ou) :: (.ref so) :: (.ref ad) :: (.ref na) :: (.ref va) :: (.ref lc) :: (.ref dm) :: (.int v11_29) :: (.int v12_30) :: (.ref tg) :: (.int v14_31) :: (.int v15_32) :: (.ref pe) :: (.int v17_33) :: (.int v18_34) :: (.int v19_35) :: (.int v20_36) :: (.int v21_37) :: (.int v22_38) :: (.ref ml) :: (.ref bg) :: (.ref co) :: (.ref sp) :: (.ref nb0) :: (.ref nb1) :: (.ref nb2) :: (.int (nI nf)) :: (.int (nI bd)) :: (.int (nI mm)) :: (.int v33_39) :: (.ref pl) :: (.ref se) :: (.ref ke) :: (.ref wi) :: (.ref hs) :: (.ref mo) :: (.ref po) :: (.ref nu) :: (.ref pr) :: (.ref sq) :: (.ref xa) :: (.ref sa) :: (.ref n64) :: (.ref m64) :: (.ref ex) :: (.ref wh) :: (.ref sd) :: (.ref tk) :: (.int v52_40) :: (.int v53_41) :: (.int v54_42) :: (.ref hd) :: (.ref ak) :: (.ref ho) :: (.ref ot) :: []) ∧ FF so = .inl (cs 16, 40, .inl fs) ∧ FF ad = .inl (cs 16, 40, .inl fd)) ?_ (fun jn_345 => ?_)
                ·
                  rintro u0 F_346 hv_348 hO hR H locs hP hD hS ls hl
                  have hl : lv_has ls 7 [(6, .int (nI kend)), (5, .int s5), (4, .int (nI j)), (3, .int (nI zt)), (0, .ref h0), (1, .int x1), (2, .int x2)] := hl
                  have hv_348 : (s5 = 1 → ISV x1 gt zt j ∧ zt - j - 1 ≤ 700) ∧ F_346 h0 = .inr (15, (.ref ta) :: (.int 0) :: (.int (nI zo_28)) :: (.int (nI ze)) :: (.ref ou) :: (.ref so) :: (.ref ad) :: (.ref na) :: (.ref va) :: (.ref lc) :: (.ref dm) :: (.int v11_29) :: (.int v12_30) :: (.ref tg) :: (.int v14_31) :: (.int v15_32) :: (.ref pe) :: (.int v17_33) :: (.int v18_34) :: (.int v19_35) :: (.int v20_36) :: (.int v21_37) :: (.int v22_38) :: (.ref ml) :: (.ref bg) :: (.ref co) :: (.ref sp) :: (.ref nb0) :: (.ref nb1) :: (.ref nb2) :: (.int (nI nf)) :: (.int (nI bd)) :: (.int (nI mm)) :: (.int v33_39) :: (.ref pl) :: (.ref se) :: (.ref ke) :: (.ref wi) :: (.ref hs) :: (.ref mo) :: (.ref po) :: (.ref nu) :: (.ref pr) :: (.ref sq) :: (.ref xa) :: (.ref sa) :: (.ref n64) :: (.ref m64) :: (.ref ex) :: (.ref wh) :: (.ref sd) :: (.ref tk) :: (.int v52_40) :: (.int v53_41) :: (.int v54_42) :: (.ref hd) :: (.ref ak) :: (.ref ho) :: (.ref ot) :: []) ∧ F_346 so = .inl (cs 16, 40, .inl fs) ∧ F_346 ad = .inl (cs 16, 40, .inl fd) := hv_348
                  refine W.eq (g2 := F0 m 156 ls []) rfl ?_
                  have hF_349 : F_346 ta = .inl (cs 17, 3000, .inl gt) := (hR ta (by rw [ht_80]; simp only [List.mem_cons, List.not_mem_nil, or_false]; omega)).trans hF_347
                  obtain ⟨ho1, ho2⟩ := hv_348
                  obtain ⟨ho2, ho2so, ho2ad⟩ := ho2
                  refine lv_aload_n hx hb dX15_entry_156 rfl (lv_at hl 4 rfl) ?_
                  refine pg_get (ci := 15) (v := .ref so) (C := RX15) (T := TX15) (N := 59) hx hb hts it_15 hown hK hP hL_h0 ho2 rfl 5 (by decide) (hts _ kt_708) (fun _ h9 => h9) rfl dX15_entry_157 ?_
                  refine lv_aload_n hx hb dX15_entry_160 rfl (lv_at hl 4 rfl) ?_
                  refine pg_get (ci := 15) (v := .int (nI ze)) (C := RX15) (T := TX15) (N := 59) hx hb hts it_15 hown hK hP hL_h0 ho2 rfl 3 (by decide) (hts _ kt_714) (fun _ h9 => h9) rfl dX15_entry_161 ?_
                  refine lv_iload_n hx hb dX15_entry_164 rfl (lv_at hl 5 rfl) ?_
                  refine pg_iast hx hb hK hP hD hS hi_82 0 ho2so rfl (vp_in_nI (by omega) (by omega)) dX15_entry_165 (fun H locs hP hD hS => ?_)
                  obtain ⟨F_350, he_351, hP, hD, hO, hR⟩ : ∃ G, G = va_up F_346 so (.inl (cs 16, 40, .inl (upd fs ((nI ze)).toNatClampNeg (x1)))) ∧ va_P (dC, dI) vwCl (va_pl L G) H ∧ va_D A (va_pl L G) ∧ OKm cs ty gm L G ∧ FR ty [ρ, ρ + 3, ρ + 31, ρ + 4 + ze + 100, ρ + 50 + ze + 100] F G := ⟨_, rfl, hP, hD, hO.up (shm.ints ht_83 ⟨_, rfl⟩), hR.up ht_83 (by simp)⟩
                  have hF_352 : F_350 so = .inl (cs 16, 40, .inl (upd fs ((nI ze)).toNatClampNeg (x1))) := by rw [he_351]; exact up_self
                  have hF_353 : F_350 ta = .inl (cs 17, 3000, .inl gt) := by rw [he_351, up_ne (ne_ty ht_80 ht_83 (by simp))]; exact hF_349
                  have hF_354 : F_350 h0 = .inr (15, (.ref ta) :: (.int 0) :: (.int (nI zo_28)) :: (.int (nI ze)) :: (.ref ou) :: (.ref so) :: (.ref ad) :: (.ref na) :: (.ref va) :: (.ref lc) :: (.ref dm) :: (.int v11_29) :: (.int v12_30) :: (.ref tg) :: (.int v14_31) :: (.int v15_32) :: (.ref pe) :: (.int v17_33) :: (.int v18_34) :: (.int v19_35) :: (.int v20_36) :: (.int v21_37) :: (.int v22_38) :: (.ref ml) :: (.ref bg) :: (.ref co) :: (.ref sp) :: (.ref nb0) :: (.ref nb1) :: (.ref nb2) :: (.int (nI nf)) :: (.int (nI bd)) :: (.int (nI mm)) :: (.int v33_39) :: (.ref pl) :: (.ref se) :: (.ref ke) :: (.ref wi) :: (.ref hs) :: (.ref mo) :: (.ref po) :: (.ref nu) :: (.ref pr) :: (.ref sq) :: (.ref xa) :: (.ref sa) :: (.ref n64) :: (.ref m64) :: (.ref ex) :: (.ref wh) :: (.ref sd) :: (.ref tk) :: (.int v52_40) :: (.int v53_41) :: (.int v54_42) :: (.ref hd) :: (.ref ak) :: (.ref ho) :: (.ref ot) :: []) := by rw [he_351, up_ne (ne_ty hT_h0 ht_83 (by simp))]; exact ho2
                  have hF_355 : F_350 ad = .inl (cs 16, 40, .inl fd) := by rw [he_351, up_ne (ne_ty2 ht_86 ht_83 (by simp))]; exact ho2ad
                  have hF_356 : F_350 so = .inl (cs 16, 40, .inl (upd fs ze x1)) := by have h9 := hF_352; rwa [nI_clamp (by omega)] at h9
                  refine lv_aload_n hx hb dX15_entry_166 rfl (lv_at hl 4 rfl) ?_
                  refine pg_get (ci := 15) (v := .ref ad) (C := RX15) (T := TX15) (N := 59) hx hb hts it_15 hown hK hP hL_h0 hF_354 rfl 6 (by decide) (hts _ kt_730) (fun _ h9 => h9) rfl dX15_entry_167 ?_
                  refine lv_aload_n hx hb dX15_entry_170 rfl (lv_at hl 4 rfl) ?_
                  refine pg_get (ci := 15) (v := .int (nI ze)) (C := RX15) (T := TX15) (N := 59) hx hb hts it_15 hown hK hP hL_h0 hF_354 rfl 3 (by decide) (hts _ kt_714) (fun _ h9 => h9) rfl dX15_entry_171 ?_
                  refine lv_iload_n hx hb dX15_entry_174 rfl (lv_at hl 6 rfl) ?_
                  refine pg_iast hx hb hK hP hD hS hi_85 0 hF_355 rfl (vp_in_nI (by omega) (by omega)) dX15_entry_175 (fun H locs hP hD hS => ?_)
                  obtain ⟨F_357, he_358, hP, hD, hO, hR⟩ : ∃ G, G = va_up F_350 ad (.inl (cs 16, 40, .inl (upd fd ((nI ze)).toNatClampNeg (x2)))) ∧ va_P (dC, dI) vwCl (va_pl L G) H ∧ va_D A (va_pl L G) ∧ OKm cs ty gm L G ∧ FR ty [ρ, ρ + 3, ρ + 31, ρ + 4 + ze + 100, ρ + 50 + ze + 100] F G := ⟨_, rfl, hP, hD, hO.up (shm.ints ht_86 ⟨_, rfl⟩), hR.up ht_86 (by simp)⟩
                  have hF_359 : F_357 ad = .inl (cs 16, 40, .inl (upd fd ((nI ze)).toNatClampNeg (x2))) := by rw [he_358]; exact up_self
                  have hF_360 : F_357 so = .inl (cs 16, 40, .inl (upd fs ze x1)) := by rw [he_358, up_ne (ne_ty2 ht_83 ht_86 (by simp))]; exact hF_356
                  have hF_361 : F_357 ta = .inl (cs 17, 3000, .inl gt) := by rw [he_358, up_ne (ne_ty ht_80 ht_86 (by simp))]; exact hF_353
                  have hF_362 : F_357 h0 = .inr (15, (.ref ta) :: (.int 0) :: (.int (nI zo_28)) :: (.int (nI ze)) :: (.ref ou) :: (.ref so) :: (.ref ad) :: (.ref na) :: (.ref va) :: (.ref lc) :: (.ref dm) :: (.int v11_29) :: (.int v12_30) :: (.ref tg) :: (.int v14_31) :: (.int v15_32) :: (.ref pe) :: (.int v17_33) :: (.int v18_34) :: (.int v19_35) :: (.int v20_36) :: (.int v21_37) :: (.int v22_38) :: (.ref ml) :: (.ref bg) :: (.ref co) :: (.ref sp) :: (.ref nb0) :: (.ref nb1) :: (.ref nb2) :: (.int (nI nf)) :: (.int (nI bd)) :: (.int (nI mm)) :: (.int v33_39) :: (.ref pl) :: (.ref se) :: (.ref ke) :: (.ref wi) :: (.ref hs) :: (.ref mo) :: (.ref po) :: (.ref nu) :: (.ref pr) :: (.ref sq) :: (.ref xa) :: (.ref sa) :: (.ref n64) :: (.ref m64) :: (.ref ex) :: (.ref wh) :: (.ref sd) :: (.ref tk) :: (.int v52_40) :: (.int v53_41) :: (.int v54_42) :: (.ref hd) :: (.ref ak) :: (.ref ho) :: (.ref ot) :: []) := by rw [he_358, up_ne (ne_ty hT_h0 ht_86 (by simp))]; exact hF_354
                  have hF_363 : F_357 ad = .inl (cs 16, 40, .inl (upd fd ze x2)) := by have h9 := hF_359; rwa [nI_clamp (by omega)] at h9
                  refine lv_aload_n hx hb dX15_entry_176 rfl (lv_at hl 4 rfl) ?_
                  refine pg_get (ci := 15) (v := .ref na) (C := RX15) (T := TX15) (N := 59) hx hb hts it_15 hown hK hP hL_h0 hF_362 rfl 7 (by decide) (hts _ kt_709) (fun _ h9 => h9) rfl dX15_entry_177 ?_
                  refine lv_aload_n hx hb dX15_entry_180 rfl (lv_at hl 4 rfl) ?_
                  refine pg_get (ci := 15) (v := .int (nI ze)) (C := RX15) (T := TX15) (N := 59) hx hb hts it_15 hown hK hP hL_h0 hF_362 rfl 3 (by decide) (hts _ kt_714) (fun _ h9 => h9) rfl dX15_entry_181 ?_
                  have hzna := FR.unre hT00 hty hR na (by rw [hTn0]; simp only [List.mem_cons, List.not_mem_nil, or_false]; omega)
                  obtain ⟨hi_364, ht_365⟩ := hW.f_na hL_h0 hT_h0
                  obtain ⟨f_366, hF_367, hq_368⟩ := hO.rtxj hi_364 ht_365
                  obtain rfl : fn = f_366 := by have e9 := (hzna.trans hd3).symm.trans hF_367; simpa using e9
                  obtain ⟨b_369, r_370, hbf_371, hi_372, ht_373⟩ := hq_368 ze (by omega)
                  refine pg_aald (r := b_369) hx hb hK hP hi_364 7 hF_367 rfl (vp_in_nI (by omega) (by omega)) (show fn ((nI ze) : Int32).toNatClampNeg = _ from by rw [show ((nI ze) : Int32) = nI ze from rfl, nI_clamp (by omega)]; exact hbf_371) dX15_entry_184 ?_
                  refine lv_aload_n hx hb dX15_entry_185 rfl (lv_at hl 4 rfl) ?_
                  refine pg_get (ci := 15) (v := .ref ta) (C := RX15) (T := TX15) (N := 59) hx hb hts it_15 hown hK hP hL_h0 hF_362 rfl 0 (by decide) (hts _ kt_1065) (fun _ h9 => h9) rfl dX15_entry_186 ?_
                  refine lv_iconst (v := 0) hx hb dX15_entry_189 (by decide) ?_
                  refine lv_iload hx hb dX15_entry_190 (lv_at hl 0 rfl) ?_
                  refine W.eq (g2 := F0 m 192 ls [.int (nI kend), .int (nI 0), .ref ta, .ref b_369]) rfl ?_
                  obtain ⟨hi_374, ht_375, hq_376⟩ := hW.txt hi_372 ht_373
                  obtain ⟨hq_377, hq_378⟩ := hW.octs hi_79 ht_80
                  have hFc := pg_free hD hS hA
                  obtain ⟨z_379, hF_380, hq_381⟩ := hO.txt hi_372 ht_373
                  refine va_callv (va_runV (As := [.ref ta, .int (nI 0), .int (nI kend)]) (rest := []) ⟨hx, hb, hml, hown, hts⟩ (s_X14_set_e l dC dI cs ty gm L H.size F_357 b_369 (ρ + 4 + ze + 100) r_370 60 ta (ρ + 1) 3000 0 kend gt hW hi_372 ht_373 hi_79 ht_80 hF_361 (Nat.zero_le _) (by omega) (by omega)) ⟨callB_of 3 hts (gi kt_969) rfl rfl rfl (hts _ kt_666) (hts _ kt_970) (by decide +kernel) ⟨Nat.le_of_ble_eq_true rfl, Nat.le_of_ble_eq_true rfl⟩, (hts _ kt_971), (hts _ kt_972)⟩ ⟨fun a U g mk q => ⟨q.1, PTm.calling q.2⟩, pg_recv hK hP hi_372 hF_380 (q := (RX14, TX14, 2)) rfl, fun U hU hWm => ⟨rfl, PTm.mk hU hWm hP hK hD hE hO⟩⟩ rfl rfl hl.1 rfl (lv_room (Nat.le_of_ble_eq_true rfl)) dX15_entry_192 ⟨by show _ + 0 ≤ 0; omega, by show _ + 0 ≤ 0; omega⟩) hS (fun q _ h => hFc q h) hFc (fun u t H1 locs ht hvm hw hB hz1 hk1 hS => ?_)
                  obtain ⟨F_383, fc_384, hB1, hq_385, hq_386, hq_387⟩ := hB
                  obtain ⟨hP, hD, hO, hR⟩ := QTm.back hB1 ht hFc hR (fun q h => by simp only [List.mem_cons, List.not_mem_nil, or_false] at h ⊢; omega)
                  have hF_388 : F_383 ad = .inl (cs 16, 40, .inl (upd fd ze x2)) := (hB1.2.2.2 ad (by rw [ht_86]; simp only [List.mem_cons, List.not_mem_nil, or_false]; omega)).trans hF_363
                  have hF_389 : F_383 so = .inl (cs 16, 40, .inl (upd fs ze x1)) := (hB1.2.2.2 so (by rw [ht_83]; simp only [List.mem_cons, List.not_mem_nil, or_false]; omega)).trans hF_360
                  have hF_390 : F_383 ta = .inl (cs 17, 3000, .inl gt) := (hB1.2.2.2 ta (by rw [ht_80]; simp only [List.mem_cons, List.not_mem_nil, or_false]; omega)).trans hF_361
                  have hF_391 : F_383 h0 = .inr (15, (.ref ta) :: (.int 0) :: (.int (nI zo_28)) :: (.int (nI ze)) :: (.ref ou) :: (.ref so) :: (.ref ad) :: (.ref na) :: (.ref va) :: (.ref lc) :: (.ref dm) :: (.int v11_29) :: (.int v12_30) :: (.ref tg) :: (.int v14_31) :: (.int v15_32) :: (.ref pe) :: (.int v17_33) :: (.int v18_34) :: (.int v19_35) :: (.int v20_36) :: (.int v21_37) :: (.int v22_38) :: (.ref ml) :: (.ref bg) :: (.ref co) :: (.ref sp) :: (.ref nb0) :: (.ref nb1) :: (.ref nb2) :: (.int (nI nf)) :: (.int (nI bd)) :: (.int (nI mm)) :: (.int v33_39) :: (.ref pl) :: (.ref se) :: (.ref ke) :: (.ref wi) :: (.ref hs) :: (.ref mo) :: (.ref po) :: (.ref nu) :: (.ref pr) :: (.ref sq) :: (.ref xa) :: (.ref sa) :: (.ref n64) :: (.ref m64) :: (.ref ex) :: (.ref wh) :: (.ref sd) :: (.ref tk) :: (.int v52_40) :: (.int v53_41) :: (.int v54_42) :: (.ref hd) :: (.ref ak) :: (.ref ho) :: (.ref ot) :: []) := (hB1.2.2.2 h0 (by rw [hT_h0]; simp only [List.mem_cons, List.not_mem_nil, or_false]; omega)).trans hF_362
                  have hF_392 : F_383 na = .inl (cs 23, 40, .inr (.inr (.inr (.inr fn)))) := (hB1.2.2.2 na (by rw [ht_365]; simp only [List.mem_cons, List.not_mem_nil, or_false]; omega)).trans hF_367
                  generalize H1 = H at hP hS ⊢
                  refine lv_aload_n hx hb dX15_entry_195 rfl (lv_at hl 4 rfl) ?_
                  refine pg_get (ci := 15) (v := .ref va) (C := RX15) (T := TX15) (N := 59) hx hb hts it_15 hown hK hP hL_h0 hF_391 rfl 8 (by decide) (hts _ kt_722) (fun _ h9 => h9) rfl dX15_entry_196 ?_
                  refine lv_aload_n hx hb dX15_entry_199 rfl (lv_at hl 4 rfl) ?_
                  refine pg_get (ci := 15) (v := .int (nI ze)) (C := RX15) (T := TX15) (N := 59) hx hb hts it_15 hown hK hP hL_h0 hF_391 rfl 3 (by decide) (hts _ kt_714) (fun _ h9 => h9) rfl dX15_entry_200 ?_
                  have hzva := FR.unre hT00 hty hR va (by rw [hTv0]; simp only [List.mem_cons, List.not_mem_nil, or_false]; omega)
                  obtain ⟨hi_393, ht_394⟩ := hW.f_va hL_h0 hT_h0
                  obtain ⟨f_395, hF_396, hq_397⟩ := hO.rtxj hi_393 ht_394
                  obtain rfl : fv = f_395 := by have e9 := (hzva.trans hd4).symm.trans hF_396; simpa using e9
                  obtain ⟨b_398, r_399, hbf_400, hi_401, ht_402⟩ := hq_397 ze (by omega)
                  refine pg_aald (r := b_398) hx hb hK hP hi_393 7 hF_396 rfl (vp_in_nI (by omega) (by omega)) (show fv ((nI ze) : Int32).toNatClampNeg = _ from by rw [show ((nI ze) : Int32) = nI ze from rfl, nI_clamp (by omega)]; exact hbf_400) dX15_entry_203 ?_
                  refine lv_iconst (v := 0) hx hb dX15_entry_204 (by decide) ?_
                  obtain ⟨hi_403, ht_404, hq_405⟩ := hW.txt hi_401 ht_402
                  obtain ⟨z_406, hF_407, hq_408⟩ := hO.txt hi_401 ht_402
                  refine pg_put (ci := 14) (v := .int 0) (ty := .int) (C := RX14) (T := TX14) (N := 2) hx hb hts it_14 tyX14 tyX14_ok nmX14 hown hK hP hD hS hi_401 hF_407 rfl 1 (by decide) (hts _ kt_699) (fun _ h9 => h9) rfl (by decide +kernel) (rfl) (rfl) (Nat.le_of_ble_eq_true rfl) dX15_entry_205 (fun H locs hP hD hS => ?_)
                  obtain ⟨F_409, he_410, hP, hD, hO, hR⟩ : ∃ G, G = va_up F_383 b_398 (.inr (14, [.ref r_399, .int 0])) ∧ va_P (dC, dI) vwCl (va_pl L G) H ∧ va_D A (va_pl L G) ∧ OKm cs ty gm L G ∧ FR ty [ρ, ρ + 3, ρ + 31, ρ + 4 + ze + 100, ρ + 50 + ze + 100] F G := ⟨_, rfl, hP, hD, hO.up (shm.txt ht_402 ⟨0, rfl, (by first | omega | assumption | exact Or.inl rfl | exact Or.inr rfl)⟩), hR.up ht_402 (by simp)⟩
                  have hF_411 : F_409 b_398 = .inr (14, [.ref r_399, .int 0]) := by rw [he_410]; exact up_self
                  have hF_412 : F_409 ad = .inl (cs 16, 40, .inl (upd fd ze x2)) := by rw [he_410, up_ne (ne_ty ht_86 ht_402 (by simp))]; exact hF_388
                  have hF_413 : F_409 so = .inl (cs 16, 40, .inl (upd fs ze x1)) := by rw [he_410, up_ne (ne_ty ht_83 ht_402 (by simp))]; exact hF_389
                  have hF_414 : F_409 ta = .inl (cs 17, 3000, .inl gt) := by rw [he_410, up_ne (ne_ty ht_80 ht_402 (by simp))]; exact hF_390
                  have hF_415 : F_409 h0 = .inr (15, (.ref ta) :: (.int 0) :: (.int (nI zo_28)) :: (.int (nI ze)) :: (.ref ou) :: (.ref so) :: (.ref ad) :: (.ref na) :: (.ref va) :: (.ref lc) :: (.ref dm) :: (.int v11_29) :: (.int v12_30) :: (.ref tg) :: (.int v14_31) :: (.int v15_32) :: (.ref pe) :: (.int v17_33) :: (.int v18_34) :: (.int v19_35) :: (.int v20_36) :: (.int v21_37) :: (.int v22_38) :: (.ref ml) :: (.ref bg) :: (.ref co) :: (.ref sp) :: (.ref nb0) :: (.ref nb1) :: (.ref nb2) :: (.int (nI nf)) :: (.int (nI bd)) :: (.int (nI mm)) :: (.int v33_39) :: (.ref pl) :: (.ref se) :: (.ref ke) :: (.ref wi) :: (.ref hs) :: (.ref mo) :: (.ref po) :: (.ref nu) :: (.ref pr) :: (.ref sq) :: (.ref xa) :: (.ref sa) :: (.ref n64) :: (.ref m64) :: (.ref ex) :: (.ref wh) :: (.ref sd) :: (.ref tk) :: (.int v52_40) :: (.int v53_41) :: (.int v54_42) :: (.ref hd) :: (.ref ak) :: (.ref ho) :: (.ref ot) :: []) := by rw [he_410, up_ne (ne_ty hT_h0 ht_402 (by simp))]; exact hF_391
                  have hF_416 : F_409 na = .inl (cs 23, 40, .inr (.inr (.inr (.inr fn)))) := by rw [he_410, up_ne (ne_ty ht_365 ht_402 (by simp))]; exact hF_392
                  have hF_417 : F_409 b_369 = .inr (14, [.ref r_370, .int (nI (kend - 0))]) := by rw [he_410, up_ne (ne_ty2 ht_373 ht_402 (by simp))]; exact hq_385
                  have hF_418 : F_409 r_370 = .inl (cs 17, 60, .inl fc_384) := by rw [he_410, up_ne (ne_ty ht_375 ht_402 (by simp))]; exact hq_386
                  have hF_419 : F_409 va = .inl (cs 23, 40, .inr (.inr (.inr (.inr fv)))) := by rw [he_410, up_ne (ne_ty ht_394 ht_402 (by simp))]; exact hF_396
                  refine lv_iload hx hb dX15_entry_208 (lv_at hl 1 rfl) ?_
                  refine lv_if_eq (tgt := 234) hx hb dX15_entry_210 (by decide) (fun c_420 => ?_) (fun c_420 => ?_)
                  ·
                    refine lv_aload_n hx hb dX15_entry_234 rfl (lv_at hl 4 rfl) ?_
                    refine lv_dup hx hb dX15_entry_235 rfl ?_
                    refine pg_get (ci := 15) (v := .int (nI ze)) (C := RX15) (T := TX15) (N := 59) hx hb hts it_15 hown hK hP hL_h0 hF_415 rfl 3 (by decide) (hts _ kt_714) (fun _ h9 => h9) rfl dX15_entry_236 ?_
                    refine lv_iconst (v := 1) hx hb dX15_entry_239 (by decide) ?_
                    refine lv_iadd hx hb dX15_entry_240 ?_
                    refine lv_topi (fun x_421 ex_421 => ?_)
                    obtain rfl : x_421 = (nI (ze + 1)) := ex_421.trans (nI_add ze 1)
                    have htyU := hty
                    have hTU := hT_h0
                    obtain ⟨hq_422, hq_423⟩ := hW.octs hi_374 ht_375
                    obtain ⟨hq_424, hq_425⟩ := hW.octs hi_403 ht_404
                    obtain ⟨f_426, hF_427, hq_428⟩ := hO.octs hi_403 ht_404
                    refine pg_put (ci := 15) (v := .int (nI (ze + 1))) (ty := .int) (C := RX15) (T := TX15) (N := 59) hx hb hts it_15 tyX15 tyX15_ok nmX15 hown hK hP hD hS hL_h0 hF_415 rfl 3 (by decide) (hts _ kt_714) (fun _ h9 => h9) rfl (by decide +kernel) (rfl) (rfl) (Nat.le_of_ble_eq_true rfl) dX15_entry_241 (fun H locs hP hD hS => ?_)
                    obtain ⟨F_429, he_430, hP, hD, hR⟩ : ∃ G, G = va_up F_409 h0 (.inr (15, (.ref ta) :: (.int 0) :: (.int (nI zo_28)) :: (.int (nI (ze + 1))) :: (.ref ou) :: (.ref so) :: (.ref ad) :: (.ref na) :: (.ref va) :: (.ref lc) :: (.ref dm) :: (.int v11_29) :: (.int v12_30) :: (.ref tg) :: (.int v14_31) :: (.int v15_32) :: (.ref pe) :: (.int v17_33) :: (.int v18_34) :: (.int v19_35) :: (.int v20_36) :: (.int v21_37) :: (.int v22_38) :: (.ref ml) :: (.ref bg) :: (.ref co) :: (.ref sp) :: (.ref nb0) :: (.ref nb1) :: (.ref nb2) :: (.int (nI nf)) :: (.int (nI bd)) :: (.int (nI mm)) :: (.int v33_39) :: (.ref pl) :: (.ref se) :: (.ref ke) :: (.ref wi) :: (.ref hs) :: (.ref mo) :: (.ref po) :: (.ref nu) :: (.ref pr) :: (.ref sq) :: (.ref xa) :: (.ref sa) :: (.ref n64) :: (.ref m64) :: (.ref ex) :: (.ref wh) :: (.ref sd) :: (.ref tk) :: (.int v52_40) :: (.int v53_41) :: (.int v54_42) :: (.ref hd) :: (.ref ak) :: (.ref ho) :: (.ref ot) :: [])) ∧ va_P (dC, dI) vwCl (va_pl L G) H ∧ va_D A (va_pl L G) ∧ FR ty [ρ, ρ + 3, ρ + 31, ρ + 4 + ze + 100, ρ + 50 + ze + 100] F G := ⟨_, rfl, hP, hD, hR.up hT_h0 (by simp)⟩
                    have hF_431 : F_429 ta = .inl (cs 17, 3000, .inl gt) := by rw [he_430, up_ne (ne_ty ht_80 hT_h0 (by simp))]; exact hF_414
                    have hF_432 : F_429 so = .inl (cs 16, 40, .inl (upd fs ze x1)) := by rw [he_430, up_ne (ne_ty ht_83 hT_h0 (by simp))]; exact hF_413
                    have hF_433 : F_429 ad = .inl (cs 16, 40, .inl (upd fd ze x2)) := by rw [he_430, up_ne (ne_ty ht_86 hT_h0 (by simp))]; exact hF_412
                    have hF_434 : F_429 b_369 = .inr (14, [.ref r_370, .int (nI (kend - 0))]) := by rw [he_430, up_ne (ne_ty ht_373 hT_h0 (by simp))]; exact hF_417
                    have hF_435 : F_429 r_370 = .inl (cs 17, 60, .inl fc_384) := by rw [he_430, up_ne (ne_ty ht_375 hT_h0 (by simp))]; exact hF_418
                    have hF_436 : F_429 b_398 = .inr (14, [.ref r_399, .int 0]) := by rw [he_430, up_ne (ne_ty ht_402 hT_h0 (by simp))]; exact hF_411
                    have hF_437 : F_429 r_399 = .inl (cs 17, 700, .inl f_426) := by rw [he_430, up_ne (ne_ty ht_404 hT_h0 (by simp))]; exact hF_427
                    obtain ⟨ty, hty, hT_h0, hW, hO, hR⟩ : ∃ t9 : TyM, t9 = rtf ty h0 (15, ρ, [ta, ou, so, ad, na, va, lc, dm, tg, pe, ml, bg, co, sp, nb0, nb1, nb2, pl, se, ke, wi, hs, mo, po, nu, pr, sq, xa, sa, n64, m64, ex, wh, sd, tk, hd, ak, ho, ot, sx, s0, s1, s2, nf, bd, mm, (ze + 1), 0]) ∧ t9 h0 = (15, ρ, [ta, ou, so, ad, na, va, lc, dm, tg, pe, ml, bg, co, sp, nb0, nb1, nb2, pl, se, ke, wi, hs, mo, po, nu, pr, sq, xa, sa, n64, m64, ex, wh, sd, tk, hd, ak, ho, ot, sx, s0, s1, s2, nf, bd, mm, (ze + 1), 0]) ∧ WTm t9 gm L ∧ OKm cs t9 gm L F_429 ∧ FR t9 [ρ, ρ + 3, ρ + 31, ρ + 4 + ze + 100, ρ + 50 + ze + 100] F F_429 := ⟨_, rfl, rtf_self, hW.ze hL_h0 hT_h0, (by rw [he_430]; exact OKm.retype hO hT_h0 (shm.mod rtf_self ⟨zo_28, v11_29, v12_30, v14_31, v15_32, v17_33, v18_34, v19_35, v20_36, v21_37, v22_38, v33_39, v52_40, v53_41, v54_42, rfl, (by first | omega | assumption | exact Or.inl rfl | exact Or.inr rfl), (by first | omega | assumption | exact Or.inl rfl | exact Or.inr rfl), (by first | omega | assumption | exact Or.inl rfl | exact Or.inr rfl), (by first | omega | assumption | exact Or.inl rfl | exact Or.inr rfl)⟩)), FR.retype hT_h0 hR⟩
                    have hF_438 : F_429 h0 = .inr (15, (.ref ta) :: (.int 0) :: (.int (nI zo_28)) :: (.int (nI (ze + 1))) :: (.ref ou) :: (.ref so) :: (.ref ad) :: (.ref na) :: (.ref va) :: (.ref lc) :: (.ref dm) :: (.int v11_29) :: (.int v12_30) :: (.ref tg) :: (.int v14_31) :: (.int v15_32) :: (.ref pe) :: (.int v17_33) :: (.int v18_34) :: (.int v19_35) :: (.int v20_36) :: (.int v21_37) :: (.int v22_38) :: (.ref ml) :: (.ref bg) :: (.ref co) :: (.ref sp) :: (.ref nb0) :: (.ref nb1) :: (.ref nb2) :: (.int (nI nf)) :: (.int (nI bd)) :: (.int (nI mm)) :: (.int v33_39) :: (.ref pl) :: (.ref se) :: (.ref ke) :: (.ref wi) :: (.ref hs) :: (.ref mo) :: (.ref po) :: (.ref nu) :: (.ref pr) :: (.ref sq) :: (.ref xa) :: (.ref sa) :: (.ref n64) :: (.ref m64) :: (.ref ex) :: (.ref wh) :: (.ref sd) :: (.ref tk) :: (.int v52_40) :: (.int v53_41) :: (.int v54_42) :: (.ref hd) :: (.ref ak) :: (.ref ho) :: (.ref ot) :: []) := by rw [he_430]; exact up_self
                    obtain ⟨hq_461, hq_462, hq_463, hq_464, hq_465, hgO, hgA, hgB⟩ := hW.sc hL_h0 hT_h0
                    refine lv_aload_n hx hb dX15_entry_244 rfl (lv_at hl 4 rfl) ?_
                    refine pg_get (ci := 15) (v := .int (nI (ze + 1))) (C := RX15) (T := TX15) (N := 59) hx hb hts it_15 hown hK hP hL_h0 hF_438 rfl 3 (by decide) (hts _ kt_714) (fun _ h9 => h9) rfl dX15_entry_245 ?_
                    refine W.widen (k := 0) (n := 0) (by omega) (by omega) ?_
                    have hR0 := FR.unre hT00 htyU (FR.unre hTU hty hR)
                    have hQna := hR0 na (by rw [hTn0]; simp only [List.mem_cons, List.not_mem_nil, or_false]; omega)
                    have hQva := hR0 va (by rw [hTv0]; simp only [List.mem_cons, List.not_mem_nil, or_false]; omega)
                    exact W.iret (v := (nI (ze + 1))) hx hb hr (fun t ht hWm => ⟨⟨(nI (ze + 1)), (ze + 1), rfl, (Or.inr (Or.inr ⟨hc40, hs5.elim (fun h => val_y1 hx0 hx4 (hs5n h) (by rw [← hk0e h]; exact hn1)) (fun h => val_y2 hx0 hx4 (hs5x h) (hfst h) (by rw [← hk1e h]; exact hn1) (ho1 h).1), rfl, rfl⟩)), ⟨F_429, ty, (by rw [hty, htyU, rtf_rtf2]), QTm.mk ht hP hD hO hR, hW, ⟨(x1, x2, kend - 0, fc_384, 0, f_426), DIRM.add hDM hO0 hW0 hLn0 hTn0 hLv0 hTv0 (by omega) hR0 hQna hQva (fun k hk => ⟨by simp only [List.mem_cons, List.not_mem_nil, or_false]; omega, by simp only [List.mem_cons, List.not_mem_nil, or_false]; omega⟩) hd1 hd2 hd3 hd4 hF_432 hF_433 ⟨b_369, r_370, hbf_371, hF_434, hF_435, by show kend - 0 ≤ 60; omega⟩ ⟨b_398, r_399, hbf_400, hF_436, hF_437, by show 0 ≤ 700; omega⟩, fun _ => enx4 (hk0e c_420) (hs5n c_420) hn1 hq_387⟩⟩⟩, hS.F ht⟩) hS.2.2 dX15_entry_248
                  ·
                    have h51 := hs5.resolve_left c_420
                    refine lv_aload_n hx hb dX15_entry_213 rfl (lv_at hl 4 rfl) ?_
                    refine pg_get (ci := 15) (v := .ref va) (C := RX15) (T := TX15) (N := 59) hx hb hts it_15 hown hK hP hL_h0 hF_415 rfl 8 (by decide) (hts _ kt_722) (fun _ h9 => h9) rfl dX15_entry_214 ?_
                    refine lv_aload_n hx hb dX15_entry_217 rfl (lv_at hl 4 rfl) ?_
                    refine pg_get (ci := 15) (v := .int (nI ze)) (C := RX15) (T := TX15) (N := 59) hx hb hts it_15 hown hK hP hL_h0 hF_415 rfl 3 (by decide) (hts _ kt_714) (fun _ h9 => h9) rfl dX15_entry_218 ?_
                    refine pg_aald (r := b_398) hx hb hK hP hi_393 7 hF_419 rfl (vp_in_nI (by omega) (by omega)) (show fv ((nI ze) : Int32).toNatClampNeg = _ from by rw [show ((nI ze) : Int32) = nI ze from rfl, nI_clamp (by omega)]; exact hbf_400) dX15_entry_221 ?_
                    refine lv_aload_n hx hb dX15_entry_222 rfl (lv_at hl 4 rfl) ?_
                    refine pg_get (ci := 15) (v := .ref ta) (C := RX15) (T := TX15) (N := 59) hx hb hts it_15 hown hK hP hL_h0 hF_415 rfl 0 (by decide) (hts _ kt_1065) (fun _ h9 => h9) rfl dX15_entry_223 ?_
                    refine lv_iload hx hb dX15_entry_226 (lv_at hl 2 rfl) ?_
                    refine lv_iconst (v := 1) hx hb dX15_entry_228 (by decide) ?_
                    refine lv_iadd hx hb dX15_entry_229 ?_
                    refine lv_topi (fun x_466 ex_466 => ?_)
                    obtain rfl : x_466 = (nI (j + 1)) := ex_466.trans (nI_add j 1)
                    refine lv_iload_n hx hb dX15_entry_230 rfl (lv_at hl 3 rfl) ?_
                    have hFc := pg_free hD hS hA
                    refine va_callv (va_runV (As := [.ref ta, .int (nI (j + 1)), .int (nI zt)]) (rest := []) ⟨hx, hb, hml, hown, hts⟩ (s_X14_set_e l dC dI cs ty gm L H.size F_409 b_398 (ρ + 50 + ze + 100) r_399 700 ta (ρ + 1) 3000 (j + 1) zt gt hW hi_401 ht_402 hi_79 ht_80 hF_414 (by have h9 := hn2 h51; omega) (by omega) (by have h9 := (ho1 h51).2; omega)) ⟨callB_of 3 hts (gi kt_969) rfl rfl rfl (hts _ kt_666) (hts _ kt_970) (by decide +kernel) ⟨Nat.le_of_ble_eq_true rfl, Nat.le_of_ble_eq_true rfl⟩, (hts _ kt_971), (hts _ kt_972)⟩ ⟨fun a U g mk q => ⟨q.1, PTm.calling q.2⟩, pg_recv hK hP hi_401 hF_411 (q := (RX14, TX14, 2)) rfl, fun U hU hWm => ⟨rfl, PTm.mk hU hWm hP hK hD hE hO⟩⟩ rfl rfl hl.1 rfl (lv_room (Nat.le_of_ble_eq_true rfl)) dX15_entry_231 ⟨by show _ + 0 ≤ 0; omega, by show _ + 0 ≤ 0; omega⟩) hS (fun q _ h => hFc q h) hFc (fun u t H1 locs ht hvm hw hB hz1 hk1 hS => ?_)
                    obtain ⟨F_468, fc_469, hB1, hq_470, hq_471, hq_472⟩ := hB
                    obtain ⟨hP, hD, hO, hR⟩ := QTm.back hB1 ht hFc hR (fun q h => by simp only [List.mem_cons, List.not_mem_nil, or_false] at h ⊢; omega)
                    have hF_473 : F_468 ad = .inl (cs 16, 40, .inl (upd fd ze x2)) := (hB1.2.2.2 ad (by rw [ht_86]; simp only [List.mem_cons, List.not_mem_nil, or_false]; omega)).trans hF_412
                    have hF_474 : F_468 so = .inl (cs 16, 40, .inl (upd fs ze x1)) := (hB1.2.2.2 so (by rw [ht_83]; simp only [List.mem_cons, List.not_mem_nil, or_false]; omega)).trans hF_413
                    have hF_475 : F_468 ta = .inl (cs 17, 3000, .inl gt) := (hB1.2.2.2 ta (by rw [ht_80]; simp only [List.mem_cons, List.not_mem_nil, or_false]; omega)).trans hF_414
                    have hF_476 : F_468 h0 = .inr (15, (.ref ta) :: (.int 0) :: (.int (nI zo_28)) :: (.int (nI ze)) :: (.ref ou) :: (.ref so) :: (.ref ad) :: (.ref na) :: (.ref va) :: (.ref lc) :: (.ref dm) :: (.int v11_29) :: (.int v12_30) :: (.ref tg) :: (.int v14_31) :: (.int v15_32) :: (.ref pe) :: (.int v17_33) :: (.int v18_34) :: (.int v19_35) :: (.int v20_36) :: (.int v21_37) :: (.int v22_38) :: (.ref ml) :: (.ref bg) :: (.ref co) :: (.ref sp) :: (.ref nb0) :: (.ref nb1) :: (.ref nb2) :: (.int (nI nf)) :: (.int (nI bd)) :: (.int (nI mm)) :: (.int v33_39) :: (.ref pl) :: (.ref se) :: (.ref ke) :: (.ref wi) :: (.ref hs) :: (.ref mo) :: (.ref po) :: (.ref nu) :: (.ref pr) :: (.ref sq) :: (.ref xa) :: (.ref sa) :: (.ref n64) :: (.ref m64) :: (.ref ex) :: (.ref wh) :: (.ref sd) :: (.ref tk) :: (.int v52_40) :: (.int v53_41) :: (.int v54_42) :: (.ref hd) :: (.ref ak) :: (.ref ho) :: (.ref ot) :: []) := (hB1.2.2.2 h0 (by rw [hT_h0]; simp only [List.mem_cons, List.not_mem_nil, or_false]; omega)).trans hF_415
                    have hF_477 : F_468 na = .inl (cs 23, 40, .inr (.inr (.inr (.inr fn)))) := (hB1.2.2.2 na (by rw [ht_365]; simp only [List.mem_cons, List.not_mem_nil, or_false]; omega)).trans hF_416
                    have hF_478 : F_468 b_369 = .inr (14, [.ref r_370, .int (nI (kend - 0))]) := (hB1.2.2.2 b_369 (by rw [ht_373]; simp only [List.mem_cons, List.not_mem_nil, or_false]; omega)).trans hF_417
                    have hF_479 : F_468 r_370 = .inl (cs 17, 60, .inl fc_384) := (hB1.2.2.2 r_370 (by rw [ht_375]; simp only [List.mem_cons, List.not_mem_nil, or_false]; omega)).trans hF_418
                    have hF_480 : F_468 va = .inl (cs 23, 40, .inr (.inr (.inr (.inr fv)))) := (hB1.2.2.2 va (by rw [ht_394]; simp only [List.mem_cons, List.not_mem_nil, or_false]; omega)).trans hF_419
                    generalize H1 = H at hP hS ⊢
                    refine lv_aload_n hx hb dX15_entry_234 rfl (lv_at hl 4 rfl) ?_
                    refine lv_dup hx hb dX15_entry_235 rfl ?_
                    refine pg_get (ci := 15) (v := .int (nI ze)) (C := RX15) (T := TX15) (N := 59) hx hb hts it_15 hown hK hP hL_h0 hF_476 rfl 3 (by decide) (hts _ kt_714) (fun _ h9 => h9) rfl dX15_entry_236 ?_
                    refine lv_iconst (v := 1) hx hb dX15_entry_239 (by decide) ?_
                    refine lv_iadd hx hb dX15_entry_240 ?_
                    refine lv_topi (fun x_481 ex_481 => ?_)
                    obtain rfl : x_481 = (nI (ze + 1)) := ex_481.trans (nI_add ze 1)
                    have htyU := hty
                    have hTU := hT_h0
                    obtain ⟨hq_482, hq_483⟩ := hW.octs hi_374 ht_375
                    obtain ⟨hq_484, hq_485⟩ := hW.octs hi_403 ht_404
                    refine pg_put (ci := 15) (v := .int (nI (ze + 1))) (ty := .int) (C := RX15) (T := TX15) (N := 59) hx hb hts it_15 tyX15 tyX15_ok nmX15 hown hK hP hD hS hL_h0 hF_476 rfl 3 (by decide) (hts _ kt_714) (fun _ h9 => h9) rfl (by decide +kernel) (rfl) (rfl) (Nat.le_of_ble_eq_true rfl) dX15_entry_241 (fun H locs hP hD hS => ?_)
                    obtain ⟨F_486, he_487, hP, hD, hR⟩ : ∃ G, G = va_up F_468 h0 (.inr (15, (.ref ta) :: (.int 0) :: (.int (nI zo_28)) :: (.int (nI (ze + 1))) :: (.ref ou) :: (.ref so) :: (.ref ad) :: (.ref na) :: (.ref va) :: (.ref lc) :: (.ref dm) :: (.int v11_29) :: (.int v12_30) :: (.ref tg) :: (.int v14_31) :: (.int v15_32) :: (.ref pe) :: (.int v17_33) :: (.int v18_34) :: (.int v19_35) :: (.int v20_36) :: (.int v21_37) :: (.int v22_38) :: (.ref ml) :: (.ref bg) :: (.ref co) :: (.ref sp) :: (.ref nb0) :: (.ref nb1) :: (.ref nb2) :: (.int (nI nf)) :: (.int (nI bd)) :: (.int (nI mm)) :: (.int v33_39) :: (.ref pl) :: (.ref se) :: (.ref ke) :: (.ref wi) :: (.ref hs) :: (.ref mo) :: (.ref po) :: (.ref nu) :: (.ref pr) :: (.ref sq) :: (.ref xa) :: (.ref sa) :: (.ref n64) :: (.ref m64) :: (.ref ex) :: (.ref wh) :: (.ref sd) :: (.ref tk) :: (.int v52_40) :: (.int v53_41) :: (.int v54_42) :: (.ref hd) :: (.ref ak) :: (.ref ho) :: (.ref ot) :: [])) ∧ va_P (dC, dI) vwCl (va_pl L G) H ∧ va_D A (va_pl L G) ∧ FR ty [ρ, ρ + 3, ρ + 31, ρ + 4 + ze + 100, ρ + 50 + ze + 100] F G := ⟨_, rfl, hP, hD, hR.up hT_h0 (by simp)⟩
                    have hF_488 : F_486 ta = .inl (cs 17, 3000, .inl gt) := by rw [he_487, up_ne (ne_ty ht_80 hT_h0 (by simp))]; exact hF_475
                    have hF_489 : F_486 so = .inl (cs 16, 40, .inl (upd fs ze x1)) := by rw [he_487, up_ne (ne_ty ht_83 hT_h0 (by simp))]; exact hF_474
                    have hF_490 : F_486 ad = .inl (cs 16, 40, .inl (upd fd ze x2)) := by rw [he_487, up_ne (ne_ty ht_86 hT_h0 (by simp))]; exact hF_473
                    have hF_491 : F_486 b_369 = .inr (14, [.ref r_370, .int (nI (kend - 0))]) := by rw [he_487, up_ne (ne_ty ht_373 hT_h0 (by simp))]; exact hF_478
                    have hF_492 : F_486 r_370 = .inl (cs 17, 60, .inl fc_384) := by rw [he_487, up_ne (ne_ty ht_375 hT_h0 (by simp))]; exact hF_479
                    have hF_493 : F_486 b_398 = .inr (14, [.ref r_399, .int (nI (zt - (j + 1)))]) := by rw [he_487, up_ne (ne_ty ht_402 hT_h0 (by simp))]; exact hq_470
                    have hF_494 : F_486 r_399 = .inl (cs 17, 700, .inl fc_469) := by rw [he_487, up_ne (ne_ty ht_404 hT_h0 (by simp))]; exact hq_471
                    obtain ⟨ty, hty, hT_h0, hW, hO, hR⟩ : ∃ t9 : TyM, t9 = rtf ty h0 (15, ρ, [ta, ou, so, ad, na, va, lc, dm, tg, pe, ml, bg, co, sp, nb0, nb1, nb2, pl, se, ke, wi, hs, mo, po, nu, pr, sq, xa, sa, n64, m64, ex, wh, sd, tk, hd, ak, ho, ot, sx, s0, s1, s2, nf, bd, mm, (ze + 1), 0]) ∧ t9 h0 = (15, ρ, [ta, ou, so, ad, na, va, lc, dm, tg, pe, ml, bg, co, sp, nb0, nb1, nb2, pl, se, ke, wi, hs, mo, po, nu, pr, sq, xa, sa, n64, m64, ex, wh, sd, tk, hd, ak, ho, ot, sx, s0, s1, s2, nf, bd, mm, (ze + 1), 0]) ∧ WTm t9 gm L ∧ OKm cs t9 gm L F_486 ∧ FR t9 [ρ, ρ + 3, ρ + 31, ρ + 4 + ze + 100, ρ + 50 + ze + 100] F F_486 := ⟨_, rfl, rtf_self, hW.ze hL_h0 hT_h0, (by rw [he_487]; exact OKm.retype hO hT_h0 (shm.mod rtf_self ⟨zo_28, v11_29, v12_30, v14_31, v15_32, v17_33, v18_34, v19_35, v20_36, v21_37, v22_38, v33_39, v52_40, v53_41, v54_42, rfl, (by first | omega | assumption | exact Or.inl rfl | exact Or.inr rfl), (by first | omega | assumption | exact Or.inl rfl | exact Or.inr rfl), (by first | omega | assumption | exact Or.inl rfl | exact Or.inr rfl), (by first | omega | assumption | exact Or.inl rfl | exact Or.inr rfl)⟩)), FR.retype hT_h0 hR⟩
                    have hF_495 : F_486 h0 = .inr (15, (.ref ta) :: (.int 0) :: (.int (nI zo_28)) :: (.int (nI (ze + 1))) :: (.ref ou) :: (.ref so) :: (.ref ad) :: (.ref na) :: (.ref va) :: (.ref lc) :: (.ref dm) :: (.int v11_29) :: (.int v12_30) :: (.ref tg) :: (.int v14_31) :: (.int v15_32) :: (.ref pe) :: (.int v17_33) :: (.int v18_34) :: (.int v19_35) :: (.int v20_36) :: (.int v21_37) :: (.int v22_38) :: (.ref ml) :: (.ref bg) :: (.ref co) :: (.ref sp) :: (.ref nb0) :: (.ref nb1) :: (.ref nb2) :: (.int (nI nf)) :: (.int (nI bd)) :: (.int (nI mm)) :: (.int v33_39) :: (.ref pl) :: (.ref se) :: (.ref ke) :: (.ref wi) :: (.ref hs) :: (.ref mo) :: (.ref po) :: (.ref nu) :: (.ref pr) :: (.ref sq) :: (.ref xa) :: (.ref sa) :: (.ref n64) :: (.ref m64) :: (.ref ex) :: (.ref wh) :: (.ref sd) :: (.ref tk) :: (.int v52_40) :: (.int v53_41) :: (.int v54_42) :: (.ref hd) :: (.ref ak) :: (.ref ho) :: (.ref ot) :: []) := by rw [he_487]; exact up_self
                    obtain ⟨hq_518, hq_519, hq_520, hq_521, hq_522, hgO, hgA, hgB⟩ := hW.sc hL_h0 hT_h0
                    refine lv_aload_n hx hb dX15_entry_244 rfl (lv_at hl 4 rfl) ?_
                    refine pg_get (ci := 15) (v := .int (nI (ze + 1))) (C := RX15) (T := TX15) (N := 59) hx hb hts it_15 hown hK hP hL_h0 hF_495 rfl 3 (by decide) (hts _ kt_714) (fun _ h9 => h9) rfl dX15_entry_245 ?_
                    refine W.widen (k := 0) (n := 0) (by omega) (by omega) ?_
                    have hR0 := FR.unre hT00 htyU (FR.unre hTU hty hR)
                    have hQna := hR0 na (by rw [hTn0]; simp only [List.mem_cons, List.not_mem_nil, or_false]; omega)
                    have hQva := hR0 va (by rw [hTv0]; simp only [List.mem_cons, List.not_mem_nil, or_false]; omega)
                    exact W.iret (v := (nI (ze + 1))) hx hb hr (fun t ht hWm => ⟨⟨(nI (ze + 1)), (ze + 1), rfl, (Or.inr (Or.inr ⟨hc40, hs5.elim (fun h => val_y1 hx0 hx4 (hs5n h) (by rw [← hk0e h]; exact hn1)) (fun h => val_y2 hx0 hx4 (hs5x h) (hfst h) (by rw [← hk1e h]; exact hn1) (ho1 h).1), rfl, rfl⟩)), ⟨F_486, ty, (by rw [hty, htyU, rtf_rtf2]), QTm.mk ht hP hD hO hR, hW, ⟨(x1, x2, kend - 0, fc_384, zt - (j + 1), fc_469), DIRM.add hDM hO0 hW0 hLn0 hTn0 hLv0 hTv0 (by omega) hR0 hQna hQva (fun k hk => ⟨by simp only [List.mem_cons, List.not_mem_nil, or_false]; omega, by simp only [List.mem_cons, List.not_mem_nil, or_false]; omega⟩) hd1 hd2 hd3 hd4 hF_489 hF_490 ⟨b_369, r_370, hbf_371, hF_491, hF_492, by show kend - 0 ≤ 60; omega⟩ ⟨b_398, r_399, hbf_400, hF_493, hF_494, by show zt - (j + 1) ≤ 700; have h9 := (ho1 h51).2; omega⟩, fun _ => enx3 (hk1e h51) (hs5x h51) (hfst h51) hn1 (ho1 h51).1 hq_387 hq_472⟩⟩⟩, hS.F ht⟩) hS.2.2 dX15_entry_248
                ·
                  refine lv_iload_n hx hb dX15_entry_118 rfl (lv_at hl 5 rfl) ?_
                  refine lv_iconst (v := 2) hx hb dX15_entry_119 (by decide) ?_
                  refine lv_icmp_ne (tgt := 138) hx hb dX15_entry_120 (by decide) (fun c_523 => ?_) (fun c_523 => ?_)
                  ·
                    refine lv_iload_n hx hb dX15_entry_138 rfl (lv_at hl 5 rfl) ?_
                    refine lv_if_ne (tgt := 156) hx hb dX15_entry_139 (by decide) (fun c_524 => ?_) (fun c_524 => ?_)
                    ·
                      refine W.widen (k := 0) (n := 0) (by omega) (by omega) ?_
                      exact jn_345 () F_341 (⟨fun h => absurd (hs5x h) (fun q => q.elim c_524 c_523), hn3, hn3so, hn3ad⟩) hO hR _ _ hP hD hS ls (lv_sub hl [0, 1, 2, 3, 4, 5, 6] rfl)
                    ·
                      have h51 : s5 = 1 := hs5.resolve_left (fun q => hs5n q (Or.inl c_524))
                      have hkz := hn2 h51
                      refine lv_iload_n hx hb dX15_entry_142 rfl (lv_at hl 3 rfl) ?_
                      refine lv_iload hx hb dX15_entry_143 (lv_at hl 2 rfl) ?_
                      refine lv_isub hx hb dX15_entry_145 ?_
                      refine lv_topi (fun x_525 ex_525 => ?_)
                      obtain rfl : x_525 = (nI (zt - j)) := ex_525.trans (pk_sub (a := zt) (b := j) (by omega))
                      refine lv_iconst (v := 1) hx hb dX15_entry_146 (by decide) ?_
                      refine lv_isub hx hb dX15_entry_147 ?_
                      refine lv_topi (fun x_526 ex_526 => ?_)
                      obtain rfl : x_526 = (nI ((zt - j) - 1)) := ex_526.trans (pk_sub (a := (zt - j)) (b := 1) (by omega))
                      refine lv_sipush (v := 700) hx hb dX15_entry_148 (by decide) ?_
                      refine lv_icmp_le (tgt := 156) hx hb dX15_entry_151 (by decide) (fun c_527 => ?_) (fun c_527 => ?_)
                      ·
                        have hi_528 : ((zt - j) - 1) ≤ 700 := (nI_leI (a := ((zt - j) - 1)) (b := 700) (by omega) (by omega)).mp c_527
                        refine W.widen (k := 0) (n := 0) (by omega) (by omega) ?_
                        exact jn_345 () F_341 (⟨fun _ => ⟨⟨by omega, fun q => absurd (q.symm.trans c_524) (by decide), fun _ => by omega⟩, by omega⟩, hn3, hn3so, hn3ad⟩) hO hR _ _ hP hD hS ls (lv_sub hl [0, 1, 2, 3, 4, 5, 6] rfl)
                      ·
                        have hi_529 : 700 < ((zt - j) - 1) := Nat.not_le.mp (fun q => c_527 ((nI_leI (a := ((zt - j) - 1)) (b := 700) (by omega) (by omega)).mpr q))
                        refine lv_iconst (v := (-1)) hx hb dX15_entry_154 (by decide) ?_
                        refine W.widen (k := 0) (n := 0) (by omega) (by omega) ?_
                        have hR0 := FR.unre hT00 hty hR
                        have hQna := hR0 na (by rw [hTn0]; simp only [List.mem_cons, List.not_mem_nil, or_false]; omega)
                        have hQva := hR0 va (by rw [hTv0]; simp only [List.mem_cons, List.not_mem_nil, or_false]; omega)
                        exact W.iret (v := (-1)) hx hb hr (fun t ht hWm => ⟨⟨(-1), ze, rfl, (Or.inr (Or.inl ⟨hc40, val_nv (Or.inl c_524) (hfst h51) (fun q => absurd (q.2.2 (fun w => absurd (w.symm.trans c_524) (by decide))) (by omega)), rfl, rfl⟩)), ⟨F_341, ty, hty, QTm.mk ht hP hD hO hR, hW, ⟨(0, 0, 0, fun _ => 0, 0, fun _ => 0), DIRM.same (DIRM.fr hDM hO0 hW0 hLn0 hTn0 hLv0 hTv0 (by omega) hR0 (hn3so.trans hd1.symm) (hn3ad.trans hd2.symm) hQna hQva (fun k hk => ⟨by simp only [List.mem_cons, List.not_mem_nil, or_false]; omega, by simp only [List.mem_cons, List.not_mem_nil, or_false]; omega⟩)), fun q => absurd q (by omega)⟩⟩⟩, hS.F ht⟩) hS.2.2 dX15_entry_155
                  ·
                    have h51 : s5 = 1 := hs5.resolve_left (fun q => hs5n q (Or.inr c_523))
                    have hkz := hn2 h51
                    refine lv_aload_n hx hb dX15_entry_123 rfl (lv_at hl 4 rfl) ?_
                    refine pg_get (ci := 15) (v := .ref ta) (C := RX15) (T := TX15) (N := 59) hx hb hts it_15 hown hK hP hL_h0 hn3 rfl 0 (by decide) (hts _ kt_1065) (fun _ h9 => h9) rfl dX15_entry_124 ?_
                    refine lv_iload hx hb dX15_entry_127 (lv_at hl 2 rfl) ?_
                    refine lv_iconst (v := 1) hx hb dX15_entry_129 (by decide) ?_
                    refine lv_iadd hx hb dX15_entry_130 ?_
                    refine lv_topi (fun x_530 ex_530 => ?_)
                    obtain rfl : x_530 = (nI (j + 1)) := ex_530.trans (nI_add j 1)
                    refine lv_iload_n hx hb dX15_entry_131 rfl (lv_at hl 3 rfl) ?_
                    obtain ⟨hq_531, hq_532⟩ := hW.octs hi_79 ht_80
                    have hFc := pg_free hD hS hA
                    refine va_calli (va_runS (As := [.ref ta, .int (nI (j + 1)), .int (nI zt)]) (rest := []) ⟨hx, hb, hml, hown, hts⟩ (s_X14_isName_e l dC dI cs ty gm L H.size F_341 ta (ρ + 1) 3000 (j + 1) zt gt hW hi_79 ht_80 hF_344 (by first | omega | assumption) (by first | omega | assumption)) ⟨callB_of 3 hts (gi kt_679) rfl rfl rfl (hts _ kt_666) (hts _ kt_853) (by decide +kernel) ⟨Nat.le_of_ble_eq_true rfl, Nat.le_of_ble_eq_true rfl⟩, (hts _ kt_681)⟩ ⟨fun a U g mk q => ⟨q.1, PTm.calling q.2⟩, fun U hU hWm => ⟨rfl, PTm.mk hU hWm hP hK hD hE hO⟩⟩ rfl rfl hl.1 rfl (lv_room (Nat.le_of_ble_eq_true rfl)) dX15_entry_132 ⟨by show _ + 0 ≤ 0; omega, by show _ + 0 ≤ 0; omega⟩) hS (fun q _ h => hFc q h) hFc (fun r_533 u t H1 locs ht hvm hw hB hz1 hk1 hS => ?_)
                    obtain ⟨F_534, hB1⟩ := hB
                    obtain rfl : F_341 = F_534 := (funext (fun a => hB1.2.2.2 a List.not_mem_nil)).symm
                    obtain ⟨hP, hD, hO, hR⟩ := QTm.back hB1 ht hFc hR (fun q h => absurd h List.not_mem_nil)
                    generalize H1 = H at hP hS ⊢
                    have hw : r_533 = (if NM gt (j + 1) zt = true then 1 else 0) := hw
                    have hw_535 := hw
                    refine lv_if_eq (tgt := 154) hx hb dX15_entry_135 (by decide) (fun c_536 => ?_) (fun c_536 => ?_)
                    ·
                      refine lv_iconst (v := (-1)) hx hb dX15_entry_154 (by decide) ?_
                      refine W.widen (k := 0) (n := 0) (by omega) (by omega) ?_
                      have hR0 := FR.unre hT00 hty hR
                      have hQna := hR0 na (by rw [hTn0]; simp only [List.mem_cons, List.not_mem_nil, or_false]; omega)
                      have hQva := hR0 va (by rw [hTv0]; simp only [List.mem_cons, List.not_mem_nil, or_false]; omega)
                      exact W.iret (v := (-1)) hx hb hr (fun t ht hWm => ⟨⟨(-1), ze, rfl, (Or.inr (Or.inl ⟨hc40, val_nv (Or.inr c_523) (hfst h51) (fun q => ifb0 hw_535 c_536 (q.2.1 c_523)), rfl, rfl⟩)), ⟨F_341, ty, hty, QTm.mk ht hP hD hO hR, hW, ⟨(0, 0, 0, fun _ => 0, 0, fun _ => 0), DIRM.same (DIRM.fr hDM hO0 hW0 hLn0 hTn0 hLv0 hTv0 (by omega) hR0 (hn3so.trans hd1.symm) (hn3ad.trans hd2.symm) hQna hQva (fun k hk => ⟨by simp only [List.mem_cons, List.not_mem_nil, or_false]; omega, by simp only [List.mem_cons, List.not_mem_nil, or_false]; omega⟩)), fun q => absurd q (by omega)⟩⟩⟩, hS.F ht⟩) hS.2.2 dX15_entry_155
                    ·
                      refine lv_iload_n hx hb dX15_entry_138 rfl (lv_at hl 5 rfl) ?_
                      refine lv_if_ne (tgt := 156) hx hb dX15_entry_139 (by decide) (fun c_537 => ?_) (fun c_537 => ?_)
                      ·
                        refine W.widen (k := 0) (n := 0) (by omega) (by omega) ?_
                        exact jn_345 () F_341 (⟨fun _ => ⟨⟨by omega, fun _ => ifb1 hw_535 c_536, fun q => absurd c_523 q⟩, by have h9 := nm_60 (ifb1 hw_535 c_536); omega⟩, hn3, hn3so, hn3ad⟩) hO hR _ _ hP hD hS ls (lv_sub hl [0, 1, 2, 3, 4, 5, 6] rfl)
                      ·
                        have h51 : s5 = 1 := hs5.resolve_left (fun q => hs5n q (Or.inl c_537))
                        have hkz := hn2 h51
                        refine lv_iload_n hx hb dX15_entry_142 rfl (lv_at hl 3 rfl) ?_
                        refine lv_iload hx hb dX15_entry_143 (lv_at hl 2 rfl) ?_
                        refine lv_isub hx hb dX15_entry_145 ?_
                        refine lv_topi (fun x_538 ex_538 => ?_)
                        obtain rfl : x_538 = (nI (zt - j)) := ex_538.trans (pk_sub (a := zt) (b := j) (by omega))
                        refine lv_iconst (v := 1) hx hb dX15_entry_146 (by decide) ?_
                        refine lv_isub hx hb dX15_entry_147 ?_
                        refine lv_topi (fun x_539 ex_539 => ?_)
                        obtain rfl : x_539 = (nI ((zt - j) - 1)) := ex_539.trans (pk_sub (a := (zt - j)) (b := 1) (by omega))
                        refine lv_sipush (v := 700) hx hb dX15_entry_148 (by decide) ?_
                        refine lv_icmp_le (tgt := 156) hx hb dX15_entry_151 (by decide) (fun c_540 => ?_) (fun c_540 => ?_)
                        ·
                          have hi_541 : ((zt - j) - 1) ≤ 700 := (nI_leI (a := ((zt - j) - 1)) (b := 700) (by omega) (by omega)).mp c_540
                          refine W.widen (k := 0) (n := 0) (by omega) (by omega) ?_
                          exact jn_345 () F_341 (⟨fun _ => ⟨⟨by omega, fun q => absurd (q.symm.trans c_537) (by decide), fun _ => by omega⟩, by omega⟩, hn3, hn3so, hn3ad⟩) hO hR _ _ hP hD hS ls (lv_sub hl [0, 1, 2, 3, 4, 5, 6] rfl)
                        ·
                          have hi_542 : 700 < ((zt - j) - 1) := Nat.not_le.mp (fun q => c_540 ((nI_leI (a := ((zt - j) - 1)) (b := 700) (by omega) (by omega)).mpr q))
                          refine lv_iconst (v := (-1)) hx hb dX15_entry_154 (by decide) ?_
                          refine W.widen (k := 0) (n := 0) (by omega) (by omega) ?_
                          have hR0 := FR.unre hT00 hty hR
                          have hQna := hR0 na (by rw [hTn0]; simp only [List.mem_cons, List.not_mem_nil, or_false]; omega)
                          have hQva := hR0 va (by rw [hTv0]; simp only [List.mem_cons, List.not_mem_nil, or_false]; omega)
                          exact W.iret (v := (-1)) hx hb hr (fun t ht hWm => ⟨⟨(-1), ze, rfl, (Or.inr (Or.inl ⟨hc40, val_nv (Or.inl c_537) (hfst h51) (fun q => absurd (q.2.2 (fun w => absurd (w.symm.trans c_537) (by decide))) (by omega)), rfl, rfl⟩)), ⟨F_341, ty, hty, QTm.mk ht hP hD hO hR, hW, ⟨(0, 0, 0, fun _ => 0, 0, fun _ => 0), DIRM.same (DIRM.fr hDM hO0 hW0 hLn0 hTn0 hLv0 hTv0 (by omega) hR0 (hn3so.trans hd1.symm) (hn3ad.trans hd2.symm) hQna hQva (fun k hk => ⟨by simp only [List.mem_cons, List.not_mem_nil, or_false]; omega, by simp only [List.mem_cons, List.not_mem_nil, or_false]; omega⟩)), fun q => absurd q (by omega)⟩⟩⟩, hS.F ht⟩) hS.2.2 dX15_entry_155
              ·
                refine lv_iload hx hb dX15_entry_92 (lv_at hl 1 rfl) ?_
                refine lv_if_eq (tgt := 103) hx hb dX15_entry_94 (by decide) (fun c_543 => ?_) (fun c_543 => ?_)
                ·
                  refine lv_aload_n hx hb dX15_entry_103 rfl (lv_at hl 4 rfl) ?_
                  refine pg_get (ci := 15) (v := .ref ta) (C := RX15) (T := TX15) (N := 59) hx hb hts it_15 hown hK hP hL_h0 hb2 rfl 0 (by decide) (hts _ kt_1065) (fun _ h9 => h9) rfl dX15_entry_104 ?_
                  refine lv_iconst (v := 0) hx hb dX15_entry_107 (by decide) ?_
                  refine lv_iload hx hb dX15_entry_108 (lv_at hl 0 rfl) ?_
                  refine W.eq (g2 := F0 m 110 ls [.int (nI kend), .int (nI 0), .ref ta]) rfl ?_
                  obtain ⟨hq_544, hq_545⟩ := hW.octs hi_79 ht_80
                  have hFc := pg_free hD hS hA
                  refine va_calli (va_runS (As := [.ref ta, .int (nI 0), .int (nI kend)]) (rest := []) ⟨hx, hb, hml, hown, hts⟩ (s_X14_isName_e l dC dI cs ty gm L H.size F_336 ta (ρ + 1) 3000 0 kend gt hW hi_79 ht_80 hF_339 (by first | omega | assumption) (by first | omega | assumption)) ⟨callB_of 3 hts (gi kt_679) rfl rfl rfl (hts _ kt_666) (hts _ kt_853) (by decide +kernel) ⟨Nat.le_of_ble_eq_true rfl, Nat.le_of_ble_eq_true rfl⟩, (hts _ kt_681)⟩ ⟨fun a U g mk q => ⟨q.1, PTm.calling q.2⟩, fun U hU hWm => ⟨rfl, PTm.mk hU hWm hP hK hD hE hO⟩⟩ rfl rfl hl.1 rfl (lv_room (Nat.le_of_ble_eq_true rfl)) dX15_entry_110 ⟨by show _ + 0 ≤ 0; omega, by show _ + 0 ≤ 0; omega⟩) hS (fun q _ h => hFc q h) hFc (fun r_546 u t H1 locs ht hvm hw hB hz1 hk1 hS => ?_)
                  obtain ⟨F_547, hB1⟩ := hB
                  obtain rfl : F_336 = F_547 := (funext (fun a => hB1.2.2.2 a List.not_mem_nil)).symm
                  obtain ⟨hP, hD, hO, hR⟩ := QTm.back hB1 ht hFc hR (fun q h => absurd h List.not_mem_nil)
                  generalize H1 = H at hP hS ⊢
                  have hw : r_546 = (if NM gt 0 kend = true then 1 else 0) := hw
                  have hw_548 := hw
                  refine lv_if_ne (tgt := 118) hx hb dX15_entry_113 (by decide) (fun c_549 => ?_) (fun c_549 => ?_)
                  ·
                    refine W.widen (k := 0) (n := 0) (by omega) (by omega) ?_
                    exact jn_340 () F_336 (⟨ifb1 hw_548 c_549, nm_60 (ifb1 hw_548 c_549), fun h => absurd (h.symm.trans c_543) (by decide), hb2, hb2so, hb2ad⟩) hO hR _ _ hP hD hS ls (lv_sub hl [0, 1, 2, 3, 4, 5, 6] rfl)
                  ·
                    refine lv_iconst (v := (-1)) hx hb dX15_entry_116 (by decide) ?_
                    refine W.widen (k := 0) (n := 0) (by omega) (by omega) ?_
                    have hR0 := FR.unre hT00 hty hR
                    have hQna := hR0 na (by rw [hTn0]; simp only [List.mem_cons, List.not_mem_nil, or_false]; omega)
                    have hQva := hR0 va (by rw [hTv0]; simp only [List.mem_cons, List.not_mem_nil, or_false]; omega)
                    exact W.iret (v := (-1)) hx hb hr (fun t ht hWm => ⟨⟨(-1), ze, rfl, (Or.inr (Or.inl ⟨hc40, val_nz (hs5n c_543) (by rw [← hk0e c_543]; exact (ifb0 hw_548 c_549)), rfl, rfl⟩)), ⟨F_336, ty, hty, QTm.mk ht hP hD hO hR, hW, ⟨(0, 0, 0, fun _ => 0, 0, fun _ => 0), DIRM.same (DIRM.fr hDM hO0 hW0 hLn0 hTn0 hLv0 hTv0 (by omega) hR0 (hb2so.trans hd1.symm) (hb2ad.trans hd2.symm) hQna hQva (fun k hk => ⟨by simp only [List.mem_cons, List.not_mem_nil, or_false]; omega, by simp only [List.mem_cons, List.not_mem_nil, or_false]; omega⟩)), fun q => absurd q (by omega)⟩⟩⟩, hS.F ht⟩) hS.2.2 dX15_entry_117
                ·
                  refine lv_iload hx hb dX15_entry_97 (lv_at hl 2 rfl) ?_
                  refine lv_iload_n hx hb dX15_entry_99 rfl (lv_at hl 3 rfl) ?_
                  refine lv_icmp_eq (tgt := 116) hx hb dX15_entry_100 (by decide) (fun c_550 => ?_) (fun c_550 => ?_)
                  ·
                    have hi_551 : j = zt := (nI_eq (a := j) (b := zt) (by omega) (by omega)).mp c_550
                    refine lv_iconst (v := (-1)) hx hb dX15_entry_116 (by decide) ?_
                    refine W.widen (k := 0) (n := 0) (by omega) (by omega) ?_
                    have hR0 := FR.unre hT00 hty hR
                    have hQna := hR0 na (by rw [hTn0]; simp only [List.mem_cons, List.not_mem_nil, or_false]; omega)
                    have hQva := hR0 va (by rw [hTv0]; simp only [List.mem_cons, List.not_mem_nil, or_false]; omega)
                    exact W.iret (v := (-1)) hx hb hr (fun t ht hWm => ⟨⟨(-1), ze, rfl, (Or.inr (Or.inl ⟨hc40, val_nv (hs5x (hs5.resolve_left c_543)) (hfst (hs5.resolve_left c_543)) (fun q => q.1 (by omega)), rfl, rfl⟩)), ⟨F_336, ty, hty, QTm.mk ht hP hD hO hR, hW, ⟨(0, 0, 0, fun _ => 0, 0, fun _ => 0), DIRM.same (DIRM.fr hDM hO0 hW0 hLn0 hTn0 hLv0 hTv0 (by omega) hR0 (hb2so.trans hd1.symm) (hb2ad.trans hd2.symm) hQna hQva (fun k hk => ⟨by simp only [List.mem_cons, List.not_mem_nil, or_false]; omega, by simp only [List.mem_cons, List.not_mem_nil, or_false]; omega⟩)), fun q => absurd q (by omega)⟩⟩⟩, hS.F ht⟩) hS.2.2 dX15_entry_117
                  ·
                    have hi_552 : j ≠ zt := fun q => c_550 (by rw [q])
                    refine lv_aload_n hx hb dX15_entry_103 rfl (lv_at hl 4 rfl) ?_
                    refine pg_get (ci := 15) (v := .ref ta) (C := RX15) (T := TX15) (N := 59) hx hb hts it_15 hown hK hP hL_h0 hb2 rfl 0 (by decide) (hts _ kt_1065) (fun _ h9 => h9) rfl dX15_entry_104 ?_
                    refine lv_iconst (v := 0) hx hb dX15_entry_107 (by decide) ?_
                    refine lv_iload hx hb dX15_entry_108 (lv_at hl 0 rfl) ?_
                    refine W.eq (g2 := F0 m 110 ls [.int (nI kend), .int (nI 0), .ref ta]) rfl ?_
                    obtain ⟨hq_553, hq_554⟩ := hW.octs hi_79 ht_80
                    have hFc := pg_free hD hS hA
                    refine va_calli (va_runS (As := [.ref ta, .int (nI 0), .int (nI kend)]) (rest := []) ⟨hx, hb, hml, hown, hts⟩ (s_X14_isName_e l dC dI cs ty gm L H.size F_336 ta (ρ + 1) 3000 0 kend gt hW hi_79 ht_80 hF_339 (by first | omega | assumption) (by first | omega | assumption)) ⟨callB_of 3 hts (gi kt_679) rfl rfl rfl (hts _ kt_666) (hts _ kt_853) (by decide +kernel) ⟨Nat.le_of_ble_eq_true rfl, Nat.le_of_ble_eq_true rfl⟩, (hts _ kt_681)⟩ ⟨fun a U g mk q => ⟨q.1, PTm.calling q.2⟩, fun U hU hWm => ⟨rfl, PTm.mk hU hWm hP hK hD hE hO⟩⟩ rfl rfl hl.1 rfl (lv_room (Nat.le_of_ble_eq_true rfl)) dX15_entry_110 ⟨by show _ + 0 ≤ 0; omega, by show _ + 0 ≤ 0; omega⟩) hS (fun q _ h => hFc q h) hFc (fun r_555 u t H1 locs ht hvm hw hB hz1 hk1 hS => ?_)
                    obtain ⟨F_556, hB1⟩ := hB
                    obtain rfl : F_336 = F_556 := (funext (fun a => hB1.2.2.2 a List.not_mem_nil)).symm
                    obtain ⟨hP, hD, hO, hR⟩ := QTm.back hB1 ht hFc hR (fun q h => absurd h List.not_mem_nil)
                    generalize H1 = H at hP hS ⊢
                    have hw : r_555 = (if NM gt 0 kend = true then 1 else 0) := hw
                    have hw_557 := hw
                    refine lv_if_ne (tgt := 118) hx hb dX15_entry_113 (by decide) (fun c_558 => ?_) (fun c_558 => ?_)
                    ·
                      refine W.widen (k := 0) (n := 0) (by omega) (by omega) ?_
                      exact jn_340 () F_336 (⟨ifb1 hw_557 c_558, nm_60 (ifb1 hw_557 c_558), fun _ => by omega, hb2, hb2so, hb2ad⟩) hO hR _ _ hP hD hS ls (lv_sub hl [0, 1, 2, 3, 4, 5, 6] rfl)
                    ·
                      refine lv_iconst (v := (-1)) hx hb dX15_entry_116 (by decide) ?_
                      refine W.widen (k := 0) (n := 0) (by omega) (by omega) ?_
                      have hR0 := FR.unre hT00 hty hR
                      have hQna := hR0 na (by rw [hTn0]; simp only [List.mem_cons, List.not_mem_nil, or_false]; omega)
                      have hQva := hR0 va (by rw [hTv0]; simp only [List.mem_cons, List.not_mem_nil, or_false]; omega)
                      exact W.iret (v := (-1)) hx hb hr (fun t ht hWm => ⟨⟨(-1), ze, rfl, (Or.inr (Or.inl ⟨hc40, val_nn (hs5x (hs5.resolve_left c_543)) (hfst (hs5.resolve_left c_543)) (by rw [← hk1e (hs5.resolve_left c_543)]; exact (ifb0 hw_557 c_558)), rfl, rfl⟩)), ⟨F_336, ty, hty, QTm.mk ht hP hD hO hR, hW, ⟨(0, 0, 0, fun _ => 0, 0, fun _ => 0), DIRM.same (DIRM.fr hDM hO0 hW0 hLn0 hTn0 hLv0 hTv0 (by omega) hR0 (hb2so.trans hd1.symm) (hb2ad.trans hd2.symm) hQna hQva (fun k hk => ⟨by simp only [List.mem_cons, List.not_mem_nil, or_false]; omega, by simp only [List.mem_cons, List.not_mem_nil, or_false]; omega⟩)), fun q => absurd q (by omega)⟩⟩⟩, hS.F ht⟩) hS.2.2 dX15_entry_117
            ·
              refine lv_iload hx hb dX15_entry_79 (lv_at hl 0 rfl) ?_
              refine lv_if_eq (tgt := 89) hx hb dX15_entry_81 (by decide) (fun c_559 => ?_) (fun c_559 => ?_)
              ·
                refine lv_iload_n hx hb dX15_entry_89 rfl (lv_at hl 2 rfl) ?_
                refine W.widen (k := 0) (n := 0) (by omega) (by omega) ?_
                exact jn_335 (nI zt) F_102 (⟨⟨zt, Nat.le_refl _, rfl, fun h => absurd (h.symm.trans c_559) (by decide), fun _ => rfl⟩, ha2, ha2so, ha2ad⟩) hO hR _ _ hP hD hS ls (lv_sub hl [0, 1, 2, 3, 4, 5] rfl)
              ·
                refine lv_iload hx hb dX15_entry_84 (lv_at hl 1 rfl) ?_
                refine lv_goto (tgt := 90) hx hb dX15_entry_86 (by decide) ?_
                refine W.widen (k := 0) (n := 0) (by omega) (by omega) ?_
                exact jn_335 (nI j) F_102 (⟨⟨j, by omega, rfl, fun _ => rfl, fun h => absurd h c_559⟩, ha2, ha2so, ha2ad⟩) hO hR _ _ hP hD hS ls (lv_sub hl [0, 1, 2, 3, 4, 5] rfl)
          ·
            have hi_560 : j < zt := ltN (N := zt) c_333
            refine lv_aload_n hx hb dX15_entry_61 rfl (lv_at hl 3 rfl) ?_
            refine pg_get (ci := 15) (v := .ref ta) (C := RX15) (T := TX15) (N := 59) hx hb hts it_15 hown hK hP hL_h0 ha2 rfl 0 (by decide) (hts _ kt_1065) (fun _ h9 => h9) rfl dX15_entry_62 ?_
            refine lv_iload hx hb dX15_entry_65 (lv_at hl 1 rfl) ?_
            obtain ⟨hq_561, hq_562⟩ := hW.octs hi_79 ht_80
            refine pg_bald hx hb hK hP hi_79 1 hF_106 rfl (vp_in_nI (by omega) (by omega)) dX15_entry_67 ?_
            refine lv_topi (fun x_563 ex_563 => ?_)
            obtain rfl : x_563 = gt j := ex_563.trans (congrArg gt (show ((nI j) : Int32).toNatClampNeg = j from nI_clamp (by omega)))
            refine lv_bipush (v := 32) hx hb dX15_entry_68 (by decide) ?_
            refine lv_icmp_eq (tgt := 79) hx hb dX15_entry_70 (by decide) (fun c_564 => ?_) (fun c_564 => ?_)
            ·
              have hfst : s5 = 1 → FST gt 32 zt j := fun _ => ⟨by omega, ha3, Or.inr c_564⟩
              have hF_567 : F ta = .inl (cs 17, 3000, .inl gt) := (hR ta (by rw [ht_80]; simp only [List.mem_cons, List.not_mem_nil, or_false]; omega)).symm.trans hF_106
              refine W.widen (k := 0) (n := 0) (by omega) (by omega) ?_
              refine pl_cutm (σ := Int32) A (dC, dI) cs ty gm L [ρ, ρ + 3, ρ + 31, ρ + 4 + ze + 100, ρ + 50 + ze + 100] F 90 7 (fun s6 => [(5, .int s5), (4, .int (nI j)), (3, .int (nI zt)), (0, .ref h0), (1, .int x1), (2, .int x2)]) (fun s6 => [.int s6]) (fun s6 FF => (∃ k : Nat, k ≤ zt ∧ s6 = nI k ∧ (s5 = 1 → k = j) ∧ (s5 = 0 → k = zt)) ∧ FF h0 = .inr (15, (.ref ta) :: (.int 0) :: (.int (nI zo_28)) :: (.int (nI ze)) :: (.ref ou) :: (.ref so) :: (.ref ad) :: (.ref na) :: (.ref va) :: (.ref lc) :: (.ref dm) :: (.int v11_29) :: (.int v12_30) :: (.ref tg) :: (.int v14_31) :: (.int v15_32) :: (.ref pe) :: (.int v17_33) :: (.int v18_34) :: (.int v19_35) :: (.int v20_36) :: (.int v21_37) :: (.int v22_38) :: (.ref ml) :: (.ref bg) :: (.ref co) :: (.ref sp) :: (.ref nb0) :: (.ref nb1) :: (.ref nb2) :: (.int (nI nf)) :: (.int (nI bd)) :: (.int (nI mm)) :: (.int v33_39) :: (.ref pl) :: (.ref se) :: (.ref ke) :: (.ref wi) :: (.ref hs) :: (.ref mo) :: (.ref po) :: (.ref nu) :: (.ref pr) :: (.ref sq) :: (.ref xa) :: (.ref sa) :: (.ref n64) :: (.ref m64) :: (.ref ex) :: (.ref wh) :: (.ref sd) :: (.ref tk) :: (.int v52_40) :: (.int v53_41) :: (.int v54_42) :: (.ref hd) :: (.ref ak) :: (.ref ho) :: (.ref ot) :: []) ∧ FF so = .inl (cs 16, 40, .inl fs) ∧ FF ad = .inl (cs 16, 40, .inl fd)) ?_ (fun jn_565 => ?_)
              ·
                rintro s6 F_566 hv_568 hO hR H locs hP hD hS ls hl
                have hl : lv_has ls 7 [(5, .int s5), (4, .int (nI j)), (3, .int (nI zt)), (0, .ref h0), (1, .int x1), (2, .int x2)] := hl
                have hv_568 : (∃ k : Nat, k ≤ zt ∧ s6 = nI k ∧ (s5 = 1 → k = j) ∧ (s5 = 0 → k = zt)) ∧ F_566 h0 = .inr (15, (.ref ta) :: (.int 0) :: (.int (nI zo_28)) :: (.int (nI ze)) :: (.ref ou) :: (.ref so) :: (.ref ad) :: (.ref na) :: (.ref va) :: (.ref lc) :: (.ref dm) :: (.int v11_29) :: (.int v12_30) :: (.ref tg) :: (.int v14_31) :: (.int v15_32) :: (.ref pe) :: (.int v17_33) :: (.int v18_34) :: (.int v19_35) :: (.int v20_36) :: (.int v21_37) :: (.int v22_38) :: (.ref ml) :: (.ref bg) :: (.ref co) :: (.ref sp) :: (.ref nb0) :: (.ref nb1) :: (.ref nb2) :: (.int (nI nf)) :: (.int (nI bd)) :: (.int (nI mm)) :: (.int v33_39) :: (.ref pl) :: (.ref se) :: (.ref ke) :: (.ref wi) :: (.ref hs) :: (.ref mo) :: (.ref po) :: (.ref nu) :: (.ref pr) :: (.ref sq) :: (.ref xa) :: (.ref sa) :: (.ref n64) :: (.ref m64) :: (.ref ex) :: (.ref wh) :: (.ref sd) :: (.ref tk) :: (.int v52_40) :: (.int v53_41) :: (.int v54_42) :: (.ref hd) :: (.ref ak) :: (.ref ho) :: (.ref ot) :: []) ∧ F_566 so = .inl (cs 16, 40, .inl fs) ∧ F_566 ad = .inl (cs 16, 40, .inl fd) := hv_568
                refine W.eq (g2 := F0 m 90 ls [.int s6]) rfl ?_
                have hF_569 : F_566 ta = .inl (cs 17, 3000, .inl gt) := (hR ta (by rw [ht_80]; simp only [List.mem_cons, List.not_mem_nil, or_false]; omega)).trans hF_567
                obtain ⟨⟨kend, hke, eke, hk1e, hk0e⟩, hb2⟩ := hv_568
                subst eke
                refine W.eq (g2 := F0 m 90 ls [.int (nI kend)]) rfl ?_
                obtain ⟨hb2, hb2so, hb2ad⟩ := hb2
                refine lv_istore (lv' := [(6, .int (nI kend)), (5, .int s5), (4, .int (nI j)), (3, .int (nI zt)), (0, .ref h0), (1, .int x1), (2, .int x2)]) hx hb dX15_entry_90 hl (by decide) rfl (fun ls hl => ?_)
                have hF_572 : F ta = .inl (cs 17, 3000, .inl gt) := (hR ta (by rw [ht_80]; simp only [List.mem_cons, List.not_mem_nil, or_false]; omega)).symm.trans hF_569
                refine W.widen (k := 0) (n := 0) (by omega) (by omega) ?_
                refine pl_cutm (σ := Unit) A (dC, dI) cs ty gm L [ρ, ρ + 3, ρ + 31, ρ + 4 + ze + 100, ρ + 50 + ze + 100] F 118 7 (fun u0 => [(6, .int (nI kend)), (5, .int s5), (4, .int (nI j)), (3, .int (nI zt)), (0, .ref h0), (1, .int x1), (2, .int x2)]) (fun u0 => []) (fun u0 FF => NM gt 0 kend = true ∧ kend ≤ 60 ∧ (s5 = 1 → j < zt) ∧ FF h0 = .inr (15, (.ref ta) :: (.int 0) :: (.int (nI zo_28)) :: (.int (nI ze)) :: (.ref ou) :: (.ref so) :: (.ref ad) :: (.ref na) :: (.ref va) :: (.ref lc) :: (.ref dm) :: (.int v11_29) :: (.int v12_30) :: (.ref tg) :: (.int v14_31) :: (.int v15_32) :: (.ref pe) :: (.int v17_33) :: (.int v18_34) :: (.int v19_35) :: (.int v20_36) :: (.int v21_37) :: (.int v22_38) :: (.ref ml) :: (.ref bg) :: (.ref co) :: (.ref sp) :: (.ref nb0) :: (.ref nb1) :: (.ref nb2) :: (.int (nI nf)) :: (.int (nI bd)) :: (.int (nI mm)) :: (.int v33_39) :: (.ref pl) :: (.ref se) :: (.ref ke) :: (.ref wi) :: (.ref hs) :: (.ref mo) :: (.ref po) :: (.ref nu) :: (.ref pr) :: (.ref sq) :: (.ref xa) :: (.ref sa) :: (.ref n64) :: (.ref m64) :: (.ref ex) :: (.ref wh) :: (.ref sd) :: (.ref tk) :: (.int v52_40) :: (.int v53_41) :: (.int v54_42) :: (.ref hd) :: (.ref ak) :: (.ref ho) :: (.ref ot) :: []) ∧ FF so = .inl (cs 16, 40, .inl fs) ∧ FF ad = .inl (cs 16, 40, .inl fd)) ?_ (fun jn_570 => ?_)
                ·
                  rintro u0 F_571 hv_573 hO hR H locs hP hD hS ls hl
                  have hl : lv_has ls 7 [(6, .int (nI kend)), (5, .int s5), (4, .int (nI j)), (3, .int (nI zt)), (0, .ref h0), (1, .int x1), (2, .int x2)] := hl
                  have hv_573 : NM gt 0 kend = true ∧ kend ≤ 60 ∧ (s5 = 1 → j < zt) ∧ F_571 h0 = .inr (15, (.ref ta) :: (.int 0) :: (.int (nI zo_28)) :: (.int (nI ze)) :: (.ref ou) :: (.ref so) :: (.ref ad) :: (.ref na) :: (.ref va) :: (.ref lc) :: (.ref dm) :: (.int v11_29) :: (.int v12_30) :: (.ref tg) :: (.int v14_31) :: (.int v15_32) :: (.ref pe) :: (.int v17_33) :: (.int v18_34) :: (.int v19_35) :: (.int v20_36) :: (.int v21_37) :: (.int v22_38) :: (.ref ml) :: (.ref bg) :: (.ref co) :: (.ref sp) :: (.ref nb0) :: (.ref nb1) :: (.ref nb2) :: (.int (nI nf)) :: (.int (nI bd)) :: (.int (nI mm)) :: (.int v33_39) :: (.ref pl) :: (.ref se) :: (.ref ke) :: (.ref wi) :: (.ref hs) :: (.ref mo) :: (.ref po) :: (.ref nu) :: (.ref pr) :: (.ref sq) :: (.ref xa) :: (.ref sa) :: (.ref n64) :: (.ref m64) :: (.ref ex) :: (.ref wh) :: (.ref sd) :: (.ref tk) :: (.int v52_40) :: (.int v53_41) :: (.int v54_42) :: (.ref hd) :: (.ref ak) :: (.ref ho) :: (.ref ot) :: []) ∧ F_571 so = .inl (cs 16, 40, .inl fs) ∧ F_571 ad = .inl (cs 16, 40, .inl fd) := hv_573
                  refine W.eq (g2 := F0 m 118 ls []) rfl ?_
                  have hF_574 : F_571 ta = .inl (cs 17, 3000, .inl gt) := (hR ta (by rw [ht_80]; simp only [List.mem_cons, List.not_mem_nil, or_false]; omega)).trans hF_572
                  obtain ⟨hn1, hn6, hn2, hn3⟩ := hv_573
                  obtain ⟨hn3, hn3so, hn3ad⟩ := hn3
                  have hF_577 : F ta = .inl (cs 17, 3000, .inl gt) := (hR ta (by rw [ht_80]; simp only [List.mem_cons, List.not_mem_nil, or_false]; omega)).symm.trans hF_574
                  refine W.widen (k := 0) (n := 0) (by omega) (by omega) ?_
                  refine pl_cutm (σ := Unit) A (dC, dI) cs ty gm L [ρ, ρ + 3, ρ + 31, ρ + 4 + ze + 100, ρ + 50 + ze + 100] F 156 7 (fun u0 => [(6, .int (nI kend)), (5, .int s5), (4, .int (nI j)), (3, .int (nI zt)), (0, .ref h0), (1, .int x1), (2, .int x2)]) (fun u0 => []) (fun u0 FF => (s5 = 1 → ISV x1 gt zt j ∧ zt - j - 1 ≤ 700) ∧ FF h0 = .inr (15, (.ref ta) :: (.int 0) :: (.int (nI zo_28)) :: (.int (nI ze)) :: (.ref ou) :: (.ref so) :: (.ref ad) :: (.ref na) :: (.ref va) :: (.ref lc) :: (.ref dm) :: (.int v11_29) :: (.int v12_30) :: (.ref tg) :: (.int v14_31) :: (.int v15_32) :: (.ref pe) :: (.int v17_33) :: (.int v18_34) :: (.int v19_35) :: (.int v20_36) :: (.int v21_37) :: (.int v22_38) :: (.ref ml) :: (.ref bg) :: (.ref co) :: (.ref sp) :: (.ref nb0) :: (.ref nb1) :: (.ref nb2) :: (.int (nI nf)) :: (.int (nI bd)) :: (.int (nI mm)) :: (.int v33_39) :: (.ref pl) :: (.ref se) :: (.ref ke) :: (.ref wi) :: (.ref hs) :: (.ref mo) :: (.ref po) :: (.ref nu) :: (.ref pr) :: (.ref sq) :: (.ref xa) :: (.ref sa) :: (.ref n64) :: (.ref m64) :: (.ref ex) :: (.ref wh) :: (.ref sd) :: (.ref tk) :: (.int v52_40) :: (.int v53_41) :: (.int v54_42) :: (.ref hd) :: (.ref ak) :: (.ref ho) :: (.ref ot) :: []) ∧ FF so = .inl (cs 16, 40, .inl fs) ∧ FF ad = .inl (cs 16, 40, .inl fd)) ?_ (fun jn_575 => ?_)
                  ·
                    rintro u0 F_576 hv_578 hO hR H locs hP hD hS ls hl
                    have hl : lv_has ls 7 [(6, .int (nI kend)), (5, .int s5), (4, .int (nI j)), (3, .int (nI zt)), (0, .ref h0), (1, .int x1), (2, .int x2)] := hl
                    have hv_578 : (s5 = 1 → ISV x1 gt zt j ∧ zt - j - 1 ≤ 700) ∧ F_576 h0 = .inr (15, (.ref ta) :: (.int 0) :: (.int (nI zo_28)) :: (.int (nI ze)) :: (.ref ou) :: (.ref so) :: (.ref ad) :: (.ref na) :: (.ref va) :: (.ref lc) :: (.ref dm) :: (.int v11_29) :: (.int v12_30) :: (.ref tg) :: (.int v14_31) :: (.int v15_32) :: (.ref pe) :: (.int v17_33) :: (.int v18_34) :: (.int v19_35) :: (.int v20_36) :: (.int v21_37) :: (.int v22_38) :: (.ref ml) :: (.ref bg) :: (.ref co) :: (.ref sp) :: (.ref nb0) :: (.ref nb1) :: (.ref nb2) :: (.int (nI nf)) :: (.int (nI bd)) :: (.int (nI mm)) :: (.int v33_39) :: (.ref pl) :: (.ref se) :: (.ref ke) :: (.ref wi) :: (.ref hs) :: (.ref mo) :: (.ref po) :: (.ref nu) :: (.ref pr) :: (.ref sq) :: (.ref xa) :: (.ref sa) :: (.ref n64) :: (.ref m64) :: (.ref ex) :: (.ref wh) :: (.ref sd) :: (.ref tk) :: (.int v52_40) :: (.int v53_41) :: (.int v54_42) :: (.ref hd) :: (.ref ak) :: (.ref ho) :: (.ref ot) :: []) ∧ F_576 so = .inl (cs 16, 40, .inl fs) ∧ F_576 ad = .inl (cs 16, 40, .inl fd) := hv_578
                    refine W.eq (g2 := F0 m 156 ls []) rfl ?_
                    have hF_579 : F_576 ta = .inl (cs 17, 3000, .inl gt) := (hR ta (by rw [ht_80]; simp only [List.mem_cons, List.not_mem_nil, or_false]; omega)).trans hF_577
                    obtain ⟨ho1, ho2⟩ := hv_578
                    obtain ⟨ho2, ho2so, ho2ad⟩ := ho2
                    refine lv_aload_n hx hb dX15_entry_156 rfl (lv_at hl 4 rfl) ?_
                    refine pg_get (ci := 15) (v := .ref so) (C := RX15) (T := TX15) (N := 59) hx hb hts it_15 hown hK hP hL_h0 ho2 rfl 5 (by decide) (hts _ kt_708) (fun _ h9 => h9) rfl dX15_entry_157 ?_
                    refine lv_aload_n hx hb dX15_entry_160 rfl (lv_at hl 4 rfl) ?_
                    refine pg_get (ci := 15) (v := .int (nI ze)) (C := RX15) (T := TX15) (N := 59) hx hb hts it_15 hown hK hP hL_h0 ho2 rfl 3 (by decide) (hts _ kt_714) (fun _ h9 => h9) rfl dX15_entry_161 ?_
                    refine lv_iload_n hx hb dX15_entry_164 rfl (lv_at hl 5 rfl) ?_
                    refine pg_iast hx hb hK hP hD hS hi_82 0 ho2so rfl (vp_in_nI (by omega) (by omega)) dX15_entry_165 (fun H locs hP hD hS => ?_)
                    obtain ⟨F_580, he_581, hP, hD, hO, hR⟩ : ∃ G, G = va_up F_576 so (.inl (cs 16, 40, .inl (upd fs ((nI ze)).toNatClampNeg (x1)))) ∧ va_P (dC, dI) vwCl (va_pl L G) H ∧ va_D A (va_pl L G) ∧ OKm cs ty gm L G ∧ FR ty [ρ, ρ + 3, ρ + 31, ρ + 4 + ze + 100, ρ + 50 + ze + 100] F G := ⟨_, rfl, hP, hD, hO.up (shm.ints ht_83 ⟨_, rfl⟩), hR.up ht_83 (by simp)⟩
                    have hF_582 : F_580 so = .inl (cs 16, 40, .inl (upd fs ((nI ze)).toNatClampNeg (x1))) := by rw [he_581]; exact up_self
                    have hF_583 : F_580 ta = .inl (cs 17, 3000, .inl gt) := by rw [he_581, up_ne (ne_ty ht_80 ht_83 (by simp))]; exact hF_579
                    have hF_584 : F_580 h0 = .inr (15, (.ref ta) :: (.int 0) :: (.int (nI zo_28)) :: (.int (nI ze)) :: (.ref ou) :: (.ref so) :: (.ref ad) :: (.ref na) :: (.ref va) :: (.ref lc) :: (.ref dm) :: (.int v11_29) :: (.int v12_30) :: (.ref tg) :: (.int v14_31) :: (.int v15_32) :: (.ref pe) :: (.int v17_33) :: (.int v18_34) :: (.int v19_35) :: (.int v20_36) :: (.int v21_37) :: (.int v22_38) :: (.ref ml) :: (.ref bg) :: (.ref co) :: (.ref sp) :: (.ref nb0) :: (.ref nb1) :: (.ref nb2) :: (.int (nI nf)) :: (.int (nI bd)) :: (.int (nI mm)) :: (.int v33_39) :: (.ref pl) :: (.ref se) :: (.ref ke) :: (.ref wi) :: (.ref hs) :: (.ref mo) :: (.ref po) :: (.ref nu) :: (.ref pr) :: (.ref sq) :: (.ref xa) :: (.ref sa) :: (.ref n64) :: (.ref m64) :: (.ref ex) :: (.ref wh) :: (.ref sd) :: (.ref tk) :: (.int v52_40) :: (.int v53_41) :: (.int v54_42) :: (.ref hd) :: (.ref ak) :: (.ref ho) :: (.ref ot) :: []) := by rw [he_581, up_ne (ne_ty hT_h0 ht_83 (by simp))]; exact ho2
                    have hF_585 : F_580 ad = .inl (cs 16, 40, .inl fd) := by rw [he_581, up_ne (ne_ty2 ht_86 ht_83 (by simp))]; exact ho2ad
                    have hF_586 : F_580 so = .inl (cs 16, 40, .inl (upd fs ze x1)) := by have h9 := hF_582; rwa [nI_clamp (by omega)] at h9
                    refine lv_aload_n hx hb dX15_entry_166 rfl (lv_at hl 4 rfl) ?_
                    refine pg_get (ci := 15) (v := .ref ad) (C := RX15) (T := TX15) (N := 59) hx hb hts it_15 hown hK hP hL_h0 hF_584 rfl 6 (by decide) (hts _ kt_730) (fun _ h9 => h9) rfl dX15_entry_167 ?_
                    refine lv_aload_n hx hb dX15_entry_170 rfl (lv_at hl 4 rfl) ?_
                    refine pg_get (ci := 15) (v := .int (nI ze)) (C := RX15) (T := TX15) (N := 59) hx hb hts it_15 hown hK hP hL_h0 hF_584 rfl 3 (by decide) (hts _ kt_714) (fun _ h9 => h9) rfl dX15_entry_171 ?_
                    refine lv_iload_n hx hb dX15_entry_174 rfl (lv_at hl 6 rfl) ?_
                    refine pg_iast hx hb hK hP hD hS hi_85 0 hF_585 rfl (vp_in_nI (by omega) (by omega)) dX15_entry_175 (fun H locs hP hD hS => ?_)
                    obtain ⟨F_587, he_588, hP, hD, hO, hR⟩ : ∃ G, G = va_up F_580 ad (.inl (cs 16, 40, .inl (upd fd ((nI ze)).toNatClampNeg (x2)))) ∧ va_P (dC, dI) vwCl (va_pl L G) H ∧ va_D A (va_pl L G) ∧ OKm cs ty gm L G ∧ FR ty [ρ, ρ + 3, ρ + 31, ρ + 4 + ze + 100, ρ + 50 + ze + 100] F G := ⟨_, rfl, hP, hD, hO.up (shm.ints ht_86 ⟨_, rfl⟩), hR.up ht_86 (by simp)⟩
                    have hF_589 : F_587 ad = .inl (cs 16, 40, .inl (upd fd ((nI ze)).toNatClampNeg (x2))) := by rw [he_588]; exact up_self
                    have hF_590 : F_587 so = .inl (cs 16, 40, .inl (upd fs ze x1)) := by rw [he_588, up_ne (ne_ty2 ht_83 ht_86 (by simp))]; exact hF_586
                    have hF_591 : F_587 ta = .inl (cs 17, 3000, .inl gt) := by rw [he_588, up_ne (ne_ty ht_80 ht_86 (by simp))]; exact hF_583
                    have hF_592 : F_587 h0 = .inr (15, (.ref ta) :: (.int 0) :: (.int (nI zo_28)) :: (.int (nI ze)) :: (.ref ou) :: (.ref so) :: (.ref ad) :: (.ref na) :: (.ref va) :: (.ref lc) :: (.ref dm) :: (.int v11_29) :: (.int v12_30) :: (.ref tg) :: (.int v14_31) :: (.int v15_32) :: (.ref pe) :: (.int v17_33) :: (.int v18_34) :: (.int v19_35) :: (.int v20_36) :: (.int v21_37) :: (.int v22_38) :: (.ref ml) :: (.ref bg) :: (.ref co) :: (.ref sp) :: (.ref nb0) :: (.ref nb1) :: (.ref nb2) :: (.int (nI nf)) :: (.int (nI bd)) :: (.int (nI mm)) :: (.int v33_39) :: (.ref pl) :: (.ref se) :: (.ref ke) :: (.ref wi) :: (.ref hs) :: (.ref mo) :: (.ref po) :: (.ref nu) :: (.ref pr) :: (.ref sq) :: (.ref xa) :: (.ref sa) :: (.ref n64) :: (.ref m64) :: (.ref ex) :: (.ref wh) :: (.ref sd) :: (.ref tk) :: (.int v52_40) :: (.int v53_41) :: (.int v54_42) :: (.ref hd) :: (.ref ak) :: (.ref ho) :: (.ref ot) :: []) := by rw [he_588, up_ne (ne_ty hT_h0 ht_86 (by simp))]; exact hF_584
                    have hF_593 : F_587 ad = .inl (cs 16, 40, .inl (upd fd ze x2)) := by have h9 := hF_589; rwa [nI_clamp (by omega)] at h9
                    refine lv_aload_n hx hb dX15_entry_176 rfl (lv_at hl 4 rfl) ?_
                    refine pg_get (ci := 15) (v := .ref na) (C := RX15) (T := TX15) (N := 59) hx hb hts it_15 hown hK hP hL_h0 hF_592 rfl 7 (by decide) (hts _ kt_709) (fun _ h9 => h9) rfl dX15_entry_177 ?_
                    refine lv_aload_n hx hb dX15_entry_180 rfl (lv_at hl 4 rfl) ?_
                    refine pg_get (ci := 15) (v := .int (nI ze)) (C := RX15) (T := TX15) (N := 59) hx hb hts it_15 hown hK hP hL_h0 hF_592 rfl 3 (by decide) (hts _ kt_714) (fun _ h9 => h9) rfl dX15_entry_181 ?_
                    have hzna := FR.unre hT00 hty hR na (by rw [hTn0]; simp only [List.mem_cons, List.not_mem_nil, or_false]; omega)
                    obtain ⟨hi_594, ht_595⟩ := hW.f_na hL_h0 hT_h0
                    obtain ⟨f_596, hF_597, hq_598⟩ := hO.rtxj hi_594 ht_595
                    obtain rfl : fn = f_596 := by have e9 := (hzna.trans hd3).symm.trans hF_597; simpa using e9
                    obtain ⟨b_599, r_600, hbf_601, hi_602, ht_603⟩ := hq_598 ze (by omega)
                    refine pg_aald (r := b_599) hx hb hK hP hi_594 7 hF_597 rfl (vp_in_nI (by omega) (by omega)) (show fn ((nI ze) : Int32).toNatClampNeg = _ from by rw [show ((nI ze) : Int32) = nI ze from rfl, nI_clamp (by omega)]; exact hbf_601) dX15_entry_184 ?_
                    refine lv_aload_n hx hb dX15_entry_185 rfl (lv_at hl 4 rfl) ?_
                    refine pg_get (ci := 15) (v := .ref ta) (C := RX15) (T := TX15) (N := 59) hx hb hts it_15 hown hK hP hL_h0 hF_592 rfl 0 (by decide) (hts _ kt_1065) (fun _ h9 => h9) rfl dX15_entry_186 ?_
                    refine lv_iconst (v := 0) hx hb dX15_entry_189 (by decide) ?_
                    refine lv_iload hx hb dX15_entry_190 (lv_at hl 0 rfl) ?_
                    refine W.eq (g2 := F0 m 192 ls [.int (nI kend), .int (nI 0), .ref ta, .ref b_599]) rfl ?_
                    obtain ⟨hi_604, ht_605, hq_606⟩ := hW.txt hi_602 ht_603
                    have hFc := pg_free hD hS hA
                    obtain ⟨z_607, hF_608, hq_609⟩ := hO.txt hi_602 ht_603
                    refine va_callv (va_runV (As := [.ref ta, .int (nI 0), .int (nI kend)]) (rest := []) ⟨hx, hb, hml, hown, hts⟩ (s_X14_set_e l dC dI cs ty gm L H.size F_587 b_599 (ρ + 4 + ze + 100) r_600 60 ta (ρ + 1) 3000 0 kend gt hW hi_602 ht_603 hi_79 ht_80 hF_591 (Nat.zero_le _) (by omega) (by omega)) ⟨callB_of 3 hts (gi kt_969) rfl rfl rfl (hts _ kt_666) (hts _ kt_970) (by decide +kernel) ⟨Nat.le_of_ble_eq_true rfl, Nat.le_of_ble_eq_true rfl⟩, (hts _ kt_971), (hts _ kt_972)⟩ ⟨fun a U g mk q => ⟨q.1, PTm.calling q.2⟩, pg_recv hK hP hi_602 hF_608 (q := (RX14, TX14, 2)) rfl, fun U hU hWm => ⟨rfl, PTm.mk hU hWm hP hK hD hE hO⟩⟩ rfl rfl hl.1 rfl (lv_room (Nat.le_of_ble_eq_true rfl)) dX15_entry_192 ⟨by show _ + 0 ≤ 0; omega, by show _ + 0 ≤ 0; omega⟩) hS (fun q _ h => hFc q h) hFc (fun u t H1 locs ht hvm hw hB hz1 hk1 hS => ?_)
                    obtain ⟨F_611, fc_612, hB1, hq_613, hq_614, hq_615⟩ := hB
                    obtain ⟨hP, hD, hO, hR⟩ := QTm.back hB1 ht hFc hR (fun q h => by simp only [List.mem_cons, List.not_mem_nil, or_false] at h ⊢; omega)
                    have hF_616 : F_611 ad = .inl (cs 16, 40, .inl (upd fd ze x2)) := (hB1.2.2.2 ad (by rw [ht_86]; simp only [List.mem_cons, List.not_mem_nil, or_false]; omega)).trans hF_593
                    have hF_617 : F_611 so = .inl (cs 16, 40, .inl (upd fs ze x1)) := (hB1.2.2.2 so (by rw [ht_83]; simp only [List.mem_cons, List.not_mem_nil, or_false]; omega)).trans hF_590
                    have hF_618 : F_611 ta = .inl (cs 17, 3000, .inl gt) := (hB1.2.2.2 ta (by rw [ht_80]; simp only [List.mem_cons, List.not_mem_nil, or_false]; omega)).trans hF_591
                    have hF_619 : F_611 h0 = .inr (15, (.ref ta) :: (.int 0) :: (.int (nI zo_28)) :: (.int (nI ze)) :: (.ref ou) :: (.ref so) :: (.ref ad) :: (.ref na) :: (.ref va) :: (.ref lc) :: (.ref dm) :: (.int v11_29) :: (.int v12_30) :: (.ref tg) :: (.int v14_31) :: (.int v15_32) :: (.ref pe) :: (.int v17_33) :: (.int v18_34) :: (.int v19_35) :: (.int v20_36) :: (.int v21_37) :: (.int v22_38) :: (.ref ml) :: (.ref bg) :: (.ref co) :: (.ref sp) :: (.ref nb0) :: (.ref nb1) :: (.ref nb2) :: (.int (nI nf)) :: (.int (nI bd)) :: (.int (nI mm)) :: (.int v33_39) :: (.ref pl) :: (.ref se) :: (.ref ke) :: (.ref wi) :: (.ref hs) :: (.ref mo) :: (.ref po) :: (.ref nu) :: (.ref pr) :: (.ref sq) :: (.ref xa) :: (.ref sa) :: (.ref n64) :: (.ref m64) :: (.ref ex) :: (.ref wh) :: (.ref sd) :: (.ref tk) :: (.int v52_40) :: (.int v53_41) :: (.int v54_42) :: (.ref hd) :: (.ref ak) :: (.ref ho) :: (.ref ot) :: []) := (hB1.2.2.2 h0 (by rw [hT_h0]; simp only [List.mem_cons, List.not_mem_nil, or_false]; omega)).trans hF_592
                    have hF_620 : F_611 na = .inl (cs 23, 40, .inr (.inr (.inr (.inr fn)))) := (hB1.2.2.2 na (by rw [ht_595]; simp only [List.mem_cons, List.not_mem_nil, or_false]; omega)).trans hF_597
                    generalize H1 = H at hP hS ⊢
                    refine lv_aload_n hx hb dX15_entry_195 rfl (lv_at hl 4 rfl) ?_
                    refine pg_get (ci := 15) (v := .ref va) (C := RX15) (T := TX15) (N := 59) hx hb hts it_15 hown hK hP hL_h0 hF_619 rfl 8 (by decide) (hts _ kt_722) (fun _ h9 => h9) rfl dX15_entry_196 ?_
                    refine lv_aload_n hx hb dX15_entry_199 rfl (lv_at hl 4 rfl) ?_
                    refine pg_get (ci := 15) (v := .int (nI ze)) (C := RX15) (T := TX15) (N := 59) hx hb hts it_15 hown hK hP hL_h0 hF_619 rfl 3 (by decide) (hts _ kt_714) (fun _ h9 => h9) rfl dX15_entry_200 ?_
                    have hzva := FR.unre hT00 hty hR va (by rw [hTv0]; simp only [List.mem_cons, List.not_mem_nil, or_false]; omega)
                    obtain ⟨hi_621, ht_622⟩ := hW.f_va hL_h0 hT_h0
                    obtain ⟨f_623, hF_624, hq_625⟩ := hO.rtxj hi_621 ht_622
                    obtain rfl : fv = f_623 := by have e9 := (hzva.trans hd4).symm.trans hF_624; simpa using e9
                    obtain ⟨b_626, r_627, hbf_628, hi_629, ht_630⟩ := hq_625 ze (by omega)
                    refine pg_aald (r := b_626) hx hb hK hP hi_621 7 hF_624 rfl (vp_in_nI (by omega) (by omega)) (show fv ((nI ze) : Int32).toNatClampNeg = _ from by rw [show ((nI ze) : Int32) = nI ze from rfl, nI_clamp (by omega)]; exact hbf_628) dX15_entry_203 ?_
                    refine lv_iconst (v := 0) hx hb dX15_entry_204 (by decide) ?_
                    obtain ⟨hi_631, ht_632, hq_633⟩ := hW.txt hi_629 ht_630
                    obtain ⟨z_634, hF_635, hq_636⟩ := hO.txt hi_629 ht_630
                    refine pg_put (ci := 14) (v := .int 0) (ty := .int) (C := RX14) (T := TX14) (N := 2) hx hb hts it_14 tyX14 tyX14_ok nmX14 hown hK hP hD hS hi_629 hF_635 rfl 1 (by decide) (hts _ kt_699) (fun _ h9 => h9) rfl (by decide +kernel) (rfl) (rfl) (Nat.le_of_ble_eq_true rfl) dX15_entry_205 (fun H locs hP hD hS => ?_)
                    obtain ⟨F_637, he_638, hP, hD, hO, hR⟩ : ∃ G, G = va_up F_611 b_626 (.inr (14, [.ref r_627, .int 0])) ∧ va_P (dC, dI) vwCl (va_pl L G) H ∧ va_D A (va_pl L G) ∧ OKm cs ty gm L G ∧ FR ty [ρ, ρ + 3, ρ + 31, ρ + 4 + ze + 100, ρ + 50 + ze + 100] F G := ⟨_, rfl, hP, hD, hO.up (shm.txt ht_630 ⟨0, rfl, (by first | omega | assumption | exact Or.inl rfl | exact Or.inr rfl)⟩), hR.up ht_630 (by simp)⟩
                    have hF_639 : F_637 b_626 = .inr (14, [.ref r_627, .int 0]) := by rw [he_638]; exact up_self
                    have hF_640 : F_637 ad = .inl (cs 16, 40, .inl (upd fd ze x2)) := by rw [he_638, up_ne (ne_ty ht_86 ht_630 (by simp))]; exact hF_616
                    have hF_641 : F_637 so = .inl (cs 16, 40, .inl (upd fs ze x1)) := by rw [he_638, up_ne (ne_ty ht_83 ht_630 (by simp))]; exact hF_617
                    have hF_642 : F_637 ta = .inl (cs 17, 3000, .inl gt) := by rw [he_638, up_ne (ne_ty ht_80 ht_630 (by simp))]; exact hF_618
                    have hF_643 : F_637 h0 = .inr (15, (.ref ta) :: (.int 0) :: (.int (nI zo_28)) :: (.int (nI ze)) :: (.ref ou) :: (.ref so) :: (.ref ad) :: (.ref na) :: (.ref va) :: (.ref lc) :: (.ref dm) :: (.int v11_29) :: (.int v12_30) :: (.ref tg) :: (.int v14_31) :: (.int v15_32) :: (.ref pe) :: (.int v17_33) :: (.int v18_34) :: (.int v19_35) :: (.int v20_36) :: (.int v21_37) :: (.int v22_38) :: (.ref ml) :: (.ref bg) :: (.ref co) :: (.ref sp) :: (.ref nb0) :: (.ref nb1) :: (.ref nb2) :: (.int (nI nf)) :: (.int (nI bd)) :: (.int (nI mm)) :: (.int v33_39) :: (.ref pl) :: (.ref se) :: (.ref ke) :: (.ref wi) :: (.ref hs) :: (.ref mo) :: (.ref po) :: (.ref nu) :: (.ref pr) :: (.ref sq) :: (.ref xa) :: (.ref sa) :: (.ref n64) :: (.ref m64) :: (.ref ex) :: (.ref wh) :: (.ref sd) :: (.ref tk) :: (.int v52_40) :: (.int v53_41) :: (.int v54_42) :: (.ref hd) :: (.ref ak) :: (.ref ho) :: (.ref ot) :: []) := by rw [he_638, up_ne (ne_ty hT_h0 ht_630 (by simp))]; exact hF_619
                    have hF_644 : F_637 na = .inl (cs 23, 40, .inr (.inr (.inr (.inr fn)))) := by rw [he_638, up_ne (ne_ty ht_595 ht_630 (by simp))]; exact hF_620
                    have hF_645 : F_637 b_599 = .inr (14, [.ref r_600, .int (nI (kend - 0))]) := by rw [he_638, up_ne (ne_ty2 ht_603 ht_630 (by simp))]; exact hq_613
                    have hF_646 : F_637 r_600 = .inl (cs 17, 60, .inl fc_612) := by rw [he_638, up_ne (ne_ty ht_605 ht_630 (by simp))]; exact hq_614
                    have hF_647 : F_637 va = .inl (cs 23, 40, .inr (.inr (.inr (.inr fv)))) := by rw [he_638, up_ne (ne_ty ht_622 ht_630 (by simp))]; exact hF_624
                    refine lv_iload hx hb dX15_entry_208 (lv_at hl 1 rfl) ?_
                    refine lv_if_eq (tgt := 234) hx hb dX15_entry_210 (by decide) (fun c_648 => ?_) (fun c_648 => ?_)
                    ·
                      refine lv_aload_n hx hb dX15_entry_234 rfl (lv_at hl 4 rfl) ?_
                      refine lv_dup hx hb dX15_entry_235 rfl ?_
                      refine pg_get (ci := 15) (v := .int (nI ze)) (C := RX15) (T := TX15) (N := 59) hx hb hts it_15 hown hK hP hL_h0 hF_643 rfl 3 (by decide) (hts _ kt_714) (fun _ h9 => h9) rfl dX15_entry_236 ?_
                      refine lv_iconst (v := 1) hx hb dX15_entry_239 (by decide) ?_
                      refine lv_iadd hx hb dX15_entry_240 ?_
                      refine lv_topi (fun x_649 ex_649 => ?_)
                      obtain rfl : x_649 = (nI (ze + 1)) := ex_649.trans (nI_add ze 1)
                      have htyU := hty
                      have hTU := hT_h0
                      obtain ⟨hq_650, hq_651⟩ := hW.octs hi_604 ht_605
                      obtain ⟨hq_652, hq_653⟩ := hW.octs hi_631 ht_632
                      obtain ⟨f_654, hF_655, hq_656⟩ := hO.octs hi_631 ht_632
                      refine pg_put (ci := 15) (v := .int (nI (ze + 1))) (ty := .int) (C := RX15) (T := TX15) (N := 59) hx hb hts it_15 tyX15 tyX15_ok nmX15 hown hK hP hD hS hL_h0 hF_643 rfl 3 (by decide) (hts _ kt_714) (fun _ h9 => h9) rfl (by decide +kernel) (rfl) (rfl) (Nat.le_of_ble_eq_true rfl) dX15_entry_241 (fun H locs hP hD hS => ?_)
                      obtain ⟨F_657, he_658, hP, hD, hR⟩ : ∃ G, G = va_up F_637 h0 (.inr (15, (.ref ta) :: (.int 0) :: (.int (nI zo_28)) :: (.int (nI (ze + 1))) :: (.ref ou) :: (.ref so) :: (.ref ad) :: (.ref na) :: (.ref va) :: (.ref lc) :: (.ref dm) :: (.int v11_29) :: (.int v12_30) :: (.ref tg) :: (.int v14_31) :: (.int v15_32) :: (.ref pe) :: (.int v17_33) :: (.int v18_34) :: (.int v19_35) :: (.int v20_36) :: (.int v21_37) :: (.int v22_38) :: (.ref ml) :: (.ref bg) :: (.ref co) :: (.ref sp) :: (.ref nb0) :: (.ref nb1) :: (.ref nb2) :: (.int (nI nf)) :: (.int (nI bd)) :: (.int (nI mm)) :: (.int v33_39) :: (.ref pl) :: (.ref se) :: (.ref ke) :: (.ref wi) :: (.ref hs) :: (.ref mo) :: (.ref po) :: (.ref nu) :: (.ref pr) :: (.ref sq) :: (.ref xa) :: (.ref sa) :: (.ref n64) :: (.ref m64) :: (.ref ex) :: (.ref wh) :: (.ref sd) :: (.ref tk) :: (.int v52_40) :: (.int v53_41) :: (.int v54_42) :: (.ref hd) :: (.ref ak) :: (.ref ho) :: (.ref ot) :: [])) ∧ va_P (dC, dI) vwCl (va_pl L G) H ∧ va_D A (va_pl L G) ∧ FR ty [ρ, ρ + 3, ρ + 31, ρ + 4 + ze + 100, ρ + 50 + ze + 100] F G := ⟨_, rfl, hP, hD, hR.up hT_h0 (by simp)⟩
                      have hF_659 : F_657 ta = .inl (cs 17, 3000, .inl gt) := by rw [he_658, up_ne (ne_ty ht_80 hT_h0 (by simp))]; exact hF_642
                      have hF_660 : F_657 so = .inl (cs 16, 40, .inl (upd fs ze x1)) := by rw [he_658, up_ne (ne_ty ht_83 hT_h0 (by simp))]; exact hF_641
                      have hF_661 : F_657 ad = .inl (cs 16, 40, .inl (upd fd ze x2)) := by rw [he_658, up_ne (ne_ty ht_86 hT_h0 (by simp))]; exact hF_640
                      have hF_662 : F_657 b_599 = .inr (14, [.ref r_600, .int (nI (kend - 0))]) := by rw [he_658, up_ne (ne_ty ht_603 hT_h0 (by simp))]; exact hF_645
                      have hF_663 : F_657 r_600 = .inl (cs 17, 60, .inl fc_612) := by rw [he_658, up_ne (ne_ty ht_605 hT_h0 (by simp))]; exact hF_646
                      have hF_664 : F_657 b_626 = .inr (14, [.ref r_627, .int 0]) := by rw [he_658, up_ne (ne_ty ht_630 hT_h0 (by simp))]; exact hF_639
                      have hF_665 : F_657 r_627 = .inl (cs 17, 700, .inl f_654) := by rw [he_658, up_ne (ne_ty ht_632 hT_h0 (by simp))]; exact hF_655
                      obtain ⟨ty, hty, hT_h0, hW, hO, hR⟩ : ∃ t9 : TyM, t9 = rtf ty h0 (15, ρ, [ta, ou, so, ad, na, va, lc, dm, tg, pe, ml, bg, co, sp, nb0, nb1, nb2, pl, se, ke, wi, hs, mo, po, nu, pr, sq, xa, sa, n64, m64, ex, wh, sd, tk, hd, ak, ho, ot, sx, s0, s1, s2, nf, bd, mm, (ze + 1), 0]) ∧ t9 h0 = (15, ρ, [ta, ou, so, ad, na, va, lc, dm, tg, pe, ml, bg, co, sp, nb0, nb1, nb2, pl, se, ke, wi, hs, mo, po, nu, pr, sq, xa, sa, n64, m64, ex, wh, sd, tk, hd, ak, ho, ot, sx, s0, s1, s2, nf, bd, mm, (ze + 1), 0]) ∧ WTm t9 gm L ∧ OKm cs t9 gm L F_657 ∧ FR t9 [ρ, ρ + 3, ρ + 31, ρ + 4 + ze + 100, ρ + 50 + ze + 100] F F_657 := ⟨_, rfl, rtf_self, hW.ze hL_h0 hT_h0, (by rw [he_658]; exact OKm.retype hO hT_h0 (shm.mod rtf_self ⟨zo_28, v11_29, v12_30, v14_31, v15_32, v17_33, v18_34, v19_35, v20_36, v21_37, v22_38, v33_39, v52_40, v53_41, v54_42, rfl, (by first | omega | assumption | exact Or.inl rfl | exact Or.inr rfl), (by first | omega | assumption | exact Or.inl rfl | exact Or.inr rfl), (by first | omega | assumption | exact Or.inl rfl | exact Or.inr rfl), (by first | omega | assumption | exact Or.inl rfl | exact Or.inr rfl)⟩)), FR.retype hT_h0 hR⟩
                      have hF_666 : F_657 h0 = .inr (15, (.ref ta) :: (.int 0) :: (.int (nI zo_28)) :: (.int (nI (ze + 1))) :: (.ref ou) :: (.ref so) :: (.ref ad) :: (.ref na) :: (.ref va) :: (.ref lc) :: (.ref dm) :: (.int v11_29) :: (.int v12_30) :: (.ref tg) :: (.int v14_31) :: (.int v15_32) :: (.ref pe) :: (.int v17_33) :: (.int v18_34) :: (.int v19_35) :: (.int v20_36) :: (.int v21_37) :: (.int v22_38) :: (.ref ml) :: (.ref bg) :: (.ref co) :: (.ref sp) :: (.ref nb0) :: (.ref nb1) :: (.ref nb2) :: (.int (nI nf)) :: (.int (nI bd)) :: (.int (nI mm)) :: (.int v33_39) :: (.ref pl) :: (.ref se) :: (.ref ke) :: (.ref wi) :: (.ref hs) :: (.ref mo) :: (.ref po) :: (.ref nu) :: (.ref pr) :: (.ref sq) :: (.ref xa) :: (.ref sa) :: (.ref n64) :: (.ref m64) :: (.ref ex) :: (.ref wh) :: (.ref sd) :: (.ref tk) :: (.int v52_40) :: (.int v53_41) :: (.int v54_42) :: (.ref hd) :: (.ref ak) :: (.ref ho) :: (.ref ot) :: []) := by rw [he_658]; exact up_self
                      obtain ⟨hq_689, hq_690, hq_691, hq_692, hq_693, hgO, hgA, hgB⟩ := hW.sc hL_h0 hT_h0
                      refine lv_aload_n hx hb dX15_entry_244 rfl (lv_at hl 4 rfl) ?_
                      refine pg_get (ci := 15) (v := .int (nI (ze + 1))) (C := RX15) (T := TX15) (N := 59) hx hb hts it_15 hown hK hP hL_h0 hF_666 rfl 3 (by decide) (hts _ kt_714) (fun _ h9 => h9) rfl dX15_entry_245 ?_
                      refine W.widen (k := 0) (n := 0) (by omega) (by omega) ?_
                      have hR0 := FR.unre hT00 htyU (FR.unre hTU hty hR)
                      have hQna := hR0 na (by rw [hTn0]; simp only [List.mem_cons, List.not_mem_nil, or_false]; omega)
                      have hQva := hR0 va (by rw [hTv0]; simp only [List.mem_cons, List.not_mem_nil, or_false]; omega)
                      exact W.iret (v := (nI (ze + 1))) hx hb hr (fun t ht hWm => ⟨⟨(nI (ze + 1)), (ze + 1), rfl, (Or.inr (Or.inr ⟨hc40, hs5.elim (fun h => val_y1 hx0 hx4 (hs5n h) (by rw [← hk0e h]; exact hn1)) (fun h => val_y2 hx0 hx4 (hs5x h) (hfst h) (by rw [← hk1e h]; exact hn1) (ho1 h).1), rfl, rfl⟩)), ⟨F_657, ty, (by rw [hty, htyU, rtf_rtf2]), QTm.mk ht hP hD hO hR, hW, ⟨(x1, x2, kend - 0, fc_612, 0, f_654), DIRM.add hDM hO0 hW0 hLn0 hTn0 hLv0 hTv0 (by omega) hR0 hQna hQva (fun k hk => ⟨by simp only [List.mem_cons, List.not_mem_nil, or_false]; omega, by simp only [List.mem_cons, List.not_mem_nil, or_false]; omega⟩) hd1 hd2 hd3 hd4 hF_660 hF_661 ⟨b_599, r_600, hbf_601, hF_662, hF_663, by show kend - 0 ≤ 60; omega⟩ ⟨b_626, r_627, hbf_628, hF_664, hF_665, by show 0 ≤ 700; omega⟩, fun _ => enx4 (hk0e c_648) (hs5n c_648) hn1 hq_615⟩⟩⟩, hS.F ht⟩) hS.2.2 dX15_entry_248
                    ·
                      have h51 := hs5.resolve_left c_648
                      refine lv_aload_n hx hb dX15_entry_213 rfl (lv_at hl 4 rfl) ?_
                      refine pg_get (ci := 15) (v := .ref va) (C := RX15) (T := TX15) (N := 59) hx hb hts it_15 hown hK hP hL_h0 hF_643 rfl 8 (by decide) (hts _ kt_722) (fun _ h9 => h9) rfl dX15_entry_214 ?_
                      refine lv_aload_n hx hb dX15_entry_217 rfl (lv_at hl 4 rfl) ?_
                      refine pg_get (ci := 15) (v := .int (nI ze)) (C := RX15) (T := TX15) (N := 59) hx hb hts it_15 hown hK hP hL_h0 hF_643 rfl 3 (by decide) (hts _ kt_714) (fun _ h9 => h9) rfl dX15_entry_218 ?_
                      refine pg_aald (r := b_626) hx hb hK hP hi_621 7 hF_647 rfl (vp_in_nI (by omega) (by omega)) (show fv ((nI ze) : Int32).toNatClampNeg = _ from by rw [show ((nI ze) : Int32) = nI ze from rfl, nI_clamp (by omega)]; exact hbf_628) dX15_entry_221 ?_
                      refine lv_aload_n hx hb dX15_entry_222 rfl (lv_at hl 4 rfl) ?_
                      refine pg_get (ci := 15) (v := .ref ta) (C := RX15) (T := TX15) (N := 59) hx hb hts it_15 hown hK hP hL_h0 hF_643 rfl 0 (by decide) (hts _ kt_1065) (fun _ h9 => h9) rfl dX15_entry_223 ?_
                      refine lv_iload hx hb dX15_entry_226 (lv_at hl 2 rfl) ?_
                      refine lv_iconst (v := 1) hx hb dX15_entry_228 (by decide) ?_
                      refine lv_iadd hx hb dX15_entry_229 ?_
                      refine lv_topi (fun x_694 ex_694 => ?_)
                      obtain rfl : x_694 = (nI (j + 1)) := ex_694.trans (nI_add j 1)
                      refine lv_iload_n hx hb dX15_entry_230 rfl (lv_at hl 3 rfl) ?_
                      have hFc := pg_free hD hS hA
                      refine va_callv (va_runV (As := [.ref ta, .int (nI (j + 1)), .int (nI zt)]) (rest := []) ⟨hx, hb, hml, hown, hts⟩ (s_X14_set_e l dC dI cs ty gm L H.size F_637 b_626 (ρ + 50 + ze + 100) r_627 700 ta (ρ + 1) 3000 (j + 1) zt gt hW hi_629 ht_630 hi_79 ht_80 hF_642 (by have h9 := hn2 h51; omega) (by omega) (by have h9 := (ho1 h51).2; omega)) ⟨callB_of 3 hts (gi kt_969) rfl rfl rfl (hts _ kt_666) (hts _ kt_970) (by decide +kernel) ⟨Nat.le_of_ble_eq_true rfl, Nat.le_of_ble_eq_true rfl⟩, (hts _ kt_971), (hts _ kt_972)⟩ ⟨fun a U g mk q => ⟨q.1, PTm.calling q.2⟩, pg_recv hK hP hi_629 hF_639 (q := (RX14, TX14, 2)) rfl, fun U hU hWm => ⟨rfl, PTm.mk hU hWm hP hK hD hE hO⟩⟩ rfl rfl hl.1 rfl (lv_room (Nat.le_of_ble_eq_true rfl)) dX15_entry_231 ⟨by show _ + 0 ≤ 0; omega, by show _ + 0 ≤ 0; omega⟩) hS (fun q _ h => hFc q h) hFc (fun u t H1 locs ht hvm hw hB hz1 hk1 hS => ?_)
                      obtain ⟨F_696, fc_697, hB1, hq_698, hq_699, hq_700⟩ := hB
                      obtain ⟨hP, hD, hO, hR⟩ := QTm.back hB1 ht hFc hR (fun q h => by simp only [List.mem_cons, List.not_mem_nil, or_false] at h ⊢; omega)
                      have hF_701 : F_696 ad = .inl (cs 16, 40, .inl (upd fd ze x2)) := (hB1.2.2.2 ad (by rw [ht_86]; simp only [List.mem_cons, List.not_mem_nil, or_false]; omega)).trans hF_640
                      have hF_702 : F_696 so = .inl (cs 16, 40, .inl (upd fs ze x1)) := (hB1.2.2.2 so (by rw [ht_83]; simp only [List.mem_cons, List.not_mem_nil, or_false]; omega)).trans hF_641
                      have hF_703 : F_696 ta = .inl (cs 17, 3000, .inl gt) := (hB1.2.2.2 ta (by rw [ht_80]; simp only [List.mem_cons, List.not_mem_nil, or_false]; omega)).trans hF_642
                      have hF_704 : F_696 h0 = .inr (15, (.ref ta) :: (.int 0) :: (.int (nI zo_28)) :: (.int (nI ze)) :: (.ref ou) :: (.ref so) :: (.ref ad) :: (.ref na) :: (.ref va) :: (.ref lc) :: (.ref dm) :: (.int v11_29) :: (.int v12_30) :: (.ref tg) :: (.int v14_31) :: (.int v15_32) :: (.ref pe) :: (.int v17_33) :: (.int v18_34) :: (.int v19_35) :: (.int v20_36) :: (.int v21_37) :: (.int v22_38) :: (.ref ml) :: (.ref bg) :: (.ref co) :: (.ref sp) :: (.ref nb0) :: (.ref nb1) :: (.ref nb2) :: (.int (nI nf)) :: (.int (nI bd)) :: (.int (nI mm)) :: (.int v33_39) :: (.ref pl) :: (.ref se) :: (.ref ke) :: (.ref wi) :: (.ref hs) :: (.ref mo) :: (.ref po) :: (.ref nu) :: (.ref pr) :: (.ref sq) :: (.ref xa) :: (.ref sa) :: (.ref n64) :: (.ref m64) :: (.ref ex) :: (.ref wh) :: (.ref sd) :: (.ref tk) :: (.int v52_40) :: (.int v53_41) :: (.int v54_42) :: (.ref hd) :: (.ref ak) :: (.ref ho) :: (.ref ot) :: []) := (hB1.2.2.2 h0 (by rw [hT_h0]; simp only [List.mem_cons, List.not_mem_nil, or_false]; omega)).trans hF_643
                      have hF_705 : F_696 na = .inl (cs 23, 40, .inr (.inr (.inr (.inr fn)))) := (hB1.2.2.2 na (by rw [ht_595]; simp only [List.mem_cons, List.not_mem_nil, or_false]; omega)).trans hF_644
                      have hF_706 : F_696 b_599 = .inr (14, [.ref r_600, .int (nI (kend - 0))]) := (hB1.2.2.2 b_599 (by rw [ht_603]; simp only [List.mem_cons, List.not_mem_nil, or_false]; omega)).trans hF_645
                      have hF_707 : F_696 r_600 = .inl (cs 17, 60, .inl fc_612) := (hB1.2.2.2 r_600 (by rw [ht_605]; simp only [List.mem_cons, List.not_mem_nil, or_false]; omega)).trans hF_646
                      have hF_708 : F_696 va = .inl (cs 23, 40, .inr (.inr (.inr (.inr fv)))) := (hB1.2.2.2 va (by rw [ht_622]; simp only [List.mem_cons, List.not_mem_nil, or_false]; omega)).trans hF_647
                      generalize H1 = H at hP hS ⊢
                      refine lv_aload_n hx hb dX15_entry_234 rfl (lv_at hl 4 rfl) ?_
                      refine lv_dup hx hb dX15_entry_235 rfl ?_
                      refine pg_get (ci := 15) (v := .int (nI ze)) (C := RX15) (T := TX15) (N := 59) hx hb hts it_15 hown hK hP hL_h0 hF_704 rfl 3 (by decide) (hts _ kt_714) (fun _ h9 => h9) rfl dX15_entry_236 ?_
                      refine lv_iconst (v := 1) hx hb dX15_entry_239 (by decide) ?_
                      refine lv_iadd hx hb dX15_entry_240 ?_
                      refine lv_topi (fun x_709 ex_709 => ?_)
                      obtain rfl : x_709 = (nI (ze + 1)) := ex_709.trans (nI_add ze 1)
                      have htyU := hty
                      have hTU := hT_h0
                      obtain ⟨hq_710, hq_711⟩ := hW.octs hi_604 ht_605
                      obtain ⟨hq_712, hq_713⟩ := hW.octs hi_631 ht_632
                      refine pg_put (ci := 15) (v := .int (nI (ze + 1))) (ty := .int) (C := RX15) (T := TX15) (N := 59) hx hb hts it_15 tyX15 tyX15_ok nmX15 hown hK hP hD hS hL_h0 hF_704 rfl 3 (by decide) (hts _ kt_714) (fun _ h9 => h9) rfl (by decide +kernel) (rfl) (rfl) (Nat.le_of_ble_eq_true rfl) dX15_entry_241 (fun H locs hP hD hS => ?_)
                      obtain ⟨F_714, he_715, hP, hD, hR⟩ : ∃ G, G = va_up F_696 h0 (.inr (15, (.ref ta) :: (.int 0) :: (.int (nI zo_28)) :: (.int (nI (ze + 1))) :: (.ref ou) :: (.ref so) :: (.ref ad) :: (.ref na) :: (.ref va) :: (.ref lc) :: (.ref dm) :: (.int v11_29) :: (.int v12_30) :: (.ref tg) :: (.int v14_31) :: (.int v15_32) :: (.ref pe) :: (.int v17_33) :: (.int v18_34) :: (.int v19_35) :: (.int v20_36) :: (.int v21_37) :: (.int v22_38) :: (.ref ml) :: (.ref bg) :: (.ref co) :: (.ref sp) :: (.ref nb0) :: (.ref nb1) :: (.ref nb2) :: (.int (nI nf)) :: (.int (nI bd)) :: (.int (nI mm)) :: (.int v33_39) :: (.ref pl) :: (.ref se) :: (.ref ke) :: (.ref wi) :: (.ref hs) :: (.ref mo) :: (.ref po) :: (.ref nu) :: (.ref pr) :: (.ref sq) :: (.ref xa) :: (.ref sa) :: (.ref n64) :: (.ref m64) :: (.ref ex) :: (.ref wh) :: (.ref sd) :: (.ref tk) :: (.int v52_40) :: (.int v53_41) :: (.int v54_42) :: (.ref hd) :: (.ref ak) :: (.ref ho) :: (.ref ot) :: [])) ∧ va_P (dC, dI) vwCl (va_pl L G) H ∧ va_D A (va_pl L G) ∧ FR ty [ρ, ρ + 3, ρ + 31, ρ + 4 + ze + 100, ρ + 50 + ze + 100] F G := ⟨_, rfl, hP, hD, hR.up hT_h0 (by simp)⟩
                      have hF_716 : F_714 ta = .inl (cs 17, 3000, .inl gt) := by rw [he_715, up_ne (ne_ty ht_80 hT_h0 (by simp))]; exact hF_703
                      have hF_717 : F_714 so = .inl (cs 16, 40, .inl (upd fs ze x1)) := by rw [he_715, up_ne (ne_ty ht_83 hT_h0 (by simp))]; exact hF_702
                      have hF_718 : F_714 ad = .inl (cs 16, 40, .inl (upd fd ze x2)) := by rw [he_715, up_ne (ne_ty ht_86 hT_h0 (by simp))]; exact hF_701
                      have hF_719 : F_714 b_599 = .inr (14, [.ref r_600, .int (nI (kend - 0))]) := by rw [he_715, up_ne (ne_ty ht_603 hT_h0 (by simp))]; exact hF_706
                      have hF_720 : F_714 r_600 = .inl (cs 17, 60, .inl fc_612) := by rw [he_715, up_ne (ne_ty ht_605 hT_h0 (by simp))]; exact hF_707
                      have hF_721 : F_714 b_626 = .inr (14, [.ref r_627, .int (nI (zt - (j + 1)))]) := by rw [he_715, up_ne (ne_ty ht_630 hT_h0 (by simp))]; exact hq_698
                      have hF_722 : F_714 r_627 = .inl (cs 17, 700, .inl fc_697) := by rw [he_715, up_ne (ne_ty ht_632 hT_h0 (by simp))]; exact hq_699
                      obtain ⟨ty, hty, hT_h0, hW, hO, hR⟩ : ∃ t9 : TyM, t9 = rtf ty h0 (15, ρ, [ta, ou, so, ad, na, va, lc, dm, tg, pe, ml, bg, co, sp, nb0, nb1, nb2, pl, se, ke, wi, hs, mo, po, nu, pr, sq, xa, sa, n64, m64, ex, wh, sd, tk, hd, ak, ho, ot, sx, s0, s1, s2, nf, bd, mm, (ze + 1), 0]) ∧ t9 h0 = (15, ρ, [ta, ou, so, ad, na, va, lc, dm, tg, pe, ml, bg, co, sp, nb0, nb1, nb2, pl, se, ke, wi, hs, mo, po, nu, pr, sq, xa, sa, n64, m64, ex, wh, sd, tk, hd, ak, ho, ot, sx, s0, s1, s2, nf, bd, mm, (ze + 1), 0]) ∧ WTm t9 gm L ∧ OKm cs t9 gm L F_714 ∧ FR t9 [ρ, ρ + 3, ρ + 31, ρ + 4 + ze + 100, ρ + 50 + ze + 100] F F_714 := ⟨_, rfl, rtf_self, hW.ze hL_h0 hT_h0, (by rw [he_715]; exact OKm.retype hO hT_h0 (shm.mod rtf_self ⟨zo_28, v11_29, v12_30, v14_31, v15_32, v17_33, v18_34, v19_35, v20_36, v21_37, v22_38, v33_39, v52_40, v53_41, v54_42, rfl, (by first | omega | assumption | exact Or.inl rfl | exact Or.inr rfl), (by first | omega | assumption | exact Or.inl rfl | exact Or.inr rfl), (by first | omega | assumption | exact Or.inl rfl | exact Or.inr rfl), (by first | omega | assumption | exact Or.inl rfl | exact Or.inr rfl)⟩)), FR.retype hT_h0 hR⟩
                      have hF_723 : F_714 h0 = .inr (15, (.ref ta) :: (.int 0) :: (.int (nI zo_28)) :: (.int (nI (ze + 1))) :: (.ref ou) :: (.ref so) :: (.ref ad) :: (.ref na) :: (.ref va) :: (.ref lc) :: (.ref dm) :: (.int v11_29) :: (.int v12_30) :: (.ref tg) :: (.int v14_31) :: (.int v15_32) :: (.ref pe) :: (.int v17_33) :: (.int v18_34) :: (.int v19_35) :: (.int v20_36) :: (.int v21_37) :: (.int v22_38) :: (.ref ml) :: (.ref bg) :: (.ref co) :: (.ref sp) :: (.ref nb0) :: (.ref nb1) :: (.ref nb2) :: (.int (nI nf)) :: (.int (nI bd)) :: (.int (nI mm)) :: (.int v33_39) :: (.ref pl) :: (.ref se) :: (.ref ke) :: (.ref wi) :: (.ref hs) :: (.ref mo) :: (.ref po) :: (.ref nu) :: (.ref pr) :: (.ref sq) :: (.ref xa) :: (.ref sa) :: (.ref n64) :: (.ref m64) :: (.ref ex) :: (.ref wh) :: (.ref sd) :: (.ref tk) :: (.int v52_40) :: (.int v53_41) :: (.int v54_42) :: (.ref hd) :: (.ref ak) :: (.ref ho) :: (.ref ot) :: []) := by rw [he_715]; exact up_self
                      obtain ⟨hq_746, hq_747, hq_748, hq_749, hq_750, hgO, hgA, hgB⟩ := hW.sc hL_h0 hT_h0
                      refine lv_aload_n hx hb dX15_entry_244 rfl (lv_at hl 4 rfl) ?_
                      refine pg_get (ci := 15) (v := .int (nI (ze + 1))) (C := RX15) (T := TX15) (N := 59) hx hb hts it_15 hown hK hP hL_h0 hF_723 rfl 3 (by decide) (hts _ kt_714) (fun _ h9 => h9) rfl dX15_entry_245 ?_
                      refine W.widen (k := 0) (n := 0) (by omega) (by omega) ?_
                      have hR0 := FR.unre hT00 htyU (FR.unre hTU hty hR)
                      have hQna := hR0 na (by rw [hTn0]; simp only [List.mem_cons, List.not_mem_nil, or_false]; omega)
                      have hQva := hR0 va (by rw [hTv0]; simp only [List.mem_cons, List.not_mem_nil, or_false]; omega)
                      exact W.iret (v := (nI (ze + 1))) hx hb hr (fun t ht hWm => ⟨⟨(nI (ze + 1)), (ze + 1), rfl, (Or.inr (Or.inr ⟨hc40, hs5.elim (fun h => val_y1 hx0 hx4 (hs5n h) (by rw [← hk0e h]; exact hn1)) (fun h => val_y2 hx0 hx4 (hs5x h) (hfst h) (by rw [← hk1e h]; exact hn1) (ho1 h).1), rfl, rfl⟩)), ⟨F_714, ty, (by rw [hty, htyU, rtf_rtf2]), QTm.mk ht hP hD hO hR, hW, ⟨(x1, x2, kend - 0, fc_612, zt - (j + 1), fc_697), DIRM.add hDM hO0 hW0 hLn0 hTn0 hLv0 hTv0 (by omega) hR0 hQna hQva (fun k hk => ⟨by simp only [List.mem_cons, List.not_mem_nil, or_false]; omega, by simp only [List.mem_cons, List.not_mem_nil, or_false]; omega⟩) hd1 hd2 hd3 hd4 hF_717 hF_718 ⟨b_599, r_600, hbf_601, hF_719, hF_720, by show kend - 0 ≤ 60; omega⟩ ⟨b_626, r_627, hbf_628, hF_721, hF_722, by show zt - (j + 1) ≤ 700; have h9 := (ho1 h51).2; omega⟩, fun _ => enx3 (hk1e h51) (hs5x h51) (hfst h51) hn1 (ho1 h51).1 hq_615 hq_700⟩⟩⟩, hS.F ht⟩) hS.2.2 dX15_entry_248
                  ·
                    refine lv_iload_n hx hb dX15_entry_118 rfl (lv_at hl 5 rfl) ?_
                    refine lv_iconst (v := 2) hx hb dX15_entry_119 (by decide) ?_
                    refine lv_icmp_ne (tgt := 138) hx hb dX15_entry_120 (by decide) (fun c_751 => ?_) (fun c_751 => ?_)
                    ·
                      refine lv_iload_n hx hb dX15_entry_138 rfl (lv_at hl 5 rfl) ?_
                      refine lv_if_ne (tgt := 156) hx hb dX15_entry_139 (by decide) (fun c_752 => ?_) (fun c_752 => ?_)
                      ·
                        refine W.widen (k := 0) (n := 0) (by omega) (by omega) ?_
                        exact jn_575 () F_571 (⟨fun h => absurd (hs5x h) (fun q => q.elim c_752 c_751), hn3, hn3so, hn3ad⟩) hO hR _ _ hP hD hS ls (lv_sub hl [0, 1, 2, 3, 4, 5, 6] rfl)
                      ·
                        have h51 : s5 = 1 := hs5.resolve_left (fun q => hs5n q (Or.inl c_752))
                        have hkz := hn2 h51
                        refine lv_iload_n hx hb dX15_entry_142 rfl (lv_at hl 3 rfl) ?_
                        refine lv_iload hx hb dX15_entry_143 (lv_at hl 2 rfl) ?_
                        refine lv_isub hx hb dX15_entry_145 ?_
                        refine lv_topi (fun x_753 ex_753 => ?_)
                        obtain rfl : x_753 = (nI (zt - j)) := ex_753.trans (pk_sub (a := zt) (b := j) (by omega))
                        refine lv_iconst (v := 1) hx hb dX15_entry_146 (by decide) ?_
                        refine lv_isub hx hb dX15_entry_147 ?_
                        refine lv_topi (fun x_754 ex_754 => ?_)
                        obtain rfl : x_754 = (nI ((zt - j) - 1)) := ex_754.trans (pk_sub (a := (zt - j)) (b := 1) (by omega))
                        refine lv_sipush (v := 700) hx hb dX15_entry_148 (by decide) ?_
                        refine lv_icmp_le (tgt := 156) hx hb dX15_entry_151 (by decide) (fun c_755 => ?_) (fun c_755 => ?_)
                        ·
                          have hi_756 : ((zt - j) - 1) ≤ 700 := (nI_leI (a := ((zt - j) - 1)) (b := 700) (by omega) (by omega)).mp c_755
                          refine W.widen (k := 0) (n := 0) (by omega) (by omega) ?_
                          exact jn_575 () F_571 (⟨fun _ => ⟨⟨by omega, fun q => absurd (q.symm.trans c_752) (by decide), fun _ => by omega⟩, by omega⟩, hn3, hn3so, hn3ad⟩) hO hR _ _ hP hD hS ls (lv_sub hl [0, 1, 2, 3, 4, 5, 6] rfl)
                        ·
                          have hi_757 : 700 < ((zt - j) - 1) := Nat.not_le.mp (fun q => c_755 ((nI_leI (a := ((zt - j) - 1)) (b := 700) (by omega) (by omega)).mpr q))
                          refine lv_iconst (v := (-1)) hx hb dX15_entry_154 (by decide) ?_
                          refine W.widen (k := 0) (n := 0) (by omega) (by omega) ?_
                          have hR0 := FR.unre hT00 hty hR
                          have hQna := hR0 na (by rw [hTn0]; simp only [List.mem_cons, List.not_mem_nil, or_false]; omega)
                          have hQva := hR0 va (by rw [hTv0]; simp only [List.mem_cons, List.not_mem_nil, or_false]; omega)
                          exact W.iret (v := (-1)) hx hb hr (fun t ht hWm => ⟨⟨(-1), ze, rfl, (Or.inr (Or.inl ⟨hc40, val_nv (Or.inl c_752) (hfst h51) (fun q => absurd (q.2.2 (fun w => absurd (w.symm.trans c_752) (by decide))) (by omega)), rfl, rfl⟩)), ⟨F_571, ty, hty, QTm.mk ht hP hD hO hR, hW, ⟨(0, 0, 0, fun _ => 0, 0, fun _ => 0), DIRM.same (DIRM.fr hDM hO0 hW0 hLn0 hTn0 hLv0 hTv0 (by omega) hR0 (hn3so.trans hd1.symm) (hn3ad.trans hd2.symm) hQna hQva (fun k hk => ⟨by simp only [List.mem_cons, List.not_mem_nil, or_false]; omega, by simp only [List.mem_cons, List.not_mem_nil, or_false]; omega⟩)), fun q => absurd q (by omega)⟩⟩⟩, hS.F ht⟩) hS.2.2 dX15_entry_155
                    ·
                      have h51 : s5 = 1 := hs5.resolve_left (fun q => hs5n q (Or.inr c_751))
                      have hkz := hn2 h51
                      refine lv_aload_n hx hb dX15_entry_123 rfl (lv_at hl 4 rfl) ?_
                      refine pg_get (ci := 15) (v := .ref ta) (C := RX15) (T := TX15) (N := 59) hx hb hts it_15 hown hK hP hL_h0 hn3 rfl 0 (by decide) (hts _ kt_1065) (fun _ h9 => h9) rfl dX15_entry_124 ?_
                      refine lv_iload hx hb dX15_entry_127 (lv_at hl 2 rfl) ?_
                      refine lv_iconst (v := 1) hx hb dX15_entry_129 (by decide) ?_
                      refine lv_iadd hx hb dX15_entry_130 ?_
                      refine lv_topi (fun x_758 ex_758 => ?_)
                      obtain rfl : x_758 = (nI (j + 1)) := ex_758.trans (nI_add j 1)
                      refine lv_iload_n hx hb dX15_entry_131 rfl (lv_at hl 3 rfl) ?_
                      have hFc := pg_free hD hS hA
                      refine va_calli (va_runS (As := [.ref ta, .int (nI (j + 1)), .int (nI zt)]) (rest := []) ⟨hx, hb, hml, hown, hts⟩ (s_X14_isName_e l dC dI cs ty gm L H.size F_571 ta (ρ + 1) 3000 (j + 1) zt gt hW hi_79 ht_80 hF_574 (by first | omega | assumption) (by first | omega | assumption)) ⟨callB_of 3 hts (gi kt_679) rfl rfl rfl (hts _ kt_666) (hts _ kt_853) (by decide +kernel) ⟨Nat.le_of_ble_eq_true rfl, Nat.le_of_ble_eq_true rfl⟩, (hts _ kt_681)⟩ ⟨fun a U g mk q => ⟨q.1, PTm.calling q.2⟩, fun U hU hWm => ⟨rfl, PTm.mk hU hWm hP hK hD hE hO⟩⟩ rfl rfl hl.1 rfl (lv_room (Nat.le_of_ble_eq_true rfl)) dX15_entry_132 ⟨by show _ + 0 ≤ 0; omega, by show _ + 0 ≤ 0; omega⟩) hS (fun q _ h => hFc q h) hFc (fun r_759 u t H1 locs ht hvm hw hB hz1 hk1 hS => ?_)
                      obtain ⟨F_760, hB1⟩ := hB
                      obtain rfl : F_571 = F_760 := (funext (fun a => hB1.2.2.2 a List.not_mem_nil)).symm
                      obtain ⟨hP, hD, hO, hR⟩ := QTm.back hB1 ht hFc hR (fun q h => absurd h List.not_mem_nil)
                      generalize H1 = H at hP hS ⊢
                      have hw : r_759 = (if NM gt (j + 1) zt = true then 1 else 0) := hw
                      have hw_761 := hw
                      refine lv_if_eq (tgt := 154) hx hb dX15_entry_135 (by decide) (fun c_762 => ?_) (fun c_762 => ?_)
                      ·
                        refine lv_iconst (v := (-1)) hx hb dX15_entry_154 (by decide) ?_
                        refine W.widen (k := 0) (n := 0) (by omega) (by omega) ?_
                        have hR0 := FR.unre hT00 hty hR
                        have hQna := hR0 na (by rw [hTn0]; simp only [List.mem_cons, List.not_mem_nil, or_false]; omega)
                        have hQva := hR0 va (by rw [hTv0]; simp only [List.mem_cons, List.not_mem_nil, or_false]; omega)
                        exact W.iret (v := (-1)) hx hb hr (fun t ht hWm => ⟨⟨(-1), ze, rfl, (Or.inr (Or.inl ⟨hc40, val_nv (Or.inr c_751) (hfst h51) (fun q => ifb0 hw_761 c_762 (q.2.1 c_751)), rfl, rfl⟩)), ⟨F_571, ty, hty, QTm.mk ht hP hD hO hR, hW, ⟨(0, 0, 0, fun _ => 0, 0, fun _ => 0), DIRM.same (DIRM.fr hDM hO0 hW0 hLn0 hTn0 hLv0 hTv0 (by omega) hR0 (hn3so.trans hd1.symm) (hn3ad.trans hd2.symm) hQna hQva (fun k hk => ⟨by simp only [List.mem_cons, List.not_mem_nil, or_false]; omega, by simp only [List.mem_cons, List.not_mem_nil, or_false]; omega⟩)), fun q => absurd q (by omega)⟩⟩⟩, hS.F ht⟩) hS.2.2 dX15_entry_155
                      ·
                        refine lv_iload_n hx hb dX15_entry_138 rfl (lv_at hl 5 rfl) ?_
                        refine lv_if_ne (tgt := 156) hx hb dX15_entry_139 (by decide) (fun c_763 => ?_) (fun c_763 => ?_)
                        ·
                          refine W.widen (k := 0) (n := 0) (by omega) (by omega) ?_
                          exact jn_575 () F_571 (⟨fun _ => ⟨⟨by omega, fun _ => ifb1 hw_761 c_762, fun q => absurd c_751 q⟩, by have h9 := nm_60 (ifb1 hw_761 c_762); omega⟩, hn3, hn3so, hn3ad⟩) hO hR _ _ hP hD hS ls (lv_sub hl [0, 1, 2, 3, 4, 5, 6] rfl)
                        ·
                          have h51 : s5 = 1 := hs5.resolve_left (fun q => hs5n q (Or.inl c_763))
                          have hkz := hn2 h51
                          refine lv_iload_n hx hb dX15_entry_142 rfl (lv_at hl 3 rfl) ?_
                          refine lv_iload hx hb dX15_entry_143 (lv_at hl 2 rfl) ?_
                          refine lv_isub hx hb dX15_entry_145 ?_
                          refine lv_topi (fun x_764 ex_764 => ?_)
                          obtain rfl : x_764 = (nI (zt - j)) := ex_764.trans (pk_sub (a := zt) (b := j) (by omega))
                          refine lv_iconst (v := 1) hx hb dX15_entry_146 (by decide) ?_
                          refine lv_isub hx hb dX15_entry_147 ?_
                          refine lv_topi (fun x_765 ex_765 => ?_)
                          obtain rfl : x_765 = (nI ((zt - j) - 1)) := ex_765.trans (pk_sub (a := (zt - j)) (b := 1) (by omega))
                          refine lv_sipush (v := 700) hx hb dX15_entry_148 (by decide) ?_
                          refine lv_icmp_le (tgt := 156) hx hb dX15_entry_151 (by decide) (fun c_766 => ?_) (fun c_766 => ?_)
                          ·
                            have hi_767 : ((zt - j) - 1) ≤ 700 := (nI_leI (a := ((zt - j) - 1)) (b := 700) (by omega) (by omega)).mp c_766
                            refine W.widen (k := 0) (n := 0) (by omega) (by omega) ?_
                            exact jn_575 () F_571 (⟨fun _ => ⟨⟨by omega, fun q => absurd (q.symm.trans c_763) (by decide), fun _ => by omega⟩, by omega⟩, hn3, hn3so, hn3ad⟩) hO hR _ _ hP hD hS ls (lv_sub hl [0, 1, 2, 3, 4, 5, 6] rfl)
                          ·
                            have hi_768 : 700 < ((zt - j) - 1) := Nat.not_le.mp (fun q => c_766 ((nI_leI (a := ((zt - j) - 1)) (b := 700) (by omega) (by omega)).mpr q))
                            refine lv_iconst (v := (-1)) hx hb dX15_entry_154 (by decide) ?_
                            refine W.widen (k := 0) (n := 0) (by omega) (by omega) ?_
                            have hR0 := FR.unre hT00 hty hR
                            have hQna := hR0 na (by rw [hTn0]; simp only [List.mem_cons, List.not_mem_nil, or_false]; omega)
                            have hQva := hR0 va (by rw [hTv0]; simp only [List.mem_cons, List.not_mem_nil, or_false]; omega)
                            exact W.iret (v := (-1)) hx hb hr (fun t ht hWm => ⟨⟨(-1), ze, rfl, (Or.inr (Or.inl ⟨hc40, val_nv (Or.inl c_763) (hfst h51) (fun q => absurd (q.2.2 (fun w => absurd (w.symm.trans c_763) (by decide))) (by omega)), rfl, rfl⟩)), ⟨F_571, ty, hty, QTm.mk ht hP hD hO hR, hW, ⟨(0, 0, 0, fun _ => 0, 0, fun _ => 0), DIRM.same (DIRM.fr hDM hO0 hW0 hLn0 hTn0 hLv0 hTv0 (by omega) hR0 (hn3so.trans hd1.symm) (hn3ad.trans hd2.symm) hQna hQva (fun k hk => ⟨by simp only [List.mem_cons, List.not_mem_nil, or_false]; omega, by simp only [List.mem_cons, List.not_mem_nil, or_false]; omega⟩)), fun q => absurd q (by omega)⟩⟩⟩, hS.F ht⟩) hS.2.2 dX15_entry_155
                ·
                  refine lv_iload hx hb dX15_entry_92 (lv_at hl 1 rfl) ?_
                  refine lv_if_eq (tgt := 103) hx hb dX15_entry_94 (by decide) (fun c_769 => ?_) (fun c_769 => ?_)
                  ·
                    refine lv_aload_n hx hb dX15_entry_103 rfl (lv_at hl 4 rfl) ?_
                    refine pg_get (ci := 15) (v := .ref ta) (C := RX15) (T := TX15) (N := 59) hx hb hts it_15 hown hK hP hL_h0 hb2 rfl 0 (by decide) (hts _ kt_1065) (fun _ h9 => h9) rfl dX15_entry_104 ?_
                    refine lv_iconst (v := 0) hx hb dX15_entry_107 (by decide) ?_
                    refine lv_iload hx hb dX15_entry_108 (lv_at hl 0 rfl) ?_
                    refine W.eq (g2 := F0 m 110 ls [.int (nI kend), .int (nI 0), .ref ta]) rfl ?_
                    have hFc := pg_free hD hS hA
                    refine va_calli (va_runS (As := [.ref ta, .int (nI 0), .int (nI kend)]) (rest := []) ⟨hx, hb, hml, hown, hts⟩ (s_X14_isName_e l dC dI cs ty gm L H.size F_566 ta (ρ + 1) 3000 0 kend gt hW hi_79 ht_80 hF_569 (by first | omega | assumption) (by first | omega | assumption)) ⟨callB_of 3 hts (gi kt_679) rfl rfl rfl (hts _ kt_666) (hts _ kt_853) (by decide +kernel) ⟨Nat.le_of_ble_eq_true rfl, Nat.le_of_ble_eq_true rfl⟩, (hts _ kt_681)⟩ ⟨fun a U g mk q => ⟨q.1, PTm.calling q.2⟩, fun U hU hWm => ⟨rfl, PTm.mk hU hWm hP hK hD hE hO⟩⟩ rfl rfl hl.1 rfl (lv_room (Nat.le_of_ble_eq_true rfl)) dX15_entry_110 ⟨by show _ + 0 ≤ 0; omega, by show _ + 0 ≤ 0; omega⟩) hS (fun q _ h => hFc q h) hFc (fun r_770 u t H1 locs ht hvm hw hB hz1 hk1 hS => ?_)
                    obtain ⟨F_771, hB1⟩ := hB
                    obtain rfl : F_566 = F_771 := (funext (fun a => hB1.2.2.2 a List.not_mem_nil)).symm
                    obtain ⟨hP, hD, hO, hR⟩ := QTm.back hB1 ht hFc hR (fun q h => absurd h List.not_mem_nil)
                    generalize H1 = H at hP hS ⊢
                    have hw : r_770 = (if NM gt 0 kend = true then 1 else 0) := hw
                    have hw_772 := hw
                    refine lv_if_ne (tgt := 118) hx hb dX15_entry_113 (by decide) (fun c_773 => ?_) (fun c_773 => ?_)
                    ·
                      refine W.widen (k := 0) (n := 0) (by omega) (by omega) ?_
                      exact jn_570 () F_566 (⟨ifb1 hw_772 c_773, nm_60 (ifb1 hw_772 c_773), fun h => absurd (h.symm.trans c_769) (by decide), hb2, hb2so, hb2ad⟩) hO hR _ _ hP hD hS ls (lv_sub hl [0, 1, 2, 3, 4, 5, 6] rfl)
                    ·
                      refine lv_iconst (v := (-1)) hx hb dX15_entry_116 (by decide) ?_
                      refine W.widen (k := 0) (n := 0) (by omega) (by omega) ?_
                      have hR0 := FR.unre hT00 hty hR
                      have hQna := hR0 na (by rw [hTn0]; simp only [List.mem_cons, List.not_mem_nil, or_false]; omega)
                      have hQva := hR0 va (by rw [hTv0]; simp only [List.mem_cons, List.not_mem_nil, or_false]; omega)
                      exact W.iret (v := (-1)) hx hb hr (fun t ht hWm => ⟨⟨(-1), ze, rfl, (Or.inr (Or.inl ⟨hc40, val_nz (hs5n c_769) (by rw [← hk0e c_769]; exact (ifb0 hw_772 c_773)), rfl, rfl⟩)), ⟨F_566, ty, hty, QTm.mk ht hP hD hO hR, hW, ⟨(0, 0, 0, fun _ => 0, 0, fun _ => 0), DIRM.same (DIRM.fr hDM hO0 hW0 hLn0 hTn0 hLv0 hTv0 (by omega) hR0 (hb2so.trans hd1.symm) (hb2ad.trans hd2.symm) hQna hQva (fun k hk => ⟨by simp only [List.mem_cons, List.not_mem_nil, or_false]; omega, by simp only [List.mem_cons, List.not_mem_nil, or_false]; omega⟩)), fun q => absurd q (by omega)⟩⟩⟩, hS.F ht⟩) hS.2.2 dX15_entry_117
                  ·
                    refine lv_iload hx hb dX15_entry_97 (lv_at hl 2 rfl) ?_
                    refine lv_iload_n hx hb dX15_entry_99 rfl (lv_at hl 3 rfl) ?_
                    refine lv_icmp_eq (tgt := 116) hx hb dX15_entry_100 (by decide) (fun c_774 => ?_) (fun c_774 => ?_)
                    ·
                      have hi_775 : j = zt := (nI_eq (a := j) (b := zt) (by omega) (by omega)).mp c_774
                      refine lv_iconst (v := (-1)) hx hb dX15_entry_116 (by decide) ?_
                      refine W.widen (k := 0) (n := 0) (by omega) (by omega) ?_
                      have hR0 := FR.unre hT00 hty hR
                      have hQna := hR0 na (by rw [hTn0]; simp only [List.mem_cons, List.not_mem_nil, or_false]; omega)
                      have hQva := hR0 va (by rw [hTv0]; simp only [List.mem_cons, List.not_mem_nil, or_false]; omega)
                      exact W.iret (v := (-1)) hx hb hr (fun t ht hWm => ⟨⟨(-1), ze, rfl, (Or.inr (Or.inl ⟨hc40, val_nv (hs5x (hs5.resolve_left c_769)) (hfst (hs5.resolve_left c_769)) (fun q => q.1 (by omega)), rfl, rfl⟩)), ⟨F_566, ty, hty, QTm.mk ht hP hD hO hR, hW, ⟨(0, 0, 0, fun _ => 0, 0, fun _ => 0), DIRM.same (DIRM.fr hDM hO0 hW0 hLn0 hTn0 hLv0 hTv0 (by omega) hR0 (hb2so.trans hd1.symm) (hb2ad.trans hd2.symm) hQna hQva (fun k hk => ⟨by simp only [List.mem_cons, List.not_mem_nil, or_false]; omega, by simp only [List.mem_cons, List.not_mem_nil, or_false]; omega⟩)), fun q => absurd q (by omega)⟩⟩⟩, hS.F ht⟩) hS.2.2 dX15_entry_117
                    ·
                      have hi_776 : j ≠ zt := fun q => c_774 (by rw [q])
                      refine lv_aload_n hx hb dX15_entry_103 rfl (lv_at hl 4 rfl) ?_
                      refine pg_get (ci := 15) (v := .ref ta) (C := RX15) (T := TX15) (N := 59) hx hb hts it_15 hown hK hP hL_h0 hb2 rfl 0 (by decide) (hts _ kt_1065) (fun _ h9 => h9) rfl dX15_entry_104 ?_
                      refine lv_iconst (v := 0) hx hb dX15_entry_107 (by decide) ?_
                      refine lv_iload hx hb dX15_entry_108 (lv_at hl 0 rfl) ?_
                      refine W.eq (g2 := F0 m 110 ls [.int (nI kend), .int (nI 0), .ref ta]) rfl ?_
                      have hFc := pg_free hD hS hA
                      refine va_calli (va_runS (As := [.ref ta, .int (nI 0), .int (nI kend)]) (rest := []) ⟨hx, hb, hml, hown, hts⟩ (s_X14_isName_e l dC dI cs ty gm L H.size F_566 ta (ρ + 1) 3000 0 kend gt hW hi_79 ht_80 hF_569 (by first | omega | assumption) (by first | omega | assumption)) ⟨callB_of 3 hts (gi kt_679) rfl rfl rfl (hts _ kt_666) (hts _ kt_853) (by decide +kernel) ⟨Nat.le_of_ble_eq_true rfl, Nat.le_of_ble_eq_true rfl⟩, (hts _ kt_681)⟩ ⟨fun a U g mk q => ⟨q.1, PTm.calling q.2⟩, fun U hU hWm => ⟨rfl, PTm.mk hU hWm hP hK hD hE hO⟩⟩ rfl rfl hl.1 rfl (lv_room (Nat.le_of_ble_eq_true rfl)) dX15_entry_110 ⟨by show _ + 0 ≤ 0; omega, by show _ + 0 ≤ 0; omega⟩) hS (fun q _ h => hFc q h) hFc (fun r_777 u t H1 locs ht hvm hw hB hz1 hk1 hS => ?_)
                      obtain ⟨F_778, hB1⟩ := hB
                      obtain rfl : F_566 = F_778 := (funext (fun a => hB1.2.2.2 a List.not_mem_nil)).symm
                      obtain ⟨hP, hD, hO, hR⟩ := QTm.back hB1 ht hFc hR (fun q h => absurd h List.not_mem_nil)
                      generalize H1 = H at hP hS ⊢
                      have hw : r_777 = (if NM gt 0 kend = true then 1 else 0) := hw
                      have hw_779 := hw
                      refine lv_if_ne (tgt := 118) hx hb dX15_entry_113 (by decide) (fun c_780 => ?_) (fun c_780 => ?_)
                      ·
                        refine W.widen (k := 0) (n := 0) (by omega) (by omega) ?_
                        exact jn_570 () F_566 (⟨ifb1 hw_779 c_780, nm_60 (ifb1 hw_779 c_780), fun _ => by omega, hb2, hb2so, hb2ad⟩) hO hR _ _ hP hD hS ls (lv_sub hl [0, 1, 2, 3, 4, 5, 6] rfl)
                      ·
                        refine lv_iconst (v := (-1)) hx hb dX15_entry_116 (by decide) ?_
                        refine W.widen (k := 0) (n := 0) (by omega) (by omega) ?_
                        have hR0 := FR.unre hT00 hty hR
                        have hQna := hR0 na (by rw [hTn0]; simp only [List.mem_cons, List.not_mem_nil, or_false]; omega)
                        have hQva := hR0 va (by rw [hTv0]; simp only [List.mem_cons, List.not_mem_nil, or_false]; omega)
                        exact W.iret (v := (-1)) hx hb hr (fun t ht hWm => ⟨⟨(-1), ze, rfl, (Or.inr (Or.inl ⟨hc40, val_nn (hs5x (hs5.resolve_left c_769)) (hfst (hs5.resolve_left c_769)) (by rw [← hk1e (hs5.resolve_left c_769)]; exact (ifb0 hw_779 c_780)), rfl, rfl⟩)), ⟨F_566, ty, hty, QTm.mk ht hP hD hO hR, hW, ⟨(0, 0, 0, fun _ => 0, 0, fun _ => 0), DIRM.same (DIRM.fr hDM hO0 hW0 hLn0 hTn0 hLv0 hTv0 (by omega) hR0 (hb2so.trans hd1.symm) (hb2ad.trans hd2.symm) hQna hQva (fun k hk => ⟨by simp only [List.mem_cons, List.not_mem_nil, or_false]; omega, by simp only [List.mem_cons, List.not_mem_nil, or_false]; omega⟩)), fun q => absurd q (by omega)⟩⟩⟩, hS.F ht⟩) hS.2.2 dX15_entry_117
              ·
                refine lv_iload hx hb dX15_entry_79 (lv_at hl 0 rfl) ?_
                refine lv_if_eq (tgt := 89) hx hb dX15_entry_81 (by decide) (fun c_781 => ?_) (fun c_781 => ?_)
                ·
                  refine lv_iload_n hx hb dX15_entry_89 rfl (lv_at hl 2 rfl) ?_
                  refine W.widen (k := 0) (n := 0) (by omega) (by omega) ?_
                  exact jn_565 (nI zt) F_102 (⟨⟨zt, Nat.le_refl _, rfl, fun h => absurd (h.symm.trans c_781) (by decide), fun _ => rfl⟩, ha2, ha2so, ha2ad⟩) hO hR _ _ hP hD hS ls (lv_sub hl [0, 1, 2, 3, 4, 5] rfl)
                ·
                  refine lv_iload hx hb dX15_entry_84 (lv_at hl 1 rfl) ?_
                  refine lv_goto (tgt := 90) hx hb dX15_entry_86 (by decide) ?_
                  refine W.widen (k := 0) (n := 0) (by omega) (by omega) ?_
                  exact jn_565 (nI j) F_102 (⟨⟨j, by omega, rfl, fun _ => rfl, fun h => absurd h c_781⟩, ha2, ha2so, ha2ad⟩) hO hR _ _ hP hD hS ls (lv_sub hl [0, 1, 2, 3, 4, 5] rfl)
            ·
              refine lv_iinc (v := (nI (j + 1))) (lv' := [(4, .int (nI (j + 1))), (5, .int s5), (3, .int (nI zt)), (0, .ref h0), (1, .int x1), (2, .int x2)]) hx hb dX15_entry_73 hl (k := 1) rfl (nI_1 _) (by decide) rfl (fun ls hl => ?_)
              refine lv_goto (tgt := 50) hx hb dX15_entry_76 (by decide) ?_
              refine W.widen (k := 0) (n := 0) (by omega) (by omega) ?_
              exact ih_105 (j + 1) F_102 (⟨by omega, fun i hi => by rcases Nat.lt_or_ge i j with q | q; exact ha3 i q; rw [show i = j by omega]; exact c_564, ha2, ha2so, ha2ad⟩) (by show zt - (j + 1) < zt - j; omega) hO hR _ _ hP hD hS ls (lv_sub hl [1, 0, 2, 3, 4, 5] rfl)
      ·
        refine lv_iload_n hx hb dX15_entry_34 rfl (lv_at hl 3 rfl) ?_
        refine lv_if_eq (tgt := 43) hx hb dX15_entry_35 (by decide) (fun c_782 => ?_) (fun c_782 => ?_)
        ·
          refine lv_iconst (v := 1) hx hb dX15_entry_43 (by decide) ?_
          refine lv_goto (tgt := 48) hx hb dX15_entry_44 (by decide) ?_
          refine W.widen (k := 0) (n := 0) (by omega) (by omega) ?_
          obtain ⟨hq_783, hq_784⟩ := hW.ints hi_82 ht_83
          obtain ⟨hq_785, hq_786⟩ := hW.ints hi_85 ht_86
          exact jn_93 1 F_49 (⟨Or.inr rfl, fun _ => Or.inl c_782, fun h => absurd h (by decide), hq_50, hF_81, hF_84⟩) hO hR _ _ hP hD hS ls (lv_sub hl [0, 1, 2, 3, 4] rfl)
        ·
          refine lv_iload_n hx hb dX15_entry_38 rfl (lv_at hl 3 rfl) ?_
          refine lv_iconst (v := 2) hx hb dX15_entry_39 (by decide) ?_
          refine lv_icmp_ne (tgt := 47) hx hb dX15_entry_40 (by decide) (fun c_787 => ?_) (fun c_787 => ?_)
          ·
            refine lv_iconst (v := 0) hx hb dX15_entry_47 (by decide) ?_
            refine W.widen (k := 0) (n := 0) (by omega) (by omega) ?_
            obtain ⟨hq_788, hq_789⟩ := hW.ints hi_82 ht_83
            obtain ⟨hq_790, hq_791⟩ := hW.ints hi_85 ht_86
            exact jn_93 0 F_49 (⟨Or.inl rfl, fun h => absurd h (by decide), fun _ q => q.elim c_782 c_787, hq_50, hF_81, hF_84⟩) hO hR _ _ hP hD hS ls (lv_sub hl [0, 1, 2, 3, 4] rfl)
          ·
            refine lv_iconst (v := 1) hx hb dX15_entry_43 (by decide) ?_
            refine lv_goto (tgt := 48) hx hb dX15_entry_44 (by decide) ?_
            refine W.widen (k := 0) (n := 0) (by omega) (by omega) ?_
            obtain ⟨hq_792, hq_793⟩ := hW.ints hi_82 ht_83
            obtain ⟨hq_794, hq_795⟩ := hW.ints hi_85 ht_86
            exact jn_93 1 F_49 (⟨Or.inr rfl, fun _ => Or.inr c_787, fun h => absurd h (by decide), hq_50, hF_81, hF_84⟩) hO hR _ _ hP hD hS ls (lv_sub hl [0, 1, 2, 3, 4] rfl)
    ·
      have hxo := ((in_04 hw_91).resolve_right (fun q => absurd (q.1.symm.trans c_92) (by decide))).2
      refine lv_iconst (v := (-1)) hx hb dX15_entry_32 (by decide) ?_
      refine W.widen (k := 0) (n := 0) (by omega) (by omega) ?_
      have hR0 := FR.unre hT00 hty hR
      have hQna := hR0 na (by rw [hTn0]; simp only [List.mem_cons, List.not_mem_nil, or_false]; omega)
      have hQva := hR0 va (by rw [hTv0]; simp only [List.mem_cons, List.not_mem_nil, or_false]; omega)
      obtain ⟨hq_796, hq_797⟩ := hW.ints hi_82 ht_83
      obtain ⟨hq_798, hq_799⟩ := hW.ints hi_85 ht_86
      exact W.iret (v := (-1)) hx hb hr (fun t ht hWm => ⟨⟨(-1), ze, rfl, (Or.inr (Or.inl ⟨hc40, hxo.elim val_n1 val_n2, rfl, rfl⟩)), ⟨F_49, ty, hty, QTm.mk ht hP hD hO hR, hW, ⟨(0, 0, 0, fun _ => 0, 0, fun _ => 0), DIRM.same (DIRM.fr hDM hO0 hW0 hLn0 hTn0 hLv0 hTv0 (by omega) hR0 (hF_81.trans hd1.symm) (hF_84.trans hd2.symm) hQna hQva (fun k hk => ⟨by simp only [List.mem_cons, List.not_mem_nil, or_false]; omega, by simp only [List.mem_cons, List.not_mem_nil, or_false]; omega⟩)), fun q => absurd q (by omega)⟩⟩⟩, hS.F ht⟩) hS.2.2 dX15_entry_33
  ·
    have hi_800 : ze = 40 := (nI_eq (a := ze) (b := 40) (by omega) (by omega)).mp c_87
    have hc40 : ze = 40 := by omega
    refine lv_bipush (v := (-3)) hx hb dX15_entry_17 (by decide) ?_
    refine W.widen (k := 0) (n := 0) (by omega) (by omega) ?_
    have hR0 := FR.unre hT00 hty hR
    have hQna := hR0 na (by rw [hTn0]; simp only [List.mem_cons, List.not_mem_nil, or_false]; omega)
    have hQva := hR0 va (by rw [hTv0]; simp only [List.mem_cons, List.not_mem_nil, or_false]; omega)
    obtain ⟨hq_801, hq_802⟩ := hW.ints hi_82 ht_83
    obtain ⟨hq_803, hq_804⟩ := hW.ints hi_85 ht_86
    exact W.iret (v := (-3)) hx hb hr (fun t ht hWm => ⟨⟨(-3), ze, rfl, (Or.inl ⟨hc40, rfl, rfl⟩), ⟨F_49, ty, hty, QTm.mk ht hP hD hO hR, hW, ⟨(0, 0, 0, fun _ => 0, 0, fun _ => 0), DIRM.same (DIRM.fr hDM hO0 hW0 hLn0 hTn0 hLv0 hTv0 (by omega) hR0 (hF_81.trans hd1.symm) (hF_84.trans hd2.symm) hQna hQva (fun k hk => ⟨by simp only [List.mem_cons, List.not_mem_nil, or_false]; omega, by simp only [List.mem_cons, List.not_mem_nil, or_false]; omega⟩)), fun q => absurd q (by omega)⟩⟩⟩, hS.F ht⟩) hS.2.2 dX15_entry_19
