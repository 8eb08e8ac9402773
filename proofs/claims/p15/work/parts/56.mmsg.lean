theorem dX15_message_0 : decode cX15_message 0 = .ok (.aload_n 0, 1) := by decide +kernel
theorem dX15_message_1 : decode cX15_message 1 = .ok (.invokevirtual 174, 3) := by decide +kernel
theorem dX15_message_4 : decode cX15_message 4 = .ok (.istore_n 1, 1) := by decide +kernel
theorem dX15_message_5 : decode cX15_message 5 = .ok (.iconst 0, 1) := by decide +kernel
theorem dX15_message_6 : decode cX15_message 6 = .ok (.istore_n 2, 1) := by decide +kernel
theorem dX15_message_7 : decode cX15_message 7 = .ok (.iconst 0, 1) := by decide +kernel
theorem dX15_message_8 : decode cX15_message 8 = .ok (.istore_n 3, 1) := by decide +kernel
theorem dX15_message_9 : decode cX15_message 9 = .ok (.iload_n 1, 1) := by decide +kernel
theorem dX15_message_10 : decode cX15_message 10 = .ok (.istore 4, 2) := by decide +kernel
theorem dX15_message_12 : decode cX15_message 12 = .ok (.iconst 1, 1) := by decide +kernel
theorem dX15_message_13 : decode cX15_message 13 = .ok (.istore 5, 2) := by decide +kernel
theorem dX15_message_15 : decode cX15_message 15 = .ok (.iload 5, 2) := by decide +kernel
theorem dX15_message_17 : decode cX15_message 17 = .ok (.ifCond .eq 200, 3) := by decide +kernel
theorem dX15_message_20 : decode cX15_message 20 = .ok (.iload_n 3, 1) := by decide +kernel
theorem dX15_message_21 : decode cX15_message 21 = .ok (.iload_n 1, 1) := by decide +kernel
theorem dX15_message_22 : decode cX15_message 22 = .ok (.if_icmp .ge 195, 3) := by decide +kernel
theorem dX15_message_25 : decode cX15_message 25 = .ok (.aload_n 0, 1) := by decide +kernel
theorem dX15_message_26 : decode cX15_message 26 = .ok (.getfield 31, 3) := by decide +kernel
theorem dX15_message_29 : decode cX15_message 29 = .ok (.iload_n 3, 1) := by decide +kernel
theorem dX15_message_30 : decode cX15_message 30 = .ok (.iload_n 1, 1) := by decide +kernel
theorem dX15_message_31 : decode cX15_message 31 = .ok (.invokestatic 344, 3) := by decide +kernel
theorem dX15_message_34 : decode cX15_message 34 = .ok (.istore 6, 2) := by decide +kernel
theorem dX15_message_36 : decode cX15_message 36 = .ok (.aload_n 0, 1) := by decide +kernel
theorem dX15_message_37 : decode cX15_message 37 = .ok (.getfield 31, 3) := by decide +kernel
theorem dX15_message_40 : decode cX15_message 40 = .ok (.iload_n 3, 1) := by decide +kernel
theorem dX15_message_41 : decode cX15_message 41 = .ok (.baload, 1) := by decide +kernel
theorem dX15_message_42 : decode cX15_message 42 = .ok (.bipush 10, 2) := by decide +kernel
theorem dX15_message_44 : decode cX15_message 44 = .ok (.if_icmp .ne 14, 3) := by decide +kernel
theorem dX15_message_47 : decode cX15_message 47 = .ok (.iload_n 3, 1) := by decide +kernel
theorem dX15_message_48 : decode cX15_message 48 = .ok (.iconst 1, 1) := by decide +kernel
theorem dX15_message_49 : decode cX15_message 49 = .ok (.iadd, 1) := by decide +kernel
theorem dX15_message_50 : decode cX15_message 50 = .ok (.istore 4, 2) := by decide +kernel
theorem dX15_message_52 : decode cX15_message 52 = .ok (.iconst 0, 1) := by decide +kernel
theorem dX15_message_53 : decode cX15_message 53 = .ok (.istore 5, 2) := by decide +kernel
theorem dX15_message_55 : decode cX15_message 55 = .ok (.goto 156, 3) := by decide +kernel
theorem dX15_message_58 : decode cX15_message 58 = .ok (.aload_n 0, 1) := by decide +kernel
theorem dX15_message_59 : decode cX15_message 59 = .ok (.getfield 31, 3) := by decide +kernel
theorem dX15_message_62 : decode cX15_message 62 = .ok (.iload_n 3, 1) := by decide +kernel
theorem dX15_message_63 : decode cX15_message 63 = .ok (.baload, 1) := by decide +kernel
theorem dX15_message_64 : decode cX15_message 64 = .ok (.invokestatic 347, 3) := by decide +kernel
theorem dX15_message_67 : decode cX15_message 67 = .ok (.ifCond .eq 22, 3) := by decide +kernel
theorem dX15_message_70 : decode cX15_message 70 = .ok (.iload_n 2, 1) := by decide +kernel
theorem dX15_message_71 : decode cX15_message 71 = .ok (.ifCond .ne 5, 3) := by decide +kernel
theorem dX15_message_74 : decode cX15_message 74 = .ok (.iconst (-1), 1) := by decide +kernel
theorem dX15_message_75 : decode cX15_message 75 = .ok (.ireturn, 1) := by decide +kernel
theorem dX15_message_76 : decode cX15_message 76 = .ok (.aload_n 0, 1) := by decide +kernel
theorem dX15_message_77 : decode cX15_message 77 = .ok (.getfield 88, 3) := by decide +kernel
theorem dX15_message_80 : decode cX15_message 80 = .ok (.iload_n 2, 1) := by decide +kernel
theorem dX15_message_81 : decode cX15_message 81 = .ok (.iconst 1, 1) := by decide +kernel
theorem dX15_message_82 : decode cX15_message 82 = .ok (.isub, 1) := by decide +kernel
theorem dX15_message_83 : decode cX15_message 83 = .ok (.iload 6, 2) := by decide +kernel
theorem dX15_message_85 : decode cX15_message 85 = .ok (.iastore, 1) := by decide +kernel
theorem dX15_message_86 : decode cX15_message 86 = .ok (.goto 125, 3) := by decide +kernel
theorem dX15_message_89 : decode cX15_message 89 = .ok (.iload_n 3, 1) := by decide +kernel
theorem dX15_message_90 : decode cX15_message 90 = .ok (.istore 7, 2) := by decide +kernel
theorem dX15_message_92 : decode cX15_message 92 = .ok (.iload 7, 2) := by decide +kernel
theorem dX15_message_94 : decode cX15_message 94 = .ok (.iload 6, 2) := by decide +kernel
theorem dX15_message_96 : decode cX15_message 96 = .ok (.if_icmp .ge 47, 3) := by decide +kernel
theorem dX15_message_99 : decode cX15_message 99 = .ok (.aload_n 0, 1) := by decide +kernel
theorem dX15_message_100 : decode cX15_message 100 = .ok (.getfield 31, 3) := by decide +kernel
theorem dX15_message_103 : decode cX15_message 103 = .ok (.iload 7, 2) := by decide +kernel
theorem dX15_message_105 : decode cX15_message 105 = .ok (.baload, 1) := by decide +kernel
theorem dX15_message_106 : decode cX15_message 106 = .ok (.invokestatic 350, 3) := by decide +kernel
theorem dX15_message_109 : decode cX15_message 109 = .ok (.ifCond .ne 28, 3) := by decide +kernel
theorem dX15_message_112 : decode cX15_message 112 = .ok (.aload_n 0, 1) := by decide +kernel
theorem dX15_message_113 : decode cX15_message 113 = .ok (.getfield 31, 3) := by decide +kernel
theorem dX15_message_116 : decode cX15_message 116 = .ok (.iload 7, 2) := by decide +kernel
theorem dX15_message_118 : decode cX15_message 118 = .ok (.baload, 1) := by decide +kernel
theorem dX15_message_119 : decode cX15_message 119 = .ok (.invokestatic 202, 3) := by decide +kernel
theorem dX15_message_122 : decode cX15_message 122 = .ok (.ifCond .ne 15, 3) := by decide +kernel
theorem dX15_message_125 : decode cX15_message 125 = .ok (.aload_n 0, 1) := by decide +kernel
theorem dX15_message_126 : decode cX15_message 126 = .ok (.getfield 31, 3) := by decide +kernel
theorem dX15_message_129 : decode cX15_message 129 = .ok (.iload 7, 2) := by decide +kernel
theorem dX15_message_131 : decode cX15_message 131 = .ok (.baload, 1) := by decide +kernel
theorem dX15_message_132 : decode cX15_message 132 = .ok (.bipush 45, 2) := by decide +kernel
theorem dX15_message_134 : decode cX15_message 134 = .ok (.if_icmp .ne 9, 3) := by decide +kernel
theorem dX15_message_137 : decode cX15_message 137 = .ok (.iinc 7 1, 3) := by decide +kernel
theorem dX15_message_140 : decode cX15_message 140 = .ok (.goto (-48), 3) := by decide +kernel
theorem dX15_message_143 : decode cX15_message 143 = .ok (.iload 7, 2) := by decide +kernel
theorem dX15_message_145 : decode cX15_message 145 = .ok (.iload_n 3, 1) := by decide +kernel
theorem dX15_message_146 : decode cX15_message 146 = .ok (.isub, 1) := by decide +kernel
theorem dX15_message_147 : decode cX15_message 147 = .ok (.i2l, 1) := by decide +kernel
theorem dX15_message_148 : decode cX15_message 148 = .ok (.lconst 1, 1) := by decide +kernel
theorem dX15_message_149 : decode cX15_message 149 = .ok (.ldc2_w 353, 3) := by decide +kernel
theorem dX15_message_152 : decode cX15_message 152 = .ok (.invokestatic 170, 3) := by decide +kernel
theorem dX15_message_155 : decode cX15_message 155 = .ok (.ifCond .eq 28, 3) := by decide +kernel
theorem dX15_message_158 : decode cX15_message 158 = .ok (.iload 7, 2) := by decide +kernel
theorem dX15_message_160 : decode cX15_message 160 = .ok (.iload 6, 2) := by decide +kernel
theorem dX15_message_162 : decode cX15_message 162 = .ok (.if_icmp .eq 21, 3) := by decide +kernel
theorem dX15_message_165 : decode cX15_message 165 = .ok (.aload_n 0, 1) := by decide +kernel
theorem dX15_message_166 : decode cX15_message 166 = .ok (.getfield 31, 3) := by decide +kernel
theorem dX15_message_169 : decode cX15_message 169 = .ok (.iload 7, 2) := by decide +kernel
theorem dX15_message_171 : decode cX15_message 171 = .ok (.baload, 1) := by decide +kernel
theorem dX15_message_172 : decode cX15_message 172 = .ok (.bipush 58, 2) := by decide +kernel
theorem dX15_message_174 : decode cX15_message 174 = .ok (.if_icmp .ne 9, 3) := by decide +kernel
theorem dX15_message_177 : decode cX15_message 177 = .ok (.iload_n 2, 1) := by decide +kernel
theorem dX15_message_178 : decode cX15_message 178 = .ok (.bipush 20, 2) := by decide +kernel
theorem dX15_message_180 : decode cX15_message 180 = .ok (.if_icmp .ne 5, 3) := by decide +kernel
theorem dX15_message_183 : decode cX15_message 183 = .ok (.iconst (-1), 1) := by decide +kernel
theorem dX15_message_184 : decode cX15_message 184 = .ok (.ireturn, 1) := by decide +kernel
theorem dX15_message_185 : decode cX15_message 185 = .ok (.aload_n 0, 1) := by decide +kernel
theorem dX15_message_186 : decode cX15_message 186 = .ok (.getfield 82, 3) := by decide +kernel
theorem dX15_message_189 : decode cX15_message 189 = .ok (.iload_n 2, 1) := by decide +kernel
theorem dX15_message_190 : decode cX15_message 190 = .ok (.iload_n 3, 1) := by decide +kernel
theorem dX15_message_191 : decode cX15_message 191 = .ok (.iastore, 1) := by decide +kernel
theorem dX15_message_192 : decode cX15_message 192 = .ok (.aload_n 0, 1) := by decide +kernel
theorem dX15_message_193 : decode cX15_message 193 = .ok (.getfield 85, 3) := by decide +kernel
theorem dX15_message_196 : decode cX15_message 196 = .ok (.iload_n 2, 1) := by decide +kernel
theorem dX15_message_197 : decode cX15_message 197 = .ok (.iload 7, 2) := by decide +kernel
theorem dX15_message_199 : decode cX15_message 199 = .ok (.iastore, 1) := by decide +kernel
theorem dX15_message_200 : decode cX15_message 200 = .ok (.aload_n 0, 1) := by decide +kernel
theorem dX15_message_201 : decode cX15_message 201 = .ok (.getfield 88, 3) := by decide +kernel
theorem dX15_message_204 : decode cX15_message 204 = .ok (.iload_n 2, 1) := by decide +kernel
theorem dX15_message_205 : decode cX15_message 205 = .ok (.iload 6, 2) := by decide +kernel
theorem dX15_message_207 : decode cX15_message 207 = .ok (.iastore, 1) := by decide +kernel
theorem dX15_message_208 : decode cX15_message 208 = .ok (.iinc 2 1, 3) := by decide +kernel
theorem dX15_message_211 : decode cX15_message 211 = .ok (.iload 6, 2) := by decide +kernel
theorem dX15_message_213 : decode cX15_message 213 = .ok (.istore_n 3, 1) := by decide +kernel
theorem dX15_message_214 : decode cX15_message 214 = .ok (.goto (-199), 3) := by decide +kernel
theorem dX15_message_217 : decode cX15_message 217 = .ok (.iload_n 2, 1) := by decide +kernel
theorem dX15_message_218 : decode cX15_message 218 = .ok (.ifCond .ne 5, 3) := by decide +kernel
theorem dX15_message_221 : decode cX15_message 221 = .ok (.iconst (-1), 1) := by decide +kernel
theorem dX15_message_222 : decode cX15_message 222 = .ok (.ireturn, 1) := by decide +kernel
theorem dX15_message_223 : decode cX15_message 223 = .ok (.aload_n 0, 1) := by decide +kernel
theorem dX15_message_224 : decode cX15_message 224 = .ok (.iload_n 2, 1) := by decide +kernel
theorem dX15_message_225 : decode cX15_message 225 = .ok (.putfield 355, 3) := by decide +kernel
theorem dX15_message_228 : decode cX15_message 228 = .ok (.aload_n 0, 1) := by decide +kernel
theorem dX15_message_229 : decode cX15_message 229 = .ok (.getfield 82, 3) := by decide +kernel
theorem dX15_message_232 : decode cX15_message 232 = .ok (.iconst 0, 1) := by decide +kernel
theorem dX15_message_233 : decode cX15_message 233 = .ok (.aload_n 0, 1) := by decide +kernel
theorem dX15_message_234 : decode cX15_message 234 = .ok (.getfield 73, 3) := by decide +kernel
theorem dX15_message_237 : decode cX15_message 237 = .ok (.iconst 0, 1) := by decide +kernel
theorem dX15_message_238 : decode cX15_message 238 = .ok (.iload_n 2, 1) := by decide +kernel
theorem dX15_message_239 : decode cX15_message 239 = .ok (.invokestatic 358, 3) := by decide +kernel
theorem dX15_message_242 : decode cX15_message 242 = .ok (.aload_n 0, 1) := by decide +kernel
theorem dX15_message_243 : decode cX15_message 243 = .ok (.getfield 85, 3) := by decide +kernel
theorem dX15_message_246 : decode cX15_message 246 = .ok (.iconst 0, 1) := by decide +kernel
theorem dX15_message_247 : decode cX15_message 247 = .ok (.aload_n 0, 1) := by decide +kernel
theorem dX15_message_248 : decode cX15_message 248 = .ok (.getfield 76, 3) := by decide +kernel
theorem dX15_message_251 : decode cX15_message 251 = .ok (.iconst 0, 1) := by decide +kernel
theorem dX15_message_252 : decode cX15_message 252 = .ok (.iload_n 2, 1) := by decide +kernel
theorem dX15_message_253 : decode cX15_message 253 = .ok (.invokestatic 358, 3) := by decide +kernel
theorem dX15_message_256 : decode cX15_message 256 = .ok (.aload_n 0, 1) := by decide +kernel
theorem dX15_message_257 : decode cX15_message 257 = .ok (.getfield 88, 3) := by decide +kernel
theorem dX15_message_260 : decode cX15_message 260 = .ok (.iconst 0, 1) := by decide +kernel
theorem dX15_message_261 : decode cX15_message 261 = .ok (.aload_n 0, 1) := by decide +kernel
theorem dX15_message_262 : decode cX15_message 262 = .ok (.getfield 79, 3) := by decide +kernel
theorem dX15_message_265 : decode cX15_message 265 = .ok (.iconst 0, 1) := by decide +kernel
theorem dX15_message_266 : decode cX15_message 266 = .ok (.iload_n 2, 1) := by decide +kernel
theorem dX15_message_267 : decode cX15_message 267 = .ok (.invokestatic 358, 3) := by decide +kernel
theorem dX15_message_270 : decode cX15_message 270 = .ok (.aload_n 0, 1) := by decide +kernel
theorem dX15_message_271 : decode cX15_message 271 = .ok (.getfield 31, 3) := by decide +kernel
theorem dX15_message_274 : decode cX15_message 274 = .ok (.iconst 0, 1) := by decide +kernel
theorem dX15_message_275 : decode cX15_message 275 = .ok (.aload_n 0, 1) := by decide +kernel
theorem dX15_message_276 : decode cX15_message 276 = .ok (.getfield 70, 3) := by decide +kernel
theorem dX15_message_279 : decode cX15_message 279 = .ok (.iconst 0, 1) := by decide +kernel
theorem dX15_message_280 : decode cX15_message 280 = .ok (.iload_n 1, 1) := by decide +kernel
theorem dX15_message_281 : decode cX15_message 281 = .ok (.invokestatic 358, 3) := by decide +kernel
theorem dX15_message_284 : decode cX15_message 284 = .ok (.aload_n 0, 1) := by decide +kernel
theorem dX15_message_285 : decode cX15_message 285 = .ok (.iload 4, 2) := by decide +kernel
theorem dX15_message_287 : decode cX15_message 287 = .ok (.putfield 364, 3) := by decide +kernel
theorem dX15_message_290 : decode cX15_message 290 = .ok (.aload_n 0, 1) := by decide +kernel
theorem dX15_message_291 : decode cX15_message 291 = .ok (.iload_n 1, 1) := by decide +kernel
theorem dX15_message_292 : decode cX15_message 292 = .ok (.putfield 367, 3) := by decide +kernel
theorem dX15_message_295 : decode cX15_message 295 = .ok (.aload_n 0, 1) := by decide +kernel
theorem dX15_message_296 : decode cX15_message 296 = .ok (.iconst 1, 1) := by decide +kernel
theorem dX15_message_297 : decode cX15_message 297 = .ok (.putfield 370, 3) := by decide +kernel
theorem dX15_message_300 : decode cX15_message 300 = .ok (.iload_n 2, 1) := by decide +kernel
theorem dX15_message_301 : decode cX15_message 301 = .ok (.ireturn, 1) := by decide +kernel
theorem kt_999 : Cond.code yX15_used cX15_used 2 (some .int) ∈ tb := tb_at (i := 1485) (by decide +kernel) (by decide +kernel)
theorem kt_1000 : Cond.methodLink RX15 174 yX15_used ∈ tb := tb_at (i := 1482) (by decide +kernel) (by decide +kernel)
theorem kt_1001 : Cond.instanceMethod yX15_used ∈ tb := tb_at (i := 1484) (by decide +kernel) (by decide +kernel)
theorem kt_1002 : Cond.selects RX15 yX15_used yX15_used ∈ tb := tb_at (i := 42) (by decide +kernel) (by decide +kernel)
theorem kt_1003 : Cond.fieldLink RX15 82 "PostGateModel" "newBegin" "[I" ∈ tb := tb_at (i := 1316) (by decide +kernel) (by decide +kernel)
theorem kt_1004 : Cond.fieldLink RX15 85 "PostGateModel" "newColon" "[I" ∈ tb := tb_at (i := 1317) (by decide +kernel) (by decide +kernel)
theorem kt_1005 : Cond.fieldLink RX15 88 "PostGateModel" "newStop" "[I" ∈ tb := tb_at (i := 1318) (by decide +kernel) (by decide +kernel)
theorem kt_1006 : Cond.fieldLink RX15 31 "PostGateModel" "tape" "[B" ∈ tb := tb_at (i := 1289) (by decide +kernel) (by decide +kernel)
theorem rtf_rtf {ty : TyM} {h : Nat} {e e2 : TyE} : rtf (rtf ty h e) h e2 = rtf ty h e2 := by
  funext a
  by_cases c : a = h
  · subst c
    rw [rtf_self, rtf_self]
  · rw [rtf_ne c, rtf_ne c, rtf_ne c]
theorem U_re {ty : TyM} {L : List Nat} {h0 ρ : Nat} {im : List Nat} {P : Nat → Prop} (h : ∀ a ∈ L, (ty a).1 = 26 → P a) : ∀ a ∈ L, (rtf ty h0 (15, ρ, im) a).1 = 26 → P a := by
  intro a ha e
  by_cases c : a = h0
  · subst c
    rw [rtf_self] at e
    exact absurd e (by simp)
  · rw [rtf_ne c] at e
    exact h a ha e
theorem U15_re {ty : TyM} {L : List Nat} {h0 : Nat} {e0 : TyE} (h : ∀ a ∈ L, (ty a).1 = 15 → a = h0) : ∀ a ∈ L, (rtf ty h0 e0 a).1 = 15 → a = h0 := by
  intro a ha e
  by_cases c : a = h0
  · exact c
  · rw [rtf_ne c] at e
    exact h a ha e
def gset (g : Nat → Nat → Nat) (n a b c : Nat) : Nat → Nat → Nat := fun q j => if j = n then (if q = 0 then a else if q = 1 then b else c) else g q j
theorem gset_ne {g : Nat → Nat → Nat} {n a b c q j : Nat} (h : j ≠ n) : gset g n a b c q j = g q j := if_neg h
theorem gset_0 {g : Nat → Nat → Nat} {n a b c : Nat} : gset g n a b c 0 n = a := by
  unfold gset
  rw [if_pos rfl, if_pos rfl]
theorem gset_1 {g : Nat → Nat → Nat} {n a b c : Nat} : gset g n a b c 1 n = b := by
  unfold gset
  rw [if_pos rfl, if_neg (by decide), if_pos rfl]
theorem gset_2 {g : Nat → Nat → Nat} {n a b c : Nat} : gset g n a b c 2 n = c := by
  unfold gset
  rw [if_pos rfl, if_neg (by decide), if_neg (by decide)]
theorem updm_at {f : Nat → Int32} {k : Nat} {x : Int32} : upd f k x k = x := if_pos rfl
theorem updm_ne {f : Nat → Int32} {k i : Nat} {x : Int32} (h : i ≠ k) : upd f k x i = f i := if_neg h
def FLD (f0 f1 f2 : Nat → Int32) (n w : Nat) : Prop := ∃ g : Nat → Nat → Nat, (∀ j, j < n → f0 j = nI (g 0 j) ∧ f1 j = nI (g 1 j) ∧ f2 j = nI (g 2 j)) ∧ (∀ j, j < n → g 0 j < g 1 j ∧ g 1 j < g 2 j ∧ g 2 j ≤ w) ∧ (∀ j, j + 1 < n → g 2 j ≤ g 0 (j + 1))
theorem FLD.nil {f0 f1 f2 : Nat → Int32} {w : Nat} : FLD f0 f1 f2 0 w := ⟨fun _ _ => 0, fun _ h => absurd h (Nat.not_lt_zero _), fun _ h => absurd h (Nat.not_lt_zero _), fun _ h => absurd h (Nat.not_lt_zero _)⟩
theorem FLD.mono {f0 f1 f2 : Nat → Int32} {n w v : Nat} (h : FLD f0 f1 f2 n w) (hw : w ≤ v) : FLD f0 f1 f2 n v := by
  obtain ⟨g, h1, h2, h3⟩ := h
  exact ⟨g, h1, fun j hj => ⟨(h2 j hj).1, (h2 j hj).2.1, Nat.le_trans (h2 j hj).2.2 hw⟩, h3⟩
theorem FLD.add {f0 f1 f2 : Nat → Int32} {n w k v : Nat} (h : FLD f0 f1 f2 n w) (h1 : w < k) (h2 : k < v) : FLD (upd f0 n (nI w)) (upd f1 n (nI k)) (upd f2 n (nI v)) (n + 1) v := by
  obtain ⟨g, a1, a2, a3⟩ := h
  refine ⟨gset g n w k v, ?_, ?_, ?_⟩
  · intro j hj
    by_cases c : j = n
    · subst c
      rw [gset_0, gset_1, gset_2, updm_at, updm_at, updm_at]
      exact ⟨rfl, rfl, rfl⟩
    · rw [gset_ne c, gset_ne c, gset_ne c, updm_ne c, updm_ne c, updm_ne c]
      exact a1 j (by omega)
  · intro j hj
    by_cases c : j = n
    · subst c
      rw [gset_0, gset_1, gset_2]
      exact ⟨h1, h2, Nat.le_refl _⟩
    · rw [gset_ne c, gset_ne c, gset_ne c]
      have b := a2 j (by omega)
      exact ⟨b.1, b.2.1, by omega⟩
  · intro j hj
    have c : j ≠ n := by omega
    rw [gset_ne c]
    by_cases d : j + 1 = n
    · have b := a2 j (by omega)
      rw [d, gset_0]
      exact b.2.2
    · rw [gset_ne d]
      exact a3 j (by omega)
theorem FLD.stp {f0 f1 f2 : Nat → Int32} {n w v : Nat} (h : FLD f0 f1 f2 (n + 1) w) (hw : w ≤ v) : FLD f0 f1 (upd f2 n (nI v)) (n + 1) v := by
  obtain ⟨g, a1, a2, a3⟩ := h
  refine ⟨gset g n (g 0 n) (g 1 n) v, ?_, ?_, ?_⟩
  · intro j hj
    obtain ⟨b1, b2, b3⟩ := a1 j hj
    by_cases c : j = n
    · subst c
      rw [gset_0, gset_1, gset_2]
      exact ⟨b1, b2, updm_at⟩
    · rw [gset_ne c, gset_ne c, gset_ne c, updm_ne c]
      exact ⟨b1, b2, b3⟩
  · intro j hj
    obtain ⟨b1, b2, b3⟩ := a2 j hj
    by_cases c : j = n
    · subst c
      rw [gset_0, gset_1, gset_2]
      exact ⟨b1, by omega, Nat.le_refl _⟩
    · rw [gset_ne c, gset_ne c, gset_ne c]
      exact ⟨b1, b2, Nat.le_trans b3 hw⟩
  · intro j hj
    have c : j ≠ n := by omega
    have b := a3 j hj
    rw [gset_ne c]
    by_cases d : j + 1 = n
    · rw [d, gset_0, ← d]
      exact b
    · rw [gset_ne d]
      exact b
theorem FLD.stq {f0 f1 f2 : Nat → Int32} {n w v : Nat} (h : FLD f0 f1 f2 n w) (hn : 0 < n) (hw : w ≤ v) : FLD f0 f1 (upd f2 (n - 1) (nI v)) n v := by
  obtain ⟨k, rfl⟩ : ∃ k, n = k + 1 := ⟨n - 1, by omega⟩
  exact h.stp hw
def gmu (n : Nat) (gF gm : Nat → Nat → Nat) : Nat → Nat → Nat := fun k j => if j < n ∧ k < 3 then gF k j else gm k j
theorem gmu_in {n k j : Nat} {gF gm : Nat → Nat → Nat} (h : j < n) (hk : k < 3) : gmu n gF gm k j = gF k j := if_pos ⟨h, hk⟩
theorem gmu_out {n k j : Nat} {gF gm : Nat → Nat → Nat} (h : ¬ j < n) : gmu n gF gm k j = gm k j := if_neg (fun q => h q.1)
theorem gmu_b {n w : Nat} {gF gm : Nat → Nat → Nat} (a2 : ∀ j, j < n → gF 0 j < gF 1 j ∧ gF 1 j < gF 2 j ∧ gF 2 j ≤ w) (hw : w ≤ 1280) (hg : ∀ k j, gm k j ≤ 1280) : ∀ k j, gmu n gF gm k j ≤ 1280 := by
  intro k j
  by_cases c : j < n ∧ k < 3
  · rw [gmu_in c.1 c.2]
    have q := a2 j c.1
    have hk : k = 0 ∨ k = 1 ∨ k = 2 := by omega
    rcases hk with h | h | h
    · subst h
      omega
    · subst h
      omega
    · subst h
      omega
  · rw [show gmu n gF gm k j = gm k j from if_neg c]
    exact hg k j
theorem gmu_o {n w m2 : Nat} {gF gm : Nat → Nat → Nat} (a2 : ∀ j, j < n → gF 0 j < gF 1 j ∧ gF 1 j < gF 2 j ∧ gF 2 j ≤ w) (hw : w ≤ m2) : ∀ j, j < n → gmu n gF gm 0 j < gmu n gF gm 1 j ∧ gmu n gF gm 1 j < gmu n gF gm 2 j ∧ gmu n gF gm 2 j ≤ m2 := by
  intro j hj
  rw [gmu_in (k := 0) hj (by decide), gmu_in (k := 1) hj (by decide), gmu_in (k := 2) hj (by decide)]
  have q := a2 j hj
  exact ⟨q.1, q.2.1, Nat.le_trans q.2.2 hw⟩
theorem gmu_a {n : Nat} {gF gm : Nat → Nat → Nat} (a3 : ∀ j, j + 1 < n → gF 2 j ≤ gF 0 (j + 1)) : ∀ j, j + 1 < n → gmu n gF gm 2 j ≤ gmu n gF gm 0 (j + 1) := by
  intro j hj
  have hj2 : j < n := by omega
  rw [gmu_in (k := 2) hj2 (by decide), gmu_in (k := 0) hj (by decide)]
  exact a3 j hj
theorem cpy_gm {f fb : Nat → Int32} {gF gm : Nat → Nat → Nat} {n k : Nat} (hn : n ≤ 20) (hk : k < 3) (h : ∀ j, j < n → f j = nI (gF k j)) (hb : ∀ j, j < 21 → fb j = nI (gm k j)) : ∀ j, j < 21 → va_cpy f fb (0 : Int32).toNatClampNeg (0 : Int32).toNatClampNeg (nI n).toNatClampNeg j = nI (gmu n gF gm k j) := by
  intro j hj
  rw [nI_clamp (by omega), show (0 : Int32).toNatClampNeg = 0 from by decide]
  show (if 0 ≤ j ∧ j < 0 + n then f (0 + (j - 0)) else fb j) = _
  by_cases c : j < n
  · rw [if_pos ⟨Nat.zero_le _, by omega⟩, gmu_in c hk, show 0 + (j - 0) = j from by omega]
    exact h j c
  · rw [if_neg (fun q => c (by omega)), gmu_out c]
    exact hb j hj
theorem shm.commit {cs : Nat → ClassId} {ty : TyM} {gm gm2 : Nat → Nat → Nat} {L : List Nat} {a h0 ρ0 : Nat} {im im2 : List Nat} {x : va_E} (hT : ty h0 = (15, ρ0, im)) (c0 : a ≠ h0) (hn15 : (ty a).1 ≠ 15) (hn26 : (ty a).1 ≠ 26) (h : shm cs ty gm L a x) : shm cs (rtf ty h0 (15, ρ0, im2)) gm2 L a x :=
  ⟨fun _ _ _ e => (h.1) _ _ _ ((rtf_ne c0).symm.trans e),
   fun _ _ e => (h.2.1) _ _ ((rtf_ne c0).symm.trans e),
   fun _ _ e => (h.2.2.1) _ _ ((rtf_ne c0).symm.trans e),
   fun _ _ e => (h.2.2.2.1) _ _ ((rtf_ne c0).symm.trans e),
   fun _ _ _ e => (h.2.2.2.2.1) _ _ _ ((rtf_ne c0).symm.trans e),
   fun _ _ e => absurd (congrArg Prod.fst ((rtf_ne c0).symm.trans e)) hn26,
   fun ρ n rm e => by
      obtain ⟨f, h1, h2⟩ := (h.2.2.2.2.2.2.1) ρ n rm ((rtf_ne c0).symm.trans e)
      exact ⟨f, h1, fun j hj => by obtain ⟨b, r, x1, x2, x3⟩ := h2 j hj; exact ⟨b, r, x1, x2, rtf_tr hT (by decide) x3⟩⟩,
   fun ρ n rm e => by
      obtain ⟨f, h1, h2⟩ := (h.2.2.2.2.2.2.2.1) ρ n rm ((rtf_ne c0).symm.trans e)
      exact ⟨f, h1, fun j hj => by obtain ⟨b, r, x1, x2, x3⟩ := h2 j hj; exact ⟨b, r, x1, x2, rtf_tr hT (by decide) x3⟩⟩,
   fun _ _ _ _ _ _ e => (h.2.2.2.2.2.2.2.2.1) _ _ _ _ _ _ ((rtf_ne c0).symm.trans e),
   fun _ _ e => (h.2.2.2.2.2.2.2.2.2.1) _ _ ((rtf_ne c0).symm.trans e),
   fun _ _ _ _ _ _ _ e => (h.2.2.2.2.2.2.2.2.2.2.1) _ _ _ _ _ _ _ ((rtf_ne c0).symm.trans e),
   fun _ _ _ _ _ _ _ _ _ _ _ _ _ _ _ _ _ _ _ _ _ _ _ _ _ _ _ _ _ _ _ _ _ _ _ _ _ _ _ _ _ _ _ _ _ _ _ _ _ _ _ _ _ _ _ e => absurd (congrArg Prod.fst ((rtf_ne c0).symm.trans e)) hn15⟩
theorem OKm.commit {cs : Nat → ClassId} {ty : TyM} {gm gm2 : Nat → Nat → Nat} {L : List Nat} {F G : Nat → va_E} {h0 bg co sp ml ρ0 : Nat} {im im2 : List Nat} (hO : OKm cs ty gm L F) (hT : ty h0 = (15, ρ0, im)) (hU26 : ∀ a ∈ L, (ty a).1 = 26 → a = bg ∨ a = co ∨ a = sp) (hU15 : ∀ a ∈ L, (ty a).1 = 15 → a = h0) (hG : ∀ b, b ≠ h0 → b ≠ bg → b ≠ co → b ≠ sp → b ≠ ml → G b = F b)
    (x0 : shm cs (rtf ty h0 (15, ρ0, im2)) gm2 L h0 (G h0)) (x1 : shm cs (rtf ty h0 (15, ρ0, im2)) gm2 L bg (G bg)) (x2 : shm cs (rtf ty h0 (15, ρ0, im2)) gm2 L co (G co)) (x3 : shm cs (rtf ty h0 (15, ρ0, im2)) gm2 L sp (G sp)) (x4 : shm cs (rtf ty h0 (15, ρ0, im2)) gm2 L ml (G ml)) : OKm cs (rtf ty h0 (15, ρ0, im2)) gm2 L G := by
  intro b hb
  by_cases c0 : b = h0
  · rw [c0]
    exact x0
  by_cases c1 : b = bg
  · rw [c1]
    exact x1
  by_cases c2 : b = co
  · rw [c2]
    exact x2
  by_cases c3 : b = sp
  · rw [c3]
    exact x3
  by_cases c4 : b = ml
  · rw [c4]
    exact x4
  rw [hG b c0 c1 c2 c3 c4]
  exact (hO b hb).commit hT c0 (fun e => c0 (hU15 b hb e)) (fun e => (hU26 b hb e).elim c1 (fun h => h.elim c2 c3))
set_option maxHeartbeats 4000000 in
theorem WTm.commit {ty : TyM} {gm gF : Nat → Nat → Nat} {L : List Nat} {h0 ρ ta ou so ad na va lc dm tg pe ml bg co sp nb0 nb1 nb2 pl se ke wi hs mo po nu pr sq xa sa n64 m64 ex wh sd tk hd ak ho ot sx s0 s1 s2 nf bd mm zo fm sn hg gc gv ze zt n2 b2 m2 w : Nat} (hW : WTm ty gm L) (hL : h0 ∈ L) (hT : ty h0 = (15, ρ, [ta, ou, so, ad, na, va, lc, dm, tg, pe, ml, bg, co, sp, nb0, nb1, nb2, pl, se, ke, wi, hs, mo, po, nu, pr, sq, xa, sa, n64, m64, ex, wh, sd, tk, hd, ak, ho, ot, sx, s0, s1, s2, nf, bd, mm, zo, fm, sn, hg, gc, gv, ze, zt])) (hU15 : ∀ a ∈ L, (ty a).1 = 15 → a = h0) (hn : n2 ≤ 20) (hb : b2 ≤ m2) (hm : m2 ≤ 1280) (h1 : 1 ≤ b2) (a2 : ∀ j, j < n2 → gF 0 j < gF 1 j ∧ gF 1 j < gF 2 j ∧ gF 2 j ≤ w) (a3 : ∀ j, j + 1 < n2 → gF 2 j ≤ gF 0 (j + 1)) (hw : w ≤ m2) : WTm (rtf ty h0 (15, ρ, [ta, ou, so, ad, na, va, lc, dm, tg, pe, ml, bg, co, sp, nb0, nb1, nb2, pl, se, ke, wi, hs, mo, po, nu, pr, sq, xa, sa, n64, m64, ex, wh, sd, tk, hd, ak, ho, ot, sx, s0, s1, s2, n2, b2, m2, zo, fm, sn, hg, gc, gv, ze, zt])) (gmu n2 gF gm) L := by
  obtain ⟨p0, p1, p2, p3, p4, p5, p6, p7, p8, p9, p10, p11, p12, p13, p14, p15, p16, p17, p18, p19, p20, p21, p22, p23, p24, p25, p26, p27, p28, p29, p30, p31, p32, p33, p34, p35, p36, p37, p38, p39, p40, p41, p42, p43, p44, p45, p46, p47, p48, p49, p50, p51, p52, p53, p54, p55, p56, p57, p58, p59, p60, p61, p62, p63, p64, p65, p66, p67, p68, p69, p70, p71, p72, p73, p74, p75, p76, p77, p78, p79, p80, p81, p82, p83, p84, p85, p86⟩ := wtm_mod_re (e0 := (15, ρ, [ta, ou, so, ad, na, va, lc, dm, tg, pe, ml, bg, co, sp, nb0, nb1, nb2, pl, se, ke, wi, hs, mo, po, nu, pr, sq, xa, sa, n64, m64, ex, wh, sd, tk, hd, ak, ho, ot, sx, s0, s1, s2, n2, b2, m2, zo, fm, sn, hg, gc, gv, ze, zt])) hT (hW.mod hL hT)
  intro a ha
  have h9 := hW a ha
  by_cases c : a = h0
  · subst c
    exact ⟨fun _ _ _ e => absurd (congrArg Prod.fst (rtf_self.symm.trans e)) (by simp),
      fun _ _ e => absurd (congrArg Prod.fst (rtf_self.symm.trans e)) (by simp),
      fun _ _ e => absurd (congrArg Prod.fst (rtf_self.symm.trans e)) (by simp),
      fun _ _ e => absurd (congrArg Prod.fst (rtf_self.symm.trans e)) (by simp),
      fun _ _ _ e => absurd (congrArg Prod.fst (rtf_self.symm.trans e)) (by simp),
      fun _ _ e => absurd (congrArg Prod.fst (rtf_self.symm.trans e)) (by simp),
      fun _ _ _ e => absurd (congrArg Prod.fst (rtf_self.symm.trans e)) (by simp),
      fun _ _ _ e => absurd (congrArg Prod.fst (rtf_self.symm.trans e)) (by simp),
      fun _ _ _ _ _ _ e => absurd (congrArg Prod.fst (rtf_self.symm.trans e)) (by simp),
      fun _ _ e => absurd (congrArg Prod.fst (rtf_self.symm.trans e)) (by simp),
      fun _ _ _ _ _ _ _ e => absurd (congrArg Prod.fst (rtf_self.symm.trans e)) (by simp),
      fun _ _ _ _ _ _ _ _ _ _ _ _ _ _ _ _ _ _ _ _ _ _ _ _ _ _ _ _ _ _ _ _ _ _ _ _ _ _ _ _ _ _ _ _ _ _ _ _ _ _ _ _ _ _ _ e => by
        have e9 := rtf_self.symm.trans e
        cases e9
        exact ⟨p0, p1, p2, p3, p4, p5, p6, p7, p8, p9, p10, p11, p12, p13, p14, p15, p16, p17, p18, p19, p20, p21, p22, p23, p24, p25, p26, p27, p28, p29, p30, p31, p32, p33, p34, p35, p36, p37, p38, p39, p40, p41, p42, p43, p44, p45, p46, p47, p48, p49, p50, p51, p52, p53, p54, p55, p56, p57, p58, p59, p60, p61, p62, p63, p64, p65, p66, p67, p68, p69, p70, p71, p72, p73, p74, p75, p76, p77, p78, hn, hb, hm, Or.inr h1, gmu_o a2 hw, gmu_a a3, gmu_b a2 (Nat.le_trans hw hm) p85, p86⟩⟩
  · exact ⟨fun _ _ _ e => wtm_txt_re hT ((h9.1) _ _ _ ((rtf_ne c).symm.trans e)),
      fun _ _ e => wtm_octs_re hT ((h9.2.1) _ _ ((rtf_ne c).symm.trans e)),
      fun _ _ e => wtm_ints_re hT ((h9.2.2.1) _ _ ((rtf_ne c).symm.trans e)),
      fun _ _ _ => trivial,
      fun _ _ _ _ => trivial,
      fun _ _ _ => trivial,
      fun _ _ _ _ => trivial,
      fun _ _ _ _ => trivial,
      fun _ _ _ _ _ _ e => wtm_hash_re hT ((h9.2.2.2.2.2.2.2.2.1) _ _ _ _ _ _ ((rtf_ne c).symm.trans e)),
      fun _ _ _ => trivial,
      fun _ _ _ _ _ _ _ e => wtm_tags_re hT ((h9.2.2.2.2.2.2.2.2.2.2.1) _ _ _ _ _ _ _ ((rtf_ne c).symm.trans e)),
      fun _ _ _ _ _ _ _ _ _ _ _ _ _ _ _ _ _ _ _ _ _ _ _ _ _ _ _ _ _ _ _ _ _ _ _ _ _ _ _ _ _ _ _ _ _ _ _ _ _ _ _ _ _ _ _ e => absurd (hU15 a ha (congrArg Prod.fst ((rtf_ne c).symm.trans e))) c⟩
set_option maxHeartbeats 4000000 in
set_option maxRecDepth 100000 in
theorem s_X15_message (l : Launch) (dC : Nat → ClassId) (dI : Nat → Nat → Nat) (cs : Nat → ClassId) (ty : TyM) (gm : Nat → Nat → Nat) (L : List Nat) (sz : Nat) (F : Nat → va_E) (h0 : Nat) (ρ : Nat) (ta : Nat) (ou : Nat) (so : Nat) (ad : Nat) (na : Nat) (va : Nat) (lc : Nat) (dm : Nat) (tg : Nat) (pe : Nat) (ml : Nat) (bg : Nat) (co : Nat) (sp : Nat) (nb0 : Nat) (nb1 : Nat) (nb2 : Nat) (pl : Nat) (se : Nat) (ke : Nat) (wi : Nat) (hs : Nat) (mo : Nat) (po : Nat) (nu : Nat) (pr : Nat) (sq : Nat) (xa : Nat) (sa : Nat) (n64 : Nat) (m64 : Nat) (ex : Nat) (wh : Nat) (sd : Nat) (tk : Nat) (hd : Nat) (ak : Nat) (ho : Nat) (ot : Nat) (sx : Nat) (s0 : Nat) (s1 : Nat) (s2 : Nat) (nf : Nat) (bd : Nat) (mm : Nat) (zo : Nat) (fm : Nat) (sn : Nat) (hg : Nat) (gc : Nat) (gv : Nat) (ze : Nat) (zt : Nat) (gt : Nat → Int32) (gl : Nat → Int32) (hW : WTm ty gm L) (hL_h0 : h0 ∈ L) (hT_h0 : ty h0 = (15, ρ, [ta, ou, so, ad, na, va, lc, dm, tg, pe, ml, bg, co, sp, nb0, nb1, nb2, pl, se, ke, wi, hs, mo, po, nu, pr, sq, xa, sa, n64, m64, ex, wh, sd, tk, hd, ak, ho, ot, sx, s0, s1, s2, nf, bd, mm, zo, fm, sn, hg, gc, gv, ze, zt])) (hz80 : zt ≤ 1280) (hn01 : nb0 ≠ nb1) (hn02 : nb0 ≠ nb2) (hn12 : nb1 ≠ nb2) (hU26 : ∀ a ∈ L, (ty a).1 = 26 → a = bg ∨ a = co ∨ a = sp) (hU15 : ∀ a ∈ L, (ty a).1 = 15 → a = h0) (hFta : F ta = .inl (cs 17, 3000, .inl gt)) (hFml : F ml = .inl (cs 17, 3000, .inl gl)) : Met l yX15_message (.code yX15_message cX15_message 8 (some .int) :: tb) ({ frames := 2, cells := 0, slots := 0, locals := 48 }) (va_Pc [.ref h0] (PTm (dC, dI) cs ty gm L F sz)) (va_Qi (fun (r : Int32) (gh : MRA) => MSX (clr gt) zt r gh) (fun (gh : MRA) T9 => ∃ F2 : Nat → va_E, ∃ ty2 : TyM, ∃ gm2 : Nat → Nat → Nat, ∃ n2 b2 m2 : Nat, ty2 = rtf ty h0 (15, ρ, [ta, ou, so, ad, na, va, lc, dm, tg, pe, ml, bg, co, sp, nb0, nb1, nb2, pl, se, ke, wi, hs, mo, po, nu, pr, sq, xa, sa, n64, m64, ex, wh, sd, tk, hd, ak, ho, ot, sx, s0, s1, s2, n2, b2, m2, zo, fm, sn, hg, gc, gv, ze, 0]) ∧ QTm (dC, dI) cs ty2 gm2 L [ρ, ρ + 8, ρ + 9] F F2 (va_A (va_pl L F) sz) T9 ∧ WTm ty2 gm2 L ∧ ((gh = none ∧ gm2 = gm ∧ n2 = nf ∧ b2 = bd ∧ m2 = mm ∧ F2 ml = .inl (cs 17, 3000, .inl gl)) ∨ ∃ (q : Nat × (Nat → Nat → Nat) × Nat) (gl2 : Nat → Int32), gh = some q ∧ n2 = q.1 ∧ b2 = q.2.2 ∧ m2 = zt ∧ F2 ml = .inl (cs 17, 3000, .inl gl2) ∧ (∀ j, j < zt → gl2 j = gt j) ∧ ∀ j, j < q.1 → gm2 0 j = q.2.1 0 j ∧ gm2 1 j = q.2.1 1 j ∧ gm2 2 j = min zt (q.2.1 2 j + 1))) (va_A (va_pl L F) sz)) 0 0 (va_A (va_pl L F) sz) := by
  refine Met.ofW (cc := cX15_message) (maxL := 8) (ret := (some .int)) (by decide) rfl ?_
  intro p e s m args below meth c s₁ B hml hv
  obtain ⟨rfl, hsz, hP, hK, hD0, hE, hO⟩ := hv
  have hx := B.exec
  have hb := B.bytes
  have hr := B.returns
  have hts : ∀ w ∈ tb, w.before _ s = true := fun w h => atoms_spec (ws := .code yX15_message cX15_message 8 (some .int) :: tb) B.pre w (List.mem_cons_of_mem _ h)
  have hown : s.vm.findClass RX15 = some m.cls := findClass_of_methodNamed B.named
  have hlocks := B.notSynchronized
  subst hsz
  have hD := hD0.self (sz := s.heap.size)
  generalize hAe : va_A (va_pl L F) s.heap.size = A at hD ⊢
  have hA : ∀ q : Nat, s.heap.size ≤ q → A q := fun q h => by rw [← hAe]; exact Or.inr h
  have hS : va_S A s.heap s.heap [] := va_S.rf
  have hR : FR ty [ρ, ρ + 8, ρ + 9] F F := FR.refl
  have hl := lv_entry ([.ref h0]) (n := 8) (Nat.le_of_ble_eq_true rfl)
  rw [lg_entry_eq]
  generalize (lg_sl ([.ref h0]) ++ List.replicate (8 - (lg_sl ([.ref h0])).length) Slot.unset).toArray = ls at hl ⊢
  have hl : lv_has ls 8 [(0, .ref h0)] := hl
  obtain ⟨hq_23, hq_24, hq_25, hq_26, hq_27, hgO, hgA, hgB, hq_28⟩ := hW.sc hL_h0 hT_h0
  refine lv_aload_n hx hb dX15_message_0 rfl (lv_at hl 0 rfl) ?_
  obtain ⟨v14_29, v15_30, v17_31, v18_32, v19_33, v20_34, v21_35, v22_36, v33_37, v52_38, v53_39, v54_40, hF_41, hq_42, hq_43, hq_44, hq_45, hq_46⟩ := hO.mod hL_h0 hT_h0
  have hFc := pg_free hD hS hA
  refine va_calli (va_runV (As := []) (rest := []) ⟨hx, hb, hml, hown, hts⟩ (s_X15_used l dC dI cs ty gm L s.heap.size F h0 ρ ta ou so ad na va lc dm tg pe ml bg co sp nb0 nb1 nb2 pl se ke wi hs mo po nu pr sq xa sa n64 m64 ex wh sd tk hd ak ho ot sx s0 s1 s2 nf bd mm zo fm sn hg gc gv ze zt v14_29 v15_30 v17_31 v18_32 v19_33 v20_34 v21_35 v22_36 v33_37 v52_38 v53_39 v54_40 hW hL_h0 hT_h0 hF_41 (by first | omega | assumption | exact Or.inl rfl) (by first | omega | assumption | exact Or.inl rfl) (by first | omega | assumption | exact Or.inl rfl) (by first | omega | assumption | exact Or.inl rfl) (by first | omega | assumption | exact Or.inl rfl)) ⟨callB_of 0 hts (gi kt_999) rfl rfl rfl (hts _ kt_669) (hts _ kt_1000) (by decide +kernel) ⟨Nat.le_of_ble_eq_true rfl, Nat.le_of_ble_eq_true rfl⟩, (hts _ kt_1001), (hts _ kt_1002)⟩ ⟨fun a U g mk q => ⟨q.1, PTm.calling q.2⟩, pg_recv hK hP hL_h0 hF_41 (q := (RX15, TX15, 59)) rfl, fun U hU hWm => ⟨rfl, PTm.mk hU hWm hP hK hD hE hO⟩⟩ rfl rfl hl.1 rfl (lv_room (Nat.le_of_ble_eq_true rfl)) dX15_message_1 ⟨by show _ + 0 ≤ 0; omega, by show _ + 0 ≤ 0; omega⟩) hS (fun q _ h => hFc q h) hFc (fun r_47 u t H1 locs ht hvm hw hB hz1 hk1 hS => ?_)
  obtain ⟨F_48, ty9, hty9, hB1, hW9, hq_49⟩ := hB
  subst hty9
  have hR9 := FR.retype (im2 := [ta, ou, so, ad, na, va, lc, dm, tg, pe, ml, bg, co, sp, nb0, nb1, nb2, pl, se, ke, wi, hs, mo, po, nu, pr, sq, xa, sa, n64, m64, ex, wh, sd, tk, hd, ak, ho, ot, sx, s0, s1, s2, nf, bd, mm, zo, fm, sn, hg, gc, gv, ze, 0]) hT_h0 hR
  obtain ⟨hP, hD, hO, hR⟩ := QTm.back hB1 ht hFc hR9 (fun q h => by simp only [List.mem_cons, List.not_mem_nil, or_false] at h ⊢; omega)
  obtain ⟨ty, hty, hT_h0, hW, hO, hR⟩ : ∃ t9 : TyM, t9 = rtf ty h0 (15, ρ, [ta, ou, so, ad, na, va, lc, dm, tg, pe, ml, bg, co, sp, nb0, nb1, nb2, pl, se, ke, wi, hs, mo, po, nu, pr, sq, xa, sa, n64, m64, ex, wh, sd, tk, hd, ak, ho, ot, sx, s0, s1, s2, nf, bd, mm, zo, fm, sn, hg, gc, gv, ze, 0]) ∧ t9 h0 = (15, ρ, [ta, ou, so, ad, na, va, lc, dm, tg, pe, ml, bg, co, sp, nb0, nb1, nb2, pl, se, ke, wi, hs, mo, po, nu, pr, sq, xa, sa, n64, m64, ex, wh, sd, tk, hd, ak, ho, ot, sx, s0, s1, s2, nf, bd, mm, zo, fm, sn, hg, gc, gv, ze, 0]) ∧ WTm t9 gm L ∧ OKm cs t9 gm L F_48 ∧ FR t9 [ρ, ρ + 8, ρ + 9] F F_48 := ⟨_, rfl, rtf_self, hW9, hO, hR⟩
  generalize H1 = H at hP hS ⊢
  have hw : r_47 = nI zt := hw
  subst hw
  obtain ⟨hq_72, hq_73, hq_74, hq_75, hq_76, hgO, hgA, hgB, hq_77⟩ := hW.sc hL_h0 hT_h0
  obtain ⟨hi_79, ht_80⟩ := hW.f_ta hL_h0 hT_h0
  have hF_78 : F_48 ta = .inl (cs 17, 3000, .inl gt) := (hB1.2.2.2 ta (by rw [← hty, ht_80]; simp)).trans hFta
  obtain ⟨hi_82, ht_83⟩ := hW.f_ml hL_h0 hT_h0
  have hF_81 : F_48 ml = .inl (cs 17, 3000, .inl gl) := (hB1.2.2.2 ml (by rw [← hty, ht_83]; simp)).trans hFml
  have hU26 : ∀ a ∈ L, (ty a).1 = 26 → a = bg ∨ a = co ∨ a = sp := by rw [hty]; exact U_re hU26
  have hU15 : ∀ a ∈ L, (ty a).1 = 15 → a = h0 := by rw [hty]; exact U15_re hU15
  refine lv_istore_n (lv' := [(1, .int (nI zt)), (0, .ref h0)]) hx hb dX15_message_4 rfl hl (by decide) rfl (fun ls hl => ?_)
  refine lv_iconst (v := 0) hx hb dX15_message_5 (by decide) ?_
  refine lv_istore_n (lv' := [(2, .int 0), (1, .int (nI zt)), (0, .ref h0)]) hx hb dX15_message_6 rfl hl (by decide) rfl (fun ls hl => ?_)
  refine lv_iconst (v := 0) hx hb dX15_message_7 (by decide) ?_
  refine lv_istore_n (lv' := [(3, .int 0), (2, .int 0), (1, .int (nI zt)), (0, .ref h0)]) hx hb dX15_message_8 rfl hl (by decide) rfl (fun ls hl => ?_)
  refine lv_iload_n hx hb dX15_message_9 rfl (lv_at hl 2 rfl) ?_
  refine lv_istore (lv' := [(4, .int (nI zt)), (3, .int 0), (2, .int 0), (1, .int (nI zt)), (0, .ref h0)]) hx hb dX15_message_10 hl (by decide) rfl (fun ls hl => ?_)
  refine lv_iconst (v := 1) hx hb dX15_message_12 (by decide) ?_
  refine lv_istore (lv' := [(5, .int 1), (4, .int (nI zt)), (3, .int 0), (2, .int 0), (1, .int (nI zt)), (0, .ref h0)]) hx hb dX15_message_13 hl (by decide) rfl (fun ls hl => ?_)
  obtain ⟨hi_84, ht_85⟩ := hW.f_nb0 hL_h0 hT_h0
  obtain ⟨f_86, hF_87, hq_88⟩ := hO.idb hi_84 ht_85
  obtain ⟨hi_89, ht_90⟩ := hW.f_nb1 hL_h0 hT_h0
  obtain ⟨f_91, hF_92, hq_93⟩ := hO.idb hi_89 ht_90
  obtain ⟨hi_94, ht_95⟩ := hW.f_nb2 hL_h0 hT_h0
  obtain ⟨f_96, hF_97, hq_98⟩ := hO.idb hi_94 ht_95
  refine W.widen (k := 0) (n := 0) (by omega) (by omega) ?_
  have hF_100 : F ta = .inl (cs 17, 3000, .inl gt) := (hR ta (by rw [ht_80]; simp)).symm.trans hF_78
  refine pl_loopm (σ := Nat × Nat × Nat × Int32 × (Nat → Int32) × (Nat → Int32) × (Nat → Int32) × (Nat → Nat → Nat)) A (dC, dI) cs ty gm L [ρ, ρ + 8, ρ + 9] F 15 8 (fun (kn, ka, kw, o5, e0, e1, e2, gq) => [(5, .int o5), (4, .int (nI kw)), (3, .int (nI ka)), (2, .int (nI kn)), (1, .int (nI zt)), (0, .ref h0)]) (fun (kn, ka, kw, o5, e0, e1, e2, gq) => []) (fun (kn, ka, kw, o5, e0, e1, e2, gq) FF => kn ≤ 20 ∧ ka ≤ zt ∧ kw ≤ zt ∧ (zt = 0 ∨ 1 ≤ kw) ∧ FLG e0 e1 e2 kn ka zt gq ∧ FF nb0 = .inl (cs 16, 21, .inl e0) ∧ FF nb1 = .inl (cs 16, 21, .inl e1) ∧ FF nb2 = .inl (cs 16, 21, .inl e2) ∧ FF ml = .inl (cs 17, 3000, .inl gl) ∧ (¬ o5 = 0 → kw = zt ∧ ∀ X, MR (clr gt) zt kn gq ka X → MR (clr gt) zt 0 gz 0 X) ∧ (o5 = 0 → MR (clr gt) zt 0 gz 0 (finm kn gq kw))) (fun (kn, ka, kw, o5, e0, e1, e2, gq) => zt - ka) ?_ (0, 0, zt, 1, f_86, f_91, f_96, gz) F_48 (⟨by omega, by omega, by omega, by omega, FLG.nil, hF_87, hF_92, hF_97, hF_81, fun _ => ⟨rfl, fun X hX => hX⟩, fun q => absurd q (by decide)⟩) hO hR _ _ hP hD hS ls (lv_sub hl [0, 1, 2, 3, 4, 5] rfl)
  rintro ⟨kn, ka, kw, o5, e0, e1, e2, gq⟩ F_99 hv_101 hO hR ih_102 H locs hP hD hS ls hl
  have hl : lv_has ls 8 [(5, .int o5), (4, .int (nI kw)), (3, .int (nI ka)), (2, .int (nI kn)), (1, .int (nI zt)), (0, .ref h0)] := hl
  have hv_101 : kn ≤ 20 ∧ ka ≤ zt ∧ kw ≤ zt ∧ (zt = 0 ∨ 1 ≤ kw) ∧ FLG e0 e1 e2 kn ka zt gq ∧ F_99 nb0 = .inl (cs 16, 21, .inl e0) ∧ F_99 nb1 = .inl (cs 16, 21, .inl e1) ∧ F_99 nb2 = .inl (cs 16, 21, .inl e2) ∧ F_99 ml = .inl (cs 17, 3000, .inl gl) ∧ (¬ o5 = 0 → kw = zt ∧ ∀ X, MR (clr gt) zt kn gq ka X → MR (clr gt) zt 0 gz 0 X) ∧ (o5 = 0 → MR (clr gt) zt 0 gz 0 (finm kn gq kw)) := hv_101
  refine W.eq (g2 := F0 m 15 ls []) rfl ?_
  have hF_103 : F_99 ta = .inl (cs 17, 3000, .inl gt) := (hR ta (by rw [ht_80]; simp)).trans hF_100
  obtain ⟨hva, hvb, hvc, hvd, hFL, hN0, hN1, hN2, hNm, hop1, hop0⟩ := hv_101
  have hIx0 := ixb_of hN0 (hO.idb hi_84 ht_85)
  have hIx1 := ixb_of hN1 (hO.idb hi_89 ht_90)
  have hIx2 := ixb_of hN2 (hO.idb hi_94 ht_95)
  refine lv_iload hx hb dX15_message_15 (lv_at hl 0 rfl) ?_
  have hF_106 : F ta = .inl (cs 17, 3000, .inl gt) := (hR ta (by rw [ht_80]; simp)).symm.trans hF_103
  refine W.widen (k := 0) (n := 0) (by omega) (by omega) ?_
  refine pl_cutm (σ := Unit) A (dC, dI) cs ty gm L [ρ, ρ + 8, ρ + 9] F 217 8 (fun u0 => [(4, .int (nI kw)), (3, .int (nI ka)), (2, .int (nI kn)), (1, .int (nI zt)), (0, .ref h0)]) (fun u0 => []) (fun u0 FF => FF = F_99 ∧ MR (clr gt) zt 0 gz 0 (finm kn gq kw)) ?_ (fun jn_104 => ?_)
  ·
    rintro u0 F_105 hv_107 hO hR H locs hP hD hS ls hl
    have hl : lv_has ls 8 [(4, .int (nI kw)), (3, .int (nI ka)), (2, .int (nI kn)), (1, .int (nI zt)), (0, .ref h0)] := hl
    have hv_107 : F_105 = F_99 ∧ MR (clr gt) zt 0 gz 0 (finm kn gq kw) := hv_107
    refine W.eq (g2 := F0 m 217 ls []) rfl ?_
    have hF_108 : F_105 ta = .inl (cs 17, 3000, .inl gt) := (hR ta (by rw [ht_80]; simp)).trans hF_106
    obtain ⟨hvs, hfin⟩ := id hv_107
    obtain rfl : F_99 = F_105 := hvs.symm
    refine lv_iload_n hx hb dX15_message_217 rfl (lv_at hl 2 rfl) ?_
    refine lv_if_ne (tgt := 223) hx hb dX15_message_218 (by decide) (fun c_109 => ?_) (fun c_109 => ?_)
    ·
      have hi_110 : kn ≠ 0 := fun q => c_109 (by rw [q]; rfl)
      obtain ⟨v14_111, v15_112, v17_113, v18_114, v19_115, v20_116, v21_117, v22_118, v33_119, v52_120, v53_121, v54_122, hF_123, hq_124, hq_125, hq_126, hq_127, hq_128⟩ := hO.mod hL_h0 hT_h0
      obtain ⟨hi_129, ht_130⟩ := hW.f_bg hL_h0 hT_h0
      obtain ⟨f_131, hF_132, hq_133⟩ := hO.pos hi_129 ht_130
      obtain ⟨hi_134, ht_135⟩ := hW.f_co hL_h0 hT_h0
      obtain ⟨f_136, hF_137, hq_138⟩ := hO.pos hi_134 ht_135
      obtain ⟨hi_139, ht_140⟩ := hW.f_sp hL_h0 hT_h0
      obtain ⟨f_141, hF_142, hq_143⟩ := hO.pos hi_139 ht_140
      obtain ⟨hq_144, hq_145⟩ := hW.octs hi_79 ht_80
      obtain ⟨hq_146, hq_147⟩ := hW.octs hi_82 ht_83
      have hq_148 := bfm_kn hF_103 (hO.octs hi_79 ht_80)
      have hq_149 := bfm_kn hNm (hO.octs hi_82 ht_83)
      refine lv_aload_n hx hb dX15_message_223 rfl (lv_at hl 4 rfl) ?_
      refine lv_iload_n hx hb dX15_message_224 rfl (lv_at hl 2 rfl) ?_
      refine pg_put (ci := 15) (v := .int (nI kn)) (ty := .int) (C := RX15) (T := TX15) (N := 59) hx hb hts it_15 tyX15 tyX15_ok nmX15 hown hK hP hD hS hL_h0 hF_123 rfl 30 (by decide) (hts _ kt_892) (fun _ h9 => h9) rfl (by decide +kernel) (rfl) (rfl) (Nat.le_of_ble_eq_true rfl) dX15_message_225 (fun H locs hP hD hS => ?_)
      obtain ⟨F_150, he_151, hP, hD, hR⟩ : ∃ G, G = va_up F_99 h0 (.inr (15, (.ref ta) :: (.int (nI 0)) :: (.int (nI zo)) :: (.int (nI ze)) :: (.ref ou) :: (.ref so) :: (.ref ad) :: (.ref na) :: (.ref va) :: (.ref lc) :: (.ref dm) :: (.int (nI fm)) :: (.int (nI sn)) :: (.ref tg) :: (.int v14_111) :: (.int v15_112) :: (.ref pe) :: (.int v17_113) :: (.int v18_114) :: (.int v19_115) :: (.int v20_116) :: (.int v21_117) :: (.int v22_118) :: (.ref ml) :: (.ref bg) :: (.ref co) :: (.ref sp) :: (.ref nb0) :: (.ref nb1) :: (.ref nb2) :: (.int (nI kn)) :: (.int (nI bd)) :: (.int (nI mm)) :: (.int v33_119) :: (.ref pl) :: (.ref se) :: (.ref ke) :: (.ref wi) :: (.ref hs) :: (.ref mo) :: (.ref po) :: (.ref nu) :: (.ref pr) :: (.ref sq) :: (.ref xa) :: (.ref sa) :: (.ref n64) :: (.ref m64) :: (.ref ex) :: (.ref wh) :: (.ref sd) :: (.ref tk) :: (.int v52_120) :: (.int v53_121) :: (.int v54_122) :: (.ref hd) :: (.ref ak) :: (.ref ho) :: (.ref ot) :: [])) ∧ va_P (dC, dI) vwCl (va_pl L G) H ∧ va_D A (va_pl L G) ∧ FR ty [ρ, ρ + 8, ρ + 9] F G := ⟨_, rfl, hP, hD, hR.up hT_h0 (by simp)⟩
      have hF_152 : F_150 h0 = .inr (15, (.ref ta) :: (.int (nI 0)) :: (.int (nI zo)) :: (.int (nI ze)) :: (.ref ou) :: (.ref so) :: (.ref ad) :: (.ref na) :: (.ref va) :: (.ref lc) :: (.ref dm) :: (.int (nI fm)) :: (.int (nI sn)) :: (.ref tg) :: (.int v14_111) :: (.int v15_112) :: (.ref pe) :: (.int v17_113) :: (.int v18_114) :: (.int v19_115) :: (.int v20_116) :: (.int v21_117) :: (.int v22_118) :: (.ref ml) :: (.ref bg) :: (.ref co) :: (.ref sp) :: (.ref nb0) :: (.ref nb1) :: (.ref nb2) :: (.int (nI kn)) :: (.int (nI bd)) :: (.int (nI mm)) :: (.int v33_119) :: (.ref pl) :: (.ref se) :: (.ref ke) :: (.ref wi) :: (.ref hs) :: (.ref mo) :: (.ref po) :: (.ref nu) :: (.ref pr) :: (.ref sq) :: (.ref xa) :: (.ref sa) :: (.ref n64) :: (.ref m64) :: (.ref ex) :: (.ref wh) :: (.ref sd) :: (.ref tk) :: (.int v52_120) :: (.int v53_121) :: (.int v54_122) :: (.ref hd) :: (.ref ak) :: (.ref ho) :: (.ref ot) :: []) := by rw [he_151]; exact up_self
      have hF_153 : F_150 ta = .inl (cs 17, 3000, .inl gt) := by rw [he_151, up_ne (ne_ty ht_80 hT_h0 (by simp))]; exact hF_103
      have hF_154 : F_150 ml = .inl (cs 17, 3000, .inl gl) := by rw [he_151, up_ne (ne_ty ht_83 hT_h0 (by simp))]; exact hNm
      have hF_155 : F_150 nb0 = .inl (cs 16, 21, .inl e0) := by rw [he_151, up_ne (ne_ty ht_85 hT_h0 (by simp))]; exact hN0
      have hF_156 : F_150 nb1 = .inl (cs 16, 21, .inl e1) := by rw [he_151, up_ne (ne_ty ht_90 hT_h0 (by simp))]; exact hN1
      have hF_157 : F_150 nb2 = .inl (cs 16, 21, .inl e2) := by rw [he_151, up_ne (ne_ty ht_95 hT_h0 (by simp))]; exact hN2
      have hF_158 : F_150 bg = .inl (cs 16, 21, .inl f_131) := by rw [he_151, up_ne (ne_ty ht_130 hT_h0 (by simp))]; exact hF_132
      have hF_159 : F_150 co = .inl (cs 16, 21, .inl f_136) := by rw [he_151, up_ne (ne_ty ht_135 hT_h0 (by simp))]; exact hF_137
      have hF_160 : F_150 sp = .inl (cs 16, 21, .inl f_141) := by rw [he_151, up_ne (ne_ty ht_140 hT_h0 (by simp))]; exact hF_142
      refine lv_aload_n hx hb dX15_message_228 rfl (lv_at hl 4 rfl) ?_
      refine pg_get (ci := 15) (v := .ref nb0) (C := RX15) (T := TX15) (N := 59) hx hb hts it_15 hown hK hP hL_h0 hF_152 rfl 27 (by decide) (hts _ kt_1003) (fun _ h9 => h9) rfl dX15_message_229 ?_
      refine lv_iconst (v := 0) hx hb dX15_message_232 (by decide) ?_
      refine lv_aload_n hx hb dX15_message_233 rfl (lv_at hl 4 rfl) ?_
      refine pg_get (ci := 15) (v := .ref bg) (C := RX15) (T := TX15) (N := 59) hx hb hts it_15 hown hK hP hL_h0 hF_152 rfl 24 (by decide) (hts _ kt_888) (fun _ h9 => h9) rfl dX15_message_234 ?_
      refine lv_iconst (v := 0) hx hb dX15_message_237 (by decide) ?_
      refine lv_iload_n hx hb dX15_message_238 rfl (lv_at hl 2 rfl) ?_
      refine pg_copyi hx hb (by rw [hml]; exact hl.1.symm) hown (hts _ kt_912) (hts _ kt_29) (hts _ kt_30) (hts _ kt_31) hK hP hD hS hi_84 hi_129 0 0 hF_155 hF_158 rfl rfl rfl (by decide) (by decide) (nI_pos (by omega)) (by rw [nI_clamp (by omega)]; show 0 + _ ≤ _; omega) (by rw [nI_clamp (by omega)]; show 0 + _ ≤ _; omega) (fun _ _ => rfl) (Nat.le_of_ble_eq_true rfl) (by decide) dX15_message_239 (fun H locs hP hD hS => ?_)
      obtain ⟨F_161, he_162, hP, hD, hR⟩ : ∃ G, G = va_up F_150 bg (.inl (cs 16, 21, .inl (va_cpy e0 f_131 (0 : Int32).toNatClampNeg (0 : Int32).toNatClampNeg ((nI kn)).toNatClampNeg))) ∧ va_P (dC, dI) vwCl (va_pl L G) H ∧ va_D A (va_pl L G) ∧ FR ty [ρ, ρ + 8, ρ + 9] F G := ⟨_, rfl, hP, hD, hR.up ht_130 (by simp)⟩
      have hF_163 : F_161 bg = .inl (cs 16, 21, .inl (va_cpy e0 f_131 (0 : Int32).toNatClampNeg (0 : Int32).toNatClampNeg ((nI kn)).toNatClampNeg)) := by rw [he_162]; exact up_self
      have hF_164 : F_161 h0 = .inr (15, (.ref ta) :: (.int (nI 0)) :: (.int (nI zo)) :: (.int (nI ze)) :: (.ref ou) :: (.ref so) :: (.ref ad) :: (.ref na) :: (.ref va) :: (.ref lc) :: (.ref dm) :: (.int (nI fm)) :: (.int (nI sn)) :: (.ref tg) :: (.int v14_111) :: (.int v15_112) :: (.ref pe) :: (.int v17_113) :: (.int v18_114) :: (.int v19_115) :: (.int v20_116) :: (.int v21_117) :: (.int v22_118) :: (.ref ml) :: (.ref bg) :: (.ref co) :: (.ref sp) :: (.ref nb0) :: (.ref nb1) :: (.ref nb2) :: (.int (nI kn)) :: (.int (nI bd)) :: (.int (nI mm)) :: (.int v33_119) :: (.ref pl) :: (.ref se) :: (.ref ke) :: (.ref wi) :: (.ref hs) :: (.ref mo) :: (.ref po) :: (.ref nu) :: (.ref pr) :: (.ref sq) :: (.ref xa) :: (.ref sa) :: (.ref n64) :: (.ref m64) :: (.ref ex) :: (.ref wh) :: (.ref sd) :: (.ref tk) :: (.int v52_120) :: (.int v53_121) :: (.int v54_122) :: (.ref hd) :: (.ref ak) :: (.ref ho) :: (.ref ot) :: []) := by rw [he_162, up_ne (ne_ty hT_h0 ht_130 (by simp))]; exact hF_152
      have hF_165 : F_161 ta = .inl (cs 17, 3000, .inl gt) := by rw [he_162, up_ne (ne_ty ht_80 ht_130 (by simp))]; exact hF_153
      have hF_166 : F_161 ml = .inl (cs 17, 3000, .inl gl) := by rw [he_162, up_ne (ne_ty ht_83 ht_130 (by simp))]; exact hF_154
      have hF_167 : F_161 nb0 = .inl (cs 16, 21, .inl e0) := by rw [he_162, up_ne (ne_ty ht_85 ht_130 (by simp))]; exact hF_155
      have hF_168 : F_161 nb1 = .inl (cs 16, 21, .inl e1) := by rw [he_162, up_ne (ne_ty ht_90 ht_130 (by simp))]; exact hF_156
      have hF_169 : F_161 nb2 = .inl (cs 16, 21, .inl e2) := by rw [he_162, up_ne (ne_ty ht_95 ht_130 (by simp))]; exact hF_157
      have hF_170 : F_161 co = .inl (cs 16, 21, .inl f_136) := by rw [he_162, up_ne (ne_ty2 ht_135 ht_130 (by simp))]; exact hF_159
      have hF_171 : F_161 sp = .inl (cs 16, 21, .inl f_141) := by rw [he_162, up_ne (ne_ty2 ht_140 ht_130 (by simp))]; exact hF_160
      refine lv_aload_n hx hb dX15_message_242 rfl (lv_at hl 4 rfl) ?_
      refine pg_get (ci := 15) (v := .ref nb1) (C := RX15) (T := TX15) (N := 59) hx hb hts it_15 hown hK hP hL_h0 hF_164 rfl 28 (by decide) (hts _ kt_1004) (fun _ h9 => h9) rfl dX15_message_243 ?_
      refine lv_iconst (v := 0) hx hb dX15_message_246 (by decide) ?_
      refine lv_aload_n hx hb dX15_message_247 rfl (lv_at hl 4 rfl) ?_
      refine pg_get (ci := 15) (v := .ref co) (C := RX15) (T := TX15) (N := 59) hx hb hts it_15 hown hK hP hL_h0 hF_164 rfl 25 (by decide) (hts _ kt_889) (fun _ h9 => h9) rfl dX15_message_248 ?_
      refine lv_iconst (v := 0) hx hb dX15_message_251 (by decide) ?_
      refine lv_iload_n hx hb dX15_message_252 rfl (lv_at hl 2 rfl) ?_
      refine pg_copyi hx hb (by rw [hml]; exact hl.1.symm) hown (hts _ kt_912) (hts _ kt_29) (hts _ kt_30) (hts _ kt_31) hK hP hD hS hi_89 hi_134 0 0 hF_168 hF_170 rfl rfl rfl (by decide) (by decide) (nI_pos (by omega)) (by rw [nI_clamp (by omega)]; show 0 + _ ≤ _; omega) (by rw [nI_clamp (by omega)]; show 0 + _ ≤ _; omega) (fun _ _ => rfl) (Nat.le_of_ble_eq_true rfl) (by decide) dX15_message_253 (fun H locs hP hD hS => ?_)
      obtain ⟨F_172, he_173, hP, hD, hR⟩ : ∃ G, G = va_up F_161 co (.inl (cs 16, 21, .inl (va_cpy e1 f_136 (0 : Int32).toNatClampNeg (0 : Int32).toNatClampNeg ((nI kn)).toNatClampNeg))) ∧ va_P (dC, dI) vwCl (va_pl L G) H ∧ va_D A (va_pl L G) ∧ FR ty [ρ, ρ + 8, ρ + 9] F G := ⟨_, rfl, hP, hD, hR.up ht_135 (by simp)⟩
      have hF_174 : F_172 co = .inl (cs 16, 21, .inl (va_cpy e1 f_136 (0 : Int32).toNatClampNeg (0 : Int32).toNatClampNeg ((nI kn)).toNatClampNeg)) := by rw [he_173]; exact up_self
      have hF_175 : F_172 bg = .inl (cs 16, 21, .inl (va_cpy e0 f_131 (0 : Int32).toNatClampNeg (0 : Int32).toNatClampNeg ((nI kn)).toNatClampNeg)) := by rw [he_173, up_ne (ne_ty2 ht_130 ht_135 (by simp))]; exact hF_163
      have hF_176 : F_172 h0 = .inr (15, (.ref ta) :: (.int (nI 0)) :: (.int (nI zo)) :: (.int (nI ze)) :: (.ref ou) :: (.ref so) :: (.ref ad) :: (.ref na) :: (.ref va) :: (.ref lc) :: (.ref dm) :: (.int (nI fm)) :: (.int (nI sn)) :: (.ref tg) :: (.int v14_111) :: (.int v15_112) :: (.ref pe) :: (.int v17_113) :: (.int v18_114) :: (.int v19_115) :: (.int v20_116) :: (.int v21_117) :: (.int v22_118) :: (.ref ml) :: (.ref bg) :: (.ref co) :: (.ref sp) :: (.ref nb0) :: (.ref nb1) :: (.ref nb2) :: (.int (nI kn)) :: (.int (nI bd)) :: (.int (nI mm)) :: (.int v33_119) :: (.ref pl) :: (.ref se) :: (.ref ke) :: (.ref wi) :: (.ref hs) :: (.ref mo) :: (.ref po) :: (.ref nu) :: (.ref pr) :: (.ref sq) :: (.ref xa) :: (.ref sa) :: (.ref n64) :: (.ref m64) :: (.ref ex) :: (.ref wh) :: (.ref sd) :: (.ref tk) :: (.int v52_120) :: (.int v53_121) :: (.int v54_122) :: (.ref hd) :: (.ref ak) :: (.ref ho) :: (.ref ot) :: []) := by rw [he_173, up_ne (ne_ty hT_h0 ht_135 (by simp))]; exact hF_164
      have hF_177 : F_172 ta = .inl (cs 17, 3000, .inl gt) := by rw [he_173, up_ne (ne_ty ht_80 ht_135 (by simp))]; exact hF_165
      have hF_178 : F_172 ml = .inl (cs 17, 3000, .inl gl) := by rw [he_173, up_ne (ne_ty ht_83 ht_135 (by simp))]; exact hF_166
      have hF_179 : F_172 nb0 = .inl (cs 16, 21, .inl e0) := by rw [he_173, up_ne (ne_ty ht_85 ht_135 (by simp))]; exact hF_167
      have hF_180 : F_172 nb1 = .inl (cs 16, 21, .inl e1) := by rw [he_173, up_ne (ne_ty ht_90 ht_135 (by simp))]; exact hF_168
      have hF_181 : F_172 nb2 = .inl (cs 16, 21, .inl e2) := by rw [he_173, up_ne (ne_ty ht_95 ht_135 (by simp))]; exact hF_169
      have hF_182 : F_172 sp = .inl (cs 16, 21, .inl f_141) := by rw [he_173, up_ne (ne_ty2 ht_140 ht_135 (by simp))]; exact hF_171
      refine lv_aload_n hx hb dX15_message_256 rfl (lv_at hl 4 rfl) ?_
      refine pg_get (ci := 15) (v := .ref nb2) (C := RX15) (T := TX15) (N := 59) hx hb hts it_15 hown hK hP hL_h0 hF_176 rfl 29 (by decide) (hts _ kt_1005) (fun _ h9 => h9) rfl dX15_message_257 ?_
      refine lv_iconst (v := 0) hx hb dX15_message_260 (by decide) ?_
      refine lv_aload_n hx hb dX15_message_261 rfl (lv_at hl 4 rfl) ?_
      refine pg_get (ci := 15) (v := .ref sp) (C := RX15) (T := TX15) (N := 59) hx hb hts it_15 hown hK hP hL_h0 hF_176 rfl 26 (by decide) (hts _ kt_890) (fun _ h9 => h9) rfl dX15_message_262 ?_
      refine lv_iconst (v := 0) hx hb dX15_message_265 (by decide) ?_
      refine lv_iload_n hx hb dX15_message_266 rfl (lv_at hl 2 rfl) ?_
      refine pg_copyi hx hb (by rw [hml]; exact hl.1.symm) hown (hts _ kt_912) (hts _ kt_29) (hts _ kt_30) (hts _ kt_31) hK hP hD hS hi_94 hi_139 0 0 hF_181 hF_182 rfl rfl rfl (by decide) (by decide) (nI_pos (by omega)) (by rw [nI_clamp (by omega)]; show 0 + _ ≤ _; omega) (by rw [nI_clamp (by omega)]; show 0 + _ ≤ _; omega) (fun _ _ => rfl) (Nat.le_of_ble_eq_true rfl) (by decide) dX15_message_267 (fun H locs hP hD hS => ?_)
      obtain ⟨F_183, he_184, hP, hD, hR⟩ : ∃ G, G = va_up F_172 sp (.inl (cs 16, 21, .inl (va_cpy e2 f_141 (0 : Int32).toNatClampNeg (0 : Int32).toNatClampNeg ((nI kn)).toNatClampNeg))) ∧ va_P (dC, dI) vwCl (va_pl L G) H ∧ va_D A (va_pl L G) ∧ FR ty [ρ, ρ + 8, ρ + 9] F G := ⟨_, rfl, hP, hD, hR.up ht_140 (by simp)⟩
      have hF_185 : F_183 sp = .inl (cs 16, 21, .inl (va_cpy e2 f_141 (0 : Int32).toNatClampNeg (0 : Int32).toNatClampNeg ((nI kn)).toNatClampNeg)) := by rw [he_184]; exact up_self
      have hF_186 : F_183 co = .inl (cs 16, 21, .inl (va_cpy e1 f_136 (0 : Int32).toNatClampNeg (0 : Int32).toNatClampNeg ((nI kn)).toNatClampNeg)) := by rw [he_184, up_ne (ne_ty2 ht_135 ht_140 (by simp))]; exact hF_174
      have hF_187 : F_183 bg = .inl (cs 16, 21, .inl (va_cpy e0 f_131 (0 : Int32).toNatClampNeg (0 : Int32).toNatClampNeg ((nI kn)).toNatClampNeg)) := by rw [he_184, up_ne (ne_ty2 ht_130 ht_140 (by simp))]; exact hF_175
      have hF_188 : F_183 h0 = .inr (15, (.ref ta) :: (.int (nI 0)) :: (.int (nI zo)) :: (.int (nI ze)) :: (.ref ou) :: (.ref so) :: (.ref ad) :: (.ref na) :: (.ref va) :: (.ref lc) :: (.ref dm) :: (.int (nI fm)) :: (.int (nI sn)) :: (.ref tg) :: (.int v14_111) :: (.int v15_112) :: (.ref pe) :: (.int v17_113) :: (.int v18_114) :: (.int v19_115) :: (.int v20_116) :: (.int v21_117) :: (.int v22_118) :: (.ref ml) :: (.ref bg) :: (.ref co) :: (.ref sp) :: (.ref nb0) :: (.ref nb1) :: (.ref nb2) :: (.int (nI kn)) :: (.int (nI bd)) :: (.int (nI mm)) :: (.int v33_119) :: (.ref pl) :: (.ref se) :: (.ref ke) :: (.ref wi) :: (.ref hs) :: (.ref mo) :: (.ref po) :: (.ref nu) :: (.ref pr) :: (.ref sq) :: (.ref xa) :: (.ref sa) :: (.ref n64) :: (.ref m64) :: (.ref ex) :: (.ref wh) :: (.ref sd) :: (.ref tk) :: (.int v52_120) :: (.int v53_121) :: (.int v54_122) :: (.ref hd) :: (.ref ak) :: (.ref ho) :: (.ref ot) :: []) := by rw [he_184, up_ne (ne_ty hT_h0 ht_140 (by simp))]; exact hF_176
      have hF_189 : F_183 ta = .inl (cs 17, 3000, .inl gt) := by rw [he_184, up_ne (ne_ty ht_80 ht_140 (by simp))]; exact hF_177
      have hF_190 : F_183 ml = .inl (cs 17, 3000, .inl gl) := by rw [he_184, up_ne (ne_ty ht_83 ht_140 (by simp))]; exact hF_178
      have hF_191 : F_183 nb0 = .inl (cs 16, 21, .inl e0) := by rw [he_184, up_ne (ne_ty ht_85 ht_140 (by simp))]; exact hF_179
      have hF_192 : F_183 nb1 = .inl (cs 16, 21, .inl e1) := by rw [he_184, up_ne (ne_ty ht_90 ht_140 (by simp))]; exact hF_180
      have hF_193 : F_183 nb2 = .inl (cs 16, 21, .inl e2) := by rw [he_184, up_ne (ne_ty ht_95 ht_140 (by simp))]; exact hF_181
      refine lv_aload_n hx hb dX15_message_270 rfl (lv_at hl 4 rfl) ?_
      refine pg_get (ci := 15) (v := .ref ta) (C := RX15) (T := TX15) (N := 59) hx hb hts it_15 hown hK hP hL_h0 hF_188 rfl 0 (by decide) (hts _ kt_1006) (fun _ h9 => h9) rfl dX15_message_271 ?_
      refine lv_iconst (v := 0) hx hb dX15_message_274 (by decide) ?_
      refine lv_aload_n hx hb dX15_message_275 rfl (lv_at hl 4 rfl) ?_
      refine pg_get (ci := 15) (v := .ref ml) (C := RX15) (T := TX15) (N := 59) hx hb hts it_15 hown hK hP hL_h0 hF_188 rfl 23 (by decide) (hts _ kt_887) (fun _ h9 => h9) rfl dX15_message_276 ?_
      refine lv_iconst (v := 0) hx hb dX15_message_279 (by decide) ?_
      refine lv_iload_n hx hb dX15_message_280 rfl (lv_at hl 3 rfl) ?_
      refine pg_copyi hx hb (by rw [hml]; exact hl.1.symm) hown (hts _ kt_912) (hts _ kt_29) (hts _ kt_30) (hts _ kt_31) hK hP hD hS hi_79 hi_82 1 1 hF_189 hF_190 rfl rfl rfl (by decide) (by decide) (nI_pos (by omega)) (by rw [nI_clamp (by omega)]; show 0 + _ ≤ _; omega) (by rw [nI_clamp (by omega)]; show 0 + _ ≤ _; omega) (fun _ _ => hq_148 _) (Nat.le_of_ble_eq_true rfl) (by decide) dX15_message_281 (fun H locs hP hD hS => ?_)
      obtain ⟨F_194, he_195, hP, hD, hR⟩ : ∃ G, G = va_up F_183 ml (.inl (cs 17, 3000, .inl (va_cpy gt gl (0 : Int32).toNatClampNeg (0 : Int32).toNatClampNeg ((nI zt)).toNatClampNeg))) ∧ va_P (dC, dI) vwCl (va_pl L G) H ∧ va_D A (va_pl L G) ∧ FR ty [ρ, ρ + 8, ρ + 9] F G := ⟨_, rfl, hP, hD, hR.up ht_83 (by simp)⟩
      have hF_196 : F_194 ml = .inl (cs 17, 3000, .inl (va_cpy gt gl (0 : Int32).toNatClampNeg (0 : Int32).toNatClampNeg ((nI zt)).toNatClampNeg)) := by rw [he_195]; exact up_self
      have hF_197 : F_194 sp = .inl (cs 16, 21, .inl (va_cpy e2 f_141 (0 : Int32).toNatClampNeg (0 : Int32).toNatClampNeg ((nI kn)).toNatClampNeg)) := by rw [he_195, up_ne (ne_ty ht_140 ht_83 (by simp))]; exact hF_185
      have hF_198 : F_194 co = .inl (cs 16, 21, .inl (va_cpy e1 f_136 (0 : Int32).toNatClampNeg (0 : Int32).toNatClampNeg ((nI kn)).toNatClampNeg)) := by rw [he_195, up_ne (ne_ty ht_135 ht_83 (by simp))]; exact hF_186
      have hF_199 : F_194 bg = .inl (cs 16, 21, .inl (va_cpy e0 f_131 (0 : Int32).toNatClampNeg (0 : Int32).toNatClampNeg ((nI kn)).toNatClampNeg)) := by rw [he_195, up_ne (ne_ty ht_130 ht_83 (by simp))]; exact hF_187
      have hF_200 : F_194 h0 = .inr (15, (.ref ta) :: (.int (nI 0)) :: (.int (nI zo)) :: (.int (nI ze)) :: (.ref ou) :: (.ref so) :: (.ref ad) :: (.ref na) :: (.ref va) :: (.ref lc) :: (.ref dm) :: (.int (nI fm)) :: (.int (nI sn)) :: (.ref tg) :: (.int v14_111) :: (.int v15_112) :: (.ref pe) :: (.int v17_113) :: (.int v18_114) :: (.int v19_115) :: (.int v20_116) :: (.int v21_117) :: (.int v22_118) :: (.ref ml) :: (.ref bg) :: (.ref co) :: (.ref sp) :: (.ref nb0) :: (.ref nb1) :: (.ref nb2) :: (.int (nI kn)) :: (.int (nI bd)) :: (.int (nI mm)) :: (.int v33_119) :: (.ref pl) :: (.ref se) :: (.ref ke) :: (.ref wi) :: (.ref hs) :: (.ref mo) :: (.ref po) :: (.ref nu) :: (.ref pr) :: (.ref sq) :: (.ref xa) :: (.ref sa) :: (.ref n64) :: (.ref m64) :: (.ref ex) :: (.ref wh) :: (.ref sd) :: (.ref tk) :: (.int v52_120) :: (.int v53_121) :: (.int v54_122) :: (.ref hd) :: (.ref ak) :: (.ref ho) :: (.ref ot) :: []) := by rw [he_195, up_ne (ne_ty hT_h0 ht_83 (by simp))]; exact hF_188
      have hF_201 : F_194 ta = .inl (cs 17, 3000, .inl gt) := by rw [he_195, up_ne (ne_ty2 ht_80 ht_83 (by simp))]; exact hF_189
      have hF_202 : F_194 nb0 = .inl (cs 16, 21, .inl e0) := by rw [he_195, up_ne (ne_ty ht_85 ht_83 (by simp))]; exact hF_191
      have hF_203 : F_194 nb1 = .inl (cs 16, 21, .inl e1) := by rw [he_195, up_ne (ne_ty ht_90 ht_83 (by simp))]; exact hF_192
      have hF_204 : F_194 nb2 = .inl (cs 16, 21, .inl e2) := by rw [he_195, up_ne (ne_ty ht_95 ht_83 (by simp))]; exact hF_193
      obtain ⟨f_205, hF_196, hq_206, hfe_207⟩ : ∃ f : Nat → Int32, F_194 ml = .inl (cs 17, 3000, .inl f) ∧ BFm f ∧ f = va_cpy gt gl (0 : Int32).toNatClampNeg (0 : Int32).toNatClampNeg ((nI zt)).toNatClampNeg := ⟨_, hF_196, bfm_cpy hq_148 hq_149 _ _ _, rfl⟩
      refine lv_aload_n hx hb dX15_message_284 rfl (lv_at hl 4 rfl) ?_
      refine lv_iload hx hb dX15_message_285 (lv_at hl 0 rfl) ?_
      refine pg_put (ci := 15) (v := .int (nI kw)) (ty := .int) (C := RX15) (T := TX15) (N := 59) hx hb hts it_15 tyX15 tyX15_ok nmX15 hown hK hP hD hS hL_h0 hF_200 rfl 31 (by decide) (hts _ kt_902) (fun _ h9 => h9) rfl (by decide +kernel) (rfl) (rfl) (Nat.le_of_ble_eq_true rfl) dX15_message_287 (fun H locs hP hD hS => ?_)
      obtain ⟨F_208, he_209, hP, hD, hR⟩ : ∃ G, G = va_up F_194 h0 (.inr (15, (.ref ta) :: (.int (nI 0)) :: (.int (nI zo)) :: (.int (nI ze)) :: (.ref ou) :: (.ref so) :: (.ref ad) :: (.ref na) :: (.ref va) :: (.ref lc) :: (.ref dm) :: (.int (nI fm)) :: (.int (nI sn)) :: (.ref tg) :: (.int v14_111) :: (.int v15_112) :: (.ref pe) :: (.int v17_113) :: (.int v18_114) :: (.int v19_115) :: (.int v20_116) :: (.int v21_117) :: (.int v22_118) :: (.ref ml) :: (.ref bg) :: (.ref co) :: (.ref sp) :: (.ref nb0) :: (.ref nb1) :: (.ref nb2) :: (.int (nI kn)) :: (.int (nI kw)) :: (.int (nI mm)) :: (.int v33_119) :: (.ref pl) :: (.ref se) :: (.ref ke) :: (.ref wi) :: (.ref hs) :: (.ref mo) :: (.ref po) :: (.ref nu) :: (.ref pr) :: (.ref sq) :: (.ref xa) :: (.ref sa) :: (.ref n64) :: (.ref m64) :: (.ref ex) :: (.ref wh) :: (.ref sd) :: (.ref tk) :: (.int v52_120) :: (.int v53_121) :: (.int v54_122) :: (.ref hd) :: (.ref ak) :: (.ref ho) :: (.ref ot) :: [])) ∧ va_P (dC, dI) vwCl (va_pl L G) H ∧ va_D A (va_pl L G) ∧ FR ty [ρ, ρ + 8, ρ + 9] F G := ⟨_, rfl, hP, hD, hR.up hT_h0 (by simp)⟩
      have hF_210 : F_208 h0 = .inr (15, (.ref ta) :: (.int (nI 0)) :: (.int (nI zo)) :: (.int (nI ze)) :: (.ref ou) :: (.ref so) :: (.ref ad) :: (.ref na) :: (.ref va) :: (.ref lc) :: (.ref dm) :: (.int (nI fm)) :: (.int (nI sn)) :: (.ref tg) :: (.int v14_111) :: (.int v15_112) :: (.ref pe) :: (.int v17_113) :: (.int v18_114) :: (.int v19_115) :: (.int v20_116) :: (.int v21_117) :: (.int v22_118) :: (.ref ml) :: (.ref bg) :: (.ref co) :: (.ref sp) :: (.ref nb0) :: (.ref nb1) :: (.ref nb2) :: (.int (nI kn)) :: (.int (nI kw)) :: (.int (nI mm)) :: (.int v33_119) :: (.ref pl) :: (.ref se) :: (.ref ke) :: (.ref wi) :: (.ref hs) :: (.ref mo) :: (.ref po) :: (.ref nu) :: (.ref pr) :: (.ref sq) :: (.ref xa) :: (.ref sa) :: (.ref n64) :: (.ref m64) :: (.ref ex) :: (.ref wh) :: (.ref sd) :: (.ref tk) :: (.int v52_120) :: (.int v53_121) :: (.int v54_122) :: (.ref hd) :: (.ref ak) :: (.ref ho) :: (.ref ot) :: []) := by rw [he_209]; exact up_self
      have hF_211 : F_208 ml = .inl (cs 17, 3000, .inl f_205) := by rw [he_209, up_ne (ne_ty ht_83 hT_h0 (by simp))]; exact hF_196
      have hF_212 : F_208 sp = .inl (cs 16, 21, .inl (va_cpy e2 f_141 (0 : Int32).toNatClampNeg (0 : Int32).toNatClampNeg ((nI kn)).toNatClampNeg)) := by rw [he_209, up_ne (ne_ty ht_140 hT_h0 (by simp))]; exact hF_197
      have hF_213 : F_208 co = .inl (cs 16, 21, .inl (va_cpy e1 f_136 (0 : Int32).toNatClampNeg (0 : Int32).toNatClampNeg ((nI kn)).toNatClampNeg)) := by rw [he_209, up_ne (ne_ty ht_135 hT_h0 (by simp))]; exact hF_198
      have hF_214 : F_208 bg = .inl (cs 16, 21, .inl (va_cpy e0 f_131 (0 : Int32).toNatClampNeg (0 : Int32).toNatClampNeg ((nI kn)).toNatClampNeg)) := by rw [he_209, up_ne (ne_ty ht_130 hT_h0 (by simp))]; exact hF_199
      have hF_215 : F_208 ta = .inl (cs 17, 3000, .inl gt) := by rw [he_209, up_ne (ne_ty ht_80 hT_h0 (by simp))]; exact hF_201
      have hF_216 : F_208 nb0 = .inl (cs 16, 21, .inl e0) := by rw [he_209, up_ne (ne_ty ht_85 hT_h0 (by simp))]; exact hF_202
      have hF_217 : F_208 nb1 = .inl (cs 16, 21, .inl e1) := by rw [he_209, up_ne (ne_ty ht_90 hT_h0 (by simp))]; exact hF_203
      have hF_218 : F_208 nb2 = .inl (cs 16, 21, .inl e2) := by rw [he_209, up_ne (ne_ty ht_95 hT_h0 (by simp))]; exact hF_204
      refine lv_aload_n hx hb dX15_message_290 rfl (lv_at hl 4 rfl) ?_
      refine lv_iload_n hx hb dX15_message_291 rfl (lv_at hl 3 rfl) ?_
      refine pg_put (ci := 15) (v := .int (nI zt)) (ty := .int) (C := RX15) (T := TX15) (N := 59) hx hb hts it_15 tyX15 tyX15_ok nmX15 hown hK hP hD hS hL_h0 hF_210 rfl 32 (by decide) (hts _ kt_903) (fun _ h9 => h9) rfl (by decide +kernel) (rfl) (rfl) (Nat.le_of_ble_eq_true rfl) dX15_message_292 (fun H locs hP hD hS => ?_)
      obtain ⟨F_219, he_220, hP, hD, hR⟩ : ∃ G, G = va_up F_208 h0 (.inr (15, (.ref ta) :: (.int (nI 0)) :: (.int (nI zo)) :: (.int (nI ze)) :: (.ref ou) :: (.ref so) :: (.ref ad) :: (.ref na) :: (.ref va) :: (.ref lc) :: (.ref dm) :: (.int (nI fm)) :: (.int (nI sn)) :: (.ref tg) :: (.int v14_111) :: (.int v15_112) :: (.ref pe) :: (.int v17_113) :: (.int v18_114) :: (.int v19_115) :: (.int v20_116) :: (.int v21_117) :: (.int v22_118) :: (.ref ml) :: (.ref bg) :: (.ref co) :: (.ref sp) :: (.ref nb0) :: (.ref nb1) :: (.ref nb2) :: (.int (nI kn)) :: (.int (nI kw)) :: (.int (nI zt)) :: (.int v33_119) :: (.ref pl) :: (.ref se) :: (.ref ke) :: (.ref wi) :: (.ref hs) :: (.ref mo) :: (.ref po) :: (.ref nu) :: (.ref pr) :: (.ref sq) :: (.ref xa) :: (.ref sa) :: (.ref n64) :: (.ref m64) :: (.ref ex) :: (.ref wh) :: (.ref sd) :: (.ref tk) :: (.int v52_120) :: (.int v53_121) :: (.int v54_122) :: (.ref hd) :: (.ref ak) :: (.ref ho) :: (.ref ot) :: [])) ∧ va_P (dC, dI) vwCl (va_pl L G) H ∧ va_D A (va_pl L G) ∧ FR ty [ρ, ρ + 8, ρ + 9] F G := ⟨_, rfl, hP, hD, hR.up hT_h0 (by simp)⟩
      have hF_221 : F_219 h0 = .inr (15, (.ref ta) :: (.int (nI 0)) :: (.int (nI zo)) :: (.int (nI ze)) :: (.ref ou) :: (.ref so) :: (.ref ad) :: (.ref na) :: (.ref va) :: (.ref lc) :: (.ref dm) :: (.int (nI fm)) :: (.int (nI sn)) :: (.ref tg) :: (.int v14_111) :: (.int v15_112) :: (.ref pe) :: (.int v17_113) :: (.int v18_114) :: (.int v19_115) :: (.int v20_116) :: (.int v21_117) :: (.int v22_118) :: (.ref ml) :: (.ref bg) :: (.ref co) :: (.ref sp) :: (.ref nb0) :: (.ref nb1) :: (.ref nb2) :: (.int (nI kn)) :: (.int (nI kw)) :: (.int (nI zt)) :: (.int v33_119) :: (.ref pl) :: (.ref se) :: (.ref ke) :: (.ref wi) :: (.ref hs) :: (.ref mo) :: (.ref po) :: (.ref nu) :: (.ref pr) :: (.ref sq) :: (.ref xa) :: (.ref sa) :: (.ref n64) :: (.ref m64) :: (.ref ex) :: (.ref wh) :: (.ref sd) :: (.ref tk) :: (.int v52_120) :: (.int v53_121) :: (.int v54_122) :: (.ref hd) :: (.ref ak) :: (.ref ho) :: (.ref ot) :: []) := by rw [he_220]; exact up_self
      have hF_222 : F_219 ml = .inl (cs 17, 3000, .inl f_205) := by rw [he_220, up_ne (ne_ty ht_83 hT_h0 (by simp))]; exact hF_211
      have hF_223 : F_219 sp = .inl (cs 16, 21, .inl (va_cpy e2 f_141 (0 : Int32).toNatClampNeg (0 : Int32).toNatClampNeg ((nI kn)).toNatClampNeg)) := by rw [he_220, up_ne (ne_ty ht_140 hT_h0 (by simp))]; exact hF_212
      have hF_224 : F_219 co = .inl (cs 16, 21, .inl (va_cpy e1 f_136 (0 : Int32).toNatClampNeg (0 : Int32).toNatClampNeg ((nI kn)).toNatClampNeg)) := by rw [he_220, up_ne (ne_ty ht_135 hT_h0 (by simp))]; exact hF_213
      have hF_225 : F_219 bg = .inl (cs 16, 21, .inl (va_cpy e0 f_131 (0 : Int32).toNatClampNeg (0 : Int32).toNatClampNeg ((nI kn)).toNatClampNeg)) := by rw [he_220, up_ne (ne_ty ht_130 hT_h0 (by simp))]; exact hF_214
      have hF_226 : F_219 ta = .inl (cs 17, 3000, .inl gt) := by rw [he_220, up_ne (ne_ty ht_80 hT_h0 (by simp))]; exact hF_215
      have hF_227 : F_219 nb0 = .inl (cs 16, 21, .inl e0) := by rw [he_220, up_ne (ne_ty ht_85 hT_h0 (by simp))]; exact hF_216
      have hF_228 : F_219 nb1 = .inl (cs 16, 21, .inl e1) := by rw [he_220, up_ne (ne_ty ht_90 hT_h0 (by simp))]; exact hF_217
      have hF_229 : F_219 nb2 = .inl (cs 16, 21, .inl e2) := by rw [he_220, up_ne (ne_ty ht_95 hT_h0 (by simp))]; exact hF_218
      refine lv_aload_n hx hb dX15_message_295 rfl (lv_at hl 4 rfl) ?_
      refine lv_iconst (v := 1) hx hb dX15_message_296 (by decide) ?_
      refine pg_put (ci := 15) (v := .int 1) (ty := .boolean) (C := RX15) (T := TX15) (N := 59) hx hb hts it_15 tyX15 tyX15_ok nmX15 hown hK hP hD hS hL_h0 hF_221 rfl 33 (by decide) (hts _ kt_891) (fun _ h9 => h9) rfl (by decide +kernel) (rfl) (rfl) (Nat.le_of_ble_eq_true rfl) dX15_message_297 (fun H locs hP hD hS => ?_)
      obtain ⟨F_230, he_231, hP, hD, hR⟩ : ∃ G, G = va_up F_219 h0 (.inr (15, (.ref ta) :: (.int (nI 0)) :: (.int (nI zo)) :: (.int (nI ze)) :: (.ref ou) :: (.ref so) :: (.ref ad) :: (.ref na) :: (.ref va) :: (.ref lc) :: (.ref dm) :: (.int (nI fm)) :: (.int (nI sn)) :: (.ref tg) :: (.int v14_111) :: (.int v15_112) :: (.ref pe) :: (.int v17_113) :: (.int v18_114) :: (.int v19_115) :: (.int v20_116) :: (.int v21_117) :: (.int v22_118) :: (.ref ml) :: (.ref bg) :: (.ref co) :: (.ref sp) :: (.ref nb0) :: (.ref nb1) :: (.ref nb2) :: (.int (nI kn)) :: (.int (nI kw)) :: (.int (nI zt)) :: (.int 1) :: (.ref pl) :: (.ref se) :: (.ref ke) :: (.ref wi) :: (.ref hs) :: (.ref mo) :: (.ref po) :: (.ref nu) :: (.ref pr) :: (.ref sq) :: (.ref xa) :: (.ref sa) :: (.ref n64) :: (.ref m64) :: (.ref ex) :: (.ref wh) :: (.ref sd) :: (.ref tk) :: (.int v52_120) :: (.int v53_121) :: (.int v54_122) :: (.ref hd) :: (.ref ak) :: (.ref ho) :: (.ref ot) :: [])) ∧ va_P (dC, dI) vwCl (va_pl L G) H ∧ va_D A (va_pl L G) ∧ FR ty [ρ, ρ + 8, ρ + 9] F G := ⟨_, rfl, hP, hD, hR.up hT_h0 (by simp)⟩
      have hF_232 : F_230 h0 = .inr (15, (.ref ta) :: (.int (nI 0)) :: (.int (nI zo)) :: (.int (nI ze)) :: (.ref ou) :: (.ref so) :: (.ref ad) :: (.ref na) :: (.ref va) :: (.ref lc) :: (.ref dm) :: (.int (nI fm)) :: (.int (nI sn)) :: (.ref tg) :: (.int v14_111) :: (.int v15_112) :: (.ref pe) :: (.int v17_113) :: (.int v18_114) :: (.int v19_115) :: (.int v20_116) :: (.int v21_117) :: (.int v22_118) :: (.ref ml) :: (.ref bg) :: (.ref co) :: (.ref sp) :: (.ref nb0) :: (.ref nb1) :: (.ref nb2) :: (.int (nI kn)) :: (.int (nI kw)) :: (.int (nI zt)) :: (.int 1) :: (.ref pl) :: (.ref se) :: (.ref ke) :: (.ref wi) :: (.ref hs) :: (.ref mo) :: (.ref po) :: (.ref nu) :: (.ref pr) :: (.ref sq) :: (.ref xa) :: (.ref sa) :: (.ref n64) :: (.ref m64) :: (.ref ex) :: (.ref wh) :: (.ref sd) :: (.ref tk) :: (.int v52_120) :: (.int v53_121) :: (.int v54_122) :: (.ref hd) :: (.ref ak) :: (.ref ho) :: (.ref ot) :: []) := by rw [he_231]; exact up_self
      have hF_233 : F_230 ml = .inl (cs 17, 3000, .inl f_205) := by rw [he_231, up_ne (ne_ty ht_83 hT_h0 (by simp))]; exact hF_222
      have hF_234 : F_230 sp = .inl (cs 16, 21, .inl (va_cpy e2 f_141 (0 : Int32).toNatClampNeg (0 : Int32).toNatClampNeg ((nI kn)).toNatClampNeg)) := by rw [he_231, up_ne (ne_ty ht_140 hT_h0 (by simp))]; exact hF_223
      have hF_235 : F_230 co = .inl (cs 16, 21, .inl (va_cpy e1 f_136 (0 : Int32).toNatClampNeg (0 : Int32).toNatClampNeg ((nI kn)).toNatClampNeg)) := by rw [he_231, up_ne (ne_ty ht_135 hT_h0 (by simp))]; exact hF_224
      have hF_236 : F_230 bg = .inl (cs 16, 21, .inl (va_cpy e0 f_131 (0 : Int32).toNatClampNeg (0 : Int32).toNatClampNeg ((nI kn)).toNatClampNeg)) := by rw [he_231, up_ne (ne_ty ht_130 hT_h0 (by simp))]; exact hF_225
      have hF_237 : F_230 ta = .inl (cs 17, 3000, .inl gt) := by rw [he_231, up_ne (ne_ty ht_80 hT_h0 (by simp))]; exact hF_226
      have hF_238 : F_230 nb0 = .inl (cs 16, 21, .inl e0) := by rw [he_231, up_ne (ne_ty ht_85 hT_h0 (by simp))]; exact hF_227
      have hF_239 : F_230 nb1 = .inl (cs 16, 21, .inl e1) := by rw [he_231, up_ne (ne_ty ht_90 hT_h0 (by simp))]; exact hF_228
      have hF_240 : F_230 nb2 = .inl (cs 16, 21, .inl e2) := by rw [he_231, up_ne (ne_ty ht_95 hT_h0 (by simp))]; exact hF_229
      obtain ⟨hg1, hg2, hg3⟩ := FLG.out hFL
      have hg20 := hg2 0 (by omega)
      have hG : ∀ b, b ≠ h0 → b ≠ bg → b ≠ co → b ≠ sp → b ≠ ml → F_230 b = F_99 b := fun b n0 n1 n2 n3 n4 => by rw [he_231, up_ne n0, he_220, up_ne n0, he_209, up_ne n0, he_195, up_ne n4, he_184, up_ne n3, he_173, up_ne n2, he_162, up_ne n1, he_151, up_ne n0]
      have x0 : shm cs (rtf ty h0 (15, ρ, [ta, ou, so, ad, na, va, lc, dm, tg, pe, ml, bg, co, sp, nb0, nb1, nb2, pl, se, ke, wi, hs, mo, po, nu, pr, sq, xa, sa, n64, m64, ex, wh, sd, tk, hd, ak, ho, ot, sx, s0, s1, s2, kn, kw, zt, zo, fm, sn, hg, gc, gv, ze, 0])) (gmu kn (grz zt gq) gm) L h0 (F_230 h0) := by rw [hF_232]; exact shm.mod rtf_self ⟨v14_111, v15_112, v17_113, v18_114, v19_115, v20_116, v21_117, v22_118, 1, v52_120, v53_121, v54_122, rfl, (by omega), (by omega), (Or.inr ⟨rfl, by omega⟩), (by first | assumption | exact Or.inl rfl | exact Or.inr rfl), (by first | assumption | exact Or.inl rfl)⟩
      have x1 : shm cs (rtf ty h0 (15, ρ, [ta, ou, so, ad, na, va, lc, dm, tg, pe, ml, bg, co, sp, nb0, nb1, nb2, pl, se, ke, wi, hs, mo, po, nu, pr, sq, xa, sa, n64, m64, ex, wh, sd, tk, hd, ak, ho, ot, sx, s0, s1, s2, kn, kw, zt, zo, fm, sn, hg, gc, gv, ze, 0])) (gmu kn (grz zt gq) gm) L bg (F_230 bg) := by rw [hF_236]; exact shm.pos (rtf_tr hT_h0 (by decide) ht_130) ⟨_, rfl, cpy_gm (by omega) (by decide) (fun j hj => (hg1 j hj).1) hq_133⟩
      have x2 : shm cs (rtf ty h0 (15, ρ, [ta, ou, so, ad, na, va, lc, dm, tg, pe, ml, bg, co, sp, nb0, nb1, nb2, pl, se, ke, wi, hs, mo, po, nu, pr, sq, xa, sa, n64, m64, ex, wh, sd, tk, hd, ak, ho, ot, sx, s0, s1, s2, kn, kw, zt, zo, fm, sn, hg, gc, gv, ze, 0])) (gmu kn (grz zt gq) gm) L co (F_230 co) := by rw [hF_235]; exact shm.pos (rtf_tr hT_h0 (by decide) ht_135) ⟨_, rfl, cpy_gm (by omega) (by decide) (fun j hj => (hg1 j hj).2.1) hq_138⟩
      have x3 : shm cs (rtf ty h0 (15, ρ, [ta, ou, so, ad, na, va, lc, dm, tg, pe, ml, bg, co, sp, nb0, nb1, nb2, pl, se, ke, wi, hs, mo, po, nu, pr, sq, xa, sa, n64, m64, ex, wh, sd, tk, hd, ak, ho, ot, sx, s0, s1, s2, kn, kw, zt, zo, fm, sn, hg, gc, gv, ze, 0])) (gmu kn (grz zt gq) gm) L sp (F_230 sp) := by rw [hF_234]; exact shm.pos (rtf_tr hT_h0 (by decide) ht_140) ⟨_, rfl, cpy_gm (by omega) (by decide) (fun j hj => (hg1 j hj).2.2) hq_143⟩
      have x4 : shm cs (rtf ty h0 (15, ρ, [ta, ou, so, ad, na, va, lc, dm, tg, pe, ml, bg, co, sp, nb0, nb1, nb2, pl, se, ke, wi, hs, mo, po, nu, pr, sq, xa, sa, n64, m64, ex, wh, sd, tk, hd, ak, ho, ot, sx, s0, s1, s2, kn, kw, zt, zo, fm, sn, hg, gc, gv, ze, 0])) (gmu kn (grz zt gq) gm) L ml (F_230 ml) := by rw [hF_233]; exact shm.octs (rtf_tr hT_h0 (by decide) ht_83) ⟨_, rfl, hq_206⟩
      have hO2 := OKm.commit hO hT_h0 hU26 hU15 hG x0 x1 x2 x3 x4
      have hW2 := WTm.commit (gF := (grz zt gq)) (n2 := kn) (b2 := kw) (m2 := zt) hW hL_h0 hT_h0 hU15 (by omega) (by omega) (by omega) (by omega) hg2 hg3 (by omega)
      have hR2 := FR.retype (im2 := [ta, ou, so, ad, na, va, lc, dm, tg, pe, ml, bg, co, sp, nb0, nb1, nb2, pl, se, ke, wi, hs, mo, po, nu, pr, sq, xa, sa, n64, m64, ex, wh, sd, tk, hd, ak, ho, ot, sx, s0, s1, s2, kn, kw, zt, zo, fm, sn, hg, gc, gv, ze, 0]) hT_h0 hR
      refine lv_iload_n hx hb dX15_message_300 rfl (lv_at hl 2 rfl) ?_
      refine W.widen (k := 0) (n := 0) (by omega) (by omega) ?_
      exact W.iret (v := (nI kn)) hx hb hr (fun t ht hWm => ⟨⟨(nI kn), (some (kn, gq, kw)), rfl, (msx_f1 (by omega) (by omega) hfin), ⟨F_230, rtf ty h0 (15, ρ, [ta, ou, so, ad, na, va, lc, dm, tg, pe, ml, bg, co, sp, nb0, nb1, nb2, pl, se, ke, wi, hs, mo, po, nu, pr, sq, xa, sa, n64, m64, ex, wh, sd, tk, hd, ak, ho, ot, sx, s0, s1, s2, kn, kw, zt, zo, fm, sn, hg, gc, gv, ze, 0]), gmu kn (grz zt gq) gm, kn, kw, zt, (by rw [hty, rtf_rtf]), QTm.mk ht hP hD hO2 hR2, hW2, Or.inr ⟨(kn, gq, kw), f_205, rfl, rfl, rfl, rfl, hF_233, (by rw [hfe_207]; exact cpy_ml (by omega)), fun j hj => ⟨(gmu_in hj (by decide)).trans (if_neg (by decide)), (gmu_in hj (by decide)).trans (if_neg (by decide)), (gmu_in hj (by decide)).trans (if_pos rfl)⟩⟩⟩⟩, hS.F ht⟩) hS.2.2 dX15_message_301
    ·
      have hi_241 : kn = 0 := (nI_eq (a := kn) (b := 0) (by omega) (by omega)).mp c_109
      refine lv_iconst (v := (-1)) hx hb dX15_message_221 (by decide) ?_
      refine W.widen (k := 0) (n := 0) (by omega) (by omega) ?_
      exact W.iret (v := (-1)) hx hb hr (fun t ht hWm => ⟨⟨(-1), none, rfl, (msx_f0 (by omega) hfin), ⟨F_99, ty, gm, nf, bd, mm, hty, QTm.mk ht hP hD hO hR, hW, Or.inl ⟨rfl, rfl, rfl, rfl, rfl, hNm⟩⟩⟩, hS.F ht⟩) hS.2.2 dX15_message_222
  ·
    refine lv_if_eq (tgt := 217) hx hb dX15_message_17 (by decide) (fun c_242 => ?_) (fun c_242 => ?_)
    ·
      refine W.widen (k := 0) (n := 0) (by omega) (by omega) ?_
      exact jn_104 () F_99 (⟨rfl, hop0 c_242⟩) hO hR _ _ hP hD hS ls (lv_sub hl [1, 2, 3, 4, 5] rfl)
    ·
      have hop := hop1 c_242
      refine lv_iload_n hx hb dX15_message_20 rfl (lv_at hl 2 rfl) ?_
      refine lv_iload_n hx hb dX15_message_21 rfl (lv_at hl 4 rfl) ?_
      refine lv_icmp_ge (tgt := 217) hx hb dX15_message_22 (by decide) (fun c_243 => ?_) (fun c_243 => ?_)
      ·
        have hi_244 : zt ≤ ka := leN (N := zt) c_243
        refine W.widen (k := 0) (n := 0) (by omega) (by omega) ?_
        exact jn_104 () F_99 (⟨rfl, by have h9 := hop.2 _ (mr_fin (T := clr gt) (z := zt) (n := kn) (a := ka) (g := gq) (by omega)); rw [hop.1]; exact h9⟩) hO hR _ _ hP hD hS ls (lv_sub hl [1, 2, 3, 4, 5] rfl)
      ·
        have hi_245 : ka < zt := ltN (N := zt) c_243
        refine lv_aload_n hx hb dX15_message_25 rfl (lv_at hl 5 rfl) ?_
        obtain ⟨v14_246, v15_247, v17_248, v18_249, v19_250, v20_251, v21_252, v22_253, v33_254, v52_255, v53_256, v54_257, hF_258, hq_259, hq_260, hq_261, hq_262, hq_263⟩ := hO.mod hL_h0 hT_h0
        refine pg_get (ci := 15) (v := .ref ta) (C := RX15) (T := TX15) (N := 59) hx hb hts it_15 hown hK hP hL_h0 hF_258 rfl 0 (by decide) (hts _ kt_1006) (fun _ h9 => h9) rfl dX15_message_26 ?_
        refine lv_iload_n hx hb dX15_message_29 rfl (lv_at hl 2 rfl) ?_
        refine lv_iload_n hx hb dX15_message_30 rfl (lv_at hl 4 rfl) ?_
        obtain ⟨hq_264, hq_265⟩ := hW.octs hi_79 ht_80
        have hFc := pg_free hD hS hA
        refine va_calli (va_runS (As := [.ref ta, .int (nI ka), .int (nI zt)]) (rest := []) ⟨hx, hb, hml, hown, hts⟩ (s_X15_lineEnd_e l dC dI cs ty gm L H.size F_99 ta (ρ + 1) 3000 ka zt gt hW hi_79 ht_80 hF_103 (by first | omega | assumption | exact Or.inl rfl) (by first | omega | assumption | exact Or.inl rfl)) ⟨callB_of 3 hts (gi kt_904) rfl rfl rfl (hts _ kt_669) (hts _ kt_905) (by decide +kernel) ⟨Nat.le_of_ble_eq_true rfl, Nat.le_of_ble_eq_true rfl⟩, (hts _ kt_906)⟩ ⟨fun a U g mk q => ⟨q.1, PTm.calling q.2⟩, fun U hU hWm => ⟨rfl, PTm.mk hU hWm hP hK hD hE hO⟩⟩ rfl rfl hl.1 rfl (lv_room (Nat.le_of_ble_eq_true rfl)) dX15_message_31 ⟨by show _ + 0 ≤ 0; omega, by show _ + 0 ≤ 0; omega⟩) hS (fun q _ h => hFc q h) hFc (fun r_266 u t H1 locs ht hvm hw hB hz1 hk1 hS => ?_)
        obtain ⟨F_267, hB1⟩ := hB
        obtain rfl : F_99 = F_267 := (funext (fun a => hB1.2.2.2 a List.not_mem_nil)).symm
        obtain ⟨hP, hD, hO, hR⟩ := QTm.back hB1 ht hFc hR (fun q h => absurd h List.not_mem_nil)
        generalize H1 = H at hP hS ⊢
        have hw : (∃ e9 : Nat, r_266 = nI (min zt (e9 + 1)) ∧ FSF (clr gt) 0 ka zt e9) := hw
        have hw_268 := hw
        obtain ⟨ke9, eke, hfe⟩ := hw_268
        obtain ⟨kend, hkd⟩ : ∃ k, k = min zt (ke9 + 1) := ⟨_, rfl⟩
        rw [← hkd] at eke
        subst eke
        have hkea : ka < kend := by have h9 := hfe.1; omega
        have hkeb : kend ≤ zt := by omega
        refine lv_istore (lv' := [(6, .int (nI kend)), (5, .int o5), (4, .int (nI kw)), (3, .int (nI ka)), (2, .int (nI kn)), (1, .int (nI zt)), (0, .ref h0)]) hx hb dX15_message_34 hl (by decide) rfl (fun ls hl => ?_)
        refine lv_aload_n hx hb dX15_message_36 rfl (lv_at hl 6 rfl) ?_
        refine pg_get (ci := 15) (v := .ref ta) (C := RX15) (T := TX15) (N := 59) hx hb hts it_15 hown hK hP hL_h0 hF_258 rfl 0 (by decide) (hts _ kt_1006) (fun _ h9 => h9) rfl dX15_message_37 ?_
        refine lv_iload_n hx hb dX15_message_40 rfl (lv_at hl 3 rfl) ?_
        refine pg_bald hx hb hK hP hi_79 1 hF_103 rfl (vp_in_nI (by omega) (by omega)) dX15_message_41 ?_
        refine lv_topi (fun x_269 ex_269 => ?_)
        obtain rfl : x_269 = gt ka := ex_269.trans (congrArg gt (show ((nI ka) : Int32).toNatClampNeg = ka from nI_clamp (by omega)))
        refine lv_bipush (v := 10) hx hb dX15_message_42 (by decide) ?_
        refine lv_icmp_ne (tgt := 58) hx hb dX15_message_44 (by decide) (fun c_270 => ?_) (fun c_270 => ?_)
        ·
          refine lv_aload_n hx hb dX15_message_58 rfl (lv_at hl 6 rfl) ?_
          refine pg_get (ci := 15) (v := .ref ta) (C := RX15) (T := TX15) (N := 59) hx hb hts it_15 hown hK hP hL_h0 hF_258 rfl 0 (by decide) (hts _ kt_1006) (fun _ h9 => h9) rfl dX15_message_59 ?_
          refine lv_iload_n hx hb dX15_message_62 rfl (lv_at hl 3 rfl) ?_
          refine pg_bald hx hb hK hP hi_79 1 hF_103 rfl (vp_in_nI (by omega) (by omega)) dX15_message_63 ?_
          refine lv_topi (fun x_271 ex_271 => ?_)
          obtain rfl : x_271 = gt ka := ex_271.trans (congrArg gt (show ((nI ka) : Int32).toNatClampNeg = ka from nI_clamp (by omega)))
          have hFc := pg_free hD hS hA
          refine va_calli (va_runS (As := [.int (gt ka)]) (rest := []) ⟨hx, hb, hml, hown, hts⟩ (s_X15_isWhite_e l dC dI cs ty gm L H.size F_99 (gt ka) hW ) ⟨callB_of 1 hts (gi kt_715) rfl rfl rfl (hts _ kt_669) (hts _ kt_716) (by decide +kernel) ⟨Nat.le_of_ble_eq_true rfl, Nat.le_of_ble_eq_true rfl⟩, (hts _ kt_717)⟩ ⟨fun a U g mk q => ⟨q.1, PTm.calling q.2⟩, fun U hU hWm => ⟨rfl, PTm.mk hU hWm hP hK hD hE hO⟩⟩ rfl rfl hl.1 rfl (lv_room (Nat.le_of_ble_eq_true rfl)) dX15_message_64 ⟨by show _ + 0 ≤ 0; omega, by show _ + 0 ≤ 0; omega⟩) hS (fun q _ h => hFc q h) hFc (fun r_272 u t H1 locs ht hvm hw hB hz1 hk1 hS => ?_)
          obtain ⟨F_273, hB1⟩ := hB
          obtain rfl : F_99 = F_273 := (funext (fun a => hB1.2.2.2 a List.not_mem_nil)).symm
          obtain ⟨hP, hD, hO, hR⟩ := QTm.back hB1 ht hFc hR (fun q h => absurd h List.not_mem_nil)
          generalize H1 = H at hP hS ⊢
          have hw : r_272 = (if (gt ka) = 32 ∨ (gt ka) = 9 then 1 else 0) := hw
          have hw_274 := hw
          refine lv_if_eq (tgt := 89) hx hb dX15_message_67 (by decide) (fun c_275 => ?_) (fun c_275 => ?_)
          ·
            refine lv_iload_n hx hb dX15_message_89 rfl (lv_at hl 3 rfl) ?_
            refine lv_istore (lv' := [(7, .int (nI ka)), (6, .int (nI kend)), (5, .int o5), (4, .int (nI kw)), (3, .int (nI ka)), (2, .int (nI kn)), (1, .int (nI zt)), (0, .ref h0)]) hx hb dX15_message_90 hl (by decide) rfl (fun ls hl => ?_)
            refine W.widen (k := 0) (n := 0) (by omega) (by omega) ?_
            have hF_277 : F ta = .inl (cs 17, 3000, .inl gt) := (hR ta (by rw [ht_80]; simp)).symm.trans hF_103
            refine pl_loopm (σ := Nat) A (dC, dI) cs ty gm L [ρ, ρ + 8, ρ + 9] F 92 8 (fun k7 => [(7, .int (nI k7)), (6, .int (nI kend)), (5, .int o5), (4, .int (nI kw)), (3, .int (nI ka)), (2, .int (nI kn)), (1, .int (nI zt)), (0, .ref h0)]) (fun k7 => []) (fun k7 FF => ka ≤ k7 ∧ k7 ≤ kend ∧ FF = F_99 ∧ ∀ i, ka ≤ i → i < k7 → clr gt i = 3) (fun k7 => kend - k7) ?_ ka F_99 (⟨by omega, by omega, rfl, fun i h1 h2 => absurd h2 (by omega)⟩) hO hR _ _ hP hD hS ls (lv_sub hl [0, 1, 2, 3, 4, 5, 6, 7] rfl)
            rintro k7 F_276 hv_278 hO hR ih_279 H locs hP hD hS ls hl
            have hl : lv_has ls 8 [(7, .int (nI k7)), (6, .int (nI kend)), (5, .int o5), (4, .int (nI kw)), (3, .int (nI ka)), (2, .int (nI kn)), (1, .int (nI zt)), (0, .ref h0)] := hl
            have hv_278 : ka ≤ k7 ∧ k7 ≤ kend ∧ F_276 = F_99 ∧ ∀ i, ka ≤ i → i < k7 → clr gt i = 3 := hv_278
            refine W.eq (g2 := F0 m 92 ls []) rfl ?_
            have hF_280 : F_276 ta = .inl (cs 17, 3000, .inl gt) := (hR ta (by rw [ht_80]; simp)).trans hF_277
            obtain ⟨hka, hkb, hkc, hks⟩ := id hv_278
            obtain rfl : F_99 = F_276 := hkc.symm
            refine lv_iload hx hb dX15_message_92 (lv_at hl 0 rfl) ?_
            refine lv_iload hx hb dX15_message_94 (lv_at hl 1 rfl) ?_
            refine lv_icmp_ge (tgt := 143) hx hb dX15_message_96 (by decide) (fun c_281 => ?_) (fun c_281 => ?_)
            ·
              have hi_282 : kend ≤ k7 := leN (N := kend) c_281
              have hns : k7 = kend ∨ ¬ clr gt k7 = 3 := Or.inl (by omega)
              refine lv_iload hx hb dX15_message_143 (lv_at hl 0 rfl) ?_
              refine lv_iload_n hx hb dX15_message_145 rfl (lv_at hl 4 rfl) ?_
              refine lv_isub hx hb dX15_message_146 ?_
              refine lv_topi (fun x_283 ex_283 => ?_)
              obtain rfl : x_283 = (nI (k7 - ka)) := ex_283.trans (pk_sub (a := k7) (b := ka) (by omega))
              refine lv_i2l (v := (nI (k7 - ka)).toInt64) hx hb dX15_message_147 rfl ?_
              refine lv_lconst (v := 1) hx hb dX15_message_148 (by decide) ?_
              refine lv_ldc2 (v := 20) hx hb hown (hts _ kt_850) dX15_message_149 ?_
              have hFc := pg_free hD hS hA
              refine va_calli (va_runS (As := [.long ((nI (k7 - ka)).toInt64), .long 1, .long 20]) (rest := []) ⟨hx, hb, hml, hown, hts⟩ (s_X15_in l dC dI cs ty gm L H.size F_99 ((nI (k7 - ka)).toInt64) 1 20 hW ) ⟨callB_of 3 hts (gi kt_685) rfl rfl rfl (hts _ kt_669) (hts _ kt_705) (by decide +kernel) ⟨Nat.le_of_ble_eq_true rfl, Nat.le_of_ble_eq_true rfl⟩, (hts _ kt_686)⟩ ⟨fun a U g mk q => ⟨q.1, PTm.calling q.2⟩, fun U hU hWm => ⟨rfl, PTm.mk hU hWm hP hK hD hE hO⟩⟩ rfl rfl hl.1 rfl (lv_room (Nat.le_of_ble_eq_true rfl)) dX15_message_152 ⟨by show _ + 0 ≤ 0; omega, by show _ + 0 ≤ 0; omega⟩) hS (fun q _ h => hFc q h) hFc (fun r_284 u t H1 locs ht hvm hw hB hz1 hk1 hS => ?_)
              obtain ⟨F_285, hB1⟩ := hB
              obtain rfl : F_99 = F_285 := (funext (fun a => hB1.2.2.2 a List.not_mem_nil)).symm
              obtain ⟨hP, hD, hO, hR⟩ := QTm.back hB1 ht hFc hR (fun q h => absurd h List.not_mem_nil)
              generalize H1 = H at hP hS ⊢
              have hw : r_284 = (if 1 ≤ (nI (k7 - ka)).toInt64 ∧ (nI (k7 - ka)).toInt64 ≤ 20 then 1 else 0) := hw
              have hw_286 := hw
              refine lv_if_eq (tgt := 183) hx hb dX15_message_155 (by decide) (fun c_287 => ?_) (fun c_287 => ?_)
              ·
                have hin0 := in_nat0 (lo := 1) (hi := 20) hw_286 c_287 (by decide) (by decide) (by omega)
                refine lv_iconst (v := (-1)) hx hb dX15_message_183 (by decide) ?_
                refine W.widen (k := 0) (n := 0) (by omega) (by omega) ?_
                exact W.iret (v := (-1)) hx hb hr (fun t ht hWm => ⟨⟨(-1), none, rfl, (msx_no (hop.2 none (mr_badr (by omega) (clg0n c_270) (clg1n (ifb0 hw_274 c_275)) hfe hkd hks hns hka (Or.inl hin0)))), ⟨F_99, ty, gm, nf, bd, mm, hty, QTm.mk ht hP hD hO hR, hW, Or.inl ⟨rfl, rfl, rfl, rfl, rfl, hNm⟩⟩⟩, hS.F ht⟩) hS.2.2 dX15_message_184
              ·
                have hin := in_nat (lo := 1) (hi := 20) hw_286 c_287 (by decide) (by decide) (by omega)
                refine lv_iload hx hb dX15_message_158 (lv_at hl 0 rfl) ?_
                refine lv_iload hx hb dX15_message_160 (lv_at hl 1 rfl) ?_
                refine lv_icmp_eq (tgt := 183) hx hb dX15_message_162 (by decide) (fun c_288 => ?_) (fun c_288 => ?_)
                ·
                  have hi_289 : k7 = kend := (nI_eq (a := k7) (b := kend) (by omega) (by omega)).mp c_288
                  refine lv_iconst (v := (-1)) hx hb dX15_message_183 (by decide) ?_
                  refine W.widen (k := 0) (n := 0) (by omega) (by omega) ?_
                  exact W.iret (v := (-1)) hx hb hr (fun t ht hWm => ⟨⟨(-1), none, rfl, (msx_no (hop.2 none (mr_badr (by omega) (clg0n c_270) (clg1n (ifb0 hw_274 c_275)) hfe hkd hks hns hka (Or.inr (Or.inl (by omega)))))), ⟨F_99, ty, gm, nf, bd, mm, hty, QTm.mk ht hP hD hO hR, hW, Or.inl ⟨rfl, rfl, rfl, rfl, rfl, hNm⟩⟩⟩, hS.F ht⟩) hS.2.2 dX15_message_184
                ·
                  have hi_290 : k7 ≠ kend := fun q => c_288 (by rw [q])
                  refine lv_aload_n hx hb dX15_message_165 rfl (lv_at hl 7 rfl) ?_
                  refine pg_get (ci := 15) (v := .ref ta) (C := RX15) (T := TX15) (N := 59) hx hb hts it_15 hown hK hP hL_h0 hF_258 rfl 0 (by decide) (hts _ kt_1006) (fun _ h9 => h9) rfl dX15_message_166 ?_
                  refine lv_iload hx hb dX15_message_169 (lv_at hl 0 rfl) ?_
                  refine pg_bald hx hb hK hP hi_79 1 hF_103 rfl (vp_in_nI (by omega) (by omega)) dX15_message_171 ?_
                  refine lv_topi (fun x_291 ex_291 => ?_)
                  obtain rfl : x_291 = gt k7 := ex_291.trans (congrArg gt (show ((nI k7) : Int32).toNatClampNeg = k7 from nI_clamp (by omega)))
                  refine lv_bipush (v := 58) hx hb dX15_message_172 (by decide) ?_
                  refine lv_icmp_ne (tgt := 183) hx hb dX15_message_174 (by decide) (fun c_292 => ?_) (fun c_292 => ?_)
                  ·
                    refine lv_iconst (v := (-1)) hx hb dX15_message_183 (by decide) ?_
                    refine W.widen (k := 0) (n := 0) (by omega) (by omega) ?_
                    exact W.iret (v := (-1)) hx hb hr (fun t ht hWm => ⟨⟨(-1), none, rfl, (msx_no (hop.2 none (mr_badr (by omega) (clg0n c_270) (clg1n (ifb0 hw_274 c_275)) hfe hkd hks hns hka (Or.inr (Or.inr (Or.inl (clg2n c_292))))))), ⟨F_99, ty, gm, nf, bd, mm, hty, QTm.mk ht hP hD hO hR, hW, Or.inl ⟨rfl, rfl, rfl, rfl, rfl, hNm⟩⟩⟩, hS.F ht⟩) hS.2.2 dX15_message_184
                  ·
                    refine lv_iload_n hx hb dX15_message_177 rfl (lv_at hl 5 rfl) ?_
                    refine lv_bipush (v := 20) hx hb dX15_message_178 (by decide) ?_
                    refine lv_icmp_ne (tgt := 185) hx hb dX15_message_180 (by decide) (fun c_293 => ?_) (fun c_293 => ?_)
                    ·
                      have hi_294 : kn ≠ 20 := fun q => c_293 (by rw [q]; rfl)
                      refine lv_aload_n hx hb dX15_message_185 rfl (lv_at hl 7 rfl) ?_
                      refine pg_get (ci := 15) (v := .ref nb0) (C := RX15) (T := TX15) (N := 59) hx hb hts it_15 hown hK hP hL_h0 hF_258 rfl 27 (by decide) (hts _ kt_1003) (fun _ h9 => h9) rfl dX15_message_186 ?_
                      refine lv_iload_n hx hb dX15_message_189 rfl (lv_at hl 5 rfl) ?_
                      refine lv_iload_n hx hb dX15_message_190 rfl (lv_at hl 4 rfl) ?_
                      refine pg_iast hx hb hK hP hD hS hi_84 0 hN0 rfl (vp_in_nI (by omega) (by omega)) dX15_message_191 (fun H locs hP hD hS => ?_)
                      obtain ⟨F_295, he_296, hP, hD, hO, hR⟩ : ∃ G, G = va_up F_99 nb0 (.inl (cs 16, 21, .inl (upd e0 ((nI kn)).toNatClampNeg ((nI ka))))) ∧ va_P (dC, dI) vwCl (va_pl L G) H ∧ va_D A (va_pl L G) ∧ OKm cs ty gm L G ∧ FR ty [ρ, ρ + 8, ρ + 9] F G := ⟨_, rfl, hP, hD, hO.up (shm.idb ht_85 ⟨_, rfl, ixb_upd hIx0 _ _ (by omega)⟩), hR.up ht_85 (by simp)⟩
                      have hF_297 : F_295 nb0 = .inl (cs 16, 21, .inl (upd e0 ((nI kn)).toNatClampNeg ((nI ka)))) := by rw [he_296]; exact up_self
                      have hF_298 : F_295 ta = .inl (cs 17, 3000, .inl gt) := by rw [he_296, up_ne (ne_ty ht_80 ht_85 (by simp))]; exact hF_103
                      have hF_299 : F_295 ml = .inl (cs 17, 3000, .inl gl) := by rw [he_296, up_ne (ne_ty ht_83 ht_85 (by simp))]; exact hNm
                      have hF_300 : F_295 nb1 = .inl (cs 16, 21, .inl e1) := by rw [he_296, up_ne hn01.symm]; exact hN1
                      have hF_301 : F_295 nb2 = .inl (cs 16, 21, .inl e2) := by rw [he_296, up_ne hn02.symm]; exact hN2
                      have hF_302 : F_295 h0 = .inr (15, (.ref ta) :: (.int (nI 0)) :: (.int (nI zo)) :: (.int (nI ze)) :: (.ref ou) :: (.ref so) :: (.ref ad) :: (.ref na) :: (.ref va) :: (.ref lc) :: (.ref dm) :: (.int (nI fm)) :: (.int (nI sn)) :: (.ref tg) :: (.int v14_246) :: (.int v15_247) :: (.ref pe) :: (.int v17_248) :: (.int v18_249) :: (.int v19_250) :: (.int v20_251) :: (.int v21_252) :: (.int v22_253) :: (.ref ml) :: (.ref bg) :: (.ref co) :: (.ref sp) :: (.ref nb0) :: (.ref nb1) :: (.ref nb2) :: (.int (nI nf)) :: (.int (nI bd)) :: (.int (nI mm)) :: (.int v33_254) :: (.ref pl) :: (.ref se) :: (.ref ke) :: (.ref wi) :: (.ref hs) :: (.ref mo) :: (.ref po) :: (.ref nu) :: (.ref pr) :: (.ref sq) :: (.ref xa) :: (.ref sa) :: (.ref n64) :: (.ref m64) :: (.ref ex) :: (.ref wh) :: (.ref sd) :: (.ref tk) :: (.int v52_255) :: (.int v53_256) :: (.int v54_257) :: (.ref hd) :: (.ref ak) :: (.ref ho) :: (.ref ot) :: []) := by rw [he_296, up_ne (ne_ty hT_h0 ht_85 (by simp))]; exact hF_258
                      obtain ⟨f_303, hF_297, hq_304, hfe_305⟩ : ∃ f : Nat → Int32, F_295 nb0 = .inl (cs 16, 21, .inl f) ∧ IXB 1280 f ∧ f = upd e0 ((nI kn)).toNatClampNeg ((nI ka)) := ⟨_, hF_297, ixb_upd hIx0 _ _ (by omega), rfl⟩
                      refine lv_aload_n hx hb dX15_message_192 rfl (lv_at hl 7 rfl) ?_
                      refine pg_get (ci := 15) (v := .ref nb1) (C := RX15) (T := TX15) (N := 59) hx hb hts it_15 hown hK hP hL_h0 hF_302 rfl 28 (by decide) (hts _ kt_1004) (fun _ h9 => h9) rfl dX15_message_193 ?_
                      refine lv_iload_n hx hb dX15_message_196 rfl (lv_at hl 5 rfl) ?_
                      refine lv_iload hx hb dX15_message_197 (lv_at hl 0 rfl) ?_
                      refine pg_iast hx hb hK hP hD hS hi_89 0 hF_300 rfl (vp_in_nI (by omega) (by omega)) dX15_message_199 (fun H locs hP hD hS => ?_)
                      obtain ⟨F_306, he_307, hP, hD, hO, hR⟩ : ∃ G, G = va_up F_295 nb1 (.inl (cs 16, 21, .inl (upd e1 ((nI kn)).toNatClampNeg ((nI k7))))) ∧ va_P (dC, dI) vwCl (va_pl L G) H ∧ va_D A (va_pl L G) ∧ OKm cs ty gm L G ∧ FR ty [ρ, ρ + 8, ρ + 9] F G := ⟨_, rfl, hP, hD, hO.up (shm.idb ht_90 ⟨_, rfl, ixb_upd hIx1 _ _ (by omega)⟩), hR.up ht_90 (by simp)⟩
                      have hF_308 : F_306 nb1 = .inl (cs 16, 21, .inl (upd e1 ((nI kn)).toNatClampNeg ((nI k7)))) := by rw [he_307]; exact up_self
                      have hF_309 : F_306 nb0 = .inl (cs 16, 21, .inl f_303) := by rw [he_307, up_ne hn01]; exact hF_297
                      have hF_310 : F_306 ta = .inl (cs 17, 3000, .inl gt) := by rw [he_307, up_ne (ne_ty ht_80 ht_90 (by simp))]; exact hF_298
                      have hF_311 : F_306 ml = .inl (cs 17, 3000, .inl gl) := by rw [he_307, up_ne (ne_ty ht_83 ht_90 (by simp))]; exact hF_299
                      have hF_312 : F_306 nb2 = .inl (cs 16, 21, .inl e2) := by rw [he_307, up_ne hn12.symm]; exact hF_301
                      have hF_313 : F_306 h0 = .inr (15, (.ref ta) :: (.int (nI 0)) :: (.int (nI zo)) :: (.int (nI ze)) :: (.ref ou) :: (.ref so) :: (.ref ad) :: (.ref na) :: (.ref va) :: (.ref lc) :: (.ref dm) :: (.int (nI fm)) :: (.int (nI sn)) :: (.ref tg) :: (.int v14_246) :: (.int v15_247) :: (.ref pe) :: (.int v17_248) :: (.int v18_249) :: (.int v19_250) :: (.int v20_251) :: (.int v21_252) :: (.int v22_253) :: (.ref ml) :: (.ref bg) :: (.ref co) :: (.ref sp) :: (.ref nb0) :: (.ref nb1) :: (.ref nb2) :: (.int (nI nf)) :: (.int (nI bd)) :: (.int (nI mm)) :: (.int v33_254) :: (.ref pl) :: (.ref se) :: (.ref ke) :: (.ref wi) :: (.ref hs) :: (.ref mo) :: (.ref po) :: (.ref nu) :: (.ref pr) :: (.ref sq) :: (.ref xa) :: (.ref sa) :: (.ref n64) :: (.ref m64) :: (.ref ex) :: (.ref wh) :: (.ref sd) :: (.ref tk) :: (.int v52_255) :: (.int v53_256) :: (.int v54_257) :: (.ref hd) :: (.ref ak) :: (.ref ho) :: (.ref ot) :: []) := by rw [he_307, up_ne (ne_ty hT_h0 ht_90 (by simp))]; exact hF_302
                      obtain ⟨f_314, hF_308, hq_315, hfe_316⟩ : ∃ f : Nat → Int32, F_306 nb1 = .inl (cs 16, 21, .inl f) ∧ IXB 1280 f ∧ f = upd e1 ((nI kn)).toNatClampNeg ((nI k7)) := ⟨_, hF_308, ixb_upd hIx1 _ _ (by omega), rfl⟩
                      refine lv_aload_n hx hb dX15_message_200 rfl (lv_at hl 7 rfl) ?_
                      refine pg_get (ci := 15) (v := .ref nb2) (C := RX15) (T := TX15) (N := 59) hx hb hts it_15 hown hK hP hL_h0 hF_313 rfl 29 (by decide) (hts _ kt_1005) (fun _ h9 => h9) rfl dX15_message_201 ?_
                      refine lv_iload_n hx hb dX15_message_204 rfl (lv_at hl 5 rfl) ?_
                      refine lv_iload hx hb dX15_message_205 (lv_at hl 1 rfl) ?_
                      refine pg_iast hx hb hK hP hD hS hi_94 0 hF_312 rfl (vp_in_nI (by omega) (by omega)) dX15_message_207 (fun H locs hP hD hS => ?_)
                      obtain ⟨F_317, he_318, hP, hD, hO, hR⟩ : ∃ G, G = va_up F_306 nb2 (.inl (cs 16, 21, .inl (upd e2 ((nI kn)).toNatClampNeg ((nI kend))))) ∧ va_P (dC, dI) vwCl (va_pl L G) H ∧ va_D A (va_pl L G) ∧ OKm cs ty gm L G ∧ FR ty [ρ, ρ + 8, ρ + 9] F G := ⟨_, rfl, hP, hD, hO.up (shm.idb ht_95 ⟨_, rfl, ixb_upd hIx2 _ _ (by omega)⟩), hR.up ht_95 (by simp)⟩
                      have hF_319 : F_317 nb2 = .inl (cs 16, 21, .inl (upd e2 ((nI kn)).toNatClampNeg ((nI kend)))) := by rw [he_318]; exact up_self
                      have hF_320 : F_317 nb1 = .inl (cs 16, 21, .inl f_314) := by rw [he_318, up_ne hn12]; exact hF_308
                      have hF_321 : F_317 nb0 = .inl (cs 16, 21, .inl f_303) := by rw [he_318, up_ne hn02]; exact hF_309
                      have hF_322 : F_317 ta = .inl (cs 17, 3000, .inl gt) := by rw [he_318, up_ne (ne_ty ht_80 ht_95 (by simp))]; exact hF_310
                      have hF_323 : F_317 ml = .inl (cs 17, 3000, .inl gl) := by rw [he_318, up_ne (ne_ty ht_83 ht_95 (by simp))]; exact hF_311
                      have hF_324 : F_317 h0 = .inr (15, (.ref ta) :: (.int (nI 0)) :: (.int (nI zo)) :: (.int (nI ze)) :: (.ref ou) :: (.ref so) :: (.ref ad) :: (.ref na) :: (.ref va) :: (.ref lc) :: (.ref dm) :: (.int (nI fm)) :: (.int (nI sn)) :: (.ref tg) :: (.int v14_246) :: (.int v15_247) :: (.ref pe) :: (.int v17_248) :: (.int v18_249) :: (.int v19_250) :: (.int v20_251) :: (.int v21_252) :: (.int v22_253) :: (.ref ml) :: (.ref bg) :: (.ref co) :: (.ref sp) :: (.ref nb0) :: (.ref nb1) :: (.ref nb2) :: (.int (nI nf)) :: (.int (nI bd)) :: (.int (nI mm)) :: (.int v33_254) :: (.ref pl) :: (.ref se) :: (.ref ke) :: (.ref wi) :: (.ref hs) :: (.ref mo) :: (.ref po) :: (.ref nu) :: (.ref pr) :: (.ref sq) :: (.ref xa) :: (.ref sa) :: (.ref n64) :: (.ref m64) :: (.ref ex) :: (.ref wh) :: (.ref sd) :: (.ref tk) :: (.int v52_255) :: (.int v53_256) :: (.int v54_257) :: (.ref hd) :: (.ref ak) :: (.ref ho) :: (.ref ot) :: []) := by rw [he_318, up_ne (ne_ty hT_h0 ht_95 (by simp))]; exact hF_313
                      obtain ⟨f_325, hF_319, hq_326, hfe_327⟩ : ∃ f : Nat → Int32, F_317 nb2 = .inl (cs 16, 21, .inl f) ∧ IXB 1280 f ∧ f = upd e2 ((nI kn)).toNatClampNeg ((nI kend)) := ⟨_, hF_319, ixb_upd hIx2 _ _ (by omega), rfl⟩
                      refine lv_iinc (v := (nI (kn + 1))) (lv' := [(2, .int (nI (kn + 1))), (7, .int (nI k7)), (6, .int (nI kend)), (5, .int o5), (4, .int (nI kw)), (3, .int (nI ka)), (1, .int (nI zt)), (0, .ref h0)]) hx hb dX15_message_208 hl (k := 5) rfl (nI_1 _) (by decide) rfl (fun ls hl => ?_)
                      refine lv_iload hx hb dX15_message_211 (lv_at hl 2 rfl) ?_
                      refine lv_istore_n (lv' := [(3, .int (nI kend)), (2, .int (nI (kn + 1))), (7, .int (nI k7)), (6, .int (nI kend)), (5, .int o5), (4, .int (nI kw)), (1, .int (nI zt)), (0, .ref h0)]) hx hb dX15_message_213 rfl hl (by decide) rfl (fun ls hl => ?_)
                      refine lv_goto (tgt := 15) hx hb dX15_message_214 (by decide) ?_
                      refine W.widen (k := 0) (n := 0) (by omega) (by omega) ?_
                      exact ih_102 ((kn + 1), kend, kw, o5, f_303, f_314, f_325, (gpt gq kn ka k7 ke9)) F_317 (⟨by omega, by omega, by omega, hvd, (by rw [hfe_305, hfe_316, hfe_327, nI_clamp (by omega)]; exact hFL.add (by omega) (by omega) hkd), hF_321, hF_320, hF_319, hF_323, fun _ => ⟨hop.1, fun X hX => hop.2 X (mr_fldr (by omega) (clg0n c_270) (clg1n (ifb0 hw_274 c_275)) hfe hkd hks (by omega) (by omega) (by omega) (clg2 c_292) (by omega) hX)⟩, fun q => absurd q c_242⟩) (by show zt - kend < zt - ka; omega) hO hR _ _ hP hD hS ls (lv_sub hl [4, 5, 0, 1, 6, 7] rfl)
                    ·
                      have hi_328 : kn = 20 := (nI_eq (a := kn) (b := 20) (by omega) (by omega)).mp c_293
                      refine lv_iconst (v := (-1)) hx hb dX15_message_183 (by decide) ?_
                      refine W.widen (k := 0) (n := 0) (by omega) (by omega) ?_
                      exact W.iret (v := (-1)) hx hb hr (fun t ht hWm => ⟨⟨(-1), none, rfl, (msx_no (hop.2 none (mr_badr (by omega) (clg0n c_270) (clg1n (ifb0 hw_274 c_275)) hfe hkd hks hns hka (Or.inr (Or.inr (Or.inr (by omega))))))), ⟨F_99, ty, gm, nf, bd, mm, hty, QTm.mk ht hP hD hO hR, hW, Or.inl ⟨rfl, rfl, rfl, rfl, rfl, hNm⟩⟩⟩, hS.F ht⟩) hS.2.2 dX15_message_184
            ·
              have hi_329 : k7 < kend := ltN (N := kend) c_281
              refine lv_aload_n hx hb dX15_message_99 rfl (lv_at hl 7 rfl) ?_
              refine pg_get (ci := 15) (v := .ref ta) (C := RX15) (T := TX15) (N := 59) hx hb hts it_15 hown hK hP hL_h0 hF_258 rfl 0 (by decide) (hts _ kt_1006) (fun _ h9 => h9) rfl dX15_message_100 ?_
              refine lv_iload hx hb dX15_message_103 (lv_at hl 0 rfl) ?_
              refine pg_bald hx hb hK hP hi_79 1 hF_103 rfl (vp_in_nI (by omega) (by omega)) dX15_message_105 ?_
              refine lv_topi (fun x_330 ex_330 => ?_)
              obtain rfl : x_330 = gt k7 := ex_330.trans (congrArg gt (show ((nI k7) : Int32).toNatClampNeg = k7 from nI_clamp (by omega)))
              have hFc := pg_free hD hS hA
              refine va_calli (va_runS (As := [.int (gt k7)]) (rest := []) ⟨hx, hb, hml, hown, hts⟩ (s_X15_isLetter_e l dC dI cs ty gm L H.size F_99 (gt k7) hW ) ⟨callB_of 1 hts (gi kt_854) rfl rfl rfl (hts _ kt_669) (hts _ kt_855) (by decide +kernel) ⟨Nat.le_of_ble_eq_true rfl, Nat.le_of_ble_eq_true rfl⟩, (hts _ kt_856)⟩ ⟨fun a U g mk q => ⟨q.1, PTm.calling q.2⟩, fun U hU hWm => ⟨rfl, PTm.mk hU hWm hP hK hD hE hO⟩⟩ rfl rfl hl.1 rfl (lv_room (Nat.le_of_ble_eq_true rfl)) dX15_message_106 ⟨by show _ + 0 ≤ 0; omega, by show _ + 0 ≤ 0; omega⟩) hS (fun q _ h => hFc q h) hFc (fun r_331 u t H1 locs ht hvm hw hB hz1 hk1 hS => ?_)
              obtain ⟨F_332, hB1⟩ := hB
              obtain rfl : F_99 = F_332 := (funext (fun a => hB1.2.2.2 a List.not_mem_nil)).symm
              obtain ⟨hP, hD, hO, hR⟩ := QTm.back hB1 ht hFc hR (fun q h => absurd h List.not_mem_nil)
              generalize H1 = H at hP hS ⊢
              have hw : r_331 = (if (97 ≤ (gt k7) ∧ (gt k7) ≤ 122) ∨ (65 ≤ (gt k7) ∧ (gt k7) ≤ 90) then 1 else 0) := hw
              have hw_333 := hw
              refine lv_if_ne (tgt := 137) hx hb dX15_message_109 (by decide) (fun c_334 => ?_) (fun c_334 => ?_)
              ·
                refine lv_iinc (v := (nI (k7 + 1))) (lv' := [(7, .int (nI (k7 + 1))), (6, .int (nI kend)), (5, .int o5), (4, .int (nI kw)), (3, .int (nI ka)), (2, .int (nI kn)), (1, .int (nI zt)), (0, .ref h0)]) hx hb dX15_message_137 hl (k := 0) rfl (nI_1 _) (by decide) rfl (fun ls hl => ?_)
                refine lv_goto (tgt := 92) hx hb dX15_message_140 (by decide) ?_
                refine W.widen (k := 0) (n := 0) (by omega) (by omega) ?_
                exact ih_279 (k7 + 1) F_99 (⟨by omega, by omega, rfl, fun i h1 h2 => by rcases Nat.lt_or_ge i k7 with q | q; exact hks i h1 q; rw [show i = k7 by omega]; exact clg3 fsrN (fsr_a (ifb1 hw_333 c_334))⟩) (by show kend - (k7 + 1) < kend - k7; omega) hO hR _ _ hP hD hS ls (lv_sub hl [0, 1, 2, 3, 4, 5, 6, 7] rfl)
              ·
                refine lv_aload_n hx hb dX15_message_112 rfl (lv_at hl 7 rfl) ?_
                refine pg_get (ci := 15) (v := .ref ta) (C := RX15) (T := TX15) (N := 59) hx hb hts it_15 hown hK hP hL_h0 hF_258 rfl 0 (by decide) (hts _ kt_1006) (fun _ h9 => h9) rfl dX15_message_113 ?_
                refine lv_iload hx hb dX15_message_116 (lv_at hl 0 rfl) ?_
                refine pg_bald hx hb hK hP hi_79 1 hF_103 rfl (vp_in_nI (by omega) (by omega)) dX15_message_118 ?_
                refine lv_topi (fun x_335 ex_335 => ?_)
                obtain rfl : x_335 = gt k7 := ex_335.trans (congrArg gt (show ((nI k7) : Int32).toNatClampNeg = k7 from nI_clamp (by omega)))
                have hFc := pg_free hD hS hA
                refine va_calli (va_runS (As := [.int (gt k7)]) (rest := []) ⟨hx, hb, hml, hown, hts⟩ (s_X15_isDigit_e l dC dI cs ty gm L H.size F_99 (gt k7) hW ) ⟨callB_of 1 hts (gi kt_687) rfl rfl rfl (hts _ kt_669) (hts _ kt_707) (by decide +kernel) ⟨Nat.le_of_ble_eq_true rfl, Nat.le_of_ble_eq_true rfl⟩, (hts _ kt_688)⟩ ⟨fun a U g mk q => ⟨q.1, PTm.calling q.2⟩, fun U hU hWm => ⟨rfl, PTm.mk hU hWm hP hK hD hE hO⟩⟩ rfl rfl hl.1 rfl (lv_room (Nat.le_of_ble_eq_true rfl)) dX15_message_119 ⟨by show _ + 0 ≤ 0; omega, by show _ + 0 ≤ 0; omega⟩) hS (fun q _ h => hFc q h) hFc (fun r_336 u t H1 locs ht hvm hw hB hz1 hk1 hS => ?_)
                obtain ⟨F_337, hB1⟩ := hB
                obtain rfl : F_99 = F_337 := (funext (fun a => hB1.2.2.2 a List.not_mem_nil)).symm
                obtain ⟨hP, hD, hO, hR⟩ := QTm.back hB1 ht hFc hR (fun q h => absurd h List.not_mem_nil)
                generalize H1 = H at hP hS ⊢
                have hw : r_336 = (if 48 ≤ (gt k7) ∧ (gt k7) ≤ 57 then 1 else 0) := hw
                have hw_338 := hw
                refine lv_if_ne (tgt := 137) hx hb dX15_message_122 (by decide) (fun c_339 => ?_) (fun c_339 => ?_)
                ·
                  refine lv_iinc (v := (nI (k7 + 1))) (lv' := [(7, .int (nI (k7 + 1))), (6, .int (nI kend)), (5, .int o5), (4, .int (nI kw)), (3, .int (nI ka)), (2, .int (nI kn)), (1, .int (nI zt)), (0, .ref h0)]) hx hb dX15_message_137 hl (k := 0) rfl (nI_1 _) (by decide) rfl (fun ls hl => ?_)
                  refine lv_goto (tgt := 92) hx hb dX15_message_140 (by decide) ?_
                  refine W.widen (k := 0) (n := 0) (by omega) (by omega) ?_
                  exact ih_279 (k7 + 1) F_99 (⟨by omega, by omega, rfl, fun i h1 h2 => by rcases Nat.lt_or_ge i k7 with q | q; exact hks i h1 q; rw [show i = k7 by omega]; exact clg3 fsrN (fsr_b (ifb1 hw_338 c_339))⟩) (by show kend - (k7 + 1) < kend - k7; omega) hO hR _ _ hP hD hS ls (lv_sub hl [0, 1, 2, 3, 4, 5, 6, 7] rfl)
                ·
                  refine lv_aload_n hx hb dX15_message_125 rfl (lv_at hl 7 rfl) ?_
                  refine pg_get (ci := 15) (v := .ref ta) (C := RX15) (T := TX15) (N := 59) hx hb hts it_15 hown hK hP hL_h0 hF_258 rfl 0 (by decide) (hts _ kt_1006) (fun _ h9 => h9) rfl dX15_message_126 ?_
                  refine lv_iload hx hb dX15_message_129 (lv_at hl 0 rfl) ?_
                  refine pg_bald hx hb hK hP hi_79 1 hF_103 rfl (vp_in_nI (by omega) (by omega)) dX15_message_131 ?_
                  refine lv_topi (fun x_340 ex_340 => ?_)
                  obtain rfl : x_340 = gt k7 := ex_340.trans (congrArg gt (show ((nI k7) : Int32).toNatClampNeg = k7 from nI_clamp (by omega)))
                  refine lv_bipush (v := 45) hx hb dX15_message_132 (by decide) ?_
                  refine lv_icmp_ne (tgt := 143) hx hb dX15_message_134 (by decide) (fun c_341 => ?_) (fun c_341 => ?_)
                  ·
                    have hns : k7 = kend ∨ ¬ clr gt k7 = 3 := Or.inr (clg3n (fsr_n (ifb0 hw_333 c_334) (ifb0 hw_338 c_339) c_341))
                    refine lv_iload hx hb dX15_message_143 (lv_at hl 0 rfl) ?_
                    refine lv_iload_n hx hb dX15_message_145 rfl (lv_at hl 4 rfl) ?_
                    refine lv_isub hx hb dX15_message_146 ?_
                    refine lv_topi (fun x_342 ex_342 => ?_)
                    obtain rfl : x_342 = (nI (k7 - ka)) := ex_342.trans (pk_sub (a := k7) (b := ka) (by omega))
                    refine lv_i2l (v := (nI (k7 - ka)).toInt64) hx hb dX15_message_147 rfl ?_
                    refine lv_lconst (v := 1) hx hb dX15_message_148 (by decide) ?_
                    refine lv_ldc2 (v := 20) hx hb hown (hts _ kt_850) dX15_message_149 ?_
                    have hFc := pg_free hD hS hA
                    refine va_calli (va_runS (As := [.long ((nI (k7 - ka)).toInt64), .long 1, .long 20]) (rest := []) ⟨hx, hb, hml, hown, hts⟩ (s_X15_in l dC dI cs ty gm L H.size F_99 ((nI (k7 - ka)).toInt64) 1 20 hW ) ⟨callB_of 3 hts (gi kt_685) rfl rfl rfl (hts _ kt_669) (hts _ kt_705) (by decide +kernel) ⟨Nat.le_of_ble_eq_true rfl, Nat.le_of_ble_eq_true rfl⟩, (hts _ kt_686)⟩ ⟨fun a U g mk q => ⟨q.1, PTm.calling q.2⟩, fun U hU hWm => ⟨rfl, PTm.mk hU hWm hP hK hD hE hO⟩⟩ rfl rfl hl.1 rfl (lv_room (Nat.le_of_ble_eq_true rfl)) dX15_message_152 ⟨by show _ + 0 ≤ 0; omega, by show _ + 0 ≤ 0; omega⟩) hS (fun q _ h => hFc q h) hFc (fun r_343 u t H1 locs ht hvm hw hB hz1 hk1 hS => ?_)
                    obtain ⟨F_344, hB1⟩ := hB
                    obtain rfl : F_99 = F_344 := (funext (fun a => hB1.2.2.2 a List.not_mem_nil)).symm
                    obtain ⟨hP, hD, hO, hR⟩ := QTm.back hB1 ht hFc hR (fun q h => absurd h List.not_mem_nil)
                    generalize H1 = H at hP hS ⊢
                    have hw : r_343 = (if 1 ≤ (nI (k7 - ka)).toInt64 ∧ (nI (k7 - ka)).toInt64 ≤ 20 then 1 else 0) := hw
                    have hw_345 := hw
                    refine lv_if_eq (tgt := 183) hx hb dX15_message_155 (by decide) (fun c_346 => ?_) (fun c_346 => ?_)
                    ·
                      have hin0 := in_nat0 (lo := 1) (hi := 20) hw_345 c_346 (by decide) (by decide) (by omega)
                      refine lv_iconst (v := (-1)) hx hb dX15_message_183 (by decide) ?_
                      refine W.widen (k := 0) (n := 0) (by omega) (by omega) ?_
                      exact W.iret (v := (-1)) hx hb hr (fun t ht hWm => ⟨⟨(-1), none, rfl, (msx_no (hop.2 none (mr_badr (by omega) (clg0n c_270) (clg1n (ifb0 hw_274 c_275)) hfe hkd hks hns hka (Or.inl hin0)))), ⟨F_99, ty, gm, nf, bd, mm, hty, QTm.mk ht hP hD hO hR, hW, Or.inl ⟨rfl, rfl, rfl, rfl, rfl, hNm⟩⟩⟩, hS.F ht⟩) hS.2.2 dX15_message_184
                    ·
                      have hin := in_nat (lo := 1) (hi := 20) hw_345 c_346 (by decide) (by decide) (by omega)
                      refine lv_iload hx hb dX15_message_158 (lv_at hl 0 rfl) ?_
                      refine lv_iload hx hb dX15_message_160 (lv_at hl 1 rfl) ?_
                      refine lv_icmp_eq (tgt := 183) hx hb dX15_message_162 (by decide) (fun c_347 => ?_) (fun c_347 => ?_)
                      ·
                        have hi_348 : k7 = kend := (nI_eq (a := k7) (b := kend) (by omega) (by omega)).mp c_347
                        refine lv_iconst (v := (-1)) hx hb dX15_message_183 (by decide) ?_
                        refine W.widen (k := 0) (n := 0) (by omega) (by omega) ?_
                        exact W.iret (v := (-1)) hx hb hr (fun t ht hWm => ⟨⟨(-1), none, rfl, (msx_no (hop.2 none (mr_badr (by omega) (clg0n c_270) (clg1n (ifb0 hw_274 c_275)) hfe hkd hks hns hka (Or.inr (Or.inl (by omega)))))), ⟨F_99, ty, gm, nf, bd, mm, hty, QTm.mk ht hP hD hO hR, hW, Or.inl ⟨rfl, rfl, rfl, rfl, rfl, hNm⟩⟩⟩, hS.F ht⟩) hS.2.2 dX15_message_184
                      ·
                        have hi_349 : k7 ≠ kend := fun q => c_347 (by rw [q])
                        refine lv_aload_n hx hb dX15_message_165 rfl (lv_at hl 7 rfl) ?_
                        refine pg_get (ci := 15) (v := .ref ta) (C := RX15) (T := TX15) (N := 59) hx hb hts it_15 hown hK hP hL_h0 hF_258 rfl 0 (by decide) (hts _ kt_1006) (fun _ h9 => h9) rfl dX15_message_166 ?_
                        refine lv_iload hx hb dX15_message_169 (lv_at hl 0 rfl) ?_
                        refine pg_bald hx hb hK hP hi_79 1 hF_103 rfl (vp_in_nI (by omega) (by omega)) dX15_message_171 ?_
                        refine lv_topi (fun x_350 ex_350 => ?_)
                        obtain rfl : x_350 = gt k7 := ex_350.trans (congrArg gt (show ((nI k7) : Int32).toNatClampNeg = k7 from nI_clamp (by omega)))
                        refine lv_bipush (v := 58) hx hb dX15_message_172 (by decide) ?_
                        refine lv_icmp_ne (tgt := 183) hx hb dX15_message_174 (by decide) (fun c_351 => ?_) (fun c_351 => ?_)
                        ·
                          refine lv_iconst (v := (-1)) hx hb dX15_message_183 (by decide) ?_
                          refine W.widen (k := 0) (n := 0) (by omega) (by omega) ?_
                          exact W.iret (v := (-1)) hx hb hr (fun t ht hWm => ⟨⟨(-1), none, rfl, (msx_no (hop.2 none (mr_badr (by omega) (clg0n c_270) (clg1n (ifb0 hw_274 c_275)) hfe hkd hks hns hka (Or.inr (Or.inr (Or.inl (clg2n c_351))))))), ⟨F_99, ty, gm, nf, bd, mm, hty, QTm.mk ht hP hD hO hR, hW, Or.inl ⟨rfl, rfl, rfl, rfl, rfl, hNm⟩⟩⟩, hS.F ht⟩) hS.2.2 dX15_message_184
                        ·
                          refine lv_iload_n hx hb dX15_message_177 rfl (lv_at hl 5 rfl) ?_
                          refine lv_bipush (v := 20) hx hb dX15_message_178 (by decide) ?_
                          refine lv_icmp_ne (tgt := 185) hx hb dX15_message_180 (by decide) (fun c_352 => ?_) (fun c_352 => ?_)
                          ·
                            have hi_353 : kn ≠ 20 := fun q => c_352 (by rw [q]; rfl)
                            refine lv_aload_n hx hb dX15_message_185 rfl (lv_at hl 7 rfl) ?_
                            refine pg_get (ci := 15) (v := .ref nb0) (C := RX15) (T := TX15) (N := 59) hx hb hts it_15 hown hK hP hL_h0 hF_258 rfl 27 (by decide) (hts _ kt_1003) (fun _ h9 => h9) rfl dX15_message_186 ?_
                            refine lv_iload_n hx hb dX15_message_189 rfl (lv_at hl 5 rfl) ?_
                            refine lv_iload_n hx hb dX15_message_190 rfl (lv_at hl 4 rfl) ?_
                            refine pg_iast hx hb hK hP hD hS hi_84 0 hN0 rfl (vp_in_nI (by omega) (by omega)) dX15_message_191 (fun H locs hP hD hS => ?_)
                            obtain ⟨F_354, he_355, hP, hD, hO, hR⟩ : ∃ G, G = va_up F_99 nb0 (.inl (cs 16, 21, .inl (upd e0 ((nI kn)).toNatClampNeg ((nI ka))))) ∧ va_P (dC, dI) vwCl (va_pl L G) H ∧ va_D A (va_pl L G) ∧ OKm cs ty gm L G ∧ FR ty [ρ, ρ + 8, ρ + 9] F G := ⟨_, rfl, hP, hD, hO.up (shm.idb ht_85 ⟨_, rfl, ixb_upd hIx0 _ _ (by omega)⟩), hR.up ht_85 (by simp)⟩
                            have hF_356 : F_354 nb0 = .inl (cs 16, 21, .inl (upd e0 ((nI kn)).toNatClampNeg ((nI ka)))) := by rw [he_355]; exact up_self
                            have hF_357 : F_354 ta = .inl (cs 17, 3000, .inl gt) := by rw [he_355, up_ne (ne_ty ht_80 ht_85 (by simp))]; exact hF_103
                            have hF_358 : F_354 ml = .inl (cs 17, 3000, .inl gl) := by rw [he_355, up_ne (ne_ty ht_83 ht_85 (by simp))]; exact hNm
                            have hF_359 : F_354 nb1 = .inl (cs 16, 21, .inl e1) := by rw [he_355, up_ne hn01.symm]; exact hN1
                            have hF_360 : F_354 nb2 = .inl (cs 16, 21, .inl e2) := by rw [he_355, up_ne hn02.symm]; exact hN2
                            have hF_361 : F_354 h0 = .inr (15, (.ref ta) :: (.int (nI 0)) :: (.int (nI zo)) :: (.int (nI ze)) :: (.ref ou) :: (.ref so) :: (.ref ad) :: (.ref na) :: (.ref va) :: (.ref lc) :: (.ref dm) :: (.int (nI fm)) :: (.int (nI sn)) :: (.ref tg) :: (.int v14_246) :: (.int v15_247) :: (.ref pe) :: (.int v17_248) :: (.int v18_249) :: (.int v19_250) :: (.int v20_251) :: (.int v21_252) :: (.int v22_253) :: (.ref ml) :: (.ref bg) :: (.ref co) :: (.ref sp) :: (.ref nb0) :: (.ref nb1) :: (.ref nb2) :: (.int (nI nf)) :: (.int (nI bd)) :: (.int (nI mm)) :: (.int v33_254) :: (.ref pl) :: (.ref se) :: (.ref ke) :: (.ref wi) :: (.ref hs) :: (.ref mo) :: (.ref po) :: (.ref nu) :: (.ref pr) :: (.ref sq) :: (.ref xa) :: (.ref sa) :: (.ref n64) :: (.ref m64) :: (.ref ex) :: (.ref wh) :: (.ref sd) :: (.ref tk) :: (.int v52_255) :: (.int v53_256) :: (.int v54_257) :: (.ref hd) :: (.ref ak) :: (.ref ho) :: (.ref ot) :: []) := by rw [he_355, up_ne (ne_ty hT_h0 ht_85 (by simp))]; exact hF_258
                            obtain ⟨f_362, hF_356, hq_363, hfe_364⟩ : ∃ f : Nat → Int32, F_354 nb0 = .inl (cs 16, 21, .inl f) ∧ IXB 1280 f ∧ f = upd e0 ((nI kn)).toNatClampNeg ((nI ka)) := ⟨_, hF_356, ixb_upd hIx0 _ _ (by omega), rfl⟩
                            refine lv_aload_n hx hb dX15_message_192 rfl (lv_at hl 7 rfl) ?_
                            refine pg_get (ci := 15) (v := .ref nb1) (C := RX15) (T := TX15) (N := 59) hx hb hts it_15 hown hK hP hL_h0 hF_361 rfl 28 (by decide) (hts _ kt_1004) (fun _ h9 => h9) rfl dX15_message_193 ?_
                            refine lv_iload_n hx hb dX15_message_196 rfl (lv_at hl 5 rfl) ?_
                            refine lv_iload hx hb dX15_message_197 (lv_at hl 0 rfl) ?_
                            refine pg_iast hx hb hK hP hD hS hi_89 0 hF_359 rfl (vp_in_nI (by omega) (by omega)) dX15_message_199 (fun H locs hP hD hS => ?_)
                            obtain ⟨F_365, he_366, hP, hD, hO, hR⟩ : ∃ G, G = va_up F_354 nb1 (.inl (cs 16, 21, .inl (upd e1 ((nI kn)).toNatClampNeg ((nI k7))))) ∧ va_P (dC, dI) vwCl (va_pl L G) H ∧ va_D A (va_pl L G) ∧ OKm cs ty gm L G ∧ FR ty [ρ, ρ + 8, ρ + 9] F G := ⟨_, rfl, hP, hD, hO.up (shm.idb ht_90 ⟨_, rfl, ixb_upd hIx1 _ _ (by omega)⟩), hR.up ht_90 (by simp)⟩
                            have hF_367 : F_365 nb1 = .inl (cs 16, 21, .inl (upd e1 ((nI kn)).toNatClampNeg ((nI k7)))) := by rw [he_366]; exact up_self
                            have hF_368 : F_365 nb0 = .inl (cs 16, 21, .inl f_362) := by rw [he_366, up_ne hn01]; exact hF_356
                            have hF_369 : F_365 ta = .inl (cs 17, 3000, .inl gt) := by rw [he_366, up_ne (ne_ty ht_80 ht_90 (by simp))]; exact hF_357
                            have hF_370 : F_365 ml = .inl (cs 17, 3000, .inl gl) := by rw [he_366, up_ne (ne_ty ht_83 ht_90 (by simp))]; exact hF_358
                            have hF_371 : F_365 nb2 = .inl (cs 16, 21, .inl e2) := by rw [he_366, up_ne hn12.symm]; exact hF_360
                            have hF_372 : F_365 h0 = .inr (15, (.ref ta) :: (.int (nI 0)) :: (.int (nI zo)) :: (.int (nI ze)) :: (.ref ou) :: (.ref so) :: (.ref ad) :: (.ref na) :: (.ref va) :: (.ref lc) :: (.ref dm) :: (.int (nI fm)) :: (.int (nI sn)) :: (.ref tg) :: (.int v14_246) :: (.int v15_247) :: (.ref pe) :: (.int v17_248) :: (.int v18_249) :: (.int v19_250) :: (.int v20_251) :: (.int v21_252) :: (.int v22_253) :: (.ref ml) :: (.ref bg) :: (.ref co) :: (.ref sp) :: (.ref nb0) :: (.ref nb1) :: (.ref nb2) :: (.int (nI nf)) :: (.int (nI bd)) :: (.int (nI mm)) :: (.int v33_254) :: (.ref pl) :: (.ref se) :: (.ref ke) :: (.ref wi) :: (.ref hs) :: (.ref mo) :: (.ref po) :: (.ref nu) :: (.ref pr) :: (.ref sq) :: (.ref xa) :: (.ref sa) :: (.ref n64) :: (.ref m64) :: (.ref ex) :: (.ref wh) :: (.ref sd) :: (.ref tk) :: (.int v52_255) :: (.int v53_256) :: (.int v54_257) :: (.ref hd) :: (.ref ak) :: (.ref ho) :: (.ref ot) :: []) := by rw [he_366, up_ne (ne_ty hT_h0 ht_90 (by simp))]; exact hF_361
                            obtain ⟨f_373, hF_367, hq_374, hfe_375⟩ : ∃ f : Nat → Int32, F_365 nb1 = .inl (cs 16, 21, .inl f) ∧ IXB 1280 f ∧ f = upd e1 ((nI kn)).toNatClampNeg ((nI k7)) := ⟨_, hF_367, ixb_upd hIx1 _ _ (by omega), rfl⟩
                            refine lv_aload_n hx hb dX15_message_200 rfl (lv_at hl 7 rfl) ?_
                            refine pg_get (ci := 15) (v := .ref nb2) (C := RX15) (T := TX15) (N := 59) hx hb hts it_15 hown hK hP hL_h0 hF_372 rfl 29 (by decide) (hts _ kt_1005) (fun _ h9 => h9) rfl dX15_message_201 ?_
                            refine lv_iload_n hx hb dX15_message_204 rfl (lv_at hl 5 rfl) ?_
                            refine lv_iload hx hb dX15_message_205 (lv_at hl 1 rfl) ?_
                            refine pg_iast hx hb hK hP hD hS hi_94 0 hF_371 rfl (vp_in_nI (by omega) (by omega)) dX15_message_207 (fun H locs hP hD hS => ?_)
                            obtain ⟨F_376, he_377, hP, hD, hO, hR⟩ : ∃ G, G = va_up F_365 nb2 (.inl (cs 16, 21, .inl (upd e2 ((nI kn)).toNatClampNeg ((nI kend))))) ∧ va_P (dC, dI) vwCl (va_pl L G) H ∧ va_D A (va_pl L G) ∧ OKm cs ty gm L G ∧ FR ty [ρ, ρ + 8, ρ + 9] F G := ⟨_, rfl, hP, hD, hO.up (shm.idb ht_95 ⟨_, rfl, ixb_upd hIx2 _ _ (by omega)⟩), hR.up ht_95 (by simp)⟩
                            have hF_378 : F_376 nb2 = .inl (cs 16, 21, .inl (upd e2 ((nI kn)).toNatClampNeg ((nI kend)))) := by rw [he_377]; exact up_self
                            have hF_379 : F_376 nb1 = .inl (cs 16, 21, .inl f_373) := by rw [he_377, up_ne hn12]; exact hF_367
                            have hF_380 : F_376 nb0 = .inl (cs 16, 21, .inl f_362) := by rw [he_377, up_ne hn02]; exact hF_368
                            have hF_381 : F_376 ta = .inl (cs 17, 3000, .inl gt) := by rw [he_377, up_ne (ne_ty ht_80 ht_95 (by simp))]; exact hF_369
                            have hF_382 : F_376 ml = .inl (cs 17, 3000, .inl gl) := by rw [he_377, up_ne (ne_ty ht_83 ht_95 (by simp))]; exact hF_370
                            have hF_383 : F_376 h0 = .inr (15, (.ref ta) :: (.int (nI 0)) :: (.int (nI zo)) :: (.int (nI ze)) :: (.ref ou) :: (.ref so) :: (.ref ad) :: (.ref na) :: (.ref va) :: (.ref lc) :: (.ref dm) :: (.int (nI fm)) :: (.int (nI sn)) :: (.ref tg) :: (.int v14_246) :: (.int v15_247) :: (.ref pe) :: (.int v17_248) :: (.int v18_249) :: (.int v19_250) :: (.int v20_251) :: (.int v21_252) :: (.int v22_253) :: (.ref ml) :: (.ref bg) :: (.ref co) :: (.ref sp) :: (.ref nb0) :: (.ref nb1) :: (.ref nb2) :: (.int (nI nf)) :: (.int (nI bd)) :: (.int (nI mm)) :: (.int v33_254) :: (.ref pl) :: (.ref se) :: (.ref ke) :: (.ref wi) :: (.ref hs) :: (.ref mo) :: (.ref po) :: (.ref nu) :: (.ref pr) :: (.ref sq) :: (.ref xa) :: (.ref sa) :: (.ref n64) :: (.ref m64) :: (.ref ex) :: (.ref wh) :: (.ref sd) :: (.ref tk) :: (.int v52_255) :: (.int v53_256) :: (.int v54_257) :: (.ref hd) :: (.ref ak) :: (.ref ho) :: (.ref ot) :: []) := by rw [he_377, up_ne (ne_ty hT_h0 ht_95 (by simp))]; exact hF_372
                            obtain ⟨f_384, hF_378, hq_385, hfe_386⟩ : ∃ f : Nat → Int32, F_376 nb2 = .inl (cs 16, 21, .inl f) ∧ IXB 1280 f ∧ f = upd e2 ((nI kn)).toNatClampNeg ((nI kend)) := ⟨_, hF_378, ixb_upd hIx2 _ _ (by omega), rfl⟩
                            refine lv_iinc (v := (nI (kn + 1))) (lv' := [(2, .int (nI (kn + 1))), (7, .int (nI k7)), (6, .int (nI kend)), (5, .int o5), (4, .int (nI kw)), (3, .int (nI ka)), (1, .int (nI zt)), (0, .ref h0)]) hx hb dX15_message_208 hl (k := 5) rfl (nI_1 _) (by decide) rfl (fun ls hl => ?_)
                            refine lv_iload hx hb dX15_message_211 (lv_at hl 2 rfl) ?_
                            refine lv_istore_n (lv' := [(3, .int (nI kend)), (2, .int (nI (kn + 1))), (7, .int (nI k7)), (6, .int (nI kend)), (5, .int o5), (4, .int (nI kw)), (1, .int (nI zt)), (0, .ref h0)]) hx hb dX15_message_213 rfl hl (by decide) rfl (fun ls hl => ?_)
                            refine lv_goto (tgt := 15) hx hb dX15_message_214 (by decide) ?_
                            refine W.widen (k := 0) (n := 0) (by omega) (by omega) ?_
                            exact ih_102 ((kn + 1), kend, kw, o5, f_362, f_373, f_384, (gpt gq kn ka k7 ke9)) F_376 (⟨by omega, by omega, by omega, hvd, (by rw [hfe_364, hfe_375, hfe_386, nI_clamp (by omega)]; exact hFL.add (by omega) (by omega) hkd), hF_380, hF_379, hF_378, hF_382, fun _ => ⟨hop.1, fun X hX => hop.2 X (mr_fldr (by omega) (clg0n c_270) (clg1n (ifb0 hw_274 c_275)) hfe hkd hks (by omega) (by omega) (by omega) (clg2 c_351) (by omega) hX)⟩, fun q => absurd q c_242⟩) (by show zt - kend < zt - ka; omega) hO hR _ _ hP hD hS ls (lv_sub hl [4, 5, 0, 1, 6, 7] rfl)
                          ·
                            have hi_387 : kn = 20 := (nI_eq (a := kn) (b := 20) (by omega) (by omega)).mp c_352
                            refine lv_iconst (v := (-1)) hx hb dX15_message_183 (by decide) ?_
                            refine W.widen (k := 0) (n := 0) (by omega) (by omega) ?_
                            exact W.iret (v := (-1)) hx hb hr (fun t ht hWm => ⟨⟨(-1), none, rfl, (msx_no (hop.2 none (mr_badr (by omega) (clg0n c_270) (clg1n (ifb0 hw_274 c_275)) hfe hkd hks hns hka (Or.inr (Or.inr (Or.inr (by omega))))))), ⟨F_99, ty, gm, nf, bd, mm, hty, QTm.mk ht hP hD hO hR, hW, Or.inl ⟨rfl, rfl, rfl, rfl, rfl, hNm⟩⟩⟩, hS.F ht⟩) hS.2.2 dX15_message_184
                  ·
                    refine lv_iinc (v := (nI (k7 + 1))) (lv' := [(7, .int (nI (k7 + 1))), (6, .int (nI kend)), (5, .int o5), (4, .int (nI kw)), (3, .int (nI ka)), (2, .int (nI kn)), (1, .int (nI zt)), (0, .ref h0)]) hx hb dX15_message_137 hl (k := 0) rfl (nI_1 _) (by decide) rfl (fun ls hl => ?_)
                    refine lv_goto (tgt := 92) hx hb dX15_message_140 (by decide) ?_
                    refine W.widen (k := 0) (n := 0) (by omega) (by omega) ?_
                    exact ih_279 (k7 + 1) F_99 (⟨by omega, by omega, rfl, fun i h1 h2 => by rcases Nat.lt_or_ge i k7 with q | q; exact hks i h1 q; rw [show i = k7 by omega]; exact clg3 fsrN (fsr_c c_341)⟩) (by show kend - (k7 + 1) < kend - k7; omega) hO hR _ _ hP hD hS ls (lv_sub hl [0, 1, 2, 3, 4, 5, 6, 7] rfl)
          ·
            refine lv_iload_n hx hb dX15_message_70 rfl (lv_at hl 4 rfl) ?_
            refine lv_if_ne (tgt := 76) hx hb dX15_message_71 (by decide) (fun c_388 => ?_) (fun c_388 => ?_)
            ·
              have hi_389 : kn ≠ 0 := fun q => c_388 (by rw [q]; rfl)
              refine lv_aload_n hx hb dX15_message_76 rfl (lv_at hl 6 rfl) ?_
              refine pg_get (ci := 15) (v := .ref nb2) (C := RX15) (T := TX15) (N := 59) hx hb hts it_15 hown hK hP hL_h0 hF_258 rfl 29 (by decide) (hts _ kt_1005) (fun _ h9 => h9) rfl dX15_message_77 ?_
              refine lv_iload_n hx hb dX15_message_80 rfl (lv_at hl 4 rfl) ?_
              refine lv_iconst (v := 1) hx hb dX15_message_81 (by decide) ?_
              refine lv_isub hx hb dX15_message_82 ?_
              refine lv_topi (fun x_390 ex_390 => ?_)
              obtain rfl : x_390 = (nI (kn - 1)) := ex_390.trans (pk_sub (a := kn) (b := 1) (by omega))
              refine lv_iload hx hb dX15_message_83 (lv_at hl 0 rfl) ?_
              refine pg_iast hx hb hK hP hD hS hi_94 0 hN2 rfl (vp_in_nI (by omega) (by omega)) dX15_message_85 (fun H locs hP hD hS => ?_)
              obtain ⟨F_391, he_392, hP, hD, hO, hR⟩ : ∃ G, G = va_up F_99 nb2 (.inl (cs 16, 21, .inl (upd e2 ((nI (kn - 1))).toNatClampNeg ((nI kend))))) ∧ va_P (dC, dI) vwCl (va_pl L G) H ∧ va_D A (va_pl L G) ∧ OKm cs ty gm L G ∧ FR ty [ρ, ρ + 8, ρ + 9] F G := ⟨_, rfl, hP, hD, hO.up (shm.idb ht_95 ⟨_, rfl, ixb_upd hIx2 _ _ (by omega)⟩), hR.up ht_95 (by simp)⟩
              have hF_393 : F_391 nb2 = .inl (cs 16, 21, .inl (upd e2 ((nI (kn - 1))).toNatClampNeg ((nI kend)))) := by rw [he_392]; exact up_self
              have hF_394 : F_391 ta = .inl (cs 17, 3000, .inl gt) := by rw [he_392, up_ne (ne_ty ht_80 ht_95 (by simp))]; exact hF_103
              have hF_395 : F_391 ml = .inl (cs 17, 3000, .inl gl) := by rw [he_392, up_ne (ne_ty ht_83 ht_95 (by simp))]; exact hNm
              have hF_396 : F_391 nb0 = .inl (cs 16, 21, .inl e0) := by rw [he_392, up_ne hn02]; exact hN0
              have hF_397 : F_391 nb1 = .inl (cs 16, 21, .inl e1) := by rw [he_392, up_ne hn12]; exact hN1
              have hF_398 : F_391 h0 = .inr (15, (.ref ta) :: (.int (nI 0)) :: (.int (nI zo)) :: (.int (nI ze)) :: (.ref ou) :: (.ref so) :: (.ref ad) :: (.ref na) :: (.ref va) :: (.ref lc) :: (.ref dm) :: (.int (nI fm)) :: (.int (nI sn)) :: (.ref tg) :: (.int v14_246) :: (.int v15_247) :: (.ref pe) :: (.int v17_248) :: (.int v18_249) :: (.int v19_250) :: (.int v20_251) :: (.int v21_252) :: (.int v22_253) :: (.ref ml) :: (.ref bg) :: (.ref co) :: (.ref sp) :: (.ref nb0) :: (.ref nb1) :: (.ref nb2) :: (.int (nI nf)) :: (.int (nI bd)) :: (.int (nI mm)) :: (.int v33_254) :: (.ref pl) :: (.ref se) :: (.ref ke) :: (.ref wi) :: (.ref hs) :: (.ref mo) :: (.ref po) :: (.ref nu) :: (.ref pr) :: (.ref sq) :: (.ref xa) :: (.ref sa) :: (.ref n64) :: (.ref m64) :: (.ref ex) :: (.ref wh) :: (.ref sd) :: (.ref tk) :: (.int v52_255) :: (.int v53_256) :: (.int v54_257) :: (.ref hd) :: (.ref ak) :: (.ref ho) :: (.ref ot) :: []) := by rw [he_392, up_ne (ne_ty hT_h0 ht_95 (by simp))]; exact hF_258
              obtain ⟨f_399, hF_393, hq_400, hfe_401⟩ : ∃ f : Nat → Int32, F_391 nb2 = .inl (cs 16, 21, .inl f) ∧ IXB 1280 f ∧ f = upd e2 ((nI (kn - 1))).toNatClampNeg ((nI kend)) := ⟨_, hF_393, ixb_upd hIx2 _ _ (by omega), rfl⟩
              refine lv_goto (tgt := 211) hx hb dX15_message_86 (by decide) ?_
              refine lv_iload hx hb dX15_message_211 (lv_at hl 0 rfl) ?_
              refine lv_istore_n (lv' := [(3, .int (nI kend)), (6, .int (nI kend)), (5, .int o5), (4, .int (nI kw)), (2, .int (nI kn)), (1, .int (nI zt)), (0, .ref h0)]) hx hb dX15_message_213 rfl hl (by decide) rfl (fun ls hl => ?_)
              refine lv_goto (tgt := 15) hx hb dX15_message_214 (by decide) ?_
              refine W.widen (k := 0) (n := 0) (by omega) (by omega) ?_
              exact ih_102 (kn, kend, kw, o5, e0, e1, f_399, (gpt gq (kn - 1) (gq 0 (kn - 1)) (gq 1 (kn - 1)) ke9)) F_391 (⟨by omega, by omega, by omega, hvd, (by rw [hfe_401, nI_clamp (by omega)]; exact hFL.con (by omega) (by omega) hkd), hF_396, hF_397, hF_393, hF_395, fun _ => ⟨hop.1, fun X hX => hop.2 X (mr_con (by omega) (clg1 (ifb1 hw_274 c_275)) hfe (by omega) (mr_min hfe.2.1 hkd hX))⟩, fun q => absurd q c_242⟩) (by show zt - kend < zt - ka; omega) hO hR _ _ hP hD hS ls (lv_sub hl [2, 3, 0, 4, 5, 6] rfl)
            ·
              have hi_402 : kn = 0 := (nI_eq (a := kn) (b := 0) (by omega) (by omega)).mp c_388
              refine lv_iconst (v := (-1)) hx hb dX15_message_74 (by decide) ?_
              refine W.widen (k := 0) (n := 0) (by omega) (by omega) ?_
              exact W.iret (v := (-1)) hx hb hr (fun t ht hWm => ⟨⟨(-1), none, rfl, (msx_no (hop.2 none (mr_con0 (by omega) (clg1 (ifb1 hw_274 c_275)) (by omega)))), ⟨F_99, ty, gm, nf, bd, mm, hty, QTm.mk ht hP hD hO hR, hW, Or.inl ⟨rfl, rfl, rfl, rfl, rfl, hNm⟩⟩⟩, hS.F ht⟩) hS.2.2 dX15_message_75
        ·
          refine lv_iload_n hx hb dX15_message_47 rfl (lv_at hl 3 rfl) ?_
          refine lv_iconst (v := 1) hx hb dX15_message_48 (by decide) ?_
          refine lv_iadd hx hb dX15_message_49 ?_
          refine lv_topi (fun x_403 ex_403 => ?_)
          obtain rfl : x_403 = (nI (ka + 1)) := ex_403.trans (nI_add ka 1)
          refine lv_istore (lv' := [(4, .int (nI (ka + 1))), (6, .int (nI kend)), (5, .int o5), (3, .int (nI ka)), (2, .int (nI kn)), (1, .int (nI zt)), (0, .ref h0)]) hx hb dX15_message_50 hl (by decide) rfl (fun ls hl => ?_)
          refine lv_iconst (v := 0) hx hb dX15_message_52 (by decide) ?_
          refine lv_istore (lv' := [(5, .int 0), (4, .int (nI (ka + 1))), (6, .int (nI kend)), (3, .int (nI ka)), (2, .int (nI kn)), (1, .int (nI zt)), (0, .ref h0)]) hx hb dX15_message_53 hl (by decide) rfl (fun ls hl => ?_)
          refine lv_goto (tgt := 211) hx hb dX15_message_55 (by decide) ?_
          refine lv_iload hx hb dX15_message_211 (lv_at hl 2 rfl) ?_
          refine lv_istore_n (lv' := [(3, .int (nI kend)), (5, .int 0), (4, .int (nI (ka + 1))), (6, .int (nI kend)), (2, .int (nI kn)), (1, .int (nI zt)), (0, .ref h0)]) hx hb dX15_message_213 rfl hl (by decide) rfl (fun ls hl => ?_)
          refine lv_goto (tgt := 15) hx hb dX15_message_214 (by decide) ?_
          refine W.widen (k := 0) (n := 0) (by omega) (by omega) ?_
          exact ih_102 (kn, kend, (ka + 1), 0, e0, e1, e2, gq) F_99 (⟨by omega, by omega, by omega, Or.inr (by omega), hFL.mono (by omega), hN0, hN1, hN2, hNm, fun q => absurd rfl q, fun _ => hop.2 _ (mr_bod (by omega) (clg0 c_270))⟩) (by show zt - kend < zt - ka; omega) hO hR _ _ hP hD hS ls (lv_sub hl [1, 2, 0, 4, 5, 6] rfl)
