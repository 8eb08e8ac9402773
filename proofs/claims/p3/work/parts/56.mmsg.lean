theorem dX15_message_0 : decode cX15_message 0 = .ok (.aload_n 0, 1) := by decide +kernel
theorem dX15_message_1 : decode cX15_message 1 = .ok (.invokevirtual 174, 3) := by decide +kernel
theorem dX15_message_4 : decode cX15_message 4 = .ok (.istore_n 1, 1) := by decide +kernel
theorem dX15_message_5 : decode cX15_message 5 = .ok (.iconst 0, 1) := by decide +kernel
theorem dX15_message_6 : decode cX15_message 6 = .ok (.istore_n 2, 1) := by decide +kernel
theorem dX15_message_7 : decode cX15_message 7 = .ok (.iconst 0, 1) := by decide +kernel
theorem dX15_message_8 : decode cX15_message 8 = .ok (.istore_n 3, 1) := by decide +kernel
theorem dX15_message_9 : decode cX15_message 9 = .ok (.iload_n 1, 1) := by decide +kernel
theorem dX15_message_10 : decode cX15_message 10 = .ok (.istore 4, 2) := by decide +kernel
theorem dX15_message_12 : decode cX15_message 12 = .ok (.iconst 1, 1) := by decide +kernel
theorem dX15_message_13 : decode cX15_message 13 = .ok (.istore 5, 2) := by decide +kernel
theorem dX15_message_15 : decode cX15_message 15 = .ok (.iload 5, 2) := by decide +kernel
theorem dX15_message_17 : decode cX15_message 17 = .ok (.ifCond .eq 200, 3) := by decide +kernel
theorem dX15_message_20 : decode cX15_message 20 = .ok (.iload_n 3, 1) := by decide +kernel
theorem dX15_message_21 : decode cX15_message 21 = .ok (.iload_n 1, 1) := by decide +kernel
theorem dX15_message_22 : decode cX15_message 22 = .ok (.if_icmp .ge 195, 3) := by decide +kernel
theorem dX15_message_25 : decode cX15_message 25 = .ok (.aload_n 0, 1) := by decide +kernel
theorem dX15_message_26 : decode cX15_message 26 = .ok (.getfield 31, 3) := by decide +kernel
theorem dX15_message_29 : decode cX15_message 29 = .ok (.iload_n 3, 1) := by decide +kernel
theorem dX15_message_30 : decode cX15_message 30 = .ok (.iload_n 1, 1) := by decide +kernel
theorem dX15_message_31 : decode cX15_message 31 = .ok (.invokestatic 344, 3) := by decide +kernel
theorem dX15_message_34 : decode cX15_message 34 = .ok (.istore 6, 2) := by decide +kernel
theorem dX15_message_36 : decode cX15_message 36 = .ok (.aload_n 0, 1) := by decide +kernel
theorem dX15_message_37 : decode cX15_message 37 = .ok (.getfield 31, 3) := by decide +kernel
theorem dX15_message_40 : decode cX15_message 40 = .ok (.iload_n 3, 1) := by decide +kernel
theorem dX15_message_41 : decode cX15_message 41 = .ok (.baload, 1) := by decide +kernel
theorem dX15_message_42 : decode cX15_message 42 = .ok (.bipush 10, 2) := by decide +kernel
theorem dX15_message_44 : decode cX15_message 44 = .ok (.if_icmp .ne 14, 3) := by decide +kernel
theorem dX15_message_47 : decode cX15_message 47 = .ok (.iload_n 3, 1) := by decide +kernel
theorem dX15_message_48 : decode cX15_message 48 = .ok (.iconst 1, 1) := by decide +kernel
theorem dX15_message_49 : decode cX15_message 49 = .ok (.iadd, 1) := by decide +kernel
theorem dX15_message_50 : decode cX15_message 50 = .ok (.istore 4, 2) := by decide +kernel
theorem dX15_message_52 : decode cX15_message 52 = .ok (.iconst 0, 1) := by decide +kernel
theorem dX15_message_53 : decode cX15_message 53 = .ok (.istore 5, 2) := by decide +kernel
theorem dX15_message_55 : decode cX15_message 55 = .ok (.goto 156, 3) := by decide +kernel
theorem dX15_message_58 : decode cX15_message 58 = .ok (.aload_n 0, 1) := by decide +kernel
theorem dX15_message_59 : decode cX15_message 59 = .ok (.getfield 31, 3) := by decide +kernel
theorem dX15_message_62 : decode cX15_message 62 = .ok (.iload_n 3, 1) := by decide +kernel
theorem dX15_message_63 : decode cX15_message 63 = .ok (.baload, 1) := by decide +kernel
theorem dX15_message_64 : decode cX15_message 64 = .ok (.invokestatic 347, 3) := by decide +kernel
theorem dX15_message_67 : decode cX15_message 67 = .ok (.ifCond .eq 22, 3) := by decide +kernel
theorem dX15_message_70 : decode cX15_message 70 = .ok (.iload_n 2, 1) := by decide +kernel
theorem dX15_message_71 : decode cX15_message 71 = .ok (.ifCond .ne 5, 3) := by decide +kernel
theorem dX15_message_74 : decode cX15_message 74 = .ok (.iconst (-1), 1) := by decide +kernel
theorem dX15_message_75 : decode cX15_message 75 = .ok (.ireturn, 1) := by decide +kernel
theorem dX15_message_76 : decode cX15_message 76 = .ok (.aload_n 0, 1) := by decide +kernel
theorem dX15_message_77 : decode cX15_message 77 = .ok (.getfield 88, 3) := by decide +kernel
theorem dX15_message_80 : decode cX15_message 80 = .ok (.iload_n 2, 1) := by decide +kernel
theorem dX15_message_81 : decode cX15_message 81 = .ok (.iconst 1, 1) := by decide +kernel
theorem dX15_message_82 : decode cX15_message 82 = .ok (.isub, 1) := by decide +kernel
theorem dX15_message_83 : decode cX15_message 83 = .ok (.iload 6, 2) := by decide +kernel
theorem dX15_message_85 : decode cX15_message 85 = .ok (.iastore, 1) := by decide +kernel
theorem dX15_message_86 : decode cX15_message 86 = .ok (.goto 125, 3) := by decide +kernel
theorem dX15_message_89 : decode cX15_message 89 = .ok (.iload_n 3, 1) := by decide +kernel
theorem dX15_message_90 : decode cX15_message 90 = .ok (.istore 7, 2) := by decide +kernel
theorem dX15_message_92 : decode cX15_message 92 = .ok (.iload 7, 2) := by decide +kernel
theorem dX15_message_94 : decode cX15_message 94 = .ok (.iload 6, 2) := by decide +kernel
theorem dX15_message_96 : decode cX15_message 96 = .ok (.if_icmp .ge 47, 3) := by decide +kernel
theorem dX15_message_99 : decode cX15_message 99 = .ok (.aload_n 0, 1) := by decide +kernel
theorem dX15_message_100 : decode cX15_message 100 = .ok (.getfield 31, 3) := by decide +kernel
theorem dX15_message_103 : decode cX15_message 103 = .ok (.iload 7, 2) := by decide +kernel
theorem dX15_message_105 : decode cX15_message 105 = .ok (.baload, 1) := by decide +kernel
theorem dX15_message_106 : decode cX15_message 106 = .ok (.invokestatic 350, 3) := by decide +kernel
theorem dX15_message_109 : decode cX15_message 109 = .ok (.ifCond .ne 28, 3) := by decide +kernel
theorem dX15_message_112 : decode cX15_message 112 = .ok (.aload_n 0, 1) := by decide +kernel
theorem dX15_message_113 : decode cX15_message 113 = .ok (.getfield 31, 3) := by decide +kernel
theorem dX15_message_116 : decode cX15_message 116 = .ok (.iload 7, 2) := by decide +kernel
theorem dX15_message_118 : decode cX15_message 118 = .ok (.baload, 1) := by decide +kernel
theorem dX15_message_119 : decode cX15_message 119 = .ok (.invokestatic 202, 3) := by decide +kernel
theorem dX15_message_122 : decode cX15_message 122 = .ok (.ifCond .ne 15, 3) := by decide +kernel
theorem dX15_message_125 : decode cX15_message 125 = .ok (.aload_n 0, 1) := by decide +kernel
theorem dX15_message_126 : decode cX15_message 126 = .ok (.getfield 31, 3) := by decide +kernel
theorem dX15_message_129 : decode cX15_message 129 = .ok (.iload 7, 2) := by decide +kernel
theorem dX15_message_131 : decode cX15_message 131 = .ok (.baload, 1) := by decide +kernel
theorem dX15_message_132 : decode cX15_message 132 = .ok (.bipush 45, 2) := by decide +kernel
theorem dX15_message_134 : decode cX15_message 134 = .ok (.if_icmp .ne 9, 3) := by decide +kernel
theorem dX15_message_137 : decode cX15_message 137 = .ok (.iinc 7 1, 3) := by decide +kernel
theorem dX15_message_140 : decode cX15_message 140 = .ok (.goto (-48), 3) := by decide +kernel
theorem dX15_message_143 : decode cX15_message 143 = .ok (.iload 7, 2) := by decide +kernel
theorem dX15_message_145 : decode cX15_message 145 = .ok (.iload_n 3, 1) := by decide +kernel
theorem dX15_message_146 : decode cX15_message 146 = .ok (.isub, 1) := by decide +kernel
theorem dX15_message_147 : decode cX15_message 147 = .ok (.i2l, 1) := by decide +kernel
theorem dX15_message_148 : decode cX15_message 148 = .ok (.lconst 1, 1) := by decide +kernel
theorem dX15_message_149 : decode cX15_message 149 = .ok (.ldc2_w 353, 3) := by decide +kernel
theorem dX15_message_152 : decode cX15_message 152 = .ok (.invokestatic 170, 3) := by decide +kernel
theorem dX15_message_155 : decode cX15_message 155 = .ok (.ifCond .eq 28, 3) := by decide +kernel
theorem dX15_message_158 : decode cX15_message 158 = .ok (.iload 7, 2) := by decide +kernel
theorem dX15_message_160 : decode cX15_message 160 = .ok (.iload 6, 2) := by decide +kernel
theorem dX15_message_162 : decode cX15_message 162 = .ok (.if_icmp .eq 21, 3) := by decide +kernel
theorem dX15_message_165 : decode cX15_message 165 = .ok (.aload_n 0, 1) := by decide +kernel
theorem dX15_message_166 : decode cX15_message 166 = .ok (.getfield 31, 3) := by decide +kernel
theorem dX15_message_169 : decode cX15_message 169 = .ok (.iload 7, 2) := by decide +kernel
theorem dX15_message_171 : decode cX15_message 171 = .ok (.baload, 1) := by decide +kernel
theorem dX15_message_172 : decode cX15_message 172 = .ok (.bipush 58, 2) := by decide +kernel
theorem dX15_message_174 : decode cX15_message 174 = .ok (.if_icmp .ne 9, 3) := by decide +kernel
theorem dX15_message_177 : decode cX15_message 177 = .ok (.iload_n 2, 1) := by decide +kernel
theorem dX15_message_178 : decode cX15_message 178 = .ok (.bipush 20, 2) := by decide +kernel
theorem dX15_message_180 : decode cX15_message 180 = .ok (.if_icmp .ne 5, 3) := by decide +kernel
theorem dX15_message_183 : decode cX15_message 183 = .ok (.iconst (-1), 1) := by decide +kernel
theorem dX15_message_184 : decode cX15_message 184 = .ok (.ireturn, 1) := by decide +kernel
theorem dX15_message_185 : decode cX15_message 185 = .ok (.aload_n 0, 1) := by decide +kernel
theorem dX15_message_186 : decode cX15_message 186 = .ok (.getfield 82, 3) := by decide +kernel
theorem dX15_message_189 : decode cX15_message 189 = .ok (.iload_n 2, 1) := by decide +kernel
theorem dX15_message_190 : decode cX15_message 190 = .ok (.iload_n 3, 1) := by decide +kernel
theorem dX15_message_191 : decode cX15_message 191 = .ok (.iastore, 1) := by decide +kernel
theorem dX15_message_192 : decode cX15_message 192 = .ok (.aload_n 0, 1) := by decide +kernel
theorem dX15_message_193 : decode cX15_message 193 = .ok (.getfield 85, 3) := by decide +kernel
theorem dX15_message_196 : decode cX15_message 196 = .ok (.iload_n 2, 1) := by decide +kernel
theorem dX15_message_197 : decode cX15_message 197 = .ok (.iload 7, 2) := by decide +kernel
theorem dX15_message_199 : decode cX15_message 199 = .ok (.iastore, 1) := by decide +kernel
theorem dX15_message_200 : decode cX15_message 200 = .ok (.aload_n 0, 1) := by decide +kernel
theorem dX15_message_201 : decode cX15_message 201 = .ok (.getfield 88, 3) := by decide +kernel
theorem dX15_message_204 : decode cX15_message 204 = .ok (.iload_n 2, 1) := by decide +kernel
theorem dX15_message_205 : decode cX15_message 205 = .ok (.iload 6, 2) := by decide +kernel
theorem dX15_message_207 : decode cX15_message 207 = .ok (.iastore, 1) := by decide +kernel
theorem dX15_message_208 : decode cX15_message 208 = .ok (.iinc 2 1, 3) := by decide +kernel
theorem dX15_message_211 : decode cX15_message 211 = .ok (.iload 6, 2) := by decide +kernel
theorem dX15_message_213 : decode cX15_message 213 = .ok (.istore_n 3, 1) := by decide +kernel
theorem dX15_message_214 : decode cX15_message 214 = .ok (.goto (-199), 3) := by decide +kernel
theorem dX15_message_217 : decode cX15_message 217 = .ok (.iload_n 2, 1) := by decide +kernel
theorem dX15_message_218 : decode cX15_message 218 = .ok (.ifCond .ne 5, 3) := by decide +kernel
theorem dX15_message_221 : decode cX15_message 221 = .ok (.iconst (-1), 1) := by decide +kernel
theorem dX15_message_222 : decode cX15_message 222 = .ok (.ireturn, 1) := by decide +kernel
theorem dX15_message_223 : decode cX15_message 223 = .ok (.aload_n 0, 1) := by decide +kernel
theorem dX15_message_224 : decode cX15_message 224 = .ok (.iload_n 2, 1) := by decide +kernel
theorem dX15_message_225 : decode cX15_message 225 = .ok (.putfield 355, 3) := by decide +kernel
theorem dX15_message_228 : decode cX15_message 228 = .ok (.aload_n 0, 1) := by decide +kernel
theorem dX15_message_229 : decode cX15_message 229 = .ok (.getfield 82, 3) := by decide +kernel
theorem dX15_message_232 : decode cX15_message 232 = .ok (.iconst 0, 1) := by decide +kernel
theorem dX15_message_233 : decode cX15_message 233 = .ok (.aload_n 0, 1) := by decide +kernel
theorem dX15_message_234 : decode cX15_message 234 = .ok (.getfield 73, 3) := by decide +kernel
theorem dX15_message_237 : decode cX15_message 237 = .ok (.iconst 0, 1) := by decide +kernel
theorem dX15_message_238 : decode cX15_message 238 = .ok (.iload_n 2, 1) := by decide +kernel
theorem dX15_message_239 : decode cX15_message 239 = .ok (.invokestatic 358, 3) := by decide +kernel
theorem dX15_message_242 : decode cX15_message 242 = .ok (.aload_n 0, 1) := by decide +kernel
theorem dX15_message_243 : decode cX15_message 243 = .ok (.getfield 85, 3) := by decide +kernel
theorem dX15_message_246 : decode cX15_message 246 = .ok (.iconst 0, 1) := by decide +kernel
theorem dX15_message_247 : decode cX15_message 247 = .ok (.aload_n 0, 1) := by decide +kernel
theorem dX15_message_248 : decode cX15_message 248 = .ok (.getfield 76, 3) := by decide +kernel
theorem dX15_message_251 : decode cX15_message 251 = .ok (.iconst 0, 1) := by decide +kernel
theorem dX15_message_252 : decode cX15_message 252 = .ok (.iload_n 2, 1) := by decide +kernel
theorem dX15_message_253 : decode cX15_message 253 = .ok (.invokestatic 358, 3) := by decide +kernel
theorem dX15_message_256 : decode cX15_message 256 = .ok (.aload_n 0, 1) := by decide +kernel
theorem dX15_message_257 : decode cX15_message 257 = .ok (.getfield 88, 3) := by decide +kernel
theorem dX15_message_260 : decode cX15_message 260 = .ok (.iconst 0, 1) := by decide +kernel
theorem dX15_message_261 : decode cX15_message 261 = .ok (.aload_n 0, 1) := by decide +kernel
theorem dX15_message_262 : decode cX15_message 262 = .ok (.getfield 79, 3) := by decide +kernel
theorem dX15_message_265 : decode cX15_message 265 = .ok (.iconst 0, 1) := by decide +kernel
theorem dX15_message_266 : decode cX15_message 266 = .ok (.iload_n 2, 1) := by decide +kernel
theorem dX15_message_267 : decode cX15_message 267 = .ok (.invokestatic 358, 3) := by decide +kernel
theorem dX15_message_270 : decode cX15_message 270 = .ok (.aload_n 0, 1) := by decide +kernel
theorem dX15_message_271 : decode cX15_message 271 = .ok (.getfield 31, 3) := by decide +kernel
theorem dX15_message_274 : decode cX15_message 274 = .ok (.iconst 0, 1) := by decide +kernel
theorem dX15_message_275 : decode cX15_message 275 = .ok (.aload_n 0, 1) := by decide +kernel
theorem dX15_message_276 : decode cX15_message 276 = .ok (.getfield 70, 3) := by decide +kernel
theorem dX15_message_279 : decode cX15_message 279 = .ok (.iconst 0, 1) := by decide +kernel
theorem dX15_message_280 : decode cX15_message 280 = .ok (.iload_n 1, 1) := by decide +kernel
theorem dX15_message_281 : decode cX15_message 281 = .ok (.invokestatic 358, 3) := by decide +kernel
theorem dX15_message_284 : decode cX15_message 284 = .ok (.aload_n 0, 1) := by decide +kernel
theorem dX15_message_285 : decode cX15_message 285 = .ok (.iload 4, 2) := by decide +kernel
theorem dX15_message_287 : decode cX15_message 287 = .ok (.putfield 364, 3) := by decide +kernel
theorem dX15_message_290 : decode cX15_message 290 = .ok (.aload_n 0, 1) := by decide +kernel
theorem dX15_message_291 : decode cX15_message 291 = .ok (.iload_n 1, 1) := by decide +kernel
theorem dX15_message_292 : decode cX15_message 292 = .ok (.putfield 367, 3) := by decide +kernel
theorem dX15_message_295 : decode cX15_message 295 = .ok (.aload_n 0, 1) := by decide +kernel
theorem dX15_message_296 : decode cX15_message 296 = .ok (.iconst 1, 1) := by decide +kernel
theorem dX15_message_297 : decode cX15_message 297 = .ok (.putfield 370, 3) := by decide +kernel
theorem dX15_message_300 : decode cX15_message 300 = .ok (.iload_n 2, 1) := by decide +kernel
theorem dX15_message_301 : decode cX15_message 301 = .ok (.ireturn, 1) := by decide +kernel
theorem kt_1079 : Cond.fieldLink RX15 82 "PostGateModel" "newBegin" "[I" ∈ tb := tb_at (i := 1316) (by decide +kernel) (by decide +kernel)
theorem kt_1080 : Cond.fieldLink RX15 85 "PostGateModel" "newColon" "[I" ∈ tb := tb_at (i := 1317) (by decide +kernel) (by decide +kernel)
theorem kt_1081 : Cond.fieldLink RX15 88 "PostGateModel" "newStop" "[I" ∈ tb := tb_at (i := 1318) (by decide +kernel) (by decide +kernel)
theorem rtf_rtf {ty : TyM} {h : Nat} {e e2 : TyE} : rtf (rtf ty h e) h e2 = rtf ty h e2 := by
  funext a
  by_cases c : a = h
  · subst c
    rw [rtf_self, rtf_self]
  · rw [rtf_ne c, rtf_ne c, rtf_ne c]
theorem U_re {ty : TyM} {L : List Nat} {h0 ρ : Nat} {im : List Nat} {P : Nat → Prop} (h : ∀ a ∈ L, (ty a).1 = 26 → P a) : ∀ a ∈ L, (rtf ty h0 (15, ρ, im) a).1 = 26 → P a := by
  intro a ha e
  by_cases c : a = h0
  · subst c
    rw [rtf_self] at e
    exact absurd e (by simp)
  · rw [rtf_ne c] at e
    exact h a ha e
theorem U15_re {ty : TyM} {L : List Nat} {h0 : Nat} {e0 : TyE} (h : ∀ a ∈ L, (ty a).1 = 15 → a = h0) : ∀ a ∈ L, (rtf ty h0 e0 a).1 = 15 → a = h0 := by
  intro a ha e
  by_cases c : a = h0
  · exact c
  · rw [rtf_ne c] at e
    exact h a ha e
def gset (g : Nat → Nat → Nat) (n a b c : Nat) : Nat → Nat → Nat := fun q j => if j = n then (if q = 0 then a else if q = 1 then b else c) else g q j
theorem gset_ne {g : Nat → Nat → Nat} {n a b c q j : Nat} (h : j ≠ n) : gset g n a b c q j = g q j := if_neg h
theorem gset_0 {g : Nat → Nat → Nat} {n a b c : Nat} : gset g n a b c 0 n = a := by
  unfold gset
  rw [if_pos rfl, if_pos rfl]
theorem gset_1 {g : Nat → Nat → Nat} {n a b c : Nat} : gset g n a b c 1 n = b := by
  unfold gset
  rw [if_pos rfl, if_neg (by decide), if_pos rfl]
theorem gset_2 {g : Nat → Nat → Nat} {n a b c : Nat} : gset g n a b c 2 n = c := by
  unfold gset
  rw [if_pos rfl, if_neg (by decide), if_neg (by decide)]
theorem updm_at {f : Nat → Int32} {k : Nat} {x : Int32} : upd f k x k = x := if_pos rfl
theorem updm_ne {f : Nat → Int32} {k i : Nat} {x : Int32} (h : i ≠ k) : upd f k x i = f i := if_neg h
def FLD (f0 f1 f2 : Nat → Int32) (n w : Nat) : Prop := ∃ g : Nat → Nat → Nat, (∀ j, j < n → f0 j = nI (g 0 j) ∧ f1 j = nI (g 1 j) ∧ f2 j = nI (g 2 j)) ∧ (∀ j, j < n → g 0 j < g 1 j ∧ g 1 j < g 2 j ∧ g 2 j ≤ w) ∧ (∀ j, j + 1 < n → g 2 j ≤ g 0 (j + 1))
theorem FLD.nil {f0 f1 f2 : Nat → Int32} {w : Nat} : FLD f0 f1 f2 0 w := ⟨fun _ _ => 0, fun _ h => absurd h (Nat.not_lt_zero _), fun _ h => absurd h (Nat.not_lt_zero _), fun _ h => absurd h (Nat.not_lt_zero _)⟩
theorem FLD.mono {f0 f1 f2 : Nat → Int32} {n w v : Nat} (h : FLD f0 f1 f2 n w) (hw : w ≤ v) : FLD f0 f1 f2 n v := by
  obtain ⟨g, h1, h2, h3⟩ := h
  exact ⟨g, h1, fun j hj => ⟨(h2 j hj).1, (h2 j hj).2.1, Nat.le_trans (h2 j hj).2.2 hw⟩, h3⟩
theorem FLD.add {f0 f1 f2 : Nat → Int32} {n w k v : Nat} (h : FLD f0 f1 f2 n w) (h1 : w < k) (h2 : k < v) : FLD (upd f0 n (nI w)) (upd f1 n (nI k)) (upd f2 n (nI v)) (n + 1) v := by
  obtain ⟨g, a1, a2, a3⟩ := h
  refine ⟨gset g n w k v, ?_, ?_, ?_⟩
  · intro j hj
    by_cases c : j = n
    · subst c
      rw [gset_0, gset_1, gset_2, updm_at, updm_at, updm_at]
      exact ⟨rfl, rfl, rfl⟩
    · rw [gset_ne c, gset_ne c, gset_ne c, updm_ne c, updm_ne c, updm_ne c]
      exact a1 j (by omega)
  · intro j hj
    by_cases c : j = n
    · subst c
      rw [gset_0, gset_1, gset_2]
      exact ⟨h1, h2, Nat.le_refl _⟩
    · rw [gset_ne c, gset_ne c, gset_ne c]
      have b := a2 j (by omega)
      exact ⟨b.1, b.2.1, by omega⟩
  · intro j hj
    have c : j ≠ n := by omega
    rw [gset_ne c]
    by_cases d : j + 1 = n
    · have b := a2 j (by omega)
      rw [d, gset_0]
      exact b.2.2
    · rw [gset_ne d]
      exact a3 j (by omega)
theorem FLD.stp {f0 f1 f2 : Nat → Int32} {n w v : Nat} (h : FLD f0 f1 f2 (n + 1) w) (hw : w ≤ v) : FLD f0 f1 (upd f2 n (nI v)) (n + 1) v := by
  obtain ⟨g, a1, a2, a3⟩ := h
  refine ⟨gset g n (g 0 n) (g 1 n) v, ?_, ?_, ?_⟩
  · intro j hj
    obtain ⟨b1, b2, b3⟩ := a1 j hj
    by_cases c : j = n
    · subst c
      rw [gset_0, gset_1, gset_2]
      exact ⟨b1, b2, updm_at⟩
    · rw [gset_ne c, gset_ne c, gset_ne c, updm_ne c]
      exact ⟨b1, b2, b3⟩
  · intro j hj
    obtain ⟨b1, b2, b3⟩ := a2 j hj
    by_cases c : j = n
    · subst c
      rw [gset_0, gset_1, gset_2]
      exact ⟨b1, by omega, Nat.le_refl _⟩
    · rw [gset_ne c, gset_ne c, gset_ne c]
      exact ⟨b1, b2, Nat.le_trans b3 hw⟩
  · intro j hj
    have c : j ≠ n := by omega
    have b := a3 j hj
    rw [gset_ne c]
    by_cases d : j + 1 = n
    · rw [d, gset_0, ← d]
      exact b
    · rw [gset_ne d]
      exact b
theorem FLD.stq {f0 f1 f2 : Nat → Int32} {n w v : Nat} (h : FLD f0 f1 f2 n w) (hn : 0 < n) (hw : w ≤ v) : FLD f0 f1 (upd f2 (n - 1) (nI v)) n v := by
  obtain ⟨k, rfl⟩ : ∃ k, n = k + 1 := ⟨n - 1, by omega⟩
  exact h.stp hw
def gmu (n : Nat) (gF gm : Nat → Nat → Nat) : Nat → Nat → Nat := fun k j => if j < n ∧ k < 3 then gF k j else gm k j
theorem gmu_in {n k j : Nat} {gF gm : Nat → Nat → Nat} (h : j < n) (hk : k < 3) : gmu n gF gm k j = gF k j := if_pos ⟨h, hk⟩
theorem gmu_out {n k j : Nat} {gF gm : Nat → Nat → Nat} (h : ¬ j < n) : gmu n gF gm k j = gm k j := if_neg (fun q => h q.1)
theorem gmu_b {n w : Nat} {gF gm : Nat → Nat → Nat} (a2 : ∀ j, j < n → gF 0 j < gF 1 j ∧ gF 1 j < gF 2 j ∧ gF 2 j ≤ w) (hw : w ≤ 1280) (hg : ∀ k j, gm k j ≤ 1280) : ∀ k j, gmu n gF gm k j ≤ 1280 := by
  intro k j
  by_cases c : j < n ∧ k < 3
  · rw [gmu_in c.1 c.2]
    have q := a2 j c.1
    have hk : k = 0 ∨ k = 1 ∨ k = 2 := by omega
    rcases hk with h | h | h
    · subst h
      omega
    · subst h
      omega
    · subst h
      omega
  · rw [show gmu n gF gm k j = gm k j from if_neg c]
    exact hg k j
theorem gmu_o {n w m2 : Nat} {gF gm : Nat → Nat → Nat} (a2 : ∀ j, j < n → gF 0 j < gF 1 j ∧ gF 1 j < gF 2 j ∧ gF 2 j ≤ w) (hw : w ≤ m2) : ∀ j, j < n → gmu n gF gm 0 j < gmu n gF gm 1 j ∧ gmu n gF gm 1 j < gmu n gF gm 2 j ∧ gmu n gF gm 2 j ≤ m2 := by
  intro j hj
  rw [gmu_in (k := 0) hj (by decide), gmu_in (k := 1) hj (by decide), gmu_in (k := 2) hj (by decide)]
  have q := a2 j hj
  exact ⟨q.1, q.2.1, Nat.le_trans q.2.2 hw⟩
theorem gmu_a {n : Nat} {gF gm : Nat → Nat → Nat} (a3 : ∀ j, j + 1 < n → gF 2 j ≤ gF 0 (j + 1)) : ∀ j, j + 1 < n → gmu n gF gm 2 j ≤ gmu n gF gm 0 (j + 1) := by
  intro j hj
  have hj2 : j < n := by omega
  rw [gmu_in (k := 2) hj2 (by decide), gmu_in (k := 0) hj (by decide)]
  exact a3 j hj
theorem cpy_gm {f fb : Nat → Int32} {gF gm : Nat → Nat → Nat} {n k : Nat} (hn : n ≤ 20) (hk : k < 3) (h : ∀ j, j < n → f j = nI (gF k j)) (hb : ∀ j, j < 21 → fb j = nI (gm k j)) : ∀ j, j < 21 → va_cpy f fb (0 : Int32).toNatClampNeg (0 : Int32).toNatClampNeg (nI n).toNatClampNeg j = nI (gmu n gF gm k j) := by
  intro j hj
  rw [nI_clamp (by omega), show (0 : Int32).toNatClampNeg = 0 from by decide]
  show (if 0 ≤ j ∧ j < 0 + n then f (0 + (j - 0)) else fb j) = _
  by_cases c : j < n
  · rw [if_pos ⟨Nat.zero_le _, by omega⟩, gmu_in c hk, show 0 + (j - 0) = j from by omega]
    exact h j c
  · rw [if_neg (fun q => c (by omega)), gmu_out c]
    exact hb j hj
theorem shm.commit {cs : Nat → ClassId} {ty : TyM} {gm gm2 : Nat → Nat → Nat} {L : List Nat} {a h0 ρ0 : Nat} {im im2 : List Nat} {x : va_E} (hT : ty h0 = (15, ρ0, im)) (c0 : a ≠ h0) (hn15 : (ty a).1 ≠ 15) (hn26 : (ty a).1 ≠ 26) (h : shm cs ty gm L a x) : shm cs (rtf ty h0 (15, ρ0, im2)) gm2 L a x :=
  ⟨fun _ _ _ e => (h.1) _ _ _ ((rtf_ne c0).symm.trans e),
   fun _ _ e => (h.2.1) _ _ ((rtf_ne c0).symm.trans e),
   fun _ _ e => (h.2.2.1) _ _ ((rtf_ne c0).symm.trans e),
   fun _ _ e => (h.2.2.2.1) _ _ ((rtf_ne c0).symm.trans e),
   fun _ _ _ e => (h.2.2.2.2.1) _ _ _ ((rtf_ne c0).symm.trans e),
   fun _ _ e => absurd (congrArg Prod.fst ((rtf_ne c0).symm.trans e)) hn26,
   fun ρ n rm e => by
      obtain ⟨f, h1, h2⟩ := (h.2.2.2.2.2.2.1) ρ n rm ((rtf_ne c0).symm.trans e)
      exact ⟨f, h1, fun j hj => by obtain ⟨b, r, x1, x2, x3⟩ := h2 j hj; exact ⟨b, r, x1, x2, rtf_tr hT (by decide) x3⟩⟩,
   fun _ _ _ _ _ _ e => (h.2.2.2.2.2.2.2.1) _ _ _ _ _ _ ((rtf_ne c0).symm.trans e),
   fun _ _ _ _ _ _ _ e => (h.2.2.2.2.2.2.2.2.1) _ _ _ _ _ _ _ ((rtf_ne c0).symm.trans e),
   fun _ _ _ _ _ _ _ _ _ _ _ _ _ _ _ _ _ _ _ _ _ _ _ _ _ _ _ _ _ _ _ _ _ _ _ _ _ _ _ _ _ _ _ _ _ _ _ _ e => absurd (congrArg Prod.fst ((rtf_ne c0).symm.trans e)) hn15⟩
theorem OKm.commit {cs : Nat → ClassId} {ty : TyM} {gm gm2 : Nat → Nat → Nat} {L : List Nat} {F G : Nat → va_E} {h0 bg co sp ml ρ0 : Nat} {im im2 : List Nat} (hO : OKm cs ty gm L F) (hT : ty h0 = (15, ρ0, im)) (hU26 : ∀ a ∈ L, (ty a).1 = 26 → a = bg ∨ a = co ∨ a = sp) (hU15 : ∀ a ∈ L, (ty a).1 = 15 → a = h0) (hG : ∀ b, b ≠ h0 → b ≠ bg → b ≠ co → b ≠ sp → b ≠ ml → G b = F b)
    (x0 : shm cs (rtf ty h0 (15, ρ0, im2)) gm2 L h0 (G h0)) (x1 : shm cs (rtf ty h0 (15, ρ0, im2)) gm2 L bg (G bg)) (x2 : shm cs (rtf ty h0 (15, ρ0, im2)) gm2 L co (G co)) (x3 : shm cs (rtf ty h0 (15, ρ0, im2)) gm2 L sp (G sp)) (x4 : shm cs (rtf ty h0 (15, ρ0, im2)) gm2 L ml (G ml)) : OKm cs (rtf ty h0 (15, ρ0, im2)) gm2 L G := by
  intro b hb
  by_cases c0 : b = h0
  · rw [c0]
    exact x0
  by_cases c1 : b = bg
  · rw [c1]
    exact x1
  by_cases c2 : b = co
  · rw [c2]
    exact x2
  by_cases c3 : b = sp
  · rw [c3]
    exact x3
  by_cases c4 : b = ml
  · rw [c4]
    exact x4
  rw [hG b c0 c1 c2 c3 c4]
  exact (hO b hb).commit hT c0 (fun e => c0 (hU15 b hb e)) (fun e => (hU26 b hb e).elim c1 (fun h => h.elim c2 c3))
set_option maxHeartbeats 4000000 in
theorem WTm.commit {ty : TyM} {gm gF : Nat → Nat → Nat} {L : List Nat} {h0 ρ ta ou so ad na va lc dm tg pe ml bg co sp nb0 nb1 nb2 pl se ke wi hs mo po nu pr sq xa sa n64 m64 ex wh sd tk hd ak ho ot sx s0 s1 s2 nf bd mm zt n2 b2 m2 w : Nat} (hW : WTm ty gm L) (hL : h0 ∈ L) (hT : ty h0 = (15, ρ, [ta, ou, so, ad, na, va, lc, dm, tg, pe, ml, bg, co, sp, nb0, nb1, nb2, pl, se, ke, wi, hs, mo, po, nu, pr, sq, xa, sa, n64, m64, ex, wh, sd, tk, hd, ak, ho, ot, sx, s0, s1, s2, nf, bd, mm, zt])) (hU15 : ∀ a ∈ L, (ty a).1 = 15 → a = h0) (hn : n2 ≤ 20) (hb : b2 ≤ m2) (hm : m2 ≤ 1280) (h1 : 1 ≤ b2) (a2 : ∀ j, j < n2 → gF 0 j < gF 1 j ∧ gF 1 j < gF 2 j ∧ gF 2 j ≤ w) (a3 : ∀ j, j + 1 < n2 → gF 2 j ≤ gF 0 (j + 1)) (hw : w ≤ m2) : WTm (rtf ty h0 (15, ρ, [ta, ou, so, ad, na, va, lc, dm, tg, pe, ml, bg, co, sp, nb0, nb1, nb2, pl, se, ke, wi, hs, mo, po, nu, pr, sq, xa, sa, n64, m64, ex, wh, sd, tk, hd, ak, ho, ot, sx, s0, s1, s2, n2, b2, m2, zt])) (gmu n2 gF gm) L := by
  obtain ⟨p0, p1, p2, p3, p4, p5, p6, p7, p8, p9, p10, p11, p12, p13, p14, p15, p16, p17, p18, p19, p20, p21, p22, p23, p24, p25, p26, p27, p28, p29, p30, p31, p32, p33, p34, p35, p36, p37, p38, p39, p40, p41, p42, p43, p44, p45, p46, p47, p48, p49, p50, p51, p52, p53, p54, p55, p56, p57, p58, p59, p60, p61, p62, p63, p64, p65, p66, p67, p68, p69, p70, p71, p72, p73, p74, p75, p76, p77, p78, p79, p80, p81, p82, p83, p84, p85⟩ := wtm_mod_re (e0 := (15, ρ, [ta, ou, so, ad, na, va, lc, dm, tg, pe, ml, bg, co, sp, nb0, nb1, nb2, pl, se, ke, wi, hs, mo, po, nu, pr, sq, xa, sa, n64, m64, ex, wh, sd, tk, hd, ak, ho, ot, sx, s0, s1, s2, n2, b2, m2, zt])) hT (hW.mod hL hT)
  intro a ha
  have h9 := hW a ha
  by_cases c : a = h0
  · subst c
    exact ⟨fun _ _ _ e => absurd (congrArg Prod.fst (rtf_self.symm.trans e)) (by simp),
      fun _ _ e => absurd (congrArg Prod.fst (rtf_self.symm.trans e)) (by simp),
      fun _ _ e => absurd (congrArg Prod.fst (rtf_self.symm.trans e)) (by simp),
      fun _ _ e => absurd (congrArg Prod.fst (rtf_self.symm.trans e)) (by simp),
      fun _ _ _ e => absurd (congrArg Prod.fst (rtf_self.symm.trans e)) (by simp),
      fun _ _ e => absurd (congrArg Prod.fst (rtf_self.symm.trans e)) (by simp),
      fun _ _ _ e => absurd (congrArg Prod.fst (rtf_self.symm.trans e)) (by simp),
      fun _ _ _ _ _ _ e => absurd (congrArg Prod.fst (rtf_self.symm.trans e)) (by simp),
      fun _ _ _ _ _ _ _ e => absurd (congrArg Prod.fst (rtf_self.symm.trans e)) (by simp),
      fun _ _ _ _ _ _ _ _ _ _ _ _ _ _ _ _ _ _ _ _ _ _ _ _ _ _ _ _ _ _ _ _ _ _ _ _ _ _ _ _ _ _ _ _ _ _ _ _ e => by
        have e9 := rtf_self.symm.trans e
        cases e9
        exact ⟨p0, p1, p2, p3, p4, p5, p6, p7, p8, p9, p10, p11, p12, p13, p14, p15, p16, p17, p18, p19, p20, p21, p22, p23, p24, p25, p26, p27, p28, p29, p30, p31, p32, p33, p34, p35, p36, p37, p38, p39, p40, p41, p42, p43, p44, p45, p46, p47, p48, p49, p50, p51, p52, p53, p54, p55, p56, p57, p58, p59, p60, p61, p62, p63, p64, p65, p66, p67, p68, p69, p70, p71, p72, p73, p74, p75, p76, p77, p78, hn, hb, hm, Or.inr h1, gmu_o a2 hw, gmu_a a3, gmu_b a2 (Nat.le_trans hw hm) p85⟩⟩
  · exact ⟨fun _ _ _ e => wtm_txt_re hT ((h9.1) _ _ _ ((rtf_ne c).symm.trans e)),
      fun _ _ e => wtm_octs_re hT ((h9.2.1) _ _ ((rtf_ne c).symm.trans e)),
      fun _ _ e => wtm_ints_re hT ((h9.2.2.1) _ _ ((rtf_ne c).symm.trans e)),
      fun _ _ _ => trivial,
      fun _ _ _ _ => trivial,
      fun _ _ _ => trivial,
      fun _ _ _ _ => trivial,
      fun _ _ _ _ _ _ e => wtm_hash_re hT ((h9.2.2.2.2.2.2.2.1) _ _ _ _ _ _ ((rtf_ne c).symm.trans e)),
      fun _ _ _ _ _ _ _ e => wtm_tags_re hT ((h9.2.2.2.2.2.2.2.2.1) _ _ _ _ _ _ _ ((rtf_ne c).symm.trans e)),
      fun _ _ _ _ _ _ _ _ _ _ _ _ _ _ _ _ _ _ _ _ _ _ _ _ _ _ _ _ _ _ _ _ _ _ _ _ _ _ _ _ _ _ _ _ _ _ _ _ e => absurd (hU15 a ha (congrArg Prod.fst ((rtf_ne c).symm.trans e))) c⟩
set_option maxHeartbeats 4000000 in
set_option maxRecDepth 100000 in
theorem s_X15_message (l : Launch) (dC : Nat → ClassId) (dI : Nat → Nat → Nat) (cs : Nat → ClassId) (ty : TyM) (gm : Nat → Nat → Nat) (L : List Nat) (sz : Nat) (F : Nat → va_E) (h0 : Nat) (ρ : Nat) (ta : Nat) (ou : Nat) (so : Nat) (ad : Nat) (na : Nat) (va : Nat) (lc : Nat) (dm : Nat) (tg : Nat) (pe : Nat) (ml : Nat) (bg : Nat) (co : Nat) (sp : Nat) (nb0 : Nat) (nb1 : Nat) (nb2 : Nat) (pl : Nat) (se : Nat) (ke : Nat) (wi : Nat) (hs : Nat) (mo : Nat) (po : Nat) (nu : Nat) (pr : Nat) (sq : Nat) (xa : Nat) (sa : Nat) (n64 : Nat) (m64 : Nat) (ex : Nat) (wh : Nat) (sd : Nat) (tk : Nat) (hd : Nat) (ak : Nat) (ho : Nat) (ot : Nat) (sx : Nat) (s0 : Nat) (s1 : Nat) (s2 : Nat) (nf : Nat) (bd : Nat) (mm : Nat) (zt : Nat) (hW : WTm ty gm L) (hL_h0 : h0 ∈ L) (hT_h0 : ty h0 = (15, ρ, [ta, ou, so, ad, na, va, lc, dm, tg, pe, ml, bg, co, sp, nb0, nb1, nb2, pl, se, ke, wi, hs, mo, po, nu, pr, sq, xa, sa, n64, m64, ex, wh, sd, tk, hd, ak, ho, ot, sx, s0, s1, s2, nf, bd, mm, zt])) (hz80 : zt ≤ 1280) (hn01 : nb0 ≠ nb1) (hn02 : nb0 ≠ nb2) (hn12 : nb1 ≠ nb2) (hU26 : ∀ a ∈ L, (ty a).1 = 26 → a = bg ∨ a = co ∨ a = sp) (hU15 : ∀ a ∈ L, (ty a).1 = 15 → a = h0) : Met l yX15_message (.code yX15_message cX15_message 8 (some .int) :: tb) ({ frames := 2, cells := 0, slots := 0, locals := 48 }) (va_Pc [.ref h0] (PTm (dC, dI) cs ty gm L F sz)) (va_Qi (fun (r : Int32) (_ : Unit) => True) (fun _ T9 => ∃ F2 : Nat → va_E, ∃ ty2 : TyM, ∃ gm2 : Nat → Nat → Nat, ∃ n2 b2 m2 : Nat, ty2 = rtf ty h0 (15, ρ, [ta, ou, so, ad, na, va, lc, dm, tg, pe, ml, bg, co, sp, nb0, nb1, nb2, pl, se, ke, wi, hs, mo, po, nu, pr, sq, xa, sa, n64, m64, ex, wh, sd, tk, hd, ak, ho, ot, sx, s0, s1, s2, n2, b2, m2, 0]) ∧ QTm (dC, dI) cs ty2 gm2 L [ρ, ρ + 8, ρ + 9] F F2 (va_A (va_pl L F) sz) T9 ∧ WTm ty2 gm2 L) (va_A (va_pl L F) sz)) 0 0 (va_A (va_pl L F) sz) := by
  refine Met.ofW (cc := cX15_message) (maxL := 8) (ret := (some .int)) (by decide) rfl ?_
  intro p e s m args below meth c s₁ B hml hv
  obtain ⟨rfl, hsz, hP, hK, hD0, hE, hO⟩ := hv
  have hx := B.exec
  have hb := B.bytes
  have hr := B.returns
  have hts : ∀ w ∈ tb, w.before _ s = true := fun w h => atoms_spec (ws := .code yX15_message cX15_message 8 (some .int) :: tb) B.pre w (List.mem_cons_of_mem _ h)
  have hown : s.vm.findClass RX15 = some m.cls := findClass_of_methodNamed B.named
  have hlocks := B.notSynchronized
  subst hsz
  have hD := hD0.self (sz := s.heap.size)
  generalize hAe : va_A (va_pl L F) s.heap.size = A at hD ⊢
  have hA : ∀ q : Nat, s.heap.size ≤ q → A q := fun q h => by rw [← hAe]; exact Or.inr h
  have hS : va_S A s.heap s.heap [] := va_S.rf
  have hR : FR ty [ρ, ρ + 8, ρ + 9] F F := FR.refl
  have hl := lv_entry ([.ref h0]) (n := 8) (Nat.le_of_ble_eq_true rfl)
  rw [lg_entry_eq]
  generalize (lg_sl ([.ref h0]) ++ List.replicate (8 - (lg_sl ([.ref h0])).length) Slot.unset).toArray = ls at hl ⊢
  have hl : lv_has ls 8 [(0, .ref h0)] := hl
  obtain ⟨hi_1, ht_2, hi_3, ht_4, hi_5, ht_6, hi_7, ht_8, hi_9, ht_10, hi_11, ht_12, hi_13, ⟨r_14, ht_15⟩, hi_16, ⟨r_17, ht_18⟩, hi_19, ht_20, hi_21, ⟨r_22, ht_23⟩, hi_24, ht_25, hi_26, ht_27, hi_28, ht_29, hi_30, ht_31, hi_32, ht_33, hi_34, ht_35, hi_36, ht_37, hi_38, ⟨r_39, ht_40⟩, hi_41, ht_42, hi_43, ⟨x_44, y0_45, y1_46, y2_47, ht_48⟩, hi_49, ⟨x_50, y0_51, y1_52, y2_53, ht_54⟩, hi_55, ⟨x_56, y_57, w_58, u_59, bl_60, ht_61⟩, hi_62, ht_63, hi_64, ht_65, hi_66, ht_67, hi_68, ht_69, hi_70, ht_71, hi_72, ht_73, hi_74, ht_75, hi_76, ht_77, hi_78, ht_79, hi_80, ht_81, hi_82, ⟨r_83, ht_84⟩, hi_85, ⟨r_86, ht_87⟩, hi_88, ht_89, hi_90, ht_91, hi_92, ⟨r_93, ht_94⟩, hi_95, ⟨r_96, ht_97⟩, hi_98, ⟨r_99, ht_100⟩, hq_101, hq_102, hq_103, hq_104, hq_105, hgO, hgA, hgB⟩ := hW.mod hL_h0 hT_h0
  refine lv_aload_n hx hb dX15_message_0 rfl (lv_at hl 0 rfl) ?_
  obtain ⟨zo_106, ze_107, v11_108, v12_109, v14_110, v15_111, v17_112, v18_113, v19_114, v20_115, v21_116, v22_117, v33_118, v52_119, v53_120, v54_121, hF_122, hq_123, hq_124, hq_125, hq_126⟩ := hO.mod hL_h0 hT_h0
  have hFc := pg_free hD hS hA
  refine va_calli (va_runV (As := []) (rest := []) ⟨hx, hb, hml, hown, hts⟩ (s_X15_used l dC dI cs ty gm L s.heap.size F h0 ρ ta ou so ad na va lc dm tg pe ml bg co sp nb0 nb1 nb2 pl se ke wi hs mo po nu pr sq xa sa n64 m64 ex wh sd tk hd ak ho ot sx s0 s1 s2 nf bd mm zt zo_106 ze_107 v11_108 v12_109 v14_110 v15_111 v17_112 v18_113 v19_114 v20_115 v21_116 v22_117 v33_118 v52_119 v53_120 v54_121 hW hL_h0 hT_h0 hF_122 (by first | omega | assumption) (by first | omega | assumption) (by first | omega | assumption) (by first | omega | assumption)) ⟨callB_of 0 hts (gi kt_1071) rfl rfl rfl (hts _ kt_669) (hts _ kt_1072) (by decide +kernel) ⟨Nat.le_of_ble_eq_true rfl, Nat.le_of_ble_eq_true rfl⟩, (hts _ kt_1073), (hts _ kt_1074)⟩ ⟨fun a U g mk q => ⟨q.1, PTm.calling q.2⟩, pg_recv hK hP hL_h0 hF_122 (q := (RX15, TX15, 59)) rfl, fun U hU hWm => ⟨rfl, PTm.mk hU hWm hP hK hD hE hO⟩⟩ rfl rfl hl.1 rfl (lv_room (Nat.le_of_ble_eq_true rfl)) dX15_message_1 ⟨by show _ + 0 ≤ 0; omega, by show _ + 0 ≤ 0; omega⟩) hS (fun q _ h => hFc q h) hFc (fun r_127 u t H1 locs ht hvm hw hB hz1 hk1 hS => ?_)
  obtain ⟨F_128, ty9, hty9, hB1, hW9, hq_129⟩ := hB
  subst hty9
  have hR9 := FR.retype (im2 := [ta, ou, so, ad, na, va, lc, dm, tg, pe, ml, bg, co, sp, nb0, nb1, nb2, pl, se, ke, wi, hs, mo, po, nu, pr, sq, xa, sa, n64, m64, ex, wh, sd, tk, hd, ak, ho, ot, sx, s0, s1, s2, nf, bd, mm, 0]) hT_h0 hR
  obtain ⟨hP, hD, hO, hR⟩ := QTm.back hB1 ht hFc hR9 (fun q h => by simp only [List.mem_cons, List.not_mem_nil, or_false] at h ⊢; omega)
  obtain ⟨ty, hty, hT_h0, hW, hO, hR⟩ : ∃ t9 : TyM, t9 = rtf ty h0 (15, ρ, [ta, ou, so, ad, na, va, lc, dm, tg, pe, ml, bg, co, sp, nb0, nb1, nb2, pl, se, ke, wi, hs, mo, po, nu, pr, sq, xa, sa, n64, m64, ex, wh, sd, tk, hd, ak, ho, ot, sx, s0, s1, s2, nf, bd, mm, 0]) ∧ t9 h0 = (15, ρ, [ta, ou, so, ad, na, va, lc, dm, tg, pe, ml, bg, co, sp, nb0, nb1, nb2, pl, se, ke, wi, hs, mo, po, nu, pr, sq, xa, sa, n64, m64, ex, wh, sd, tk, hd, ak, ho, ot, sx, s0, s1, s2, nf, bd, mm, 0]) ∧ WTm t9 gm L ∧ OKm cs t9 gm L F_128 ∧ FR t9 [ρ, ρ + 8, ρ + 9] F F_128 := ⟨_, rfl, rtf_self, hW9, hO, hR⟩
  generalize H1 = H at hP hS ⊢
  have hw : r_127 = nI zt := hw
  subst hw
  obtain ⟨hi_130, ht_131, hi_132, ht_133, hi_134, ht_135, hi_136, ht_137, hi_138, ht_139, hi_140, ht_141, hi_142, ⟨r_143, ht_144⟩, hi_145, ⟨r_146, ht_147⟩, hi_148, ht_149, hi_150, ⟨r_151, ht_152⟩, hi_153, ht_154, hi_155, ht_156, hi_157, ht_158, hi_159, ht_160, hi_161, ht_162, hi_163, ht_164, hi_165, ht_166, hi_167, ⟨r_168, ht_169⟩, hi_170, ht_171, hi_172, ⟨x_173, y0_174, y1_175, y2_176, ht_177⟩, hi_178, ⟨x_179, y0_180, y1_181, y2_182, ht_183⟩, hi_184, ⟨x_185, y_186, w_187, u_188, bl_189, ht_190⟩, hi_191, ht_192, hi_193, ht_194, hi_195, ht_196, hi_197, ht_198, hi_199, ht_200, hi_201, ht_202, hi_203, ht_204, hi_205, ht_206, hi_207, ht_208, hi_209, ht_210, hi_211, ⟨r_212, ht_213⟩, hi_214, ⟨r_215, ht_216⟩, hi_217, ht_218, hi_219, ht_220, hi_221, ⟨r_222, ht_223⟩, hi_224, ⟨r_225, ht_226⟩, hi_227, ⟨r_228, ht_229⟩, hq_230, hq_231, hq_232, hq_233, hq_234, hgO, hgA, hgB⟩ := hW.mod hL_h0 hT_h0
  have hU26 : ∀ a ∈ L, (ty a).1 = 26 → a = bg ∨ a = co ∨ a = sp := by rw [hty]; exact U_re hU26
  have hU15 : ∀ a ∈ L, (ty a).1 = 15 → a = h0 := by rw [hty]; exact U15_re hU15
  refine lv_istore_n (lv' := [(1, .int (nI zt)), (0, .ref h0)]) hx hb dX15_message_4 rfl hl (by decide) rfl (fun ls hl => ?_)
  refine lv_iconst (v := 0) hx hb dX15_message_5 (by decide) ?_
  refine lv_istore_n (lv' := [(2, .int 0), (1, .int (nI zt)), (0, .ref h0)]) hx hb dX15_message_6 rfl hl (by decide) rfl (fun ls hl => ?_)
  refine lv_iconst (v := 0) hx hb dX15_message_7 (by decide) ?_
  refine lv_istore_n (lv' := [(3, .int 0), (2, .int 0), (1, .int (nI zt)), (0, .ref h0)]) hx hb dX15_message_8 rfl hl (by decide) rfl (fun ls hl => ?_)
  refine lv_iload_n hx hb dX15_message_9 rfl (lv_at hl 2 rfl) ?_
  refine lv_istore (lv' := [(4, .int (nI zt)), (3, .int 0), (2, .int 0), (1, .int (nI zt)), (0, .ref h0)]) hx hb dX15_message_10 hl (by decide) rfl (fun ls hl => ?_)
  refine lv_iconst (v := 1) hx hb dX15_message_12 (by decide) ?_
  refine lv_istore (lv' := [(5, .int 1), (4, .int (nI zt)), (3, .int 0), (2, .int 0), (1, .int (nI zt)), (0, .ref h0)]) hx hb dX15_message_13 hl (by decide) rfl (fun ls hl => ?_)
  obtain ⟨f_235, hF_236, hq_237⟩ := hO.idb hi_161 ht_162
  obtain ⟨f_238, hF_239, hq_240⟩ := hO.idb hi_163 ht_164
  obtain ⟨f_241, hF_242, hq_243⟩ := hO.idb hi_165 ht_166
  refine W.widen (k := 0) (n := 0) (by omega) (by omega) ?_
  refine pl_loopm (σ := Nat × Nat × Nat × Int32 × (Nat → Int32) × (Nat → Int32) × (Nat → Int32)) A (dC, dI) cs ty gm L [ρ, ρ + 8, ρ + 9] F 15 8 (fun (kn, ka, kw, o5, e0, e1, e2) => [(5, .int o5), (4, .int (nI kw)), (3, .int (nI ka)), (2, .int (nI kn)), (1, .int (nI zt)), (0, .ref h0)]) (fun (kn, ka, kw, o5, e0, e1, e2) => []) (fun (kn, ka, kw, o5, e0, e1, e2) FF => kn ≤ 20 ∧ ka ≤ zt ∧ kw ≤ zt ∧ (zt = 0 ∨ 1 ≤ kw) ∧ FLD e0 e1 e2 kn ka ∧ FF nb0 = .inl (cs 16, 21, .inl e0) ∧ FF nb1 = .inl (cs 16, 21, .inl e1) ∧ FF nb2 = .inl (cs 16, 21, .inl e2)) (fun (kn, ka, kw, o5, e0, e1, e2) => zt - ka) ?_ (0, 0, zt, 1, f_235, f_238, f_241) F_128 (⟨by omega, by omega, by omega, by omega, FLD.nil, hF_236, hF_239, hF_242⟩) hO hR _ _ hP hD hS ls (lv_sub hl [0, 1, 2, 3, 4, 5] rfl)
  rintro ⟨kn, ka, kw, o5, e0, e1, e2⟩ F_244 hv_245 hO hR ih_246 H locs hP hD hS ls hl
  have hl : lv_has ls 8 [(5, .int o5), (4, .int (nI kw)), (3, .int (nI ka)), (2, .int (nI kn)), (1, .int (nI zt)), (0, .ref h0)] := hl
  have hv_245 : kn ≤ 20 ∧ ka ≤ zt ∧ kw ≤ zt ∧ (zt = 0 ∨ 1 ≤ kw) ∧ FLD e0 e1 e2 kn ka ∧ F_244 nb0 = .inl (cs 16, 21, .inl e0) ∧ F_244 nb1 = .inl (cs 16, 21, .inl e1) ∧ F_244 nb2 = .inl (cs 16, 21, .inl e2) := hv_245
  refine W.eq (g2 := F0 m 15 ls []) rfl ?_
  obtain ⟨hva, hvb, hvc, hvd, hFL, hN0, hN1, hN2⟩ := hv_245
  have hIx0 := ixb_of hN0 (hO.idb hi_161 ht_162)
  have hIx1 := ixb_of hN1 (hO.idb hi_163 ht_164)
  have hIx2 := ixb_of hN2 (hO.idb hi_165 ht_166)
  refine lv_iload hx hb dX15_message_15 (lv_at hl 0 rfl) ?_
  refine W.widen (k := 0) (n := 0) (by omega) (by omega) ?_
  refine pl_cutm (σ := Unit) A (dC, dI) cs ty gm L [ρ, ρ + 8, ρ + 9] F 217 8 (fun u0 => [(4, .int (nI kw)), (3, .int (nI ka)), (2, .int (nI kn)), (1, .int (nI zt)), (0, .ref h0)]) (fun u0 => []) (fun u0 FF => FF = F_244) ?_ (fun jn_247 => ?_)
  ·
    rintro u0 F_248 hv_249 hO hR H locs hP hD hS ls hl
    have hl : lv_has ls 8 [(4, .int (nI kw)), (3, .int (nI ka)), (2, .int (nI kn)), (1, .int (nI zt)), (0, .ref h0)] := hl
    have hv_249 : F_248 = F_244 := hv_249
    refine W.eq (g2 := F0 m 217 ls []) rfl ?_
    obtain rfl : F_244 = F_248 := hv_249.symm
    refine lv_iload_n hx hb dX15_message_217 rfl (lv_at hl 2 rfl) ?_
    refine lv_if_ne (tgt := 223) hx hb dX15_message_218 (by decide) (fun c_250 => ?_) (fun c_250 => ?_)
    ·
      have hi_251 : kn ≠ 0 := fun q => c_250 (by rw [q]; rfl)
      obtain ⟨zo_252, ze_253, v11_254, v12_255, v14_256, v15_257, v17_258, v18_259, v19_260, v20_261, v21_262, v22_263, v33_264, v52_265, v53_266, v54_267, hF_268, hq_269, hq_270, hq_271, hq_272⟩ := hO.mod hL_h0 hT_h0
      obtain ⟨f_273, hF_274, hq_275⟩ := hO.pos hi_155 ht_156
      obtain ⟨f_276, hF_277, hq_278⟩ := hO.pos hi_157 ht_158
      obtain ⟨f_279, hF_280, hq_281⟩ := hO.pos hi_159 ht_160
      obtain ⟨hq_282, hq_283⟩ := hW.octs hi_130 ht_131
      obtain ⟨f_284, hF_285, hq_286⟩ := hO.octs hi_130 ht_131
      obtain ⟨hq_287, hq_288⟩ := hW.octs hi_153 ht_154
      obtain ⟨f_289, hF_290, hq_291⟩ := hO.octs hi_153 ht_154
      refine lv_aload_n hx hb dX15_message_223 rfl (lv_at hl 4 rfl) ?_
      refine lv_iload_n hx hb dX15_message_224 rfl (lv_at hl 2 rfl) ?_
      refine pg_put (ci := 15) (v := .int (nI kn)) (ty := .int) (C := RX15) (T := TX15) (N := 59) hx hb hts it_15 tyX15 tyX15_ok nmX15 hown hK hP hD hS hL_h0 hF_268 rfl 30 (by decide) (hts _ kt_907) (fun _ h9 => h9) rfl (by decide +kernel) (rfl) (rfl) (Nat.le_of_ble_eq_true rfl) dX15_message_225 (fun H locs hP hD hS => ?_)
      obtain ⟨F_292, he_293, hP, hD, hR⟩ : ∃ G, G = va_up F_244 h0 (.inr (15, (.ref ta) :: (.int (nI 0)) :: (.int (nI zo_252)) :: (.int (nI ze_253)) :: (.ref ou) :: (.ref so) :: (.ref ad) :: (.ref na) :: (.ref va) :: (.ref lc) :: (.ref dm) :: (.int v11_254) :: (.int v12_255) :: (.ref tg) :: (.int v14_256) :: (.int v15_257) :: (.ref pe) :: (.int v17_258) :: (.int v18_259) :: (.int v19_260) :: (.int v20_261) :: (.int v21_262) :: (.int v22_263) :: (.ref ml) :: (.ref bg) :: (.ref co) :: (.ref sp) :: (.ref nb0) :: (.ref nb1) :: (.ref nb2) :: (.int (nI kn)) :: (.int (nI bd)) :: (.int (nI mm)) :: (.int v33_264) :: (.ref pl) :: (.ref se) :: (.ref ke) :: (.ref wi) :: (.ref hs) :: (.ref mo) :: (.ref po) :: (.ref nu) :: (.ref pr) :: (.ref sq) :: (.ref xa) :: (.ref sa) :: (.ref n64) :: (.ref m64) :: (.ref ex) :: (.ref wh) :: (.ref sd) :: (.ref tk) :: (.int v52_265) :: (.int v53_266) :: (.int v54_267) :: (.ref hd) :: (.ref ak) :: (.ref ho) :: (.ref ot) :: [])) ∧ va_P (dC, dI) vwCl (va_pl L G) H ∧ va_D A (va_pl L G) ∧ FR ty [ρ, ρ + 8, ρ + 9] F G := ⟨_, rfl, hP, hD, hR.up hT_h0 (by simp)⟩
      have hF_294 : F_292 h0 = .inr (15, (.ref ta) :: (.int (nI 0)) :: (.int (nI zo_252)) :: (.int (nI ze_253)) :: (.ref ou) :: (.ref so) :: (.ref ad) :: (.ref na) :: (.ref va) :: (.ref lc) :: (.ref dm) :: (.int v11_254) :: (.int v12_255) :: (.ref tg) :: (.int v14_256) :: (.int v15_257) :: (.ref pe) :: (.int v17_258) :: (.int v18_259) :: (.int v19_260) :: (.int v20_261) :: (.int v21_262) :: (.int v22_263) :: (.ref ml) :: (.ref bg) :: (.ref co) :: (.ref sp) :: (.ref nb0) :: (.ref nb1) :: (.ref nb2) :: (.int (nI kn)) :: (.int (nI bd)) :: (.int (nI mm)) :: (.int v33_264) :: (.ref pl) :: (.ref se) :: (.ref ke) :: (.ref wi) :: (.ref hs) :: (.ref mo) :: (.ref po) :: (.ref nu) :: (.ref pr) :: (.ref sq) :: (.ref xa) :: (.ref sa) :: (.ref n64) :: (.ref m64) :: (.ref ex) :: (.ref wh) :: (.ref sd) :: (.ref tk) :: (.int v52_265) :: (.int v53_266) :: (.int v54_267) :: (.ref hd) :: (.ref ak) :: (.ref ho) :: (.ref ot) :: []) := by rw [he_293]; exact up_self
      have hF_295 : F_292 nb0 = .inl (cs 16, 21, .inl e0) := by rw [he_293, up_ne (ne_ty ht_162 hT_h0 (by simp))]; exact hN0
      have hF_296 : F_292 nb1 = .inl (cs 16, 21, .inl e1) := by rw [he_293, up_ne (ne_ty ht_164 hT_h0 (by simp))]; exact hN1
      have hF_297 : F_292 nb2 = .inl (cs 16, 21, .inl e2) := by rw [he_293, up_ne (ne_ty ht_166 hT_h0 (by simp))]; exact hN2
      have hF_298 : F_292 bg = .inl (cs 16, 21, .inl f_273) := by rw [he_293, up_ne (ne_ty ht_156 hT_h0 (by simp))]; exact hF_274
      have hF_299 : F_292 co = .inl (cs 16, 21, .inl f_276) := by rw [he_293, up_ne (ne_ty ht_158 hT_h0 (by simp))]; exact hF_277
      have hF_300 : F_292 sp = .inl (cs 16, 21, .inl f_279) := by rw [he_293, up_ne (ne_ty ht_160 hT_h0 (by simp))]; exact hF_280
      have hF_301 : F_292 ta = .inl (cs 17, 3000, .inl f_284) := by rw [he_293, up_ne (ne_ty ht_131 hT_h0 (by simp))]; exact hF_285
      have hF_302 : F_292 ml = .inl (cs 17, 3000, .inl f_289) := by rw [he_293, up_ne (ne_ty ht_154 hT_h0 (by simp))]; exact hF_290
      refine lv_aload_n hx hb dX15_message_228 rfl (lv_at hl 4 rfl) ?_
      refine pg_get (ci := 15) (v := .ref nb0) (C := RX15) (T := TX15) (N := 59) hx hb hts it_15 hown hK hP hL_h0 hF_294 rfl 27 (by decide) (hts _ kt_1079) (fun _ h9 => h9) rfl dX15_message_229 ?_
      refine lv_iconst (v := 0) hx hb dX15_message_232 (by decide) ?_
      refine lv_aload_n hx hb dX15_message_233 rfl (lv_at hl 4 rfl) ?_
      refine pg_get (ci := 15) (v := .ref bg) (C := RX15) (T := TX15) (N := 59) hx hb hts it_15 hown hK hP hL_h0 hF_294 rfl 24 (by decide) (hts _ kt_903) (fun _ h9 => h9) rfl dX15_message_234 ?_
      refine lv_iconst (v := 0) hx hb dX15_message_237 (by decide) ?_
      refine lv_iload_n hx hb dX15_message_238 rfl (lv_at hl 2 rfl) ?_
      refine pg_copyi hx hb (by rw [hml]; exact hl.1.symm) hown (hts _ kt_923) (hts _ kt_29) (hts _ kt_30) (hts _ kt_31) hK hP hD hS hi_161 hi_155 0 0 hF_295 hF_298 rfl rfl rfl (by decide) (by decide) (nI_pos (by omega)) (by rw [nI_clamp (by omega)]; show 0 + _ ≤ _; omega) (by rw [nI_clamp (by omega)]; show 0 + _ ≤ _; omega) (fun _ _ => rfl) (Nat.le_of_ble_eq_true rfl) (by decide) dX15_message_239 (fun H locs hP hD hS => ?_)
      obtain ⟨F_303, he_304, hP, hD, hR⟩ : ∃ G, G = va_up F_292 bg (.inl (cs 16, 21, .inl (va_cpy e0 f_273 (0 : Int32).toNatClampNeg (0 : Int32).toNatClampNeg ((nI kn)).toNatClampNeg))) ∧ va_P (dC, dI) vwCl (va_pl L G) H ∧ va_D A (va_pl L G) ∧ FR ty [ρ, ρ + 8, ρ + 9] F G := ⟨_, rfl, hP, hD, hR.up ht_156 (by simp)⟩
      have hF_305 : F_303 bg = .inl (cs 16, 21, .inl (va_cpy e0 f_273 (0 : Int32).toNatClampNeg (0 : Int32).toNatClampNeg ((nI kn)).toNatClampNeg)) := by rw [he_304]; exact up_self
      have hF_306 : F_303 h0 = .inr (15, (.ref ta) :: (.int (nI 0)) :: (.int (nI zo_252)) :: (.int (nI ze_253)) :: (.ref ou) :: (.ref so) :: (.ref ad) :: (.ref na) :: (.ref va) :: (.ref lc) :: (.ref dm) :: (.int v11_254) :: (.int v12_255) :: (.ref tg) :: (.int v14_256) :: (.int v15_257) :: (.ref pe) :: (.int v17_258) :: (.int v18_259) :: (.int v19_260) :: (.int v20_261) :: (.int v21_262) :: (.int v22_263) :: (.ref ml) :: (.ref bg) :: (.ref co) :: (.ref sp) :: (.ref nb0) :: (.ref nb1) :: (.ref nb2) :: (.int (nI kn)) :: (.int (nI bd)) :: (.int (nI mm)) :: (.int v33_264) :: (.ref pl) :: (.ref se) :: (.ref ke) :: (.ref wi) :: (.ref hs) :: (.ref mo) :: (.ref po) :: (.ref nu) :: (.ref pr) :: (.ref sq) :: (.ref xa) :: (.ref sa) :: (.ref n64) :: (.ref m64) :: (.ref ex) :: (.ref wh) :: (.ref sd) :: (.ref tk) :: (.int v52_265) :: (.int v53_266) :: (.int v54_267) :: (.ref hd) :: (.ref ak) :: (.ref ho) :: (.ref ot) :: []) := by rw [he_304, up_ne (ne_ty hT_h0 ht_156 (by simp))]; exact hF_294
      have hF_307 : F_303 nb0 = .inl (cs 16, 21, .inl e0) := by rw [he_304, up_ne (ne_ty ht_162 ht_156 (by simp))]; exact hF_295
      have hF_308 : F_303 nb1 = .inl (cs 16, 21, .inl e1) := by rw [he_304, up_ne (ne_ty ht_164 ht_156 (by simp))]; exact hF_296
      have hF_309 : F_303 nb2 = .inl (cs 16, 21, .inl e2) := by rw [he_304, up_ne (ne_ty ht_166 ht_156 (by simp))]; exact hF_297
      have hF_310 : F_303 co = .inl (cs 16, 21, .inl f_276) := by rw [he_304, up_ne (ne_ty2 ht_158 ht_156 (by simp))]; exact hF_299
      have hF_311 : F_303 sp = .inl (cs 16, 21, .inl f_279) := by rw [he_304, up_ne (ne_ty2 ht_160 ht_156 (by simp))]; exact hF_300
      have hF_312 : F_303 ta = .inl (cs 17, 3000, .inl f_284) := by rw [he_304, up_ne (ne_ty ht_131 ht_156 (by simp))]; exact hF_301
      have hF_313 : F_303 ml = .inl (cs 17, 3000, .inl f_289) := by rw [he_304, up_ne (ne_ty ht_154 ht_156 (by simp))]; exact hF_302
      refine lv_aload_n hx hb dX15_message_242 rfl (lv_at hl 4 rfl) ?_
      refine pg_get (ci := 15) (v := .ref nb1) (C := RX15) (T := TX15) (N := 59) hx hb hts it_15 hown hK hP hL_h0 hF_306 rfl 28 (by decide) (hts _ kt_1080) (fun _ h9 => h9) rfl dX15_message_243 ?_
      refine lv_iconst (v := 0) hx hb dX15_message_246 (by decide) ?_
      refine lv_aload_n hx hb dX15_message_247 rfl (lv_at hl 4 rfl) ?_
      refine pg_get (ci := 15) (v := .ref co) (C := RX15) (T := TX15) (N := 59) hx hb hts it_15 hown hK hP hL_h0 hF_306 rfl 25 (by decide) (hts _ kt_904) (fun _ h9 => h9) rfl dX15_message_248 ?_
      refine lv_iconst (v := 0) hx hb dX15_message_251 (by decide) ?_
      refine lv_iload_n hx hb dX15_message_252 rfl (lv_at hl 2 rfl) ?_
      refine pg_copyi hx hb (by rw [hml]; exact hl.1.symm) hown (hts _ kt_923) (hts _ kt_29) (hts _ kt_30) (hts _ kt_31) hK hP hD hS hi_163 hi_157 0 0 hF_308 hF_310 rfl rfl rfl (by decide) (by decide) (nI_pos (by omega)) (by rw [nI_clamp (by omega)]; show 0 + _ ≤ _; omega) (by rw [nI_clamp (by omega)]; show 0 + _ ≤ _; omega) (fun _ _ => rfl) (Nat.le_of_ble_eq_true rfl) (by decide) dX15_message_253 (fun H locs hP hD hS => ?_)
      obtain ⟨F_314, he_315, hP, hD, hR⟩ : ∃ G, G = va_up F_303 co (.inl (cs 16, 21, .inl (va_cpy e1 f_276 (0 : Int32).toNatClampNeg (0 : Int32).toNatClampNeg ((nI kn)).toNatClampNeg))) ∧ va_P (dC, dI) vwCl (va_pl L G) H ∧ va_D A (va_pl L G) ∧ FR ty [ρ, ρ + 8, ρ + 9] F G := ⟨_, rfl, hP, hD, hR.up ht_158 (by simp)⟩
      have hF_316 : F_314 co = .inl (cs 16, 21, .inl (va_cpy e1 f_276 (0 : Int32).toNatClampNeg (0 : Int32).toNatClampNeg ((nI kn)).toNatClampNeg)) := by rw [he_315]; exact up_self
      have hF_317 : F_314 bg = .inl (cs 16, 21, .inl (va_cpy e0 f_273 (0 : Int32).toNatClampNeg (0 : Int32).toNatClampNeg ((nI kn)).toNatClampNeg)) := by rw [he_315, up_ne (ne_ty2 ht_156 ht_158 (by simp))]; exact hF_305
      have hF_318 : F_314 h0 = .inr (15, (.ref ta) :: (.int (nI 0)) :: (.int (nI zo_252)) :: (.int (nI ze_253)) :: (.ref ou) :: (.ref so) :: (.ref ad) :: (.ref na) :: (.ref va) :: (.ref lc) :: (.ref dm) :: (.int v11_254) :: (.int v12_255) :: (.ref tg) :: (.int v14_256) :: (.int v15_257) :: (.ref pe) :: (.int v17_258) :: (.int v18_259) :: (.int v19_260) :: (.int v20_261) :: (.int v21_262) :: (.int v22_263) :: (.ref ml) :: (.ref bg) :: (.ref co) :: (.ref sp) :: (.ref nb0) :: (.ref nb1) :: (.ref nb2) :: (.int (nI kn)) :: (.int (nI bd)) :: (.int (nI mm)) :: (.int v33_264) :: (.ref pl) :: (.ref se) :: (.ref ke) :: (.ref wi) :: (.ref hs) :: (.ref mo) :: (.ref po) :: (.ref nu) :: (.ref pr) :: (.ref sq) :: (.ref xa) :: (.ref sa) :: (.ref n64) :: (.ref m64) :: (.ref ex) :: (.ref wh) :: (.ref sd) :: (.ref tk) :: (.int v52_265) :: (.int v53_266) :: (.int v54_267) :: (.ref hd) :: (.ref ak) :: (.ref ho) :: (.ref ot) :: []) := by rw [he_315, up_ne (ne_ty hT_h0 ht_158 (by simp))]; exact hF_306
      have hF_319 : F_314 nb0 = .inl (cs 16, 21, .inl e0) := by rw [he_315, up_ne (ne_ty ht_162 ht_158 (by simp))]; exact hF_307
      have hF_320 : F_314 nb1 = .inl (cs 16, 21, .inl e1) := by rw [he_315, up_ne (ne_ty ht_164 ht_158 (by simp))]; exact hF_308
      have hF_321 : F_314 nb2 = .inl (cs 16, 21, .inl e2) := by rw [he_315, up_ne (ne_ty ht_166 ht_158 (by simp))]; exact hF_309
      have hF_322 : F_314 sp = .inl (cs 16, 21, .inl f_279) := by rw [he_315, up_ne (ne_ty2 ht_160 ht_158 (by simp))]; exact hF_311
      have hF_323 : F_314 ta = .inl (cs 17, 3000, .inl f_284) := by rw [he_315, up_ne (ne_ty ht_131 ht_158 (by simp))]; exact hF_312
      have hF_324 : F_314 ml = .inl (cs 17, 3000, .inl f_289) := by rw [he_315, up_ne (ne_ty ht_154 ht_158 (by simp))]; exact hF_313
      refine lv_aload_n hx hb dX15_message_256 rfl (lv_at hl 4 rfl) ?_
      refine pg_get (ci := 15) (v := .ref nb2) (C := RX15) (T := TX15) (N := 59) hx hb hts it_15 hown hK hP hL_h0 hF_318 rfl 29 (by decide) (hts _ kt_1081) (fun _ h9 => h9) rfl dX15_message_257 ?_
      refine lv_iconst (v := 0) hx hb dX15_message_260 (by decide) ?_
      refine lv_aload_n hx hb dX15_message_261 rfl (lv_at hl 4 rfl) ?_
      refine pg_get (ci := 15) (v := .ref sp) (C := RX15) (T := TX15) (N := 59) hx hb hts it_15 hown hK hP hL_h0 hF_318 rfl 26 (by decide) (hts _ kt_905) (fun _ h9 => h9) rfl dX15_message_262 ?_
      refine lv_iconst (v := 0) hx hb dX15_message_265 (by decide) ?_
      refine lv_iload_n hx hb dX15_message_266 rfl (lv_at hl 2 rfl) ?_
      refine pg_copyi hx hb (by rw [hml]; exact hl.1.symm) hown (hts _ kt_923) (hts _ kt_29) (hts _ kt_30) (hts _ kt_31) hK hP hD hS hi_165 hi_159 0 0 hF_321 hF_322 rfl rfl rfl (by decide) (by decide) (nI_pos (by omega)) (by rw [nI_clamp (by omega)]; show 0 + _ ≤ _; omega) (by rw [nI_clamp (by omega)]; show 0 + _ ≤ _; omega) (fun _ _ => rfl) (Nat.le_of_ble_eq_true rfl) (by decide) dX15_message_267 (fun H locs hP hD hS => ?_)
      obtain ⟨F_325, he_326, hP, hD, hR⟩ : ∃ G, G = va_up F_314 sp (.inl (cs 16, 21, .inl (va_cpy e2 f_279 (0 : Int32).toNatClampNeg (0 : Int32).toNatClampNeg ((nI kn)).toNatClampNeg))) ∧ va_P (dC, dI) vwCl (va_pl L G) H ∧ va_D A (va_pl L G) ∧ FR ty [ρ, ρ + 8, ρ + 9] F G := ⟨_, rfl, hP, hD, hR.up ht_160 (by simp)⟩
      have hF_327 : F_325 sp = .inl (cs 16, 21, .inl (va_cpy e2 f_279 (0 : Int32).toNatClampNeg (0 : Int32).toNatClampNeg ((nI kn)).toNatClampNeg)) := by rw [he_326]; exact up_self
      have hF_328 : F_325 co = .inl (cs 16, 21, .inl (va_cpy e1 f_276 (0 : Int32).toNatClampNeg (0 : Int32).toNatClampNeg ((nI kn)).toNatClampNeg)) := by rw [he_326, up_ne (ne_ty2 ht_158 ht_160 (by simp))]; exact hF_316
      have hF_329 : F_325 bg = .inl (cs 16, 21, .inl (va_cpy e0 f_273 (0 : Int32).toNatClampNeg (0 : Int32).toNatClampNeg ((nI kn)).toNatClampNeg)) := by rw [he_326, up_ne (ne_ty2 ht_156 ht_160 (by simp))]; exact hF_317
      have hF_330 : F_325 h0 = .inr (15, (.ref ta) :: (.int (nI 0)) :: (.int (nI zo_252)) :: (.int (nI ze_253)) :: (.ref ou) :: (.ref so) :: (.ref ad) :: (.ref na) :: (.ref va) :: (.ref lc) :: (.ref dm) :: (.int v11_254) :: (.int v12_255) :: (.ref tg) :: (.int v14_256) :: (.int v15_257) :: (.ref pe) :: (.int v17_258) :: (.int v18_259) :: (.int v19_260) :: (.int v20_261) :: (.int v21_262) :: (.int v22_263) :: (.ref ml) :: (.ref bg) :: (.ref co) :: (.ref sp) :: (.ref nb0) :: (.ref nb1) :: (.ref nb2) :: (.int (nI kn)) :: (.int (nI bd)) :: (.int (nI mm)) :: (.int v33_264) :: (.ref pl) :: (.ref se) :: (.ref ke) :: (.ref wi) :: (.ref hs) :: (.ref mo) :: (.ref po) :: (.ref nu) :: (.ref pr) :: (.ref sq) :: (.ref xa) :: (.ref sa) :: (.ref n64) :: (.ref m64) :: (.ref ex) :: (.ref wh) :: (.ref sd) :: (.ref tk) :: (.int v52_265) :: (.int v53_266) :: (.int v54_267) :: (.ref hd) :: (.ref ak) :: (.ref ho) :: (.ref ot) :: []) := by rw [he_326, up_ne (ne_ty hT_h0 ht_160 (by simp))]; exact hF_318
      have hF_331 : F_325 nb0 = .inl (cs 16, 21, .inl e0) := by rw [he_326, up_ne (ne_ty ht_162 ht_160 (by simp))]; exact hF_319
      have hF_332 : F_325 nb1 = .inl (cs 16, 21, .inl e1) := by rw [he_326, up_ne (ne_ty ht_164 ht_160 (by simp))]; exact hF_320
      have hF_333 : F_325 nb2 = .inl (cs 16, 21, .inl e2) := by rw [he_326, up_ne (ne_ty ht_166 ht_160 (by simp))]; exact hF_321
      have hF_334 : F_325 ta = .inl (cs 17, 3000, .inl f_284) := by rw [he_326, up_ne (ne_ty ht_131 ht_160 (by simp))]; exact hF_323
      have hF_335 : F_325 ml = .inl (cs 17, 3000, .inl f_289) := by rw [he_326, up_ne (ne_ty ht_154 ht_160 (by simp))]; exact hF_324
      refine lv_aload_n hx hb dX15_message_270 rfl (lv_at hl 4 rfl) ?_
      refine pg_get (ci := 15) (v := .ref ta) (C := RX15) (T := TX15) (N := 59) hx hb hts it_15 hown hK hP hL_h0 hF_330 rfl 0 (by decide) (hts _ kt_1075) (fun _ h9 => h9) rfl dX15_message_271 ?_
      refine lv_iconst (v := 0) hx hb dX15_message_274 (by decide) ?_
      refine lv_aload_n hx hb dX15_message_275 rfl (lv_at hl 4 rfl) ?_
      refine pg_get (ci := 15) (v := .ref ml) (C := RX15) (T := TX15) (N := 59) hx hb hts it_15 hown hK hP hL_h0 hF_330 rfl 23 (by decide) (hts _ kt_902) (fun _ h9 => h9) rfl dX15_message_276 ?_
      refine lv_iconst (v := 0) hx hb dX15_message_279 (by decide) ?_
      refine lv_iload_n hx hb dX15_message_280 rfl (lv_at hl 3 rfl) ?_
      refine pg_copyi hx hb (by rw [hml]; exact hl.1.symm) hown (hts _ kt_923) (hts _ kt_29) (hts _ kt_30) (hts _ kt_31) hK hP hD hS hi_130 hi_153 1 1 hF_334 hF_335 rfl rfl rfl (by decide) (by decide) (nI_pos (by omega)) (by rw [nI_clamp (by omega)]; show 0 + _ ≤ _; omega) (by rw [nI_clamp (by omega)]; show 0 + _ ≤ _; omega) (fun _ _ => hq_286 _) (Nat.le_of_ble_eq_true rfl) (by decide) dX15_message_281 (fun H locs hP hD hS => ?_)
      obtain ⟨F_336, he_337, hP, hD, hR⟩ : ∃ G, G = va_up F_325 ml (.inl (cs 17, 3000, .inl (va_cpy f_284 f_289 (0 : Int32).toNatClampNeg (0 : Int32).toNatClampNeg ((nI zt)).toNatClampNeg))) ∧ va_P (dC, dI) vwCl (va_pl L G) H ∧ va_D A (va_pl L G) ∧ FR ty [ρ, ρ + 8, ρ + 9] F G := ⟨_, rfl, hP, hD, hR.up ht_154 (by simp)⟩
      have hF_338 : F_336 ml = .inl (cs 17, 3000, .inl (va_cpy f_284 f_289 (0 : Int32).toNatClampNeg (0 : Int32).toNatClampNeg ((nI zt)).toNatClampNeg)) := by rw [he_337]; exact up_self
      have hF_339 : F_336 sp = .inl (cs 16, 21, .inl (va_cpy e2 f_279 (0 : Int32).toNatClampNeg (0 : Int32).toNatClampNeg ((nI kn)).toNatClampNeg)) := by rw [he_337, up_ne (ne_ty ht_160 ht_154 (by simp))]; exact hF_327
      have hF_340 : F_336 co = .inl (cs 16, 21, .inl (va_cpy e1 f_276 (0 : Int32).toNatClampNeg (0 : Int32).toNatClampNeg ((nI kn)).toNatClampNeg)) := by rw [he_337, up_ne (ne_ty ht_158 ht_154 (by simp))]; exact hF_328
      have hF_341 : F_336 bg = .inl (cs 16, 21, .inl (va_cpy e0 f_273 (0 : Int32).toNatClampNeg (0 : Int32).toNatClampNeg ((nI kn)).toNatClampNeg)) := by rw [he_337, up_ne (ne_ty ht_156 ht_154 (by simp))]; exact hF_329
      have hF_342 : F_336 h0 = .inr (15, (.ref ta) :: (.int (nI 0)) :: (.int (nI zo_252)) :: (.int (nI ze_253)) :: (.ref ou) :: (.ref so) :: (.ref ad) :: (.ref na) :: (.ref va) :: (.ref lc) :: (.ref dm) :: (.int v11_254) :: (.int v12_255) :: (.ref tg) :: (.int v14_256) :: (.int v15_257) :: (.ref pe) :: (.int v17_258) :: (.int v18_259) :: (.int v19_260) :: (.int v20_261) :: (.int v21_262) :: (.int v22_263) :: (.ref ml) :: (.ref bg) :: (.ref co) :: (.ref sp) :: (.ref nb0) :: (.ref nb1) :: (.ref nb2) :: (.int (nI kn)) :: (.int (nI bd)) :: (.int (nI mm)) :: (.int v33_264) :: (.ref pl) :: (.ref se) :: (.ref ke) :: (.ref wi) :: (.ref hs) :: (.ref mo) :: (.ref po) :: (.ref nu) :: (.ref pr) :: (.ref sq) :: (.ref xa) :: (.ref sa) :: (.ref n64) :: (.ref m64) :: (.ref ex) :: (.ref wh) :: (.ref sd) :: (.ref tk) :: (.int v52_265) :: (.int v53_266) :: (.int v54_267) :: (.ref hd) :: (.ref ak) :: (.ref ho) :: (.ref ot) :: []) := by rw [he_337, up_ne (ne_ty hT_h0 ht_154 (by simp))]; exact hF_330
      have hF_343 : F_336 nb0 = .inl (cs 16, 21, .inl e0) := by rw [he_337, up_ne (ne_ty ht_162 ht_154 (by simp))]; exact hF_331
      have hF_344 : F_336 nb1 = .inl (cs 16, 21, .inl e1) := by rw [he_337, up_ne (ne_ty ht_164 ht_154 (by simp))]; exact hF_332
      have hF_345 : F_336 nb2 = .inl (cs 16, 21, .inl e2) := by rw [he_337, up_ne (ne_ty ht_166 ht_154 (by simp))]; exact hF_333
      have hF_346 : F_336 ta = .inl (cs 17, 3000, .inl f_284) := by rw [he_337, up_ne (ne_ty2 ht_131 ht_154 (by simp))]; exact hF_334
      obtain ⟨f_347, hF_338, hq_348⟩ : ∃ f : Nat → Int32, F_336 ml = .inl (cs 17, 3000, .inl f) ∧ BFm f := ⟨_, hF_338, bfm_cpy hq_286 hq_291 _ _ _⟩
      refine lv_aload_n hx hb dX15_message_284 rfl (lv_at hl 4 rfl) ?_
      refine lv_iload hx hb dX15_message_285 (lv_at hl 0 rfl) ?_
      refine pg_put (ci := 15) (v := .int (nI kw)) (ty := .int) (C := RX15) (T := TX15) (N := 59) hx hb hts it_15 tyX15 tyX15_ok nmX15 hown hK hP hD hS hL_h0 hF_342 rfl 31 (by decide) (hts _ kt_917) (fun _ h9 => h9) rfl (by decide +kernel) (rfl) (rfl) (Nat.le_of_ble_eq_true rfl) dX15_message_287 (fun H locs hP hD hS => ?_)
      obtain ⟨F_349, he_350, hP, hD, hR⟩ : ∃ G, G = va_up F_336 h0 (.inr (15, (.ref ta) :: (.int (nI 0)) :: (.int (nI zo_252)) :: (.int (nI ze_253)) :: (.ref ou) :: (.ref so) :: (.ref ad) :: (.ref na) :: (.ref va) :: (.ref lc) :: (.ref dm) :: (.int v11_254) :: (.int v12_255) :: (.ref tg) :: (.int v14_256) :: (.int v15_257) :: (.ref pe) :: (.int v17_258) :: (.int v18_259) :: (.int v19_260) :: (.int v20_261) :: (.int v21_262) :: (.int v22_263) :: (.ref ml) :: (.ref bg) :: (.ref co) :: (.ref sp) :: (.ref nb0) :: (.ref nb1) :: (.ref nb2) :: (.int (nI kn)) :: (.int (nI kw)) :: (.int (nI mm)) :: (.int v33_264) :: (.ref pl) :: (.ref se) :: (.ref ke) :: (.ref wi) :: (.ref hs) :: (.ref mo) :: (.ref po) :: (.ref nu) :: (.ref pr) :: (.ref sq) :: (.ref xa) :: (.ref sa) :: (.ref n64) :: (.ref m64) :: (.ref ex) :: (.ref wh) :: (.ref sd) :: (.ref tk) :: (.int v52_265) :: (.int v53_266) :: (.int v54_267) :: (.ref hd) :: (.ref ak) :: (.ref ho) :: (.ref ot) :: [])) ∧ va_P (dC, dI) vwCl (va_pl L G) H ∧ va_D A (va_pl L G) ∧ FR ty [ρ, ρ + 8, ρ + 9] F G := ⟨_, rfl, hP, hD, hR.up hT_h0 (by simp)⟩
      have hF_351 : F_349 h0 = .inr (15, (.ref ta) :: (.int (nI 0)) :: (.int (nI zo_252)) :: (.int (nI ze_253)) :: (.ref ou) :: (.ref so) :: (.ref ad) :: (.ref na) :: (.ref va) :: (.ref lc) :: (.ref dm) :: (.int v11_254) :: (.int v12_255) :: (.ref tg) :: (.int v14_256) :: (.int v15_257) :: (.ref pe) :: (.int v17_258) :: (.int v18_259) :: (.int v19_260) :: (.int v20_261) :: (.int v21_262) :: (.int v22_263) :: (.ref ml) :: (.ref bg) :: (.ref co) :: (.ref sp) :: (.ref nb0) :: (.ref nb1) :: (.ref nb2) :: (.int (nI kn)) :: (.int (nI kw)) :: (.int (nI mm)) :: (.int v33_264) :: (.ref pl) :: (.ref se) :: (.ref ke) :: (.ref wi) :: (.ref hs) :: (.ref mo) :: (.ref po) :: (.ref nu) :: (.ref pr) :: (.ref sq) :: (.ref xa) :: (.ref sa) :: (.ref n64) :: (.ref m64) :: (.ref ex) :: (.ref wh) :: (.ref sd) :: (.ref tk) :: (.int v52_265) :: (.int v53_266) :: (.int v54_267) :: (.ref hd) :: (.ref ak) :: (.ref ho) :: (.ref ot) :: []) := by rw [he_350]; exact up_self
      have hF_352 : F_349 ml = .inl (cs 17, 3000, .inl f_347) := by rw [he_350, up_ne (ne_ty ht_154 hT_h0 (by simp))]; exact hF_338
      have hF_353 : F_349 sp = .inl (cs 16, 21, .inl (va_cpy e2 f_279 (0 : Int32).toNatClampNeg (0 : Int32).toNatClampNeg ((nI kn)).toNatClampNeg)) := by rw [he_350, up_ne (ne_ty ht_160 hT_h0 (by simp))]; exact hF_339
      have hF_354 : F_349 co = .inl (cs 16, 21, .inl (va_cpy e1 f_276 (0 : Int32).toNatClampNeg (0 : Int32).toNatClampNeg ((nI kn)).toNatClampNeg)) := by rw [he_350, up_ne (ne_ty ht_158 hT_h0 (by simp))]; exact hF_340
      have hF_355 : F_349 bg = .inl (cs 16, 21, .inl (va_cpy e0 f_273 (0 : Int32).toNatClampNeg (0 : Int32).toNatClampNeg ((nI kn)).toNatClampNeg)) := by rw [he_350, up_ne (ne_ty ht_156 hT_h0 (by simp))]; exact hF_341
      have hF_356 : F_349 nb0 = .inl (cs 16, 21, .inl e0) := by rw [he_350, up_ne (ne_ty ht_162 hT_h0 (by simp))]; exact hF_343
      have hF_357 : F_349 nb1 = .inl (cs 16, 21, .inl e1) := by rw [he_350, up_ne (ne_ty ht_164 hT_h0 (by simp))]; exact hF_344
      have hF_358 : F_349 nb2 = .inl (cs 16, 21, .inl e2) := by rw [he_350, up_ne (ne_ty ht_166 hT_h0 (by simp))]; exact hF_345
      have hF_359 : F_349 ta = .inl (cs 17, 3000, .inl f_284) := by rw [he_350, up_ne (ne_ty ht_131 hT_h0 (by simp))]; exact hF_346
      refine lv_aload_n hx hb dX15_message_290 rfl (lv_at hl 4 rfl) ?_
      refine lv_iload_n hx hb dX15_message_291 rfl (lv_at hl 3 rfl) ?_
      refine pg_put (ci := 15) (v := .int (nI zt)) (ty := .int) (C := RX15) (T := TX15) (N := 59) hx hb hts it_15 tyX15 tyX15_ok nmX15 hown hK hP hD hS hL_h0 hF_351 rfl 32 (by decide) (hts _ kt_918) (fun _ h9 => h9) rfl (by decide +kernel) (rfl) (rfl) (Nat.le_of_ble_eq_true rfl) dX15_message_292 (fun H locs hP hD hS => ?_)
      obtain ⟨F_360, he_361, hP, hD, hR⟩ : ∃ G, G = va_up F_349 h0 (.inr (15, (.ref ta) :: (.int (nI 0)) :: (.int (nI zo_252)) :: (.int (nI ze_253)) :: (.ref ou) :: (.ref so) :: (.ref ad) :: (.ref na) :: (.ref va) :: (.ref lc) :: (.ref dm) :: (.int v11_254) :: (.int v12_255) :: (.ref tg) :: (.int v14_256) :: (.int v15_257) :: (.ref pe) :: (.int v17_258) :: (.int v18_259) :: (.int v19_260) :: (.int v20_261) :: (.int v21_262) :: (.int v22_263) :: (.ref ml) :: (.ref bg) :: (.ref co) :: (.ref sp) :: (.ref nb0) :: (.ref nb1) :: (.ref nb2) :: (.int (nI kn)) :: (.int (nI kw)) :: (.int (nI zt)) :: (.int v33_264) :: (.ref pl) :: (.ref se) :: (.ref ke) :: (.ref wi) :: (.ref hs) :: (.ref mo) :: (.ref po) :: (.ref nu) :: (.ref pr) :: (.ref sq) :: (.ref xa) :: (.ref sa) :: (.ref n64) :: (.ref m64) :: (.ref ex) :: (.ref wh) :: (.ref sd) :: (.ref tk) :: (.int v52_265) :: (.int v53_266) :: (.int v54_267) :: (.ref hd) :: (.ref ak) :: (.ref ho) :: (.ref ot) :: [])) ∧ va_P (dC, dI) vwCl (va_pl L G) H ∧ va_D A (va_pl L G) ∧ FR ty [ρ, ρ + 8, ρ + 9] F G := ⟨_, rfl, hP, hD, hR.up hT_h0 (by simp)⟩
      have hF_362 : F_360 h0 = .inr (15, (.ref ta) :: (.int (nI 0)) :: (.int (nI zo_252)) :: (.int (nI ze_253)) :: (.ref ou) :: (.ref so) :: (.ref ad) :: (.ref na) :: (.ref va) :: (.ref lc) :: (.ref dm) :: (.int v11_254) :: (.int v12_255) :: (.ref tg) :: (.int v14_256) :: (.int v15_257) :: (.ref pe) :: (.int v17_258) :: (.int v18_259) :: (.int v19_260) :: (.int v20_261) :: (.int v21_262) :: (.int v22_263) :: (.ref ml) :: (.ref bg) :: (.ref co) :: (.ref sp) :: (.ref nb0) :: (.ref nb1) :: (.ref nb2) :: (.int (nI kn)) :: (.int (nI kw)) :: (.int (nI zt)) :: (.int v33_264) :: (.ref pl) :: (.ref se) :: (.ref ke) :: (.ref wi) :: (.ref hs) :: (.ref mo) :: (.ref po) :: (.ref nu) :: (.ref pr) :: (.ref sq) :: (.ref xa) :: (.ref sa) :: (.ref n64) :: (.ref m64) :: (.ref ex) :: (.ref wh) :: (.ref sd) :: (.ref tk) :: (.int v52_265) :: (.int v53_266) :: (.int v54_267) :: (.ref hd) :: (.ref ak) :: (.ref ho) :: (.ref ot) :: []) := by rw [he_361]; exact up_self
      have hF_363 : F_360 ml = .inl (cs 17, 3000, .inl f_347) := by rw [he_361, up_ne (ne_ty ht_154 hT_h0 (by simp))]; exact hF_352
      have hF_364 : F_360 sp = .inl (cs 16, 21, .inl (va_cpy e2 f_279 (0 : Int32).toNatClampNeg (0 : Int32).toNatClampNeg ((nI kn)).toNatClampNeg)) := by rw [he_361, up_ne (ne_ty ht_160 hT_h0 (by simp))]; exact hF_353
      have hF_365 : F_360 co = .inl (cs 16, 21, .inl (va_cpy e1 f_276 (0 : Int32).toNatClampNeg (0 : Int32).toNatClampNeg ((nI kn)).toNatClampNeg)) := by rw [he_361, up_ne (ne_ty ht_158 hT_h0 (by simp))]; exact hF_354
      have hF_366 : F_360 bg = .inl (cs 16, 21, .inl (va_cpy e0 f_273 (0 : Int32).toNatClampNeg (0 : Int32).toNatClampNeg ((nI kn)).toNatClampNeg)) := by rw [he_361, up_ne (ne_ty ht_156 hT_h0 (by simp))]; exact hF_355
      have hF_367 : F_360 nb0 = .inl (cs 16, 21, .inl e0) := by rw [he_361, up_ne (ne_ty ht_162 hT_h0 (by simp))]; exact hF_356
      have hF_368 : F_360 nb1 = .inl (cs 16, 21, .inl e1) := by rw [he_361, up_ne (ne_ty ht_164 hT_h0 (by simp))]; exact hF_357
      have hF_369 : F_360 nb2 = .inl (cs 16, 21, .inl e2) := by rw [he_361, up_ne (ne_ty ht_166 hT_h0 (by simp))]; exact hF_358
      have hF_370 : F_360 ta = .inl (cs 17, 3000, .inl f_284) := by rw [he_361, up_ne (ne_ty ht_131 hT_h0 (by simp))]; exact hF_359
      refine lv_aload_n hx hb dX15_message_295 rfl (lv_at hl 4 rfl) ?_
      refine lv_iconst (v := 1) hx hb dX15_message_296 (by decide) ?_
      refine pg_put (ci := 15) (v := .int 1) (ty := .boolean) (C := RX15) (T := TX15) (N := 59) hx hb hts it_15 tyX15 tyX15_ok nmX15 hown hK hP hD hS hL_h0 hF_362 rfl 33 (by decide) (hts _ kt_906) (fun _ h9 => h9) rfl (by decide +kernel) (rfl) (rfl) (Nat.le_of_ble_eq_true rfl) dX15_message_297 (fun H locs hP hD hS => ?_)
      obtain ⟨F_371, he_372, hP, hD, hR⟩ : ∃ G, G = va_up F_360 h0 (.inr (15, (.ref ta) :: (.int (nI 0)) :: (.int (nI zo_252)) :: (.int (nI ze_253)) :: (.ref ou) :: (.ref so) :: (.ref ad) :: (.ref na) :: (.ref va) :: (.ref lc) :: (.ref dm) :: (.int v11_254) :: (.int v12_255) :: (.ref tg) :: (.int v14_256) :: (.int v15_257) :: (.ref pe) :: (.int v17_258) :: (.int v18_259) :: (.int v19_260) :: (.int v20_261) :: (.int v21_262) :: (.int v22_263) :: (.ref ml) :: (.ref bg) :: (.ref co) :: (.ref sp) :: (.ref nb0) :: (.ref nb1) :: (.ref nb2) :: (.int (nI kn)) :: (.int (nI kw)) :: (.int (nI zt)) :: (.int 1) :: (.ref pl) :: (.ref se) :: (.ref ke) :: (.ref wi) :: (.ref hs) :: (.ref mo) :: (.ref po) :: (.ref nu) :: (.ref pr) :: (.ref sq) :: (.ref xa) :: (.ref sa) :: (.ref n64) :: (.ref m64) :: (.ref ex) :: (.ref wh) :: (.ref sd) :: (.ref tk) :: (.int v52_265) :: (.int v53_266) :: (.int v54_267) :: (.ref hd) :: (.ref ak) :: (.ref ho) :: (.ref ot) :: [])) ∧ va_P (dC, dI) vwCl (va_pl L G) H ∧ va_D A (va_pl L G) ∧ FR ty [ρ, ρ + 8, ρ + 9] F G := ⟨_, rfl, hP, hD, hR.up hT_h0 (by simp)⟩
      have hF_373 : F_371 h0 = .inr (15, (.ref ta) :: (.int (nI 0)) :: (.int (nI zo_252)) :: (.int (nI ze_253)) :: (.ref ou) :: (.ref so) :: (.ref ad) :: (.ref na) :: (.ref va) :: (.ref lc) :: (.ref dm) :: (.int v11_254) :: (.int v12_255) :: (.ref tg) :: (.int v14_256) :: (.int v15_257) :: (.ref pe) :: (.int v17_258) :: (.int v18_259) :: (.int v19_260) :: (.int v20_261) :: (.int v21_262) :: (.int v22_263) :: (.ref ml) :: (.ref bg) :: (.ref co) :: (.ref sp) :: (.ref nb0) :: (.ref nb1) :: (.ref nb2) :: (.int (nI kn)) :: (.int (nI kw)) :: (.int (nI zt)) :: (.int 1) :: (.ref pl) :: (.ref se) :: (.ref ke) :: (.ref wi) :: (.ref hs) :: (.ref mo) :: (.ref po) :: (.ref nu) :: (.ref pr) :: (.ref sq) :: (.ref xa) :: (.ref sa) :: (.ref n64) :: (.ref m64) :: (.ref ex) :: (.ref wh) :: (.ref sd) :: (.ref tk) :: (.int v52_265) :: (.int v53_266) :: (.int v54_267) :: (.ref hd) :: (.ref ak) :: (.ref ho) :: (.ref ot) :: []) := by rw [he_372]; exact up_self
      have hF_374 : F_371 ml = .inl (cs 17, 3000, .inl f_347) := by rw [he_372, up_ne (ne_ty ht_154 hT_h0 (by simp))]; exact hF_363
      have hF_375 : F_371 sp = .inl (cs 16, 21, .inl (va_cpy e2 f_279 (0 : Int32).toNatClampNeg (0 : Int32).toNatClampNeg ((nI kn)).toNatClampNeg)) := by rw [he_372, up_ne (ne_ty ht_160 hT_h0 (by simp))]; exact hF_364
      have hF_376 : F_371 co = .inl (cs 16, 21, .inl (va_cpy e1 f_276 (0 : Int32).toNatClampNeg (0 : Int32).toNatClampNeg ((nI kn)).toNatClampNeg)) := by rw [he_372, up_ne (ne_ty ht_158 hT_h0 (by simp))]; exact hF_365
      have hF_377 : F_371 bg = .inl (cs 16, 21, .inl (va_cpy e0 f_273 (0 : Int32).toNatClampNeg (0 : Int32).toNatClampNeg ((nI kn)).toNatClampNeg)) := by rw [he_372, up_ne (ne_ty ht_156 hT_h0 (by simp))]; exact hF_366
      have hF_378 : F_371 nb0 = .inl (cs 16, 21, .inl e0) := by rw [he_372, up_ne (ne_ty ht_162 hT_h0 (by simp))]; exact hF_367
      have hF_379 : F_371 nb1 = .inl (cs 16, 21, .inl e1) := by rw [he_372, up_ne (ne_ty ht_164 hT_h0 (by simp))]; exact hF_368
      have hF_380 : F_371 nb2 = .inl (cs 16, 21, .inl e2) := by rw [he_372, up_ne (ne_ty ht_166 hT_h0 (by simp))]; exact hF_369
      have hF_381 : F_371 ta = .inl (cs 17, 3000, .inl f_284) := by rw [he_372, up_ne (ne_ty ht_131 hT_h0 (by simp))]; exact hF_370
      obtain ⟨gF, hg1, hg2, hg3⟩ := hFL
      have hg20 := hg2 0 (by omega)
      have hG : ∀ b, b ≠ h0 → b ≠ bg → b ≠ co → b ≠ sp → b ≠ ml → F_371 b = F_244 b := fun b n0 n1 n2 n3 n4 => by rw [he_372, up_ne n0, he_361, up_ne n0, he_350, up_ne n0, he_337, up_ne n4, he_326, up_ne n3, he_315, up_ne n2, he_304, up_ne n1, he_293, up_ne n0]
      have x0 : shm cs (rtf ty h0 (15, ρ, [ta, ou, so, ad, na, va, lc, dm, tg, pe, ml, bg, co, sp, nb0, nb1, nb2, pl, se, ke, wi, hs, mo, po, nu, pr, sq, xa, sa, n64, m64, ex, wh, sd, tk, hd, ak, ho, ot, sx, s0, s1, s2, kn, kw, zt, 0])) (gmu kn gF gm) L h0 (F_371 h0) := by rw [hF_373]; exact shm.mod rtf_self ⟨zo_252, ze_253, v11_254, v12_255, v14_256, v15_257, v17_258, v18_259, v19_260, v20_261, v21_262, v22_263, 1, v52_265, v53_266, v54_267, rfl, (by omega), (by omega), (Or.inr (by omega)), (by first | assumption | exact Or.inl rfl | exact Or.inr rfl)⟩
      have x1 : shm cs (rtf ty h0 (15, ρ, [ta, ou, so, ad, na, va, lc, dm, tg, pe, ml, bg, co, sp, nb0, nb1, nb2, pl, se, ke, wi, hs, mo, po, nu, pr, sq, xa, sa, n64, m64, ex, wh, sd, tk, hd, ak, ho, ot, sx, s0, s1, s2, kn, kw, zt, 0])) (gmu kn gF gm) L bg (F_371 bg) := by rw [hF_377]; exact shm.pos (rtf_tr hT_h0 (by decide) ht_156) ⟨_, rfl, cpy_gm (by omega) (by decide) (fun j hj => (hg1 j hj).1) hq_275⟩
      have x2 : shm cs (rtf ty h0 (15, ρ, [ta, ou, so, ad, na, va, lc, dm, tg, pe, ml, bg, co, sp, nb0, nb1, nb2, pl, se, ke, wi, hs, mo, po, nu, pr, sq, xa, sa, n64, m64, ex, wh, sd, tk, hd, ak, ho, ot, sx, s0, s1, s2, kn, kw, zt, 0])) (gmu kn gF gm) L co (F_371 co) := by rw [hF_376]; exact shm.pos (rtf_tr hT_h0 (by decide) ht_158) ⟨_, rfl, cpy_gm (by omega) (by decide) (fun j hj => (hg1 j hj).2.1) hq_278⟩
      have x3 : shm cs (rtf ty h0 (15, ρ, [ta, ou, so, ad, na, va, lc, dm, tg, pe, ml, bg, co, sp, nb0, nb1, nb2, pl, se, ke, wi, hs, mo, po, nu, pr, sq, xa, sa, n64, m64, ex, wh, sd, tk, hd, ak, ho, ot, sx, s0, s1, s2, kn, kw, zt, 0])) (gmu kn gF gm) L sp (F_371 sp) := by rw [hF_375]; exact shm.pos (rtf_tr hT_h0 (by decide) ht_160) ⟨_, rfl, cpy_gm (by omega) (by decide) (fun j hj => (hg1 j hj).2.2) hq_281⟩
      have x4 : shm cs (rtf ty h0 (15, ρ, [ta, ou, so, ad, na, va, lc, dm, tg, pe, ml, bg, co, sp, nb0, nb1, nb2, pl, se, ke, wi, hs, mo, po, nu, pr, sq, xa, sa, n64, m64, ex, wh, sd, tk, hd, ak, ho, ot, sx, s0, s1, s2, kn, kw, zt, 0])) (gmu kn gF gm) L ml (F_371 ml) := by rw [hF_374]; exact shm.octs (rtf_tr hT_h0 (by decide) ht_154) ⟨_, rfl, hq_348⟩
      have hO2 := OKm.commit hO hT_h0 hU26 hU15 hG x0 x1 x2 x3 x4
      have hW2 := WTm.commit (gF := gF) (n2 := kn) (b2 := kw) (m2 := zt) hW hL_h0 hT_h0 hU15 (by omega) (by omega) (by omega) (by omega) hg2 hg3 (by omega)
      have hR2 := FR.retype (im2 := [ta, ou, so, ad, na, va, lc, dm, tg, pe, ml, bg, co, sp, nb0, nb1, nb2, pl, se, ke, wi, hs, mo, po, nu, pr, sq, xa, sa, n64, m64, ex, wh, sd, tk, hd, ak, ho, ot, sx, s0, s1, s2, kn, kw, zt, 0]) hT_h0 hR
      refine lv_iload_n hx hb dX15_message_300 rfl (lv_at hl 2 rfl) ?_
      refine W.widen (k := 0) (n := 0) (by omega) (by omega) ?_
      exact W.iret (v := (nI kn)) hx hb hr (fun t ht hWm => ⟨⟨(nI kn), (), rfl, trivial, ⟨F_371, rtf ty h0 (15, ρ, [ta, ou, so, ad, na, va, lc, dm, tg, pe, ml, bg, co, sp, nb0, nb1, nb2, pl, se, ke, wi, hs, mo, po, nu, pr, sq, xa, sa, n64, m64, ex, wh, sd, tk, hd, ak, ho, ot, sx, s0, s1, s2, kn, kw, zt, 0]), gmu kn gF gm, kn, kw, zt, (by rw [hty, rtf_rtf]), QTm.mk ht hP hD hO2 hR2, hW2⟩⟩, hS.F ht⟩) hS.2.2 dX15_message_301
    ·
      have hi_382 : kn = 0 := (nI_eq (a := kn) (b := 0) (by omega) (by omega)).mp c_250
      refine lv_iconst (v := (-1)) hx hb dX15_message_221 (by decide) ?_
      refine W.widen (k := 0) (n := 0) (by omega) (by omega) ?_
      exact W.iret (v := (-1)) hx hb hr (fun t ht hWm => ⟨⟨(-1), (), rfl, trivial, ⟨F_244, ty, gm, nf, bd, mm, hty, QTm.mk ht hP hD hO hR, hW⟩⟩, hS.F ht⟩) hS.2.2 dX15_message_222
  ·
    refine lv_if_eq (tgt := 217) hx hb dX15_message_17 (by decide) (fun c_383 => ?_) (fun c_383 => ?_)
    ·
      refine W.widen (k := 0) (n := 0) (by omega) (by omega) ?_
      exact jn_247 () F_244 (rfl) hO hR _ _ hP hD hS ls (lv_sub hl [1, 2, 3, 4, 5] rfl)
    ·
      refine lv_iload_n hx hb dX15_message_20 rfl (lv_at hl 2 rfl) ?_
      refine lv_iload_n hx hb dX15_message_21 rfl (lv_at hl 4 rfl) ?_
      refine lv_icmp_ge (tgt := 217) hx hb dX15_message_22 (by decide) (fun c_384 => ?_) (fun c_384 => ?_)
      ·
        have hi_385 : zt ≤ ka := leN (N := zt) c_384
        refine W.widen (k := 0) (n := 0) (by omega) (by omega) ?_
        exact jn_247 () F_244 (rfl) hO hR _ _ hP hD hS ls (lv_sub hl [1, 2, 3, 4, 5] rfl)
      ·
        have hi_386 : ka < zt := ltN (N := zt) c_384
        refine lv_aload_n hx hb dX15_message_25 rfl (lv_at hl 5 rfl) ?_
        obtain ⟨zo_387, ze_388, v11_389, v12_390, v14_391, v15_392, v17_393, v18_394, v19_395, v20_396, v21_397, v22_398, v33_399, v52_400, v53_401, v54_402, hF_403, hq_404, hq_405, hq_406, hq_407⟩ := hO.mod hL_h0 hT_h0
        refine pg_get (ci := 15) (v := .ref ta) (C := RX15) (T := TX15) (N := 59) hx hb hts it_15 hown hK hP hL_h0 hF_403 rfl 0 (by decide) (hts _ kt_1075) (fun _ h9 => h9) rfl dX15_message_26 ?_
        refine lv_iload_n hx hb dX15_message_29 rfl (lv_at hl 2 rfl) ?_
        refine lv_iload_n hx hb dX15_message_30 rfl (lv_at hl 4 rfl) ?_
        obtain ⟨hq_408, hq_409⟩ := hW.octs hi_130 ht_131
        have hFc := pg_free hD hS hA
        refine va_calli (va_runS (As := [.ref ta, .int (nI ka), .int (nI zt)]) (rest := []) ⟨hx, hb, hml, hown, hts⟩ (s_X15_lineEnd l dC dI cs ty gm L H.size F_244 ta (ρ + 1) 3000 ka zt hW hi_130 ht_131 (by first | omega | assumption) (by first | omega | assumption)) ⟨callB_of 3 hts (gi kt_919) rfl rfl rfl (hts _ kt_669) (hts _ kt_920) (by decide +kernel) ⟨Nat.le_of_ble_eq_true rfl, Nat.le_of_ble_eq_true rfl⟩, (hts _ kt_921)⟩ ⟨fun a U g mk q => ⟨q.1, PTm.calling q.2⟩, fun U hU hWm => ⟨rfl, PTm.mk hU hWm hP hK hD hE hO⟩⟩ rfl rfl hl.1 rfl (lv_room (Nat.le_of_ble_eq_true rfl)) dX15_message_31 ⟨by show _ + 0 ≤ 0; omega, by show _ + 0 ≤ 0; omega⟩) hS (fun q _ h => hFc q h) hFc (fun r_410 u t H1 locs ht hvm hw hB hz1 hk1 hS => ?_)
        obtain ⟨F_411, hB1⟩ := hB
        obtain rfl : F_244 = F_411 := (funext (fun a => hB1.2.2.2 a List.not_mem_nil)).symm
        obtain ⟨hP, hD, hO, hR⟩ := QTm.back hB1 ht hFc hR (fun q h => absurd h List.not_mem_nil)
        generalize H1 = H at hP hS ⊢
        have hw : (∃ k : Nat, ka < k ∧ k ≤ zt ∧ r_410 = nI k) := hw
        have hw_412 := hw
        obtain ⟨kend, hkea, hkeb, eke⟩ := hw_412
        subst eke
        refine lv_istore (lv' := [(6, .int (nI kend)), (5, .int o5), (4, .int (nI kw)), (3, .int (nI ka)), (2, .int (nI kn)), (1, .int (nI zt)), (0, .ref h0)]) hx hb dX15_message_34 hl (by decide) rfl (fun ls hl => ?_)
        refine lv_aload_n hx hb dX15_message_36 rfl (lv_at hl 6 rfl) ?_
        refine pg_get (ci := 15) (v := .ref ta) (C := RX15) (T := TX15) (N := 59) hx hb hts it_15 hown hK hP hL_h0 hF_403 rfl 0 (by decide) (hts _ kt_1075) (fun _ h9 => h9) rfl dX15_message_37 ?_
        refine lv_iload_n hx hb dX15_message_40 rfl (lv_at hl 3 rfl) ?_
        obtain ⟨f_413, hF_414, hq_415⟩ := hO.octs hi_130 ht_131
        refine pg_bald hx hb hK hP hi_130 1 hF_414 rfl (vp_in_nI (by omega) (by omega)) dX15_message_41 ?_
        refine lv_topi (fun x_416 ex_416 => ?_)
        obtain rfl : x_416 = f_413 ka := ex_416.trans (congrArg f_413 (show ((nI ka) : Int32).toNatClampNeg = ka from nI_clamp (by omega)))
        refine lv_bipush (v := 10) hx hb dX15_message_42 (by decide) ?_
        refine lv_icmp_ne (tgt := 58) hx hb dX15_message_44 (by decide) (fun c_417 => ?_) (fun c_417 => ?_)
        ·
          refine lv_aload_n hx hb dX15_message_58 rfl (lv_at hl 6 rfl) ?_
          refine pg_get (ci := 15) (v := .ref ta) (C := RX15) (T := TX15) (N := 59) hx hb hts it_15 hown hK hP hL_h0 hF_403 rfl 0 (by decide) (hts _ kt_1075) (fun _ h9 => h9) rfl dX15_message_59 ?_
          refine lv_iload_n hx hb dX15_message_62 rfl (lv_at hl 3 rfl) ?_
          refine pg_bald hx hb hK hP hi_130 1 hF_414 rfl (vp_in_nI (by omega) (by omega)) dX15_message_63 ?_
          refine lv_topi (fun x_418 ex_418 => ?_)
          obtain rfl : x_418 = f_413 ka := ex_418.trans (congrArg f_413 (show ((nI ka) : Int32).toNatClampNeg = ka from nI_clamp (by omega)))
          have hFc := pg_free hD hS hA
          refine va_calli (va_runS (As := [.int (f_413 ka)]) (rest := []) ⟨hx, hb, hml, hown, hts⟩ (s_X15_isWhite l dC dI cs ty gm L H.size F_244 (f_413 ka) hW ) ⟨callB_of 1 hts (gi kt_715) rfl rfl rfl (hts _ kt_669) (hts _ kt_716) (by decide +kernel) ⟨Nat.le_of_ble_eq_true rfl, Nat.le_of_ble_eq_true rfl⟩, (hts _ kt_717)⟩ ⟨fun a U g mk q => ⟨q.1, PTm.calling q.2⟩, fun U hU hWm => ⟨rfl, PTm.mk hU hWm hP hK hD hE hO⟩⟩ rfl rfl hl.1 rfl (lv_room (Nat.le_of_ble_eq_true rfl)) dX15_message_64 ⟨by show _ + 0 ≤ 0; omega, by show _ + 0 ≤ 0; omega⟩) hS (fun q _ h => hFc q h) hFc (fun r_419 u t H1 locs ht hvm hw hB hz1 hk1 hS => ?_)
          obtain ⟨F_420, hB1⟩ := hB
          obtain rfl : F_244 = F_420 := (funext (fun a => hB1.2.2.2 a List.not_mem_nil)).symm
          obtain ⟨hP, hD, hO, hR⟩ := QTm.back hB1 ht hFc hR (fun q h => absurd h List.not_mem_nil)
          generalize H1 = H at hP hS ⊢
          have hw : (r_419 = 0 ∨ r_419 = 1) := hw
          have hw_421 := hw
          refine lv_if_eq (tgt := 89) hx hb dX15_message_67 (by decide) (fun c_422 => ?_) (fun c_422 => ?_)
          ·
            refine lv_iload_n hx hb dX15_message_89 rfl (lv_at hl 3 rfl) ?_
            refine lv_istore (lv' := [(7, .int (nI ka)), (6, .int (nI kend)), (5, .int o5), (4, .int (nI kw)), (3, .int (nI ka)), (2, .int (nI kn)), (1, .int (nI zt)), (0, .ref h0)]) hx hb dX15_message_90 hl (by decide) rfl (fun ls hl => ?_)
            refine W.widen (k := 0) (n := 0) (by omega) (by omega) ?_
            have hF_424 : F ta = .inl (cs 17, 3000, .inl f_413) := (hR ta (by rw [ht_131]; simp)).symm.trans hF_414
            refine pl_loopm (σ := Nat) A (dC, dI) cs ty gm L [ρ, ρ + 8, ρ + 9] F 92 8 (fun k7 => [(7, .int (nI k7)), (6, .int (nI kend)), (5, .int o5), (4, .int (nI kw)), (3, .int (nI ka)), (2, .int (nI kn)), (1, .int (nI zt)), (0, .ref h0)]) (fun k7 => []) (fun k7 FF => ka ≤ k7 ∧ k7 ≤ kend ∧ FF = F_244) (fun k7 => kend - k7) ?_ ka F_244 (⟨by omega, by omega, rfl⟩) hO hR _ _ hP hD hS ls (lv_sub hl [0, 1, 2, 3, 4, 5, 6, 7] rfl)
            rintro k7 F_423 hv_425 hO hR ih_426 H locs hP hD hS ls hl
            have hl : lv_has ls 8 [(7, .int (nI k7)), (6, .int (nI kend)), (5, .int o5), (4, .int (nI kw)), (3, .int (nI ka)), (2, .int (nI kn)), (1, .int (nI zt)), (0, .ref h0)] := hl
            have hv_425 : ka ≤ k7 ∧ k7 ≤ kend ∧ F_423 = F_244 := hv_425
            refine W.eq (g2 := F0 m 92 ls []) rfl ?_
            have hF_427 : F_423 ta = .inl (cs 17, 3000, .inl f_413) := (hR ta (by rw [ht_131]; simp)).trans hF_424
            obtain ⟨hka, hkb, hkc⟩ := hv_425
            obtain rfl : F_244 = F_423 := hkc.symm
            refine lv_iload hx hb dX15_message_92 (lv_at hl 0 rfl) ?_
            refine lv_iload hx hb dX15_message_94 (lv_at hl 1 rfl) ?_
            refine lv_icmp_ge (tgt := 143) hx hb dX15_message_96 (by decide) (fun c_428 => ?_) (fun c_428 => ?_)
            ·
              have hi_429 : kend ≤ k7 := leN (N := kend) c_428
              refine lv_iload hx hb dX15_message_143 (lv_at hl 0 rfl) ?_
              refine lv_iload_n hx hb dX15_message_145 rfl (lv_at hl 4 rfl) ?_
              refine lv_isub hx hb dX15_message_146 ?_
              refine lv_topi (fun x_430 ex_430 => ?_)
              obtain rfl : x_430 = (nI (k7 - ka)) := ex_430.trans (pk_sub (a := k7) (b := ka) (by omega))
              refine lv_i2l (v := (nI (k7 - ka)).toInt64) hx hb dX15_message_147 rfl ?_
              refine lv_lconst (v := 1) hx hb dX15_message_148 (by decide) ?_
              refine lv_ldc2 (v := 20) hx hb hown (hts _ kt_865) dX15_message_149 ?_
              have hFc := pg_free hD hS hA
              refine va_calli (va_runS (As := [.long ((nI (k7 - ka)).toInt64), .long 1, .long 20]) (rest := []) ⟨hx, hb, hml, hown, hts⟩ (s_X15_in l dC dI cs ty gm L H.size F_244 ((nI (k7 - ka)).toInt64) 1 20 hW ) ⟨callB_of 3 hts (gi kt_685) rfl rfl rfl (hts _ kt_669) (hts _ kt_705) (by decide +kernel) ⟨Nat.le_of_ble_eq_true rfl, Nat.le_of_ble_eq_true rfl⟩, (hts _ kt_686)⟩ ⟨fun a U g mk q => ⟨q.1, PTm.calling q.2⟩, fun U hU hWm => ⟨rfl, PTm.mk hU hWm hP hK hD hE hO⟩⟩ rfl rfl hl.1 rfl (lv_room (Nat.le_of_ble_eq_true rfl)) dX15_message_152 ⟨by show _ + 0 ≤ 0; omega, by show _ + 0 ≤ 0; omega⟩) hS (fun q _ h => hFc q h) hFc (fun r_431 u t H1 locs ht hvm hw hB hz1 hk1 hS => ?_)
              obtain ⟨F_432, hB1⟩ := hB
              obtain rfl : F_244 = F_432 := (funext (fun a => hB1.2.2.2 a List.not_mem_nil)).symm
              obtain ⟨hP, hD, hO, hR⟩ := QTm.back hB1 ht hFc hR (fun q h => absurd h List.not_mem_nil)
              generalize H1 = H at hP hS ⊢
              have hw : r_431 = (if 1 ≤ (nI (k7 - ka)).toInt64 ∧ (nI (k7 - ka)).toInt64 ≤ 20 then 1 else 0) := hw
              have hw_433 := hw
              refine lv_if_eq (tgt := 183) hx hb dX15_message_155 (by decide) (fun c_434 => ?_) (fun c_434 => ?_)
              ·
                refine lv_iconst (v := (-1)) hx hb dX15_message_183 (by decide) ?_
                refine W.widen (k := 0) (n := 0) (by omega) (by omega) ?_
                exact W.iret (v := (-1)) hx hb hr (fun t ht hWm => ⟨⟨(-1), (), rfl, trivial, ⟨F_244, ty, gm, nf, bd, mm, hty, QTm.mk ht hP hD hO hR, hW⟩⟩, hS.F ht⟩) hS.2.2 dX15_message_184
              ·
                have hin := in_nat (lo := 1) (hi := 20) hw_433 c_434 (by decide) (by decide) (by omega)
                refine lv_iload hx hb dX15_message_158 (lv_at hl 0 rfl) ?_
                refine lv_iload hx hb dX15_message_160 (lv_at hl 1 rfl) ?_
                refine lv_icmp_eq (tgt := 183) hx hb dX15_message_162 (by decide) (fun c_435 => ?_) (fun c_435 => ?_)
                ·
                  have hi_436 : k7 = kend := (nI_eq (a := k7) (b := kend) (by omega) (by omega)).mp c_435
                  refine lv_iconst (v := (-1)) hx hb dX15_message_183 (by decide) ?_
                  refine W.widen (k := 0) (n := 0) (by omega) (by omega) ?_
                  exact W.iret (v := (-1)) hx hb hr (fun t ht hWm => ⟨⟨(-1), (), rfl, trivial, ⟨F_244, ty, gm, nf, bd, mm, hty, QTm.mk ht hP hD hO hR, hW⟩⟩, hS.F ht⟩) hS.2.2 dX15_message_184
                ·
                  have hi_437 : k7 ≠ kend := fun q => c_435 (by rw [q])
                  refine lv_aload_n hx hb dX15_message_165 rfl (lv_at hl 7 rfl) ?_
                  refine pg_get (ci := 15) (v := .ref ta) (C := RX15) (T := TX15) (N := 59) hx hb hts it_15 hown hK hP hL_h0 hF_403 rfl 0 (by decide) (hts _ kt_1075) (fun _ h9 => h9) rfl dX15_message_166 ?_
                  refine lv_iload hx hb dX15_message_169 (lv_at hl 0 rfl) ?_
                  refine pg_bald hx hb hK hP hi_130 1 hF_414 rfl (vp_in_nI (by omega) (by omega)) dX15_message_171 ?_
                  refine lv_topi (fun x_438 ex_438 => ?_)
                  obtain rfl : x_438 = f_413 k7 := ex_438.trans (congrArg f_413 (show ((nI k7) : Int32).toNatClampNeg = k7 from nI_clamp (by omega)))
                  refine lv_bipush (v := 58) hx hb dX15_message_172 (by decide) ?_
                  refine lv_icmp_ne (tgt := 183) hx hb dX15_message_174 (by decide) (fun c_439 => ?_) (fun c_439 => ?_)
                  ·
                    refine lv_iconst (v := (-1)) hx hb dX15_message_183 (by decide) ?_
                    refine W.widen (k := 0) (n := 0) (by omega) (by omega) ?_
                    exact W.iret (v := (-1)) hx hb hr (fun t ht hWm => ⟨⟨(-1), (), rfl, trivial, ⟨F_244, ty, gm, nf, bd, mm, hty, QTm.mk ht hP hD hO hR, hW⟩⟩, hS.F ht⟩) hS.2.2 dX15_message_184
                  ·
                    refine lv_iload_n hx hb dX15_message_177 rfl (lv_at hl 5 rfl) ?_
                    refine lv_bipush (v := 20) hx hb dX15_message_178 (by decide) ?_
                    refine lv_icmp_ne (tgt := 185) hx hb dX15_message_180 (by decide) (fun c_440 => ?_) (fun c_440 => ?_)
                    ·
                      have hi_441 : kn ≠ 20 := fun q => c_440 (by rw [q]; rfl)
                      refine lv_aload_n hx hb dX15_message_185 rfl (lv_at hl 7 rfl) ?_
                      refine pg_get (ci := 15) (v := .ref nb0) (C := RX15) (T := TX15) (N := 59) hx hb hts it_15 hown hK hP hL_h0 hF_403 rfl 27 (by decide) (hts _ kt_1079) (fun _ h9 => h9) rfl dX15_message_186 ?_
                      refine lv_iload_n hx hb dX15_message_189 rfl (lv_at hl 5 rfl) ?_
                      refine lv_iload_n hx hb dX15_message_190 rfl (lv_at hl 4 rfl) ?_
                      refine pg_iast hx hb hK hP hD hS hi_161 0 hN0 rfl (vp_in_nI (by omega) (by omega)) dX15_message_191 (fun H locs hP hD hS => ?_)
                      obtain ⟨F_442, he_443, hP, hD, hO, hR⟩ : ∃ G, G = va_up F_244 nb0 (.inl (cs 16, 21, .inl (upd e0 ((nI kn)).toNatClampNeg ((nI ka))))) ∧ va_P (dC, dI) vwCl (va_pl L G) H ∧ va_D A (va_pl L G) ∧ OKm cs ty gm L G ∧ FR ty [ρ, ρ + 8, ρ + 9] F G := ⟨_, rfl, hP, hD, hO.up (shm.idb ht_162 ⟨_, rfl, ixb_upd hIx0 _ _ (by omega)⟩), hR.up ht_162 (by simp)⟩
                      have hF_444 : F_442 nb0 = .inl (cs 16, 21, .inl (upd e0 ((nI kn)).toNatClampNeg ((nI ka)))) := by rw [he_443]; exact up_self
                      have hF_445 : F_442 nb1 = .inl (cs 16, 21, .inl e1) := by rw [he_443, up_ne hn01.symm]; exact hN1
                      have hF_446 : F_442 nb2 = .inl (cs 16, 21, .inl e2) := by rw [he_443, up_ne hn02.symm]; exact hN2
                      have hF_447 : F_442 h0 = .inr (15, (.ref ta) :: (.int (nI 0)) :: (.int (nI zo_387)) :: (.int (nI ze_388)) :: (.ref ou) :: (.ref so) :: (.ref ad) :: (.ref na) :: (.ref va) :: (.ref lc) :: (.ref dm) :: (.int v11_389) :: (.int v12_390) :: (.ref tg) :: (.int v14_391) :: (.int v15_392) :: (.ref pe) :: (.int v17_393) :: (.int v18_394) :: (.int v19_395) :: (.int v20_396) :: (.int v21_397) :: (.int v22_398) :: (.ref ml) :: (.ref bg) :: (.ref co) :: (.ref sp) :: (.ref nb0) :: (.ref nb1) :: (.ref nb2) :: (.int (nI nf)) :: (.int (nI bd)) :: (.int (nI mm)) :: (.int v33_399) :: (.ref pl) :: (.ref se) :: (.ref ke) :: (.ref wi) :: (.ref hs) :: (.ref mo) :: (.ref po) :: (.ref nu) :: (.ref pr) :: (.ref sq) :: (.ref xa) :: (.ref sa) :: (.ref n64) :: (.ref m64) :: (.ref ex) :: (.ref wh) :: (.ref sd) :: (.ref tk) :: (.int v52_400) :: (.int v53_401) :: (.int v54_402) :: (.ref hd) :: (.ref ak) :: (.ref ho) :: (.ref ot) :: []) := by rw [he_443, up_ne (ne_ty hT_h0 ht_162 (by simp))]; exact hF_403
                      have hF_448 : F_442 ta = .inl (cs 17, 3000, .inl f_413) := by rw [he_443, up_ne (ne_ty ht_131 ht_162 (by simp))]; exact hF_414
                      obtain ⟨f_449, hF_444, hq_450, hfe_451⟩ : ∃ f : Nat → Int32, F_442 nb0 = .inl (cs 16, 21, .inl f) ∧ IXB 1280 f ∧ f = upd e0 ((nI kn)).toNatClampNeg ((nI ka)) := ⟨_, hF_444, ixb_upd hIx0 _ _ (by omega), rfl⟩
                      refine lv_aload_n hx hb dX15_message_192 rfl (lv_at hl 7 rfl) ?_
                      refine pg_get (ci := 15) (v := .ref nb1) (C := RX15) (T := TX15) (N := 59) hx hb hts it_15 hown hK hP hL_h0 hF_447 rfl 28 (by decide) (hts _ kt_1080) (fun _ h9 => h9) rfl dX15_message_193 ?_
                      refine lv_iload_n hx hb dX15_message_196 rfl (lv_at hl 5 rfl) ?_
                      refine lv_iload hx hb dX15_message_197 (lv_at hl 0 rfl) ?_
                      refine pg_iast hx hb hK hP hD hS hi_163 0 hF_445 rfl (vp_in_nI (by omega) (by omega)) dX15_message_199 (fun H locs hP hD hS => ?_)
                      obtain ⟨F_452, he_453, hP, hD, hO, hR⟩ : ∃ G, G = va_up F_442 nb1 (.inl (cs 16, 21, .inl (upd e1 ((nI kn)).toNatClampNeg ((nI k7))))) ∧ va_P (dC, dI) vwCl (va_pl L G) H ∧ va_D A (va_pl L G) ∧ OKm cs ty gm L G ∧ FR ty [ρ, ρ + 8, ρ + 9] F G := ⟨_, rfl, hP, hD, hO.up (shm.idb ht_164 ⟨_, rfl, ixb_upd hIx1 _ _ (by omega)⟩), hR.up ht_164 (by simp)⟩
                      have hF_454 : F_452 nb1 = .inl (cs 16, 21, .inl (upd e1 ((nI kn)).toNatClampNeg ((nI k7)))) := by rw [he_453]; exact up_self
                      have hF_455 : F_452 nb0 = .inl (cs 16, 21, .inl f_449) := by rw [he_453, up_ne hn01]; exact hF_444
                      have hF_456 : F_452 nb2 = .inl (cs 16, 21, .inl e2) := by rw [he_453, up_ne hn12.symm]; exact hF_446
                      have hF_457 : F_452 h0 = .inr (15, (.ref ta) :: (.int (nI 0)) :: (.int (nI zo_387)) :: (.int (nI ze_388)) :: (.ref ou) :: (.ref so) :: (.ref ad) :: (.ref na) :: (.ref va) :: (.ref lc) :: (.ref dm) :: (.int v11_389) :: (.int v12_390) :: (.ref tg) :: (.int v14_391) :: (.int v15_392) :: (.ref pe) :: (.int v17_393) :: (.int v18_394) :: (.int v19_395) :: (.int v20_396) :: (.int v21_397) :: (.int v22_398) :: (.ref ml) :: (.ref bg) :: (.ref co) :: (.ref sp) :: (.ref nb0) :: (.ref nb1) :: (.ref nb2) :: (.int (nI nf)) :: (.int (nI bd)) :: (.int (nI mm)) :: (.int v33_399) :: (.ref pl) :: (.ref se) :: (.ref ke) :: (.ref wi) :: (.ref hs) :: (.ref mo) :: (.ref po) :: (.ref nu) :: (.ref pr) :: (.ref sq) :: (.ref xa) :: (.ref sa) :: (.ref n64) :: (.ref m64) :: (.ref ex) :: (.ref wh) :: (.ref sd) :: (.ref tk) :: (.int v52_400) :: (.int v53_401) :: (.int v54_402) :: (.ref hd) :: (.ref ak) :: (.ref ho) :: (.ref ot) :: []) := by rw [he_453, up_ne (ne_ty hT_h0 ht_164 (by simp))]; exact hF_447
                      have hF_458 : F_452 ta = .inl (cs 17, 3000, .inl f_413) := by rw [he_453, up_ne (ne_ty ht_131 ht_164 (by simp))]; exact hF_448
                      obtain ⟨f_459, hF_454, hq_460, hfe_461⟩ : ∃ f : Nat → Int32, F_452 nb1 = .inl (cs 16, 21, .inl f) ∧ IXB 1280 f ∧ f = upd e1 ((nI kn)).toNatClampNeg ((nI k7)) := ⟨_, hF_454, ixb_upd hIx1 _ _ (by omega), rfl⟩
                      refine lv_aload_n hx hb dX15_message_200 rfl (lv_at hl 7 rfl) ?_
                      refine pg_get (ci := 15) (v := .ref nb2) (C := RX15) (T := TX15) (N := 59) hx hb hts it_15 hown hK hP hL_h0 hF_457 rfl 29 (by decide) (hts _ kt_1081) (fun _ h9 => h9) rfl dX15_message_201 ?_
                      refine lv_iload_n hx hb dX15_message_204 rfl (lv_at hl 5 rfl) ?_
                      refine lv_iload hx hb dX15_message_205 (lv_at hl 1 rfl) ?_
                      refine pg_iast hx hb hK hP hD hS hi_165 0 hF_456 rfl (vp_in_nI (by omega) (by omega)) dX15_message_207 (fun H locs hP hD hS => ?_)
                      obtain ⟨F_462, he_463, hP, hD, hO, hR⟩ : ∃ G, G = va_up F_452 nb2 (.inl (cs 16, 21, .inl (upd e2 ((nI kn)).toNatClampNeg ((nI kend))))) ∧ va_P (dC, dI) vwCl (va_pl L G) H ∧ va_D A (va_pl L G) ∧ OKm cs ty gm L G ∧ FR ty [ρ, ρ + 8, ρ + 9] F G := ⟨_, rfl, hP, hD, hO.up (shm.idb ht_166 ⟨_, rfl, ixb_upd hIx2 _ _ (by omega)⟩), hR.up ht_166 (by simp)⟩
                      have hF_464 : F_462 nb2 = .inl (cs 16, 21, .inl (upd e2 ((nI kn)).toNatClampNeg ((nI kend)))) := by rw [he_463]; exact up_self
                      have hF_465 : F_462 nb1 = .inl (cs 16, 21, .inl f_459) := by rw [he_463, up_ne hn12]; exact hF_454
                      have hF_466 : F_462 nb0 = .inl (cs 16, 21, .inl f_449) := by rw [he_463, up_ne hn02]; exact hF_455
                      have hF_467 : F_462 h0 = .inr (15, (.ref ta) :: (.int (nI 0)) :: (.int (nI zo_387)) :: (.int (nI ze_388)) :: (.ref ou) :: (.ref so) :: (.ref ad) :: (.ref na) :: (.ref va) :: (.ref lc) :: (.ref dm) :: (.int v11_389) :: (.int v12_390) :: (.ref tg) :: (.int v14_391) :: (.int v15_392) :: (.ref pe) :: (.int v17_393) :: (.int v18_394) :: (.int v19_395) :: (.int v20_396) :: (.int v21_397) :: (.int v22_398) :: (.ref ml) :: (.ref bg) :: (.ref co) :: (.ref sp) :: (.ref nb0) :: (.ref nb1) :: (.ref nb2) :: (.int (nI nf)) :: (.int (nI bd)) :: (.int (nI mm)) :: (.int v33_399) :: (.ref pl) :: (.ref se) :: (.ref ke) :: (.ref wi) :: (.ref hs) :: (.ref mo) :: (.ref po) :: (.ref nu) :: (.ref pr) :: (.ref sq) :: (.ref xa) :: (.ref sa) :: (.ref n64) :: (.ref m64) :: (.ref ex) :: (.ref wh) :: (.ref sd) :: (.ref tk) :: (.int v52_400) :: (.int v53_401) :: (.int v54_402) :: (.ref hd) :: (.ref ak) :: (.ref ho) :: (.ref ot) :: []) := by rw [he_463, up_ne (ne_ty hT_h0 ht_166 (by simp))]; exact hF_457
                      have hF_468 : F_462 ta = .inl (cs 17, 3000, .inl f_413) := by rw [he_463, up_ne (ne_ty ht_131 ht_166 (by simp))]; exact hF_458
                      obtain ⟨f_469, hF_464, hq_470, hfe_471⟩ : ∃ f : Nat → Int32, F_462 nb2 = .inl (cs 16, 21, .inl f) ∧ IXB 1280 f ∧ f = upd e2 ((nI kn)).toNatClampNeg ((nI kend)) := ⟨_, hF_464, ixb_upd hIx2 _ _ (by omega), rfl⟩
                      refine lv_iinc (v := (nI (kn + 1))) (lv' := [(2, .int (nI (kn + 1))), (7, .int (nI k7)), (6, .int (nI kend)), (5, .int o5), (4, .int (nI kw)), (3, .int (nI ka)), (1, .int (nI zt)), (0, .ref h0)]) hx hb dX15_message_208 hl (k := 5) rfl (nI_1 _) (by decide) rfl (fun ls hl => ?_)
                      refine lv_iload hx hb dX15_message_211 (lv_at hl 2 rfl) ?_
                      refine lv_istore_n (lv' := [(3, .int (nI kend)), (2, .int (nI (kn + 1))), (7, .int (nI k7)), (6, .int (nI kend)), (5, .int o5), (4, .int (nI kw)), (1, .int (nI zt)), (0, .ref h0)]) hx hb dX15_message_213 rfl hl (by decide) rfl (fun ls hl => ?_)
                      refine lv_goto (tgt := 15) hx hb dX15_message_214 (by decide) ?_
                      refine W.widen (k := 0) (n := 0) (by omega) (by omega) ?_
                      exact ih_246 ((kn + 1), kend, kw, o5, f_449, f_459, f_469) F_462 (⟨by omega, by omega, by omega, hvd, (by rw [hfe_451, hfe_461, hfe_471, nI_clamp (by omega)]; exact hFL.add (by omega) (by omega)), hF_466, hF_465, hF_464⟩) (by show zt - kend < zt - ka; omega) hO hR _ _ hP hD hS ls (lv_sub hl [4, 5, 0, 1, 6, 7] rfl)
                    ·
                      have hi_472 : kn = 20 := (nI_eq (a := kn) (b := 20) (by omega) (by omega)).mp c_440
                      refine lv_iconst (v := (-1)) hx hb dX15_message_183 (by decide) ?_
                      refine W.widen (k := 0) (n := 0) (by omega) (by omega) ?_
                      exact W.iret (v := (-1)) hx hb hr (fun t ht hWm => ⟨⟨(-1), (), rfl, trivial, ⟨F_244, ty, gm, nf, bd, mm, hty, QTm.mk ht hP hD hO hR, hW⟩⟩, hS.F ht⟩) hS.2.2 dX15_message_184
            ·
              have hi_473 : k7 < kend := ltN (N := kend) c_428
              refine lv_aload_n hx hb dX15_message_99 rfl (lv_at hl 7 rfl) ?_
              refine pg_get (ci := 15) (v := .ref ta) (C := RX15) (T := TX15) (N := 59) hx hb hts it_15 hown hK hP hL_h0 hF_403 rfl 0 (by decide) (hts _ kt_1075) (fun _ h9 => h9) rfl dX15_message_100 ?_
              refine lv_iload hx hb dX15_message_103 (lv_at hl 0 rfl) ?_
              refine pg_bald hx hb hK hP hi_130 1 hF_414 rfl (vp_in_nI (by omega) (by omega)) dX15_message_105 ?_
              refine lv_topi (fun x_474 ex_474 => ?_)
              obtain rfl : x_474 = f_413 k7 := ex_474.trans (congrArg f_413 (show ((nI k7) : Int32).toNatClampNeg = k7 from nI_clamp (by omega)))
              have hFc := pg_free hD hS hA
              refine va_calli (va_runS (As := [.int (f_413 k7)]) (rest := []) ⟨hx, hb, hml, hown, hts⟩ (s_X15_isLetter l dC dI cs ty gm L H.size F_244 (f_413 k7) hW ) ⟨callB_of 1 hts (gi kt_869) rfl rfl rfl (hts _ kt_669) (hts _ kt_870) (by decide +kernel) ⟨Nat.le_of_ble_eq_true rfl, Nat.le_of_ble_eq_true rfl⟩, (hts _ kt_871)⟩ ⟨fun a U g mk q => ⟨q.1, PTm.calling q.2⟩, fun U hU hWm => ⟨rfl, PTm.mk hU hWm hP hK hD hE hO⟩⟩ rfl rfl hl.1 rfl (lv_room (Nat.le_of_ble_eq_true rfl)) dX15_message_106 ⟨by show _ + 0 ≤ 0; omega, by show _ + 0 ≤ 0; omega⟩) hS (fun q _ h => hFc q h) hFc (fun r_475 u t H1 locs ht hvm hw hB hz1 hk1 hS => ?_)
              obtain ⟨F_476, hB1⟩ := hB
              obtain rfl : F_244 = F_476 := (funext (fun a => hB1.2.2.2 a List.not_mem_nil)).symm
              obtain ⟨hP, hD, hO, hR⟩ := QTm.back hB1 ht hFc hR (fun q h => absurd h List.not_mem_nil)
              generalize H1 = H at hP hS ⊢
              have hw : (r_475 = 0 ∨ r_475 = 1) := hw
              have hw_477 := hw
              refine lv_if_ne (tgt := 137) hx hb dX15_message_109 (by decide) (fun c_478 => ?_) (fun c_478 => ?_)
              ·
                refine lv_iinc (v := (nI (k7 + 1))) (lv' := [(7, .int (nI (k7 + 1))), (6, .int (nI kend)), (5, .int o5), (4, .int (nI kw)), (3, .int (nI ka)), (2, .int (nI kn)), (1, .int (nI zt)), (0, .ref h0)]) hx hb dX15_message_137 hl (k := 0) rfl (nI_1 _) (by decide) rfl (fun ls hl => ?_)
                refine lv_goto (tgt := 92) hx hb dX15_message_140 (by decide) ?_
                refine W.widen (k := 0) (n := 0) (by omega) (by omega) ?_
                exact ih_426 (k7 + 1) F_244 (⟨by omega, by omega, rfl⟩) (by show kend - (k7 + 1) < kend - k7; omega) hO hR _ _ hP hD hS ls (lv_sub hl [0, 1, 2, 3, 4, 5, 6, 7] rfl)
              ·
                refine lv_aload_n hx hb dX15_message_112 rfl (lv_at hl 7 rfl) ?_
                refine pg_get (ci := 15) (v := .ref ta) (C := RX15) (T := TX15) (N := 59) hx hb hts it_15 hown hK hP hL_h0 hF_403 rfl 0 (by decide) (hts _ kt_1075) (fun _ h9 => h9) rfl dX15_message_113 ?_
                refine lv_iload hx hb dX15_message_116 (lv_at hl 0 rfl) ?_
                refine pg_bald hx hb hK hP hi_130 1 hF_414 rfl (vp_in_nI (by omega) (by omega)) dX15_message_118 ?_
                refine lv_topi (fun x_479 ex_479 => ?_)
                obtain rfl : x_479 = f_413 k7 := ex_479.trans (congrArg f_413 (show ((nI k7) : Int32).toNatClampNeg = k7 from nI_clamp (by omega)))
                have hFc := pg_free hD hS hA
                refine va_calli (va_runS (As := [.int (f_413 k7)]) (rest := []) ⟨hx, hb, hml, hown, hts⟩ (s_X15_isDigit l dC dI cs ty gm L H.size F_244 (f_413 k7) hW ) ⟨callB_of 1 hts (gi kt_687) rfl rfl rfl (hts _ kt_669) (hts _ kt_707) (by decide +kernel) ⟨Nat.le_of_ble_eq_true rfl, Nat.le_of_ble_eq_true rfl⟩, (hts _ kt_688)⟩ ⟨fun a U g mk q => ⟨q.1, PTm.calling q.2⟩, fun U hU hWm => ⟨rfl, PTm.mk hU hWm hP hK hD hE hO⟩⟩ rfl rfl hl.1 rfl (lv_room (Nat.le_of_ble_eq_true rfl)) dX15_message_119 ⟨by show _ + 0 ≤ 0; omega, by show _ + 0 ≤ 0; omega⟩) hS (fun q _ h => hFc q h) hFc (fun r_480 u t H1 locs ht hvm hw hB hz1 hk1 hS => ?_)
                obtain ⟨F_481, hB1⟩ := hB
                obtain rfl : F_244 = F_481 := (funext (fun a => hB1.2.2.2 a List.not_mem_nil)).symm
                obtain ⟨hP, hD, hO, hR⟩ := QTm.back hB1 ht hFc hR (fun q h => absurd h List.not_mem_nil)
                generalize H1 = H at hP hS ⊢
                have hw : (r_480 = 0 ∨ r_480 = 1) := hw
                have hw_482 := hw
                refine lv_if_ne (tgt := 137) hx hb dX15_message_122 (by decide) (fun c_483 => ?_) (fun c_483 => ?_)
                ·
                  refine lv_iinc (v := (nI (k7 + 1))) (lv' := [(7, .int (nI (k7 + 1))), (6, .int (nI kend)), (5, .int o5), (4, .int (nI kw)), (3, .int (nI ka)), (2, .int (nI kn)), (1, .int (nI zt)), (0, .ref h0)]) hx hb dX15_message_137 hl (k := 0) rfl (nI_1 _) (by decide) rfl (fun ls hl => ?_)
                  refine lv_goto (tgt := 92) hx hb dX15_message_140 (by decide) ?_
                  refine W.widen (k := 0) (n := 0) (by omega) (by omega) ?_
                  exact ih_426 (k7 + 1) F_244 (⟨by omega, by omega, rfl⟩) (by show kend - (k7 + 1) < kend - k7; omega) hO hR _ _ hP hD hS ls (lv_sub hl [0, 1, 2, 3, 4, 5, 6, 7] rfl)
                ·
                  refine lv_aload_n hx hb dX15_message_125 rfl (lv_at hl 7 rfl) ?_
                  refine pg_get (ci := 15) (v := .ref ta) (C := RX15) (T := TX15) (N := 59) hx hb hts it_15 hown hK hP hL_h0 hF_403 rfl 0 (by decide) (hts _ kt_1075) (fun _ h9 => h9) rfl dX15_message_126 ?_
                  refine lv_iload hx hb dX15_message_129 (lv_at hl 0 rfl) ?_
                  refine pg_bald hx hb hK hP hi_130 1 hF_414 rfl (vp_in_nI (by omega) (by omega)) dX15_message_131 ?_
                  refine lv_topi (fun x_484 ex_484 => ?_)
                  obtain rfl : x_484 = f_413 k7 := ex_484.trans (congrArg f_413 (show ((nI k7) : Int32).toNatClampNeg = k7 from nI_clamp (by omega)))
                  refine lv_bipush (v := 45) hx hb dX15_message_132 (by decide) ?_
                  refine lv_icmp_ne (tgt := 143) hx hb dX15_message_134 (by decide) (fun c_485 => ?_) (fun c_485 => ?_)
                  ·
                    refine lv_iload hx hb dX15_message_143 (lv_at hl 0 rfl) ?_
                    refine lv_iload_n hx hb dX15_message_145 rfl (lv_at hl 4 rfl) ?_
                    refine lv_isub hx hb dX15_message_146 ?_
                    refine lv_topi (fun x_486 ex_486 => ?_)
                    obtain rfl : x_486 = (nI (k7 - ka)) := ex_486.trans (pk_sub (a := k7) (b := ka) (by omega))
                    refine lv_i2l (v := (nI (k7 - ka)).toInt64) hx hb dX15_message_147 rfl ?_
                    refine lv_lconst (v := 1) hx hb dX15_message_148 (by decide) ?_
                    refine lv_ldc2 (v := 20) hx hb hown (hts _ kt_865) dX15_message_149 ?_
                    have hFc := pg_free hD hS hA
                    refine va_calli (va_runS (As := [.long ((nI (k7 - ka)).toInt64), .long 1, .long 20]) (rest := []) ⟨hx, hb, hml, hown, hts⟩ (s_X15_in l dC dI cs ty gm L H.size F_244 ((nI (k7 - ka)).toInt64) 1 20 hW ) ⟨callB_of 3 hts (gi kt_685) rfl rfl rfl (hts _ kt_669) (hts _ kt_705) (by decide +kernel) ⟨Nat.le_of_ble_eq_true rfl, Nat.le_of_ble_eq_true rfl⟩, (hts _ kt_686)⟩ ⟨fun a U g mk q => ⟨q.1, PTm.calling q.2⟩, fun U hU hWm => ⟨rfl, PTm.mk hU hWm hP hK hD hE hO⟩⟩ rfl rfl hl.1 rfl (lv_room (Nat.le_of_ble_eq_true rfl)) dX15_message_152 ⟨by show _ + 0 ≤ 0; omega, by show _ + 0 ≤ 0; omega⟩) hS (fun q _ h => hFc q h) hFc (fun r_487 u t H1 locs ht hvm hw hB hz1 hk1 hS => ?_)
                    obtain ⟨F_488, hB1⟩ := hB
                    obtain rfl : F_244 = F_488 := (funext (fun a => hB1.2.2.2 a List.not_mem_nil)).symm
                    obtain ⟨hP, hD, hO, hR⟩ := QTm.back hB1 ht hFc hR (fun q h => absurd h List.not_mem_nil)
                    generalize H1 = H at hP hS ⊢
                    have hw : r_487 = (if 1 ≤ (nI (k7 - ka)).toInt64 ∧ (nI (k7 - ka)).toInt64 ≤ 20 then 1 else 0) := hw
                    have hw_489 := hw
                    refine lv_if_eq (tgt := 183) hx hb dX15_message_155 (by decide) (fun c_490 => ?_) (fun c_490 => ?_)
                    ·
                      refine lv_iconst (v := (-1)) hx hb dX15_message_183 (by decide) ?_
                      refine W.widen (k := 0) (n := 0) (by omega) (by omega) ?_
                      exact W.iret (v := (-1)) hx hb hr (fun t ht hWm => ⟨⟨(-1), (), rfl, trivial, ⟨F_244, ty, gm, nf, bd, mm, hty, QTm.mk ht hP hD hO hR, hW⟩⟩, hS.F ht⟩) hS.2.2 dX15_message_184
                    ·
                      have hin := in_nat (lo := 1) (hi := 20) hw_489 c_490 (by decide) (by decide) (by omega)
                      refine lv_iload hx hb dX15_message_158 (lv_at hl 0 rfl) ?_
                      refine lv_iload hx hb dX15_message_160 (lv_at hl 1 rfl) ?_
                      refine lv_icmp_eq (tgt := 183) hx hb dX15_message_162 (by decide) (fun c_491 => ?_) (fun c_491 => ?_)
                      ·
                        have hi_492 : k7 = kend := (nI_eq (a := k7) (b := kend) (by omega) (by omega)).mp c_491
                        refine lv_iconst (v := (-1)) hx hb dX15_message_183 (by decide) ?_
                        refine W.widen (k := 0) (n := 0) (by omega) (by omega) ?_
                        exact W.iret (v := (-1)) hx hb hr (fun t ht hWm => ⟨⟨(-1), (), rfl, trivial, ⟨F_244, ty, gm, nf, bd, mm, hty, QTm.mk ht hP hD hO hR, hW⟩⟩, hS.F ht⟩) hS.2.2 dX15_message_184
                      ·
                        have hi_493 : k7 ≠ kend := fun q => c_491 (by rw [q])
                        refine lv_aload_n hx hb dX15_message_165 rfl (lv_at hl 7 rfl) ?_
                        refine pg_get (ci := 15) (v := .ref ta) (C := RX15) (T := TX15) (N := 59) hx hb hts it_15 hown hK hP hL_h0 hF_403 rfl 0 (by decide) (hts _ kt_1075) (fun _ h9 => h9) rfl dX15_message_166 ?_
                        refine lv_iload hx hb dX15_message_169 (lv_at hl 0 rfl) ?_
                        refine pg_bald hx hb hK hP hi_130 1 hF_414 rfl (vp_in_nI (by omega) (by omega)) dX15_message_171 ?_
                        refine lv_topi (fun x_494 ex_494 => ?_)
                        obtain rfl : x_494 = f_413 k7 := ex_494.trans (congrArg f_413 (show ((nI k7) : Int32).toNatClampNeg = k7 from nI_clamp (by omega)))
                        refine lv_bipush (v := 58) hx hb dX15_message_172 (by decide) ?_
                        refine lv_icmp_ne (tgt := 183) hx hb dX15_message_174 (by decide) (fun c_495 => ?_) (fun c_495 => ?_)
                        ·
                          refine lv_iconst (v := (-1)) hx hb dX15_message_183 (by decide) ?_
                          refine W.widen (k := 0) (n := 0) (by omega) (by omega) ?_
                          exact W.iret (v := (-1)) hx hb hr (fun t ht hWm => ⟨⟨(-1), (), rfl, trivial, ⟨F_244, ty, gm, nf, bd, mm, hty, QTm.mk ht hP hD hO hR, hW⟩⟩, hS.F ht⟩) hS.2.2 dX15_message_184
                        ·
                          refine lv_iload_n hx hb dX15_message_177 rfl (lv_at hl 5 rfl) ?_
                          refine lv_bipush (v := 20) hx hb dX15_message_178 (by decide) ?_
                          refine lv_icmp_ne (tgt := 185) hx hb dX15_message_180 (by decide) (fun c_496 => ?_) (fun c_496 => ?_)
                          ·
                            have hi_497 : kn ≠ 20 := fun q => c_496 (by rw [q]; rfl)
                            refine lv_aload_n hx hb dX15_message_185 rfl (lv_at hl 7 rfl) ?_
                            refine pg_get (ci := 15) (v := .ref nb0) (C := RX15) (T := TX15) (N := 59) hx hb hts it_15 hown hK hP hL_h0 hF_403 rfl 27 (by decide) (hts _ kt_1079) (fun _ h9 => h9) rfl dX15_message_186 ?_
                            refine lv_iload_n hx hb dX15_message_189 rfl (lv_at hl 5 rfl) ?_
                            refine lv_iload_n hx hb dX15_message_190 rfl (lv_at hl 4 rfl) ?_
                            refine pg_iast hx hb hK hP hD hS hi_161 0 hN0 rfl (vp_in_nI (by omega) (by omega)) dX15_message_191 (fun H locs hP hD hS => ?_)
                            obtain ⟨F_498, he_499, hP, hD, hO, hR⟩ : ∃ G, G = va_up F_244 nb0 (.inl (cs 16, 21, .inl (upd e0 ((nI kn)).toNatClampNeg ((nI ka))))) ∧ va_P (dC, dI) vwCl (va_pl L G) H ∧ va_D A (va_pl L G) ∧ OKm cs ty gm L G ∧ FR ty [ρ, ρ + 8, ρ + 9] F G := ⟨_, rfl, hP, hD, hO.up (shm.idb ht_162 ⟨_, rfl, ixb_upd hIx0 _ _ (by omega)⟩), hR.up ht_162 (by simp)⟩
                            have hF_500 : F_498 nb0 = .inl (cs 16, 21, .inl (upd e0 ((nI kn)).toNatClampNeg ((nI ka)))) := by rw [he_499]; exact up_self
                            have hF_501 : F_498 nb1 = .inl (cs 16, 21, .inl e1) := by rw [he_499, up_ne hn01.symm]; exact hN1
                            have hF_502 : F_498 nb2 = .inl (cs 16, 21, .inl e2) := by rw [he_499, up_ne hn02.symm]; exact hN2
                            have hF_503 : F_498 h0 = .inr (15, (.ref ta) :: (.int (nI 0)) :: (.int (nI zo_387)) :: (.int (nI ze_388)) :: (.ref ou) :: (.ref so) :: (.ref ad) :: (.ref na) :: (.ref va) :: (.ref lc) :: (.ref dm) :: (.int v11_389) :: (.int v12_390) :: (.ref tg) :: (.int v14_391) :: (.int v15_392) :: (.ref pe) :: (.int v17_393) :: (.int v18_394) :: (.int v19_395) :: (.int v20_396) :: (.int v21_397) :: (.int v22_398) :: (.ref ml) :: (.ref bg) :: (.ref co) :: (.ref sp) :: (.ref nb0) :: (.ref nb1) :: (.ref nb2) :: (.int (nI nf)) :: (.int (nI bd)) :: (.int (nI mm)) :: (.int v33_399) :: (.ref pl) :: (.ref se) :: (.ref ke) :: (.ref wi) :: (.ref hs) :: (.ref mo) :: (.ref po) :: (.ref nu) :: (.ref pr) :: (.ref sq) :: (.ref xa) :: (.ref sa) :: (.ref n64) :: (.ref m64) :: (.ref ex) :: (.ref wh) :: (.ref sd) :: (.ref tk) :: (.int v52_400) :: (.int v53_401) :: (.int v54_402) :: (.ref hd) :: (.ref ak) :: (.ref ho) :: (.ref ot) :: []) := by rw [he_499, up_ne (ne_ty hT_h0 ht_162 (by simp))]; exact hF_403
                            have hF_504 : F_498 ta = .inl (cs 17, 3000, .inl f_413) := by rw [he_499, up_ne (ne_ty ht_131 ht_162 (by simp))]; exact hF_414
                            obtain ⟨f_505, hF_500, hq_506, hfe_507⟩ : ∃ f : Nat → Int32, F_498 nb0 = .inl (cs 16, 21, .inl f) ∧ IXB 1280 f ∧ f = upd e0 ((nI kn)).toNatClampNeg ((nI ka)) := ⟨_, hF_500, ixb_upd hIx0 _ _ (by omega), rfl⟩
                            refine lv_aload_n hx hb dX15_message_192 rfl (lv_at hl 7 rfl) ?_
                            refine pg_get (ci := 15) (v := .ref nb1) (C := RX15) (T := TX15) (N := 59) hx hb hts it_15 hown hK hP hL_h0 hF_503 rfl 28 (by decide) (hts _ kt_1080) (fun _ h9 => h9) rfl dX15_message_193 ?_
                            refine lv_iload_n hx hb dX15_message_196 rfl (lv_at hl 5 rfl) ?_
                            refine lv_iload hx hb dX15_message_197 (lv_at hl 0 rfl) ?_
                            refine pg_iast hx hb hK hP hD hS hi_163 0 hF_501 rfl (vp_in_nI (by omega) (by omega)) dX15_message_199 (fun H locs hP hD hS => ?_)
                            obtain ⟨F_508, he_509, hP, hD, hO, hR⟩ : ∃ G, G = va_up F_498 nb1 (.inl (cs 16, 21, .inl (upd e1 ((nI kn)).toNatClampNeg ((nI k7))))) ∧ va_P (dC, dI) vwCl (va_pl L G) H ∧ va_D A (va_pl L G) ∧ OKm cs ty gm L G ∧ FR ty [ρ, ρ + 8, ρ + 9] F G := ⟨_, rfl, hP, hD, hO.up (shm.idb ht_164 ⟨_, rfl, ixb_upd hIx1 _ _ (by omega)⟩), hR.up ht_164 (by simp)⟩
                            have hF_510 : F_508 nb1 = .inl (cs 16, 21, .inl (upd e1 ((nI kn)).toNatClampNeg ((nI k7)))) := by rw [he_509]; exact up_self
                            have hF_511 : F_508 nb0 = .inl (cs 16, 21, .inl f_505) := by rw [he_509, up_ne hn01]; exact hF_500
                            have hF_512 : F_508 nb2 = .inl (cs 16, 21, .inl e2) := by rw [he_509, up_ne hn12.symm]; exact hF_502
                            have hF_513 : F_508 h0 = .inr (15, (.ref ta) :: (.int (nI 0)) :: (.int (nI zo_387)) :: (.int (nI ze_388)) :: (.ref ou) :: (.ref so) :: (.ref ad) :: (.ref na) :: (.ref va) :: (.ref lc) :: (.ref dm) :: (.int v11_389) :: (.int v12_390) :: (.ref tg) :: (.int v14_391) :: (.int v15_392) :: (.ref pe) :: (.int v17_393) :: (.int v18_394) :: (.int v19_395) :: (.int v20_396) :: (.int v21_397) :: (.int v22_398) :: (.ref ml) :: (.ref bg) :: (.ref co) :: (.ref sp) :: (.ref nb0) :: (.ref nb1) :: (.ref nb2) :: (.int (nI nf)) :: (.int (nI bd)) :: (.int (nI mm)) :: (.int v33_399) :: (.ref pl) :: (.ref se) :: (.ref ke) :: (.ref wi) :: (.ref hs) :: (.ref mo) :: (.ref po) :: (.ref nu) :: (.ref pr) :: (.ref sq) :: (.ref xa) :: (.ref sa) :: (.ref n64) :: (.ref m64) :: (.ref ex) :: (.ref wh) :: (.ref sd) :: (.ref tk) :: (.int v52_400) :: (.int v53_401) :: (.int v54_402) :: (.ref hd) :: (.ref ak) :: (.ref ho) :: (.ref ot) :: []) := by rw [he_509, up_ne (ne_ty hT_h0 ht_164 (by simp))]; exact hF_503
                            have hF_514 : F_508 ta = .inl (cs 17, 3000, .inl f_413) := by rw [he_509, up_ne (ne_ty ht_131 ht_164 (by simp))]; exact hF_504
                            obtain ⟨f_515, hF_510, hq_516, hfe_517⟩ : ∃ f : Nat → Int32, F_508 nb1 = .inl (cs 16, 21, .inl f) ∧ IXB 1280 f ∧ f = upd e1 ((nI kn)).toNatClampNeg ((nI k7)) := ⟨_, hF_510, ixb_upd hIx1 _ _ (by omega), rfl⟩
                            refine lv_aload_n hx hb dX15_message_200 rfl (lv_at hl 7 rfl) ?_
                            refine pg_get (ci := 15) (v := .ref nb2) (C := RX15) (T := TX15) (N := 59) hx hb hts it_15 hown hK hP hL_h0 hF_513 rfl 29 (by decide) (hts _ kt_1081) (fun _ h9 => h9) rfl dX15_message_201 ?_
                            refine lv_iload_n hx hb dX15_message_204 rfl (lv_at hl 5 rfl) ?_
                            refine lv_iload hx hb dX15_message_205 (lv_at hl 1 rfl) ?_
                            refine pg_iast hx hb hK hP hD hS hi_165 0 hF_512 rfl (vp_in_nI (by omega) (by omega)) dX15_message_207 (fun H locs hP hD hS => ?_)
                            obtain ⟨F_518, he_519, hP, hD, hO, hR⟩ : ∃ G, G = va_up F_508 nb2 (.inl (cs 16, 21, .inl (upd e2 ((nI kn)).toNatClampNeg ((nI kend))))) ∧ va_P (dC, dI) vwCl (va_pl L G) H ∧ va_D A (va_pl L G) ∧ OKm cs ty gm L G ∧ FR ty [ρ, ρ + 8, ρ + 9] F G := ⟨_, rfl, hP, hD, hO.up (shm.idb ht_166 ⟨_, rfl, ixb_upd hIx2 _ _ (by omega)⟩), hR.up ht_166 (by simp)⟩
                            have hF_520 : F_518 nb2 = .inl (cs 16, 21, .inl (upd e2 ((nI kn)).toNatClampNeg ((nI kend)))) := by rw [he_519]; exact up_self
                            have hF_521 : F_518 nb1 = .inl (cs 16, 21, .inl f_515) := by rw [he_519, up_ne hn12]; exact hF_510
                            have hF_522 : F_518 nb0 = .inl (cs 16, 21, .inl f_505) := by rw [he_519, up_ne hn02]; exact hF_511
                            have hF_523 : F_518 h0 = .inr (15, (.ref ta) :: (.int (nI 0)) :: (.int (nI zo_387)) :: (.int (nI ze_388)) :: (.ref ou) :: (.ref so) :: (.ref ad) :: (.ref na) :: (.ref va) :: (.ref lc) :: (.ref dm) :: (.int v11_389) :: (.int v12_390) :: (.ref tg) :: (.int v14_391) :: (.int v15_392) :: (.ref pe) :: (.int v17_393) :: (.int v18_394) :: (.int v19_395) :: (.int v20_396) :: (.int v21_397) :: (.int v22_398) :: (.ref ml) :: (.ref bg) :: (.ref co) :: (.ref sp) :: (.ref nb0) :: (.ref nb1) :: (.ref nb2) :: (.int (nI nf)) :: (.int (nI bd)) :: (.int (nI mm)) :: (.int v33_399) :: (.ref pl) :: (.ref se) :: (.ref ke) :: (.ref wi) :: (.ref hs) :: (.ref mo) :: (.ref po) :: (.ref nu) :: (.ref pr) :: (.ref sq) :: (.ref xa) :: (.ref sa) :: (.ref n64) :: (.ref m64) :: (.ref ex) :: (.ref wh) :: (.ref sd) :: (.ref tk) :: (.int v52_400) :: (.int v53_401) :: (.int v54_402) :: (.ref hd) :: (.ref ak) :: (.ref ho) :: (.ref ot) :: []) := by rw [he_519, up_ne (ne_ty hT_h0 ht_166 (by simp))]; exact hF_513
                            have hF_524 : F_518 ta = .inl (cs 17, 3000, .inl f_413) := by rw [he_519, up_ne (ne_ty ht_131 ht_166 (by simp))]; exact hF_514
                            obtain ⟨f_525, hF_520, hq_526, hfe_527⟩ : ∃ f : Nat → Int32, F_518 nb2 = .inl (cs 16, 21, .inl f) ∧ IXB 1280 f ∧ f = upd e2 ((nI kn)).toNatClampNeg ((nI kend)) := ⟨_, hF_520, ixb_upd hIx2 _ _ (by omega), rfl⟩
                            refine lv_iinc (v := (nI (kn + 1))) (lv' := [(2, .int (nI (kn + 1))), (7, .int (nI k7)), (6, .int (nI kend)), (5, .int o5), (4, .int (nI kw)), (3, .int (nI ka)), (1, .int (nI zt)), (0, .ref h0)]) hx hb dX15_message_208 hl (k := 5) rfl (nI_1 _) (by decide) rfl (fun ls hl => ?_)
                            refine lv_iload hx hb dX15_message_211 (lv_at hl 2 rfl) ?_
                            refine lv_istore_n (lv' := [(3, .int (nI kend)), (2, .int (nI (kn + 1))), (7, .int (nI k7)), (6, .int (nI kend)), (5, .int o5), (4, .int (nI kw)), (1, .int (nI zt)), (0, .ref h0)]) hx hb dX15_message_213 rfl hl (by decide) rfl (fun ls hl => ?_)
                            refine lv_goto (tgt := 15) hx hb dX15_message_214 (by decide) ?_
                            refine W.widen (k := 0) (n := 0) (by omega) (by omega) ?_
                            exact ih_246 ((kn + 1), kend, kw, o5, f_505, f_515, f_525) F_518 (⟨by omega, by omega, by omega, hvd, (by rw [hfe_507, hfe_517, hfe_527, nI_clamp (by omega)]; exact hFL.add (by omega) (by omega)), hF_522, hF_521, hF_520⟩) (by show zt - kend < zt - ka; omega) hO hR _ _ hP hD hS ls (lv_sub hl [4, 5, 0, 1, 6, 7] rfl)
                          ·
                            have hi_528 : kn = 20 := (nI_eq (a := kn) (b := 20) (by omega) (by omega)).mp c_496
                            refine lv_iconst (v := (-1)) hx hb dX15_message_183 (by decide) ?_
                            refine W.widen (k := 0) (n := 0) (by omega) (by omega) ?_
                            exact W.iret (v := (-1)) hx hb hr (fun t ht hWm => ⟨⟨(-1), (), rfl, trivial, ⟨F_244, ty, gm, nf, bd, mm, hty, QTm.mk ht hP hD hO hR, hW⟩⟩, hS.F ht⟩) hS.2.2 dX15_message_184
                  ·
                    refine lv_iinc (v := (nI (k7 + 1))) (lv' := [(7, .int (nI (k7 + 1))), (6, .int (nI kend)), (5, .int o5), (4, .int (nI kw)), (3, .int (nI ka)), (2, .int (nI kn)), (1, .int (nI zt)), (0, .ref h0)]) hx hb dX15_message_137 hl (k := 0) rfl (nI_1 _) (by decide) rfl (fun ls hl => ?_)
                    refine lv_goto (tgt := 92) hx hb dX15_message_140 (by decide) ?_
                    refine W.widen (k := 0) (n := 0) (by omega) (by omega) ?_
                    exact ih_426 (k7 + 1) F_244 (⟨by omega, by omega, rfl⟩) (by show kend - (k7 + 1) < kend - k7; omega) hO hR _ _ hP hD hS ls (lv_sub hl [0, 1, 2, 3, 4, 5, 6, 7] rfl)
          ·
            refine lv_iload_n hx hb dX15_message_70 rfl (lv_at hl 4 rfl) ?_
            refine lv_if_ne (tgt := 76) hx hb dX15_message_71 (by decide) (fun c_529 => ?_) (fun c_529 => ?_)
            ·
              have hi_530 : kn ≠ 0 := fun q => c_529 (by rw [q]; rfl)
              refine lv_aload_n hx hb dX15_message_76 rfl (lv_at hl 6 rfl) ?_
              refine pg_get (ci := 15) (v := .ref nb2) (C := RX15) (T := TX15) (N := 59) hx hb hts it_15 hown hK hP hL_h0 hF_403 rfl 29 (by decide) (hts _ kt_1081) (fun _ h9 => h9) rfl dX15_message_77 ?_
              refine lv_iload_n hx hb dX15_message_80 rfl (lv_at hl 4 rfl) ?_
              refine lv_iconst (v := 1) hx hb dX15_message_81 (by decide) ?_
              refine lv_isub hx hb dX15_message_82 ?_
              refine lv_topi (fun x_531 ex_531 => ?_)
              obtain rfl : x_531 = (nI (kn - 1)) := ex_531.trans (pk_sub (a := kn) (b := 1) (by omega))
              refine lv_iload hx hb dX15_message_83 (lv_at hl 0 rfl) ?_
              refine pg_iast hx hb hK hP hD hS hi_165 0 hN2 rfl (vp_in_nI (by omega) (by omega)) dX15_message_85 (fun H locs hP hD hS => ?_)
              obtain ⟨F_532, he_533, hP, hD, hO, hR⟩ : ∃ G, G = va_up F_244 nb2 (.inl (cs 16, 21, .inl (upd e2 ((nI (kn - 1))).toNatClampNeg ((nI kend))))) ∧ va_P (dC, dI) vwCl (va_pl L G) H ∧ va_D A (va_pl L G) ∧ OKm cs ty gm L G ∧ FR ty [ρ, ρ + 8, ρ + 9] F G := ⟨_, rfl, hP, hD, hO.up (shm.idb ht_166 ⟨_, rfl, ixb_upd hIx2 _ _ (by omega)⟩), hR.up ht_166 (by simp)⟩
              have hF_534 : F_532 nb2 = .inl (cs 16, 21, .inl (upd e2 ((nI (kn - 1))).toNatClampNeg ((nI kend)))) := by rw [he_533]; exact up_self
              have hF_535 : F_532 nb0 = .inl (cs 16, 21, .inl e0) := by rw [he_533, up_ne hn02]; exact hN0
              have hF_536 : F_532 nb1 = .inl (cs 16, 21, .inl e1) := by rw [he_533, up_ne hn12]; exact hN1
              have hF_537 : F_532 h0 = .inr (15, (.ref ta) :: (.int (nI 0)) :: (.int (nI zo_387)) :: (.int (nI ze_388)) :: (.ref ou) :: (.ref so) :: (.ref ad) :: (.ref na) :: (.ref va) :: (.ref lc) :: (.ref dm) :: (.int v11_389) :: (.int v12_390) :: (.ref tg) :: (.int v14_391) :: (.int v15_392) :: (.ref pe) :: (.int v17_393) :: (.int v18_394) :: (.int v19_395) :: (.int v20_396) :: (.int v21_397) :: (.int v22_398) :: (.ref ml) :: (.ref bg) :: (.ref co) :: (.ref sp) :: (.ref nb0) :: (.ref nb1) :: (.ref nb2) :: (.int (nI nf)) :: (.int (nI bd)) :: (.int (nI mm)) :: (.int v33_399) :: (.ref pl) :: (.ref se) :: (.ref ke) :: (.ref wi) :: (.ref hs) :: (.ref mo) :: (.ref po) :: (.ref nu) :: (.ref pr) :: (.ref sq) :: (.ref xa) :: (.ref sa) :: (.ref n64) :: (.ref m64) :: (.ref ex) :: (.ref wh) :: (.ref sd) :: (.ref tk) :: (.int v52_400) :: (.int v53_401) :: (.int v54_402) :: (.ref hd) :: (.ref ak) :: (.ref ho) :: (.ref ot) :: []) := by rw [he_533, up_ne (ne_ty hT_h0 ht_166 (by simp))]; exact hF_403
              have hF_538 : F_532 ta = .inl (cs 17, 3000, .inl f_413) := by rw [he_533, up_ne (ne_ty ht_131 ht_166 (by simp))]; exact hF_414
              obtain ⟨f_539, hF_534, hq_540, hfe_541⟩ : ∃ f : Nat → Int32, F_532 nb2 = .inl (cs 16, 21, .inl f) ∧ IXB 1280 f ∧ f = upd e2 ((nI (kn - 1))).toNatClampNeg ((nI kend)) := ⟨_, hF_534, ixb_upd hIx2 _ _ (by omega), rfl⟩
              refine lv_goto (tgt := 211) hx hb dX15_message_86 (by decide) ?_
              refine lv_iload hx hb dX15_message_211 (lv_at hl 0 rfl) ?_
              refine lv_istore_n (lv' := [(3, .int (nI kend)), (6, .int (nI kend)), (5, .int o5), (4, .int (nI kw)), (2, .int (nI kn)), (1, .int (nI zt)), (0, .ref h0)]) hx hb dX15_message_213 rfl hl (by decide) rfl (fun ls hl => ?_)
              refine lv_goto (tgt := 15) hx hb dX15_message_214 (by decide) ?_
              refine W.widen (k := 0) (n := 0) (by omega) (by omega) ?_
              exact ih_246 (kn, kend, kw, o5, e0, e1, f_539) F_532 (⟨by omega, by omega, by omega, hvd, (by rw [hfe_541, nI_clamp (by omega)]; exact hFL.stq (by omega) (by omega)), hF_535, hF_536, hF_534⟩) (by show zt - kend < zt - ka; omega) hO hR _ _ hP hD hS ls (lv_sub hl [2, 3, 0, 4, 5, 6] rfl)
            ·
              have hi_542 : kn = 0 := (nI_eq (a := kn) (b := 0) (by omega) (by omega)).mp c_529
              refine lv_iconst (v := (-1)) hx hb dX15_message_74 (by decide) ?_
              refine W.widen (k := 0) (n := 0) (by omega) (by omega) ?_
              exact W.iret (v := (-1)) hx hb hr (fun t ht hWm => ⟨⟨(-1), (), rfl, trivial, ⟨F_244, ty, gm, nf, bd, mm, hty, QTm.mk ht hP hD hO hR, hW⟩⟩, hS.F ht⟩) hS.2.2 dX15_message_75
        ·
          refine lv_iload_n hx hb dX15_message_47 rfl (lv_at hl 3 rfl) ?_
          refine lv_iconst (v := 1) hx hb dX15_message_48 (by decide) ?_
          refine lv_iadd hx hb dX15_message_49 ?_
          refine lv_topi (fun x_543 ex_543 => ?_)
          obtain rfl : x_543 = (nI (ka + 1)) := ex_543.trans (nI_add ka 1)
          refine lv_istore (lv' := [(4, .int (nI (ka + 1))), (6, .int (nI kend)), (5, .int o5), (3, .int (nI ka)), (2, .int (nI kn)), (1, .int (nI zt)), (0, .ref h0)]) hx hb dX15_message_50 hl (by decide) rfl (fun ls hl => ?_)
          refine lv_iconst (v := 0) hx hb dX15_message_52 (by decide) ?_
          refine lv_istore (lv' := [(5, .int 0), (4, .int (nI (ka + 1))), (6, .int (nI kend)), (3, .int (nI ka)), (2, .int (nI kn)), (1, .int (nI zt)), (0, .ref h0)]) hx hb dX15_message_53 hl (by decide) rfl (fun ls hl => ?_)
          refine lv_goto (tgt := 211) hx hb dX15_message_55 (by decide) ?_
          refine lv_iload hx hb dX15_message_211 (lv_at hl 2 rfl) ?_
          refine lv_istore_n (lv' := [(3, .int (nI kend)), (5, .int 0), (4, .int (nI (ka + 1))), (6, .int (nI kend)), (2, .int (nI kn)), (1, .int (nI zt)), (0, .ref h0)]) hx hb dX15_message_213 rfl hl (by decide) rfl (fun ls hl => ?_)
          refine lv_goto (tgt := 15) hx hb dX15_message_214 (by decide) ?_
          refine W.widen (k := 0) (n := 0) (by omega) (by omega) ?_
          exact ih_246 (kn, kend, (ka + 1), 0, e0, e1, e2) F_244 (⟨by omega, by omega, by omega, Or.inr (by omega), hFL.mono (by omega), hN0, hN1, hN2⟩) (by show zt - kend < zt - ka; omega) hO hR _ _ hP hD hS ls (lv_sub hl [1, 2, 0, 4, 5, 6] rfl)
