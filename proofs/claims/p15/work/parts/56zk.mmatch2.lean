theorem kt_1125 : Cond.fieldLink RX15 64 "PostGateModel" "target" "[LPostGateModel$Text;" ∈ tb := tb_at (i := 1302) (by decide +kernel) (by decide +kernel)
theorem dX15_matches_0 : decode cX15_matches 0 = .ok (.aload_n 0, 1) := by decide +kernel
theorem dX15_matches_1 : decode cX15_matches 1 = .ok (.getfield 238, 3) := by decide +kernel
theorem dX15_matches_4 : decode cX15_matches 4 = .ok (.ifCond .ne 5, 3) := by decide +kernel
theorem dX15_matches_7 : decode cX15_matches 7 = .ok (.iconst 1, 1) := by decide +kernel
theorem dX15_matches_8 : decode cX15_matches 8 = .ok (.ireturn, 1) := by decide +kernel
theorem dX15_matches_9 : decode cX15_matches 9 = .ok (.aload_n 0, 1) := by decide +kernel
theorem dX15_matches_10 : decode cX15_matches 10 = .ok (.getfield 238, 3) := by decide +kernel
theorem dX15_matches_13 : decode cX15_matches 13 = .ok (.iconst 4, 1) := by decide +kernel
theorem dX15_matches_14 : decode cX15_matches 14 = .ok (.if_icmp .ne 24, 3) := by decide +kernel
theorem dX15_matches_17 : decode cX15_matches 17 = .ok (.aload_n 0, 1) := by decide +kernel
theorem dX15_matches_18 : decode cX15_matches 18 = .ok (.aload_n 0, 1) := by decide +kernel
theorem dX15_matches_19 : decode cX15_matches 19 = .ok (.getfield 232, 3) := by decide +kernel
theorem dX15_matches_22 : decode cX15_matches 22 = .ok (.aload_n 0, 1) := by decide +kernel
theorem dX15_matches_23 : decode cX15_matches 23 = .ok (.getfield 247, 3) := by decide +kernel
theorem dX15_matches_26 : decode cX15_matches 26 = .ok (.invokevirtual 331, 3) := by decide +kernel
theorem dX15_matches_29 : decode cX15_matches 29 = .ok (.ifCond .eq 7, 3) := by decide +kernel
theorem dX15_matches_32 : decode cX15_matches 32 = .ok (.iconst 1, 1) := by decide +kernel
theorem dX15_matches_33 : decode cX15_matches 33 = .ok (.goto 4, 3) := by decide +kernel
theorem dX15_matches_36 : decode cX15_matches 36 = .ok (.iconst 0, 1) := by decide +kernel
theorem dX15_matches_37 : decode cX15_matches 37 = .ok (.ireturn, 1) := by decide +kernel
theorem dX15_matches_38 : decode cX15_matches 38 = .ok (.aload_n 0, 1) := by decide +kernel
theorem dX15_matches_39 : decode cX15_matches 39 = .ok (.getfield 238, 3) := by decide +kernel
theorem dX15_matches_42 : decode cX15_matches 42 = .ok (.istore 4, 2) := by decide +kernel
theorem dX15_matches_44 : decode cX15_matches 44 = .ok (.aload_n 0, 1) := by decide +kernel
theorem dX15_matches_45 : decode cX15_matches 45 = .ok (.getfield 247, 3) := by decide +kernel
theorem dX15_matches_48 : decode cX15_matches 48 = .ok (.istore 5, 2) := by decide +kernel
theorem dX15_matches_50 : decode cX15_matches 50 = .ok (.aload_n 0, 1) := by decide +kernel
theorem dX15_matches_51 : decode cX15_matches 51 = .ok (.dup, 1) := by decide +kernel
theorem dX15_matches_52 : decode cX15_matches 52 = .ok (.getfield 212, 3) := by decide +kernel
theorem dX15_matches_55 : decode cX15_matches 55 = .ok (.iconst 1, 1) := by decide +kernel
theorem dX15_matches_56 : decode cX15_matches 56 = .ok (.iadd, 1) := by decide +kernel
theorem dX15_matches_57 : decode cX15_matches 57 = .ok (.putfield 212, 3) := by decide +kernel
theorem dX15_matches_60 : decode cX15_matches 60 = .ok (.aload_n 0, 1) := by decide +kernel
theorem dX15_matches_61 : decode cX15_matches 61 = .ok (.getfield 212, 3) := by decide +kernel
theorem dX15_matches_64 : decode cX15_matches 64 = .ok (.bipush 10, 2) := by decide +kernel
theorem dX15_matches_66 : decode cX15_matches 66 = .ok (.if_icmp .le 6, 3) := by decide +kernel
theorem dX15_matches_69 : decode cX15_matches 69 = .ok (.bipush 6, 2) := by decide +kernel
theorem dX15_matches_71 : decode cX15_matches 71 = .ok (.ireturn, 1) := by decide +kernel
theorem dX15_matches_72 : decode cX15_matches 72 = .ok (.aload_n 0, 1) := by decide +kernel
theorem dX15_matches_73 : decode cX15_matches 73 = .ok (.getfield 64, 3) := by decide +kernel
theorem dX15_matches_76 : decode cX15_matches 76 = .ok (.iload_n 3, 1) := by decide +kernel
theorem dX15_matches_77 : decode cX15_matches 77 = .ok (.aaload, 1) := by decide +kernel
theorem dX15_matches_78 : decode cX15_matches 78 = .ok (.astore 6, 2) := by decide +kernel
theorem dX15_matches_80 : decode cX15_matches 80 = .ok (.aload_n 0, 1) := by decide +kernel
theorem dX15_matches_81 : decode cX15_matches 81 = .ok (.getfield 241, 3) := by decide +kernel
theorem dX15_matches_84 : decode cX15_matches 84 = .ok (.ifCond .ge 20, 3) := by decide +kernel
theorem dX15_matches_87 : decode cX15_matches 87 = .ok (.aload 6, 2) := by decide +kernel
theorem dX15_matches_89 : decode cX15_matches 89 = .ok (.aload_n 2, 1) := by decide +kernel
theorem dX15_matches_90 : decode cX15_matches 90 = .ok (.getfield 295, 3) := by decide +kernel
theorem dX15_matches_93 : decode cX15_matches 93 = .ok (.iconst 0, 1) := by decide +kernel
theorem dX15_matches_94 : decode cX15_matches 94 = .ok (.aload_n 2, 1) := by decide +kernel
theorem dX15_matches_95 : decode cX15_matches 95 = .ok (.getfield 190, 3) := by decide +kernel
theorem dX15_matches_98 : decode cX15_matches 98 = .ok (.invokevirtual 186, 3) := by decide +kernel
theorem dX15_matches_101 : decode cX15_matches 101 = .ok (.goto 22, 3) := by decide +kernel
theorem dX15_matches_104 : decode cX15_matches 104 = .ok (.aload_n 0, 1) := by decide +kernel
theorem dX15_matches_105 : decode cX15_matches 105 = .ok (.aload_n 1, 1) := by decide +kernel
theorem dX15_matches_106 : decode cX15_matches 106 = .ok (.getfield 295, 3) := by decide +kernel
theorem dX15_matches_109 : decode cX15_matches 109 = .ok (.aload_n 0, 1) := by decide +kernel
theorem dX15_matches_110 : decode cX15_matches 110 = .ok (.getfield 241, 3) := by decide +kernel
theorem dX15_matches_113 : decode cX15_matches 113 = .ok (.aload_n 0, 1) := by decide +kernel
theorem dX15_matches_114 : decode cX15_matches 114 = .ok (.getfield 244, 3) := by decide +kernel
theorem dX15_matches_117 : decode cX15_matches 117 = .ok (.aload_n 2, 1) := by decide +kernel
theorem dX15_matches_118 : decode cX15_matches 118 = .ok (.aload 6, 2) := by decide +kernel
theorem dX15_matches_120 : decode cX15_matches 120 = .ok (.invokevirtual 328, 3) := by decide +kernel
theorem dX15_matches_123 : decode cX15_matches 123 = .ok (.iload 4, 2) := by decide +kernel
theorem dX15_matches_125 : decode cX15_matches 125 = .ok (.iconst 1, 1) := by decide +kernel
theorem dX15_matches_126 : decode cX15_matches 126 = .ok (.if_icmp .ne 53, 3) := by decide +kernel
theorem dX15_matches_129 : decode cX15_matches 129 = .ok (.aload_n 0, 1) := by decide +kernel
theorem dX15_matches_130 : decode cX15_matches 130 = .ok (.aload 6, 2) := by decide +kernel
theorem dX15_matches_132 : decode cX15_matches 132 = .ok (.iload_n 3, 1) := by decide +kernel
theorem dX15_matches_133 : decode cX15_matches 133 = .ok (.iconst 1, 1) := by decide +kernel
theorem dX15_matches_134 : decode cX15_matches 134 = .ok (.iadd, 1) := by decide +kernel
theorem dX15_matches_135 : decode cX15_matches 135 = .ok (.invokevirtual 218, 3) := by decide +kernel
theorem dX15_matches_138 : decode cX15_matches 138 = .ok (.istore 7, 2) := by decide +kernel
theorem dX15_matches_140 : decode cX15_matches 140 = .ok (.iload 7, 2) := by decide +kernel
theorem dX15_matches_142 : decode cX15_matches 142 = .ok (.iconst 2, 1) := by decide +kernel
theorem dX15_matches_143 : decode cX15_matches 143 = .ok (.if_icmp .ne 7, 3) := by decide +kernel
theorem dX15_matches_146 : decode cX15_matches 146 = .ok (.iconst 1, 1) := by decide +kernel
theorem dX15_matches_147 : decode cX15_matches 147 = .ok (.goto 31, 3) := by decide +kernel
theorem dX15_matches_150 : decode cX15_matches 150 = .ok (.iload 7, 2) := by decide +kernel
theorem dX15_matches_152 : decode cX15_matches 152 = .ok (.iconst 5, 1) := by decide +kernel
theorem dX15_matches_153 : decode cX15_matches 153 = .ok (.if_icmp .ne 7, 3) := by decide +kernel
theorem dX15_matches_156 : decode cX15_matches 156 = .ok (.iconst 5, 1) := by decide +kernel
theorem dX15_matches_157 : decode cX15_matches 157 = .ok (.goto 21, 3) := by decide +kernel
theorem dX15_matches_160 : decode cX15_matches 160 = .ok (.iload 7, 2) := by decide +kernel
theorem dX15_matches_162 : decode cX15_matches 162 = .ok (.bipush 6, 2) := by decide +kernel
theorem dX15_matches_164 : decode cX15_matches 164 = .ok (.if_icmp .eq 8, 3) := by decide +kernel
theorem dX15_matches_167 : decode cX15_matches 167 = .ok (.iload 7, 2) := by decide +kernel
theorem dX15_matches_169 : decode cX15_matches 169 = .ok (.ifCond .ne 8, 3) := by decide +kernel
theorem dX15_matches_172 : decode cX15_matches 172 = .ok (.bipush 6, 2) := by decide +kernel
theorem dX15_matches_174 : decode cX15_matches 174 = .ok (.goto 4, 3) := by decide +kernel
theorem dX15_matches_177 : decode cX15_matches 177 = .ok (.iconst 0, 1) := by decide +kernel
theorem dX15_matches_178 : decode cX15_matches 178 = .ok (.ireturn, 1) := by decide +kernel
theorem dX15_matches_179 : decode cX15_matches 179 = .ok (.aload_n 0, 1) := by decide +kernel
theorem dX15_matches_180 : decode cX15_matches 180 = .ok (.aload 6, 2) := by decide +kernel
theorem dX15_matches_182 : decode cX15_matches 182 = .ok (.invokevirtual 308, 3) := by decide +kernel
theorem dX15_matches_185 : decode cX15_matches 185 = .ok (.ifCond .eq 5, 3) := by decide +kernel
theorem dX15_matches_188 : decode cX15_matches 188 = .ok (.iconst 5, 1) := by decide +kernel
theorem dX15_matches_189 : decode cX15_matches 189 = .ok (.ireturn, 1) := by decide +kernel
theorem dX15_matches_190 : decode cX15_matches 190 = .ok (.iconst 0, 1) := by decide +kernel
theorem dX15_matches_191 : decode cX15_matches 191 = .ok (.istore 7, 2) := by decide +kernel
theorem dX15_matches_193 : decode cX15_matches 193 = .ok (.iconst 0, 1) := by decide +kernel
theorem dX15_matches_194 : decode cX15_matches 194 = .ok (.istore 8, 2) := by decide +kernel
theorem dX15_matches_196 : decode cX15_matches 196 = .ok (.iconst 0, 1) := by decide +kernel
theorem dX15_matches_197 : decode cX15_matches 197 = .ok (.istore 9, 2) := by decide +kernel
theorem dX15_matches_199 : decode cX15_matches 199 = .ok (.iload 9, 2) := by decide +kernel
theorem dX15_matches_201 : decode cX15_matches 201 = .ok (.aload_n 0, 1) := by decide +kernel
theorem dX15_matches_202 : decode cX15_matches 202 = .ok (.getfield 177, 3) := by decide +kernel
theorem dX15_matches_205 : decode cX15_matches 205 = .ok (.if_icmp .ge 68, 3) := by decide +kernel
theorem dX15_matches_208 : decode cX15_matches 208 = .ok (.aload_n 0, 1) := by decide +kernel
theorem dX15_matches_209 : decode cX15_matches 209 = .ok (.iload 9, 2) := by decide +kernel
theorem dX15_matches_211 : decode cX15_matches 211 = .ok (.iload 4, 2) := by decide +kernel
theorem dX15_matches_213 : decode cX15_matches 213 = .ok (.iconst 3, 1) := by decide +kernel
theorem dX15_matches_214 : decode cX15_matches 214 = .ok (.if_icmp .ne 7, 3) := by decide +kernel
theorem dX15_matches_217 : decode cX15_matches 217 = .ok (.iconst 2, 1) := by decide +kernel
theorem dX15_matches_218 : decode cX15_matches 218 = .ok (.goto 4, 3) := by decide +kernel
theorem dX15_matches_221 : decode cX15_matches 221 = .ok (.iconst 1, 1) := by decide +kernel
theorem dX15_matches_222 : decode cX15_matches 222 = .ok (.aload 6, 2) := by decide +kernel
theorem dX15_matches_224 : decode cX15_matches 224 = .ok (.invokevirtual 196, 3) := by decide +kernel
theorem dX15_matches_227 : decode cX15_matches 227 = .ok (.ifCond .ne 6, 3) := by decide +kernel
theorem dX15_matches_230 : decode cX15_matches 230 = .ok (.goto 37, 3) := by decide +kernel
theorem dX15_matches_233 : decode cX15_matches 233 = .ok (.iinc 7 1, 3) := by decide +kernel
theorem dX15_matches_236 : decode cX15_matches 236 = .ok (.iload 4, 2) := by decide +kernel
theorem dX15_matches_238 : decode cX15_matches 238 = .ok (.iconst 3, 1) := by decide +kernel
theorem dX15_matches_239 : decode cX15_matches 239 = .ok (.if_icmp .eq 28, 3) := by decide +kernel
theorem dX15_matches_242 : decode cX15_matches 242 = .ok (.iload 4, 2) := by decide +kernel
theorem dX15_matches_244 : decode cX15_matches 244 = .ok (.iconst 5, 1) := by decide +kernel
theorem dX15_matches_245 : decode cX15_matches 245 = .ok (.if_icmp .eq 19, 3) := by decide +kernel
theorem dX15_matches_248 : decode cX15_matches 248 = .ok (.aload_n 0, 1) := by decide +kernel
theorem dX15_matches_249 : decode cX15_matches 249 = .ok (.aload_n 0, 1) := by decide +kernel
theorem dX15_matches_250 : decode cX15_matches 250 = .ok (.getfield 42, 3) := by decide +kernel
theorem dX15_matches_253 : decode cX15_matches 253 = .ok (.iload 9, 2) := by decide +kernel
theorem dX15_matches_255 : decode cX15_matches 255 = .ok (.iaload, 1) := by decide +kernel
theorem dX15_matches_256 : decode cX15_matches 256 = .ok (.iload 5, 2) := by decide +kernel
theorem dX15_matches_258 : decode cX15_matches 258 = .ok (.invokevirtual 331, 3) := by decide +kernel
theorem dX15_matches_261 : decode cX15_matches 261 = .ok (.ifCond .eq 6, 3) := by decide +kernel
theorem dX15_matches_264 : decode cX15_matches 264 = .ok (.iconst 1, 1) := by decide +kernel
theorem dX15_matches_265 : decode cX15_matches 265 = .ok (.istore 8, 2) := by decide +kernel
theorem dX15_matches_267 : decode cX15_matches 267 = .ok (.iinc 9 1, 3) := by decide +kernel
theorem dX15_matches_270 : decode cX15_matches 270 = .ok (.goto (-71), 3) := by decide +kernel
theorem dX15_matches_273 : decode cX15_matches 273 = .ok (.iload 7, 2) := by decide +kernel
theorem dX15_matches_275 : decode cX15_matches 275 = .ok (.ifCond .ne 24, 3) := by decide +kernel
theorem dX15_matches_278 : decode cX15_matches 278 = .ok (.aload_n 0, 1) := by decide +kernel
theorem dX15_matches_279 : decode cX15_matches 279 = .ok (.dup, 1) := by decide +kernel
theorem dX15_matches_280 : decode cX15_matches 280 = .ok (.getfield 215, 3) := by decide +kernel
theorem dX15_matches_283 : decode cX15_matches 283 = .ok (.iconst 1, 1) := by decide +kernel
theorem dX15_matches_284 : decode cX15_matches 284 = .ok (.iadd, 1) := by decide +kernel
theorem dX15_matches_285 : decode cX15_matches 285 = .ok (.putfield 215, 3) := by decide +kernel
theorem dX15_matches_288 : decode cX15_matches 288 = .ok (.aload_n 0, 1) := by decide +kernel
theorem dX15_matches_289 : decode cX15_matches 289 = .ok (.getfield 215, 3) := by decide +kernel
theorem dX15_matches_292 : decode cX15_matches 292 = .ok (.iconst 2, 1) := by decide +kernel
theorem dX15_matches_293 : decode cX15_matches 293 = .ok (.if_icmp .le 6, 3) := by decide +kernel
theorem dX15_matches_296 : decode cX15_matches 296 = .ok (.bipush 6, 2) := by decide +kernel
theorem dX15_matches_298 : decode cX15_matches 298 = .ok (.ireturn, 1) := by decide +kernel
theorem dX15_matches_299 : decode cX15_matches 299 = .ok (.iload 4, 2) := by decide +kernel
theorem dX15_matches_301 : decode cX15_matches 301 = .ok (.iconst 3, 1) := by decide +kernel
theorem dX15_matches_302 : decode cX15_matches 302 = .ok (.if_icmp .ne 14, 3) := by decide +kernel
theorem dX15_matches_305 : decode cX15_matches 305 = .ok (.aload_n 0, 1) := by decide +kernel
theorem dX15_matches_306 : decode cX15_matches 306 = .ok (.aload 6, 2) := by decide +kernel
theorem dX15_matches_308 : decode cX15_matches 308 = .ok (.iload 5, 2) := by decide +kernel
theorem dX15_matches_310 : decode cX15_matches 310 = .ok (.invokevirtual 335, 3) := by decide +kernel
theorem dX15_matches_313 : decode cX15_matches 313 = .ok (.goto 5, 3) := by decide +kernel
theorem dX15_matches_316 : decode cX15_matches 316 = .ok (.iload 8, 2) := by decide +kernel
theorem dX15_matches_318 : decode cX15_matches 318 = .ok (.ireturn, 1) := by decide +kernel
theorem kt_1156 : Cond.code yX15_exchanges cX15_exchanges 5 (some .int) ∈ tb := tb_at (i := 1627) (by decide +kernel) (by decide +kernel)
theorem kt_1157 : Cond.methodLink RX15 335 yX15_exchanges ∈ tb := tb_at (i := 1624) (by decide +kernel) (by decide +kernel)
theorem kt_1158 : Cond.instanceMethod yX15_exchanges ∈ tb := tb_at (i := 1626) (by decide +kernel) (by decide +kernel)
theorem kt_1159 : Cond.selects RX15 yX15_exchanges yX15_exchanges ∈ tb := tb_at (i := 55) (by decide +kernel) (by decide +kernel)
theorem kt_1160 : Cond.code yX15_check cX15_check 10 (some .int) ∈ tb := tb_at (i := 1525) (by decide +kernel) (by decide +kernel)
theorem kt_1161 : Cond.methodLink RX15 218 yX15_check ∈ tb := tb_at (i := 1522) (by decide +kernel) (by decide +kernel)
theorem kt_1162 : Cond.instanceMethod yX15_check ∈ tb := tb_at (i := 1524) (by decide +kernel) (by decide +kernel)
theorem kt_1163 : Cond.selects RX15 yX15_check yX15_check ∈ tb := tb_at (i := 43) (by decide +kernel) (by decide +kernel)
theorem kt_1164 : Cond.code yX15_expand cX15_expand 8 none ∈ tb := tb_at (i := 1607) (by decide +kernel) (by decide +kernel)
theorem kt_1165 : Cond.methodLink RX15 328 yX15_expand ∈ tb := tb_at (i := 1604) (by decide +kernel) (by decide +kernel)
theorem kt_1166 : Cond.instanceMethod yX15_expand ∈ tb := tb_at (i := 1606) (by decide +kernel) (by decide +kernel)
theorem kt_1167 : Cond.selects RX15 yX15_expand yX15_expand ∈ tb := tb_at (i := 52) (by decide +kernel) (by decide +kernel)
/-- what CHECK at a level may change: the object, the piece, the targets from the level on -/
def tgS (ρ lv : Nat) : List Nat := ρ :: (ρ + 7) :: (List.range (13 - lv)).map (fun j => ρ + 300 + lv + j)
theorem mem_tgS {ρ lv q : Nat} : q ∈ tgS ρ lv ↔ q = ρ ∨ q = ρ + 7 ∨ (ρ + 300 + lv ≤ q ∧ q < ρ + 313) ∧ lv ≤ 13 := by
  unfold tgS
  simp only [List.mem_cons, List.mem_map, List.mem_range]
  constructor
  · rintro (h | h | ⟨j, h1, h2⟩)
    · exact Or.inl h
    · exact Or.inr (Or.inl h)
    · exact Or.inr (Or.inr (by omega))
  · rintro (h | h | ⟨h, -⟩)
    · exact Or.inl h
    · exact Or.inr (Or.inl h)
    · exact Or.inr (Or.inr ⟨q - (ρ + 300 + lv), by omega, by omega⟩)
def mmv (x : Nat) : Nat := if x = 2 then 1 else x
theorem SNE_c {x y : Int32} {w : Nat} : SNE x y w ↔ SNE y x w := by
  have e : x ^^^ y = y ^^^ x := Int32.toBitVec_inj.mp (by rw [Int32.toBitVec_xor, Int32.toBitVec_xor]; exact BitVec.xor_comm _ _)
  unfold SNE
  rw [e]
def YES (D : Nat → ETY) (j k w : Nat) (ad : Int32) (U : List Nat) : Prop := (k = 6 ∧ HAS D j 1 (ooU U) (yU U) (faU U)) ∨ (k = 3 ∧ HAD D j ad w (ooU U) (yU U) (faU U))
theorem yes_n {D : Nat → ETY} {j k w : Nat} {ad : Int32} {U : List Nat} (h : ¬ YES D j k w ad U) (h1 : ¬ (k = 6 ∧ (D j).1 = 1 ∧ SAMN (D j) (ooU U) (yU U) (faU U))) (h2 : ¬ (k = 3 ∧ (D j).1 = 1 ∧ SNE (D j).2.1 ad w ∧ SAMN (D j) (ooU U) (yU U) (faU U))) : ¬ YES D (j + 1) k w ad U := by
  rintro (⟨q1, q2⟩ | ⟨q1, q2⟩)
  · exact absurd q2 (has_s (fun q => h (Or.inl ⟨q1, q⟩)) (fun q => h1 ⟨q1, q⟩))
  · exact absurd q2 (had_s (fun q => h (Or.inr ⟨q1, q⟩)) (fun q => h2 ⟨q1, q⟩))
theorem yes_m {D : Nat → ETY} {j k w : Nat} {ad : Int32} {U : List Nat} (h : YES D j k w ad U) : YES D (j + 1) k w ad U := by
  rcases h with ⟨q1, i, q2, q3⟩ | ⟨q1, i, q2, q3⟩
  · exact Or.inl ⟨q1, i, by omega, q3⟩
  · exact Or.inr ⟨q1, i, by omega, q3⟩
theorem has_m {D : Nat → ETY} {j : Nat} {x oo : Int32} {y : Nat} {fa : Nat → Int32} (h : HAS D j x oo y fa) : HAS D (j + 1) x oo y fa := by
  obtain ⟨i, q2, q3⟩ := h
  exact ⟨i, by omega, q3⟩
/-- a name that was looked up: the answer as the reference gives it -/
theorem lk_t {D : Nat → ETY} {ze : Nat} {ad : Int32} {U : List Nat} {w k vo : Nat} (h : HAS D ze 3 (ooU U) (yU U) (faU U)) : lkU D ze ad U w k vo = (5, vo) := if_pos h
theorem lk_0 {D : Nat → ETY} {ze : Nat} {ad : Int32} {U : List Nat} {w k vo : Nat} (h : ¬ HAS D ze 3 (ooU U) (yU U) (faU U)) (h1 : ¬ HAS D ze (skW k) (ooU U) (yU U) (faU U)) : lkU D ze ad U w k vo = (if 2 < vo + 1 then 6 else 0, vo + 1) := (if_neg h).trans (if_neg h1)
theorem lk_4 {D : Nat → ETY} {ze : Nat} {ad : Int32} {U : List Nat} {w k vo : Nat} (h : ¬ HAS D ze 3 (ooU U) (yU U) (faU U)) (h1 : HAS D ze (skW k) (ooU U) (yU U) (faU U)) (hk : k = 4) : lkU D ze ad U w k vo = (lew D ze (ooU U) (yU U) (faU U) ad w ze 0, vo) := (if_neg h).trans ((if_pos h1).trans (if_pos hk))
theorem lk_y {D : Nat → ETY} {ze : Nat} {ad : Int32} {U : List Nat} {w k vo : Nat} (h : ¬ HAS D ze 3 (ooU U) (yU U) (faU U)) (h1 : HAS D ze (skW k) (ooU U) (yU U) (faU U)) (hk : k = 3 ∨ k = 6) (hy : YES D ze k w ad U) : lkU D ze ad U w k vo = (2, vo) := (if_neg h).trans ((if_pos h1).trans ((if_neg (by omega)).trans (if_pos (hy.imp (fun q => q.1) (fun q => q.2)))))
theorem lk_n {D : Nat → ETY} {ze : Nat} {ad : Int32} {U : List Nat} {w k vo : Nat} (h : ¬ HAS D ze 3 (ooU U) (yU U) (faU U)) (h1 : HAS D ze (skW k) (ooU U) (yU U) (faU U)) (hk : k = 3 ∨ k = 6) (hy : ¬ YES D ze k w ad U) : lkU D ze ad U w k vo = (0, vo) := (if_neg h).trans ((if_pos h1).trans ((if_neg (by omega)).trans (if_neg (fun q => hy (by
  rcases hk with c | c
  · rcases q with q | q
    · omega
    · exact Or.inr ⟨c, q⟩
  · have e : skW k = 1 := if_neg (by omega)
    rw [e] at h1
    exact Or.inl ⟨c, h1⟩)))))
/-- no exchange of the name: none is found -/
theorem lew_none {D : Nat → ETY} {ze : Nat} {oo : Int32} {y : Nat} {fa : Nat → Int32} {ad : Int32} {w : Nat} (h : ¬ HAS D ze 2 oo y fa) : ∀ n k, k + n ≤ ze → lew D ze oo y fa ad w n k = 0 := by
  intro n
  induction n with
  | zero => intro k _; rfl
  | succ n ih =>
    intro k hk
    rw [lew_s, if_neg (fun q => h ⟨k, by omega, q⟩)]
    exact ih (k + 1) (by omega)
theorem TXM.a8 {cs : Nat → ClassId} {F : Nat → va_E} {w n : Nat} {V : List Nat} (h : TXM cs F w n V) : A8 V := by
  obtain ⟨r, z, f, -, -, h3, -⟩ := h
  exact src_a8 h3
theorem a8_q {x : Int32} : A8 (qdL x) := by
  intro j
  rcases Nat.lt_or_ge j (qdL x).length with q | q
  · exact (qdL_ok (x := x)).2 _ (getD_mem _ _ q)
  · rw [gd_out _ _ q]
    omega
set_option maxHeartbeats 4000000 in
set_option maxRecDepth 100000 in
theorem s_X15_matches_x (l : Launch) (dC : Nat → ClassId) (dI : Nat → Nat → Nat) (cs : Nat → ClassId) (ty : TyM) (gm : Nat → Nat → Nat) (L : List Nat) (sz : Nat) (F : Nat → va_E) (h0 : Nat) (ρ : Nat) (ta : Nat) (ou : Nat) (so : Nat) (ad : Nat) (na : Nat) (va : Nat) (lc : Nat) (dm : Nat) (tg : Nat) (pe : Nat) (ml : Nat) (bg : Nat) (co : Nat) (sp : Nat) (nb0 : Nat) (nb1 : Nat) (nb2 : Nat) (pl : Nat) (se : Nat) (ke : Nat) (wi : Nat) (hs : Nat) (mo : Nat) (po : Nat) (nu : Nat) (pr : Nat) (sq : Nat) (xa : Nat) (sa : Nat) (n64 : Nat) (m64 : Nat) (ex : Nat) (wh : Nat) (sd : Nat) (tk : Nat) (hd : Nat) (ak : Nat) (ho : Nat) (ot : Nat) (sx : Nat) (s0 : Nat) (s1 : Nat) (s2 : Nat) (nf : Nat) (bd : Nat) (mm : Nat) (zo : Nat) (fm : Nat) (sn : Nat) (gc : Nat) (gv : Nat) (ze : Nat) (zt : Nat) (rp : Nat) (v17 : Int32) (v18 : Int32) (v19 : Int32) (v20 : Int32) (v21 : Int32) (v22 : Int32) (v33 : Int32) (v52 : Int32) (v53 : Int32) (v54 : Int32) (dd : Nat) (τ : Nat) (rd : Nat) (nd : Nat) (tv : Nat) (rv : Nat) (μ : Nat) (fv : Nat → Int32) (z : Nat) (lv : Nat) (cc : Nat) (vo : Nat) (y : Nat) (k : Nat) (g : Nat) (st : Nat) (q : Nat) (w : Nat) (hf : Nat → Int32) (U : List Nat) (D : Nat → ETY) (LC : List Nat) (DN : List Nat) (R : CKR) (yq : Int32) (fr : Nat) (lo : Nat) (hW : WTm ty gm L) (hL_h0 : h0 ∈ L) (hT_h0 : ty h0 = (15, ρ, [ta, ou, so, ad, na, va, lc, dm, tg, pe, ml, bg, co, sp, nb0, nb1, nb2, pl, se, ke, wi, hs, mo, po, nu, pr, sq, xa, sa, n64, m64, ex, wh, sd, tk, hd, ak, ho, ot, sx, s0, s1, s2, nf, bd, mm, zo, fm, sn, 0, gc, gv, ze, zt])) (hL_pe : pe ∈ L) (hT_pe : ty pe = (14, ρ + 7, [rp, 100])) (hL_dd : dd ∈ L) (hT_dd : ty dd = (14, τ, [rd, nd])) (hL_tv : tv ∈ L) (hT_tv : ty tv = (14, μ, [rv, 700])) (hF0 : F h0 = .inr (15, (.ref ta) :: (.int (nI zt)) :: (.int (nI zo)) :: (.int (nI ze)) :: (.ref ou) :: (.ref so) :: (.ref ad) :: (.ref na) :: (.ref va) :: (.ref lc) :: (.ref dm) :: (.int (nI fm)) :: (.int (nI sn)) :: (.ref tg) :: (.int (nI cc)) :: (.int (nI vo)) :: (.ref pe) :: (.int v17) :: (.int v18) :: (.int v19) :: (.int v20) :: (.int v21) :: (.int v22) :: (.ref ml) :: (.ref bg) :: (.ref co) :: (.ref sp) :: (.ref nb0) :: (.ref nb1) :: (.ref nb2) :: (.int (nI nf)) :: (.int (nI bd)) :: (.int (nI mm)) :: (.int v33) :: (.ref pl) :: (.ref se) :: (.ref ke) :: (.ref wi) :: (.ref hs) :: (.ref mo) :: (.ref po) :: (.ref nu) :: (.ref pr) :: (.ref sq) :: (.ref xa) :: (.ref sa) :: (.ref n64) :: (.ref m64) :: (.ref ex) :: (.ref wh) :: (.ref sd) :: (.ref tk) :: (.int v52) :: (.int v53) :: (.int v54) :: (.ref hd) :: (.ref ak) :: (.ref ho) :: (.ref ot) :: [])) (hzo : zo ≤ 6000) (hze : ze ≤ 40) (h33 : ((v33 = 0 ∧ nf = 0) ∨ (v33 = 1 ∧ 1 ≤ nf))) (h54 : (v54 = 0 ∨ v54 = 1)) (hFt : F tv = .inr (14, [.ref rv, .int (nI z)])) (hFv : F rv = .inl (cs 17, 700, .inl fv)) (hzn : z ≤ 700) (hmu : ρ + 100 ≤ μ) (hmu2 : μ < ρ + 300) (hF1 : F dd = .inr (14, [.ref rd, .int (nI y)])) (hFr1 : F rd = .inl (cs 17, nd, .inl hf)) (hyn : y ≤ nd) (hTU : TGM U y hf) (hDM : DIRM cs F so ad na va ze D) (hLC : TXM cs F lc 30 LC) (hDN : TXM cs F dm 60 DN) (hVN : ∀ k, k < ze → (D k).1 = 2 → SRC (vlL (D k)) (D k).2.2.2.2.1 (D k).2.2.2.2.2 ∧ (D k).2.2.2.2.1 ≤ 60) (hlv : lv ≤ 10) (hlc : lv ≤ cc) (hc10 : cc ≤ 10) (hvo : vo ≤ cc) (hU60 : U.length ≤ 60) (hA8 : A8 U) (hnd : nd ≤ 61) (htr : (τ = ρ + 32 ∨ τ + 1 = ρ + 300 + lv)) (hk : 1 ≤ k ∧ k ≤ 6) (h17 : v17 = nI (k - 1)) (hDq : IMPL (k = 2 ∨ k = 6) (v19 = nI st ∧ v20 = nI q ∧ HSW (TC fv z) st q)) (hAq : IMPL (k = 3 ∨ k = 4) ((st = q ∧ v19 = (-1)) ∨ (st < q ∧ v19 = nI st ∧ v20 = nI q ∧ HSW (TC fv z) st q))) (hWd : IMPL (k = 3 ∨ k = 4 ∨ k = 5) (w ≤ 32 ∧ v21 = nI w)) (hQ : IMPL (k = 5) (v22 = yq)) (hqz : q ≤ z) (hC : ∀ (sz : Nat) (F : Nat → va_E) (v17 : Int32) (v18 : Int32) (v19 : Int32) (v20 : Int32) (v21 : Int32) (v22 : Int32) (v33 : Int32) (v52 : Int32) (v53 : Int32) (v54 : Int32) (dd : Nat) (τ : Nat) (rd : Nat) (nd : Nat) (cc : Nat) (vo : Nat) (y : Nat) (hf : Nat → Int32) (U : List Nat), dd ∈ L → ty dd = (14, τ, [rd, nd]) → (F h0 = .inr (15, (.ref ta) :: (.int (nI zt)) :: (.int (nI zo)) :: (.int (nI ze)) :: (.ref ou) :: (.ref so) :: (.ref ad) :: (.ref na) :: (.ref va) :: (.ref lc) :: (.ref dm) :: (.int (nI fm)) :: (.int (nI sn)) :: (.ref tg) :: (.int (nI cc)) :: (.int (nI vo)) :: (.ref pe) :: (.int v17) :: (.int v18) :: (.int v19) :: (.int v20) :: (.int v21) :: (.int v22) :: (.ref ml) :: (.ref bg) :: (.ref co) :: (.ref sp) :: (.ref nb0) :: (.ref nb1) :: (.ref nb2) :: (.int (nI nf)) :: (.int (nI bd)) :: (.int (nI mm)) :: (.int v33) :: (.ref pl) :: (.ref se) :: (.ref ke) :: (.ref wi) :: (.ref hs) :: (.ref mo) :: (.ref po) :: (.ref nu) :: (.ref pr) :: (.ref sq) :: (.ref xa) :: (.ref sa) :: (.ref n64) :: (.ref m64) :: (.ref ex) :: (.ref wh) :: (.ref sd) :: (.ref tk) :: (.int v52) :: (.int v53) :: (.int v54) :: (.ref hd) :: (.ref ak) :: (.ref ho) :: (.ref ot) :: [])) → (zo ≤ 6000) → (ze ≤ 40) → (((v33 = 0 ∧ nf = 0) ∨ (v33 = 1 ∧ 1 ≤ nf))) → ((v54 = 0 ∨ v54 = 1)) → (F dd = .inr (14, [.ref rd, .int (nI y)])) → (F rd = .inl (cs 17, nd, .inl hf)) → (y ≤ nd) → (TGM U y hf) → (DIRM cs F so ad na va ze D) → (TXM cs F lc 30 LC) → (TXM cs F dm 60 DN) → (lv + 1 ≤ cc) → (cc ≤ 10) → (vo ≤ cc) → (A8 U) → (nd ≤ 61) → ((τ = ρ + 32 ∨ τ + 1 = ρ + 300 + (lv + 1))) → Met l yX15_check (.code yX15_check cX15_check 10 (some .int) :: tb) ({ frames := fr + 0, cells := 0, slots := 0, locals := lo + 0 }) (va_Pc [.ref h0, .ref dd, .int (nI (lv + 1))] (PTEm (dC, dI) cs ty gm L F sz [])) (va_Qi (fun (r : Int32) (gp : Nat × Nat) => (r = nI (R U cc vo).1 ∧ gp = (R U cc vo).2)) (fun (gp : Nat × Nat) T9 => ∃ F2 : Nat → va_E, ∃ u17 : Int32, ∃ u18 : Int32, ∃ u19 : Int32, ∃ u20 : Int32, ∃ u21 : Int32, ∃ u22 : Int32, QTm (dC, dI) cs ty gm L (tgS ρ (lv + 1)) F F2 (va_A (va_pl L F) sz) T9 ∧ F2 h0 = .inr (15, (.ref ta) :: (.int (nI zt)) :: (.int (nI zo)) :: (.int (nI ze)) :: (.ref ou) :: (.ref so) :: (.ref ad) :: (.ref na) :: (.ref va) :: (.ref lc) :: (.ref dm) :: (.int (nI fm)) :: (.int (nI sn)) :: (.ref tg) :: (.int (nI gp.1)) :: (.int (nI gp.2)) :: (.ref pe) :: (.int u17) :: (.int u18) :: (.int u19) :: (.int u20) :: (.int u21) :: (.int u22) :: (.ref ml) :: (.ref bg) :: (.ref co) :: (.ref sp) :: (.ref nb0) :: (.ref nb1) :: (.ref nb2) :: (.int (nI nf)) :: (.int (nI bd)) :: (.int (nI mm)) :: (.int v33) :: (.ref pl) :: (.ref se) :: (.ref ke) :: (.ref wi) :: (.ref hs) :: (.ref mo) :: (.ref po) :: (.ref nu) :: (.ref pr) :: (.ref sq) :: (.ref xa) :: (.ref sa) :: (.ref n64) :: (.ref m64) :: (.ref ex) :: (.ref wh) :: (.ref sd) :: (.ref tk) :: (.int v52) :: (.int v53) :: (.int v54) :: (.ref hd) :: (.ref ak) :: (.ref ho) :: (.ref ot) :: [])) (va_A (va_pl L F) sz)) 0 0 (va_A (va_pl L F) sz)) (hRb : ∀ U c v, (R U c v).1 ≤ 6) : Met l yX15_matches (.code yX15_matches cX15_matches 10 (some .int) :: tb) ({ frames := fr + 5, cells := 0, slots := 0, locals := lo + 129 }) (va_Pc [.ref h0, .ref tv, .ref dd, .int (nI lv)] (PTEm (dC, dI) cs ty gm L F sz [])) (va_Qi (fun (r : Int32) (gp : Nat × Nat) => (r = nI (mmv (mtW D ze (sdM LC DN (nI fm)) (nI fm) R (TC fv z) U (k, g, st, q, w, yq) cc vo).1) ∧ gp = (mtW D ze (sdM LC DN (nI fm)) (nI fm) R (TC fv z) U (k, g, st, q, w, yq) cc vo).2)) (fun (gp : Nat × Nat) T9 => ∃ F2 : Nat → va_E, ∃ u17 : Int32, ∃ u18 : Int32, ∃ u19 : Int32, ∃ u20 : Int32, ∃ u21 : Int32, ∃ u22 : Int32, QTm (dC, dI) cs ty gm L (tgS ρ lv) F F2 (va_A (va_pl L F) sz) T9 ∧ F2 h0 = .inr (15, (.ref ta) :: (.int (nI zt)) :: (.int (nI zo)) :: (.int (nI ze)) :: (.ref ou) :: (.ref so) :: (.ref ad) :: (.ref na) :: (.ref va) :: (.ref lc) :: (.ref dm) :: (.int (nI fm)) :: (.int (nI sn)) :: (.ref tg) :: (.int (nI gp.1)) :: (.int (nI gp.2)) :: (.ref pe) :: (.int u17) :: (.int u18) :: (.int u19) :: (.int u20) :: (.int u21) :: (.int u22) :: (.ref ml) :: (.ref bg) :: (.ref co) :: (.ref sp) :: (.ref nb0) :: (.ref nb1) :: (.ref nb2) :: (.int (nI nf)) :: (.int (nI bd)) :: (.int (nI mm)) :: (.int v33) :: (.ref pl) :: (.ref se) :: (.ref ke) :: (.ref wi) :: (.ref hs) :: (.ref mo) :: (.ref po) :: (.ref nu) :: (.ref pr) :: (.ref sq) :: (.ref xa) :: (.ref sa) :: (.ref n64) :: (.ref m64) :: (.ref ex) :: (.ref wh) :: (.ref sd) :: (.ref tk) :: (.int v52) :: (.int v53) :: (.int v54) :: (.ref hd) :: (.ref ak) :: (.ref ho) :: (.ref ot) :: [])) (va_A (va_pl L F) sz)) 0 0 (va_A (va_pl L F) sz) := by
  refine Met.ofW (cc := cX15_matches) (maxL := 10) (ret := (some .int)) (by decide) rfl ?_
  intro p e s m args below meth c s₁ B hml hv
  obtain ⟨rfl, ⟨hsz, hP, hK, hD0, hE, hO⟩, hG, hX⟩ := hv
  have hx := B.exec
  have hb := B.bytes
  have hr := B.returns
  have hts : ∀ w ∈ tb, w.before _ s = true := fun w h => atoms_spec (ws := .code yX15_matches cX15_matches 10 (some .int) :: tb) B.pre w (List.mem_cons_of_mem _ h)
  have hown : s.vm.findClass RX15 = some m.cls := findClass_of_methodNamed B.named
  have hlocks := B.notSynchronized
  subst hsz
  have hD := hD0.self (sz := s.heap.size)
  generalize hAe : va_A (va_pl L F) s.heap.size = A at hD hG hX ⊢
  have hA : ∀ q : Nat, s.heap.size ≤ q → A q := fun q h => by rw [← hAe]; exact Or.inr h
  have hS : va_S A s.heap s.heap [] := va_S.rf
  have hR : FR ty (tgS ρ lv) F F := FR.refl
  have hl := lv_entry ([.ref h0, .ref tv, .ref dd, .int (nI lv)]) (n := 10) (Nat.le_of_ble_eq_true rfl)
  rw [lg_entry_eq]
  generalize (lg_sl ([.ref h0, .ref tv, .ref dd, .int (nI lv)]) ++ List.replicate (10 - (lg_sl ([.ref h0, .ref tv, .ref dd, .int (nI lv)])).length) Slot.unset).toArray = ls at hl ⊢
  have hl : lv_has ls 10 [(0, .ref h0), (1, .ref tv), (2, .ref dd), (3, .int (nI lv))] := hl
  subst h17
  obtain ⟨hq_22, hq_23, hq_24, hq_25, hq_26, hgO, hgA, hgB, hq_27⟩ := hW.sc hL_h0 hT_h0
  obtain ⟨hi_28, ht_29, hq_30⟩ := hW.txt hL_pe hT_pe
  obtain ⟨hi_31, ht_32, hq_33⟩ := hW.txt hL_dd hT_dd
  obtain ⟨hi_34, ht_35, hq_36⟩ := hW.txt hL_tv hT_tv
  have hO0 := hO
  have hF00 := hF0
  obtain ⟨hLs0, hTs0⟩ := hW.f_so hL_h0 hT_h0
  obtain ⟨hLd0, hTd0⟩ := hW.f_ad hL_h0 hT_h0
  obtain ⟨hLn0, hTn0⟩ := hW.f_na hL_h0 hT_h0
  obtain ⟨hLv0, hTv0⟩ := hW.f_va hL_h0 hT_h0
  have hSU : SRC U y hf := ⟨by have h9 := hTU.1; omega, hTU.2, fun j _ => hA8 j⟩
  have hTD : TXM cs F dd nd U := ⟨rd, y, hf, hF1, hFr1, hSU, hyn⟩
  obtain ⟨hi_37, ht_38⟩ := hW.f_tg hL_h0 hT_h0
  obtain ⟨f_39, hF_40, hq_41⟩ := hO.rtxj hi_37 ht_38
  obtain ⟨hi_42, r_1, ht_43⟩ := hW.f_lc hL_h0 hT_h0
  obtain ⟨hi_44, ht_45, hq_46⟩ := hW.txt hi_42 ht_43
  obtain ⟨z_47, hF_48, hq_49⟩ := hO.txt hi_42 ht_43
  obtain ⟨hi_50, r_2, ht_51⟩ := hW.f_dm hL_h0 hT_h0
  obtain ⟨hi_52, ht_53, hq_54⟩ := hW.txt hi_50 ht_51
  obtain ⟨z_55, hF_56, hq_57⟩ := hO.txt hi_50 ht_51
  refine lv_aload_n hx hb dX15_matches_0 rfl (lv_at hl 0 rfl) ?_
  refine pg_get (ci := 15) (v := .int (nI (k - 1))) (C := RX15) (T := TX15) (N := 59) hx hb hts it_15 hown hK hP hL_h0 hF0 rfl 17 (by decide) (hts _ kt_750) (fun _ h9 => h9) rfl dX15_matches_1 ?_
  refine lv_if_ne (tgt := 9) hx hb dX15_matches_4 (by decide) (fun c_58 => ?_) (fun c_58 => ?_)
  ·
    have hi_59 : (k - 1) ≠ 0 := fun q => c_58 (by rw [q]; rfl)
    have hke1 : ¬ k = 1 := fun q => c_58 (by rw [q]; rfl)
    refine lv_aload_n hx hb dX15_matches_9 rfl (lv_at hl 0 rfl) ?_
    refine pg_get (ci := 15) (v := .int (nI (k - 1))) (C := RX15) (T := TX15) (N := 59) hx hb hts it_15 hown hK hP hL_h0 hF0 rfl 17 (by decide) (hts _ kt_750) (fun _ h9 => h9) rfl dX15_matches_10 ?_
    refine lv_iconst (v := 4) hx hb dX15_matches_13 (by decide) ?_
    refine lv_icmp_ne (tgt := 38) hx hb dX15_matches_14 (by decide) (fun c_60 => ?_) (fun c_60 => ?_)
    ·
      have hi_61 : (k - 1) ≠ 4 := fun q => c_60 (by rw [q]; rfl)
      have hke5 : ¬ k = 5 := fun q => c_60 (by rw [q]; rfl)
      refine lv_aload_n hx hb dX15_matches_38 rfl (lv_at hl 0 rfl) ?_
      refine pg_get (ci := 15) (v := .int (nI (k - 1))) (C := RX15) (T := TX15) (N := 59) hx hb hts it_15 hown hK hP hL_h0 hF0 rfl 17 (by decide) (hts _ kt_750) (fun _ h9 => h9) rfl dX15_matches_39 ?_
      refine lv_istore (lv' := [(4, .int (nI (k - 1))), (0, .ref h0), (1, .ref tv), (2, .ref dd), (3, .int (nI lv))]) hx hb dX15_matches_42 hl (by decide) rfl (fun ls hl => ?_)
      refine lv_aload_n hx hb dX15_matches_44 rfl (lv_at hl 1 rfl) ?_
      refine pg_get (ci := 15) (v := .int v21) (C := RX15) (T := TX15) (N := 59) hx hb hts it_15 hown hK hP hL_h0 hF0 rfl 21 (by decide) (hts _ kt_749) (fun _ h9 => h9) rfl dX15_matches_45 ?_
      refine lv_istore (lv' := [(5, .int v21), (4, .int (nI (k - 1))), (0, .ref h0), (1, .ref tv), (2, .ref dd), (3, .int (nI lv))]) hx hb dX15_matches_48 hl (by decide) rfl (fun ls hl => ?_)
      refine lv_aload_n hx hb dX15_matches_50 rfl (lv_at hl 2 rfl) ?_
      refine lv_dup hx hb dX15_matches_51 rfl ?_
      refine pg_get (ci := 15) (v := .int (nI cc)) (C := RX15) (T := TX15) (N := 59) hx hb hts it_15 hown hK hP hL_h0 hF0 rfl 14 (by decide) (hts _ kt_731) (fun _ h9 => h9) rfl dX15_matches_52 ?_
      refine lv_iconst (v := 1) hx hb dX15_matches_55 (by decide) ?_
      refine lv_iadd hx hb dX15_matches_56 ?_
      refine lv_topi (fun x_62 ex_62 => ?_)
      obtain rfl : x_62 = (nI (cc + 1)) := ex_62.trans (nI_1 cc)
      refine pg_put (ci := 15) (v := .int (nI (cc + 1))) (ty := .int) (C := RX15) (T := TX15) (N := 59) hx hb hts it_15 tyX15 tyX15_ok nmX15 hown hK hP hD hS hL_h0 hF0 rfl 14 (by decide) (hts _ kt_731) (fun _ h9 => h9) rfl (by decide +kernel) (rfl) (rfl) (Nat.le_of_ble_eq_true rfl) dX15_matches_57 (fun H locs hP hD hS => ?_)
      obtain ⟨F_63, he_64, hP, hD, hO, hR⟩ : ∃ G, G = va_up F h0 (.inr (15, (.ref ta) :: (.int (nI zt)) :: (.int (nI zo)) :: (.int (nI ze)) :: (.ref ou) :: (.ref so) :: (.ref ad) :: (.ref na) :: (.ref va) :: (.ref lc) :: (.ref dm) :: (.int (nI fm)) :: (.int (nI sn)) :: (.ref tg) :: (.int (nI (cc + 1))) :: (.int (nI vo)) :: (.ref pe) :: (.int (nI (k - 1))) :: (.int v18) :: (.int v19) :: (.int v20) :: (.int v21) :: (.int v22) :: (.ref ml) :: (.ref bg) :: (.ref co) :: (.ref sp) :: (.ref nb0) :: (.ref nb1) :: (.ref nb2) :: (.int (nI nf)) :: (.int (nI bd)) :: (.int (nI mm)) :: (.int v33) :: (.ref pl) :: (.ref se) :: (.ref ke) :: (.ref wi) :: (.ref hs) :: (.ref mo) :: (.ref po) :: (.ref nu) :: (.ref pr) :: (.ref sq) :: (.ref xa) :: (.ref sa) :: (.ref n64) :: (.ref m64) :: (.ref ex) :: (.ref wh) :: (.ref sd) :: (.ref tk) :: (.int v52) :: (.int v53) :: (.int v54) :: (.ref hd) :: (.ref ak) :: (.ref ho) :: (.ref ot) :: [])) ∧ va_P (dC, dI) vwCl (va_pl L G) H ∧ va_D A (va_pl L G) ∧ OKm cs ty gm L G ∧ FR ty (tgS ρ lv) F G := ⟨_, rfl, hP, hD, hO.up (shm.mod hT_h0 ⟨(nI (cc + 1)), (nI vo), (nI (k - 1)), v18, v19, v20, v21, v22, v33, v52, v53, v54, rfl, (by first | omega | assumption | exact Or.inl rfl | exact Or.inr rfl), (by first | omega | assumption | exact Or.inl rfl | exact Or.inr rfl), (by first | omega | assumption | exact Or.inl rfl | exact Or.inr rfl), (by first | omega | assumption | exact Or.inl rfl | exact Or.inr rfl), (by first | omega | assumption | exact Or.inl rfl | exact Or.inr rfl)⟩), hR.up hT_h0 (by first | (simp only [mem_tgS]; omega) | simp [mem_tgS])⟩
      have hF_65 : F_63 h0 = .inr (15, (.ref ta) :: (.int (nI zt)) :: (.int (nI zo)) :: (.int (nI ze)) :: (.ref ou) :: (.ref so) :: (.ref ad) :: (.ref na) :: (.ref va) :: (.ref lc) :: (.ref dm) :: (.int (nI fm)) :: (.int (nI sn)) :: (.ref tg) :: (.int (nI (cc + 1))) :: (.int (nI vo)) :: (.ref pe) :: (.int (nI (k - 1))) :: (.int v18) :: (.int v19) :: (.int v20) :: (.int v21) :: (.int v22) :: (.ref ml) :: (.ref bg) :: (.ref co) :: (.ref sp) :: (.ref nb0) :: (.ref nb1) :: (.ref nb2) :: (.int (nI nf)) :: (.int (nI bd)) :: (.int (nI mm)) :: (.int v33) :: (.ref pl) :: (.ref se) :: (.ref ke) :: (.ref wi) :: (.ref hs) :: (.ref mo) :: (.ref po) :: (.ref nu) :: (.ref pr) :: (.ref sq) :: (.ref xa) :: (.ref sa) :: (.ref n64) :: (.ref m64) :: (.ref ex) :: (.ref wh) :: (.ref sd) :: (.ref tk) :: (.int v52) :: (.int v53) :: (.int v54) :: (.ref hd) :: (.ref ak) :: (.ref ho) :: (.ref ot) :: []) := by rw [he_64]; exact up_self
      have hF_66 : F_63 tv = .inr (14, [.ref rv, .int (nI z)]) := by rw [he_64, up_ne (ne_ty hT_tv hT_h0 (by simp))]; exact hFt
      have hF_67 : F_63 rv = .inl (cs 17, 700, .inl fv) := by rw [he_64, up_ne (ne_ty ht_35 hT_h0 (by simp))]; exact hFv
      have hF_68 : F_63 dd = .inr (14, [.ref rd, .int (nI y)]) := by rw [he_64, up_ne (ne_ty hT_dd hT_h0 (by simp))]; exact hF1
      have hF_69 : F_63 rd = .inl (cs 17, nd, .inl hf) := by rw [he_64, up_ne (ne_ty ht_32 hT_h0 (by simp))]; exact hFr1
      have hF_70 : F_63 tg = .inl (cs 23, 13, .inr (.inr (.inr (.inr f_39)))) := by rw [he_64, up_ne (ne_ty ht_38 hT_h0 (by simp))]; exact hF_40
      have hF_71 : F_63 lc = .inr (14, [.ref r_1, .int (nI z_47)]) := by rw [he_64, up_ne (ne_ty ht_43 hT_h0 (by simp))]; exact hF_48
      have hF_72 : F_63 dm = .inr (14, [.ref r_2, .int (nI z_55)]) := by rw [he_64, up_ne (ne_ty ht_51 hT_h0 (by simp))]; exact hF_56
      refine lv_aload_n hx hb dX15_matches_60 rfl (lv_at hl 2 rfl) ?_
      refine pg_get (ci := 15) (v := .int (nI (cc + 1))) (C := RX15) (T := TX15) (N := 59) hx hb hts it_15 hown hK hP hL_h0 hF_65 rfl 14 (by decide) (hts _ kt_731) (fun _ h9 => h9) rfl dX15_matches_61 ?_
      refine lv_bipush (v := 10) hx hb dX15_matches_64 (by decide) ?_
      refine lv_icmp_le (tgt := 72) hx hb dX15_matches_66 (by decide) (fun c_73 => ?_) (fun c_73 => ?_)
      ·
        have hi_74 : (cc + 1) ≤ 10 := (nI_leI (a := (cc + 1)) (b := 10) (by omega) (by omega)).mp c_73
        refine lv_aload_n hx hb dX15_matches_72 rfl (lv_at hl 2 rfl) ?_
        refine pg_get (ci := 15) (v := .ref tg) (C := RX15) (T := TX15) (N := 59) hx hb hts it_15 hown hK hP hL_h0 hF_65 rfl 13 (by decide) (hts _ kt_1125) (fun _ h9 => h9) rfl dX15_matches_73 ?_
        refine lv_iload_n hx hb dX15_matches_76 rfl (lv_at hl 5 rfl) ?_
        obtain ⟨b_75, r_76, hbf_77, hi_78, ht_79⟩ := hq_41 lv (by omega)
        refine pg_aald (r := b_75) hx hb hK hP hi_37 7 hF_70 rfl (vp_in_nI (by omega) (by omega)) (show f_39 ((nI lv) : Int32).toNatClampNeg = _ from by rw [show ((nI lv) : Int32) = nI lv from rfl, nI_clamp (by omega)]; exact hbf_77) dX15_matches_77 ?_
        obtain ⟨hi_80, ht_81, hq_82⟩ := hW.txt hi_78 ht_79
        obtain ⟨z_83, hF_84, hq_85⟩ := hO.txt hi_78 ht_79
        obtain ⟨hq_86, hq_87⟩ := hW.octs hi_80 ht_81
        obtain ⟨f_88, hF_89, hq_90⟩ := hO.octs hi_80 ht_81
        refine lv_astore (lv' := [(6, .ref b_75), (5, .int v21), (4, .int (nI (k - 1))), (0, .ref h0), (1, .ref tv), (2, .ref dd), (3, .int (nI lv))]) hx hb dX15_matches_78 hl (by decide) rfl (fun ls hl => ?_)
        have hF_93 : F tv = .inr (14, [.ref rv, .int (nI z)]) := (hR tv (by rw [hT_tv]; simp only [mem_tgS, List.mem_cons, List.not_mem_nil, or_false]; omega)).symm.trans hF_66
        have hF_94 : F rv = .inl (cs 17, 700, .inl fv) := (hR rv (by rw [ht_35]; simp only [mem_tgS, List.mem_cons, List.not_mem_nil, or_false]; omega)).symm.trans hF_67
        have hF_95 : F dd = .inr (14, [.ref rd, .int (nI y)]) := (hR dd (by rw [hT_dd]; simp only [mem_tgS, List.mem_cons, List.not_mem_nil, or_false]; omega)).symm.trans hF_68
        have hF_96 : F rd = .inl (cs 17, nd, .inl hf) := (hR rd (by rw [ht_32]; simp only [mem_tgS, List.mem_cons, List.not_mem_nil, or_false]; omega)).symm.trans hF_69
        have hF_97 : F tg = .inl (cs 23, 13, .inr (.inr (.inr (.inr f_39)))) := (hR tg (by rw [ht_38]; simp only [mem_tgS, List.mem_cons, List.not_mem_nil, or_false]; omega)).symm.trans hF_70
        have hF_98 : F lc = .inr (14, [.ref r_1, .int (nI z_47)]) := (hR lc (by rw [ht_43]; simp only [mem_tgS, List.mem_cons, List.not_mem_nil, or_false]; omega)).symm.trans hF_71
        have hF_99 : F dm = .inr (14, [.ref r_2, .int (nI z_55)]) := (hR dm (by rw [ht_51]; simp only [mem_tgS, List.mem_cons, List.not_mem_nil, or_false]; omega)).symm.trans hF_72
        refine W.widen (k := 0) (n := 0) (by omega) (by omega) ?_
        refine pl_cutm (σ := Nat × (Nat → Int32)) A (dC, dI) cs ty gm L (tgS ρ lv) F 123 10 (fun (y5, f5) => [(6, .ref b_75), (5, .int v21), (4, .int (nI (k - 1))), (0, .ref h0), (1, .ref tv), (2, .ref dd), (3, .int (nI lv))]) (fun (y5, f5) => []) (fun (y5, f5) FF => FF h0 = .inr (15, (.ref ta) :: (.int (nI zt)) :: (.int (nI zo)) :: (.int (nI ze)) :: (.ref ou) :: (.ref so) :: (.ref ad) :: (.ref na) :: (.ref va) :: (.ref lc) :: (.ref dm) :: (.int (nI fm)) :: (.int (nI sn)) :: (.ref tg) :: (.int (nI (cc + 1))) :: (.int (nI vo)) :: (.ref pe) :: (.int (nI (k - 1))) :: (.int v18) :: (.int v19) :: (.int v20) :: (.int v21) :: (.int v22) :: (.ref ml) :: (.ref bg) :: (.ref co) :: (.ref sp) :: (.ref nb0) :: (.ref nb1) :: (.ref nb2) :: (.int (nI nf)) :: (.int (nI bd)) :: (.int (nI mm)) :: (.int v33) :: (.ref pl) :: (.ref se) :: (.ref ke) :: (.ref wi) :: (.ref hs) :: (.ref mo) :: (.ref po) :: (.ref nu) :: (.ref pr) :: (.ref sq) :: (.ref xa) :: (.ref sa) :: (.ref n64) :: (.ref m64) :: (.ref ex) :: (.ref wh) :: (.ref sd) :: (.ref tk) :: (.int v52) :: (.int v53) :: (.int v54) :: (.ref hd) :: (.ref ak) :: (.ref ho) :: (.ref ot) :: []) ∧ FF b_75 = .inr (14, [.ref r_76, .int (nI y5)]) ∧ FF r_76 = .inl (cs 17, 61, .inl f5) ∧ TGM (exT (TC fv z) st q (sdM LC DN (nI fm)) U) y5 f5) ?_ (fun jn_91 => ?_)
        ·
          rintro ⟨y5, f5⟩ F_92 hv_100 hO hR H locs hP hD hS ls hl
          have hl : lv_has ls 10 [(6, .ref b_75), (5, .int v21), (4, .int (nI (k - 1))), (0, .ref h0), (1, .ref tv), (2, .ref dd), (3, .int (nI lv))] := hl
          have hv_100 : F_92 h0 = .inr (15, (.ref ta) :: (.int (nI zt)) :: (.int (nI zo)) :: (.int (nI ze)) :: (.ref ou) :: (.ref so) :: (.ref ad) :: (.ref na) :: (.ref va) :: (.ref lc) :: (.ref dm) :: (.int (nI fm)) :: (.int (nI sn)) :: (.ref tg) :: (.int (nI (cc + 1))) :: (.int (nI vo)) :: (.ref pe) :: (.int (nI (k - 1))) :: (.int v18) :: (.int v19) :: (.int v20) :: (.int v21) :: (.int v22) :: (.ref ml) :: (.ref bg) :: (.ref co) :: (.ref sp) :: (.ref nb0) :: (.ref nb1) :: (.ref nb2) :: (.int (nI nf)) :: (.int (nI bd)) :: (.int (nI mm)) :: (.int v33) :: (.ref pl) :: (.ref se) :: (.ref ke) :: (.ref wi) :: (.ref hs) :: (.ref mo) :: (.ref po) :: (.ref nu) :: (.ref pr) :: (.ref sq) :: (.ref xa) :: (.ref sa) :: (.ref n64) :: (.ref m64) :: (.ref ex) :: (.ref wh) :: (.ref sd) :: (.ref tk) :: (.int v52) :: (.int v53) :: (.int v54) :: (.ref hd) :: (.ref ak) :: (.ref ho) :: (.ref ot) :: []) ∧ F_92 b_75 = .inr (14, [.ref r_76, .int (nI y5)]) ∧ F_92 r_76 = .inl (cs 17, 61, .inl f5) ∧ TGM (exT (TC fv z) st q (sdM LC DN (nI fm)) U) y5 f5 := hv_100
          refine W.eq (g2 := F0 m 123 ls []) rfl ?_
          have hF_101 : F_92 tv = .inr (14, [.ref rv, .int (nI z)]) := (hR tv (by rw [hT_tv]; simp only [mem_tgS, List.mem_cons, List.not_mem_nil, or_false]; omega)).trans hF_93
          have hF_102 : F_92 rv = .inl (cs 17, 700, .inl fv) := (hR rv (by rw [ht_35]; simp only [mem_tgS, List.mem_cons, List.not_mem_nil, or_false]; omega)).trans hF_94
          have hF_103 : F_92 dd = .inr (14, [.ref rd, .int (nI y)]) := (hR dd (by rw [hT_dd]; simp only [mem_tgS, List.mem_cons, List.not_mem_nil, or_false]; omega)).trans hF_95
          have hF_104 : F_92 rd = .inl (cs 17, nd, .inl hf) := (hR rd (by rw [ht_32]; simp only [mem_tgS, List.mem_cons, List.not_mem_nil, or_false]; omega)).trans hF_96
          have hF_105 : F_92 tg = .inl (cs 23, 13, .inr (.inr (.inr (.inr f_39)))) := (hR tg (by rw [ht_38]; simp only [mem_tgS, List.mem_cons, List.not_mem_nil, or_false]; omega)).trans hF_97
          have hF_106 : F_92 lc = .inr (14, [.ref r_1, .int (nI z_47)]) := (hR lc (by rw [ht_43]; simp only [mem_tgS, List.mem_cons, List.not_mem_nil, or_false]; omega)).trans hF_98
          have hF_107 : F_92 dm = .inr (14, [.ref r_2, .int (nI z_55)]) := (hR dm (by rw [ht_51]; simp only [mem_tgS, List.mem_cons, List.not_mem_nil, or_false]; omega)).trans hF_99
          obtain ⟨hj1, hj2, hj3, hj4⟩ := hv_100
          have hQso := hR so (by rw [hTs0]; simp only [mem_tgS, List.mem_cons, List.not_mem_nil, or_false]; omega)
          have hQad := hR ad (by rw [hTd0]; simp only [mem_tgS, List.mem_cons, List.not_mem_nil, or_false]; omega)
          have hQna := hR na (by rw [hTn0]; simp only [mem_tgS, List.mem_cons, List.not_mem_nil, or_false]; omega)
          have hQva := hR va (by rw [hTv0]; simp only [mem_tgS, List.mem_cons, List.not_mem_nil, or_false]; omega)
          have hDM5 := DIRM.fr hDM hO0 hW hLn0 hTn0 hLv0 hTv0 (by omega) hR hQso hQad hQna hQva (fun k hk => ⟨by simp only [mem_tgS, List.mem_cons, List.not_mem_nil, or_false]; omega, by simp only [mem_tgS, List.mem_cons, List.not_mem_nil, or_false]; omega⟩)
          have hLC5 := hLC.fr hO0 hW hi_42 ht_43 hR (by simp only [mem_tgS, List.mem_cons, List.not_mem_nil, or_false]; omega)
          have hDN5 := hDN.fr hO0 hW hi_50 ht_51 hR (by simp only [mem_tgS, List.mem_cons, List.not_mem_nil, or_false]; omega)
          have hTD5 := hTD.fr hO0 hW hL_dd hT_dd hR (by simp only [mem_tgS, List.mem_cons, List.not_mem_nil, or_false]; omega)
          have hy61 := tgm_le hj4
          have hA9 : A8 (exT (TC fv z) st q (sdM LC DN (nI fm)) U) := a8_ex (by rcases (show (k = 2 ∨ k = 6) ∨ (k = 3 ∨ k = 4) by omega) with c9 | c9; exact Or.inr (hDq c9).2.2; rcases hAq c9 with q9 | q9; exact Or.inl q9.1; exact Or.inr q9.2.2.2) ⟨a8_app (a8_app hLC.a8 (a8_one (by omega))) hDN.a8, hLC.a8, hDN.a8, a8_q⟩ hA8
          refine lv_iload hx hb dX15_matches_123 (lv_at hl 2 rfl) ?_
          refine lv_iconst (v := 1) hx hb dX15_matches_125 (by decide) ?_
          refine lv_icmp_ne (tgt := 179) hx hb dX15_matches_126 (by decide) (fun c_108 => ?_) (fun c_108 => ?_)
          ·
            have hi_109 : (k - 1) ≠ 1 := fun q => c_108 (by rw [q]; rfl)
            have hke2 : ¬ k = 2 := fun q => c_108 (by rw [q]; rfl)
            refine lv_aload_n hx hb dX15_matches_179 rfl (lv_at hl 3 rfl) ?_
            refine lv_aload hx hb dX15_matches_180 (lv_at hl 0 rfl) ?_
            have hFc := pg_free hD hS hA
            refine va_calli (va_runV (As := [.ref b_75]) (rest := []) ⟨hx, hb, hml, hown, hts⟩ (s_X15_isTrouble_x l dC dI cs ty gm L H.size F_92 h0 ρ ta ou so ad na va lc dm tg pe ml bg co sp nb0 nb1 nb2 pl se ke wi hs mo po nu pr sq xa sa n64 m64 ex wh sd tk hd ak ho ot sx s0 s1 s2 nf bd mm zo fm sn 0 gc gv ze zt b_75 (ρ + 200 + lv + 100) r_76 61 y5 f5 (exT (TC fv z) st q (sdM LC DN (nI fm)) U) D hW hL_h0 hT_h0 hi_78 ht_79 hj2 hj3 (by omega) (hj4) (hDM5)) ⟨callB_of 1 hts (gi kt_736) rfl rfl rfl (hts _ kt_669) (hts _ kt_737) (by decide +kernel) ⟨by show 3 + 1 ≤ fr + 5; omega, by show 8 + (3 + 11) + 68 ≤ lo + 129; omega⟩, (hts _ kt_738), (hts _ kt_739)⟩ ⟨fun a U g mk q => ⟨q.1, PTm.calling q.2⟩, pg_recv hK hP hL_h0 hj1 (q := (RX15, TX15, 59)) rfl, fun U hU hWm => ⟨rfl, PTm.mk hU hWm hP hK hD hE hO⟩⟩ rfl rfl hl.1 rfl (lv_room (Nat.le_of_ble_eq_true rfl)) dX15_matches_182 ⟨by show _ + 0 ≤ 0; omega, by show _ + 0 ≤ 0; omega⟩) hS (fun q _ h => hFc q h) hFc (fun r_110 u t H1 locs ht hvm hw hB hz1 hk1 hS => ?_)
            obtain ⟨F_111, hB1⟩ := hB
            obtain rfl : F_92 = F_111 := (funext (fun a => hB1.2.2.2 a List.not_mem_nil)).symm
            obtain ⟨hP, hD, hO, hR⟩ := QTm.back hB1 ht hFc hR (fun q h => absurd h List.not_mem_nil)
            generalize H1 = H at hP hS ⊢
            have hw : ((r_110 = 1 ∧ HAS D ze 3 (ooU (exT (TC fv z) st q (sdM LC DN (nI fm)) U)) (yU (exT (TC fv z) st q (sdM LC DN (nI fm)) U)) (faU (exT (TC fv z) st q (sdM LC DN (nI fm)) U))) ∨ (r_110 = 0 ∧ ¬ HAS D ze 3 (ooU (exT (TC fv z) st q (sdM LC DN (nI fm)) U)) (yU (exT (TC fv z) st q (sdM LC DN (nI fm)) U)) (faU (exT (TC fv z) st q (sdM LC DN (nI fm)) U)))) := hw
            have hw_112 := hw
            refine lv_if_eq (tgt := 190) hx hb dX15_matches_185 (by decide) (fun c_113 => ?_) (fun c_113 => ?_)
            ·
              refine lv_iconst (v := 0) hx hb dX15_matches_190 (by decide) ?_
              refine lv_istore (lv' := [(7, .int 0), (6, .ref b_75), (5, .int v21), (4, .int (nI (k - 1))), (0, .ref h0), (1, .ref tv), (2, .ref dd), (3, .int (nI lv))]) hx hb dX15_matches_191 hl (by decide) rfl (fun ls hl => ?_)
              refine lv_iconst (v := 0) hx hb dX15_matches_193 (by decide) ?_
              refine lv_istore (lv' := [(8, .int 0), (7, .int 0), (6, .ref b_75), (5, .int v21), (4, .int (nI (k - 1))), (0, .ref h0), (1, .ref tv), (2, .ref dd), (3, .int (nI lv))]) hx hb dX15_matches_194 hl (by decide) rfl (fun ls hl => ?_)
              refine lv_iconst (v := 0) hx hb dX15_matches_196 (by decide) ?_
              refine lv_istore (lv' := [(9, .int 0), (8, .int 0), (7, .int 0), (6, .ref b_75), (5, .int v21), (4, .int (nI (k - 1))), (0, .ref h0), (1, .ref tv), (2, .ref dd), (3, .int (nI lv))]) hx hb dX15_matches_197 hl (by decide) rfl (fun ls hl => ?_)
              refine W.widen (k := 0) (n := 0) (by omega) (by omega) ?_
              have hF_115 : F tv = .inr (14, [.ref rv, .int (nI z)]) := (hR tv (by rw [hT_tv]; simp only [mem_tgS, List.mem_cons, List.not_mem_nil, or_false]; omega)).symm.trans hF_101
              have hF_116 : F rv = .inl (cs 17, 700, .inl fv) := (hR rv (by rw [ht_35]; simp only [mem_tgS, List.mem_cons, List.not_mem_nil, or_false]; omega)).symm.trans hF_102
              have hF_117 : F dd = .inr (14, [.ref rd, .int (nI y)]) := (hR dd (by rw [hT_dd]; simp only [mem_tgS, List.mem_cons, List.not_mem_nil, or_false]; omega)).symm.trans hF_103
              have hF_118 : F rd = .inl (cs 17, nd, .inl hf) := (hR rd (by rw [ht_32]; simp only [mem_tgS, List.mem_cons, List.not_mem_nil, or_false]; omega)).symm.trans hF_104
              have hF_119 : F tg = .inl (cs 23, 13, .inr (.inr (.inr (.inr f_39)))) := (hR tg (by rw [ht_38]; simp only [mem_tgS, List.mem_cons, List.not_mem_nil, or_false]; omega)).symm.trans hF_105
              have hF_120 : F lc = .inr (14, [.ref r_1, .int (nI z_47)]) := (hR lc (by rw [ht_43]; simp only [mem_tgS, List.mem_cons, List.not_mem_nil, or_false]; omega)).symm.trans hF_106
              have hF_121 : F dm = .inr (14, [.ref r_2, .int (nI z_55)]) := (hR dm (by rw [ht_51]; simp only [mem_tgS, List.mem_cons, List.not_mem_nil, or_false]; omega)).symm.trans hF_107
              refine pl_loopm (σ := Nat × Nat × Int32) A (dC, dI) cs ty gm L (tgS ρ lv) F 199 10 (fun (j, fn, w8) => [(9, .int (nI j)), (8, .int w8), (7, .int (nI fn)), (6, .ref b_75), (5, .int v21), (4, .int (nI (k - 1))), (0, .ref h0), (1, .ref tv), (2, .ref dd), (3, .int (nI lv))]) (fun (j, fn, w8) => []) (fun (j, fn, w8) FF => j ≤ ze ∧ ((fn = 0 ∧ ¬ HAS D j (skW k) (ooU (exT (TC fv z) st q (sdM LC DN (nI fm)) U)) (yU (exT (TC fv z) st q (sdM LC DN (nI fm)) U)) (faU (exT (TC fv z) st q (sdM LC DN (nI fm)) U))) ∨ (0 < fn ∧ fn ≤ j ∧ HAS D j (skW k) (ooU (exT (TC fv z) st q (sdM LC DN (nI fm)) U)) (yU (exT (TC fv z) st q (sdM LC DN (nI fm)) U)) (faU (exT (TC fv z) st q (sdM LC DN (nI fm)) U)))) ∧ ((w8 = 1 ∧ YES D j k w (nI fm) (exT (TC fv z) st q (sdM LC DN (nI fm)) U)) ∨ (w8 = 0 ∧ ¬ YES D j k w (nI fm) (exT (TC fv z) st q (sdM LC DN (nI fm)) U))) ∧ FF h0 = .inr (15, (.ref ta) :: (.int (nI zt)) :: (.int (nI zo)) :: (.int (nI ze)) :: (.ref ou) :: (.ref so) :: (.ref ad) :: (.ref na) :: (.ref va) :: (.ref lc) :: (.ref dm) :: (.int (nI fm)) :: (.int (nI sn)) :: (.ref tg) :: (.int (nI (cc + 1))) :: (.int (nI vo)) :: (.ref pe) :: (.int (nI (k - 1))) :: (.int v18) :: (.int v19) :: (.int v20) :: (.int v21) :: (.int v22) :: (.ref ml) :: (.ref bg) :: (.ref co) :: (.ref sp) :: (.ref nb0) :: (.ref nb1) :: (.ref nb2) :: (.int (nI nf)) :: (.int (nI bd)) :: (.int (nI mm)) :: (.int v33) :: (.ref pl) :: (.ref se) :: (.ref ke) :: (.ref wi) :: (.ref hs) :: (.ref mo) :: (.ref po) :: (.ref nu) :: (.ref pr) :: (.ref sq) :: (.ref xa) :: (.ref sa) :: (.ref n64) :: (.ref m64) :: (.ref ex) :: (.ref wh) :: (.ref sd) :: (.ref tk) :: (.int v52) :: (.int v53) :: (.int v54) :: (.ref hd) :: (.ref ak) :: (.ref ho) :: (.ref ot) :: []) ∧ FF b_75 = .inr (14, [.ref r_76, .int (nI y5)]) ∧ FF r_76 = .inl (cs 17, 61, .inl f5)) (fun (j, fn, w8) => ze - j) ?_ (0, 0, 0) F_92 (⟨Nat.zero_le _, Or.inl ⟨rfl, fun q => by obtain ⟨i9, h9, -⟩ := q; omega⟩, Or.inr ⟨rfl, fun q => by rcases q with ⟨-, i9, h9, -⟩ | ⟨-, i9, h9, -⟩ <;> omega⟩, hj1, hj2, hj3⟩) hO hR _ _ hP hD hS ls (lv_sub hl [0, 1, 2, 3, 4, 5, 6, 7, 8, 9] rfl)
              rintro ⟨j, fn, w8⟩ F_114 hv_122 hO hR ih_123 H locs hP hD hS ls hl
              have hl : lv_has ls 10 [(9, .int (nI j)), (8, .int w8), (7, .int (nI fn)), (6, .ref b_75), (5, .int v21), (4, .int (nI (k - 1))), (0, .ref h0), (1, .ref tv), (2, .ref dd), (3, .int (nI lv))] := hl
              have hv_122 : j ≤ ze ∧ ((fn = 0 ∧ ¬ HAS D j (skW k) (ooU (exT (TC fv z) st q (sdM LC DN (nI fm)) U)) (yU (exT (TC fv z) st q (sdM LC DN (nI fm)) U)) (faU (exT (TC fv z) st q (sdM LC DN (nI fm)) U))) ∨ (0 < fn ∧ fn ≤ j ∧ HAS D j (skW k) (ooU (exT (TC fv z) st q (sdM LC DN (nI fm)) U)) (yU (exT (TC fv z) st q (sdM LC DN (nI fm)) U)) (faU (exT (TC fv z) st q (sdM LC DN (nI fm)) U)))) ∧ ((w8 = 1 ∧ YES D j k w (nI fm) (exT (TC fv z) st q (sdM LC DN (nI fm)) U)) ∨ (w8 = 0 ∧ ¬ YES D j k w (nI fm) (exT (TC fv z) st q (sdM LC DN (nI fm)) U))) ∧ F_114 h0 = .inr (15, (.ref ta) :: (.int (nI zt)) :: (.int (nI zo)) :: (.int (nI ze)) :: (.ref ou) :: (.ref so) :: (.ref ad) :: (.ref na) :: (.ref va) :: (.ref lc) :: (.ref dm) :: (.int (nI fm)) :: (.int (nI sn)) :: (.ref tg) :: (.int (nI (cc + 1))) :: (.int (nI vo)) :: (.ref pe) :: (.int (nI (k - 1))) :: (.int v18) :: (.int v19) :: (.int v20) :: (.int v21) :: (.int v22) :: (.ref ml) :: (.ref bg) :: (.ref co) :: (.ref sp) :: (.ref nb0) :: (.ref nb1) :: (.ref nb2) :: (.int (nI nf)) :: (.int (nI bd)) :: (.int (nI mm)) :: (.int v33) :: (.ref pl) :: (.ref se) :: (.ref ke) :: (.ref wi) :: (.ref hs) :: (.ref mo) :: (.ref po) :: (.ref nu) :: (.ref pr) :: (.ref sq) :: (.ref xa) :: (.ref sa) :: (.ref n64) :: (.ref m64) :: (.ref ex) :: (.ref wh) :: (.ref sd) :: (.ref tk) :: (.int v52) :: (.int v53) :: (.int v54) :: (.ref hd) :: (.ref ak) :: (.ref ho) :: (.ref ot) :: []) ∧ F_114 b_75 = .inr (14, [.ref r_76, .int (nI y5)]) ∧ F_114 r_76 = .inl (cs 17, 61, .inl f5) := hv_122
              refine W.eq (g2 := F0 m 199 ls []) rfl ?_
              have hF_124 : F_114 tv = .inr (14, [.ref rv, .int (nI z)]) := (hR tv (by rw [hT_tv]; simp only [mem_tgS, List.mem_cons, List.not_mem_nil, or_false]; omega)).trans hF_115
              have hF_125 : F_114 rv = .inl (cs 17, 700, .inl fv) := (hR rv (by rw [ht_35]; simp only [mem_tgS, List.mem_cons, List.not_mem_nil, or_false]; omega)).trans hF_116
              have hF_126 : F_114 dd = .inr (14, [.ref rd, .int (nI y)]) := (hR dd (by rw [hT_dd]; simp only [mem_tgS, List.mem_cons, List.not_mem_nil, or_false]; omega)).trans hF_117
              have hF_127 : F_114 rd = .inl (cs 17, nd, .inl hf) := (hR rd (by rw [ht_32]; simp only [mem_tgS, List.mem_cons, List.not_mem_nil, or_false]; omega)).trans hF_118
              have hF_128 : F_114 tg = .inl (cs 23, 13, .inr (.inr (.inr (.inr f_39)))) := (hR tg (by rw [ht_38]; simp only [mem_tgS, List.mem_cons, List.not_mem_nil, or_false]; omega)).trans hF_119
              have hF_129 : F_114 lc = .inr (14, [.ref r_1, .int (nI z_47)]) := (hR lc (by rw [ht_43]; simp only [mem_tgS, List.mem_cons, List.not_mem_nil, or_false]; omega)).trans hF_120
              have hF_130 : F_114 dm = .inr (14, [.ref r_2, .int (nI z_55)]) := (hR dm (by rw [ht_51]; simp only [mem_tgS, List.mem_cons, List.not_mem_nil, or_false]; omega)).trans hF_121
              obtain ⟨hv1, hv2, hv3, hv4, hv5, hv6⟩ := hv_122
              have hQso := hR so (by rw [hTs0]; simp only [mem_tgS, List.mem_cons, List.not_mem_nil, or_false]; omega)
              have hQad := hR ad (by rw [hTd0]; simp only [mem_tgS, List.mem_cons, List.not_mem_nil, or_false]; omega)
              have hQna := hR na (by rw [hTn0]; simp only [mem_tgS, List.mem_cons, List.not_mem_nil, or_false]; omega)
              have hQva := hR va (by rw [hTv0]; simp only [mem_tgS, List.mem_cons, List.not_mem_nil, or_false]; omega)
              have hDM5 := DIRM.fr hDM hO0 hW hLn0 hTn0 hLv0 hTv0 (by omega) hR hQso hQad hQna hQva (fun k hk => ⟨by simp only [mem_tgS, List.mem_cons, List.not_mem_nil, or_false]; omega, by simp only [mem_tgS, List.mem_cons, List.not_mem_nil, or_false]; omega⟩)
              have hLC5 := hLC.fr hO0 hW hi_42 ht_43 hR (by simp only [mem_tgS, List.mem_cons, List.not_mem_nil, or_false]; omega)
              have hDN5 := hDN.fr hO0 hW hi_50 ht_51 hR (by simp only [mem_tgS, List.mem_cons, List.not_mem_nil, or_false]; omega)
              have hTD5 := hTD.fr hO0 hW hL_dd hT_dd hR (by simp only [mem_tgS, List.mem_cons, List.not_mem_nil, or_false]; omega)
              have hfn : fn ≤ 40 := by rcases hv2 with q9 | q9 <;> omega
              obtain ⟨fs, fd, fnn, fvv, hd1, hd2, hd3, hd4, hd5⟩ := id hDM5
              refine lv_iload hx hb dX15_matches_199 (lv_at hl 0 rfl) ?_
              refine lv_aload_n hx hb dX15_matches_201 rfl (lv_at hl 6 rfl) ?_
              refine pg_get (ci := 15) (v := .int (nI ze)) (C := RX15) (T := TX15) (N := 59) hx hb hts it_15 hown hK hP hL_h0 hv4 rfl 3 (by decide) (hts _ kt_724) (fun _ h9 => h9) rfl dX15_matches_202 ?_
              refine lv_icmp_ge (tgt := 273) hx hb dX15_matches_205 (by decide) (fun c_131 => ?_) (fun c_131 => ?_)
              ·
                have hi_132 : ze ≤ j := leN (N := ze) c_131
                refine lv_iload hx hb dX15_matches_273 (lv_at hl 2 rfl) ?_
                refine lv_if_ne (tgt := 299) hx hb dX15_matches_275 (by decide) (fun c_133 => ?_) (fun c_133 => ?_)
                ·
                  have hi_134 : fn ≠ 0 := fun q => c_133 (by rw [q]; rfl)
                  refine lv_iload hx hb dX15_matches_299 (lv_at hl 5 rfl) ?_
                  refine lv_iconst (v := 3) hx hb dX15_matches_301 (by decide) ?_
                  refine lv_icmp_ne (tgt := 316) hx hb dX15_matches_302 (by decide) (fun c_135 => ?_) (fun c_135 => ?_)
                  ·
                    have hi_136 : (k - 1) ≠ 3 := fun q => c_135 (by rw [q]; rfl)
                    have hke4 : ¬ k = 4 := fun q => c_135 (by rw [q]; rfl)
                    refine lv_iload hx hb dX15_matches_316 (lv_at hl 1 rfl) ?_
                    refine W.widen (k := 0) (n := 0) (by omega) (by omega) ?_
                    exact W.iret (v := w8) hx hb hr (fun t ht hWm => ⟨⟨w8, (cc + 1, vo), rfl, (by unfold mtW; rw [if_neg (show ¬ (k, g, st, q, w, yq).1 = 1 from hke1), if_neg (show ¬ (k, g, st, q, w, yq).1 = 5 from hke5), if_neg (show ¬ ((k, g, st, q, w, yq).1 = 7 ∨ (k, g, st, q, w, yq).1 = 8) from fun q => by have h9 : k = 7 ∨ k = 8 := q; omega), if_neg (show ¬ 10 < cc + 1 by omega), if_neg (show ¬ (k, g, st, q, w, yq).1 = 2 from hke2)];  rcases hv3 with q9 | q9; rw [show lkU D ze (nI fm) (exT (TC fv z) (k, g, st, q, w, yq).2.2.1 (k, g, st, q, w, yq).2.2.2.1 (sdM LC DN (nI fm)) U) (k, g, st, q, w, yq).2.2.2.2.1 (k, g, st, q, w, yq).1 vo = _ from lk_y (orp0 hw_112 c_113) (by have h9 := (hv2.resolve_left (fun q9 => c_133 (by rw [q9.1]; rfl))).2.2; rw [(show j = ze by omega)] at h9; exact h9) (by omega) (by rw [← (show j = ze by omega)]; exact q9.2)]; exact ⟨by rw [q9.1]; rfl, rfl⟩; rw [show lkU D ze (nI fm) (exT (TC fv z) (k, g, st, q, w, yq).2.2.1 (k, g, st, q, w, yq).2.2.2.1 (sdM LC DN (nI fm)) U) (k, g, st, q, w, yq).2.2.2.2.1 (k, g, st, q, w, yq).1 vo = _ from lk_n (orp0 hw_112 c_113) (by have h9 := (hv2.resolve_left (fun q9 => c_133 (by rw [q9.1]; rfl))).2.2; rw [(show j = ze by omega)] at h9; exact h9) (by omega) (by rw [← (show j = ze by omega)]; exact q9.2)]; exact ⟨by rw [q9.1]; rfl, rfl⟩), ⟨F_114, (nI (k - 1)), v18, v19, v20, v21, v22, QTm.mk ht hP hD hO hR, hv4⟩⟩, hS.F ht⟩) hS.2.2 dX15_matches_318
                  ·
                    have hi_137 : (k - 1) = 3 := (nI_eq (a := (k - 1)) (b := 3) (by omega) (by omega)).mp c_135
                    have hke4 : k = 4 := (show k = 4 by have h9 := (nI_eq (a := k - 1) (b := 3) (by omega) (by omega)).mp c_135; omega)
                    refine lv_aload_n hx hb dX15_matches_305 rfl (lv_at hl 6 rfl) ?_
                    refine lv_aload hx hb dX15_matches_306 (lv_at hl 3 rfl) ?_
                    refine lv_iload hx hb dX15_matches_308 (lv_at hl 4 rfl) ?_
                    have hQso := hR so (by rw [hTs0]; simp only [mem_tgS, List.mem_cons, List.not_mem_nil, or_false]; omega)
                    have hQad := hR ad (by rw [hTd0]; simp only [mem_tgS, List.mem_cons, List.not_mem_nil, or_false]; omega)
                    have hQna := hR na (by rw [hTn0]; simp only [mem_tgS, List.mem_cons, List.not_mem_nil, or_false]; omega)
                    have hQva := hR va (by rw [hTv0]; simp only [mem_tgS, List.mem_cons, List.not_mem_nil, or_false]; omega)
                    have hDM5 := DIRM.fr hDM hO0 hW hLn0 hTn0 hLv0 hTv0 (by omega) hR hQso hQad hQna hQva (fun k hk => ⟨by simp only [mem_tgS, List.mem_cons, List.not_mem_nil, or_false]; omega, by simp only [mem_tgS, List.mem_cons, List.not_mem_nil, or_false]; omega⟩)
                    have hLC5 := hLC.fr hO0 hW hi_42 ht_43 hR (by simp only [mem_tgS, List.mem_cons, List.not_mem_nil, or_false]; omega)
                    have hDN5 := hDN.fr hO0 hW hi_50 ht_51 hR (by simp only [mem_tgS, List.mem_cons, List.not_mem_nil, or_false]; omega)
                    have hTD5 := hTD.fr hO0 hW hL_dd hT_dd hR (by simp only [mem_tgS, List.mem_cons, List.not_mem_nil, or_false]; omega)
                    refine lv_topi (fun x9 ex9 => ?_)
                    obtain rfl : x9 = nI w := ex9.trans (hWd (by omega)).2
                    have hFc := pg_free hD hS hA
                    refine va_calli (va_runV (As := [.ref b_75, .int (nI w)]) (rest := []) ⟨hx, hb, hml, hown, hts⟩ (s_X15_exchanges_x l dC dI cs ty gm L H.size F_114 h0 ρ ta ou so ad na va lc dm tg pe ml bg co sp nb0 nb1 nb2 pl se ke wi hs mo po nu pr sq xa sa n64 m64 ex wh sd tk hd ak ho ot sx s0 s1 s2 nf bd mm zo fm sn 0 gc gv ze zt b_75 (ρ + 200 + lv + 100) r_76 61 y5 f5 (exT (TC fv z) st q (sdM LC DN (nI fm)) U) D w hW hL_h0 hT_h0 hi_78 ht_79 hv5 hv6 (by omega) (hj4) (hDM5) ((hWd (by omega)).1) (hVN)) ⟨callB_of 2 hts (gi kt_1156) rfl rfl rfl (hts _ kt_669) (hts _ kt_1157) (by decide +kernel) ⟨by show 4 + 1 ≤ fr + 5; omega, by show 8 + (5 + 11) + 90 ≤ lo + 129; omega⟩, (hts _ kt_1158), (hts _ kt_1159)⟩ ⟨fun a U g mk q => ⟨q.1, PTm.calling q.2⟩, pg_recv hK hP hL_h0 hv4 (q := (RX15, TX15, 59)) rfl, fun U hU hWm => ⟨rfl, PTm.mk hU hWm hP hK hD hE hO⟩⟩ rfl rfl hl.1 rfl (lv_room (Nat.le_of_ble_eq_true rfl)) dX15_matches_310 ⟨by show _ + 0 ≤ 0; omega, by show _ + 0 ≤ 0; omega⟩) hS (fun q _ h => hFc q h) hFc (fun r_138 u t H1 locs ht hvm hw hB hz1 hk1 hS => ?_)
                    obtain ⟨F_139, hB1⟩ := hB
                    obtain rfl : F_114 = F_139 := (funext (fun a => hB1.2.2.2 a List.not_mem_nil)).symm
                    obtain ⟨hP, hD, hO, hR⟩ := QTm.back hB1 ht hFc hR (fun q h => absurd h List.not_mem_nil)
                    generalize H1 = H at hP hS ⊢
                    have hw : r_138 = nI (if lew D ze (ooU (exT (TC fv z) st q (sdM LC DN (nI fm)) U)) (yU (exT (TC fv z) st q (sdM LC DN (nI fm)) U)) (faU (exT (TC fv z) st q (sdM LC DN (nI fm)) U)) (nI fm) w ze 0 = 2 then 1 else lew D ze (ooU (exT (TC fv z) st q (sdM LC DN (nI fm)) U)) (yU (exT (TC fv z) st q (sdM LC DN (nI fm)) U)) (faU (exT (TC fv z) st q (sdM LC DN (nI fm)) U)) (nI fm) w ze 0) := hw
                    have hw_140 := hw
                    refine lv_goto (tgt := 318) hx hb dX15_matches_313 (by decide) ?_
                    refine W.widen (k := 0) (n := 0) (by omega) (by omega) ?_
                    exact W.iret (v := r_138) hx hb hr (fun t ht hWm => ⟨⟨r_138, (cc + 1, vo), rfl, (by unfold mtW; rw [if_neg (show ¬ (k, g, st, q, w, yq).1 = 1 from hke1), if_neg (show ¬ (k, g, st, q, w, yq).1 = 5 from hke5), if_neg (show ¬ ((k, g, st, q, w, yq).1 = 7 ∨ (k, g, st, q, w, yq).1 = 8) from fun q => by have h9 : k = 7 ∨ k = 8 := q; omega), if_neg (show ¬ 10 < cc + 1 by omega), if_neg (show ¬ (k, g, st, q, w, yq).1 = 2 from hke2)]; rw [show lkU D ze (nI fm) (exT (TC fv z) (k, g, st, q, w, yq).2.2.1 (k, g, st, q, w, yq).2.2.2.1 (sdM LC DN (nI fm)) U) (k, g, st, q, w, yq).2.2.2.2.1 (k, g, st, q, w, yq).1 vo = _ from lk_4 (orp0 hw_112 c_113) (by have h9 := (hv2.resolve_left (fun q9 => c_133 (by rw [q9.1]; rfl))).2.2; rw [(show j = ze by omega)] at h9; exact h9) hke4]; exact ⟨hw_140, rfl⟩), ⟨F_114, (nI (k - 1)), v18, v19, v20, v21, v22, QTm.mk ht hP hD hO hR, hv4⟩⟩, hS.F ht⟩) hS.2.2 dX15_matches_318
                ·
                  have hi_141 : fn = 0 := (nI_eq (a := fn) (b := 0) (by omega) (by omega)).mp c_133
                  refine lv_aload_n hx hb dX15_matches_278 rfl (lv_at hl 6 rfl) ?_
                  refine lv_dup hx hb dX15_matches_279 rfl ?_
                  refine pg_get (ci := 15) (v := .int (nI vo)) (C := RX15) (T := TX15) (N := 59) hx hb hts it_15 hown hK hP hL_h0 hv4 rfl 15 (by decide) (hts _ kt_730) (fun _ h9 => h9) rfl dX15_matches_280 ?_
                  refine lv_iconst (v := 1) hx hb dX15_matches_283 (by decide) ?_
                  refine lv_iadd hx hb dX15_matches_284 ?_
                  refine lv_topi (fun x_142 ex_142 => ?_)
                  obtain rfl : x_142 = (nI (vo + 1)) := ex_142.trans (nI_1 vo)
                  refine pg_put (ci := 15) (v := .int (nI (vo + 1))) (ty := .int) (C := RX15) (T := TX15) (N := 59) hx hb hts it_15 tyX15 tyX15_ok nmX15 hown hK hP hD hS hL_h0 hv4 rfl 15 (by decide) (hts _ kt_730) (fun _ h9 => h9) rfl (by decide +kernel) (rfl) (rfl) (Nat.le_of_ble_eq_true rfl) dX15_matches_285 (fun H locs hP hD hS => ?_)
                  obtain ⟨F_143, he_144, hP, hD, hO, hR⟩ : ∃ G, G = va_up F_114 h0 (.inr (15, (.ref ta) :: (.int (nI zt)) :: (.int (nI zo)) :: (.int (nI ze)) :: (.ref ou) :: (.ref so) :: (.ref ad) :: (.ref na) :: (.ref va) :: (.ref lc) :: (.ref dm) :: (.int (nI fm)) :: (.int (nI sn)) :: (.ref tg) :: (.int (nI (cc + 1))) :: (.int (nI (vo + 1))) :: (.ref pe) :: (.int (nI (k - 1))) :: (.int v18) :: (.int v19) :: (.int v20) :: (.int v21) :: (.int v22) :: (.ref ml) :: (.ref bg) :: (.ref co) :: (.ref sp) :: (.ref nb0) :: (.ref nb1) :: (.ref nb2) :: (.int (nI nf)) :: (.int (nI bd)) :: (.int (nI mm)) :: (.int v33) :: (.ref pl) :: (.ref se) :: (.ref ke) :: (.ref wi) :: (.ref hs) :: (.ref mo) :: (.ref po) :: (.ref nu) :: (.ref pr) :: (.ref sq) :: (.ref xa) :: (.ref sa) :: (.ref n64) :: (.ref m64) :: (.ref ex) :: (.ref wh) :: (.ref sd) :: (.ref tk) :: (.int v52) :: (.int v53) :: (.int v54) :: (.ref hd) :: (.ref ak) :: (.ref ho) :: (.ref ot) :: [])) ∧ va_P (dC, dI) vwCl (va_pl L G) H ∧ va_D A (va_pl L G) ∧ OKm cs ty gm L G ∧ FR ty (tgS ρ lv) F G := ⟨_, rfl, hP, hD, hO.up (shm.mod hT_h0 ⟨(nI (cc + 1)), (nI (vo + 1)), (nI (k - 1)), v18, v19, v20, v21, v22, v33, v52, v53, v54, rfl, (by first | omega | assumption | exact Or.inl rfl | exact Or.inr rfl), (by first | omega | assumption | exact Or.inl rfl | exact Or.inr rfl), (by first | omega | assumption | exact Or.inl rfl | exact Or.inr rfl), (by first | omega | assumption | exact Or.inl rfl | exact Or.inr rfl), (by first | omega | assumption | exact Or.inl rfl | exact Or.inr rfl)⟩), hR.up hT_h0 (by first | (simp only [mem_tgS]; omega) | simp [mem_tgS])⟩
                  have hF_145 : F_143 h0 = .inr (15, (.ref ta) :: (.int (nI zt)) :: (.int (nI zo)) :: (.int (nI ze)) :: (.ref ou) :: (.ref so) :: (.ref ad) :: (.ref na) :: (.ref va) :: (.ref lc) :: (.ref dm) :: (.int (nI fm)) :: (.int (nI sn)) :: (.ref tg) :: (.int (nI (cc + 1))) :: (.int (nI (vo + 1))) :: (.ref pe) :: (.int (nI (k - 1))) :: (.int v18) :: (.int v19) :: (.int v20) :: (.int v21) :: (.int v22) :: (.ref ml) :: (.ref bg) :: (.ref co) :: (.ref sp) :: (.ref nb0) :: (.ref nb1) :: (.ref nb2) :: (.int (nI nf)) :: (.int (nI bd)) :: (.int (nI mm)) :: (.int v33) :: (.ref pl) :: (.ref se) :: (.ref ke) :: (.ref wi) :: (.ref hs) :: (.ref mo) :: (.ref po) :: (.ref nu) :: (.ref pr) :: (.ref sq) :: (.ref xa) :: (.ref sa) :: (.ref n64) :: (.ref m64) :: (.ref ex) :: (.ref wh) :: (.ref sd) :: (.ref tk) :: (.int v52) :: (.int v53) :: (.int v54) :: (.ref hd) :: (.ref ak) :: (.ref ho) :: (.ref ot) :: []) := by rw [he_144]; exact up_self
                  have hF_146 : F_143 tv = .inr (14, [.ref rv, .int (nI z)]) := by rw [he_144, up_ne (ne_ty hT_tv hT_h0 (by simp))]; exact hF_124
                  have hF_147 : F_143 rv = .inl (cs 17, 700, .inl fv) := by rw [he_144, up_ne (ne_ty ht_35 hT_h0 (by simp))]; exact hF_125
                  have hF_148 : F_143 dd = .inr (14, [.ref rd, .int (nI y)]) := by rw [he_144, up_ne (ne_ty hT_dd hT_h0 (by simp))]; exact hF_126
                  have hF_149 : F_143 rd = .inl (cs 17, nd, .inl hf) := by rw [he_144, up_ne (ne_ty ht_32 hT_h0 (by simp))]; exact hF_127
                  have hF_150 : F_143 tg = .inl (cs 23, 13, .inr (.inr (.inr (.inr f_39)))) := by rw [he_144, up_ne (ne_ty ht_38 hT_h0 (by simp))]; exact hF_128
                  have hF_151 : F_143 lc = .inr (14, [.ref r_1, .int (nI z_47)]) := by rw [he_144, up_ne (ne_ty ht_43 hT_h0 (by simp))]; exact hF_129
                  have hF_152 : F_143 dm = .inr (14, [.ref r_2, .int (nI z_55)]) := by rw [he_144, up_ne (ne_ty ht_51 hT_h0 (by simp))]; exact hF_130
                  have hF_153 : F_143 b_75 = .inr (14, [.ref r_76, .int (nI y5)]) := by rw [he_144, up_ne (ne_ty ht_79 hT_h0 (by simp))]; exact hv5
                  have hF_154 : F_143 r_76 = .inl (cs 17, 61, .inl f5) := by rw [he_144, up_ne (ne_ty ht_81 hT_h0 (by simp))]; exact hv6
                  obtain ⟨hi_156, ht_157⟩ := hW.f_ad hL_h0 hT_h0
                  have hF_155 : F_143 ad = .inl (cs 16, 40, .inl fd) := by rw [he_144, up_ne (ne_ty ht_157 hT_h0 (by simp))]; exact hd2
                  refine lv_aload_n hx hb dX15_matches_288 rfl (lv_at hl 6 rfl) ?_
                  refine pg_get (ci := 15) (v := .int (nI (vo + 1))) (C := RX15) (T := TX15) (N := 59) hx hb hts it_15 hown hK hP hL_h0 hF_145 rfl 15 (by decide) (hts _ kt_730) (fun _ h9 => h9) rfl dX15_matches_289 ?_
                  refine lv_iconst (v := 2) hx hb dX15_matches_292 (by decide) ?_
                  refine lv_icmp_le (tgt := 299) hx hb dX15_matches_293 (by decide) (fun c_158 => ?_) (fun c_158 => ?_)
                  ·
                    have hi_159 : (vo + 1) ≤ 2 := (nI_leI (a := (vo + 1)) (b := 2) (by omega) (by omega)).mp c_158
                    refine lv_iload hx hb dX15_matches_299 (lv_at hl 5 rfl) ?_
                    refine lv_iconst (v := 3) hx hb dX15_matches_301 (by decide) ?_
                    refine lv_icmp_ne (tgt := 316) hx hb dX15_matches_302 (by decide) (fun c_160 => ?_) (fun c_160 => ?_)
                    ·
                      have hi_161 : (k - 1) ≠ 3 := fun q => c_160 (by rw [q]; rfl)
                      have hke4 : ¬ k = 4 := fun q => c_160 (by rw [q]; rfl)
                      refine lv_iload hx hb dX15_matches_316 (lv_at hl 1 rfl) ?_
                      refine W.widen (k := 0) (n := 0) (by omega) (by omega) ?_
                      exact W.iret (v := w8) hx hb hr (fun t ht hWm => ⟨⟨w8, (cc + 1, vo + 1), rfl, (by unfold mtW; rw [if_neg (show ¬ (k, g, st, q, w, yq).1 = 1 from hke1), if_neg (show ¬ (k, g, st, q, w, yq).1 = 5 from hke5), if_neg (show ¬ ((k, g, st, q, w, yq).1 = 7 ∨ (k, g, st, q, w, yq).1 = 8) from fun q => by have h9 : k = 7 ∨ k = 8 := q; omega), if_neg (show ¬ 10 < cc + 1 by omega), if_neg (show ¬ (k, g, st, q, w, yq).1 = 2 from hke2)]; rw [show lkU D ze (nI fm) (exT (TC fv z) (k, g, st, q, w, yq).2.2.1 (k, g, st, q, w, yq).2.2.2.1 (sdM LC DN (nI fm)) U) (k, g, st, q, w, yq).2.2.2.2.1 (k, g, st, q, w, yq).1 vo = _ from lk_0 (orp0 hw_112 c_113) (by have h9 := (hv2.resolve_right (fun q9 => by have h8 : fn = 0 := (nI_eq (b := 0) (by omega) (by omega)).mp c_133; omega)).2; rw [(show j = ze by omega)] at h9; exact h9)]; rw [if_neg (show ¬ 2 < vo + 1 by omega)]; exact ⟨by rcases hv3 with q9 | q9; exact absurd (show HAS D ze (skW k) _ _ _ by rw [← (show j = ze by omega)]; rcases q9.2 with c9 | c9; rw [show skW k = 1 from if_neg hke4]; exact c9.2; obtain ⟨i9, a1, a2, -, a4⟩ := c9.2; exact ⟨i9, a1, by rw [show skW k = 1 from if_neg hke4]; exact a2, a4⟩) (by have h9 := (hv2.resolve_right (fun q9 => by have h8 : fn = 0 := (nI_eq (b := 0) (by omega) (by omega)).mp c_133; omega)).2; rw [(show j = ze by omega)] at h9; exact h9); rw [q9.1]; rfl, rfl⟩), ⟨F_143, (nI (k - 1)), v18, v19, v20, v21, v22, QTm.mk ht hP hD hO hR, hF_145⟩⟩, hS.F ht⟩) hS.2.2 dX15_matches_318
                    ·
                      have hi_162 : (k - 1) = 3 := (nI_eq (a := (k - 1)) (b := 3) (by omega) (by omega)).mp c_160
                      have hke4 : k = 4 := (show k = 4 by have h9 := (nI_eq (a := k - 1) (b := 3) (by omega) (by omega)).mp c_160; omega)
                      refine lv_aload_n hx hb dX15_matches_305 rfl (lv_at hl 6 rfl) ?_
                      refine lv_aload hx hb dX15_matches_306 (lv_at hl 3 rfl) ?_
                      refine lv_iload hx hb dX15_matches_308 (lv_at hl 4 rfl) ?_
                      have hQso := hR so (by rw [hTs0]; simp only [mem_tgS, List.mem_cons, List.not_mem_nil, or_false]; omega)
                      have hQad := hR ad (by rw [hTd0]; simp only [mem_tgS, List.mem_cons, List.not_mem_nil, or_false]; omega)
                      have hQna := hR na (by rw [hTn0]; simp only [mem_tgS, List.mem_cons, List.not_mem_nil, or_false]; omega)
                      have hQva := hR va (by rw [hTv0]; simp only [mem_tgS, List.mem_cons, List.not_mem_nil, or_false]; omega)
                      have hDM5 := DIRM.fr hDM hO0 hW hLn0 hTn0 hLv0 hTv0 (by omega) hR hQso hQad hQna hQva (fun k hk => ⟨by simp only [mem_tgS, List.mem_cons, List.not_mem_nil, or_false]; omega, by simp only [mem_tgS, List.mem_cons, List.not_mem_nil, or_false]; omega⟩)
                      have hLC5 := hLC.fr hO0 hW hi_42 ht_43 hR (by simp only [mem_tgS, List.mem_cons, List.not_mem_nil, or_false]; omega)
                      have hDN5 := hDN.fr hO0 hW hi_50 ht_51 hR (by simp only [mem_tgS, List.mem_cons, List.not_mem_nil, or_false]; omega)
                      have hTD5 := hTD.fr hO0 hW hL_dd hT_dd hR (by simp only [mem_tgS, List.mem_cons, List.not_mem_nil, or_false]; omega)
                      refine lv_topi (fun x9 ex9 => ?_)
                      obtain rfl : x9 = nI w := ex9.trans (hWd (by omega)).2
                      have hFc := pg_free hD hS hA
                      refine va_calli (va_runV (As := [.ref b_75, .int (nI w)]) (rest := []) ⟨hx, hb, hml, hown, hts⟩ (s_X15_exchanges_x l dC dI cs ty gm L H.size F_143 h0 ρ ta ou so ad na va lc dm tg pe ml bg co sp nb0 nb1 nb2 pl se ke wi hs mo po nu pr sq xa sa n64 m64 ex wh sd tk hd ak ho ot sx s0 s1 s2 nf bd mm zo fm sn 0 gc gv ze zt b_75 (ρ + 200 + lv + 100) r_76 61 y5 f5 (exT (TC fv z) st q (sdM LC DN (nI fm)) U) D w hW hL_h0 hT_h0 hi_78 ht_79 hF_153 hF_154 (by omega) (hj4) (hDM5) ((hWd (by omega)).1) (hVN)) ⟨callB_of 2 hts (gi kt_1156) rfl rfl rfl (hts _ kt_669) (hts _ kt_1157) (by decide +kernel) ⟨by show 4 + 1 ≤ fr + 5; omega, by show 8 + (5 + 11) + 90 ≤ lo + 129; omega⟩, (hts _ kt_1158), (hts _ kt_1159)⟩ ⟨fun a U g mk q => ⟨q.1, PTm.calling q.2⟩, pg_recv hK hP hL_h0 hF_145 (q := (RX15, TX15, 59)) rfl, fun U hU hWm => ⟨rfl, PTm.mk hU hWm hP hK hD hE hO⟩⟩ rfl rfl hl.1 rfl (lv_room (Nat.le_of_ble_eq_true rfl)) dX15_matches_310 ⟨by show _ + 0 ≤ 0; omega, by show _ + 0 ≤ 0; omega⟩) hS (fun q _ h => hFc q h) hFc (fun r_163 u t H1 locs ht hvm hw hB hz1 hk1 hS => ?_)
                      obtain ⟨F_164, hB1⟩ := hB
                      obtain rfl : F_143 = F_164 := (funext (fun a => hB1.2.2.2 a List.not_mem_nil)).symm
                      obtain ⟨hP, hD, hO, hR⟩ := QTm.back hB1 ht hFc hR (fun q h => absurd h List.not_mem_nil)
                      generalize H1 = H at hP hS ⊢
                      have hw : r_163 = nI (if lew D ze (ooU (exT (TC fv z) st q (sdM LC DN (nI fm)) U)) (yU (exT (TC fv z) st q (sdM LC DN (nI fm)) U)) (faU (exT (TC fv z) st q (sdM LC DN (nI fm)) U)) (nI fm) w ze 0 = 2 then 1 else lew D ze (ooU (exT (TC fv z) st q (sdM LC DN (nI fm)) U)) (yU (exT (TC fv z) st q (sdM LC DN (nI fm)) U)) (faU (exT (TC fv z) st q (sdM LC DN (nI fm)) U)) (nI fm) w ze 0) := hw
                      have hw_165 := hw
                      refine lv_goto (tgt := 318) hx hb dX15_matches_313 (by decide) ?_
                      refine W.widen (k := 0) (n := 0) (by omega) (by omega) ?_
                      exact W.iret (v := r_163) hx hb hr (fun t ht hWm => ⟨⟨r_163, (cc + 1, vo + 1), rfl, (by unfold mtW; rw [if_neg (show ¬ (k, g, st, q, w, yq).1 = 1 from hke1), if_neg (show ¬ (k, g, st, q, w, yq).1 = 5 from hke5), if_neg (show ¬ ((k, g, st, q, w, yq).1 = 7 ∨ (k, g, st, q, w, yq).1 = 8) from fun q => by have h9 : k = 7 ∨ k = 8 := q; omega), if_neg (show ¬ 10 < cc + 1 by omega), if_neg (show ¬ (k, g, st, q, w, yq).1 = 2 from hke2)]; rw [show lkU D ze (nI fm) (exT (TC fv z) (k, g, st, q, w, yq).2.2.1 (k, g, st, q, w, yq).2.2.2.1 (sdM LC DN (nI fm)) U) (k, g, st, q, w, yq).2.2.2.2.1 (k, g, st, q, w, yq).1 vo = _ from lk_0 (orp0 hw_112 c_113) (by have h9 := (hv2.resolve_right (fun q9 => by have h8 : fn = 0 := (nI_eq (b := 0) (by omega) (by omega)).mp c_133; omega)).2; rw [(show j = ze by omega)] at h9; exact h9)]; rw [if_neg (show ¬ 2 < vo + 1 by omega)]; exact ⟨by rw [hw_165, lew_none (by have h9 := (by have h9 := (hv2.resolve_right (fun q9 => by have h8 : fn = 0 := (nI_eq (b := 0) (by omega) (by omega)).mp c_133; omega)).2; rw [(show j = ze by omega)] at h9; exact h9); rw [show skW k = 2 from if_pos hke4] at h9; exact h9) ze 0 (by omega)]; rfl, rfl⟩), ⟨F_143, (nI (k - 1)), v18, v19, v20, v21, v22, QTm.mk ht hP hD hO hR, hF_145⟩⟩, hS.F ht⟩) hS.2.2 dX15_matches_318
                  ·
                    have hi_166 : 2 < (vo + 1) := Nat.not_le.mp (fun q => c_158 ((nI_leI (a := (vo + 1)) (b := 2) (by omega) (by omega)).mpr q))
                    refine lv_bipush (v := 6) hx hb dX15_matches_296 (by decide) ?_
                    refine W.widen (k := 0) (n := 0) (by omega) (by omega) ?_
                    exact W.iret (v := 6) hx hb hr (fun t ht hWm => ⟨⟨6, (cc + 1, vo + 1), rfl, (by unfold mtW; rw [if_neg (show ¬ (k, g, st, q, w, yq).1 = 1 from hke1), if_neg (show ¬ (k, g, st, q, w, yq).1 = 5 from hke5), if_neg (show ¬ ((k, g, st, q, w, yq).1 = 7 ∨ (k, g, st, q, w, yq).1 = 8) from fun q => by have h9 : k = 7 ∨ k = 8 := q; omega), if_neg (show ¬ 10 < cc + 1 by omega), if_neg (show ¬ (k, g, st, q, w, yq).1 = 2 from hke2)]; rw [show lkU D ze (nI fm) (exT (TC fv z) (k, g, st, q, w, yq).2.2.1 (k, g, st, q, w, yq).2.2.2.1 (sdM LC DN (nI fm)) U) (k, g, st, q, w, yq).2.2.2.2.1 (k, g, st, q, w, yq).1 vo = _ from lk_0 (orp0 hw_112 c_113) (by have h9 := (hv2.resolve_right (fun q9 => by have h8 : fn = 0 := (nI_eq (b := 0) (by omega) (by omega)).mp c_133; omega)).2; rw [(show j = ze by omega)] at h9; exact h9)]; rw [if_pos (show 2 < vo + 1 by omega)]; exact ⟨rfl, rfl⟩), ⟨F_143, (nI (k - 1)), v18, v19, v20, v21, v22, QTm.mk ht hP hD hO hR, hF_145⟩⟩, hS.F ht⟩) hS.2.2 dX15_matches_298
              ·
                have hi_167 : j < ze := ltN (N := ze) c_131
                refine lv_aload_n hx hb dX15_matches_208 rfl (lv_at hl 6 rfl) ?_
                refine lv_iload hx hb dX15_matches_209 (lv_at hl 0 rfl) ?_
                have hF_170 : F tv = .inr (14, [.ref rv, .int (nI z)]) := (hR tv (by rw [hT_tv]; simp only [mem_tgS, List.mem_cons, List.not_mem_nil, or_false]; omega)).symm.trans hF_124
                have hF_171 : F rv = .inl (cs 17, 700, .inl fv) := (hR rv (by rw [ht_35]; simp only [mem_tgS, List.mem_cons, List.not_mem_nil, or_false]; omega)).symm.trans hF_125
                have hF_172 : F dd = .inr (14, [.ref rd, .int (nI y)]) := (hR dd (by rw [hT_dd]; simp only [mem_tgS, List.mem_cons, List.not_mem_nil, or_false]; omega)).symm.trans hF_126
                have hF_173 : F rd = .inl (cs 17, nd, .inl hf) := (hR rd (by rw [ht_32]; simp only [mem_tgS, List.mem_cons, List.not_mem_nil, or_false]; omega)).symm.trans hF_127
                have hF_174 : F tg = .inl (cs 23, 13, .inr (.inr (.inr (.inr f_39)))) := (hR tg (by rw [ht_38]; simp only [mem_tgS, List.mem_cons, List.not_mem_nil, or_false]; omega)).symm.trans hF_128
                have hF_175 : F lc = .inr (14, [.ref r_1, .int (nI z_47)]) := (hR lc (by rw [ht_43]; simp only [mem_tgS, List.mem_cons, List.not_mem_nil, or_false]; omega)).symm.trans hF_129
                have hF_176 : F dm = .inr (14, [.ref r_2, .int (nI z_55)]) := (hR dm (by rw [ht_51]; simp only [mem_tgS, List.mem_cons, List.not_mem_nil, or_false]; omega)).symm.trans hF_130
                obtain ⟨hi_178, ht_179⟩ := hW.f_ad hL_h0 hT_h0
                have hF_177 : F ad = .inl (cs 16, 40, .inl fd) := (hR ad (by rw [ht_179]; simp only [mem_tgS, List.mem_cons, List.not_mem_nil, or_false]; omega)).symm.trans hd2
                refine W.widen (k := 0) (n := 0) (by omega) (by omega) ?_
                refine pl_cutm (σ := Int32) A (dC, dI) cs ty gm L (tgS ρ lv) F 222 10 (fun sq0 => [(9, .int (nI j)), (8, .int w8), (7, .int (nI fn)), (6, .ref b_75), (5, .int v21), (4, .int (nI (k - 1))), (0, .ref h0), (1, .ref tv), (2, .ref dd), (3, .int (nI lv))]) (fun sq0 => [.int sq0, .int (nI j), .ref h0]) (fun sq0 FF => sq0 = skW k ∧ FF h0 = .inr (15, (.ref ta) :: (.int (nI zt)) :: (.int (nI zo)) :: (.int (nI ze)) :: (.ref ou) :: (.ref so) :: (.ref ad) :: (.ref na) :: (.ref va) :: (.ref lc) :: (.ref dm) :: (.int (nI fm)) :: (.int (nI sn)) :: (.ref tg) :: (.int (nI (cc + 1))) :: (.int (nI vo)) :: (.ref pe) :: (.int (nI (k - 1))) :: (.int v18) :: (.int v19) :: (.int v20) :: (.int v21) :: (.int v22) :: (.ref ml) :: (.ref bg) :: (.ref co) :: (.ref sp) :: (.ref nb0) :: (.ref nb1) :: (.ref nb2) :: (.int (nI nf)) :: (.int (nI bd)) :: (.int (nI mm)) :: (.int v33) :: (.ref pl) :: (.ref se) :: (.ref ke) :: (.ref wi) :: (.ref hs) :: (.ref mo) :: (.ref po) :: (.ref nu) :: (.ref pr) :: (.ref sq) :: (.ref xa) :: (.ref sa) :: (.ref n64) :: (.ref m64) :: (.ref ex) :: (.ref wh) :: (.ref sd) :: (.ref tk) :: (.int v52) :: (.int v53) :: (.int v54) :: (.ref hd) :: (.ref ak) :: (.ref ho) :: (.ref ot) :: []) ∧ FF b_75 = .inr (14, [.ref r_76, .int (nI y5)]) ∧ FF r_76 = .inl (cs 17, 61, .inl f5)) ?_ (fun jn_168 => ?_)
                ·
                  rintro sq0 F_169 hv_180 hO hR H locs hP hD hS ls hl
                  have hl : lv_has ls 10 [(9, .int (nI j)), (8, .int w8), (7, .int (nI fn)), (6, .ref b_75), (5, .int v21), (4, .int (nI (k - 1))), (0, .ref h0), (1, .ref tv), (2, .ref dd), (3, .int (nI lv))] := hl
                  have hv_180 : sq0 = skW k ∧ F_169 h0 = .inr (15, (.ref ta) :: (.int (nI zt)) :: (.int (nI zo)) :: (.int (nI ze)) :: (.ref ou) :: (.ref so) :: (.ref ad) :: (.ref na) :: (.ref va) :: (.ref lc) :: (.ref dm) :: (.int (nI fm)) :: (.int (nI sn)) :: (.ref tg) :: (.int (nI (cc + 1))) :: (.int (nI vo)) :: (.ref pe) :: (.int (nI (k - 1))) :: (.int v18) :: (.int v19) :: (.int v20) :: (.int v21) :: (.int v22) :: (.ref ml) :: (.ref bg) :: (.ref co) :: (.ref sp) :: (.ref nb0) :: (.ref nb1) :: (.ref nb2) :: (.int (nI nf)) :: (.int (nI bd)) :: (.int (nI mm)) :: (.int v33) :: (.ref pl) :: (.ref se) :: (.ref ke) :: (.ref wi) :: (.ref hs) :: (.ref mo) :: (.ref po) :: (.ref nu) :: (.ref pr) :: (.ref sq) :: (.ref xa) :: (.ref sa) :: (.ref n64) :: (.ref m64) :: (.ref ex) :: (.ref wh) :: (.ref sd) :: (.ref tk) :: (.int v52) :: (.int v53) :: (.int v54) :: (.ref hd) :: (.ref ak) :: (.ref ho) :: (.ref ot) :: []) ∧ F_169 b_75 = .inr (14, [.ref r_76, .int (nI y5)]) ∧ F_169 r_76 = .inl (cs 17, 61, .inl f5) := hv_180
                  refine W.eq (g2 := F0 m 222 ls [.int sq0, .int (nI j), .ref h0]) rfl ?_
                  have hF_181 : F_169 tv = .inr (14, [.ref rv, .int (nI z)]) := (hR tv (by rw [hT_tv]; simp only [mem_tgS, List.mem_cons, List.not_mem_nil, or_false]; omega)).trans hF_170
                  have hF_182 : F_169 rv = .inl (cs 17, 700, .inl fv) := (hR rv (by rw [ht_35]; simp only [mem_tgS, List.mem_cons, List.not_mem_nil, or_false]; omega)).trans hF_171
                  have hF_183 : F_169 dd = .inr (14, [.ref rd, .int (nI y)]) := (hR dd (by rw [hT_dd]; simp only [mem_tgS, List.mem_cons, List.not_mem_nil, or_false]; omega)).trans hF_172
                  have hF_184 : F_169 rd = .inl (cs 17, nd, .inl hf) := (hR rd (by rw [ht_32]; simp only [mem_tgS, List.mem_cons, List.not_mem_nil, or_false]; omega)).trans hF_173
                  have hF_185 : F_169 tg = .inl (cs 23, 13, .inr (.inr (.inr (.inr f_39)))) := (hR tg (by rw [ht_38]; simp only [mem_tgS, List.mem_cons, List.not_mem_nil, or_false]; omega)).trans hF_174
                  have hF_186 : F_169 lc = .inr (14, [.ref r_1, .int (nI z_47)]) := (hR lc (by rw [ht_43]; simp only [mem_tgS, List.mem_cons, List.not_mem_nil, or_false]; omega)).trans hF_175
                  have hF_187 : F_169 dm = .inr (14, [.ref r_2, .int (nI z_55)]) := (hR dm (by rw [ht_51]; simp only [mem_tgS, List.mem_cons, List.not_mem_nil, or_false]; omega)).trans hF_176
                  obtain ⟨hi_189, ht_190⟩ := hW.f_ad hL_h0 hT_h0
                  have hF_188 : F_169 ad = .inl (cs 16, 40, .inl fd) := (hR ad (by rw [ht_190]; simp only [mem_tgS, List.mem_cons, List.not_mem_nil, or_false]; omega)).trans hF_177
                  obtain ⟨hs0, hs1, hs2, hs3⟩ := hv_180
                  subst hs0
                  refine W.eq (g2 := F0 m 222 ls [.int (skW k), .int (nI j), .ref h0]) rfl ?_
                  have hQso := hR so (by rw [hTs0]; simp only [mem_tgS, List.mem_cons, List.not_mem_nil, or_false]; omega)
                  have hQad := hR ad (by rw [hTd0]; simp only [mem_tgS, List.mem_cons, List.not_mem_nil, or_false]; omega)
                  have hQna := hR na (by rw [hTn0]; simp only [mem_tgS, List.mem_cons, List.not_mem_nil, or_false]; omega)
                  have hQva := hR va (by rw [hTv0]; simp only [mem_tgS, List.mem_cons, List.not_mem_nil, or_false]; omega)
                  have hDM5 := DIRM.fr hDM hO0 hW hLn0 hTn0 hLv0 hTv0 (by omega) hR hQso hQad hQna hQva (fun k hk => ⟨by simp only [mem_tgS, List.mem_cons, List.not_mem_nil, or_false]; omega, by simp only [mem_tgS, List.mem_cons, List.not_mem_nil, or_false]; omega⟩)
                  have hLC5 := hLC.fr hO0 hW hi_42 ht_43 hR (by simp only [mem_tgS, List.mem_cons, List.not_mem_nil, or_false]; omega)
                  have hDN5 := hDN.fr hO0 hW hi_50 ht_51 hR (by simp only [mem_tgS, List.mem_cons, List.not_mem_nil, or_false]; omega)
                  have hTD5 := hTD.fr hO0 hW hL_dd hT_dd hR (by simp only [mem_tgS, List.mem_cons, List.not_mem_nil, or_false]; omega)
                  refine lv_aload hx hb dX15_matches_222 (lv_at hl 3 rfl) ?_
                  have hFc := pg_free hD hS hA
                  refine va_calli (va_runV (As := [.int (nI j), .int (skW k), .ref b_75]) (rest := []) ⟨hx, hb, hml, hown, hts⟩ (s_X15_isOf_x l dC dI cs ty gm L H.size F_169 h0 ρ ta ou so ad na va lc dm tg pe ml bg co sp nb0 nb1 nb2 pl se ke wi hs mo po nu pr sq xa sa n64 m64 ex wh sd tk hd ak ho ot sx s0 s1 s2 nf bd mm zo fm sn 0 gc gv ze zt j b_75 (ρ + 200 + lv + 100) r_76 61 y5 f5 (exT (TC fv z) st q (sdM LC DN (nI fm)) U) D (skW k) hW hL_h0 hT_h0 hi_78 ht_79 hs2 hs3 (by omega) (hj4) (by omega) (hDM5)) ⟨callB_of 3 hts (gi kt_725) rfl rfl rfl (hts _ kt_669) (hts _ kt_726) (by decide +kernel) ⟨by show 2 + 1 ≤ fr + 5; omega, by show 8 + (4 + 11) + 45 ≤ lo + 129; omega⟩, (hts _ kt_727), (hts _ kt_728)⟩ ⟨fun a U g mk q => ⟨q.1, PTm.calling q.2⟩, pg_recv hK hP hL_h0 hs1 (q := (RX15, TX15, 59)) rfl, fun U hU hWm => ⟨rfl, PTm.mk hU hWm hP hK hD hE hO⟩⟩ rfl rfl hl.1 rfl (lv_room (Nat.le_of_ble_eq_true rfl)) dX15_matches_224 ⟨by show _ + 0 ≤ 0; omega, by show _ + 0 ≤ 0; omega⟩) hS (fun q _ h => hFc q h) hFc (fun r_191 u t H1 locs ht hvm hw hB hz1 hk1 hS => ?_)
                  obtain ⟨F_192, hB1⟩ := hB
                  obtain rfl : F_169 = F_192 := (funext (fun a => hB1.2.2.2 a List.not_mem_nil)).symm
                  obtain ⟨hP, hD, hO, hR⟩ := QTm.back hB1 ht hFc hR (fun q h => absurd h List.not_mem_nil)
                  generalize H1 = H at hP hS ⊢
                  have hw : ((r_191 = 1 ∧ ((D j).1 = (skW k) ∧ SAMN (D j) (ooU (exT (TC fv z) st q (sdM LC DN (nI fm)) U)) (yU (exT (TC fv z) st q (sdM LC DN (nI fm)) U)) (faU (exT (TC fv z) st q (sdM LC DN (nI fm)) U)))) ∨ (r_191 = 0 ∧ ¬ ((D j).1 = (skW k) ∧ SAMN (D j) (ooU (exT (TC fv z) st q (sdM LC DN (nI fm)) U)) (yU (exT (TC fv z) st q (sdM LC DN (nI fm)) U)) (faU (exT (TC fv z) st q (sdM LC DN (nI fm)) U))))) := hw
                  have hw_193 := hw
                  refine lv_if_ne (tgt := 233) hx hb dX15_matches_227 (by decide) (fun c_194 => ?_) (fun c_194 => ?_)
                  ·
                    refine lv_iinc (v := (nI (fn + 1))) (lv' := [(7, .int (nI (fn + 1))), (9, .int (nI j)), (8, .int w8), (6, .ref b_75), (5, .int v21), (4, .int (nI (k - 1))), (0, .ref h0), (1, .ref tv), (2, .ref dd), (3, .int (nI lv))]) hx hb dX15_matches_233 hl (k := 2) rfl (nI_1 _) (by decide) rfl (fun ls hl => ?_)
                    refine lv_iload hx hb dX15_matches_236 (lv_at hl 5 rfl) ?_
                    refine lv_iconst (v := 3) hx hb dX15_matches_238 (by decide) ?_
                    refine lv_icmp_eq (tgt := 267) hx hb dX15_matches_239 (by decide) (fun c_195 => ?_) (fun c_195 => ?_)
                    ·
                      have hi_196 : (k - 1) = 3 := (nI_eq (a := (k - 1)) (b := 3) (by omega) (by omega)).mp c_195
                      have hke4 : k = 4 := (show k = 4 by have h9 := (nI_eq (a := k - 1) (b := 3) (by omega) (by omega)).mp c_195; omega)
                      refine lv_iinc (v := (nI (j + 1))) (lv' := [(9, .int (nI (j + 1))), (7, .int (nI (fn + 1))), (8, .int w8), (6, .ref b_75), (5, .int v21), (4, .int (nI (k - 1))), (0, .ref h0), (1, .ref tv), (2, .ref dd), (3, .int (nI lv))]) hx hb dX15_matches_267 hl (k := 1) rfl (nI_1 _) (by decide) rfl (fun ls hl => ?_)
                      refine lv_goto (tgt := 199) hx hb dX15_matches_270 (by decide) ?_
                      refine W.widen (k := 0) (n := 0) (by omega) (by omega) ?_
                      exact ih_123 ((j + 1), (fn + 1), w8) F_169 (⟨by omega, Or.inr ⟨by omega, by rcases hv2 with q9 | q9 <;> omega, j, by omega, (orp1 hw_193 c_194)⟩, hv3.imp (fun q9 => ⟨q9.1, yes_m q9.2⟩) (fun q9 => ⟨q9.1, yes_n q9.2 (fun c9 => by omega) (fun c9 => by omega)⟩), hs1, hs2, hs3⟩) (by show ze - (j + 1) < ze - j; omega) hO hR _ _ hP hD hS ls (lv_sub hl [0, 2, 1, 3, 4, 5, 6, 7, 8, 9] rfl)
                    ·
                      have hi_197 : (k - 1) ≠ 3 := fun q => c_195 (by rw [q]; rfl)
                      have hke4 : ¬ k = 4 := fun q => c_195 (by rw [q]; rfl)
                      refine lv_iload hx hb dX15_matches_242 (lv_at hl 5 rfl) ?_
                      refine lv_iconst (v := 5) hx hb dX15_matches_244 (by decide) ?_
                      refine lv_icmp_eq (tgt := 264) hx hb dX15_matches_245 (by decide) (fun c_198 => ?_) (fun c_198 => ?_)
                      ·
                        have hi_199 : (k - 1) = 5 := (nI_eq (a := (k - 1)) (b := 5) (by omega) (by omega)).mp c_198
                        have hke6 : k = 6 := (show k = 6 by have h9 := (nI_eq (a := k - 1) (b := 5) (by omega) (by omega)).mp c_198; omega)
                        refine lv_iconst (v := 1) hx hb dX15_matches_264 (by decide) ?_
                        refine lv_istore (lv' := [(8, .int 1), (7, .int (nI (fn + 1))), (9, .int (nI j)), (6, .ref b_75), (5, .int v21), (4, .int (nI (k - 1))), (0, .ref h0), (1, .ref tv), (2, .ref dd), (3, .int (nI lv))]) hx hb dX15_matches_265 hl (by decide) rfl (fun ls hl => ?_)
                        refine lv_iinc (v := (nI (j + 1))) (lv' := [(9, .int (nI (j + 1))), (8, .int 1), (7, .int (nI (fn + 1))), (6, .ref b_75), (5, .int v21), (4, .int (nI (k - 1))), (0, .ref h0), (1, .ref tv), (2, .ref dd), (3, .int (nI lv))]) hx hb dX15_matches_267 hl (k := 2) rfl (nI_1 _) (by decide) rfl (fun ls hl => ?_)
                        refine lv_goto (tgt := 199) hx hb dX15_matches_270 (by decide) ?_
                        refine W.widen (k := 0) (n := 0) (by omega) (by omega) ?_
                        exact ih_123 ((j + 1), (fn + 1), 1) F_169 (⟨by omega, Or.inr ⟨by omega, by rcases hv2 with q9 | q9 <;> omega, j, by omega, (orp1 hw_193 c_194)⟩, Or.inl ⟨rfl, Or.inl ⟨hke6, j, by omega, by have h9 := (orp1 hw_193 c_194); rw [show skW k = 1 from if_neg (by omega)] at h9; exact h9⟩⟩, hs1, hs2, hs3⟩) (by show ze - (j + 1) < ze - j; omega) hO hR _ _ hP hD hS ls (lv_sub hl [0, 1, 2, 3, 4, 5, 6, 7, 8, 9] rfl)
                      ·
                        have hi_200 : (k - 1) ≠ 5 := fun q => c_198 (by rw [q]; rfl)
                        have hke6 : ¬ k = 6 := fun q => c_198 (by rw [q]; rfl)
                        refine lv_aload_n hx hb dX15_matches_248 rfl (lv_at hl 6 rfl) ?_
                        refine lv_aload_n hx hb dX15_matches_249 rfl (lv_at hl 6 rfl) ?_
                        refine pg_get (ci := 15) (v := .ref ad) (C := RX15) (T := TX15) (N := 59) hx hb hts it_15 hown hK hP hL_h0 hs1 rfl 6 (by decide) (hts _ kt_740) (fun _ h9 => h9) rfl dX15_matches_250 ?_
                        refine lv_iload hx hb dX15_matches_253 (lv_at hl 1 rfl) ?_
                        obtain ⟨hq_201, hq_202⟩ := hW.ints hi_189 ht_190
                        refine pg_iald hx hb hK hP hi_189 0 hF_188 rfl (vp_in_nI (by omega) (by omega)) dX15_matches_255 ?_
                        refine lv_topi (fun x_203 ex_203 => ?_)
                        obtain rfl : x_203 = (D j).2.1 := ex_203.trans ((congrArg fd (nI_clamp (by omega))).trans (hd5 j (by omega)).2.1)
                        refine lv_iload hx hb dX15_matches_256 (lv_at hl 4 rfl) ?_
                        refine lv_topi (fun x9 ex9 => ?_)
                        obtain rfl : x9 = nI w := ex9.trans (hWd (by omega)).2
                        have hFc := pg_free hD hS hA
                        refine va_calli (va_runV (As := [.int ((D j).2.1), .int (nI w)]) (rest := []) ⟨hx, hb, hml, hown, hts⟩ (s_X15_isSender_x l dC dI cs ty gm L H.size F_169 h0 ρ ta ou so ad na va lc dm tg pe ml bg co sp nb0 nb1 nb2 pl se ke wi hs mo po nu pr sq xa sa n64 m64 ex wh sd tk hd ak ho ot sx s0 s1 s2 nf bd mm zo fm sn 0 gc gv ze zt ((D j).2.1) w hW hL_h0 hT_h0 ((hWd (by omega)).1)) ⟨callB_of 2 hts (gi kt_741) rfl rfl rfl (hts _ kt_669) (hts _ kt_742) (by decide +kernel) ⟨by show 0 + 1 ≤ fr + 5; omega, by show 8 + (3 + 11) + 0 ≤ lo + 129; omega⟩, (hts _ kt_743), (hts _ kt_744)⟩ ⟨fun a U g mk q => ⟨q.1, PTm.calling q.2⟩, pg_recv hK hP hL_h0 hs1 (q := (RX15, TX15, 59)) rfl, fun U hU hWm => ⟨rfl, PTm.mk hU hWm hP hK hD hE hO⟩⟩ rfl rfl hl.1 rfl (lv_room (Nat.le_of_ble_eq_true rfl)) dX15_matches_258 ⟨by show _ + 0 ≤ 0; omega, by show _ + 0 ≤ 0; omega⟩) hS (fun q _ h => hFc q h) hFc (fun r_204 u t H1 locs ht hvm hw hB hz1 hk1 hS => ?_)
                        obtain ⟨F_205, hB1⟩ := hB
                        obtain rfl : F_169 = F_205 := (funext (fun a => hB1.2.2.2 a List.not_mem_nil)).symm
                        obtain ⟨hP, hD, hO, hR⟩ := QTm.back hB1 ht hFc hR (fun q h => absurd h List.not_mem_nil)
                        generalize H1 = H at hP hS ⊢
                        have hw : ((r_204 = 1 ∧ SNE (D j).2.1 (nI fm) w) ∨ (r_204 = 0 ∧ ¬ SNE (D j).2.1 (nI fm) w)) := hw
                        have hw_206 := hw
                        refine lv_if_eq (tgt := 267) hx hb dX15_matches_261 (by decide) (fun c_207 => ?_) (fun c_207 => ?_)
                        ·
                          refine lv_iinc (v := (nI (j + 1))) (lv' := [(9, .int (nI (j + 1))), (7, .int (nI (fn + 1))), (8, .int w8), (6, .ref b_75), (5, .int v21), (4, .int (nI (k - 1))), (0, .ref h0), (1, .ref tv), (2, .ref dd), (3, .int (nI lv))]) hx hb dX15_matches_267 hl (k := 1) rfl (nI_1 _) (by decide) rfl (fun ls hl => ?_)
                          refine lv_goto (tgt := 199) hx hb dX15_matches_270 (by decide) ?_
                          refine W.widen (k := 0) (n := 0) (by omega) (by omega) ?_
                          exact ih_123 ((j + 1), (fn + 1), w8) F_169 (⟨by omega, Or.inr ⟨by omega, by rcases hv2 with q9 | q9 <;> omega, j, by omega, (orp1 hw_193 c_194)⟩, hv3.imp (fun q9 => ⟨q9.1, yes_m q9.2⟩) (fun q9 => ⟨q9.1, yes_n q9.2 (fun c9 => hke6 c9.1) (fun c9 => orp0 hw_206 c_207 c9.2.2.1)⟩), hs1, hs2, hs3⟩) (by show ze - (j + 1) < ze - j; omega) hO hR _ _ hP hD hS ls (lv_sub hl [0, 2, 1, 3, 4, 5, 6, 7, 8, 9] rfl)
                        ·
                          refine lv_iconst (v := 1) hx hb dX15_matches_264 (by decide) ?_
                          refine lv_istore (lv' := [(8, .int 1), (7, .int (nI (fn + 1))), (9, .int (nI j)), (6, .ref b_75), (5, .int v21), (4, .int (nI (k - 1))), (0, .ref h0), (1, .ref tv), (2, .ref dd), (3, .int (nI lv))]) hx hb dX15_matches_265 hl (by decide) rfl (fun ls hl => ?_)
                          refine lv_iinc (v := (nI (j + 1))) (lv' := [(9, .int (nI (j + 1))), (8, .int 1), (7, .int (nI (fn + 1))), (6, .ref b_75), (5, .int v21), (4, .int (nI (k - 1))), (0, .ref h0), (1, .ref tv), (2, .ref dd), (3, .int (nI lv))]) hx hb dX15_matches_267 hl (k := 2) rfl (nI_1 _) (by decide) rfl (fun ls hl => ?_)
                          refine lv_goto (tgt := 199) hx hb dX15_matches_270 (by decide) ?_
                          refine W.widen (k := 0) (n := 0) (by omega) (by omega) ?_
                          exact ih_123 ((j + 1), (fn + 1), 1) F_169 (⟨by omega, Or.inr ⟨by omega, by rcases hv2 with q9 | q9 <;> omega, j, by omega, (orp1 hw_193 c_194)⟩, Or.inl ⟨rfl, Or.inr ⟨by omega, j, by omega, by have h9 := (orp1 hw_193 c_194); rw [show skW k = 1 from if_neg (by omega)] at h9; exact ⟨h9.1, orp1 hw_206 c_207, h9.2⟩⟩⟩, hs1, hs2, hs3⟩) (by show ze - (j + 1) < ze - j; omega) hO hR _ _ hP hD hS ls (lv_sub hl [0, 1, 2, 3, 4, 5, 6, 7, 8, 9] rfl)
                  ·
                    refine lv_goto (tgt := 267) hx hb dX15_matches_230 (by decide) ?_
                    refine lv_iinc (v := (nI (j + 1))) (lv' := [(9, .int (nI (j + 1))), (8, .int w8), (7, .int (nI fn)), (6, .ref b_75), (5, .int v21), (4, .int (nI (k - 1))), (0, .ref h0), (1, .ref tv), (2, .ref dd), (3, .int (nI lv))]) hx hb dX15_matches_267 hl (k := 0) rfl (nI_1 _) (by decide) rfl (fun ls hl => ?_)
                    refine lv_goto (tgt := 199) hx hb dX15_matches_270 (by decide) ?_
                    refine W.widen (k := 0) (n := 0) (by omega) (by omega) ?_
                    exact ih_123 ((j + 1), fn, w8) F_169 (⟨by omega, hv2.imp (fun q9 => ⟨q9.1, has_s q9.2 (orp0 hw_193 c_194)⟩) (fun q9 => ⟨q9.1, by omega, has_m q9.2.2⟩), hv3.imp (fun q9 => ⟨q9.1, yes_m q9.2⟩) (fun q9 => ⟨q9.1, yes_n q9.2 (fun c9 => (orp0 hw_193 c_194) (by rw [show skW k = 1 from if_neg (by omega)]; exact c9.2)) (fun c9 => (orp0 hw_193 c_194) (by rw [show skW k = 1 from if_neg (by omega)]; exact ⟨c9.2.1, c9.2.2.2⟩))⟩), hs1, hs2, hs3⟩) (by show ze - (j + 1) < ze - j; omega) hO hR _ _ hP hD hS ls (lv_sub hl [0, 1, 2, 3, 4, 5, 6, 7, 8, 9] rfl)
                ·
                  refine lv_iload hx hb dX15_matches_211 (lv_at hl 5 rfl) ?_
                  refine lv_iconst (v := 3) hx hb dX15_matches_213 (by decide) ?_
                  refine lv_icmp_ne (tgt := 221) hx hb dX15_matches_214 (by decide) (fun c_208 => ?_) (fun c_208 => ?_)
                  ·
                    have hi_209 : (k - 1) ≠ 3 := fun q => c_208 (by rw [q]; rfl)
                    have hke4 : ¬ k = 4 := fun q => c_208 (by rw [q]; rfl)
                    refine lv_iconst (v := 1) hx hb dX15_matches_221 (by decide) ?_
                    refine W.widen (k := 0) (n := 0) (by omega) (by omega) ?_
                    exact jn_168 1 F_114 (⟨(if_neg hke4).symm, hv4, hv5, hv6⟩) hO hR _ _ hP hD hS ls (lv_sub hl [0, 1, 2, 3, 4, 5, 6, 7, 8, 9] rfl)
                  ·
                    have hi_210 : (k - 1) = 3 := (nI_eq (a := (k - 1)) (b := 3) (by omega) (by omega)).mp c_208
                    have hke4 : k = 4 := (show k = 4 by have h9 := (nI_eq (a := k - 1) (b := 3) (by omega) (by omega)).mp c_208; omega)
                    refine lv_iconst (v := 2) hx hb dX15_matches_217 (by decide) ?_
                    refine lv_goto (tgt := 222) hx hb dX15_matches_218 (by decide) ?_
                    refine W.widen (k := 0) (n := 0) (by omega) (by omega) ?_
                    exact jn_168 2 F_114 (⟨(if_pos hke4).symm, hv4, hv5, hv6⟩) hO hR _ _ hP hD hS ls (lv_sub hl [0, 1, 2, 3, 4, 5, 6, 7, 8, 9] rfl)
            ·
              refine lv_iconst (v := 5) hx hb dX15_matches_188 (by decide) ?_
              refine W.widen (k := 0) (n := 0) (by omega) (by omega) ?_
              exact W.iret (v := 5) hx hb hr (fun t ht hWm => ⟨⟨5, (cc + 1, vo), rfl, (by unfold mtW; rw [if_neg (show ¬ (k, g, st, q, w, yq).1 = 1 from hke1), if_neg (show ¬ (k, g, st, q, w, yq).1 = 5 from hke5), if_neg (show ¬ ((k, g, st, q, w, yq).1 = 7 ∨ (k, g, st, q, w, yq).1 = 8) from fun q => by have h9 : k = 7 ∨ k = 8 := q; omega), if_neg (show ¬ 10 < cc + 1 by omega), if_neg (show ¬ (k, g, st, q, w, yq).1 = 2 from hke2)]; rw [show lkU D ze (nI fm) (exT (TC fv z) (k, g, st, q, w, yq).2.2.1 (k, g, st, q, w, yq).2.2.2.1 (sdM LC DN (nI fm)) U) (k, g, st, q, w, yq).2.2.2.2.1 (k, g, st, q, w, yq).1 vo = _ from lk_t (orp1 hw_112 c_113)]; exact ⟨rfl, rfl⟩), ⟨F_92, (nI (k - 1)), v18, v19, v20, v21, v22, QTm.mk ht hP hD hO hR, hj1⟩⟩, hS.F ht⟩) hS.2.2 dX15_matches_189
          ·
            have hi_211 : (k - 1) = 1 := (nI_eq (a := (k - 1)) (b := 1) (by omega) (by omega)).mp c_108
            have hke2 : k = 2 := (show k = 2 by have h9 := (nI_eq (a := k - 1) (b := 1) (by omega) (by omega)).mp c_108; omega)
            refine lv_aload_n hx hb dX15_matches_129 rfl (lv_at hl 3 rfl) ?_
            refine lv_aload hx hb dX15_matches_130 (lv_at hl 0 rfl) ?_
            refine lv_iload_n hx hb dX15_matches_132 rfl (lv_at hl 6 rfl) ?_
            refine lv_iconst (v := 1) hx hb dX15_matches_133 (by decide) ?_
            refine lv_iadd hx hb dX15_matches_134 ?_
            refine lv_topi (fun x_212 ex_212 => ?_)
            obtain rfl : x_212 = (nI (lv + 1)) := ex_212.trans (nI_1 lv)
            have hFc := pg_free hD hS hA
            refine va_calli (va_runV (As := [.ref b_75, .int (nI (lv + 1))]) (rest := []) ⟨hx, hb, hml, hown, hts⟩ (hC H.size F_92 (nI (k - 1)) v18 v19 v20 v21 v22 v33 v52 v53 v54 b_75 (ρ + 200 + lv + 100) r_76 61 (cc + 1) vo y5 f5 (exT (TC fv z) st q (sdM LC DN (nI fm)) U) hi_78 ht_79 hj1 (hzo) (hze) (h33) (h54) hj2 hj3 (by omega) (hj4) (hDM5) (hLC5) (hDN5) (by omega) (by omega) (by omega) (hA9) (by omega) (Or.inr (by omega))) ⟨callB_of 2 hts (gi kt_1160) rfl rfl rfl (hts _ kt_669) (hts _ kt_1161) (by decide +kernel) ⟨by show fr + 0 + 1 ≤ fr + 5; omega, by show 8 + (10 + 11) + (lo + 0) ≤ lo + 129; omega⟩, (hts _ kt_1162), (hts _ kt_1163)⟩ ⟨fun a U g mk q => ⟨q.1, PTEm.calling q.2⟩, pg_recv hK hP hL_h0 hj1 (q := (RX15, TX15, 59)) rfl, fun U hU hWm => ⟨rfl, PTEm.mk hU hWm hP hK hD hE hO hG (fun x hx => absurd hx List.not_mem_nil) hS hFc⟩⟩ rfl rfl hl.1 rfl (lv_room (Nat.le_of_ble_eq_true rfl)) dX15_matches_135 ⟨by show _ + 0 ≤ 0; omega, by show _ + 0 ≤ 0; omega⟩) hS (fun q _ h => hFc q h) hFc (fun r_214 gp_213 t H1 locs ht hvm hw hB hz1 hk1 hS => ?_)
            obtain ⟨F_215, u17_216, u18_217, u19_218, u20_219, u21_220, u22_221, hB1, hq_222⟩ := hB
            obtain ⟨hP, hD, hO, hR⟩ := QTm.back hB1 ht hFc hR (fun q h => by simp only [mem_tgS, List.mem_cons, List.not_mem_nil, or_false] at h ⊢; omega)
            have hF_223 : F_215 tv = .inr (14, [.ref rv, .int (nI z)]) := (hB1.2.2.2 tv (by rw [hT_tv]; simp only [mem_tgS, List.mem_cons, List.not_mem_nil, or_false]; omega)).trans hF_101
            have hF_224 : F_215 rv = .inl (cs 17, 700, .inl fv) := (hB1.2.2.2 rv (by rw [ht_35]; simp only [mem_tgS, List.mem_cons, List.not_mem_nil, or_false]; omega)).trans hF_102
            have hF_225 : F_215 dd = .inr (14, [.ref rd, .int (nI y)]) := (hB1.2.2.2 dd (by rw [hT_dd]; simp only [mem_tgS, List.mem_cons, List.not_mem_nil, or_false]; omega)).trans hF_103
            have hF_226 : F_215 rd = .inl (cs 17, nd, .inl hf) := (hB1.2.2.2 rd (by rw [ht_32]; simp only [mem_tgS, List.mem_cons, List.not_mem_nil, or_false]; omega)).trans hF_104
            have hF_227 : F_215 tg = .inl (cs 23, 13, .inr (.inr (.inr (.inr f_39)))) := (hB1.2.2.2 tg (by rw [ht_38]; simp only [mem_tgS, List.mem_cons, List.not_mem_nil, or_false]; omega)).trans hF_105
            have hF_228 : F_215 lc = .inr (14, [.ref r_1, .int (nI z_47)]) := (hB1.2.2.2 lc (by rw [ht_43]; simp only [mem_tgS, List.mem_cons, List.not_mem_nil, or_false]; omega)).trans hF_106
            have hF_229 : F_215 dm = .inr (14, [.ref r_2, .int (nI z_55)]) := (hB1.2.2.2 dm (by rw [ht_51]; simp only [mem_tgS, List.mem_cons, List.not_mem_nil, or_false]; omega)).trans hF_107
            have hF_230 : F_215 b_75 = .inr (14, [.ref r_76, .int (nI y5)]) := (hB1.2.2.2 b_75 (by rw [ht_79]; simp only [mem_tgS, List.mem_cons, List.not_mem_nil, or_false]; omega)).trans hj2
            have hF_231 : F_215 r_76 = .inl (cs 17, 61, .inl f5) := (hB1.2.2.2 r_76 (by rw [ht_81]; simp only [mem_tgS, List.mem_cons, List.not_mem_nil, or_false]; omega)).trans hj3
            generalize H1 = H at hP hS ⊢
            have hw : (r_214 = nI (R (exT (TC fv z) st q (sdM LC DN (nI fm)) U) (cc + 1) vo).1 ∧ gp_213 = (R (exT (TC fv z) st q (sdM LC DN (nI fm)) U) (cc + 1) vo).2) := hw
            have hw_232 := hw
            obtain ⟨hr1, hr2⟩ := hw_232
            subst hr1
            have hrb := hRb (exT (TC fv z) st q (sdM LC DN (nI fm)) U) (cc + 1) vo
            refine lv_istore (lv' := [(7, .int (nI (R (exT (TC fv z) st q (sdM LC DN (nI fm)) U) (cc + 1) vo).1)), (6, .ref b_75), (5, .int v21), (4, .int (nI (k - 1))), (0, .ref h0), (1, .ref tv), (2, .ref dd), (3, .int (nI lv))]) hx hb dX15_matches_138 hl (by decide) rfl (fun ls hl => ?_)
            refine lv_iload hx hb dX15_matches_140 (lv_at hl 0 rfl) ?_
            refine lv_iconst (v := 2) hx hb dX15_matches_142 (by decide) ?_
            refine lv_icmp_ne (tgt := 150) hx hb dX15_matches_143 (by decide) (fun c_233 => ?_) (fun c_233 => ?_)
            ·
              have hi_234 : (R (exT (TC fv z) st q (sdM LC DN (nI fm)) U) (cc + 1) vo).1 ≠ 2 := fun q => c_233 (by rw [q]; rfl)
              refine lv_iload hx hb dX15_matches_150 (lv_at hl 0 rfl) ?_
              refine lv_iconst (v := 5) hx hb dX15_matches_152 (by decide) ?_
              refine lv_icmp_ne (tgt := 160) hx hb dX15_matches_153 (by decide) (fun c_235 => ?_) (fun c_235 => ?_)
              ·
                have hi_236 : (R (exT (TC fv z) st q (sdM LC DN (nI fm)) U) (cc + 1) vo).1 ≠ 5 := fun q => c_235 (by rw [q]; rfl)
                refine lv_iload hx hb dX15_matches_160 (lv_at hl 0 rfl) ?_
                refine lv_bipush (v := 6) hx hb dX15_matches_162 (by decide) ?_
                refine lv_icmp_eq (tgt := 172) hx hb dX15_matches_164 (by decide) (fun c_237 => ?_) (fun c_237 => ?_)
                ·
                  have hi_238 : (R (exT (TC fv z) st q (sdM LC DN (nI fm)) U) (cc + 1) vo).1 = 6 := (nI_eq (a := (R (exT (TC fv z) st q (sdM LC DN (nI fm)) U) (cc + 1) vo).1) (b := 6) (by omega) (by omega)).mp c_237
                  refine lv_bipush (v := 6) hx hb dX15_matches_172 (by decide) ?_
                  refine lv_goto (tgt := 178) hx hb dX15_matches_174 (by decide) ?_
                  refine W.widen (k := 0) (n := 0) (by omega) (by omega) ?_
                  exact W.iret (v := 6) hx hb hr (fun t ht hWm => ⟨⟨6, gp_213, rfl, (by unfold mtW; rw [if_neg (show ¬ (k, g, st, q, w, yq).1 = 1 from hke1), if_neg (show ¬ (k, g, st, q, w, yq).1 = 5 from hke5), if_neg (show ¬ ((k, g, st, q, w, yq).1 = 7 ∨ (k, g, st, q, w, yq).1 = 8) from fun q => by have h9 : k = 7 ∨ k = 8 := q; omega), if_neg (show ¬ 10 < cc + 1 by omega), if_pos (show (k, g, st, q, w, yq).1 = 2 from hke2)]; dsimp only; have e6 : (R (exT (TC fv z) st q (sdM LC DN (nI fm)) U) (cc + 1) vo).1 = 6 := ((nI_eq (b := 6) (by omega) (by omega)).mp c_237); rw [if_neg (by omega), if_neg (by omega), e6]; exact ⟨rfl, hr2⟩), ⟨F_215, u17_216, u18_217, u19_218, u20_219, u21_220, u22_221, QTm.mk ht hP hD hO hR, hq_222⟩⟩, hS.F ht⟩) hS.2.2 dX15_matches_178
                ·
                  have hi_239 : (R (exT (TC fv z) st q (sdM LC DN (nI fm)) U) (cc + 1) vo).1 ≠ 6 := fun q => c_237 (by rw [q]; rfl)
                  refine lv_iload hx hb dX15_matches_167 (lv_at hl 0 rfl) ?_
                  refine lv_if_ne (tgt := 177) hx hb dX15_matches_169 (by decide) (fun c_240 => ?_) (fun c_240 => ?_)
                  ·
                    have hi_241 : (R (exT (TC fv z) st q (sdM LC DN (nI fm)) U) (cc + 1) vo).1 ≠ 0 := fun q => c_240 (by rw [q]; rfl)
                    refine lv_iconst (v := 0) hx hb dX15_matches_177 (by decide) ?_
                    refine W.widen (k := 0) (n := 0) (by omega) (by omega) ?_
                    exact W.iret (v := 0) hx hb hr (fun t ht hWm => ⟨⟨0, gp_213, rfl, (by unfold mtW; rw [if_neg (show ¬ (k, g, st, q, w, yq).1 = 1 from hke1), if_neg (show ¬ (k, g, st, q, w, yq).1 = 5 from hke5), if_neg (show ¬ ((k, g, st, q, w, yq).1 = 7 ∨ (k, g, st, q, w, yq).1 = 8) from fun q => by have h9 : k = 7 ∨ k = 8 := q; omega), if_neg (show ¬ 10 < cc + 1 by omega), if_pos (show (k, g, st, q, w, yq).1 = 2 from hke2)]; dsimp only; have x2 : ¬ (R (exT (TC fv z) st q (sdM LC DN (nI fm)) U) (cc + 1) vo).1 = 2 := (fun q => c_233 (by rw [q]; rfl)); have x5 : ¬ (R (exT (TC fv z) st q (sdM LC DN (nI fm)) U) (cc + 1) vo).1 = 5 := (fun q => c_235 (by rw [q]; rfl)); have x6 : ¬ (R (exT (TC fv z) st q (sdM LC DN (nI fm)) U) (cc + 1) vo).1 = 6 := (fun q => c_237 (by rw [q]; rfl)); have x0 : ¬ (R (exT (TC fv z) st q (sdM LC DN (nI fm)) U) (cc + 1) vo).1 = 0 := (fun q => c_240 (by rw [q]; rfl)); rw [if_pos (by omega)]; exact ⟨rfl, hr2⟩), ⟨F_215, u17_216, u18_217, u19_218, u20_219, u21_220, u22_221, QTm.mk ht hP hD hO hR, hq_222⟩⟩, hS.F ht⟩) hS.2.2 dX15_matches_178
                  ·
                    have hi_242 : (R (exT (TC fv z) st q (sdM LC DN (nI fm)) U) (cc + 1) vo).1 = 0 := (nI_eq (a := (R (exT (TC fv z) st q (sdM LC DN (nI fm)) U) (cc + 1) vo).1) (b := 0) (by omega) (by omega)).mp c_240
                    refine lv_bipush (v := 6) hx hb dX15_matches_172 (by decide) ?_
                    refine lv_goto (tgt := 178) hx hb dX15_matches_174 (by decide) ?_
                    refine W.widen (k := 0) (n := 0) (by omega) (by omega) ?_
                    exact W.iret (v := 6) hx hb hr (fun t ht hWm => ⟨⟨6, gp_213, rfl, (by unfold mtW; rw [if_neg (show ¬ (k, g, st, q, w, yq).1 = 1 from hke1), if_neg (show ¬ (k, g, st, q, w, yq).1 = 5 from hke5), if_neg (show ¬ ((k, g, st, q, w, yq).1 = 7 ∨ (k, g, st, q, w, yq).1 = 8) from fun q => by have h9 : k = 7 ∨ k = 8 := q; omega), if_neg (show ¬ 10 < cc + 1 by omega), if_pos (show (k, g, st, q, w, yq).1 = 2 from hke2)]; dsimp only; have e0 : (R (exT (TC fv z) st q (sdM LC DN (nI fm)) U) (cc + 1) vo).1 = 0 := ((nI_eq (b := 0) (by omega) (by omega)).mp c_240); rw [if_neg (by omega), if_pos e0]; exact ⟨rfl, hr2⟩), ⟨F_215, u17_216, u18_217, u19_218, u20_219, u21_220, u22_221, QTm.mk ht hP hD hO hR, hq_222⟩⟩, hS.F ht⟩) hS.2.2 dX15_matches_178
              ·
                have hi_243 : (R (exT (TC fv z) st q (sdM LC DN (nI fm)) U) (cc + 1) vo).1 = 5 := (nI_eq (a := (R (exT (TC fv z) st q (sdM LC DN (nI fm)) U) (cc + 1) vo).1) (b := 5) (by omega) (by omega)).mp c_235
                refine lv_iconst (v := 5) hx hb dX15_matches_156 (by decide) ?_
                refine lv_goto (tgt := 178) hx hb dX15_matches_157 (by decide) ?_
                refine W.widen (k := 0) (n := 0) (by omega) (by omega) ?_
                exact W.iret (v := 5) hx hb hr (fun t ht hWm => ⟨⟨5, gp_213, rfl, (by unfold mtW; rw [if_neg (show ¬ (k, g, st, q, w, yq).1 = 1 from hke1), if_neg (show ¬ (k, g, st, q, w, yq).1 = 5 from hke5), if_neg (show ¬ ((k, g, st, q, w, yq).1 = 7 ∨ (k, g, st, q, w, yq).1 = 8) from fun q => by have h9 : k = 7 ∨ k = 8 := q; omega), if_neg (show ¬ 10 < cc + 1 by omega), if_pos (show (k, g, st, q, w, yq).1 = 2 from hke2)]; dsimp only; have e5 : (R (exT (TC fv z) st q (sdM LC DN (nI fm)) U) (cc + 1) vo).1 = 5 := ((nI_eq (b := 5) (by omega) (by omega)).mp c_235); rw [if_neg (by omega), if_neg (by omega), e5]; exact ⟨rfl, hr2⟩), ⟨F_215, u17_216, u18_217, u19_218, u20_219, u21_220, u22_221, QTm.mk ht hP hD hO hR, hq_222⟩⟩, hS.F ht⟩) hS.2.2 dX15_matches_178
            ·
              have hi_244 : (R (exT (TC fv z) st q (sdM LC DN (nI fm)) U) (cc + 1) vo).1 = 2 := (nI_eq (a := (R (exT (TC fv z) st q (sdM LC DN (nI fm)) U) (cc + 1) vo).1) (b := 2) (by omega) (by omega)).mp c_233
              refine lv_iconst (v := 1) hx hb dX15_matches_146 (by decide) ?_
              refine lv_goto (tgt := 178) hx hb dX15_matches_147 (by decide) ?_
              refine W.widen (k := 0) (n := 0) (by omega) (by omega) ?_
              exact W.iret (v := 1) hx hb hr (fun t ht hWm => ⟨⟨1, gp_213, rfl, (by unfold mtW; rw [if_neg (show ¬ (k, g, st, q, w, yq).1 = 1 from hke1), if_neg (show ¬ (k, g, st, q, w, yq).1 = 5 from hke5), if_neg (show ¬ ((k, g, st, q, w, yq).1 = 7 ∨ (k, g, st, q, w, yq).1 = 8) from fun q => by have h9 : k = 7 ∨ k = 8 := q; omega), if_neg (show ¬ 10 < cc + 1 by omega), if_pos (show (k, g, st, q, w, yq).1 = 2 from hke2)]; dsimp only; have e2 : (R (exT (TC fv z) st q (sdM LC DN (nI fm)) U) (cc + 1) vo).1 = 2 := ((nI_eq (b := 2) (by omega) (by omega)).mp c_233); rw [if_neg (by omega), if_neg (by omega), e2]; exact ⟨rfl, hr2⟩), ⟨F_215, u17_216, u18_217, u19_218, u20_219, u21_220, u22_221, QTm.mk ht hP hD hO hR, hq_222⟩⟩, hS.F ht⟩) hS.2.2 dX15_matches_178
        ·
          have hQso := hR so (by rw [hTs0]; simp only [mem_tgS, List.mem_cons, List.not_mem_nil, or_false]; omega)
          have hQad := hR ad (by rw [hTd0]; simp only [mem_tgS, List.mem_cons, List.not_mem_nil, or_false]; omega)
          have hQna := hR na (by rw [hTn0]; simp only [mem_tgS, List.mem_cons, List.not_mem_nil, or_false]; omega)
          have hQva := hR va (by rw [hTv0]; simp only [mem_tgS, List.mem_cons, List.not_mem_nil, or_false]; omega)
          have hDM5 := DIRM.fr hDM hO0 hW hLn0 hTn0 hLv0 hTv0 (by omega) hR hQso hQad hQna hQva (fun k hk => ⟨by simp only [mem_tgS, List.mem_cons, List.not_mem_nil, or_false]; omega, by simp only [mem_tgS, List.mem_cons, List.not_mem_nil, or_false]; omega⟩)
          have hLC5 := hLC.fr hO0 hW hi_42 ht_43 hR (by simp only [mem_tgS, List.mem_cons, List.not_mem_nil, or_false]; omega)
          have hDN5 := hDN.fr hO0 hW hi_50 ht_51 hR (by simp only [mem_tgS, List.mem_cons, List.not_mem_nil, or_false]; omega)
          have hTD5 := hTD.fr hO0 hW hL_dd hT_dd hR (by simp only [mem_tgS, List.mem_cons, List.not_mem_nil, or_false]; omega)
          refine lv_aload_n hx hb dX15_matches_80 rfl (lv_at hl 3 rfl) ?_
          refine pg_get (ci := 15) (v := .int v19) (C := RX15) (T := TX15) (N := 59) hx hb hts it_15 hown hK hP hL_h0 hF_65 rfl 19 (by decide) (hts _ kt_751) (fun _ h9 => h9) rfl dX15_matches_81 ?_
          refine lv_if_ge (tgt := 104) hx hb dX15_matches_84 (by decide) (fun c_245 => ?_) (fun c_245 => ?_)
          ·
            obtain ⟨e19, e20, hHS⟩ : v19 = nI st ∧ v20 = nI q ∧ HSW (TC fv z) st q := by rcases (show (k = 2 ∨ k = 6) ∨ (k = 3 ∨ k = 4) by omega) with c9 | c9; exact hDq c9; rcases hAq c9 with q9 | q9; exact absurd (q9.2 ▸ c_245 : (0 : Int32) ≤ (-1)) (by decide); exact q9.2
            refine lv_aload_n hx hb dX15_matches_104 rfl (lv_at hl 3 rfl) ?_
            refine lv_aload_n hx hb dX15_matches_105 rfl (lv_at hl 4 rfl) ?_
            refine pg_get (ci := 14) (v := .ref rv) (C := RX14) (T := TX14) (N := 2) hx hb hts it_14 hown hK hP hL_tv hF_66 rfl 0 (by decide) (hts _ kt_710) (fun _ h9 => h9) rfl dX15_matches_106 ?_
            refine lv_aload_n hx hb dX15_matches_109 rfl (lv_at hl 3 rfl) ?_
            refine pg_get (ci := 15) (v := .int v19) (C := RX15) (T := TX15) (N := 59) hx hb hts it_15 hown hK hP hL_h0 hF_65 rfl 19 (by decide) (hts _ kt_751) (fun _ h9 => h9) rfl dX15_matches_110 ?_
            refine lv_topi (fun x9 ex9 => ?_)
            obtain rfl : x9 = nI st := ex9.trans e19
            refine lv_aload_n hx hb dX15_matches_113 rfl (lv_at hl 3 rfl) ?_
            refine pg_get (ci := 15) (v := .int v20) (C := RX15) (T := TX15) (N := 59) hx hb hts it_15 hown hK hP hL_h0 hF_65 rfl 20 (by decide) (hts _ kt_752) (fun _ h9 => h9) rfl dX15_matches_114 ?_
            refine lv_topi (fun x9 ex9 => ?_)
            obtain rfl : x9 = nI q := ex9.trans e20
            refine lv_aload_n hx hb dX15_matches_117 rfl (lv_at hl 5 rfl) ?_
            refine lv_aload hx hb dX15_matches_118 (lv_at hl 0 rfl) ?_
            obtain ⟨hq_246, hq_247⟩ := hW.octs hi_34 ht_35
            have hFc := pg_free hD hS hA
            refine va_callv (va_runV (As := [.ref rv, .int (nI st), .int (nI q), .ref dd, .ref b_75]) (rest := []) ⟨hx, hb, hml, hown, hts⟩ (s_X15_expand_x l dC dI cs ty gm L H.size F_63 h0 ρ ta ou so ad na va lc dm tg pe ml bg co sp nb0 nb1 nb2 pl se ke wi hs mo po nu pr sq xa sa n64 m64 ex wh sd tk hd ak ho ot sx s0 s1 s2 nf bd mm zo fm sn 0 gc gv ze zt rp b_75 (ρ + 200 + lv + 100) r_76 rv μ fv dd τ rd nd z st q LC DN U hW hL_h0 hT_h0 hL_pe hT_pe hi_78 ht_79 hi_34 ht_35 hL_dd hT_dd hF_67 (by first | omega | assumption | exact Or.inl rfl) (hmu2) (by omega) (by omega) (by omega) (hzn) (hqz) (hnd) (hHS) (hLC5) (hDN5) (hTD5)) ⟨callB_of 5 hts (gi kt_1164) rfl rfl rfl (hts _ kt_669) (hts _ kt_1165) (by decide +kernel) ⟨by show 4 + 1 ≤ fr + 5; omega, by show 8 + (8 + 11) + 102 ≤ lo + 129; omega⟩, (hts _ kt_1166), (hts _ kt_1167)⟩ ⟨fun a U g mk q => ⟨q.1, PTm.calling q.2⟩, pg_recv hK hP hL_h0 hF_65 (q := (RX15, TX15, 59)) rfl, fun U hU hWm => ⟨rfl, PTm.mk hU hWm hP hK hD hE hO⟩⟩ rfl rfl hl.1 rfl (lv_room (Nat.le_of_ble_eq_true rfl)) dX15_matches_120 ⟨by show _ + 0 ≤ 0; omega, by show _ + 0 ≤ 0; omega⟩) hS (fun q _ h => hFc q h) hFc (fun u t H1 locs ht hvm hw hB hz1 hk1 hS => ?_)
            obtain ⟨F_249, y2_250, f2_251, hB1, hq_252, hq_253, hq_254⟩ := hB
            obtain ⟨hP, hD, hO, hR⟩ := QTm.back hB1 ht hFc hR (fun q h => by simp only [mem_tgS, List.mem_cons, List.not_mem_nil, or_false] at h ⊢; omega)
            have hF_255 : F_249 h0 = .inr (15, (.ref ta) :: (.int (nI zt)) :: (.int (nI zo)) :: (.int (nI ze)) :: (.ref ou) :: (.ref so) :: (.ref ad) :: (.ref na) :: (.ref va) :: (.ref lc) :: (.ref dm) :: (.int (nI fm)) :: (.int (nI sn)) :: (.ref tg) :: (.int (nI (cc + 1))) :: (.int (nI vo)) :: (.ref pe) :: (.int (nI (k - 1))) :: (.int v18) :: (.int v19) :: (.int v20) :: (.int v21) :: (.int v22) :: (.ref ml) :: (.ref bg) :: (.ref co) :: (.ref sp) :: (.ref nb0) :: (.ref nb1) :: (.ref nb2) :: (.int (nI nf)) :: (.int (nI bd)) :: (.int (nI mm)) :: (.int v33) :: (.ref pl) :: (.ref se) :: (.ref ke) :: (.ref wi) :: (.ref hs) :: (.ref mo) :: (.ref po) :: (.ref nu) :: (.ref pr) :: (.ref sq) :: (.ref xa) :: (.ref sa) :: (.ref n64) :: (.ref m64) :: (.ref ex) :: (.ref wh) :: (.ref sd) :: (.ref tk) :: (.int v52) :: (.int v53) :: (.int v54) :: (.ref hd) :: (.ref ak) :: (.ref ho) :: (.ref ot) :: []) := (hB1.2.2.2 h0 (by rw [hT_h0]; simp only [mem_tgS, List.mem_cons, List.not_mem_nil, or_false]; omega)).trans hF_65
            have hF_256 : F_249 tv = .inr (14, [.ref rv, .int (nI z)]) := (hB1.2.2.2 tv (by rw [hT_tv]; simp only [mem_tgS, List.mem_cons, List.not_mem_nil, or_false]; omega)).trans hF_66
            have hF_257 : F_249 rv = .inl (cs 17, 700, .inl fv) := (hB1.2.2.2 rv (by rw [ht_35]; simp only [mem_tgS, List.mem_cons, List.not_mem_nil, or_false]; omega)).trans hF_67
            have hF_258 : F_249 dd = .inr (14, [.ref rd, .int (nI y)]) := (hB1.2.2.2 dd (by rw [hT_dd]; simp only [mem_tgS, List.mem_cons, List.not_mem_nil, or_false]; omega)).trans hF_68
            have hF_259 : F_249 rd = .inl (cs 17, nd, .inl hf) := (hB1.2.2.2 rd (by rw [ht_32]; simp only [mem_tgS, List.mem_cons, List.not_mem_nil, or_false]; omega)).trans hF_69
            have hF_260 : F_249 tg = .inl (cs 23, 13, .inr (.inr (.inr (.inr f_39)))) := (hB1.2.2.2 tg (by rw [ht_38]; simp only [mem_tgS, List.mem_cons, List.not_mem_nil, or_false]; omega)).trans hF_70
            have hF_261 : F_249 lc = .inr (14, [.ref r_1, .int (nI z_47)]) := (hB1.2.2.2 lc (by rw [ht_43]; simp only [mem_tgS, List.mem_cons, List.not_mem_nil, or_false]; omega)).trans hF_71
            have hF_262 : F_249 dm = .inr (14, [.ref r_2, .int (nI z_55)]) := (hB1.2.2.2 dm (by rw [ht_51]; simp only [mem_tgS, List.mem_cons, List.not_mem_nil, or_false]; omega)).trans hF_72
            generalize H1 = H at hP hS ⊢
            have hT5 : TGM (exT (TC fv z) st q (sdM LC DN (nI fm)) U) y2_250 f2_251 := by unfold exT; rw [if_neg (by have h9 := hHS.1; omega)]; exact hq_254
            refine W.widen (k := 0) (n := 0) (by omega) (by omega) ?_
            exact jn_91 (y2_250, f2_251) F_249 (⟨hF_255, hq_252, hq_253, hT5⟩) hO hR _ _ hP hD hS ls (lv_sub hl [0, 1, 2, 3, 4, 5, 6] rfl)
          ·
            have hst : st = q ∧ (k = 3 ∨ k = 4) := by rcases (show (k = 2 ∨ k = 6) ∨ (k = 3 ∨ k = 4) by omega) with c9 | c9; exact absurd (by rw [(hDq c9).1]; exact Int32.not_lt.mp (nI_pos (by have h8 := (hDq c9).2.2.1; omega))) c_245; rcases hAq c9 with q9 | q9; exact ⟨q9.1, c9⟩; exact absurd (by rw [q9.2.1]; exact Int32.not_lt.mp (nI_pos (by have h8 := q9.1; omega))) c_245
            refine lv_aload hx hb dX15_matches_87 (lv_at hl 0 rfl) ?_
            refine lv_aload_n hx hb dX15_matches_89 rfl (lv_at hl 5 rfl) ?_
            refine pg_get (ci := 14) (v := .ref rd) (C := RX14) (T := TX14) (N := 2) hx hb hts it_14 hown hK hP hL_dd hF_68 rfl 0 (by decide) (hts _ kt_710) (fun _ h9 => h9) rfl dX15_matches_90 ?_
            refine lv_iconst (v := 0) hx hb dX15_matches_93 (by decide) ?_
            refine lv_aload_n hx hb dX15_matches_94 rfl (lv_at hl 5 rfl) ?_
            refine pg_get (ci := 14) (v := .int (nI y)) (C := RX14) (T := TX14) (N := 2) hx hb hts it_14 hown hK hP hL_dd hF_68 rfl 1 (by decide) (hts _ kt_709) (fun _ h9 => h9) rfl dX15_matches_95 ?_
            refine W.eq (g2 := F0 m 98 ls [.int (nI y), .int (nI 0), .ref rd, .ref b_75]) rfl ?_
            obtain ⟨hq_263, hq_264⟩ := hW.octs hi_31 ht_32
            have hFc := pg_free hD hS hA
            refine va_callv (va_runV (As := [.ref rd, .int (nI 0), .int (nI y)]) (rest := []) ⟨hx, hb, hml, hown, hts⟩ (s_X14_set_e l dC dI cs ty gm L H.size F_63 b_75 (ρ + 200 + lv + 100) r_76 61 rd τ nd 0 y hf hW hi_78 ht_79 hi_31 ht_32 hF_69 (Nat.zero_le _) (hyn) (by have h9 := tgm_le hTU; omega)) ⟨callB_of 3 hts (gi kt_941) rfl rfl rfl (hts _ kt_676) (hts _ kt_942) (by decide +kernel) ⟨by show 2 + 1 ≤ fr + 5; omega, by show 8 + (4 + 11) + 71 ≤ lo + 129; omega⟩, (hts _ kt_943), (hts _ kt_944)⟩ ⟨fun a U g mk q => ⟨q.1, PTm.calling q.2⟩, pg_recv hK hP hi_78 hF_84 (q := (RX14, TX14, 2)) rfl, fun U hU hWm => ⟨rfl, PTm.mk hU hWm hP hK hD hE hO⟩⟩ rfl rfl hl.1 rfl (lv_room (Nat.le_of_ble_eq_true rfl)) dX15_matches_98 ⟨by show _ + 0 ≤ 0; omega, by show _ + 0 ≤ 0; omega⟩) hS (fun q _ h => hFc q h) hFc (fun u t H1 locs ht hvm hw hB hz1 hk1 hS => ?_)
            obtain ⟨F_266, fc_267, hB1, hq_268, hq_269, hq_270⟩ := hB
            obtain ⟨hP, hD, hO, hR⟩ := QTm.back hB1 ht hFc hR (fun q h => by simp only [mem_tgS, List.mem_cons, List.not_mem_nil, or_false] at h ⊢; omega)
            have hF_271 : F_266 h0 = .inr (15, (.ref ta) :: (.int (nI zt)) :: (.int (nI zo)) :: (.int (nI ze)) :: (.ref ou) :: (.ref so) :: (.ref ad) :: (.ref na) :: (.ref va) :: (.ref lc) :: (.ref dm) :: (.int (nI fm)) :: (.int (nI sn)) :: (.ref tg) :: (.int (nI (cc + 1))) :: (.int (nI vo)) :: (.ref pe) :: (.int (nI (k - 1))) :: (.int v18) :: (.int v19) :: (.int v20) :: (.int v21) :: (.int v22) :: (.ref ml) :: (.ref bg) :: (.ref co) :: (.ref sp) :: (.ref nb0) :: (.ref nb1) :: (.ref nb2) :: (.int (nI nf)) :: (.int (nI bd)) :: (.int (nI mm)) :: (.int v33) :: (.ref pl) :: (.ref se) :: (.ref ke) :: (.ref wi) :: (.ref hs) :: (.ref mo) :: (.ref po) :: (.ref nu) :: (.ref pr) :: (.ref sq) :: (.ref xa) :: (.ref sa) :: (.ref n64) :: (.ref m64) :: (.ref ex) :: (.ref wh) :: (.ref sd) :: (.ref tk) :: (.int v52) :: (.int v53) :: (.int v54) :: (.ref hd) :: (.ref ak) :: (.ref ho) :: (.ref ot) :: []) := (hB1.2.2.2 h0 (by rw [hT_h0]; simp only [mem_tgS, List.mem_cons, List.not_mem_nil, or_false]; omega)).trans hF_65
            have hF_272 : F_266 tv = .inr (14, [.ref rv, .int (nI z)]) := (hB1.2.2.2 tv (by rw [hT_tv]; simp only [mem_tgS, List.mem_cons, List.not_mem_nil, or_false]; omega)).trans hF_66
            have hF_273 : F_266 rv = .inl (cs 17, 700, .inl fv) := (hB1.2.2.2 rv (by rw [ht_35]; simp only [mem_tgS, List.mem_cons, List.not_mem_nil, or_false]; omega)).trans hF_67
            have hF_274 : F_266 dd = .inr (14, [.ref rd, .int (nI y)]) := (hB1.2.2.2 dd (by rw [hT_dd]; simp only [mem_tgS, List.mem_cons, List.not_mem_nil, or_false]; omega)).trans hF_68
            have hF_275 : F_266 rd = .inl (cs 17, nd, .inl hf) := (hB1.2.2.2 rd (by rw [ht_32]; simp only [mem_tgS, List.mem_cons, List.not_mem_nil, or_false]; omega)).trans hF_69
            have hF_276 : F_266 tg = .inl (cs 23, 13, .inr (.inr (.inr (.inr f_39)))) := (hB1.2.2.2 tg (by rw [ht_38]; simp only [mem_tgS, List.mem_cons, List.not_mem_nil, or_false]; omega)).trans hF_70
            have hF_277 : F_266 lc = .inr (14, [.ref r_1, .int (nI z_47)]) := (hB1.2.2.2 lc (by rw [ht_43]; simp only [mem_tgS, List.mem_cons, List.not_mem_nil, or_false]; omega)).trans hF_71
            have hF_278 : F_266 dm = .inr (14, [.ref r_2, .int (nI z_55)]) := (hB1.2.2.2 dm (by rw [ht_51]; simp only [mem_tgS, List.mem_cons, List.not_mem_nil, or_false]; omega)).trans hF_72
            generalize H1 = H at hP hS ⊢
            have hT5 : TGM (exT (TC fv z) st q (sdM LC DN (nI fm)) U) (y - 0) fc_267 := by unfold exT; rw [if_pos hst.1]; exact ⟨hTU.1, fun j hj => (hq_270 j hj).trans (by rw [Nat.zero_add]; exact hTU.2 j hj)⟩
            refine lv_goto (tgt := 123) hx hb dX15_matches_101 (by decide) ?_
            refine W.widen (k := 0) (n := 0) (by omega) (by omega) ?_
            exact jn_91 ((y - 0), fc_267) F_266 (⟨hF_271, hq_268, hq_269, hT5⟩) hO hR _ _ hP hD hS ls (lv_sub hl [0, 1, 2, 3, 4, 5, 6] rfl)
      ·
        have hi_279 : 10 < (cc + 1) := Nat.not_le.mp (fun q => c_73 ((nI_leI (a := (cc + 1)) (b := 10) (by omega) (by omega)).mpr q))
        refine lv_bipush (v := 6) hx hb dX15_matches_69 (by decide) ?_
        refine W.widen (k := 0) (n := 0) (by omega) (by omega) ?_
        exact W.iret (v := 6) hx hb hr (fun t ht hWm => ⟨⟨6, (cc + 1, vo), rfl, (by unfold mtW; rw [if_neg (show ¬ (k, g, st, q, w, yq).1 = 1 from hke1), if_neg (show ¬ (k, g, st, q, w, yq).1 = 5 from hke5), if_neg (show ¬ ((k, g, st, q, w, yq).1 = 7 ∨ (k, g, st, q, w, yq).1 = 8) from fun q => by have h9 : k = 7 ∨ k = 8 := q; omega), if_pos (show 10 < cc + 1 by omega)]; exact ⟨rfl, rfl⟩), ⟨F_63, (nI (k - 1)), v18, v19, v20, v21, v22, QTm.mk ht hP hD hO hR, hF_65⟩⟩, hS.F ht⟩) hS.2.2 dX15_matches_71
    ·
      have hi_280 : (k - 1) = 4 := (nI_eq (a := (k - 1)) (b := 4) (by omega) (by omega)).mp c_60
      have hke5 : k = 5 := (show k = 5 by have h9 := (nI_eq (a := k - 1) (b := 4) (by omega) (by omega)).mp c_60; omega)
      refine lv_aload_n hx hb dX15_matches_17 rfl (lv_at hl 0 rfl) ?_
      refine lv_aload_n hx hb dX15_matches_18 rfl (lv_at hl 0 rfl) ?_
      refine pg_get (ci := 15) (v := .int v22) (C := RX15) (T := TX15) (N := 59) hx hb hts it_15 hown hK hP hL_h0 hF0 rfl 22 (by decide) (hts _ kt_745) (fun _ h9 => h9) rfl dX15_matches_19 ?_
      refine lv_aload_n hx hb dX15_matches_22 rfl (lv_at hl 0 rfl) ?_
      refine pg_get (ci := 15) (v := .int v21) (C := RX15) (T := TX15) (N := 59) hx hb hts it_15 hown hK hP hL_h0 hF0 rfl 21 (by decide) (hts _ kt_749) (fun _ h9 => h9) rfl dX15_matches_23 ?_
      refine lv_topi (fun x9 ex9 => ?_)
      obtain rfl : x9 = nI w := ex9.trans (hWd (by omega)).2
      have hFc := pg_free hD hS hA
      refine va_calli (va_runV (As := [.int v22, .int (nI w)]) (rest := []) ⟨hx, hb, hml, hown, hts⟩ (s_X15_isSender_x l dC dI cs ty gm L s.heap.size F h0 ρ ta ou so ad na va lc dm tg pe ml bg co sp nb0 nb1 nb2 pl se ke wi hs mo po nu pr sq xa sa n64 m64 ex wh sd tk hd ak ho ot sx s0 s1 s2 nf bd mm zo fm sn 0 gc gv ze zt v22 w hW hL_h0 hT_h0 ((hWd (by omega)).1)) ⟨callB_of 2 hts (gi kt_741) rfl rfl rfl (hts _ kt_669) (hts _ kt_742) (by decide +kernel) ⟨by show 0 + 1 ≤ fr + 5; omega, by show 8 + (3 + 11) + 0 ≤ lo + 129; omega⟩, (hts _ kt_743), (hts _ kt_744)⟩ ⟨fun a U g mk q => ⟨q.1, PTm.calling q.2⟩, pg_recv hK hP hL_h0 hF0 (q := (RX15, TX15, 59)) rfl, fun U hU hWm => ⟨rfl, PTm.mk hU hWm hP hK hD hE hO⟩⟩ rfl rfl hl.1 rfl (lv_room (Nat.le_of_ble_eq_true rfl)) dX15_matches_26 ⟨by show _ + 0 ≤ 0; omega, by show _ + 0 ≤ 0; omega⟩) hS (fun q _ h => hFc q h) hFc (fun r_281 u t H1 locs ht hvm hw hB hz1 hk1 hS => ?_)
      obtain ⟨F_282, hB1⟩ := hB
      obtain rfl : F = F_282 := (funext (fun a => hB1.2.2.2 a List.not_mem_nil)).symm
      obtain ⟨hP, hD, hO, hR⟩ := QTm.back hB1 ht hFc hR (fun q h => absurd h List.not_mem_nil)
      generalize H1 = H at hP hS ⊢
      have hw : ((r_281 = 1 ∧ SNE v22 (nI fm) w) ∨ (r_281 = 0 ∧ ¬ SNE v22 (nI fm) w)) := hw
      have hw_283 := hw
      refine lv_if_eq (tgt := 36) hx hb dX15_matches_29 (by decide) (fun c_284 => ?_) (fun c_284 => ?_)
      ·
        refine lv_iconst (v := 0) hx hb dX15_matches_36 (by decide) ?_
        refine W.widen (k := 0) (n := 0) (by omega) (by omega) ?_
        exact W.iret (v := 0) hx hb hr (fun t ht hWm => ⟨⟨0, (cc, vo), rfl, (by unfold mtW; rw [if_neg (show ¬ (k, g, st, q, w, yq).1 = 1 from hke1), if_pos (show (k, g, st, q, w, yq).1 = 5 from hke5), if_neg (show ¬ SNE (nI fm) (k, g, st, q, w, yq).2.2.2.2.2 (k, g, st, q, w, yq).2.2.2.2.1 from fun q => orp0 hw_283 c_284 (by rw [hQ hke5]; exact SNE_c.mp q))]; exact ⟨rfl, rfl⟩), ⟨F, (nI (k - 1)), v18, v19, v20, v21, v22, QTm.mk ht hP hD hO hR, hF0⟩⟩, hS.F ht⟩) hS.2.2 dX15_matches_37
      ·
        refine lv_iconst (v := 1) hx hb dX15_matches_32 (by decide) ?_
        refine lv_goto (tgt := 37) hx hb dX15_matches_33 (by decide) ?_
        refine W.widen (k := 0) (n := 0) (by omega) (by omega) ?_
        exact W.iret (v := 1) hx hb hr (fun t ht hWm => ⟨⟨1, (cc, vo), rfl, (by unfold mtW; rw [if_neg (show ¬ (k, g, st, q, w, yq).1 = 1 from hke1), if_pos (show (k, g, st, q, w, yq).1 = 5 from hke5), if_pos (show SNE (nI fm) (k, g, st, q, w, yq).2.2.2.2.2 (k, g, st, q, w, yq).2.2.2.2.1 from by have h9 := orp1 hw_283 c_284; rw [hQ hke5] at h9; exact SNE_c.mp h9)]; exact ⟨rfl, rfl⟩), ⟨F, (nI (k - 1)), v18, v19, v20, v21, v22, QTm.mk ht hP hD hO hR, hF0⟩⟩, hS.F ht⟩) hS.2.2 dX15_matches_37
  ·
    have hi_285 : (k - 1) = 0 := (nI_eq (a := (k - 1)) (b := 0) (by omega) (by omega)).mp c_58
    have hke1 : k = 1 := (show k = 1 by have h9 := (nI_eq (a := k - 1) (b := 0) (by omega) (by omega)).mp c_58; omega)
    refine lv_iconst (v := 1) hx hb dX15_matches_7 (by decide) ?_
    refine W.widen (k := 0) (n := 0) (by omega) (by omega) ?_
    exact W.iret (v := 1) hx hb hr (fun t ht hWm => ⟨⟨1, (cc, vo), rfl, (by unfold mtW; rw [if_pos (show (k, g, st, q, w, yq).1 = 1 from hke1)]; exact ⟨rfl, rfl⟩), ⟨F, (nI (k - 1)), v18, v19, v20, v21, v22, QTm.mk ht hP hD hO hR, hF0⟩⟩, hS.F ht⟩) hS.2.2 dX15_matches_8
