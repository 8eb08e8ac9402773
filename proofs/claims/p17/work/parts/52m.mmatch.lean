theorem dX15_matches_0 : decode cX15_matches 0 = .ok (.aload_n 0, 1) := by decide +kernel
theorem dX15_matches_1 : decode cX15_matches 1 = .ok (.getfield 238, 3) := by decide +kernel
theorem dX15_matches_4 : decode cX15_matches 4 = .ok (.ifCond .ne 5, 3) := by decide +kernel
theorem dX15_matches_7 : decode cX15_matches 7 = .ok (.iconst 1, 1) := by decide +kernel
theorem dX15_matches_8 : decode cX15_matches 8 = .ok (.ireturn, 1) := by decide +kernel
theorem dX15_matches_9 : decode cX15_matches 9 = .ok (.aload_n 0, 1) := by decide +kernel
theorem dX15_matches_10 : decode cX15_matches 10 = .ok (.getfield 238, 3) := by decide +kernel
theorem dX15_matches_13 : decode cX15_matches 13 = .ok (.iconst 4, 1) := by decide +kernel
theorem dX15_matches_14 : decode cX15_matches 14 = .ok (.if_icmp .ne 24, 3) := by decide +kernel
theorem dX15_matches_17 : decode cX15_matches 17 = .ok (.aload_n 0, 1) := by decide +kernel
theorem dX15_matches_18 : decode cX15_matches 18 = .ok (.aload_n 0, 1) := by decide +kernel
theorem dX15_matches_19 : decode cX15_matches 19 = .ok (.getfield 232, 3) := by decide +kernel
theorem dX15_matches_22 : decode cX15_matches 22 = .ok (.aload_n 0, 1) := by decide +kernel
theorem dX15_matches_23 : decode cX15_matches 23 = .ok (.getfield 247, 3) := by decide +kernel
theorem dX15_matches_26 : decode cX15_matches 26 = .ok (.invokevirtual 331, 3) := by decide +kernel
theorem dX15_matches_29 : decode cX15_matches 29 = .ok (.ifCond .eq 7, 3) := by decide +kernel
theorem dX15_matches_32 : decode cX15_matches 32 = .ok (.iconst 1, 1) := by decide +kernel
theorem dX15_matches_33 : decode cX15_matches 33 = .ok (.goto 4, 3) := by decide +kernel
theorem dX15_matches_36 : decode cX15_matches 36 = .ok (.iconst 0, 1) := by decide +kernel
theorem dX15_matches_37 : decode cX15_matches 37 = .ok (.ireturn, 1) := by decide +kernel
theorem dX15_matches_38 : decode cX15_matches 38 = .ok (.aload_n 0, 1) := by decide +kernel
theorem dX15_matches_39 : decode cX15_matches 39 = .ok (.getfield 238, 3) := by decide +kernel
theorem dX15_matches_42 : decode cX15_matches 42 = .ok (.istore 4, 2) := by decide +kernel
theorem dX15_matches_44 : decode cX15_matches 44 = .ok (.aload_n 0, 1) := by decide +kernel
theorem dX15_matches_45 : decode cX15_matches 45 = .ok (.getfield 247, 3) := by decide +kernel
theorem dX15_matches_48 : decode cX15_matches 48 = .ok (.istore 5, 2) := by decide +kernel
theorem dX15_matches_50 : decode cX15_matches 50 = .ok (.aload_n 0, 1) := by decide +kernel
theorem dX15_matches_51 : decode cX15_matches 51 = .ok (.dup, 1) := by decide +kernel
theorem dX15_matches_52 : decode cX15_matches 52 = .ok (.getfield 212, 3) := by decide +kernel
theorem dX15_matches_55 : decode cX15_matches 55 = .ok (.iconst 1, 1) := by decide +kernel
theorem dX15_matches_56 : decode cX15_matches 56 = .ok (.iadd, 1) := by decide +kernel
theorem dX15_matches_57 : decode cX15_matches 57 = .ok (.putfield 212, 3) := by decide +kernel
theorem dX15_matches_60 : decode cX15_matches 60 = .ok (.aload_n 0, 1) := by decide +kernel
theorem dX15_matches_61 : decode cX15_matches 61 = .ok (.getfield 212, 3) := by decide +kernel
theorem dX15_matches_64 : decode cX15_matches 64 = .ok (.bipush 10, 2) := by decide +kernel
theorem dX15_matches_66 : decode cX15_matches 66 = .ok (.if_icmp .le 6, 3) := by decide +kernel
theorem dX15_matches_69 : decode cX15_matches 69 = .ok (.bipush 6, 2) := by decide +kernel
theorem dX15_matches_71 : decode cX15_matches 71 = .ok (.ireturn, 1) := by decide +kernel
theorem dX15_matches_72 : decode cX15_matches 72 = .ok (.aload_n 0, 1) := by decide +kernel
theorem dX15_matches_73 : decode cX15_matches 73 = .ok (.getfield 64, 3) := by decide +kernel
theorem dX15_matches_76 : decode cX15_matches 76 = .ok (.iload_n 3, 1) := by decide +kernel
theorem dX15_matches_77 : decode cX15_matches 77 = .ok (.aaload, 1) := by decide +kernel
theorem dX15_matches_78 : decode cX15_matches 78 = .ok (.astore 6, 2) := by decide +kernel
theorem dX15_matches_80 : decode cX15_matches 80 = .ok (.aload_n 0, 1) := by decide +kernel
theorem dX15_matches_81 : decode cX15_matches 81 = .ok (.getfield 241, 3) := by decide +kernel
theorem dX15_matches_84 : decode cX15_matches 84 = .ok (.ifCond .ge 20, 3) := by decide +kernel
theorem dX15_matches_87 : decode cX15_matches 87 = .ok (.aload 6, 2) := by decide +kernel
theorem dX15_matches_89 : decode cX15_matches 89 = .ok (.aload_n 2, 1) := by decide +kernel
theorem dX15_matches_90 : decode cX15_matches 90 = .ok (.getfield 295, 3) := by decide +kernel
theorem dX15_matches_93 : decode cX15_matches 93 = .ok (.iconst 0, 1) := by decide +kernel
theorem dX15_matches_94 : decode cX15_matches 94 = .ok (.aload_n 2, 1) := by decide +kernel
theorem dX15_matches_95 : decode cX15_matches 95 = .ok (.getfield 190, 3) := by decide +kernel
theorem dX15_matches_98 : decode cX15_matches 98 = .ok (.invokevirtual 186, 3) := by decide +kernel
theorem dX15_matches_101 : decode cX15_matches 101 = .ok (.goto 22, 3) := by decide +kernel
theorem dX15_matches_104 : decode cX15_matches 104 = .ok (.aload_n 0, 1) := by decide +kernel
theorem dX15_matches_105 : decode cX15_matches 105 = .ok (.aload_n 1, 1) := by decide +kernel
theorem dX15_matches_106 : decode cX15_matches 106 = .ok (.getfield 295, 3) := by decide +kernel
theorem dX15_matches_109 : decode cX15_matches 109 = .ok (.aload_n 0, 1) := by decide +kernel
theorem dX15_matches_110 : decode cX15_matches 110 = .ok (.getfield 241, 3) := by decide +kernel
theorem dX15_matches_113 : decode cX15_matches 113 = .ok (.aload_n 0, 1) := by decide +kernel
theorem dX15_matches_114 : decode cX15_matches 114 = .ok (.getfield 244, 3) := by decide +kernel
theorem dX15_matches_117 : decode cX15_matches 117 = .ok (.aload_n 2, 1) := by decide +kernel
theorem dX15_matches_118 : decode cX15_matches 118 = .ok (.aload 6, 2) := by decide +kernel
theorem dX15_matches_120 : decode cX15_matches 120 = .ok (.invokevirtual 328, 3) := by decide +kernel
theorem dX15_matches_123 : decode cX15_matches 123 = .ok (.iload 4, 2) := by decide +kernel
theorem dX15_matches_125 : decode cX15_matches 125 = .ok (.iconst 1, 1) := by decide +kernel
theorem dX15_matches_126 : decode cX15_matches 126 = .ok (.if_icmp .ne 53, 3) := by decide +kernel
theorem dX15_matches_129 : decode cX15_matches 129 = .ok (.aload_n 0, 1) := by decide +kernel
theorem dX15_matches_130 : decode cX15_matches 130 = .ok (.aload 6, 2) := by decide +kernel
theorem dX15_matches_132 : decode cX15_matches 132 = .ok (.iload_n 3, 1) := by decide +kernel
theorem dX15_matches_133 : decode cX15_matches 133 = .ok (.iconst 1, 1) := by decide +kernel
theorem dX15_matches_134 : decode cX15_matches 134 = .ok (.iadd, 1) := by decide +kernel
theorem dX15_matches_135 : decode cX15_matches 135 = .ok (.invokevirtual 218, 3) := by decide +kernel
theorem dX15_matches_138 : decode cX15_matches 138 = .ok (.istore 7, 2) := by decide +kernel
theorem dX15_matches_140 : decode cX15_matches 140 = .ok (.iload 7, 2) := by decide +kernel
theorem dX15_matches_142 : decode cX15_matches 142 = .ok (.iconst 2, 1) := by decide +kernel
theorem dX15_matches_143 : decode cX15_matches 143 = .ok (.if_icmp .ne 7, 3) := by decide +kernel
theorem dX15_matches_146 : decode cX15_matches 146 = .ok (.iconst 1, 1) := by decide +kernel
theorem dX15_matches_147 : decode cX15_matches 147 = .ok (.goto 31, 3) := by decide +kernel
theorem dX15_matches_150 : decode cX15_matches 150 = .ok (.iload 7, 2) := by decide +kernel
theorem dX15_matches_152 : decode cX15_matches 152 = .ok (.iconst 5, 1) := by decide +kernel
theorem dX15_matches_153 : decode cX15_matches 153 = .ok (.if_icmp .ne 7, 3) := by decide +kernel
theorem dX15_matches_156 : decode cX15_matches 156 = .ok (.iconst 5, 1) := by decide +kernel
theorem dX15_matches_157 : decode cX15_matches 157 = .ok (.goto 21, 3) := by decide +kernel
theorem dX15_matches_160 : decode cX15_matches 160 = .ok (.iload 7, 2) := by decide +kernel
theorem dX15_matches_162 : decode cX15_matches 162 = .ok (.bipush 6, 2) := by decide +kernel
theorem dX15_matches_164 : decode cX15_matches 164 = .ok (.if_icmp .eq 8, 3) := by decide +kernel
theorem dX15_matches_167 : decode cX15_matches 167 = .ok (.iload 7, 2) := by decide +kernel
theorem dX15_matches_169 : decode cX15_matches 169 = .ok (.ifCond .ne 8, 3) := by decide +kernel
theorem dX15_matches_172 : decode cX15_matches 172 = .ok (.bipush 6, 2) := by decide +kernel
theorem dX15_matches_174 : decode cX15_matches 174 = .ok (.goto 4, 3) := by decide +kernel
theorem dX15_matches_177 : decode cX15_matches 177 = .ok (.iconst 0, 1) := by decide +kernel
theorem dX15_matches_178 : decode cX15_matches 178 = .ok (.ireturn, 1) := by decide +kernel
theorem dX15_matches_179 : decode cX15_matches 179 = .ok (.aload_n 0, 1) := by decide +kernel
theorem dX15_matches_180 : decode cX15_matches 180 = .ok (.aload 6, 2) := by decide +kernel
theorem dX15_matches_182 : decode cX15_matches 182 = .ok (.invokevirtual 308, 3) := by decide +kernel
theorem dX15_matches_185 : decode cX15_matches 185 = .ok (.ifCond .eq 5, 3) := by decide +kernel
theorem dX15_matches_188 : decode cX15_matches 188 = .ok (.iconst 5, 1) := by decide +kernel
theorem dX15_matches_189 : decode cX15_matches 189 = .ok (.ireturn, 1) := by decide +kernel
theorem dX15_matches_190 : decode cX15_matches 190 = .ok (.iconst 0, 1) := by decide +kernel
theorem dX15_matches_191 : decode cX15_matches 191 = .ok (.istore 7, 2) := by decide +kernel
theorem dX15_matches_193 : decode cX15_matches 193 = .ok (.iconst 0, 1) := by decide +kernel
theorem dX15_matches_194 : decode cX15_matches 194 = .ok (.istore 8, 2) := by decide +kernel
theorem dX15_matches_196 : decode cX15_matches 196 = .ok (.iconst 0, 1) := by decide +kernel
theorem dX15_matches_197 : decode cX15_matches 197 = .ok (.istore 9, 2) := by decide +kernel
theorem dX15_matches_199 : decode cX15_matches 199 = .ok (.iload 9, 2) := by decide +kernel
theorem dX15_matches_201 : decode cX15_matches 201 = .ok (.aload_n 0, 1) := by decide +kernel
theorem dX15_matches_202 : decode cX15_matches 202 = .ok (.getfield 177, 3) := by decide +kernel
theorem dX15_matches_205 : decode cX15_matches 205 = .ok (.if_icmp .ge 68, 3) := by decide +kernel
theorem dX15_matches_208 : decode cX15_matches 208 = .ok (.aload_n 0, 1) := by decide +kernel
theorem dX15_matches_209 : decode cX15_matches 209 = .ok (.iload 9, 2) := by decide +kernel
theorem dX15_matches_211 : decode cX15_matches 211 = .ok (.iload 4, 2) := by decide +kernel
theorem dX15_matches_213 : decode cX15_matches 213 = .ok (.iconst 3, 1) := by decide +kernel
theorem dX15_matches_214 : decode cX15_matches 214 = .ok (.if_icmp .ne 7, 3) := by decide +kernel
theorem dX15_matches_217 : decode cX15_matches 217 = .ok (.iconst 2, 1) := by decide +kernel
theorem dX15_matches_218 : decode cX15_matches 218 = .ok (.goto 4, 3) := by decide +kernel
theorem dX15_matches_221 : decode cX15_matches 221 = .ok (.iconst 1, 1) := by decide +kernel
theorem dX15_matches_222 : decode cX15_matches 222 = .ok (.aload 6, 2) := by decide +kernel
theorem dX15_matches_224 : decode cX15_matches 224 = .ok (.invokevirtual 196, 3) := by decide +kernel
theorem dX15_matches_227 : decode cX15_matches 227 = .ok (.ifCond .ne 6, 3) := by decide +kernel
theorem dX15_matches_230 : decode cX15_matches 230 = .ok (.goto 37, 3) := by decide +kernel
theorem dX15_matches_233 : decode cX15_matches 233 = .ok (.iinc 7 1, 3) := by decide +kernel
theorem dX15_matches_236 : decode cX15_matches 236 = .ok (.iload 4, 2) := by decide +kernel
theorem dX15_matches_238 : decode cX15_matches 238 = .ok (.iconst 3, 1) := by decide +kernel
theorem dX15_matches_239 : decode cX15_matches 239 = .ok (.if_icmp .eq 28, 3) := by decide +kernel
theorem dX15_matches_242 : decode cX15_matches 242 = .ok (.iload 4, 2) := by decide +kernel
theorem dX15_matches_244 : decode cX15_matches 244 = .ok (.iconst 5, 1) := by decide +kernel
theorem dX15_matches_245 : decode cX15_matches 245 = .ok (.if_icmp .eq 19, 3) := by decide +kernel
theorem dX15_matches_248 : decode cX15_matches 248 = .ok (.aload_n 0, 1) := by decide +kernel
theorem dX15_matches_249 : decode cX15_matches 249 = .ok (.aload_n 0, 1) := by decide +kernel
theorem dX15_matches_250 : decode cX15_matches 250 = .ok (.getfield 42, 3) := by decide +kernel
theorem dX15_matches_253 : decode cX15_matches 253 = .ok (.iload 9, 2) := by decide +kernel
theorem dX15_matches_255 : decode cX15_matches 255 = .ok (.iaload, 1) := by decide +kernel
theorem dX15_matches_256 : decode cX15_matches 256 = .ok (.iload 5, 2) := by decide +kernel
theorem dX15_matches_258 : decode cX15_matches 258 = .ok (.invokevirtual 331, 3) := by decide +kernel
theorem dX15_matches_261 : decode cX15_matches 261 = .ok (.ifCond .eq 6, 3) := by decide +kernel
theorem dX15_matches_264 : decode cX15_matches 264 = .ok (.iconst 1, 1) := by decide +kernel
theorem dX15_matches_265 : decode cX15_matches 265 = .ok (.istore 8, 2) := by decide +kernel
theorem dX15_matches_267 : decode cX15_matches 267 = .ok (.iinc 9 1, 3) := by decide +kernel
theorem dX15_matches_270 : decode cX15_matches 270 = .ok (.goto (-71), 3) := by decide +kernel
theorem dX15_matches_273 : decode cX15_matches 273 = .ok (.iload 7, 2) := by decide +kernel
theorem dX15_matches_275 : decode cX15_matches 275 = .ok (.ifCond .ne 24, 3) := by decide +kernel
theorem dX15_matches_278 : decode cX15_matches 278 = .ok (.aload_n 0, 1) := by decide +kernel
theorem dX15_matches_279 : decode cX15_matches 279 = .ok (.dup, 1) := by decide +kernel
theorem dX15_matches_280 : decode cX15_matches 280 = .ok (.getfield 215, 3) := by decide +kernel
theorem dX15_matches_283 : decode cX15_matches 283 = .ok (.iconst 1, 1) := by decide +kernel
theorem dX15_matches_284 : decode cX15_matches 284 = .ok (.iadd, 1) := by decide +kernel
theorem dX15_matches_285 : decode cX15_matches 285 = .ok (.putfield 215, 3) := by decide +kernel
theorem dX15_matches_288 : decode cX15_matches 288 = .ok (.aload_n 0, 1) := by decide +kernel
theorem dX15_matches_289 : decode cX15_matches 289 = .ok (.getfield 215, 3) := by decide +kernel
theorem dX15_matches_292 : decode cX15_matches 292 = .ok (.iconst 2, 1) := by decide +kernel
theorem dX15_matches_293 : decode cX15_matches 293 = .ok (.if_icmp .le 6, 3) := by decide +kernel
theorem dX15_matches_296 : decode cX15_matches 296 = .ok (.bipush 6, 2) := by decide +kernel
theorem dX15_matches_298 : decode cX15_matches 298 = .ok (.ireturn, 1) := by decide +kernel
theorem dX15_matches_299 : decode cX15_matches 299 = .ok (.iload 4, 2) := by decide +kernel
theorem dX15_matches_301 : decode cX15_matches 301 = .ok (.iconst 3, 1) := by decide +kernel
theorem dX15_matches_302 : decode cX15_matches 302 = .ok (.if_icmp .ne 14, 3) := by decide +kernel
theorem dX15_matches_305 : decode cX15_matches 305 = .ok (.aload_n 0, 1) := by decide +kernel
theorem dX15_matches_306 : decode cX15_matches 306 = .ok (.aload 6, 2) := by decide +kernel
theorem dX15_matches_308 : decode cX15_matches 308 = .ok (.iload 5, 2) := by decide +kernel
theorem dX15_matches_310 : decode cX15_matches 310 = .ok (.invokevirtual 335, 3) := by decide +kernel
theorem dX15_matches_313 : decode cX15_matches 313 = .ok (.goto 5, 3) := by decide +kernel
theorem dX15_matches_316 : decode cX15_matches 316 = .ok (.iload 8, 2) := by decide +kernel
theorem dX15_matches_318 : decode cX15_matches 318 = .ok (.ireturn, 1) := by decide +kernel
theorem kt_946 : Cond.fieldLink RX15 64 "PostGateModel" "target" "[LPostGateModel$Text;" ∈ tb := tb_at (i := 1302) (by decide +kernel) (by decide +kernel)
theorem kt_947 : Cond.code yX15_exchanges cX15_exchanges 5 (some .int) ∈ tb := tb_at (i := 1627) (by decide +kernel) (by decide +kernel)
theorem kt_948 : Cond.methodLink RX15 335 yX15_exchanges ∈ tb := tb_at (i := 1624) (by decide +kernel) (by decide +kernel)
theorem kt_949 : Cond.instanceMethod yX15_exchanges ∈ tb := tb_at (i := 1626) (by decide +kernel) (by decide +kernel)
theorem kt_950 : Cond.selects RX15 yX15_exchanges yX15_exchanges ∈ tb := tb_at (i := 55) (by decide +kernel) (by decide +kernel)
theorem kt_951 : Cond.code yX15_check cX15_check 10 (some .int) ∈ tb := tb_at (i := 1525) (by decide +kernel) (by decide +kernel)
theorem kt_952 : Cond.methodLink RX15 218 yX15_check ∈ tb := tb_at (i := 1522) (by decide +kernel) (by decide +kernel)
theorem kt_953 : Cond.instanceMethod yX15_check ∈ tb := tb_at (i := 1524) (by decide +kernel) (by decide +kernel)
theorem kt_954 : Cond.selects RX15 yX15_check yX15_check ∈ tb := tb_at (i := 43) (by decide +kernel) (by decide +kernel)
theorem kt_955 : Cond.code yX15_expand cX15_expand 8 none ∈ tb := tb_at (i := 1607) (by decide +kernel) (by decide +kernel)
theorem kt_956 : Cond.methodLink RX15 328 yX15_expand ∈ tb := tb_at (i := 1604) (by decide +kernel) (by decide +kernel)
theorem kt_957 : Cond.instanceMethod yX15_expand ∈ tb := tb_at (i := 1606) (by decide +kernel) (by decide +kernel)
theorem kt_958 : Cond.selects RX15 yX15_expand yX15_expand ∈ tb := tb_at (i := 52) (by decide +kernel) (by decide +kernel)
theorem kt_959 : Cond.code yX14_set cX14_set 4 none ∈ tb := tb_at (i := 1501) (by decide +kernel) (by decide +kernel)
theorem kt_960 : Cond.methodLink RX15 186 yX14_set ∈ tb := tb_at (i := 1498) (by decide +kernel) (by decide +kernel)
theorem kt_961 : Cond.instanceMethod yX14_set ∈ tb := tb_at (i := 1499) (by decide +kernel) (by decide +kernel)
theorem kt_962 : Cond.selects RX14 yX14_set yX14_set ∈ tb := tb_at (i := 1500) (by decide +kernel) (by decide +kernel)
theorem rtp_dok {f : Nat → Int32} {a tt : Nat} {w u v : Int32} (h : RTP f a tt w u v) (cn : w < 6) (ht : tt ≤ 700) : DOK f 700 u v := by
  rcases h.1 with q | q | q | q
  · rw [q] at cn; exact absurd cn (by decide)
  · rw [q] at cn; exact absurd cn (by decide)
  · rw [q] at cn; exact absurd cn (by decide)
  · rcases q with q | ⟨b, c9, h1, h2, h3, h4, h5⟩
    · exact Or.inl q
    · exact Or.inr ⟨b, c9, h1, h2, h3, by omega, h5⟩
def TRN (f : Nat → Int32) (z : Nat) (w : Int32) : Prop := w = (-1) ∨ ∃ tu te, w = nI tu ∧ tu < z ∧ tu ≤ te ∧ te ≤ z ∧ WE f z tu te ∧ RDP f tu te
theorem le1_6 {r : Int32} {cu : Nat} (h : cu = 11 → r = 6) (cn : r ≤ 1) (hc : cu ≤ 11) : cu ≤ 10 := by
  rcases Nat.lt_or_ge cu 11 with q | q
  · omega
  · rw [h (by omega)] at cn
    exact absurd cn (by decide)
theorem rec0 {r : Int32} (h : r = (-1) ∨ r = (-2) ∨ ∃ j : Nat, j < 40 ∧ r = nI j) (cn : 0 ≤ r) : ∃ j : Nat, j < 40 ∧ r = nI j := by
  rcases h with h | h | h
  · rw [h] at cn; exact absurd cn (by decide)
  · rw [h] at cn; exact absurd cn (by decide)
  · exact h
set_option maxHeartbeats 4000000 in
set_option maxRecDepth 100000 in
theorem s_X15_matches (l : Launch) (dC : Nat → ClassId) (dI : Nat → Nat → Nat) (cs : Nat → ClassId) (ty : TyM) (gm : Nat → Nat → Nat) (L : List Nat) (sz : Nat) (F : Nat → va_E) (h0 : Nat) (ρ : Nat) (ta : Nat) (ou : Nat) (so : Nat) (ad : Nat) (na : Nat) (va : Nat) (lc : Nat) (dm : Nat) (tg : Nat) (pe : Nat) (ml : Nat) (bg : Nat) (co : Nat) (sp : Nat) (nb0 : Nat) (nb1 : Nat) (nb2 : Nat) (pl : Nat) (se : Nat) (ke : Nat) (wi : Nat) (hs : Nat) (mo : Nat) (po : Nat) (nu : Nat) (pr : Nat) (sq : Nat) (xa : Nat) (sa : Nat) (n64 : Nat) (m64 : Nat) (ex : Nat) (wh : Nat) (sd : Nat) (tk : Nat) (hd : Nat) (ak : Nat) (ho : Nat) (ot : Nat) (sx : Nat) (s0 : Nat) (s1 : Nat) (s2 : Nat) (nf : Nat) (bd : Nat) (mm : Nat) (zo : Nat) (ze : Nat) (zt : Nat) (rp : Nat) (v11 : Int32) (v12 : Int32) (v15 : Int32) (v17 : Int32) (v18 : Int32) (v19 : Int32) (v20 : Int32) (v21 : Int32) (v22 : Int32) (v33 : Int32) (v52 : Int32) (v53 : Int32) (v54 : Int32) (dd : Nat) (τ : Nat) (rd : Nat) (nd : Nat) (tv : Nat) (rv : Nat) (μ : Nat) (fv : Nat → Int32) (lv : Nat) (cn : Nat) (c0 : Nat) (fr : Nat) (lo : Nat) (hW : WTm ty gm L) (hL_h0 : h0 ∈ L) (hT_h0 : ty h0 = (15, ρ, [ta, ou, so, ad, na, va, lc, dm, tg, pe, ml, bg, co, sp, nb0, nb1, nb2, pl, se, ke, wi, hs, mo, po, nu, pr, sq, xa, sa, n64, m64, ex, wh, sd, tk, hd, ak, ho, ot, sx, s0, s1, s2, nf, bd, mm, zo, ze, zt])) (hL_pe : pe ∈ L) (hT_pe : ty pe = (14, ρ + 7, [rp, 100])) (hL_dd : dd ∈ L) (hT_dd : ty dd = (14, τ, [rd, nd])) (hL_tv : tv ∈ L) (hT_tv : ty tv = (14, μ, [rv, 700])) (hF0 : F h0 = .inr (15, (.ref ta) :: (.int (nI zt)) :: (.int (nI zo)) :: (.int (nI ze)) :: (.ref ou) :: (.ref so) :: (.ref ad) :: (.ref na) :: (.ref va) :: (.ref lc) :: (.ref dm) :: (.int v11) :: (.int v12) :: (.ref tg) :: (.int (nI cn)) :: (.int v15) :: (.ref pe) :: (.int v17) :: (.int v18) :: (.int v19) :: (.int v20) :: (.int v21) :: (.int v22) :: (.ref ml) :: (.ref bg) :: (.ref co) :: (.ref sp) :: (.ref nb0) :: (.ref nb1) :: (.ref nb2) :: (.int (nI nf)) :: (.int (nI bd)) :: (.int (nI mm)) :: (.int v33) :: (.ref pl) :: (.ref se) :: (.ref ke) :: (.ref wi) :: (.ref hs) :: (.ref mo) :: (.ref po) :: (.ref nu) :: (.ref pr) :: (.ref sq) :: (.ref xa) :: (.ref sa) :: (.ref n64) :: (.ref m64) :: (.ref ex) :: (.ref wh) :: (.ref sd) :: (.ref tk) :: (.int v52) :: (.int v53) :: (.int v54) :: (.ref hd) :: (.ref ak) :: (.ref ho) :: (.ref ot) :: [])) (hzo : zo ≤ 6000) (hze : ze ≤ 40) (h33 : ((v33 = 0 ∧ nf = 0) ∨ (v33 = 1 ∧ 1 ≤ nf))) (h54 : (v54 = 0 ∨ v54 = 1)) (hFv : F rv = .inl (cs 17, 700, .inl fv)) (hmu : ρ + 100 ≤ μ) (hlc : lv ≤ cn) (hc10 : cn ≤ 10) (hcc : c0 ≤ cn) (hnd : nd ≤ 61) (hdok : DOK fv 700 v19 v20) (hC : ∀ (cn : Nat), c0 < cn → ∀ (sz : Nat) (F : Nat → va_E) (v11 : Int32) (v12 : Int32) (v15 : Int32) (v17 : Int32) (v18 : Int32) (v19 : Int32) (v20 : Int32) (v21 : Int32) (v22 : Int32) (v33 : Int32) (v52 : Int32) (v53 : Int32) (v54 : Int32) (dd : Nat) (τ : Nat) (rd : Nat) (nd : Nat) (lv : Nat), dd ∈ L → ty dd = (14, τ, [rd, nd]) → (F h0 = .inr (15, (.ref ta) :: (.int (nI zt)) :: (.int (nI zo)) :: (.int (nI ze)) :: (.ref ou) :: (.ref so) :: (.ref ad) :: (.ref na) :: (.ref va) :: (.ref lc) :: (.ref dm) :: (.int v11) :: (.int v12) :: (.ref tg) :: (.int (nI cn)) :: (.int v15) :: (.ref pe) :: (.int v17) :: (.int v18) :: (.int v19) :: (.int v20) :: (.int v21) :: (.int v22) :: (.ref ml) :: (.ref bg) :: (.ref co) :: (.ref sp) :: (.ref nb0) :: (.ref nb1) :: (.ref nb2) :: (.int (nI nf)) :: (.int (nI bd)) :: (.int (nI mm)) :: (.int v33) :: (.ref pl) :: (.ref se) :: (.ref ke) :: (.ref wi) :: (.ref hs) :: (.ref mo) :: (.ref po) :: (.ref nu) :: (.ref pr) :: (.ref sq) :: (.ref xa) :: (.ref sa) :: (.ref n64) :: (.ref m64) :: (.ref ex) :: (.ref wh) :: (.ref sd) :: (.ref tk) :: (.int v52) :: (.int v53) :: (.int v54) :: (.ref hd) :: (.ref ak) :: (.ref ho) :: (.ref ot) :: [])) → (zo ≤ 6000) → (ze ≤ 40) → (((v33 = 0 ∧ nf = 0) ∨ (v33 = 1 ∧ 1 ≤ nf))) → ((v54 = 0 ∨ v54 = 1)) → (lv ≤ cn) → (cn ≤ 10) → (nd ≤ 61) → Met l yX15_check (.code yX15_check cX15_check 10 (some .int) :: tb) ({ frames := fr + 0, cells := 0, slots := 0, locals := lo + 0 }) (va_Pc [.ref h0, .ref dd, .int (nI lv)] (PTEm (dC, dI) cs ty gm L F sz [])) (va_Qi (fun (r : Int32) (cu : Nat) => (cu = 11 → r = 6)) (fun (cu : Nat) T9 => ∃ F2 : Nat → va_E, ∃ u15 : Int32, ∃ u17 : Int32, ∃ u18 : Int32, ∃ u19 : Int32, ∃ u20 : Int32, ∃ u21 : Int32, ∃ u22 : Int32, QTm (dC, dI) cs ty gm L [ρ, ρ + 6, ρ + 7] F F2 (va_A (va_pl L F) sz) T9 ∧ F2 h0 = .inr (15, (.ref ta) :: (.int (nI zt)) :: (.int (nI zo)) :: (.int (nI ze)) :: (.ref ou) :: (.ref so) :: (.ref ad) :: (.ref na) :: (.ref va) :: (.ref lc) :: (.ref dm) :: (.int v11) :: (.int v12) :: (.ref tg) :: (.int (nI cu)) :: (.int u15) :: (.ref pe) :: (.int u17) :: (.int u18) :: (.int u19) :: (.int u20) :: (.int u21) :: (.int u22) :: (.ref ml) :: (.ref bg) :: (.ref co) :: (.ref sp) :: (.ref nb0) :: (.ref nb1) :: (.ref nb2) :: (.int (nI nf)) :: (.int (nI bd)) :: (.int (nI mm)) :: (.int v33) :: (.ref pl) :: (.ref se) :: (.ref ke) :: (.ref wi) :: (.ref hs) :: (.ref mo) :: (.ref po) :: (.ref nu) :: (.ref pr) :: (.ref sq) :: (.ref xa) :: (.ref sa) :: (.ref n64) :: (.ref m64) :: (.ref ex) :: (.ref wh) :: (.ref sd) :: (.ref tk) :: (.int v52) :: (.int v53) :: (.int v54) :: (.ref hd) :: (.ref ak) :: (.ref ho) :: (.ref ot) :: []) ∧ cn ≤ cu ∧ cu ≤ 11) (va_A (va_pl L F) sz)) 0 0 (va_A (va_pl L F) sz)) : Met l yX15_matches (.code yX15_matches cX15_matches 10 (some .int) :: tb) ({ frames := fr + 5, cells := 0, slots := 0, locals := lo + 129 }) (va_Pc [.ref h0, .ref tv, .ref dd, .int (nI lv)] (PTEm (dC, dI) cs ty gm L F sz [])) (va_Qi (fun (r : Int32) (cu : Nat) => (cu = 11 → r = 6)) (fun (cu : Nat) T9 => ∃ F2 : Nat → va_E, ∃ u15 : Int32, ∃ u17 : Int32, ∃ u18 : Int32, ∃ u19 : Int32, ∃ u20 : Int32, ∃ u21 : Int32, ∃ u22 : Int32, QTm (dC, dI) cs ty gm L [ρ, ρ + 6, ρ + 7] F F2 (va_A (va_pl L F) sz) T9 ∧ F2 h0 = .inr (15, (.ref ta) :: (.int (nI zt)) :: (.int (nI zo)) :: (.int (nI ze)) :: (.ref ou) :: (.ref so) :: (.ref ad) :: (.ref na) :: (.ref va) :: (.ref lc) :: (.ref dm) :: (.int v11) :: (.int v12) :: (.ref tg) :: (.int (nI cu)) :: (.int u15) :: (.ref pe) :: (.int u17) :: (.int u18) :: (.int u19) :: (.int u20) :: (.int u21) :: (.int u22) :: (.ref ml) :: (.ref bg) :: (.ref co) :: (.ref sp) :: (.ref nb0) :: (.ref nb1) :: (.ref nb2) :: (.int (nI nf)) :: (.int (nI bd)) :: (.int (nI mm)) :: (.int v33) :: (.ref pl) :: (.ref se) :: (.ref ke) :: (.ref wi) :: (.ref hs) :: (.ref mo) :: (.ref po) :: (.ref nu) :: (.ref pr) :: (.ref sq) :: (.ref xa) :: (.ref sa) :: (.ref n64) :: (.ref m64) :: (.ref ex) :: (.ref wh) :: (.ref sd) :: (.ref tk) :: (.int v52) :: (.int v53) :: (.int v54) :: (.ref hd) :: (.ref ak) :: (.ref ho) :: (.ref ot) :: []) ∧ cn ≤ cu ∧ cu ≤ 11) (va_A (va_pl L F) sz)) 0 0 (va_A (va_pl L F) sz) := by
  refine Met.ofW (cc := cX15_matches) (maxL := 10) (ret := (some .int)) (by decide) rfl ?_
  intro p e s m args below meth c s₁ B hml hv
  obtain ⟨rfl, ⟨hsz, hP, hK, hD0, hE, hO⟩, hG, hX⟩ := hv
  have hx := B.exec
  have hb := B.bytes
  have hr := B.returns
  have hts : ∀ w ∈ tb, w.before _ s = true := fun w h => atoms_spec (ws := .code yX15_matches cX15_matches 10 (some .int) :: tb) B.pre w (List.mem_cons_of_mem _ h)
  have hown : s.vm.findClass RX15 = some m.cls := findClass_of_methodNamed B.named
  have hlocks := B.notSynchronized
  subst hsz
  have hD := hD0.self (sz := s.heap.size)
  generalize hAe : va_A (va_pl L F) s.heap.size = A at hD hG hX ⊢
  have hA : ∀ q : Nat, s.heap.size ≤ q → A q := fun q h => by rw [← hAe]; exact Or.inr h
  have hS : va_S A s.heap s.heap [] := va_S.rf
  have hR : FR ty [ρ, ρ + 6, ρ + 7] F F := FR.refl
  have hl := lv_entry ([.ref h0, .ref tv, .ref dd, .int (nI lv)]) (n := 10) (Nat.le_of_ble_eq_true rfl)
  rw [lg_entry_eq]
  generalize (lg_sl ([.ref h0, .ref tv, .ref dd, .int (nI lv)]) ++ List.replicate (10 - (lg_sl ([.ref h0, .ref tv, .ref dd, .int (nI lv)])).length) Slot.unset).toArray = ls at hl ⊢
  have hl : lv_has ls 10 [(0, .ref h0), (1, .ref tv), (2, .ref dd), (3, .int (nI lv))] := hl
  obtain ⟨hi_1, ht_2, hq_3⟩ := hW.txt hL_tv hT_tv
  refine lv_aload_n hx hb dX15_matches_0 rfl (lv_at hl 0 rfl) ?_
  obtain ⟨hq_25, hq_26, hq_27, hq_28, hq_29, hgO, hgA, hgB⟩ := hW.sc hL_h0 hT_h0
  refine pg_get (ci := 15) (v := .int v17) (C := RX15) (T := TX15) (N := 59) hx hb hts it_15 hown hK hP hL_h0 hF0 rfl 17 (by decide) (hts _ kt_740) (fun _ h9 => h9) rfl dX15_matches_1 ?_
  refine lv_if_ne (tgt := 9) hx hb dX15_matches_4 (by decide) (fun c_30 => ?_) (fun c_30 => ?_)
  ·
    refine lv_aload_n hx hb dX15_matches_9 rfl (lv_at hl 0 rfl) ?_
    refine pg_get (ci := 15) (v := .int v17) (C := RX15) (T := TX15) (N := 59) hx hb hts it_15 hown hK hP hL_h0 hF0 rfl 17 (by decide) (hts _ kt_740) (fun _ h9 => h9) rfl dX15_matches_10 ?_
    refine lv_iconst (v := 4) hx hb dX15_matches_13 (by decide) ?_
    refine lv_icmp_ne (tgt := 38) hx hb dX15_matches_14 (by decide) (fun c_31 => ?_) (fun c_31 => ?_)
    ·
      refine lv_aload_n hx hb dX15_matches_38 rfl (lv_at hl 0 rfl) ?_
      refine pg_get (ci := 15) (v := .int v17) (C := RX15) (T := TX15) (N := 59) hx hb hts it_15 hown hK hP hL_h0 hF0 rfl 17 (by decide) (hts _ kt_740) (fun _ h9 => h9) rfl dX15_matches_39 ?_
      refine lv_istore (lv' := [(4, .int v17), (0, .ref h0), (1, .ref tv), (2, .ref dd), (3, .int (nI lv))]) hx hb dX15_matches_42 hl (by decide) rfl (fun ls hl => ?_)
      refine lv_aload_n hx hb dX15_matches_44 rfl (lv_at hl 1 rfl) ?_
      refine pg_get (ci := 15) (v := .int v21) (C := RX15) (T := TX15) (N := 59) hx hb hts it_15 hown hK hP hL_h0 hF0 rfl 21 (by decide) (hts _ kt_739) (fun _ h9 => h9) rfl dX15_matches_45 ?_
      refine lv_istore (lv' := [(5, .int v21), (4, .int v17), (0, .ref h0), (1, .ref tv), (2, .ref dd), (3, .int (nI lv))]) hx hb dX15_matches_48 hl (by decide) rfl (fun ls hl => ?_)
      refine lv_aload_n hx hb dX15_matches_50 rfl (lv_at hl 2 rfl) ?_
      refine lv_dup hx hb dX15_matches_51 rfl ?_
      refine pg_get (ci := 15) (v := .int (nI cn)) (C := RX15) (T := TX15) (N := 59) hx hb hts it_15 hown hK hP hL_h0 hF0 rfl 14 (by decide) (hts _ kt_721) (fun _ h9 => h9) rfl dX15_matches_52 ?_
      refine lv_iconst (v := 1) hx hb dX15_matches_55 (by decide) ?_
      refine lv_iadd hx hb dX15_matches_56 ?_
      refine lv_topi (fun x_32 ex_32 => ?_)
      obtain rfl : x_32 = (nI (cn + 1)) := ex_32.trans (nI_1 cn)
      refine pg_put (ci := 15) (v := .int (nI (cn + 1))) (ty := .int) (C := RX15) (T := TX15) (N := 59) hx hb hts it_15 tyX15 tyX15_ok nmX15 hown hK hP hD hS hL_h0 hF0 rfl 14 (by decide) (hts _ kt_721) (fun _ h9 => h9) rfl (by decide +kernel) (rfl) (rfl) (Nat.le_of_ble_eq_true rfl) dX15_matches_57 (fun H locs hP hD hS => ?_)
      obtain ⟨F_33, he_34, hP, hD, hO, hR⟩ : ∃ G, G = va_up F h0 (.inr (15, (.ref ta) :: (.int (nI zt)) :: (.int (nI zo)) :: (.int (nI ze)) :: (.ref ou) :: (.ref so) :: (.ref ad) :: (.ref na) :: (.ref va) :: (.ref lc) :: (.ref dm) :: (.int v11) :: (.int v12) :: (.ref tg) :: (.int (nI (cn + 1))) :: (.int v15) :: (.ref pe) :: (.int v17) :: (.int v18) :: (.int v19) :: (.int v20) :: (.int v21) :: (.int v22) :: (.ref ml) :: (.ref bg) :: (.ref co) :: (.ref sp) :: (.ref nb0) :: (.ref nb1) :: (.ref nb2) :: (.int (nI nf)) :: (.int (nI bd)) :: (.int (nI mm)) :: (.int v33) :: (.ref pl) :: (.ref se) :: (.ref ke) :: (.ref wi) :: (.ref hs) :: (.ref mo) :: (.ref po) :: (.ref nu) :: (.ref pr) :: (.ref sq) :: (.ref xa) :: (.ref sa) :: (.ref n64) :: (.ref m64) :: (.ref ex) :: (.ref wh) :: (.ref sd) :: (.ref tk) :: (.int v52) :: (.int v53) :: (.int v54) :: (.ref hd) :: (.ref ak) :: (.ref ho) :: (.ref ot) :: [])) ∧ va_P (dC, dI) vwCl (va_pl L G) H ∧ va_D A (va_pl L G) ∧ OKm cs ty gm L G ∧ FR ty [ρ, ρ + 6, ρ + 7] F G := ⟨_, rfl, hP, hD, hO.up (shm.mod hT_h0 ⟨v11, v12, (nI (cn + 1)), v15, v17, v18, v19, v20, v21, v22, v33, v52, v53, v54, rfl, (by first | omega | assumption | exact Or.inl rfl | exact Or.inr rfl), (by first | omega | assumption | exact Or.inl rfl | exact Or.inr rfl), (by first | omega | assumption | exact Or.inl rfl | exact Or.inr rfl), (by first | omega | assumption | exact Or.inl rfl | exact Or.inr rfl)⟩), hR.up hT_h0 (by simp)⟩
      have hF_35 : F_33 h0 = .inr (15, (.ref ta) :: (.int (nI zt)) :: (.int (nI zo)) :: (.int (nI ze)) :: (.ref ou) :: (.ref so) :: (.ref ad) :: (.ref na) :: (.ref va) :: (.ref lc) :: (.ref dm) :: (.int v11) :: (.int v12) :: (.ref tg) :: (.int (nI (cn + 1))) :: (.int v15) :: (.ref pe) :: (.int v17) :: (.int v18) :: (.int v19) :: (.int v20) :: (.int v21) :: (.int v22) :: (.ref ml) :: (.ref bg) :: (.ref co) :: (.ref sp) :: (.ref nb0) :: (.ref nb1) :: (.ref nb2) :: (.int (nI nf)) :: (.int (nI bd)) :: (.int (nI mm)) :: (.int v33) :: (.ref pl) :: (.ref se) :: (.ref ke) :: (.ref wi) :: (.ref hs) :: (.ref mo) :: (.ref po) :: (.ref nu) :: (.ref pr) :: (.ref sq) :: (.ref xa) :: (.ref sa) :: (.ref n64) :: (.ref m64) :: (.ref ex) :: (.ref wh) :: (.ref sd) :: (.ref tk) :: (.int v52) :: (.int v53) :: (.int v54) :: (.ref hd) :: (.ref ak) :: (.ref ho) :: (.ref ot) :: []) := by rw [he_34]; exact up_self
      have hF_36 : F_33 rv = .inl (cs 17, 700, .inl fv) := by rw [he_34, up_ne (ne_ty ht_2 hT_h0 (by simp))]; exact hFv
      refine lv_aload_n hx hb dX15_matches_60 rfl (lv_at hl 2 rfl) ?_
      refine pg_get (ci := 15) (v := .int (nI (cn + 1))) (C := RX15) (T := TX15) (N := 59) hx hb hts it_15 hown hK hP hL_h0 hF_35 rfl 14 (by decide) (hts _ kt_721) (fun _ h9 => h9) rfl dX15_matches_61 ?_
      refine lv_bipush (v := 10) hx hb dX15_matches_64 (by decide) ?_
      refine lv_icmp_le (tgt := 72) hx hb dX15_matches_66 (by decide) (fun c_37 => ?_) (fun c_37 => ?_)
      ·
        have hi_38 : (cn + 1) ≤ 10 := (nI_leI (a := (cn + 1)) (b := 10) (by omega) (by omega)).mp c_37
        refine lv_aload_n hx hb dX15_matches_72 rfl (lv_at hl 2 rfl) ?_
        refine pg_get (ci := 15) (v := .ref tg) (C := RX15) (T := TX15) (N := 59) hx hb hts it_15 hown hK hP hL_h0 hF_35 rfl 13 (by decide) (hts _ kt_946) (fun _ h9 => h9) rfl dX15_matches_73 ?_
        refine lv_iload_n hx hb dX15_matches_76 rfl (lv_at hl 5 rfl) ?_
        obtain ⟨hi_39, ht_40⟩ := hW.f_tg hL_h0 hT_h0
        obtain ⟨f_41, hF_42, hq_43⟩ := hO.rtxt hi_39 ht_40
        obtain ⟨b_44, r_45, hbf_46, hi_47, ht_48⟩ := hq_43 lv (by omega)
        refine pg_aald (r := b_44) hx hb hK hP hi_39 7 hF_42 rfl (vp_in_nI (by omega) (by omega)) (show f_41 ((nI lv) : Int32).toNatClampNeg = _ from by rw [show ((nI lv) : Int32) = nI lv from rfl, nI_clamp (by omega)]; exact hbf_46) dX15_matches_77 ?_
        refine lv_astore (lv' := [(6, .ref b_44), (5, .int v21), (4, .int v17), (0, .ref h0), (1, .ref tv), (2, .ref dd), (3, .int (nI lv))]) hx hb dX15_matches_78 hl (by decide) rfl (fun ls hl => ?_)
        have hF_51 : F rv = .inl (cs 17, 700, .inl fv) := (hR rv (by rw [ht_2]; simp only [List.mem_cons, List.not_mem_nil, or_false]; omega)).symm.trans hF_36
        refine W.widen (k := 0) (n := 0) (by omega) (by omega) ?_
        refine pl_cutm (σ := Unit) A (dC, dI) cs ty gm L [ρ, ρ + 6, ρ + 7] F 123 10 (fun u0 => [(6, .ref b_44), (5, .int v21), (4, .int v17), (0, .ref h0), (1, .ref tv), (2, .ref dd), (3, .int (nI lv))]) (fun u0 => []) (fun u0 FF => FF h0 = .inr (15, (.ref ta) :: (.int (nI zt)) :: (.int (nI zo)) :: (.int (nI ze)) :: (.ref ou) :: (.ref so) :: (.ref ad) :: (.ref na) :: (.ref va) :: (.ref lc) :: (.ref dm) :: (.int v11) :: (.int v12) :: (.ref tg) :: (.int (nI (cn + 1))) :: (.int v15) :: (.ref pe) :: (.int v17) :: (.int v18) :: (.int v19) :: (.int v20) :: (.int v21) :: (.int v22) :: (.ref ml) :: (.ref bg) :: (.ref co) :: (.ref sp) :: (.ref nb0) :: (.ref nb1) :: (.ref nb2) :: (.int (nI nf)) :: (.int (nI bd)) :: (.int (nI mm)) :: (.int v33) :: (.ref pl) :: (.ref se) :: (.ref ke) :: (.ref wi) :: (.ref hs) :: (.ref mo) :: (.ref po) :: (.ref nu) :: (.ref pr) :: (.ref sq) :: (.ref xa) :: (.ref sa) :: (.ref n64) :: (.ref m64) :: (.ref ex) :: (.ref wh) :: (.ref sd) :: (.ref tk) :: (.int v52) :: (.int v53) :: (.int v54) :: (.ref hd) :: (.ref ak) :: (.ref ho) :: (.ref ot) :: [])) ?_ (fun jn_49 => ?_)
        ·
          rintro u0 F_50 hv_52 hO hR H locs hP hD hS ls hl
          have hl : lv_has ls 10 [(6, .ref b_44), (5, .int v21), (4, .int v17), (0, .ref h0), (1, .ref tv), (2, .ref dd), (3, .int (nI lv))] := hl
          have hv_52 : F_50 h0 = .inr (15, (.ref ta) :: (.int (nI zt)) :: (.int (nI zo)) :: (.int (nI ze)) :: (.ref ou) :: (.ref so) :: (.ref ad) :: (.ref na) :: (.ref va) :: (.ref lc) :: (.ref dm) :: (.int v11) :: (.int v12) :: (.ref tg) :: (.int (nI (cn + 1))) :: (.int v15) :: (.ref pe) :: (.int v17) :: (.int v18) :: (.int v19) :: (.int v20) :: (.int v21) :: (.int v22) :: (.ref ml) :: (.ref bg) :: (.ref co) :: (.ref sp) :: (.ref nb0) :: (.ref nb1) :: (.ref nb2) :: (.int (nI nf)) :: (.int (nI bd)) :: (.int (nI mm)) :: (.int v33) :: (.ref pl) :: (.ref se) :: (.ref ke) :: (.ref wi) :: (.ref hs) :: (.ref mo) :: (.ref po) :: (.ref nu) :: (.ref pr) :: (.ref sq) :: (.ref xa) :: (.ref sa) :: (.ref n64) :: (.ref m64) :: (.ref ex) :: (.ref wh) :: (.ref sd) :: (.ref tk) :: (.int v52) :: (.int v53) :: (.int v54) :: (.ref hd) :: (.ref ak) :: (.ref ho) :: (.ref ot) :: []) := hv_52
          refine W.eq (g2 := F0 m 123 ls []) rfl ?_
          have hF_53 : F_50 rv = .inl (cs 17, 700, .inl fv) := (hR rv (by rw [ht_2]; simp only [List.mem_cons, List.not_mem_nil, or_false]; omega)).trans hF_51
          refine lv_iload hx hb dX15_matches_123 (lv_at hl 2 rfl) ?_
          refine lv_iconst (v := 1) hx hb dX15_matches_125 (by decide) ?_
          refine lv_icmp_ne (tgt := 179) hx hb dX15_matches_126 (by decide) (fun c_54 => ?_) (fun c_54 => ?_)
          ·
            refine lv_aload_n hx hb dX15_matches_179 rfl (lv_at hl 3 rfl) ?_
            refine lv_aload hx hb dX15_matches_180 (lv_at hl 0 rfl) ?_
            obtain ⟨hi_55, ht_56, hq_57⟩ := hW.txt hi_47 ht_48
            have hFc := pg_free hD hS hA
            refine va_calli (va_runV (As := [.ref b_44]) (rest := []) ⟨hx, hb, hml, hown, hts⟩ (s_X15_isTrouble l dC dI cs ty gm L H.size F_50 h0 ρ ta ou so ad na va lc dm tg pe ml bg co sp nb0 nb1 nb2 pl se ke wi hs mo po nu pr sq xa sa n64 m64 ex wh sd tk hd ak ho ot sx s0 s1 s2 nf bd mm zo ze zt b_44 (ρ + 6) r_45 61 hW hL_h0 hT_h0 hi_47 ht_48) ⟨callB_of 1 hts (gi kt_726) rfl rfl rfl (hts _ kt_659) (hts _ kt_727) (by decide +kernel) ⟨by show 3 + 1 ≤ fr + 5; omega, by show 8 + (3 + 11) + 68 ≤ lo + 129; omega⟩, (hts _ kt_728), (hts _ kt_729)⟩ ⟨fun a U g mk q => ⟨q.1, PTm.calling q.2⟩, pg_recv hK hP hL_h0 hv_52 (q := (RX15, TX15, 59)) rfl, fun U hU hWm => ⟨rfl, PTm.mk hU hWm hP hK hD hE hO⟩⟩ rfl rfl hl.1 rfl (lv_room (Nat.le_of_ble_eq_true rfl)) dX15_matches_182 ⟨by show _ + 0 ≤ 0; omega, by show _ + 0 ≤ 0; omega⟩) hS (fun q _ h => hFc q h) hFc (fun r_58 u t H1 locs ht hvm hw hB hz1 hk1 hS => ?_)
            obtain ⟨F_59, hB1⟩ := hB
            obtain rfl : F_50 = F_59 := (funext (fun a => hB1.2.2.2 a List.not_mem_nil)).symm
            obtain ⟨hP, hD, hO, hR⟩ := QTm.back hB1 ht hFc hR (fun q h => absurd h List.not_mem_nil)
            generalize H1 = H at hP hS ⊢
            have hw : (r_58 = 0 ∨ r_58 = 1) := hw
            have hw_60 := hw
            refine lv_if_eq (tgt := 190) hx hb dX15_matches_185 (by decide) (fun c_61 => ?_) (fun c_61 => ?_)
            ·
              refine lv_iconst (v := 0) hx hb dX15_matches_190 (by decide) ?_
              refine lv_istore (lv' := [(7, .int 0), (6, .ref b_44), (5, .int v21), (4, .int v17), (0, .ref h0), (1, .ref tv), (2, .ref dd), (3, .int (nI lv))]) hx hb dX15_matches_191 hl (by decide) rfl (fun ls hl => ?_)
              refine lv_iconst (v := 0) hx hb dX15_matches_193 (by decide) ?_
              refine lv_istore (lv' := [(8, .int 0), (7, .int 0), (6, .ref b_44), (5, .int v21), (4, .int v17), (0, .ref h0), (1, .ref tv), (2, .ref dd), (3, .int (nI lv))]) hx hb dX15_matches_194 hl (by decide) rfl (fun ls hl => ?_)
              refine lv_iconst (v := 0) hx hb dX15_matches_196 (by decide) ?_
              refine lv_istore (lv' := [(9, .int 0), (8, .int 0), (7, .int 0), (6, .ref b_44), (5, .int v21), (4, .int v17), (0, .ref h0), (1, .ref tv), (2, .ref dd), (3, .int (nI lv))]) hx hb dX15_matches_197 hl (by decide) rfl (fun ls hl => ?_)
              refine W.widen (k := 0) (n := 0) (by omega) (by omega) ?_
              have hF_63 : F rv = .inl (cs 17, 700, .inl fv) := (hR rv (by rw [ht_2]; simp only [List.mem_cons, List.not_mem_nil, or_false]; omega)).symm.trans hF_53
              refine pl_loopm (σ := Nat × Int32 × Int32) A (dC, dI) cs ty gm L [ρ, ρ + 6, ρ + 7] F 199 10 (fun (j, w7, w8) => [(9, .int (nI j)), (8, .int w8), (7, .int w7), (6, .ref b_44), (5, .int v21), (4, .int v17), (0, .ref h0), (1, .ref tv), (2, .ref dd), (3, .int (nI lv))]) (fun (j, w7, w8) => []) (fun (j, w7, w8) FF => j ≤ 40 ∧ FF h0 = .inr (15, (.ref ta) :: (.int (nI zt)) :: (.int (nI zo)) :: (.int (nI ze)) :: (.ref ou) :: (.ref so) :: (.ref ad) :: (.ref na) :: (.ref va) :: (.ref lc) :: (.ref dm) :: (.int v11) :: (.int v12) :: (.ref tg) :: (.int (nI (cn + 1))) :: (.int v15) :: (.ref pe) :: (.int v17) :: (.int v18) :: (.int v19) :: (.int v20) :: (.int v21) :: (.int v22) :: (.ref ml) :: (.ref bg) :: (.ref co) :: (.ref sp) :: (.ref nb0) :: (.ref nb1) :: (.ref nb2) :: (.int (nI nf)) :: (.int (nI bd)) :: (.int (nI mm)) :: (.int v33) :: (.ref pl) :: (.ref se) :: (.ref ke) :: (.ref wi) :: (.ref hs) :: (.ref mo) :: (.ref po) :: (.ref nu) :: (.ref pr) :: (.ref sq) :: (.ref xa) :: (.ref sa) :: (.ref n64) :: (.ref m64) :: (.ref ex) :: (.ref wh) :: (.ref sd) :: (.ref tk) :: (.int v52) :: (.int v53) :: (.int v54) :: (.ref hd) :: (.ref ak) :: (.ref ho) :: (.ref ot) :: [])) (fun (j, w7, w8) => 40 - j) ?_ (0, 0, 0) F_50 (⟨by omega, hv_52⟩) hO hR _ _ hP hD hS ls (lv_sub hl [0, 1, 2, 3, 4, 5, 6, 7, 8, 9] rfl)
              rintro ⟨j, w7, w8⟩ F_62 hv_64 hO hR ih_65 H locs hP hD hS ls hl
              have hl : lv_has ls 10 [(9, .int (nI j)), (8, .int w8), (7, .int w7), (6, .ref b_44), (5, .int v21), (4, .int v17), (0, .ref h0), (1, .ref tv), (2, .ref dd), (3, .int (nI lv))] := hl
              have hv_64 : j ≤ 40 ∧ F_62 h0 = .inr (15, (.ref ta) :: (.int (nI zt)) :: (.int (nI zo)) :: (.int (nI ze)) :: (.ref ou) :: (.ref so) :: (.ref ad) :: (.ref na) :: (.ref va) :: (.ref lc) :: (.ref dm) :: (.int v11) :: (.int v12) :: (.ref tg) :: (.int (nI (cn + 1))) :: (.int v15) :: (.ref pe) :: (.int v17) :: (.int v18) :: (.int v19) :: (.int v20) :: (.int v21) :: (.int v22) :: (.ref ml) :: (.ref bg) :: (.ref co) :: (.ref sp) :: (.ref nb0) :: (.ref nb1) :: (.ref nb2) :: (.int (nI nf)) :: (.int (nI bd)) :: (.int (nI mm)) :: (.int v33) :: (.ref pl) :: (.ref se) :: (.ref ke) :: (.ref wi) :: (.ref hs) :: (.ref mo) :: (.ref po) :: (.ref nu) :: (.ref pr) :: (.ref sq) :: (.ref xa) :: (.ref sa) :: (.ref n64) :: (.ref m64) :: (.ref ex) :: (.ref wh) :: (.ref sd) :: (.ref tk) :: (.int v52) :: (.int v53) :: (.int v54) :: (.ref hd) :: (.ref ak) :: (.ref ho) :: (.ref ot) :: []) := hv_64
              refine W.eq (g2 := F0 m 199 ls []) rfl ?_
              have hF_66 : F_62 rv = .inl (cs 17, 700, .inl fv) := (hR rv (by rw [ht_2]; simp only [List.mem_cons, List.not_mem_nil, or_false]; omega)).trans hF_63
              obtain ⟨hv1, hv2⟩ := hv_64
              refine lv_iload hx hb dX15_matches_199 (lv_at hl 0 rfl) ?_
              refine lv_aload_n hx hb dX15_matches_201 rfl (lv_at hl 6 rfl) ?_
              refine pg_get (ci := 15) (v := .int (nI ze)) (C := RX15) (T := TX15) (N := 59) hx hb hts it_15 hown hK hP hL_h0 hv2 rfl 3 (by decide) (hts _ kt_714) (fun _ h9 => h9) rfl dX15_matches_202 ?_
              refine lv_icmp_ge (tgt := 273) hx hb dX15_matches_205 (by decide) (fun c_67 => ?_) (fun c_67 => ?_)
              ·
                have hi_68 : ze ≤ j := leN (N := ze) c_67
                refine lv_iload hx hb dX15_matches_273 (lv_at hl 2 rfl) ?_
                refine lv_if_ne (tgt := 299) hx hb dX15_matches_275 (by decide) (fun c_69 => ?_) (fun c_69 => ?_)
                ·
                  refine lv_iload hx hb dX15_matches_299 (lv_at hl 5 rfl) ?_
                  refine lv_iconst (v := 3) hx hb dX15_matches_301 (by decide) ?_
                  refine lv_icmp_ne (tgt := 316) hx hb dX15_matches_302 (by decide) (fun c_70 => ?_) (fun c_70 => ?_)
                  ·
                    refine lv_iload hx hb dX15_matches_316 (lv_at hl 1 rfl) ?_
                    refine W.widen (k := 0) (n := 0) (by omega) (by omega) ?_
                    exact W.iret (v := w8) hx hb hr (fun t ht hWm => ⟨⟨w8, (cn + 1), rfl, (fun h => by omega), ⟨F_62, v15, v17, v18, v19, v20, v21, v22, QTm.mk ht hP hD hO hR, hv2, by omega, by omega⟩⟩, hS.F ht⟩) hS.2.2 dX15_matches_318
                  ·
                    refine lv_aload_n hx hb dX15_matches_305 rfl (lv_at hl 6 rfl) ?_
                    refine lv_aload hx hb dX15_matches_306 (lv_at hl 3 rfl) ?_
                    refine lv_iload hx hb dX15_matches_308 (lv_at hl 4 rfl) ?_
                    have hFc := pg_free hD hS hA
                    refine va_calli (va_runV (As := [.ref b_44, .int v21]) (rest := []) ⟨hx, hb, hml, hown, hts⟩ (s_X15_exchanges l dC dI cs ty gm L H.size F_62 h0 ρ ta ou so ad na va lc dm tg pe ml bg co sp nb0 nb1 nb2 pl se ke wi hs mo po nu pr sq xa sa n64 m64 ex wh sd tk hd ak ho ot sx s0 s1 s2 nf bd mm zo ze zt b_44 (ρ + 6) r_45 61 v21 hW hL_h0 hT_h0 hi_47 ht_48) ⟨callB_of 2 hts (gi kt_947) rfl rfl rfl (hts _ kt_659) (hts _ kt_948) (by decide +kernel) ⟨by show 4 + 1 ≤ fr + 5; omega, by show 8 + (5 + 11) + 90 ≤ lo + 129; omega⟩, (hts _ kt_949), (hts _ kt_950)⟩ ⟨fun a U g mk q => ⟨q.1, PTm.calling q.2⟩, pg_recv hK hP hL_h0 hv2 (q := (RX15, TX15, 59)) rfl, fun U hU hWm => ⟨rfl, PTm.mk hU hWm hP hK hD hE hO⟩⟩ rfl rfl hl.1 rfl (lv_room (Nat.le_of_ble_eq_true rfl)) dX15_matches_310 ⟨by show _ + 0 ≤ 0; omega, by show _ + 0 ≤ 0; omega⟩) hS (fun q _ h => hFc q h) hFc (fun r_71 u t H1 locs ht hvm hw hB hz1 hk1 hS => ?_)
                    obtain ⟨F_72, hB1⟩ := hB
                    obtain rfl : F_62 = F_72 := (funext (fun a => hB1.2.2.2 a List.not_mem_nil)).symm
                    obtain ⟨hP, hD, hO, hR⟩ := QTm.back hB1 ht hFc hR (fun q h => absurd h List.not_mem_nil)
                    generalize H1 = H at hP hS ⊢
                    have hw : True := hw
                    have hw_73 := hw
                    refine lv_goto (tgt := 318) hx hb dX15_matches_313 (by decide) ?_
                    refine W.widen (k := 0) (n := 0) (by omega) (by omega) ?_
                    exact W.iret (v := r_71) hx hb hr (fun t ht hWm => ⟨⟨r_71, (cn + 1), rfl, (fun h => by omega), ⟨F_62, v15, v17, v18, v19, v20, v21, v22, QTm.mk ht hP hD hO hR, hv2, by omega, by omega⟩⟩, hS.F ht⟩) hS.2.2 dX15_matches_318
                ·
                  refine lv_aload_n hx hb dX15_matches_278 rfl (lv_at hl 6 rfl) ?_
                  refine lv_dup hx hb dX15_matches_279 rfl ?_
                  refine pg_get (ci := 15) (v := .int v15) (C := RX15) (T := TX15) (N := 59) hx hb hts it_15 hown hK hP hL_h0 hv2 rfl 15 (by decide) (hts _ kt_720) (fun _ h9 => h9) rfl dX15_matches_280 ?_
                  refine lv_iconst (v := 1) hx hb dX15_matches_283 (by decide) ?_
                  refine lv_iadd hx hb dX15_matches_284 ?_
                  refine lv_topi (fun x_74 _ => ?_)
                  refine pg_put (ci := 15) (v := .int x_74) (ty := .int) (C := RX15) (T := TX15) (N := 59) hx hb hts it_15 tyX15 tyX15_ok nmX15 hown hK hP hD hS hL_h0 hv2 rfl 15 (by decide) (hts _ kt_720) (fun _ h9 => h9) rfl (by decide +kernel) (rfl) (rfl) (Nat.le_of_ble_eq_true rfl) dX15_matches_285 (fun H locs hP hD hS => ?_)
                  obtain ⟨F_75, he_76, hP, hD, hO, hR⟩ : ∃ G, G = va_up F_62 h0 (.inr (15, (.ref ta) :: (.int (nI zt)) :: (.int (nI zo)) :: (.int (nI ze)) :: (.ref ou) :: (.ref so) :: (.ref ad) :: (.ref na) :: (.ref va) :: (.ref lc) :: (.ref dm) :: (.int v11) :: (.int v12) :: (.ref tg) :: (.int (nI (cn + 1))) :: (.int x_74) :: (.ref pe) :: (.int v17) :: (.int v18) :: (.int v19) :: (.int v20) :: (.int v21) :: (.int v22) :: (.ref ml) :: (.ref bg) :: (.ref co) :: (.ref sp) :: (.ref nb0) :: (.ref nb1) :: (.ref nb2) :: (.int (nI nf)) :: (.int (nI bd)) :: (.int (nI mm)) :: (.int v33) :: (.ref pl) :: (.ref se) :: (.ref ke) :: (.ref wi) :: (.ref hs) :: (.ref mo) :: (.ref po) :: (.ref nu) :: (.ref pr) :: (.ref sq) :: (.ref xa) :: (.ref sa) :: (.ref n64) :: (.ref m64) :: (.ref ex) :: (.ref wh) :: (.ref sd) :: (.ref tk) :: (.int v52) :: (.int v53) :: (.int v54) :: (.ref hd) :: (.ref ak) :: (.ref ho) :: (.ref ot) :: [])) ∧ va_P (dC, dI) vwCl (va_pl L G) H ∧ va_D A (va_pl L G) ∧ OKm cs ty gm L G ∧ FR ty [ρ, ρ + 6, ρ + 7] F G := ⟨_, rfl, hP, hD, hO.up (shm.mod hT_h0 ⟨v11, v12, (nI (cn + 1)), x_74, v17, v18, v19, v20, v21, v22, v33, v52, v53, v54, rfl, (by first | omega | assumption | exact Or.inl rfl | exact Or.inr rfl), (by first | omega | assumption | exact Or.inl rfl | exact Or.inr rfl), (by first | omega | assumption | exact Or.inl rfl | exact Or.inr rfl), (by first | omega | assumption | exact Or.inl rfl | exact Or.inr rfl)⟩), hR.up hT_h0 (by simp)⟩
                  have hF_77 : F_75 h0 = .inr (15, (.ref ta) :: (.int (nI zt)) :: (.int (nI zo)) :: (.int (nI ze)) :: (.ref ou) :: (.ref so) :: (.ref ad) :: (.ref na) :: (.ref va) :: (.ref lc) :: (.ref dm) :: (.int v11) :: (.int v12) :: (.ref tg) :: (.int (nI (cn + 1))) :: (.int x_74) :: (.ref pe) :: (.int v17) :: (.int v18) :: (.int v19) :: (.int v20) :: (.int v21) :: (.int v22) :: (.ref ml) :: (.ref bg) :: (.ref co) :: (.ref sp) :: (.ref nb0) :: (.ref nb1) :: (.ref nb2) :: (.int (nI nf)) :: (.int (nI bd)) :: (.int (nI mm)) :: (.int v33) :: (.ref pl) :: (.ref se) :: (.ref ke) :: (.ref wi) :: (.ref hs) :: (.ref mo) :: (.ref po) :: (.ref nu) :: (.ref pr) :: (.ref sq) :: (.ref xa) :: (.ref sa) :: (.ref n64) :: (.ref m64) :: (.ref ex) :: (.ref wh) :: (.ref sd) :: (.ref tk) :: (.int v52) :: (.int v53) :: (.int v54) :: (.ref hd) :: (.ref ak) :: (.ref ho) :: (.ref ot) :: []) := by rw [he_76]; exact up_self
                  have hF_78 : F_75 rv = .inl (cs 17, 700, .inl fv) := by rw [he_76, up_ne (ne_ty ht_2 hT_h0 (by simp))]; exact hF_66
                  refine lv_aload_n hx hb dX15_matches_288 rfl (lv_at hl 6 rfl) ?_
                  refine pg_get (ci := 15) (v := .int x_74) (C := RX15) (T := TX15) (N := 59) hx hb hts it_15 hown hK hP hL_h0 hF_77 rfl 15 (by decide) (hts _ kt_720) (fun _ h9 => h9) rfl dX15_matches_289 ?_
                  refine lv_iconst (v := 2) hx hb dX15_matches_292 (by decide) ?_
                  refine lv_icmp_le (tgt := 299) hx hb dX15_matches_293 (by decide) (fun c_79 => ?_) (fun c_79 => ?_)
                  ·
                    refine lv_iload hx hb dX15_matches_299 (lv_at hl 5 rfl) ?_
                    refine lv_iconst (v := 3) hx hb dX15_matches_301 (by decide) ?_
                    refine lv_icmp_ne (tgt := 316) hx hb dX15_matches_302 (by decide) (fun c_80 => ?_) (fun c_80 => ?_)
                    ·
                      refine lv_iload hx hb dX15_matches_316 (lv_at hl 1 rfl) ?_
                      refine W.widen (k := 0) (n := 0) (by omega) (by omega) ?_
                      exact W.iret (v := w8) hx hb hr (fun t ht hWm => ⟨⟨w8, (cn + 1), rfl, (fun h => by omega), ⟨F_75, x_74, v17, v18, v19, v20, v21, v22, QTm.mk ht hP hD hO hR, hF_77, by omega, by omega⟩⟩, hS.F ht⟩) hS.2.2 dX15_matches_318
                    ·
                      refine lv_aload_n hx hb dX15_matches_305 rfl (lv_at hl 6 rfl) ?_
                      refine lv_aload hx hb dX15_matches_306 (lv_at hl 3 rfl) ?_
                      refine lv_iload hx hb dX15_matches_308 (lv_at hl 4 rfl) ?_
                      have hFc := pg_free hD hS hA
                      refine va_calli (va_runV (As := [.ref b_44, .int v21]) (rest := []) ⟨hx, hb, hml, hown, hts⟩ (s_X15_exchanges l dC dI cs ty gm L H.size F_75 h0 ρ ta ou so ad na va lc dm tg pe ml bg co sp nb0 nb1 nb2 pl se ke wi hs mo po nu pr sq xa sa n64 m64 ex wh sd tk hd ak ho ot sx s0 s1 s2 nf bd mm zo ze zt b_44 (ρ + 6) r_45 61 v21 hW hL_h0 hT_h0 hi_47 ht_48) ⟨callB_of 2 hts (gi kt_947) rfl rfl rfl (hts _ kt_659) (hts _ kt_948) (by decide +kernel) ⟨by show 4 + 1 ≤ fr + 5; omega, by show 8 + (5 + 11) + 90 ≤ lo + 129; omega⟩, (hts _ kt_949), (hts _ kt_950)⟩ ⟨fun a U g mk q => ⟨q.1, PTm.calling q.2⟩, pg_recv hK hP hL_h0 hF_77 (q := (RX15, TX15, 59)) rfl, fun U hU hWm => ⟨rfl, PTm.mk hU hWm hP hK hD hE hO⟩⟩ rfl rfl hl.1 rfl (lv_room (Nat.le_of_ble_eq_true rfl)) dX15_matches_310 ⟨by show _ + 0 ≤ 0; omega, by show _ + 0 ≤ 0; omega⟩) hS (fun q _ h => hFc q h) hFc (fun r_81 u t H1 locs ht hvm hw hB hz1 hk1 hS => ?_)
                      obtain ⟨F_82, hB1⟩ := hB
                      obtain rfl : F_75 = F_82 := (funext (fun a => hB1.2.2.2 a List.not_mem_nil)).symm
                      obtain ⟨hP, hD, hO, hR⟩ := QTm.back hB1 ht hFc hR (fun q h => absurd h List.not_mem_nil)
                      generalize H1 = H at hP hS ⊢
                      have hw : True := hw
                      have hw_83 := hw
                      refine lv_goto (tgt := 318) hx hb dX15_matches_313 (by decide) ?_
                      refine W.widen (k := 0) (n := 0) (by omega) (by omega) ?_
                      exact W.iret (v := r_81) hx hb hr (fun t ht hWm => ⟨⟨r_81, (cn + 1), rfl, (fun h => by omega), ⟨F_75, x_74, v17, v18, v19, v20, v21, v22, QTm.mk ht hP hD hO hR, hF_77, by omega, by omega⟩⟩, hS.F ht⟩) hS.2.2 dX15_matches_318
                  ·
                    refine lv_bipush (v := 6) hx hb dX15_matches_296 (by decide) ?_
                    refine W.widen (k := 0) (n := 0) (by omega) (by omega) ?_
                    exact W.iret (v := 6) hx hb hr (fun t ht hWm => ⟨⟨6, (cn + 1), rfl, (fun _ => rfl), ⟨F_75, x_74, v17, v18, v19, v20, v21, v22, QTm.mk ht hP hD hO hR, hF_77, by omega, by omega⟩⟩, hS.F ht⟩) hS.2.2 dX15_matches_298
              ·
                have hi_84 : j < ze := ltN (N := ze) c_67
                refine lv_aload_n hx hb dX15_matches_208 rfl (lv_at hl 6 rfl) ?_
                refine lv_iload hx hb dX15_matches_209 (lv_at hl 0 rfl) ?_
                have hF_87 : F rv = .inl (cs 17, 700, .inl fv) := (hR rv (by rw [ht_2]; simp only [List.mem_cons, List.not_mem_nil, or_false]; omega)).symm.trans hF_66
                refine W.widen (k := 0) (n := 0) (by omega) (by omega) ?_
                refine pl_cutm (σ := Int32) A (dC, dI) cs ty gm L [ρ, ρ + 6, ρ + 7] F 222 10 (fun sq0 => [(9, .int (nI j)), (8, .int w8), (7, .int w7), (6, .ref b_44), (5, .int v21), (4, .int v17), (0, .ref h0), (1, .ref tv), (2, .ref dd), (3, .int (nI lv))]) (fun sq0 => [.int sq0, .int (nI j), .ref h0]) (fun sq0 FF => FF h0 = .inr (15, (.ref ta) :: (.int (nI zt)) :: (.int (nI zo)) :: (.int (nI ze)) :: (.ref ou) :: (.ref so) :: (.ref ad) :: (.ref na) :: (.ref va) :: (.ref lc) :: (.ref dm) :: (.int v11) :: (.int v12) :: (.ref tg) :: (.int (nI (cn + 1))) :: (.int v15) :: (.ref pe) :: (.int v17) :: (.int v18) :: (.int v19) :: (.int v20) :: (.int v21) :: (.int v22) :: (.ref ml) :: (.ref bg) :: (.ref co) :: (.ref sp) :: (.ref nb0) :: (.ref nb1) :: (.ref nb2) :: (.int (nI nf)) :: (.int (nI bd)) :: (.int (nI mm)) :: (.int v33) :: (.ref pl) :: (.ref se) :: (.ref ke) :: (.ref wi) :: (.ref hs) :: (.ref mo) :: (.ref po) :: (.ref nu) :: (.ref pr) :: (.ref sq) :: (.ref xa) :: (.ref sa) :: (.ref n64) :: (.ref m64) :: (.ref ex) :: (.ref wh) :: (.ref sd) :: (.ref tk) :: (.int v52) :: (.int v53) :: (.int v54) :: (.ref hd) :: (.ref ak) :: (.ref ho) :: (.ref ot) :: [])) ?_ (fun jn_85 => ?_)
                ·
                  rintro sq0 F_86 hv_88 hO hR H locs hP hD hS ls hl
                  have hl : lv_has ls 10 [(9, .int (nI j)), (8, .int w8), (7, .int w7), (6, .ref b_44), (5, .int v21), (4, .int v17), (0, .ref h0), (1, .ref tv), (2, .ref dd), (3, .int (nI lv))] := hl
                  have hv_88 : F_86 h0 = .inr (15, (.ref ta) :: (.int (nI zt)) :: (.int (nI zo)) :: (.int (nI ze)) :: (.ref ou) :: (.ref so) :: (.ref ad) :: (.ref na) :: (.ref va) :: (.ref lc) :: (.ref dm) :: (.int v11) :: (.int v12) :: (.ref tg) :: (.int (nI (cn + 1))) :: (.int v15) :: (.ref pe) :: (.int v17) :: (.int v18) :: (.int v19) :: (.int v20) :: (.int v21) :: (.int v22) :: (.ref ml) :: (.ref bg) :: (.ref co) :: (.ref sp) :: (.ref nb0) :: (.ref nb1) :: (.ref nb2) :: (.int (nI nf)) :: (.int (nI bd)) :: (.int (nI mm)) :: (.int v33) :: (.ref pl) :: (.ref se) :: (.ref ke) :: (.ref wi) :: (.ref hs) :: (.ref mo) :: (.ref po) :: (.ref nu) :: (.ref pr) :: (.ref sq) :: (.ref xa) :: (.ref sa) :: (.ref n64) :: (.ref m64) :: (.ref ex) :: (.ref wh) :: (.ref sd) :: (.ref tk) :: (.int v52) :: (.int v53) :: (.int v54) :: (.ref hd) :: (.ref ak) :: (.ref ho) :: (.ref ot) :: []) := hv_88
                  refine W.eq (g2 := F0 m 222 ls [.int sq0, .int (nI j), .ref h0]) rfl ?_
                  have hF_89 : F_86 rv = .inl (cs 17, 700, .inl fv) := (hR rv (by rw [ht_2]; simp only [List.mem_cons, List.not_mem_nil, or_false]; omega)).trans hF_87
                  refine lv_aload hx hb dX15_matches_222 (lv_at hl 3 rfl) ?_
                  have hFc := pg_free hD hS hA
                  refine va_calli (va_runV (As := [.int (nI j), .int sq0, .ref b_44]) (rest := []) ⟨hx, hb, hml, hown, hts⟩ (s_X15_isOf l dC dI cs ty gm L H.size F_86 h0 ρ ta ou so ad na va lc dm tg pe ml bg co sp nb0 nb1 nb2 pl se ke wi hs mo po nu pr sq xa sa n64 m64 ex wh sd tk hd ak ho ot sx s0 s1 s2 nf bd mm zo ze zt j b_44 (ρ + 6) r_45 61 sq0 hW hL_h0 hT_h0 hi_47 ht_48 (by first | omega | assumption)) ⟨callB_of 3 hts (gi kt_715) rfl rfl rfl (hts _ kt_659) (hts _ kt_716) (by decide +kernel) ⟨by show 2 + 1 ≤ fr + 5; omega, by show 8 + (4 + 11) + 45 ≤ lo + 129; omega⟩, (hts _ kt_717), (hts _ kt_718)⟩ ⟨fun a U g mk q => ⟨q.1, PTm.calling q.2⟩, pg_recv hK hP hL_h0 hv_88 (q := (RX15, TX15, 59)) rfl, fun U hU hWm => ⟨rfl, PTm.mk hU hWm hP hK hD hE hO⟩⟩ rfl rfl hl.1 rfl (lv_room (Nat.le_of_ble_eq_true rfl)) dX15_matches_224 ⟨by show _ + 0 ≤ 0; omega, by show _ + 0 ≤ 0; omega⟩) hS (fun q _ h => hFc q h) hFc (fun r_90 u t H1 locs ht hvm hw hB hz1 hk1 hS => ?_)
                  obtain ⟨F_91, hB1⟩ := hB
                  obtain rfl : F_86 = F_91 := (funext (fun a => hB1.2.2.2 a List.not_mem_nil)).symm
                  obtain ⟨hP, hD, hO, hR⟩ := QTm.back hB1 ht hFc hR (fun q h => absurd h List.not_mem_nil)
                  generalize H1 = H at hP hS ⊢
                  have hw : (r_90 = 0 ∨ r_90 = 1) := hw
                  have hw_92 := hw
                  refine lv_if_ne (tgt := 233) hx hb dX15_matches_227 (by decide) (fun c_93 => ?_) (fun c_93 => ?_)
                  ·
                    obtain ⟨x_94, ex_94⟩ : ∃ y : Int32, y = w7 + Int32.ofInt 1 := ⟨_, rfl⟩
                    refine lv_iinc (v := x_94) (lv' := [(7, .int x_94), (9, .int (nI j)), (8, .int w8), (6, .ref b_44), (5, .int v21), (4, .int v17), (0, .ref h0), (1, .ref tv), (2, .ref dd), (3, .int (nI lv))]) hx hb dX15_matches_233 hl (k := 2) rfl (ex_94.symm) (by decide) rfl (fun ls hl => ?_)
                    refine lv_iload hx hb dX15_matches_236 (lv_at hl 5 rfl) ?_
                    refine lv_iconst (v := 3) hx hb dX15_matches_238 (by decide) ?_
                    refine lv_icmp_eq (tgt := 267) hx hb dX15_matches_239 (by decide) (fun c_95 => ?_) (fun c_95 => ?_)
                    ·
                      refine lv_iinc (v := (nI (j + 1))) (lv' := [(9, .int (nI (j + 1))), (7, .int x_94), (8, .int w8), (6, .ref b_44), (5, .int v21), (4, .int v17), (0, .ref h0), (1, .ref tv), (2, .ref dd), (3, .int (nI lv))]) hx hb dX15_matches_267 hl (k := 1) rfl (nI_1 _) (by decide) rfl (fun ls hl => ?_)
                      refine lv_goto (tgt := 199) hx hb dX15_matches_270 (by decide) ?_
                      refine W.widen (k := 0) (n := 0) (by omega) (by omega) ?_
                      exact ih_65 ((j + 1), x_94, w8) F_86 (⟨by omega, hv_88⟩) (by show 40 - (j + 1) < 40 - j; omega) hO hR _ _ hP hD hS ls (lv_sub hl [0, 2, 1, 3, 4, 5, 6, 7, 8, 9] rfl)
                    ·
                      refine lv_iload hx hb dX15_matches_242 (lv_at hl 5 rfl) ?_
                      refine lv_iconst (v := 5) hx hb dX15_matches_244 (by decide) ?_
                      refine lv_icmp_eq (tgt := 264) hx hb dX15_matches_245 (by decide) (fun c_96 => ?_) (fun c_96 => ?_)
                      ·
                        refine lv_iconst (v := 1) hx hb dX15_matches_264 (by decide) ?_
                        refine lv_istore (lv' := [(8, .int 1), (7, .int x_94), (9, .int (nI j)), (6, .ref b_44), (5, .int v21), (4, .int v17), (0, .ref h0), (1, .ref tv), (2, .ref dd), (3, .int (nI lv))]) hx hb dX15_matches_265 hl (by decide) rfl (fun ls hl => ?_)
                        refine lv_iinc (v := (nI (j + 1))) (lv' := [(9, .int (nI (j + 1))), (8, .int 1), (7, .int x_94), (6, .ref b_44), (5, .int v21), (4, .int v17), (0, .ref h0), (1, .ref tv), (2, .ref dd), (3, .int (nI lv))]) hx hb dX15_matches_267 hl (k := 2) rfl (nI_1 _) (by decide) rfl (fun ls hl => ?_)
                        refine lv_goto (tgt := 199) hx hb dX15_matches_270 (by decide) ?_
                        refine W.widen (k := 0) (n := 0) (by omega) (by omega) ?_
                        exact ih_65 ((j + 1), x_94, 1) F_86 (⟨by omega, hv_88⟩) (by show 40 - (j + 1) < 40 - j; omega) hO hR _ _ hP hD hS ls (lv_sub hl [0, 1, 2, 3, 4, 5, 6, 7, 8, 9] rfl)
                      ·
                        refine lv_aload_n hx hb dX15_matches_248 rfl (lv_at hl 6 rfl) ?_
                        refine lv_aload_n hx hb dX15_matches_249 rfl (lv_at hl 6 rfl) ?_
                        refine pg_get (ci := 15) (v := .ref ad) (C := RX15) (T := TX15) (N := 59) hx hb hts it_15 hown hK hP hL_h0 hv_88 rfl 6 (by decide) (hts _ kt_730) (fun _ h9 => h9) rfl dX15_matches_250 ?_
                        refine lv_iload hx hb dX15_matches_253 (lv_at hl 1 rfl) ?_
                        obtain ⟨hi_97, ht_98⟩ := hW.f_ad hL_h0 hT_h0
                        obtain ⟨hq_99, hq_100⟩ := hW.ints hi_97 ht_98
                        obtain ⟨f_101, hF_102⟩ := hO.ints hi_97 ht_98
                        refine pg_iald hx hb hK hP hi_97 0 hF_102 rfl (vp_in_nI (by omega) (by omega)) dX15_matches_255 ?_
                        refine lv_topi (fun x_103 _ => ?_)
                        refine lv_iload hx hb dX15_matches_256 (lv_at hl 4 rfl) ?_
                        have hFc := pg_free hD hS hA
                        refine va_calli (va_runV (As := [.int x_103, .int v21]) (rest := []) ⟨hx, hb, hml, hown, hts⟩ (s_X15_isSender l dC dI cs ty gm L H.size F_86 h0 ρ ta ou so ad na va lc dm tg pe ml bg co sp nb0 nb1 nb2 pl se ke wi hs mo po nu pr sq xa sa n64 m64 ex wh sd tk hd ak ho ot sx s0 s1 s2 nf bd mm zo ze zt x_103 v21 hW hL_h0 hT_h0) ⟨callB_of 2 hts (gi kt_731) rfl rfl rfl (hts _ kt_659) (hts _ kt_732) (by decide +kernel) ⟨by show 0 + 1 ≤ fr + 5; omega, by show 8 + (3 + 11) + 0 ≤ lo + 129; omega⟩, (hts _ kt_733), (hts _ kt_734)⟩ ⟨fun a U g mk q => ⟨q.1, PTm.calling q.2⟩, pg_recv hK hP hL_h0 hv_88 (q := (RX15, TX15, 59)) rfl, fun U hU hWm => ⟨rfl, PTm.mk hU hWm hP hK hD hE hO⟩⟩ rfl rfl hl.1 rfl (lv_room (Nat.le_of_ble_eq_true rfl)) dX15_matches_258 ⟨by show _ + 0 ≤ 0; omega, by show _ + 0 ≤ 0; omega⟩) hS (fun q _ h => hFc q h) hFc (fun r_104 u t H1 locs ht hvm hw hB hz1 hk1 hS => ?_)
                        obtain ⟨F_105, hB1⟩ := hB
                        obtain rfl : F_86 = F_105 := (funext (fun a => hB1.2.2.2 a List.not_mem_nil)).symm
                        obtain ⟨hP, hD, hO, hR⟩ := QTm.back hB1 ht hFc hR (fun q h => absurd h List.not_mem_nil)
                        generalize H1 = H at hP hS ⊢
                        have hw : (r_104 = 0 ∨ r_104 = 1) := hw
                        have hw_106 := hw
                        refine lv_if_eq (tgt := 267) hx hb dX15_matches_261 (by decide) (fun c_107 => ?_) (fun c_107 => ?_)
                        ·
                          refine lv_iinc (v := (nI (j + 1))) (lv' := [(9, .int (nI (j + 1))), (7, .int x_94), (8, .int w8), (6, .ref b_44), (5, .int v21), (4, .int v17), (0, .ref h0), (1, .ref tv), (2, .ref dd), (3, .int (nI lv))]) hx hb dX15_matches_267 hl (k := 1) rfl (nI_1 _) (by decide) rfl (fun ls hl => ?_)
                          refine lv_goto (tgt := 199) hx hb dX15_matches_270 (by decide) ?_
                          refine W.widen (k := 0) (n := 0) (by omega) (by omega) ?_
                          exact ih_65 ((j + 1), x_94, w8) F_86 (⟨by omega, hv_88⟩) (by show 40 - (j + 1) < 40 - j; omega) hO hR _ _ hP hD hS ls (lv_sub hl [0, 2, 1, 3, 4, 5, 6, 7, 8, 9] rfl)
                        ·
                          refine lv_iconst (v := 1) hx hb dX15_matches_264 (by decide) ?_
                          refine lv_istore (lv' := [(8, .int 1), (7, .int x_94), (9, .int (nI j)), (6, .ref b_44), (5, .int v21), (4, .int v17), (0, .ref h0), (1, .ref tv), (2, .ref dd), (3, .int (nI lv))]) hx hb dX15_matches_265 hl (by decide) rfl (fun ls hl => ?_)
                          refine lv_iinc (v := (nI (j + 1))) (lv' := [(9, .int (nI (j + 1))), (8, .int 1), (7, .int x_94), (6, .ref b_44), (5, .int v21), (4, .int v17), (0, .ref h0), (1, .ref tv), (2, .ref dd), (3, .int (nI lv))]) hx hb dX15_matches_267 hl (k := 2) rfl (nI_1 _) (by decide) rfl (fun ls hl => ?_)
                          refine lv_goto (tgt := 199) hx hb dX15_matches_270 (by decide) ?_
                          refine W.widen (k := 0) (n := 0) (by omega) (by omega) ?_
                          exact ih_65 ((j + 1), x_94, 1) F_86 (⟨by omega, hv_88⟩) (by show 40 - (j + 1) < 40 - j; omega) hO hR _ _ hP hD hS ls (lv_sub hl [0, 1, 2, 3, 4, 5, 6, 7, 8, 9] rfl)
                  ·
                    refine lv_goto (tgt := 267) hx hb dX15_matches_230 (by decide) ?_
                    refine lv_iinc (v := (nI (j + 1))) (lv' := [(9, .int (nI (j + 1))), (8, .int w8), (7, .int w7), (6, .ref b_44), (5, .int v21), (4, .int v17), (0, .ref h0), (1, .ref tv), (2, .ref dd), (3, .int (nI lv))]) hx hb dX15_matches_267 hl (k := 0) rfl (nI_1 _) (by decide) rfl (fun ls hl => ?_)
                    refine lv_goto (tgt := 199) hx hb dX15_matches_270 (by decide) ?_
                    refine W.widen (k := 0) (n := 0) (by omega) (by omega) ?_
                    exact ih_65 ((j + 1), w7, w8) F_86 (⟨by omega, hv_88⟩) (by show 40 - (j + 1) < 40 - j; omega) hO hR _ _ hP hD hS ls (lv_sub hl [0, 1, 2, 3, 4, 5, 6, 7, 8, 9] rfl)
                ·
                  refine lv_iload hx hb dX15_matches_211 (lv_at hl 5 rfl) ?_
                  refine lv_iconst (v := 3) hx hb dX15_matches_213 (by decide) ?_
                  refine lv_icmp_ne (tgt := 221) hx hb dX15_matches_214 (by decide) (fun c_108 => ?_) (fun c_108 => ?_)
                  ·
                    refine lv_iconst (v := 1) hx hb dX15_matches_221 (by decide) ?_
                    refine W.widen (k := 0) (n := 0) (by omega) (by omega) ?_
                    exact jn_85 1 F_62 (hv2) hO hR _ _ hP hD hS ls (lv_sub hl [0, 1, 2, 3, 4, 5, 6, 7, 8, 9] rfl)
                  ·
                    refine lv_iconst (v := 2) hx hb dX15_matches_217 (by decide) ?_
                    refine lv_goto (tgt := 222) hx hb dX15_matches_218 (by decide) ?_
                    refine W.widen (k := 0) (n := 0) (by omega) (by omega) ?_
                    exact jn_85 2 F_62 (hv2) hO hR _ _ hP hD hS ls (lv_sub hl [0, 1, 2, 3, 4, 5, 6, 7, 8, 9] rfl)
            ·
              refine lv_iconst (v := 5) hx hb dX15_matches_188 (by decide) ?_
              refine W.widen (k := 0) (n := 0) (by omega) (by omega) ?_
              exact W.iret (v := 5) hx hb hr (fun t ht hWm => ⟨⟨5, (cn + 1), rfl, (fun h => by omega), ⟨F_50, v15, v17, v18, v19, v20, v21, v22, QTm.mk ht hP hD hO hR, hv_52, by omega, by omega⟩⟩, hS.F ht⟩) hS.2.2 dX15_matches_189
          ·
            refine lv_aload_n hx hb dX15_matches_129 rfl (lv_at hl 3 rfl) ?_
            refine lv_aload hx hb dX15_matches_130 (lv_at hl 0 rfl) ?_
            refine lv_iload_n hx hb dX15_matches_132 rfl (lv_at hl 6 rfl) ?_
            refine lv_iconst (v := 1) hx hb dX15_matches_133 (by decide) ?_
            refine lv_iadd hx hb dX15_matches_134 ?_
            refine lv_topi (fun x_109 ex_109 => ?_)
            obtain rfl : x_109 = (nI (lv + 1)) := ex_109.trans (nI_1 lv)
            obtain ⟨hi_110, ht_111, hq_112⟩ := hW.txt hL_pe hT_pe
            obtain ⟨hi_113, ht_114, hq_115⟩ := hW.txt hi_47 ht_48
            have hFc := pg_free hD hS hA
            refine va_calli (va_runV (As := [.ref b_44, .int (nI (lv + 1))]) (rest := []) ⟨hx, hb, hml, hown, hts⟩ (hC (cn + 1) (by omega) H.size F_50 v11 v12 v15 v17 v18 v19 v20 v21 v22 v33 v52 v53 v54 b_44 (ρ + 6) r_45 61 (lv + 1) hi_47 ht_48 hv_52 (by omega) (by omega) (by assumption) (by assumption) (by omega) (by omega) (by omega)) ⟨callB_of 2 hts (gi kt_951) rfl rfl rfl (hts _ kt_659) (hts _ kt_952) (by decide +kernel) ⟨by show fr + 0 + 1 ≤ fr + 5; omega, by show 8 + (10 + 11) + (lo + 0) ≤ lo + 129; omega⟩, (hts _ kt_953), (hts _ kt_954)⟩ ⟨fun a U g mk q => ⟨q.1, PTEm.calling q.2⟩, pg_recv hK hP hL_h0 hv_52 (q := (RX15, TX15, 59)) rfl, fun U hU hWm => ⟨rfl, PTEm.mk hU hWm hP hK hD hE hO hG (fun x hx => absurd hx List.not_mem_nil) hS hFc⟩⟩ rfl rfl hl.1 rfl (lv_room (Nat.le_of_ble_eq_true rfl)) dX15_matches_135 ⟨by show _ + 0 ≤ 0; omega, by show _ + 0 ≤ 0; omega⟩) hS (fun q _ h => hFc q h) hFc (fun r_117 cu_116 t H1 locs ht hvm hw hB hz1 hk1 hS => ?_)
            obtain ⟨F_118, u15_119, u17_120, u18_121, u19_122, u20_123, u21_124, u22_125, hB1, hq_126, hq_127, hq_128⟩ := hB
            obtain ⟨hP, hD, hO, hR⟩ := QTm.back hB1 ht hFc hR (fun q h => by simp only [List.mem_cons, List.not_mem_nil, or_false] at h ⊢; omega)
            have hF_129 : F_118 rv = .inl (cs 17, 700, .inl fv) := (hB1.2.2.2 rv (by rw [ht_2]; simp only [List.mem_cons, List.not_mem_nil, or_false]; omega)).trans hF_53
            generalize H1 = H at hP hS ⊢
            have hw : (cu_116 = 11 → r_117 = 6) := hw
            have hw_130 := hw
            refine lv_istore (lv' := [(7, .int r_117), (6, .ref b_44), (5, .int v21), (4, .int v17), (0, .ref h0), (1, .ref tv), (2, .ref dd), (3, .int (nI lv))]) hx hb dX15_matches_138 hl (by decide) rfl (fun ls hl => ?_)
            refine lv_iload hx hb dX15_matches_140 (lv_at hl 0 rfl) ?_
            refine lv_iconst (v := 2) hx hb dX15_matches_142 (by decide) ?_
            refine lv_icmp_ne (tgt := 150) hx hb dX15_matches_143 (by decide) (fun c_131 => ?_) (fun c_131 => ?_)
            ·
              refine lv_iload hx hb dX15_matches_150 (lv_at hl 0 rfl) ?_
              refine lv_iconst (v := 5) hx hb dX15_matches_152 (by decide) ?_
              refine lv_icmp_ne (tgt := 160) hx hb dX15_matches_153 (by decide) (fun c_132 => ?_) (fun c_132 => ?_)
              ·
                refine lv_iload hx hb dX15_matches_160 (lv_at hl 0 rfl) ?_
                refine lv_bipush (v := 6) hx hb dX15_matches_162 (by decide) ?_
                refine lv_icmp_eq (tgt := 172) hx hb dX15_matches_164 (by decide) (fun c_133 => ?_) (fun c_133 => ?_)
                ·
                  refine lv_bipush (v := 6) hx hb dX15_matches_172 (by decide) ?_
                  refine lv_goto (tgt := 178) hx hb dX15_matches_174 (by decide) ?_
                  refine W.widen (k := 0) (n := 0) (by omega) (by omega) ?_
                  exact W.iret (v := 6) hx hb hr (fun t ht hWm => ⟨⟨6, cu_116, rfl, (fun _ => rfl), ⟨F_118, u15_119, u17_120, u18_121, u19_122, u20_123, u21_124, u22_125, QTm.mk ht hP hD hO hR, hq_126, by omega, by omega⟩⟩, hS.F ht⟩) hS.2.2 dX15_matches_178
                ·
                  refine lv_iload hx hb dX15_matches_167 (lv_at hl 0 rfl) ?_
                  refine lv_if_ne (tgt := 177) hx hb dX15_matches_169 (by decide) (fun c_134 => ?_) (fun c_134 => ?_)
                  ·
                    refine lv_iconst (v := 0) hx hb dX15_matches_177 (by decide) ?_
                    refine W.widen (k := 0) (n := 0) (by omega) (by omega) ?_
                    exact W.iret (v := 0) hx hb hr (fun t ht hWm => ⟨⟨0, cu_116, rfl, (fun h => absurd (hw_130 h) c_133), ⟨F_118, u15_119, u17_120, u18_121, u19_122, u20_123, u21_124, u22_125, QTm.mk ht hP hD hO hR, hq_126, by omega, by omega⟩⟩, hS.F ht⟩) hS.2.2 dX15_matches_178
                  ·
                    refine lv_bipush (v := 6) hx hb dX15_matches_172 (by decide) ?_
                    refine lv_goto (tgt := 178) hx hb dX15_matches_174 (by decide) ?_
                    refine W.widen (k := 0) (n := 0) (by omega) (by omega) ?_
                    exact W.iret (v := 6) hx hb hr (fun t ht hWm => ⟨⟨6, cu_116, rfl, (fun _ => rfl), ⟨F_118, u15_119, u17_120, u18_121, u19_122, u20_123, u21_124, u22_125, QTm.mk ht hP hD hO hR, hq_126, by omega, by omega⟩⟩, hS.F ht⟩) hS.2.2 dX15_matches_178
              ·
                refine lv_iconst (v := 5) hx hb dX15_matches_156 (by decide) ?_
                refine lv_goto (tgt := 178) hx hb dX15_matches_157 (by decide) ?_
                refine W.widen (k := 0) (n := 0) (by omega) (by omega) ?_
                exact W.iret (v := 5) hx hb hr (fun t ht hWm => ⟨⟨5, cu_116, rfl, (fun h => absurd ((hw_130 h).symm.trans c_132) (by decide)), ⟨F_118, u15_119, u17_120, u18_121, u19_122, u20_123, u21_124, u22_125, QTm.mk ht hP hD hO hR, hq_126, by omega, by omega⟩⟩, hS.F ht⟩) hS.2.2 dX15_matches_178
            ·
              refine lv_iconst (v := 1) hx hb dX15_matches_146 (by decide) ?_
              refine lv_goto (tgt := 178) hx hb dX15_matches_147 (by decide) ?_
              refine W.widen (k := 0) (n := 0) (by omega) (by omega) ?_
              exact W.iret (v := 1) hx hb hr (fun t ht hWm => ⟨⟨1, cu_116, rfl, (fun h => absurd ((hw_130 h).symm.trans c_131) (by decide)), ⟨F_118, u15_119, u17_120, u18_121, u19_122, u20_123, u21_124, u22_125, QTm.mk ht hP hD hO hR, hq_126, by omega, by omega⟩⟩, hS.F ht⟩) hS.2.2 dX15_matches_178
        ·
          refine lv_aload_n hx hb dX15_matches_80 rfl (lv_at hl 3 rfl) ?_
          refine pg_get (ci := 15) (v := .int v19) (C := RX15) (T := TX15) (N := 59) hx hb hts it_15 hown hK hP hL_h0 hF_35 rfl 19 (by decide) (hts _ kt_741) (fun _ h9 => h9) rfl dX15_matches_81 ?_
          refine lv_if_ge (tgt := 104) hx hb dX15_matches_84 (by decide) (fun c_135 => ?_) (fun c_135 => ?_)
          ·
            obtain ⟨b9, c9, e19, e20, hd1, hd2, hd3⟩ := hdok.resolve_left (fun h => absurd (h ▸ c_135) (by decide))
            refine lv_aload_n hx hb dX15_matches_104 rfl (lv_at hl 3 rfl) ?_
            refine lv_aload_n hx hb dX15_matches_105 rfl (lv_at hl 4 rfl) ?_
            obtain ⟨z_136, hF_137, hq_138⟩ := hO.txt hL_tv hT_tv
            refine pg_get (ci := 14) (v := .ref rv) (C := RX14) (T := TX14) (N := 2) hx hb hts it_14 hown hK hP hL_tv hF_137 rfl 0 (by decide) (hts _ kt_700) (fun _ h9 => h9) rfl dX15_matches_106 ?_
            refine lv_aload_n hx hb dX15_matches_109 rfl (lv_at hl 3 rfl) ?_
            refine pg_get (ci := 15) (v := .int v19) (C := RX15) (T := TX15) (N := 59) hx hb hts it_15 hown hK hP hL_h0 hF_35 rfl 19 (by decide) (hts _ kt_741) (fun _ h9 => h9) rfl dX15_matches_110 ?_
            refine lv_topi (fun x9 ex9 => ?_)
            obtain rfl : x9 = nI b9 := ex9.trans e19
            refine lv_aload_n hx hb dX15_matches_113 rfl (lv_at hl 3 rfl) ?_
            refine pg_get (ci := 15) (v := .int v20) (C := RX15) (T := TX15) (N := 59) hx hb hts it_15 hown hK hP hL_h0 hF_35 rfl 20 (by decide) (hts _ kt_742) (fun _ h9 => h9) rfl dX15_matches_114 ?_
            refine lv_topi (fun x9 ex9 => ?_)
            obtain rfl : x9 = nI c9 := ex9.trans e20
            refine lv_aload_n hx hb dX15_matches_117 rfl (lv_at hl 5 rfl) ?_
            refine lv_aload hx hb dX15_matches_118 (lv_at hl 0 rfl) ?_
            obtain ⟨hi_139, ht_140, hq_141⟩ := hW.txt hL_pe hT_pe
            obtain ⟨hi_142, ht_143, hq_144⟩ := hW.txt hi_47 ht_48
            obtain ⟨hq_145, hq_146⟩ := hW.octs hi_1 ht_2
            obtain ⟨hi_147, ht_148, hq_149⟩ := hW.txt hL_dd hT_dd
            have hFc := pg_free hD hS hA
            refine va_callv (va_runV (As := [.ref rv, .int (nI b9), .int (nI c9), .ref dd, .ref b_44]) (rest := []) ⟨hx, hb, hml, hown, hts⟩ (s_X15_expand l dC dI cs ty gm L H.size F_33 h0 ρ ta ou so ad na va lc dm tg pe ml bg co sp nb0 nb1 nb2 pl se ke wi hs mo po nu pr sq xa sa n64 m64 ex wh sd tk hd ak ho ot sx s0 s1 s2 nf bd mm zo ze zt rp b_44 r_45 rv μ fv dd τ rd nd b9 c9 hW hL_h0 hT_h0 hL_pe hT_pe hi_47 ht_48 hi_1 ht_2 hL_dd hT_dd hF_36 (by first | omega | assumption) (by first | omega | assumption) (by first | omega | assumption) (by first | omega | assumption) (by first | omega | assumption)) ⟨callB_of 5 hts (gi kt_955) rfl rfl rfl (hts _ kt_659) (hts _ kt_956) (by decide +kernel) ⟨by show 4 + 1 ≤ fr + 5; omega, by show 8 + (8 + 11) + 102 ≤ lo + 129; omega⟩, (hts _ kt_957), (hts _ kt_958)⟩ ⟨fun a U g mk q => ⟨q.1, PTm.calling q.2⟩, pg_recv hK hP hL_h0 hF_35 (q := (RX15, TX15, 59)) rfl, fun U hU hWm => ⟨rfl, PTm.mk hU hWm hP hK hD hE hO⟩⟩ rfl rfl hl.1 rfl (lv_room (Nat.le_of_ble_eq_true rfl)) dX15_matches_120 ⟨by show _ + 0 ≤ 0; omega, by show _ + 0 ≤ 0; omega⟩) hS (fun q _ h => hFc q h) hFc (fun u t H1 locs ht hvm hw hB hz1 hk1 hS => ?_)
            obtain ⟨F_151, hB1⟩ := hB
            obtain ⟨hP, hD, hO, hR⟩ := QTm.back hB1 ht hFc hR (fun q h => by simp only [List.mem_cons, List.not_mem_nil, or_false] at h ⊢; omega)
            have hF_152 : F_151 h0 = .inr (15, (.ref ta) :: (.int (nI zt)) :: (.int (nI zo)) :: (.int (nI ze)) :: (.ref ou) :: (.ref so) :: (.ref ad) :: (.ref na) :: (.ref va) :: (.ref lc) :: (.ref dm) :: (.int v11) :: (.int v12) :: (.ref tg) :: (.int (nI (cn + 1))) :: (.int v15) :: (.ref pe) :: (.int v17) :: (.int v18) :: (.int v19) :: (.int v20) :: (.int v21) :: (.int v22) :: (.ref ml) :: (.ref bg) :: (.ref co) :: (.ref sp) :: (.ref nb0) :: (.ref nb1) :: (.ref nb2) :: (.int (nI nf)) :: (.int (nI bd)) :: (.int (nI mm)) :: (.int v33) :: (.ref pl) :: (.ref se) :: (.ref ke) :: (.ref wi) :: (.ref hs) :: (.ref mo) :: (.ref po) :: (.ref nu) :: (.ref pr) :: (.ref sq) :: (.ref xa) :: (.ref sa) :: (.ref n64) :: (.ref m64) :: (.ref ex) :: (.ref wh) :: (.ref sd) :: (.ref tk) :: (.int v52) :: (.int v53) :: (.int v54) :: (.ref hd) :: (.ref ak) :: (.ref ho) :: (.ref ot) :: []) := (hB1.2.2.2 h0 (by rw [hT_h0]; simp)).trans hF_35
            have hF_153 : F_151 rv = .inl (cs 17, 700, .inl fv) := (hB1.2.2.2 rv (by rw [ht_2]; simp only [List.mem_cons, List.not_mem_nil, or_false]; omega)).trans hF_36
            have hF_154 : F_151 tv = .inr (14, [.ref rv, .int (nI z_136)]) := (hB1.2.2.2 tv (by rw [hT_tv]; simp only [List.mem_cons, List.not_mem_nil, or_false]; omega)).trans hF_137
            generalize H1 = H at hP hS ⊢
            refine W.widen (k := 0) (n := 0) (by omega) (by omega) ?_
            exact jn_49 () F_151 (hF_152) hO hR _ _ hP hD hS ls (lv_sub hl [0, 1, 2, 3, 4, 5, 6] rfl)
          ·
            refine lv_aload hx hb dX15_matches_87 (lv_at hl 0 rfl) ?_
            refine lv_aload_n hx hb dX15_matches_89 rfl (lv_at hl 5 rfl) ?_
            obtain ⟨hi_155, ht_156, hq_157⟩ := hW.txt hL_dd hT_dd
            obtain ⟨z_158, hF_159, hq_160⟩ := hO.txt hL_dd hT_dd
            refine pg_get (ci := 14) (v := .ref rd) (C := RX14) (T := TX14) (N := 2) hx hb hts it_14 hown hK hP hL_dd hF_159 rfl 0 (by decide) (hts _ kt_700) (fun _ h9 => h9) rfl dX15_matches_90 ?_
            refine lv_iconst (v := 0) hx hb dX15_matches_93 (by decide) ?_
            refine lv_aload_n hx hb dX15_matches_94 rfl (lv_at hl 5 rfl) ?_
            refine pg_get (ci := 14) (v := .int (nI z_158)) (C := RX14) (T := TX14) (N := 2) hx hb hts it_14 hown hK hP hL_dd hF_159 rfl 1 (by decide) (hts _ kt_699) (fun _ h9 => h9) rfl dX15_matches_95 ?_
            refine W.eq (g2 := F0 m 98 ls [.int (nI z_158), .int (nI 0), .ref rd, .ref b_44]) rfl ?_
            obtain ⟨hi_161, ht_162, hq_163⟩ := hW.txt hi_47 ht_48
            obtain ⟨hq_164, hq_165⟩ := hW.octs hi_155 ht_156
            have hFc := pg_free hD hS hA
            obtain ⟨z_166, hF_167, hq_168⟩ := hO.txt hi_47 ht_48
            refine va_callv (va_runV (As := [.ref rd, .int (nI 0), .int (nI z_158)]) (rest := []) ⟨hx, hb, hml, hown, hts⟩ (s_X14_set l dC dI cs ty gm L H.size F_33 b_44 (ρ + 6) r_45 61 rd τ nd 0 z_158 hW hi_47 ht_48 hi_155 ht_156 (by first | omega | assumption) (by first | omega | assumption) (by first | omega | assumption)) ⟨callB_of 3 hts (gi kt_959) rfl rfl rfl (hts _ kt_666) (hts _ kt_960) (by decide +kernel) ⟨by show 2 + 1 ≤ fr + 5; omega, by show 8 + (4 + 11) + 71 ≤ lo + 129; omega⟩, (hts _ kt_961), (hts _ kt_962)⟩ ⟨fun a U g mk q => ⟨q.1, PTm.calling q.2⟩, pg_recv hK hP hi_47 hF_167 (q := (RX14, TX14, 2)) rfl, fun U hU hWm => ⟨rfl, PTm.mk hU hWm hP hK hD hE hO⟩⟩ rfl rfl hl.1 rfl (lv_room (Nat.le_of_ble_eq_true rfl)) dX15_matches_98 ⟨by show _ + 0 ≤ 0; omega, by show _ + 0 ≤ 0; omega⟩) hS (fun q _ h => hFc q h) hFc (fun u t H1 locs ht hvm hw hB hz1 hk1 hS => ?_)
            obtain ⟨F_170, hB1, hq_171⟩ := hB
            obtain ⟨hP, hD, hO, hR⟩ := QTm.back hB1 ht hFc hR (fun q h => by simp only [List.mem_cons, List.not_mem_nil, or_false] at h ⊢; omega)
            have hF_172 : F_170 h0 = .inr (15, (.ref ta) :: (.int (nI zt)) :: (.int (nI zo)) :: (.int (nI ze)) :: (.ref ou) :: (.ref so) :: (.ref ad) :: (.ref na) :: (.ref va) :: (.ref lc) :: (.ref dm) :: (.int v11) :: (.int v12) :: (.ref tg) :: (.int (nI (cn + 1))) :: (.int v15) :: (.ref pe) :: (.int v17) :: (.int v18) :: (.int v19) :: (.int v20) :: (.int v21) :: (.int v22) :: (.ref ml) :: (.ref bg) :: (.ref co) :: (.ref sp) :: (.ref nb0) :: (.ref nb1) :: (.ref nb2) :: (.int (nI nf)) :: (.int (nI bd)) :: (.int (nI mm)) :: (.int v33) :: (.ref pl) :: (.ref se) :: (.ref ke) :: (.ref wi) :: (.ref hs) :: (.ref mo) :: (.ref po) :: (.ref nu) :: (.ref pr) :: (.ref sq) :: (.ref xa) :: (.ref sa) :: (.ref n64) :: (.ref m64) :: (.ref ex) :: (.ref wh) :: (.ref sd) :: (.ref tk) :: (.int v52) :: (.int v53) :: (.int v54) :: (.ref hd) :: (.ref ak) :: (.ref ho) :: (.ref ot) :: []) := (hB1.2.2.2 h0 (by rw [hT_h0]; simp)).trans hF_35
            have hF_173 : F_170 rv = .inl (cs 17, 700, .inl fv) := (hB1.2.2.2 rv (by rw [ht_2]; simp only [List.mem_cons, List.not_mem_nil, or_false]; omega)).trans hF_36
            generalize H1 = H at hP hS ⊢
            refine lv_goto (tgt := 123) hx hb dX15_matches_101 (by decide) ?_
            refine W.widen (k := 0) (n := 0) (by omega) (by omega) ?_
            exact jn_49 () F_170 (hF_172) hO hR _ _ hP hD hS ls (lv_sub hl [0, 1, 2, 3, 4, 5, 6] rfl)
      ·
        have hi_174 : 10 < (cn + 1) := Nat.not_le.mp (fun q => c_37 ((nI_leI (a := (cn + 1)) (b := 10) (by omega) (by omega)).mpr q))
        refine lv_bipush (v := 6) hx hb dX15_matches_69 (by decide) ?_
        refine W.widen (k := 0) (n := 0) (by omega) (by omega) ?_
        exact W.iret (v := 6) hx hb hr (fun t ht hWm => ⟨⟨6, (cn + 1), rfl, (fun _ => rfl), ⟨F_33, v15, v17, v18, v19, v20, v21, v22, QTm.mk ht hP hD hO hR, hF_35, by omega, by omega⟩⟩, hS.F ht⟩) hS.2.2 dX15_matches_71
    ·
      refine lv_aload_n hx hb dX15_matches_17 rfl (lv_at hl 0 rfl) ?_
      refine lv_aload_n hx hb dX15_matches_18 rfl (lv_at hl 0 rfl) ?_
      refine pg_get (ci := 15) (v := .int v22) (C := RX15) (T := TX15) (N := 59) hx hb hts it_15 hown hK hP hL_h0 hF0 rfl 22 (by decide) (hts _ kt_735) (fun _ h9 => h9) rfl dX15_matches_19 ?_
      refine lv_aload_n hx hb dX15_matches_22 rfl (lv_at hl 0 rfl) ?_
      refine pg_get (ci := 15) (v := .int v21) (C := RX15) (T := TX15) (N := 59) hx hb hts it_15 hown hK hP hL_h0 hF0 rfl 21 (by decide) (hts _ kt_739) (fun _ h9 => h9) rfl dX15_matches_23 ?_
      have hFc := pg_free hD hS hA
      refine va_calli (va_runV (As := [.int v22, .int v21]) (rest := []) ⟨hx, hb, hml, hown, hts⟩ (s_X15_isSender l dC dI cs ty gm L s.heap.size F h0 ρ ta ou so ad na va lc dm tg pe ml bg co sp nb0 nb1 nb2 pl se ke wi hs mo po nu pr sq xa sa n64 m64 ex wh sd tk hd ak ho ot sx s0 s1 s2 nf bd mm zo ze zt v22 v21 hW hL_h0 hT_h0) ⟨callB_of 2 hts (gi kt_731) rfl rfl rfl (hts _ kt_659) (hts _ kt_732) (by decide +kernel) ⟨by show 0 + 1 ≤ fr + 5; omega, by show 8 + (3 + 11) + 0 ≤ lo + 129; omega⟩, (hts _ kt_733), (hts _ kt_734)⟩ ⟨fun a U g mk q => ⟨q.1, PTm.calling q.2⟩, pg_recv hK hP hL_h0 hF0 (q := (RX15, TX15, 59)) rfl, fun U hU hWm => ⟨rfl, PTm.mk hU hWm hP hK hD hE hO⟩⟩ rfl rfl hl.1 rfl (lv_room (Nat.le_of_ble_eq_true rfl)) dX15_matches_26 ⟨by show _ + 0 ≤ 0; omega, by show _ + 0 ≤ 0; omega⟩) hS (fun q _ h => hFc q h) hFc (fun r_175 u t H1 locs ht hvm hw hB hz1 hk1 hS => ?_)
      obtain ⟨F_176, hB1⟩ := hB
      obtain rfl : F = F_176 := (funext (fun a => hB1.2.2.2 a List.not_mem_nil)).symm
      obtain ⟨hP, hD, hO, hR⟩ := QTm.back hB1 ht hFc hR (fun q h => absurd h List.not_mem_nil)
      generalize H1 = H at hP hS ⊢
      have hw : (r_175 = 0 ∨ r_175 = 1) := hw
      have hw_177 := hw
      refine lv_if_eq (tgt := 36) hx hb dX15_matches_29 (by decide) (fun c_178 => ?_) (fun c_178 => ?_)
      ·
        refine lv_iconst (v := 0) hx hb dX15_matches_36 (by decide) ?_
        refine W.widen (k := 0) (n := 0) (by omega) (by omega) ?_
        exact W.iret (v := 0) hx hb hr (fun t ht hWm => ⟨⟨0, cn, rfl, (fun h => by omega), ⟨F, v15, v17, v18, v19, v20, v21, v22, QTm.mk ht hP hD hO hR, hF0, by omega, by omega⟩⟩, hS.F ht⟩) hS.2.2 dX15_matches_37
      ·
        refine lv_iconst (v := 1) hx hb dX15_matches_32 (by decide) ?_
        refine lv_goto (tgt := 37) hx hb dX15_matches_33 (by decide) ?_
        refine W.widen (k := 0) (n := 0) (by omega) (by omega) ?_
        exact W.iret (v := 1) hx hb hr (fun t ht hWm => ⟨⟨1, cn, rfl, (fun h => by omega), ⟨F, v15, v17, v18, v19, v20, v21, v22, QTm.mk ht hP hD hO hR, hF0, by omega, by omega⟩⟩, hS.F ht⟩) hS.2.2 dX15_matches_37
  ·
    refine lv_iconst (v := 1) hx hb dX15_matches_7 (by decide) ?_
    refine W.widen (k := 0) (n := 0) (by omega) (by omega) ?_
    exact W.iret (v := 1) hx hb hr (fun t ht hWm => ⟨⟨1, cn, rfl, (fun h => by omega), ⟨F, v15, v17, v18, v19, v20, v21, v22, QTm.mk ht hP hD hO hR, hF0, by omega, by omega⟩⟩, hS.F ht⟩) hS.2.2 dX15_matches_8
