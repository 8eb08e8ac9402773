theorem kt_1138 : Cond.fieldLink RX15 104 "PostGateModel" "wish" "LPostGateModel$Tags;" ∈ tb := tb_at (i := 1326) (by decide +kernel) (by decide +kernel)
theorem dX15_permission_0 : decode cX15_permission 0 = .ok (.aload_n 0, 1) := by decide +kernel
theorem dX15_permission_1 : decode cX15_permission 1 = .ok (.getfield 208, 3) := by decide +kernel
theorem dX15_permission_4 : decode cX15_permission 4 = .ok (.ifCond .ne 5, 3) := by decide +kernel
theorem dX15_permission_7 : decode cX15_permission 7 = .ok (.iconst (-1), 1) := by decide +kernel
theorem dX15_permission_8 : decode cX15_permission 8 = .ok (.ireturn, 1) := by decide +kernel
theorem dX15_permission_9 : decode cX15_permission 9 = .ok (.aload_n 0, 1) := by decide +kernel
theorem dX15_permission_10 : decode cX15_permission 10 = .ok (.iconst 0, 1) := by decide +kernel
theorem dX15_permission_11 : decode cX15_permission 11 = .ok (.putfield 212, 3) := by decide +kernel
theorem dX15_permission_14 : decode cX15_permission 14 = .ok (.aload_n 0, 1) := by decide +kernel
theorem dX15_permission_15 : decode cX15_permission 15 = .ok (.iconst 0, 1) := by decide +kernel
theorem dX15_permission_16 : decode cX15_permission 16 = .ok (.putfield 215, 3) := by decide +kernel
theorem dX15_permission_19 : decode cX15_permission 19 = .ok (.aload_n 0, 1) := by decide +kernel
theorem dX15_permission_20 : decode cX15_permission 20 = .ok (.aload_n 0, 1) := by decide +kernel
theorem dX15_permission_21 : decode cX15_permission 21 = .ok (.getfield 61, 3) := by decide +kernel
theorem dX15_permission_24 : decode cX15_permission 24 = .ok (.iconst 0, 1) := by decide +kernel
theorem dX15_permission_25 : decode cX15_permission 25 = .ok (.invokevirtual 218, 3) := by decide +kernel
theorem dX15_permission_28 : decode cX15_permission 28 = .ok (.ireturn, 1) := by decide +kernel
theorem dX15_wish_0 : decode cX15_wish 0 = .ok (.aload_n 0, 1) := by decide +kernel
theorem dX15_wish_1 : decode cX15_wish 1 = .ok (.getfield 208, 3) := by decide +kernel
theorem dX15_wish_4 : decode cX15_wish 4 = .ok (.ifCond .eq 7, 3) := by decide +kernel
theorem dX15_wish_7 : decode cX15_wish 7 = .ok (.iload_n 1, 1) := by decide +kernel
theorem dX15_wish_8 : decode cX15_wish 8 = .ok (.ifCond .ge 5, 3) := by decide +kernel
theorem dX15_wish_11 : decode cX15_wish 11 = .ok (.iconst (-1), 1) := by decide +kernel
theorem dX15_wish_12 : decode cX15_wish 12 = .ok (.ireturn, 1) := by decide +kernel
theorem dX15_wish_13 : decode cX15_wish 13 = .ok (.aload_n 0, 1) := by decide +kernel
theorem dX15_wish_14 : decode cX15_wish 14 = .ok (.getfield 370, 3) := by decide +kernel
theorem dX15_wish_17 : decode cX15_wish 17 = .ok (.ifCond .ne 6, 3) := by decide +kernel
theorem dX15_wish_20 : decode cX15_wish 20 = .ok (.bipush (-2), 2) := by decide +kernel
theorem dX15_wish_22 : decode cX15_wish 22 = .ok (.ireturn, 1) := by decide +kernel
theorem dX15_wish_23 : decode cX15_wish 23 = .ok (.aload_n 0, 1) := by decide +kernel
theorem dX15_wish_24 : decode cX15_wish 24 = .ok (.invokevirtual 581, 3) := by decide +kernel
theorem dX15_wish_27 : decode cX15_wish 27 = .ok (.ifCond .ne 5, 3) := by decide +kernel
theorem dX15_wish_30 : decode cX15_wish 30 = .ok (.iconst 1, 1) := by decide +kernel
theorem dX15_wish_31 : decode cX15_wish 31 = .ok (.ireturn, 1) := by decide +kernel
theorem dX15_wish_32 : decode cX15_wish 32 = .ok (.iconst 1, 1) := by decide +kernel
theorem dX15_wish_33 : decode cX15_wish 33 = .ok (.istore_n 2, 1) := by decide +kernel
theorem dX15_wish_34 : decode cX15_wish 34 = .ok (.aload_n 0, 1) := by decide +kernel
theorem dX15_wish_35 : decode cX15_wish 35 = .ok (.aload_n 0, 1) := by decide +kernel
theorem dX15_wish_36 : decode cX15_wish 36 = .ok (.getfield 157, 3) := by decide +kernel
theorem dX15_wish_39 : decode cX15_wish 39 = .ok (.invokevirtual 584, 3) := by decide +kernel
theorem dX15_wish_42 : decode cX15_wish 42 = .ok (.istore_n 3, 1) := by decide +kernel
theorem dX15_wish_43 : decode cX15_wish 43 = .ok (.iload_n 3, 1) := by decide +kernel
theorem dX15_wish_44 : decode cX15_wish 44 = .ok (.iconst (-1), 1) := by decide +kernel
theorem dX15_wish_45 : decode cX15_wish 45 = .ok (.if_icmp .ne 26, 3) := by decide +kernel
theorem dX15_wish_48 : decode cX15_wish 48 = .ok (.iconst 0, 1) := by decide +kernel
theorem dX15_wish_49 : decode cX15_wish 49 = .ok (.istore_n 2, 1) := by decide +kernel
theorem dX15_wish_50 : decode cX15_wish 50 = .ok (.aload_n 0, 1) := by decide +kernel
theorem dX15_wish_51 : decode cX15_wish 51 = .ok (.aload_n 0, 1) := by decide +kernel
theorem dX15_wish_52 : decode cX15_wish 52 = .ok (.getfield 157, 3) := by decide +kernel
theorem dX15_wish_55 : decode cX15_wish 55 = .ok (.aload_n 0, 1) := by decide +kernel
theorem dX15_wish_56 : decode cX15_wish 56 = .ok (.getfield 160, 3) := by decide +kernel
theorem dX15_wish_59 : decode cX15_wish 59 = .ok (.invokevirtual 565, 3) := by decide +kernel
theorem dX15_wish_62 : decode cX15_wish 62 = .ok (.aload_n 0, 1) := by decide +kernel
theorem dX15_wish_63 : decode cX15_wish 63 = .ok (.aload_n 0, 1) := by decide +kernel
theorem dX15_wish_64 : decode cX15_wish 64 = .ok (.getfield 160, 3) := by decide +kernel
theorem dX15_wish_67 : decode cX15_wish 67 = .ok (.invokevirtual 584, 3) := by decide +kernel
theorem dX15_wish_70 : decode cX15_wish 70 = .ok (.istore_n 3, 1) := by decide +kernel
theorem dX15_wish_71 : decode cX15_wish 71 = .ok (.iload_n 3, 1) := by decide +kernel
theorem dX15_wish_72 : decode cX15_wish 72 = .ok (.ifCond .ge 15, 3) := by decide +kernel
theorem dX15_wish_75 : decode cX15_wish 75 = .ok (.iload_n 3, 1) := by decide +kernel
theorem dX15_wish_76 : decode cX15_wish 76 = .ok (.bipush (-2), 2) := by decide +kernel
theorem dX15_wish_78 : decode cX15_wish 78 = .ok (.if_icmp .ne 7, 3) := by decide +kernel
theorem dX15_wish_81 : decode cX15_wish 81 = .ok (.iconst 5, 1) := by decide +kernel
theorem dX15_wish_82 : decode cX15_wish 82 = .ok (.goto 4, 3) := by decide +kernel
theorem dX15_wish_85 : decode cX15_wish 85 = .ok (.iconst 0, 1) := by decide +kernel
theorem dX15_wish_86 : decode cX15_wish 86 = .ok (.ireturn, 1) := by decide +kernel
theorem dX15_wish_87 : decode cX15_wish 87 = .ok (.aload_n 0, 1) := by decide +kernel
theorem dX15_wish_88 : decode cX15_wish 88 = .ok (.getfield 51, 3) := by decide +kernel
theorem dX15_wish_91 : decode cX15_wish 91 = .ok (.iload_n 3, 1) := by decide +kernel
theorem dX15_wish_92 : decode cX15_wish 92 = .ok (.aaload, 1) := by decide +kernel
theorem dX15_wish_93 : decode cX15_wish 93 = .ok (.getfield 295, 3) := by decide +kernel
theorem dX15_wish_96 : decode cX15_wish 96 = .ok (.iconst 0, 1) := by decide +kernel
theorem dX15_wish_97 : decode cX15_wish 97 = .ok (.aload_n 0, 1) := by decide +kernel
theorem dX15_wish_98 : decode cX15_wish 98 = .ok (.getfield 51, 3) := by decide +kernel
theorem dX15_wish_101 : decode cX15_wish 101 = .ok (.iload_n 3, 1) := by decide +kernel
theorem dX15_wish_102 : decode cX15_wish 102 = .ok (.aaload, 1) := by decide +kernel
theorem dX15_wish_103 : decode cX15_wish 103 = .ok (.getfield 190, 3) := by decide +kernel
theorem dX15_wish_106 : decode cX15_wish 106 = .ok (.aload_n 0, 1) := by decide +kernel
theorem dX15_wish_107 : decode cX15_wish 107 = .ok (.getfield 104, 3) := by decide +kernel
theorem dX15_wish_110 : decode cX15_wish 110 = .ok (.getfield 409, 3) := by decide +kernel
theorem dX15_wish_113 : decode cX15_wish 113 = .ok (.invokestatic 507, 3) := by decide +kernel
theorem dX15_wish_116 : decode cX15_wish 116 = .ok (.aload_n 0, 1) := by decide +kernel
theorem dX15_wish_117 : decode cX15_wish 117 = .ok (.getfield 104, 3) := by decide +kernel
theorem dX15_wish_120 : decode cX15_wish 120 = .ok (.bipush 8, 2) := by decide +kernel
theorem dX15_wish_122 : decode cX15_wish 122 = .ok (.invokevirtual 441, 3) := by decide +kernel
theorem dX15_wish_125 : decode cX15_wish 125 = .ok (.ifCond .ne 6, 3) := by decide +kernel
theorem dX15_wish_128 : decode cX15_wish 128 = .ok (.bipush 6, 2) := by decide +kernel
theorem dX15_wish_130 : decode cX15_wish 130 = .ok (.ireturn, 1) := by decide +kernel
theorem dX15_wish_131 : decode cX15_wish 131 = .ok (.aload_n 0, 1) := by decide +kernel
theorem dX15_wish_132 : decode cX15_wish 132 = .ok (.getfield 104, 3) := by decide +kernel
theorem dX15_wish_135 : decode cX15_wish 135 = .ok (.ldc_w 533, 3) := by decide +kernel
theorem dX15_wish_138 : decode cX15_wish 138 = .ok (.invokestatic 587, 3) := by decide +kernel
theorem dX15_wish_141 : decode cX15_wish 141 = .ok (.istore 4, 2) := by decide +kernel
theorem dX15_wish_143 : decode cX15_wish 143 = .ok (.iload 4, 2) := by decide +kernel
theorem dX15_wish_145 : decode cX15_wish 145 = .ok (.bipush 6, 2) := by decide +kernel
theorem dX15_wish_147 : decode cX15_wish 147 = .ok (.if_icmp .ne 6, 3) := by decide +kernel
theorem dX15_wish_150 : decode cX15_wish 150 = .ok (.bipush 6, 2) := by decide +kernel
theorem dX15_wish_152 : decode cX15_wish 152 = .ok (.ireturn, 1) := by decide +kernel
theorem dX15_wish_153 : decode cX15_wish 153 = .ok (.iload_n 2, 1) := by decide +kernel
theorem dX15_wish_154 : decode cX15_wish 154 = .ok (.ifCond .ne 38, 3) := by decide +kernel
theorem dX15_wish_157 : decode cX15_wish 157 = .ok (.aload_n 0, 1) := by decide +kernel
theorem dX15_wish_158 : decode cX15_wish 158 = .ok (.getfield 104, 3) := by decide +kernel
theorem dX15_wish_161 : decode cX15_wish 161 = .ok (.ldc_w 590, 3) := by decide +kernel
theorem dX15_wish_164 : decode cX15_wish 164 = .ok (.invokevirtual 399, 3) := by decide +kernel
theorem dX15_wish_167 : decode cX15_wish 167 = .ok (.ifCond .lt 25, 3) := by decide +kernel
theorem dX15_wish_170 : decode cX15_wish 170 = .ok (.aload_n 0, 1) := by decide +kernel
theorem dX15_wish_171 : decode cX15_wish 171 = .ok (.getfield 104, 3) := by decide +kernel
theorem dX15_wish_174 : decode cX15_wish 174 = .ok (.ldc_w 590, 3) := by decide +kernel
theorem dX15_wish_177 : decode cX15_wish 177 = .ok (.invokestatic 587, 3) := by decide +kernel
theorem dX15_wish_180 : decode cX15_wish 180 = .ok (.istore 4, 2) := by decide +kernel
theorem dX15_wish_182 : decode cX15_wish 182 = .ok (.iload 4, 2) := by decide +kernel
theorem dX15_wish_184 : decode cX15_wish 184 = .ok (.bipush 6, 2) := by decide +kernel
theorem dX15_wish_186 : decode cX15_wish 186 = .ok (.if_icmp .ne 6, 3) := by decide +kernel
theorem dX15_wish_189 : decode cX15_wish 189 = .ok (.bipush 6, 2) := by decide +kernel
theorem dX15_wish_191 : decode cX15_wish 191 = .ok (.ireturn, 1) := by decide +kernel
theorem dX15_wish_192 : decode cX15_wish 192 = .ok (.aload_n 0, 1) := by decide +kernel
theorem dX15_wish_193 : decode cX15_wish 193 = .ok (.invokevirtual 592, 3) := by decide +kernel
theorem dX15_wish_196 : decode cX15_wish 196 = .ok (.iconst 2, 1) := by decide +kernel
theorem dX15_wish_197 : decode cX15_wish 197 = .ok (.if_icmp .ne 33, 3) := by decide +kernel
theorem dX15_wish_200 : decode cX15_wish 200 = .ok (.aload_n 0, 1) := by decide +kernel
theorem dX15_wish_201 : decode cX15_wish 201 = .ok (.aload_n 0, 1) := by decide +kernel
theorem dX15_wish_202 : decode cX15_wish 202 = .ok (.getfield 61, 3) := by decide +kernel
theorem dX15_wish_205 : decode cX15_wish 205 = .ok (.aload_n 0, 1) := by decide +kernel
theorem dX15_wish_206 : decode cX15_wish 206 = .ok (.getfield 157, 3) := by decide +kernel
theorem dX15_wish_209 : decode cX15_wish 209 = .ok (.aload_n 0, 1) := by decide +kernel
theorem dX15_wish_210 : decode cX15_wish 210 = .ok (.getfield 104, 3) := by decide +kernel
theorem dX15_wish_213 : decode cX15_wish 213 = .ok (.ldc_w 595, 3) := by decide +kernel
theorem dX15_wish_216 : decode cX15_wish 216 = .ok (.ldc_w 460, 3) := by decide +kernel
theorem dX15_wish_219 : decode cX15_wish 219 = .ok (.invokevirtual 448, 3) := by decide +kernel
theorem dX15_wish_222 : decode cX15_wish 222 = .ok (.invokevirtual 597, 3) := by decide +kernel
theorem dX15_wish_225 : decode cX15_wish 225 = .ok (.ifCond .eq 5, 3) := by decide +kernel
theorem dX15_wish_228 : decode cX15_wish 228 = .ok (.iconst 2, 1) := by decide +kernel
theorem dX15_wish_229 : decode cX15_wish 229 = .ok (.ireturn, 1) := by decide +kernel
theorem dX15_wish_230 : decode cX15_wish 230 = .ok (.iconst 0, 1) := by decide +kernel
theorem dX15_wish_231 : decode cX15_wish 231 = .ok (.istore 5, 2) := by decide +kernel
theorem dX15_wish_233 : decode cX15_wish 233 = .ok (.iload 5, 2) := by decide +kernel
theorem dX15_wish_235 : decode cX15_wish 235 = .ok (.aload_n 0, 1) := by decide +kernel
theorem dX15_wish_236 : decode cX15_wish 236 = .ok (.getfield 355, 3) := by decide +kernel
theorem dX15_wish_239 : decode cX15_wish 239 = .ok (.if_icmp .ge 65, 3) := by decide +kernel
theorem dX15_wish_242 : decode cX15_wish 242 = .ok (.aload_n 0, 1) := by decide +kernel
theorem dX15_wish_243 : decode cX15_wish 243 = .ok (.iload 5, 2) := by decide +kernel
theorem dX15_wish_245 : decode cX15_wish 245 = .ok (.ldc_w 376, 3) := by decide +kernel
theorem dX15_wish_248 : decode cX15_wish 248 = .ok (.invokevirtual 378, 3) := by decide +kernel
theorem dX15_wish_251 : decode cX15_wish 251 = .ok (.ifCond .eq 47, 3) := by decide +kernel
theorem dX15_wish_254 : decode cX15_wish 254 = .ok (.aload_n 0, 1) := by decide +kernel
theorem dX15_wish_255 : decode cX15_wish 255 = .ok (.iload 5, 2) := by decide +kernel
theorem dX15_wish_257 : decode cX15_wish 257 = .ok (.iload_n 1, 1) := by decide +kernel
theorem dX15_wish_258 : decode cX15_wish 258 = .ok (.invokevirtual 504, 3) := by decide +kernel
theorem dX15_wish_261 : decode cX15_wish 261 = .ok (.iconst 2, 1) := by decide +kernel
theorem dX15_wish_262 : decode cX15_wish 262 = .ok (.if_icmp .eq 6, 3) := by decide +kernel
theorem dX15_wish_265 : decode cX15_wish 265 = .ok (.goto 33, 3) := by decide +kernel
theorem dX15_wish_268 : decode cX15_wish 268 = .ok (.aload_n 0, 1) := by decide +kernel
theorem dX15_wish_269 : decode cX15_wish 269 = .ok (.aload_n 0, 1) := by decide +kernel
theorem dX15_wish_270 : decode cX15_wish 270 = .ok (.getfield 147, 3) := by decide +kernel
theorem dX15_wish_273 : decode cX15_wish 273 = .ok (.aload_n 0, 1) := by decide +kernel
theorem dX15_wish_274 : decode cX15_wish 274 = .ok (.getfield 157, 3) := by decide +kernel
theorem dX15_wish_277 : decode cX15_wish 277 = .ok (.aload_n 0, 1) := by decide +kernel
theorem dX15_wish_278 : decode cX15_wish 278 = .ok (.getfield 104, 3) := by decide +kernel
theorem dX15_wish_281 : decode cX15_wish 281 = .ok (.ldc_w 601, 3) := by decide +kernel
theorem dX15_wish_284 : decode cX15_wish 284 = .ok (.ldc_w 460, 3) := by decide +kernel
theorem dX15_wish_287 : decode cX15_wish 287 = .ok (.invokevirtual 448, 3) := by decide +kernel
theorem dX15_wish_290 : decode cX15_wish 290 = .ok (.invokevirtual 597, 3) := by decide +kernel
theorem dX15_wish_293 : decode cX15_wish 293 = .ok (.ifCond .eq 5, 3) := by decide +kernel
theorem dX15_wish_296 : decode cX15_wish 296 = .ok (.iconst 2, 1) := by decide +kernel
theorem dX15_wish_297 : decode cX15_wish 297 = .ok (.ireturn, 1) := by decide +kernel
theorem dX15_wish_298 : decode cX15_wish 298 = .ok (.iinc 5 1, 3) := by decide +kernel
theorem dX15_wish_301 : decode cX15_wish 301 = .ok (.goto (-68), 3) := by decide +kernel
theorem dX15_wish_304 : decode cX15_wish 304 = .ok (.iload 4, 2) := by decide +kernel
theorem dX15_wish_306 : decode cX15_wish 306 = .ok (.ireturn, 1) := by decide +kernel
theorem kt_1188 : Cond.code yX15_isSeen cX15_isSeen 4 (some .boolean) ∈ tb := tb_at (i := 1868) (by decide +kernel) (by decide +kernel)
theorem kt_1189 : Cond.methodLink RX15 581 yX15_isSeen ∈ tb := tb_at (i := 1865) (by decide +kernel) (by decide +kernel)
theorem kt_1190 : Cond.instanceMethod yX15_isSeen ∈ tb := tb_at (i := 1867) (by decide +kernel) (by decide +kernel)
theorem kt_1191 : Cond.selects RX15 yX15_isSeen yX15_isSeen ∈ tb := tb_at (i := 77) (by decide +kernel) (by decide +kernel)
theorem kt_1192 : Cond.code yX15_wantedOf cX15_wantedOf 5 (some .int) ∈ tb := tb_at (i := 1877) (by decide +kernel) (by decide +kernel)
theorem kt_1193 : Cond.methodLink RX15 584 yX15_wantedOf ∈ tb := tb_at (i := 1874) (by decide +kernel) (by decide +kernel)
theorem kt_1194 : Cond.instanceMethod yX15_wantedOf ∈ tb := tb_at (i := 1876) (by decide +kernel) (by decide +kernel)
theorem kt_1195 : Cond.selects RX15 yX15_wantedOf yX15_wantedOf ∈ tb := tb_at (i := 78) (by decide +kernel) (by decide +kernel)
theorem kt_1196 : Cond.code yX15_wanted cX15_wanted 2 (some .int) ∈ tb := tb_at (i := 1882) (by decide +kernel) (by decide +kernel)
theorem kt_1197 : Cond.methodLink RX15 587 yX15_wanted ∈ tb := tb_at (i := 1880) (by decide +kernel) (by decide +kernel)
theorem kt_1198 : Cond.static yX15_wanted ∈ tb := tb_at (i := 1881) (by decide +kernel) (by decide +kernel)
theorem kt_1199 : Cond.code yX15_permission cX15_permission 1 (some .int) ∈ tb := tb_at (i := 1521) (by decide +kernel) (by decide +kernel)
theorem kt_1200 : Cond.methodLink RX15 592 yX15_permission ∈ tb := tb_at (i := 1887) (by decide +kernel) (by decide +kernel)
theorem kt_1201 : Cond.instanceMethod yX15_permission ∈ tb := tb_at (i := 1519) (by decide +kernel) (by decide +kernel)
theorem kt_1202 : Cond.selects RX15 yX15_permission yX15_permission ∈ tb := tb_at (i := 1520) (by decide +kernel) (by decide +kernel)
theorem kt_1203 : Cond.code yX15_isAligned cX15_isAligned 4 (some .boolean) ∈ tb := tb_at (i := 1892) (by decide +kernel) (by decide +kernel)
theorem kt_1204 : Cond.methodLink RX15 597 yX15_isAligned ∈ tb := tb_at (i := 1889) (by decide +kernel) (by decide +kernel)
theorem kt_1205 : Cond.instanceMethod yX15_isAligned ∈ tb := tb_at (i := 1891) (by decide +kernel) (by decide +kernel)
theorem kt_1206 : Cond.selects RX15 yX15_isAligned yX15_isAligned ∈ tb := tb_at (i := 79) (by decide +kernel) (by decide +kernel)
def hgr (gp : Option (Nat × Nat)) (hg : Nat) : Nat := match gp with
  | none => hg
  | some _ => 1
def gcr (gp : Option (Nat × Nat)) (gc : Nat) : Nat := match gp with
  | none => gc
  | some p => p.1
def gvr (gp : Option (Nat × Nat)) (gv : Nat) : Nat := match gp with
  | none => gv
  | some p => p.2
set_option maxHeartbeats 4000000 in
set_option maxRecDepth 100000 in
theorem s_X15_permission_c (l : Launch) (dC : Nat → ClassId) (dI : Nat → Nat → Nat) (cs : Nat → ClassId) (ty : TyM) (gm : Nat → Nat → Nat) (L : List Nat) (sz : Nat) (F : Nat → va_E) (h0 : Nat) (ρ : Nat) (ta : Nat) (ou : Nat) (so : Nat) (ad : Nat) (na : Nat) (va : Nat) (lc : Nat) (dm : Nat) (tg : Nat) (pe : Nat) (ml : Nat) (bg : Nat) (co : Nat) (sp : Nat) (nb0 : Nat) (nb1 : Nat) (nb2 : Nat) (pl : Nat) (se : Nat) (ke : Nat) (wi : Nat) (hs : Nat) (mo : Nat) (po : Nat) (nu : Nat) (pr : Nat) (sq : Nat) (xa : Nat) (sa : Nat) (n64 : Nat) (m64 : Nat) (ex : Nat) (wh : Nat) (sd : Nat) (tk : Nat) (hd : Nat) (ak : Nat) (ho : Nat) (ot : Nat) (sx : Nat) (s0 : Nat) (s1 : Nat) (s2 : Nat) (nf : Nat) (bd : Nat) (mm : Nat) (fm : Nat) (sn : Nat) (hg : Nat) (gc : Nat) (gv : Nat) (ze : Nat) (zt : Nat) (rp : Nat) (D : Nat → ETY) (LC : List Nat) (DN : List Nat) (hW : WTm ty gm L) (hL_h0 : h0 ∈ L) (hT_h0 : ty h0 = (15, ρ, [ta, ou, so, ad, na, va, lc, dm, tg, pe, ml, bg, co, sp, nb0, nb1, nb2, pl, se, ke, wi, hs, mo, po, nu, pr, sq, xa, sa, n64, m64, ex, wh, sd, tk, hd, ak, ho, ot, sx, s0, s1, s2, nf, bd, mm, fm, sn, hg, gc, gv, ze, zt])) (hL_pe : pe ∈ L) (hT_pe : ty pe = (14, ρ + 7, [rp, 100])) (hDM : DIRM cs F so ad na va ze D) (hVN : ∀ k, k < ze → (D k).1 = 2 → SRC (vlL (D k)) (D k).2.2.2.2.1 (D k).2.2.2.2.2 ∧ (D k).2.2.2.2.1 ≤ 60) (hSN : (sn = 0 ∨ (TXM cs F lc 30 LC ∧ TXM cs F dm 60 DN))) : Met l yX15_permission (.code yX15_permission cX15_permission 1 (some .int) :: tb) ({ frames := 78, cells := 0, slots := 0, locals := 1767 }) (va_Pc [.ref h0] (PTEm (dC, dI) cs ty gm L F sz [])) (va_Qi (fun (r : Int32) (gp : Option (Nat × Nat)) => ((sn = 0 ∧ r = (-1) ∧ gp = none) ∨ (¬ sn = 0 ∧ r = nI (CHW D ze (sdM LC DN (nI fm)) (nI fm) 11 DN 0 0).1 ∧ gp = some (CHW D ze (sdM LC DN (nI fm)) (nI fm) 11 DN 0 0).2))) (fun (gp : Option (Nat × Nat)) T9 => ∃ F2 : Nat → va_E, ∃ ty2 : TyM, ty2 = rtf ty h0 (15, ρ, [ta, ou, so, ad, na, va, lc, dm, tg, pe, ml, bg, co, sp, nb0, nb1, nb2, pl, se, ke, wi, hs, mo, po, nu, pr, sq, xa, sa, n64, m64, ex, wh, sd, tk, hd, ak, ho, ot, sx, s0, s1, s2, nf, bd, mm, fm, sn, (hgr gp hg), (gcr gp gc), (gvr gp gv), ze, zt]) ∧ QTm (dC, dI) cs ty2 gm L (tgS ρ 0) F F2 (va_A (va_pl L F) sz) T9 ∧ WTm ty2 gm L) (va_A (va_pl L F) sz)) 0 0 (va_A (va_pl L F) sz) := by
  refine Met.ofW (cc := cX15_permission) (maxL := 1) (ret := (some .int)) (by decide) rfl ?_
  intro p e s m args below meth c s₁ B hml hv
  obtain ⟨rfl, ⟨hsz, hP, hK, hD0, hE, hO⟩, hG, hX⟩ := hv
  have hx := B.exec
  have hb := B.bytes
  have hr := B.returns
  have hts : ∀ w ∈ tb, w.before _ s = true := fun w h => atoms_spec (ws := .code yX15_permission cX15_permission 1 (some .int) :: tb) B.pre w (List.mem_cons_of_mem _ h)
  have hown : s.vm.findClass RX15 = some m.cls := findClass_of_methodNamed B.named
  have hlocks := B.notSynchronized
  subst hsz
  have hD := hD0.self (sz := s.heap.size)
  generalize hAe : va_A (va_pl L F) s.heap.size = A at hD hG hX ⊢
  have hA : ∀ q : Nat, s.heap.size ≤ q → A q := fun q h => by rw [← hAe]; exact Or.inr h
  have hS : va_S A s.heap s.heap [] := va_S.rf
  have hR : FR ty (tgS ρ 0) F F := FR.refl
  have hl := lv_entry ([.ref h0]) (n := 1) (Nat.le_of_ble_eq_true rfl)
  rw [lg_entry_eq]
  generalize (lg_sl ([.ref h0]) ++ List.replicate (1 - (lg_sl ([.ref h0])).length) Slot.unset).toArray = ls at hl ⊢
  have hl : lv_has ls 1 [(0, .ref h0)] := hl
  obtain ⟨hq_22, hq_23, hq_24, hq_25, hq_26, hgO, hgA, hgB, hq_27⟩ := hW.sc hL_h0 hT_h0
  obtain ⟨zo_28, v14_29, v15_30, v17_31, v18_32, v19_33, v20_34, v21_35, v22_36, v33_37, v52_38, v53_39, v54_40, hF_41, hq_42, hq_43, hq_44, hq_45, hq_46⟩ := hO.mod hL_h0 hT_h0
  obtain ⟨hi_47, ht_48, hq_49⟩ := hW.txt hL_pe hT_pe
  refine lv_aload_n hx hb dX15_permission_0 rfl (lv_at hl 0 rfl) ?_
  refine pg_get (ci := 15) (v := .int (nI sn)) (C := RX15) (T := TX15) (N := 59) hx hb hts it_15 hown hK hP hL_h0 hF_41 rfl 12 (by decide) (hts _ kt_1187) (fun _ h9 => h9) rfl dX15_permission_1 ?_
  refine lv_if_ne (tgt := 9) hx hb dX15_permission_4 (by decide) (fun c_50 => ?_) (fun c_50 => ?_)
  ·
    have hi_51 : sn ≠ 0 := fun q => c_50 (by rw [q]; rfl)
    have hs0 : ¬ sn = 0 := fun q => c_50 (by rw [q]; rfl)
    obtain ⟨hLC, hDN⟩ := hSN.resolve_left hs0
    have hTo := hT_h0
    obtain ⟨ty, hty, hT_h0, hW, hO, hR⟩ : ∃ t9 : TyM, t9 = rtf ty h0 (15, ρ, [ta, ou, so, ad, na, va, lc, dm, tg, pe, ml, bg, co, sp, nb0, nb1, nb2, pl, se, ke, wi, hs, mo, po, nu, pr, sq, xa, sa, n64, m64, ex, wh, sd, tk, hd, ak, ho, ot, sx, s0, s1, s2, nf, bd, mm, fm, sn, 0, gc, gv, ze, zt]) ∧ t9 h0 = (15, ρ, [ta, ou, so, ad, na, va, lc, dm, tg, pe, ml, bg, co, sp, nb0, nb1, nb2, pl, se, ke, wi, hs, mo, po, nu, pr, sq, xa, sa, n64, m64, ex, wh, sd, tk, hd, ak, ho, ot, sx, s0, s1, s2, nf, bd, mm, fm, sn, 0, gc, gv, ze, zt]) ∧ WTm t9 gm L ∧ OKm cs t9 gm L F ∧ FR t9 (tgS ρ 0) F F := ⟨_, rfl, rtf_self, hW.hcv hL_h0 hT_h0, OKm.retype0 hO hT_h0 (by rw [hF_41]; exact shm.mod rtf_self ⟨zo_28, v14_29, v15_30, v17_31, v18_32, v19_33, v20_34, v21_35, v22_36, v33_37, v52_38, v53_39, v54_40, rfl, (by first | omega | assumption | exact Or.inl rfl | exact Or.inr rfl | exact Or.inr ⟨rfl, rfl⟩), (by first | omega | assumption | exact Or.inl rfl | exact Or.inr rfl | exact Or.inr ⟨rfl, rfl⟩), (by first | omega | assumption | exact Or.inl rfl | exact Or.inr rfl | exact Or.inr ⟨rfl, rfl⟩), (by first | omega | assumption | exact Or.inl rfl | exact Or.inr rfl | exact Or.inr ⟨rfl, rfl⟩), (by first | omega | assumption | exact Or.inl rfl | exact Or.inr rfl | exact Or.inr ⟨rfl, rfl⟩)⟩), FR.retype hT_h0 hR⟩
    obtain ⟨hq_74, hq_75, hq_76, hq_77, hq_78, hgO, hgA, hgB, hq_79⟩ := hW.sc hL_h0 hT_h0
    have hT2_pe : ty pe = (14, ρ + 7, [rp, 100]) := by rw [hty]; exact rtf_tr hTo (by decide) hT_pe
    have htyA := hty
    obtain ⟨hi_80, ht_81, hq_82⟩ := hW.txt hL_pe hT2_pe
    have hO0 := hO
    obtain ⟨hLs0, hTs0⟩ := hW.f_so hL_h0 hT_h0
    obtain ⟨hLd0, hTd0⟩ := hW.f_ad hL_h0 hT_h0
    obtain ⟨hLn0, hTn0⟩ := hW.f_na hL_h0 hT_h0
    obtain ⟨hLv0, hTv0⟩ := hW.f_va hL_h0 hT_h0
    refine lv_aload_n hx hb dX15_permission_9 rfl (lv_at hl 0 rfl) ?_
    refine lv_iconst (v := 0) hx hb dX15_permission_10 (by decide) ?_
    refine pg_put (ci := 15) (v := .int 0) (ty := .int) (C := RX15) (T := TX15) (N := 59) hx hb hts it_15 tyX15 tyX15_ok nmX15 hown hK hP hD hS hL_h0 hF_41 rfl 14 (by decide) (hts _ kt_731) (fun _ h9 => h9) rfl (by decide +kernel) (rfl) (rfl) (Nat.le_of_ble_eq_true rfl) dX15_permission_11 (fun H locs hP hD hS => ?_)
    obtain ⟨F_83, he_84, hP, hD, hO, hR⟩ : ∃ G, G = va_up F h0 (.inr (15, (.ref ta) :: (.int (nI zt)) :: (.int (nI zo_28)) :: (.int (nI ze)) :: (.ref ou) :: (.ref so) :: (.ref ad) :: (.ref na) :: (.ref va) :: (.ref lc) :: (.ref dm) :: (.int (nI fm)) :: (.int (nI sn)) :: (.ref tg) :: (.int 0) :: (.int v15_30) :: (.ref pe) :: (.int v17_31) :: (.int v18_32) :: (.int v19_33) :: (.int v20_34) :: (.int v21_35) :: (.int v22_36) :: (.ref ml) :: (.ref bg) :: (.ref co) :: (.ref sp) :: (.ref nb0) :: (.ref nb1) :: (.ref nb2) :: (.int (nI nf)) :: (.int (nI bd)) :: (.int (nI mm)) :: (.int v33_37) :: (.ref pl) :: (.ref se) :: (.ref ke) :: (.ref wi) :: (.ref hs) :: (.ref mo) :: (.ref po) :: (.ref nu) :: (.ref pr) :: (.ref sq) :: (.ref xa) :: (.ref sa) :: (.ref n64) :: (.ref m64) :: (.ref ex) :: (.ref wh) :: (.ref sd) :: (.ref tk) :: (.int v52_38) :: (.int v53_39) :: (.int v54_40) :: (.ref hd) :: (.ref ak) :: (.ref ho) :: (.ref ot) :: [])) ∧ va_P (dC, dI) vwCl (va_pl L G) H ∧ va_D A (va_pl L G) ∧ OKm cs ty gm L G ∧ FR ty (tgS ρ 0) F G := ⟨_, rfl, hP, hD, hO.up (shm.mod hT_h0 ⟨zo_28, 0, v15_30, v17_31, v18_32, v19_33, v20_34, v21_35, v22_36, v33_37, v52_38, v53_39, v54_40, rfl, (by first | omega | assumption | exact Or.inl rfl | exact Or.inr rfl), (by first | omega | assumption | exact Or.inl rfl | exact Or.inr rfl), (by first | omega | assumption | exact Or.inl rfl | exact Or.inr rfl), (by first | omega | assumption | exact Or.inl rfl | exact Or.inr rfl), (by first | omega | assumption | exact Or.inl rfl | exact Or.inr rfl)⟩), hR.up hT_h0 (by first | (simp only [mem_tgS, List.mem_append, List.mem_cons, List.not_mem_nil, or_false]; omega) | simp [mem_tgS])⟩
    have hF_85 : F_83 h0 = .inr (15, (.ref ta) :: (.int (nI zt)) :: (.int (nI zo_28)) :: (.int (nI ze)) :: (.ref ou) :: (.ref so) :: (.ref ad) :: (.ref na) :: (.ref va) :: (.ref lc) :: (.ref dm) :: (.int (nI fm)) :: (.int (nI sn)) :: (.ref tg) :: (.int 0) :: (.int v15_30) :: (.ref pe) :: (.int v17_31) :: (.int v18_32) :: (.int v19_33) :: (.int v20_34) :: (.int v21_35) :: (.int v22_36) :: (.ref ml) :: (.ref bg) :: (.ref co) :: (.ref sp) :: (.ref nb0) :: (.ref nb1) :: (.ref nb2) :: (.int (nI nf)) :: (.int (nI bd)) :: (.int (nI mm)) :: (.int v33_37) :: (.ref pl) :: (.ref se) :: (.ref ke) :: (.ref wi) :: (.ref hs) :: (.ref mo) :: (.ref po) :: (.ref nu) :: (.ref pr) :: (.ref sq) :: (.ref xa) :: (.ref sa) :: (.ref n64) :: (.ref m64) :: (.ref ex) :: (.ref wh) :: (.ref sd) :: (.ref tk) :: (.int v52_38) :: (.int v53_39) :: (.int v54_40) :: (.ref hd) :: (.ref ak) :: (.ref ho) :: (.ref ot) :: []) := by rw [he_84]; exact up_self
    refine lv_aload_n hx hb dX15_permission_14 rfl (lv_at hl 0 rfl) ?_
    refine lv_iconst (v := 0) hx hb dX15_permission_15 (by decide) ?_
    refine pg_put (ci := 15) (v := .int 0) (ty := .int) (C := RX15) (T := TX15) (N := 59) hx hb hts it_15 tyX15 tyX15_ok nmX15 hown hK hP hD hS hL_h0 hF_85 rfl 15 (by decide) (hts _ kt_730) (fun _ h9 => h9) rfl (by decide +kernel) (rfl) (rfl) (Nat.le_of_ble_eq_true rfl) dX15_permission_16 (fun H locs hP hD hS => ?_)
    obtain ⟨F_86, he_87, hP, hD, hO, hR⟩ : ∃ G, G = va_up F_83 h0 (.inr (15, (.ref ta) :: (.int (nI zt)) :: (.int (nI zo_28)) :: (.int (nI ze)) :: (.ref ou) :: (.ref so) :: (.ref ad) :: (.ref na) :: (.ref va) :: (.ref lc) :: (.ref dm) :: (.int (nI fm)) :: (.int (nI sn)) :: (.ref tg) :: (.int 0) :: (.int 0) :: (.ref pe) :: (.int v17_31) :: (.int v18_32) :: (.int v19_33) :: (.int v20_34) :: (.int v21_35) :: (.int v22_36) :: (.ref ml) :: (.ref bg) :: (.ref co) :: (.ref sp) :: (.ref nb0) :: (.ref nb1) :: (.ref nb2) :: (.int (nI nf)) :: (.int (nI bd)) :: (.int (nI mm)) :: (.int v33_37) :: (.ref pl) :: (.ref se) :: (.ref ke) :: (.ref wi) :: (.ref hs) :: (.ref mo) :: (.ref po) :: (.ref nu) :: (.ref pr) :: (.ref sq) :: (.ref xa) :: (.ref sa) :: (.ref n64) :: (.ref m64) :: (.ref ex) :: (.ref wh) :: (.ref sd) :: (.ref tk) :: (.int v52_38) :: (.int v53_39) :: (.int v54_40) :: (.ref hd) :: (.ref ak) :: (.ref ho) :: (.ref ot) :: [])) ∧ va_P (dC, dI) vwCl (va_pl L G) H ∧ va_D A (va_pl L G) ∧ OKm cs ty gm L G ∧ FR ty (tgS ρ 0) F G := ⟨_, rfl, hP, hD, hO.up (shm.mod hT_h0 ⟨zo_28, 0, 0, v17_31, v18_32, v19_33, v20_34, v21_35, v22_36, v33_37, v52_38, v53_39, v54_40, rfl, (by first | omega | assumption | exact Or.inl rfl | exact Or.inr rfl), (by first | omega | assumption | exact Or.inl rfl | exact Or.inr rfl), (by first | omega | assumption | exact Or.inl rfl | exact Or.inr rfl), (by first | omega | assumption | exact Or.inl rfl | exact Or.inr rfl), (by first | omega | assumption | exact Or.inl rfl | exact Or.inr rfl)⟩), hR.up hT_h0 (by first | (simp only [mem_tgS, List.mem_append, List.mem_cons, List.not_mem_nil, or_false]; omega) | simp [mem_tgS])⟩
    have hF_88 : F_86 h0 = .inr (15, (.ref ta) :: (.int (nI zt)) :: (.int (nI zo_28)) :: (.int (nI ze)) :: (.ref ou) :: (.ref so) :: (.ref ad) :: (.ref na) :: (.ref va) :: (.ref lc) :: (.ref dm) :: (.int (nI fm)) :: (.int (nI sn)) :: (.ref tg) :: (.int 0) :: (.int 0) :: (.ref pe) :: (.int v17_31) :: (.int v18_32) :: (.int v19_33) :: (.int v20_34) :: (.int v21_35) :: (.int v22_36) :: (.ref ml) :: (.ref bg) :: (.ref co) :: (.ref sp) :: (.ref nb0) :: (.ref nb1) :: (.ref nb2) :: (.int (nI nf)) :: (.int (nI bd)) :: (.int (nI mm)) :: (.int v33_37) :: (.ref pl) :: (.ref se) :: (.ref ke) :: (.ref wi) :: (.ref hs) :: (.ref mo) :: (.ref po) :: (.ref nu) :: (.ref pr) :: (.ref sq) :: (.ref xa) :: (.ref sa) :: (.ref n64) :: (.ref m64) :: (.ref ex) :: (.ref wh) :: (.ref sd) :: (.ref tk) :: (.int v52_38) :: (.int v53_39) :: (.int v54_40) :: (.ref hd) :: (.ref ak) :: (.ref ho) :: (.ref ot) :: []) := by rw [he_87]; exact up_self
    refine lv_aload_n hx hb dX15_permission_19 rfl (lv_at hl 0 rfl) ?_
    refine lv_aload_n hx hb dX15_permission_20 rfl (lv_at hl 0 rfl) ?_
    refine pg_get (ci := 15) (v := .ref dm) (C := RX15) (T := TX15) (N := 59) hx hb hts it_15 hown hK hP hL_h0 hF_88 rfl 10 (by decide) (hts _ kt_1130) (fun _ h9 => h9) rfl dX15_permission_21 ?_
    refine lv_iconst (v := 0) hx hb dX15_permission_24 (by decide) ?_
    have hQso := hR so (by rw [hTs0]; simp only [mem_tgS, List.mem_append, List.mem_cons, List.not_mem_nil, or_false]; omega)
    have hQad := hR ad (by rw [hTd0]; simp only [mem_tgS, List.mem_append, List.mem_cons, List.not_mem_nil, or_false]; omega)
    have hQna := hR na (by rw [hTn0]; simp only [mem_tgS, List.mem_append, List.mem_cons, List.not_mem_nil, or_false]; omega)
    have hQva := hR va (by rw [hTv0]; simp only [mem_tgS, List.mem_append, List.mem_cons, List.not_mem_nil, or_false]; omega)
    have hDM5 := DIRM.fr hDM hO0 hW hLn0 hTn0 hLv0 hTv0 (by omega) hR hQso hQad hQna hQva (fun k hk => ⟨by simp only [mem_tgS, List.mem_append, List.mem_cons, List.not_mem_nil, or_false]; omega, by simp only [mem_tgS, List.mem_append, List.mem_cons, List.not_mem_nil, or_false]; omega⟩)
    obtain ⟨hi_89, r_52, ht_90⟩ := hW.f_lc hL_h0 hT_h0
    have hLC5 := hLC.fr hO0 hW hi_89 ht_90 hR (by simp only [mem_tgS, List.mem_append, List.mem_cons, List.not_mem_nil, or_false]; omega)
    obtain ⟨hi_91, r_53, ht_92⟩ := hW.f_dm hL_h0 hT_h0
    have hDN5 := hDN.fr hO0 hW hi_91 ht_92 hR (by simp only [mem_tgS, List.mem_append, List.mem_cons, List.not_mem_nil, or_false]; omega)
    obtain ⟨hi_93, ht_94, hq_95⟩ := hW.txt hi_91 ht_92
    obtain ⟨zm, fm9, hm1, hm2, hm3, hm4⟩ := hDN5.get hO hi_91 ht_92
    obtain ⟨hq_96, hq_97⟩ := hW.octs hi_93 ht_94
    have hFc := pg_free hD hS hA
    refine va_calli (va_runV (As := [.ref dm, .int 0]) (rest := []) ⟨hx, hb, hml, hown, hts⟩ (s_X15_check0_x l dC dI cs ty gm L H.size F_86 h0 ρ ta ou so ad na va lc dm tg pe ml bg co sp nb0 nb1 nb2 pl se ke wi hs mo po nu pr sq xa sa n64 m64 ex wh sd tk hd ak ho ot sx s0 s1 s2 nf bd mm fm sn gc gv ze zt rp zo_28 v17_31 v18_32 v19_33 v20_34 v21_35 v22_36 v33_37 v52_38 v53_39 v54_40 dm (ρ + 32) r_53 60 zm fm9 DN D LC DN hW hL_h0 hT_h0 hL_pe hT2_pe hi_91 ht_92 hF_88 (by first | omega | assumption | exact Or.inl rfl) (by first | omega | assumption | exact Or.inl rfl) (by first | omega | assumption | exact Or.inl rfl) (by first | omega | assumption | exact Or.inl rfl) hm1 hm2 (hm4) (tgm_of hm3 (by omega)) (hDM5) (hLC5) (hDN5) (hDN.a8) (by omega) (rfl) (hVN)) ⟨callB_of 2 hts (gi kt_1160) rfl rfl rfl (hts _ kt_669) (hts _ kt_1161) (by decide +kernel) ⟨Nat.le_of_ble_eq_true rfl, Nat.le_of_ble_eq_true rfl⟩, (hts _ kt_1162), (hts _ kt_1163)⟩ ⟨fun a U g mk q => ⟨q.1, PTEm.calling q.2⟩, pg_recv hK hP hL_h0 hF_88 (q := (RX15, TX15, 59)) rfl, fun U hU hWm => ⟨rfl, PTEm.mk hU hWm hP hK hD hE hO hG (fun x hx => absurd hx List.not_mem_nil) hS hFc⟩⟩ rfl rfl hl.1 rfl (lv_room (Nat.le_of_ble_eq_true rfl)) dX15_permission_25 ⟨by show _ + 0 ≤ 0; omega, by show _ + 0 ≤ 0; omega⟩) hS (fun q _ h => hFc q h) hFc (fun r_99 gp_98 t H1 locs ht hvm hw hB hz1 hk1 hS => ?_)
    obtain ⟨F_100, u17_101, u18_102, u19_103, u20_104, u21_105, u22_106, hB1, hq_107⟩ := hB
    obtain ⟨hP, hD, hO, hR⟩ := QTm.back hB1 ht hFc hR (fun q h => by simp only [mem_tgS, List.mem_append, List.mem_cons, List.not_mem_nil, or_false] at h ⊢; omega)
    have hF_108 : F_100 dm = .inr (14, [.ref r_53, .int (nI zm)]) := (hB1.2.2.2 dm (by rw [ht_92]; simp only [mem_tgS, List.mem_append, List.mem_cons, List.not_mem_nil, or_false]; omega)).trans hm1
    have hF_109 : F_100 r_53 = .inl (cs 17, 60, .inl fm9) := (hB1.2.2.2 r_53 (by rw [ht_94]; simp only [mem_tgS, List.mem_append, List.mem_cons, List.not_mem_nil, or_false]; omega)).trans hm2
    generalize H1 = H at hP hS ⊢
    have hw : (r_99 = nI (CHW D ze (sdM LC DN (nI fm)) (nI fm) 11 DN 0 0).1 ∧ gp_98 = (CHW D ze (sdM LC DN (nI fm)) (nI fm) 11 DN 0 0).2) := hw
    have hw_110 := hw
    have hTo := hT_h0
    obtain ⟨ty, hty, hT_h0, hW, hO, hR⟩ : ∃ t9 : TyM, t9 = rtf ty h0 (15, ρ, [ta, ou, so, ad, na, va, lc, dm, tg, pe, ml, bg, co, sp, nb0, nb1, nb2, pl, se, ke, wi, hs, mo, po, nu, pr, sq, xa, sa, n64, m64, ex, wh, sd, tk, hd, ak, ho, ot, sx, s0, s1, s2, nf, bd, mm, fm, sn, 1, gp_98.1, gp_98.2, ze, zt]) ∧ t9 h0 = (15, ρ, [ta, ou, so, ad, na, va, lc, dm, tg, pe, ml, bg, co, sp, nb0, nb1, nb2, pl, se, ke, wi, hs, mo, po, nu, pr, sq, xa, sa, n64, m64, ex, wh, sd, tk, hd, ak, ho, ot, sx, s0, s1, s2, nf, bd, mm, fm, sn, 1, gp_98.1, gp_98.2, ze, zt]) ∧ WTm t9 gm L ∧ OKm cs t9 gm L F_100 ∧ FR t9 (tgS ρ 0) F F_100 := ⟨_, rfl, rtf_self, hW.hcv hL_h0 hT_h0, OKm.retype0 hO hT_h0 (by rw [hq_107]; exact shm.mod rtf_self ⟨zo_28, (nI gp_98.1), (nI gp_98.2), u17_101, u18_102, u19_103, u20_104, u21_105, u22_106, v33_37, v52_38, v53_39, v54_40, rfl, (by first | omega | assumption | exact Or.inl rfl | exact Or.inr rfl | exact Or.inr ⟨rfl, rfl⟩), (by first | omega | assumption | exact Or.inl rfl | exact Or.inr rfl | exact Or.inr ⟨rfl, rfl⟩), (by first | omega | assumption | exact Or.inl rfl | exact Or.inr rfl | exact Or.inr ⟨rfl, rfl⟩), (by first | omega | assumption | exact Or.inl rfl | exact Or.inr rfl | exact Or.inr ⟨rfl, rfl⟩), (by first | omega | assumption | exact Or.inl rfl | exact Or.inr rfl | exact Or.inr ⟨rfl, rfl⟩)⟩), FR.retype hT_h0 hR⟩
    obtain ⟨hq_133, hq_134, hq_135, hq_136, hq_137, hgO, hgA, hgB, hq_138⟩ := hW.sc hL_h0 hT_h0
    have htyB := hty
    refine W.widen (k := 0) (n := 0) (by omega) (by omega) ?_
    exact W.iret (v := r_99) hx hb hr (fun t ht hWm => ⟨⟨r_99, (some gp_98), rfl, (Or.inr ⟨hs0, hw_110.1, congrArg some hw_110.2⟩), ⟨F_100, ty, (by rw [htyB, htyA, rtf_rtf2]; rfl), QTm.mk ht hP hD hO hR, hW⟩⟩, hS.F ht⟩) hS.2.2 dX15_permission_28
  ·
    have hi_139 : sn = 0 := (nI_eq (a := sn) (b := 0) (by omega) (by omega)).mp c_50
    have hs0 : sn = 0 := (nI_eq (b := 0) (by omega) (by omega)).mp c_50
    refine lv_iconst (v := (-1)) hx hb dX15_permission_7 (by decide) ?_
    refine W.widen (k := 0) (n := 0) (by omega) (by omega) ?_
    exact W.iret (v := (-1)) hx hb hr (fun t ht hWm => ⟨⟨(-1), none, rfl, (Or.inl ⟨hs0, rfl, rfl⟩), ⟨F, ty, (rtf_idw hT_h0), QTm.mk ht hP hD hO hR, hW⟩⟩, hS.F ht⟩) hS.2.2 dX15_permission_8
set_option maxHeartbeats 4000000 in
set_option maxRecDepth 100000 in
theorem s_X15_cost_x (l : Launch) (dC : Nat → ClassId) (dI : Nat → Nat → Nat) (cs : Nat → ClassId) (ty : TyM) (gm : Nat → Nat → Nat) (L : List Nat) (sz : Nat) (F : Nat → va_E) (h0 : Nat) (ρ : Nat) (ta : Nat) (ou : Nat) (so : Nat) (ad : Nat) (na : Nat) (va : Nat) (lc : Nat) (dm : Nat) (tg : Nat) (pe : Nat) (ml : Nat) (bg : Nat) (co : Nat) (sp : Nat) (nb0 : Nat) (nb1 : Nat) (nb2 : Nat) (pl : Nat) (se : Nat) (ke : Nat) (wi : Nat) (hs : Nat) (mo : Nat) (po : Nat) (nu : Nat) (pr : Nat) (sq : Nat) (xa : Nat) (sa : Nat) (n64 : Nat) (m64 : Nat) (ex : Nat) (wh : Nat) (sd : Nat) (tk : Nat) (hd : Nat) (ak : Nat) (ho : Nat) (ot : Nat) (sx : Nat) (s0 : Nat) (s1 : Nat) (s2 : Nat) (nf : Nat) (bd : Nat) (mm : Nat) (fm : Nat) (sn : Nat) (hg : Nat) (gc : Nat) (gv : Nat) (ze : Nat) (zt : Nat) (x1 : Int32) (hW : WTm ty gm L) (hL_h0 : h0 ∈ L) (hT_h0 : ty h0 = (15, ρ, [ta, ou, so, ad, na, va, lc, dm, tg, pe, ml, bg, co, sp, nb0, nb1, nb2, pl, se, ke, wi, hs, mo, po, nu, pr, sq, xa, sa, n64, m64, ex, wh, sd, tk, hd, ak, ho, ot, sx, s0, s1, s2, nf, bd, mm, fm, sn, hg, gc, gv, ze, zt])) (hhg : hg = 1) : Met l yX15_cost (.code yX15_cost cX15_cost 2 (some .int) :: tb) ({ frames := 0, cells := 0, slots := 0, locals := 0 }) (va_Pc [.ref h0, .int x1] (PTm (dC, dI) cs ty gm L F sz)) (va_Qi (fun (r : Int32) (_ : Unit) => r = (if x1 = 0 then nI gc else if x1 = 1 then nI gv else (-1))) (fun _ T9 => ∃ F2 : Nat → va_E, QTm (dC, dI) cs ty gm L [] F F2 (va_A (va_pl L F) sz) T9) (va_A (va_pl L F) sz)) 0 0 (va_A (va_pl L F) sz) := by
  refine Met.ofW (cc := cX15_cost) (maxL := 2) (ret := (some .int)) (by decide) rfl ?_
  intro p e s m args below meth c s₁ B hml hv
  obtain ⟨rfl, hsz, hP, hK, hD0, hE, hO⟩ := hv
  have hx := B.exec
  have hb := B.bytes
  have hr := B.returns
  have hts : ∀ w ∈ tb, w.before _ s = true := fun w h => atoms_spec (ws := .code yX15_cost cX15_cost 2 (some .int) :: tb) B.pre w (List.mem_cons_of_mem _ h)
  have hown : s.vm.findClass RX15 = some m.cls := findClass_of_methodNamed B.named
  have hlocks := B.notSynchronized
  subst hsz
  have hD := hD0.self (sz := s.heap.size)
  generalize hAe : va_A (va_pl L F) s.heap.size = A at hD ⊢
  have hA : ∀ q : Nat, s.heap.size ≤ q → A q := fun q h => by rw [← hAe]; exact Or.inr h
  have hS : va_S A s.heap s.heap [] := va_S.rf
  have hR : FR ty [] F F := FR.refl
  have hl := lv_entry ([.ref h0, .int x1]) (n := 2) (Nat.le_of_ble_eq_true rfl)
  rw [lg_entry_eq]
  generalize (lg_sl ([.ref h0, .int x1]) ++ List.replicate (2 - (lg_sl ([.ref h0, .int x1])).length) Slot.unset).toArray = ls at hl ⊢
  have hl : lv_has ls 2 [(0, .ref h0), (1, .int x1)] := hl
  obtain ⟨hq_23, hq_24, hq_25, hq_26, hq_27, hgO, hgA, hgB, hq_28⟩ := hW.sc hL_h0 hT_h0
  obtain ⟨zo_29, v14_30, v15_31, v17_32, v18_33, v19_34, v20_35, v21_36, v22_37, v33_38, v52_39, v53_40, v54_41, hF_42, hq_43, hq_44, hq_45, hq_46, hq_47⟩ := hO.mod hL_h0 hT_h0
  obtain ⟨hcv1, hcv2⟩ := hq_47.resolve_left (by omega)
  refine lv_iload_n hx hb dX15_cost_0 rfl (lv_at hl 1 rfl) ?_
  refine lv_if_ne (tgt := 11) hx hb dX15_cost_1 (by decide) (fun c_48 => ?_) (fun c_48 => ?_)
  ·
    refine lv_iload_n hx hb dX15_cost_11 rfl (lv_at hl 1 rfl) ?_
    refine lv_iconst (v := 1) hx hb dX15_cost_12 (by decide) ?_
    refine lv_icmp_ne (tgt := 23) hx hb dX15_cost_13 (by decide) (fun c_49 => ?_) (fun c_49 => ?_)
    ·
      refine lv_iconst (v := (-1)) hx hb dX15_cost_23 (by decide) ?_
      refine W.widen (k := 0) (n := 0) (by omega) (by omega) ?_
      exact W.iret (v := (-1)) hx hb hr (fun t ht hWm => ⟨⟨(-1), (), rfl, (by rw [if_neg c_48, if_neg c_49]), ⟨F, QTm.mk ht hP hD hO hR⟩⟩, hS.F ht⟩) hS.2.2 dX15_cost_24
    ·
      refine lv_aload_n hx hb dX15_cost_16 rfl (lv_at hl 0 rfl) ?_
      refine pg_get (ci := 15) (v := .int v15_31) (C := RX15) (T := TX15) (N := 59) hx hb hts it_15 hown hK hP hL_h0 hF_42 rfl 15 (by decide) (hts _ kt_730) (fun _ h9 => h9) rfl dX15_cost_17 ?_
      refine lv_goto (tgt := 24) hx hb dX15_cost_20 (by decide) ?_
      refine W.widen (k := 0) (n := 0) (by omega) (by omega) ?_
      exact W.iret (v := v15_31) hx hb hr (fun t ht hWm => ⟨⟨v15_31, (), rfl, (by rw [if_neg c_48, if_pos c_49]; exact hcv2), ⟨F, QTm.mk ht hP hD hO hR⟩⟩, hS.F ht⟩) hS.2.2 dX15_cost_24
  ·
    refine lv_aload_n hx hb dX15_cost_4 rfl (lv_at hl 0 rfl) ?_
    refine pg_get (ci := 15) (v := .int v14_30) (C := RX15) (T := TX15) (N := 59) hx hb hts it_15 hown hK hP hL_h0 hF_42 rfl 14 (by decide) (hts _ kt_731) (fun _ h9 => h9) rfl dX15_cost_5 ?_
    refine lv_goto (tgt := 24) hx hb dX15_cost_8 (by decide) ?_
    refine W.widen (k := 0) (n := 0) (by omega) (by omega) ?_
    exact W.iret (v := v14_30) hx hb hr (fun t ht hWm => ⟨⟨v14_30, (), rfl, (by rw [if_pos c_48]; exact hcv1), ⟨F, QTm.mk ht hP hD hO hR⟩⟩, hS.F ht⟩) hS.2.2 dX15_cost_24
noncomputable def hsM (D : Nat → ETY) (ze : Nat) (V : List Nat) : Nat := HST (UNM (faU V) V.length) (faU V) V.length D ze
noncomputable def mvW (D : Nat → ETY) (ze : Nat) (V : List Nat) : Int32 := if woW D ze (DMU V 0) = (-2) then 5 else if woW D ze (DMU V 0) = (-1) then (if woW D ze (DMU V (hsM D ze V)) = (-2) then 5 else if woW D ze (DMU V (hsM D ze V)) = (-1) then 0 else rvU D (woW D ze (DMU V (hsM D ze V))) 0) else rvU D (woW D ze (DMU V 0)) 1
noncomputable def msW (D : Nat → ETY) (ze : Nat) : Option (List Nat) → Int32
  | none => 1
  | some V => mvW D ze V
theorem snr_plr {P : Nat → Prop} {n : Nat} {Z : Nat → Option (List Nat)} {r : Int32} {gU : Option (List Nat)} (D : Nat → ETY) (ze : Nat) (h : SNR P n Z r gU) : PLR P n (fun j => msW D ze (Z j)) (msW D ze gU) := by
  obtain ⟨-, w, h1, h2⟩ := h
  refine ⟨w, h1, ?_⟩
  rcases h2 with ⟨a1, a2⟩ | ⟨a1, j, a2, a3, a4, a5⟩
  · rw [a2]
    exact Or.inl ⟨a1, rfl⟩
  · rw [a5]
    exact Or.inr ⟨a1, j, a2, a3, a4, rfl⟩
theorem snr_s {P : Nat → Prop} {n : Nat} {Z : Nat → Option (List Nat)} {r : Int32} {gU : Option (List Nat)} (h : SNR P n Z r gU) (k : ¬ r = 0) : ∃ V, gU = some V := by
  rcases h.1 with q | q
  · cases e9 : gU with
    | none => exact absurd e9 q.2
    | some V => exact ⟨V, rfl⟩
  · exact absurd q.1 k
theorem snr_z {P : Nat → Prop} {n : Nat} {Z : Nat → Option (List Nat)} {r : Int32} {gU : Option (List Nat)} (h : SNR P n Z r gU) (k : r = 0) : gU = none := by
  rcases h.1 with q | q
  · exact absurd (q.1.symm.trans k) (by decide)
  · exact q.2
def WCQ (P : Nat → Prop) (n : Nat) (Z : Nat → Int32) (sn : Nat) (x1 : Int32) (X : Nat × Nat) (gp : Option (Nat × Nat)) : Prop := ((sn = 0 ∨ x1 < 0 ∨ n = 0) ∧ gp = none) ∨ (¬ sn = 0 ∧ ¬ x1 < 0 ∧ ¬ n = 0 ∧ ∃ ro, PLR P n Z ro ∧ ((ro = (-1) ∧ gp = some X) ∨ (¬ ro = (-1) ∧ gp = none)))
theorem woW_3 {D : Nat → ETY} {ze : Nat} {U : List Nat} (hz : ze ≤ 40) : woW D ze U = (-2) ∨ woW D ze U = (-1) ∨ ∃ j, j < ze ∧ woW D ze U = nI j := by
  unfold woW
  by_cases c : HAS D ze 3 (ooU U) (yU U) (faU U)
  · rw [if_pos c]
    exact Or.inl rfl
  · rw [if_neg c]
    by_cases d : otU D ze U < 0
    · rw [if_pos d]
      exact Or.inr (Or.inl rfl)
    · rw [if_neg d]
      obtain ⟨j, h1, h2, -⟩ := otv_ge ze d
      exact Or.inr (Or.inr ⟨j, h1, h2⟩)
theorem woW_k {x : Int32} (h : x = (-2) ∨ x = (-1) ∨ ∃ j, j < 40 ∧ x = nI j) (c : 0 ≤ x) : ∃ j, j < 40 ∧ x = nI j := by
  rcases h with h | h | h
  · rw [h] at c
    exact absurd c (by decide)
  · rw [h] at c
    exact absurd c (by decide)
  · exact h
theorem mv_y {D : Nat → ETY} {ze j : Nat} {V : List Nat} (h : woW D ze (DMU V 0) = nI j) (hj : j < 40) : mvW D ze V = rrW (TC (D j).2.2.2.2.2 (D j).2.2.2.2.1) (D j).2.2.2.2.1 1 := by
  have hp : ¬ nI j < 0 := nI_pos (by omega)
  unfold mvW
  rw [h, if_neg (fun q => hp (by rw [q]; decide)), if_neg (fun q => hp (by rw [q]; decide))]
  exact rvU_j rfl (by omega)
theorem mv_n {D : Nat → ETY} {ze j : Nat} {V : List Nat} (h0 : woW D ze (DMU V 0) = (-1)) (h : woW D ze (DMU V (hsM D ze V)) = nI j) (hj : j < 40) : mvW D ze V = rrW (TC (D j).2.2.2.2.2 (D j).2.2.2.2.1) (D j).2.2.2.2.1 0 := by
  have hp : ¬ nI j < 0 := nI_pos (by omega)
  unfold mvW
  rw [h0, if_neg (by decide), if_pos rfl, h, if_neg (fun q => hp (by rw [q]; decide)), if_neg (fun q => hp (by rw [q]; decide))]
  exact rvU_j rfl (by omega)
def W71 (D : Nat → ETY) (ze : Nat) (V : List Nat) (x o : Int32) : Prop := (o = 1 ∧ x = woW D ze (DMU V 0) ∧ ¬ x = (-1)) ∨ (o = 0 ∧ woW D ze (DMU V 0) = (-1) ∧ x = woW D ze (DMU V (hsM D ze V)))
theorem w71_k {D : Nat → ETY} {ze j : Nat} {V : List Nat} {o : Int32} (h : W71 D ze V (nI j) o) (hj : j < 40) : mvW D ze V = rrW (TC (D j).2.2.2.2.2 (D j).2.2.2.2.1) (D j).2.2.2.2.1 o := by
  rcases h with ⟨h1, h2, -⟩ | ⟨h1, h2, h3⟩
  · rw [h1]
    exact mv_y h2.symm hj
  · rw [h1]
    exact mv_n h2 h3.symm hj
theorem w71_n {D : Nat → ETY} {ze : Nat} {V : List Nat} {x o : Int32} (h : W71 D ze V x o) (hz : ze ≤ 40) (c : x < 0) : ¬ mvW D ze V = (-1) := by
  have hk : ∀ U, woW D ze U < 0 → woW D ze U = (-2) ∨ woW D ze U = (-1) := fun U q => by
    rcases woW_3 (D := D) (U := U) hz with h | h | ⟨j, h1, h2⟩
    · exact Or.inl h
    · exact Or.inr h
    · rw [h2] at q
      exact absurd q (nI_pos (by omega))
  unfold mvW
  rcases h with ⟨-, h2, h3⟩ | ⟨-, h2, h3⟩
  · rw [h2] at c h3
    have e : woW D ze (DMU V 0) = (-2) := (hk _ c).resolve_right h3
    rw [if_pos e]
    decide
  · rw [h2, if_neg (by decide), if_pos rfl]
    rw [h3] at c
    rcases hk _ c with e | e
    · rw [if_pos e]
      decide
    · rw [e, if_neg (by decide), if_pos rfl]
      decide
theorem unm_eq {f g e : Nat → Int32} {z y : Nat} (h : ∀ j, j < z → f j = g j) : UNM f z e y ↔ UNM g z e y := by
  have hk : ∀ f g : Nat → Int32, (∀ j, j < z → f j = g j) → UNM f z e y → UNM g z e y := fun f g h q => by
    obtain ⟨q1, q2, q3⟩ := q
    refine ⟨q1, ?_, fun j hj => ?_⟩
    · rcases q2 with c | ⟨c1, c2⟩
      · exact Or.inl c
      · by_cases d : z = y
        · exact Or.inl d
        · exact Or.inr ⟨c1, by rw [← h (z - y - 1) (by omega)]; exact c2⟩
    · rw [← h (z - y + j) (by omega)]
      exact q3 j hj
  exact ⟨hk f g h, hk g f (fun j hj => (h j hj).symm)⟩
theorem hstm_eq {f g : Nat → Int32} {z : Nat} {D : Nat → ETY} {ze : Nat} (h : ∀ j, j < z → f j = g j) : HST (UNM f z) f z D ze = HST (UNM g z) g z D ze := hst_cg (lgw_cg ze (fun i hi => ⟨⟨fun q => ⟨q.1, (unm_eq h).mp q.2⟩, fun q => ⟨q.1, (unm_eq h).mpr q.2⟩⟩, rfl⟩)) (fun j hj => by rw [h j hj])
theorem src_hs {D : Nat → ETY} {ze : Nat} {V : List Nat} {y2 : Nat} {gd fc : Nat → Int32} (h : SRC V V.length gd) (hy : y2 = V.length - HST (UNM gd V.length) gd V.length D ze) (hf : ∀ j, j < y2 → fc j = gd (HST (UNM gd V.length) gd V.length D ze + j)) : SRC (rgL V (hsM D ze V) (V.length - hsM D ze V)) y2 fc := by
  have e : HST (UNM gd V.length) gd V.length D ze = hsM D ze V := hstm_eq h.2.1
  rw [e] at hy hf
  have hl : hsM D ze V ≤ V.length := hst_le
  refine ⟨by rw [rgL_len, hy], fun j hj => ?_, fun j hj => ?_⟩
  · rw [hf j hj, rgL_get _ _ _ (by omega), h.2.1 _ (by omega)]
  · rw [rgL_get _ _ _ (by omega)]
    exact h.2.2 _ (by omega)
theorem w71_j {D : Nat → ETY} {ze : Nat} {V : List Nat} {x o : Int32} (h : W71 D ze V x o) (hz : ze ≤ 40) (c : 0 ≤ x) : ∃ j, j < ze ∧ x = nI j := by
  have hk : ∀ U, x = woW D ze U → ∃ j, j < ze ∧ x = nI j := fun U e => by
    rcases woW_3 (D := D) (U := U) hz with h | h | ⟨j, h1, h2⟩
    · rw [e, h] at c
      exact absurd c (by decide)
    · rw [e, h] at c
      exact absurd c (by decide)
    · exact ⟨j, h1, e.trans h2⟩
  rcases h with ⟨-, h2, -⟩ | ⟨-, -, h2⟩
  · exact hk _ h2
  · exact hk _ h2
set_option maxHeartbeats 4000000 in
set_option maxRecDepth 100000 in
theorem s_X15_wish_c (l : Launch) (dC : Nat → ClassId) (dI : Nat → Nat → Nat) (cs : Nat → ClassId) (ty : TyM) (gm : Nat → Nat → Nat) (L : List Nat) (sz : Nat) (F : Nat → va_E) (h0 : Nat) (ρ : Nat) (ta : Nat) (ou : Nat) (so : Nat) (ad : Nat) (na : Nat) (va : Nat) (lc : Nat) (dm : Nat) (tg : Nat) (pe : Nat) (ml : Nat) (bg : Nat) (co : Nat) (sp : Nat) (nb0 : Nat) (nb1 : Nat) (nb2 : Nat) (pl : Nat) (se : Nat) (ke : Nat) (wi : Nat) (hs : Nat) (mo : Nat) (po : Nat) (nu : Nat) (pr : Nat) (sq : Nat) (xa : Nat) (sa : Nat) (n64 : Nat) (m64 : Nat) (ex : Nat) (wh : Nat) (sd : Nat) (tk : Nat) (hd : Nat) (ak : Nat) (ho : Nat) (ot : Nat) (sx : Nat) (s0 : Nat) (s1 : Nat) (s2 : Nat) (nf : Nat) (bd : Nat) (mm : Nat) (fm : Nat) (sn : Nat) (hg : Nat) (gc : Nat) (gv : Nat) (ze : Nat) (zt : Nat) (sb : Nat) (rl : Nat) (rp : Nat) (rak : Nat) (x1 : Int32) (D : Nat → ETY) (LC : List Nat) (DN : List Nat) (gl : Nat → Int32) (hW : WTm ty gm L) (hL_h0 : h0 ∈ L) (hT_h0 : ty h0 = (15, ρ, [ta, ou, so, ad, na, va, lc, dm, tg, pe, ml, bg, co, sp, nb0, nb1, nb2, pl, se, ke, wi, hs, mo, po, nu, pr, sq, xa, sa, n64, m64, ex, wh, sd, tk, hd, ak, ho, ot, sx, s0, s1, s2, nf, bd, mm, fm, sn, hg, gc, gv, ze, zt])) (hL_sx : sx ∈ L) (hT_sx : ty sx = (14, ρ + 12, [sb, 3000])) (hL_pl : pl ∈ L) (hT_pl : ty pl = (14, ρ + 10, [rl, 6000])) (hL_pe : pe ∈ L) (hT_pe : ty pe = (14, ρ + 7, [rp, 100])) (hL_ak : ak ∈ L) (hT_ak : ty ak = (14, ρ + 28, [rak, 6000])) (hDM : DIRM cs F so ad na va ze D) (hVN : ∀ k, k < ze → (D k).1 = 2 → SRC (vlL (D k)) (D k).2.2.2.2.1 (D k).2.2.2.2.2 ∧ (D k).2.2.2.2.1 ≤ 60) (hSN : (sn = 0 ∨ (TXM cs F lc 30 LC ∧ TXM cs F dm 60 DN))) (hFml : F ml = .inl (cs 17, 3000, .inl gl)) (hby : (nf = 0 ∨ ∀ j, j < mm → BYQ (gl j))) (hbd : ∀ k, k < ze → ∀ j, j < (D k).2.2.2.2.1 → BYQ ((D k).2.2.2.2.2 j)) : Met l yX15_wish (.code yX15_wish cX15_wish 6 (some .int) :: tb) ({ frames := 79, cells := 0, slots := 0, locals := 1787 }) (va_Pc [.ref h0, .int x1] (PTEm (dC, dI) cs ty gm L F sz [])) (va_Qi (fun (r : Int32) (gp : Option (Nat × Nat)) => True) (fun (gp : Option (Nat × Nat)) T9 => ∃ F2 : Nat → va_E, ∃ ty2 : TyM, ty2 = rtf ty h0 (15, ρ, [ta, ou, so, ad, na, va, lc, dm, tg, pe, ml, bg, co, sp, nb0, nb1, nb2, pl, se, ke, wi, hs, mo, po, nu, pr, sq, xa, sa, n64, m64, ex, wh, sd, tk, hd, ak, ho, ot, sx, s0, s1, s2, nf, bd, mm, fm, sn, (hgr gp hg), (gcr gp gc), (gvr gp gv), ze, zt]) ∧ QTm (dC, dI) cs ty2 gm L (tgS ρ 0 ++ [ρ + 10, ρ + 11, ρ + 12, ρ + 13, ρ + 14, ρ + 15, ρ + 16, ρ + 17, ρ + 18, ρ + 19, ρ + 20, ρ + 21, ρ + 22, ρ + 23, ρ + 24, ρ + 25, ρ + 26, ρ + 28, ρ + 29, ρ + 30, ρ + 81, ρ + 82, ρ + 83, ρ + 84, ρ + 85, ρ + 86]) F F2 (va_A (va_pl L F) sz) T9 ∧ WTm ty2 gm L ∧ WCQ (fun i => alP gl (gm 0 i) (gm 1 i) (cct [102, 114, 111, 109]) 4) nf (fun j9 => msW D ze (dmW (TC gl mm) (gm 1 j9) (gm 2 j9))) sn x1 (CHW D ze (sdM LC DN (nI fm)) (nI fm) 11 DN 0 0).2 gp) (va_A (va_pl L F) sz)) 0 0 (va_A (va_pl L F) sz) := by
  refine Met.ofW (cc := cX15_wish) (maxL := 6) (ret := (some .int)) (by decide) rfl ?_
  intro p e s m args below meth c s₁ B hml hv
  obtain ⟨rfl, ⟨hsz, hP, hK, hD0, hE, hO⟩, hG, hX⟩ := hv
  have hx := B.exec
  have hb := B.bytes
  have hr := B.returns
  have hts : ∀ w ∈ tb, w.before _ s = true := fun w h => atoms_spec (ws := .code yX15_wish cX15_wish 6 (some .int) :: tb) B.pre w (List.mem_cons_of_mem _ h)
  have hown : s.vm.findClass RX15 = some m.cls := findClass_of_methodNamed B.named
  have hlocks := B.notSynchronized
  subst hsz
  have hD := hD0.self (sz := s.heap.size)
  generalize hAe : va_A (va_pl L F) s.heap.size = A at hD hG hX ⊢
  have hA : ∀ q : Nat, s.heap.size ≤ q → A q := fun q h => by rw [← hAe]; exact Or.inr h
  have hS : va_S A s.heap s.heap [] := va_S.rf
  have hR : FR ty (tgS ρ 0 ++ [ρ + 10, ρ + 11, ρ + 12, ρ + 13, ρ + 14, ρ + 15, ρ + 16, ρ + 17, ρ + 18, ρ + 19, ρ + 20, ρ + 21, ρ + 22, ρ + 23, ρ + 24, ρ + 25, ρ + 26, ρ + 28, ρ + 29, ρ + 30, ρ + 81, ρ + 82, ρ + 83, ρ + 84, ρ + 85, ρ + 86]) F F := FR.refl
  have hl := lv_entry ([.ref h0, .int x1]) (n := 6) (Nat.le_of_ble_eq_true rfl)
  rw [lg_entry_eq]
  generalize (lg_sl ([.ref h0, .int x1]) ++ List.replicate (6 - (lg_sl ([.ref h0, .int x1])).length) Slot.unset).toArray = ls at hl ⊢
  have hl : lv_has ls 6 [(0, .ref h0), (1, .int x1)] := hl
  obtain ⟨hq_20, hq_21, hq_22, hq_23, hq_24, hgO, hgA, hgB, hq_25⟩ := hW.sc hL_h0 hT_h0
  obtain ⟨hi_26, ht_27⟩ := hW.f_se hL_h0 hT_h0
  obtain ⟨_, hi_28, hi_29, hi_30, _, ht_31, ht_32, ht_33, hq_34, hq_35⟩ := hW.tags hi_26 ht_27
  have ht_32 : ty s1 = (25, ρ + 81, [40, 1280]) := ht_32
  have ht_33 : ty s2 = (25, ρ + 82, [40, 1280]) := ht_33
  obtain ⟨hi_36, ht_37, hq_38⟩ := hW.txt hL_sx hT_sx
  obtain ⟨hi_39, ht_40, hq_41⟩ := hW.txt hL_pl hT_pl
  obtain ⟨hi_42, ht_43, hq_44⟩ := hW.txt hL_pe hT_pe
  obtain ⟨hi_45, ht_46, hq_47⟩ := hW.txt hL_ak hT_ak
  obtain ⟨hi_48, r_18, ht_49⟩ := hW.f_ho hL_h0 hT_h0
  obtain ⟨hi_50, ht_51, hq_52⟩ := hW.txt hi_48 ht_49
  obtain ⟨hi_53, x_7, y0_8, y1_9, y2_10, ht_54⟩ := hW.f_wi hL_h0 hT_h0
  obtain ⟨hi_55, hi_56, hi_57, hi_58, ⟨r_59, ht_60⟩, ht_61, ht_62, ht_63, hq_64, hq_65⟩ := hW.tags hi_53 ht_54
  have ht_60 : ty x_7 = (14, ρ + 16, [r_59, 700]) := ht_60
  have ht_62 : ty y1_9 = (25, ρ + 85, [40, 700]) := ht_62
  have ht_63 : ty y2_10 = (25, ρ + 86, [40, 700]) := ht_63
  obtain ⟨hi_66, r_2, ht_67⟩ := hW.f_dm hL_h0 hT_h0
  obtain ⟨hi_68, ht_69, hq_70⟩ := hW.txt hi_66 ht_67
  obtain ⟨hi_71, r_17, ht_72⟩ := hW.f_sd hL_h0 hT_h0
  obtain ⟨hi_73, ht_74, hq_75⟩ := hW.txt hi_71 ht_72
  obtain ⟨hi_76, ht_77⟩ := hW.f_ml hL_h0 hT_h0
  obtain ⟨hq_78, hq_79⟩ := hW.octs hi_76 ht_77
  obtain ⟨zo_80, v14_81, v15_82, v17_83, v18_84, v19_85, v20_86, v21_87, v22_88, v33_89, v52_90, v53_91, v54_92, hF_93, hq_94, hq_95, hq_96, hq_97, hq_98⟩ := hO.mod hL_h0 hT_h0
  have hO0 := hO
  have hW0 := hW
  obtain ⟨hLs0, hTs0⟩ := hW.f_so hL_h0 hT_h0
  obtain ⟨hLd0, hTd0⟩ := hW.f_ad hL_h0 hT_h0
  obtain ⟨hLn0, hTn0⟩ := hW.f_na hL_h0 hT_h0
  obtain ⟨hLv0, hTv0⟩ := hW.f_va hL_h0 hT_h0
  refine lv_aload_n hx hb dX15_wish_0 rfl (lv_at hl 0 rfl) ?_
  refine pg_get (ci := 15) (v := .int (nI sn)) (C := RX15) (T := TX15) (N := 59) hx hb hts it_15 hown hK hP hL_h0 hF_93 rfl 12 (by decide) (hts _ kt_1187) (fun _ h9 => h9) rfl dX15_wish_1 ?_
  refine lv_if_eq (tgt := 11) hx hb dX15_wish_4 (by decide) (fun c_99 => ?_) (fun c_99 => ?_)
  ·
    have hi_100 : sn = 0 := (nI_eq (a := sn) (b := 0) (by omega) (by omega)).mp c_99
    have hs0 : sn = 0 := (nI_eq (b := 0) (by omega) (by omega)).mp c_99
    refine lv_iconst (v := (-1)) hx hb dX15_wish_11 (by decide) ?_
    refine W.widen (k := 0) (n := 0) (by omega) (by omega) ?_
    exact W.iret (v := (-1)) hx hb hr (fun t ht hWm => ⟨⟨(-1), none, rfl, trivial, ⟨F, ty, (rtf_idw hT_h0), QTm.mk ht hP hD hO hR, hW, (Or.inl ⟨Or.inl hs0, rfl⟩)⟩⟩, hS.F ht⟩) hS.2.2 dX15_wish_12
  ·
    have hi_101 : sn ≠ 0 := fun q => c_99 (by rw [q]; rfl)
    have hs0 : ¬ sn = 0 := fun q => c_99 (by rw [q]; rfl)
    refine lv_iload_n hx hb dX15_wish_7 rfl (lv_at hl 1 rfl) ?_
    refine lv_if_ge (tgt := 13) hx hb dX15_wish_8 (by decide) (fun c_102 => ?_) (fun c_102 => ?_)
    ·
      refine lv_aload_n hx hb dX15_wish_13 rfl (lv_at hl 0 rfl) ?_
      refine pg_get (ci := 15) (v := .int v33_89) (C := RX15) (T := TX15) (N := 59) hx hb hts it_15 hown hK hP hL_h0 hF_93 rfl 33 (by decide) (hts _ kt_891) (fun _ h9 => h9) rfl dX15_wish_14 ?_
      refine lv_if_ne (tgt := 23) hx hb dX15_wish_17 (by decide) (fun c_103 => ?_) (fun c_103 => ?_)
      ·
        have hn0 : ¬ nf = 0 := by rcases hq_96 with q | q; exact absurd q.1 c_103; omega
        refine lv_aload_n hx hb dX15_wish_23 rfl (lv_at hl 0 rfl) ?_
        have hFc := pg_free hD hS hA
        refine va_calli (va_runV (As := []) (rest := []) ⟨hx, hb, hml, hown, hts⟩ (s_X15_isSeen_x l dC dI cs ty gm L s.heap.size F h0 ρ ta ou so ad na va lc dm tg pe ml bg co sp nb0 nb1 nb2 pl se ke wi hs mo po nu pr sq xa sa n64 m64 ex wh sd tk hd ak ho ot sx s0 s1 s2 nf bd mm fm sn hg gc gv ze zt rak gl hW hL_h0 hT_h0 hL_ak hT_ak hFml (hby.resolve_left hn0)) ⟨callB_of 0 hts (gi kt_1188) rfl rfl rfl (hts _ kt_669) (hts _ kt_1189) (by decide +kernel) ⟨Nat.le_of_ble_eq_true rfl, Nat.le_of_ble_eq_true rfl⟩, (hts _ kt_1190), (hts _ kt_1191)⟩ ⟨fun a U g mk q => ⟨q.1, PTEm.calling q.2⟩, pg_recv hK hP hL_h0 hF_93 (q := (RX15, TX15, 59)) rfl, fun U hU hWm => ⟨rfl, PTEm.mk hU hWm hP hK hD hE hO hG (fun x hx => absurd hx List.not_mem_nil) hS hFc⟩⟩ rfl rfl hl.1 rfl (lv_room (Nat.le_of_ble_eq_true rfl)) dX15_wish_24 ⟨by show _ + 0 ≤ 0; omega, by show _ + 0 ≤ 0; omega⟩) hS (fun q _ h => hFc q h) hFc (fun r_105 gU_104 t H1 locs ht hvm hw hB hz1 hk1 hS => ?_)
        obtain ⟨F_106, hB1, hq_107⟩ := hB
        obtain ⟨hP, hD, hO, hR⟩ := QTm.back hB1 ht hFc hR (fun q h => by simp only [mem_tgS, List.mem_append, List.mem_cons, List.not_mem_nil, or_false] at h ⊢; omega)
        have hF_108 : F_106 ml = .inl (cs 17, 3000, .inl gl) := (hB1.2.2.2 ml (by rw [ht_77]; simp)).trans hFml
        have hF_109 : F_106 h0 = .inr (15, (.ref ta) :: (.int (nI zt)) :: (.int (nI zo_80)) :: (.int (nI ze)) :: (.ref ou) :: (.ref so) :: (.ref ad) :: (.ref na) :: (.ref va) :: (.ref lc) :: (.ref dm) :: (.int (nI fm)) :: (.int (nI sn)) :: (.ref tg) :: (.int v14_81) :: (.int v15_82) :: (.ref pe) :: (.int v17_83) :: (.int v18_84) :: (.int v19_85) :: (.int v20_86) :: (.int v21_87) :: (.int v22_88) :: (.ref ml) :: (.ref bg) :: (.ref co) :: (.ref sp) :: (.ref nb0) :: (.ref nb1) :: (.ref nb2) :: (.int (nI nf)) :: (.int (nI bd)) :: (.int (nI mm)) :: (.int v33_89) :: (.ref pl) :: (.ref se) :: (.ref ke) :: (.ref wi) :: (.ref hs) :: (.ref mo) :: (.ref po) :: (.ref nu) :: (.ref pr) :: (.ref sq) :: (.ref xa) :: (.ref sa) :: (.ref n64) :: (.ref m64) :: (.ref ex) :: (.ref wh) :: (.ref sd) :: (.ref tk) :: (.int v52_90) :: (.int v53_91) :: (.int v54_92) :: (.ref hd) :: (.ref ak) :: (.ref ho) :: (.ref ot) :: []) := (hB1.2.2.2 h0 (by rw [hT_h0]; simp)).trans hF_93
        generalize H1 = H at hP hS ⊢
        have hw : SNR (fun i => alP gl (gm 0 i) (gm 1 i) (cct [102, 114, 111, 109]) 4) nf (fun j9 => dmW (TC gl mm) (gm 1 j9) (gm 2 j9)) r_105 gU_104 := hw
        have hw_110 := hw
        refine lv_if_ne (tgt := 32) hx hb dX15_wish_27 (by decide) (fun c_111 => ?_) (fun c_111 => ?_)
        ·
          obtain ⟨V, hVe⟩ := snr_s hw_110 c_111
          obtain ⟨hVT, hVNm⟩ := hq_107 V hVe
          obtain ⟨zv, gv9, hz1v, hz2v, hz3v, hz4v⟩ := hVT.get hO hL_ak hT_ak
          obtain rfl := hz3v.1
          have hVl := (NM_len hVNm).2
          refine lv_iconst (v := 1) hx hb dX15_wish_32 (by decide) ?_
          refine lv_istore_n (lv' := [(2, .int 1), (0, .ref h0), (1, .int x1)]) hx hb dX15_wish_33 rfl hl (by decide) rfl (fun ls hl => ?_)
          refine lv_aload_n hx hb dX15_wish_34 rfl (lv_at hl 1 rfl) ?_
          refine lv_aload_n hx hb dX15_wish_35 rfl (lv_at hl 1 rfl) ?_
          refine pg_get (ci := 15) (v := .ref ak) (C := RX15) (T := TX15) (N := 59) hx hb hts it_15 hown hK hP hL_h0 hF_109 rfl 56 (by decide) (hts _ kt_999) (fun _ h9 => h9) rfl dX15_wish_36 ?_
          have hQso := hR so (by rw [hTs0]; simp only [mem_tgS, List.mem_append, List.mem_cons, List.not_mem_nil, or_false]; omega)
          have hQad := hR ad (by rw [hTd0]; simp only [mem_tgS, List.mem_append, List.mem_cons, List.not_mem_nil, or_false]; omega)
          have hQna := hR na (by rw [hTn0]; simp only [mem_tgS, List.mem_append, List.mem_cons, List.not_mem_nil, or_false]; omega)
          have hQva := hR va (by rw [hTv0]; simp only [mem_tgS, List.mem_append, List.mem_cons, List.not_mem_nil, or_false]; omega)
          have hDM6 := DIRM.fr hDM hO0 hW0 hLn0 hTn0 hLv0 hTv0 (by omega) hR hQso hQad hQna hQva (fun k hk => ⟨by simp only [mem_tgS, List.mem_append, List.mem_cons, List.not_mem_nil, or_false]; omega, by simp only [mem_tgS, List.mem_append, List.mem_cons, List.not_mem_nil, or_false]; omega⟩)
          obtain ⟨hq_112, hq_113⟩ := hW.octs hi_45 ht_46
          have hFc := pg_free hD hS hA
          refine va_calli (va_runV (As := [.ref ak]) (rest := []) ⟨hx, hb, hml, hown, hts⟩ (s_X15_wantedOf_x l dC dI cs ty gm L H.size F_106 h0 ρ ta ou so ad na va lc dm tg pe ml bg co sp nb0 nb1 nb2 pl se ke wi hs mo po nu pr sq xa sa n64 m64 ex wh sd tk hd ak ho ot sx s0 s1 s2 nf bd mm fm sn hg gc gv ze zt ak (ρ + 28) rak 6000 V.length gv9 V D hW hL_h0 hT_h0 hL_ak hT_ak hz1v hz2v (by omega) (by omega) (by omega) (by omega) (hz3v) (by omega) (hDM6)) ⟨callB_of 1 hts (gi kt_1192) rfl rfl rfl (hts _ kt_669) (hts _ kt_1193) (by decide +kernel) ⟨Nat.le_of_ble_eq_true rfl, Nat.le_of_ble_eq_true rfl⟩, (hts _ kt_1194), (hts _ kt_1195)⟩ ⟨fun a U g mk q => ⟨q.1, PTEm.calling q.2⟩, pg_recv hK hP hL_h0 hF_109 (q := (RX15, TX15, 59)) rfl, fun U hU hWm => ⟨rfl, PTEm.mk hU hWm hP hK hD hE hO hG (fun x hx => absurd hx List.not_mem_nil) hS hFc⟩⟩ rfl rfl hl.1 rfl (lv_room (Nat.le_of_ble_eq_true rfl)) dX15_wish_39 ⟨by show _ + 0 ≤ 0; omega, by show _ + 0 ≤ 0; omega⟩) hS (fun q _ h => hFc q h) hFc (fun r_114 u t H1 locs ht hvm hw hB hz1 hk1 hS => ?_)
          obtain ⟨F_115, hB1⟩ := hB
          obtain ⟨hP, hD, hO, hR⟩ := QTm.back hB1 ht hFc hR (fun q h => by simp only [mem_tgS, List.mem_append, List.mem_cons, List.not_mem_nil, or_false] at h ⊢; omega)
          have hF_116 : F_115 ml = .inl (cs 17, 3000, .inl gl) := (hB1.2.2.2 ml (by rw [ht_77]; simp)).trans hF_108
          have hF_117 : F_115 h0 = .inr (15, (.ref ta) :: (.int (nI zt)) :: (.int (nI zo_80)) :: (.int (nI ze)) :: (.ref ou) :: (.ref so) :: (.ref ad) :: (.ref na) :: (.ref va) :: (.ref lc) :: (.ref dm) :: (.int (nI fm)) :: (.int (nI sn)) :: (.ref tg) :: (.int v14_81) :: (.int v15_82) :: (.ref pe) :: (.int v17_83) :: (.int v18_84) :: (.int v19_85) :: (.int v20_86) :: (.int v21_87) :: (.int v22_88) :: (.ref ml) :: (.ref bg) :: (.ref co) :: (.ref sp) :: (.ref nb0) :: (.ref nb1) :: (.ref nb2) :: (.int (nI nf)) :: (.int (nI bd)) :: (.int (nI mm)) :: (.int v33_89) :: (.ref pl) :: (.ref se) :: (.ref ke) :: (.ref wi) :: (.ref hs) :: (.ref mo) :: (.ref po) :: (.ref nu) :: (.ref pr) :: (.ref sq) :: (.ref xa) :: (.ref sa) :: (.ref n64) :: (.ref m64) :: (.ref ex) :: (.ref wh) :: (.ref sd) :: (.ref tk) :: (.int v52_90) :: (.int v53_91) :: (.int v54_92) :: (.ref hd) :: (.ref ak) :: (.ref ho) :: (.ref ot) :: []) := (hB1.2.2.2 h0 (by rw [hT_h0]; simp)).trans hF_109
          have hF_118 : F_115 ak = .inr (14, [.ref rak, .int (nI V.length)]) := (hB1.2.2.2 ak (by rw [hT_ak]; simp)).trans hz1v
          have hF_119 : F_115 rak = .inl (cs 17, 6000, .inl gv9) := (hB1.2.2.2 rak (by rw [ht_46]; simp)).trans hz2v
          generalize H1 = H at hP hS ⊢
          have hw : r_114 = woW D ze ([95, 100, 109, 97, 114, 99, 46] ++ V) := hw
          subst hw
          refine lv_topi (fun x9 ex9 => ?_)
          obtain rfl : x9 = woW D ze (DMU V 0) := ex9.trans (by rw [dmu_0])
          refine lv_istore_n (lv' := [(3, .int (woW D ze (DMU V 0))), (2, .int 1), (0, .ref h0), (1, .int x1)]) hx hb dX15_wish_42 rfl hl (by decide) rfl (fun ls hl => ?_)
          have hF_122 : F ml = .inl (cs 17, 3000, .inl gl) := (hR ml (by rw [ht_77]; simp only [mem_tgS, List.mem_append, List.mem_cons, List.not_mem_nil, or_false]; omega)).symm.trans hF_116
          refine W.widen (k := 0) (n := 0) (by omega) (by omega) ?_
          refine pl_cutm (σ := Int32 × Int32) A (dC, dI) cs ty gm L (tgS ρ 0 ++ [ρ + 10, ρ + 11, ρ + 12, ρ + 13, ρ + 14, ρ + 15, ρ + 16, ρ + 17, ρ + 18, ρ + 19, ρ + 20, ρ + 21, ρ + 22, ρ + 23, ρ + 24, ρ + 25, ρ + 26, ρ + 28, ρ + 29, ρ + 30, ρ + 81, ρ + 82, ρ + 83, ρ + 84, ρ + 85, ρ + 86]) F 71 6 (fun (s3, sw2) => [(3, .int s3), (2, .int sw2), (0, .ref h0), (1, .int x1)]) (fun (s3, sw2) => []) (fun (s3, sw2) FF => W71 D ze V s3 sw2 ∧ FF ak = .inr (14, [.ref rak, .int (nI V.length)]) ∧ FF rak = .inl (cs 17, 6000, .inl gv9)) ?_ (fun jn_120 => ?_)
          ·
            rintro ⟨s3, sw2⟩ F_121 hv_123 hO hR H locs hP hD hS ls hl
            have hl : lv_has ls 6 [(3, .int s3), (2, .int sw2), (0, .ref h0), (1, .int x1)] := hl
            have hv_123 : W71 D ze V s3 sw2 ∧ F_121 ak = .inr (14, [.ref rak, .int (nI V.length)]) ∧ F_121 rak = .inl (cs 17, 6000, .inl gv9) := hv_123
            refine W.eq (g2 := F0 m 71 ls []) rfl ?_
            have hF_124 : F_121 ml = .inl (cs 17, 3000, .inl gl) := (hR ml (by rw [ht_77]; simp only [mem_tgS, List.mem_append, List.mem_cons, List.not_mem_nil, or_false]; omega)).trans hF_122
            obtain ⟨h71, hak1, hak2⟩ := id hv_123
            refine lv_iload_n hx hb dX15_wish_71 rfl (lv_at hl 0 rfl) ?_
            refine lv_if_ge (tgt := 87) hx hb dX15_wish_72 (by decide) (fun c_125 => ?_) (fun c_125 => ?_)
            ·
              obtain ⟨kv, hkv, ekv⟩ : ∃ j, j < ze ∧ s3 = nI j := w71_j h71 (by omega) c_125
              subst ekv
              have hmv := w71_k h71 (by omega)
              have hQso := hR so (by rw [hTs0]; simp only [mem_tgS, List.mem_append, List.mem_cons, List.not_mem_nil, or_false]; omega)
              have hQad := hR ad (by rw [hTd0]; simp only [mem_tgS, List.mem_append, List.mem_cons, List.not_mem_nil, or_false]; omega)
              have hQna := hR na (by rw [hTn0]; simp only [mem_tgS, List.mem_append, List.mem_cons, List.not_mem_nil, or_false]; omega)
              have hQva := hR va (by rw [hTv0]; simp only [mem_tgS, List.mem_append, List.mem_cons, List.not_mem_nil, or_false]; omega)
              have hDM9 := DIRM.fr hDM hO0 hW0 hLn0 hTn0 hLv0 hTv0 (by omega) hR hQso hQad hQna hQva (fun k hk => ⟨by simp only [mem_tgS, List.mem_append, List.mem_cons, List.not_mem_nil, or_false]; omega, by simp only [mem_tgS, List.mem_append, List.mem_cons, List.not_mem_nil, or_false]; omega⟩)
              obtain ⟨fs, fd, fn, fv, hd1, hd2, hd3, hd4, hd5⟩ := id hDM9
              obtain ⟨hi_126, ht_127⟩ := hW.f_va hL_h0 hT_h0
              obtain ⟨f_128, hF_129, hq_130⟩ := hO.rtxj hi_126 ht_127
              obtain rfl : f_128 = fv := by have e9 := hF_129.symm.trans hd4; simpa using e9
              refine lv_aload_n hx hb dX15_wish_87 rfl (lv_at hl 2 rfl) ?_
              obtain ⟨zo_131, v14_132, v15_133, v17_134, v18_135, v19_136, v20_137, v21_138, v22_139, v33_140, v52_141, v53_142, v54_143, hF_144, hq_145, hq_146, hq_147, hq_148, hq_149⟩ := hO.mod hL_h0 hT_h0
              refine pg_get (ci := 15) (v := .ref va) (C := RX15) (T := TX15) (N := 59) hx hb hts it_15 hown hK hP hL_h0 hF_144 rfl 8 (by decide) (hts _ kt_732) (fun _ h9 => h9) rfl dX15_wish_88 ?_
              refine lv_iload_n hx hb dX15_wish_91 rfl (lv_at hl 0 rfl) ?_
              obtain ⟨b_150, r_151, hbf_152, hi_153, ht_154⟩ := hq_130 kv (by omega)
              refine pg_aald (r := b_150) hx hb hK hP hi_126 7 hF_129 rfl (vp_in_nI (by omega) (by omega)) (show f_128 ((nI kv) : Int32).toNatClampNeg = _ from by rw [show ((nI kv) : Int32) = nI kv from rfl, nI_clamp (by omega)]; exact hbf_152) dX15_wish_92 ?_
              obtain ⟨hen1a, hen1b, hen1c⟩ := ENM.get (hd5 kv hkv).2.2.2 hbf_152 hO hi_153 ht_154
              obtain ⟨hi_155, ht_156, hq_157⟩ := hW.txt hi_153 ht_154
              refine pg_get (ci := 14) (v := .ref r_151) (C := RX14) (T := TX14) (N := 2) hx hb hts it_14 hown hK hP hi_153 hen1a rfl 0 (by decide) (hts _ kt_710) (fun _ h9 => h9) rfl dX15_wish_93 ?_
              refine lv_iconst (v := 0) hx hb dX15_wish_96 (by decide) ?_
              refine lv_aload_n hx hb dX15_wish_97 rfl (lv_at hl 2 rfl) ?_
              refine pg_get (ci := 15) (v := .ref va) (C := RX15) (T := TX15) (N := 59) hx hb hts it_15 hown hK hP hL_h0 hF_144 rfl 8 (by decide) (hts _ kt_732) (fun _ h9 => h9) rfl dX15_wish_98 ?_
              refine lv_iload_n hx hb dX15_wish_101 rfl (lv_at hl 0 rfl) ?_
              refine pg_aald (r := b_150) hx hb hK hP hi_126 7 hF_129 rfl (vp_in_nI (by omega) (by omega)) (show f_128 ((nI kv) : Int32).toNatClampNeg = _ from by rw [show ((nI kv) : Int32) = nI kv from rfl, nI_clamp (by omega)]; exact hbf_152) dX15_wish_102 ?_
              refine pg_get (ci := 14) (v := .int (nI (D kv).2.2.2.2.1)) (C := RX14) (T := TX14) (N := 2) hx hb hts it_14 hown hK hP hi_153 hen1a rfl 1 (by decide) (hts _ kt_709) (fun _ h9 => h9) rfl dX15_wish_103 ?_
              refine lv_aload_n hx hb dX15_wish_106 rfl (lv_at hl 2 rfl) ?_
              refine pg_get (ci := 15) (v := .ref wi) (C := RX15) (T := TX15) (N := 59) hx hb hts it_15 hown hK hP hL_h0 hF_144 rfl 37 (by decide) (hts _ kt_1138) (fun _ h9 => h9) rfl dX15_wish_107 ?_
              obtain ⟨z_158, hF_159, hq_160⟩ := hO.tags hi_53 ht_54
              refine pg_get (ci := 13) (v := .ref x_7) (C := RX13) (T := TX13) (N := 5) hx hb hts it_13 hown hK hP hi_53 hF_159 rfl 0 (by decide) (hts _ kt_842) (fun _ h9 => h9) rfl dX15_wish_110 ?_
              refine W.eq (g2 := F0 m 113 ls [.ref x_7, .int (nI (D kv).2.2.2.2.1), .int (nI 0), .ref r_151]) rfl ?_
              obtain ⟨hq_161, hq_162⟩ := hW.octs hi_155 ht_156
              obtain ⟨hi_163, ht_164, hq_165⟩ := hW.txt hi_55 ht_60
              have hFc := pg_free hD hS hA
              refine va_callv (va_runS (As := [.ref r_151, .int (nI 0), .int (nI (D kv).2.2.2.2.1), .ref x_7]) (rest := []) ⟨hx, hb, hml, hown, hts⟩ (s_X15_withoutWhite_x l dC dI cs ty gm L H.size F_121 r_151 (ρ + 50 + kv + 100) 700 x_7 (ρ + 16) r_59 700 0 ((D kv).2.2.2.2.1) ((D kv).2.2.2.2.1) ((D kv).2.2.2.2.2) hW hi_155 ht_156 hi_55 ht_60 hen1b (Nat.zero_le _) (Nat.le_refl _) (hen1c) (by omega) (by omega) (hbd kv hkv)) ⟨callB_of 4 hts (gi kt_940) rfl rfl rfl (hts _ kt_669) (hts _ kt_941) (by decide +kernel) ⟨Nat.le_of_ble_eq_true rfl, Nat.le_of_ble_eq_true rfl⟩, (hts _ kt_942)⟩ ⟨fun a U g mk q => ⟨q.1, PTm.calling q.2⟩, fun U hU hWm => ⟨rfl, PTm.mk hU hWm hP hK hD hE hO⟩⟩ rfl rfl hl.1 rfl (lv_room (Nat.le_of_ble_eq_true rfl)) dX15_wish_113 ⟨by show _ + 0 ≤ 0; omega, by show _ + 0 ≤ 0; omega⟩) hS (fun q _ h => hFc q h) hFc (fun u t H1 locs ht hvm hw hB hz1 hk1 hS => ?_)
              obtain ⟨F_167, fc_168, hB1, hq_169, hq_170, hq_171⟩ := hB
              obtain ⟨hP, hD, hO, hR⟩ := QTm.back hB1 ht hFc hR (fun q h => by simp only [mem_tgS, List.mem_append, List.mem_cons, List.not_mem_nil, or_false] at h ⊢; omega)
              have hF_172 : F_167 ml = .inl (cs 17, 3000, .inl gl) := (hB1.2.2.2 ml (by rw [ht_77]; simp)).trans hF_124
              have hF_173 : F_167 ak = .inr (14, [.ref rak, .int (nI V.length)]) := (hB1.2.2.2 ak (by rw [hT_ak]; simp)).trans hak1
              have hF_174 : F_167 rak = .inl (cs 17, 6000, .inl gv9) := (hB1.2.2.2 rak (by rw [ht_46]; simp)).trans hak2
              have hF_175 : F_167 va = .inl (cs 23, 40, .inr (.inr (.inr (.inr f_128)))) := (hB1.2.2.2 va (by rw [ht_127]; simp)).trans hF_129
              have hF_176 : F_167 h0 = .inr (15, (.ref ta) :: (.int (nI zt)) :: (.int (nI zo_131)) :: (.int (nI ze)) :: (.ref ou) :: (.ref so) :: (.ref ad) :: (.ref na) :: (.ref va) :: (.ref lc) :: (.ref dm) :: (.int (nI fm)) :: (.int (nI sn)) :: (.ref tg) :: (.int v14_132) :: (.int v15_133) :: (.ref pe) :: (.int v17_134) :: (.int v18_135) :: (.int v19_136) :: (.int v20_137) :: (.int v21_138) :: (.int v22_139) :: (.ref ml) :: (.ref bg) :: (.ref co) :: (.ref sp) :: (.ref nb0) :: (.ref nb1) :: (.ref nb2) :: (.int (nI nf)) :: (.int (nI bd)) :: (.int (nI mm)) :: (.int v33_140) :: (.ref pl) :: (.ref se) :: (.ref ke) :: (.ref wi) :: (.ref hs) :: (.ref mo) :: (.ref po) :: (.ref nu) :: (.ref pr) :: (.ref sq) :: (.ref xa) :: (.ref sa) :: (.ref n64) :: (.ref m64) :: (.ref ex) :: (.ref wh) :: (.ref sd) :: (.ref tk) :: (.int v52_141) :: (.int v53_142) :: (.int v54_143) :: (.ref hd) :: (.ref ak) :: (.ref ho) :: (.ref ot) :: []) := (hB1.2.2.2 h0 (by rw [hT_h0]; simp)).trans hF_144
              have hF_177 : F_167 b_150 = .inr (14, [.ref r_151, .int (nI (D kv).2.2.2.2.1)]) := (hB1.2.2.2 b_150 (by rw [ht_154]; simp only [mem_tgS, List.mem_append, List.mem_cons, List.not_mem_nil, or_false]; omega)).trans hen1a
              have hF_178 : F_167 r_151 = .inl (cs 17, 700, .inl ((D kv).2.2.2.2.2)) := (hB1.2.2.2 r_151 (by rw [ht_156]; simp only [mem_tgS, List.mem_append, List.mem_cons, List.not_mem_nil, or_false]; omega)).trans hen1b
              have hF_179 : F_167 wi = .inr (13, [.ref x_7, .ref y0_8, .ref y1_9, .ref y2_10, .int (nI z_158)]) := (hB1.2.2.2 wi (by rw [ht_54]; simp)).trans hF_159
              generalize H1 = H at hP hS ⊢
              obtain ⟨hwT, hwL⟩ := hq_171
              refine lv_aload_n hx hb dX15_wish_116 rfl (lv_at hl 2 rfl) ?_
              refine pg_get (ci := 15) (v := .ref wi) (C := RX15) (T := TX15) (N := 59) hx hb hts it_15 hown hK hP hL_h0 hF_176 rfl 37 (by decide) (hts _ kt_1138) (fun _ h9 => h9) rfl dX15_wish_117 ?_
              refine lv_bipush (v := 8) hx hb dX15_wish_120 (by decide) ?_
              obtain ⟨hq_180, hq_181⟩ := hW.octs hi_163 ht_164
              have hFc := pg_free hD hS hA
              refine va_calli (va_runV (As := [.int 8]) (rest := []) ⟨hx, hb, hml, hown, hts⟩ (s_X13_read_x l dC dI cs ty gm L H.size F_167 wi (ρ + 15) x_7 700 700 y0_8 y1_9 y2_10 r_59 ((flI (TC (D kv).2.2.2.2.2 (D kv).2.2.2.2.1) 0 ((D kv).2.2.2.2.1 - 0)).length) fc_168 hW hi_53 ht_54 hi_55 ht_60 hq_169 hq_170 (by omega) (by omega)) ⟨callB_of 1 hts (gi kt_859) rfl rfl rfl (hts _ kt_829) (hts _ kt_860) (by decide +kernel) ⟨Nat.le_of_ble_eq_true rfl, Nat.le_of_ble_eq_true rfl⟩, (hts _ kt_861), (hts _ kt_862)⟩ ⟨fun a U g mk q => ⟨q.1, PTm.calling q.2⟩, pg_recv hK hP hi_53 hF_179 (q := (RX13, TX13, 5)) rfl, fun U hU hWm => ⟨rfl, PTm.mk hU hWm hP hK hD hE hO⟩⟩ rfl rfl hl.1 rfl (lv_room (Nat.le_of_ble_eq_true rfl)) dX15_wish_122 ⟨by show _ + 0 ≤ 0; omega, by show _ + 0 ≤ 0; omega⟩) hS (fun q _ h => hFc q h) hFc (fun r_183 gg_182 t H1 locs ht hvm hw hB hz1 hk1 hS => ?_)
              obtain ⟨F_184, p0_185, p1_186, p2_187, hB1, hq_188, hq_189, hq_190, hq_191, hq_192, hq_193⟩ := hB
              obtain ⟨hP, hD, hO, hR⟩ := QTm.back hB1 ht hFc hR (fun q h => by simp only [mem_tgS, List.mem_append, List.mem_cons, List.not_mem_nil, or_false] at h ⊢; omega)
              have hF_194 : F_184 ml = .inl (cs 17, 3000, .inl gl) := (hB1.2.2.2 ml (by rw [ht_77]; simp <;> omega)).trans hF_172
              have hF_195 : F_184 ak = .inr (14, [.ref rak, .int (nI V.length)]) := (hB1.2.2.2 ak (by rw [hT_ak]; simp <;> omega)).trans hF_173
              have hF_196 : F_184 rak = .inl (cs 17, 6000, .inl gv9) := (hB1.2.2.2 rak (by rw [ht_46]; simp <;> omega)).trans hF_174
              have hF_197 : F_184 va = .inl (cs 23, 40, .inr (.inr (.inr (.inr f_128)))) := (hB1.2.2.2 va (by rw [ht_127]; simp <;> omega)).trans hF_175
              have hF_198 : F_184 h0 = .inr (15, (.ref ta) :: (.int (nI zt)) :: (.int (nI zo_131)) :: (.int (nI ze)) :: (.ref ou) :: (.ref so) :: (.ref ad) :: (.ref na) :: (.ref va) :: (.ref lc) :: (.ref dm) :: (.int (nI fm)) :: (.int (nI sn)) :: (.ref tg) :: (.int v14_132) :: (.int v15_133) :: (.ref pe) :: (.int v17_134) :: (.int v18_135) :: (.int v19_136) :: (.int v20_137) :: (.int v21_138) :: (.int v22_139) :: (.ref ml) :: (.ref bg) :: (.ref co) :: (.ref sp) :: (.ref nb0) :: (.ref nb1) :: (.ref nb2) :: (.int (nI nf)) :: (.int (nI bd)) :: (.int (nI mm)) :: (.int v33_140) :: (.ref pl) :: (.ref se) :: (.ref ke) :: (.ref wi) :: (.ref hs) :: (.ref mo) :: (.ref po) :: (.ref nu) :: (.ref pr) :: (.ref sq) :: (.ref xa) :: (.ref sa) :: (.ref n64) :: (.ref m64) :: (.ref ex) :: (.ref wh) :: (.ref sd) :: (.ref tk) :: (.int v52_141) :: (.int v53_142) :: (.int v54_143) :: (.ref hd) :: (.ref ak) :: (.ref ho) :: (.ref ot) :: []) := (hB1.2.2.2 h0 (by rw [hT_h0]; simp <;> omega)).trans hF_176
              have hF_199 : F_184 b_150 = .inr (14, [.ref r_151, .int (nI (D kv).2.2.2.2.1)]) := (hB1.2.2.2 b_150 (by rw [ht_154]; simp only [mem_tgS, List.mem_append, List.mem_cons, List.not_mem_nil, or_false]; omega)).trans hF_177
              have hF_200 : F_184 r_151 = .inl (cs 17, 700, .inl ((D kv).2.2.2.2.2)) := (hB1.2.2.2 r_151 (by rw [ht_156]; simp only [mem_tgS, List.mem_append, List.mem_cons, List.not_mem_nil, or_false]; omega)).trans hF_178
              have hF_201 : F_184 x_7 = .inr (14, [.ref r_59, .int (nI (flI (TC (D kv).2.2.2.2.2 (D kv).2.2.2.2.1) 0 ((D kv).2.2.2.2.1 - 0)).length)]) := (hB1.2.2.2 x_7 (by rw [ht_60]; simp <;> omega)).trans hq_169
              have hF_202 : F_184 r_59 = .inl (cs 17, 700, .inl fc_168) := (hB1.2.2.2 r_59 (by rw [ht_164]; simp <;> omega)).trans hq_170
              generalize H1 = H at hP hS ⊢
              have hw : TGX (TC fc_168 (flI (TC (D kv).2.2.2.2.2 (D kv).2.2.2.2.1) 0 ((D kv).2.2.2.2.1 - 0)).length) (flI (TC (D kv).2.2.2.2.2 (D kv).2.2.2.2.1) 0 ((D kv).2.2.2.2.1 - 0)).length r_183 gg_182 := hw
              have hw_203 := hw
              obtain ⟨hti1, hti2⟩ := hq_193
              refine lv_if_ne (tgt := 131) hx hb dX15_wish_125 (by decide) (fun c_204 => ?_) (fun c_204 => ?_)
              ·
                refine lv_aload_n hx hb dX15_wish_131 rfl (lv_at hl 2 rfl) ?_
                refine pg_get (ci := 15) (v := .ref wi) (C := RX15) (T := TX15) (N := 59) hx hb hts it_15 hown hK hP hL_h0 hF_198 rfl 37 (by decide) (hts _ kt_1138) (fun _ h9 => h9) rfl dX15_wish_132 ?_
                obtain ⟨q_205, v_206, hr_q_205, hX_q_205⟩ := hG.2.2 ("PostGateModel", 533, "p", [112]) (by decide +kernel)
                have hX_q_205 : SXc q_205 v_206 1 (cct [112]) A s s.heap := hX_q_205
                obtain ⟨xo_q_205, xc_q_205, xv_q_205, xt_q_205, xn_q_205⟩ := id hX_q_205
                have hr_q_205 : vk_R "PostGateModel" 533 "p" q_205 s := hr_q_205
                refine va_ldcwS hx hb hown hr_q_205 dX15_wish_135 ?_
                have hFc := pg_free hD hS hA
                refine va_calli (va_runS (As := [.ref wi, .ref q_205]) (rest := []) ⟨hx, hb, hml, hown, hts⟩ (s_X15_wanted_x l dC dI cs ty gm L H.size F_184 wi (ρ + 15) x_7 700 700 y0_8 y1_9 y2_10 r_59 ((flI (TC (D kv).2.2.2.2.2 (D kv).2.2.2.2.1) 0 ((D kv).2.2.2.2.1 - 0)).length) gg_182.1 fc_168 p0_185 p1_186 p2_187 gg_182.2 q_205 v_206 1 (cct [112]) ([112]) hW hi_53 ht_54 hi_55 ht_60 hF_201 hF_202 (by omega) hq_188 hq_189 hq_190 hq_191 (hti2) (hq_192) (hti1) (by omega) (⟨rfl, by decide +kernel⟩)) ⟨callB_of 2 hts (gi kt_1196) rfl rfl rfl (hts _ kt_669) (hts _ kt_1197) (by decide +kernel) ⟨Nat.le_of_ble_eq_true rfl, Nat.le_of_ble_eq_true rfl⟩, (hts _ kt_1198)⟩ ⟨fun a U g mk q => ⟨q.1, PTEm.calling q.2⟩, fun U hU hWm => ⟨rfl, PTEm.mk hU hWm hP hK hD hE hO hG (fun x hx => by rw [List.mem_singleton] at hx; subst hx; exact hX_q_205) hS hFc⟩⟩ rfl rfl hl.1 rfl (lv_room (Nat.le_of_ble_eq_true rfl)) dX15_wish_138 ⟨by show _ + 0 ≤ 0; omega, by show _ + 0 ≤ 0; omega⟩) hS (fun q _ h => hFc q h) hFc (fun r_207 u t H1 locs ht hvm hw hB hz1 hk1 hS => ?_)
                obtain ⟨F_208, hB1⟩ := hB
                obtain rfl : F_184 = F_208 := (funext (fun a => hB1.2.2.2 a List.not_mem_nil)).symm
                obtain ⟨hP, hD, hO, hR⟩ := QTm.back hB1 ht hFc hR (fun q h => absurd h List.not_mem_nil)
                generalize H1 = H at hP hS ⊢
                have hw : r_207 = nI (wnW (TC fc_168 (flI (TC (D kv).2.2.2.2.2 (D kv).2.2.2.2.1) 0 ((D kv).2.2.2.2.1 - 0)).length) gg_182.2 gg_182.1 [112]) := hw
                subst hw
                refine lv_topi (fun x9 ex9 => ?_)
                obtain rfl : x9 = nI (wnW (flT (TC (D kv).2.2.2.2.2 (D kv).2.2.2.2.1) 0 ((D kv).2.2.2.2.1 - 0)) gg_182.2 gg_182.1 [112]) := ex9.trans (by rw [hwT])
                have hwb5 := wnW_le (T := (flT (TC (D kv).2.2.2.2.2 (D kv).2.2.2.2.1) 0 ((D kv).2.2.2.2.1 - 0))) (g := gg_182.2) (n := gg_182.1) (l := [112])
                refine lv_istore (lv' := [(4, .int (nI (wnW (flT (TC (D kv).2.2.2.2.2 (D kv).2.2.2.2.1) 0 ((D kv).2.2.2.2.1 - 0)) gg_182.2 gg_182.1 [112]))), (3, .int (nI kv)), (2, .int sw2), (0, .ref h0), (1, .int x1)]) hx hb dX15_wish_141 hl (by decide) rfl (fun ls hl => ?_)
                refine lv_iload hx hb dX15_wish_143 (lv_at hl 0 rfl) ?_
                refine lv_bipush (v := 6) hx hb dX15_wish_145 (by decide) ?_
                refine lv_icmp_ne (tgt := 153) hx hb dX15_wish_147 (by decide) (fun c_209 => ?_) (fun c_209 => ?_)
                ·
                  have hi_210 : (wnW (flT (TC (D kv).2.2.2.2.2 (D kv).2.2.2.2.1) 0 ((D kv).2.2.2.2.1 - 0)) gg_182.2 gg_182.1 [112]) ≠ 6 := fun q => c_209 (by rw [q]; rfl)
                  have hw147 : ¬ (wnW (flT (TC (D kv).2.2.2.2.2 (D kv).2.2.2.2.1) 0 ((D kv).2.2.2.2.1 - 0)) gg_182.2 gg_182.1 [112]) = 6 := fun q => c_209 (by rw [q]; rfl)
                  have hF_213 : F ml = .inl (cs 17, 3000, .inl gl) := (hR ml (by rw [ht_77]; simp only [mem_tgS, List.mem_append, List.mem_cons, List.not_mem_nil, or_false]; omega)).symm.trans hF_194
                  have hF_214 : F va = .inl (cs 23, 40, .inr (.inr (.inr (.inr f_128)))) := (hR va (by rw [ht_127]; simp only [mem_tgS, List.mem_append, List.mem_cons, List.not_mem_nil, or_false]; omega)).symm.trans hF_197
                  have hF_215 : F b_150 = .inr (14, [.ref r_151, .int (nI (D kv).2.2.2.2.1)]) := (hR b_150 (by rw [ht_154]; simp only [mem_tgS, List.mem_append, List.mem_cons, List.not_mem_nil, or_false]; omega)).symm.trans hF_199
                  have hF_216 : F r_151 = .inl (cs 17, 700, .inl ((D kv).2.2.2.2.2)) := (hR r_151 (by rw [ht_156]; simp only [mem_tgS, List.mem_append, List.mem_cons, List.not_mem_nil, or_false]; omega)).symm.trans hF_200
                  refine W.widen (k := 0) (n := 0) (by omega) (by omega) ?_
                  refine pl_cutm (σ := Int32) A (dC, dI) cs ty gm L (tgS ρ 0 ++ [ρ + 10, ρ + 11, ρ + 12, ρ + 13, ρ + 14, ρ + 15, ρ + 16, ρ + 17, ρ + 18, ρ + 19, ρ + 20, ρ + 21, ρ + 22, ρ + 23, ρ + 24, ρ + 25, ρ + 26, ρ + 28, ρ + 29, ρ + 30, ρ + 81, ρ + 82, ρ + 83, ρ + 84, ρ + 85, ρ + 86]) F 192 6 (fun s4 => [(4, .int s4), (0, .ref h0), (1, .int x1)]) (fun s4 => []) (fun s4 _ => mvW D ze V = (-1)) ?_ (fun jn_211 => ?_)
                  ·
                    rintro s4 F_212 hv_217 hO hR H locs hP hD hS ls hl
                    have hl : lv_has ls 6 [(4, .int s4), (0, .ref h0), (1, .int x1)] := hl
                    have hv_217 : mvW D ze V = (-1) := hv_217
                    refine W.eq (g2 := F0 m 192 ls []) rfl ?_
                    have hF_218 : F_212 ml = .inl (cs 17, 3000, .inl gl) := (hR ml (by rw [ht_77]; simp only [mem_tgS, List.mem_append, List.mem_cons, List.not_mem_nil, or_false]; omega)).trans hF_213
                    have hF_219 : F_212 va = .inl (cs 23, 40, .inr (.inr (.inr (.inr f_128)))) := (hR va (by rw [ht_127]; simp only [mem_tgS, List.mem_append, List.mem_cons, List.not_mem_nil, or_false]; omega)).trans hF_214
                    have hF_220 : F_212 b_150 = .inr (14, [.ref r_151, .int (nI (D kv).2.2.2.2.1)]) := (hR b_150 (by rw [ht_154]; simp only [mem_tgS, List.mem_append, List.mem_cons, List.not_mem_nil, or_false]; omega)).trans hF_215
                    have hF_221 : F_212 r_151 = .inl (cs 17, 700, .inl ((D kv).2.2.2.2.2)) := (hR r_151 (by rw [ht_156]; simp only [mem_tgS, List.mem_append, List.mem_cons, List.not_mem_nil, or_false]; omega)).trans hF_216
                    have hop := hv_217
                    refine lv_aload_n hx hb dX15_wish_192 rfl (lv_at hl 1 rfl) ?_
                    have hQso := hR so (by rw [hTs0]; simp only [mem_tgS, List.mem_append, List.mem_cons, List.not_mem_nil, or_false]; omega)
                    have hQad := hR ad (by rw [hTd0]; simp only [mem_tgS, List.mem_append, List.mem_cons, List.not_mem_nil, or_false]; omega)
                    have hQna := hR na (by rw [hTn0]; simp only [mem_tgS, List.mem_append, List.mem_cons, List.not_mem_nil, or_false]; omega)
                    have hQva := hR va (by rw [hTv0]; simp only [mem_tgS, List.mem_append, List.mem_cons, List.not_mem_nil, or_false]; omega)
                    have hDM5 := DIRM.fr hDM hO0 hW0 hLn0 hTn0 hLv0 hTv0 (by omega) hR hQso hQad hQna hQva (fun k hk => ⟨by simp only [mem_tgS, List.mem_append, List.mem_cons, List.not_mem_nil, or_false]; omega, by simp only [mem_tgS, List.mem_append, List.mem_cons, List.not_mem_nil, or_false]; omega⟩)
                    obtain ⟨hi_222, r_1, ht_223⟩ := hW.f_lc hL_h0 hT_h0
                    have hSN5 : sn = 0 ∨ (TXM cs F_212 lc 30 LC ∧ TXM cs F_212 dm 60 DN) := hSN.imp id (fun q => ⟨q.1.fr hO0 hW0 hi_222 ht_223 hR (by simp only [mem_tgS, List.mem_append, List.mem_cons, List.not_mem_nil, or_false]; omega), q.2.fr hO0 hW0 hi_66 ht_67 hR (by simp only [mem_tgS, List.mem_append, List.mem_cons, List.not_mem_nil, or_false]; omega)⟩)
                    have hFc := pg_free hD hS hA
                    obtain ⟨zo_224, v14_225, v15_226, v17_227, v18_228, v19_229, v20_230, v21_231, v22_232, v33_233, v52_234, v53_235, v54_236, hF_237, hq_238, hq_239, hq_240, hq_241, hq_242⟩ := hO.mod hL_h0 hT_h0
                    refine va_calli (va_runV (As := []) (rest := []) ⟨hx, hb, hml, hown, hts⟩ (s_X15_permission_c l dC dI cs ty gm L H.size F_212 h0 ρ ta ou so ad na va lc dm tg pe ml bg co sp nb0 nb1 nb2 pl se ke wi hs mo po nu pr sq xa sa n64 m64 ex wh sd tk hd ak ho ot sx s0 s1 s2 nf bd mm fm sn hg gc gv ze zt rp D LC DN hW hL_h0 hT_h0 hL_pe hT_pe (hDM5) (hVN) (hSN5)) ⟨callB_of 0 hts (gi kt_1199) rfl rfl rfl (hts _ kt_669) (hts _ kt_1200) (by decide +kernel) ⟨Nat.le_of_ble_eq_true rfl, Nat.le_of_ble_eq_true rfl⟩, (hts _ kt_1201), (hts _ kt_1202)⟩ ⟨fun a U g mk q => ⟨q.1, PTEm.calling q.2⟩, pg_recv hK hP hL_h0 hF_237 (q := (RX15, TX15, 59)) rfl, fun U hU hWm => ⟨rfl, PTEm.mk hU hWm hP hK hD hE hO hG (fun x hx => absurd hx List.not_mem_nil) hS hFc⟩⟩ rfl rfl hl.1 rfl (lv_room (Nat.le_of_ble_eq_true rfl)) dX15_wish_193 ⟨by show _ + 0 ≤ 0; omega, by show _ + 0 ≤ 0; omega⟩) hS (fun q _ h => hFc q h) hFc (fun r_244 gp_243 t H1 locs ht hvm hw hB hz1 hk1 hS => ?_)
                    obtain ⟨F_245, ty9, hty9, hB1, hW9⟩ := hB
                    subst hty9
                    have hR9 := FR.retype (im2 := [ta, ou, so, ad, na, va, lc, dm, tg, pe, ml, bg, co, sp, nb0, nb1, nb2, pl, se, ke, wi, hs, mo, po, nu, pr, sq, xa, sa, n64, m64, ex, wh, sd, tk, hd, ak, ho, ot, sx, s0, s1, s2, nf, bd, mm, fm, sn, (hgr gp_243 hg), (gcr gp_243 gc), (gvr gp_243 gv), ze, zt]) hT_h0 hR
                    have hTU := hT_h0
                    obtain ⟨hP, hD, hO, hR⟩ := QTm.back hB1 ht hFc hR9 (fun q h => by simp only [mem_tgS, List.mem_append, List.mem_cons, List.not_mem_nil, or_false] at h ⊢; omega)
                    obtain ⟨ty, hty, hT_h0, hW, hO, hR⟩ : ∃ t9 : TyM, t9 = rtf ty h0 (15, ρ, [ta, ou, so, ad, na, va, lc, dm, tg, pe, ml, bg, co, sp, nb0, nb1, nb2, pl, se, ke, wi, hs, mo, po, nu, pr, sq, xa, sa, n64, m64, ex, wh, sd, tk, hd, ak, ho, ot, sx, s0, s1, s2, nf, bd, mm, fm, sn, (hgr gp_243 hg), (gcr gp_243 gc), (gvr gp_243 gv), ze, zt]) ∧ t9 h0 = (15, ρ, [ta, ou, so, ad, na, va, lc, dm, tg, pe, ml, bg, co, sp, nb0, nb1, nb2, pl, se, ke, wi, hs, mo, po, nu, pr, sq, xa, sa, n64, m64, ex, wh, sd, tk, hd, ak, ho, ot, sx, s0, s1, s2, nf, bd, mm, fm, sn, (hgr gp_243 hg), (gcr gp_243 gc), (gvr gp_243 gv), ze, zt]) ∧ WTm t9 gm L ∧ OKm cs t9 gm L F_245 ∧ FR t9 (tgS ρ 0 ++ [ρ + 10, ρ + 11, ρ + 12, ρ + 13, ρ + 14, ρ + 15, ρ + 16, ρ + 17, ρ + 18, ρ + 19, ρ + 20, ρ + 21, ρ + 22, ρ + 23, ρ + 24, ρ + 25, ρ + 26, ρ + 28, ρ + 29, ρ + 30, ρ + 81, ρ + 82, ρ + 83, ρ + 84, ρ + 85, ρ + 86]) F F_245 := ⟨_, rfl, rtf_self, hW9, hO, hR⟩
                    generalize H1 = H at hP hS ⊢
                    have hw : ((sn = 0 ∧ r_244 = (-1) ∧ gp_243 = none) ∨ (¬ sn = 0 ∧ r_244 = nI (CHW D ze (sdM LC DN (nI fm)) (nI fm) 11 DN 0 0).1 ∧ gp_243 = some (CHW D ze (sdM LC DN (nI fm)) (nI fm) 11 DN 0 0).2)) := hw
                    have hw_246 := hw
                    obtain ⟨hq_269, hq_270, hq_271, hq_272, hq_273, hgO, hgA, hgB, hq_274⟩ := hW.sc hL_h0 hT_h0
                    have hpm := (hw_246.resolve_left (fun q => hs0 q.1)).2.2
                    have htyP := hty
                    obtain ⟨hi_275, ht_276⟩ := hW.f_se hL_h0 hT_h0
                    obtain ⟨hi_277, hi_278, hi_279, hi_280, ⟨r_281, ht_282⟩, ht_283, ht_284, ht_285, hq_286, hq_287⟩ := hW.tags hi_275 ht_276
                    have ht_282 : ty sx = (14, ρ + 12, [r_281, 3000]) := ht_282
                    have ht_284 : ty s1 = (25, ρ + 81, [40, 1280]) := ht_284
                    have ht_285 : ty s2 = (25, ρ + 82, [40, 1280]) := ht_285
                    obtain ⟨hi_288, ht_289, hq_290⟩ := hW.txt hi_277 ht_282
                    obtain ⟨hi_291, r_250, ht_292⟩ := hW.f_pl hL_h0 hT_h0
                    obtain ⟨hi_293, ht_294, hq_295⟩ := hW.txt hi_291 ht_292
                    obtain ⟨hi_296, r_249, ht_297⟩ := hW.f_pe hL_h0 hT_h0
                    obtain ⟨hi_298, ht_299, hq_300⟩ := hW.txt hi_296 ht_297
                    obtain ⟨hi_301, r_266, ht_302⟩ := hW.f_ak hL_h0 hT_h0
                    obtain ⟨hi_303, ht_304, hq_305⟩ := hW.txt hi_301 ht_302
                    obtain ⟨hi_306, r_267, ht_307⟩ := hW.f_ho hL_h0 hT_h0
                    obtain ⟨hi_308, ht_309, hq_310⟩ := hW.txt hi_306 ht_307
                    obtain ⟨hi_311, x_255, y0_256, y1_257, y2_258, ht_312⟩ := hW.f_wi hL_h0 hT_h0
                    obtain ⟨hi_313, hi_314, hi_315, hi_316, ⟨r_317, ht_318⟩, ht_319, ht_320, ht_321, hq_322, hq_323⟩ := hW.tags hi_311 ht_312
                    have ht_318 : ty x_255 = (14, ρ + 16, [r_317, 700]) := ht_318
                    have ht_320 : ty y1_257 = (25, ρ + 85, [40, 700]) := ht_320
                    have ht_321 : ty y2_258 = (25, ρ + 86, [40, 700]) := ht_321
                    obtain ⟨hi_324, r_248, ht_325⟩ := hW.f_dm hL_h0 hT_h0
                    obtain ⟨hi_326, ht_327, hq_328⟩ := hW.txt hi_324 ht_325
                    obtain ⟨hi_329, r_265, ht_330⟩ := hW.f_sd hL_h0 hT_h0
                    obtain ⟨hi_331, ht_332, hq_333⟩ := hW.txt hi_329 ht_330
                    obtain ⟨hi_334, ht_335⟩ := hW.f_ml hL_h0 hT_h0
                    obtain ⟨hq_336, hq_337⟩ := hW.octs hi_334 ht_335
                    refine lv_iconst (v := 2) hx hb dX15_wish_196 (by decide) ?_
                    refine lv_icmp_ne (tgt := 230) hx hb dX15_wish_197 (by decide) (fun c_338 => ?_) (fun c_338 => ?_)
                    ·
                      refine lv_iconst (v := 0) hx hb dX15_wish_230 (by decide) ?_
                      refine lv_istore (lv' := [(5, .int 0), (4, .int s4), (0, .ref h0), (1, .int x1)]) hx hb dX15_wish_231 hl (by decide) rfl (fun ls hl => ?_)
                      refine W.widen (k := 0) (n := 0) (by omega) (by omega) ?_
                      refine pl_loopm (σ := Nat) A (dC, dI) cs ty gm L (tgS ρ 0 ++ [ρ + 10, ρ + 11, ρ + 12, ρ + 13, ρ + 14, ρ + 15, ρ + 16, ρ + 17, ρ + 18, ρ + 19, ρ + 20, ρ + 21, ρ + 22, ρ + 23, ρ + 24, ρ + 25, ρ + 26, ρ + 28, ρ + 29, ρ + 30, ρ + 81, ρ + 82, ρ + 83, ρ + 84, ρ + 85, ρ + 86]) F 233 6 (fun j => [(5, .int (nI j)), (4, .int s4), (0, .ref h0), (1, .int x1)]) (fun j => []) (fun j _ => j ≤ nf) (fun j => nf - j) ?_ 0 F_245 (by omega) hO hR _ _ hP hD hS ls (lv_sub hl [0, 1, 2, 3] rfl)
                      rintro j F_339 hv_340 hO hR ih_341 H locs hP hD hS ls hl
                      have hl : lv_has ls 6 [(5, .int (nI j)), (4, .int s4), (0, .ref h0), (1, .int x1)] := hl
                      have hv_340 : j ≤ nf := hv_340
                      refine W.eq (g2 := F0 m 233 ls []) rfl ?_
                      refine lv_iload hx hb dX15_wish_233 (lv_at hl 0 rfl) ?_
                      refine lv_aload_n hx hb dX15_wish_235 rfl (lv_at hl 2 rfl) ?_
                      obtain ⟨zo_342, v14_343, v15_344, v17_345, v18_346, v19_347, v20_348, v21_349, v22_350, v33_351, v52_352, v53_353, v54_354, hF_355, hq_356, hq_357, hq_358, hq_359, hq_360⟩ := hO.mod hL_h0 hT_h0
                      refine pg_get (ci := 15) (v := .int (nI nf)) (C := RX15) (T := TX15) (N := 59) hx hb hts it_15 hown hK hP hL_h0 hF_355 rfl 30 (by decide) (hts _ kt_892) (fun _ h9 => h9) rfl dX15_wish_236 ?_
                      refine lv_icmp_ge (tgt := 304) hx hb dX15_wish_239 (by decide) (fun c_361 => ?_) (fun c_361 => ?_)
                      ·
                        have hi_362 : nf ≤ j := leN (N := nf) c_361
                        refine lv_iload hx hb dX15_wish_304 (lv_at hl 1 rfl) ?_
                        refine W.widen (k := 0) (n := 0) (by omega) (by omega) ?_
                        exact W.iret (v := s4) hx hb hr (fun t ht hWm => ⟨⟨s4, gp_243, rfl, trivial, ⟨F_339, ty, htyP, QTm.mk ht hP hD hO hR, hW, (Or.inr ⟨hs0, Int32.not_lt.mpr c_102, hn0, _, snr_plr D ze hw_110, Or.inl ⟨by rw [hVe]; exact hop, hpm⟩⟩)⟩⟩, hS.F ht⟩) hS.2.2 dX15_wish_306
                      ·
                        have hi_363 : j < nf := ltN (N := nf) c_361
                        refine lv_aload_n hx hb dX15_wish_242 rfl (lv_at hl 2 rfl) ?_
                        refine lv_iload hx hb dX15_wish_243 (lv_at hl 0 rfl) ?_
                        obtain ⟨q_364, v_365, hr_q_364, hX_q_364⟩ := hG.2.2 ("PostGateModel", 376, "dkim-signature", [100, 107, 105, 109, 45, 115, 105, 103, 110, 97, 116, 117, 114, 101]) (by decide +kernel)
                        have hX_q_364 : SXc q_364 v_365 14 (cct [100, 107, 105, 109, 45, 115, 105, 103, 110, 97, 116, 117, 114, 101]) A s s.heap := hX_q_364
                        obtain ⟨xo_q_364, xc_q_364, xv_q_364, xt_q_364, xn_q_364⟩ := id hX_q_364
                        have hr_q_364 : vk_R "PostGateModel" 376 "dkim-signature" q_364 s := hr_q_364
                        refine va_ldcwS hx hb hown hr_q_364 dX15_wish_245 ?_
                        have hFc := pg_free hD hS hA
                        refine va_calli (va_runV (As := [.int (nI j), .ref q_364]) (rest := []) ⟨hx, hb, hml, hown, hts⟩ (s_X15_isNamed l dC dI cs ty gm L H.size F_339 h0 ρ ta ou so ad na va lc dm tg pe ml bg co sp nb0 nb1 nb2 pl se ke wi hs mo po nu pr sq xa sa n64 m64 ex wh sd tk hd ak ho ot sx s0 s1 s2 nf bd mm fm sn (hgr gp_243 hg) (gcr gp_243 gc) (gvr gp_243 gv) ze zt j q_364 v_365 14 (cct [100, 107, 105, 109, 45, 115, 105, 103, 110, 97, 116, 117, 114, 101]) hW hL_h0 hT_h0 (by first | omega | assumption | exact Or.inl rfl)) ⟨callB_of 2 hts (gi kt_893) rfl rfl rfl (hts _ kt_669) (hts _ kt_894) (by decide +kernel) ⟨Nat.le_of_ble_eq_true rfl, Nat.le_of_ble_eq_true rfl⟩, (hts _ kt_895), (hts _ kt_896)⟩ ⟨fun a U g mk q => ⟨q.1, PTEm.calling q.2⟩, pg_recv hK hP hL_h0 hF_355 (q := (RX15, TX15, 59)) rfl, fun U hU hWm => ⟨rfl, PTEm.mk hU hWm hP hK hD hE hO hG (fun x hx => by rw [List.mem_singleton] at hx; subst hx; exact hX_q_364) hS hFc⟩⟩ rfl rfl hl.1 rfl (lv_room (Nat.le_of_ble_eq_true rfl)) dX15_wish_248 ⟨by show _ + 0 ≤ 0; omega, by show _ + 0 ≤ 0; omega⟩) hS (fun q _ h => hFc q h) hFc (fun r_366 u t H1 locs ht hvm hw hB hz1 hk1 hS => ?_)
                        obtain ⟨F_367, hB1⟩ := hB
                        obtain rfl : F_339 = F_367 := (funext (fun a => hB1.2.2.2 a List.not_mem_nil)).symm
                        obtain ⟨hP, hD, hO, hR⟩ := QTm.back hB1 ht hFc hR (fun q h => absurd h List.not_mem_nil)
                        generalize H1 = H at hP hS ⊢
                        have hw : (r_366 = 0 ∨ r_366 = 1) := hw
                        have hw_368 := hw
                        refine lv_if_eq (tgt := 298) hx hb dX15_wish_251 (by decide) (fun c_369 => ?_) (fun c_369 => ?_)
                        ·
                          refine lv_iinc (v := (nI (j + 1))) (lv' := [(5, .int (nI (j + 1))), (4, .int s4), (0, .ref h0), (1, .int x1)]) hx hb dX15_wish_298 hl (k := 0) rfl (nI_1 _) (by decide) rfl (fun ls hl => ?_)
                          refine lv_goto (tgt := 233) hx hb dX15_wish_301 (by decide) ?_
                          refine W.widen (k := 0) (n := 0) (by omega) (by omega) ?_
                          exact ih_341 (j + 1) F_339 (by first | omega | exact ⟨by omega, by omega⟩ | trivial) (by show nf - (j + 1) < nf - j; omega) hO hR _ _ hP hD hS ls (lv_sub hl [0, 1, 2, 3] rfl)
                        ·
                          refine lv_aload_n hx hb dX15_wish_254 rfl (lv_at hl 2 rfl) ?_
                          refine lv_iload hx hb dX15_wish_255 (lv_at hl 0 rfl) ?_
                          refine lv_iload_n hx hb dX15_wish_257 rfl (lv_at hl 3 rfl) ?_
                          have hFc := pg_free hD hS hA
                          refine va_calli (va_runV (As := [.int (nI j), .int x1]) (rest := []) ⟨hx, hb, hml, hown, hts⟩ (s_X15_sealOf l dC dI cs ty gm L H.size F_339 h0 ρ ta ou so ad na va lc dm tg pe ml bg co sp nb0 nb1 nb2 pl se ke wi hs mo po nu pr sq xa sa n64 m64 ex wh sd tk hd ak ho ot sx s0 s1 s2 nf bd mm fm sn (hgr gp_243 hg) (gcr gp_243 gc) (gvr gp_243 gv) ze zt r_281 r_250 j x1 hW hL_h0 hT_h0 hi_277 ht_282 hi_291 ht_292 (by first | omega | assumption | exact Or.inl rfl)) ⟨callB_of 2 hts (gi kt_995) rfl rfl rfl (hts _ kt_669) (hts _ kt_996) (by decide +kernel) ⟨Nat.le_of_ble_eq_true rfl, Nat.le_of_ble_eq_true rfl⟩, (hts _ kt_997), (hts _ kt_998)⟩ ⟨fun a U g mk q => ⟨q.1, PTEm.calling q.2⟩, pg_recv hK hP hL_h0 hF_355 (q := (RX15, TX15, 59)) rfl, fun U hU hWm => ⟨rfl, PTEm.mk hU hWm hP hK hD hE hO hG (fun x hx => absurd hx List.not_mem_nil) hS hFc⟩⟩ rfl rfl hl.1 rfl (lv_room (Nat.le_of_ble_eq_true rfl)) dX15_wish_258 ⟨by show _ + 0 ≤ 0; omega, by show _ + 0 ≤ 0; omega⟩) hS (fun q _ h => hFc q h) hFc (fun r_370 u t H1 locs ht hvm hw hB hz1 hk1 hS => ?_)
                          obtain ⟨F_371, hB1⟩ := hB
                          obtain ⟨hP, hD, hO, hR⟩ := QTm.back hB1 ht hFc hR (fun q h => by simp only [mem_tgS, List.mem_append, List.mem_cons, List.not_mem_nil, or_false] at h ⊢; omega)
                          generalize H1 = H at hP hS ⊢
                          have hw : True := hw
                          have hw_372 := hw
                          refine lv_iconst (v := 2) hx hb dX15_wish_261 (by decide) ?_
                          refine lv_icmp_eq (tgt := 268) hx hb dX15_wish_262 (by decide) (fun c_373 => ?_) (fun c_373 => ?_)
                          ·
                            refine lv_aload_n hx hb dX15_wish_268 rfl (lv_at hl 2 rfl) ?_
                            refine lv_aload_n hx hb dX15_wish_269 rfl (lv_at hl 2 rfl) ?_
                            obtain ⟨zo_374, v14_375, v15_376, v17_377, v18_378, v19_379, v20_380, v21_381, v22_382, v33_383, v52_384, v53_385, v54_386, hF_387, hq_388, hq_389, hq_390, hq_391, hq_392⟩ := hO.mod hL_h0 hT_h0
                            refine pg_get (ci := 15) (v := .ref sd) (C := RX15) (T := TX15) (N := 59) hx hb hts it_15 hown hK hP hL_h0 hF_387 rfl 50 (by decide) (hts _ kt_971) (fun _ h9 => h9) rfl dX15_wish_270 ?_
                            refine lv_aload_n hx hb dX15_wish_273 rfl (lv_at hl 2 rfl) ?_
                            refine pg_get (ci := 15) (v := .ref ak) (C := RX15) (T := TX15) (N := 59) hx hb hts it_15 hown hK hP hL_h0 hF_387 rfl 56 (by decide) (hts _ kt_999) (fun _ h9 => h9) rfl dX15_wish_274 ?_
                            refine lv_aload_n hx hb dX15_wish_277 rfl (lv_at hl 2 rfl) ?_
                            refine pg_get (ci := 15) (v := .ref wi) (C := RX15) (T := TX15) (N := 59) hx hb hts it_15 hown hK hP hL_h0 hF_387 rfl 37 (by decide) (hts _ kt_1138) (fun _ h9 => h9) rfl dX15_wish_278 ?_
                            obtain ⟨q_393, v_394, hr_q_393, hX_q_393⟩ := hG.2.2 ("PostGateModel", 601, "adkim", [97, 100, 107, 105, 109]) (by decide +kernel)
                            have hX_q_393 : SXc q_393 v_394 5 (cct [97, 100, 107, 105, 109]) A s s.heap := hX_q_393
                            obtain ⟨xo_q_393, xc_q_393, xv_q_393, xt_q_393, xn_q_393⟩ := id hX_q_393
                            have hr_q_393 : vk_R "PostGateModel" 601 "adkim" q_393 s := hr_q_393
                            refine va_ldcwS hx hb hown hr_q_393 dX15_wish_281 ?_
                            obtain ⟨q_395, v_396, hr_q_395, hX_q_395⟩ := hG.2.2 ("PostGateModel", 460, "s", [115]) (by decide +kernel)
                            have hX_q_395 : SXc q_395 v_396 1 (cct [115]) A s s.heap := hX_q_395
                            obtain ⟨xo_q_395, xc_q_395, xv_q_395, xt_q_395, xn_q_395⟩ := id hX_q_395
                            have hr_q_395 : vk_R "PostGateModel" 460 "s" q_395 s := hr_q_395
                            refine va_ldcwS hx hb hown hr_q_395 dX15_wish_284 ?_
                            obtain ⟨hi_397, ht_398, hq_399⟩ := hW.txt hi_313 ht_318
                            obtain ⟨z_400, hF_401, hq_402⟩ := hO.tags hi_311 ht_312
                            have hFc := pg_free hD hS hA
                            refine va_calli (va_runV (As := [.ref q_393, .ref q_395]) (rest := [.ref ak, .ref sd, .ref h0]) ⟨hx, hb, hml, hown, hts⟩ (s_X13_has l dC dI cs ty gm L H.size F_371 wi (ρ + 15) x_255 700 700 y0_256 y1_257 y2_258 r_317 z_400 q_393 v_394 5 (cct [97, 100, 107, 105, 109]) q_395 v_396 1 (cct [115]) hW hi_311 ht_312 hi_313 ht_318 hF_401 (by first | omega | assumption | exact Or.inl rfl)) ⟨callB_of 2 hts (gi kt_863) rfl rfl rfl (hts _ kt_829) (hts _ kt_864) (by decide +kernel) ⟨Nat.le_of_ble_eq_true rfl, Nat.le_of_ble_eq_true rfl⟩, (hts _ kt_865), (hts _ kt_866)⟩ ⟨fun a U g mk q => ⟨q.1, PTEm.calling q.2⟩, pg_recv hK hP hi_311 hF_401 (q := (RX13, TX13, 5)) rfl, fun U hU hWm => ⟨rfl, PTEm.mk hU hWm hP hK hD hE hO hG (fun x hx => by simp only [mem_tgS, List.mem_append, List.mem_cons, List.not_mem_nil, or_false] at hx; rcases hx with hx | hx <;> subst hx <;> first | exact hX_q_393 | exact hX_q_395) hS hFc⟩⟩ rfl rfl hl.1 rfl (lv_room (Nat.le_of_ble_eq_true rfl)) dX15_wish_287 ⟨by show _ + 0 ≤ 0; omega, by show _ + 0 ≤ 0; omega⟩) hS (fun q _ h => hFc q h) hFc (fun r_403 u t H1 locs ht hvm hw hB hz1 hk1 hS => ?_)
                            obtain ⟨F_404, hB1⟩ := hB
                            obtain rfl : F_371 = F_404 := (funext (fun a => hB1.2.2.2 a List.not_mem_nil)).symm
                            obtain ⟨hP, hD, hO, hR⟩ := QTm.back hB1 ht hFc hR (fun q h => absurd h List.not_mem_nil)
                            generalize H1 = H at hP hS ⊢
                            have hw : (r_403 = 0 ∨ r_403 = 1) := hw
                            have hw_405 := hw
                            have hFc := pg_free hD hS hA
                            refine va_calli (va_runV (As := [.ref sd, .ref ak, .int r_403]) (rest := []) ⟨hx, hb, hml, hown, hts⟩ (s_X15_isAligned l dC dI cs ty gm L H.size F_371 h0 ρ ta ou so ad na va lc dm tg pe ml bg co sp nb0 nb1 nb2 pl se ke wi hs mo po nu pr sq xa sa n64 m64 ex wh sd tk hd ak ho ot sx s0 s1 s2 nf bd mm fm sn (hgr gp_243 hg) (gcr gp_243 gc) (gvr gp_243 gv) ze zt sd (ρ + 25) r_265 3000 ak (ρ + 28) r_266 6000 r_403 hW hL_h0 hT_h0 hi_329 ht_330 hi_301 ht_302 (by first | omega | assumption | exact Or.inl rfl) (by first | omega | assumption | exact Or.inl rfl)) ⟨callB_of 3 hts (gi kt_1203) rfl rfl rfl (hts _ kt_669) (hts _ kt_1204) (by decide +kernel) ⟨Nat.le_of_ble_eq_true rfl, Nat.le_of_ble_eq_true rfl⟩, (hts _ kt_1205), (hts _ kt_1206)⟩ ⟨fun a U g mk q => ⟨q.1, PTm.calling q.2⟩, pg_recv hK hP hL_h0 hF_387 (q := (RX15, TX15, 59)) rfl, fun U hU hWm => ⟨rfl, PTm.mk hU hWm hP hK hD hE hO⟩⟩ rfl rfl hl.1 rfl (lv_room (Nat.le_of_ble_eq_true rfl)) dX15_wish_290 ⟨by show _ + 0 ≤ 0; omega, by show _ + 0 ≤ 0; omega⟩) hS (fun q _ h => hFc q h) hFc (fun r_406 u t H1 locs ht hvm hw hB hz1 hk1 hS => ?_)
                            obtain ⟨F_407, hB1⟩ := hB
                            obtain ⟨hP, hD, hO, hR⟩ := QTm.back hB1 ht hFc hR (fun q h => by simp only [mem_tgS, List.mem_append, List.mem_cons, List.not_mem_nil, or_false] at h ⊢; omega)
                            have hF_408 : F_407 h0 = .inr (15, (.ref ta) :: (.int (nI zt)) :: (.int (nI zo_374)) :: (.int (nI ze)) :: (.ref ou) :: (.ref so) :: (.ref ad) :: (.ref na) :: (.ref va) :: (.ref lc) :: (.ref dm) :: (.int (nI fm)) :: (.int (nI sn)) :: (.ref tg) :: (.int v14_375) :: (.int v15_376) :: (.ref pe) :: (.int v17_377) :: (.int v18_378) :: (.int v19_379) :: (.int v20_380) :: (.int v21_381) :: (.int v22_382) :: (.ref ml) :: (.ref bg) :: (.ref co) :: (.ref sp) :: (.ref nb0) :: (.ref nb1) :: (.ref nb2) :: (.int (nI nf)) :: (.int (nI bd)) :: (.int (nI mm)) :: (.int v33_383) :: (.ref pl) :: (.ref se) :: (.ref ke) :: (.ref wi) :: (.ref hs) :: (.ref mo) :: (.ref po) :: (.ref nu) :: (.ref pr) :: (.ref sq) :: (.ref xa) :: (.ref sa) :: (.ref n64) :: (.ref m64) :: (.ref ex) :: (.ref wh) :: (.ref sd) :: (.ref tk) :: (.int v52_384) :: (.int v53_385) :: (.int v54_386) :: (.ref hd) :: (.ref ak) :: (.ref ho) :: (.ref ot) :: []) := (hB1.2.2.2 h0 (by rw [hT_h0]; simp)).trans hF_387
                            have hF_409 : F_407 wi = .inr (13, [.ref x_255, .ref y0_256, .ref y1_257, .ref y2_258, .int (nI z_400)]) := (hB1.2.2.2 wi (by rw [ht_312]; simp)).trans hF_401
                            generalize H1 = H at hP hS ⊢
                            have hw : (r_406 = 0 ∨ r_406 = 1) := hw
                            have hw_410 := hw
                            refine lv_if_eq (tgt := 298) hx hb dX15_wish_293 (by decide) (fun c_411 => ?_) (fun c_411 => ?_)
                            ·
                              refine lv_iinc (v := (nI (j + 1))) (lv' := [(5, .int (nI (j + 1))), (4, .int s4), (0, .ref h0), (1, .int x1)]) hx hb dX15_wish_298 hl (k := 0) rfl (nI_1 _) (by decide) rfl (fun ls hl => ?_)
                              refine lv_goto (tgt := 233) hx hb dX15_wish_301 (by decide) ?_
                              refine W.widen (k := 0) (n := 0) (by omega) (by omega) ?_
                              exact ih_341 (j + 1) F_407 (by first | omega | exact ⟨by omega, by omega⟩ | trivial) (by show nf - (j + 1) < nf - j; omega) hO hR _ _ hP hD hS ls (lv_sub hl [0, 1, 2, 3] rfl)
                            ·
                              refine lv_iconst (v := 2) hx hb dX15_wish_296 (by decide) ?_
                              refine W.widen (k := 0) (n := 0) (by omega) (by omega) ?_
                              exact W.iret (v := 2) hx hb hr (fun t ht hWm => ⟨⟨2, gp_243, rfl, trivial, ⟨F_407, ty, htyP, QTm.mk ht hP hD hO hR, hW, (Or.inr ⟨hs0, Int32.not_lt.mpr c_102, hn0, _, snr_plr D ze hw_110, Or.inl ⟨by rw [hVe]; exact hop, hpm⟩⟩)⟩⟩, hS.F ht⟩) hS.2.2 dX15_wish_297
                          ·
                            refine lv_goto (tgt := 298) hx hb dX15_wish_265 (by decide) ?_
                            refine lv_iinc (v := (nI (j + 1))) (lv' := [(5, .int (nI (j + 1))), (4, .int s4), (0, .ref h0), (1, .int x1)]) hx hb dX15_wish_298 hl (k := 0) rfl (nI_1 _) (by decide) rfl (fun ls hl => ?_)
                            refine lv_goto (tgt := 233) hx hb dX15_wish_301 (by decide) ?_
                            refine W.widen (k := 0) (n := 0) (by omega) (by omega) ?_
                            exact ih_341 (j + 1) F_371 (by first | omega | exact ⟨by omega, by omega⟩ | trivial) (by show nf - (j + 1) < nf - j; omega) hO hR _ _ hP hD hS ls (lv_sub hl [0, 1, 2, 3] rfl)
                    ·
                      refine lv_aload_n hx hb dX15_wish_200 rfl (lv_at hl 1 rfl) ?_
                      refine lv_aload_n hx hb dX15_wish_201 rfl (lv_at hl 1 rfl) ?_
                      obtain ⟨zo_412, v14_413, v15_414, v17_415, v18_416, v19_417, v20_418, v21_419, v22_420, v33_421, v52_422, v53_423, v54_424, hF_425, hq_426, hq_427, hq_428, hq_429, hq_430⟩ := hO.mod hL_h0 hT_h0
                      refine pg_get (ci := 15) (v := .ref dm) (C := RX15) (T := TX15) (N := 59) hx hb hts it_15 hown hK hP hL_h0 hF_425 rfl 10 (by decide) (hts _ kt_1130) (fun _ h9 => h9) rfl dX15_wish_202 ?_
                      refine lv_aload_n hx hb dX15_wish_205 rfl (lv_at hl 1 rfl) ?_
                      refine pg_get (ci := 15) (v := .ref ak) (C := RX15) (T := TX15) (N := 59) hx hb hts it_15 hown hK hP hL_h0 hF_425 rfl 56 (by decide) (hts _ kt_999) (fun _ h9 => h9) rfl dX15_wish_206 ?_
                      refine lv_aload_n hx hb dX15_wish_209 rfl (lv_at hl 1 rfl) ?_
                      refine pg_get (ci := 15) (v := .ref wi) (C := RX15) (T := TX15) (N := 59) hx hb hts it_15 hown hK hP hL_h0 hF_425 rfl 37 (by decide) (hts _ kt_1138) (fun _ h9 => h9) rfl dX15_wish_210 ?_
                      obtain ⟨q_431, v_432, hr_q_431, hX_q_431⟩ := hG.2.2 ("PostGateModel", 595, "aspf", [97, 115, 112, 102]) (by decide +kernel)
                      have hX_q_431 : SXc q_431 v_432 4 (cct [97, 115, 112, 102]) A s s.heap := hX_q_431
                      obtain ⟨xo_q_431, xc_q_431, xv_q_431, xt_q_431, xn_q_431⟩ := id hX_q_431
                      have hr_q_431 : vk_R "PostGateModel" 595 "aspf" q_431 s := hr_q_431
                      refine va_ldcwS hx hb hown hr_q_431 dX15_wish_213 ?_
                      obtain ⟨q_433, v_434, hr_q_433, hX_q_433⟩ := hG.2.2 ("PostGateModel", 460, "s", [115]) (by decide +kernel)
                      have hX_q_433 : SXc q_433 v_434 1 (cct [115]) A s s.heap := hX_q_433
                      obtain ⟨xo_q_433, xc_q_433, xv_q_433, xt_q_433, xn_q_433⟩ := id hX_q_433
                      have hr_q_433 : vk_R "PostGateModel" 460 "s" q_433 s := hr_q_433
                      refine va_ldcwS hx hb hown hr_q_433 dX15_wish_216 ?_
                      obtain ⟨hi_435, ht_436, hq_437⟩ := hW.txt hi_313 ht_318
                      obtain ⟨z_438, hF_439, hq_440⟩ := hO.tags hi_311 ht_312
                      have hFc := pg_free hD hS hA
                      refine va_calli (va_runV (As := [.ref q_431, .ref q_433]) (rest := [.ref ak, .ref dm, .ref h0]) ⟨hx, hb, hml, hown, hts⟩ (s_X13_has l dC dI cs ty gm L H.size F_245 wi (ρ + 15) x_255 700 700 y0_256 y1_257 y2_258 r_317 z_438 q_431 v_432 4 (cct [97, 115, 112, 102]) q_433 v_434 1 (cct [115]) hW hi_311 ht_312 hi_313 ht_318 hF_439 (by first | omega | assumption | exact Or.inl rfl)) ⟨callB_of 2 hts (gi kt_863) rfl rfl rfl (hts _ kt_829) (hts _ kt_864) (by decide +kernel) ⟨Nat.le_of_ble_eq_true rfl, Nat.le_of_ble_eq_true rfl⟩, (hts _ kt_865), (hts _ kt_866)⟩ ⟨fun a U g mk q => ⟨q.1, PTEm.calling q.2⟩, pg_recv hK hP hi_311 hF_439 (q := (RX13, TX13, 5)) rfl, fun U hU hWm => ⟨rfl, PTEm.mk hU hWm hP hK hD hE hO hG (fun x hx => by simp only [mem_tgS, List.mem_append, List.mem_cons, List.not_mem_nil, or_false] at hx; rcases hx with hx | hx <;> subst hx <;> first | exact hX_q_431 | exact hX_q_433) hS hFc⟩⟩ rfl rfl hl.1 rfl (lv_room (Nat.le_of_ble_eq_true rfl)) dX15_wish_219 ⟨by show _ + 0 ≤ 0; omega, by show _ + 0 ≤ 0; omega⟩) hS (fun q _ h => hFc q h) hFc (fun r_441 u t H1 locs ht hvm hw hB hz1 hk1 hS => ?_)
                      obtain ⟨F_442, hB1⟩ := hB
                      obtain rfl : F_245 = F_442 := (funext (fun a => hB1.2.2.2 a List.not_mem_nil)).symm
                      obtain ⟨hP, hD, hO, hR⟩ := QTm.back hB1 ht hFc hR (fun q h => absurd h List.not_mem_nil)
                      generalize H1 = H at hP hS ⊢
                      have hw : (r_441 = 0 ∨ r_441 = 1) := hw
                      have hw_443 := hw
                      have hFc := pg_free hD hS hA
                      refine va_calli (va_runV (As := [.ref dm, .ref ak, .int r_441]) (rest := []) ⟨hx, hb, hml, hown, hts⟩ (s_X15_isAligned l dC dI cs ty gm L H.size F_245 h0 ρ ta ou so ad na va lc dm tg pe ml bg co sp nb0 nb1 nb2 pl se ke wi hs mo po nu pr sq xa sa n64 m64 ex wh sd tk hd ak ho ot sx s0 s1 s2 nf bd mm fm sn (hgr gp_243 hg) (gcr gp_243 gc) (gvr gp_243 gv) ze zt dm (ρ + 32) r_248 60 ak (ρ + 28) r_266 6000 r_441 hW hL_h0 hT_h0 hi_324 ht_325 hi_301 ht_302 (by first | omega | assumption | exact Or.inl rfl) (by first | omega | assumption | exact Or.inl rfl)) ⟨callB_of 3 hts (gi kt_1203) rfl rfl rfl (hts _ kt_669) (hts _ kt_1204) (by decide +kernel) ⟨Nat.le_of_ble_eq_true rfl, Nat.le_of_ble_eq_true rfl⟩, (hts _ kt_1205), (hts _ kt_1206)⟩ ⟨fun a U g mk q => ⟨q.1, PTm.calling q.2⟩, pg_recv hK hP hL_h0 hF_425 (q := (RX15, TX15, 59)) rfl, fun U hU hWm => ⟨rfl, PTm.mk hU hWm hP hK hD hE hO⟩⟩ rfl rfl hl.1 rfl (lv_room (Nat.le_of_ble_eq_true rfl)) dX15_wish_222 ⟨by show _ + 0 ≤ 0; omega, by show _ + 0 ≤ 0; omega⟩) hS (fun q _ h => hFc q h) hFc (fun r_444 u t H1 locs ht hvm hw hB hz1 hk1 hS => ?_)
                      obtain ⟨F_445, hB1⟩ := hB
                      obtain ⟨hP, hD, hO, hR⟩ := QTm.back hB1 ht hFc hR (fun q h => by simp only [mem_tgS, List.mem_append, List.mem_cons, List.not_mem_nil, or_false] at h ⊢; omega)
                      have hF_446 : F_445 h0 = .inr (15, (.ref ta) :: (.int (nI zt)) :: (.int (nI zo_412)) :: (.int (nI ze)) :: (.ref ou) :: (.ref so) :: (.ref ad) :: (.ref na) :: (.ref va) :: (.ref lc) :: (.ref dm) :: (.int (nI fm)) :: (.int (nI sn)) :: (.ref tg) :: (.int v14_413) :: (.int v15_414) :: (.ref pe) :: (.int v17_415) :: (.int v18_416) :: (.int v19_417) :: (.int v20_418) :: (.int v21_419) :: (.int v22_420) :: (.ref ml) :: (.ref bg) :: (.ref co) :: (.ref sp) :: (.ref nb0) :: (.ref nb1) :: (.ref nb2) :: (.int (nI nf)) :: (.int (nI bd)) :: (.int (nI mm)) :: (.int v33_421) :: (.ref pl) :: (.ref se) :: (.ref ke) :: (.ref wi) :: (.ref hs) :: (.ref mo) :: (.ref po) :: (.ref nu) :: (.ref pr) :: (.ref sq) :: (.ref xa) :: (.ref sa) :: (.ref n64) :: (.ref m64) :: (.ref ex) :: (.ref wh) :: (.ref sd) :: (.ref tk) :: (.int v52_422) :: (.int v53_423) :: (.int v54_424) :: (.ref hd) :: (.ref ak) :: (.ref ho) :: (.ref ot) :: []) := (hB1.2.2.2 h0 (by rw [hT_h0]; simp)).trans hF_425
                      have hF_447 : F_445 wi = .inr (13, [.ref x_255, .ref y0_256, .ref y1_257, .ref y2_258, .int (nI z_438)]) := (hB1.2.2.2 wi (by rw [ht_312]; simp)).trans hF_439
                      generalize H1 = H at hP hS ⊢
                      have hw : (r_444 = 0 ∨ r_444 = 1) := hw
                      have hw_448 := hw
                      refine lv_if_eq (tgt := 230) hx hb dX15_wish_225 (by decide) (fun c_449 => ?_) (fun c_449 => ?_)
                      ·
                        refine lv_iconst (v := 0) hx hb dX15_wish_230 (by decide) ?_
                        refine lv_istore (lv' := [(5, .int 0), (4, .int s4), (0, .ref h0), (1, .int x1)]) hx hb dX15_wish_231 hl (by decide) rfl (fun ls hl => ?_)
                        refine W.widen (k := 0) (n := 0) (by omega) (by omega) ?_
                        refine pl_loopm (σ := Nat) A (dC, dI) cs ty gm L (tgS ρ 0 ++ [ρ + 10, ρ + 11, ρ + 12, ρ + 13, ρ + 14, ρ + 15, ρ + 16, ρ + 17, ρ + 18, ρ + 19, ρ + 20, ρ + 21, ρ + 22, ρ + 23, ρ + 24, ρ + 25, ρ + 26, ρ + 28, ρ + 29, ρ + 30, ρ + 81, ρ + 82, ρ + 83, ρ + 84, ρ + 85, ρ + 86]) F 233 6 (fun j => [(5, .int (nI j)), (4, .int s4), (0, .ref h0), (1, .int x1)]) (fun j => []) (fun j _ => j ≤ nf) (fun j => nf - j) ?_ 0 F_445 (by omega) hO hR _ _ hP hD hS ls (lv_sub hl [0, 1, 2, 3] rfl)
                        rintro j F_450 hv_451 hO hR ih_452 H locs hP hD hS ls hl
                        have hl : lv_has ls 6 [(5, .int (nI j)), (4, .int s4), (0, .ref h0), (1, .int x1)] := hl
                        have hv_451 : j ≤ nf := hv_451
                        refine W.eq (g2 := F0 m 233 ls []) rfl ?_
                        refine lv_iload hx hb dX15_wish_233 (lv_at hl 0 rfl) ?_
                        refine lv_aload_n hx hb dX15_wish_235 rfl (lv_at hl 2 rfl) ?_
                        obtain ⟨zo_453, v14_454, v15_455, v17_456, v18_457, v19_458, v20_459, v21_460, v22_461, v33_462, v52_463, v53_464, v54_465, hF_466, hq_467, hq_468, hq_469, hq_470, hq_471⟩ := hO.mod hL_h0 hT_h0
                        refine pg_get (ci := 15) (v := .int (nI nf)) (C := RX15) (T := TX15) (N := 59) hx hb hts it_15 hown hK hP hL_h0 hF_466 rfl 30 (by decide) (hts _ kt_892) (fun _ h9 => h9) rfl dX15_wish_236 ?_
                        refine lv_icmp_ge (tgt := 304) hx hb dX15_wish_239 (by decide) (fun c_472 => ?_) (fun c_472 => ?_)
                        ·
                          have hi_473 : nf ≤ j := leN (N := nf) c_472
                          refine lv_iload hx hb dX15_wish_304 (lv_at hl 1 rfl) ?_
                          refine W.widen (k := 0) (n := 0) (by omega) (by omega) ?_
                          exact W.iret (v := s4) hx hb hr (fun t ht hWm => ⟨⟨s4, gp_243, rfl, trivial, ⟨F_450, ty, htyP, QTm.mk ht hP hD hO hR, hW, (Or.inr ⟨hs0, Int32.not_lt.mpr c_102, hn0, _, snr_plr D ze hw_110, Or.inl ⟨by rw [hVe]; exact hop, hpm⟩⟩)⟩⟩, hS.F ht⟩) hS.2.2 dX15_wish_306
                        ·
                          have hi_474 : j < nf := ltN (N := nf) c_472
                          refine lv_aload_n hx hb dX15_wish_242 rfl (lv_at hl 2 rfl) ?_
                          refine lv_iload hx hb dX15_wish_243 (lv_at hl 0 rfl) ?_
                          obtain ⟨q_475, v_476, hr_q_475, hX_q_475⟩ := hG.2.2 ("PostGateModel", 376, "dkim-signature", [100, 107, 105, 109, 45, 115, 105, 103, 110, 97, 116, 117, 114, 101]) (by decide +kernel)
                          have hX_q_475 : SXc q_475 v_476 14 (cct [100, 107, 105, 109, 45, 115, 105, 103, 110, 97, 116, 117, 114, 101]) A s s.heap := hX_q_475
                          obtain ⟨xo_q_475, xc_q_475, xv_q_475, xt_q_475, xn_q_475⟩ := id hX_q_475
                          have hr_q_475 : vk_R "PostGateModel" 376 "dkim-signature" q_475 s := hr_q_475
                          refine va_ldcwS hx hb hown hr_q_475 dX15_wish_245 ?_
                          have hFc := pg_free hD hS hA
                          refine va_calli (va_runV (As := [.int (nI j), .ref q_475]) (rest := []) ⟨hx, hb, hml, hown, hts⟩ (s_X15_isNamed l dC dI cs ty gm L H.size F_450 h0 ρ ta ou so ad na va lc dm tg pe ml bg co sp nb0 nb1 nb2 pl se ke wi hs mo po nu pr sq xa sa n64 m64 ex wh sd tk hd ak ho ot sx s0 s1 s2 nf bd mm fm sn (hgr gp_243 hg) (gcr gp_243 gc) (gvr gp_243 gv) ze zt j q_475 v_476 14 (cct [100, 107, 105, 109, 45, 115, 105, 103, 110, 97, 116, 117, 114, 101]) hW hL_h0 hT_h0 (by first | omega | assumption | exact Or.inl rfl)) ⟨callB_of 2 hts (gi kt_893) rfl rfl rfl (hts _ kt_669) (hts _ kt_894) (by decide +kernel) ⟨Nat.le_of_ble_eq_true rfl, Nat.le_of_ble_eq_true rfl⟩, (hts _ kt_895), (hts _ kt_896)⟩ ⟨fun a U g mk q => ⟨q.1, PTEm.calling q.2⟩, pg_recv hK hP hL_h0 hF_466 (q := (RX15, TX15, 59)) rfl, fun U hU hWm => ⟨rfl, PTEm.mk hU hWm hP hK hD hE hO hG (fun x hx => by rw [List.mem_singleton] at hx; subst hx; exact hX_q_475) hS hFc⟩⟩ rfl rfl hl.1 rfl (lv_room (Nat.le_of_ble_eq_true rfl)) dX15_wish_248 ⟨by show _ + 0 ≤ 0; omega, by show _ + 0 ≤ 0; omega⟩) hS (fun q _ h => hFc q h) hFc (fun r_477 u t H1 locs ht hvm hw hB hz1 hk1 hS => ?_)
                          obtain ⟨F_478, hB1⟩ := hB
                          obtain rfl : F_450 = F_478 := (funext (fun a => hB1.2.2.2 a List.not_mem_nil)).symm
                          obtain ⟨hP, hD, hO, hR⟩ := QTm.back hB1 ht hFc hR (fun q h => absurd h List.not_mem_nil)
                          generalize H1 = H at hP hS ⊢
                          have hw : (r_477 = 0 ∨ r_477 = 1) := hw
                          have hw_479 := hw
                          refine lv_if_eq (tgt := 298) hx hb dX15_wish_251 (by decide) (fun c_480 => ?_) (fun c_480 => ?_)
                          ·
                            refine lv_iinc (v := (nI (j + 1))) (lv' := [(5, .int (nI (j + 1))), (4, .int s4), (0, .ref h0), (1, .int x1)]) hx hb dX15_wish_298 hl (k := 0) rfl (nI_1 _) (by decide) rfl (fun ls hl => ?_)
                            refine lv_goto (tgt := 233) hx hb dX15_wish_301 (by decide) ?_
                            refine W.widen (k := 0) (n := 0) (by omega) (by omega) ?_
                            exact ih_452 (j + 1) F_450 (by first | omega | exact ⟨by omega, by omega⟩ | trivial) (by show nf - (j + 1) < nf - j; omega) hO hR _ _ hP hD hS ls (lv_sub hl [0, 1, 2, 3] rfl)
                          ·
                            refine lv_aload_n hx hb dX15_wish_254 rfl (lv_at hl 2 rfl) ?_
                            refine lv_iload hx hb dX15_wish_255 (lv_at hl 0 rfl) ?_
                            refine lv_iload_n hx hb dX15_wish_257 rfl (lv_at hl 3 rfl) ?_
                            have hFc := pg_free hD hS hA
                            refine va_calli (va_runV (As := [.int (nI j), .int x1]) (rest := []) ⟨hx, hb, hml, hown, hts⟩ (s_X15_sealOf l dC dI cs ty gm L H.size F_450 h0 ρ ta ou so ad na va lc dm tg pe ml bg co sp nb0 nb1 nb2 pl se ke wi hs mo po nu pr sq xa sa n64 m64 ex wh sd tk hd ak ho ot sx s0 s1 s2 nf bd mm fm sn (hgr gp_243 hg) (gcr gp_243 gc) (gvr gp_243 gv) ze zt r_281 r_250 j x1 hW hL_h0 hT_h0 hi_277 ht_282 hi_291 ht_292 (by first | omega | assumption | exact Or.inl rfl)) ⟨callB_of 2 hts (gi kt_995) rfl rfl rfl (hts _ kt_669) (hts _ kt_996) (by decide +kernel) ⟨Nat.le_of_ble_eq_true rfl, Nat.le_of_ble_eq_true rfl⟩, (hts _ kt_997), (hts _ kt_998)⟩ ⟨fun a U g mk q => ⟨q.1, PTEm.calling q.2⟩, pg_recv hK hP hL_h0 hF_466 (q := (RX15, TX15, 59)) rfl, fun U hU hWm => ⟨rfl, PTEm.mk hU hWm hP hK hD hE hO hG (fun x hx => absurd hx List.not_mem_nil) hS hFc⟩⟩ rfl rfl hl.1 rfl (lv_room (Nat.le_of_ble_eq_true rfl)) dX15_wish_258 ⟨by show _ + 0 ≤ 0; omega, by show _ + 0 ≤ 0; omega⟩) hS (fun q _ h => hFc q h) hFc (fun r_481 u t H1 locs ht hvm hw hB hz1 hk1 hS => ?_)
                            obtain ⟨F_482, hB1⟩ := hB
                            obtain ⟨hP, hD, hO, hR⟩ := QTm.back hB1 ht hFc hR (fun q h => by simp only [mem_tgS, List.mem_append, List.mem_cons, List.not_mem_nil, or_false] at h ⊢; omega)
                            generalize H1 = H at hP hS ⊢
                            have hw : True := hw
                            have hw_483 := hw
                            refine lv_iconst (v := 2) hx hb dX15_wish_261 (by decide) ?_
                            refine lv_icmp_eq (tgt := 268) hx hb dX15_wish_262 (by decide) (fun c_484 => ?_) (fun c_484 => ?_)
                            ·
                              refine lv_aload_n hx hb dX15_wish_268 rfl (lv_at hl 2 rfl) ?_
                              refine lv_aload_n hx hb dX15_wish_269 rfl (lv_at hl 2 rfl) ?_
                              obtain ⟨zo_485, v14_486, v15_487, v17_488, v18_489, v19_490, v20_491, v21_492, v22_493, v33_494, v52_495, v53_496, v54_497, hF_498, hq_499, hq_500, hq_501, hq_502, hq_503⟩ := hO.mod hL_h0 hT_h0
                              refine pg_get (ci := 15) (v := .ref sd) (C := RX15) (T := TX15) (N := 59) hx hb hts it_15 hown hK hP hL_h0 hF_498 rfl 50 (by decide) (hts _ kt_971) (fun _ h9 => h9) rfl dX15_wish_270 ?_
                              refine lv_aload_n hx hb dX15_wish_273 rfl (lv_at hl 2 rfl) ?_
                              refine pg_get (ci := 15) (v := .ref ak) (C := RX15) (T := TX15) (N := 59) hx hb hts it_15 hown hK hP hL_h0 hF_498 rfl 56 (by decide) (hts _ kt_999) (fun _ h9 => h9) rfl dX15_wish_274 ?_
                              refine lv_aload_n hx hb dX15_wish_277 rfl (lv_at hl 2 rfl) ?_
                              refine pg_get (ci := 15) (v := .ref wi) (C := RX15) (T := TX15) (N := 59) hx hb hts it_15 hown hK hP hL_h0 hF_498 rfl 37 (by decide) (hts _ kt_1138) (fun _ h9 => h9) rfl dX15_wish_278 ?_
                              obtain ⟨q_504, v_505, hr_q_504, hX_q_504⟩ := hG.2.2 ("PostGateModel", 601, "adkim", [97, 100, 107, 105, 109]) (by decide +kernel)
                              have hX_q_504 : SXc q_504 v_505 5 (cct [97, 100, 107, 105, 109]) A s s.heap := hX_q_504
                              obtain ⟨xo_q_504, xc_q_504, xv_q_504, xt_q_504, xn_q_504⟩ := id hX_q_504
                              have hr_q_504 : vk_R "PostGateModel" 601 "adkim" q_504 s := hr_q_504
                              refine va_ldcwS hx hb hown hr_q_504 dX15_wish_281 ?_
                              refine va_ldcwS hx hb hown hr_q_433 dX15_wish_284 ?_
                              obtain ⟨z_506, hF_507, hq_508⟩ := hO.tags hi_311 ht_312
                              have hFc := pg_free hD hS hA
                              refine va_calli (va_runV (As := [.ref q_504, .ref q_433]) (rest := [.ref ak, .ref sd, .ref h0]) ⟨hx, hb, hml, hown, hts⟩ (s_X13_has l dC dI cs ty gm L H.size F_482 wi (ρ + 15) x_255 700 700 y0_256 y1_257 y2_258 r_317 z_506 q_504 v_505 5 (cct [97, 100, 107, 105, 109]) q_433 v_434 1 (cct [115]) hW hi_311 ht_312 hi_313 ht_318 hF_507 (by first | omega | assumption | exact Or.inl rfl)) ⟨callB_of 2 hts (gi kt_863) rfl rfl rfl (hts _ kt_829) (hts _ kt_864) (by decide +kernel) ⟨Nat.le_of_ble_eq_true rfl, Nat.le_of_ble_eq_true rfl⟩, (hts _ kt_865), (hts _ kt_866)⟩ ⟨fun a U g mk q => ⟨q.1, PTEm.calling q.2⟩, pg_recv hK hP hi_311 hF_507 (q := (RX13, TX13, 5)) rfl, fun U hU hWm => ⟨rfl, PTEm.mk hU hWm hP hK hD hE hO hG (fun x hx => by simp only [mem_tgS, List.mem_append, List.mem_cons, List.not_mem_nil, or_false] at hx; rcases hx with hx | hx <;> subst hx <;> first | exact hX_q_504 | exact hX_q_433) hS hFc⟩⟩ rfl rfl hl.1 rfl (lv_room (Nat.le_of_ble_eq_true rfl)) dX15_wish_287 ⟨by show _ + 0 ≤ 0; omega, by show _ + 0 ≤ 0; omega⟩) hS (fun q _ h => hFc q h) hFc (fun r_509 u t H1 locs ht hvm hw hB hz1 hk1 hS => ?_)
                              obtain ⟨F_510, hB1⟩ := hB
                              obtain rfl : F_482 = F_510 := (funext (fun a => hB1.2.2.2 a List.not_mem_nil)).symm
                              obtain ⟨hP, hD, hO, hR⟩ := QTm.back hB1 ht hFc hR (fun q h => absurd h List.not_mem_nil)
                              generalize H1 = H at hP hS ⊢
                              have hw : (r_509 = 0 ∨ r_509 = 1) := hw
                              have hw_511 := hw
                              have hFc := pg_free hD hS hA
                              refine va_calli (va_runV (As := [.ref sd, .ref ak, .int r_509]) (rest := []) ⟨hx, hb, hml, hown, hts⟩ (s_X15_isAligned l dC dI cs ty gm L H.size F_482 h0 ρ ta ou so ad na va lc dm tg pe ml bg co sp nb0 nb1 nb2 pl se ke wi hs mo po nu pr sq xa sa n64 m64 ex wh sd tk hd ak ho ot sx s0 s1 s2 nf bd mm fm sn (hgr gp_243 hg) (gcr gp_243 gc) (gvr gp_243 gv) ze zt sd (ρ + 25) r_265 3000 ak (ρ + 28) r_266 6000 r_509 hW hL_h0 hT_h0 hi_329 ht_330 hi_301 ht_302 (by first | omega | assumption | exact Or.inl rfl) (by first | omega | assumption | exact Or.inl rfl)) ⟨callB_of 3 hts (gi kt_1203) rfl rfl rfl (hts _ kt_669) (hts _ kt_1204) (by decide +kernel) ⟨Nat.le_of_ble_eq_true rfl, Nat.le_of_ble_eq_true rfl⟩, (hts _ kt_1205), (hts _ kt_1206)⟩ ⟨fun a U g mk q => ⟨q.1, PTm.calling q.2⟩, pg_recv hK hP hL_h0 hF_498 (q := (RX15, TX15, 59)) rfl, fun U hU hWm => ⟨rfl, PTm.mk hU hWm hP hK hD hE hO⟩⟩ rfl rfl hl.1 rfl (lv_room (Nat.le_of_ble_eq_true rfl)) dX15_wish_290 ⟨by show _ + 0 ≤ 0; omega, by show _ + 0 ≤ 0; omega⟩) hS (fun q _ h => hFc q h) hFc (fun r_512 u t H1 locs ht hvm hw hB hz1 hk1 hS => ?_)
                              obtain ⟨F_513, hB1⟩ := hB
                              obtain ⟨hP, hD, hO, hR⟩ := QTm.back hB1 ht hFc hR (fun q h => by simp only [mem_tgS, List.mem_append, List.mem_cons, List.not_mem_nil, or_false] at h ⊢; omega)
                              have hF_514 : F_513 h0 = .inr (15, (.ref ta) :: (.int (nI zt)) :: (.int (nI zo_485)) :: (.int (nI ze)) :: (.ref ou) :: (.ref so) :: (.ref ad) :: (.ref na) :: (.ref va) :: (.ref lc) :: (.ref dm) :: (.int (nI fm)) :: (.int (nI sn)) :: (.ref tg) :: (.int v14_486) :: (.int v15_487) :: (.ref pe) :: (.int v17_488) :: (.int v18_489) :: (.int v19_490) :: (.int v20_491) :: (.int v21_492) :: (.int v22_493) :: (.ref ml) :: (.ref bg) :: (.ref co) :: (.ref sp) :: (.ref nb0) :: (.ref nb1) :: (.ref nb2) :: (.int (nI nf)) :: (.int (nI bd)) :: (.int (nI mm)) :: (.int v33_494) :: (.ref pl) :: (.ref se) :: (.ref ke) :: (.ref wi) :: (.ref hs) :: (.ref mo) :: (.ref po) :: (.ref nu) :: (.ref pr) :: (.ref sq) :: (.ref xa) :: (.ref sa) :: (.ref n64) :: (.ref m64) :: (.ref ex) :: (.ref wh) :: (.ref sd) :: (.ref tk) :: (.int v52_495) :: (.int v53_496) :: (.int v54_497) :: (.ref hd) :: (.ref ak) :: (.ref ho) :: (.ref ot) :: []) := (hB1.2.2.2 h0 (by rw [hT_h0]; simp)).trans hF_498
                              have hF_515 : F_513 wi = .inr (13, [.ref x_255, .ref y0_256, .ref y1_257, .ref y2_258, .int (nI z_506)]) := (hB1.2.2.2 wi (by rw [ht_312]; simp)).trans hF_507
                              generalize H1 = H at hP hS ⊢
                              have hw : (r_512 = 0 ∨ r_512 = 1) := hw
                              have hw_516 := hw
                              refine lv_if_eq (tgt := 298) hx hb dX15_wish_293 (by decide) (fun c_517 => ?_) (fun c_517 => ?_)
                              ·
                                refine lv_iinc (v := (nI (j + 1))) (lv' := [(5, .int (nI (j + 1))), (4, .int s4), (0, .ref h0), (1, .int x1)]) hx hb dX15_wish_298 hl (k := 0) rfl (nI_1 _) (by decide) rfl (fun ls hl => ?_)
                                refine lv_goto (tgt := 233) hx hb dX15_wish_301 (by decide) ?_
                                refine W.widen (k := 0) (n := 0) (by omega) (by omega) ?_
                                exact ih_452 (j + 1) F_513 (by first | omega | exact ⟨by omega, by omega⟩ | trivial) (by show nf - (j + 1) < nf - j; omega) hO hR _ _ hP hD hS ls (lv_sub hl [0, 1, 2, 3] rfl)
                              ·
                                refine lv_iconst (v := 2) hx hb dX15_wish_296 (by decide) ?_
                                refine W.widen (k := 0) (n := 0) (by omega) (by omega) ?_
                                exact W.iret (v := 2) hx hb hr (fun t ht hWm => ⟨⟨2, gp_243, rfl, trivial, ⟨F_513, ty, htyP, QTm.mk ht hP hD hO hR, hW, (Or.inr ⟨hs0, Int32.not_lt.mpr c_102, hn0, _, snr_plr D ze hw_110, Or.inl ⟨by rw [hVe]; exact hop, hpm⟩⟩)⟩⟩, hS.F ht⟩) hS.2.2 dX15_wish_297
                            ·
                              refine lv_goto (tgt := 298) hx hb dX15_wish_265 (by decide) ?_
                              refine lv_iinc (v := (nI (j + 1))) (lv' := [(5, .int (nI (j + 1))), (4, .int s4), (0, .ref h0), (1, .int x1)]) hx hb dX15_wish_298 hl (k := 0) rfl (nI_1 _) (by decide) rfl (fun ls hl => ?_)
                              refine lv_goto (tgt := 233) hx hb dX15_wish_301 (by decide) ?_
                              refine W.widen (k := 0) (n := 0) (by omega) (by omega) ?_
                              exact ih_452 (j + 1) F_482 (by first | omega | exact ⟨by omega, by omega⟩ | trivial) (by show nf - (j + 1) < nf - j; omega) hO hR _ _ hP hD hS ls (lv_sub hl [0, 1, 2, 3] rfl)
                      ·
                        refine lv_iconst (v := 2) hx hb dX15_wish_228 (by decide) ?_
                        refine W.widen (k := 0) (n := 0) (by omega) (by omega) ?_
                        exact W.iret (v := 2) hx hb hr (fun t ht hWm => ⟨⟨2, gp_243, rfl, trivial, ⟨F_445, ty, htyP, QTm.mk ht hP hD hO hR, hW, (Or.inr ⟨hs0, Int32.not_lt.mpr c_102, hn0, _, snr_plr D ze hw_110, Or.inl ⟨by rw [hVe]; exact hop, hpm⟩⟩)⟩⟩, hS.F ht⟩) hS.2.2 dX15_wish_229
                  ·
                    refine lv_iload_n hx hb dX15_wish_153 rfl (lv_at hl 2 rfl) ?_
                    refine lv_if_ne (tgt := 192) hx hb dX15_wish_154 (by decide) (fun c_518 => ?_) (fun c_518 => ?_)
                    ·
                      refine W.widen (k := 0) (n := 0) (by omega) (by omega) ?_
                      exact jn_211 (nI (wnW (flT (TC (D kv).2.2.2.2.2 (D kv).2.2.2.2.1) 0 ((D kv).2.2.2.2.1 - 0)) gg_182.2 gg_182.1 [112])) F_184 ((by rw [hmv]; unfold rrW; rw [show tgT (flT (TC (D kv).2.2.2.2.2 (D kv).2.2.2.2.1) 0 ((D kv).2.2.2.2.1 - 0)) (flI (TC (D kv).2.2.2.2.2 (D kv).2.2.2.2.1) 0 ((D kv).2.2.2.2.1 - 0)).length = some gg_182 from by rcases hw_203 with h9 | h9; have h8 := h9.2; rw [hwT] at h8; exact h8; exact absurd h9.1 c_204]; show (if (wnW (flT (TC (D kv).2.2.2.2.2 (D kv).2.2.2.2.1) 0 ((D kv).2.2.2.2.1 - 0)) gg_182.2 gg_182.1 [112]) = 6 then 6 else _) = (-1 : Int32); rw [if_neg hw147, if_neg (show ¬ (sw2 = 0 ∧ (TGE (flT (TC (D kv).2.2.2.2.2 (D kv).2.2.2.2.1) 0 ((D kv).2.2.2.2.1 - 0)) gg_182.2 gg_182.1 [115, 112])) from fun q => c_518 q.1)])) hO hR _ _ hP hD hS ls (lv_sub hl [0, 3, 4] rfl)
                    ·
                      refine lv_aload_n hx hb dX15_wish_157 rfl (lv_at hl 3 rfl) ?_
                      refine pg_get (ci := 15) (v := .ref wi) (C := RX15) (T := TX15) (N := 59) hx hb hts it_15 hown hK hP hL_h0 hF_198 rfl 37 (by decide) (hts _ kt_1138) (fun _ h9 => h9) rfl dX15_wish_158 ?_
                      obtain ⟨q_519, v_520, hr_q_519, hX_q_519⟩ := hG.2.2 ("PostGateModel", 590, "sp", [115, 112]) (by decide +kernel)
                      have hX_q_519 : SXc q_519 v_520 2 (cct [115, 112]) A s s.heap := hX_q_519
                      obtain ⟨xo_q_519, xc_q_519, xv_q_519, xt_q_519, xn_q_519⟩ := id hX_q_519
                      have hr_q_519 : vk_R "PostGateModel" 590 "sp" q_519 s := hr_q_519
                      refine va_ldcwS hx hb hown hr_q_519 dX15_wish_161 ?_
                      have hFc := pg_free hD hS hA
                      refine va_calli (va_runV (As := [.ref q_519]) (rest := []) ⟨hx, hb, hml, hown, hts⟩ (s_X13_find_x l dC dI cs ty gm L H.size F_184 wi (ρ + 15) x_7 700 700 y0_8 y1_9 y2_10 r_59 ((flI (TC (D kv).2.2.2.2.2 (D kv).2.2.2.2.1) 0 ((D kv).2.2.2.2.1 - 0)).length) gg_182.1 fc_168 p0_185 p1_186 p2_187 gg_182.2 q_519 v_520 2 (cct [115, 112]) ([115, 112]) hW hi_53 ht_54 hi_55 ht_60 hF_201 hF_202 (by omega) hq_188 hq_189 hq_190 hq_191 (hti2) (hq_192) (hti1) (by omega) (⟨rfl, by decide +kernel⟩)) ⟨callB_of 1 hts (gi kt_828) rfl rfl rfl (hts _ kt_829) (hts _ kt_839) (by decide +kernel) ⟨Nat.le_of_ble_eq_true rfl, Nat.le_of_ble_eq_true rfl⟩, (hts _ kt_831), (hts _ kt_832)⟩ ⟨fun a U g mk q => ⟨q.1, PTEm.calling q.2⟩, pg_recv hK hP hi_53 hq_188 (q := (RX13, TX13, 5)) rfl, fun U hU hWm => ⟨rfl, PTEm.mk hU hWm hP hK hD hE hO hG (fun x hx => by rw [List.mem_singleton] at hx; subst hx; exact hX_q_519) hS hFc⟩⟩ rfl rfl hl.1 rfl (lv_room (Nat.le_of_ble_eq_true rfl)) dX15_wish_164 ⟨by show _ + 0 ≤ 0; omega, by show _ + 0 ≤ 0; omega⟩) hS (fun q _ h => hFc q h) hFc (fun r_521 u t H1 locs ht hvm hw hB hz1 hk1 hS => ?_)
                      obtain ⟨F_522, hB1⟩ := hB
                      obtain rfl : F_184 = F_522 := (funext (fun a => hB1.2.2.2 a List.not_mem_nil)).symm
                      obtain ⟨hP, hD, hO, hR⟩ := QTm.back hB1 ht hFc hR (fun q h => absurd h List.not_mem_nil)
                      generalize H1 = H at hP hS ⊢
                      have hw : RWX (TC fc_168 (flI (TC (D kv).2.2.2.2.2 (D kv).2.2.2.2.1) 0 ((D kv).2.2.2.2.1 - 0)).length) gg_182.2 gg_182.1 [115, 112] r_521 := hw
                      have hw_523 := hw
                      refine lv_if_lt (tgt := 192) hx hb dX15_wish_167 (by decide) (fun c_524 => ?_) (fun c_524 => ?_)
                      ·
                        have hsp : ¬ (TGE (flT (TC (D kv).2.2.2.2.2 (D kv).2.2.2.2.1) 0 ((D kv).2.2.2.2.1 - 0)) gg_182.2 gg_182.1 [115, 112]) := tge_n (rwx_n (by have h9 := hw_523; rw [hwT] at h9; exact h9) hti2 c_524)
                        refine W.widen (k := 0) (n := 0) (by omega) (by omega) ?_
                        exact jn_211 (nI (wnW (flT (TC (D kv).2.2.2.2.2 (D kv).2.2.2.2.1) 0 ((D kv).2.2.2.2.1 - 0)) gg_182.2 gg_182.1 [112])) F_184 ((by rw [hmv]; unfold rrW; rw [show tgT (flT (TC (D kv).2.2.2.2.2 (D kv).2.2.2.2.1) 0 ((D kv).2.2.2.2.1 - 0)) (flI (TC (D kv).2.2.2.2.2 (D kv).2.2.2.2.1) 0 ((D kv).2.2.2.2.1 - 0)).length = some gg_182 from by rcases hw_203 with h9 | h9; have h8 := h9.2; rw [hwT] at h8; exact h8; exact absurd h9.1 c_204]; show (if (wnW (flT (TC (D kv).2.2.2.2.2 (D kv).2.2.2.2.1) 0 ((D kv).2.2.2.2.1 - 0)) gg_182.2 gg_182.1 [112]) = 6 then 6 else _) = (-1 : Int32); rw [if_neg hw147, if_neg (show ¬ (sw2 = 0 ∧ (TGE (flT (TC (D kv).2.2.2.2.2 (D kv).2.2.2.2.1) 0 ((D kv).2.2.2.2.1 - 0)) gg_182.2 gg_182.1 [115, 112])) from fun q => hsp q.2)])) hO hR _ _ hP hD hS ls (lv_sub hl [0, 3, 4] rfl)
                      ·
                        have hsp : (TGE (flT (TC (D kv).2.2.2.2.2 (D kv).2.2.2.2.1) 0 ((D kv).2.2.2.2.1 - 0)) gg_182.2 gg_182.1 [115, 112]) := by obtain ⟨k9, h1, -, h3, -⟩ := rwx_y (by have h9 := hw_523; rw [hwT] at h9; exact h9) c_524; exact ⟨k9, h1, h3⟩
                        refine lv_aload_n hx hb dX15_wish_170 rfl (lv_at hl 3 rfl) ?_
                        refine pg_get (ci := 15) (v := .ref wi) (C := RX15) (T := TX15) (N := 59) hx hb hts it_15 hown hK hP hL_h0 hF_198 rfl 37 (by decide) (hts _ kt_1138) (fun _ h9 => h9) rfl dX15_wish_171 ?_
                        refine va_ldcwS hx hb hown hr_q_519 dX15_wish_174 ?_
                        have hFc := pg_free hD hS hA
                        refine va_calli (va_runS (As := [.ref wi, .ref q_519]) (rest := []) ⟨hx, hb, hml, hown, hts⟩ (s_X15_wanted_x l dC dI cs ty gm L H.size F_184 wi (ρ + 15) x_7 700 700 y0_8 y1_9 y2_10 r_59 ((flI (TC (D kv).2.2.2.2.2 (D kv).2.2.2.2.1) 0 ((D kv).2.2.2.2.1 - 0)).length) gg_182.1 fc_168 p0_185 p1_186 p2_187 gg_182.2 q_519 v_520 2 (cct [115, 112]) ([115, 112]) hW hi_53 ht_54 hi_55 ht_60 hF_201 hF_202 (by omega) hq_188 hq_189 hq_190 hq_191 (hti2) (hq_192) (hti1) (by omega) (⟨rfl, by decide +kernel⟩)) ⟨callB_of 2 hts (gi kt_1196) rfl rfl rfl (hts _ kt_669) (hts _ kt_1197) (by decide +kernel) ⟨Nat.le_of_ble_eq_true rfl, Nat.le_of_ble_eq_true rfl⟩, (hts _ kt_1198)⟩ ⟨fun a U g mk q => ⟨q.1, PTEm.calling q.2⟩, fun U hU hWm => ⟨rfl, PTEm.mk hU hWm hP hK hD hE hO hG (fun x hx => by rw [List.mem_singleton] at hx; subst hx; exact hX_q_519) hS hFc⟩⟩ rfl rfl hl.1 rfl (lv_room (Nat.le_of_ble_eq_true rfl)) dX15_wish_177 ⟨by show _ + 0 ≤ 0; omega, by show _ + 0 ≤ 0; omega⟩) hS (fun q _ h => hFc q h) hFc (fun r_525 u t H1 locs ht hvm hw hB hz1 hk1 hS => ?_)
                        obtain ⟨F_526, hB1⟩ := hB
                        obtain rfl : F_184 = F_526 := (funext (fun a => hB1.2.2.2 a List.not_mem_nil)).symm
                        obtain ⟨hP, hD, hO, hR⟩ := QTm.back hB1 ht hFc hR (fun q h => absurd h List.not_mem_nil)
                        generalize H1 = H at hP hS ⊢
                        have hw : r_525 = nI (wnW (TC fc_168 (flI (TC (D kv).2.2.2.2.2 (D kv).2.2.2.2.1) 0 ((D kv).2.2.2.2.1 - 0)).length) gg_182.2 gg_182.1 [115, 112]) := hw
                        subst hw
                        refine lv_topi (fun x9 ex9 => ?_)
                        obtain rfl : x9 = nI (wnW (flT (TC (D kv).2.2.2.2.2 (D kv).2.2.2.2.1) 0 ((D kv).2.2.2.2.1 - 0)) gg_182.2 gg_182.1 [115, 112]) := ex9.trans (by rw [hwT])
                        have hwb10 := wnW_le (T := (flT (TC (D kv).2.2.2.2.2 (D kv).2.2.2.2.1) 0 ((D kv).2.2.2.2.1 - 0))) (g := gg_182.2) (n := gg_182.1) (l := [115, 112])
                        refine lv_istore (lv' := [(4, .int (nI (wnW (flT (TC (D kv).2.2.2.2.2 (D kv).2.2.2.2.1) 0 ((D kv).2.2.2.2.1 - 0)) gg_182.2 gg_182.1 [115, 112]))), (3, .int (nI kv)), (2, .int sw2), (0, .ref h0), (1, .int x1)]) hx hb dX15_wish_180 hl (by decide) rfl (fun ls hl => ?_)
                        refine lv_iload hx hb dX15_wish_182 (lv_at hl 0 rfl) ?_
                        refine lv_bipush (v := 6) hx hb dX15_wish_184 (by decide) ?_
                        refine lv_icmp_ne (tgt := 192) hx hb dX15_wish_186 (by decide) (fun c_527 => ?_) (fun c_527 => ?_)
                        ·
                          have hi_528 : (wnW (flT (TC (D kv).2.2.2.2.2 (D kv).2.2.2.2.1) 0 ((D kv).2.2.2.2.1 - 0)) gg_182.2 gg_182.1 [115, 112]) ≠ 6 := fun q => c_527 (by rw [q]; rfl)
                          have hw186 : ¬ (wnW (flT (TC (D kv).2.2.2.2.2 (D kv).2.2.2.2.1) 0 ((D kv).2.2.2.2.1 - 0)) gg_182.2 gg_182.1 [115, 112]) = 6 := fun q => c_527 (by rw [q]; rfl)
                          refine W.widen (k := 0) (n := 0) (by omega) (by omega) ?_
                          exact jn_211 (nI (wnW (flT (TC (D kv).2.2.2.2.2 (D kv).2.2.2.2.1) 0 ((D kv).2.2.2.2.1 - 0)) gg_182.2 gg_182.1 [115, 112])) F_184 ((by rw [hmv]; unfold rrW; rw [show tgT (flT (TC (D kv).2.2.2.2.2 (D kv).2.2.2.2.1) 0 ((D kv).2.2.2.2.1 - 0)) (flI (TC (D kv).2.2.2.2.2 (D kv).2.2.2.2.1) 0 ((D kv).2.2.2.2.1 - 0)).length = some gg_182 from by rcases hw_203 with h9 | h9; have h8 := h9.2; rw [hwT] at h8; exact h8; exact absurd h9.1 c_204]; show (if (wnW (flT (TC (D kv).2.2.2.2.2 (D kv).2.2.2.2.1) 0 ((D kv).2.2.2.2.1 - 0)) gg_182.2 gg_182.1 [112]) = 6 then 6 else _) = (-1 : Int32); rw [if_neg hw147, if_pos (show sw2 = 0 ∧ (TGE (flT (TC (D kv).2.2.2.2.2 (D kv).2.2.2.2.1) 0 ((D kv).2.2.2.2.1 - 0)) gg_182.2 gg_182.1 [115, 112]) from ⟨c_518, hsp⟩), if_neg hw186])) hO hR _ _ hP hD hS ls (lv_sub hl [0, 3, 4] rfl)
                        ·
                          have hi_529 : (wnW (flT (TC (D kv).2.2.2.2.2 (D kv).2.2.2.2.1) 0 ((D kv).2.2.2.2.1 - 0)) gg_182.2 gg_182.1 [115, 112]) = 6 := (nI_eq (a := (wnW (flT (TC (D kv).2.2.2.2.2 (D kv).2.2.2.2.1) 0 ((D kv).2.2.2.2.1 - 0)) gg_182.2 gg_182.1 [115, 112])) (b := 6) (by omega) (by omega)).mp c_527
                          have hw186 : (wnW (flT (TC (D kv).2.2.2.2.2 (D kv).2.2.2.2.1) 0 ((D kv).2.2.2.2.1 - 0)) gg_182.2 gg_182.1 [115, 112]) = 6 := (nI_eq (b := 6) (by have h8 := wnW_le (T := (flT (TC (D kv).2.2.2.2.2 (D kv).2.2.2.2.1) 0 ((D kv).2.2.2.2.1 - 0))) (g := gg_182.2) (n := gg_182.1) (l := [115, 112]); omega) (by omega)).mp c_527
                          refine lv_bipush (v := 6) hx hb dX15_wish_189 (by decide) ?_
                          refine W.widen (k := 0) (n := 0) (by omega) (by omega) ?_
                          exact W.iret (v := 6) hx hb hr (fun t ht hWm => ⟨⟨6, none, rfl, trivial, ⟨F_184, ty, (rtf_idw hT_h0), QTm.mk ht hP hD hO hR, hW, (Or.inr ⟨hs0, Int32.not_lt.mpr c_102, hn0, _, snr_plr D ze hw_110, Or.inr ⟨by rw [hVe]; exact (by show ¬ mvW D ze V = (-1); rw [hmv]; unfold rrW; rw [show tgT (flT (TC (D kv).2.2.2.2.2 (D kv).2.2.2.2.1) 0 ((D kv).2.2.2.2.1 - 0)) (flI (TC (D kv).2.2.2.2.2 (D kv).2.2.2.2.1) 0 ((D kv).2.2.2.2.1 - 0)).length = some gg_182 from by rcases hw_203 with h9 | h9; have h8 := h9.2; rw [hwT] at h8; exact h8; exact absurd h9.1 c_204]; show ¬ (if (wnW (flT (TC (D kv).2.2.2.2.2 (D kv).2.2.2.2.1) 0 ((D kv).2.2.2.2.1 - 0)) gg_182.2 gg_182.1 [112]) = 6 then 6 else _) = (-1 : Int32); rw [if_neg hw147, if_pos (show sw2 = 0 ∧ (TGE (flT (TC (D kv).2.2.2.2.2 (D kv).2.2.2.2.1) 0 ((D kv).2.2.2.2.1 - 0)) gg_182.2 gg_182.1 [115, 112]) from ⟨c_518, hsp⟩), if_pos hw186]; decide), rfl⟩⟩)⟩⟩, hS.F ht⟩) hS.2.2 dX15_wish_191
                ·
                  have hi_530 : (wnW (flT (TC (D kv).2.2.2.2.2 (D kv).2.2.2.2.1) 0 ((D kv).2.2.2.2.1 - 0)) gg_182.2 gg_182.1 [112]) = 6 := (nI_eq (a := (wnW (flT (TC (D kv).2.2.2.2.2 (D kv).2.2.2.2.1) 0 ((D kv).2.2.2.2.1 - 0)) gg_182.2 gg_182.1 [112])) (b := 6) (by omega) (by omega)).mp c_209
                  have hw147 : (wnW (flT (TC (D kv).2.2.2.2.2 (D kv).2.2.2.2.1) 0 ((D kv).2.2.2.2.1 - 0)) gg_182.2 gg_182.1 [112]) = 6 := (nI_eq (b := 6) (by have h8 := wnW_le (T := (flT (TC (D kv).2.2.2.2.2 (D kv).2.2.2.2.1) 0 ((D kv).2.2.2.2.1 - 0))) (g := gg_182.2) (n := gg_182.1) (l := [112]); omega) (by omega)).mp c_209
                  refine lv_bipush (v := 6) hx hb dX15_wish_150 (by decide) ?_
                  refine W.widen (k := 0) (n := 0) (by omega) (by omega) ?_
                  exact W.iret (v := 6) hx hb hr (fun t ht hWm => ⟨⟨6, none, rfl, trivial, ⟨F_184, ty, (rtf_idw hT_h0), QTm.mk ht hP hD hO hR, hW, (Or.inr ⟨hs0, Int32.not_lt.mpr c_102, hn0, _, snr_plr D ze hw_110, Or.inr ⟨by rw [hVe]; exact (by show ¬ mvW D ze V = (-1); rw [hmv]; unfold rrW; rw [show tgT (flT (TC (D kv).2.2.2.2.2 (D kv).2.2.2.2.1) 0 ((D kv).2.2.2.2.1 - 0)) (flI (TC (D kv).2.2.2.2.2 (D kv).2.2.2.2.1) 0 ((D kv).2.2.2.2.1 - 0)).length = some gg_182 from by rcases hw_203 with h9 | h9; have h8 := h9.2; rw [hwT] at h8; exact h8; exact absurd h9.1 c_204]; show ¬ (if (wnW (flT (TC (D kv).2.2.2.2.2 (D kv).2.2.2.2.1) 0 ((D kv).2.2.2.2.1 - 0)) gg_182.2 gg_182.1 [112]) = 6 then 6 else _) = (-1 : Int32); rw [if_pos hw147]; decide), rfl⟩⟩)⟩⟩, hS.F ht⟩) hS.2.2 dX15_wish_152
              ·
                refine lv_bipush (v := 6) hx hb dX15_wish_128 (by decide) ?_
                refine W.widen (k := 0) (n := 0) (by omega) (by omega) ?_
                exact W.iret (v := 6) hx hb hr (fun t ht hWm => ⟨⟨6, none, rfl, trivial, ⟨F_184, ty, (rtf_idw hT_h0), QTm.mk ht hP hD hO hR, hW, (Or.inr ⟨hs0, Int32.not_lt.mpr c_102, hn0, _, snr_plr D ze hw_110, Or.inr ⟨by rw [hVe]; exact (by show ¬ mvW D ze V = (-1); rw [hmv]; unfold rrW; rw [show tgT (flT (TC (D kv).2.2.2.2.2 (D kv).2.2.2.2.1) 0 ((D kv).2.2.2.2.1 - 0)) (flI (TC (D kv).2.2.2.2.2 (D kv).2.2.2.2.1) 0 ((D kv).2.2.2.2.1 - 0)).length = none from by rcases hw_203 with h9 | h9; exact absurd (h9.1.symm.trans c_204) (by decide); have h8 := h9.2; rw [hwT] at h8; exact h8]; show ¬ (6 : Int32) = (-1); decide), rfl⟩⟩)⟩⟩, hS.F ht⟩) hS.2.2 dX15_wish_130
            ·
              have hmn := w71_n h71 (by omega) (Int32.not_le.mp c_125)
              refine lv_iload_n hx hb dX15_wish_75 rfl (lv_at hl 0 rfl) ?_
              refine lv_bipush (v := (-2)) hx hb dX15_wish_76 (by decide) ?_
              refine lv_icmp_ne (tgt := 85) hx hb dX15_wish_78 (by decide) (fun c_531 => ?_) (fun c_531 => ?_)
              ·
                refine lv_iconst (v := 0) hx hb dX15_wish_85 (by decide) ?_
                refine W.widen (k := 0) (n := 0) (by omega) (by omega) ?_
                exact W.iret (v := 0) hx hb hr (fun t ht hWm => ⟨⟨0, none, rfl, trivial, ⟨F_121, ty, (rtf_idw hT_h0), QTm.mk ht hP hD hO hR, hW, (Or.inr ⟨hs0, Int32.not_lt.mpr c_102, hn0, _, snr_plr D ze hw_110, Or.inr ⟨by rw [hVe]; exact hmn, rfl⟩⟩)⟩⟩, hS.F ht⟩) hS.2.2 dX15_wish_86
              ·
                refine lv_iconst (v := 5) hx hb dX15_wish_81 (by decide) ?_
                refine lv_goto (tgt := 86) hx hb dX15_wish_82 (by decide) ?_
                refine W.widen (k := 0) (n := 0) (by omega) (by omega) ?_
                exact W.iret (v := 5) hx hb hr (fun t ht hWm => ⟨⟨5, none, rfl, trivial, ⟨F_121, ty, (rtf_idw hT_h0), QTm.mk ht hP hD hO hR, hW, (Or.inr ⟨hs0, Int32.not_lt.mpr c_102, hn0, _, snr_plr D ze hw_110, Or.inr ⟨by rw [hVe]; exact hmn, rfl⟩⟩)⟩⟩, hS.F ht⟩) hS.2.2 dX15_wish_86
          ·
            refine lv_iload_n hx hb dX15_wish_43 rfl (lv_at hl 0 rfl) ?_
            refine lv_iconst (v := (-1)) hx hb dX15_wish_44 (by decide) ?_
            refine lv_icmp_ne (tgt := 71) hx hb dX15_wish_45 (by decide) (fun c_532 => ?_) (fun c_532 => ?_)
            ·
              have hw45 := c_532
              refine W.widen (k := 0) (n := 0) (by omega) (by omega) ?_
              exact jn_120 ((woW D ze (DMU V 0)), 1) F_115 (⟨Or.inl ⟨rfl, rfl, hw45⟩, hF_118, hF_119⟩) hO hR _ _ hP hD hS ls (lv_sub hl [0, 1, 2, 3] rfl)
            ·
              have hw45 := c_532
              refine lv_iconst (v := 0) hx hb dX15_wish_48 (by decide) ?_
              refine lv_istore_n (lv' := [(2, .int 0), (3, .int (woW D ze (DMU V 0))), (0, .ref h0), (1, .int x1)]) hx hb dX15_wish_49 rfl hl (by decide) rfl (fun ls hl => ?_)
              refine lv_aload_n hx hb dX15_wish_50 rfl (lv_at hl 2 rfl) ?_
              refine lv_aload_n hx hb dX15_wish_51 rfl (lv_at hl 2 rfl) ?_
              refine pg_get (ci := 15) (v := .ref ak) (C := RX15) (T := TX15) (N := 59) hx hb hts it_15 hown hK hP hL_h0 hF_117 rfl 56 (by decide) (hts _ kt_999) (fun _ h9 => h9) rfl dX15_wish_52 ?_
              refine lv_aload_n hx hb dX15_wish_55 rfl (lv_at hl 2 rfl) ?_
              refine pg_get (ci := 15) (v := .ref ho) (C := RX15) (T := TX15) (N := 59) hx hb hts it_15 hown hK hP hL_h0 hF_117 rfl 57 (by decide) (hts _ kt_960) (fun _ h9 => h9) rfl dX15_wish_56 ?_
              have hQso := hR so (by rw [hTs0]; simp only [mem_tgS, List.mem_append, List.mem_cons, List.not_mem_nil, or_false]; omega)
              have hQad := hR ad (by rw [hTd0]; simp only [mem_tgS, List.mem_append, List.mem_cons, List.not_mem_nil, or_false]; omega)
              have hQna := hR na (by rw [hTn0]; simp only [mem_tgS, List.mem_append, List.mem_cons, List.not_mem_nil, or_false]; omega)
              have hQva := hR va (by rw [hTv0]; simp only [mem_tgS, List.mem_append, List.mem_cons, List.not_mem_nil, or_false]; omega)
              have hDM7 := DIRM.fr hDM hO0 hW0 hLn0 hTn0 hLv0 hTv0 (by omega) hR hQso hQad hQna hQva (fun k hk => ⟨by simp only [mem_tgS, List.mem_append, List.mem_cons, List.not_mem_nil, or_false]; omega, by simp only [mem_tgS, List.mem_append, List.mem_cons, List.not_mem_nil, or_false]; omega⟩)
              have hFc := pg_free hD hS hA
              refine va_callv (va_runV (As := [.ref ak, .ref ho]) (rest := []) ⟨hx, hb, hml, hown, hts⟩ (s_X15_houseOf_e l dC dI cs ty gm L H.size F_115 h0 ρ ta ou so ad na va lc dm tg pe ml bg co sp nb0 nb1 nb2 pl se ke wi hs mo po nu pr sq xa sa n64 m64 ex wh sd tk hd ak ho ot sx s0 s1 s2 nf bd mm fm sn hg gc gv ze zt ak (ρ + 28) rak 6000 ho (ρ + 29) r_18 6000 V.length gv9 D hW hL_h0 hT_h0 hL_ak hT_ak hi_48 ht_49 hF_118 hF_119 (by omega) (by omega) (hDM7)) ⟨callB_of 2 hts (gi kt_961) rfl rfl rfl (hts _ kt_669) (hts _ kt_962) (by decide +kernel) ⟨Nat.le_of_ble_eq_true rfl, Nat.le_of_ble_eq_true rfl⟩, (hts _ kt_963), (hts _ kt_964)⟩ ⟨fun a U g mk q => ⟨q.1, PTm.calling q.2⟩, pg_recv hK hP hL_h0 hF_117 (q := (RX15, TX15, 59)) rfl, fun U hU hWm => ⟨rfl, PTm.mk hU hWm hP hK hD hE hO⟩⟩ rfl rfl hl.1 rfl (lv_room (Nat.le_of_ble_eq_true rfl)) dX15_wish_59 ⟨by show _ + 0 ≤ 0; omega, by show _ + 0 ≤ 0; omega⟩) hS (fun q _ h => hFc q h) hFc (fun u t H1 locs ht hvm hw hB hz1 hk1 hS => ?_)
              obtain ⟨F_534, y2_535, fc_536, hB1, hq_537, hq_538, hq_539, hq_540⟩ := hB
              obtain ⟨hP, hD, hO, hR⟩ := QTm.back hB1 ht hFc hR (fun q h => by simp only [mem_tgS, List.mem_append, List.mem_cons, List.not_mem_nil, or_false] at h ⊢; omega)
              have hF_541 : F_534 ml = .inl (cs 17, 3000, .inl gl) := (hB1.2.2.2 ml (by rw [ht_77]; simp)).trans hF_116
              have hF_542 : F_534 h0 = .inr (15, (.ref ta) :: (.int (nI zt)) :: (.int (nI zo_80)) :: (.int (nI ze)) :: (.ref ou) :: (.ref so) :: (.ref ad) :: (.ref na) :: (.ref va) :: (.ref lc) :: (.ref dm) :: (.int (nI fm)) :: (.int (nI sn)) :: (.ref tg) :: (.int v14_81) :: (.int v15_82) :: (.ref pe) :: (.int v17_83) :: (.int v18_84) :: (.int v19_85) :: (.int v20_86) :: (.int v21_87) :: (.int v22_88) :: (.ref ml) :: (.ref bg) :: (.ref co) :: (.ref sp) :: (.ref nb0) :: (.ref nb1) :: (.ref nb2) :: (.int (nI nf)) :: (.int (nI bd)) :: (.int (nI mm)) :: (.int v33_89) :: (.ref pl) :: (.ref se) :: (.ref ke) :: (.ref wi) :: (.ref hs) :: (.ref mo) :: (.ref po) :: (.ref nu) :: (.ref pr) :: (.ref sq) :: (.ref xa) :: (.ref sa) :: (.ref n64) :: (.ref m64) :: (.ref ex) :: (.ref wh) :: (.ref sd) :: (.ref tk) :: (.int v52_90) :: (.int v53_91) :: (.int v54_92) :: (.ref hd) :: (.ref ak) :: (.ref ho) :: (.ref ot) :: []) := (hB1.2.2.2 h0 (by rw [hT_h0]; simp)).trans hF_117
              have hF_543 : F_534 ak = .inr (14, [.ref rak, .int (nI V.length)]) := (hB1.2.2.2 ak (by rw [hT_ak]; simp)).trans hF_118
              have hF_544 : F_534 rak = .inl (cs 17, 6000, .inl gv9) := (hB1.2.2.2 rak (by rw [ht_46]; simp)).trans hF_119
              generalize H1 = H at hP hS ⊢
              have hHO : SRC (rgL V (hsM D ze V) (V.length - hsM D ze V)) y2_535 fc_536 := src_hs hz3v (hq_539) (hq_540)
              refine lv_aload_n hx hb dX15_wish_62 rfl (lv_at hl 2 rfl) ?_
              refine lv_aload_n hx hb dX15_wish_63 rfl (lv_at hl 2 rfl) ?_
              refine pg_get (ci := 15) (v := .ref ho) (C := RX15) (T := TX15) (N := 59) hx hb hts it_15 hown hK hP hL_h0 hF_542 rfl 57 (by decide) (hts _ kt_960) (fun _ h9 => h9) rfl dX15_wish_64 ?_
              have hQso := hR so (by rw [hTs0]; simp only [mem_tgS, List.mem_append, List.mem_cons, List.not_mem_nil, or_false]; omega)
              have hQad := hR ad (by rw [hTd0]; simp only [mem_tgS, List.mem_append, List.mem_cons, List.not_mem_nil, or_false]; omega)
              have hQna := hR na (by rw [hTn0]; simp only [mem_tgS, List.mem_append, List.mem_cons, List.not_mem_nil, or_false]; omega)
              have hQva := hR va (by rw [hTv0]; simp only [mem_tgS, List.mem_append, List.mem_cons, List.not_mem_nil, or_false]; omega)
              have hDM8 := DIRM.fr hDM hO0 hW0 hLn0 hTn0 hLv0 hTv0 (by omega) hR hQso hQad hQna hQva (fun k hk => ⟨by simp only [mem_tgS, List.mem_append, List.mem_cons, List.not_mem_nil, or_false]; omega, by simp only [mem_tgS, List.mem_append, List.mem_cons, List.not_mem_nil, or_false]; omega⟩)
              obtain ⟨hq_545, hq_546⟩ := hW.octs hi_50 ht_51
              have hFc := pg_free hD hS hA
              refine va_calli (va_runV (As := [.ref ho]) (rest := []) ⟨hx, hb, hml, hown, hts⟩ (s_X15_wantedOf_x l dC dI cs ty gm L H.size F_534 h0 ρ ta ou so ad na va lc dm tg pe ml bg co sp nb0 nb1 nb2 pl se ke wi hs mo po nu pr sq xa sa n64 m64 ex wh sd tk hd ak ho ot sx s0 s1 s2 nf bd mm fm sn hg gc gv ze zt ho (ρ + 29) r_18 6000 y2_535 fc_536 (rgL V (hsM D ze V) (V.length - hsM D ze V)) D hW hL_h0 hT_h0 hi_48 ht_49 hq_537 hq_538 (by have h9 := hHO.1; rw [rgL_len] at h9; omega) (by have h9 := hHO.1; rw [rgL_len] at h9; omega) (by omega) (by omega) (hHO) (by omega) (hDM8)) ⟨callB_of 1 hts (gi kt_1192) rfl rfl rfl (hts _ kt_669) (hts _ kt_1193) (by decide +kernel) ⟨Nat.le_of_ble_eq_true rfl, Nat.le_of_ble_eq_true rfl⟩, (hts _ kt_1194), (hts _ kt_1195)⟩ ⟨fun a U g mk q => ⟨q.1, PTEm.calling q.2⟩, pg_recv hK hP hL_h0 hF_542 (q := (RX15, TX15, 59)) rfl, fun U hU hWm => ⟨rfl, PTEm.mk hU hWm hP hK hD hE hO hG (fun x hx => absurd hx List.not_mem_nil) hS hFc⟩⟩ rfl rfl hl.1 rfl (lv_room (Nat.le_of_ble_eq_true rfl)) dX15_wish_67 ⟨by show _ + 0 ≤ 0; omega, by show _ + 0 ≤ 0; omega⟩) hS (fun q _ h => hFc q h) hFc (fun r_547 u t H1 locs ht hvm hw hB hz1 hk1 hS => ?_)
              obtain ⟨F_548, hB1⟩ := hB
              obtain ⟨hP, hD, hO, hR⟩ := QTm.back hB1 ht hFc hR (fun q h => by simp only [mem_tgS, List.mem_append, List.mem_cons, List.not_mem_nil, or_false] at h ⊢; omega)
              have hF_549 : F_548 ml = .inl (cs 17, 3000, .inl gl) := (hB1.2.2.2 ml (by rw [ht_77]; simp)).trans hF_541
              have hF_550 : F_548 h0 = .inr (15, (.ref ta) :: (.int (nI zt)) :: (.int (nI zo_80)) :: (.int (nI ze)) :: (.ref ou) :: (.ref so) :: (.ref ad) :: (.ref na) :: (.ref va) :: (.ref lc) :: (.ref dm) :: (.int (nI fm)) :: (.int (nI sn)) :: (.ref tg) :: (.int v14_81) :: (.int v15_82) :: (.ref pe) :: (.int v17_83) :: (.int v18_84) :: (.int v19_85) :: (.int v20_86) :: (.int v21_87) :: (.int v22_88) :: (.ref ml) :: (.ref bg) :: (.ref co) :: (.ref sp) :: (.ref nb0) :: (.ref nb1) :: (.ref nb2) :: (.int (nI nf)) :: (.int (nI bd)) :: (.int (nI mm)) :: (.int v33_89) :: (.ref pl) :: (.ref se) :: (.ref ke) :: (.ref wi) :: (.ref hs) :: (.ref mo) :: (.ref po) :: (.ref nu) :: (.ref pr) :: (.ref sq) :: (.ref xa) :: (.ref sa) :: (.ref n64) :: (.ref m64) :: (.ref ex) :: (.ref wh) :: (.ref sd) :: (.ref tk) :: (.int v52_90) :: (.int v53_91) :: (.int v54_92) :: (.ref hd) :: (.ref ak) :: (.ref ho) :: (.ref ot) :: []) := (hB1.2.2.2 h0 (by rw [hT_h0]; simp)).trans hF_542
              have hF_551 : F_548 ak = .inr (14, [.ref rak, .int (nI V.length)]) := (hB1.2.2.2 ak (by rw [hT_ak]; simp)).trans hF_543
              have hF_552 : F_548 rak = .inl (cs 17, 6000, .inl gv9) := (hB1.2.2.2 rak (by rw [ht_46]; simp)).trans hF_544
              have hF_553 : F_548 ho = .inr (14, [.ref r_18, .int (nI y2_535)]) := (hB1.2.2.2 ho (by rw [ht_49]; simp)).trans hq_537
              have hF_554 : F_548 r_18 = .inl (cs 17, 6000, .inl fc_536) := (hB1.2.2.2 r_18 (by rw [ht_51]; simp)).trans hq_538
              generalize H1 = H at hP hS ⊢
              have hw : r_547 = woW D ze ([95, 100, 109, 97, 114, 99, 46] ++ (rgL V (hsM D ze V) (V.length - hsM D ze V))) := hw
              subst hw
              refine lv_topi (fun x9 ex9 => ?_)
              obtain rfl : x9 = woW D ze (DMU V (hsM D ze V)) := ex9.trans rfl
              refine lv_istore_n (lv' := [(3, .int (woW D ze (DMU V (hsM D ze V)))), (2, .int 0), (0, .ref h0), (1, .int x1)]) hx hb dX15_wish_70 rfl hl (by decide) rfl (fun ls hl => ?_)
              refine W.widen (k := 0) (n := 0) (by omega) (by omega) ?_
              exact jn_120 ((woW D ze (DMU V (hsM D ze V))), 0) F_548 (⟨Or.inr ⟨rfl, hw45, rfl⟩, hF_551, hF_552⟩) hO hR _ _ hP hD hS ls (lv_sub hl [0, 1, 2, 3] rfl)
        ·
          have hgn := snr_z hw_110 c_111
          refine lv_iconst (v := 1) hx hb dX15_wish_30 (by decide) ?_
          refine W.widen (k := 0) (n := 0) (by omega) (by omega) ?_
          exact W.iret (v := 1) hx hb hr (fun t ht hWm => ⟨⟨1, none, rfl, trivial, ⟨F_106, ty, (rtf_idw hT_h0), QTm.mk ht hP hD hO hR, hW, (Or.inr ⟨hs0, Int32.not_lt.mpr c_102, hn0, _, snr_plr D ze hw_110, Or.inr ⟨by rw [hgn]; exact (by decide : ¬ (1 : Int32) = (-1)), rfl⟩⟩)⟩⟩, hS.F ht⟩) hS.2.2 dX15_wish_31
      ·
        have hn0 : nf = 0 := by rcases hq_96 with q | q; exact q.2; exact absurd (q.1.symm.trans c_103) (by decide)
        refine lv_bipush (v := (-2)) hx hb dX15_wish_20 (by decide) ?_
        refine W.widen (k := 0) (n := 0) (by omega) (by omega) ?_
        exact W.iret (v := (-2)) hx hb hr (fun t ht hWm => ⟨⟨(-2), none, rfl, trivial, ⟨F, ty, (rtf_idw hT_h0), QTm.mk ht hP hD hO hR, hW, (Or.inl ⟨Or.inr (Or.inr hn0), rfl⟩)⟩⟩, hS.F ht⟩) hS.2.2 dX15_wish_22
    ·
      refine lv_iconst (v := (-1)) hx hb dX15_wish_11 (by decide) ?_
      refine W.widen (k := 0) (n := 0) (by omega) (by omega) ?_
      exact W.iret (v := (-1)) hx hb hr (fun t ht hWm => ⟨⟨(-1), none, rfl, trivial, ⟨F, ty, (rtf_idw hT_h0), QTm.mk ht hP hD hO hR, hW, (Or.inl ⟨Or.inr (Or.inl (Int32.not_le.mp c_102)), rfl⟩)⟩⟩, hS.F ht⟩) hS.2.2 dX15_wish_12
