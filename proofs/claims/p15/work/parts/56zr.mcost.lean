theorem kt_1132 : Cond.fieldLink RX15 104 "PostGateModel" "wish" "LPostGateModel$Tags;" ∈ tb := tb_at (i := 1326) (by decide +kernel) (by decide +kernel)
theorem dX15_permission_0 : decode cX15_permission 0 = .ok (.aload_n 0, 1) := by decide +kernel
theorem dX15_permission_1 : decode cX15_permission 1 = .ok (.getfield 208, 3) := by decide +kernel
theorem dX15_permission_4 : decode cX15_permission 4 = .ok (.ifCond .ne 5, 3) := by decide +kernel
theorem dX15_permission_7 : decode cX15_permission 7 = .ok (.iconst (-1), 1) := by decide +kernel
theorem dX15_permission_8 : decode cX15_permission 8 = .ok (.ireturn, 1) := by decide +kernel
theorem dX15_permission_9 : decode cX15_permission 9 = .ok (.aload_n 0, 1) := by decide +kernel
theorem dX15_permission_10 : decode cX15_permission 10 = .ok (.iconst 0, 1) := by decide +kernel
theorem dX15_permission_11 : decode cX15_permission 11 = .ok (.putfield 212, 3) := by decide +kernel
theorem dX15_permission_14 : decode cX15_permission 14 = .ok (.aload_n 0, 1) := by decide +kernel
theorem dX15_permission_15 : decode cX15_permission 15 = .ok (.iconst 0, 1) := by decide +kernel
theorem dX15_permission_16 : decode cX15_permission 16 = .ok (.putfield 215, 3) := by decide +kernel
theorem dX15_permission_19 : decode cX15_permission 19 = .ok (.aload_n 0, 1) := by decide +kernel
theorem dX15_permission_20 : decode cX15_permission 20 = .ok (.aload_n 0, 1) := by decide +kernel
theorem dX15_permission_21 : decode cX15_permission 21 = .ok (.getfield 61, 3) := by decide +kernel
theorem dX15_permission_24 : decode cX15_permission 24 = .ok (.iconst 0, 1) := by decide +kernel
theorem dX15_permission_25 : decode cX15_permission 25 = .ok (.invokevirtual 218, 3) := by decide +kernel
theorem dX15_permission_28 : decode cX15_permission 28 = .ok (.ireturn, 1) := by decide +kernel
theorem dX15_wish_0 : decode cX15_wish 0 = .ok (.aload_n 0, 1) := by decide +kernel
theorem dX15_wish_1 : decode cX15_wish 1 = .ok (.getfield 208, 3) := by decide +kernel
theorem dX15_wish_4 : decode cX15_wish 4 = .ok (.ifCond .eq 7, 3) := by decide +kernel
theorem dX15_wish_7 : decode cX15_wish 7 = .ok (.iload_n 1, 1) := by decide +kernel
theorem dX15_wish_8 : decode cX15_wish 8 = .ok (.ifCond .ge 5, 3) := by decide +kernel
theorem dX15_wish_11 : decode cX15_wish 11 = .ok (.iconst (-1), 1) := by decide +kernel
theorem dX15_wish_12 : decode cX15_wish 12 = .ok (.ireturn, 1) := by decide +kernel
theorem dX15_wish_13 : decode cX15_wish 13 = .ok (.aload_n 0, 1) := by decide +kernel
theorem dX15_wish_14 : decode cX15_wish 14 = .ok (.getfield 370, 3) := by decide +kernel
theorem dX15_wish_17 : decode cX15_wish 17 = .ok (.ifCond .ne 6, 3) := by decide +kernel
theorem dX15_wish_20 : decode cX15_wish 20 = .ok (.bipush (-2), 2) := by decide +kernel
theorem dX15_wish_22 : decode cX15_wish 22 = .ok (.ireturn, 1) := by decide +kernel
theorem dX15_wish_23 : decode cX15_wish 23 = .ok (.aload_n 0, 1) := by decide +kernel
theorem dX15_wish_24 : decode cX15_wish 24 = .ok (.invokevirtual 581, 3) := by decide +kernel
theorem dX15_wish_27 : decode cX15_wish 27 = .ok (.ifCond .ne 5, 3) := by decide +kernel
theorem dX15_wish_30 : decode cX15_wish 30 = .ok (.iconst 1, 1) := by decide +kernel
theorem dX15_wish_31 : decode cX15_wish 31 = .ok (.ireturn, 1) := by decide +kernel
theorem dX15_wish_32 : decode cX15_wish 32 = .ok (.iconst 1, 1) := by decide +kernel
theorem dX15_wish_33 : decode cX15_wish 33 = .ok (.istore_n 2, 1) := by decide +kernel
theorem dX15_wish_34 : decode cX15_wish 34 = .ok (.aload_n 0, 1) := by decide +kernel
theorem dX15_wish_35 : decode cX15_wish 35 = .ok (.aload_n 0, 1) := by decide +kernel
theorem dX15_wish_36 : decode cX15_wish 36 = .ok (.getfield 157, 3) := by decide +kernel
theorem dX15_wish_39 : decode cX15_wish 39 = .ok (.invokevirtual 584, 3) := by decide +kernel
theorem dX15_wish_42 : decode cX15_wish 42 = .ok (.istore_n 3, 1) := by decide +kernel
theorem dX15_wish_43 : decode cX15_wish 43 = .ok (.iload_n 3, 1) := by decide +kernel
theorem dX15_wish_44 : decode cX15_wish 44 = .ok (.iconst (-1), 1) := by decide +kernel
theorem dX15_wish_45 : decode cX15_wish 45 = .ok (.if_icmp .ne 26, 3) := by decide +kernel
theorem dX15_wish_48 : decode cX15_wish 48 = .ok (.iconst 0, 1) := by decide +kernel
theorem dX15_wish_49 : decode cX15_wish 49 = .ok (.istore_n 2, 1) := by decide +kernel
theorem dX15_wish_50 : decode cX15_wish 50 = .ok (.aload_n 0, 1) := by decide +kernel
theorem dX15_wish_51 : decode cX15_wish 51 = .ok (.aload_n 0, 1) := by decide +kernel
theorem dX15_wish_52 : decode cX15_wish 52 = .ok (.getfield 157, 3) := by decide +kernel
theorem dX15_wish_55 : decode cX15_wish 55 = .ok (.aload_n 0, 1) := by decide +kernel
theorem dX15_wish_56 : decode cX15_wish 56 = .ok (.getfield 160, 3) := by decide +kernel
theorem dX15_wish_59 : decode cX15_wish 59 = .ok (.invokevirtual 565, 3) := by decide +kernel
theorem dX15_wish_62 : decode cX15_wish 62 = .ok (.aload_n 0, 1) := by decide +kernel
theorem dX15_wish_63 : decode cX15_wish 63 = .ok (.aload_n 0, 1) := by decide +kernel
theorem dX15_wish_64 : decode cX15_wish 64 = .ok (.getfield 160, 3) := by decide +kernel
theorem dX15_wish_67 : decode cX15_wish 67 = .ok (.invokevirtual 584, 3) := by decide +kernel
theorem dX15_wish_70 : decode cX15_wish 70 = .ok (.istore_n 3, 1) := by decide +kernel
theorem dX15_wish_71 : decode cX15_wish 71 = .ok (.iload_n 3, 1) := by decide +kernel
theorem dX15_wish_72 : decode cX15_wish 72 = .ok (.ifCond .ge 15, 3) := by decide +kernel
theorem dX15_wish_75 : decode cX15_wish 75 = .ok (.iload_n 3, 1) := by decide +kernel
theorem dX15_wish_76 : decode cX15_wish 76 = .ok (.bipush (-2), 2) := by decide +kernel
theorem dX15_wish_78 : decode cX15_wish 78 = .ok (.if_icmp .ne 7, 3) := by decide +kernel
theorem dX15_wish_81 : decode cX15_wish 81 = .ok (.iconst 5, 1) := by decide +kernel
theorem dX15_wish_82 : decode cX15_wish 82 = .ok (.goto 4, 3) := by decide +kernel
theorem dX15_wish_85 : decode cX15_wish 85 = .ok (.iconst 0, 1) := by decide +kernel
theorem dX15_wish_86 : decode cX15_wish 86 = .ok (.ireturn, 1) := by decide +kernel
theorem dX15_wish_87 : decode cX15_wish 87 = .ok (.aload_n 0, 1) := by decide +kernel
theorem dX15_wish_88 : decode cX15_wish 88 = .ok (.getfield 51, 3) := by decide +kernel
theorem dX15_wish_91 : decode cX15_wish 91 = .ok (.iload_n 3, 1) := by decide +kernel
theorem dX15_wish_92 : decode cX15_wish 92 = .ok (.aaload, 1) := by decide +kernel
theorem dX15_wish_93 : decode cX15_wish 93 = .ok (.getfield 295, 3) := by decide +kernel
theorem dX15_wish_96 : decode cX15_wish 96 = .ok (.iconst 0, 1) := by decide +kernel
theorem dX15_wish_97 : decode cX15_wish 97 = .ok (.aload_n 0, 1) := by decide +kernel
theorem dX15_wish_98 : decode cX15_wish 98 = .ok (.getfield 51, 3) := by decide +kernel
theorem dX15_wish_101 : decode cX15_wish 101 = .ok (.iload_n 3, 1) := by decide +kernel
theorem dX15_wish_102 : decode cX15_wish 102 = .ok (.aaload, 1) := by decide +kernel
theorem dX15_wish_103 : decode cX15_wish 103 = .ok (.getfield 190, 3) := by decide +kernel
theorem dX15_wish_106 : decode cX15_wish 106 = .ok (.aload_n 0, 1) := by decide +kernel
theorem dX15_wish_107 : decode cX15_wish 107 = .ok (.getfield 104, 3) := by decide +kernel
theorem dX15_wish_110 : decode cX15_wish 110 = .ok (.getfield 409, 3) := by decide +kernel
theorem dX15_wish_113 : decode cX15_wish 113 = .ok (.invokestatic 507, 3) := by decide +kernel
theorem dX15_wish_116 : decode cX15_wish 116 = .ok (.aload_n 0, 1) := by decide +kernel
theorem dX15_wish_117 : decode cX15_wish 117 = .ok (.getfield 104, 3) := by decide +kernel
theorem dX15_wish_120 : decode cX15_wish 120 = .ok (.bipush 8, 2) := by decide +kernel
theorem dX15_wish_122 : decode cX15_wish 122 = .ok (.invokevirtual 441, 3) := by decide +kernel
theorem dX15_wish_125 : decode cX15_wish 125 = .ok (.ifCond .ne 6, 3) := by decide +kernel
theorem dX15_wish_128 : decode cX15_wish 128 = .ok (.bipush 6, 2) := by decide +kernel
theorem dX15_wish_130 : decode cX15_wish 130 = .ok (.ireturn, 1) := by decide +kernel
theorem dX15_wish_131 : decode cX15_wish 131 = .ok (.aload_n 0, 1) := by decide +kernel
theorem dX15_wish_132 : decode cX15_wish 132 = .ok (.getfield 104, 3) := by decide +kernel
theorem dX15_wish_135 : decode cX15_wish 135 = .ok (.ldc_w 533, 3) := by decide +kernel
theorem dX15_wish_138 : decode cX15_wish 138 = .ok (.invokestatic 587, 3) := by decide +kernel
theorem dX15_wish_141 : decode cX15_wish 141 = .ok (.istore 4, 2) := by decide +kernel
theorem dX15_wish_143 : decode cX15_wish 143 = .ok (.iload 4, 2) := by decide +kernel
theorem dX15_wish_145 : decode cX15_wish 145 = .ok (.bipush 6, 2) := by decide +kernel
theorem dX15_wish_147 : decode cX15_wish 147 = .ok (.if_icmp .ne 6, 3) := by decide +kernel
theorem dX15_wish_150 : decode cX15_wish 150 = .ok (.bipush 6, 2) := by decide +kernel
theorem dX15_wish_152 : decode cX15_wish 152 = .ok (.ireturn, 1) := by decide +kernel
theorem dX15_wish_153 : decode cX15_wish 153 = .ok (.iload_n 2, 1) := by decide +kernel
theorem dX15_wish_154 : decode cX15_wish 154 = .ok (.ifCond .ne 38, 3) := by decide +kernel
theorem dX15_wish_157 : decode cX15_wish 157 = .ok (.aload_n 0, 1) := by decide +kernel
theorem dX15_wish_158 : decode cX15_wish 158 = .ok (.getfield 104, 3) := by decide +kernel
theorem dX15_wish_161 : decode cX15_wish 161 = .ok (.ldc_w 590, 3) := by decide +kernel
theorem dX15_wish_164 : decode cX15_wish 164 = .ok (.invokevirtual 399, 3) := by decide +kernel
theorem dX15_wish_167 : decode cX15_wish 167 = .ok (.ifCond .lt 25, 3) := by decide +kernel
theorem dX15_wish_170 : decode cX15_wish 170 = .ok (.aload_n 0, 1) := by decide +kernel
theorem dX15_wish_171 : decode cX15_wish 171 = .ok (.getfield 104, 3) := by decide +kernel
theorem dX15_wish_174 : decode cX15_wish 174 = .ok (.ldc_w 590, 3) := by decide +kernel
theorem dX15_wish_177 : decode cX15_wish 177 = .ok (.invokestatic 587, 3) := by decide +kernel
theorem dX15_wish_180 : decode cX15_wish 180 = .ok (.istore 4, 2) := by decide +kernel
theorem dX15_wish_182 : decode cX15_wish 182 = .ok (.iload 4, 2) := by decide +kernel
theorem dX15_wish_184 : decode cX15_wish 184 = .ok (.bipush 6, 2) := by decide +kernel
theorem dX15_wish_186 : decode cX15_wish 186 = .ok (.if_icmp .ne 6, 3) := by decide +kernel
theorem dX15_wish_189 : decode cX15_wish 189 = .ok (.bipush 6, 2) := by decide +kernel
theorem dX15_wish_191 : decode cX15_wish 191 = .ok (.ireturn, 1) := by decide +kernel
theorem dX15_wish_192 : decode cX15_wish 192 = .ok (.aload_n 0, 1) := by decide +kernel
theorem dX15_wish_193 : decode cX15_wish 193 = .ok (.invokevirtual 592, 3) := by decide +kernel
theorem dX15_wish_196 : decode cX15_wish 196 = .ok (.iconst 2, 1) := by decide +kernel
theorem dX15_wish_197 : decode cX15_wish 197 = .ok (.if_icmp .ne 33, 3) := by decide +kernel
theorem dX15_wish_200 : decode cX15_wish 200 = .ok (.aload_n 0, 1) := by decide +kernel
theorem dX15_wish_201 : decode cX15_wish 201 = .ok (.aload_n 0, 1) := by decide +kernel
theorem dX15_wish_202 : decode cX15_wish 202 = .ok (.getfield 61, 3) := by decide +kernel
theorem dX15_wish_205 : decode cX15_wish 205 = .ok (.aload_n 0, 1) := by decide +kernel
theorem dX15_wish_206 : decode cX15_wish 206 = .ok (.getfield 157, 3) := by decide +kernel
theorem dX15_wish_209 : decode cX15_wish 209 = .ok (.aload_n 0, 1) := by decide +kernel
theorem dX15_wish_210 : decode cX15_wish 210 = .ok (.getfield 104, 3) := by decide +kernel
theorem dX15_wish_213 : decode cX15_wish 213 = .ok (.ldc_w 595, 3) := by decide +kernel
theorem dX15_wish_216 : decode cX15_wish 216 = .ok (.ldc_w 460, 3) := by decide +kernel
theorem dX15_wish_219 : decode cX15_wish 219 = .ok (.invokevirtual 448, 3) := by decide +kernel
theorem dX15_wish_222 : decode cX15_wish 222 = .ok (.invokevirtual 597, 3) := by decide +kernel
theorem dX15_wish_225 : decode cX15_wish 225 = .ok (.ifCond .eq 5, 3) := by decide +kernel
theorem dX15_wish_228 : decode cX15_wish 228 = .ok (.iconst 2, 1) := by decide +kernel
theorem dX15_wish_229 : decode cX15_wish 229 = .ok (.ireturn, 1) := by decide +kernel
theorem dX15_wish_230 : decode cX15_wish 230 = .ok (.iconst 0, 1) := by decide +kernel
theorem dX15_wish_231 : decode cX15_wish 231 = .ok (.istore 5, 2) := by decide +kernel
theorem dX15_wish_233 : decode cX15_wish 233 = .ok (.iload 5, 2) := by decide +kernel
theorem dX15_wish_235 : decode cX15_wish 235 = .ok (.aload_n 0, 1) := by decide +kernel
theorem dX15_wish_236 : decode cX15_wish 236 = .ok (.getfield 355, 3) := by decide +kernel
theorem dX15_wish_239 : decode cX15_wish 239 = .ok (.if_icmp .ge 65, 3) := by decide +kernel
theorem dX15_wish_242 : decode cX15_wish 242 = .ok (.aload_n 0, 1) := by decide +kernel
theorem dX15_wish_243 : decode cX15_wish 243 = .ok (.iload 5, 2) := by decide +kernel
theorem dX15_wish_245 : decode cX15_wish 245 = .ok (.ldc_w 376, 3) := by decide +kernel
theorem dX15_wish_248 : decode cX15_wish 248 = .ok (.invokevirtual 378, 3) := by decide +kernel
theorem dX15_wish_251 : decode cX15_wish 251 = .ok (.ifCond .eq 47, 3) := by decide +kernel
theorem dX15_wish_254 : decode cX15_wish 254 = .ok (.aload_n 0, 1) := by decide +kernel
theorem dX15_wish_255 : decode cX15_wish 255 = .ok (.iload 5, 2) := by decide +kernel
theorem dX15_wish_257 : decode cX15_wish 257 = .ok (.iload_n 1, 1) := by decide +kernel
theorem dX15_wish_258 : decode cX15_wish 258 = .ok (.invokevirtual 504, 3) := by decide +kernel
theorem dX15_wish_261 : decode cX15_wish 261 = .ok (.iconst 2, 1) := by decide +kernel
theorem dX15_wish_262 : decode cX15_wish 262 = .ok (.if_icmp .eq 6, 3) := by decide +kernel
theorem dX15_wish_265 : decode cX15_wish 265 = .ok (.goto 33, 3) := by decide +kernel
theorem dX15_wish_268 : decode cX15_wish 268 = .ok (.aload_n 0, 1) := by decide +kernel
theorem dX15_wish_269 : decode cX15_wish 269 = .ok (.aload_n 0, 1) := by decide +kernel
theorem dX15_wish_270 : decode cX15_wish 270 = .ok (.getfield 147, 3) := by decide +kernel
theorem dX15_wish_273 : decode cX15_wish 273 = .ok (.aload_n 0, 1) := by decide +kernel
theorem dX15_wish_274 : decode cX15_wish 274 = .ok (.getfield 157, 3) := by decide +kernel
theorem dX15_wish_277 : decode cX15_wish 277 = .ok (.aload_n 0, 1) := by decide +kernel
theorem dX15_wish_278 : decode cX15_wish 278 = .ok (.getfield 104, 3) := by decide +kernel
theorem dX15_wish_281 : decode cX15_wish 281 = .ok (.ldc_w 601, 3) := by decide +kernel
theorem dX15_wish_284 : decode cX15_wish 284 = .ok (.ldc_w 460, 3) := by decide +kernel
theorem dX15_wish_287 : decode cX15_wish 287 = .ok (.invokevirtual 448, 3) := by decide +kernel
theorem dX15_wish_290 : decode cX15_wish 290 = .ok (.invokevirtual 597, 3) := by decide +kernel
theorem dX15_wish_293 : decode cX15_wish 293 = .ok (.ifCond .eq 5, 3) := by decide +kernel
theorem dX15_wish_296 : decode cX15_wish 296 = .ok (.iconst 2, 1) := by decide +kernel
theorem dX15_wish_297 : decode cX15_wish 297 = .ok (.ireturn, 1) := by decide +kernel
theorem dX15_wish_298 : decode cX15_wish 298 = .ok (.iinc 5 1, 3) := by decide +kernel
theorem dX15_wish_301 : decode cX15_wish 301 = .ok (.goto (-68), 3) := by decide +kernel
theorem dX15_wish_304 : decode cX15_wish 304 = .ok (.iload 4, 2) := by decide +kernel
theorem dX15_wish_306 : decode cX15_wish 306 = .ok (.ireturn, 1) := by decide +kernel
theorem kt_1188 : Cond.code yX15_isSeen cX15_isSeen 4 (some .boolean) ∈ tb := tb_at (i := 1868) (by decide +kernel) (by decide +kernel)
theorem kt_1189 : Cond.methodLink RX15 581 yX15_isSeen ∈ tb := tb_at (i := 1865) (by decide +kernel) (by decide +kernel)
theorem kt_1190 : Cond.instanceMethod yX15_isSeen ∈ tb := tb_at (i := 1867) (by decide +kernel) (by decide +kernel)
theorem kt_1191 : Cond.selects RX15 yX15_isSeen yX15_isSeen ∈ tb := tb_at (i := 77) (by decide +kernel) (by decide +kernel)
theorem kt_1192 : Cond.code yX15_wantedOf cX15_wantedOf 5 (some .int) ∈ tb := tb_at (i := 1877) (by decide +kernel) (by decide +kernel)
theorem kt_1193 : Cond.methodLink RX15 584 yX15_wantedOf ∈ tb := tb_at (i := 1874) (by decide +kernel) (by decide +kernel)
theorem kt_1194 : Cond.instanceMethod yX15_wantedOf ∈ tb := tb_at (i := 1876) (by decide +kernel) (by decide +kernel)
theorem kt_1195 : Cond.selects RX15 yX15_wantedOf yX15_wantedOf ∈ tb := tb_at (i := 78) (by decide +kernel) (by decide +kernel)
theorem kt_1196 : Cond.code yX15_wanted cX15_wanted 2 (some .int) ∈ tb := tb_at (i := 1882) (by decide +kernel) (by decide +kernel)
theorem kt_1197 : Cond.methodLink RX15 587 yX15_wanted ∈ tb := tb_at (i := 1880) (by decide +kernel) (by decide +kernel)
theorem kt_1198 : Cond.static yX15_wanted ∈ tb := tb_at (i := 1881) (by decide +kernel) (by decide +kernel)
theorem kt_1199 : Cond.code yX15_permission cX15_permission 1 (some .int) ∈ tb := tb_at (i := 1521) (by decide +kernel) (by decide +kernel)
theorem kt_1200 : Cond.methodLink RX15 592 yX15_permission ∈ tb := tb_at (i := 1887) (by decide +kernel) (by decide +kernel)
theorem kt_1201 : Cond.instanceMethod yX15_permission ∈ tb := tb_at (i := 1519) (by decide +kernel) (by decide +kernel)
theorem kt_1202 : Cond.selects RX15 yX15_permission yX15_permission ∈ tb := tb_at (i := 1520) (by decide +kernel) (by decide +kernel)
theorem kt_1203 : Cond.code yX15_isAligned cX15_isAligned 4 (some .boolean) ∈ tb := tb_at (i := 1892) (by decide +kernel) (by decide +kernel)
theorem kt_1204 : Cond.methodLink RX15 597 yX15_isAligned ∈ tb := tb_at (i := 1889) (by decide +kernel) (by decide +kernel)
theorem kt_1205 : Cond.instanceMethod yX15_isAligned ∈ tb := tb_at (i := 1891) (by decide +kernel) (by decide +kernel)
theorem kt_1206 : Cond.selects RX15 yX15_isAligned yX15_isAligned ∈ tb := tb_at (i := 79) (by decide +kernel) (by decide +kernel)
def hgr (gp : Option (Nat × Nat)) (hg : Nat) : Nat := match gp with
  | none => hg
  | some _ => 1
def gcr (gp : Option (Nat × Nat)) (gc : Nat) : Nat := match gp with
  | none => gc
  | some p => p.1
def gvr (gp : Option (Nat × Nat)) (gv : Nat) : Nat := match gp with
  | none => gv
  | some p => p.2
set_option maxHeartbeats 4000000 in
set_option maxRecDepth 100000 in
theorem s_X15_permission_c (l : Launch) (dC : Nat → ClassId) (dI : Nat → Nat → Nat) (cs : Nat → ClassId) (ty : TyM) (gm : Nat → Nat → Nat) (L : List Nat) (sz : Nat) (F : Nat → va_E) (h0 : Nat) (ρ : Nat) (ta : Nat) (ou : Nat) (so : Nat) (ad : Nat) (na : Nat) (va : Nat) (lc : Nat) (dm : Nat) (tg : Nat) (pe : Nat) (ml : Nat) (bg : Nat) (co : Nat) (sp : Nat) (nb0 : Nat) (nb1 : Nat) (nb2 : Nat) (pl : Nat) (se : Nat) (ke : Nat) (wi : Nat) (hs : Nat) (mo : Nat) (po : Nat) (nu : Nat) (pr : Nat) (sq : Nat) (xa : Nat) (sa : Nat) (n64 : Nat) (m64 : Nat) (ex : Nat) (wh : Nat) (sd : Nat) (tk : Nat) (hd : Nat) (ak : Nat) (ho : Nat) (ot : Nat) (sx : Nat) (s0 : Nat) (s1 : Nat) (s2 : Nat) (nf : Nat) (bd : Nat) (mm : Nat) (zo : Nat) (fm : Nat) (sn : Nat) (hg : Nat) (gc : Nat) (gv : Nat) (ze : Nat) (zt : Nat) (rp : Nat) (D : Nat → ETY) (LC : List Nat) (DN : List Nat) (hW : WTm ty gm L) (hL_h0 : h0 ∈ L) (hT_h0 : ty h0 = (15, ρ, [ta, ou, so, ad, na, va, lc, dm, tg, pe, ml, bg, co, sp, nb0, nb1, nb2, pl, se, ke, wi, hs, mo, po, nu, pr, sq, xa, sa, n64, m64, ex, wh, sd, tk, hd, ak, ho, ot, sx, s0, s1, s2, nf, bd, mm, zo, fm, sn, hg, gc, gv, ze, zt])) (hL_pe : pe ∈ L) (hT_pe : ty pe = (14, ρ + 7, [rp, 100])) (hDM : DIRM cs F so ad na va ze D) (hVN : ∀ k, k < ze → (D k).1 = 2 → SRC (vlL (D k)) (D k).2.2.2.2.1 (D k).2.2.2.2.2 ∧ (D k).2.2.2.2.1 ≤ 60) (hSN : (sn = 0 ∨ (TXM cs F lc 30 LC ∧ TXM cs F dm 60 DN))) : Met l yX15_permission (.code yX15_permission cX15_permission 1 (some .int) :: tb) ({ frames := 78, cells := 0, slots := 0, locals := 1767 }) (va_Pc [.ref h0] (PTEm (dC, dI) cs ty gm L F sz [])) (va_Qi (fun (r : Int32) (gp : Option (Nat × Nat)) => ((sn = 0 ∧ r = (-1) ∧ gp = none) ∨ (¬ sn = 0 ∧ r = nI (CHW D ze (sdM LC DN (nI fm)) (nI fm) 11 DN 0 0).1 ∧ gp = some (CHW D ze (sdM LC DN (nI fm)) (nI fm) 11 DN 0 0).2))) (fun (gp : Option (Nat × Nat)) T9 => ∃ F2 : Nat → va_E, ∃ ty2 : TyM, ty2 = rtf ty h0 (15, ρ, [ta, ou, so, ad, na, va, lc, dm, tg, pe, ml, bg, co, sp, nb0, nb1, nb2, pl, se, ke, wi, hs, mo, po, nu, pr, sq, xa, sa, n64, m64, ex, wh, sd, tk, hd, ak, ho, ot, sx, s0, s1, s2, nf, bd, mm, zo, fm, sn, (hgr gp hg), (gcr gp gc), (gvr gp gv), ze, zt]) ∧ QTm (dC, dI) cs ty2 gm L (tgS ρ 0) F F2 (va_A (va_pl L F) sz) T9 ∧ WTm ty2 gm L) (va_A (va_pl L F) sz)) 0 0 (va_A (va_pl L F) sz) := by
  refine Met.ofW (cc := cX15_permission) (maxL := 1) (ret := (some .int)) (by decide) rfl ?_
  intro p e s m args below meth c s₁ B hml hv
  obtain ⟨rfl, ⟨hsz, hP, hK, hD0, hE, hO⟩, hG, hX⟩ := hv
  have hx := B.exec
  have hb := B.bytes
  have hr := B.returns
  have hts : ∀ w ∈ tb, w.before _ s = true := fun w h => atoms_spec (ws := .code yX15_permission cX15_permission 1 (some .int) :: tb) B.pre w (List.mem_cons_of_mem _ h)
  have hown : s.vm.findClass RX15 = some m.cls := findClass_of_methodNamed B.named
  have hlocks := B.notSynchronized
  subst hsz
  have hD := hD0.self (sz := s.heap.size)
  generalize hAe : va_A (va_pl L F) s.heap.size = A at hD hG hX ⊢
  have hA : ∀ q : Nat, s.heap.size ≤ q → A q := fun q h => by rw [← hAe]; exact Or.inr h
  have hS : va_S A s.heap s.heap [] := va_S.rf
  have hR : FR ty (tgS ρ 0) F F := FR.refl
  have hl := lv_entry ([.ref h0]) (n := 1) (Nat.le_of_ble_eq_true rfl)
  rw [lg_entry_eq]
  generalize (lg_sl ([.ref h0]) ++ List.replicate (1 - (lg_sl ([.ref h0])).length) Slot.unset).toArray = ls at hl ⊢
  have hl : lv_has ls 1 [(0, .ref h0)] := hl
  obtain ⟨hq_22, hq_23, hq_24, hq_25, hq_26, hgO, hgA, hgB, hq_27⟩ := hW.sc hL_h0 hT_h0
  obtain ⟨v14_28, v15_29, v17_30, v18_31, v19_32, v20_33, v21_34, v22_35, v33_36, v52_37, v53_38, v54_39, hF_40, hq_41, hq_42, hq_43, hq_44, hq_45⟩ := hO.mod hL_h0 hT_h0
  obtain ⟨hi_46, ht_47, hq_48⟩ := hW.txt hL_pe hT_pe
  refine lv_aload_n hx hb dX15_permission_0 rfl (lv_at hl 0 rfl) ?_
  refine pg_get (ci := 15) (v := .int (nI sn)) (C := RX15) (T := TX15) (N := 59) hx hb hts it_15 hown hK hP hL_h0 hF_40 rfl 12 (by decide) (hts _ kt_1187) (fun _ h9 => h9) rfl dX15_permission_1 ?_
  refine lv_if_ne (tgt := 9) hx hb dX15_permission_4 (by decide) (fun c_49 => ?_) (fun c_49 => ?_)
  ·
    have hi_50 : sn ≠ 0 := fun q => c_49 (by rw [q]; rfl)
    have hs0 : ¬ sn = 0 := fun q => c_49 (by rw [q]; rfl)
    obtain ⟨hLC, hDN⟩ := hSN.resolve_left hs0
    have hTo := hT_h0
    obtain ⟨ty, hty, hT_h0, hW, hO, hR⟩ : ∃ t9 : TyM, t9 = rtf ty h0 (15, ρ, [ta, ou, so, ad, na, va, lc, dm, tg, pe, ml, bg, co, sp, nb0, nb1, nb2, pl, se, ke, wi, hs, mo, po, nu, pr, sq, xa, sa, n64, m64, ex, wh, sd, tk, hd, ak, ho, ot, sx, s0, s1, s2, nf, bd, mm, zo, fm, sn, 0, gc, gv, ze, zt]) ∧ t9 h0 = (15, ρ, [ta, ou, so, ad, na, va, lc, dm, tg, pe, ml, bg, co, sp, nb0, nb1, nb2, pl, se, ke, wi, hs, mo, po, nu, pr, sq, xa, sa, n64, m64, ex, wh, sd, tk, hd, ak, ho, ot, sx, s0, s1, s2, nf, bd, mm, zo, fm, sn, 0, gc, gv, ze, zt]) ∧ WTm t9 gm L ∧ OKm cs t9 gm L F ∧ FR t9 (tgS ρ 0) F F := ⟨_, rfl, rtf_self, hW.hcv hL_h0 hT_h0, OKm.retype0 hO hT_h0 (by rw [hF_40]; exact shm.mod rtf_self ⟨v14_28, v15_29, v17_30, v18_31, v19_32, v20_33, v21_34, v22_35, v33_36, v52_37, v53_38, v54_39, rfl, (by first | omega | assumption | exact Or.inl rfl | exact Or.inr rfl | exact Or.inr ⟨rfl, rfl⟩), (by first | omega | assumption | exact Or.inl rfl | exact Or.inr rfl | exact Or.inr ⟨rfl, rfl⟩), (by first | omega | assumption | exact Or.inl rfl | exact Or.inr rfl | exact Or.inr ⟨rfl, rfl⟩), (by first | omega | assumption | exact Or.inl rfl | exact Or.inr rfl | exact Or.inr ⟨rfl, rfl⟩), (by first | omega | assumption | exact Or.inl rfl | exact Or.inr rfl | exact Or.inr ⟨rfl, rfl⟩)⟩), FR.retype hT_h0 hR⟩
    obtain ⟨hq_73, hq_74, hq_75, hq_76, hq_77, hgO, hgA, hgB, hq_78⟩ := hW.sc hL_h0 hT_h0
    have hT2_pe : ty pe = (14, ρ + 7, [rp, 100]) := by rw [hty]; exact rtf_tr hTo (by decide) hT_pe
    have htyA := hty
    obtain ⟨hi_79, ht_80, hq_81⟩ := hW.txt hL_pe hT2_pe
    have hO0 := hO
    obtain ⟨hLs0, hTs0⟩ := hW.f_so hL_h0 hT_h0
    obtain ⟨hLd0, hTd0⟩ := hW.f_ad hL_h0 hT_h0
    obtain ⟨hLn0, hTn0⟩ := hW.f_na hL_h0 hT_h0
    obtain ⟨hLv0, hTv0⟩ := hW.f_va hL_h0 hT_h0
    refine lv_aload_n hx hb dX15_permission_9 rfl (lv_at hl 0 rfl) ?_
    refine lv_iconst (v := 0) hx hb dX15_permission_10 (by decide) ?_
    refine pg_put (ci := 15) (v := .int 0) (ty := .int) (C := RX15) (T := TX15) (N := 59) hx hb hts it_15 tyX15 tyX15_ok nmX15 hown hK hP hD hS hL_h0 hF_40 rfl 14 (by decide) (hts _ kt_731) (fun _ h9 => h9) rfl (by decide +kernel) (rfl) (rfl) (Nat.le_of_ble_eq_true rfl) dX15_permission_11 (fun H locs hP hD hS => ?_)
    obtain ⟨F_82, he_83, hP, hD, hO, hR⟩ : ∃ G, G = va_up F h0 (.inr (15, (.ref ta) :: (.int (nI zt)) :: (.int (nI zo)) :: (.int (nI ze)) :: (.ref ou) :: (.ref so) :: (.ref ad) :: (.ref na) :: (.ref va) :: (.ref lc) :: (.ref dm) :: (.int (nI fm)) :: (.int (nI sn)) :: (.ref tg) :: (.int 0) :: (.int v15_29) :: (.ref pe) :: (.int v17_30) :: (.int v18_31) :: (.int v19_32) :: (.int v20_33) :: (.int v21_34) :: (.int v22_35) :: (.ref ml) :: (.ref bg) :: (.ref co) :: (.ref sp) :: (.ref nb0) :: (.ref nb1) :: (.ref nb2) :: (.int (nI nf)) :: (.int (nI bd)) :: (.int (nI mm)) :: (.int v33_36) :: (.ref pl) :: (.ref se) :: (.ref ke) :: (.ref wi) :: (.ref hs) :: (.ref mo) :: (.ref po) :: (.ref nu) :: (.ref pr) :: (.ref sq) :: (.ref xa) :: (.ref sa) :: (.ref n64) :: (.ref m64) :: (.ref ex) :: (.ref wh) :: (.ref sd) :: (.ref tk) :: (.int v52_37) :: (.int v53_38) :: (.int v54_39) :: (.ref hd) :: (.ref ak) :: (.ref ho) :: (.ref ot) :: [])) ∧ va_P (dC, dI) vwCl (va_pl L G) H ∧ va_D A (va_pl L G) ∧ OKm cs ty gm L G ∧ FR ty (tgS ρ 0) F G := ⟨_, rfl, hP, hD, hO.up (shm.mod hT_h0 ⟨0, v15_29, v17_30, v18_31, v19_32, v20_33, v21_34, v22_35, v33_36, v52_37, v53_38, v54_39, rfl, (by first | omega | assumption | exact Or.inl rfl | exact Or.inr rfl), (by first | omega | assumption | exact Or.inl rfl | exact Or.inr rfl), (by first | omega | assumption | exact Or.inl rfl | exact Or.inr rfl), (by first | omega | assumption | exact Or.inl rfl | exact Or.inr rfl), (by first | omega | assumption | exact Or.inl rfl | exact Or.inr rfl)⟩), hR.up hT_h0 (by first | (simp only [mem_tgS, List.mem_append, List.mem_cons, List.not_mem_nil, or_false]; omega) | simp [mem_tgS])⟩
    have hF_84 : F_82 h0 = .inr (15, (.ref ta) :: (.int (nI zt)) :: (.int (nI zo)) :: (.int (nI ze)) :: (.ref ou) :: (.ref so) :: (.ref ad) :: (.ref na) :: (.ref va) :: (.ref lc) :: (.ref dm) :: (.int (nI fm)) :: (.int (nI sn)) :: (.ref tg) :: (.int 0) :: (.int v15_29) :: (.ref pe) :: (.int v17_30) :: (.int v18_31) :: (.int v19_32) :: (.int v20_33) :: (.int v21_34) :: (.int v22_35) :: (.ref ml) :: (.ref bg) :: (.ref co) :: (.ref sp) :: (.ref nb0) :: (.ref nb1) :: (.ref nb2) :: (.int (nI nf)) :: (.int (nI bd)) :: (.int (nI mm)) :: (.int v33_36) :: (.ref pl) :: (.ref se) :: (.ref ke) :: (.ref wi) :: (.ref hs) :: (.ref mo) :: (.ref po) :: (.ref nu) :: (.ref pr) :: (.ref sq) :: (.ref xa) :: (.ref sa) :: (.ref n64) :: (.ref m64) :: (.ref ex) :: (.ref wh) :: (.ref sd) :: (.ref tk) :: (.int v52_37) :: (.int v53_38) :: (.int v54_39) :: (.ref hd) :: (.ref ak) :: (.ref ho) :: (.ref ot) :: []) := by rw [he_83]; exact up_self
    refine lv_aload_n hx hb dX15_permission_14 rfl (lv_at hl 0 rfl) ?_
    refine lv_iconst (v := 0) hx hb dX15_permission_15 (by decide) ?_
    refine pg_put (ci := 15) (v := .int 0) (ty := .int) (C := RX15) (T := TX15) (N := 59) hx hb hts it_15 tyX15 tyX15_ok nmX15 hown hK hP hD hS hL_h0 hF_84 rfl 15 (by decide) (hts _ kt_730) (fun _ h9 => h9) rfl (by decide +kernel) (rfl) (rfl) (Nat.le_of_ble_eq_true rfl) dX15_permission_16 (fun H locs hP hD hS => ?_)
    obtain ⟨F_85, he_86, hP, hD, hO, hR⟩ : ∃ G, G = va_up F_82 h0 (.inr (15, (.ref ta) :: (.int (nI zt)) :: (.int (nI zo)) :: (.int (nI ze)) :: (.ref ou) :: (.ref so) :: (.ref ad) :: (.ref na) :: (.ref va) :: (.ref lc) :: (.ref dm) :: (.int (nI fm)) :: (.int (nI sn)) :: (.ref tg) :: (.int 0) :: (.int 0) :: (.ref pe) :: (.int v17_30) :: (.int v18_31) :: (.int v19_32) :: (.int v20_33) :: (.int v21_34) :: (.int v22_35) :: (.ref ml) :: (.ref bg) :: (.ref co) :: (.ref sp) :: (.ref nb0) :: (.ref nb1) :: (.ref nb2) :: (.int (nI nf)) :: (.int (nI bd)) :: (.int (nI mm)) :: (.int v33_36) :: (.ref pl) :: (.ref se) :: (.ref ke) :: (.ref wi) :: (.ref hs) :: (.ref mo) :: (.ref po) :: (.ref nu) :: (.ref pr) :: (.ref sq) :: (.ref xa) :: (.ref sa) :: (.ref n64) :: (.ref m64) :: (.ref ex) :: (.ref wh) :: (.ref sd) :: (.ref tk) :: (.int v52_37) :: (.int v53_38) :: (.int v54_39) :: (.ref hd) :: (.ref ak) :: (.ref ho) :: (.ref ot) :: [])) ∧ va_P (dC, dI) vwCl (va_pl L G) H ∧ va_D A (va_pl L G) ∧ OKm cs ty gm L G ∧ FR ty (tgS ρ 0) F G := ⟨_, rfl, hP, hD, hO.up (shm.mod hT_h0 ⟨0, 0, v17_30, v18_31, v19_32, v20_33, v21_34, v22_35, v33_36, v52_37, v53_38, v54_39, rfl, (by first | omega | assumption | exact Or.inl rfl | exact Or.inr rfl), (by first | omega | assumption | exact Or.inl rfl | exact Or.inr rfl), (by first | omega | assumption | exact Or.inl rfl | exact Or.inr rfl), (by first | omega | assumption | exact Or.inl rfl | exact Or.inr rfl), (by first | omega | assumption | exact Or.inl rfl | exact Or.inr rfl)⟩), hR.up hT_h0 (by first | (simp only [mem_tgS, List.mem_append, List.mem_cons, List.not_mem_nil, or_false]; omega) | simp [mem_tgS])⟩
    have hF_87 : F_85 h0 = .inr (15, (.ref ta) :: (.int (nI zt)) :: (.int (nI zo)) :: (.int (nI ze)) :: (.ref ou) :: (.ref so) :: (.ref ad) :: (.ref na) :: (.ref va) :: (.ref lc) :: (.ref dm) :: (.int (nI fm)) :: (.int (nI sn)) :: (.ref tg) :: (.int 0) :: (.int 0) :: (.ref pe) :: (.int v17_30) :: (.int v18_31) :: (.int v19_32) :: (.int v20_33) :: (.int v21_34) :: (.int v22_35) :: (.ref ml) :: (.ref bg) :: (.ref co) :: (.ref sp) :: (.ref nb0) :: (.ref nb1) :: (.ref nb2) :: (.int (nI nf)) :: (.int (nI bd)) :: (.int (nI mm)) :: (.int v33_36) :: (.ref pl) :: (.ref se) :: (.ref ke) :: (.ref wi) :: (.ref hs) :: (.ref mo) :: (.ref po) :: (.ref nu) :: (.ref pr) :: (.ref sq) :: (.ref xa) :: (.ref sa) :: (.ref n64) :: (.ref m64) :: (.ref ex) :: (.ref wh) :: (.ref sd) :: (.ref tk) :: (.int v52_37) :: (.int v53_38) :: (.int v54_39) :: (.ref hd) :: (.ref ak) :: (.ref ho) :: (.ref ot) :: []) := by rw [he_86]; exact up_self
    refine lv_aload_n hx hb dX15_permission_19 rfl (lv_at hl 0 rfl) ?_
    refine lv_aload_n hx hb dX15_permission_20 rfl (lv_at hl 0 rfl) ?_
    refine pg_get (ci := 15) (v := .ref dm) (C := RX15) (T := TX15) (N := 59) hx hb hts it_15 hown hK hP hL_h0 hF_87 rfl 10 (by decide) (hts _ kt_1124) (fun _ h9 => h9) rfl dX15_permission_21 ?_
    refine lv_iconst (v := 0) hx hb dX15_permission_24 (by decide) ?_
    have hQso := hR so (by rw [hTs0]; simp only [mem_tgS, List.mem_append, List.mem_cons, List.not_mem_nil, or_false]; omega)
    have hQad := hR ad (by rw [hTd0]; simp only [mem_tgS, List.mem_append, List.mem_cons, List.not_mem_nil, or_false]; omega)
    have hQna := hR na (by rw [hTn0]; simp only [mem_tgS, List.mem_append, List.mem_cons, List.not_mem_nil, or_false]; omega)
    have hQva := hR va (by rw [hTv0]; simp only [mem_tgS, List.mem_append, List.mem_cons, List.not_mem_nil, or_false]; omega)
    have hDM5 := DIRM.fr hDM hO0 hW hLn0 hTn0 hLv0 hTv0 (by omega) hR hQso hQad hQna hQva (fun k hk => ⟨by simp only [mem_tgS, List.mem_append, List.mem_cons, List.not_mem_nil, or_false]; omega, by simp only [mem_tgS, List.mem_append, List.mem_cons, List.not_mem_nil, or_false]; omega⟩)
    obtain ⟨hi_88, r_51, ht_89⟩ := hW.f_lc hL_h0 hT_h0
    have hLC5 := hLC.fr hO0 hW hi_88 ht_89 hR (by simp only [mem_tgS, List.mem_append, List.mem_cons, List.not_mem_nil, or_false]; omega)
    obtain ⟨hi_90, r_52, ht_91⟩ := hW.f_dm hL_h0 hT_h0
    have hDN5 := hDN.fr hO0 hW hi_90 ht_91 hR (by simp only [mem_tgS, List.mem_append, List.mem_cons, List.not_mem_nil, or_false]; omega)
    obtain ⟨hi_92, ht_93, hq_94⟩ := hW.txt hi_90 ht_91
    obtain ⟨zm, fm9, hm1, hm2, hm3, hm4⟩ := hDN5.get hO hi_90 ht_91
    obtain ⟨hq_95, hq_96⟩ := hW.octs hi_92 ht_93
    have hFc := pg_free hD hS hA
    refine va_calli (va_runV (As := [.ref dm, .int 0]) (rest := []) ⟨hx, hb, hml, hown, hts⟩ (s_X15_check0_x l dC dI cs ty gm L H.size F_85 h0 ρ ta ou so ad na va lc dm tg pe ml bg co sp nb0 nb1 nb2 pl se ke wi hs mo po nu pr sq xa sa n64 m64 ex wh sd tk hd ak ho ot sx s0 s1 s2 nf bd mm zo fm sn gc gv ze zt rp v17_30 v18_31 v19_32 v20_33 v21_34 v22_35 v33_36 v52_37 v53_38 v54_39 dm (ρ + 32) r_52 60 zm fm9 DN D LC DN hW hL_h0 hT_h0 hL_pe hT2_pe hi_90 ht_91 hF_87 (by first | omega | assumption | exact Or.inl rfl) (by first | omega | assumption | exact Or.inl rfl) (by first | omega | assumption | exact Or.inl rfl) (by first | omega | assumption | exact Or.inl rfl) hm1 hm2 (hm4) (tgm_of hm3 (by omega)) (hDM5) (hLC5) (hDN5) (hDN.a8) (by omega) (rfl) (hVN)) ⟨callB_of 2 hts (gi kt_1160) rfl rfl rfl (hts _ kt_669) (hts _ kt_1161) (by decide +kernel) ⟨Nat.le_of_ble_eq_true rfl, Nat.le_of_ble_eq_true rfl⟩, (hts _ kt_1162), (hts _ kt_1163)⟩ ⟨fun a U g mk q => ⟨q.1, PTEm.calling q.2⟩, pg_recv hK hP hL_h0 hF_87 (q := (RX15, TX15, 59)) rfl, fun U hU hWm => ⟨rfl, PTEm.mk hU hWm hP hK hD hE hO hG (fun x hx => absurd hx List.not_mem_nil) hS hFc⟩⟩ rfl rfl hl.1 rfl (lv_room (Nat.le_of_ble_eq_true rfl)) dX15_permission_25 ⟨by show _ + 0 ≤ 0; omega, by show _ + 0 ≤ 0; omega⟩) hS (fun q _ h => hFc q h) hFc (fun r_98 gp_97 t H1 locs ht hvm hw hB hz1 hk1 hS => ?_)
    obtain ⟨F_99, u17_100, u18_101, u19_102, u20_103, u21_104, u22_105, hB1, hq_106⟩ := hB
    obtain ⟨hP, hD, hO, hR⟩ := QTm.back hB1 ht hFc hR (fun q h => by simp only [mem_tgS, List.mem_append, List.mem_cons, List.not_mem_nil, or_false] at h ⊢; omega)
    have hF_107 : F_99 dm = .inr (14, [.ref r_52, .int (nI zm)]) := (hB1.2.2.2 dm (by rw [ht_91]; simp only [mem_tgS, List.mem_append, List.mem_cons, List.not_mem_nil, or_false]; omega)).trans hm1
    have hF_108 : F_99 r_52 = .inl (cs 17, 60, .inl fm9) := (hB1.2.2.2 r_52 (by rw [ht_93]; simp only [mem_tgS, List.mem_append, List.mem_cons, List.not_mem_nil, or_false]; omega)).trans hm2
    generalize H1 = H at hP hS ⊢
    have hw : (r_98 = nI (CHW D ze (sdM LC DN (nI fm)) (nI fm) 11 DN 0 0).1 ∧ gp_97 = (CHW D ze (sdM LC DN (nI fm)) (nI fm) 11 DN 0 0).2) := hw
    have hw_109 := hw
    have hTo := hT_h0
    obtain ⟨ty, hty, hT_h0, hW, hO, hR⟩ : ∃ t9 : TyM, t9 = rtf ty h0 (15, ρ, [ta, ou, so, ad, na, va, lc, dm, tg, pe, ml, bg, co, sp, nb0, nb1, nb2, pl, se, ke, wi, hs, mo, po, nu, pr, sq, xa, sa, n64, m64, ex, wh, sd, tk, hd, ak, ho, ot, sx, s0, s1, s2, nf, bd, mm, zo, fm, sn, 1, gp_97.1, gp_97.2, ze, zt]) ∧ t9 h0 = (15, ρ, [ta, ou, so, ad, na, va, lc, dm, tg, pe, ml, bg, co, sp, nb0, nb1, nb2, pl, se, ke, wi, hs, mo, po, nu, pr, sq, xa, sa, n64, m64, ex, wh, sd, tk, hd, ak, ho, ot, sx, s0, s1, s2, nf, bd, mm, zo, fm, sn, 1, gp_97.1, gp_97.2, ze, zt]) ∧ WTm t9 gm L ∧ OKm cs t9 gm L F_99 ∧ FR t9 (tgS ρ 0) F F_99 := ⟨_, rfl, rtf_self, hW.hcv hL_h0 hT_h0, OKm.retype0 hO hT_h0 (by rw [hq_106]; exact shm.mod rtf_self ⟨(nI gp_97.1), (nI gp_97.2), u17_100, u18_101, u19_102, u20_103, u21_104, u22_105, v33_36, v52_37, v53_38, v54_39, rfl, (by first | omega | assumption | exact Or.inl rfl | exact Or.inr rfl | exact Or.inr ⟨rfl, rfl⟩), (by first | omega | assumption | exact Or.inl rfl | exact Or.inr rfl | exact Or.inr ⟨rfl, rfl⟩), (by first | omega | assumption | exact Or.inl rfl | exact Or.inr rfl | exact Or.inr ⟨rfl, rfl⟩), (by first | omega | assumption | exact Or.inl rfl | exact Or.inr rfl | exact Or.inr ⟨rfl, rfl⟩), (by first | omega | assumption | exact Or.inl rfl | exact Or.inr rfl | exact Or.inr ⟨rfl, rfl⟩)⟩), FR.retype hT_h0 hR⟩
    obtain ⟨hq_132, hq_133, hq_134, hq_135, hq_136, hgO, hgA, hgB, hq_137⟩ := hW.sc hL_h0 hT_h0
    have htyB := hty
    refine W.widen (k := 0) (n := 0) (by omega) (by omega) ?_
    exact W.iret (v := r_98) hx hb hr (fun t ht hWm => ⟨⟨r_98, (some gp_97), rfl, (Or.inr ⟨hs0, hw_109.1, congrArg some hw_109.2⟩), ⟨F_99, ty, (by rw [htyB, htyA, rtf_rtf2]; rfl), QTm.mk ht hP hD hO hR, hW⟩⟩, hS.F ht⟩) hS.2.2 dX15_permission_28
  ·
    have hi_138 : sn = 0 := (nI_eq (a := sn) (b := 0) (by omega) (by omega)).mp c_49
    have hs0 : sn = 0 := (nI_eq (b := 0) (by omega) (by omega)).mp c_49
    refine lv_iconst (v := (-1)) hx hb dX15_permission_7 (by decide) ?_
    refine W.widen (k := 0) (n := 0) (by omega) (by omega) ?_
    exact W.iret (v := (-1)) hx hb hr (fun t ht hWm => ⟨⟨(-1), none, rfl, (Or.inl ⟨hs0, rfl, rfl⟩), ⟨F, ty, (rtf_idw hT_h0), QTm.mk ht hP hD hO hR, hW⟩⟩, hS.F ht⟩) hS.2.2 dX15_permission_8
set_option maxHeartbeats 4000000 in
set_option maxRecDepth 100000 in
theorem s_X15_cost_x (l : Launch) (dC : Nat → ClassId) (dI : Nat → Nat → Nat) (cs : Nat → ClassId) (ty : TyM) (gm : Nat → Nat → Nat) (L : List Nat) (sz : Nat) (F : Nat → va_E) (h0 : Nat) (ρ : Nat) (ta : Nat) (ou : Nat) (so : Nat) (ad : Nat) (na : Nat) (va : Nat) (lc : Nat) (dm : Nat) (tg : Nat) (pe : Nat) (ml : Nat) (bg : Nat) (co : Nat) (sp : Nat) (nb0 : Nat) (nb1 : Nat) (nb2 : Nat) (pl : Nat) (se : Nat) (ke : Nat) (wi : Nat) (hs : Nat) (mo : Nat) (po : Nat) (nu : Nat) (pr : Nat) (sq : Nat) (xa : Nat) (sa : Nat) (n64 : Nat) (m64 : Nat) (ex : Nat) (wh : Nat) (sd : Nat) (tk : Nat) (hd : Nat) (ak : Nat) (ho : Nat) (ot : Nat) (sx : Nat) (s0 : Nat) (s1 : Nat) (s2 : Nat) (nf : Nat) (bd : Nat) (mm : Nat) (zo : Nat) (fm : Nat) (sn : Nat) (hg : Nat) (gc : Nat) (gv : Nat) (ze : Nat) (zt : Nat) (x1 : Int32) (hW : WTm ty gm L) (hL_h0 : h0 ∈ L) (hT_h0 : ty h0 = (15, ρ, [ta, ou, so, ad, na, va, lc, dm, tg, pe, ml, bg, co, sp, nb0, nb1, nb2, pl, se, ke, wi, hs, mo, po, nu, pr, sq, xa, sa, n64, m64, ex, wh, sd, tk, hd, ak, ho, ot, sx, s0, s1, s2, nf, bd, mm, zo, fm, sn, hg, gc, gv, ze, zt])) (hhg : hg = 1) : Met l yX15_cost (.code yX15_cost cX15_cost 2 (some .int) :: tb) ({ frames := 0, cells := 0, slots := 0, locals := 0 }) (va_Pc [.ref h0, .int x1] (PTm (dC, dI) cs ty gm L F sz)) (va_Qi (fun (r : Int32) (_ : Unit) => r = (if x1 = 0 then nI gc else if x1 = 1 then nI gv else (-1))) (fun _ T9 => ∃ F2 : Nat → va_E, QTm (dC, dI) cs ty gm L [] F F2 (va_A (va_pl L F) sz) T9) (va_A (va_pl L F) sz)) 0 0 (va_A (va_pl L F) sz) := by
  refine Met.ofW (cc := cX15_cost) (maxL := 2) (ret := (some .int)) (by decide) rfl ?_
  intro p e s m args below meth c s₁ B hml hv
  obtain ⟨rfl, hsz, hP, hK, hD0, hE, hO⟩ := hv
  have hx := B.exec
  have hb := B.bytes
  have hr := B.returns
  have hts : ∀ w ∈ tb, w.before _ s = true := fun w h => atoms_spec (ws := .code yX15_cost cX15_cost 2 (some .int) :: tb) B.pre w (List.mem_cons_of_mem _ h)
  have hown : s.vm.findClass RX15 = some m.cls := findClass_of_methodNamed B.named
  have hlocks := B.notSynchronized
  subst hsz
  have hD := hD0.self (sz := s.heap.size)
  generalize hAe : va_A (va_pl L F) s.heap.size = A at hD ⊢
  have hA : ∀ q : Nat, s.heap.size ≤ q → A q := fun q h => by rw [← hAe]; exact Or.inr h
  have hS : va_S A s.heap s.heap [] := va_S.rf
  have hR : FR ty [] F F := FR.refl
  have hl := lv_entry ([.ref h0, .int x1]) (n := 2) (Nat.le_of_ble_eq_true rfl)
  rw [lg_entry_eq]
  generalize (lg_sl ([.ref h0, .int x1]) ++ List.replicate (2 - (lg_sl ([.ref h0, .int x1])).length) Slot.unset).toArray = ls at hl ⊢
  have hl : lv_has ls 2 [(0, .ref h0), (1, .int x1)] := hl
  obtain ⟨hq_23, hq_24, hq_25, hq_26, hq_27, hgO, hgA, hgB, hq_28⟩ := hW.sc hL_h0 hT_h0
  obtain ⟨v14_29, v15_30, v17_31, v18_32, v19_33, v20_34, v21_35, v22_36, v33_37, v52_38, v53_39, v54_40, hF_41, hq_42, hq_43, hq_44, hq_45, hq_46⟩ := hO.mod hL_h0 hT_h0
  obtain ⟨hcv1, hcv2⟩ := hq_46.resolve_left (by omega)
  refine lv_iload_n hx hb dX15_cost_0 rfl (lv_at hl 1 rfl) ?_
  refine lv_if_ne (tgt := 11) hx hb dX15_cost_1 (by decide) (fun c_47 => ?_) (fun c_47 => ?_)
  ·
    refine lv_iload_n hx hb dX15_cost_11 rfl (lv_at hl 1 rfl) ?_
    refine lv_iconst (v := 1) hx hb dX15_cost_12 (by decide) ?_
    refine lv_icmp_ne (tgt := 23) hx hb dX15_cost_13 (by decide) (fun c_48 => ?_) (fun c_48 => ?_)
    ·
      refine lv_iconst (v := (-1)) hx hb dX15_cost_23 (by decide) ?_
      refine W.widen (k := 0) (n := 0) (by omega) (by omega) ?_
      exact W.iret (v := (-1)) hx hb hr (fun t ht hWm => ⟨⟨(-1), (), rfl, (by rw [if_neg c_47, if_neg c_48]), ⟨F, QTm.mk ht hP hD hO hR⟩⟩, hS.F ht⟩) hS.2.2 dX15_cost_24
    ·
      refine lv_aload_n hx hb dX15_cost_16 rfl (lv_at hl 0 rfl) ?_
      refine pg_get (ci := 15) (v := .int v15_30) (C := RX15) (T := TX15) (N := 59) hx hb hts it_15 hown hK hP hL_h0 hF_41 rfl 15 (by decide) (hts _ kt_730) (fun _ h9 => h9) rfl dX15_cost_17 ?_
      refine lv_goto (tgt := 24) hx hb dX15_cost_20 (by decide) ?_
      refine W.widen (k := 0) (n := 0) (by omega) (by omega) ?_
      exact W.iret (v := v15_30) hx hb hr (fun t ht hWm => ⟨⟨v15_30, (), rfl, (by rw [if_neg c_47, if_pos c_48]; exact hcv2), ⟨F, QTm.mk ht hP hD hO hR⟩⟩, hS.F ht⟩) hS.2.2 dX15_cost_24
  ·
    refine lv_aload_n hx hb dX15_cost_4 rfl (lv_at hl 0 rfl) ?_
    refine pg_get (ci := 15) (v := .int v14_29) (C := RX15) (T := TX15) (N := 59) hx hb hts it_15 hown hK hP hL_h0 hF_41 rfl 14 (by decide) (hts _ kt_731) (fun _ h9 => h9) rfl dX15_cost_5 ?_
    refine lv_goto (tgt := 24) hx hb dX15_cost_8 (by decide) ?_
    refine W.widen (k := 0) (n := 0) (by omega) (by omega) ?_
    exact W.iret (v := v14_29) hx hb hr (fun t ht hWm => ⟨⟨v14_29, (), rfl, (by rw [if_pos c_47]; exact hcv1), ⟨F, QTm.mk ht hP hD hO hR⟩⟩, hS.F ht⟩) hS.2.2 dX15_cost_24
noncomputable def hsM (D : Nat → ETY) (ze : Nat) (V : List Nat) : Nat := HST (UNM (faU V) V.length) (faU V) V.length D ze
noncomputable def mvW (D : Nat → ETY) (ze : Nat) (V : List Nat) : Int32 := if woW D ze (DMU V 0) = (-2) then 5 else if woW D ze (DMU V 0) = (-1) then (if woW D ze (DMU V (hsM D ze V)) = (-2) then 5 else if woW D ze (DMU V (hsM D ze V)) = (-1) then 0 else rvU D (woW D ze (DMU V (hsM D ze V))) 0) else rvU D (woW D ze (DMU V 0)) 1
noncomputable def msW (D : Nat → ETY) (ze : Nat) : Option (List Nat) → Int32
  | none => 1
  | some V => mvW D ze V
theorem snr_plr {P : Nat → Prop} {n : Nat} {Z : Nat → Option (List Nat)} {r : Int32} {gU : Option (List Nat)} (D : Nat → ETY) (ze : Nat) (h : SNR P n Z r gU) : PLR P n (fun j => msW D ze (Z j)) (msW D ze gU) := by
  obtain ⟨-, w, h1, h2⟩ := h
  refine ⟨w, h1, ?_⟩
  rcases h2 with ⟨a1, a2⟩ | ⟨a1, j, a2, a3, a4, a5⟩
  · rw [a2]
    exact Or.inl ⟨a1, rfl⟩
  · rw [a5]
    exact Or.inr ⟨a1, j, a2, a3, a4, rfl⟩
theorem snr_s {P : Nat → Prop} {n : Nat} {Z : Nat → Option (List Nat)} {r : Int32} {gU : Option (List Nat)} (h : SNR P n Z r gU) (k : ¬ r = 0) : ∃ V, gU = some V := by
  rcases h.1 with q | q
  · cases e9 : gU with
    | none => exact absurd e9 q.2
    | some V => exact ⟨V, rfl⟩
  · exact absurd q.1 k
theorem snr_z {P : Nat → Prop} {n : Nat} {Z : Nat → Option (List Nat)} {r : Int32} {gU : Option (List Nat)} (h : SNR P n Z r gU) (k : r = 0) : gU = none := by
  rcases h.1 with q | q
  · exact absurd (q.1.symm.trans k) (by decide)
  · exact q.2
def WCQ (P : Nat → Prop) (n : Nat) (Z : Nat → Int32) (sn : Nat) (x1 : Int32) (X : Nat × Nat) (gp : Option (Nat × Nat)) : Prop := ((sn = 0 ∨ x1 < 0 ∨ n = 0) ∧ gp = none) ∨ (¬ sn = 0 ∧ ¬ x1 < 0 ∧ ¬ n = 0 ∧ ∃ ro, PLR P n Z ro ∧ ((ro = (-1) ∧ gp = some X) ∨ (¬ ro = (-1) ∧ gp = none)))
theorem woW_3 {D : Nat → ETY} {ze : Nat} {U : List Nat} (hz : ze ≤ 40) : woW D ze U = (-2) ∨ woW D ze U = (-1) ∨ ∃ j, j < ze ∧ woW D ze U = nI j := by
  unfold woW
  by_cases c : HAS D ze 3 (ooU U) (yU U) (faU U)
  · rw [if_pos c]
    exact Or.inl rfl
  · rw [if_neg c]
    by_cases d : otU D ze U < 0
    · rw [if_pos d]
      exact Or.inr (Or.inl rfl)
    · rw [if_neg d]
      obtain ⟨j, h1, h2, -⟩ := otv_ge ze d
      exact Or.inr (Or.inr ⟨j, h1, h2⟩)
theorem woW_k {x : Int32} (h : x = (-2) ∨ x = (-1) ∨ ∃ j, j < 40 ∧ x = nI j) (c : 0 ≤ x) : ∃ j, j < 40 ∧ x = nI j := by
  rcases h with h | h | h
  · rw [h] at c
    exact absurd c (by decide)
  · rw [h] at c
    exact absurd c (by decide)
  · exact h
theorem mv_y {D : Nat → ETY} {ze j : Nat} {V : List Nat} (h : woW D ze (DMU V 0) = nI j) (hj : j < 40) : mvW D ze V = rrW (TC (D j).2.2.2.2.2 (D j).2.2.2.2.1) (D j).2.2.2.2.1 1 := by
  have hp : ¬ nI j < 0 := nI_pos (by omega)
  unfold mvW
  rw [h, if_neg (fun q => hp (by rw [q]; decide)), if_neg (fun q => hp (by rw [q]; decide))]
  exact rvU_j rfl (by omega)
theorem mv_n {D : Nat → ETY} {ze j : Nat} {V : List Nat} (h0 : woW D ze (DMU V 0) = (-1)) (h : woW D ze (DMU V (hsM D ze V)) = nI j) (hj : j < 40) : mvW D ze V = rrW (TC (D j).2.2.2.2.2 (D j).2.2.2.2.1) (D j).2.2.2.2.1 0 := by
  have hp : ¬ nI j < 0 := nI_pos (by omega)
  unfold mvW
  rw [h0, if_neg (by decide), if_pos rfl, h, if_neg (fun q => hp (by rw [q]; decide)), if_neg (fun q => hp (by rw [q]; decide))]
  exact rvU_j rfl (by omega)
def W71 (D : Nat → ETY) (ze : Nat) (V : List Nat) (x o : Int32) : Prop := (o = 1 ∧ x = woW D ze (DMU V 0) ∧ ¬ x = (-1)) ∨ (o = 0 ∧ woW D ze (DMU V 0) = (-1) ∧ x = woW D ze (DMU V (hsM D ze V)))
theorem w71_k {D : Nat → ETY} {ze j : Nat} {V : List Nat} {o : Int32} (h : W71 D ze V (nI j) o) (hj : j < 40) : mvW D ze V = rrW (TC (D j).2.2.2.2.2 (D j).2.2.2.2.1) (D j).2.2.2.2.1 o := by
  rcases h with ⟨h1, h2, -⟩ | ⟨h1, h2, h3⟩
  · rw [h1]
    exact mv_y h2.symm hj
  · rw [h1]
    exact mv_n h2 h3.symm hj
theorem w71_n {D : Nat → ETY} {ze : Nat} {V : List Nat} {x o : Int32} (h : W71 D ze V x o) (hz : ze ≤ 40) (c : x < 0) : ¬ mvW D ze V = (-1) := by
  have hk : ∀ U, woW D ze U < 0 → woW D ze U = (-2) ∨ woW D ze U = (-1) := fun U q => by
    rcases woW_3 (D := D) (U := U) hz with h | h | ⟨j, h1, h2⟩
    · exact Or.inl h
    · exact Or.inr h
    · rw [h2] at q
      exact absurd q (nI_pos (by omega))
  unfold mvW
  rcases h with ⟨-, h2, h3⟩ | ⟨-, h2, h3⟩
  · rw [h2] at c h3
    have e : woW D ze (DMU V 0) = (-2) := (hk _ c).resolve_right h3
    rw [if_pos e]
    decide
  · rw [h2, if_neg (by decide), if_pos rfl]
    rw [h3] at c
    rcases hk _ c with e | e
    · rw [if_pos e]
      decide
    · rw [e, if_neg (by decide), if_pos rfl]
      decide
theorem unm_eq {f g e : Nat → Int32} {z y : Nat} (h : ∀ j, j < z → f j = g j) : UNM f z e y ↔ UNM g z e y := by
  have hk : ∀ f g : Nat → Int32, (∀ j, j < z → f j = g j) → UNM f z e y → UNM g z e y := fun f g h q => by
    obtain ⟨q1, q2, q3⟩ := q
    refine ⟨q1, ?_, fun j hj => ?_⟩
    · rcases q2 with c | ⟨c1, c2⟩
      · exact Or.inl c
      · by_cases d : z = y
        · exact Or.inl d
        · exact Or.inr ⟨c1, by rw [← h (z - y - 1) (by omega)]; exact c2⟩
    · rw [← h (z - y + j) (by omega)]
      exact q3 j hj
  exact ⟨hk f g h, hk g f (fun j hj => (h j hj).symm)⟩
theorem hstm_eq {f g : Nat → Int32} {z : Nat} {D : Nat → ETY} {ze : Nat} (h : ∀ j, j < z → f j = g j) : HST (UNM f z) f z D ze = HST (UNM g z) g z D ze := hst_cg (lgw_cg ze (fun i hi => ⟨⟨fun q => ⟨q.1, (unm_eq h).mp q.2⟩, fun q => ⟨q.1, (unm_eq h).mpr q.2⟩⟩, rfl⟩)) (fun j hj => by rw [h j hj])
theorem src_hs {D : Nat → ETY} {ze : Nat} {V : List Nat} {y2 : Nat} {gd fc : Nat → Int32} (h : SRC V V.length gd) (hy : y2 = V.length - HST (UNM gd V.length) gd V.length D ze) (hf : ∀ j, j < y2 → fc j = gd (HST (UNM gd V.length) gd V.length D ze + j)) : SRC (rgL V (hsM D ze V) (V.length - hsM D ze V)) y2 fc := by
  have e : HST (UNM gd V.length) gd V.length D ze = hsM D ze V := hstm_eq h.2.1
  rw [e] at hy hf
  have hl : hsM D ze V ≤ V.length := hst_le
  refine ⟨by rw [rgL_len, hy], fun j hj => ?_, fun j hj => ?_⟩
  · rw [hf j hj, rgL_get _ _ _ (by omega), h.2.1 _ (by omega)]
  · rw [rgL_get _ _ _ (by omega)]
    exact h.2.2 _ (by omega)
theorem w71_j {D : Nat → ETY} {ze : Nat} {V : List Nat} {x o : Int32} (h : W71 D ze V x o) (hz : ze ≤ 40) (c : 0 ≤ x) : ∃ j, j < ze ∧ x = nI j := by
  have hk : ∀ U, x = woW D ze U → ∃ j, j < ze ∧ x = nI j := fun U e => by
    rcases woW_3 (D := D) (U := U) hz with h | h | ⟨j, h1, h2⟩
    · rw [e, h] at c
      exact absurd c (by decide)
    · rw [e, h] at c
      exact absurd c (by decide)
    · exact ⟨j, h1, e.trans h2⟩
  rcases h with ⟨-, h2, -⟩ | ⟨-, -, h2⟩
  · exact hk _ h2
  · exact hk _ h2
set_option maxHeartbeats 4000000 in
set_option maxRecDepth 100000 in
theorem s_X15_wish_c (l : Launch) (dC : Nat → ClassId) (dI : Nat → Nat → Nat) (cs : Nat → ClassId) (ty : TyM) (gm : Nat → Nat → Nat) (L : List Nat) (sz : Nat) (F : Nat → va_E) (h0 : Nat) (ρ : Nat) (ta : Nat) (ou : Nat) (so : Nat) (ad : Nat) (na : Nat) (va : Nat) (lc : Nat) (dm : Nat) (tg : Nat) (pe : Nat) (ml : Nat) (bg : Nat) (co : Nat) (sp : Nat) (nb0 : Nat) (nb1 : Nat) (nb2 : Nat) (pl : Nat) (se : Nat) (ke : Nat) (wi : Nat) (hs : Nat) (mo : Nat) (po : Nat) (nu : Nat) (pr : Nat) (sq : Nat) (xa : Nat) (sa : Nat) (n64 : Nat) (m64 : Nat) (ex : Nat) (wh : Nat) (sd : Nat) (tk : Nat) (hd : Nat) (ak : Nat) (ho : Nat) (ot : Nat) (sx : Nat) (s0 : Nat) (s1 : Nat) (s2 : Nat) (nf : Nat) (bd : Nat) (mm : Nat) (zo : Nat) (fm : Nat) (sn : Nat) (hg : Nat) (gc : Nat) (gv : Nat) (ze : Nat) (zt : Nat) (sb : Nat) (rl : Nat) (rp : Nat) (rak : Nat) (x1 : Int32) (D : Nat → ETY) (LC : List Nat) (DN : List Nat) (gl : Nat → Int32) (hW : WTm ty gm L) (hL_h0 : h0 ∈ L) (hT_h0 : ty h0 = (15, ρ, [ta, ou, so, ad, na, va, lc, dm, tg, pe, ml, bg, co, sp, nb0, nb1, nb2, pl, se, ke, wi, hs, mo, po, nu, pr, sq, xa, sa, n64, m64, ex, wh, sd, tk, hd, ak, ho, ot, sx, s0, s1, s2, nf, bd, mm, zo, fm, sn, hg, gc, gv, ze, zt])) (hL_sx : sx ∈ L) (hT_sx : ty sx = (14, ρ + 12, [sb, 3000])) (hL_pl : pl ∈ L) (hT_pl : ty pl = (14, ρ + 10, [rl, 6000])) (hL_pe : pe ∈ L) (hT_pe : ty pe = (14, ρ + 7, [rp, 100])) (hL_ak : ak ∈ L) (hT_ak : ty ak = (14, ρ + 28, [rak, 6000])) (hDM : DIRM cs F so ad na va ze D) (hVN : ∀ k, k < ze → (D k).1 = 2 → SRC (vlL (D k)) (D k).2.2.2.2.1 (D k).2.2.2.2.2 ∧ (D k).2.2.2.2.1 ≤ 60) (hSN : (sn = 0 ∨ (TXM cs F lc 30 LC ∧ TXM cs F dm 60 DN))) (hFml : F ml = .inl (cs 17, 3000, .inl gl)) (hby : (nf = 0 ∨ ∀ j, j < mm → BYQ (gl j))) (hbd : ∀ k, k < ze → ∀ j, j < (D k).2.2.2.2.1 → BYQ ((D k).2.2.2.2.2 j)) : Met l yX15_wish (.code yX15_wish cX15_wish 6 (some .int) :: tb) ({ frames := 79, cells := 0, slots := 0, locals := 1787 }) (va_Pc [.ref h0, .int x1] (PTEm (dC, dI) cs ty gm L F sz [])) (va_Qi (fun (r : Int32) (gp : Option (Nat × Nat)) => True) (fun (gp : Option (Nat × Nat)) T9 => ∃ F2 : Nat → va_E, ∃ ty2 : TyM, ty2 = rtf ty h0 (15, ρ, [ta, ou, so, ad, na, va, lc, dm, tg, pe, ml, bg, co, sp, nb0, nb1, nb2, pl, se, ke, wi, hs, mo, po, nu, pr, sq, xa, sa, n64, m64, ex, wh, sd, tk, hd, ak, ho, ot, sx, s0, s1, s2, nf, bd, mm, zo, fm, sn, (hgr gp hg), (gcr gp gc), (gvr gp gv), ze, zt]) ∧ QTm (dC, dI) cs ty2 gm L (tgS ρ 0 ++ [ρ + 10, ρ + 11, ρ + 12, ρ + 13, ρ + 14, ρ + 15, ρ + 16, ρ + 17, ρ + 18, ρ + 19, ρ + 20, ρ + 21, ρ + 22, ρ + 23, ρ + 24, ρ + 25, ρ + 26, ρ + 28, ρ + 29, ρ + 30, ρ + 81, ρ + 82, ρ + 83, ρ + 84, ρ + 85, ρ + 86, ρ + 87, ρ + 88, ρ + 89, ρ + 90]) F F2 (va_A (va_pl L F) sz) T9 ∧ WTm ty2 gm L ∧ WCQ (fun i => alP gl (gm 0 i) (gm 1 i) (cct [102, 114, 111, 109]) 4) nf (fun j9 => msW D ze (dmW (TC gl mm) (gm 1 j9) (gm 2 j9))) sn x1 (CHW D ze (sdM LC DN (nI fm)) (nI fm) 11 DN 0 0).2 gp) (va_A (va_pl L F) sz)) 0 0 (va_A (va_pl L F) sz) := by
  refine Met.ofW (cc := cX15_wish) (maxL := 6) (ret := (some .int)) (by decide) rfl ?_
  intro p e s m args below meth c s₁ B hml hv
  obtain ⟨rfl, ⟨hsz, hP, hK, hD0, hE, hO⟩, hG, hX⟩ := hv
  have hx := B.exec
  have hb := B.bytes
  have hr := B.returns
  have hts : ∀ w ∈ tb, w.before _ s = true := fun w h => atoms_spec (ws := .code yX15_wish cX15_wish 6 (some .int) :: tb) B.pre w (List.mem_cons_of_mem _ h)
  have hown : s.vm.findClass RX15 = some m.cls := findClass_of_methodNamed B.named
  have hlocks := B.notSynchronized
  subst hsz
  have hD := hD0.self (sz := s.heap.size)
  generalize hAe : va_A (va_pl L F) s.heap.size = A at hD hG hX ⊢
  have hA : ∀ q : Nat, s.heap.size ≤ q → A q := fun q h => by rw [← hAe]; exact Or.inr h
  have hS : va_S A s.heap s.heap [] := va_S.rf
  have hR : FR ty (tgS ρ 0 ++ [ρ + 10, ρ + 11, ρ + 12, ρ + 13, ρ + 14, ρ + 15, ρ + 16, ρ + 17, ρ + 18, ρ + 19, ρ + 20, ρ + 21, ρ + 22, ρ + 23, ρ + 24, ρ + 25, ρ + 26, ρ + 28, ρ + 29, ρ + 30, ρ + 81, ρ + 82, ρ + 83, ρ + 84, ρ + 85, ρ + 86, ρ + 87, ρ + 88, ρ + 89, ρ + 90]) F F := FR.refl
  have hl := lv_entry ([.ref h0, .int x1]) (n := 6) (Nat.le_of_ble_eq_true rfl)
  rw [lg_entry_eq]
  generalize (lg_sl ([.ref h0, .int x1]) ++ List.replicate (6 - (lg_sl ([.ref h0, .int x1])).length) Slot.unset).toArray = ls at hl ⊢
  have hl : lv_has ls 6 [(0, .ref h0), (1, .int x1)] := hl
  obtain ⟨hq_20, hq_21, hq_22, hq_23, hq_24, hgO, hgA, hgB, hq_25⟩ := hW.sc hL_h0 hT_h0
  obtain ⟨hi_26, ht_27⟩ := hW.f_se hL_h0 hT_h0
  obtain ⟨_, hi_28, hi_29, hi_30, _, ht_31, ht_32, ht_33, hq_34, hq_35⟩ := hW.tags hi_26 ht_27
  have ht_32 : ty s1 = (25, ρ + 81, [40, 1280]) := ht_32
  have ht_33 : ty s2 = (25, ρ + 82, [40, 1280]) := ht_33
  obtain ⟨hi_36, ht_37, hq_38⟩ := hW.txt hL_sx hT_sx
  obtain ⟨hi_39, ht_40, hq_41⟩ := hW.txt hL_pl hT_pl
  obtain ⟨hi_42, ht_43, hq_44⟩ := hW.txt hL_pe hT_pe
  obtain ⟨hi_45, ht_46, hq_47⟩ := hW.txt hL_ak hT_ak
  obtain ⟨hi_48, r_18, ht_49⟩ := hW.f_ho hL_h0 hT_h0
  obtain ⟨hi_50, ht_51, hq_52⟩ := hW.txt hi_48 ht_49
  obtain ⟨hi_53, x_7, y0_8, y1_9, y2_10, ht_54⟩ := hW.f_wi hL_h0 hT_h0
  obtain ⟨hi_55, hi_56, hi_57, hi_58, ⟨r_59, ht_60⟩, ht_61, ht_62, ht_63, hq_64, hq_65⟩ := hW.tags hi_53 ht_54
  have ht_60 : ty x_7 = (14, ρ + 16, [r_59, 700]) := ht_60
  have ht_62 : ty y1_9 = (25, ρ + 85, [40, 700]) := ht_62
  have ht_63 : ty y2_10 = (25, ρ + 86, [40, 700]) := ht_63
  obtain ⟨hi_66, r_2, ht_67⟩ := hW.f_dm hL_h0 hT_h0
  obtain ⟨hi_68, ht_69, hq_70⟩ := hW.txt hi_66 ht_67
  obtain ⟨hi_71, r_17, ht_72⟩ := hW.f_sd hL_h0 hT_h0
  obtain ⟨hi_73, ht_74, hq_75⟩ := hW.txt hi_71 ht_72
  obtain ⟨hi_76, ht_77⟩ := hW.f_ml hL_h0 hT_h0
  obtain ⟨hq_78, hq_79⟩ := hW.octs hi_76 ht_77
  obtain ⟨v14_80, v15_81, v17_82, v18_83, v19_84, v20_85, v21_86, v22_87, v33_88, v52_89, v53_90, v54_91, hF_92, hq_93, hq_94, hq_95, hq_96, hq_97⟩ := hO.mod hL_h0 hT_h0
  have hO0 := hO
  have hW0 := hW
  obtain ⟨hLs0, hTs0⟩ := hW.f_so hL_h0 hT_h0
  obtain ⟨hLd0, hTd0⟩ := hW.f_ad hL_h0 hT_h0
  obtain ⟨hLn0, hTn0⟩ := hW.f_na hL_h0 hT_h0
  obtain ⟨hLv0, hTv0⟩ := hW.f_va hL_h0 hT_h0
  refine lv_aload_n hx hb dX15_wish_0 rfl (lv_at hl 0 rfl) ?_
  refine pg_get (ci := 15) (v := .int (nI sn)) (C := RX15) (T := TX15) (N := 59) hx hb hts it_15 hown hK hP hL_h0 hF_92 rfl 12 (by decide) (hts _ kt_1187) (fun _ h9 => h9) rfl dX15_wish_1 ?_
  refine lv_if_eq (tgt := 11) hx hb dX15_wish_4 (by decide) (fun c_98 => ?_) (fun c_98 => ?_)
  ·
    have hi_99 : sn = 0 := (nI_eq (a := sn) (b := 0) (by omega) (by omega)).mp c_98
    have hs0 : sn = 0 := (nI_eq (b := 0) (by omega) (by omega)).mp c_98
    refine lv_iconst (v := (-1)) hx hb dX15_wish_11 (by decide) ?_
    refine W.widen (k := 0) (n := 0) (by omega) (by omega) ?_
    exact W.iret (v := (-1)) hx hb hr (fun t ht hWm => ⟨⟨(-1), none, rfl, trivial, ⟨F, ty, (rtf_idw hT_h0), QTm.mk ht hP hD hO hR, hW, (Or.inl ⟨Or.inl hs0, rfl⟩)⟩⟩, hS.F ht⟩) hS.2.2 dX15_wish_12
  ·
    have hi_100 : sn ≠ 0 := fun q => c_98 (by rw [q]; rfl)
    have hs0 : ¬ sn = 0 := fun q => c_98 (by rw [q]; rfl)
    refine lv_iload_n hx hb dX15_wish_7 rfl (lv_at hl 1 rfl) ?_
    refine lv_if_ge (tgt := 13) hx hb dX15_wish_8 (by decide) (fun c_101 => ?_) (fun c_101 => ?_)
    ·
      refine lv_aload_n hx hb dX15_wish_13 rfl (lv_at hl 0 rfl) ?_
      refine pg_get (ci := 15) (v := .int v33_88) (C := RX15) (T := TX15) (N := 59) hx hb hts it_15 hown hK hP hL_h0 hF_92 rfl 33 (by decide) (hts _ kt_891) (fun _ h9 => h9) rfl dX15_wish_14 ?_
      refine lv_if_ne (tgt := 23) hx hb dX15_wish_17 (by decide) (fun c_102 => ?_) (fun c_102 => ?_)
      ·
        have hn0 : ¬ nf = 0 := by rcases hq_95 with q | q; exact absurd q.1 c_102; omega
        refine lv_aload_n hx hb dX15_wish_23 rfl (lv_at hl 0 rfl) ?_
        have hFc := pg_free hD hS hA
        refine va_calli (va_runV (As := []) (rest := []) ⟨hx, hb, hml, hown, hts⟩ (s_X15_isSeen_x l dC dI cs ty gm L s.heap.size F h0 ρ ta ou so ad na va lc dm tg pe ml bg co sp nb0 nb1 nb2 pl se ke wi hs mo po nu pr sq xa sa n64 m64 ex wh sd tk hd ak ho ot sx s0 s1 s2 nf bd mm zo fm sn hg gc gv ze zt rak gl hW hL_h0 hT_h0 hL_ak hT_ak hFml (hby.resolve_left hn0)) ⟨callB_of 0 hts (gi kt_1188) rfl rfl rfl (hts _ kt_669) (hts _ kt_1189) (by decide +kernel) ⟨Nat.le_of_ble_eq_true rfl, Nat.le_of_ble_eq_true rfl⟩, (hts _ kt_1190), (hts _ kt_1191)⟩ ⟨fun a U g mk q => ⟨q.1, PTEm.calling q.2⟩, pg_recv hK hP hL_h0 hF_92 (q := (RX15, TX15, 59)) rfl, fun U hU hWm => ⟨rfl, PTEm.mk hU hWm hP hK hD hE hO hG (fun x hx => absurd hx List.not_mem_nil) hS hFc⟩⟩ rfl rfl hl.1 rfl (lv_room (Nat.le_of_ble_eq_true rfl)) dX15_wish_24 ⟨by show _ + 0 ≤ 0; omega, by show _ + 0 ≤ 0; omega⟩) hS (fun q _ h => hFc q h) hFc (fun r_104 gU_103 t H1 locs ht hvm hw hB hz1 hk1 hS => ?_)
        obtain ⟨F_105, hB1, hq_106⟩ := hB
        obtain ⟨hP, hD, hO, hR⟩ := QTm.back hB1 ht hFc hR (fun q h => by simp only [mem_tgS, List.mem_append, List.mem_cons, List.not_mem_nil, or_false] at h ⊢; omega)
        have hF_107 : F_105 ml = .inl (cs 17, 3000, .inl gl) := (hB1.2.2.2 ml (by rw [ht_77]; simp)).trans hFml
        have hF_108 : F_105 h0 = .inr (15, (.ref ta) :: (.int (nI zt)) :: (.int (nI zo)) :: (.int (nI ze)) :: (.ref ou) :: (.ref so) :: (.ref ad) :: (.ref na) :: (.ref va) :: (.ref lc) :: (.ref dm) :: (.int (nI fm)) :: (.int (nI sn)) :: (.ref tg) :: (.int v14_80) :: (.int v15_81) :: (.ref pe) :: (.int v17_82) :: (.int v18_83) :: (.int v19_84) :: (.int v20_85) :: (.int v21_86) :: (.int v22_87) :: (.ref ml) :: (.ref bg) :: (.ref co) :: (.ref sp) :: (.ref nb0) :: (.ref nb1) :: (.ref nb2) :: (.int (nI nf)) :: (.int (nI bd)) :: (.int (nI mm)) :: (.int v33_88) :: (.ref pl) :: (.ref se) :: (.ref ke) :: (.ref wi) :: (.ref hs) :: (.ref mo) :: (.ref po) :: (.ref nu) :: (.ref pr) :: (.ref sq) :: (.ref xa) :: (.ref sa) :: (.ref n64) :: (.ref m64) :: (.ref ex) :: (.ref wh) :: (.ref sd) :: (.ref tk) :: (.int v52_89) :: (.int v53_90) :: (.int v54_91) :: (.ref hd) :: (.ref ak) :: (.ref ho) :: (.ref ot) :: []) := (hB1.2.2.2 h0 (by rw [hT_h0]; simp)).trans hF_92
        generalize H1 = H at hP hS ⊢
        have hw : SNR (fun i => alP gl (gm 0 i) (gm 1 i) (cct [102, 114, 111, 109]) 4) nf (fun j9 => dmW (TC gl mm) (gm 1 j9) (gm 2 j9)) r_104 gU_103 := hw
        have hw_109 := hw
        refine lv_if_ne (tgt := 32) hx hb dX15_wish_27 (by decide) (fun c_110 => ?_) (fun c_110 => ?_)
        ·
          obtain ⟨V, hVe⟩ := snr_s hw_109 c_110
          obtain ⟨hVT, hVNm⟩ := hq_106 V hVe
          obtain ⟨zv, gv9, hz1v, hz2v, hz3v, hz4v⟩ := hVT.get hO hL_ak hT_ak
          obtain rfl := hz3v.1
          have hVl := (NM_len hVNm).2
          refine lv_iconst (v := 1) hx hb dX15_wish_32 (by decide) ?_
          refine lv_istore_n (lv' := [(2, .int 1), (0, .ref h0), (1, .int x1)]) hx hb dX15_wish_33 rfl hl (by decide) rfl (fun ls hl => ?_)
          refine lv_aload_n hx hb dX15_wish_34 rfl (lv_at hl 1 rfl) ?_
          refine lv_aload_n hx hb dX15_wish_35 rfl (lv_at hl 1 rfl) ?_
          refine pg_get (ci := 15) (v := .ref ak) (C := RX15) (T := TX15) (N := 59) hx hb hts it_15 hown hK hP hL_h0 hF_108 rfl 56 (by decide) (hts _ kt_993) (fun _ h9 => h9) rfl dX15_wish_36 ?_
          have hQso := hR so (by rw [hTs0]; simp only [mem_tgS, List.mem_append, List.mem_cons, List.not_mem_nil, or_false]; omega)
          have hQad := hR ad (by rw [hTd0]; simp only [mem_tgS, List.mem_append, List.mem_cons, List.not_mem_nil, or_false]; omega)
          have hQna := hR na (by rw [hTn0]; simp only [mem_tgS, List.mem_append, List.mem_cons, List.not_mem_nil, or_false]; omega)
          have hQva := hR va (by rw [hTv0]; simp only [mem_tgS, List.mem_append, List.mem_cons, List.not_mem_nil, or_false]; omega)
          have hDM6 := DIRM.fr hDM hO0 hW0 hLn0 hTn0 hLv0 hTv0 (by omega) hR hQso hQad hQna hQva (fun k hk => ⟨by simp only [mem_tgS, List.mem_append, List.mem_cons, List.not_mem_nil, or_false]; omega, by simp only [mem_tgS, List.mem_append, List.mem_cons, List.not_mem_nil, or_false]; omega⟩)
          obtain ⟨hq_111, hq_112⟩ := hW.octs hi_45 ht_46
          have hFc := pg_free hD hS hA
          refine va_calli (va_runV (As := [.ref ak]) (rest := []) ⟨hx, hb, hml, hown, hts⟩ (s_X15_wantedOf_x l dC dI cs ty gm L H.size F_105 h0 ρ ta ou so ad na va lc dm tg pe ml bg co sp nb0 nb1 nb2 pl se ke wi hs mo po nu pr sq xa sa n64 m64 ex wh sd tk hd ak ho ot sx s0 s1 s2 nf bd mm zo fm sn hg gc gv ze zt ak (ρ + 28) rak 6000 V.length gv9 V D hW hL_h0 hT_h0 hL_ak hT_ak hz1v hz2v (by omega) (by omega) (by omega) (by omega) (hz3v) (by omega) (hDM6)) ⟨callB_of 1 hts (gi kt_1192) rfl rfl rfl (hts _ kt_669) (hts _ kt_1193) (by decide +kernel) ⟨Nat.le_of_ble_eq_true rfl, Nat.le_of_ble_eq_true rfl⟩, (hts _ kt_1194), (hts _ kt_1195)⟩ ⟨fun a U g mk q => ⟨q.1, PTEm.calling q.2⟩, pg_recv hK hP hL_h0 hF_108 (q := (RX15, TX15, 59)) rfl, fun U hU hWm => ⟨rfl, PTEm.mk hU hWm hP hK hD hE hO hG (fun x hx => absurd hx List.not_mem_nil) hS hFc⟩⟩ rfl rfl hl.1 rfl (lv_room (Nat.le_of_ble_eq_true rfl)) dX15_wish_39 ⟨by show _ + 0 ≤ 0; omega, by show _ + 0 ≤ 0; omega⟩) hS (fun q _ h => hFc q h) hFc (fun r_113 u t H1 locs ht hvm hw hB hz1 hk1 hS => ?_)
          obtain ⟨F_114, hB1⟩ := hB
          obtain ⟨hP, hD, hO, hR⟩ := QTm.back hB1 ht hFc hR (fun q h => by simp only [mem_tgS, List.mem_append, List.mem_cons, List.not_mem_nil, or_false] at h ⊢; omega)
          have hF_115 : F_114 ml = .inl (cs 17, 3000, .inl gl) := (hB1.2.2.2 ml (by rw [ht_77]; simp)).trans hF_107
          have hF_116 : F_114 h0 = .inr (15, (.ref ta) :: (.int (nI zt)) :: (.int (nI zo)) :: (.int (nI ze)) :: (.ref ou) :: (.ref so) :: (.ref ad) :: (.ref na) :: (.ref va) :: (.ref lc) :: (.ref dm) :: (.int (nI fm)) :: (.int (nI sn)) :: (.ref tg) :: (.int v14_80) :: (.int v15_81) :: (.ref pe) :: (.int v17_82) :: (.int v18_83) :: (.int v19_84) :: (.int v20_85) :: (.int v21_86) :: (.int v22_87) :: (.ref ml) :: (.ref bg) :: (.ref co) :: (.ref sp) :: (.ref nb0) :: (.ref nb1) :: (.ref nb2) :: (.int (nI nf)) :: (.int (nI bd)) :: (.int (nI mm)) :: (.int v33_88) :: (.ref pl) :: (.ref se) :: (.ref ke) :: (.ref wi) :: (.ref hs) :: (.ref mo) :: (.ref po) :: (.ref nu) :: (.ref pr) :: (.ref sq) :: (.ref xa) :: (.ref sa) :: (.ref n64) :: (.ref m64) :: (.ref ex) :: (.ref wh) :: (.ref sd) :: (.ref tk) :: (.int v52_89) :: (.int v53_90) :: (.int v54_91) :: (.ref hd) :: (.ref ak) :: (.ref ho) :: (.ref ot) :: []) := (hB1.2.2.2 h0 (by rw [hT_h0]; simp)).trans hF_108
          have hF_117 : F_114 ak = .inr (14, [.ref rak, .int (nI V.length)]) := (hB1.2.2.2 ak (by rw [hT_ak]; simp)).trans hz1v
          have hF_118 : F_114 rak = .inl (cs 17, 6000, .inl gv9) := (hB1.2.2.2 rak (by rw [ht_46]; simp)).trans hz2v
          generalize H1 = H at hP hS ⊢
          have hw : r_113 = woW D ze ([95, 100, 109, 97, 114, 99, 46] ++ V) := hw
          subst hw
          refine lv_topi (fun x9 ex9 => ?_)
          obtain rfl : x9 = woW D ze (DMU V 0) := ex9.trans (by rw [dmu_0])
          refine lv_istore_n (lv' := [(3, .int (woW D ze (DMU V 0))), (2, .int 1), (0, .ref h0), (1, .int x1)]) hx hb dX15_wish_42 rfl hl (by decide) rfl (fun ls hl => ?_)
          have hF_121 : F ml = .inl (cs 17, 3000, .inl gl) := (hR ml (by rw [ht_77]; simp only [mem_tgS, List.mem_append, List.mem_cons, List.not_mem_nil, or_false]; omega)).symm.trans hF_115
          refine W.widen (k := 0) (n := 0) (by omega) (by omega) ?_
          refine pl_cutm (σ := Int32 × Int32) A (dC, dI) cs ty gm L (tgS ρ 0 ++ [ρ + 10, ρ + 11, ρ + 12, ρ + 13, ρ + 14, ρ + 15, ρ + 16, ρ + 17, ρ + 18, ρ + 19, ρ + 20, ρ + 21, ρ + 22, ρ + 23, ρ + 24, ρ + 25, ρ + 26, ρ + 28, ρ + 29, ρ + 30, ρ + 81, ρ + 82, ρ + 83, ρ + 84, ρ + 85, ρ + 86, ρ + 87, ρ + 88, ρ + 89, ρ + 90]) F 71 6 (fun (s3, sw2) => [(3, .int s3), (2, .int sw2), (0, .ref h0), (1, .int x1)]) (fun (s3, sw2) => []) (fun (s3, sw2) FF => W71 D ze V s3 sw2 ∧ FF ak = .inr (14, [.ref rak, .int (nI V.length)]) ∧ FF rak = .inl (cs 17, 6000, .inl gv9)) ?_ (fun jn_119 => ?_)
          ·
            rintro ⟨s3, sw2⟩ F_120 hv_122 hO hR H locs hP hD hS ls hl
            have hl : lv_has ls 6 [(3, .int s3), (2, .int sw2), (0, .ref h0), (1, .int x1)] := hl
            have hv_122 : W71 D ze V s3 sw2 ∧ F_120 ak = .inr (14, [.ref rak, .int (nI V.length)]) ∧ F_120 rak = .inl (cs 17, 6000, .inl gv9) := hv_122
            refine W.eq (g2 := F0 m 71 ls []) rfl ?_
            have hF_123 : F_120 ml = .inl (cs 17, 3000, .inl gl) := (hR ml (by rw [ht_77]; simp only [mem_tgS, List.mem_append, List.mem_cons, List.not_mem_nil, or_false]; omega)).trans hF_121
            obtain ⟨h71, hak1, hak2⟩ := id hv_122
            refine lv_iload_n hx hb dX15_wish_71 rfl (lv_at hl 0 rfl) ?_
            refine lv_if_ge (tgt := 87) hx hb dX15_wish_72 (by decide) (fun c_124 => ?_) (fun c_124 => ?_)
            ·
              obtain ⟨kv, hkv, ekv⟩ : ∃ j, j < ze ∧ s3 = nI j := w71_j h71 (by omega) c_124
              subst ekv
              have hmv := w71_k h71 (by omega)
              have hQso := hR so (by rw [hTs0]; simp only [mem_tgS, List.mem_append, List.mem_cons, List.not_mem_nil, or_false]; omega)
              have hQad := hR ad (by rw [hTd0]; simp only [mem_tgS, List.mem_append, List.mem_cons, List.not_mem_nil, or_false]; omega)
              have hQna := hR na (by rw [hTn0]; simp only [mem_tgS, List.mem_append, List.mem_cons, List.not_mem_nil, or_false]; omega)
              have hQva := hR va (by rw [hTv0]; simp only [mem_tgS, List.mem_append, List.mem_cons, List.not_mem_nil, or_false]; omega)
              have hDM9 := DIRM.fr hDM hO0 hW0 hLn0 hTn0 hLv0 hTv0 (by omega) hR hQso hQad hQna hQva (fun k hk => ⟨by simp only [mem_tgS, List.mem_append, List.mem_cons, List.not_mem_nil, or_false]; omega, by simp only [mem_tgS, List.mem_append, List.mem_cons, List.not_mem_nil, or_false]; omega⟩)
              obtain ⟨fs, fd, fn, fv, hd1, hd2, hd3, hd4, hd5⟩ := id hDM9
              obtain ⟨hi_125, ht_126⟩ := hW.f_va hL_h0 hT_h0
              obtain ⟨f_127, hF_128, hq_129⟩ := hO.rtxj hi_125 ht_126
              obtain rfl : f_127 = fv := by have e9 := hF_128.symm.trans hd4; simpa using e9
              refine lv_aload_n hx hb dX15_wish_87 rfl (lv_at hl 2 rfl) ?_
              obtain ⟨v14_130, v15_131, v17_132, v18_133, v19_134, v20_135, v21_136, v22_137, v33_138, v52_139, v53_140, v54_141, hF_142, hq_143, hq_144, hq_145, hq_146, hq_147⟩ := hO.mod hL_h0 hT_h0
              refine pg_get (ci := 15) (v := .ref va) (C := RX15) (T := TX15) (N := 59) hx hb hts it_15 hown hK hP hL_h0 hF_142 rfl 8 (by decide) (hts _ kt_732) (fun _ h9 => h9) rfl dX15_wish_88 ?_
              refine lv_iload_n hx hb dX15_wish_91 rfl (lv_at hl 0 rfl) ?_
              obtain ⟨b_148, r_149, hbf_150, hi_151, ht_152⟩ := hq_129 kv (by omega)
              refine pg_aald (r := b_148) hx hb hK hP hi_125 7 hF_128 rfl (vp_in_nI (by omega) (by omega)) (show f_127 ((nI kv) : Int32).toNatClampNeg = _ from by rw [show ((nI kv) : Int32) = nI kv from rfl, nI_clamp (by omega)]; exact hbf_150) dX15_wish_92 ?_
              obtain ⟨hen1a, hen1b, hen1c⟩ := ENM.get (hd5 kv hkv).2.2.2 hbf_150 hO hi_151 ht_152
              obtain ⟨hi_153, ht_154, hq_155⟩ := hW.txt hi_151 ht_152
              refine pg_get (ci := 14) (v := .ref r_149) (C := RX14) (T := TX14) (N := 2) hx hb hts it_14 hown hK hP hi_151 hen1a rfl 0 (by decide) (hts _ kt_710) (fun _ h9 => h9) rfl dX15_wish_93 ?_
              refine lv_iconst (v := 0) hx hb dX15_wish_96 (by decide) ?_
              refine lv_aload_n hx hb dX15_wish_97 rfl (lv_at hl 2 rfl) ?_
              refine pg_get (ci := 15) (v := .ref va) (C := RX15) (T := TX15) (N := 59) hx hb hts it_15 hown hK hP hL_h0 hF_142 rfl 8 (by decide) (hts _ kt_732) (fun _ h9 => h9) rfl dX15_wish_98 ?_
              refine lv_iload_n hx hb dX15_wish_101 rfl (lv_at hl 0 rfl) ?_
              refine pg_aald (r := b_148) hx hb hK hP hi_125 7 hF_128 rfl (vp_in_nI (by omega) (by omega)) (show f_127 ((nI kv) : Int32).toNatClampNeg = _ from by rw [show ((nI kv) : Int32) = nI kv from rfl, nI_clamp (by omega)]; exact hbf_150) dX15_wish_102 ?_
              refine pg_get (ci := 14) (v := .int (nI (D kv).2.2.2.2.1)) (C := RX14) (T := TX14) (N := 2) hx hb hts it_14 hown hK hP hi_151 hen1a rfl 1 (by decide) (hts _ kt_709) (fun _ h9 => h9) rfl dX15_wish_103 ?_
              refine lv_aload_n hx hb dX15_wish_106 rfl (lv_at hl 2 rfl) ?_
              refine pg_get (ci := 15) (v := .ref wi) (C := RX15) (T := TX15) (N := 59) hx hb hts it_15 hown hK hP hL_h0 hF_142 rfl 37 (by decide) (hts _ kt_1132) (fun _ h9 => h9) rfl dX15_wish_107 ?_
              obtain ⟨z_156, hF_157, hq_158⟩ := hO.tags hi_53 ht_54
              refine pg_get (ci := 13) (v := .ref x_7) (C := RX13) (T := TX13) (N := 5) hx hb hts it_13 hown hK hP hi_53 hF_157 rfl 0 (by decide) (hts _ kt_842) (fun _ h9 => h9) rfl dX15_wish_110 ?_
              refine W.eq (g2 := F0 m 113 ls [.ref x_7, .int (nI (D kv).2.2.2.2.1), .int (nI 0), .ref r_149]) rfl ?_
              obtain ⟨hq_159, hq_160⟩ := hW.octs hi_153 ht_154
              obtain ⟨hi_161, ht_162, hq_163⟩ := hW.txt hi_55 ht_60
              have hFc := pg_free hD hS hA
              refine va_callv (va_runS (As := [.ref r_149, .int (nI 0), .int (nI (D kv).2.2.2.2.1), .ref x_7]) (rest := []) ⟨hx, hb, hml, hown, hts⟩ (s_X15_withoutWhite_x l dC dI cs ty gm L H.size F_120 r_149 (ρ + 50 + kv + 100) 700 x_7 (ρ + 16) r_59 700 0 ((D kv).2.2.2.2.1) ((D kv).2.2.2.2.1) ((D kv).2.2.2.2.2) hW hi_153 ht_154 hi_55 ht_60 hen1b (Nat.zero_le _) (Nat.le_refl _) (hen1c) (by omega) (by omega) (hbd kv hkv)) ⟨callB_of 4 hts (gi kt_926) rfl rfl rfl (hts _ kt_669) (hts _ kt_927) (by decide +kernel) ⟨Nat.le_of_ble_eq_true rfl, Nat.le_of_ble_eq_true rfl⟩, (hts _ kt_928)⟩ ⟨fun a U g mk q => ⟨q.1, PTm.calling q.2⟩, fun U hU hWm => ⟨rfl, PTm.mk hU hWm hP hK hD hE hO⟩⟩ rfl rfl hl.1 rfl (lv_room (Nat.le_of_ble_eq_true rfl)) dX15_wish_113 ⟨by show _ + 0 ≤ 0; omega, by show _ + 0 ≤ 0; omega⟩) hS (fun q _ h => hFc q h) hFc (fun u t H1 locs ht hvm hw hB hz1 hk1 hS => ?_)
              obtain ⟨F_165, fc_166, hB1, hq_167, hq_168, hq_169⟩ := hB
              obtain ⟨hP, hD, hO, hR⟩ := QTm.back hB1 ht hFc hR (fun q h => by simp only [mem_tgS, List.mem_append, List.mem_cons, List.not_mem_nil, or_false] at h ⊢; omega)
              have hF_170 : F_165 ml = .inl (cs 17, 3000, .inl gl) := (hB1.2.2.2 ml (by rw [ht_77]; simp)).trans hF_123
              have hF_171 : F_165 ak = .inr (14, [.ref rak, .int (nI V.length)]) := (hB1.2.2.2 ak (by rw [hT_ak]; simp)).trans hak1
              have hF_172 : F_165 rak = .inl (cs 17, 6000, .inl gv9) := (hB1.2.2.2 rak (by rw [ht_46]; simp)).trans hak2
              have hF_173 : F_165 va = .inl (cs 23, 40, .inr (.inr (.inr (.inr f_127)))) := (hB1.2.2.2 va (by rw [ht_126]; simp)).trans hF_128
              have hF_174 : F_165 h0 = .inr (15, (.ref ta) :: (.int (nI zt)) :: (.int (nI zo)) :: (.int (nI ze)) :: (.ref ou) :: (.ref so) :: (.ref ad) :: (.ref na) :: (.ref va) :: (.ref lc) :: (.ref dm) :: (.int (nI fm)) :: (.int (nI sn)) :: (.ref tg) :: (.int v14_130) :: (.int v15_131) :: (.ref pe) :: (.int v17_132) :: (.int v18_133) :: (.int v19_134) :: (.int v20_135) :: (.int v21_136) :: (.int v22_137) :: (.ref ml) :: (.ref bg) :: (.ref co) :: (.ref sp) :: (.ref nb0) :: (.ref nb1) :: (.ref nb2) :: (.int (nI nf)) :: (.int (nI bd)) :: (.int (nI mm)) :: (.int v33_138) :: (.ref pl) :: (.ref se) :: (.ref ke) :: (.ref wi) :: (.ref hs) :: (.ref mo) :: (.ref po) :: (.ref nu) :: (.ref pr) :: (.ref sq) :: (.ref xa) :: (.ref sa) :: (.ref n64) :: (.ref m64) :: (.ref ex) :: (.ref wh) :: (.ref sd) :: (.ref tk) :: (.int v52_139) :: (.int v53_140) :: (.int v54_141) :: (.ref hd) :: (.ref ak) :: (.ref ho) :: (.ref ot) :: []) := (hB1.2.2.2 h0 (by rw [hT_h0]; simp)).trans hF_142
              have hF_175 : F_165 b_148 = .inr (14, [.ref r_149, .int (nI (D kv).2.2.2.2.1)]) := (hB1.2.2.2 b_148 (by rw [ht_152]; simp only [mem_tgS, List.mem_append, List.mem_cons, List.not_mem_nil, or_false]; omega)).trans hen1a
              have hF_176 : F_165 r_149 = .inl (cs 17, 700, .inl ((D kv).2.2.2.2.2)) := (hB1.2.2.2 r_149 (by rw [ht_154]; simp only [mem_tgS, List.mem_append, List.mem_cons, List.not_mem_nil, or_false]; omega)).trans hen1b
              have hF_177 : F_165 wi = .inr (13, [.ref x_7, .ref y0_8, .ref y1_9, .ref y2_10, .int (nI z_156)]) := (hB1.2.2.2 wi (by rw [ht_54]; simp)).trans hF_157
              generalize H1 = H at hP hS ⊢
              obtain ⟨hwT, hwL⟩ := hq_169
              refine lv_aload_n hx hb dX15_wish_116 rfl (lv_at hl 2 rfl) ?_
              refine pg_get (ci := 15) (v := .ref wi) (C := RX15) (T := TX15) (N := 59) hx hb hts it_15 hown hK hP hL_h0 hF_174 rfl 37 (by decide) (hts _ kt_1132) (fun _ h9 => h9) rfl dX15_wish_117 ?_
              refine lv_bipush (v := 8) hx hb dX15_wish_120 (by decide) ?_
              obtain ⟨hq_178, hq_179⟩ := hW.octs hi_161 ht_162
              have hFc := pg_free hD hS hA
              refine va_calli (va_runV (As := [.int 8]) (rest := []) ⟨hx, hb, hml, hown, hts⟩ (s_X13_read_x l dC dI cs ty gm L H.size F_165 wi (ρ + 15) x_7 700 700 y0_8 y1_9 y2_10 r_59 ((flI (TC (D kv).2.2.2.2.2 (D kv).2.2.2.2.1) 0 ((D kv).2.2.2.2.1 - 0)).length) fc_166 hW hi_53 ht_54 hi_55 ht_60 hq_167 hq_168 (by omega) (by omega)) ⟨callB_of 1 hts (gi kt_859) rfl rfl rfl (hts _ kt_829) (hts _ kt_860) (by decide +kernel) ⟨Nat.le_of_ble_eq_true rfl, Nat.le_of_ble_eq_true rfl⟩, (hts _ kt_861), (hts _ kt_862)⟩ ⟨fun a U g mk q => ⟨q.1, PTm.calling q.2⟩, pg_recv hK hP hi_53 hF_177 (q := (RX13, TX13, 5)) rfl, fun U hU hWm => ⟨rfl, PTm.mk hU hWm hP hK hD hE hO⟩⟩ rfl rfl hl.1 rfl (lv_room (Nat.le_of_ble_eq_true rfl)) dX15_wish_122 ⟨by show _ + 0 ≤ 0; omega, by show _ + 0 ≤ 0; omega⟩) hS (fun q _ h => hFc q h) hFc (fun r_181 gg_180 t H1 locs ht hvm hw hB hz1 hk1 hS => ?_)
              obtain ⟨F_182, p0_183, p1_184, p2_185, hB1, hq_186, hq_187, hq_188, hq_189, hq_190, hq_191⟩ := hB
              obtain ⟨hP, hD, hO, hR⟩ := QTm.back hB1 ht hFc hR (fun q h => by simp only [mem_tgS, List.mem_append, List.mem_cons, List.not_mem_nil, or_false] at h ⊢; omega)
              have hF_192 : F_182 ml = .inl (cs 17, 3000, .inl gl) := (hB1.2.2.2 ml (by rw [ht_77]; simp <;> omega)).trans hF_170
              have hF_193 : F_182 ak = .inr (14, [.ref rak, .int (nI V.length)]) := (hB1.2.2.2 ak (by rw [hT_ak]; simp <;> omega)).trans hF_171
              have hF_194 : F_182 rak = .inl (cs 17, 6000, .inl gv9) := (hB1.2.2.2 rak (by rw [ht_46]; simp <;> omega)).trans hF_172
              have hF_195 : F_182 va = .inl (cs 23, 40, .inr (.inr (.inr (.inr f_127)))) := (hB1.2.2.2 va (by rw [ht_126]; simp <;> omega)).trans hF_173
              have hF_196 : F_182 h0 = .inr (15, (.ref ta) :: (.int (nI zt)) :: (.int (nI zo)) :: (.int (nI ze)) :: (.ref ou) :: (.ref so) :: (.ref ad) :: (.ref na) :: (.ref va) :: (.ref lc) :: (.ref dm) :: (.int (nI fm)) :: (.int (nI sn)) :: (.ref tg) :: (.int v14_130) :: (.int v15_131) :: (.ref pe) :: (.int v17_132) :: (.int v18_133) :: (.int v19_134) :: (.int v20_135) :: (.int v21_136) :: (.int v22_137) :: (.ref ml) :: (.ref bg) :: (.ref co) :: (.ref sp) :: (.ref nb0) :: (.ref nb1) :: (.ref nb2) :: (.int (nI nf)) :: (.int (nI bd)) :: (.int (nI mm)) :: (.int v33_138) :: (.ref pl) :: (.ref se) :: (.ref ke) :: (.ref wi) :: (.ref hs) :: (.ref mo) :: (.ref po) :: (.ref nu) :: (.ref pr) :: (.ref sq) :: (.ref xa) :: (.ref sa) :: (.ref n64) :: (.ref m64) :: (.ref ex) :: (.ref wh) :: (.ref sd) :: (.ref tk) :: (.int v52_139) :: (.int v53_140) :: (.int v54_141) :: (.ref hd) :: (.ref ak) :: (.ref ho) :: (.ref ot) :: []) := (hB1.2.2.2 h0 (by rw [hT_h0]; simp <;> omega)).trans hF_174
              have hF_197 : F_182 b_148 = .inr (14, [.ref r_149, .int (nI (D kv).2.2.2.2.1)]) := (hB1.2.2.2 b_148 (by rw [ht_152]; simp only [mem_tgS, List.mem_append, List.mem_cons, List.not_mem_nil, or_false]; omega)).trans hF_175
              have hF_198 : F_182 r_149 = .inl (cs 17, 700, .inl ((D kv).2.2.2.2.2)) := (hB1.2.2.2 r_149 (by rw [ht_154]; simp only [mem_tgS, List.mem_append, List.mem_cons, List.not_mem_nil, or_false]; omega)).trans hF_176
              have hF_199 : F_182 x_7 = .inr (14, [.ref r_59, .int (nI (flI (TC (D kv).2.2.2.2.2 (D kv).2.2.2.2.1) 0 ((D kv).2.2.2.2.1 - 0)).length)]) := (hB1.2.2.2 x_7 (by rw [ht_60]; simp <;> omega)).trans hq_167
              have hF_200 : F_182 r_59 = .inl (cs 17, 700, .inl fc_166) := (hB1.2.2.2 r_59 (by rw [ht_162]; simp <;> omega)).trans hq_168
              generalize H1 = H at hP hS ⊢
              have hw : TGX (TC fc_166 (flI (TC (D kv).2.2.2.2.2 (D kv).2.2.2.2.1) 0 ((D kv).2.2.2.2.1 - 0)).length) (flI (TC (D kv).2.2.2.2.2 (D kv).2.2.2.2.1) 0 ((D kv).2.2.2.2.1 - 0)).length r_181 gg_180 := hw
              have hw_201 := hw
              obtain ⟨hti1, hti2⟩ := hq_191
              refine lv_if_ne (tgt := 131) hx hb dX15_wish_125 (by decide) (fun c_202 => ?_) (fun c_202 => ?_)
              ·
                refine lv_aload_n hx hb dX15_wish_131 rfl (lv_at hl 2 rfl) ?_
                refine pg_get (ci := 15) (v := .ref wi) (C := RX15) (T := TX15) (N := 59) hx hb hts it_15 hown hK hP hL_h0 hF_196 rfl 37 (by decide) (hts _ kt_1132) (fun _ h9 => h9) rfl dX15_wish_132 ?_
                obtain ⟨q_203, v_204, hr_q_203, hX_q_203⟩ := hG.2.2 ("PostGateModel", 533, "p", [112]) (by decide +kernel)
                have hX_q_203 : SXc q_203 v_204 1 (cct [112]) A s s.heap := hX_q_203
                obtain ⟨xo_q_203, xc_q_203, xv_q_203, xt_q_203, xn_q_203⟩ := id hX_q_203
                have hr_q_203 : vk_R "PostGateModel" 533 "p" q_203 s := hr_q_203
                refine va_ldcwS hx hb hown hr_q_203 dX15_wish_135 ?_
                have hFc := pg_free hD hS hA
                refine va_calli (va_runS (As := [.ref wi, .ref q_203]) (rest := []) ⟨hx, hb, hml, hown, hts⟩ (s_X15_wanted_x l dC dI cs ty gm L H.size F_182 wi (ρ + 15) x_7 700 700 y0_8 y1_9 y2_10 r_59 ((flI (TC (D kv).2.2.2.2.2 (D kv).2.2.2.2.1) 0 ((D kv).2.2.2.2.1 - 0)).length) gg_180.1 fc_166 p0_183 p1_184 p2_185 gg_180.2 q_203 v_204 1 (cct [112]) ([112]) hW hi_53 ht_54 hi_55 ht_60 hF_199 hF_200 (by omega) hq_186 hq_187 hq_188 hq_189 (hti2) (hq_190) (hti1) (by omega) (⟨rfl, by decide +kernel⟩)) ⟨callB_of 2 hts (gi kt_1196) rfl rfl rfl (hts _ kt_669) (hts _ kt_1197) (by decide +kernel) ⟨Nat.le_of_ble_eq_true rfl, Nat.le_of_ble_eq_true rfl⟩, (hts _ kt_1198)⟩ ⟨fun a U g mk q => ⟨q.1, PTEm.calling q.2⟩, fun U hU hWm => ⟨rfl, PTEm.mk hU hWm hP hK hD hE hO hG (fun x hx => by rw [List.mem_singleton] at hx; subst hx; exact hX_q_203) hS hFc⟩⟩ rfl rfl hl.1 rfl (lv_room (Nat.le_of_ble_eq_true rfl)) dX15_wish_138 ⟨by show _ + 0 ≤ 0; omega, by show _ + 0 ≤ 0; omega⟩) hS (fun q _ h => hFc q h) hFc (fun r_205 u t H1 locs ht hvm hw hB hz1 hk1 hS => ?_)
                obtain ⟨F_206, hB1⟩ := hB
                obtain rfl : F_182 = F_206 := (funext (fun a => hB1.2.2.2 a List.not_mem_nil)).symm
                obtain ⟨hP, hD, hO, hR⟩ := QTm.back hB1 ht hFc hR (fun q h => absurd h List.not_mem_nil)
                generalize H1 = H at hP hS ⊢
                have hw : r_205 = nI (wnW (TC fc_166 (flI (TC (D kv).2.2.2.2.2 (D kv).2.2.2.2.1) 0 ((D kv).2.2.2.2.1 - 0)).length) gg_180.2 gg_180.1 [112]) := hw
                subst hw
                refine lv_topi (fun x9 ex9 => ?_)
                obtain rfl : x9 = nI (wnW (flT (TC (D kv).2.2.2.2.2 (D kv).2.2.2.2.1) 0 ((D kv).2.2.2.2.1 - 0)) gg_180.2 gg_180.1 [112]) := ex9.trans (by rw [hwT])
                have hwb5 := wnW_le (T := (flT (TC (D kv).2.2.2.2.2 (D kv).2.2.2.2.1) 0 ((D kv).2.2.2.2.1 - 0))) (g := gg_180.2) (n := gg_180.1) (l := [112])
                refine lv_istore (lv' := [(4, .int (nI (wnW (flT (TC (D kv).2.2.2.2.2 (D kv).2.2.2.2.1) 0 ((D kv).2.2.2.2.1 - 0)) gg_180.2 gg_180.1 [112]))), (3, .int (nI kv)), (2, .int sw2), (0, .ref h0), (1, .int x1)]) hx hb dX15_wish_141 hl (by decide) rfl (fun ls hl => ?_)
                refine lv_iload hx hb dX15_wish_143 (lv_at hl 0 rfl) ?_
                refine lv_bipush (v := 6) hx hb dX15_wish_145 (by decide) ?_
                refine lv_icmp_ne (tgt := 153) hx hb dX15_wish_147 (by decide) (fun c_207 => ?_) (fun c_207 => ?_)
                ·
                  have hi_208 : (wnW (flT (TC (D kv).2.2.2.2.2 (D kv).2.2.2.2.1) 0 ((D kv).2.2.2.2.1 - 0)) gg_180.2 gg_180.1 [112]) ≠ 6 := fun q => c_207 (by rw [q]; rfl)
                  have hw147 : ¬ (wnW (flT (TC (D kv).2.2.2.2.2 (D kv).2.2.2.2.1) 0 ((D kv).2.2.2.2.1 - 0)) gg_180.2 gg_180.1 [112]) = 6 := fun q => c_207 (by rw [q]; rfl)
                  have hF_211 : F ml = .inl (cs 17, 3000, .inl gl) := (hR ml (by rw [ht_77]; simp only [mem_tgS, List.mem_append, List.mem_cons, List.not_mem_nil, or_false]; omega)).symm.trans hF_192
                  have hF_212 : F va = .inl (cs 23, 40, .inr (.inr (.inr (.inr f_127)))) := (hR va (by rw [ht_126]; simp only [mem_tgS, List.mem_append, List.mem_cons, List.not_mem_nil, or_false]; omega)).symm.trans hF_195
                  have hF_213 : F b_148 = .inr (14, [.ref r_149, .int (nI (D kv).2.2.2.2.1)]) := (hR b_148 (by rw [ht_152]; simp only [mem_tgS, List.mem_append, List.mem_cons, List.not_mem_nil, or_false]; omega)).symm.trans hF_197
                  have hF_214 : F r_149 = .inl (cs 17, 700, .inl ((D kv).2.2.2.2.2)) := (hR r_149 (by rw [ht_154]; simp only [mem_tgS, List.mem_append, List.mem_cons, List.not_mem_nil, or_false]; omega)).symm.trans hF_198
                  refine W.widen (k := 0) (n := 0) (by omega) (by omega) ?_
                  refine pl_cutm (σ := Int32) A (dC, dI) cs ty gm L (tgS ρ 0 ++ [ρ + 10, ρ + 11, ρ + 12, ρ + 13, ρ + 14, ρ + 15, ρ + 16, ρ + 17, ρ + 18, ρ + 19, ρ + 20, ρ + 21, ρ + 22, ρ + 23, ρ + 24, ρ + 25, ρ + 26, ρ + 28, ρ + 29, ρ + 30, ρ + 81, ρ + 82, ρ + 83, ρ + 84, ρ + 85, ρ + 86, ρ + 87, ρ + 88, ρ + 89, ρ + 90]) F 192 6 (fun s4 => [(4, .int s4), (0, .ref h0), (1, .int x1)]) (fun s4 => []) (fun s4 _ => mvW D ze V = (-1)) ?_ (fun jn_209 => ?_)
                  ·
                    rintro s4 F_210 hv_215 hO hR H locs hP hD hS ls hl
                    have hl : lv_has ls 6 [(4, .int s4), (0, .ref h0), (1, .int x1)] := hl
                    have hv_215 : mvW D ze V = (-1) := hv_215
                    refine W.eq (g2 := F0 m 192 ls []) rfl ?_
                    have hF_216 : F_210 ml = .inl (cs 17, 3000, .inl gl) := (hR ml (by rw [ht_77]; simp only [mem_tgS, List.mem_append, List.mem_cons, List.not_mem_nil, or_false]; omega)).trans hF_211
                    have hF_217 : F_210 va = .inl (cs 23, 40, .inr (.inr (.inr (.inr f_127)))) := (hR va (by rw [ht_126]; simp only [mem_tgS, List.mem_append, List.mem_cons, List.not_mem_nil, or_false]; omega)).trans hF_212
                    have hF_218 : F_210 b_148 = .inr (14, [.ref r_149, .int (nI (D kv).2.2.2.2.1)]) := (hR b_148 (by rw [ht_152]; simp only [mem_tgS, List.mem_append, List.mem_cons, List.not_mem_nil, or_false]; omega)).trans hF_213
                    have hF_219 : F_210 r_149 = .inl (cs 17, 700, .inl ((D kv).2.2.2.2.2)) := (hR r_149 (by rw [ht_154]; simp only [mem_tgS, List.mem_append, List.mem_cons, List.not_mem_nil, or_false]; omega)).trans hF_214
                    have hop := hv_215
                    refine lv_aload_n hx hb dX15_wish_192 rfl (lv_at hl 1 rfl) ?_
                    have hQso := hR so (by rw [hTs0]; simp only [mem_tgS, List.mem_append, List.mem_cons, List.not_mem_nil, or_false]; omega)
                    have hQad := hR ad (by rw [hTd0]; simp only [mem_tgS, List.mem_append, List.mem_cons, List.not_mem_nil, or_false]; omega)
                    have hQna := hR na (by rw [hTn0]; simp only [mem_tgS, List.mem_append, List.mem_cons, List.not_mem_nil, or_false]; omega)
                    have hQva := hR va (by rw [hTv0]; simp only [mem_tgS, List.mem_append, List.mem_cons, List.not_mem_nil, or_false]; omega)
                    have hDM5 := DIRM.fr hDM hO0 hW0 hLn0 hTn0 hLv0 hTv0 (by omega) hR hQso hQad hQna hQva (fun k hk => ⟨by simp only [mem_tgS, List.mem_append, List.mem_cons, List.not_mem_nil, or_false]; omega, by simp only [mem_tgS, List.mem_append, List.mem_cons, List.not_mem_nil, or_false]; omega⟩)
                    obtain ⟨hi_220, r_1, ht_221⟩ := hW.f_lc hL_h0 hT_h0
                    have hSN5 : sn = 0 ∨ (TXM cs F_210 lc 30 LC ∧ TXM cs F_210 dm 60 DN) := hSN.imp id (fun q => ⟨q.1.fr hO0 hW0 hi_220 ht_221 hR (by simp only [mem_tgS, List.mem_append, List.mem_cons, List.not_mem_nil, or_false]; omega), q.2.fr hO0 hW0 hi_66 ht_67 hR (by simp only [mem_tgS, List.mem_append, List.mem_cons, List.not_mem_nil, or_false]; omega)⟩)
                    have hFc := pg_free hD hS hA
                    obtain ⟨v14_222, v15_223, v17_224, v18_225, v19_226, v20_227, v21_228, v22_229, v33_230, v52_231, v53_232, v54_233, hF_234, hq_235, hq_236, hq_237, hq_238, hq_239⟩ := hO.mod hL_h0 hT_h0
                    refine va_calli (va_runV (As := []) (rest := []) ⟨hx, hb, hml, hown, hts⟩ (s_X15_permission_c l dC dI cs ty gm L H.size F_210 h0 ρ ta ou so ad na va lc dm tg pe ml bg co sp nb0 nb1 nb2 pl se ke wi hs mo po nu pr sq xa sa n64 m64 ex wh sd tk hd ak ho ot sx s0 s1 s2 nf bd mm zo fm sn hg gc gv ze zt rp D LC DN hW hL_h0 hT_h0 hL_pe hT_pe (hDM5) (hVN) (hSN5)) ⟨callB_of 0 hts (gi kt_1199) rfl rfl rfl (hts _ kt_669) (hts _ kt_1200) (by decide +kernel) ⟨Nat.le_of_ble_eq_true rfl, Nat.le_of_ble_eq_true rfl⟩, (hts _ kt_1201), (hts _ kt_1202)⟩ ⟨fun a U g mk q => ⟨q.1, PTEm.calling q.2⟩, pg_recv hK hP hL_h0 hF_234 (q := (RX15, TX15, 59)) rfl, fun U hU hWm => ⟨rfl, PTEm.mk hU hWm hP hK hD hE hO hG (fun x hx => absurd hx List.not_mem_nil) hS hFc⟩⟩ rfl rfl hl.1 rfl (lv_room (Nat.le_of_ble_eq_true rfl)) dX15_wish_193 ⟨by show _ + 0 ≤ 0; omega, by show _ + 0 ≤ 0; omega⟩) hS (fun q _ h => hFc q h) hFc (fun r_241 gp_240 t H1 locs ht hvm hw hB hz1 hk1 hS => ?_)
                    obtain ⟨F_242, ty9, hty9, hB1, hW9⟩ := hB
                    subst hty9
                    have hR9 := FR.retype (im2 := [ta, ou, so, ad, na, va, lc, dm, tg, pe, ml, bg, co, sp, nb0, nb1, nb2, pl, se, ke, wi, hs, mo, po, nu, pr, sq, xa, sa, n64, m64, ex, wh, sd, tk, hd, ak, ho, ot, sx, s0, s1, s2, nf, bd, mm, zo, fm, sn, (hgr gp_240 hg), (gcr gp_240 gc), (gvr gp_240 gv), ze, zt]) hT_h0 hR
                    have hTU := hT_h0
                    obtain ⟨hP, hD, hO, hR⟩ := QTm.back hB1 ht hFc hR9 (fun q h => by simp only [mem_tgS, List.mem_append, List.mem_cons, List.not_mem_nil, or_false] at h ⊢; omega)
                    obtain ⟨ty, hty, hT_h0, hW, hO, hR⟩ : ∃ t9 : TyM, t9 = rtf ty h0 (15, ρ, [ta, ou, so, ad, na, va, lc, dm, tg, pe, ml, bg, co, sp, nb0, nb1, nb2, pl, se, ke, wi, hs, mo, po, nu, pr, sq, xa, sa, n64, m64, ex, wh, sd, tk, hd, ak, ho, ot, sx, s0, s1, s2, nf, bd, mm, zo, fm, sn, (hgr gp_240 hg), (gcr gp_240 gc), (gvr gp_240 gv), ze, zt]) ∧ t9 h0 = (15, ρ, [ta, ou, so, ad, na, va, lc, dm, tg, pe, ml, bg, co, sp, nb0, nb1, nb2, pl, se, ke, wi, hs, mo, po, nu, pr, sq, xa, sa, n64, m64, ex, wh, sd, tk, hd, ak, ho, ot, sx, s0, s1, s2, nf, bd, mm, zo, fm, sn, (hgr gp_240 hg), (gcr gp_240 gc), (gvr gp_240 gv), ze, zt]) ∧ WTm t9 gm L ∧ OKm cs t9 gm L F_242 ∧ FR t9 (tgS ρ 0 ++ [ρ + 10, ρ + 11, ρ + 12, ρ + 13, ρ + 14, ρ + 15, ρ + 16, ρ + 17, ρ + 18, ρ + 19, ρ + 20, ρ + 21, ρ + 22, ρ + 23, ρ + 24, ρ + 25, ρ + 26, ρ + 28, ρ + 29, ρ + 30, ρ + 81, ρ + 82, ρ + 83, ρ + 84, ρ + 85, ρ + 86, ρ + 87, ρ + 88, ρ + 89, ρ + 90]) F F_242 := ⟨_, rfl, rtf_self, hW9, hO, hR⟩
                    generalize H1 = H at hP hS ⊢
                    have hw : ((sn = 0 ∧ r_241 = (-1) ∧ gp_240 = none) ∨ (¬ sn = 0 ∧ r_241 = nI (CHW D ze (sdM LC DN (nI fm)) (nI fm) 11 DN 0 0).1 ∧ gp_240 = some (CHW D ze (sdM LC DN (nI fm)) (nI fm) 11 DN 0 0).2)) := hw
                    have hw_243 := hw
                    obtain ⟨hq_266, hq_267, hq_268, hq_269, hq_270, hgO, hgA, hgB, hq_271⟩ := hW.sc hL_h0 hT_h0
                    have hpm := (hw_243.resolve_left (fun q => hs0 q.1)).2.2
                    have htyP := hty
                    obtain ⟨hi_272, ht_273⟩ := hW.f_se hL_h0 hT_h0
                    obtain ⟨hi_274, hi_275, hi_276, hi_277, ⟨r_278, ht_279⟩, ht_280, ht_281, ht_282, hq_283, hq_284⟩ := hW.tags hi_272 ht_273
                    have ht_279 : ty sx = (14, ρ + 12, [r_278, 3000]) := ht_279
                    have ht_281 : ty s1 = (25, ρ + 81, [40, 1280]) := ht_281
                    have ht_282 : ty s2 = (25, ρ + 82, [40, 1280]) := ht_282
                    obtain ⟨hi_285, ht_286, hq_287⟩ := hW.txt hi_274 ht_279
                    obtain ⟨hi_288, r_247, ht_289⟩ := hW.f_pl hL_h0 hT_h0
                    obtain ⟨hi_290, ht_291, hq_292⟩ := hW.txt hi_288 ht_289
                    obtain ⟨hi_293, r_246, ht_294⟩ := hW.f_pe hL_h0 hT_h0
                    obtain ⟨hi_295, ht_296, hq_297⟩ := hW.txt hi_293 ht_294
                    obtain ⟨hi_298, r_263, ht_299⟩ := hW.f_ak hL_h0 hT_h0
                    obtain ⟨hi_300, ht_301, hq_302⟩ := hW.txt hi_298 ht_299
                    obtain ⟨hi_303, r_264, ht_304⟩ := hW.f_ho hL_h0 hT_h0
                    obtain ⟨hi_305, ht_306, hq_307⟩ := hW.txt hi_303 ht_304
                    obtain ⟨hi_308, x_252, y0_253, y1_254, y2_255, ht_309⟩ := hW.f_wi hL_h0 hT_h0
                    obtain ⟨hi_310, hi_311, hi_312, hi_313, ⟨r_314, ht_315⟩, ht_316, ht_317, ht_318, hq_319, hq_320⟩ := hW.tags hi_308 ht_309
                    have ht_315 : ty x_252 = (14, ρ + 16, [r_314, 700]) := ht_315
                    have ht_317 : ty y1_254 = (25, ρ + 85, [40, 700]) := ht_317
                    have ht_318 : ty y2_255 = (25, ρ + 86, [40, 700]) := ht_318
                    obtain ⟨hi_321, r_245, ht_322⟩ := hW.f_dm hL_h0 hT_h0
                    obtain ⟨hi_323, ht_324, hq_325⟩ := hW.txt hi_321 ht_322
                    obtain ⟨hi_326, r_262, ht_327⟩ := hW.f_sd hL_h0 hT_h0
                    obtain ⟨hi_328, ht_329, hq_330⟩ := hW.txt hi_326 ht_327
                    obtain ⟨hi_331, ht_332⟩ := hW.f_ml hL_h0 hT_h0
                    obtain ⟨hq_333, hq_334⟩ := hW.octs hi_331 ht_332
                    refine lv_iconst (v := 2) hx hb dX15_wish_196 (by decide) ?_
                    refine lv_icmp_ne (tgt := 230) hx hb dX15_wish_197 (by decide) (fun c_335 => ?_) (fun c_335 => ?_)
                    ·
                      refine lv_iconst (v := 0) hx hb dX15_wish_230 (by decide) ?_
                      refine lv_istore (lv' := [(5, .int 0), (4, .int s4), (0, .ref h0), (1, .int x1)]) hx hb dX15_wish_231 hl (by decide) rfl (fun ls hl => ?_)
                      refine W.widen (k := 0) (n := 0) (by omega) (by omega) ?_
                      refine pl_loopm (σ := Nat) A (dC, dI) cs ty gm L (tgS ρ 0 ++ [ρ + 10, ρ + 11, ρ + 12, ρ + 13, ρ + 14, ρ + 15, ρ + 16, ρ + 17, ρ + 18, ρ + 19, ρ + 20, ρ + 21, ρ + 22, ρ + 23, ρ + 24, ρ + 25, ρ + 26, ρ + 28, ρ + 29, ρ + 30, ρ + 81, ρ + 82, ρ + 83, ρ + 84, ρ + 85, ρ + 86, ρ + 87, ρ + 88, ρ + 89, ρ + 90]) F 233 6 (fun j => [(5, .int (nI j)), (4, .int s4), (0, .ref h0), (1, .int x1)]) (fun j => []) (fun j _ => j ≤ nf) (fun j => nf - j) ?_ 0 F_242 (by omega) hO hR _ _ hP hD hS ls (lv_sub hl [0, 1, 2, 3] rfl)
                      rintro j F_336 hv_337 hO hR ih_338 H locs hP hD hS ls hl
                      have hl : lv_has ls 6 [(5, .int (nI j)), (4, .int s4), (0, .ref h0), (1, .int x1)] := hl
                      have hv_337 : j ≤ nf := hv_337
                      refine W.eq (g2 := F0 m 233 ls []) rfl ?_
                      refine lv_iload hx hb dX15_wish_233 (lv_at hl 0 rfl) ?_
                      refine lv_aload_n hx hb dX15_wish_235 rfl (lv_at hl 2 rfl) ?_
                      obtain ⟨v14_339, v15_340, v17_341, v18_342, v19_343, v20_344, v21_345, v22_346, v33_347, v52_348, v53_349, v54_350, hF_351, hq_352, hq_353, hq_354, hq_355, hq_356⟩ := hO.mod hL_h0 hT_h0
                      refine pg_get (ci := 15) (v := .int (nI nf)) (C := RX15) (T := TX15) (N := 59) hx hb hts it_15 hown hK hP hL_h0 hF_351 rfl 30 (by decide) (hts _ kt_892) (fun _ h9 => h9) rfl dX15_wish_236 ?_
                      refine lv_icmp_ge (tgt := 304) hx hb dX15_wish_239 (by decide) (fun c_357 => ?_) (fun c_357 => ?_)
                      ·
                        have hi_358 : nf ≤ j := leN (N := nf) c_357
                        refine lv_iload hx hb dX15_wish_304 (lv_at hl 1 rfl) ?_
                        refine W.widen (k := 0) (n := 0) (by omega) (by omega) ?_
                        exact W.iret (v := s4) hx hb hr (fun t ht hWm => ⟨⟨s4, gp_240, rfl, trivial, ⟨F_336, ty, htyP, QTm.mk ht hP hD hO hR, hW, (Or.inr ⟨hs0, Int32.not_lt.mpr c_101, hn0, _, snr_plr D ze hw_109, Or.inl ⟨by rw [hVe]; exact hop, hpm⟩⟩)⟩⟩, hS.F ht⟩) hS.2.2 dX15_wish_306
                      ·
                        have hi_359 : j < nf := ltN (N := nf) c_357
                        refine lv_aload_n hx hb dX15_wish_242 rfl (lv_at hl 2 rfl) ?_
                        refine lv_iload hx hb dX15_wish_243 (lv_at hl 0 rfl) ?_
                        obtain ⟨q_360, v_361, hr_q_360, hX_q_360⟩ := hG.2.2 ("PostGateModel", 376, "dkim-signature", [100, 107, 105, 109, 45, 115, 105, 103, 110, 97, 116, 117, 114, 101]) (by decide +kernel)
                        have hX_q_360 : SXc q_360 v_361 14 (cct [100, 107, 105, 109, 45, 115, 105, 103, 110, 97, 116, 117, 114, 101]) A s s.heap := hX_q_360
                        obtain ⟨xo_q_360, xc_q_360, xv_q_360, xt_q_360, xn_q_360⟩ := id hX_q_360
                        have hr_q_360 : vk_R "PostGateModel" 376 "dkim-signature" q_360 s := hr_q_360
                        refine va_ldcwS hx hb hown hr_q_360 dX15_wish_245 ?_
                        have hFc := pg_free hD hS hA
                        refine va_calli (va_runV (As := [.int (nI j), .ref q_360]) (rest := []) ⟨hx, hb, hml, hown, hts⟩ (s_X15_isNamed l dC dI cs ty gm L H.size F_336 h0 ρ ta ou so ad na va lc dm tg pe ml bg co sp nb0 nb1 nb2 pl se ke wi hs mo po nu pr sq xa sa n64 m64 ex wh sd tk hd ak ho ot sx s0 s1 s2 nf bd mm zo fm sn (hgr gp_240 hg) (gcr gp_240 gc) (gvr gp_240 gv) ze zt j q_360 v_361 14 (cct [100, 107, 105, 109, 45, 115, 105, 103, 110, 97, 116, 117, 114, 101]) hW hL_h0 hT_h0 (by first | omega | assumption | exact Or.inl rfl)) ⟨callB_of 2 hts (gi kt_893) rfl rfl rfl (hts _ kt_669) (hts _ kt_894) (by decide +kernel) ⟨Nat.le_of_ble_eq_true rfl, Nat.le_of_ble_eq_true rfl⟩, (hts _ kt_895), (hts _ kt_896)⟩ ⟨fun a U g mk q => ⟨q.1, PTEm.calling q.2⟩, pg_recv hK hP hL_h0 hF_351 (q := (RX15, TX15, 59)) rfl, fun U hU hWm => ⟨rfl, PTEm.mk hU hWm hP hK hD hE hO hG (fun x hx => by rw [List.mem_singleton] at hx; subst hx; exact hX_q_360) hS hFc⟩⟩ rfl rfl hl.1 rfl (lv_room (Nat.le_of_ble_eq_true rfl)) dX15_wish_248 ⟨by show _ + 0 ≤ 0; omega, by show _ + 0 ≤ 0; omega⟩) hS (fun q _ h => hFc q h) hFc (fun r_362 u t H1 locs ht hvm hw hB hz1 hk1 hS => ?_)
                        obtain ⟨F_363, hB1⟩ := hB
                        obtain rfl : F_336 = F_363 := (funext (fun a => hB1.2.2.2 a List.not_mem_nil)).symm
                        obtain ⟨hP, hD, hO, hR⟩ := QTm.back hB1 ht hFc hR (fun q h => absurd h List.not_mem_nil)
                        generalize H1 = H at hP hS ⊢
                        have hw : (r_362 = 0 ∨ r_362 = 1) := hw
                        have hw_364 := hw
                        refine lv_if_eq (tgt := 298) hx hb dX15_wish_251 (by decide) (fun c_365 => ?_) (fun c_365 => ?_)
                        ·
                          refine lv_iinc (v := (nI (j + 1))) (lv' := [(5, .int (nI (j + 1))), (4, .int s4), (0, .ref h0), (1, .int x1)]) hx hb dX15_wish_298 hl (k := 0) rfl (nI_1 _) (by decide) rfl (fun ls hl => ?_)
                          refine lv_goto (tgt := 233) hx hb dX15_wish_301 (by decide) ?_
                          refine W.widen (k := 0) (n := 0) (by omega) (by omega) ?_
                          exact ih_338 (j + 1) F_336 (by first | omega | exact ⟨by omega, by omega⟩ | trivial) (by show nf - (j + 1) < nf - j; omega) hO hR _ _ hP hD hS ls (lv_sub hl [0, 1, 2, 3] rfl)
                        ·
                          refine lv_aload_n hx hb dX15_wish_254 rfl (lv_at hl 2 rfl) ?_
                          refine lv_iload hx hb dX15_wish_255 (lv_at hl 0 rfl) ?_
                          refine lv_iload_n hx hb dX15_wish_257 rfl (lv_at hl 3 rfl) ?_
                          have hFc := pg_free hD hS hA
                          refine va_calli (va_runV (As := [.int (nI j), .int x1]) (rest := []) ⟨hx, hb, hml, hown, hts⟩ (s_X15_sealOf l dC dI cs ty gm L H.size F_336 h0 ρ ta ou so ad na va lc dm tg pe ml bg co sp nb0 nb1 nb2 pl se ke wi hs mo po nu pr sq xa sa n64 m64 ex wh sd tk hd ak ho ot sx s0 s1 s2 nf bd mm zo fm sn (hgr gp_240 hg) (gcr gp_240 gc) (gvr gp_240 gv) ze zt r_278 r_247 j x1 hW hL_h0 hT_h0 hi_274 ht_279 hi_288 ht_289 (by first | omega | assumption | exact Or.inl rfl)) ⟨callB_of 2 hts (gi kt_989) rfl rfl rfl (hts _ kt_669) (hts _ kt_990) (by decide +kernel) ⟨Nat.le_of_ble_eq_true rfl, Nat.le_of_ble_eq_true rfl⟩, (hts _ kt_991), (hts _ kt_992)⟩ ⟨fun a U g mk q => ⟨q.1, PTEm.calling q.2⟩, pg_recv hK hP hL_h0 hF_351 (q := (RX15, TX15, 59)) rfl, fun U hU hWm => ⟨rfl, PTEm.mk hU hWm hP hK hD hE hO hG (fun x hx => absurd hx List.not_mem_nil) hS hFc⟩⟩ rfl rfl hl.1 rfl (lv_room (Nat.le_of_ble_eq_true rfl)) dX15_wish_258 ⟨by show _ + 0 ≤ 0; omega, by show _ + 0 ≤ 0; omega⟩) hS (fun q _ h => hFc q h) hFc (fun r_366 u t H1 locs ht hvm hw hB hz1 hk1 hS => ?_)
                          obtain ⟨F_367, hB1⟩ := hB
                          obtain ⟨hP, hD, hO, hR⟩ := QTm.back hB1 ht hFc hR (fun q h => by simp only [mem_tgS, List.mem_append, List.mem_cons, List.not_mem_nil, or_false] at h ⊢; omega)
                          generalize H1 = H at hP hS ⊢
                          have hw : True := hw
                          have hw_368 := hw
                          refine lv_iconst (v := 2) hx hb dX15_wish_261 (by decide) ?_
                          refine lv_icmp_eq (tgt := 268) hx hb dX15_wish_262 (by decide) (fun c_369 => ?_) (fun c_369 => ?_)
                          ·
                            refine lv_aload_n hx hb dX15_wish_268 rfl (lv_at hl 2 rfl) ?_
                            refine lv_aload_n hx hb dX15_wish_269 rfl (lv_at hl 2 rfl) ?_
                            obtain ⟨v14_370, v15_371, v17_372, v18_373, v19_374, v20_375, v21_376, v22_377, v33_378, v52_379, v53_380, v54_381, hF_382, hq_383, hq_384, hq_385, hq_386, hq_387⟩ := hO.mod hL_h0 hT_h0
                            refine pg_get (ci := 15) (v := .ref sd) (C := RX15) (T := TX15) (N := 59) hx hb hts it_15 hown hK hP hL_h0 hF_382 rfl 50 (by decide) (hts _ kt_961) (fun _ h9 => h9) rfl dX15_wish_270 ?_
                            refine lv_aload_n hx hb dX15_wish_273 rfl (lv_at hl 2 rfl) ?_
                            refine pg_get (ci := 15) (v := .ref ak) (C := RX15) (T := TX15) (N := 59) hx hb hts it_15 hown hK hP hL_h0 hF_382 rfl 56 (by decide) (hts _ kt_993) (fun _ h9 => h9) rfl dX15_wish_274 ?_
                            refine lv_aload_n hx hb dX15_wish_277 rfl (lv_at hl 2 rfl) ?_
                            refine pg_get (ci := 15) (v := .ref wi) (C := RX15) (T := TX15) (N := 59) hx hb hts it_15 hown hK hP hL_h0 hF_382 rfl 37 (by decide) (hts _ kt_1132) (fun _ h9 => h9) rfl dX15_wish_278 ?_
                            obtain ⟨q_388, v_389, hr_q_388, hX_q_388⟩ := hG.2.2 ("PostGateModel", 601, "adkim", [97, 100, 107, 105, 109]) (by decide +kernel)
                            have hX_q_388 : SXc q_388 v_389 5 (cct [97, 100, 107, 105, 109]) A s s.heap := hX_q_388
                            obtain ⟨xo_q_388, xc_q_388, xv_q_388, xt_q_388, xn_q_388⟩ := id hX_q_388
                            have hr_q_388 : vk_R "PostGateModel" 601 "adkim" q_388 s := hr_q_388
                            refine va_ldcwS hx hb hown hr_q_388 dX15_wish_281 ?_
                            obtain ⟨q_390, v_391, hr_q_390, hX_q_390⟩ := hG.2.2 ("PostGateModel", 460, "s", [115]) (by decide +kernel)
                            have hX_q_390 : SXc q_390 v_391 1 (cct [115]) A s s.heap := hX_q_390
                            obtain ⟨xo_q_390, xc_q_390, xv_q_390, xt_q_390, xn_q_390⟩ := id hX_q_390
                            have hr_q_390 : vk_R "PostGateModel" 460 "s" q_390 s := hr_q_390
                            refine va_ldcwS hx hb hown hr_q_390 dX15_wish_284 ?_
                            obtain ⟨hi_392, ht_393, hq_394⟩ := hW.txt hi_310 ht_315
                            obtain ⟨z_395, hF_396, hq_397⟩ := hO.tags hi_308 ht_309
                            have hFc := pg_free hD hS hA
                            refine va_calli (va_runV (As := [.ref q_388, .ref q_390]) (rest := [.ref ak, .ref sd, .ref h0]) ⟨hx, hb, hml, hown, hts⟩ (s_X13_has l dC dI cs ty gm L H.size F_367 wi (ρ + 15) x_252 700 700 y0_253 y1_254 y2_255 r_314 z_395 q_388 v_389 5 (cct [97, 100, 107, 105, 109]) q_390 v_391 1 (cct [115]) hW hi_308 ht_309 hi_310 ht_315 hF_396 (by first | omega | assumption | exact Or.inl rfl)) ⟨callB_of 2 hts (gi kt_863) rfl rfl rfl (hts _ kt_829) (hts _ kt_864) (by decide +kernel) ⟨Nat.le_of_ble_eq_true rfl, Nat.le_of_ble_eq_true rfl⟩, (hts _ kt_865), (hts _ kt_866)⟩ ⟨fun a U g mk q => ⟨q.1, PTEm.calling q.2⟩, pg_recv hK hP hi_308 hF_396 (q := (RX13, TX13, 5)) rfl, fun U hU hWm => ⟨rfl, PTEm.mk hU hWm hP hK hD hE hO hG (fun x hx => by simp only [mem_tgS, List.mem_append, List.mem_cons, List.not_mem_nil, or_false] at hx; rcases hx with hx | hx <;> subst hx <;> first | exact hX_q_388 | exact hX_q_390) hS hFc⟩⟩ rfl rfl hl.1 rfl (lv_room (Nat.le_of_ble_eq_true rfl)) dX15_wish_287 ⟨by show _ + 0 ≤ 0; omega, by show _ + 0 ≤ 0; omega⟩) hS (fun q _ h => hFc q h) hFc (fun r_398 u t H1 locs ht hvm hw hB hz1 hk1 hS => ?_)
                            obtain ⟨F_399, hB1⟩ := hB
                            obtain rfl : F_367 = F_399 := (funext (fun a => hB1.2.2.2 a List.not_mem_nil)).symm
                            obtain ⟨hP, hD, hO, hR⟩ := QTm.back hB1 ht hFc hR (fun q h => absurd h List.not_mem_nil)
                            generalize H1 = H at hP hS ⊢
                            have hw : (r_398 = 0 ∨ r_398 = 1) := hw
                            have hw_400 := hw
                            have hFc := pg_free hD hS hA
                            refine va_calli (va_runV (As := [.ref sd, .ref ak, .int r_398]) (rest := []) ⟨hx, hb, hml, hown, hts⟩ (s_X15_isAligned l dC dI cs ty gm L H.size F_367 h0 ρ ta ou so ad na va lc dm tg pe ml bg co sp nb0 nb1 nb2 pl se ke wi hs mo po nu pr sq xa sa n64 m64 ex wh sd tk hd ak ho ot sx s0 s1 s2 nf bd mm zo fm sn (hgr gp_240 hg) (gcr gp_240 gc) (gvr gp_240 gv) ze zt sd (ρ + 25) r_262 3000 ak (ρ + 28) r_263 6000 r_398 hW hL_h0 hT_h0 hi_326 ht_327 hi_298 ht_299 (by first | omega | assumption | exact Or.inl rfl) (by first | omega | assumption | exact Or.inl rfl)) ⟨callB_of 3 hts (gi kt_1203) rfl rfl rfl (hts _ kt_669) (hts _ kt_1204) (by decide +kernel) ⟨Nat.le_of_ble_eq_true rfl, Nat.le_of_ble_eq_true rfl⟩, (hts _ kt_1205), (hts _ kt_1206)⟩ ⟨fun a U g mk q => ⟨q.1, PTm.calling q.2⟩, pg_recv hK hP hL_h0 hF_382 (q := (RX15, TX15, 59)) rfl, fun U hU hWm => ⟨rfl, PTm.mk hU hWm hP hK hD hE hO⟩⟩ rfl rfl hl.1 rfl (lv_room (Nat.le_of_ble_eq_true rfl)) dX15_wish_290 ⟨by show _ + 0 ≤ 0; omega, by show _ + 0 ≤ 0; omega⟩) hS (fun q _ h => hFc q h) hFc (fun r_401 u t H1 locs ht hvm hw hB hz1 hk1 hS => ?_)
                            obtain ⟨F_402, hB1⟩ := hB
                            obtain ⟨hP, hD, hO, hR⟩ := QTm.back hB1 ht hFc hR (fun q h => by simp only [mem_tgS, List.mem_append, List.mem_cons, List.not_mem_nil, or_false] at h ⊢; omega)
                            have hF_403 : F_402 h0 = .inr (15, (.ref ta) :: (.int (nI zt)) :: (.int (nI zo)) :: (.int (nI ze)) :: (.ref ou) :: (.ref so) :: (.ref ad) :: (.ref na) :: (.ref va) :: (.ref lc) :: (.ref dm) :: (.int (nI fm)) :: (.int (nI sn)) :: (.ref tg) :: (.int v14_370) :: (.int v15_371) :: (.ref pe) :: (.int v17_372) :: (.int v18_373) :: (.int v19_374) :: (.int v20_375) :: (.int v21_376) :: (.int v22_377) :: (.ref ml) :: (.ref bg) :: (.ref co) :: (.ref sp) :: (.ref nb0) :: (.ref nb1) :: (.ref nb2) :: (.int (nI nf)) :: (.int (nI bd)) :: (.int (nI mm)) :: (.int v33_378) :: (.ref pl) :: (.ref se) :: (.ref ke) :: (.ref wi) :: (.ref hs) :: (.ref mo) :: (.ref po) :: (.ref nu) :: (.ref pr) :: (.ref sq) :: (.ref xa) :: (.ref sa) :: (.ref n64) :: (.ref m64) :: (.ref ex) :: (.ref wh) :: (.ref sd) :: (.ref tk) :: (.int v52_379) :: (.int v53_380) :: (.int v54_381) :: (.ref hd) :: (.ref ak) :: (.ref ho) :: (.ref ot) :: []) := (hB1.2.2.2 h0 (by rw [hT_h0]; simp)).trans hF_382
                            have hF_404 : F_402 wi = .inr (13, [.ref x_252, .ref y0_253, .ref y1_254, .ref y2_255, .int (nI z_395)]) := (hB1.2.2.2 wi (by rw [ht_309]; simp)).trans hF_396
                            generalize H1 = H at hP hS ⊢
                            have hw : (r_401 = 0 ∨ r_401 = 1) := hw
                            have hw_405 := hw
                            refine lv_if_eq (tgt := 298) hx hb dX15_wish_293 (by decide) (fun c_406 => ?_) (fun c_406 => ?_)
                            ·
                              refine lv_iinc (v := (nI (j + 1))) (lv' := [(5, .int (nI (j + 1))), (4, .int s4), (0, .ref h0), (1, .int x1)]) hx hb dX15_wish_298 hl (k := 0) rfl (nI_1 _) (by decide) rfl (fun ls hl => ?_)
                              refine lv_goto (tgt := 233) hx hb dX15_wish_301 (by decide) ?_
                              refine W.widen (k := 0) (n := 0) (by omega) (by omega) ?_
                              exact ih_338 (j + 1) F_402 (by first | omega | exact ⟨by omega, by omega⟩ | trivial) (by show nf - (j + 1) < nf - j; omega) hO hR _ _ hP hD hS ls (lv_sub hl [0, 1, 2, 3] rfl)
                            ·
                              refine lv_iconst (v := 2) hx hb dX15_wish_296 (by decide) ?_
                              refine W.widen (k := 0) (n := 0) (by omega) (by omega) ?_
                              exact W.iret (v := 2) hx hb hr (fun t ht hWm => ⟨⟨2, gp_240, rfl, trivial, ⟨F_402, ty, htyP, QTm.mk ht hP hD hO hR, hW, (Or.inr ⟨hs0, Int32.not_lt.mpr c_101, hn0, _, snr_plr D ze hw_109, Or.inl ⟨by rw [hVe]; exact hop, hpm⟩⟩)⟩⟩, hS.F ht⟩) hS.2.2 dX15_wish_297
                          ·
                            refine lv_goto (tgt := 298) hx hb dX15_wish_265 (by decide) ?_
                            refine lv_iinc (v := (nI (j + 1))) (lv' := [(5, .int (nI (j + 1))), (4, .int s4), (0, .ref h0), (1, .int x1)]) hx hb dX15_wish_298 hl (k := 0) rfl (nI_1 _) (by decide) rfl (fun ls hl => ?_)
                            refine lv_goto (tgt := 233) hx hb dX15_wish_301 (by decide) ?_
                            refine W.widen (k := 0) (n := 0) (by omega) (by omega) ?_
                            exact ih_338 (j + 1) F_367 (by first | omega | exact ⟨by omega, by omega⟩ | trivial) (by show nf - (j + 1) < nf - j; omega) hO hR _ _ hP hD hS ls (lv_sub hl [0, 1, 2, 3] rfl)
                    ·
                      refine lv_aload_n hx hb dX15_wish_200 rfl (lv_at hl 1 rfl) ?_
                      refine lv_aload_n hx hb dX15_wish_201 rfl (lv_at hl 1 rfl) ?_
                      obtain ⟨v14_407, v15_408, v17_409, v18_410, v19_411, v20_412, v21_413, v22_414, v33_415, v52_416, v53_417, v54_418, hF_419, hq_420, hq_421, hq_422, hq_423, hq_424⟩ := hO.mod hL_h0 hT_h0
                      refine pg_get (ci := 15) (v := .ref dm) (C := RX15) (T := TX15) (N := 59) hx hb hts it_15 hown hK hP hL_h0 hF_419 rfl 10 (by decide) (hts _ kt_1124) (fun _ h9 => h9) rfl dX15_wish_202 ?_
                      refine lv_aload_n hx hb dX15_wish_205 rfl (lv_at hl 1 rfl) ?_
                      refine pg_get (ci := 15) (v := .ref ak) (C := RX15) (T := TX15) (N := 59) hx hb hts it_15 hown hK hP hL_h0 hF_419 rfl 56 (by decide) (hts _ kt_993) (fun _ h9 => h9) rfl dX15_wish_206 ?_
                      refine lv_aload_n hx hb dX15_wish_209 rfl (lv_at hl 1 rfl) ?_
                      refine pg_get (ci := 15) (v := .ref wi) (C := RX15) (T := TX15) (N := 59) hx hb hts it_15 hown hK hP hL_h0 hF_419 rfl 37 (by decide) (hts _ kt_1132) (fun _ h9 => h9) rfl dX15_wish_210 ?_
                      obtain ⟨q_425, v_426, hr_q_425, hX_q_425⟩ := hG.2.2 ("PostGateModel", 595, "aspf", [97, 115, 112, 102]) (by decide +kernel)
                      have hX_q_425 : SXc q_425 v_426 4 (cct [97, 115, 112, 102]) A s s.heap := hX_q_425
                      obtain ⟨xo_q_425, xc_q_425, xv_q_425, xt_q_425, xn_q_425⟩ := id hX_q_425
                      have hr_q_425 : vk_R "PostGateModel" 595 "aspf" q_425 s := hr_q_425
                      refine va_ldcwS hx hb hown hr_q_425 dX15_wish_213 ?_
                      obtain ⟨q_427, v_428, hr_q_427, hX_q_427⟩ := hG.2.2 ("PostGateModel", 460, "s", [115]) (by decide +kernel)
                      have hX_q_427 : SXc q_427 v_428 1 (cct [115]) A s s.heap := hX_q_427
                      obtain ⟨xo_q_427, xc_q_427, xv_q_427, xt_q_427, xn_q_427⟩ := id hX_q_427
                      have hr_q_427 : vk_R "PostGateModel" 460 "s" q_427 s := hr_q_427
                      refine va_ldcwS hx hb hown hr_q_427 dX15_wish_216 ?_
                      obtain ⟨hi_429, ht_430, hq_431⟩ := hW.txt hi_310 ht_315
                      obtain ⟨z_432, hF_433, hq_434⟩ := hO.tags hi_308 ht_309
                      have hFc := pg_free hD hS hA
                      refine va_calli (va_runV (As := [.ref q_425, .ref q_427]) (rest := [.ref ak, .ref dm, .ref h0]) ⟨hx, hb, hml, hown, hts⟩ (s_X13_has l dC dI cs ty gm L H.size F_242 wi (ρ + 15) x_252 700 700 y0_253 y1_254 y2_255 r_314 z_432 q_425 v_426 4 (cct [97, 115, 112, 102]) q_427 v_428 1 (cct [115]) hW hi_308 ht_309 hi_310 ht_315 hF_433 (by first | omega | assumption | exact Or.inl rfl)) ⟨callB_of 2 hts (gi kt_863) rfl rfl rfl (hts _ kt_829) (hts _ kt_864) (by decide +kernel) ⟨Nat.le_of_ble_eq_true rfl, Nat.le_of_ble_eq_true rfl⟩, (hts _ kt_865), (hts _ kt_866)⟩ ⟨fun a U g mk q => ⟨q.1, PTEm.calling q.2⟩, pg_recv hK hP hi_308 hF_433 (q := (RX13, TX13, 5)) rfl, fun U hU hWm => ⟨rfl, PTEm.mk hU hWm hP hK hD hE hO hG (fun x hx => by simp only [mem_tgS, List.mem_append, List.mem_cons, List.not_mem_nil, or_false] at hx; rcases hx with hx | hx <;> subst hx <;> first | exact hX_q_425 | exact hX_q_427) hS hFc⟩⟩ rfl rfl hl.1 rfl (lv_room (Nat.le_of_ble_eq_true rfl)) dX15_wish_219 ⟨by show _ + 0 ≤ 0; omega, by show _ + 0 ≤ 0; omega⟩) hS (fun q _ h => hFc q h) hFc (fun r_435 u t H1 locs ht hvm hw hB hz1 hk1 hS => ?_)
                      obtain ⟨F_436, hB1⟩ := hB
                      obtain rfl : F_242 = F_436 := (funext (fun a => hB1.2.2.2 a List.not_mem_nil)).symm
                      obtain ⟨hP, hD, hO, hR⟩ := QTm.back hB1 ht hFc hR (fun q h => absurd h List.not_mem_nil)
                      generalize H1 = H at hP hS ⊢
                      have hw : (r_435 = 0 ∨ r_435 = 1) := hw
                      have hw_437 := hw
                      have hFc := pg_free hD hS hA
                      refine va_calli (va_runV (As := [.ref dm, .ref ak, .int r_435]) (rest := []) ⟨hx, hb, hml, hown, hts⟩ (s_X15_isAligned l dC dI cs ty gm L H.size F_242 h0 ρ ta ou so ad na va lc dm tg pe ml bg co sp nb0 nb1 nb2 pl se ke wi hs mo po nu pr sq xa sa n64 m64 ex wh sd tk hd ak ho ot sx s0 s1 s2 nf bd mm zo fm sn (hgr gp_240 hg) (gcr gp_240 gc) (gvr gp_240 gv) ze zt dm (ρ + 32) r_245 60 ak (ρ + 28) r_263 6000 r_435 hW hL_h0 hT_h0 hi_321 ht_322 hi_298 ht_299 (by first | omega | assumption | exact Or.inl rfl) (by first | omega | assumption | exact Or.inl rfl)) ⟨callB_of 3 hts (gi kt_1203) rfl rfl rfl (hts _ kt_669) (hts _ kt_1204) (by decide +kernel) ⟨Nat.le_of_ble_eq_true rfl, Nat.le_of_ble_eq_true rfl⟩, (hts _ kt_1205), (hts _ kt_1206)⟩ ⟨fun a U g mk q => ⟨q.1, PTm.calling q.2⟩, pg_recv hK hP hL_h0 hF_419 (q := (RX15, TX15, 59)) rfl, fun U hU hWm => ⟨rfl, PTm.mk hU hWm hP hK hD hE hO⟩⟩ rfl rfl hl.1 rfl (lv_room (Nat.le_of_ble_eq_true rfl)) dX15_wish_222 ⟨by show _ + 0 ≤ 0; omega, by show _ + 0 ≤ 0; omega⟩) hS (fun q _ h => hFc q h) hFc (fun r_438 u t H1 locs ht hvm hw hB hz1 hk1 hS => ?_)
                      obtain ⟨F_439, hB1⟩ := hB
                      obtain ⟨hP, hD, hO, hR⟩ := QTm.back hB1 ht hFc hR (fun q h => by simp only [mem_tgS, List.mem_append, List.mem_cons, List.not_mem_nil, or_false] at h ⊢; omega)
                      have hF_440 : F_439 h0 = .inr (15, (.ref ta) :: (.int (nI zt)) :: (.int (nI zo)) :: (.int (nI ze)) :: (.ref ou) :: (.ref so) :: (.ref ad) :: (.ref na) :: (.ref va) :: (.ref lc) :: (.ref dm) :: (.int (nI fm)) :: (.int (nI sn)) :: (.ref tg) :: (.int v14_407) :: (.int v15_408) :: (.ref pe) :: (.int v17_409) :: (.int v18_410) :: (.int v19_411) :: (.int v20_412) :: (.int v21_413) :: (.int v22_414) :: (.ref ml) :: (.ref bg) :: (.ref co) :: (.ref sp) :: (.ref nb0) :: (.ref nb1) :: (.ref nb2) :: (.int (nI nf)) :: (.int (nI bd)) :: (.int (nI mm)) :: (.int v33_415) :: (.ref pl) :: (.ref se) :: (.ref ke) :: (.ref wi) :: (.ref hs) :: (.ref mo) :: (.ref po) :: (.ref nu) :: (.ref pr) :: (.ref sq) :: (.ref xa) :: (.ref sa) :: (.ref n64) :: (.ref m64) :: (.ref ex) :: (.ref wh) :: (.ref sd) :: (.ref tk) :: (.int v52_416) :: (.int v53_417) :: (.int v54_418) :: (.ref hd) :: (.ref ak) :: (.ref ho) :: (.ref ot) :: []) := (hB1.2.2.2 h0 (by rw [hT_h0]; simp)).trans hF_419
                      have hF_441 : F_439 wi = .inr (13, [.ref x_252, .ref y0_253, .ref y1_254, .ref y2_255, .int (nI z_432)]) := (hB1.2.2.2 wi (by rw [ht_309]; simp)).trans hF_433
                      generalize H1 = H at hP hS ⊢
                      have hw : (r_438 = 0 ∨ r_438 = 1) := hw
                      have hw_442 := hw
                      refine lv_if_eq (tgt := 230) hx hb dX15_wish_225 (by decide) (fun c_443 => ?_) (fun c_443 => ?_)
                      ·
                        refine lv_iconst (v := 0) hx hb dX15_wish_230 (by decide) ?_
                        refine lv_istore (lv' := [(5, .int 0), (4, .int s4), (0, .ref h0), (1, .int x1)]) hx hb dX15_wish_231 hl (by decide) rfl (fun ls hl => ?_)
                        refine W.widen (k := 0) (n := 0) (by omega) (by omega) ?_
                        refine pl_loopm (σ := Nat) A (dC, dI) cs ty gm L (tgS ρ 0 ++ [ρ + 10, ρ + 11, ρ + 12, ρ + 13, ρ + 14, ρ + 15, ρ + 16, ρ + 17, ρ + 18, ρ + 19, ρ + 20, ρ + 21, ρ + 22, ρ + 23, ρ + 24, ρ + 25, ρ + 26, ρ + 28, ρ + 29, ρ + 30, ρ + 81, ρ + 82, ρ + 83, ρ + 84, ρ + 85, ρ + 86, ρ + 87, ρ + 88, ρ + 89, ρ + 90]) F 233 6 (fun j => [(5, .int (nI j)), (4, .int s4), (0, .ref h0), (1, .int x1)]) (fun j => []) (fun j _ => j ≤ nf) (fun j => nf - j) ?_ 0 F_439 (by omega) hO hR _ _ hP hD hS ls (lv_sub hl [0, 1, 2, 3] rfl)
                        rintro j F_444 hv_445 hO hR ih_446 H locs hP hD hS ls hl
                        have hl : lv_has ls 6 [(5, .int (nI j)), (4, .int s4), (0, .ref h0), (1, .int x1)] := hl
                        have hv_445 : j ≤ nf := hv_445
                        refine W.eq (g2 := F0 m 233 ls []) rfl ?_
                        refine lv_iload hx hb dX15_wish_233 (lv_at hl 0 rfl) ?_
                        refine lv_aload_n hx hb dX15_wish_235 rfl (lv_at hl 2 rfl) ?_
                        obtain ⟨v14_447, v15_448, v17_449, v18_450, v19_451, v20_452, v21_453, v22_454, v33_455, v52_456, v53_457, v54_458, hF_459, hq_460, hq_461, hq_462, hq_463, hq_464⟩ := hO.mod hL_h0 hT_h0
                        refine pg_get (ci := 15) (v := .int (nI nf)) (C := RX15) (T := TX15) (N := 59) hx hb hts it_15 hown hK hP hL_h0 hF_459 rfl 30 (by decide) (hts _ kt_892) (fun _ h9 => h9) rfl dX15_wish_236 ?_
                        refine lv_icmp_ge (tgt := 304) hx hb dX15_wish_239 (by decide) (fun c_465 => ?_) (fun c_465 => ?_)
                        ·
                          have hi_466 : nf ≤ j := leN (N := nf) c_465
                          refine lv_iload hx hb dX15_wish_304 (lv_at hl 1 rfl) ?_
                          refine W.widen (k := 0) (n := 0) (by omega) (by omega) ?_
                          exact W.iret (v := s4) hx hb hr (fun t ht hWm => ⟨⟨s4, gp_240, rfl, trivial, ⟨F_444, ty, htyP, QTm.mk ht hP hD hO hR, hW, (Or.inr ⟨hs0, Int32.not_lt.mpr c_101, hn0, _, snr_plr D ze hw_109, Or.inl ⟨by rw [hVe]; exact hop, hpm⟩⟩)⟩⟩, hS.F ht⟩) hS.2.2 dX15_wish_306
                        ·
                          have hi_467 : j < nf := ltN (N := nf) c_465
                          refine lv_aload_n hx hb dX15_wish_242 rfl (lv_at hl 2 rfl) ?_
                          refine lv_iload hx hb dX15_wish_243 (lv_at hl 0 rfl) ?_
                          obtain ⟨q_468, v_469, hr_q_468, hX_q_468⟩ := hG.2.2 ("PostGateModel", 376, "dkim-signature", [100, 107, 105, 109, 45, 115, 105, 103, 110, 97, 116, 117, 114, 101]) (by decide +kernel)
                          have hX_q_468 : SXc q_468 v_469 14 (cct [100, 107, 105, 109, 45, 115, 105, 103, 110, 97, 116, 117, 114, 101]) A s s.heap := hX_q_468
                          obtain ⟨xo_q_468, xc_q_468, xv_q_468, xt_q_468, xn_q_468⟩ := id hX_q_468
                          have hr_q_468 : vk_R "PostGateModel" 376 "dkim-signature" q_468 s := hr_q_468
                          refine va_ldcwS hx hb hown hr_q_468 dX15_wish_245 ?_
                          have hFc := pg_free hD hS hA
                          refine va_calli (va_runV (As := [.int (nI j), .ref q_468]) (rest := []) ⟨hx, hb, hml, hown, hts⟩ (s_X15_isNamed l dC dI cs ty gm L H.size F_444 h0 ρ ta ou so ad na va lc dm tg pe ml bg co sp nb0 nb1 nb2 pl se ke wi hs mo po nu pr sq xa sa n64 m64 ex wh sd tk hd ak ho ot sx s0 s1 s2 nf bd mm zo fm sn (hgr gp_240 hg) (gcr gp_240 gc) (gvr gp_240 gv) ze zt j q_468 v_469 14 (cct [100, 107, 105, 109, 45, 115, 105, 103, 110, 97, 116, 117, 114, 101]) hW hL_h0 hT_h0 (by first | omega | assumption | exact Or.inl rfl)) ⟨callB_of 2 hts (gi kt_893) rfl rfl rfl (hts _ kt_669) (hts _ kt_894) (by decide +kernel) ⟨Nat.le_of_ble_eq_true rfl, Nat.le_of_ble_eq_true rfl⟩, (hts _ kt_895), (hts _ kt_896)⟩ ⟨fun a U g mk q => ⟨q.1, PTEm.calling q.2⟩, pg_recv hK hP hL_h0 hF_459 (q := (RX15, TX15, 59)) rfl, fun U hU hWm => ⟨rfl, PTEm.mk hU hWm hP hK hD hE hO hG (fun x hx => by rw [List.mem_singleton] at hx; subst hx; exact hX_q_468) hS hFc⟩⟩ rfl rfl hl.1 rfl (lv_room (Nat.le_of_ble_eq_true rfl)) dX15_wish_248 ⟨by show _ + 0 ≤ 0; omega, by show _ + 0 ≤ 0; omega⟩) hS (fun q _ h => hFc q h) hFc (fun r_470 u t H1 locs ht hvm hw hB hz1 hk1 hS => ?_)
                          obtain ⟨F_471, hB1⟩ := hB
                          obtain rfl : F_444 = F_471 := (funext (fun a => hB1.2.2.2 a List.not_mem_nil)).symm
                          obtain ⟨hP, hD, hO, hR⟩ := QTm.back hB1 ht hFc hR (fun q h => absurd h List.not_mem_nil)
                          generalize H1 = H at hP hS ⊢
                          have hw : (r_470 = 0 ∨ r_470 = 1) := hw
                          have hw_472 := hw
                          refine lv_if_eq (tgt := 298) hx hb dX15_wish_251 (by decide) (fun c_473 => ?_) (fun c_473 => ?_)
                          ·
                            refine lv_iinc (v := (nI (j + 1))) (lv' := [(5, .int (nI (j + 1))), (4, .int s4), (0, .ref h0), (1, .int x1)]) hx hb dX15_wish_298 hl (k := 0) rfl (nI_1 _) (by decide) rfl (fun ls hl => ?_)
                            refine lv_goto (tgt := 233) hx hb dX15_wish_301 (by decide) ?_
                            refine W.widen (k := 0) (n := 0) (by omega) (by omega) ?_
                            exact ih_446 (j + 1) F_444 (by first | omega | exact ⟨by omega, by omega⟩ | trivial) (by show nf - (j + 1) < nf - j; omega) hO hR _ _ hP hD hS ls (lv_sub hl [0, 1, 2, 3] rfl)
                          ·
                            refine lv_aload_n hx hb dX15_wish_254 rfl (lv_at hl 2 rfl) ?_
                            refine lv_iload hx hb dX15_wish_255 (lv_at hl 0 rfl) ?_
                            refine lv_iload_n hx hb dX15_wish_257 rfl (lv_at hl 3 rfl) ?_
                            have hFc := pg_free hD hS hA
                            refine va_calli (va_runV (As := [.int (nI j), .int x1]) (rest := []) ⟨hx, hb, hml, hown, hts⟩ (s_X15_sealOf l dC dI cs ty gm L H.size F_444 h0 ρ ta ou so ad na va lc dm tg pe ml bg co sp nb0 nb1 nb2 pl se ke wi hs mo po nu pr sq xa sa n64 m64 ex wh sd tk hd ak ho ot sx s0 s1 s2 nf bd mm zo fm sn (hgr gp_240 hg) (gcr gp_240 gc) (gvr gp_240 gv) ze zt r_278 r_247 j x1 hW hL_h0 hT_h0 hi_274 ht_279 hi_288 ht_289 (by first | omega | assumption | exact Or.inl rfl)) ⟨callB_of 2 hts (gi kt_989) rfl rfl rfl (hts _ kt_669) (hts _ kt_990) (by decide +kernel) ⟨Nat.le_of_ble_eq_true rfl, Nat.le_of_ble_eq_true rfl⟩, (hts _ kt_991), (hts _ kt_992)⟩ ⟨fun a U g mk q => ⟨q.1, PTEm.calling q.2⟩, pg_recv hK hP hL_h0 hF_459 (q := (RX15, TX15, 59)) rfl, fun U hU hWm => ⟨rfl, PTEm.mk hU hWm hP hK hD hE hO hG (fun x hx => absurd hx List.not_mem_nil) hS hFc⟩⟩ rfl rfl hl.1 rfl (lv_room (Nat.le_of_ble_eq_true rfl)) dX15_wish_258 ⟨by show _ + 0 ≤ 0; omega, by show _ + 0 ≤ 0; omega⟩) hS (fun q _ h => hFc q h) hFc (fun r_474 u t H1 locs ht hvm hw hB hz1 hk1 hS => ?_)
                            obtain ⟨F_475, hB1⟩ := hB
                            obtain ⟨hP, hD, hO, hR⟩ := QTm.back hB1 ht hFc hR (fun q h => by simp only [mem_tgS, List.mem_append, List.mem_cons, List.not_mem_nil, or_false] at h ⊢; omega)
                            generalize H1 = H at hP hS ⊢
                            have hw : True := hw
                            have hw_476 := hw
                            refine lv_iconst (v := 2) hx hb dX15_wish_261 (by decide) ?_
                            refine lv_icmp_eq (tgt := 268) hx hb dX15_wish_262 (by decide) (fun c_477 => ?_) (fun c_477 => ?_)
                            ·
                              refine lv_aload_n hx hb dX15_wish_268 rfl (lv_at hl 2 rfl) ?_
                              refine lv_aload_n hx hb dX15_wish_269 rfl (lv_at hl 2 rfl) ?_
                              obtain ⟨v14_478, v15_479, v17_480, v18_481, v19_482, v20_483, v21_484, v22_485, v33_486, v52_487, v53_488, v54_489, hF_490, hq_491, hq_492, hq_493, hq_494, hq_495⟩ := hO.mod hL_h0 hT_h0
                              refine pg_get (ci := 15) (v := .ref sd) (C := RX15) (T := TX15) (N := 59) hx hb hts it_15 hown hK hP hL_h0 hF_490 rfl 50 (by decide) (hts _ kt_961) (fun _ h9 => h9) rfl dX15_wish_270 ?_
                              refine lv_aload_n hx hb dX15_wish_273 rfl (lv_at hl 2 rfl) ?_
                              refine pg_get (ci := 15) (v := .ref ak) (C := RX15) (T := TX15) (N := 59) hx hb hts it_15 hown hK hP hL_h0 hF_490 rfl 56 (by decide) (hts _ kt_993) (fun _ h9 => h9) rfl dX15_wish_274 ?_
                              refine lv_aload_n hx hb dX15_wish_277 rfl (lv_at hl 2 rfl) ?_
                              refine pg_get (ci := 15) (v := .ref wi) (C := RX15) (T := TX15) (N := 59) hx hb hts it_15 hown hK hP hL_h0 hF_490 rfl 37 (by decide) (hts _ kt_1132) (fun _ h9 => h9) rfl dX15_wish_278 ?_
                              obtain ⟨q_496, v_497, hr_q_496, hX_q_496⟩ := hG.2.2 ("PostGateModel", 601, "adkim", [97, 100, 107, 105, 109]) (by decide +kernel)
                              have hX_q_496 : SXc q_496 v_497 5 (cct [97, 100, 107, 105, 109]) A s s.heap := hX_q_496
                              obtain ⟨xo_q_496, xc_q_496, xv_q_496, xt_q_496, xn_q_496⟩ := id hX_q_496
                              have hr_q_496 : vk_R "PostGateModel" 601 "adkim" q_496 s := hr_q_496
                              refine va_ldcwS hx hb hown hr_q_496 dX15_wish_281 ?_
                              refine va_ldcwS hx hb hown hr_q_427 dX15_wish_284 ?_
                              obtain ⟨z_498, hF_499, hq_500⟩ := hO.tags hi_308 ht_309
                              have hFc := pg_free hD hS hA
                              refine va_calli (va_runV (As := [.ref q_496, .ref q_427]) (rest := [.ref ak, .ref sd, .ref h0]) ⟨hx, hb, hml, hown, hts⟩ (s_X13_has l dC dI cs ty gm L H.size F_475 wi (ρ + 15) x_252 700 700 y0_253 y1_254 y2_255 r_314 z_498 q_496 v_497 5 (cct [97, 100, 107, 105, 109]) q_427 v_428 1 (cct [115]) hW hi_308 ht_309 hi_310 ht_315 hF_499 (by first | omega | assumption | exact Or.inl rfl)) ⟨callB_of 2 hts (gi kt_863) rfl rfl rfl (hts _ kt_829) (hts _ kt_864) (by decide +kernel) ⟨Nat.le_of_ble_eq_true rfl, Nat.le_of_ble_eq_true rfl⟩, (hts _ kt_865), (hts _ kt_866)⟩ ⟨fun a U g mk q => ⟨q.1, PTEm.calling q.2⟩, pg_recv hK hP hi_308 hF_499 (q := (RX13, TX13, 5)) rfl, fun U hU hWm => ⟨rfl, PTEm.mk hU hWm hP hK hD hE hO hG (fun x hx => by simp only [mem_tgS, List.mem_append, List.mem_cons, List.not_mem_nil, or_false] at hx; rcases hx with hx | hx <;> subst hx <;> first | exact hX_q_496 | exact hX_q_427) hS hFc⟩⟩ rfl rfl hl.1 rfl (lv_room (Nat.le_of_ble_eq_true rfl)) dX15_wish_287 ⟨by show _ + 0 ≤ 0; omega, by show _ + 0 ≤ 0; omega⟩) hS (fun q _ h => hFc q h) hFc (fun r_501 u t H1 locs ht hvm hw hB hz1 hk1 hS => ?_)
                              obtain ⟨F_502, hB1⟩ := hB
                              obtain rfl : F_475 = F_502 := (funext (fun a => hB1.2.2.2 a List.not_mem_nil)).symm
                              obtain ⟨hP, hD, hO, hR⟩ := QTm.back hB1 ht hFc hR (fun q h => absurd h List.not_mem_nil)
                              generalize H1 = H at hP hS ⊢
                              have hw : (r_501 = 0 ∨ r_501 = 1) := hw
                              have hw_503 := hw
                              have hFc := pg_free hD hS hA
                              refine va_calli (va_runV (As := [.ref sd, .ref ak, .int r_501]) (rest := []) ⟨hx, hb, hml, hown, hts⟩ (s_X15_isAligned l dC dI cs ty gm L H.size F_475 h0 ρ ta ou so ad na va lc dm tg pe ml bg co sp nb0 nb1 nb2 pl se ke wi hs mo po nu pr sq xa sa n64 m64 ex wh sd tk hd ak ho ot sx s0 s1 s2 nf bd mm zo fm sn (hgr gp_240 hg) (gcr gp_240 gc) (gvr gp_240 gv) ze zt sd (ρ + 25) r_262 3000 ak (ρ + 28) r_263 6000 r_501 hW hL_h0 hT_h0 hi_326 ht_327 hi_298 ht_299 (by first | omega | assumption | exact Or.inl rfl) (by first | omega | assumption | exact Or.inl rfl)) ⟨callB_of 3 hts (gi kt_1203) rfl rfl rfl (hts _ kt_669) (hts _ kt_1204) (by decide +kernel) ⟨Nat.le_of_ble_eq_true rfl, Nat.le_of_ble_eq_true rfl⟩, (hts _ kt_1205), (hts _ kt_1206)⟩ ⟨fun a U g mk q => ⟨q.1, PTm.calling q.2⟩, pg_recv hK hP hL_h0 hF_490 (q := (RX15, TX15, 59)) rfl, fun U hU hWm => ⟨rfl, PTm.mk hU hWm hP hK hD hE hO⟩⟩ rfl rfl hl.1 rfl (lv_room (Nat.le_of_ble_eq_true rfl)) dX15_wish_290 ⟨by show _ + 0 ≤ 0; omega, by show _ + 0 ≤ 0; omega⟩) hS (fun q _ h => hFc q h) hFc (fun r_504 u t H1 locs ht hvm hw hB hz1 hk1 hS => ?_)
                              obtain ⟨F_505, hB1⟩ := hB
                              obtain ⟨hP, hD, hO, hR⟩ := QTm.back hB1 ht hFc hR (fun q h => by simp only [mem_tgS, List.mem_append, List.mem_cons, List.not_mem_nil, or_false] at h ⊢; omega)
                              have hF_506 : F_505 h0 = .inr (15, (.ref ta) :: (.int (nI zt)) :: (.int (nI zo)) :: (.int (nI ze)) :: (.ref ou) :: (.ref so) :: (.ref ad) :: (.ref na) :: (.ref va) :: (.ref lc) :: (.ref dm) :: (.int (nI fm)) :: (.int (nI sn)) :: (.ref tg) :: (.int v14_478) :: (.int v15_479) :: (.ref pe) :: (.int v17_480) :: (.int v18_481) :: (.int v19_482) :: (.int v20_483) :: (.int v21_484) :: (.int v22_485) :: (.ref ml) :: (.ref bg) :: (.ref co) :: (.ref sp) :: (.ref nb0) :: (.ref nb1) :: (.ref nb2) :: (.int (nI nf)) :: (.int (nI bd)) :: (.int (nI mm)) :: (.int v33_486) :: (.ref pl) :: (.ref se) :: (.ref ke) :: (.ref wi) :: (.ref hs) :: (.ref mo) :: (.ref po) :: (.ref nu) :: (.ref pr) :: (.ref sq) :: (.ref xa) :: (.ref sa) :: (.ref n64) :: (.ref m64) :: (.ref ex) :: (.ref wh) :: (.ref sd) :: (.ref tk) :: (.int v52_487) :: (.int v53_488) :: (.int v54_489) :: (.ref hd) :: (.ref ak) :: (.ref ho) :: (.ref ot) :: []) := (hB1.2.2.2 h0 (by rw [hT_h0]; simp)).trans hF_490
                              have hF_507 : F_505 wi = .inr (13, [.ref x_252, .ref y0_253, .ref y1_254, .ref y2_255, .int (nI z_498)]) := (hB1.2.2.2 wi (by rw [ht_309]; simp)).trans hF_499
                              generalize H1 = H at hP hS ⊢
                              have hw : (r_504 = 0 ∨ r_504 = 1) := hw
                              have hw_508 := hw
                              refine lv_if_eq (tgt := 298) hx hb dX15_wish_293 (by decide) (fun c_509 => ?_) (fun c_509 => ?_)
                              ·
                                refine lv_iinc (v := (nI (j + 1))) (lv' := [(5, .int (nI (j + 1))), (4, .int s4), (0, .ref h0), (1, .int x1)]) hx hb dX15_wish_298 hl (k := 0) rfl (nI_1 _) (by decide) rfl (fun ls hl => ?_)
                                refine lv_goto (tgt := 233) hx hb dX15_wish_301 (by decide) ?_
                                refine W.widen (k := 0) (n := 0) (by omega) (by omega) ?_
                                exact ih_446 (j + 1) F_505 (by first | omega | exact ⟨by omega, by omega⟩ | trivial) (by show nf - (j + 1) < nf - j; omega) hO hR _ _ hP hD hS ls (lv_sub hl [0, 1, 2, 3] rfl)
                              ·
                                refine lv_iconst (v := 2) hx hb dX15_wish_296 (by decide) ?_
                                refine W.widen (k := 0) (n := 0) (by omega) (by omega) ?_
                                exact W.iret (v := 2) hx hb hr (fun t ht hWm => ⟨⟨2, gp_240, rfl, trivial, ⟨F_505, ty, htyP, QTm.mk ht hP hD hO hR, hW, (Or.inr ⟨hs0, Int32.not_lt.mpr c_101, hn0, _, snr_plr D ze hw_109, Or.inl ⟨by rw [hVe]; exact hop, hpm⟩⟩)⟩⟩, hS.F ht⟩) hS.2.2 dX15_wish_297
                            ·
                              refine lv_goto (tgt := 298) hx hb dX15_wish_265 (by decide) ?_
                              refine lv_iinc (v := (nI (j + 1))) (lv' := [(5, .int (nI (j + 1))), (4, .int s4), (0, .ref h0), (1, .int x1)]) hx hb dX15_wish_298 hl (k := 0) rfl (nI_1 _) (by decide) rfl (fun ls hl => ?_)
                              refine lv_goto (tgt := 233) hx hb dX15_wish_301 (by decide) ?_
                              refine W.widen (k := 0) (n := 0) (by omega) (by omega) ?_
                              exact ih_446 (j + 1) F_475 (by first | omega | exact ⟨by omega, by omega⟩ | trivial) (by show nf - (j + 1) < nf - j; omega) hO hR _ _ hP hD hS ls (lv_sub hl [0, 1, 2, 3] rfl)
                      ·
                        refine lv_iconst (v := 2) hx hb dX15_wish_228 (by decide) ?_
                        refine W.widen (k := 0) (n := 0) (by omega) (by omega) ?_
                        exact W.iret (v := 2) hx hb hr (fun t ht hWm => ⟨⟨2, gp_240, rfl, trivial, ⟨F_439, ty, htyP, QTm.mk ht hP hD hO hR, hW, (Or.inr ⟨hs0, Int32.not_lt.mpr c_101, hn0, _, snr_plr D ze hw_109, Or.inl ⟨by rw [hVe]; exact hop, hpm⟩⟩)⟩⟩, hS.F ht⟩) hS.2.2 dX15_wish_229
                  ·
                    refine lv_iload_n hx hb dX15_wish_153 rfl (lv_at hl 2 rfl) ?_
                    refine lv_if_ne (tgt := 192) hx hb dX15_wish_154 (by decide) (fun c_510 => ?_) (fun c_510 => ?_)
                    ·
                      refine W.widen (k := 0) (n := 0) (by omega) (by omega) ?_
                      exact jn_209 (nI (wnW (flT (TC (D kv).2.2.2.2.2 (D kv).2.2.2.2.1) 0 ((D kv).2.2.2.2.1 - 0)) gg_180.2 gg_180.1 [112])) F_182 ((by rw [hmv]; unfold rrW; rw [show tgT (flT (TC (D kv).2.2.2.2.2 (D kv).2.2.2.2.1) 0 ((D kv).2.2.2.2.1 - 0)) (flI (TC (D kv).2.2.2.2.2 (D kv).2.2.2.2.1) 0 ((D kv).2.2.2.2.1 - 0)).length = some gg_180 from by rcases hw_201 with h9 | h9; have h8 := h9.2; rw [hwT] at h8; exact h8; exact absurd h9.1 c_202]; show (if (wnW (flT (TC (D kv).2.2.2.2.2 (D kv).2.2.2.2.1) 0 ((D kv).2.2.2.2.1 - 0)) gg_180.2 gg_180.1 [112]) = 6 then 6 else _) = (-1 : Int32); rw [if_neg hw147, if_neg (show ¬ (sw2 = 0 ∧ (TGE (flT (TC (D kv).2.2.2.2.2 (D kv).2.2.2.2.1) 0 ((D kv).2.2.2.2.1 - 0)) gg_180.2 gg_180.1 [115, 112])) from fun q => c_510 q.1)])) hO hR _ _ hP hD hS ls (lv_sub hl [0, 3, 4] rfl)
                    ·
                      refine lv_aload_n hx hb dX15_wish_157 rfl (lv_at hl 3 rfl) ?_
                      refine pg_get (ci := 15) (v := .ref wi) (C := RX15) (T := TX15) (N := 59) hx hb hts it_15 hown hK hP hL_h0 hF_196 rfl 37 (by decide) (hts _ kt_1132) (fun _ h9 => h9) rfl dX15_wish_158 ?_
                      obtain ⟨q_511, v_512, hr_q_511, hX_q_511⟩ := hG.2.2 ("PostGateModel", 590, "sp", [115, 112]) (by decide +kernel)
                      have hX_q_511 : SXc q_511 v_512 2 (cct [115, 112]) A s s.heap := hX_q_511
                      obtain ⟨xo_q_511, xc_q_511, xv_q_511, xt_q_511, xn_q_511⟩ := id hX_q_511
                      have hr_q_511 : vk_R "PostGateModel" 590 "sp" q_511 s := hr_q_511
                      refine va_ldcwS hx hb hown hr_q_511 dX15_wish_161 ?_
                      have hFc := pg_free hD hS hA
                      refine va_calli (va_runV (As := [.ref q_511]) (rest := []) ⟨hx, hb, hml, hown, hts⟩ (s_X13_find_x l dC dI cs ty gm L H.size F_182 wi (ρ + 15) x_7 700 700 y0_8 y1_9 y2_10 r_59 ((flI (TC (D kv).2.2.2.2.2 (D kv).2.2.2.2.1) 0 ((D kv).2.2.2.2.1 - 0)).length) gg_180.1 fc_166 p0_183 p1_184 p2_185 gg_180.2 q_511 v_512 2 (cct [115, 112]) ([115, 112]) hW hi_53 ht_54 hi_55 ht_60 hF_199 hF_200 (by omega) hq_186 hq_187 hq_188 hq_189 (hti2) (hq_190) (hti1) (by omega) (⟨rfl, by decide +kernel⟩)) ⟨callB_of 1 hts (gi kt_828) rfl rfl rfl (hts _ kt_829) (hts _ kt_839) (by decide +kernel) ⟨Nat.le_of_ble_eq_true rfl, Nat.le_of_ble_eq_true rfl⟩, (hts _ kt_831), (hts _ kt_832)⟩ ⟨fun a U g mk q => ⟨q.1, PTEm.calling q.2⟩, pg_recv hK hP hi_53 hq_186 (q := (RX13, TX13, 5)) rfl, fun U hU hWm => ⟨rfl, PTEm.mk hU hWm hP hK hD hE hO hG (fun x hx => by rw [List.mem_singleton] at hx; subst hx; exact hX_q_511) hS hFc⟩⟩ rfl rfl hl.1 rfl (lv_room (Nat.le_of_ble_eq_true rfl)) dX15_wish_164 ⟨by show _ + 0 ≤ 0; omega, by show _ + 0 ≤ 0; omega⟩) hS (fun q _ h => hFc q h) hFc (fun r_513 u t H1 locs ht hvm hw hB hz1 hk1 hS => ?_)
                      obtain ⟨F_514, hB1⟩ := hB
                      obtain rfl : F_182 = F_514 := (funext (fun a => hB1.2.2.2 a List.not_mem_nil)).symm
                      obtain ⟨hP, hD, hO, hR⟩ := QTm.back hB1 ht hFc hR (fun q h => absurd h List.not_mem_nil)
                      generalize H1 = H at hP hS ⊢
                      have hw : RWX (TC fc_166 (flI (TC (D kv).2.2.2.2.2 (D kv).2.2.2.2.1) 0 ((D kv).2.2.2.2.1 - 0)).length) gg_180.2 gg_180.1 [115, 112] r_513 := hw
                      have hw_515 := hw
                      refine lv_if_lt (tgt := 192) hx hb dX15_wish_167 (by decide) (fun c_516 => ?_) (fun c_516 => ?_)
                      ·
                        have hsp : ¬ (TGE (flT (TC (D kv).2.2.2.2.2 (D kv).2.2.2.2.1) 0 ((D kv).2.2.2.2.1 - 0)) gg_180.2 gg_180.1 [115, 112]) := tge_n (rwx_n (by have h9 := hw_515; rw [hwT] at h9; exact h9) hti2 c_516)
                        refine W.widen (k := 0) (n := 0) (by omega) (by omega) ?_
                        exact jn_209 (nI (wnW (flT (TC (D kv).2.2.2.2.2 (D kv).2.2.2.2.1) 0 ((D kv).2.2.2.2.1 - 0)) gg_180.2 gg_180.1 [112])) F_182 ((by rw [hmv]; unfold rrW; rw [show tgT (flT (TC (D kv).2.2.2.2.2 (D kv).2.2.2.2.1) 0 ((D kv).2.2.2.2.1 - 0)) (flI (TC (D kv).2.2.2.2.2 (D kv).2.2.2.2.1) 0 ((D kv).2.2.2.2.1 - 0)).length = some gg_180 from by rcases hw_201 with h9 | h9; have h8 := h9.2; rw [hwT] at h8; exact h8; exact absurd h9.1 c_202]; show (if (wnW (flT (TC (D kv).2.2.2.2.2 (D kv).2.2.2.2.1) 0 ((D kv).2.2.2.2.1 - 0)) gg_180.2 gg_180.1 [112]) = 6 then 6 else _) = (-1 : Int32); rw [if_neg hw147, if_neg (show ¬ (sw2 = 0 ∧ (TGE (flT (TC (D kv).2.2.2.2.2 (D kv).2.2.2.2.1) 0 ((D kv).2.2.2.2.1 - 0)) gg_180.2 gg_180.1 [115, 112])) from fun q => hsp q.2)])) hO hR _ _ hP hD hS ls (lv_sub hl [0, 3, 4] rfl)
                      ·
                        have hsp : (TGE (flT (TC (D kv).2.2.2.2.2 (D kv).2.2.2.2.1) 0 ((D kv).2.2.2.2.1 - 0)) gg_180.2 gg_180.1 [115, 112]) := by obtain ⟨k9, h1, -, h3, -⟩ := rwx_y (by have h9 := hw_515; rw [hwT] at h9; exact h9) c_516; exact ⟨k9, h1, h3⟩
                        refine lv_aload_n hx hb dX15_wish_170 rfl (lv_at hl 3 rfl) ?_
                        refine pg_get (ci := 15) (v := .ref wi) (C := RX15) (T := TX15) (N := 59) hx hb hts it_15 hown hK hP hL_h0 hF_196 rfl 37 (by decide) (hts _ kt_1132) (fun _ h9 => h9) rfl dX15_wish_171 ?_
                        refine va_ldcwS hx hb hown hr_q_511 dX15_wish_174 ?_
                        have hFc := pg_free hD hS hA
                        refine va_calli (va_runS (As := [.ref wi, .ref q_511]) (rest := []) ⟨hx, hb, hml, hown, hts⟩ (s_X15_wanted_x l dC dI cs ty gm L H.size F_182 wi (ρ + 15) x_7 700 700 y0_8 y1_9 y2_10 r_59 ((flI (TC (D kv).2.2.2.2.2 (D kv).2.2.2.2.1) 0 ((D kv).2.2.2.2.1 - 0)).length) gg_180.1 fc_166 p0_183 p1_184 p2_185 gg_180.2 q_511 v_512 2 (cct [115, 112]) ([115, 112]) hW hi_53 ht_54 hi_55 ht_60 hF_199 hF_200 (by omega) hq_186 hq_187 hq_188 hq_189 (hti2) (hq_190) (hti1) (by omega) (⟨rfl, by decide +kernel⟩)) ⟨callB_of 2 hts (gi kt_1196) rfl rfl rfl (hts _ kt_669) (hts _ kt_1197) (by decide +kernel) ⟨Nat.le_of_ble_eq_true rfl, Nat.le_of_ble_eq_true rfl⟩, (hts _ kt_1198)⟩ ⟨fun a U g mk q => ⟨q.1, PTEm.calling q.2⟩, fun U hU hWm => ⟨rfl, PTEm.mk hU hWm hP hK hD hE hO hG (fun x hx => by rw [List.mem_singleton] at hx; subst hx; exact hX_q_511) hS hFc⟩⟩ rfl rfl hl.1 rfl (lv_room (Nat.le_of_ble_eq_true rfl)) dX15_wish_177 ⟨by show _ + 0 ≤ 0; omega, by show _ + 0 ≤ 0; omega⟩) hS (fun q _ h => hFc q h) hFc (fun r_517 u t H1 locs ht hvm hw hB hz1 hk1 hS => ?_)
                        obtain ⟨F_518, hB1⟩ := hB
                        obtain rfl : F_182 = F_518 := (funext (fun a => hB1.2.2.2 a List.not_mem_nil)).symm
                        obtain ⟨hP, hD, hO, hR⟩ := QTm.back hB1 ht hFc hR (fun q h => absurd h List.not_mem_nil)
                        generalize H1 = H at hP hS ⊢
                        have hw : r_517 = nI (wnW (TC fc_166 (flI (TC (D kv).2.2.2.2.2 (D kv).2.2.2.2.1) 0 ((D kv).2.2.2.2.1 - 0)).length) gg_180.2 gg_180.1 [115, 112]) := hw
                        subst hw
                        refine lv_topi (fun x9 ex9 => ?_)
                        obtain rfl : x9 = nI (wnW (flT (TC (D kv).2.2.2.2.2 (D kv).2.2.2.2.1) 0 ((D kv).2.2.2.2.1 - 0)) gg_180.2 gg_180.1 [115, 112]) := ex9.trans (by rw [hwT])
                        have hwb10 := wnW_le (T := (flT (TC (D kv).2.2.2.2.2 (D kv).2.2.2.2.1) 0 ((D kv).2.2.2.2.1 - 0))) (g := gg_180.2) (n := gg_180.1) (l := [115, 112])
                        refine lv_istore (lv' := [(4, .int (nI (wnW (flT (TC (D kv).2.2.2.2.2 (D kv).2.2.2.2.1) 0 ((D kv).2.2.2.2.1 - 0)) gg_180.2 gg_180.1 [115, 112]))), (3, .int (nI kv)), (2, .int sw2), (0, .ref h0), (1, .int x1)]) hx hb dX15_wish_180 hl (by decide) rfl (fun ls hl => ?_)
                        refine lv_iload hx hb dX15_wish_182 (lv_at hl 0 rfl) ?_
                        refine lv_bipush (v := 6) hx hb dX15_wish_184 (by decide) ?_
                        refine lv_icmp_ne (tgt := 192) hx hb dX15_wish_186 (by decide) (fun c_519 => ?_) (fun c_519 => ?_)
                        ·
                          have hi_520 : (wnW (flT (TC (D kv).2.2.2.2.2 (D kv).2.2.2.2.1) 0 ((D kv).2.2.2.2.1 - 0)) gg_180.2 gg_180.1 [115, 112]) ≠ 6 := fun q => c_519 (by rw [q]; rfl)
                          have hw186 : ¬ (wnW (flT (TC (D kv).2.2.2.2.2 (D kv).2.2.2.2.1) 0 ((D kv).2.2.2.2.1 - 0)) gg_180.2 gg_180.1 [115, 112]) = 6 := fun q => c_519 (by rw [q]; rfl)
                          refine W.widen (k := 0) (n := 0) (by omega) (by omega) ?_
                          exact jn_209 (nI (wnW (flT (TC (D kv).2.2.2.2.2 (D kv).2.2.2.2.1) 0 ((D kv).2.2.2.2.1 - 0)) gg_180.2 gg_180.1 [115, 112])) F_182 ((by rw [hmv]; unfold rrW; rw [show tgT (flT (TC (D kv).2.2.2.2.2 (D kv).2.2.2.2.1) 0 ((D kv).2.2.2.2.1 - 0)) (flI (TC (D kv).2.2.2.2.2 (D kv).2.2.2.2.1) 0 ((D kv).2.2.2.2.1 - 0)).length = some gg_180 from by rcases hw_201 with h9 | h9; have h8 := h9.2; rw [hwT] at h8; exact h8; exact absurd h9.1 c_202]; show (if (wnW (flT (TC (D kv).2.2.2.2.2 (D kv).2.2.2.2.1) 0 ((D kv).2.2.2.2.1 - 0)) gg_180.2 gg_180.1 [112]) = 6 then 6 else _) = (-1 : Int32); rw [if_neg hw147, if_pos (show sw2 = 0 ∧ (TGE (flT (TC (D kv).2.2.2.2.2 (D kv).2.2.2.2.1) 0 ((D kv).2.2.2.2.1 - 0)) gg_180.2 gg_180.1 [115, 112]) from ⟨c_510, hsp⟩), if_neg hw186])) hO hR _ _ hP hD hS ls (lv_sub hl [0, 3, 4] rfl)
                        ·
                          have hi_521 : (wnW (flT (TC (D kv).2.2.2.2.2 (D kv).2.2.2.2.1) 0 ((D kv).2.2.2.2.1 - 0)) gg_180.2 gg_180.1 [115, 112]) = 6 := (nI_eq (a := (wnW (flT (TC (D kv).2.2.2.2.2 (D kv).2.2.2.2.1) 0 ((D kv).2.2.2.2.1 - 0)) gg_180.2 gg_180.1 [115, 112])) (b := 6) (by omega) (by omega)).mp c_519
                          have hw186 : (wnW (flT (TC (D kv).2.2.2.2.2 (D kv).2.2.2.2.1) 0 ((D kv).2.2.2.2.1 - 0)) gg_180.2 gg_180.1 [115, 112]) = 6 := (nI_eq (b := 6) (by have h8 := wnW_le (T := (flT (TC (D kv).2.2.2.2.2 (D kv).2.2.2.2.1) 0 ((D kv).2.2.2.2.1 - 0))) (g := gg_180.2) (n := gg_180.1) (l := [115, 112]); omega) (by omega)).mp c_519
                          refine lv_bipush (v := 6) hx hb dX15_wish_189 (by decide) ?_
                          refine W.widen (k := 0) (n := 0) (by omega) (by omega) ?_
                          exact W.iret (v := 6) hx hb hr (fun t ht hWm => ⟨⟨6, none, rfl, trivial, ⟨F_182, ty, (rtf_idw hT_h0), QTm.mk ht hP hD hO hR, hW, (Or.inr ⟨hs0, Int32.not_lt.mpr c_101, hn0, _, snr_plr D ze hw_109, Or.inr ⟨by rw [hVe]; exact (by show ¬ mvW D ze V = (-1); rw [hmv]; unfold rrW; rw [show tgT (flT (TC (D kv).2.2.2.2.2 (D kv).2.2.2.2.1) 0 ((D kv).2.2.2.2.1 - 0)) (flI (TC (D kv).2.2.2.2.2 (D kv).2.2.2.2.1) 0 ((D kv).2.2.2.2.1 - 0)).length = some gg_180 from by rcases hw_201 with h9 | h9; have h8 := h9.2; rw [hwT] at h8; exact h8; exact absurd h9.1 c_202]; show ¬ (if (wnW (flT (TC (D kv).2.2.2.2.2 (D kv).2.2.2.2.1) 0 ((D kv).2.2.2.2.1 - 0)) gg_180.2 gg_180.1 [112]) = 6 then 6 else _) = (-1 : Int32); rw [if_neg hw147, if_pos (show sw2 = 0 ∧ (TGE (flT (TC (D kv).2.2.2.2.2 (D kv).2.2.2.2.1) 0 ((D kv).2.2.2.2.1 - 0)) gg_180.2 gg_180.1 [115, 112]) from ⟨c_510, hsp⟩), if_pos hw186]; decide), rfl⟩⟩)⟩⟩, hS.F ht⟩) hS.2.2 dX15_wish_191
                ·
                  have hi_522 : (wnW (flT (TC (D kv).2.2.2.2.2 (D kv).2.2.2.2.1) 0 ((D kv).2.2.2.2.1 - 0)) gg_180.2 gg_180.1 [112]) = 6 := (nI_eq (a := (wnW (flT (TC (D kv).2.2.2.2.2 (D kv).2.2.2.2.1) 0 ((D kv).2.2.2.2.1 - 0)) gg_180.2 gg_180.1 [112])) (b := 6) (by omega) (by omega)).mp c_207
                  have hw147 : (wnW (flT (TC (D kv).2.2.2.2.2 (D kv).2.2.2.2.1) 0 ((D kv).2.2.2.2.1 - 0)) gg_180.2 gg_180.1 [112]) = 6 := (nI_eq (b := 6) (by have h8 := wnW_le (T := (flT (TC (D kv).2.2.2.2.2 (D kv).2.2.2.2.1) 0 ((D kv).2.2.2.2.1 - 0))) (g := gg_180.2) (n := gg_180.1) (l := [112]); omega) (by omega)).mp c_207
                  refine lv_bipush (v := 6) hx hb dX15_wish_150 (by decide) ?_
                  refine W.widen (k := 0) (n := 0) (by omega) (by omega) ?_
                  exact W.iret (v := 6) hx hb hr (fun t ht hWm => ⟨⟨6, none, rfl, trivial, ⟨F_182, ty, (rtf_idw hT_h0), QTm.mk ht hP hD hO hR, hW, (Or.inr ⟨hs0, Int32.not_lt.mpr c_101, hn0, _, snr_plr D ze hw_109, Or.inr ⟨by rw [hVe]; exact (by show ¬ mvW D ze V = (-1); rw [hmv]; unfold rrW; rw [show tgT (flT (TC (D kv).2.2.2.2.2 (D kv).2.2.2.2.1) 0 ((D kv).2.2.2.2.1 - 0)) (flI (TC (D kv).2.2.2.2.2 (D kv).2.2.2.2.1) 0 ((D kv).2.2.2.2.1 - 0)).length = some gg_180 from by rcases hw_201 with h9 | h9; have h8 := h9.2; rw [hwT] at h8; exact h8; exact absurd h9.1 c_202]; show ¬ (if (wnW (flT (TC (D kv).2.2.2.2.2 (D kv).2.2.2.2.1) 0 ((D kv).2.2.2.2.1 - 0)) gg_180.2 gg_180.1 [112]) = 6 then 6 else _) = (-1 : Int32); rw [if_pos hw147]; decide), rfl⟩⟩)⟩⟩, hS.F ht⟩) hS.2.2 dX15_wish_152
              ·
                refine lv_bipush (v := 6) hx hb dX15_wish_128 (by decide) ?_
                refine W.widen (k := 0) (n := 0) (by omega) (by omega) ?_
                exact W.iret (v := 6) hx hb hr (fun t ht hWm => ⟨⟨6, none, rfl, trivial, ⟨F_182, ty, (rtf_idw hT_h0), QTm.mk ht hP hD hO hR, hW, (Or.inr ⟨hs0, Int32.not_lt.mpr c_101, hn0, _, snr_plr D ze hw_109, Or.inr ⟨by rw [hVe]; exact (by show ¬ mvW D ze V = (-1); rw [hmv]; unfold rrW; rw [show tgT (flT (TC (D kv).2.2.2.2.2 (D kv).2.2.2.2.1) 0 ((D kv).2.2.2.2.1 - 0)) (flI (TC (D kv).2.2.2.2.2 (D kv).2.2.2.2.1) 0 ((D kv).2.2.2.2.1 - 0)).length = none from by rcases hw_201 with h9 | h9; exact absurd (h9.1.symm.trans c_202) (by decide); have h8 := h9.2; rw [hwT] at h8; exact h8]; show ¬ (6 : Int32) = (-1); decide), rfl⟩⟩)⟩⟩, hS.F ht⟩) hS.2.2 dX15_wish_130
            ·
              have hmn := w71_n h71 (by omega) (Int32.not_le.mp c_124)
              refine lv_iload_n hx hb dX15_wish_75 rfl (lv_at hl 0 rfl) ?_
              refine lv_bipush (v := (-2)) hx hb dX15_wish_76 (by decide) ?_
              refine lv_icmp_ne (tgt := 85) hx hb dX15_wish_78 (by decide) (fun c_523 => ?_) (fun c_523 => ?_)
              ·
                refine lv_iconst (v := 0) hx hb dX15_wish_85 (by decide) ?_
                refine W.widen (k := 0) (n := 0) (by omega) (by omega) ?_
                exact W.iret (v := 0) hx hb hr (fun t ht hWm => ⟨⟨0, none, rfl, trivial, ⟨F_120, ty, (rtf_idw hT_h0), QTm.mk ht hP hD hO hR, hW, (Or.inr ⟨hs0, Int32.not_lt.mpr c_101, hn0, _, snr_plr D ze hw_109, Or.inr ⟨by rw [hVe]; exact hmn, rfl⟩⟩)⟩⟩, hS.F ht⟩) hS.2.2 dX15_wish_86
              ·
                refine lv_iconst (v := 5) hx hb dX15_wish_81 (by decide) ?_
                refine lv_goto (tgt := 86) hx hb dX15_wish_82 (by decide) ?_
                refine W.widen (k := 0) (n := 0) (by omega) (by omega) ?_
                exact W.iret (v := 5) hx hb hr (fun t ht hWm => ⟨⟨5, none, rfl, trivial, ⟨F_120, ty, (rtf_idw hT_h0), QTm.mk ht hP hD hO hR, hW, (Or.inr ⟨hs0, Int32.not_lt.mpr c_101, hn0, _, snr_plr D ze hw_109, Or.inr ⟨by rw [hVe]; exact hmn, rfl⟩⟩)⟩⟩, hS.F ht⟩) hS.2.2 dX15_wish_86
          ·
            refine lv_iload_n hx hb dX15_wish_43 rfl (lv_at hl 0 rfl) ?_
            refine lv_iconst (v := (-1)) hx hb dX15_wish_44 (by decide) ?_
            refine lv_icmp_ne (tgt := 71) hx hb dX15_wish_45 (by decide) (fun c_524 => ?_) (fun c_524 => ?_)
            ·
              have hw45 := c_524
              refine W.widen (k := 0) (n := 0) (by omega) (by omega) ?_
              exact jn_119 ((woW D ze (DMU V 0)), 1) F_114 (⟨Or.inl ⟨rfl, rfl, hw45⟩, hF_117, hF_118⟩) hO hR _ _ hP hD hS ls (lv_sub hl [0, 1, 2, 3] rfl)
            ·
              have hw45 := c_524
              refine lv_iconst (v := 0) hx hb dX15_wish_48 (by decide) ?_
              refine lv_istore_n (lv' := [(2, .int 0), (3, .int (woW D ze (DMU V 0))), (0, .ref h0), (1, .int x1)]) hx hb dX15_wish_49 rfl hl (by decide) rfl (fun ls hl => ?_)
              refine lv_aload_n hx hb dX15_wish_50 rfl (lv_at hl 2 rfl) ?_
              refine lv_aload_n hx hb dX15_wish_51 rfl (lv_at hl 2 rfl) ?_
              refine pg_get (ci := 15) (v := .ref ak) (C := RX15) (T := TX15) (N := 59) hx hb hts it_15 hown hK hP hL_h0 hF_116 rfl 56 (by decide) (hts _ kt_993) (fun _ h9 => h9) rfl dX15_wish_52 ?_
              refine lv_aload_n hx hb dX15_wish_55 rfl (lv_at hl 2 rfl) ?_
              refine pg_get (ci := 15) (v := .ref ho) (C := RX15) (T := TX15) (N := 59) hx hb hts it_15 hown hK hP hL_h0 hF_116 rfl 57 (by decide) (hts _ kt_950) (fun _ h9 => h9) rfl dX15_wish_56 ?_
              have hQso := hR so (by rw [hTs0]; simp only [mem_tgS, List.mem_append, List.mem_cons, List.not_mem_nil, or_false]; omega)
              have hQad := hR ad (by rw [hTd0]; simp only [mem_tgS, List.mem_append, List.mem_cons, List.not_mem_nil, or_false]; omega)
              have hQna := hR na (by rw [hTn0]; simp only [mem_tgS, List.mem_append, List.mem_cons, List.not_mem_nil, or_false]; omega)
              have hQva := hR va (by rw [hTv0]; simp only [mem_tgS, List.mem_append, List.mem_cons, List.not_mem_nil, or_false]; omega)
              have hDM7 := DIRM.fr hDM hO0 hW0 hLn0 hTn0 hLv0 hTv0 (by omega) hR hQso hQad hQna hQva (fun k hk => ⟨by simp only [mem_tgS, List.mem_append, List.mem_cons, List.not_mem_nil, or_false]; omega, by simp only [mem_tgS, List.mem_append, List.mem_cons, List.not_mem_nil, or_false]; omega⟩)
              have hFc := pg_free hD hS hA
              refine va_callv (va_runV (As := [.ref ak, .ref ho]) (rest := []) ⟨hx, hb, hml, hown, hts⟩ (s_X15_houseOf_e l dC dI cs ty gm L H.size F_114 h0 ρ ta ou so ad na va lc dm tg pe ml bg co sp nb0 nb1 nb2 pl se ke wi hs mo po nu pr sq xa sa n64 m64 ex wh sd tk hd ak ho ot sx s0 s1 s2 nf bd mm zo fm sn hg gc gv ze zt ak (ρ + 28) rak 6000 ho (ρ + 29) r_18 6000 V.length gv9 D hW hL_h0 hT_h0 hL_ak hT_ak hi_48 ht_49 hF_117 hF_118 (by omega) (by omega) (hDM7)) ⟨callB_of 2 hts (gi kt_951) rfl rfl rfl (hts _ kt_669) (hts _ kt_952) (by decide +kernel) ⟨Nat.le_of_ble_eq_true rfl, Nat.le_of_ble_eq_true rfl⟩, (hts _ kt_953), (hts _ kt_954)⟩ ⟨fun a U g mk q => ⟨q.1, PTm.calling q.2⟩, pg_recv hK hP hL_h0 hF_116 (q := (RX15, TX15, 59)) rfl, fun U hU hWm => ⟨rfl, PTm.mk hU hWm hP hK hD hE hO⟩⟩ rfl rfl hl.1 rfl (lv_room (Nat.le_of_ble_eq_true rfl)) dX15_wish_59 ⟨by show _ + 0 ≤ 0; omega, by show _ + 0 ≤ 0; omega⟩) hS (fun q _ h => hFc q h) hFc (fun u t H1 locs ht hvm hw hB hz1 hk1 hS => ?_)
              obtain ⟨F_526, y2_527, fc_528, hB1, hq_529, hq_530, hq_531, hq_532⟩ := hB
              obtain ⟨hP, hD, hO, hR⟩ := QTm.back hB1 ht hFc hR (fun q h => by simp only [mem_tgS, List.mem_append, List.mem_cons, List.not_mem_nil, or_false] at h ⊢; omega)
              have hF_533 : F_526 ml = .inl (cs 17, 3000, .inl gl) := (hB1.2.2.2 ml (by rw [ht_77]; simp)).trans hF_115
              have hF_534 : F_526 h0 = .inr (15, (.ref ta) :: (.int (nI zt)) :: (.int (nI zo)) :: (.int (nI ze)) :: (.ref ou) :: (.ref so) :: (.ref ad) :: (.ref na) :: (.ref va) :: (.ref lc) :: (.ref dm) :: (.int (nI fm)) :: (.int (nI sn)) :: (.ref tg) :: (.int v14_80) :: (.int v15_81) :: (.ref pe) :: (.int v17_82) :: (.int v18_83) :: (.int v19_84) :: (.int v20_85) :: (.int v21_86) :: (.int v22_87) :: (.ref ml) :: (.ref bg) :: (.ref co) :: (.ref sp) :: (.ref nb0) :: (.ref nb1) :: (.ref nb2) :: (.int (nI nf)) :: (.int (nI bd)) :: (.int (nI mm)) :: (.int v33_88) :: (.ref pl) :: (.ref se) :: (.ref ke) :: (.ref wi) :: (.ref hs) :: (.ref mo) :: (.ref po) :: (.ref nu) :: (.ref pr) :: (.ref sq) :: (.ref xa) :: (.ref sa) :: (.ref n64) :: (.ref m64) :: (.ref ex) :: (.ref wh) :: (.ref sd) :: (.ref tk) :: (.int v52_89) :: (.int v53_90) :: (.int v54_91) :: (.ref hd) :: (.ref ak) :: (.ref ho) :: (.ref ot) :: []) := (hB1.2.2.2 h0 (by rw [hT_h0]; simp)).trans hF_116
              have hF_535 : F_526 ak = .inr (14, [.ref rak, .int (nI V.length)]) := (hB1.2.2.2 ak (by rw [hT_ak]; simp)).trans hF_117
              have hF_536 : F_526 rak = .inl (cs 17, 6000, .inl gv9) := (hB1.2.2.2 rak (by rw [ht_46]; simp)).trans hF_118
              generalize H1 = H at hP hS ⊢
              have hHO : SRC (rgL V (hsM D ze V) (V.length - hsM D ze V)) y2_527 fc_528 := src_hs hz3v (hq_531) (hq_532)
              refine lv_aload_n hx hb dX15_wish_62 rfl (lv_at hl 2 rfl) ?_
              refine lv_aload_n hx hb dX15_wish_63 rfl (lv_at hl 2 rfl) ?_
              refine pg_get (ci := 15) (v := .ref ho) (C := RX15) (T := TX15) (N := 59) hx hb hts it_15 hown hK hP hL_h0 hF_534 rfl 57 (by decide) (hts _ kt_950) (fun _ h9 => h9) rfl dX15_wish_64 ?_
              have hQso := hR so (by rw [hTs0]; simp only [mem_tgS, List.mem_append, List.mem_cons, List.not_mem_nil, or_false]; omega)
              have hQad := hR ad (by rw [hTd0]; simp only [mem_tgS, List.mem_append, List.mem_cons, List.not_mem_nil, or_false]; omega)
              have hQna := hR na (by rw [hTn0]; simp only [mem_tgS, List.mem_append, List.mem_cons, List.not_mem_nil, or_false]; omega)
              have hQva := hR va (by rw [hTv0]; simp only [mem_tgS, List.mem_append, List.mem_cons, List.not_mem_nil, or_false]; omega)
              have hDM8 := DIRM.fr hDM hO0 hW0 hLn0 hTn0 hLv0 hTv0 (by omega) hR hQso hQad hQna hQva (fun k hk => ⟨by simp only [mem_tgS, List.mem_append, List.mem_cons, List.not_mem_nil, or_false]; omega, by simp only [mem_tgS, List.mem_append, List.mem_cons, List.not_mem_nil, or_false]; omega⟩)
              obtain ⟨hq_537, hq_538⟩ := hW.octs hi_50 ht_51
              have hFc := pg_free hD hS hA
              refine va_calli (va_runV (As := [.ref ho]) (rest := []) ⟨hx, hb, hml, hown, hts⟩ (s_X15_wantedOf_x l dC dI cs ty gm L H.size F_526 h0 ρ ta ou so ad na va lc dm tg pe ml bg co sp nb0 nb1 nb2 pl se ke wi hs mo po nu pr sq xa sa n64 m64 ex wh sd tk hd ak ho ot sx s0 s1 s2 nf bd mm zo fm sn hg gc gv ze zt ho (ρ + 29) r_18 6000 y2_527 fc_528 (rgL V (hsM D ze V) (V.length - hsM D ze V)) D hW hL_h0 hT_h0 hi_48 ht_49 hq_529 hq_530 (by have h9 := hHO.1; rw [rgL_len] at h9; omega) (by have h9 := hHO.1; rw [rgL_len] at h9; omega) (by omega) (by omega) (hHO) (by omega) (hDM8)) ⟨callB_of 1 hts (gi kt_1192) rfl rfl rfl (hts _ kt_669) (hts _ kt_1193) (by decide +kernel) ⟨Nat.le_of_ble_eq_true rfl, Nat.le_of_ble_eq_true rfl⟩, (hts _ kt_1194), (hts _ kt_1195)⟩ ⟨fun a U g mk q => ⟨q.1, PTEm.calling q.2⟩, pg_recv hK hP hL_h0 hF_534 (q := (RX15, TX15, 59)) rfl, fun U hU hWm => ⟨rfl, PTEm.mk hU hWm hP hK hD hE hO hG (fun x hx => absurd hx List.not_mem_nil) hS hFc⟩⟩ rfl rfl hl.1 rfl (lv_room (Nat.le_of_ble_eq_true rfl)) dX15_wish_67 ⟨by show _ + 0 ≤ 0; omega, by show _ + 0 ≤ 0; omega⟩) hS (fun q _ h => hFc q h) hFc (fun r_539 u t H1 locs ht hvm hw hB hz1 hk1 hS => ?_)
              obtain ⟨F_540, hB1⟩ := hB
              obtain ⟨hP, hD, hO, hR⟩ := QTm.back hB1 ht hFc hR (fun q h => by simp only [mem_tgS, List.mem_append, List.mem_cons, List.not_mem_nil, or_false] at h ⊢; omega)
              have hF_541 : F_540 ml = .inl (cs 17, 3000, .inl gl) := (hB1.2.2.2 ml (by rw [ht_77]; simp)).trans hF_533
              have hF_542 : F_540 h0 = .inr (15, (.ref ta) :: (.int (nI zt)) :: (.int (nI zo)) :: (.int (nI ze)) :: (.ref ou) :: (.ref so) :: (.ref ad) :: (.ref na) :: (.ref va) :: (.ref lc) :: (.ref dm) :: (.int (nI fm)) :: (.int (nI sn)) :: (.ref tg) :: (.int v14_80) :: (.int v15_81) :: (.ref pe) :: (.int v17_82) :: (.int v18_83) :: (.int v19_84) :: (.int v20_85) :: (.int v21_86) :: (.int v22_87) :: (.ref ml) :: (.ref bg) :: (.ref co) :: (.ref sp) :: (.ref nb0) :: (.ref nb1) :: (.ref nb2) :: (.int (nI nf)) :: (.int (nI bd)) :: (.int (nI mm)) :: (.int v33_88) :: (.ref pl) :: (.ref se) :: (.ref ke) :: (.ref wi) :: (.ref hs) :: (.ref mo) :: (.ref po) :: (.ref nu) :: (.ref pr) :: (.ref sq) :: (.ref xa) :: (.ref sa) :: (.ref n64) :: (.ref m64) :: (.ref ex) :: (.ref wh) :: (.ref sd) :: (.ref tk) :: (.int v52_89) :: (.int v53_90) :: (.int v54_91) :: (.ref hd) :: (.ref ak) :: (.ref ho) :: (.ref ot) :: []) := (hB1.2.2.2 h0 (by rw [hT_h0]; simp)).trans hF_534
              have hF_543 : F_540 ak = .inr (14, [.ref rak, .int (nI V.length)]) := (hB1.2.2.2 ak (by rw [hT_ak]; simp)).trans hF_535
              have hF_544 : F_540 rak = .inl (cs 17, 6000, .inl gv9) := (hB1.2.2.2 rak (by rw [ht_46]; simp)).trans hF_536
              have hF_545 : F_540 ho = .inr (14, [.ref r_18, .int (nI y2_527)]) := (hB1.2.2.2 ho (by rw [ht_49]; simp)).trans hq_529
              have hF_546 : F_540 r_18 = .inl (cs 17, 6000, .inl fc_528) := (hB1.2.2.2 r_18 (by rw [ht_51]; simp)).trans hq_530
              generalize H1 = H at hP hS ⊢
              have hw : r_539 = woW D ze ([95, 100, 109, 97, 114, 99, 46] ++ (rgL V (hsM D ze V) (V.length - hsM D ze V))) := hw
              subst hw
              refine lv_topi (fun x9 ex9 => ?_)
              obtain rfl : x9 = woW D ze (DMU V (hsM D ze V)) := ex9.trans rfl
              refine lv_istore_n (lv' := [(3, .int (woW D ze (DMU V (hsM D ze V)))), (2, .int 0), (0, .ref h0), (1, .int x1)]) hx hb dX15_wish_70 rfl hl (by decide) rfl (fun ls hl => ?_)
              refine W.widen (k := 0) (n := 0) (by omega) (by omega) ?_
              exact jn_119 ((woW D ze (DMU V (hsM D ze V))), 0) F_540 (⟨Or.inr ⟨rfl, hw45, rfl⟩, hF_543, hF_544⟩) hO hR _ _ hP hD hS ls (lv_sub hl [0, 1, 2, 3] rfl)
        ·
          have hgn := snr_z hw_109 c_110
          refine lv_iconst (v := 1) hx hb dX15_wish_30 (by decide) ?_
          refine W.widen (k := 0) (n := 0) (by omega) (by omega) ?_
          exact W.iret (v := 1) hx hb hr (fun t ht hWm => ⟨⟨1, none, rfl, trivial, ⟨F_105, ty, (rtf_idw hT_h0), QTm.mk ht hP hD hO hR, hW, (Or.inr ⟨hs0, Int32.not_lt.mpr c_101, hn0, _, snr_plr D ze hw_109, Or.inr ⟨by rw [hgn]; exact (by decide : ¬ (1 : Int32) = (-1)), rfl⟩⟩)⟩⟩, hS.F ht⟩) hS.2.2 dX15_wish_31
      ·
        have hn0 : nf = 0 := by rcases hq_95 with q | q; exact q.2; exact absurd (q.1.symm.trans c_102) (by decide)
        refine lv_bipush (v := (-2)) hx hb dX15_wish_20 (by decide) ?_
        refine W.widen (k := 0) (n := 0) (by omega) (by omega) ?_
        exact W.iret (v := (-2)) hx hb hr (fun t ht hWm => ⟨⟨(-2), none, rfl, trivial, ⟨F, ty, (rtf_idw hT_h0), QTm.mk ht hP hD hO hR, hW, (Or.inl ⟨Or.inr (Or.inr hn0), rfl⟩)⟩⟩, hS.F ht⟩) hS.2.2 dX15_wish_22
    ·
      refine lv_iconst (v := (-1)) hx hb dX15_wish_11 (by decide) ?_
      refine W.widen (k := 0) (n := 0) (by omega) (by omega) ?_
      exact W.iret (v := (-1)) hx hb hr (fun t ht hWm => ⟨⟨(-1), none, rfl, trivial, ⟨F, ty, (rtf_idw hT_h0), QTm.mk ht hP hD hO hR, hW, (Or.inl ⟨Or.inr (Or.inl (Int32.not_le.mp c_101)), rfl⟩)⟩⟩, hS.F ht⟩) hS.2.2 dX15_wish_12
