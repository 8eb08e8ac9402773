theorem kt_1284 : Cond.code yX11_plainBody cX11_plainBody 2 (some .int) ∈ tb := tb_at (i := 1086) (by decide +kernel) (by decide +kernel)
theorem kt_1285 : Cond.methodLink RL 57 yX11_plainBody ∈ tb := tb_at (i := 1083) (by decide +kernel) (by decide +kernel)
theorem kt_1286 : Cond.instanceMethod yX11_plainBody ∈ tb := tb_at (i := 1084) (by decide +kernel) (by decide +kernel)
theorem kt_1287 : Cond.selects RX11 yX11_plainBody yX11_plainBody ∈ tb := tb_at (i := 1085) (by decide +kernel) (by decide +kernel)
theorem kt_1288 : Cond.code yX15_plainBody cX15_plainBody 2 (some .int) ∈ tb := tb_at (i := 1666) (by decide +kernel) (by decide +kernel)
theorem kt_1289 : Cond.methodLink RL 61 yX15_plainBody ∈ tb := tb_at (i := 1663) (by decide +kernel) (by decide +kernel)
theorem kt_1290 : Cond.instanceMethod yX15_plainBody ∈ tb := tb_at (i := 1664) (by decide +kernel) (by decide +kernel)
theorem kt_1291 : Cond.selects RX15 yX15_plainBody yX15_plainBody ∈ tb := tb_at (i := 1665) (by decide +kernel) (by decide +kernel)
theorem kt_1292 : Cond.code yX11_plainField cX11_plainField 3 (some .int) ∈ tb := tb_at (i := 1091) (by decide +kernel) (by decide +kernel)
theorem kt_1293 : Cond.methodLink RL 62 yX11_plainField ∈ tb := tb_at (i := 1088) (by decide +kernel) (by decide +kernel)
theorem kt_1294 : Cond.instanceMethod yX11_plainField ∈ tb := tb_at (i := 1089) (by decide +kernel) (by decide +kernel)
theorem kt_1295 : Cond.selects RX11 yX11_plainField yX11_plainField ∈ tb := tb_at (i := 1090) (by decide +kernel) (by decide +kernel)
theorem kt_1296 : Cond.code yX15_plainField cX15_plainField 3 (some .int) ∈ tb := tb_at (i := 1678) (by decide +kernel) (by decide +kernel)
theorem kt_1297 : Cond.methodLink RL 66 yX15_plainField ∈ tb := tb_at (i := 1675) (by decide +kernel) (by decide +kernel)
theorem kt_1298 : Cond.instanceMethod yX15_plainField ∈ tb := tb_at (i := 1676) (by decide +kernel) (by decide +kernel)
theorem kt_1299 : Cond.selects RX15 yX15_plainField yX15_plainField ∈ tb := tb_at (i := 1677) (by decide +kernel) (by decide +kernel)
set_option maxHeartbeats 4000000 in
set_option maxRecDepth 100000 in
theorem law_10 {p : Program} {l : Launch} {e : Env} {s : State} {m : MethodId} {below : List Frame} {meth : Method} {c : Code} {A Bq : Nat → Prop} {dC : Nat → ClassId} {dI : Nat → Nat → Nat} {cs : Nat → ClassId} {b Ln : Nat} {xs : Nat → Int32} (C0 : LC p s m meth c A dC dI cs b Ln xs) {xq h0 i zt ze cc ss : Nat} {f gt : Nat → Int32} {n : Nat} {bb : Int32} {zm : Nat} {fL sA sB sC : Nat → Int32} {nf bd mm : Nat} {gm : Nat → Nat → Nat} {gl : Nat → Int32} (hi : i + 6 ≤ Ln) (hLn : Ln ≤ 384) (hnz : zt ≤ 1280) (hcc : cc + 1 ≤ 600000) (hss : ss + 5 ≤ 7302250) {H : Heap} {locs : List Loc} {ls : Array Slot} (hrel : REL f gt zt) (hlr : LRL n bb zm fL sA sB sC nf bd mm gm gl) (hC : PCl (dC, dI) cs A Bq xq zt ze f n bb zm fL sA sB sC H) (hM : PMl (dC, dI) cs A Bq h0 zt ze gt nf bd mm gm gl H) (hS : va_S A s.heap H locs) (hl : lv_has ls 4 [(3, .int (nI i)), (2, .ref h0), (1, .ref xq), (0, .ref b)]) (kk : ∀ (z2 c2 : Nat) (f2 g2 : Nat → Int32) (n : Nat) (bb : Int32) (zm : Nat) (fL sA sB sC : Nat → Int32) (nf bd mm : Nat) (gm : Nat → Nat → Nat) (gl : Nat → Int32) (H : Heap) (locs : List Loc) (ls : Array Slot), z2 ≤ zt + 20 → c2 ≤ 40 → REL f2 g2 z2 → LRL n bb zm fL sA sB sC nf bd mm gm gl → PCl (dC, dI) cs A Bq xq z2 c2 f2 n bb zm fL sA sB sC H → PMl (dC, dI) cs A Bq h0 z2 c2 g2 nf bd mm gm gl H → va_S A s.heap H locs → lv_has ls 4 [(3, .int (nI i)), (2, .ref h0), (1, .ref xq), (0, .ref b)] → W p l e room_1 s m #[Value.ref b] below meth c H locs (cc + 1) (ss + 5) (lw_Z below #[Value.ref b] s) (F0 m 522 ls [])) : W p l e room_1 s m #[Value.ref b] below meth c H locs cc ss (lw_Z below #[Value.ref b] s) (F0 m 362 ls []) := by
  obtain ⟨hx, hb, hr, hml, hown, hts, hX, hbl, hbA, hlocks, hE, hGc, hGm, hK, hA, hAs⟩ := id C0
  refine lv_aload_n hx hb dL_law_362 rfl (lv_at hl 2 rfl) ?_
  refine lv_aload_n hx hb dL_law_363 rfl (lv_at hl 3 rfl) ?_
  refine lv_iload_n hx hb dL_law_364 rfl (lv_at hl 0 rfl) ?_
  refine lv_iconst (v := 1) hx hb dL_law_365 (by decide) ?_
  refine lv_iadd hx hb dL_law_366 ?_
  refine lv_topi (fun x_1 ex_1 => ?_)
  obtain rfl : x_1 = (nI (i + 1)) := ex_1.trans (nI_add i 1)
  refine va_sld hx hb hX hbl hbA hS (vp_in_nI (by omega) (by omega)) dL_law_367 ?_
  refine lv_topi (fun x_2 ex_2 => ?_)
  obtain rfl : x_2 = (xs (i + 1)) := ex_2.trans (congrArg xs (nI_clamp (by omega)))
  refine lv_if_eq (tgt := 375) hx hb dL_law_368 (by decide) (fun c_3 => ?_) (fun c_3 => ?_)
  ·
    refine lv_iconst (v := 0) hx hb dL_law_375 (by decide) ?_
    obtain ⟨L, F, ty, ρ, ta, ou, di, ea, ck, sl, po, hs, rt, ⟨hP, hD, hO, hW⟩, hL_xq, hT_xq, hTta, hFt, hFr, hzt, hFd, hcn, hLT, hBq⟩ := hC
    have hG := hGc
    have hTS : TS F ta zt := ⟨hzt, rt, hFt⟩
    obtain ⟨le, sp, μ, ν, x, y0, y1, y2, rx, x9, w0, w1, w2, rx9, o, hm, l1, l2, l3, l4, l5, l6, l7, l8, l9, l10, l11, l12, l13, l14, l15⟩ := id hLT
    have hF_xq := l1
    obtain ⟨hi_4, ⟨r_5, ht_6⟩, hi_7, ⟨r_8, ht_9⟩, hi_10, ht_11, hi_12, ⟨w0_13, w1_14, w2_15, w3_16, nm_17, te_18, ht_19⟩, hi_20, ⟨l1_21, lx_22, ly0_23, ly1_24, ly2_25, k1_26, kx_27, ky0_28, ky1_29, ky2_30, w0_31, w1_32, w2_33, w3_34, w4_35, w5_36, w6_37, w7_38, w8_39, tk_40, h1_41, hx_42, hy_43, hw_44, pw_45, px_46, py_47, pz_48, pu_49, ht_50⟩, hi_51, ⟨w0_52, w1_53, rc_54, rx_55, ry0_56, ry1_57, ry2_58, ht_59⟩, hi_60, ⟨hx_61, hy_62, hw_63, ht_64⟩⟩ := hW.gate hL_xq hT_xq
    obtain ⟨le_65, sp_66, μ_67, ν_68, hF_69, hq_70, hq_71, hq_72, hq_73, hq_74, hq_75⟩ := hO.gate hL_xq hT_xq
    obtain ⟨x_76, y0_77, y1_78, y2_79, ht_80⟩ := id hq_71
    obtain ⟨x_81, y0_82, y1_83, y2_84, ht_85⟩ := id hq_73
    obtain ⟨hiR, htR, -⟩ := hW.bytes hi_4 hTta
    obtain ⟨lx9, -, -, -, -, -, -, -⟩ := hW.msg l2 l3
    have hpf := hlr.pos
    have hFc := pg_free hD hS hA
    refine va_calli (va_runV (As := [.int 0]) (rest := []) ⟨hx, hb, hml, hown, hts⟩ (s_X11_plainBody_x l dC dI cs ty L H.size F xq ρ ta ou di ea ck sl po hs le x y0 y1 y2 sp rx r_8 n zm μ bd fL bb o 0 hW hL_xq hT_xq hi_7 ht_9 l2 l3 lx9 l6 l1 l9 l10 l11 l8 l15 (by omega) hlr.bs) ⟨callB_of 1 hts (gi kt_1284) rfl rfl rfl (hts _ kt_656) (hts _ kt_1285) (by decide +kernel) ⟨Nat.le_of_ble_eq_true rfl, Nat.le_of_ble_eq_true rfl⟩, (hts _ kt_1286), (hts _ kt_1287)⟩ ⟨fun a U g mk q => ⟨q.1, PT.calling q.2⟩, pg_recv hK hP hL_xq hF_69 (q := (RX11, TX11, 9)) rfl, fun U hU hWm => ⟨rfl, PT.mk hU hWm hP hK hD hE hO⟩⟩ rfl rfl hl.1 rfl (lv_room (Nat.le_of_ble_eq_true rfl)) dL_law_376 ⟨by show _ + 0 ≤ 600000; omega, by show _ + 0 ≤ 7302250; omega⟩) hS (fun q _ h => hFc q h) hFc (fun r_86 u t H1 locs ht hvm hw hB hz1 hk1 hS => ?_)
    obtain ⟨F2, hB1⟩ := hB
    obtain ⟨hP, hD, hO, hR⟩ := QT.back hB1 ht hFc FR.refl (fun q h => h)
    have hM := hM.kept hBq hk1
    have hLT := hLT.fr hW hT_xq hB1.2.2.2 (fun q h => by simp only [List.mem_cons, List.not_mem_nil, or_false] at h; omega)
    have hE1 := hw
    have hln20 := l8
    have hC : PCl (dC, dI) cs A Bq xq zt ze f n bb zm fL sA sB sC H1 := ⟨L, F2, ty, ρ, ta, ou, di, ea, ck, sl, po, hs, rt, ⟨hP, hD, hO, hW⟩, hL_xq, hT_xq, hTta, (hB1.2.2.2 ta (by rw [hTta]; simp)).trans hFt, (hB1.2.2.2 rt (by rw [htR]; simp)).trans hFr, hzt, (hB1.2.2.2 di (by rw [ht_11]; simp)).trans hFd, hcn, hLT, hBq⟩
    generalize H1 = H at hC hM hS ⊢
    refine lv_aload_n hx hb dL_law_379 rfl (lv_at hl 1 rfl) ?_
    refine lv_aload_n hx hb dL_law_380 rfl (lv_at hl 3 rfl) ?_
    refine lv_iload_n hx hb dL_law_381 rfl (lv_at hl 0 rfl) ?_
    refine lv_iconst (v := 1) hx hb dL_law_382 (by decide) ?_
    refine lv_iadd hx hb dL_law_383 ?_
    refine lv_topi (fun x_87 ex_87 => ?_)
    obtain rfl : x_87 = (nI (i + 1)) := ex_87.trans (nI_add i 1)
    refine va_sld hx hb hX hbl hbA hS (vp_in_nI (by omega) (by omega)) dL_law_384 ?_
    refine lv_topi (fun x_88 ex_88 => ?_)
    obtain rfl : x_88 = (xs (i + 1)) := ex_88.trans (congrArg xs (nI_clamp (by omega)))
    refine lv_if_eq (tgt := 392) hx hb dL_law_385 (by decide) (fun c_89 => ?_) (fun c_89 => absurd (c_3) c_89)
    refine lv_iconst (v := 0) hx hb dL_law_392 (by decide) ?_
    obtain ⟨L, F, ty, ρ, ta, ou, so, ad, na, va, lc, dm, tg, pe, ml, bg, co, sp, nb0, nb1, nb2, pl, se, ke, wi, hs, mo, po, nu, pr, sq, xa, sa, n64, m64, ex, wh, sd, tk, hd, ak, ho, ot, sx, s0, s1, s2, ⟨hP, hD, hO, hW⟩, hL_h0, hT_h0, hFta, hFml, hn01, hn02, hn12, hU26, hU15, hBq⟩ := hM
    have hG := hGm
    obtain ⟨hq_112, hq_113, hq_114, hq_115, hq_116, hgO, hgA, hgB⟩ := hW.sc hL_h0 hT_h0
    obtain ⟨zo_117, v11_118, v12_119, v14_120, v15_121, v17_122, v18_123, v19_124, v20_125, v21_126, v22_127, v33_128, v52_129, v53_130, v54_131, hF_132, hq_133, hq_134, hq_135, hq_136⟩ := hO.mod hL_h0 hT_h0
    obtain ⟨hi_137, ht_138⟩ := hW.f_ta hL_h0 hT_h0
    obtain ⟨hi_139, r_93, ht_140⟩ := hW.f_pl hL_h0 hT_h0
    obtain ⟨hi_141, ht_142, hq_143⟩ := hW.txt hi_139 ht_140
    have hFc := pg_free hD hS hA
    refine va_calli (va_runV (As := [.int 0]) (rest := [.int r_86]) ⟨hx, hb, hml, hown, hts⟩ (s_X15_plainBody_x l dC dI cs ty gm L H.size F h0 ρ ta ou so ad na va lc dm tg pe ml bg co sp nb0 nb1 nb2 pl se ke wi hs mo po nu pr sq xa sa n64 m64 ex wh sd tk hd ak ho ot sx s0 s1 s2 nf bd mm ze zt r_93 gl 0 hW hL_h0 hT_h0 hi_139 ht_140 hFml) ⟨callB_of 1 hts (gi kt_1288) rfl rfl rfl (hts _ kt_669) (hts _ kt_1289) (by decide +kernel) ⟨Nat.le_of_ble_eq_true rfl, Nat.le_of_ble_eq_true rfl⟩, (hts _ kt_1290), (hts _ kt_1291)⟩ ⟨fun a U g mk q => ⟨q.1, PTm.calling q.2⟩, pg_recv hK hP hL_h0 hF_132 (q := (RX15, TX15, 59)) rfl, fun U hU hWm => ⟨rfl, PTm.mk hU hWm hP hK hD hE hO⟩⟩ rfl rfl hl.1 rfl (lv_room (Nat.le_of_ble_eq_true rfl)) dL_law_393 ⟨by show _ + 0 ≤ 600000; omega, by show _ + 0 ≤ 7302250; omega⟩) hS (fun q _ h => hFc q h) hFc (fun r_144 u t H1 locs ht hvm hw hB hz1 hk1 hS => ?_)
    obtain ⟨F2, hB1⟩ := hB
    obtain ⟨hP, hD, hO, hR⟩ := QTm.back hB1 ht hFc FR.refl (fun q h => h)
    have hC := hC.kept hBq hk1
    obtain ⟨hi_145, ht_146⟩ := hW.f_ml hL_h0 hT_h0
    have hM : PMl (dC, dI) cs A Bq h0 zt ze gt nf bd mm gm gl H1 := ⟨L, F2, ty, ρ, ta, ou, so, ad, na, va, lc, dm, tg, pe, ml, bg, co, sp, nb0, nb1, nb2, pl, se, ke, wi, hs, mo, po, nu, pr, sq, xa, sa, n64, m64, ex, wh, sd, tk, hd, ak, ho, ot, sx, s0, s1, s2, ⟨hP, hD, hO, hW⟩, hL_h0, hT_h0, (hB1.2.2.2 ta (by rw [ht_138]; simp)).trans hFta, (hB1.2.2.2 ml (by rw [ht_146]; simp)).trans hFml, hn01, hn02, hn12, hU26, hU15, hBq⟩
    have er := hlr.pb hE1 hw
    generalize H1 = H at hC hM hS ⊢
    refine lv_icmp_eq (tgt := 522) hx hb dL_law_396 (by decide) (fun c_147 => ?_) (fun c_147 => absurd (er) c_147)
    refine W.widen (k := cc + 1) (n := ss + 5) (by omega) (by omega) ?_
    exact kk zt ze f gt n bb zm fL sA sB sC nf bd mm gm gl _ _ _ (by omega) hcn (hrel) hlr hC hM hS hl
  ·
    refine lv_iconst (v := 1) hx hb dL_law_371 (by decide) ?_
    refine lv_goto (tgt := 376) hx hb dL_law_372 (by decide) ?_
    obtain ⟨L, F, ty, ρ, ta, ou, di, ea, ck, sl, po, hs, rt, ⟨hP, hD, hO, hW⟩, hL_xq, hT_xq, hTta, hFt, hFr, hzt, hFd, hcn, hLT, hBq⟩ := hC
    have hG := hGc
    have hTS : TS F ta zt := ⟨hzt, rt, hFt⟩
    obtain ⟨le, sp, μ, ν, x, y0, y1, y2, rx, x9, w0, w1, w2, rx9, o, hm, l1, l2, l3, l4, l5, l6, l7, l8, l9, l10, l11, l12, l13, l14, l15⟩ := id hLT
    have hF_xq := l1
    obtain ⟨hi_148, ⟨r_149, ht_150⟩, hi_151, ⟨r_152, ht_153⟩, hi_154, ht_155, hi_156, ⟨w0_157, w1_158, w2_159, w3_160, nm_161, te_162, ht_163⟩, hi_164, ⟨l1_165, lx_166, ly0_167, ly1_168, ly2_169, k1_170, kx_171, ky0_172, ky1_173, ky2_174, w0_175, w1_176, w2_177, w3_178, w4_179, w5_180, w6_181, w7_182, w8_183, tk_184, h1_185, hx_186, hy_187, hw_188, pw_189, px_190, py_191, pz_192, pu_193, ht_194⟩, hi_195, ⟨w0_196, w1_197, rc_198, rx_199, ry0_200, ry1_201, ry2_202, ht_203⟩, hi_204, ⟨hx_205, hy_206, hw_207, ht_208⟩⟩ := hW.gate hL_xq hT_xq
    obtain ⟨le_209, sp_210, μ_211, ν_212, hF_213, hq_214, hq_215, hq_216, hq_217, hq_218, hq_219⟩ := hO.gate hL_xq hT_xq
    obtain ⟨x_220, y0_221, y1_222, y2_223, ht_224⟩ := id hq_215
    obtain ⟨x_225, y0_226, y1_227, y2_228, ht_229⟩ := id hq_217
    obtain ⟨hiR, htR, -⟩ := hW.bytes hi_148 hTta
    obtain ⟨lx9, -, -, -, -, -, -, -⟩ := hW.msg l2 l3
    have hpf := hlr.pos
    have hFc := pg_free hD hS hA
    refine va_calli (va_runV (As := [.int 1]) (rest := []) ⟨hx, hb, hml, hown, hts⟩ (s_X11_plainBody_x l dC dI cs ty L H.size F xq ρ ta ou di ea ck sl po hs le x y0 y1 y2 sp rx r_152 n zm μ bd fL bb o 1 hW hL_xq hT_xq hi_151 ht_153 l2 l3 lx9 l6 l1 l9 l10 l11 l8 l15 (by omega) hlr.bs) ⟨callB_of 1 hts (gi kt_1284) rfl rfl rfl (hts _ kt_656) (hts _ kt_1285) (by decide +kernel) ⟨Nat.le_of_ble_eq_true rfl, Nat.le_of_ble_eq_true rfl⟩, (hts _ kt_1286), (hts _ kt_1287)⟩ ⟨fun a U g mk q => ⟨q.1, PT.calling q.2⟩, pg_recv hK hP hL_xq hF_213 (q := (RX11, TX11, 9)) rfl, fun U hU hWm => ⟨rfl, PT.mk hU hWm hP hK hD hE hO⟩⟩ rfl rfl hl.1 rfl (lv_room (Nat.le_of_ble_eq_true rfl)) dL_law_376 ⟨by show _ + 0 ≤ 600000; omega, by show _ + 0 ≤ 7302250; omega⟩) hS (fun q _ h => hFc q h) hFc (fun r_230 u t H1 locs ht hvm hw hB hz1 hk1 hS => ?_)
    obtain ⟨F2, hB1⟩ := hB
    obtain ⟨hP, hD, hO, hR⟩ := QT.back hB1 ht hFc FR.refl (fun q h => h)
    have hM := hM.kept hBq hk1
    have hLT := hLT.fr hW hT_xq hB1.2.2.2 (fun q h => by simp only [List.mem_cons, List.not_mem_nil, or_false] at h; omega)
    have hE1 := hw
    have hln20 := l8
    have hC : PCl (dC, dI) cs A Bq xq zt ze f n bb zm fL sA sB sC H1 := ⟨L, F2, ty, ρ, ta, ou, di, ea, ck, sl, po, hs, rt, ⟨hP, hD, hO, hW⟩, hL_xq, hT_xq, hTta, (hB1.2.2.2 ta (by rw [hTta]; simp)).trans hFt, (hB1.2.2.2 rt (by rw [htR]; simp)).trans hFr, hzt, (hB1.2.2.2 di (by rw [ht_155]; simp)).trans hFd, hcn, hLT, hBq⟩
    generalize H1 = H at hC hM hS ⊢
    refine lv_aload_n hx hb dL_law_379 rfl (lv_at hl 1 rfl) ?_
    refine lv_aload_n hx hb dL_law_380 rfl (lv_at hl 3 rfl) ?_
    refine lv_iload_n hx hb dL_law_381 rfl (lv_at hl 0 rfl) ?_
    refine lv_iconst (v := 1) hx hb dL_law_382 (by decide) ?_
    refine lv_iadd hx hb dL_law_383 ?_
    refine lv_topi (fun x_231 ex_231 => ?_)
    obtain rfl : x_231 = (nI (i + 1)) := ex_231.trans (nI_add i 1)
    refine va_sld hx hb hX hbl hbA hS (vp_in_nI (by omega) (by omega)) dL_law_384 ?_
    refine lv_topi (fun x_232 ex_232 => ?_)
    obtain rfl : x_232 = (xs (i + 1)) := ex_232.trans (congrArg xs (nI_clamp (by omega)))
    refine lv_if_eq (tgt := 392) hx hb dL_law_385 (by decide) (fun c_233 => absurd c_233 (c_3)) (fun c_233 => ?_)
    refine lv_iconst (v := 1) hx hb dL_law_388 (by decide) ?_
    refine lv_goto (tgt := 393) hx hb dL_law_389 (by decide) ?_
    obtain ⟨L, F, ty, ρ, ta, ou, so, ad, na, va, lc, dm, tg, pe, ml, bg, co, sp, nb0, nb1, nb2, pl, se, ke, wi, hs, mo, po, nu, pr, sq, xa, sa, n64, m64, ex, wh, sd, tk, hd, ak, ho, ot, sx, s0, s1, s2, ⟨hP, hD, hO, hW⟩, hL_h0, hT_h0, hFta, hFml, hn01, hn02, hn12, hU26, hU15, hBq⟩ := hM
    have hG := hGm
    obtain ⟨hq_256, hq_257, hq_258, hq_259, hq_260, hgO, hgA, hgB⟩ := hW.sc hL_h0 hT_h0
    obtain ⟨zo_261, v11_262, v12_263, v14_264, v15_265, v17_266, v18_267, v19_268, v20_269, v21_270, v22_271, v33_272, v52_273, v53_274, v54_275, hF_276, hq_277, hq_278, hq_279, hq_280⟩ := hO.mod hL_h0 hT_h0
    obtain ⟨hi_281, ht_282⟩ := hW.f_ta hL_h0 hT_h0
    obtain ⟨hi_283, r_237, ht_284⟩ := hW.f_pl hL_h0 hT_h0
    obtain ⟨hi_285, ht_286, hq_287⟩ := hW.txt hi_283 ht_284
    have hFc := pg_free hD hS hA
    refine va_calli (va_runV (As := [.int 1]) (rest := [.int r_230]) ⟨hx, hb, hml, hown, hts⟩ (s_X15_plainBody_x l dC dI cs ty gm L H.size F h0 ρ ta ou so ad na va lc dm tg pe ml bg co sp nb0 nb1 nb2 pl se ke wi hs mo po nu pr sq xa sa n64 m64 ex wh sd tk hd ak ho ot sx s0 s1 s2 nf bd mm ze zt r_237 gl 1 hW hL_h0 hT_h0 hi_283 ht_284 hFml) ⟨callB_of 1 hts (gi kt_1288) rfl rfl rfl (hts _ kt_669) (hts _ kt_1289) (by decide +kernel) ⟨Nat.le_of_ble_eq_true rfl, Nat.le_of_ble_eq_true rfl⟩, (hts _ kt_1290), (hts _ kt_1291)⟩ ⟨fun a U g mk q => ⟨q.1, PTm.calling q.2⟩, pg_recv hK hP hL_h0 hF_276 (q := (RX15, TX15, 59)) rfl, fun U hU hWm => ⟨rfl, PTm.mk hU hWm hP hK hD hE hO⟩⟩ rfl rfl hl.1 rfl (lv_room (Nat.le_of_ble_eq_true rfl)) dL_law_393 ⟨by show _ + 0 ≤ 600000; omega, by show _ + 0 ≤ 7302250; omega⟩) hS (fun q _ h => hFc q h) hFc (fun r_288 u t H1 locs ht hvm hw hB hz1 hk1 hS => ?_)
    obtain ⟨F2, hB1⟩ := hB
    obtain ⟨hP, hD, hO, hR⟩ := QTm.back hB1 ht hFc FR.refl (fun q h => h)
    have hC := hC.kept hBq hk1
    obtain ⟨hi_289, ht_290⟩ := hW.f_ml hL_h0 hT_h0
    have hM : PMl (dC, dI) cs A Bq h0 zt ze gt nf bd mm gm gl H1 := ⟨L, F2, ty, ρ, ta, ou, so, ad, na, va, lc, dm, tg, pe, ml, bg, co, sp, nb0, nb1, nb2, pl, se, ke, wi, hs, mo, po, nu, pr, sq, xa, sa, n64, m64, ex, wh, sd, tk, hd, ak, ho, ot, sx, s0, s1, s2, ⟨hP, hD, hO, hW⟩, hL_h0, hT_h0, (hB1.2.2.2 ta (by rw [ht_282]; simp)).trans hFta, (hB1.2.2.2 ml (by rw [ht_290]; simp)).trans hFml, hn01, hn02, hn12, hU26, hU15, hBq⟩
    have er := hlr.pb hE1 hw
    generalize H1 = H at hC hM hS ⊢
    refine lv_icmp_eq (tgt := 522) hx hb dL_law_396 (by decide) (fun c_291 => ?_) (fun c_291 => absurd (er) c_291)
    refine W.widen (k := cc + 1) (n := ss + 5) (by omega) (by omega) ?_
    exact kk zt ze f gt n bb zm fL sA sB sC nf bd mm gm gl _ _ _ (by omega) hcn (hrel) hlr hC hM hS hl
set_option maxHeartbeats 4000000 in
set_option maxRecDepth 100000 in
theorem law_11 {p : Program} {l : Launch} {e : Env} {s : State} {m : MethodId} {below : List Frame} {meth : Method} {c : Code} {A Bq : Nat → Prop} {dC : Nat → ClassId} {dI : Nat → Nat → Nat} {cs : Nat → ClassId} {b Ln : Nat} {xs : Nat → Int32} (C0 : LC p s m meth c A dC dI cs b Ln xs) {xq h0 i zt ze cc ss : Nat} {f gt : Nat → Int32} {n : Nat} {bb : Int32} {zm : Nat} {fL sA sB sC : Nat → Int32} {nf bd mm : Nat} {gm : Nat → Nat → Nat} {gl : Nat → Int32} (hi : i + 6 ≤ Ln) (hLn : Ln ≤ 384) (hnz : zt ≤ 1280) (hcc : cc + 1 ≤ 600000) (hss : ss + 5 ≤ 7302250) {H : Heap} {locs : List Loc} {ls : Array Slot} (hrel : REL f gt zt) (hlr : LRL n bb zm fL sA sB sC nf bd mm gm gl) (hC : PCl (dC, dI) cs A Bq xq zt ze f n bb zm fL sA sB sC H) (hM : PMl (dC, dI) cs A Bq h0 zt ze gt nf bd mm gm gl H) (hS : va_S A s.heap H locs) (hl : lv_has ls 4 [(3, .int (nI i)), (2, .ref h0), (1, .ref xq), (0, .ref b)]) (kk : ∀ (z2 c2 : Nat) (f2 g2 : Nat → Int32) (n : Nat) (bb : Int32) (zm : Nat) (fL sA sB sC : Nat → Int32) (nf bd mm : Nat) (gm : Nat → Nat → Nat) (gl : Nat → Int32) (H : Heap) (locs : List Loc) (ls : Array Slot), z2 ≤ zt + 20 → c2 ≤ 40 → REL f2 g2 z2 → LRL n bb zm fL sA sB sC nf bd mm gm gl → PCl (dC, dI) cs A Bq xq z2 c2 f2 n bb zm fL sA sB sC H → PMl (dC, dI) cs A Bq h0 z2 c2 g2 nf bd mm gm gl H → va_S A s.heap H locs → lv_has ls 4 [(3, .int (nI i)), (2, .ref h0), (1, .ref xq), (0, .ref b)] → W p l e room_1 s m #[Value.ref b] below meth c H locs (cc + 1) (ss + 5) (lw_Z below #[Value.ref b] s) (F0 m 522 ls [])) : W p l e room_1 s m #[Value.ref b] below meth c H locs cc ss (lw_Z below #[Value.ref b] s) (F0 m 401 ls []) := by
  obtain ⟨hx, hb, hr, hml, hown, hts, hX, hbl, hbA, hlocks, hE, hGc, hGm, hK, hA, hAs⟩ := id C0
  refine lv_aload_n hx hb dL_law_401 rfl (lv_at hl 2 rfl) ?_
  refine lv_aload_n hx hb dL_law_402 rfl (lv_at hl 3 rfl) ?_
  refine lv_iload_n hx hb dL_law_403 rfl (lv_at hl 0 rfl) ?_
  refine lv_iconst (v := 1) hx hb dL_law_404 (by decide) ?_
  refine lv_iadd hx hb dL_law_405 ?_
  refine lv_topi (fun x_1 ex_1 => ?_)
  obtain rfl : x_1 = (nI (i + 1)) := ex_1.trans (nI_add i 1)
  refine va_sld hx hb hX hbl hbA hS (vp_in_nI (by omega) (by omega)) dL_law_406 ?_
  refine lv_topi (fun x_2 ex_2 => ?_)
  obtain rfl : x_2 = (xs (i + 1)) := ex_2.trans (congrArg xs (nI_clamp (by omega)))
  refine lv_aload_n hx hb dL_law_407 rfl (lv_at hl 3 rfl) ?_
  refine lv_iload_n hx hb dL_law_408 rfl (lv_at hl 0 rfl) ?_
  refine lv_iconst (v := 2) hx hb dL_law_409 (by decide) ?_
  refine lv_iadd hx hb dL_law_410 ?_
  refine lv_topi (fun x_3 ex_3 => ?_)
  obtain rfl : x_3 = (nI (i + 2)) := ex_3.trans (nI_add i 2)
  refine va_sld hx hb hX hbl hbA hS (vp_in_nI (by omega) (by omega)) dL_law_411 ?_
  refine lv_topi (fun x_4 ex_4 => ?_)
  obtain rfl : x_4 = (xs (i + 2)) := ex_4.trans (congrArg xs (nI_clamp (by omega)))
  refine lv_if_eq (tgt := 419) hx hb dL_law_412 (by decide) (fun c_5 => ?_) (fun c_5 => ?_)
  ·
    refine lv_iconst (v := 0) hx hb dL_law_419 (by decide) ?_
    obtain ⟨L, F, ty, ρ, ta, ou, di, ea, ck, sl, po, hs, rt, ⟨hP, hD, hO, hW⟩, hL_xq, hT_xq, hTta, hFt, hFr, hzt, hFd, hcn, hLT, hBq⟩ := hC
    have hG := hGc
    have hTS : TS F ta zt := ⟨hzt, rt, hFt⟩
    obtain ⟨le, sp, μ, ν, x, y0, y1, y2, rx, x9, w0, w1, w2, rx9, o, hm, l1, l2, l3, l4, l5, l6, l7, l8, l9, l10, l11, l12, l13, l14, l15⟩ := id hLT
    have hF_xq := l1
    obtain ⟨hi_6, ⟨r_7, ht_8⟩, hi_9, ⟨r_10, ht_11⟩, hi_12, ht_13, hi_14, ⟨w0_15, w1_16, w2_17, w3_18, nm_19, te_20, ht_21⟩, hi_22, ⟨l1_23, lx_24, ly0_25, ly1_26, ly2_27, k1_28, kx_29, ky0_30, ky1_31, ky2_32, w0_33, w1_34, w2_35, w3_36, w4_37, w5_38, w6_39, w7_40, w8_41, tk_42, h1_43, hx_44, hy_45, hw_46, pw_47, px_48, py_49, pz_50, pu_51, ht_52⟩, hi_53, ⟨w0_54, w1_55, rc_56, rx_57, ry0_58, ry1_59, ry2_60, ht_61⟩, hi_62, ⟨hx_63, hy_64, hw_65, ht_66⟩⟩ := hW.gate hL_xq hT_xq
    obtain ⟨le_67, sp_68, μ_69, ν_70, hF_71, hq_72, hq_73, hq_74, hq_75, hq_76, hq_77⟩ := hO.gate hL_xq hT_xq
    obtain ⟨x_78, y0_79, y1_80, y2_81, ht_82⟩ := id hq_73
    obtain ⟨x_83, y0_84, y1_85, y2_86, ht_87⟩ := id hq_75
    obtain ⟨hiR, htR, -⟩ := hW.bytes hi_6 hTta
    obtain ⟨lx9, -, -, -, -, -, -, -⟩ := hW.msg l2 l3
    have hpf := hlr.pos
    have hFc := pg_free hD hS hA
    refine va_calli (va_runV (As := [.int (xs (i + 1)), .int 0]) (rest := []) ⟨hx, hb, hml, hown, hts⟩ (s_X11_plainField_x l dC dI cs ty L H.size F xq ρ ta ou di ea ck sl po hs le x y0 y1 y2 sp rx r_10 n zm μ fL sA sB sC (gm 0) (gm 1) (cln sC) bb o (xs (i + 1)) 0 hW hL_xq hT_xq hi_9 ht_11 l2 l3 lx9 l6 l1 l9 l10 l11 l12 l13 l14 l8 l15 (by omega) hpf.1) ⟨callB_of 2 hts (gi kt_1292) rfl rfl rfl (hts _ kt_656) (hts _ kt_1293) (by decide +kernel) ⟨Nat.le_of_ble_eq_true rfl, Nat.le_of_ble_eq_true rfl⟩, (hts _ kt_1294), (hts _ kt_1295)⟩ ⟨fun a U g mk q => ⟨q.1, PT.calling q.2⟩, pg_recv hK hP hL_xq hF_71 (q := (RX11, TX11, 9)) rfl, fun U hU hWm => ⟨rfl, PT.mk hU hWm hP hK hD hE hO⟩⟩ rfl rfl hl.1 rfl (lv_room (Nat.le_of_ble_eq_true rfl)) dL_law_420 ⟨by show _ + 0 ≤ 600000; omega, by show _ + 0 ≤ 7302250; omega⟩) hS (fun q _ h => hFc q h) hFc (fun r_88 u t H1 locs ht hvm hw hB hz1 hk1 hS => ?_)
    obtain ⟨F2, hB1⟩ := hB
    obtain ⟨hP, hD, hO, hR⟩ := QT.back hB1 ht hFc FR.refl (fun q h => h)
    have hM := hM.kept hBq hk1
    have hLT := hLT.fr hW hT_xq hB1.2.2.2 (fun q h => by simp only [List.mem_cons, List.not_mem_nil, or_false] at h; omega)
    have hE1 := hw
    have hln20 := l8
    have hC : PCl (dC, dI) cs A Bq xq zt ze f n bb zm fL sA sB sC H1 := ⟨L, F2, ty, ρ, ta, ou, di, ea, ck, sl, po, hs, rt, ⟨hP, hD, hO, hW⟩, hL_xq, hT_xq, hTta, (hB1.2.2.2 ta (by rw [hTta]; simp)).trans hFt, (hB1.2.2.2 rt (by rw [htR]; simp)).trans hFr, hzt, (hB1.2.2.2 di (by rw [ht_13]; simp)).trans hFd, hcn, hLT, hBq⟩
    generalize H1 = H at hC hM hS ⊢
    refine lv_pop hx hb dL_law_423 rfl ?_
    refine lv_aload_n hx hb dL_law_424 rfl (lv_at hl 1 rfl) ?_
    refine lv_aload_n hx hb dL_law_425 rfl (lv_at hl 3 rfl) ?_
    refine lv_iload_n hx hb dL_law_426 rfl (lv_at hl 0 rfl) ?_
    refine lv_iconst (v := 1) hx hb dL_law_427 (by decide) ?_
    refine lv_iadd hx hb dL_law_428 ?_
    refine lv_topi (fun x_89 ex_89 => ?_)
    obtain rfl : x_89 = (nI (i + 1)) := ex_89.trans (nI_add i 1)
    refine va_sld hx hb hX hbl hbA hS (vp_in_nI (by omega) (by omega)) dL_law_429 ?_
    refine lv_topi (fun x_90 ex_90 => ?_)
    obtain rfl : x_90 = (xs (i + 1)) := ex_90.trans (congrArg xs (nI_clamp (by omega)))
    refine lv_aload_n hx hb dL_law_430 rfl (lv_at hl 3 rfl) ?_
    refine lv_iload_n hx hb dL_law_431 rfl (lv_at hl 0 rfl) ?_
    refine lv_iconst (v := 2) hx hb dL_law_432 (by decide) ?_
    refine lv_iadd hx hb dL_law_433 ?_
    refine lv_topi (fun x_91 ex_91 => ?_)
    obtain rfl : x_91 = (nI (i + 2)) := ex_91.trans (nI_add i 2)
    refine va_sld hx hb hX hbl hbA hS (vp_in_nI (by omega) (by omega)) dL_law_434 ?_
    refine lv_topi (fun x_92 ex_92 => ?_)
    obtain rfl : x_92 = (xs (i + 2)) := ex_92.trans (congrArg xs (nI_clamp (by omega)))
    refine lv_if_eq (tgt := 442) hx hb dL_law_435 (by decide) (fun c_93 => ?_) (fun c_93 => absurd (c_5) c_93)
    refine lv_iconst (v := 0) hx hb dL_law_442 (by decide) ?_
    obtain ⟨L, F, ty, ρ, ta, ou, so, ad, na, va, lc, dm, tg, pe, ml, bg, co, sp, nb0, nb1, nb2, pl, se, ke, wi, hs, mo, po, nu, pr, sq, xa, sa, n64, m64, ex, wh, sd, tk, hd, ak, ho, ot, sx, s0, s1, s2, ⟨hP, hD, hO, hW⟩, hL_h0, hT_h0, hFta, hFml, hn01, hn02, hn12, hU26, hU15, hBq⟩ := hM
    have hG := hGm
    obtain ⟨hq_116, hq_117, hq_118, hq_119, hq_120, hgO, hgA, hgB⟩ := hW.sc hL_h0 hT_h0
    obtain ⟨zo_121, v11_122, v12_123, v14_124, v15_125, v17_126, v18_127, v19_128, v20_129, v21_130, v22_131, v33_132, v52_133, v53_134, v54_135, hF_136, hq_137, hq_138, hq_139, hq_140⟩ := hO.mod hL_h0 hT_h0
    obtain ⟨hi_141, ht_142⟩ := hW.f_ta hL_h0 hT_h0
    obtain ⟨hi_143, r_97, ht_144⟩ := hW.f_pl hL_h0 hT_h0
    obtain ⟨hi_145, ht_146, hq_147⟩ := hW.txt hi_143 ht_144
    have hFc := pg_free hD hS hA
    refine va_calli (va_runV (As := [.int (xs (i + 1)), .int 0]) (rest := []) ⟨hx, hb, hml, hown, hts⟩ (s_X15_plainField_x l dC dI cs ty gm L H.size F h0 ρ ta ou so ad na va lc dm tg pe ml bg co sp nb0 nb1 nb2 pl se ke wi hs mo po nu pr sq xa sa n64 m64 ex wh sd tk hd ak ho ot sx s0 s1 s2 nf bd mm ze zt r_97 gl (cln sC) (xs (i + 1)) 0 hW hL_h0 hT_h0 hi_143 ht_144 hFml hpf.2) ⟨callB_of 2 hts (gi kt_1296) rfl rfl rfl (hts _ kt_669) (hts _ kt_1297) (by decide +kernel) ⟨Nat.le_of_ble_eq_true rfl, Nat.le_of_ble_eq_true rfl⟩, (hts _ kt_1298), (hts _ kt_1299)⟩ ⟨fun a U g mk q => ⟨q.1, PTm.calling q.2⟩, pg_recv hK hP hL_h0 hF_136 (q := (RX15, TX15, 59)) rfl, fun U hU hWm => ⟨rfl, PTm.mk hU hWm hP hK hD hE hO⟩⟩ rfl rfl hl.1 rfl (lv_room (Nat.le_of_ble_eq_true rfl)) dL_law_443 ⟨by show _ + 0 ≤ 600000; omega, by show _ + 0 ≤ 7302250; omega⟩) hS (fun q _ h => hFc q h) hFc (fun r_148 u t H1 locs ht hvm hw hB hz1 hk1 hS => ?_)
    obtain ⟨F2, hB1⟩ := hB
    obtain ⟨hP, hD, hO, hR⟩ := QTm.back hB1 ht hFc FR.refl (fun q h => h)
    have hC := hC.kept hBq hk1
    obtain ⟨hi_149, ht_150⟩ := hW.f_ml hL_h0 hT_h0
    have hM : PMl (dC, dI) cs A Bq h0 zt ze gt nf bd mm gm gl H1 := ⟨L, F2, ty, ρ, ta, ou, so, ad, na, va, lc, dm, tg, pe, ml, bg, co, sp, nb0, nb1, nb2, pl, se, ke, wi, hs, mo, po, nu, pr, sq, xa, sa, n64, m64, ex, wh, sd, tk, hd, ak, ho, ot, sx, s0, s1, s2, ⟨hP, hD, hO, hW⟩, hL_h0, hT_h0, (hB1.2.2.2 ta (by rw [ht_142]; simp)).trans hFta, (hB1.2.2.2 ml (by rw [ht_150]; simp)).trans hFml, hn01, hn02, hn12, hU26, hU15, hBq⟩
    have er := hlr.pf hE1 hw hln20
    generalize H1 = H at hC hM hS ⊢
    refine lv_pop hx hb dL_law_446 rfl ?_
    refine lv_goto (tgt := 522) hx hb dL_law_447 (by decide) ?_
    refine W.widen (k := cc + 1) (n := ss + 5) (by omega) (by omega) ?_
    exact kk zt ze f gt n bb zm fL sA sB sC nf bd mm gm gl _ _ _ (by omega) hcn (hrel) hlr hC hM hS hl
  ·
    refine lv_iconst (v := 1) hx hb dL_law_415 (by decide) ?_
    refine lv_goto (tgt := 420) hx hb dL_law_416 (by decide) ?_
    obtain ⟨L, F, ty, ρ, ta, ou, di, ea, ck, sl, po, hs, rt, ⟨hP, hD, hO, hW⟩, hL_xq, hT_xq, hTta, hFt, hFr, hzt, hFd, hcn, hLT, hBq⟩ := hC
    have hG := hGc
    have hTS : TS F ta zt := ⟨hzt, rt, hFt⟩
    obtain ⟨le, sp, μ, ν, x, y0, y1, y2, rx, x9, w0, w1, w2, rx9, o, hm, l1, l2, l3, l4, l5, l6, l7, l8, l9, l10, l11, l12, l13, l14, l15⟩ := id hLT
    have hF_xq := l1
    obtain ⟨hi_151, ⟨r_152, ht_153⟩, hi_154, ⟨r_155, ht_156⟩, hi_157, ht_158, hi_159, ⟨w0_160, w1_161, w2_162, w3_163, nm_164, te_165, ht_166⟩, hi_167, ⟨l1_168, lx_169, ly0_170, ly1_171, ly2_172, k1_173, kx_174, ky0_175, ky1_176, ky2_177, w0_178, w1_179, w2_180, w3_181, w4_182, w5_183, w6_184, w7_185, w8_186, tk_187, h1_188, hx_189, hy_190, hw_191, pw_192, px_193, py_194, pz_195, pu_196, ht_197⟩, hi_198, ⟨w0_199, w1_200, rc_201, rx_202, ry0_203, ry1_204, ry2_205, ht_206⟩, hi_207, ⟨hx_208, hy_209, hw_210, ht_211⟩⟩ := hW.gate hL_xq hT_xq
    obtain ⟨le_212, sp_213, μ_214, ν_215, hF_216, hq_217, hq_218, hq_219, hq_220, hq_221, hq_222⟩ := hO.gate hL_xq hT_xq
    obtain ⟨x_223, y0_224, y1_225, y2_226, ht_227⟩ := id hq_218
    obtain ⟨x_228, y0_229, y1_230, y2_231, ht_232⟩ := id hq_220
    obtain ⟨hiR, htR, -⟩ := hW.bytes hi_151 hTta
    obtain ⟨lx9, -, -, -, -, -, -, -⟩ := hW.msg l2 l3
    have hpf := hlr.pos
    have hFc := pg_free hD hS hA
    refine va_calli (va_runV (As := [.int (xs (i + 1)), .int 1]) (rest := []) ⟨hx, hb, hml, hown, hts⟩ (s_X11_plainField_x l dC dI cs ty L H.size F xq ρ ta ou di ea ck sl po hs le x y0 y1 y2 sp rx r_155 n zm μ fL sA sB sC (gm 0) (gm 1) (cln sC) bb o (xs (i + 1)) 1 hW hL_xq hT_xq hi_154 ht_156 l2 l3 lx9 l6 l1 l9 l10 l11 l12 l13 l14 l8 l15 (by omega) hpf.1) ⟨callB_of 2 hts (gi kt_1292) rfl rfl rfl (hts _ kt_656) (hts _ kt_1293) (by decide +kernel) ⟨Nat.le_of_ble_eq_true rfl, Nat.le_of_ble_eq_true rfl⟩, (hts _ kt_1294), (hts _ kt_1295)⟩ ⟨fun a U g mk q => ⟨q.1, PT.calling q.2⟩, pg_recv hK hP hL_xq hF_216 (q := (RX11, TX11, 9)) rfl, fun U hU hWm => ⟨rfl, PT.mk hU hWm hP hK hD hE hO⟩⟩ rfl rfl hl.1 rfl (lv_room (Nat.le_of_ble_eq_true rfl)) dL_law_420 ⟨by show _ + 0 ≤ 600000; omega, by show _ + 0 ≤ 7302250; omega⟩) hS (fun q _ h => hFc q h) hFc (fun r_233 u t H1 locs ht hvm hw hB hz1 hk1 hS => ?_)
    obtain ⟨F2, hB1⟩ := hB
    obtain ⟨hP, hD, hO, hR⟩ := QT.back hB1 ht hFc FR.refl (fun q h => h)
    have hM := hM.kept hBq hk1
    have hLT := hLT.fr hW hT_xq hB1.2.2.2 (fun q h => by simp only [List.mem_cons, List.not_mem_nil, or_false] at h; omega)
    have hE1 := hw
    have hln20 := l8
    have hC : PCl (dC, dI) cs A Bq xq zt ze f n bb zm fL sA sB sC H1 := ⟨L, F2, ty, ρ, ta, ou, di, ea, ck, sl, po, hs, rt, ⟨hP, hD, hO, hW⟩, hL_xq, hT_xq, hTta, (hB1.2.2.2 ta (by rw [hTta]; simp)).trans hFt, (hB1.2.2.2 rt (by rw [htR]; simp)).trans hFr, hzt, (hB1.2.2.2 di (by rw [ht_158]; simp)).trans hFd, hcn, hLT, hBq⟩
    generalize H1 = H at hC hM hS ⊢
    refine lv_pop hx hb dL_law_423 rfl ?_
    refine lv_aload_n hx hb dL_law_424 rfl (lv_at hl 1 rfl) ?_
    refine lv_aload_n hx hb dL_law_425 rfl (lv_at hl 3 rfl) ?_
    refine lv_iload_n hx hb dL_law_426 rfl (lv_at hl 0 rfl) ?_
    refine lv_iconst (v := 1) hx hb dL_law_427 (by decide) ?_
    refine lv_iadd hx hb dL_law_428 ?_
    refine lv_topi (fun x_234 ex_234 => ?_)
    obtain rfl : x_234 = (nI (i + 1)) := ex_234.trans (nI_add i 1)
    refine va_sld hx hb hX hbl hbA hS (vp_in_nI (by omega) (by omega)) dL_law_429 ?_
    refine lv_topi (fun x_235 ex_235 => ?_)
    obtain rfl : x_235 = (xs (i + 1)) := ex_235.trans (congrArg xs (nI_clamp (by omega)))
    refine lv_aload_n hx hb dL_law_430 rfl (lv_at hl 3 rfl) ?_
    refine lv_iload_n hx hb dL_law_431 rfl (lv_at hl 0 rfl) ?_
    refine lv_iconst (v := 2) hx hb dL_law_432 (by decide) ?_
    refine lv_iadd hx hb dL_law_433 ?_
    refine lv_topi (fun x_236 ex_236 => ?_)
    obtain rfl : x_236 = (nI (i + 2)) := ex_236.trans (nI_add i 2)
    refine va_sld hx hb hX hbl hbA hS (vp_in_nI (by omega) (by omega)) dL_law_434 ?_
    refine lv_topi (fun x_237 ex_237 => ?_)
    obtain rfl : x_237 = (xs (i + 2)) := ex_237.trans (congrArg xs (nI_clamp (by omega)))
    refine lv_if_eq (tgt := 442) hx hb dL_law_435 (by decide) (fun c_238 => absurd c_238 (c_5)) (fun c_238 => ?_)
    refine lv_iconst (v := 1) hx hb dL_law_438 (by decide) ?_
    refine lv_goto (tgt := 443) hx hb dL_law_439 (by decide) ?_
    obtain ⟨L, F, ty, ρ, ta, ou, so, ad, na, va, lc, dm, tg, pe, ml, bg, co, sp, nb0, nb1, nb2, pl, se, ke, wi, hs, mo, po, nu, pr, sq, xa, sa, n64, m64, ex, wh, sd, tk, hd, ak, ho, ot, sx, s0, s1, s2, ⟨hP, hD, hO, hW⟩, hL_h0, hT_h0, hFta, hFml, hn01, hn02, hn12, hU26, hU15, hBq⟩ := hM
    have hG := hGm
    obtain ⟨hq_261, hq_262, hq_263, hq_264, hq_265, hgO, hgA, hgB⟩ := hW.sc hL_h0 hT_h0
    obtain ⟨zo_266, v11_267, v12_268, v14_269, v15_270, v17_271, v18_272, v19_273, v20_274, v21_275, v22_276, v33_277, v52_278, v53_279, v54_280, hF_281, hq_282, hq_283, hq_284, hq_285⟩ := hO.mod hL_h0 hT_h0
    obtain ⟨hi_286, ht_287⟩ := hW.f_ta hL_h0 hT_h0
    obtain ⟨hi_288, r_242, ht_289⟩ := hW.f_pl hL_h0 hT_h0
    obtain ⟨hi_290, ht_291, hq_292⟩ := hW.txt hi_288 ht_289
    have hFc := pg_free hD hS hA
    refine va_calli (va_runV (As := [.int (xs (i + 1)), .int 1]) (rest := []) ⟨hx, hb, hml, hown, hts⟩ (s_X15_plainField_x l dC dI cs ty gm L H.size F h0 ρ ta ou so ad na va lc dm tg pe ml bg co sp nb0 nb1 nb2 pl se ke wi hs mo po nu pr sq xa sa n64 m64 ex wh sd tk hd ak ho ot sx s0 s1 s2 nf bd mm ze zt r_242 gl (cln sC) (xs (i + 1)) 1 hW hL_h0 hT_h0 hi_288 ht_289 hFml hpf.2) ⟨callB_of 2 hts (gi kt_1296) rfl rfl rfl (hts _ kt_669) (hts _ kt_1297) (by decide +kernel) ⟨Nat.le_of_ble_eq_true rfl, Nat.le_of_ble_eq_true rfl⟩, (hts _ kt_1298), (hts _ kt_1299)⟩ ⟨fun a U g mk q => ⟨q.1, PTm.calling q.2⟩, pg_recv hK hP hL_h0 hF_281 (q := (RX15, TX15, 59)) rfl, fun U hU hWm => ⟨rfl, PTm.mk hU hWm hP hK hD hE hO⟩⟩ rfl rfl hl.1 rfl (lv_room (Nat.le_of_ble_eq_true rfl)) dL_law_443 ⟨by show _ + 0 ≤ 600000; omega, by show _ + 0 ≤ 7302250; omega⟩) hS (fun q _ h => hFc q h) hFc (fun r_293 u t H1 locs ht hvm hw hB hz1 hk1 hS => ?_)
    obtain ⟨F2, hB1⟩ := hB
    obtain ⟨hP, hD, hO, hR⟩ := QTm.back hB1 ht hFc FR.refl (fun q h => h)
    have hC := hC.kept hBq hk1
    obtain ⟨hi_294, ht_295⟩ := hW.f_ml hL_h0 hT_h0
    have hM : PMl (dC, dI) cs A Bq h0 zt ze gt nf bd mm gm gl H1 := ⟨L, F2, ty, ρ, ta, ou, so, ad, na, va, lc, dm, tg, pe, ml, bg, co, sp, nb0, nb1, nb2, pl, se, ke, wi, hs, mo, po, nu, pr, sq, xa, sa, n64, m64, ex, wh, sd, tk, hd, ak, ho, ot, sx, s0, s1, s2, ⟨hP, hD, hO, hW⟩, hL_h0, hT_h0, (hB1.2.2.2 ta (by rw [ht_287]; simp)).trans hFta, (hB1.2.2.2 ml (by rw [ht_295]; simp)).trans hFml, hn01, hn02, hn12, hU26, hU15, hBq⟩
    have er := hlr.pf hE1 hw hln20
    generalize H1 = H at hC hM hS ⊢
    refine lv_pop hx hb dL_law_446 rfl ?_
    refine lv_goto (tgt := 522) hx hb dL_law_447 (by decide) ?_
    refine W.widen (k := cc + 1) (n := ss + 5) (by omega) (by omega) ?_
    exact kk zt ze f gt n bb zm fL sA sB sC nf bd mm gm gl _ _ _ (by omega) hcn (hrel) hlr hC hM hS hl
