theorem kt_1284 : Cond.code yX11_plainBody cX11_plainBody 2 (some .int) ∈ tb := tb_at (i := 1086) (by decide +kernel) (by decide +kernel)
theorem kt_1285 : Cond.methodLink RL 57 yX11_plainBody ∈ tb := tb_at (i := 1083) (by decide +kernel) (by decide +kernel)
theorem kt_1286 : Cond.instanceMethod yX11_plainBody ∈ tb := tb_at (i := 1084) (by decide +kernel) (by decide +kernel)
theorem kt_1287 : Cond.selects RX11 yX11_plainBody yX11_plainBody ∈ tb := tb_at (i := 1085) (by decide +kernel) (by decide +kernel)
theorem kt_1288 : Cond.code yX15_plainBody cX15_plainBody 2 (some .int) ∈ tb := tb_at (i := 1666) (by decide +kernel) (by decide +kernel)
theorem kt_1289 : Cond.methodLink RL 61 yX15_plainBody ∈ tb := tb_at (i := 1663) (by decide +kernel) (by decide +kernel)
theorem kt_1290 : Cond.instanceMethod yX15_plainBody ∈ tb := tb_at (i := 1664) (by decide +kernel) (by decide +kernel)
theorem kt_1291 : Cond.selects RX15 yX15_plainBody yX15_plainBody ∈ tb := tb_at (i := 1665) (by decide +kernel) (by decide +kernel)
theorem kt_1292 : Cond.code yX11_plainField cX11_plainField 3 (some .int) ∈ tb := tb_at (i := 1091) (by decide +kernel) (by decide +kernel)
theorem kt_1293 : Cond.methodLink RL 62 yX11_plainField ∈ tb := tb_at (i := 1088) (by decide +kernel) (by decide +kernel)
theorem kt_1294 : Cond.instanceMethod yX11_plainField ∈ tb := tb_at (i := 1089) (by decide +kernel) (by decide +kernel)
theorem kt_1295 : Cond.selects RX11 yX11_plainField yX11_plainField ∈ tb := tb_at (i := 1090) (by decide +kernel) (by decide +kernel)
theorem kt_1296 : Cond.code yX15_plainField cX15_plainField 3 (some .int) ∈ tb := tb_at (i := 1678) (by decide +kernel) (by decide +kernel)
theorem kt_1297 : Cond.methodLink RL 66 yX15_plainField ∈ tb := tb_at (i := 1675) (by decide +kernel) (by decide +kernel)
theorem kt_1298 : Cond.instanceMethod yX15_plainField ∈ tb := tb_at (i := 1676) (by decide +kernel) (by decide +kernel)
theorem kt_1299 : Cond.selects RX15 yX15_plainField yX15_plainField ∈ tb := tb_at (i := 1677) (by decide +kernel) (by decide +kernel)
set_option maxHeartbeats 4000000 in
set_option maxRecDepth 100000 in
theorem law_10 {p : Program} {l : Launch} {e : Env} {s : State} {m : MethodId} {below : List Frame} {meth : Method} {c : Code} {A Bq : Nat → Prop} {dC : Nat → ClassId} {dI : Nat → Nat → Nat} {cs : Nat → ClassId} {b Ln : Nat} {xs : Nat → Int32} (C0 : LC p s m meth c A dC dI cs b Ln xs) {xq h0 i zt ze cc ss : Nat} {f gt : Nat → Int32} {n : Nat} {bb : Int32} {zm : Nat} {fL sA sB sC : Nat → Int32} {nf bd mm : Nat} {gm : Nat → Nat → Nat} {gl : Nat → Int32} (hi : i + 6 ≤ Ln) (hLn : Ln ≤ 384) (hnz : zt ≤ 1280) (hcc : cc + 1 ≤ 600000) (hss : ss + 5 ≤ 7302250) {H : Heap} {locs : List Loc} {ls : Array Slot} (hrel : REL f gt zt) (hlr : LRL n bb zm fL sA sB sC nf bd mm gm gl) (hC : PCl (dC, dI) cs A Bq xq zt ze f n bb zm fL sA sB sC H) (hM : PMl (dC, dI) cs A Bq h0 zt ze gt nf bd mm gm gl H) (hS : va_S A s.heap H locs) (hl : lv_has ls 4 [(3, .int (nI i)), (2, .ref h0), (1, .ref xq), (0, .ref b)]) (kk : ∀ (z2 c2 : Nat) (f2 g2 : Nat → Int32) (n : Nat) (bb : Int32) (zm : Nat) (fL sA sB sC : Nat → Int32) (nf bd mm : Nat) (gm : Nat → Nat → Nat) (gl : Nat → Int32) (H : Heap) (locs : List Loc) (ls : Array Slot), z2 ≤ zt + 20 → c2 ≤ 40 → REL f2 g2 z2 → LRL n bb zm fL sA sB sC nf bd mm gm gl → PCl (dC, dI) cs A Bq xq z2 c2 f2 n bb zm fL sA sB sC H → PMl (dC, dI) cs A Bq h0 z2 c2 g2 nf bd mm gm gl H → va_S A s.heap H locs → lv_has ls 4 [(3, .int (nI i)), (2, .ref h0), (1, .ref xq), (0, .ref b)] → W p l e room_1 s m #[Value.ref b] below meth c H locs (cc + 1) (ss + 5) (lw_Z below #[Value.ref b] s) (F0 m 522 ls [])) : W p l e room_1 s m #[Value.ref b] below meth c H locs cc ss (lw_Z below #[Value.ref b] s) (F0 m 362 ls []) := by
  obtain ⟨hx, hb, hr, hml, hown, hts, hX, hbl, hbA, hlocks, hE, hGc, hGm, hK, hA, hAs⟩ := id C0
  refine lv_aload_n hx hb dL_law_362 rfl (lv_at hl 2 rfl) ?_
  refine lv_aload_n hx hb dL_law_363 rfl (lv_at hl 3 rfl) ?_
  refine lv_iload_n hx hb dL_law_364 rfl (lv_at hl 0 rfl) ?_
  refine lv_iconst (v := 1) hx hb dL_law_365 (by decide) ?_
  refine lv_iadd hx hb dL_law_366 ?_
  refine lv_topi (fun x_1 ex_1 => ?_)
  obtain rfl : x_1 = (nI (i + 1)) := ex_1.trans (nI_add i 1)
  refine va_sld hx hb hX hbl hbA hS (vp_in_nI (by omega) (by omega)) dL_law_367 ?_
  refine lv_topi (fun x_2 ex_2 => ?_)
  obtain rfl : x_2 = (xs (i + 1)) := ex_2.trans (congrArg xs (nI_clamp (by omega)))
  refine lv_if_eq (tgt := 375) hx hb dL_law_368 (by decide) (fun c_3 => ?_) (fun c_3 => ?_)
  ·
    refine lv_iconst (v := 0) hx hb dL_law_375 (by decide) ?_
    obtain ⟨L, F, ty, ρ, ta, ou, di, ea, ck, sl, po, hs, rt, ⟨hP, hD, hO, hW⟩, hL_xq, hT_xq, hTta, hFt, hFr, hzt, hFd, hcn, hLT, hBq⟩ := hC
    have hG := hGc
    have hTS : TS F ta zt := ⟨hzt, rt, hFt⟩
    obtain ⟨hi_4, ⟨r_5, ht_6⟩, hi_7, ⟨r_8, ht_9⟩, hi_10, ht_11, hi_12, ⟨w0_13, w1_14, w2_15, w3_16, nm_17, te_18, ht_19⟩, hi_20, ⟨l1_21, lx_22, ly0_23, ly1_24, ly2_25, k1_26, kx_27, ky0_28, ky1_29, ky2_30, w0_31, w1_32, w2_33, w3_34, w4_35, w5_36, w6_37, w7_38, w8_39, tk_40, h1_41, hx_42, hy_43, hw_44, pw_45, px_46, py_47, pz_48, pu_49, ht_50⟩, hi_51, ⟨w0_52, w1_53, rc_54, rx_55, ry0_56, ry1_57, ry2_58, ht_59⟩, hi_60, ⟨hx_61, hy_62, hw_63, ht_64⟩⟩ := hW.gate hL_xq hT_xq
    obtain ⟨le_65, sp_66, μ_67, ν_68, hF_69, hq_70, hq_71, hq_72, hq_73, hq_74, hq_75⟩ := hO.gate hL_xq hT_xq
    obtain ⟨x_76, y0_77, y1_78, y2_79, ht_80⟩ := id hq_71
    obtain ⟨x_81, y0_82, y1_83, y2_84, ht_85⟩ := id hq_73
    obtain ⟨hiR, htR, -⟩ := hW.bytes hi_4 hTta
    have hFc := pg_free hD hS hA
    refine va_calli (va_runV (As := [.int 0]) (rest := []) ⟨hx, hb, hml, hown, hts⟩ (s_X11_plainBody l dC dI cs ty L H.size F xq ρ ta ou di ea ck sl po hs zt 0 hW hL_xq hT_xq hTS) ⟨callB_of 1 hts (gi kt_1284) rfl rfl rfl (hts _ kt_656) (hts _ kt_1285) (by decide +kernel) ⟨Nat.le_of_ble_eq_true rfl, Nat.le_of_ble_eq_true rfl⟩, (hts _ kt_1286), (hts _ kt_1287)⟩ ⟨fun a U g mk q => ⟨q.1, PT.calling q.2⟩, pg_recv hK hP hL_xq hF_69 (q := (RX11, TX11, 9)) rfl, fun U hU hWm => ⟨rfl, PT.mk hU hWm hP hK hD hE hO⟩⟩ rfl rfl hl.1 rfl (lv_room (Nat.le_of_ble_eq_true rfl)) dL_law_376 ⟨by show _ + 0 ≤ 600000; omega, by show _ + 0 ≤ 7302250; omega⟩) hS (fun q _ h => hFc q h) hFc (fun r_86 u t H1 locs ht hvm hw hB hz1 hk1 hS => ?_)
    obtain ⟨F2, hB1, hf0⟩ := hB
    obtain ⟨hP, hD, hO, hR⟩ := QT.back hB1 ht hFc FR.refl (fun q h => h)
    have hM := hM.kept hBq hk1
    have hLT := hLT.fr hW hT_xq hB1.2.2.2 (fun q h => by simp only [List.mem_cons, List.not_mem_nil, or_false] at h; omega)
    have hC : PCl (dC, dI) cs A Bq xq zt ze f n bb zm fL sA sB sC H1 := ⟨L, F2, ty, ρ, ta, ou, di, ea, ck, sl, po, hs, rt, ⟨hP, hD, hO, hW⟩, hL_xq, hT_xq, hTta, (hB1.2.2.2 ta (by rw [hTta]; simp)).trans hFt, (hB1.2.2.2 rt (by rw [htR]; simp)).trans hFr, hzt, (hB1.2.2.2 di (by rw [ht_11]; simp)).trans hFd, hcn, hLT, hBq⟩
    generalize H1 = H at hC hM hS ⊢
    refine lv_pop hx hb dL_law_379 rfl ?_
    refine lv_aload_n hx hb dL_law_380 rfl (lv_at hl 1 rfl) ?_
    refine lv_aload_n hx hb dL_law_381 rfl (lv_at hl 3 rfl) ?_
    refine lv_iload_n hx hb dL_law_382 rfl (lv_at hl 0 rfl) ?_
    refine lv_iconst (v := 1) hx hb dL_law_383 (by decide) ?_
    refine lv_iadd hx hb dL_law_384 ?_
    refine lv_topi (fun x_87 ex_87 => ?_)
    obtain rfl : x_87 = (nI (i + 1)) := ex_87.trans (nI_add i 1)
    refine va_sld hx hb hX hbl hbA hS (vp_in_nI (by omega) (by omega)) dL_law_385 ?_
    refine lv_topi (fun x_88 ex_88 => ?_)
    obtain rfl : x_88 = (xs (i + 1)) := ex_88.trans (congrArg xs (nI_clamp (by omega)))
    refine lv_if_eq (tgt := 393) hx hb dL_law_386 (by decide) (fun c_89 => ?_) (fun c_89 => ?_)
    ·
      refine lv_iconst (v := 0) hx hb dL_law_393 (by decide) ?_
      obtain ⟨L, F, ty, ρ, ta, ou, so, ad, na, va, lc, dm, tg, pe, ml, bg, co, sp, nb0, nb1, nb2, pl, se, ke, wi, hs, mo, po, nu, pr, sq, xa, sa, n64, m64, ex, wh, sd, tk, hd, ak, ho, ot, sx, s0, s1, s2, ⟨hP, hD, hO, hW⟩, hL_h0, hT_h0, hFta, hFml, hn01, hn02, hn12, hU26, hU15, hBq⟩ := hM
      have hG := hGm
      obtain ⟨hq_112, hq_113, hq_114, hq_115, hq_116, hgO, hgA, hgB⟩ := hW.sc hL_h0 hT_h0
      obtain ⟨zo_117, v11_118, v12_119, v14_120, v15_121, v17_122, v18_123, v19_124, v20_125, v21_126, v22_127, v33_128, v52_129, v53_130, v54_131, hF_132, hq_133, hq_134, hq_135, hq_136, hq_137⟩ := hO.mod hL_h0 hT_h0
      obtain ⟨hi_138, ht_139⟩ := hW.f_ta hL_h0 hT_h0
      obtain ⟨hi_140, r_93, ht_141⟩ := hW.f_pl hL_h0 hT_h0
      have hFc := pg_free hD hS hA
      refine va_calli (va_runV (As := [.int 0]) (rest := []) ⟨hx, hb, hml, hown, hts⟩ (s_X15_plainBody l dC dI cs ty gm L H.size F h0 ρ ta ou so ad na va lc dm tg pe ml bg co sp nb0 nb1 nb2 pl se ke wi hs mo po nu pr sq xa sa n64 m64 ex wh sd tk hd ak ho ot sx s0 s1 s2 nf bd mm ze zt r_93 0 hW hL_h0 hT_h0 hi_140 ht_141) ⟨callB_of 1 hts (gi kt_1288) rfl rfl rfl (hts _ kt_669) (hts _ kt_1289) (by decide +kernel) ⟨Nat.le_of_ble_eq_true rfl, Nat.le_of_ble_eq_true rfl⟩, (hts _ kt_1290), (hts _ kt_1291)⟩ ⟨fun a U g mk q => ⟨q.1, PTm.calling q.2⟩, pg_recv hK hP hL_h0 hF_132 (q := (RX15, TX15, 59)) rfl, fun U hU hWm => ⟨rfl, PTm.mk hU hWm hP hK hD hE hO⟩⟩ rfl rfl hl.1 rfl (lv_room (Nat.le_of_ble_eq_true rfl)) dL_law_394 ⟨by show _ + 0 ≤ 600000; omega, by show _ + 0 ≤ 7302250; omega⟩) hS (fun q _ h => hFc q h) hFc (fun r_142 u t H1 locs ht hvm hw hB hz1 hk1 hS => ?_)
      obtain ⟨F2, hB1⟩ := hB
      obtain ⟨hP, hD, hO, hR⟩ := QTm.back hB1 ht hFc FR.refl (fun q h => h)
      have hC := hC.kept hBq hk1
      obtain ⟨hi_143, ht_144⟩ := hW.f_ml hL_h0 hT_h0
      have hM : PMl (dC, dI) cs A Bq h0 zt ze gt nf bd mm gm gl H1 := ⟨L, F2, ty, ρ, ta, ou, so, ad, na, va, lc, dm, tg, pe, ml, bg, co, sp, nb0, nb1, nb2, pl, se, ke, wi, hs, mo, po, nu, pr, sq, xa, sa, n64, m64, ex, wh, sd, tk, hd, ak, ho, ot, sx, s0, s1, s2, ⟨hP, hD, hO, hW⟩, hL_h0, hT_h0, (hB1.2.2.2 ta (by rw [ht_139]; simp)).trans hFta, (hB1.2.2.2 ml (by rw [ht_144]; simp)).trans hFml, hn01, hn02, hn12, hU26, hU15, hBq⟩
      generalize H1 = H at hC hM hS ⊢
      refine lv_pop hx hb dL_law_397 rfl ?_
      refine lv_goto (tgt := 522) hx hb dL_law_398 (by decide) ?_
      refine W.widen (k := cc + 1) (n := ss + 5) (by omega) (by omega) ?_
      exact kk zt ze f gt n bb zm fL sA sB sC nf bd mm gm gl _ _ _ (by omega) hcn (hrel) hlr hC hM hS hl
    ·
      refine lv_iconst (v := 1) hx hb dL_law_389 (by decide) ?_
      refine lv_goto (tgt := 394) hx hb dL_law_390 (by decide) ?_
      obtain ⟨L, F, ty, ρ, ta, ou, so, ad, na, va, lc, dm, tg, pe, ml, bg, co, sp, nb0, nb1, nb2, pl, se, ke, wi, hs, mo, po, nu, pr, sq, xa, sa, n64, m64, ex, wh, sd, tk, hd, ak, ho, ot, sx, s0, s1, s2, ⟨hP, hD, hO, hW⟩, hL_h0, hT_h0, hFta, hFml, hn01, hn02, hn12, hU26, hU15, hBq⟩ := hM
      have hG := hGm
      obtain ⟨hq_167, hq_168, hq_169, hq_170, hq_171, hgO, hgA, hgB⟩ := hW.sc hL_h0 hT_h0
      obtain ⟨zo_172, v11_173, v12_174, v14_175, v15_176, v17_177, v18_178, v19_179, v20_180, v21_181, v22_182, v33_183, v52_184, v53_185, v54_186, hF_187, hq_188, hq_189, hq_190, hq_191, hq_192⟩ := hO.mod hL_h0 hT_h0
      obtain ⟨hi_193, ht_194⟩ := hW.f_ta hL_h0 hT_h0
      obtain ⟨hi_195, r_148, ht_196⟩ := hW.f_pl hL_h0 hT_h0
      have hFc := pg_free hD hS hA
      refine va_calli (va_runV (As := [.int 1]) (rest := []) ⟨hx, hb, hml, hown, hts⟩ (s_X15_plainBody l dC dI cs ty gm L H.size F h0 ρ ta ou so ad na va lc dm tg pe ml bg co sp nb0 nb1 nb2 pl se ke wi hs mo po nu pr sq xa sa n64 m64 ex wh sd tk hd ak ho ot sx s0 s1 s2 nf bd mm ze zt r_148 1 hW hL_h0 hT_h0 hi_195 ht_196) ⟨callB_of 1 hts (gi kt_1288) rfl rfl rfl (hts _ kt_669) (hts _ kt_1289) (by decide +kernel) ⟨Nat.le_of_ble_eq_true rfl, Nat.le_of_ble_eq_true rfl⟩, (hts _ kt_1290), (hts _ kt_1291)⟩ ⟨fun a U g mk q => ⟨q.1, PTm.calling q.2⟩, pg_recv hK hP hL_h0 hF_187 (q := (RX15, TX15, 59)) rfl, fun U hU hWm => ⟨rfl, PTm.mk hU hWm hP hK hD hE hO⟩⟩ rfl rfl hl.1 rfl (lv_room (Nat.le_of_ble_eq_true rfl)) dL_law_394 ⟨by show _ + 0 ≤ 600000; omega, by show _ + 0 ≤ 7302250; omega⟩) hS (fun q _ h => hFc q h) hFc (fun r_197 u t H1 locs ht hvm hw hB hz1 hk1 hS => ?_)
      obtain ⟨F2, hB1⟩ := hB
      obtain ⟨hP, hD, hO, hR⟩ := QTm.back hB1 ht hFc FR.refl (fun q h => h)
      have hC := hC.kept hBq hk1
      obtain ⟨hi_198, ht_199⟩ := hW.f_ml hL_h0 hT_h0
      have hM : PMl (dC, dI) cs A Bq h0 zt ze gt nf bd mm gm gl H1 := ⟨L, F2, ty, ρ, ta, ou, so, ad, na, va, lc, dm, tg, pe, ml, bg, co, sp, nb0, nb1, nb2, pl, se, ke, wi, hs, mo, po, nu, pr, sq, xa, sa, n64, m64, ex, wh, sd, tk, hd, ak, ho, ot, sx, s0, s1, s2, ⟨hP, hD, hO, hW⟩, hL_h0, hT_h0, (hB1.2.2.2 ta (by rw [ht_194]; simp)).trans hFta, (hB1.2.2.2 ml (by rw [ht_199]; simp)).trans hFml, hn01, hn02, hn12, hU26, hU15, hBq⟩
      generalize H1 = H at hC hM hS ⊢
      refine lv_pop hx hb dL_law_397 rfl ?_
      refine lv_goto (tgt := 522) hx hb dL_law_398 (by decide) ?_
      refine W.widen (k := cc + 1) (n := ss + 5) (by omega) (by omega) ?_
      exact kk zt ze f gt n bb zm fL sA sB sC nf bd mm gm gl _ _ _ (by omega) hcn (hrel) hlr hC hM hS hl
  ·
    refine lv_iconst (v := 1) hx hb dL_law_371 (by decide) ?_
    refine lv_goto (tgt := 376) hx hb dL_law_372 (by decide) ?_
    obtain ⟨L, F, ty, ρ, ta, ou, di, ea, ck, sl, po, hs, rt, ⟨hP, hD, hO, hW⟩, hL_xq, hT_xq, hTta, hFt, hFr, hzt, hFd, hcn, hLT, hBq⟩ := hC
    have hG := hGc
    have hTS : TS F ta zt := ⟨hzt, rt, hFt⟩
    obtain ⟨hi_200, ⟨r_201, ht_202⟩, hi_203, ⟨r_204, ht_205⟩, hi_206, ht_207, hi_208, ⟨w0_209, w1_210, w2_211, w3_212, nm_213, te_214, ht_215⟩, hi_216, ⟨l1_217, lx_218, ly0_219, ly1_220, ly2_221, k1_222, kx_223, ky0_224, ky1_225, ky2_226, w0_227, w1_228, w2_229, w3_230, w4_231, w5_232, w6_233, w7_234, w8_235, tk_236, h1_237, hx_238, hy_239, hw_240, pw_241, px_242, py_243, pz_244, pu_245, ht_246⟩, hi_247, ⟨w0_248, w1_249, rc_250, rx_251, ry0_252, ry1_253, ry2_254, ht_255⟩, hi_256, ⟨hx_257, hy_258, hw_259, ht_260⟩⟩ := hW.gate hL_xq hT_xq
    obtain ⟨le_261, sp_262, μ_263, ν_264, hF_265, hq_266, hq_267, hq_268, hq_269, hq_270, hq_271⟩ := hO.gate hL_xq hT_xq
    obtain ⟨x_272, y0_273, y1_274, y2_275, ht_276⟩ := id hq_267
    obtain ⟨x_277, y0_278, y1_279, y2_280, ht_281⟩ := id hq_269
    obtain ⟨hiR, htR, -⟩ := hW.bytes hi_200 hTta
    have hFc := pg_free hD hS hA
    refine va_calli (va_runV (As := [.int 1]) (rest := []) ⟨hx, hb, hml, hown, hts⟩ (s_X11_plainBody l dC dI cs ty L H.size F xq ρ ta ou di ea ck sl po hs zt 1 hW hL_xq hT_xq hTS) ⟨callB_of 1 hts (gi kt_1284) rfl rfl rfl (hts _ kt_656) (hts _ kt_1285) (by decide +kernel) ⟨Nat.le_of_ble_eq_true rfl, Nat.le_of_ble_eq_true rfl⟩, (hts _ kt_1286), (hts _ kt_1287)⟩ ⟨fun a U g mk q => ⟨q.1, PT.calling q.2⟩, pg_recv hK hP hL_xq hF_265 (q := (RX11, TX11, 9)) rfl, fun U hU hWm => ⟨rfl, PT.mk hU hWm hP hK hD hE hO⟩⟩ rfl rfl hl.1 rfl (lv_room (Nat.le_of_ble_eq_true rfl)) dL_law_376 ⟨by show _ + 0 ≤ 600000; omega, by show _ + 0 ≤ 7302250; omega⟩) hS (fun q _ h => hFc q h) hFc (fun r_282 u t H1 locs ht hvm hw hB hz1 hk1 hS => ?_)
    obtain ⟨F2, hB1, hf0⟩ := hB
    obtain ⟨hP, hD, hO, hR⟩ := QT.back hB1 ht hFc FR.refl (fun q h => h)
    have hM := hM.kept hBq hk1
    have hLT := hLT.fr hW hT_xq hB1.2.2.2 (fun q h => by simp only [List.mem_cons, List.not_mem_nil, or_false] at h; omega)
    have hC : PCl (dC, dI) cs A Bq xq zt ze f n bb zm fL sA sB sC H1 := ⟨L, F2, ty, ρ, ta, ou, di, ea, ck, sl, po, hs, rt, ⟨hP, hD, hO, hW⟩, hL_xq, hT_xq, hTta, (hB1.2.2.2 ta (by rw [hTta]; simp)).trans hFt, (hB1.2.2.2 rt (by rw [htR]; simp)).trans hFr, hzt, (hB1.2.2.2 di (by rw [ht_207]; simp)).trans hFd, hcn, hLT, hBq⟩
    generalize H1 = H at hC hM hS ⊢
    refine lv_pop hx hb dL_law_379 rfl ?_
    refine lv_aload_n hx hb dL_law_380 rfl (lv_at hl 1 rfl) ?_
    refine lv_aload_n hx hb dL_law_381 rfl (lv_at hl 3 rfl) ?_
    refine lv_iload_n hx hb dL_law_382 rfl (lv_at hl 0 rfl) ?_
    refine lv_iconst (v := 1) hx hb dL_law_383 (by decide) ?_
    refine lv_iadd hx hb dL_law_384 ?_
    refine lv_topi (fun x_283 ex_283 => ?_)
    obtain rfl : x_283 = (nI (i + 1)) := ex_283.trans (nI_add i 1)
    refine va_sld hx hb hX hbl hbA hS (vp_in_nI (by omega) (by omega)) dL_law_385 ?_
    refine lv_topi (fun x_284 ex_284 => ?_)
    obtain rfl : x_284 = (xs (i + 1)) := ex_284.trans (congrArg xs (nI_clamp (by omega)))
    refine lv_if_eq (tgt := 393) hx hb dL_law_386 (by decide) (fun c_285 => ?_) (fun c_285 => ?_)
    ·
      refine lv_iconst (v := 0) hx hb dL_law_393 (by decide) ?_
      obtain ⟨L, F, ty, ρ, ta, ou, so, ad, na, va, lc, dm, tg, pe, ml, bg, co, sp, nb0, nb1, nb2, pl, se, ke, wi, hs, mo, po, nu, pr, sq, xa, sa, n64, m64, ex, wh, sd, tk, hd, ak, ho, ot, sx, s0, s1, s2, ⟨hP, hD, hO, hW⟩, hL_h0, hT_h0, hFta, hFml, hn01, hn02, hn12, hU26, hU15, hBq⟩ := hM
      have hG := hGm
      obtain ⟨hq_308, hq_309, hq_310, hq_311, hq_312, hgO, hgA, hgB⟩ := hW.sc hL_h0 hT_h0
      obtain ⟨zo_313, v11_314, v12_315, v14_316, v15_317, v17_318, v18_319, v19_320, v20_321, v21_322, v22_323, v33_324, v52_325, v53_326, v54_327, hF_328, hq_329, hq_330, hq_331, hq_332, hq_333⟩ := hO.mod hL_h0 hT_h0
      obtain ⟨hi_334, ht_335⟩ := hW.f_ta hL_h0 hT_h0
      obtain ⟨hi_336, r_289, ht_337⟩ := hW.f_pl hL_h0 hT_h0
      have hFc := pg_free hD hS hA
      refine va_calli (va_runV (As := [.int 0]) (rest := []) ⟨hx, hb, hml, hown, hts⟩ (s_X15_plainBody l dC dI cs ty gm L H.size F h0 ρ ta ou so ad na va lc dm tg pe ml bg co sp nb0 nb1 nb2 pl se ke wi hs mo po nu pr sq xa sa n64 m64 ex wh sd tk hd ak ho ot sx s0 s1 s2 nf bd mm ze zt r_289 0 hW hL_h0 hT_h0 hi_336 ht_337) ⟨callB_of 1 hts (gi kt_1288) rfl rfl rfl (hts _ kt_669) (hts _ kt_1289) (by decide +kernel) ⟨Nat.le_of_ble_eq_true rfl, Nat.le_of_ble_eq_true rfl⟩, (hts _ kt_1290), (hts _ kt_1291)⟩ ⟨fun a U g mk q => ⟨q.1, PTm.calling q.2⟩, pg_recv hK hP hL_h0 hF_328 (q := (RX15, TX15, 59)) rfl, fun U hU hWm => ⟨rfl, PTm.mk hU hWm hP hK hD hE hO⟩⟩ rfl rfl hl.1 rfl (lv_room (Nat.le_of_ble_eq_true rfl)) dL_law_394 ⟨by show _ + 0 ≤ 600000; omega, by show _ + 0 ≤ 7302250; omega⟩) hS (fun q _ h => hFc q h) hFc (fun r_338 u t H1 locs ht hvm hw hB hz1 hk1 hS => ?_)
      obtain ⟨F2, hB1⟩ := hB
      obtain ⟨hP, hD, hO, hR⟩ := QTm.back hB1 ht hFc FR.refl (fun q h => h)
      have hC := hC.kept hBq hk1
      obtain ⟨hi_339, ht_340⟩ := hW.f_ml hL_h0 hT_h0
      have hM : PMl (dC, dI) cs A Bq h0 zt ze gt nf bd mm gm gl H1 := ⟨L, F2, ty, ρ, ta, ou, so, ad, na, va, lc, dm, tg, pe, ml, bg, co, sp, nb0, nb1, nb2, pl, se, ke, wi, hs, mo, po, nu, pr, sq, xa, sa, n64, m64, ex, wh, sd, tk, hd, ak, ho, ot, sx, s0, s1, s2, ⟨hP, hD, hO, hW⟩, hL_h0, hT_h0, (hB1.2.2.2 ta (by rw [ht_335]; simp)).trans hFta, (hB1.2.2.2 ml (by rw [ht_340]; simp)).trans hFml, hn01, hn02, hn12, hU26, hU15, hBq⟩
      generalize H1 = H at hC hM hS ⊢
      refine lv_pop hx hb dL_law_397 rfl ?_
      refine lv_goto (tgt := 522) hx hb dL_law_398 (by decide) ?_
      refine W.widen (k := cc + 1) (n := ss + 5) (by omega) (by omega) ?_
      exact kk zt ze f gt n bb zm fL sA sB sC nf bd mm gm gl _ _ _ (by omega) hcn (hrel) hlr hC hM hS hl
    ·
      refine lv_iconst (v := 1) hx hb dL_law_389 (by decide) ?_
      refine lv_goto (tgt := 394) hx hb dL_law_390 (by decide) ?_
      obtain ⟨L, F, ty, ρ, ta, ou, so, ad, na, va, lc, dm, tg, pe, ml, bg, co, sp, nb0, nb1, nb2, pl, se, ke, wi, hs, mo, po, nu, pr, sq, xa, sa, n64, m64, ex, wh, sd, tk, hd, ak, ho, ot, sx, s0, s1, s2, ⟨hP, hD, hO, hW⟩, hL_h0, hT_h0, hFta, hFml, hn01, hn02, hn12, hU26, hU15, hBq⟩ := hM
      have hG := hGm
      obtain ⟨hq_363, hq_364, hq_365, hq_366, hq_367, hgO, hgA, hgB⟩ := hW.sc hL_h0 hT_h0
      obtain ⟨zo_368, v11_369, v12_370, v14_371, v15_372, v17_373, v18_374, v19_375, v20_376, v21_377, v22_378, v33_379, v52_380, v53_381, v54_382, hF_383, hq_384, hq_385, hq_386, hq_387, hq_388⟩ := hO.mod hL_h0 hT_h0
      obtain ⟨hi_389, ht_390⟩ := hW.f_ta hL_h0 hT_h0
      obtain ⟨hi_391, r_344, ht_392⟩ := hW.f_pl hL_h0 hT_h0
      have hFc := pg_free hD hS hA
      refine va_calli (va_runV (As := [.int 1]) (rest := []) ⟨hx, hb, hml, hown, hts⟩ (s_X15_plainBody l dC dI cs ty gm L H.size F h0 ρ ta ou so ad na va lc dm tg pe ml bg co sp nb0 nb1 nb2 pl se ke wi hs mo po nu pr sq xa sa n64 m64 ex wh sd tk hd ak ho ot sx s0 s1 s2 nf bd mm ze zt r_344 1 hW hL_h0 hT_h0 hi_391 ht_392) ⟨callB_of 1 hts (gi kt_1288) rfl rfl rfl (hts _ kt_669) (hts _ kt_1289) (by decide +kernel) ⟨Nat.le_of_ble_eq_true rfl, Nat.le_of_ble_eq_true rfl⟩, (hts _ kt_1290), (hts _ kt_1291)⟩ ⟨fun a U g mk q => ⟨q.1, PTm.calling q.2⟩, pg_recv hK hP hL_h0 hF_383 (q := (RX15, TX15, 59)) rfl, fun U hU hWm => ⟨rfl, PTm.mk hU hWm hP hK hD hE hO⟩⟩ rfl rfl hl.1 rfl (lv_room (Nat.le_of_ble_eq_true rfl)) dL_law_394 ⟨by show _ + 0 ≤ 600000; omega, by show _ + 0 ≤ 7302250; omega⟩) hS (fun q _ h => hFc q h) hFc (fun r_393 u t H1 locs ht hvm hw hB hz1 hk1 hS => ?_)
      obtain ⟨F2, hB1⟩ := hB
      obtain ⟨hP, hD, hO, hR⟩ := QTm.back hB1 ht hFc FR.refl (fun q h => h)
      have hC := hC.kept hBq hk1
      obtain ⟨hi_394, ht_395⟩ := hW.f_ml hL_h0 hT_h0
      have hM : PMl (dC, dI) cs A Bq h0 zt ze gt nf bd mm gm gl H1 := ⟨L, F2, ty, ρ, ta, ou, so, ad, na, va, lc, dm, tg, pe, ml, bg, co, sp, nb0, nb1, nb2, pl, se, ke, wi, hs, mo, po, nu, pr, sq, xa, sa, n64, m64, ex, wh, sd, tk, hd, ak, ho, ot, sx, s0, s1, s2, ⟨hP, hD, hO, hW⟩, hL_h0, hT_h0, (hB1.2.2.2 ta (by rw [ht_390]; simp)).trans hFta, (hB1.2.2.2 ml (by rw [ht_395]; simp)).trans hFml, hn01, hn02, hn12, hU26, hU15, hBq⟩
      generalize H1 = H at hC hM hS ⊢
      refine lv_pop hx hb dL_law_397 rfl ?_
      refine lv_goto (tgt := 522) hx hb dL_law_398 (by decide) ?_
      refine W.widen (k := cc + 1) (n := ss + 5) (by omega) (by omega) ?_
      exact kk zt ze f gt n bb zm fL sA sB sC nf bd mm gm gl _ _ _ (by omega) hcn (hrel) hlr hC hM hS hl
set_option maxHeartbeats 4000000 in
set_option maxRecDepth 100000 in
theorem law_11 {p : Program} {l : Launch} {e : Env} {s : State} {m : MethodId} {below : List Frame} {meth : Method} {c : Code} {A Bq : Nat → Prop} {dC : Nat → ClassId} {dI : Nat → Nat → Nat} {cs : Nat → ClassId} {b Ln : Nat} {xs : Nat → Int32} (C0 : LC p s m meth c A dC dI cs b Ln xs) {xq h0 i zt ze cc ss : Nat} {f gt : Nat → Int32} {n : Nat} {bb : Int32} {zm : Nat} {fL sA sB sC : Nat → Int32} {nf bd mm : Nat} {gm : Nat → Nat → Nat} {gl : Nat → Int32} (hi : i + 6 ≤ Ln) (hLn : Ln ≤ 384) (hnz : zt ≤ 1280) (hcc : cc + 1 ≤ 600000) (hss : ss + 5 ≤ 7302250) {H : Heap} {locs : List Loc} {ls : Array Slot} (hrel : REL f gt zt) (hlr : LRL n bb zm fL sA sB sC nf bd mm gm gl) (hC : PCl (dC, dI) cs A Bq xq zt ze f n bb zm fL sA sB sC H) (hM : PMl (dC, dI) cs A Bq h0 zt ze gt nf bd mm gm gl H) (hS : va_S A s.heap H locs) (hl : lv_has ls 4 [(3, .int (nI i)), (2, .ref h0), (1, .ref xq), (0, .ref b)]) (kk : ∀ (z2 c2 : Nat) (f2 g2 : Nat → Int32) (n : Nat) (bb : Int32) (zm : Nat) (fL sA sB sC : Nat → Int32) (nf bd mm : Nat) (gm : Nat → Nat → Nat) (gl : Nat → Int32) (H : Heap) (locs : List Loc) (ls : Array Slot), z2 ≤ zt + 20 → c2 ≤ 40 → REL f2 g2 z2 → LRL n bb zm fL sA sB sC nf bd mm gm gl → PCl (dC, dI) cs A Bq xq z2 c2 f2 n bb zm fL sA sB sC H → PMl (dC, dI) cs A Bq h0 z2 c2 g2 nf bd mm gm gl H → va_S A s.heap H locs → lv_has ls 4 [(3, .int (nI i)), (2, .ref h0), (1, .ref xq), (0, .ref b)] → W p l e room_1 s m #[Value.ref b] below meth c H locs (cc + 1) (ss + 5) (lw_Z below #[Value.ref b] s) (F0 m 522 ls [])) : W p l e room_1 s m #[Value.ref b] below meth c H locs cc ss (lw_Z below #[Value.ref b] s) (F0 m 401 ls []) := by
  obtain ⟨hx, hb, hr, hml, hown, hts, hX, hbl, hbA, hlocks, hE, hGc, hGm, hK, hA, hAs⟩ := id C0
  refine lv_aload_n hx hb dL_law_401 rfl (lv_at hl 2 rfl) ?_
  refine lv_aload_n hx hb dL_law_402 rfl (lv_at hl 3 rfl) ?_
  refine lv_iload_n hx hb dL_law_403 rfl (lv_at hl 0 rfl) ?_
  refine lv_iconst (v := 1) hx hb dL_law_404 (by decide) ?_
  refine lv_iadd hx hb dL_law_405 ?_
  refine lv_topi (fun x_1 ex_1 => ?_)
  obtain rfl : x_1 = (nI (i + 1)) := ex_1.trans (nI_add i 1)
  refine va_sld hx hb hX hbl hbA hS (vp_in_nI (by omega) (by omega)) dL_law_406 ?_
  refine lv_topi (fun x_2 ex_2 => ?_)
  obtain rfl : x_2 = (xs (i + 1)) := ex_2.trans (congrArg xs (nI_clamp (by omega)))
  refine lv_aload_n hx hb dL_law_407 rfl (lv_at hl 3 rfl) ?_
  refine lv_iload_n hx hb dL_law_408 rfl (lv_at hl 0 rfl) ?_
  refine lv_iconst (v := 2) hx hb dL_law_409 (by decide) ?_
  refine lv_iadd hx hb dL_law_410 ?_
  refine lv_topi (fun x_3 ex_3 => ?_)
  obtain rfl : x_3 = (nI (i + 2)) := ex_3.trans (nI_add i 2)
  refine va_sld hx hb hX hbl hbA hS (vp_in_nI (by omega) (by omega)) dL_law_411 ?_
  refine lv_topi (fun x_4 ex_4 => ?_)
  obtain rfl : x_4 = (xs (i + 2)) := ex_4.trans (congrArg xs (nI_clamp (by omega)))
  refine lv_if_eq (tgt := 419) hx hb dL_law_412 (by decide) (fun c_5 => ?_) (fun c_5 => ?_)
  ·
    refine lv_iconst (v := 0) hx hb dL_law_419 (by decide) ?_
    obtain ⟨L, F, ty, ρ, ta, ou, di, ea, ck, sl, po, hs, rt, ⟨hP, hD, hO, hW⟩, hL_xq, hT_xq, hTta, hFt, hFr, hzt, hFd, hcn, hLT, hBq⟩ := hC
    have hG := hGc
    have hTS : TS F ta zt := ⟨hzt, rt, hFt⟩
    obtain ⟨hi_6, ⟨r_7, ht_8⟩, hi_9, ⟨r_10, ht_11⟩, hi_12, ht_13, hi_14, ⟨w0_15, w1_16, w2_17, w3_18, nm_19, te_20, ht_21⟩, hi_22, ⟨l1_23, lx_24, ly0_25, ly1_26, ly2_27, k1_28, kx_29, ky0_30, ky1_31, ky2_32, w0_33, w1_34, w2_35, w3_36, w4_37, w5_38, w6_39, w7_40, w8_41, tk_42, h1_43, hx_44, hy_45, hw_46, pw_47, px_48, py_49, pz_50, pu_51, ht_52⟩, hi_53, ⟨w0_54, w1_55, rc_56, rx_57, ry0_58, ry1_59, ry2_60, ht_61⟩, hi_62, ⟨hx_63, hy_64, hw_65, ht_66⟩⟩ := hW.gate hL_xq hT_xq
    obtain ⟨le_67, sp_68, μ_69, ν_70, hF_71, hq_72, hq_73, hq_74, hq_75, hq_76, hq_77⟩ := hO.gate hL_xq hT_xq
    obtain ⟨x_78, y0_79, y1_80, y2_81, ht_82⟩ := id hq_73
    obtain ⟨x_83, y0_84, y1_85, y2_86, ht_87⟩ := id hq_75
    obtain ⟨hiR, htR, -⟩ := hW.bytes hi_6 hTta
    have hFc := pg_free hD hS hA
    refine va_calli (va_runV (As := [.int (xs (i + 1)), .int 0]) (rest := []) ⟨hx, hb, hml, hown, hts⟩ (s_X11_plainField l dC dI cs ty L H.size F xq ρ ta ou di ea ck sl po hs zt (xs (i + 1)) 0 hW hL_xq hT_xq hTS) ⟨callB_of 2 hts (gi kt_1292) rfl rfl rfl (hts _ kt_656) (hts _ kt_1293) (by decide +kernel) ⟨Nat.le_of_ble_eq_true rfl, Nat.le_of_ble_eq_true rfl⟩, (hts _ kt_1294), (hts _ kt_1295)⟩ ⟨fun a U g mk q => ⟨q.1, PT.calling q.2⟩, pg_recv hK hP hL_xq hF_71 (q := (RX11, TX11, 9)) rfl, fun U hU hWm => ⟨rfl, PT.mk hU hWm hP hK hD hE hO⟩⟩ rfl rfl hl.1 rfl (lv_room (Nat.le_of_ble_eq_true rfl)) dL_law_420 ⟨by show _ + 0 ≤ 600000; omega, by show _ + 0 ≤ 7302250; omega⟩) hS (fun q _ h => hFc q h) hFc (fun r_88 u t H1 locs ht hvm hw hB hz1 hk1 hS => ?_)
    obtain ⟨F2, hB1, hf0⟩ := hB
    obtain ⟨hP, hD, hO, hR⟩ := QT.back hB1 ht hFc FR.refl (fun q h => h)
    have hM := hM.kept hBq hk1
    have hLT := hLT.fr hW hT_xq hB1.2.2.2 (fun q h => by simp only [List.mem_cons, List.not_mem_nil, or_false] at h; omega)
    have hC : PCl (dC, dI) cs A Bq xq zt ze f n bb zm fL sA sB sC H1 := ⟨L, F2, ty, ρ, ta, ou, di, ea, ck, sl, po, hs, rt, ⟨hP, hD, hO, hW⟩, hL_xq, hT_xq, hTta, (hB1.2.2.2 ta (by rw [hTta]; simp)).trans hFt, (hB1.2.2.2 rt (by rw [htR]; simp)).trans hFr, hzt, (hB1.2.2.2 di (by rw [ht_13]; simp)).trans hFd, hcn, hLT, hBq⟩
    generalize H1 = H at hC hM hS ⊢
    refine lv_pop hx hb dL_law_423 rfl ?_
    refine lv_aload_n hx hb dL_law_424 rfl (lv_at hl 1 rfl) ?_
    refine lv_aload_n hx hb dL_law_425 rfl (lv_at hl 3 rfl) ?_
    refine lv_iload_n hx hb dL_law_426 rfl (lv_at hl 0 rfl) ?_
    refine lv_iconst (v := 1) hx hb dL_law_427 (by decide) ?_
    refine lv_iadd hx hb dL_law_428 ?_
    refine lv_topi (fun x_89 ex_89 => ?_)
    obtain rfl : x_89 = (nI (i + 1)) := ex_89.trans (nI_add i 1)
    refine va_sld hx hb hX hbl hbA hS (vp_in_nI (by omega) (by omega)) dL_law_429 ?_
    refine lv_topi (fun x_90 ex_90 => ?_)
    obtain rfl : x_90 = (xs (i + 1)) := ex_90.trans (congrArg xs (nI_clamp (by omega)))
    refine lv_aload_n hx hb dL_law_430 rfl (lv_at hl 3 rfl) ?_
    refine lv_iload_n hx hb dL_law_431 rfl (lv_at hl 0 rfl) ?_
    refine lv_iconst (v := 2) hx hb dL_law_432 (by decide) ?_
    refine lv_iadd hx hb dL_law_433 ?_
    refine lv_topi (fun x_91 ex_91 => ?_)
    obtain rfl : x_91 = (nI (i + 2)) := ex_91.trans (nI_add i 2)
    refine va_sld hx hb hX hbl hbA hS (vp_in_nI (by omega) (by omega)) dL_law_434 ?_
    refine lv_topi (fun x_92 ex_92 => ?_)
    obtain rfl : x_92 = (xs (i + 2)) := ex_92.trans (congrArg xs (nI_clamp (by omega)))
    refine lv_if_eq (tgt := 442) hx hb dL_law_435 (by decide) (fun c_93 => ?_) (fun c_93 => ?_)
    ·
      refine lv_iconst (v := 0) hx hb dL_law_442 (by decide) ?_
      obtain ⟨L, F, ty, ρ, ta, ou, so, ad, na, va, lc, dm, tg, pe, ml, bg, co, sp, nb0, nb1, nb2, pl, se, ke, wi, hs, mo, po, nu, pr, sq, xa, sa, n64, m64, ex, wh, sd, tk, hd, ak, ho, ot, sx, s0, s1, s2, ⟨hP, hD, hO, hW⟩, hL_h0, hT_h0, hFta, hFml, hn01, hn02, hn12, hU26, hU15, hBq⟩ := hM
      have hG := hGm
      obtain ⟨hq_116, hq_117, hq_118, hq_119, hq_120, hgO, hgA, hgB⟩ := hW.sc hL_h0 hT_h0
      obtain ⟨zo_121, v11_122, v12_123, v14_124, v15_125, v17_126, v18_127, v19_128, v20_129, v21_130, v22_131, v33_132, v52_133, v53_134, v54_135, hF_136, hq_137, hq_138, hq_139, hq_140, hq_141⟩ := hO.mod hL_h0 hT_h0
      obtain ⟨hi_142, ht_143⟩ := hW.f_ta hL_h0 hT_h0
      obtain ⟨hi_144, r_97, ht_145⟩ := hW.f_pl hL_h0 hT_h0
      have hFc := pg_free hD hS hA
      refine va_calli (va_runV (As := [.int (xs (i + 1)), .int 0]) (rest := []) ⟨hx, hb, hml, hown, hts⟩ (s_X15_plainField l dC dI cs ty gm L H.size F h0 ρ ta ou so ad na va lc dm tg pe ml bg co sp nb0 nb1 nb2 pl se ke wi hs mo po nu pr sq xa sa n64 m64 ex wh sd tk hd ak ho ot sx s0 s1 s2 nf bd mm ze zt r_97 (xs (i + 1)) 0 hW hL_h0 hT_h0 hi_144 ht_145) ⟨callB_of 2 hts (gi kt_1296) rfl rfl rfl (hts _ kt_669) (hts _ kt_1297) (by decide +kernel) ⟨Nat.le_of_ble_eq_true rfl, Nat.le_of_ble_eq_true rfl⟩, (hts _ kt_1298), (hts _ kt_1299)⟩ ⟨fun a U g mk q => ⟨q.1, PTm.calling q.2⟩, pg_recv hK hP hL_h0 hF_136 (q := (RX15, TX15, 59)) rfl, fun U hU hWm => ⟨rfl, PTm.mk hU hWm hP hK hD hE hO⟩⟩ rfl rfl hl.1 rfl (lv_room (Nat.le_of_ble_eq_true rfl)) dL_law_443 ⟨by show _ + 0 ≤ 600000; omega, by show _ + 0 ≤ 7302250; omega⟩) hS (fun q _ h => hFc q h) hFc (fun r_146 u t H1 locs ht hvm hw hB hz1 hk1 hS => ?_)
      obtain ⟨F2, hB1⟩ := hB
      obtain ⟨hP, hD, hO, hR⟩ := QTm.back hB1 ht hFc FR.refl (fun q h => h)
      have hC := hC.kept hBq hk1
      obtain ⟨hi_147, ht_148⟩ := hW.f_ml hL_h0 hT_h0
      have hM : PMl (dC, dI) cs A Bq h0 zt ze gt nf bd mm gm gl H1 := ⟨L, F2, ty, ρ, ta, ou, so, ad, na, va, lc, dm, tg, pe, ml, bg, co, sp, nb0, nb1, nb2, pl, se, ke, wi, hs, mo, po, nu, pr, sq, xa, sa, n64, m64, ex, wh, sd, tk, hd, ak, ho, ot, sx, s0, s1, s2, ⟨hP, hD, hO, hW⟩, hL_h0, hT_h0, (hB1.2.2.2 ta (by rw [ht_143]; simp)).trans hFta, (hB1.2.2.2 ml (by rw [ht_148]; simp)).trans hFml, hn01, hn02, hn12, hU26, hU15, hBq⟩
      generalize H1 = H at hC hM hS ⊢
      refine lv_pop hx hb dL_law_446 rfl ?_
      refine lv_goto (tgt := 522) hx hb dL_law_447 (by decide) ?_
      refine W.widen (k := cc + 1) (n := ss + 5) (by omega) (by omega) ?_
      exact kk zt ze f gt n bb zm fL sA sB sC nf bd mm gm gl _ _ _ (by omega) hcn (hrel) hlr hC hM hS hl
    ·
      refine lv_iconst (v := 1) hx hb dL_law_438 (by decide) ?_
      refine lv_goto (tgt := 443) hx hb dL_law_439 (by decide) ?_
      obtain ⟨L, F, ty, ρ, ta, ou, so, ad, na, va, lc, dm, tg, pe, ml, bg, co, sp, nb0, nb1, nb2, pl, se, ke, wi, hs, mo, po, nu, pr, sq, xa, sa, n64, m64, ex, wh, sd, tk, hd, ak, ho, ot, sx, s0, s1, s2, ⟨hP, hD, hO, hW⟩, hL_h0, hT_h0, hFta, hFml, hn01, hn02, hn12, hU26, hU15, hBq⟩ := hM
      have hG := hGm
      obtain ⟨hq_171, hq_172, hq_173, hq_174, hq_175, hgO, hgA, hgB⟩ := hW.sc hL_h0 hT_h0
      obtain ⟨zo_176, v11_177, v12_178, v14_179, v15_180, v17_181, v18_182, v19_183, v20_184, v21_185, v22_186, v33_187, v52_188, v53_189, v54_190, hF_191, hq_192, hq_193, hq_194, hq_195, hq_196⟩ := hO.mod hL_h0 hT_h0
      obtain ⟨hi_197, ht_198⟩ := hW.f_ta hL_h0 hT_h0
      obtain ⟨hi_199, r_152, ht_200⟩ := hW.f_pl hL_h0 hT_h0
      have hFc := pg_free hD hS hA
      refine va_calli (va_runV (As := [.int (xs (i + 1)), .int 1]) (rest := []) ⟨hx, hb, hml, hown, hts⟩ (s_X15_plainField l dC dI cs ty gm L H.size F h0 ρ ta ou so ad na va lc dm tg pe ml bg co sp nb0 nb1 nb2 pl se ke wi hs mo po nu pr sq xa sa n64 m64 ex wh sd tk hd ak ho ot sx s0 s1 s2 nf bd mm ze zt r_152 (xs (i + 1)) 1 hW hL_h0 hT_h0 hi_199 ht_200) ⟨callB_of 2 hts (gi kt_1296) rfl rfl rfl (hts _ kt_669) (hts _ kt_1297) (by decide +kernel) ⟨Nat.le_of_ble_eq_true rfl, Nat.le_of_ble_eq_true rfl⟩, (hts _ kt_1298), (hts _ kt_1299)⟩ ⟨fun a U g mk q => ⟨q.1, PTm.calling q.2⟩, pg_recv hK hP hL_h0 hF_191 (q := (RX15, TX15, 59)) rfl, fun U hU hWm => ⟨rfl, PTm.mk hU hWm hP hK hD hE hO⟩⟩ rfl rfl hl.1 rfl (lv_room (Nat.le_of_ble_eq_true rfl)) dL_law_443 ⟨by show _ + 0 ≤ 600000; omega, by show _ + 0 ≤ 7302250; omega⟩) hS (fun q _ h => hFc q h) hFc (fun r_201 u t H1 locs ht hvm hw hB hz1 hk1 hS => ?_)
      obtain ⟨F2, hB1⟩ := hB
      obtain ⟨hP, hD, hO, hR⟩ := QTm.back hB1 ht hFc FR.refl (fun q h => h)
      have hC := hC.kept hBq hk1
      obtain ⟨hi_202, ht_203⟩ := hW.f_ml hL_h0 hT_h0
      have hM : PMl (dC, dI) cs A Bq h0 zt ze gt nf bd mm gm gl H1 := ⟨L, F2, ty, ρ, ta, ou, so, ad, na, va, lc, dm, tg, pe, ml, bg, co, sp, nb0, nb1, nb2, pl, se, ke, wi, hs, mo, po, nu, pr, sq, xa, sa, n64, m64, ex, wh, sd, tk, hd, ak, ho, ot, sx, s0, s1, s2, ⟨hP, hD, hO, hW⟩, hL_h0, hT_h0, (hB1.2.2.2 ta (by rw [ht_198]; simp)).trans hFta, (hB1.2.2.2 ml (by rw [ht_203]; simp)).trans hFml, hn01, hn02, hn12, hU26, hU15, hBq⟩
      generalize H1 = H at hC hM hS ⊢
      refine lv_pop hx hb dL_law_446 rfl ?_
      refine lv_goto (tgt := 522) hx hb dL_law_447 (by decide) ?_
      refine W.widen (k := cc + 1) (n := ss + 5) (by omega) (by omega) ?_
      exact kk zt ze f gt n bb zm fL sA sB sC nf bd mm gm gl _ _ _ (by omega) hcn (hrel) hlr hC hM hS hl
  ·
    refine lv_iconst (v := 1) hx hb dL_law_415 (by decide) ?_
    refine lv_goto (tgt := 420) hx hb dL_law_416 (by decide) ?_
    obtain ⟨L, F, ty, ρ, ta, ou, di, ea, ck, sl, po, hs, rt, ⟨hP, hD, hO, hW⟩, hL_xq, hT_xq, hTta, hFt, hFr, hzt, hFd, hcn, hLT, hBq⟩ := hC
    have hG := hGc
    have hTS : TS F ta zt := ⟨hzt, rt, hFt⟩
    obtain ⟨hi_204, ⟨r_205, ht_206⟩, hi_207, ⟨r_208, ht_209⟩, hi_210, ht_211, hi_212, ⟨w0_213, w1_214, w2_215, w3_216, nm_217, te_218, ht_219⟩, hi_220, ⟨l1_221, lx_222, ly0_223, ly1_224, ly2_225, k1_226, kx_227, ky0_228, ky1_229, ky2_230, w0_231, w1_232, w2_233, w3_234, w4_235, w5_236, w6_237, w7_238, w8_239, tk_240, h1_241, hx_242, hy_243, hw_244, pw_245, px_246, py_247, pz_248, pu_249, ht_250⟩, hi_251, ⟨w0_252, w1_253, rc_254, rx_255, ry0_256, ry1_257, ry2_258, ht_259⟩, hi_260, ⟨hx_261, hy_262, hw_263, ht_264⟩⟩ := hW.gate hL_xq hT_xq
    obtain ⟨le_265, sp_266, μ_267, ν_268, hF_269, hq_270, hq_271, hq_272, hq_273, hq_274, hq_275⟩ := hO.gate hL_xq hT_xq
    obtain ⟨x_276, y0_277, y1_278, y2_279, ht_280⟩ := id hq_271
    obtain ⟨x_281, y0_282, y1_283, y2_284, ht_285⟩ := id hq_273
    obtain ⟨hiR, htR, -⟩ := hW.bytes hi_204 hTta
    have hFc := pg_free hD hS hA
    refine va_calli (va_runV (As := [.int (xs (i + 1)), .int 1]) (rest := []) ⟨hx, hb, hml, hown, hts⟩ (s_X11_plainField l dC dI cs ty L H.size F xq ρ ta ou di ea ck sl po hs zt (xs (i + 1)) 1 hW hL_xq hT_xq hTS) ⟨callB_of 2 hts (gi kt_1292) rfl rfl rfl (hts _ kt_656) (hts _ kt_1293) (by decide +kernel) ⟨Nat.le_of_ble_eq_true rfl, Nat.le_of_ble_eq_true rfl⟩, (hts _ kt_1294), (hts _ kt_1295)⟩ ⟨fun a U g mk q => ⟨q.1, PT.calling q.2⟩, pg_recv hK hP hL_xq hF_269 (q := (RX11, TX11, 9)) rfl, fun U hU hWm => ⟨rfl, PT.mk hU hWm hP hK hD hE hO⟩⟩ rfl rfl hl.1 rfl (lv_room (Nat.le_of_ble_eq_true rfl)) dL_law_420 ⟨by show _ + 0 ≤ 600000; omega, by show _ + 0 ≤ 7302250; omega⟩) hS (fun q _ h => hFc q h) hFc (fun r_286 u t H1 locs ht hvm hw hB hz1 hk1 hS => ?_)
    obtain ⟨F2, hB1, hf0⟩ := hB
    obtain ⟨hP, hD, hO, hR⟩ := QT.back hB1 ht hFc FR.refl (fun q h => h)
    have hM := hM.kept hBq hk1
    have hLT := hLT.fr hW hT_xq hB1.2.2.2 (fun q h => by simp only [List.mem_cons, List.not_mem_nil, or_false] at h; omega)
    have hC : PCl (dC, dI) cs A Bq xq zt ze f n bb zm fL sA sB sC H1 := ⟨L, F2, ty, ρ, ta, ou, di, ea, ck, sl, po, hs, rt, ⟨hP, hD, hO, hW⟩, hL_xq, hT_xq, hTta, (hB1.2.2.2 ta (by rw [hTta]; simp)).trans hFt, (hB1.2.2.2 rt (by rw [htR]; simp)).trans hFr, hzt, (hB1.2.2.2 di (by rw [ht_211]; simp)).trans hFd, hcn, hLT, hBq⟩
    generalize H1 = H at hC hM hS ⊢
    refine lv_pop hx hb dL_law_423 rfl ?_
    refine lv_aload_n hx hb dL_law_424 rfl (lv_at hl 1 rfl) ?_
    refine lv_aload_n hx hb dL_law_425 rfl (lv_at hl 3 rfl) ?_
    refine lv_iload_n hx hb dL_law_426 rfl (lv_at hl 0 rfl) ?_
    refine lv_iconst (v := 1) hx hb dL_law_427 (by decide) ?_
    refine lv_iadd hx hb dL_law_428 ?_
    refine lv_topi (fun x_287 ex_287 => ?_)
    obtain rfl : x_287 = (nI (i + 1)) := ex_287.trans (nI_add i 1)
    refine va_sld hx hb hX hbl hbA hS (vp_in_nI (by omega) (by omega)) dL_law_429 ?_
    refine lv_topi (fun x_288 ex_288 => ?_)
    obtain rfl : x_288 = (xs (i + 1)) := ex_288.trans (congrArg xs (nI_clamp (by omega)))
    refine lv_aload_n hx hb dL_law_430 rfl (lv_at hl 3 rfl) ?_
    refine lv_iload_n hx hb dL_law_431 rfl (lv_at hl 0 rfl) ?_
    refine lv_iconst (v := 2) hx hb dL_law_432 (by decide) ?_
    refine lv_iadd hx hb dL_law_433 ?_
    refine lv_topi (fun x_289 ex_289 => ?_)
    obtain rfl : x_289 = (nI (i + 2)) := ex_289.trans (nI_add i 2)
    refine va_sld hx hb hX hbl hbA hS (vp_in_nI (by omega) (by omega)) dL_law_434 ?_
    refine lv_topi (fun x_290 ex_290 => ?_)
    obtain rfl : x_290 = (xs (i + 2)) := ex_290.trans (congrArg xs (nI_clamp (by omega)))
    refine lv_if_eq (tgt := 442) hx hb dL_law_435 (by decide) (fun c_291 => ?_) (fun c_291 => ?_)
    ·
      refine lv_iconst (v := 0) hx hb dL_law_442 (by decide) ?_
      obtain ⟨L, F, ty, ρ, ta, ou, so, ad, na, va, lc, dm, tg, pe, ml, bg, co, sp, nb0, nb1, nb2, pl, se, ke, wi, hs, mo, po, nu, pr, sq, xa, sa, n64, m64, ex, wh, sd, tk, hd, ak, ho, ot, sx, s0, s1, s2, ⟨hP, hD, hO, hW⟩, hL_h0, hT_h0, hFta, hFml, hn01, hn02, hn12, hU26, hU15, hBq⟩ := hM
      have hG := hGm
      obtain ⟨hq_314, hq_315, hq_316, hq_317, hq_318, hgO, hgA, hgB⟩ := hW.sc hL_h0 hT_h0
      obtain ⟨zo_319, v11_320, v12_321, v14_322, v15_323, v17_324, v18_325, v19_326, v20_327, v21_328, v22_329, v33_330, v52_331, v53_332, v54_333, hF_334, hq_335, hq_336, hq_337, hq_338, hq_339⟩ := hO.mod hL_h0 hT_h0
      obtain ⟨hi_340, ht_341⟩ := hW.f_ta hL_h0 hT_h0
      obtain ⟨hi_342, r_295, ht_343⟩ := hW.f_pl hL_h0 hT_h0
      have hFc := pg_free hD hS hA
      refine va_calli (va_runV (As := [.int (xs (i + 1)), .int 0]) (rest := []) ⟨hx, hb, hml, hown, hts⟩ (s_X15_plainField l dC dI cs ty gm L H.size F h0 ρ ta ou so ad na va lc dm tg pe ml bg co sp nb0 nb1 nb2 pl se ke wi hs mo po nu pr sq xa sa n64 m64 ex wh sd tk hd ak ho ot sx s0 s1 s2 nf bd mm ze zt r_295 (xs (i + 1)) 0 hW hL_h0 hT_h0 hi_342 ht_343) ⟨callB_of 2 hts (gi kt_1296) rfl rfl rfl (hts _ kt_669) (hts _ kt_1297) (by decide +kernel) ⟨Nat.le_of_ble_eq_true rfl, Nat.le_of_ble_eq_true rfl⟩, (hts _ kt_1298), (hts _ kt_1299)⟩ ⟨fun a U g mk q => ⟨q.1, PTm.calling q.2⟩, pg_recv hK hP hL_h0 hF_334 (q := (RX15, TX15, 59)) rfl, fun U hU hWm => ⟨rfl, PTm.mk hU hWm hP hK hD hE hO⟩⟩ rfl rfl hl.1 rfl (lv_room (Nat.le_of_ble_eq_true rfl)) dL_law_443 ⟨by show _ + 0 ≤ 600000; omega, by show _ + 0 ≤ 7302250; omega⟩) hS (fun q _ h => hFc q h) hFc (fun r_344 u t H1 locs ht hvm hw hB hz1 hk1 hS => ?_)
      obtain ⟨F2, hB1⟩ := hB
      obtain ⟨hP, hD, hO, hR⟩ := QTm.back hB1 ht hFc FR.refl (fun q h => h)
      have hC := hC.kept hBq hk1
      obtain ⟨hi_345, ht_346⟩ := hW.f_ml hL_h0 hT_h0
      have hM : PMl (dC, dI) cs A Bq h0 zt ze gt nf bd mm gm gl H1 := ⟨L, F2, ty, ρ, ta, ou, so, ad, na, va, lc, dm, tg, pe, ml, bg, co, sp, nb0, nb1, nb2, pl, se, ke, wi, hs, mo, po, nu, pr, sq, xa, sa, n64, m64, ex, wh, sd, tk, hd, ak, ho, ot, sx, s0, s1, s2, ⟨hP, hD, hO, hW⟩, hL_h0, hT_h0, (hB1.2.2.2 ta (by rw [ht_341]; simp)).trans hFta, (hB1.2.2.2 ml (by rw [ht_346]; simp)).trans hFml, hn01, hn02, hn12, hU26, hU15, hBq⟩
      generalize H1 = H at hC hM hS ⊢
      refine lv_pop hx hb dL_law_446 rfl ?_
      refine lv_goto (tgt := 522) hx hb dL_law_447 (by decide) ?_
      refine W.widen (k := cc + 1) (n := ss + 5) (by omega) (by omega) ?_
      exact kk zt ze f gt n bb zm fL sA sB sC nf bd mm gm gl _ _ _ (by omega) hcn (hrel) hlr hC hM hS hl
    ·
      refine lv_iconst (v := 1) hx hb dL_law_438 (by decide) ?_
      refine lv_goto (tgt := 443) hx hb dL_law_439 (by decide) ?_
      obtain ⟨L, F, ty, ρ, ta, ou, so, ad, na, va, lc, dm, tg, pe, ml, bg, co, sp, nb0, nb1, nb2, pl, se, ke, wi, hs, mo, po, nu, pr, sq, xa, sa, n64, m64, ex, wh, sd, tk, hd, ak, ho, ot, sx, s0, s1, s2, ⟨hP, hD, hO, hW⟩, hL_h0, hT_h0, hFta, hFml, hn01, hn02, hn12, hU26, hU15, hBq⟩ := hM
      have hG := hGm
      obtain ⟨hq_369, hq_370, hq_371, hq_372, hq_373, hgO, hgA, hgB⟩ := hW.sc hL_h0 hT_h0
      obtain ⟨zo_374, v11_375, v12_376, v14_377, v15_378, v17_379, v18_380, v19_381, v20_382, v21_383, v22_384, v33_385, v52_386, v53_387, v54_388, hF_389, hq_390, hq_391, hq_392, hq_393, hq_394⟩ := hO.mod hL_h0 hT_h0
      obtain ⟨hi_395, ht_396⟩ := hW.f_ta hL_h0 hT_h0
      obtain ⟨hi_397, r_350, ht_398⟩ := hW.f_pl hL_h0 hT_h0
      have hFc := pg_free hD hS hA
      refine va_calli (va_runV (As := [.int (xs (i + 1)), .int 1]) (rest := []) ⟨hx, hb, hml, hown, hts⟩ (s_X15_plainField l dC dI cs ty gm L H.size F h0 ρ ta ou so ad na va lc dm tg pe ml bg co sp nb0 nb1 nb2 pl se ke wi hs mo po nu pr sq xa sa n64 m64 ex wh sd tk hd ak ho ot sx s0 s1 s2 nf bd mm ze zt r_350 (xs (i + 1)) 1 hW hL_h0 hT_h0 hi_397 ht_398) ⟨callB_of 2 hts (gi kt_1296) rfl rfl rfl (hts _ kt_669) (hts _ kt_1297) (by decide +kernel) ⟨Nat.le_of_ble_eq_true rfl, Nat.le_of_ble_eq_true rfl⟩, (hts _ kt_1298), (hts _ kt_1299)⟩ ⟨fun a U g mk q => ⟨q.1, PTm.calling q.2⟩, pg_recv hK hP hL_h0 hF_389 (q := (RX15, TX15, 59)) rfl, fun U hU hWm => ⟨rfl, PTm.mk hU hWm hP hK hD hE hO⟩⟩ rfl rfl hl.1 rfl (lv_room (Nat.le_of_ble_eq_true rfl)) dL_law_443 ⟨by show _ + 0 ≤ 600000; omega, by show _ + 0 ≤ 7302250; omega⟩) hS (fun q _ h => hFc q h) hFc (fun r_399 u t H1 locs ht hvm hw hB hz1 hk1 hS => ?_)
      obtain ⟨F2, hB1⟩ := hB
      obtain ⟨hP, hD, hO, hR⟩ := QTm.back hB1 ht hFc FR.refl (fun q h => h)
      have hC := hC.kept hBq hk1
      obtain ⟨hi_400, ht_401⟩ := hW.f_ml hL_h0 hT_h0
      have hM : PMl (dC, dI) cs A Bq h0 zt ze gt nf bd mm gm gl H1 := ⟨L, F2, ty, ρ, ta, ou, so, ad, na, va, lc, dm, tg, pe, ml, bg, co, sp, nb0, nb1, nb2, pl, se, ke, wi, hs, mo, po, nu, pr, sq, xa, sa, n64, m64, ex, wh, sd, tk, hd, ak, ho, ot, sx, s0, s1, s2, ⟨hP, hD, hO, hW⟩, hL_h0, hT_h0, (hB1.2.2.2 ta (by rw [ht_396]; simp)).trans hFta, (hB1.2.2.2 ml (by rw [ht_401]; simp)).trans hFml, hn01, hn02, hn12, hU26, hU15, hBq⟩
      generalize H1 = H at hC hM hS ⊢
      refine lv_pop hx hb dL_law_446 rfl ?_
      refine lv_goto (tgt := 522) hx hb dL_law_447 (by decide) ?_
      refine W.widen (k := cc + 1) (n := ss + 5) (by omega) (by omega) ?_
      exact kk zt ze f gt n bb zm fL sA sB sC nf bd mm gm gl _ _ _ (by omega) hcn (hrel) hlr hC hM hS hl
