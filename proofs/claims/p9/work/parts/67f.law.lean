theorem kt_1284 : Cond.code yX11_plainBody cX11_plainBody 2 (some .int) ∈ tb := tb_at (i := 1086) (by decide +kernel) (by decide +kernel)
theorem kt_1285 : Cond.methodLink RL 57 yX11_plainBody ∈ tb := tb_at (i := 1083) (by decide +kernel) (by decide +kernel)
theorem kt_1286 : Cond.instanceMethod yX11_plainBody ∈ tb := tb_at (i := 1084) (by decide +kernel) (by decide +kernel)
theorem kt_1287 : Cond.selects RX11 yX11_plainBody yX11_plainBody ∈ tb := tb_at (i := 1085) (by decide +kernel) (by decide +kernel)
theorem kt_1288 : Cond.code yX15_plainBody cX15_plainBody 2 (some .int) ∈ tb := tb_at (i := 1666) (by decide +kernel) (by decide +kernel)
theorem kt_1289 : Cond.methodLink RL 61 yX15_plainBody ∈ tb := tb_at (i := 1663) (by decide +kernel) (by decide +kernel)
theorem kt_1290 : Cond.instanceMethod yX15_plainBody ∈ tb := tb_at (i := 1664) (by decide +kernel) (by decide +kernel)
theorem kt_1291 : Cond.selects RX15 yX15_plainBody yX15_plainBody ∈ tb := tb_at (i := 1665) (by decide +kernel) (by decide +kernel)
theorem kt_1292 : Cond.code yX11_plainField cX11_plainField 3 (some .int) ∈ tb := tb_at (i := 1091) (by decide +kernel) (by decide +kernel)
theorem kt_1293 : Cond.methodLink RL 62 yX11_plainField ∈ tb := tb_at (i := 1088) (by decide +kernel) (by decide +kernel)
theorem kt_1294 : Cond.instanceMethod yX11_plainField ∈ tb := tb_at (i := 1089) (by decide +kernel) (by decide +kernel)
theorem kt_1295 : Cond.selects RX11 yX11_plainField yX11_plainField ∈ tb := tb_at (i := 1090) (by decide +kernel) (by decide +kernel)
theorem kt_1296 : Cond.code yX15_plainField cX15_plainField 3 (some .int) ∈ tb := tb_at (i := 1678) (by decide +kernel) (by decide +kernel)
theorem kt_1297 : Cond.methodLink RL 66 yX15_plainField ∈ tb := tb_at (i := 1675) (by decide +kernel) (by decide +kernel)
theorem kt_1298 : Cond.instanceMethod yX15_plainField ∈ tb := tb_at (i := 1676) (by decide +kernel) (by decide +kernel)
theorem kt_1299 : Cond.selects RX15 yX15_plainField yX15_plainField ∈ tb := tb_at (i := 1677) (by decide +kernel) (by decide +kernel)
set_option maxHeartbeats 4000000 in
set_option maxRecDepth 100000 in
theorem law_10 {p : Program} {l : Launch} {e : Env} {s : State} {m : MethodId} {below : List Frame} {meth : Method} {c : Code} {A Bq : Nat → Prop} {dC : Nat → ClassId} {dI : Nat → Nat → Nat} {cs : Nat → ClassId} {b Ln : Nat} {xs : Nat → Int32} (C0 : LC p s m meth c A dC dI cs b Ln xs) {xq h0 i zt ze cc ss : Nat} {f gt : Nat → Int32} {n : Nat} {bb : Int32} {zm : Nat} {fL sA sB sC : Nat → Int32} {nf bd mm : Nat} {gm : Nat → Nat → Nat} {gl : Nat → Int32} (hi : i + 6 ≤ Ln) (hLn : Ln ≤ 384) (hnz : zt ≤ 1280) (hcc : cc + 1 ≤ 600000) (hss : ss + 5 ≤ 7302250) {H : Heap} {locs : List Loc} {ls : Array Slot} (hrel : REL f gt zt) (hlr : LRL n bb zm fL sA sB sC nf bd mm gm gl) (hC : PCl (dC, dI) cs A Bq xq zt ze f n bb zm fL sA sB sC H) (hM : PMl (dC, dI) cs A Bq h0 zt ze gt nf bd mm gm gl H) (hS : va_S A s.heap H locs) (hl : lv_has ls 4 [(3, .int (nI i)), (2, .ref h0), (1, .ref xq), (0, .ref b)]) (kk : ∀ (z2 c2 : Nat) (f2 g2 : Nat → Int32) (n : Nat) (bb : Int32) (zm : Nat) (fL sA sB sC : Nat → Int32) (nf bd mm : Nat) (gm : Nat → Nat → Nat) (gl : Nat → Int32) (H : Heap) (locs : List Loc) (ls : Array Slot), z2 ≤ zt + 20 → c2 ≤ 40 → REL f2 g2 z2 → LRL n bb zm fL sA sB sC nf bd mm gm gl → PCl (dC, dI) cs A Bq xq z2 c2 f2 n bb zm fL sA sB sC H → PMl (dC, dI) cs A Bq h0 z2 c2 g2 nf bd mm gm gl H → va_S A s.heap H locs → lv_has ls 4 [(3, .int (nI i)), (2, .ref h0), (1, .ref xq), (0, .ref b)] → W p l e room_1 s m #[Value.ref b] below meth c H locs (cc + 1) (ss + 5) (lw_Z below #[Value.ref b] s) (F0 m 522 ls [])) : W p l e room_1 s m #[Value.ref b] below meth c H locs cc ss (lw_Z below #[Value.ref b] s) (F0 m 362 ls []) := by
  obtain ⟨hx, hb, hr, hml, hown, hts, hX, hbl, hbA, hlocks, hE, hGc, hGm, hK, hA, hAs⟩ := id C0
  refine lv_aload_n hx hb dL_law_362 rfl (lv_at hl 2 rfl) ?_
  refine lv_aload_n hx hb dL_law_363 rfl (lv_at hl 3 rfl) ?_
  refine lv_iload_n hx hb dL_law_364 rfl (lv_at hl 0 rfl) ?_
  refine lv_iconst (v := 1) hx hb dL_law_365 (by decide) ?_
  refine lv_iadd hx hb dL_law_366 ?_
  refine lv_topi (fun x_1 ex_1 => ?_)
  obtain rfl : x_1 = (nI (i + 1)) := ex_1.trans (nI_add i 1)
  refine va_sld hx hb hX hbl hbA hS (vp_in_nI (by omega) (by omega)) dL_law_367 ?_
  refine lv_topi (fun x_2 ex_2 => ?_)
  obtain rfl : x_2 = (xs (i + 1)) := ex_2.trans (congrArg xs (nI_clamp (by omega)))
  refine lv_if_eq (tgt := 375) hx hb dL_law_368 (by decide) (fun c_3 => ?_) (fun c_3 => ?_)
  ·
    refine lv_iconst (v := 0) hx hb dL_law_375 (by decide) ?_
    obtain ⟨L, F, ty, ρ, ta, ou, di, ea, ck, sl, po, hs, rt, ⟨hP, hD, hO, hW⟩, hL_xq, hT_xq, hTta, hFt, hFr, hzt, hFd, hcn, hLT, hBq⟩ := hC
    have hG := hGc
    have hTS : TS F ta zt := ⟨hzt, rt, hFt⟩
    obtain ⟨hi_4, ⟨r_5, ht_6⟩, hi_7, ⟨r_8, ht_9⟩, hi_10, ht_11, hi_12, ⟨w0_13, w1_14, w2_15, w3_16, nm_17, te_18, ht_19⟩, hi_20, ⟨l1_21, lx_22, ly0_23, ly1_24, ly2_25, k1_26, kx_27, ky0_28, ky1_29, ky2_30, w0_31, w1_32, w2_33, w3_34, w4_35, w5_36, w6_37, w7_38, w8_39, tk_40, h1_41, hx_42, hy_43, hw_44, pw_45, px_46, py_47, pz_48, pu_49, ht_50⟩, hi_51, ⟨w0_52, w1_53, rc_54, rx_55, ry0_56, ry1_57, ry2_58, ht_59⟩, hi_60, ⟨hx_61, hy_62, hw_63, ht_64⟩⟩ := hW.gate hL_xq hT_xq
    obtain ⟨le_65, sp_66, μ_67, ν_68, hF_69, hq_70, hq_71, hq_72, hq_73, hq_74, hq_75⟩ := hO.gate hL_xq hT_xq
    obtain ⟨x_76, y0_77, y1_78, y2_79, ht_80⟩ := id hq_71
    obtain ⟨x_81, y0_82, y1_83, y2_84, ht_85⟩ := id hq_73
    obtain ⟨hiR, htR, -⟩ := hW.bytes hi_4 hTta
    have hFc := pg_free hD hS hA
    refine va_calli (va_runV (As := [.int 0]) (rest := []) ⟨hx, hb, hml, hown, hts⟩ (s_X11_plainBody l dC dI cs ty L H.size F xq ρ ta ou di ea ck sl po hs zt 0 hW hL_xq hT_xq hTS) ⟨callB_of 1 hts (gi kt_1284) rfl rfl rfl (hts _ kt_656) (hts _ kt_1285) (by decide +kernel) ⟨Nat.le_of_ble_eq_true rfl, Nat.le_of_ble_eq_true rfl⟩, (hts _ kt_1286), (hts _ kt_1287)⟩ ⟨fun a U g mk q => ⟨q.1, PT.calling q.2⟩, pg_recv hK hP hL_xq hF_69 (q := (RX11, TX11, 9)) rfl, fun U hU hWm => ⟨rfl, PT.mk hU hWm hP hK hD hE hO⟩⟩ rfl rfl hl.1 rfl (lv_room (Nat.le_of_ble_eq_true rfl)) dL_law_376 ⟨by show _ + 0 ≤ 600000; omega, by show _ + 0 ≤ 7302250; omega⟩) hS (fun q _ h => hFc q h) hFc (fun r_86 u t H1 locs ht hvm hw hB hz1 hk1 hS => ?_)
    obtain ⟨F2, hB1, hf0⟩ := hB
    obtain ⟨hP, hD, hO, hR⟩ := QT.back hB1 ht hFc FR.refl (fun q h => h)
    have hM := hM.kept hBq hk1
    have hLT := hLT.fr hW hT_xq hB1.2.2.2 (fun q h => by simp only [List.mem_cons, List.not_mem_nil, or_false] at h; omega)
    have hC : PCl (dC, dI) cs A Bq xq zt ze f n bb zm fL sA sB sC H1 := ⟨L, F2, ty, ρ, ta, ou, di, ea, ck, sl, po, hs, rt, ⟨hP, hD, hO, hW⟩, hL_xq, hT_xq, hTta, (hB1.2.2.2 ta (by rw [hTta]; simp)).trans hFt, (hB1.2.2.2 rt (by rw [htR]; simp)).trans hFr, hzt, (hB1.2.2.2 di (by rw [ht_11]; simp)).trans hFd, hcn, hLT, hBq⟩
    generalize H1 = H at hC hM hS ⊢
    refine lv_pop hx hb dL_law_379 rfl ?_
    refine lv_aload_n hx hb dL_law_380 rfl (lv_at hl 1 rfl) ?_
    refine lv_aload_n hx hb dL_law_381 rfl (lv_at hl 3 rfl) ?_
    refine lv_iload_n hx hb dL_law_382 rfl (lv_at hl 0 rfl) ?_
    refine lv_iconst (v := 1) hx hb dL_law_383 (by decide) ?_
    refine lv_iadd hx hb dL_law_384 ?_
    refine lv_topi (fun x_87 ex_87 => ?_)
    obtain rfl : x_87 = (nI (i + 1)) := ex_87.trans (nI_add i 1)
    refine va_sld hx hb hX hbl hbA hS (vp_in_nI (by omega) (by omega)) dL_law_385 ?_
    refine lv_topi (fun x_88 ex_88 => ?_)
    obtain rfl : x_88 = (xs (i + 1)) := ex_88.trans (congrArg xs (nI_clamp (by omega)))
    refine lv_if_eq (tgt := 393) hx hb dL_law_386 (by decide) (fun c_89 => ?_) (fun c_89 => ?_)
    ·
      refine lv_iconst (v := 0) hx hb dL_law_393 (by decide) ?_
      obtain ⟨L, F, ty, ρ, ta, ou, so, ad, na, va, lc, dm, tg, pe, ml, bg, co, sp, nb0, nb1, nb2, pl, se, ke, wi, hs, mo, po, nu, pr, sq, xa, sa, n64, m64, ex, wh, sd, tk, hd, ak, ho, ot, sx, s0, s1, s2, ⟨hP, hD, hO, hW⟩, hL_h0, hT_h0, hFta, hFml, hn01, hn02, hn12, hU26, hU15, hBq⟩ := hM
      have hG := hGm
      obtain ⟨hq_112, hq_113, hq_114, hq_115, hq_116, hgO, hgA, hgB⟩ := hW.sc hL_h0 hT_h0
      obtain ⟨zo_117, v11_118, v12_119, v14_120, v15_121, v17_122, v18_123, v19_124, v20_125, v21_126, v22_127, v33_128, v52_129, v53_130, v54_131, hF_132, hq_133, hq_134, hq_135, hq_136⟩ := hO.mod hL_h0 hT_h0
      obtain ⟨hi_137, ht_138⟩ := hW.f_ta hL_h0 hT_h0
      obtain ⟨hi_139, r_93, ht_140⟩ := hW.f_pl hL_h0 hT_h0
      have hFc := pg_free hD hS hA
      refine va_calli (va_runV (As := [.int 0]) (rest := []) ⟨hx, hb, hml, hown, hts⟩ (s_X15_plainBody l dC dI cs ty gm L H.size F h0 ρ ta ou so ad na va lc dm tg pe ml bg co sp nb0 nb1 nb2 pl se ke wi hs mo po nu pr sq xa sa n64 m64 ex wh sd tk hd ak ho ot sx s0 s1 s2 nf bd mm ze zt r_93 0 hW hL_h0 hT_h0 hi_139 ht_140) ⟨callB_of 1 hts (gi kt_1288) rfl rfl rfl (hts _ kt_669) (hts _ kt_1289) (by decide +kernel) ⟨Nat.le_of_ble_eq_true rfl, Nat.le_of_ble_eq_true rfl⟩, (hts _ kt_1290), (hts _ kt_1291)⟩ ⟨fun a U g mk q => ⟨q.1, PTm.calling q.2⟩, pg_recv hK hP hL_h0 hF_132 (q := (RX15, TX15, 59)) rfl, fun U hU hWm => ⟨rfl, PTm.mk hU hWm hP hK hD hE hO⟩⟩ rfl rfl hl.1 rfl (lv_room (Nat.le_of_ble_eq_true rfl)) dL_law_394 ⟨by show _ + 0 ≤ 600000; omega, by show _ + 0 ≤ 7302250; omega⟩) hS (fun q _ h => hFc q h) hFc (fun r_141 u t H1 locs ht hvm hw hB hz1 hk1 hS => ?_)
      obtain ⟨F2, hB1⟩ := hB
      obtain ⟨hP, hD, hO, hR⟩ := QTm.back hB1 ht hFc FR.refl (fun q h => h)
      have hC := hC.kept hBq hk1
      obtain ⟨hi_142, ht_143⟩ := hW.f_ml hL_h0 hT_h0
      have hM : PMl (dC, dI) cs A Bq h0 zt ze gt nf bd mm gm gl H1 := ⟨L, F2, ty, ρ, ta, ou, so, ad, na, va, lc, dm, tg, pe, ml, bg, co, sp, nb0, nb1, nb2, pl, se, ke, wi, hs, mo, po, nu, pr, sq, xa, sa, n64, m64, ex, wh, sd, tk, hd, ak, ho, ot, sx, s0, s1, s2, ⟨hP, hD, hO, hW⟩, hL_h0, hT_h0, (hB1.2.2.2 ta (by rw [ht_138]; simp)).trans hFta, (hB1.2.2.2 ml (by rw [ht_143]; simp)).trans hFml, hn01, hn02, hn12, hU26, hU15, hBq⟩
      generalize H1 = H at hC hM hS ⊢
      refine lv_pop hx hb dL_law_397 rfl ?_
      refine lv_goto (tgt := 522) hx hb dL_law_398 (by decide) ?_
      refine W.widen (k := cc + 1) (n := ss + 5) (by omega) (by omega) ?_
      exact kk zt ze f gt n bb zm fL sA sB sC nf bd mm gm gl _ _ _ (by omega) hcn (hrel) hlr hC hM hS hl
    ·
      refine lv_iconst (v := 1) hx hb dL_law_389 (by decide) ?_
      refine lv_goto (tgt := 394) hx hb dL_law_390 (by decide) ?_
      obtain ⟨L, F, ty, ρ, ta, ou, so, ad, na, va, lc, dm, tg, pe, ml, bg, co, sp, nb0, nb1, nb2, pl, se, ke, wi, hs, mo, po, nu, pr, sq, xa, sa, n64, m64, ex, wh, sd, tk, hd, ak, ho, ot, sx, s0, s1, s2, ⟨hP, hD, hO, hW⟩, hL_h0, hT_h0, hFta, hFml, hn01, hn02, hn12, hU26, hU15, hBq⟩ := hM
      have hG := hGm
      obtain ⟨hq_166, hq_167, hq_168, hq_169, hq_170, hgO, hgA, hgB⟩ := hW.sc hL_h0 hT_h0
      obtain ⟨zo_171, v11_172, v12_173, v14_174, v15_175, v17_176, v18_177, v19_178, v20_179, v21_180, v22_181, v33_182, v52_183, v53_184, v54_185, hF_186, hq_187, hq_188, hq_189, hq_190⟩ := hO.mod hL_h0 hT_h0
      obtain ⟨hi_191, ht_192⟩ := hW.f_ta hL_h0 hT_h0
      obtain ⟨hi_193, r_147, ht_194⟩ := hW.f_pl hL_h0 hT_h0
      have hFc := pg_free hD hS hA
      refine va_calli (va_runV (As := [.int 1]) (rest := []) ⟨hx, hb, hml, hown, hts⟩ (s_X15_plainBody l dC dI cs ty gm L H.size F h0 ρ ta ou so ad na va lc dm tg pe ml bg co sp nb0 nb1 nb2 pl se ke wi hs mo po nu pr sq xa sa n64 m64 ex wh sd tk hd ak ho ot sx s0 s1 s2 nf bd mm ze zt r_147 1 hW hL_h0 hT_h0 hi_193 ht_194) ⟨callB_of 1 hts (gi kt_1288) rfl rfl rfl (hts _ kt_669) (hts _ kt_1289) (by decide +kernel) ⟨Nat.le_of_ble_eq_true rfl, Nat.le_of_ble_eq_true rfl⟩, (hts _ kt_1290), (hts _ kt_1291)⟩ ⟨fun a U g mk q => ⟨q.1, PTm.calling q.2⟩, pg_recv hK hP hL_h0 hF_186 (q := (RX15, TX15, 59)) rfl, fun U hU hWm => ⟨rfl, PTm.mk hU hWm hP hK hD hE hO⟩⟩ rfl rfl hl.1 rfl (lv_room (Nat.le_of_ble_eq_true rfl)) dL_law_394 ⟨by show _ + 0 ≤ 600000; omega, by show _ + 0 ≤ 7302250; omega⟩) hS (fun q _ h => hFc q h) hFc (fun r_195 u t H1 locs ht hvm hw hB hz1 hk1 hS => ?_)
      obtain ⟨F2, hB1⟩ := hB
      obtain ⟨hP, hD, hO, hR⟩ := QTm.back hB1 ht hFc FR.refl (fun q h => h)
      have hC := hC.kept hBq hk1
      obtain ⟨hi_196, ht_197⟩ := hW.f_ml hL_h0 hT_h0
      have hM : PMl (dC, dI) cs A Bq h0 zt ze gt nf bd mm gm gl H1 := ⟨L, F2, ty, ρ, ta, ou, so, ad, na, va, lc, dm, tg, pe, ml, bg, co, sp, nb0, nb1, nb2, pl, se, ke, wi, hs, mo, po, nu, pr, sq, xa, sa, n64, m64, ex, wh, sd, tk, hd, ak, ho, ot, sx, s0, s1, s2, ⟨hP, hD, hO, hW⟩, hL_h0, hT_h0, (hB1.2.2.2 ta (by rw [ht_192]; simp)).trans hFta, (hB1.2.2.2 ml (by rw [ht_197]; simp)).trans hFml, hn01, hn02, hn12, hU26, hU15, hBq⟩
      generalize H1 = H at hC hM hS ⊢
      refine lv_pop hx hb dL_law_397 rfl ?_
      refine lv_goto (tgt := 522) hx hb dL_law_398 (by decide) ?_
      refine W.widen (k := cc + 1) (n := ss + 5) (by omega) (by omega) ?_
      exact kk zt ze f gt n bb zm fL sA sB sC nf bd mm gm gl _ _ _ (by omega) hcn (hrel) hlr hC hM hS hl
  ·
    refine lv_iconst (v := 1) hx hb dL_law_371 (by decide) ?_
    refine lv_goto (tgt := 376) hx hb dL_law_372 (by decide) ?_
    obtain ⟨L, F, ty, ρ, ta, ou, di, ea, ck, sl, po, hs, rt, ⟨hP, hD, hO, hW⟩, hL_xq, hT_xq, hTta, hFt, hFr, hzt, hFd, hcn, hLT, hBq⟩ := hC
    have hG := hGc
    have hTS : TS F ta zt := ⟨hzt, rt, hFt⟩
    obtain ⟨hi_198, ⟨r_199, ht_200⟩, hi_201, ⟨r_202, ht_203⟩, hi_204, ht_205, hi_206, ⟨w0_207, w1_208, w2_209, w3_210, nm_211, te_212, ht_213⟩, hi_214, ⟨l1_215, lx_216, ly0_217, ly1_218, ly2_219, k1_220, kx_221, ky0_222, ky1_223, ky2_224, w0_225, w1_226, w2_227, w3_228, w4_229, w5_230, w6_231, w7_232, w8_233, tk_234, h1_235, hx_236, hy_237, hw_238, pw_239, px_240, py_241, pz_242, pu_243, ht_244⟩, hi_245, ⟨w0_246, w1_247, rc_248, rx_249, ry0_250, ry1_251, ry2_252, ht_253⟩, hi_254, ⟨hx_255, hy_256, hw_257, ht_258⟩⟩ := hW.gate hL_xq hT_xq
    obtain ⟨le_259, sp_260, μ_261, ν_262, hF_263, hq_264, hq_265, hq_266, hq_267, hq_268, hq_269⟩ := hO.gate hL_xq hT_xq
    obtain ⟨x_270, y0_271, y1_272, y2_273, ht_274⟩ := id hq_265
    obtain ⟨x_275, y0_276, y1_277, y2_278, ht_279⟩ := id hq_267
    obtain ⟨hiR, htR, -⟩ := hW.bytes hi_198 hTta
    have hFc := pg_free hD hS hA
    refine va_calli (va_runV (As := [.int 1]) (rest := []) ⟨hx, hb, hml, hown, hts⟩ (s_X11_plainBody l dC dI cs ty L H.size F xq ρ ta ou di ea ck sl po hs zt 1 hW hL_xq hT_xq hTS) ⟨callB_of 1 hts (gi kt_1284) rfl rfl rfl (hts _ kt_656) (hts _ kt_1285) (by decide +kernel) ⟨Nat.le_of_ble_eq_true rfl, Nat.le_of_ble_eq_true rfl⟩, (hts _ kt_1286), (hts _ kt_1287)⟩ ⟨fun a U g mk q => ⟨q.1, PT.calling q.2⟩, pg_recv hK hP hL_xq hF_263 (q := (RX11, TX11, 9)) rfl, fun U hU hWm => ⟨rfl, PT.mk hU hWm hP hK hD hE hO⟩⟩ rfl rfl hl.1 rfl (lv_room (Nat.le_of_ble_eq_true rfl)) dL_law_376 ⟨by show _ + 0 ≤ 600000; omega, by show _ + 0 ≤ 7302250; omega⟩) hS (fun q _ h => hFc q h) hFc (fun r_280 u t H1 locs ht hvm hw hB hz1 hk1 hS => ?_)
    obtain ⟨F2, hB1, hf0⟩ := hB
    obtain ⟨hP, hD, hO, hR⟩ := QT.back hB1 ht hFc FR.refl (fun q h => h)
    have hM := hM.kept hBq hk1
    have hLT := hLT.fr hW hT_xq hB1.2.2.2 (fun q h => by simp only [List.mem_cons, List.not_mem_nil, or_false] at h; omega)
    have hC : PCl (dC, dI) cs A Bq xq zt ze f n bb zm fL sA sB sC H1 := ⟨L, F2, ty, ρ, ta, ou, di, ea, ck, sl, po, hs, rt, ⟨hP, hD, hO, hW⟩, hL_xq, hT_xq, hTta, (hB1.2.2.2 ta (by rw [hTta]; simp)).trans hFt, (hB1.2.2.2 rt (by rw [htR]; simp)).trans hFr, hzt, (hB1.2.2.2 di (by rw [ht_205]; simp)).trans hFd, hcn, hLT, hBq⟩
    generalize H1 = H at hC hM hS ⊢
    refine lv_pop hx hb dL_law_379 rfl ?_
    refine lv_aload_n hx hb dL_law_380 rfl (lv_at hl 1 rfl) ?_
    refine lv_aload_n hx hb dL_law_381 rfl (lv_at hl 3 rfl) ?_
    refine lv_iload_n hx hb dL_law_382 rfl (lv_at hl 0 rfl) ?_
    refine lv_iconst (v := 1) hx hb dL_law_383 (by decide) ?_
    refine lv_iadd hx hb dL_law_384 ?_
    refine lv_topi (fun x_281 ex_281 => ?_)
    obtain rfl : x_281 = (nI (i + 1)) := ex_281.trans (nI_add i 1)
    refine va_sld hx hb hX hbl hbA hS (vp_in_nI (by omega) (by omega)) dL_law_385 ?_
    refine lv_topi (fun x_282 ex_282 => ?_)
    obtain rfl : x_282 = (xs (i + 1)) := ex_282.trans (congrArg xs (nI_clamp (by omega)))
    refine lv_if_eq (tgt := 393) hx hb dL_law_386 (by decide) (fun c_283 => ?_) (fun c_283 => ?_)
    ·
      refine lv_iconst (v := 0) hx hb dL_law_393 (by decide) ?_
      obtain ⟨L, F, ty, ρ, ta, ou, so, ad, na, va, lc, dm, tg, pe, ml, bg, co, sp, nb0, nb1, nb2, pl, se, ke, wi, hs, mo, po, nu, pr, sq, xa, sa, n64, m64, ex, wh, sd, tk, hd, ak, ho, ot, sx, s0, s1, s2, ⟨hP, hD, hO, hW⟩, hL_h0, hT_h0, hFta, hFml, hn01, hn02, hn12, hU26, hU15, hBq⟩ := hM
      have hG := hGm
      obtain ⟨hq_306, hq_307, hq_308, hq_309, hq_310, hgO, hgA, hgB⟩ := hW.sc hL_h0 hT_h0
      obtain ⟨zo_311, v11_312, v12_313, v14_314, v15_315, v17_316, v18_317, v19_318, v20_319, v21_320, v22_321, v33_322, v52_323, v53_324, v54_325, hF_326, hq_327, hq_328, hq_329, hq_330⟩ := hO.mod hL_h0 hT_h0
      obtain ⟨hi_331, ht_332⟩ := hW.f_ta hL_h0 hT_h0
      obtain ⟨hi_333, r_287, ht_334⟩ := hW.f_pl hL_h0 hT_h0
      have hFc := pg_free hD hS hA
      refine va_calli (va_runV (As := [.int 0]) (rest := []) ⟨hx, hb, hml, hown, hts⟩ (s_X15_plainBody l dC dI cs ty gm L H.size F h0 ρ ta ou so ad na va lc dm tg pe ml bg co sp nb0 nb1 nb2 pl se ke wi hs mo po nu pr sq xa sa n64 m64 ex wh sd tk hd ak ho ot sx s0 s1 s2 nf bd mm ze zt r_287 0 hW hL_h0 hT_h0 hi_333 ht_334) ⟨callB_of 1 hts (gi kt_1288) rfl rfl rfl (hts _ kt_669) (hts _ kt_1289) (by decide +kernel) ⟨Nat.le_of_ble_eq_true rfl, Nat.le_of_ble_eq_true rfl⟩, (hts _ kt_1290), (hts _ kt_1291)⟩ ⟨fun a U g mk q => ⟨q.1, PTm.calling q.2⟩, pg_recv hK hP hL_h0 hF_326 (q := (RX15, TX15, 59)) rfl, fun U hU hWm => ⟨rfl, PTm.mk hU hWm hP hK hD hE hO⟩⟩ rfl rfl hl.1 rfl (lv_room (Nat.le_of_ble_eq_true rfl)) dL_law_394 ⟨by show _ + 0 ≤ 600000; omega, by show _ + 0 ≤ 7302250; omega⟩) hS (fun q _ h => hFc q h) hFc (fun r_335 u t H1 locs ht hvm hw hB hz1 hk1 hS => ?_)
      obtain ⟨F2, hB1⟩ := hB
      obtain ⟨hP, hD, hO, hR⟩ := QTm.back hB1 ht hFc FR.refl (fun q h => h)
      have hC := hC.kept hBq hk1
      obtain ⟨hi_336, ht_337⟩ := hW.f_ml hL_h0 hT_h0
      have hM : PMl (dC, dI) cs A Bq h0 zt ze gt nf bd mm gm gl H1 := ⟨L, F2, ty, ρ, ta, ou, so, ad, na, va, lc, dm, tg, pe, ml, bg, co, sp, nb0, nb1, nb2, pl, se, ke, wi, hs, mo, po, nu, pr, sq, xa, sa, n64, m64, ex, wh, sd, tk, hd, ak, ho, ot, sx, s0, s1, s2, ⟨hP, hD, hO, hW⟩, hL_h0, hT_h0, (hB1.2.2.2 ta (by rw [ht_332]; simp)).trans hFta, (hB1.2.2.2 ml (by rw [ht_337]; simp)).trans hFml, hn01, hn02, hn12, hU26, hU15, hBq⟩
      generalize H1 = H at hC hM hS ⊢
      refine lv_pop hx hb dL_law_397 rfl ?_
      refine lv_goto (tgt := 522) hx hb dL_law_398 (by decide) ?_
      refine W.widen (k := cc + 1) (n := ss + 5) (by omega) (by omega) ?_
      exact kk zt ze f gt n bb zm fL sA sB sC nf bd mm gm gl _ _ _ (by omega) hcn (hrel) hlr hC hM hS hl
    ·
      refine lv_iconst (v := 1) hx hb dL_law_389 (by decide) ?_
      refine lv_goto (tgt := 394) hx hb dL_law_390 (by decide) ?_
      obtain ⟨L, F, ty, ρ, ta, ou, so, ad, na, va, lc, dm, tg, pe, ml, bg, co, sp, nb0, nb1, nb2, pl, se, ke, wi, hs, mo, po, nu, pr, sq, xa, sa, n64, m64, ex, wh, sd, tk, hd, ak, ho, ot, sx, s0, s1, s2, ⟨hP, hD, hO, hW⟩, hL_h0, hT_h0, hFta, hFml, hn01, hn02, hn12, hU26, hU15, hBq⟩ := hM
      have hG := hGm
      obtain ⟨hq_360, hq_361, hq_362, hq_363, hq_364, hgO, hgA, hgB⟩ := hW.sc hL_h0 hT_h0
      obtain ⟨zo_365, v11_366, v12_367, v14_368, v15_369, v17_370, v18_371, v19_372, v20_373, v21_374, v22_375, v33_376, v52_377, v53_378, v54_379, hF_380, hq_381, hq_382, hq_383, hq_384⟩ := hO.mod hL_h0 hT_h0
      obtain ⟨hi_385, ht_386⟩ := hW.f_ta hL_h0 hT_h0
      obtain ⟨hi_387, r_341, ht_388⟩ := hW.f_pl hL_h0 hT_h0
      have hFc := pg_free hD hS hA
      refine va_calli (va_runV (As := [.int 1]) (rest := []) ⟨hx, hb, hml, hown, hts⟩ (s_X15_plainBody l dC dI cs ty gm L H.size F h0 ρ ta ou so ad na va lc dm tg pe ml bg co sp nb0 nb1 nb2 pl se ke wi hs mo po nu pr sq xa sa n64 m64 ex wh sd tk hd ak ho ot sx s0 s1 s2 nf bd mm ze zt r_341 1 hW hL_h0 hT_h0 hi_387 ht_388) ⟨callB_of 1 hts (gi kt_1288) rfl rfl rfl (hts _ kt_669) (hts _ kt_1289) (by decide +kernel) ⟨Nat.le_of_ble_eq_true rfl, Nat.le_of_ble_eq_true rfl⟩, (hts _ kt_1290), (hts _ kt_1291)⟩ ⟨fun a U g mk q => ⟨q.1, PTm.calling q.2⟩, pg_recv hK hP hL_h0 hF_380 (q := (RX15, TX15, 59)) rfl, fun U hU hWm => ⟨rfl, PTm.mk hU hWm hP hK hD hE hO⟩⟩ rfl rfl hl.1 rfl (lv_room (Nat.le_of_ble_eq_true rfl)) dL_law_394 ⟨by show _ + 0 ≤ 600000; omega, by show _ + 0 ≤ 7302250; omega⟩) hS (fun q _ h => hFc q h) hFc (fun r_389 u t H1 locs ht hvm hw hB hz1 hk1 hS => ?_)
      obtain ⟨F2, hB1⟩ := hB
      obtain ⟨hP, hD, hO, hR⟩ := QTm.back hB1 ht hFc FR.refl (fun q h => h)
      have hC := hC.kept hBq hk1
      obtain ⟨hi_390, ht_391⟩ := hW.f_ml hL_h0 hT_h0
      have hM : PMl (dC, dI) cs A Bq h0 zt ze gt nf bd mm gm gl H1 := ⟨L, F2, ty, ρ, ta, ou, so, ad, na, va, lc, dm, tg, pe, ml, bg, co, sp, nb0, nb1, nb2, pl, se, ke, wi, hs, mo, po, nu, pr, sq, xa, sa, n64, m64, ex, wh, sd, tk, hd, ak, ho, ot, sx, s0, s1, s2, ⟨hP, hD, hO, hW⟩, hL_h0, hT_h0, (hB1.2.2.2 ta (by rw [ht_386]; simp)).trans hFta, (hB1.2.2.2 ml (by rw [ht_391]; simp)).trans hFml, hn01, hn02, hn12, hU26, hU15, hBq⟩
      generalize H1 = H at hC hM hS ⊢
      refine lv_pop hx hb dL_law_397 rfl ?_
      refine lv_goto (tgt := 522) hx hb dL_law_398 (by decide) ?_
      refine W.widen (k := cc + 1) (n := ss + 5) (by omega) (by omega) ?_
      exact kk zt ze f gt n bb zm fL sA sB sC nf bd mm gm gl _ _ _ (by omega) hcn (hrel) hlr hC hM hS hl
set_option maxHeartbeats 4000000 in
set_option maxRecDepth 100000 in
theorem law_11 {p : Program} {l : Launch} {e : Env} {s : State} {m : MethodId} {below : List Frame} {meth : Method} {c : Code} {A Bq : Nat → Prop} {dC : Nat → ClassId} {dI : Nat → Nat → Nat} {cs : Nat → ClassId} {b Ln : Nat} {xs : Nat → Int32} (C0 : LC p s m meth c A dC dI cs b Ln xs) {xq h0 i zt ze cc ss : Nat} {f gt : Nat → Int32} {n : Nat} {bb : Int32} {zm : Nat} {fL sA sB sC : Nat → Int32} {nf bd mm : Nat} {gm : Nat → Nat → Nat} {gl : Nat → Int32} (hi : i + 6 ≤ Ln) (hLn : Ln ≤ 384) (hnz : zt ≤ 1280) (hcc : cc + 1 ≤ 600000) (hss : ss + 5 ≤ 7302250) {H : Heap} {locs : List Loc} {ls : Array Slot} (hrel : REL f gt zt) (hlr : LRL n bb zm fL sA sB sC nf bd mm gm gl) (hC : PCl (dC, dI) cs A Bq xq zt ze f n bb zm fL sA sB sC H) (hM : PMl (dC, dI) cs A Bq h0 zt ze gt nf bd mm gm gl H) (hS : va_S A s.heap H locs) (hl : lv_has ls 4 [(3, .int (nI i)), (2, .ref h0), (1, .ref xq), (0, .ref b)]) (kk : ∀ (z2 c2 : Nat) (f2 g2 : Nat → Int32) (n : Nat) (bb : Int32) (zm : Nat) (fL sA sB sC : Nat → Int32) (nf bd mm : Nat) (gm : Nat → Nat → Nat) (gl : Nat → Int32) (H : Heap) (locs : List Loc) (ls : Array Slot), z2 ≤ zt + 20 → c2 ≤ 40 → REL f2 g2 z2 → LRL n bb zm fL sA sB sC nf bd mm gm gl → PCl (dC, dI) cs A Bq xq z2 c2 f2 n bb zm fL sA sB sC H → PMl (dC, dI) cs A Bq h0 z2 c2 g2 nf bd mm gm gl H → va_S A s.heap H locs → lv_has ls 4 [(3, .int (nI i)), (2, .ref h0), (1, .ref xq), (0, .ref b)] → W p l e room_1 s m #[Value.ref b] below meth c H locs (cc + 1) (ss + 5) (lw_Z below #[Value.ref b] s) (F0 m 522 ls [])) : W p l e room_1 s m #[Value.ref b] below meth c H locs cc ss (lw_Z below #[Value.ref b] s) (F0 m 401 ls []) := by
  obtain ⟨hx, hb, hr, hml, hown, hts, hX, hbl, hbA, hlocks, hE, hGc, hGm, hK, hA, hAs⟩ := id C0
  refine lv_aload_n hx hb dL_law_401 rfl (lv_at hl 2 rfl) ?_
  refine lv_aload_n hx hb dL_law_402 rfl (lv_at hl 3 rfl) ?_
  refine lv_iload_n hx hb dL_law_403 rfl (lv_at hl 0 rfl) ?_
  refine lv_iconst (v := 1) hx hb dL_law_404 (by decide) ?_
  refine lv_iadd hx hb dL_law_405 ?_
  refine lv_topi (fun x_1 ex_1 => ?_)
  obtain rfl : x_1 = (nI (i + 1)) := ex_1.trans (nI_add i 1)
  refine va_sld hx hb hX hbl hbA hS (vp_in_nI (by omega) (by omega)) dL_law_406 ?_
  refine lv_topi (fun x_2 ex_2 => ?_)
  obtain rfl : x_2 = (xs (i + 1)) := ex_2.trans (congrArg xs (nI_clamp (by omega)))
  refine lv_aload_n hx hb dL_law_407 rfl (lv_at hl 3 rfl) ?_
  refine lv_iload_n hx hb dL_law_408 rfl (lv_at hl 0 rfl) ?_
  refine lv_iconst (v := 2) hx hb dL_law_409 (by decide) ?_
  refine lv_iadd hx hb dL_law_410 ?_
  refine lv_topi (fun x_3 ex_3 => ?_)
  obtain rfl : x_3 = (nI (i + 2)) := ex_3.trans (nI_add i 2)
  refine va_sld hx hb hX hbl hbA hS (vp_in_nI (by omega) (by omega)) dL_law_411 ?_
  refine lv_topi (fun x_4 ex_4 => ?_)
  obtain rfl : x_4 = (xs (i + 2)) := ex_4.trans (congrArg xs (nI_clamp (by omega)))
  refine lv_if_eq (tgt := 419) hx hb dL_law_412 (by decide) (fun c_5 => ?_) (fun c_5 => ?_)
  ·
    refine lv_iconst (v := 0) hx hb dL_law_419 (by decide) ?_
    obtain ⟨L, F, ty, ρ, ta, ou, di, ea, ck, sl, po, hs, rt, ⟨hP, hD, hO, hW⟩, hL_xq, hT_xq, hTta, hFt, hFr, hzt, hFd, hcn, hLT, hBq⟩ := hC
    have hG := hGc
    have hTS : TS F ta zt := ⟨hzt, rt, hFt⟩
    obtain ⟨hi_6, ⟨r_7, ht_8⟩, hi_9, ⟨r_10, ht_11⟩, hi_12, ht_13, hi_14, ⟨w0_15, w1_16, w2_17, w3_18, nm_19, te_20, ht_21⟩, hi_22, ⟨l1_23, lx_24, ly0_25, ly1_26, ly2_27, k1_28, kx_29, ky0_30, ky1_31, ky2_32, w0_33, w1_34, w2_35, w3_36, w4_37, w5_38, w6_39, w7_40, w8_41, tk_42, h1_43, hx_44, hy_45, hw_46, pw_47, px_48, py_49, pz_50, pu_51, ht_52⟩, hi_53, ⟨w0_54, w1_55, rc_56, rx_57, ry0_58, ry1_59, ry2_60, ht_61⟩, hi_62, ⟨hx_63, hy_64, hw_65, ht_66⟩⟩ := hW.gate hL_xq hT_xq
    obtain ⟨le_67, sp_68, μ_69, ν_70, hF_71, hq_72, hq_73, hq_74, hq_75, hq_76, hq_77⟩ := hO.gate hL_xq hT_xq
    obtain ⟨x_78, y0_79, y1_80, y2_81, ht_82⟩ := id hq_73
    obtain ⟨x_83, y0_84, y1_85, y2_86, ht_87⟩ := id hq_75
    obtain ⟨hiR, htR, -⟩ := hW.bytes hi_6 hTta
    have hFc := pg_free hD hS hA
    refine va_calli (va_runV (As := [.int (xs (i + 1)), .int 0]) (rest := []) ⟨hx, hb, hml, hown, hts⟩ (s_X11_plainField l dC dI cs ty L H.size F xq ρ ta ou di ea ck sl po hs zt (xs (i + 1)) 0 hW hL_xq hT_xq hTS) ⟨callB_of 2 hts (gi kt_1292) rfl rfl rfl (hts _ kt_656) (hts _ kt_1293) (by decide +kernel) ⟨Nat.le_of_ble_eq_true rfl, Nat.le_of_ble_eq_true rfl⟩, (hts _ kt_1294), (hts _ kt_1295)⟩ ⟨fun a U g mk q => ⟨q.1, PT.calling q.2⟩, pg_recv hK hP hL_xq hF_71 (q := (RX11, TX11, 9)) rfl, fun U hU hWm => ⟨rfl, PT.mk hU hWm hP hK hD hE hO⟩⟩ rfl rfl hl.1 rfl (lv_room (Nat.le_of_ble_eq_true rfl)) dL_law_420 ⟨by show _ + 0 ≤ 600000; omega, by show _ + 0 ≤ 7302250; omega⟩) hS (fun q _ h => hFc q h) hFc (fun r_88 u t H1 locs ht hvm hw hB hz1 hk1 hS => ?_)
    obtain ⟨F2, hB1, hf0⟩ := hB
    obtain ⟨hP, hD, hO, hR⟩ := QT.back hB1 ht hFc FR.refl (fun q h => h)
    have hM := hM.kept hBq hk1
    have hLT := hLT.fr hW hT_xq hB1.2.2.2 (fun q h => by simp only [List.mem_cons, List.not_mem_nil, or_false] at h; omega)
    have hC : PCl (dC, dI) cs A Bq xq zt ze f n bb zm fL sA sB sC H1 := ⟨L, F2, ty, ρ, ta, ou, di, ea, ck, sl, po, hs, rt, ⟨hP, hD, hO, hW⟩, hL_xq, hT_xq, hTta, (hB1.2.2.2 ta (by rw [hTta]; simp)).trans hFt, (hB1.2.2.2 rt (by rw [htR]; simp)).trans hFr, hzt, (hB1.2.2.2 di (by rw [ht_13]; simp)).trans hFd, hcn, hLT, hBq⟩
    generalize H1 = H at hC hM hS ⊢
    refine lv_pop hx hb dL_law_423 rfl ?_
    refine lv_aload_n hx hb dL_law_424 rfl (lv_at hl 1 rfl) ?_
    refine lv_aload_n hx hb dL_law_425 rfl (lv_at hl 3 rfl) ?_
    refine lv_iload_n hx hb dL_law_426 rfl (lv_at hl 0 rfl) ?_
    refine lv_iconst (v := 1) hx hb dL_law_427 (by decide) ?_
    refine lv_iadd hx hb dL_law_428 ?_
    refine lv_topi (fun x_89 ex_89 => ?_)
    obtain rfl : x_89 = (nI (i + 1)) := ex_89.trans (nI_add i 1)
    refine va_sld hx hb hX hbl hbA hS (vp_in_nI (by omega) (by omega)) dL_law_429 ?_
    refine lv_topi (fun x_90 ex_90 => ?_)
    obtain rfl : x_90 = (xs (i + 1)) := ex_90.trans (congrArg xs (nI_clamp (by omega)))
    refine lv_aload_n hx hb dL_law_430 rfl (lv_at hl 3 rfl) ?_
    refine lv_iload_n hx hb dL_law_431 rfl (lv_at hl 0 rfl) ?_
    refine lv_iconst (v := 2) hx hb dL_law_432 (by decide) ?_
    refine lv_iadd hx hb dL_law_433 ?_
    refine lv_topi (fun x_91 ex_91 => ?_)
    obtain rfl : x_91 = (nI (i + 2)) := ex_91.trans (nI_add i 2)
    refine va_sld hx hb hX hbl hbA hS (vp_in_nI (by omega) (by omega)) dL_law_434 ?_
    refine lv_topi (fun x_92 ex_92 => ?_)
    obtain rfl : x_92 = (xs (i + 2)) := ex_92.trans (congrArg xs (nI_clamp (by omega)))
    refine lv_if_eq (tgt := 442) hx hb dL_law_435 (by decide) (fun c_93 => ?_) (fun c_93 => ?_)
    ·
      refine lv_iconst (v := 0) hx hb dL_law_442 (by decide) ?_
      obtain ⟨L, F, ty, ρ, ta, ou, so, ad, na, va, lc, dm, tg, pe, ml, bg, co, sp, nb0, nb1, nb2, pl, se, ke, wi, hs, mo, po, nu, pr, sq, xa, sa, n64, m64, ex, wh, sd, tk, hd, ak, ho, ot, sx, s0, s1, s2, ⟨hP, hD, hO, hW⟩, hL_h0, hT_h0, hFta, hFml, hn01, hn02, hn12, hU26, hU15, hBq⟩ := hM
      have hG := hGm
      obtain ⟨hq_116, hq_117, hq_118, hq_119, hq_120, hgO, hgA, hgB⟩ := hW.sc hL_h0 hT_h0
      obtain ⟨zo_121, v11_122, v12_123, v14_124, v15_125, v17_126, v18_127, v19_128, v20_129, v21_130, v22_131, v33_132, v52_133, v53_134, v54_135, hF_136, hq_137, hq_138, hq_139, hq_140⟩ := hO.mod hL_h0 hT_h0
      obtain ⟨hi_141, ht_142⟩ := hW.f_ta hL_h0 hT_h0
      obtain ⟨hi_143, r_97, ht_144⟩ := hW.f_pl hL_h0 hT_h0
      have hFc := pg_free hD hS hA
      refine va_calli (va_runV (As := [.int (xs (i + 1)), .int 0]) (rest := []) ⟨hx, hb, hml, hown, hts⟩ (s_X15_plainField l dC dI cs ty gm L H.size F h0 ρ ta ou so ad na va lc dm tg pe ml bg co sp nb0 nb1 nb2 pl se ke wi hs mo po nu pr sq xa sa n64 m64 ex wh sd tk hd ak ho ot sx s0 s1 s2 nf bd mm ze zt r_97 (xs (i + 1)) 0 hW hL_h0 hT_h0 hi_143 ht_144) ⟨callB_of 2 hts (gi kt_1296) rfl rfl rfl (hts _ kt_669) (hts _ kt_1297) (by decide +kernel) ⟨Nat.le_of_ble_eq_true rfl, Nat.le_of_ble_eq_true rfl⟩, (hts _ kt_1298), (hts _ kt_1299)⟩ ⟨fun a U g mk q => ⟨q.1, PTm.calling q.2⟩, pg_recv hK hP hL_h0 hF_136 (q := (RX15, TX15, 59)) rfl, fun U hU hWm => ⟨rfl, PTm.mk hU hWm hP hK hD hE hO⟩⟩ rfl rfl hl.1 rfl (lv_room (Nat.le_of_ble_eq_true rfl)) dL_law_443 ⟨by show _ + 0 ≤ 600000; omega, by show _ + 0 ≤ 7302250; omega⟩) hS (fun q _ h => hFc q h) hFc (fun r_145 u t H1 locs ht hvm hw hB hz1 hk1 hS => ?_)
      obtain ⟨F2, hB1⟩ := hB
      obtain ⟨hP, hD, hO, hR⟩ := QTm.back hB1 ht hFc FR.refl (fun q h => h)
      have hC := hC.kept hBq hk1
      obtain ⟨hi_146, ht_147⟩ := hW.f_ml hL_h0 hT_h0
      have hM : PMl (dC, dI) cs A Bq h0 zt ze gt nf bd mm gm gl H1 := ⟨L, F2, ty, ρ, ta, ou, so, ad, na, va, lc, dm, tg, pe, ml, bg, co, sp, nb0, nb1, nb2, pl, se, ke, wi, hs, mo, po, nu, pr, sq, xa, sa, n64, m64, ex, wh, sd, tk, hd, ak, ho, ot, sx, s0, s1, s2, ⟨hP, hD, hO, hW⟩, hL_h0, hT_h0, (hB1.2.2.2 ta (by rw [ht_142]; simp)).trans hFta, (hB1.2.2.2 ml (by rw [ht_147]; simp)).trans hFml, hn01, hn02, hn12, hU26, hU15, hBq⟩
      generalize H1 = H at hC hM hS ⊢
      refine lv_pop hx hb dL_law_446 rfl ?_
      refine lv_goto (tgt := 522) hx hb dL_law_447 (by decide) ?_
      refine W.widen (k := cc + 1) (n := ss + 5) (by omega) (by omega) ?_
      exact kk zt ze f gt n bb zm fL sA sB sC nf bd mm gm gl _ _ _ (by omega) hcn (hrel) hlr hC hM hS hl
    ·
      refine lv_iconst (v := 1) hx hb dL_law_438 (by decide) ?_
      refine lv_goto (tgt := 443) hx hb dL_law_439 (by decide) ?_
      obtain ⟨L, F, ty, ρ, ta, ou, so, ad, na, va, lc, dm, tg, pe, ml, bg, co, sp, nb0, nb1, nb2, pl, se, ke, wi, hs, mo, po, nu, pr, sq, xa, sa, n64, m64, ex, wh, sd, tk, hd, ak, ho, ot, sx, s0, s1, s2, ⟨hP, hD, hO, hW⟩, hL_h0, hT_h0, hFta, hFml, hn01, hn02, hn12, hU26, hU15, hBq⟩ := hM
      have hG := hGm
      obtain ⟨hq_170, hq_171, hq_172, hq_173, hq_174, hgO, hgA, hgB⟩ := hW.sc hL_h0 hT_h0
      obtain ⟨zo_175, v11_176, v12_177, v14_178, v15_179, v17_180, v18_181, v19_182, v20_183, v21_184, v22_185, v33_186, v52_187, v53_188, v54_189, hF_190, hq_191, hq_192, hq_193, hq_194⟩ := hO.mod hL_h0 hT_h0
      obtain ⟨hi_195, ht_196⟩ := hW.f_ta hL_h0 hT_h0
      obtain ⟨hi_197, r_151, ht_198⟩ := hW.f_pl hL_h0 hT_h0
      have hFc := pg_free hD hS hA
      refine va_calli (va_runV (As := [.int (xs (i + 1)), .int 1]) (rest := []) ⟨hx, hb, hml, hown, hts⟩ (s_X15_plainField l dC dI cs ty gm L H.size F h0 ρ ta ou so ad na va lc dm tg pe ml bg co sp nb0 nb1 nb2 pl se ke wi hs mo po nu pr sq xa sa n64 m64 ex wh sd tk hd ak ho ot sx s0 s1 s2 nf bd mm ze zt r_151 (xs (i + 1)) 1 hW hL_h0 hT_h0 hi_197 ht_198) ⟨callB_of 2 hts (gi kt_1296) rfl rfl rfl (hts _ kt_669) (hts _ kt_1297) (by decide +kernel) ⟨Nat.le_of_ble_eq_true rfl, Nat.le_of_ble_eq_true rfl⟩, (hts _ kt_1298), (hts _ kt_1299)⟩ ⟨fun a U g mk q => ⟨q.1, PTm.calling q.2⟩, pg_recv hK hP hL_h0 hF_190 (q := (RX15, TX15, 59)) rfl, fun U hU hWm => ⟨rfl, PTm.mk hU hWm hP hK hD hE hO⟩⟩ rfl rfl hl.1 rfl (lv_room (Nat.le_of_ble_eq_true rfl)) dL_law_443 ⟨by show _ + 0 ≤ 600000; omega, by show _ + 0 ≤ 7302250; omega⟩) hS (fun q _ h => hFc q h) hFc (fun r_199 u t H1 locs ht hvm hw hB hz1 hk1 hS => ?_)
      obtain ⟨F2, hB1⟩ := hB
      obtain ⟨hP, hD, hO, hR⟩ := QTm.back hB1 ht hFc FR.refl (fun q h => h)
      have hC := hC.kept hBq hk1
      obtain ⟨hi_200, ht_201⟩ := hW.f_ml hL_h0 hT_h0
      have hM : PMl (dC, dI) cs A Bq h0 zt ze gt nf bd mm gm gl H1 := ⟨L, F2, ty, ρ, ta, ou, so, ad, na, va, lc, dm, tg, pe, ml, bg, co, sp, nb0, nb1, nb2, pl, se, ke, wi, hs, mo, po, nu, pr, sq, xa, sa, n64, m64, ex, wh, sd, tk, hd, ak, ho, ot, sx, s0, s1, s2, ⟨hP, hD, hO, hW⟩, hL_h0, hT_h0, (hB1.2.2.2 ta (by rw [ht_196]; simp)).trans hFta, (hB1.2.2.2 ml (by rw [ht_201]; simp)).trans hFml, hn01, hn02, hn12, hU26, hU15, hBq⟩
      generalize H1 = H at hC hM hS ⊢
      refine lv_pop hx hb dL_law_446 rfl ?_
      refine lv_goto (tgt := 522) hx hb dL_law_447 (by decide) ?_
      refine W.widen (k := cc + 1) (n := ss + 5) (by omega) (by omega) ?_
      exact kk zt ze f gt n bb zm fL sA sB sC nf bd mm gm gl _ _ _ (by omega) hcn (hrel) hlr hC hM hS hl
  ·
    refine lv_iconst (v := 1) hx hb dL_law_415 (by decide) ?_
    refine lv_goto (tgt := 420) hx hb dL_law_416 (by decide) ?_
    obtain ⟨L, F, ty, ρ, ta, ou, di, ea, ck, sl, po, hs, rt, ⟨hP, hD, hO, hW⟩, hL_xq, hT_xq, hTta, hFt, hFr, hzt, hFd, hcn, hLT, hBq⟩ := hC
    have hG := hGc
    have hTS : TS F ta zt := ⟨hzt, rt, hFt⟩
    obtain ⟨hi_202, ⟨r_203, ht_204⟩, hi_205, ⟨r_206, ht_207⟩, hi_208, ht_209, hi_210, ⟨w0_211, w1_212, w2_213, w3_214, nm_215, te_216, ht_217⟩, hi_218, ⟨l1_219, lx_220, ly0_221, ly1_222, ly2_223, k1_224, kx_225, ky0_226, ky1_227, ky2_228, w0_229, w1_230, w2_231, w3_232, w4_233, w5_234, w6_235, w7_236, w8_237, tk_238, h1_239, hx_240, hy_241, hw_242, pw_243, px_244, py_245, pz_246, pu_247, ht_248⟩, hi_249, ⟨w0_250, w1_251, rc_252, rx_253, ry0_254, ry1_255, ry2_256, ht_257⟩, hi_258, ⟨hx_259, hy_260, hw_261, ht_262⟩⟩ := hW.gate hL_xq hT_xq
    obtain ⟨le_263, sp_264, μ_265, ν_266, hF_267, hq_268, hq_269, hq_270, hq_271, hq_272, hq_273⟩ := hO.gate hL_xq hT_xq
    obtain ⟨x_274, y0_275, y1_276, y2_277, ht_278⟩ := id hq_269
    obtain ⟨x_279, y0_280, y1_281, y2_282, ht_283⟩ := id hq_271
    obtain ⟨hiR, htR, -⟩ := hW.bytes hi_202 hTta
    have hFc := pg_free hD hS hA
    refine va_calli (va_runV (As := [.int (xs (i + 1)), .int 1]) (rest := []) ⟨hx, hb, hml, hown, hts⟩ (s_X11_plainField l dC dI cs ty L H.size F xq ρ ta ou di ea ck sl po hs zt (xs (i + 1)) 1 hW hL_xq hT_xq hTS) ⟨callB_of 2 hts (gi kt_1292) rfl rfl rfl (hts _ kt_656) (hts _ kt_1293) (by decide +kernel) ⟨Nat.le_of_ble_eq_true rfl, Nat.le_of_ble_eq_true rfl⟩, (hts _ kt_1294), (hts _ kt_1295)⟩ ⟨fun a U g mk q => ⟨q.1, PT.calling q.2⟩, pg_recv hK hP hL_xq hF_267 (q := (RX11, TX11, 9)) rfl, fun U hU hWm => ⟨rfl, PT.mk hU hWm hP hK hD hE hO⟩⟩ rfl rfl hl.1 rfl (lv_room (Nat.le_of_ble_eq_true rfl)) dL_law_420 ⟨by show _ + 0 ≤ 600000; omega, by show _ + 0 ≤ 7302250; omega⟩) hS (fun q _ h => hFc q h) hFc (fun r_284 u t H1 locs ht hvm hw hB hz1 hk1 hS => ?_)
    obtain ⟨F2, hB1, hf0⟩ := hB
    obtain ⟨hP, hD, hO, hR⟩ := QT.back hB1 ht hFc FR.refl (fun q h => h)
    have hM := hM.kept hBq hk1
    have hLT := hLT.fr hW hT_xq hB1.2.2.2 (fun q h => by simp only [List.mem_cons, List.not_mem_nil, or_false] at h; omega)
    have hC : PCl (dC, dI) cs A Bq xq zt ze f n bb zm fL sA sB sC H1 := ⟨L, F2, ty, ρ, ta, ou, di, ea, ck, sl, po, hs, rt, ⟨hP, hD, hO, hW⟩, hL_xq, hT_xq, hTta, (hB1.2.2.2 ta (by rw [hTta]; simp)).trans hFt, (hB1.2.2.2 rt (by rw [htR]; simp)).trans hFr, hzt, (hB1.2.2.2 di (by rw [ht_209]; simp)).trans hFd, hcn, hLT, hBq⟩
    generalize H1 = H at hC hM hS ⊢
    refine lv_pop hx hb dL_law_423 rfl ?_
    refine lv_aload_n hx hb dL_law_424 rfl (lv_at hl 1 rfl) ?_
    refine lv_aload_n hx hb dL_law_425 rfl (lv_at hl 3 rfl) ?_
    refine lv_iload_n hx hb dL_law_426 rfl (lv_at hl 0 rfl) ?_
    refine lv_iconst (v := 1) hx hb dL_law_427 (by decide) ?_
    refine lv_iadd hx hb dL_law_428 ?_
    refine lv_topi (fun x_285 ex_285 => ?_)
    obtain rfl : x_285 = (nI (i + 1)) := ex_285.trans (nI_add i 1)
    refine va_sld hx hb hX hbl hbA hS (vp_in_nI (by omega) (by omega)) dL_law_429 ?_
    refine lv_topi (fun x_286 ex_286 => ?_)
    obtain rfl : x_286 = (xs (i + 1)) := ex_286.trans (congrArg xs (nI_clamp (by omega)))
    refine lv_aload_n hx hb dL_law_430 rfl (lv_at hl 3 rfl) ?_
    refine lv_iload_n hx hb dL_law_431 rfl (lv_at hl 0 rfl) ?_
    refine lv_iconst (v := 2) hx hb dL_law_432 (by decide) ?_
    refine lv_iadd hx hb dL_law_433 ?_
    refine lv_topi (fun x_287 ex_287 => ?_)
    obtain rfl : x_287 = (nI (i + 2)) := ex_287.trans (nI_add i 2)
    refine va_sld hx hb hX hbl hbA hS (vp_in_nI (by omega) (by omega)) dL_law_434 ?_
    refine lv_topi (fun x_288 ex_288 => ?_)
    obtain rfl : x_288 = (xs (i + 2)) := ex_288.trans (congrArg xs (nI_clamp (by omega)))
    refine lv_if_eq (tgt := 442) hx hb dL_law_435 (by decide) (fun c_289 => ?_) (fun c_289 => ?_)
    ·
      refine lv_iconst (v := 0) hx hb dL_law_442 (by decide) ?_
      obtain ⟨L, F, ty, ρ, ta, ou, so, ad, na, va, lc, dm, tg, pe, ml, bg, co, sp, nb0, nb1, nb2, pl, se, ke, wi, hs, mo, po, nu, pr, sq, xa, sa, n64, m64, ex, wh, sd, tk, hd, ak, ho, ot, sx, s0, s1, s2, ⟨hP, hD, hO, hW⟩, hL_h0, hT_h0, hFta, hFml, hn01, hn02, hn12, hU26, hU15, hBq⟩ := hM
      have hG := hGm
      obtain ⟨hq_312, hq_313, hq_314, hq_315, hq_316, hgO, hgA, hgB⟩ := hW.sc hL_h0 hT_h0
      obtain ⟨zo_317, v11_318, v12_319, v14_320, v15_321, v17_322, v18_323, v19_324, v20_325, v21_326, v22_327, v33_328, v52_329, v53_330, v54_331, hF_332, hq_333, hq_334, hq_335, hq_336⟩ := hO.mod hL_h0 hT_h0
      obtain ⟨hi_337, ht_338⟩ := hW.f_ta hL_h0 hT_h0
      obtain ⟨hi_339, r_293, ht_340⟩ := hW.f_pl hL_h0 hT_h0
      have hFc := pg_free hD hS hA
      refine va_calli (va_runV (As := [.int (xs (i + 1)), .int 0]) (rest := []) ⟨hx, hb, hml, hown, hts⟩ (s_X15_plainField l dC dI cs ty gm L H.size F h0 ρ ta ou so ad na va lc dm tg pe ml bg co sp nb0 nb1 nb2 pl se ke wi hs mo po nu pr sq xa sa n64 m64 ex wh sd tk hd ak ho ot sx s0 s1 s2 nf bd mm ze zt r_293 (xs (i + 1)) 0 hW hL_h0 hT_h0 hi_339 ht_340) ⟨callB_of 2 hts (gi kt_1296) rfl rfl rfl (hts _ kt_669) (hts _ kt_1297) (by decide +kernel) ⟨Nat.le_of_ble_eq_true rfl, Nat.le_of_ble_eq_true rfl⟩, (hts _ kt_1298), (hts _ kt_1299)⟩ ⟨fun a U g mk q => ⟨q.1, PTm.calling q.2⟩, pg_recv hK hP hL_h0 hF_332 (q := (RX15, TX15, 59)) rfl, fun U hU hWm => ⟨rfl, PTm.mk hU hWm hP hK hD hE hO⟩⟩ rfl rfl hl.1 rfl (lv_room (Nat.le_of_ble_eq_true rfl)) dL_law_443 ⟨by show _ + 0 ≤ 600000; omega, by show _ + 0 ≤ 7302250; omega⟩) hS (fun q _ h => hFc q h) hFc (fun r_341 u t H1 locs ht hvm hw hB hz1 hk1 hS => ?_)
      obtain ⟨F2, hB1⟩ := hB
      obtain ⟨hP, hD, hO, hR⟩ := QTm.back hB1 ht hFc FR.refl (fun q h => h)
      have hC := hC.kept hBq hk1
      obtain ⟨hi_342, ht_343⟩ := hW.f_ml hL_h0 hT_h0
      have hM : PMl (dC, dI) cs A Bq h0 zt ze gt nf bd mm gm gl H1 := ⟨L, F2, ty, ρ, ta, ou, so, ad, na, va, lc, dm, tg, pe, ml, bg, co, sp, nb0, nb1, nb2, pl, se, ke, wi, hs, mo, po, nu, pr, sq, xa, sa, n64, m64, ex, wh, sd, tk, hd, ak, ho, ot, sx, s0, s1, s2, ⟨hP, hD, hO, hW⟩, hL_h0, hT_h0, (hB1.2.2.2 ta (by rw [ht_338]; simp)).trans hFta, (hB1.2.2.2 ml (by rw [ht_343]; simp)).trans hFml, hn01, hn02, hn12, hU26, hU15, hBq⟩
      generalize H1 = H at hC hM hS ⊢
      refine lv_pop hx hb dL_law_446 rfl ?_
      refine lv_goto (tgt := 522) hx hb dL_law_447 (by decide) ?_
      refine W.widen (k := cc + 1) (n := ss + 5) (by omega) (by omega) ?_
      exact kk zt ze f gt n bb zm fL sA sB sC nf bd mm gm gl _ _ _ (by omega) hcn (hrel) hlr hC hM hS hl
    ·
      refine lv_iconst (v := 1) hx hb dL_law_438 (by decide) ?_
      refine lv_goto (tgt := 443) hx hb dL_law_439 (by decide) ?_
      obtain ⟨L, F, ty, ρ, ta, ou, so, ad, na, va, lc, dm, tg, pe, ml, bg, co, sp, nb0, nb1, nb2, pl, se, ke, wi, hs, mo, po, nu, pr, sq, xa, sa, n64, m64, ex, wh, sd, tk, hd, ak, ho, ot, sx, s0, s1, s2, ⟨hP, hD, hO, hW⟩, hL_h0, hT_h0, hFta, hFml, hn01, hn02, hn12, hU26, hU15, hBq⟩ := hM
      have hG := hGm
      obtain ⟨hq_366, hq_367, hq_368, hq_369, hq_370, hgO, hgA, hgB⟩ := hW.sc hL_h0 hT_h0
      obtain ⟨zo_371, v11_372, v12_373, v14_374, v15_375, v17_376, v18_377, v19_378, v20_379, v21_380, v22_381, v33_382, v52_383, v53_384, v54_385, hF_386, hq_387, hq_388, hq_389, hq_390⟩ := hO.mod hL_h0 hT_h0
      obtain ⟨hi_391, ht_392⟩ := hW.f_ta hL_h0 hT_h0
      obtain ⟨hi_393, r_347, ht_394⟩ := hW.f_pl hL_h0 hT_h0
      have hFc := pg_free hD hS hA
      refine va_calli (va_runV (As := [.int (xs (i + 1)), .int 1]) (rest := []) ⟨hx, hb, hml, hown, hts⟩ (s_X15_plainField l dC dI cs ty gm L H.size F h0 ρ ta ou so ad na va lc dm tg pe ml bg co sp nb0 nb1 nb2 pl se ke wi hs mo po nu pr sq xa sa n64 m64 ex wh sd tk hd ak ho ot sx s0 s1 s2 nf bd mm ze zt r_347 (xs (i + 1)) 1 hW hL_h0 hT_h0 hi_393 ht_394) ⟨callB_of 2 hts (gi kt_1296) rfl rfl rfl (hts _ kt_669) (hts _ kt_1297) (by decide +kernel) ⟨Nat.le_of_ble_eq_true rfl, Nat.le_of_ble_eq_true rfl⟩, (hts _ kt_1298), (hts _ kt_1299)⟩ ⟨fun a U g mk q => ⟨q.1, PTm.calling q.2⟩, pg_recv hK hP hL_h0 hF_386 (q := (RX15, TX15, 59)) rfl, fun U hU hWm => ⟨rfl, PTm.mk hU hWm hP hK hD hE hO⟩⟩ rfl rfl hl.1 rfl (lv_room (Nat.le_of_ble_eq_true rfl)) dL_law_443 ⟨by show _ + 0 ≤ 600000; omega, by show _ + 0 ≤ 7302250; omega⟩) hS (fun q _ h => hFc q h) hFc (fun r_395 u t H1 locs ht hvm hw hB hz1 hk1 hS => ?_)
      obtain ⟨F2, hB1⟩ := hB
      obtain ⟨hP, hD, hO, hR⟩ := QTm.back hB1 ht hFc FR.refl (fun q h => h)
      have hC := hC.kept hBq hk1
      obtain ⟨hi_396, ht_397⟩ := hW.f_ml hL_h0 hT_h0
      have hM : PMl (dC, dI) cs A Bq h0 zt ze gt nf bd mm gm gl H1 := ⟨L, F2, ty, ρ, ta, ou, so, ad, na, va, lc, dm, tg, pe, ml, bg, co, sp, nb0, nb1, nb2, pl, se, ke, wi, hs, mo, po, nu, pr, sq, xa, sa, n64, m64, ex, wh, sd, tk, hd, ak, ho, ot, sx, s0, s1, s2, ⟨hP, hD, hO, hW⟩, hL_h0, hT_h0, (hB1.2.2.2 ta (by rw [ht_392]; simp)).trans hFta, (hB1.2.2.2 ml (by rw [ht_397]; simp)).trans hFml, hn01, hn02, hn12, hU26, hU15, hBq⟩
      generalize H1 = H at hC hM hS ⊢
      refine lv_pop hx hb dL_law_446 rfl ?_
      refine lv_goto (tgt := 522) hx hb dL_law_447 (by decide) ?_
      refine W.widen (k := cc + 1) (n := ss + 5) (by omega) (by omega) ?_
      exact kk zt ze f gt n bb zm fL sA sB sC nf bd mm gm gl _ _ _ (by omega) hcn (hrel) hlr hC hM hS hl
