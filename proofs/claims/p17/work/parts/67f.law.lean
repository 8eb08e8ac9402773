theorem kt_1284 : Cond.code yX11_plainBody cX11_plainBody 2 (some .int) ∈ tb := tb_at (i := 1086) (by decide +kernel) (by decide +kernel)
theorem kt_1285 : Cond.methodLink RL 57 yX11_plainBody ∈ tb := tb_at (i := 1083) (by decide +kernel) (by decide +kernel)
theorem kt_1286 : Cond.instanceMethod yX11_plainBody ∈ tb := tb_at (i := 1084) (by decide +kernel) (by decide +kernel)
theorem kt_1287 : Cond.selects RX11 yX11_plainBody yX11_plainBody ∈ tb := tb_at (i := 1085) (by decide +kernel) (by decide +kernel)
theorem kt_1288 : Cond.code yX15_plainBody cX15_plainBody 2 (some .int) ∈ tb := tb_at (i := 1666) (by decide +kernel) (by decide +kernel)
theorem kt_1289 : Cond.methodLink RL 61 yX15_plainBody ∈ tb := tb_at (i := 1663) (by decide +kernel) (by decide +kernel)
theorem kt_1290 : Cond.instanceMethod yX15_plainBody ∈ tb := tb_at (i := 1664) (by decide +kernel) (by decide +kernel)
theorem kt_1291 : Cond.selects RX15 yX15_plainBody yX15_plainBody ∈ tb := tb_at (i := 1665) (by decide +kernel) (by decide +kernel)
theorem kt_1292 : Cond.code yX11_plainField cX11_plainField 3 (some .int) ∈ tb := tb_at (i := 1091) (by decide +kernel) (by decide +kernel)
theorem kt_1293 : Cond.methodLink RL 62 yX11_plainField ∈ tb := tb_at (i := 1088) (by decide +kernel) (by decide +kernel)
theorem kt_1294 : Cond.instanceMethod yX11_plainField ∈ tb := tb_at (i := 1089) (by decide +kernel) (by decide +kernel)
theorem kt_1295 : Cond.selects RX11 yX11_plainField yX11_plainField ∈ tb := tb_at (i := 1090) (by decide +kernel) (by decide +kernel)
theorem kt_1296 : Cond.code yX15_plainField cX15_plainField 3 (some .int) ∈ tb := tb_at (i := 1678) (by decide +kernel) (by decide +kernel)
theorem kt_1297 : Cond.methodLink RL 66 yX15_plainField ∈ tb := tb_at (i := 1675) (by decide +kernel) (by decide +kernel)
theorem kt_1298 : Cond.instanceMethod yX15_plainField ∈ tb := tb_at (i := 1676) (by decide +kernel) (by decide +kernel)
theorem kt_1299 : Cond.selects RX15 yX15_plainField yX15_plainField ∈ tb := tb_at (i := 1677) (by decide +kernel) (by decide +kernel)
set_option maxHeartbeats 4000000 in
set_option maxRecDepth 100000 in
theorem law_10 {p : Program} {l : Launch} {e : Env} {s : State} {m : MethodId} {below : List Frame} {meth : Method} {c : Code} {A Bq : Nat → Prop} {dC : Nat → ClassId} {dI : Nat → Nat → Nat} {cs : Nat → ClassId} {b Ln : Nat} {xs : Nat → Int32} (C0 : LC p s m meth c A dC dI cs b Ln xs) {xq h0 i zt ze cc ss : Nat} {f gt : Nat → Int32} {n : Nat} {bb : Int32} {zm : Nat} {fL sA sB sC : Nat → Int32} {DX : Nat → ETY} {zo : Nat} {fo : Nat → Int32} {nf bd mm : Nat} {gm : Nat → Nat → Nat} {gl : Nat → Int32} {EX : Nat → ETY} {go : Nat → Int32} (hi : i + 6 ≤ Ln) (hLn : Ln ≤ 384) (hnz : zt ≤ 1280) (hcc : cc + 1 ≤ 600000) (hss : ss + 5 ≤ 7302250) {H : Heap} {locs : List Loc} {ls : Array Slot} (hrel : REL f gt zt) (hlr : LRL n bb zm fL sA sB sC nf bd mm gm gl) (hdr : DREL DX EX ze) (hro : REL fo go zo) (hC : PCl (dC, dI) cs A Bq xq zt ze f n bb zm fL sA sB sC DX zo fo H) (hM : PMl (dC, dI) cs A Bq h0 zt ze gt nf bd mm gm gl EX zo go H) (hS : va_S A s.heap H locs) (hl : lv_has ls 4 [(3, .int (nI i)), (2, .ref h0), (1, .ref xq), (0, .ref b)]) (kk : ∀ (z2 c2 : Nat) (f2 g2 : Nat → Int32) (n : Nat) (bb : Int32) (zm : Nat) (fL sA sB sC : Nat → Int32) (DX : Nat → ETY) (zo : Nat) (fo : Nat → Int32) (nf bd mm : Nat) (gm : Nat → Nat → Nat) (gl : Nat → Int32) (EX : Nat → ETY) (go : Nat → Int32) (H : Heap) (locs : List Loc) (ls : Array Slot), z2 ≤ zt + 20 → c2 ≤ 40 → REL f2 g2 z2 → LRL n bb zm fL sA sB sC nf bd mm gm gl → DREL DX EX c2 → REL fo go zo → PCl (dC, dI) cs A Bq xq z2 c2 f2 n bb zm fL sA sB sC DX zo fo H → PMl (dC, dI) cs A Bq h0 z2 c2 g2 nf bd mm gm gl EX zo go H → va_S A s.heap H locs → lv_has ls 4 [(3, .int (nI i)), (2, .ref h0), (1, .ref xq), (0, .ref b)] → W p l e room_1 s m #[Value.ref b] below meth c H locs (cc + 1) (ss + 5) (lw_Z below #[Value.ref b] s) (F0 m 522 ls [])) : W p l e room_1 s m #[Value.ref b] below meth c H locs cc ss (lw_Z below #[Value.ref b] s) (F0 m 362 ls []) := by
  obtain ⟨hx, hb, hr, hml, hown, hts, hX, hbl, hbA, hlocks, hE, hGc, hGm, hK, hA, hAs⟩ := id C0
  refine lv_aload_n hx hb dL_law_362 rfl (lv_at hl 2 rfl) ?_
  refine lv_aload_n hx hb dL_law_363 rfl (lv_at hl 3 rfl) ?_
  refine lv_iload_n hx hb dL_law_364 rfl (lv_at hl 0 rfl) ?_
  refine lv_iconst (v := 1) hx hb dL_law_365 (by decide) ?_
  refine lv_iadd hx hb dL_law_366 ?_
  refine lv_topi (fun x_1 ex_1 => ?_)
  obtain rfl : x_1 = (nI (i + 1)) := ex_1.trans (nI_add i 1)
  refine va_sld hx hb hX hbl hbA hS (vp_in_nI (by omega) (by omega)) dL_law_367 ?_
  refine lv_topi (fun x_2 ex_2 => ?_)
  obtain rfl : x_2 = (xs (i + 1)) := ex_2.trans (congrArg xs (nI_clamp (by omega)))
  refine lv_if_eq (tgt := 375) hx hb dL_law_368 (by decide) (fun c_3 => ?_) (fun c_3 => ?_)
  ·
    refine lv_iconst (v := 0) hx hb dL_law_375 (by decide) ?_
    obtain ⟨L, F, ty, ρ, ta, ou, di, ea, ck, sl, po, hs, rt, ro, ⟨hP, hD, hO, hW⟩, hL_xq, hT_xq, hTta, hFt, hFr, hzt, hFd, hcn, hLT, hDI, hTou, hFou, hFro, hzo, hBq⟩ := hC
    have hG := hGc
    have hTS : TS F ta zt := ⟨hzt, rt, hFt⟩
    obtain ⟨le, sp, μ, ν, x, y0, y1, y2, rx, x9, w0, w1, w2, rx9, o, hm, l1, l2, l3, l4, l5, l6, l7, l8, l9, l10, l11, l12, l13, l14, l15⟩ := id hLT
    have hF_xq := l1
    obtain ⟨hi_4, ⟨r_5, ht_6⟩, hi_7, ⟨r_8, ht_9⟩, hi_10, ht_11, hi_12, ⟨w0_13, w1_14, w2_15, w3_16, nm_17, te_18, ht_19⟩, hi_20, ⟨l1_21, lx_22, ly0_23, ly1_24, ly2_25, k1_26, kx_27, ky0_28, ky1_29, ky2_30, w0_31, w1_32, w2_33, w3_34, w4_35, w5_36, w6_37, w7_38, w8_39, tk_40, h1_41, hx_42, hy_43, hw_44, pw_45, px_46, py_47, pz_48, pu_49, ht_50⟩, hi_51, ⟨w0_52, w1_53, rc_54, rx_55, ry0_56, ry1_57, ry2_58, ht_59⟩, hi_60, ⟨hx_61, hy_62, hw_63, ht_64⟩⟩ := hW.gate hL_xq hT_xq
    obtain ⟨le_65, sp_66, μ_67, ν_68, hF_69, hq_70, hq_71, hq_72, hq_73, hq_74, hq_75⟩ := hO.gate hL_xq hT_xq
    obtain ⟨x_76, y0_77, y1_78, y2_79, ht_80⟩ := id hq_71
    obtain ⟨x_81, y0_82, y1_83, y2_84, ht_85⟩ := id hq_73
    obtain ⟨hiR, htR, -⟩ := hW.bytes hi_4 hTta
    obtain ⟨hi_86, ht_87⟩ := hW.dir hi_10 ht_11
    have hO0 := hO
    obtain ⟨hiO, htO, -⟩ := hW.bytes hi_7 hTou
    obtain ⟨lx9, -, -, -, -, -, -, -⟩ := hW.msg l2 l3
    have hpf := hlr.pos
    have hFc := pg_free hD hS hA
    refine va_calli (va_runV (As := [.int 0]) (rest := []) ⟨hx, hb, hml, hown, hts⟩ (s_X11_plainBody_c l dC dI cs ty L H.size F xq ρ ta ou di ea ck sl po hs le x y0 y1 y2 sp rx ro n zm μ bd fL bb o 0 zo fo hW hL_xq hT_xq hi_7 hTou l2 l3 lx9 l6 l1 l9 l10 l11 l8 l15 (by omega) hlr.bs hFou hFro hzo) ⟨callB_of 1 hts (gi kt_1284) rfl rfl rfl (hts _ kt_646) (hts _ kt_1285) (by decide +kernel) ⟨Nat.le_of_ble_eq_true rfl, Nat.le_of_ble_eq_true rfl⟩, (hts _ kt_1286), (hts _ kt_1287)⟩ ⟨fun a U g mk q => ⟨q.1, PT.calling q.2⟩, pg_recv hK hP hL_xq hF_69 (q := (RX11, TX11, 9)) rfl, fun U hU hWm => ⟨rfl, PT.mk hU hWm hP hK hD hE hO⟩⟩ rfl rfl hl.1 rfl (lv_room (Nat.le_of_ble_eq_true rfl)) dL_law_376 ⟨by show _ + 0 ≤ 600000; omega, by show _ + 0 ≤ 7302250; omega⟩) hS (fun q _ h => hFc q h) hFc (fun r_88 c2 t H1 locs ht hvm hw hB hz1 hk1 hS => ?_)
    obtain ⟨F2, f2, hB1, hf0, hf1, hf2, hf3⟩ := hB
    obtain ⟨hP, hD, hO, hR⟩ := QT.back hB1 ht hFc FR.refl (fun q h => h)
    have hM := hM.kept hBq hk1
    have hLT := hLT.fr hW hT_xq hB1.2.2.2 (fun q h => by simp only [List.mem_cons, List.not_mem_nil, or_false] at h; omega)
    have hE1 := hw
    have hln20 := l8
    have hDI := DIRC.fr hDI hO0 hW hi_86 ht_87 hcn hB1.2.2.2 (hB1.2.2.2 ea (by rw [ht_87]; simp)) (fun k hk => by simp only [List.mem_cons, List.not_mem_nil, or_false]; omega)
    have hC : PCl (dC, dI) cs A Bq xq zt ze f n bb zm fL sA sB sC DX c2 f2 H1 := ⟨L, F2, ty, ρ, ta, ou, di, ea, ck, sl, po, hs, rt, ro, ⟨hP, hD, hO, hW⟩, hL_xq, hT_xq, hTta, (hB1.2.2.2 ta (by rw [hTta]; simp)).trans hFt, (hB1.2.2.2 rt (by rw [htR]; simp)).trans hFr, hzt, (hB1.2.2.2 di (by rw [ht_11]; simp)).trans hFd, hcn, hLT, hDI, hTou, hf0, hf1, hf3, hBq⟩
    generalize H1 = H at hC hM hS ⊢
    refine lv_pop hx hb dL_law_379 rfl ?_
    refine lv_aload_n hx hb dL_law_380 rfl (lv_at hl 1 rfl) ?_
    refine lv_aload_n hx hb dL_law_381 rfl (lv_at hl 3 rfl) ?_
    refine lv_iload_n hx hb dL_law_382 rfl (lv_at hl 0 rfl) ?_
    refine lv_iconst (v := 1) hx hb dL_law_383 (by decide) ?_
    refine lv_iadd hx hb dL_law_384 ?_
    refine lv_topi (fun x_89 ex_89 => ?_)
    obtain rfl : x_89 = (nI (i + 1)) := ex_89.trans (nI_add i 1)
    refine va_sld hx hb hX hbl hbA hS (vp_in_nI (by omega) (by omega)) dL_law_385 ?_
    refine lv_topi (fun x_90 ex_90 => ?_)
    obtain rfl : x_90 = (xs (i + 1)) := ex_90.trans (congrArg xs (nI_clamp (by omega)))
    refine lv_if_eq (tgt := 393) hx hb dL_law_386 (by decide) (fun c_91 => ?_) (fun c_91 => absurd (c_3) c_91)
    refine lv_iconst (v := 0) hx hb dL_law_393 (by decide) ?_
    obtain ⟨L, F, ty, ρ, ta, ou, so, ad, na, va, lc, dm, tg, pe, ml, bg, co, sp, nb0, nb1, nb2, pl, se, ke, wi, hs, mo, po, nu, pr, sq, xa, sa, n64, m64, ex, wh, sd, tk, hd, ak, ho, ot, sx, s0, s1, s2, ⟨hP, hD, hO, hW⟩, hL_h0, hT_h0, hFta, hFml, hDM, hFou, hn01, hn02, hn12, hU26, hU15, hBq⟩ := hM
    have hG := hGm
    obtain ⟨hq_114, hq_115, hq_116, hq_117, hq_118, hgO, hgA, hgB⟩ := hW.sc hL_h0 hT_h0
    obtain ⟨v11_119, v12_120, v14_121, v15_122, v17_123, v18_124, v19_125, v20_126, v21_127, v22_128, v33_129, v52_130, v53_131, v54_132, hF_133, hq_134, hq_135, hq_136, hq_137⟩ := hO.mod hL_h0 hT_h0
    obtain ⟨hi_138, ht_139⟩ := hW.f_ta hL_h0 hT_h0
    obtain ⟨hLs0, hTs0⟩ := hW.f_so hL_h0 hT_h0
    obtain ⟨hLd0, hTd0⟩ := hW.f_ad hL_h0 hT_h0
    obtain ⟨hLn0, hTn0⟩ := hW.f_na hL_h0 hT_h0
    obtain ⟨hLv0, hTv0⟩ := hW.f_va hL_h0 hT_h0
    have hO0 := hO
    obtain ⟨hi_140, r_95, ht_141⟩ := hW.f_pl hL_h0 hT_h0
    obtain ⟨hi_142, ht_143, hq_144⟩ := hW.txt hi_140 ht_141
    have hFc := pg_free hD hS hA
    refine va_calli (va_runV (As := [.int 0]) (rest := []) ⟨hx, hb, hml, hown, hts⟩ (s_X15_plainBody_c l dC dI cs ty gm L H.size F h0 ρ ta ou so ad na va lc dm tg pe ml bg co sp nb0 nb1 nb2 pl se ke wi hs mo po nu pr sq xa sa n64 m64 ex wh sd tk hd ak ho ot sx s0 s1 s2 nf bd mm zo ze zt r_95 gl 0 go hW hL_h0 hT_h0 hi_140 ht_141 hFml hFou) ⟨callB_of 1 hts (gi kt_1288) rfl rfl rfl (hts _ kt_659) (hts _ kt_1289) (by decide +kernel) ⟨Nat.le_of_ble_eq_true rfl, Nat.le_of_ble_eq_true rfl⟩, (hts _ kt_1290), (hts _ kt_1291)⟩ ⟨fun a U g mk q => ⟨q.1, PTm.calling q.2⟩, pg_recv hK hP hL_h0 hF_133 (q := (RX15, TX15, 59)) rfl, fun U hU hWm => ⟨rfl, PTm.mk hU hWm hP hK hD hE hO⟩⟩ rfl rfl hl.1 rfl (lv_room (Nat.le_of_ble_eq_true rfl)) dL_law_394 ⟨by show _ + 0 ≤ 600000; omega, by show _ + 0 ≤ 7302250; omega⟩) hS (fun q _ h => hFc q h) hFc (fun r_145 c3 t H1 locs ht hvm hw hB hz1 hk1 hS => ?_)
    obtain ⟨F2, ty9, go, hty9, hB1, hW9, hga0, hga⟩ := hB
    subst hty9
    obtain ⟨hP, hD, hO, hR⟩ := QTm.back hB1 ht hFc FR.refl (fun q h => h)
    have hC := hC.kept hBq hk1
    obtain ⟨hi_146, ht_147⟩ := hW.f_ml hL_h0 hT_h0
    have hR9 := FR.unre hT_h0 rfl hB1.2.2.2
    have hDM := DIRM.fr hDM hO0 hW hLn0 hTn0 hLv0 hTv0 hcn hR9 (hR9 so (by rw [hTs0]; simp)) (hR9 ad (by rw [hTd0]; simp)) (hR9 na (by rw [hTn0]; simp)) (hR9 va (by rw [hTv0]; simp)) (fun k hk => ⟨by simp only [List.mem_cons, List.not_mem_nil, or_false]; omega, by simp only [List.mem_cons, List.not_mem_nil, or_false]; omega⟩)
    obtain ⟨hi_148, ht_149⟩ := hW.f_ou hL_h0 hT_h0
    have hM : PMl (dC, dI) cs A Bq h0 zt ze gt nf bd mm gm gl EX c3 go H1 := ⟨L, F2, _, ρ, ta, ou, so, ad, na, va, lc, dm, tg, pe, ml, bg, co, sp, nb0, nb1, nb2, pl, se, ke, wi, hs, mo, po, nu, pr, sq, xa, sa, n64, m64, ex, wh, sd, tk, hd, ak, ho, ot, sx, s0, s1, s2, ⟨hP, hD, hO, hW9⟩, hL_h0, rtf_self, (hB1.2.2.2 ta (by rw [rtf_tr hT_h0 (by decide) ht_139]; simp)).trans hFta, (hB1.2.2.2 ml (by rw [rtf_tr hT_h0 (by decide) ht_147]; simp)).trans hFml, hDM, hga0, hn01, hn02, hn12, U_re hU26, U15_re hU15, hBq⟩
    obtain ⟨e23, hro⟩ := hlr.pbo hro hf2 hga
    subst e23
    have er := hlr.pb hE1 hw
    generalize H1 = H at hC hM hS ⊢
    refine lv_pop hx hb dL_law_397 rfl ?_
    refine lv_goto (tgt := 522) hx hb dL_law_398 (by decide) ?_
    refine W.widen (k := cc + 1) (n := ss + 5) (by omega) (by omega) ?_
    exact kk zt ze f gt n bb zm fL sA sB sC DX c2 f2 nf bd mm gm gl EX go _ _ _ (by omega) hcn (hrel) hlr hdr hro hC hM hS hl
  ·
    refine lv_iconst (v := 1) hx hb dL_law_371 (by decide) ?_
    refine lv_goto (tgt := 376) hx hb dL_law_372 (by decide) ?_
    obtain ⟨L, F, ty, ρ, ta, ou, di, ea, ck, sl, po, hs, rt, ro, ⟨hP, hD, hO, hW⟩, hL_xq, hT_xq, hTta, hFt, hFr, hzt, hFd, hcn, hLT, hDI, hTou, hFou, hFro, hzo, hBq⟩ := hC
    have hG := hGc
    have hTS : TS F ta zt := ⟨hzt, rt, hFt⟩
    obtain ⟨le, sp, μ, ν, x, y0, y1, y2, rx, x9, w0, w1, w2, rx9, o, hm, l1, l2, l3, l4, l5, l6, l7, l8, l9, l10, l11, l12, l13, l14, l15⟩ := id hLT
    have hF_xq := l1
    obtain ⟨hi_150, ⟨r_151, ht_152⟩, hi_153, ⟨r_154, ht_155⟩, hi_156, ht_157, hi_158, ⟨w0_159, w1_160, w2_161, w3_162, nm_163, te_164, ht_165⟩, hi_166, ⟨l1_167, lx_168, ly0_169, ly1_170, ly2_171, k1_172, kx_173, ky0_174, ky1_175, ky2_176, w0_177, w1_178, w2_179, w3_180, w4_181, w5_182, w6_183, w7_184, w8_185, tk_186, h1_187, hx_188, hy_189, hw_190, pw_191, px_192, py_193, pz_194, pu_195, ht_196⟩, hi_197, ⟨w0_198, w1_199, rc_200, rx_201, ry0_202, ry1_203, ry2_204, ht_205⟩, hi_206, ⟨hx_207, hy_208, hw_209, ht_210⟩⟩ := hW.gate hL_xq hT_xq
    obtain ⟨le_211, sp_212, μ_213, ν_214, hF_215, hq_216, hq_217, hq_218, hq_219, hq_220, hq_221⟩ := hO.gate hL_xq hT_xq
    obtain ⟨x_222, y0_223, y1_224, y2_225, ht_226⟩ := id hq_217
    obtain ⟨x_227, y0_228, y1_229, y2_230, ht_231⟩ := id hq_219
    obtain ⟨hiR, htR, -⟩ := hW.bytes hi_150 hTta
    obtain ⟨hi_232, ht_233⟩ := hW.dir hi_156 ht_157
    have hO0 := hO
    obtain ⟨hiO, htO, -⟩ := hW.bytes hi_153 hTou
    obtain ⟨lx9, -, -, -, -, -, -, -⟩ := hW.msg l2 l3
    have hpf := hlr.pos
    have hFc := pg_free hD hS hA
    refine va_calli (va_runV (As := [.int 1]) (rest := []) ⟨hx, hb, hml, hown, hts⟩ (s_X11_plainBody_c l dC dI cs ty L H.size F xq ρ ta ou di ea ck sl po hs le x y0 y1 y2 sp rx ro n zm μ bd fL bb o 1 zo fo hW hL_xq hT_xq hi_153 hTou l2 l3 lx9 l6 l1 l9 l10 l11 l8 l15 (by omega) hlr.bs hFou hFro hzo) ⟨callB_of 1 hts (gi kt_1284) rfl rfl rfl (hts _ kt_646) (hts _ kt_1285) (by decide +kernel) ⟨Nat.le_of_ble_eq_true rfl, Nat.le_of_ble_eq_true rfl⟩, (hts _ kt_1286), (hts _ kt_1287)⟩ ⟨fun a U g mk q => ⟨q.1, PT.calling q.2⟩, pg_recv hK hP hL_xq hF_215 (q := (RX11, TX11, 9)) rfl, fun U hU hWm => ⟨rfl, PT.mk hU hWm hP hK hD hE hO⟩⟩ rfl rfl hl.1 rfl (lv_room (Nat.le_of_ble_eq_true rfl)) dL_law_376 ⟨by show _ + 0 ≤ 600000; omega, by show _ + 0 ≤ 7302250; omega⟩) hS (fun q _ h => hFc q h) hFc (fun r_234 c2 t H1 locs ht hvm hw hB hz1 hk1 hS => ?_)
    obtain ⟨F2, f2, hB1, hf0, hf1, hf2, hf3⟩ := hB
    obtain ⟨hP, hD, hO, hR⟩ := QT.back hB1 ht hFc FR.refl (fun q h => h)
    have hM := hM.kept hBq hk1
    have hLT := hLT.fr hW hT_xq hB1.2.2.2 (fun q h => by simp only [List.mem_cons, List.not_mem_nil, or_false] at h; omega)
    have hE1 := hw
    have hln20 := l8
    have hDI := DIRC.fr hDI hO0 hW hi_232 ht_233 hcn hB1.2.2.2 (hB1.2.2.2 ea (by rw [ht_233]; simp)) (fun k hk => by simp only [List.mem_cons, List.not_mem_nil, or_false]; omega)
    have hC : PCl (dC, dI) cs A Bq xq zt ze f n bb zm fL sA sB sC DX c2 f2 H1 := ⟨L, F2, ty, ρ, ta, ou, di, ea, ck, sl, po, hs, rt, ro, ⟨hP, hD, hO, hW⟩, hL_xq, hT_xq, hTta, (hB1.2.2.2 ta (by rw [hTta]; simp)).trans hFt, (hB1.2.2.2 rt (by rw [htR]; simp)).trans hFr, hzt, (hB1.2.2.2 di (by rw [ht_157]; simp)).trans hFd, hcn, hLT, hDI, hTou, hf0, hf1, hf3, hBq⟩
    generalize H1 = H at hC hM hS ⊢
    refine lv_pop hx hb dL_law_379 rfl ?_
    refine lv_aload_n hx hb dL_law_380 rfl (lv_at hl 1 rfl) ?_
    refine lv_aload_n hx hb dL_law_381 rfl (lv_at hl 3 rfl) ?_
    refine lv_iload_n hx hb dL_law_382 rfl (lv_at hl 0 rfl) ?_
    refine lv_iconst (v := 1) hx hb dL_law_383 (by decide) ?_
    refine lv_iadd hx hb dL_law_384 ?_
    refine lv_topi (fun x_235 ex_235 => ?_)
    obtain rfl : x_235 = (nI (i + 1)) := ex_235.trans (nI_add i 1)
    refine va_sld hx hb hX hbl hbA hS (vp_in_nI (by omega) (by omega)) dL_law_385 ?_
    refine lv_topi (fun x_236 ex_236 => ?_)
    obtain rfl : x_236 = (xs (i + 1)) := ex_236.trans (congrArg xs (nI_clamp (by omega)))
    refine lv_if_eq (tgt := 393) hx hb dL_law_386 (by decide) (fun c_237 => absurd c_237 (c_3)) (fun c_237 => ?_)
    refine lv_iconst (v := 1) hx hb dL_law_389 (by decide) ?_
    refine lv_goto (tgt := 394) hx hb dL_law_390 (by decide) ?_
    obtain ⟨L, F, ty, ρ, ta, ou, so, ad, na, va, lc, dm, tg, pe, ml, bg, co, sp, nb0, nb1, nb2, pl, se, ke, wi, hs, mo, po, nu, pr, sq, xa, sa, n64, m64, ex, wh, sd, tk, hd, ak, ho, ot, sx, s0, s1, s2, ⟨hP, hD, hO, hW⟩, hL_h0, hT_h0, hFta, hFml, hDM, hFou, hn01, hn02, hn12, hU26, hU15, hBq⟩ := hM
    have hG := hGm
    obtain ⟨hq_260, hq_261, hq_262, hq_263, hq_264, hgO, hgA, hgB⟩ := hW.sc hL_h0 hT_h0
    obtain ⟨v11_265, v12_266, v14_267, v15_268, v17_269, v18_270, v19_271, v20_272, v21_273, v22_274, v33_275, v52_276, v53_277, v54_278, hF_279, hq_280, hq_281, hq_282, hq_283⟩ := hO.mod hL_h0 hT_h0
    obtain ⟨hi_284, ht_285⟩ := hW.f_ta hL_h0 hT_h0
    obtain ⟨hLs0, hTs0⟩ := hW.f_so hL_h0 hT_h0
    obtain ⟨hLd0, hTd0⟩ := hW.f_ad hL_h0 hT_h0
    obtain ⟨hLn0, hTn0⟩ := hW.f_na hL_h0 hT_h0
    obtain ⟨hLv0, hTv0⟩ := hW.f_va hL_h0 hT_h0
    have hO0 := hO
    obtain ⟨hi_286, r_241, ht_287⟩ := hW.f_pl hL_h0 hT_h0
    obtain ⟨hi_288, ht_289, hq_290⟩ := hW.txt hi_286 ht_287
    have hFc := pg_free hD hS hA
    refine va_calli (va_runV (As := [.int 1]) (rest := []) ⟨hx, hb, hml, hown, hts⟩ (s_X15_plainBody_c l dC dI cs ty gm L H.size F h0 ρ ta ou so ad na va lc dm tg pe ml bg co sp nb0 nb1 nb2 pl se ke wi hs mo po nu pr sq xa sa n64 m64 ex wh sd tk hd ak ho ot sx s0 s1 s2 nf bd mm zo ze zt r_241 gl 1 go hW hL_h0 hT_h0 hi_286 ht_287 hFml hFou) ⟨callB_of 1 hts (gi kt_1288) rfl rfl rfl (hts _ kt_659) (hts _ kt_1289) (by decide +kernel) ⟨Nat.le_of_ble_eq_true rfl, Nat.le_of_ble_eq_true rfl⟩, (hts _ kt_1290), (hts _ kt_1291)⟩ ⟨fun a U g mk q => ⟨q.1, PTm.calling q.2⟩, pg_recv hK hP hL_h0 hF_279 (q := (RX15, TX15, 59)) rfl, fun U hU hWm => ⟨rfl, PTm.mk hU hWm hP hK hD hE hO⟩⟩ rfl rfl hl.1 rfl (lv_room (Nat.le_of_ble_eq_true rfl)) dL_law_394 ⟨by show _ + 0 ≤ 600000; omega, by show _ + 0 ≤ 7302250; omega⟩) hS (fun q _ h => hFc q h) hFc (fun r_291 c3 t H1 locs ht hvm hw hB hz1 hk1 hS => ?_)
    obtain ⟨F2, ty9, go, hty9, hB1, hW9, hga0, hga⟩ := hB
    subst hty9
    obtain ⟨hP, hD, hO, hR⟩ := QTm.back hB1 ht hFc FR.refl (fun q h => h)
    have hC := hC.kept hBq hk1
    obtain ⟨hi_292, ht_293⟩ := hW.f_ml hL_h0 hT_h0
    have hR9 := FR.unre hT_h0 rfl hB1.2.2.2
    have hDM := DIRM.fr hDM hO0 hW hLn0 hTn0 hLv0 hTv0 hcn hR9 (hR9 so (by rw [hTs0]; simp)) (hR9 ad (by rw [hTd0]; simp)) (hR9 na (by rw [hTn0]; simp)) (hR9 va (by rw [hTv0]; simp)) (fun k hk => ⟨by simp only [List.mem_cons, List.not_mem_nil, or_false]; omega, by simp only [List.mem_cons, List.not_mem_nil, or_false]; omega⟩)
    obtain ⟨hi_294, ht_295⟩ := hW.f_ou hL_h0 hT_h0
    have hM : PMl (dC, dI) cs A Bq h0 zt ze gt nf bd mm gm gl EX c3 go H1 := ⟨L, F2, _, ρ, ta, ou, so, ad, na, va, lc, dm, tg, pe, ml, bg, co, sp, nb0, nb1, nb2, pl, se, ke, wi, hs, mo, po, nu, pr, sq, xa, sa, n64, m64, ex, wh, sd, tk, hd, ak, ho, ot, sx, s0, s1, s2, ⟨hP, hD, hO, hW9⟩, hL_h0, rtf_self, (hB1.2.2.2 ta (by rw [rtf_tr hT_h0 (by decide) ht_285]; simp)).trans hFta, (hB1.2.2.2 ml (by rw [rtf_tr hT_h0 (by decide) ht_293]; simp)).trans hFml, hDM, hga0, hn01, hn02, hn12, U_re hU26, U15_re hU15, hBq⟩
    obtain ⟨e23, hro⟩ := hlr.pbo hro hf2 hga
    subst e23
    have er := hlr.pb hE1 hw
    generalize H1 = H at hC hM hS ⊢
    refine lv_pop hx hb dL_law_397 rfl ?_
    refine lv_goto (tgt := 522) hx hb dL_law_398 (by decide) ?_
    refine W.widen (k := cc + 1) (n := ss + 5) (by omega) (by omega) ?_
    exact kk zt ze f gt n bb zm fL sA sB sC DX c2 f2 nf bd mm gm gl EX go _ _ _ (by omega) hcn (hrel) hlr hdr hro hC hM hS hl
set_option maxHeartbeats 4000000 in
set_option maxRecDepth 100000 in
theorem law_11 {p : Program} {l : Launch} {e : Env} {s : State} {m : MethodId} {below : List Frame} {meth : Method} {c : Code} {A Bq : Nat → Prop} {dC : Nat → ClassId} {dI : Nat → Nat → Nat} {cs : Nat → ClassId} {b Ln : Nat} {xs : Nat → Int32} (C0 : LC p s m meth c A dC dI cs b Ln xs) {xq h0 i zt ze cc ss : Nat} {f gt : Nat → Int32} {n : Nat} {bb : Int32} {zm : Nat} {fL sA sB sC : Nat → Int32} {DX : Nat → ETY} {zo : Nat} {fo : Nat → Int32} {nf bd mm : Nat} {gm : Nat → Nat → Nat} {gl : Nat → Int32} {EX : Nat → ETY} {go : Nat → Int32} (hi : i + 6 ≤ Ln) (hLn : Ln ≤ 384) (hnz : zt ≤ 1280) (hcc : cc + 1 ≤ 600000) (hss : ss + 5 ≤ 7302250) {H : Heap} {locs : List Loc} {ls : Array Slot} (hrel : REL f gt zt) (hlr : LRL n bb zm fL sA sB sC nf bd mm gm gl) (hdr : DREL DX EX ze) (hro : REL fo go zo) (hC : PCl (dC, dI) cs A Bq xq zt ze f n bb zm fL sA sB sC DX zo fo H) (hM : PMl (dC, dI) cs A Bq h0 zt ze gt nf bd mm gm gl EX zo go H) (hS : va_S A s.heap H locs) (hl : lv_has ls 4 [(3, .int (nI i)), (2, .ref h0), (1, .ref xq), (0, .ref b)]) (kk : ∀ (z2 c2 : Nat) (f2 g2 : Nat → Int32) (n : Nat) (bb : Int32) (zm : Nat) (fL sA sB sC : Nat → Int32) (DX : Nat → ETY) (zo : Nat) (fo : Nat → Int32) (nf bd mm : Nat) (gm : Nat → Nat → Nat) (gl : Nat → Int32) (EX : Nat → ETY) (go : Nat → Int32) (H : Heap) (locs : List Loc) (ls : Array Slot), z2 ≤ zt + 20 → c2 ≤ 40 → REL f2 g2 z2 → LRL n bb zm fL sA sB sC nf bd mm gm gl → DREL DX EX c2 → REL fo go zo → PCl (dC, dI) cs A Bq xq z2 c2 f2 n bb zm fL sA sB sC DX zo fo H → PMl (dC, dI) cs A Bq h0 z2 c2 g2 nf bd mm gm gl EX zo go H → va_S A s.heap H locs → lv_has ls 4 [(3, .int (nI i)), (2, .ref h0), (1, .ref xq), (0, .ref b)] → W p l e room_1 s m #[Value.ref b] below meth c H locs (cc + 1) (ss + 5) (lw_Z below #[Value.ref b] s) (F0 m 522 ls [])) : W p l e room_1 s m #[Value.ref b] below meth c H locs cc ss (lw_Z below #[Value.ref b] s) (F0 m 401 ls []) := by
  obtain ⟨hx, hb, hr, hml, hown, hts, hX, hbl, hbA, hlocks, hE, hGc, hGm, hK, hA, hAs⟩ := id C0
  refine lv_aload_n hx hb dL_law_401 rfl (lv_at hl 2 rfl) ?_
  refine lv_aload_n hx hb dL_law_402 rfl (lv_at hl 3 rfl) ?_
  refine lv_iload_n hx hb dL_law_403 rfl (lv_at hl 0 rfl) ?_
  refine lv_iconst (v := 1) hx hb dL_law_404 (by decide) ?_
  refine lv_iadd hx hb dL_law_405 ?_
  refine lv_topi (fun x_1 ex_1 => ?_)
  obtain rfl : x_1 = (nI (i + 1)) := ex_1.trans (nI_add i 1)
  refine va_sld hx hb hX hbl hbA hS (vp_in_nI (by omega) (by omega)) dL_law_406 ?_
  refine lv_topi (fun x_2 ex_2 => ?_)
  obtain rfl : x_2 = (xs (i + 1)) := ex_2.trans (congrArg xs (nI_clamp (by omega)))
  refine lv_aload_n hx hb dL_law_407 rfl (lv_at hl 3 rfl) ?_
  refine lv_iload_n hx hb dL_law_408 rfl (lv_at hl 0 rfl) ?_
  refine lv_iconst (v := 2) hx hb dL_law_409 (by decide) ?_
  refine lv_iadd hx hb dL_law_410 ?_
  refine lv_topi (fun x_3 ex_3 => ?_)
  obtain rfl : x_3 = (nI (i + 2)) := ex_3.trans (nI_add i 2)
  refine va_sld hx hb hX hbl hbA hS (vp_in_nI (by omega) (by omega)) dL_law_411 ?_
  refine lv_topi (fun x_4 ex_4 => ?_)
  obtain rfl : x_4 = (xs (i + 2)) := ex_4.trans (congrArg xs (nI_clamp (by omega)))
  refine lv_if_eq (tgt := 419) hx hb dL_law_412 (by decide) (fun c_5 => ?_) (fun c_5 => ?_)
  ·
    refine lv_iconst (v := 0) hx hb dL_law_419 (by decide) ?_
    obtain ⟨L, F, ty, ρ, ta, ou, di, ea, ck, sl, po, hs, rt, ro, ⟨hP, hD, hO, hW⟩, hL_xq, hT_xq, hTta, hFt, hFr, hzt, hFd, hcn, hLT, hDI, hTou, hFou, hFro, hzo, hBq⟩ := hC
    have hG := hGc
    have hTS : TS F ta zt := ⟨hzt, rt, hFt⟩
    obtain ⟨le, sp, μ, ν, x, y0, y1, y2, rx, x9, w0, w1, w2, rx9, o, hm, l1, l2, l3, l4, l5, l6, l7, l8, l9, l10, l11, l12, l13, l14, l15⟩ := id hLT
    have hF_xq := l1
    obtain ⟨hi_6, ⟨r_7, ht_8⟩, hi_9, ⟨r_10, ht_11⟩, hi_12, ht_13, hi_14, ⟨w0_15, w1_16, w2_17, w3_18, nm_19, te_20, ht_21⟩, hi_22, ⟨l1_23, lx_24, ly0_25, ly1_26, ly2_27, k1_28, kx_29, ky0_30, ky1_31, ky2_32, w0_33, w1_34, w2_35, w3_36, w4_37, w5_38, w6_39, w7_40, w8_41, tk_42, h1_43, hx_44, hy_45, hw_46, pw_47, px_48, py_49, pz_50, pu_51, ht_52⟩, hi_53, ⟨w0_54, w1_55, rc_56, rx_57, ry0_58, ry1_59, ry2_60, ht_61⟩, hi_62, ⟨hx_63, hy_64, hw_65, ht_66⟩⟩ := hW.gate hL_xq hT_xq
    obtain ⟨le_67, sp_68, μ_69, ν_70, hF_71, hq_72, hq_73, hq_74, hq_75, hq_76, hq_77⟩ := hO.gate hL_xq hT_xq
    obtain ⟨x_78, y0_79, y1_80, y2_81, ht_82⟩ := id hq_73
    obtain ⟨x_83, y0_84, y1_85, y2_86, ht_87⟩ := id hq_75
    obtain ⟨hiR, htR, -⟩ := hW.bytes hi_6 hTta
    obtain ⟨hi_88, ht_89⟩ := hW.dir hi_12 ht_13
    have hO0 := hO
    obtain ⟨hiO, htO, -⟩ := hW.bytes hi_9 hTou
    obtain ⟨lx9, -, -, -, -, -, -, -⟩ := hW.msg l2 l3
    have hpf := hlr.pos
    have hFc := pg_free hD hS hA
    refine va_calli (va_runV (As := [.int (xs (i + 1)), .int 0]) (rest := []) ⟨hx, hb, hml, hown, hts⟩ (s_X11_plainField_c l dC dI cs ty L H.size F xq ρ ta ou di ea ck sl po hs le x y0 y1 y2 sp rx ro n zm μ fL sA sB sC (gm 0) (gm 1) (cln sC) bb o (xs (i + 1)) 0 zo fo hW hL_xq hT_xq hi_9 hTou l2 l3 lx9 l6 l1 l9 l10 l11 l12 l13 l14 l8 l15 (by omega) hpf.1 hFou hFro hzo) ⟨callB_of 2 hts (gi kt_1292) rfl rfl rfl (hts _ kt_646) (hts _ kt_1293) (by decide +kernel) ⟨Nat.le_of_ble_eq_true rfl, Nat.le_of_ble_eq_true rfl⟩, (hts _ kt_1294), (hts _ kt_1295)⟩ ⟨fun a U g mk q => ⟨q.1, PT.calling q.2⟩, pg_recv hK hP hL_xq hF_71 (q := (RX11, TX11, 9)) rfl, fun U hU hWm => ⟨rfl, PT.mk hU hWm hP hK hD hE hO⟩⟩ rfl rfl hl.1 rfl (lv_room (Nat.le_of_ble_eq_true rfl)) dL_law_420 ⟨by show _ + 0 ≤ 600000; omega, by show _ + 0 ≤ 7302250; omega⟩) hS (fun q _ h => hFc q h) hFc (fun r_90 c2 t H1 locs ht hvm hw hB hz1 hk1 hS => ?_)
    obtain ⟨F2, f2, hB1, hf0, hf1, hf2, hf3⟩ := hB
    obtain ⟨hP, hD, hO, hR⟩ := QT.back hB1 ht hFc FR.refl (fun q h => h)
    have hM := hM.kept hBq hk1
    have hLT := hLT.fr hW hT_xq hB1.2.2.2 (fun q h => by simp only [List.mem_cons, List.not_mem_nil, or_false] at h; omega)
    have hE1 := hw
    have hln20 := l8
    have hDI := DIRC.fr hDI hO0 hW hi_88 ht_89 hcn hB1.2.2.2 (hB1.2.2.2 ea (by rw [ht_89]; simp)) (fun k hk => by simp only [List.mem_cons, List.not_mem_nil, or_false]; omega)
    have hC : PCl (dC, dI) cs A Bq xq zt ze f n bb zm fL sA sB sC DX c2 f2 H1 := ⟨L, F2, ty, ρ, ta, ou, di, ea, ck, sl, po, hs, rt, ro, ⟨hP, hD, hO, hW⟩, hL_xq, hT_xq, hTta, (hB1.2.2.2 ta (by rw [hTta]; simp)).trans hFt, (hB1.2.2.2 rt (by rw [htR]; simp)).trans hFr, hzt, (hB1.2.2.2 di (by rw [ht_13]; simp)).trans hFd, hcn, hLT, hDI, hTou, hf0, hf1, hf3, hBq⟩
    generalize H1 = H at hC hM hS ⊢
    refine lv_pop hx hb dL_law_423 rfl ?_
    refine lv_aload_n hx hb dL_law_424 rfl (lv_at hl 1 rfl) ?_
    refine lv_aload_n hx hb dL_law_425 rfl (lv_at hl 3 rfl) ?_
    refine lv_iload_n hx hb dL_law_426 rfl (lv_at hl 0 rfl) ?_
    refine lv_iconst (v := 1) hx hb dL_law_427 (by decide) ?_
    refine lv_iadd hx hb dL_law_428 ?_
    refine lv_topi (fun x_91 ex_91 => ?_)
    obtain rfl : x_91 = (nI (i + 1)) := ex_91.trans (nI_add i 1)
    refine va_sld hx hb hX hbl hbA hS (vp_in_nI (by omega) (by omega)) dL_law_429 ?_
    refine lv_topi (fun x_92 ex_92 => ?_)
    obtain rfl : x_92 = (xs (i + 1)) := ex_92.trans (congrArg xs (nI_clamp (by omega)))
    refine lv_aload_n hx hb dL_law_430 rfl (lv_at hl 3 rfl) ?_
    refine lv_iload_n hx hb dL_law_431 rfl (lv_at hl 0 rfl) ?_
    refine lv_iconst (v := 2) hx hb dL_law_432 (by decide) ?_
    refine lv_iadd hx hb dL_law_433 ?_
    refine lv_topi (fun x_93 ex_93 => ?_)
    obtain rfl : x_93 = (nI (i + 2)) := ex_93.trans (nI_add i 2)
    refine va_sld hx hb hX hbl hbA hS (vp_in_nI (by omega) (by omega)) dL_law_434 ?_
    refine lv_topi (fun x_94 ex_94 => ?_)
    obtain rfl : x_94 = (xs (i + 2)) := ex_94.trans (congrArg xs (nI_clamp (by omega)))
    refine lv_if_eq (tgt := 442) hx hb dL_law_435 (by decide) (fun c_95 => ?_) (fun c_95 => absurd (c_5) c_95)
    refine lv_iconst (v := 0) hx hb dL_law_442 (by decide) ?_
    obtain ⟨L, F, ty, ρ, ta, ou, so, ad, na, va, lc, dm, tg, pe, ml, bg, co, sp, nb0, nb1, nb2, pl, se, ke, wi, hs, mo, po, nu, pr, sq, xa, sa, n64, m64, ex, wh, sd, tk, hd, ak, ho, ot, sx, s0, s1, s2, ⟨hP, hD, hO, hW⟩, hL_h0, hT_h0, hFta, hFml, hDM, hFou, hn01, hn02, hn12, hU26, hU15, hBq⟩ := hM
    have hG := hGm
    obtain ⟨hq_118, hq_119, hq_120, hq_121, hq_122, hgO, hgA, hgB⟩ := hW.sc hL_h0 hT_h0
    obtain ⟨v11_123, v12_124, v14_125, v15_126, v17_127, v18_128, v19_129, v20_130, v21_131, v22_132, v33_133, v52_134, v53_135, v54_136, hF_137, hq_138, hq_139, hq_140, hq_141⟩ := hO.mod hL_h0 hT_h0
    obtain ⟨hi_142, ht_143⟩ := hW.f_ta hL_h0 hT_h0
    obtain ⟨hLs0, hTs0⟩ := hW.f_so hL_h0 hT_h0
    obtain ⟨hLd0, hTd0⟩ := hW.f_ad hL_h0 hT_h0
    obtain ⟨hLn0, hTn0⟩ := hW.f_na hL_h0 hT_h0
    obtain ⟨hLv0, hTv0⟩ := hW.f_va hL_h0 hT_h0
    have hO0 := hO
    obtain ⟨hi_144, r_99, ht_145⟩ := hW.f_pl hL_h0 hT_h0
    obtain ⟨hi_146, ht_147, hq_148⟩ := hW.txt hi_144 ht_145
    have hFc := pg_free hD hS hA
    refine va_calli (va_runV (As := [.int (xs (i + 1)), .int 0]) (rest := []) ⟨hx, hb, hml, hown, hts⟩ (s_X15_plainField_c l dC dI cs ty gm L H.size F h0 ρ ta ou so ad na va lc dm tg pe ml bg co sp nb0 nb1 nb2 pl se ke wi hs mo po nu pr sq xa sa n64 m64 ex wh sd tk hd ak ho ot sx s0 s1 s2 nf bd mm zo ze zt r_99 gl go (cln sC) (xs (i + 1)) 0 hW hL_h0 hT_h0 hi_144 ht_145 hFml hpf.2 hFou) ⟨callB_of 2 hts (gi kt_1296) rfl rfl rfl (hts _ kt_659) (hts _ kt_1297) (by decide +kernel) ⟨Nat.le_of_ble_eq_true rfl, Nat.le_of_ble_eq_true rfl⟩, (hts _ kt_1298), (hts _ kt_1299)⟩ ⟨fun a U g mk q => ⟨q.1, PTm.calling q.2⟩, pg_recv hK hP hL_h0 hF_137 (q := (RX15, TX15, 59)) rfl, fun U hU hWm => ⟨rfl, PTm.mk hU hWm hP hK hD hE hO⟩⟩ rfl rfl hl.1 rfl (lv_room (Nat.le_of_ble_eq_true rfl)) dL_law_443 ⟨by show _ + 0 ≤ 600000; omega, by show _ + 0 ≤ 7302250; omega⟩) hS (fun q _ h => hFc q h) hFc (fun r_149 c3 t H1 locs ht hvm hw hB hz1 hk1 hS => ?_)
    obtain ⟨F2, ty9, go, hty9, hB1, hW9, hga0, hga⟩ := hB
    subst hty9
    obtain ⟨hP, hD, hO, hR⟩ := QTm.back hB1 ht hFc FR.refl (fun q h => h)
    have hC := hC.kept hBq hk1
    obtain ⟨hi_150, ht_151⟩ := hW.f_ml hL_h0 hT_h0
    have hR9 := FR.unre hT_h0 rfl hB1.2.2.2
    have hDM := DIRM.fr hDM hO0 hW hLn0 hTn0 hLv0 hTv0 hcn hR9 (hR9 so (by rw [hTs0]; simp)) (hR9 ad (by rw [hTd0]; simp)) (hR9 na (by rw [hTn0]; simp)) (hR9 va (by rw [hTv0]; simp)) (fun k hk => ⟨by simp only [List.mem_cons, List.not_mem_nil, or_false]; omega, by simp only [List.mem_cons, List.not_mem_nil, or_false]; omega⟩)
    obtain ⟨hi_152, ht_153⟩ := hW.f_ou hL_h0 hT_h0
    have hM : PMl (dC, dI) cs A Bq h0 zt ze gt nf bd mm gm gl EX c3 go H1 := ⟨L, F2, _, ρ, ta, ou, so, ad, na, va, lc, dm, tg, pe, ml, bg, co, sp, nb0, nb1, nb2, pl, se, ke, wi, hs, mo, po, nu, pr, sq, xa, sa, n64, m64, ex, wh, sd, tk, hd, ak, ho, ot, sx, s0, s1, s2, ⟨hP, hD, hO, hW9⟩, hL_h0, rtf_self, (hB1.2.2.2 ta (by rw [rtf_tr hT_h0 (by decide) ht_143]; simp)).trans hFta, (hB1.2.2.2 ml (by rw [rtf_tr hT_h0 (by decide) ht_151]; simp)).trans hFml, hDM, hga0, hn01, hn02, hn12, U_re hU26, U15_re hU15, hBq⟩
    obtain ⟨e23, hro⟩ := hlr.pfo hln20 hro hf2 hga
    subst e23
    have er := hlr.pf hE1 hw hln20
    generalize H1 = H at hC hM hS ⊢
    refine lv_pop hx hb dL_law_446 rfl ?_
    refine lv_goto (tgt := 522) hx hb dL_law_447 (by decide) ?_
    refine W.widen (k := cc + 1) (n := ss + 5) (by omega) (by omega) ?_
    exact kk zt ze f gt n bb zm fL sA sB sC DX c2 f2 nf bd mm gm gl EX go _ _ _ (by omega) hcn (hrel) hlr hdr hro hC hM hS hl
  ·
    refine lv_iconst (v := 1) hx hb dL_law_415 (by decide) ?_
    refine lv_goto (tgt := 420) hx hb dL_law_416 (by decide) ?_
    obtain ⟨L, F, ty, ρ, ta, ou, di, ea, ck, sl, po, hs, rt, ro, ⟨hP, hD, hO, hW⟩, hL_xq, hT_xq, hTta, hFt, hFr, hzt, hFd, hcn, hLT, hDI, hTou, hFou, hFro, hzo, hBq⟩ := hC
    have hG := hGc
    have hTS : TS F ta zt := ⟨hzt, rt, hFt⟩
    obtain ⟨le, sp, μ, ν, x, y0, y1, y2, rx, x9, w0, w1, w2, rx9, o, hm, l1, l2, l3, l4, l5, l6, l7, l8, l9, l10, l11, l12, l13, l14, l15⟩ := id hLT
    have hF_xq := l1
    obtain ⟨hi_154, ⟨r_155, ht_156⟩, hi_157, ⟨r_158, ht_159⟩, hi_160, ht_161, hi_162, ⟨w0_163, w1_164, w2_165, w3_166, nm_167, te_168, ht_169⟩, hi_170, ⟨l1_171, lx_172, ly0_173, ly1_174, ly2_175, k1_176, kx_177, ky0_178, ky1_179, ky2_180, w0_181, w1_182, w2_183, w3_184, w4_185, w5_186, w6_187, w7_188, w8_189, tk_190, h1_191, hx_192, hy_193, hw_194, pw_195, px_196, py_197, pz_198, pu_199, ht_200⟩, hi_201, ⟨w0_202, w1_203, rc_204, rx_205, ry0_206, ry1_207, ry2_208, ht_209⟩, hi_210, ⟨hx_211, hy_212, hw_213, ht_214⟩⟩ := hW.gate hL_xq hT_xq
    obtain ⟨le_215, sp_216, μ_217, ν_218, hF_219, hq_220, hq_221, hq_222, hq_223, hq_224, hq_225⟩ := hO.gate hL_xq hT_xq
    obtain ⟨x_226, y0_227, y1_228, y2_229, ht_230⟩ := id hq_221
    obtain ⟨x_231, y0_232, y1_233, y2_234, ht_235⟩ := id hq_223
    obtain ⟨hiR, htR, -⟩ := hW.bytes hi_154 hTta
    obtain ⟨hi_236, ht_237⟩ := hW.dir hi_160 ht_161
    have hO0 := hO
    obtain ⟨hiO, htO, -⟩ := hW.bytes hi_157 hTou
    obtain ⟨lx9, -, -, -, -, -, -, -⟩ := hW.msg l2 l3
    have hpf := hlr.pos
    have hFc := pg_free hD hS hA
    refine va_calli (va_runV (As := [.int (xs (i + 1)), .int 1]) (rest := []) ⟨hx, hb, hml, hown, hts⟩ (s_X11_plainField_c l dC dI cs ty L H.size F xq ρ ta ou di ea ck sl po hs le x y0 y1 y2 sp rx ro n zm μ fL sA sB sC (gm 0) (gm 1) (cln sC) bb o (xs (i + 1)) 1 zo fo hW hL_xq hT_xq hi_157 hTou l2 l3 lx9 l6 l1 l9 l10 l11 l12 l13 l14 l8 l15 (by omega) hpf.1 hFou hFro hzo) ⟨callB_of 2 hts (gi kt_1292) rfl rfl rfl (hts _ kt_646) (hts _ kt_1293) (by decide +kernel) ⟨Nat.le_of_ble_eq_true rfl, Nat.le_of_ble_eq_true rfl⟩, (hts _ kt_1294), (hts _ kt_1295)⟩ ⟨fun a U g mk q => ⟨q.1, PT.calling q.2⟩, pg_recv hK hP hL_xq hF_219 (q := (RX11, TX11, 9)) rfl, fun U hU hWm => ⟨rfl, PT.mk hU hWm hP hK hD hE hO⟩⟩ rfl rfl hl.1 rfl (lv_room (Nat.le_of_ble_eq_true rfl)) dL_law_420 ⟨by show _ + 0 ≤ 600000; omega, by show _ + 0 ≤ 7302250; omega⟩) hS (fun q _ h => hFc q h) hFc (fun r_238 c2 t H1 locs ht hvm hw hB hz1 hk1 hS => ?_)
    obtain ⟨F2, f2, hB1, hf0, hf1, hf2, hf3⟩ := hB
    obtain ⟨hP, hD, hO, hR⟩ := QT.back hB1 ht hFc FR.refl (fun q h => h)
    have hM := hM.kept hBq hk1
    have hLT := hLT.fr hW hT_xq hB1.2.2.2 (fun q h => by simp only [List.mem_cons, List.not_mem_nil, or_false] at h; omega)
    have hE1 := hw
    have hln20 := l8
    have hDI := DIRC.fr hDI hO0 hW hi_236 ht_237 hcn hB1.2.2.2 (hB1.2.2.2 ea (by rw [ht_237]; simp)) (fun k hk => by simp only [List.mem_cons, List.not_mem_nil, or_false]; omega)
    have hC : PCl (dC, dI) cs A Bq xq zt ze f n bb zm fL sA sB sC DX c2 f2 H1 := ⟨L, F2, ty, ρ, ta, ou, di, ea, ck, sl, po, hs, rt, ro, ⟨hP, hD, hO, hW⟩, hL_xq, hT_xq, hTta, (hB1.2.2.2 ta (by rw [hTta]; simp)).trans hFt, (hB1.2.2.2 rt (by rw [htR]; simp)).trans hFr, hzt, (hB1.2.2.2 di (by rw [ht_161]; simp)).trans hFd, hcn, hLT, hDI, hTou, hf0, hf1, hf3, hBq⟩
    generalize H1 = H at hC hM hS ⊢
    refine lv_pop hx hb dL_law_423 rfl ?_
    refine lv_aload_n hx hb dL_law_424 rfl (lv_at hl 1 rfl) ?_
    refine lv_aload_n hx hb dL_law_425 rfl (lv_at hl 3 rfl) ?_
    refine lv_iload_n hx hb dL_law_426 rfl (lv_at hl 0 rfl) ?_
    refine lv_iconst (v := 1) hx hb dL_law_427 (by decide) ?_
    refine lv_iadd hx hb dL_law_428 ?_
    refine lv_topi (fun x_239 ex_239 => ?_)
    obtain rfl : x_239 = (nI (i + 1)) := ex_239.trans (nI_add i 1)
    refine va_sld hx hb hX hbl hbA hS (vp_in_nI (by omega) (by omega)) dL_law_429 ?_
    refine lv_topi (fun x_240 ex_240 => ?_)
    obtain rfl : x_240 = (xs (i + 1)) := ex_240.trans (congrArg xs (nI_clamp (by omega)))
    refine lv_aload_n hx hb dL_law_430 rfl (lv_at hl 3 rfl) ?_
    refine lv_iload_n hx hb dL_law_431 rfl (lv_at hl 0 rfl) ?_
    refine lv_iconst (v := 2) hx hb dL_law_432 (by decide) ?_
    refine lv_iadd hx hb dL_law_433 ?_
    refine lv_topi (fun x_241 ex_241 => ?_)
    obtain rfl : x_241 = (nI (i + 2)) := ex_241.trans (nI_add i 2)
    refine va_sld hx hb hX hbl hbA hS (vp_in_nI (by omega) (by omega)) dL_law_434 ?_
    refine lv_topi (fun x_242 ex_242 => ?_)
    obtain rfl : x_242 = (xs (i + 2)) := ex_242.trans (congrArg xs (nI_clamp (by omega)))
    refine lv_if_eq (tgt := 442) hx hb dL_law_435 (by decide) (fun c_243 => absurd c_243 (c_5)) (fun c_243 => ?_)
    refine lv_iconst (v := 1) hx hb dL_law_438 (by decide) ?_
    refine lv_goto (tgt := 443) hx hb dL_law_439 (by decide) ?_
    obtain ⟨L, F, ty, ρ, ta, ou, so, ad, na, va, lc, dm, tg, pe, ml, bg, co, sp, nb0, nb1, nb2, pl, se, ke, wi, hs, mo, po, nu, pr, sq, xa, sa, n64, m64, ex, wh, sd, tk, hd, ak, ho, ot, sx, s0, s1, s2, ⟨hP, hD, hO, hW⟩, hL_h0, hT_h0, hFta, hFml, hDM, hFou, hn01, hn02, hn12, hU26, hU15, hBq⟩ := hM
    have hG := hGm
    obtain ⟨hq_266, hq_267, hq_268, hq_269, hq_270, hgO, hgA, hgB⟩ := hW.sc hL_h0 hT_h0
    obtain ⟨v11_271, v12_272, v14_273, v15_274, v17_275, v18_276, v19_277, v20_278, v21_279, v22_280, v33_281, v52_282, v53_283, v54_284, hF_285, hq_286, hq_287, hq_288, hq_289⟩ := hO.mod hL_h0 hT_h0
    obtain ⟨hi_290, ht_291⟩ := hW.f_ta hL_h0 hT_h0
    obtain ⟨hLs0, hTs0⟩ := hW.f_so hL_h0 hT_h0
    obtain ⟨hLd0, hTd0⟩ := hW.f_ad hL_h0 hT_h0
    obtain ⟨hLn0, hTn0⟩ := hW.f_na hL_h0 hT_h0
    obtain ⟨hLv0, hTv0⟩ := hW.f_va hL_h0 hT_h0
    have hO0 := hO
    obtain ⟨hi_292, r_247, ht_293⟩ := hW.f_pl hL_h0 hT_h0
    obtain ⟨hi_294, ht_295, hq_296⟩ := hW.txt hi_292 ht_293
    have hFc := pg_free hD hS hA
    refine va_calli (va_runV (As := [.int (xs (i + 1)), .int 1]) (rest := []) ⟨hx, hb, hml, hown, hts⟩ (s_X15_plainField_c l dC dI cs ty gm L H.size F h0 ρ ta ou so ad na va lc dm tg pe ml bg co sp nb0 nb1 nb2 pl se ke wi hs mo po nu pr sq xa sa n64 m64 ex wh sd tk hd ak ho ot sx s0 s1 s2 nf bd mm zo ze zt r_247 gl go (cln sC) (xs (i + 1)) 1 hW hL_h0 hT_h0 hi_292 ht_293 hFml hpf.2 hFou) ⟨callB_of 2 hts (gi kt_1296) rfl rfl rfl (hts _ kt_659) (hts _ kt_1297) (by decide +kernel) ⟨Nat.le_of_ble_eq_true rfl, Nat.le_of_ble_eq_true rfl⟩, (hts _ kt_1298), (hts _ kt_1299)⟩ ⟨fun a U g mk q => ⟨q.1, PTm.calling q.2⟩, pg_recv hK hP hL_h0 hF_285 (q := (RX15, TX15, 59)) rfl, fun U hU hWm => ⟨rfl, PTm.mk hU hWm hP hK hD hE hO⟩⟩ rfl rfl hl.1 rfl (lv_room (Nat.le_of_ble_eq_true rfl)) dL_law_443 ⟨by show _ + 0 ≤ 600000; omega, by show _ + 0 ≤ 7302250; omega⟩) hS (fun q _ h => hFc q h) hFc (fun r_297 c3 t H1 locs ht hvm hw hB hz1 hk1 hS => ?_)
    obtain ⟨F2, ty9, go, hty9, hB1, hW9, hga0, hga⟩ := hB
    subst hty9
    obtain ⟨hP, hD, hO, hR⟩ := QTm.back hB1 ht hFc FR.refl (fun q h => h)
    have hC := hC.kept hBq hk1
    obtain ⟨hi_298, ht_299⟩ := hW.f_ml hL_h0 hT_h0
    have hR9 := FR.unre hT_h0 rfl hB1.2.2.2
    have hDM := DIRM.fr hDM hO0 hW hLn0 hTn0 hLv0 hTv0 hcn hR9 (hR9 so (by rw [hTs0]; simp)) (hR9 ad (by rw [hTd0]; simp)) (hR9 na (by rw [hTn0]; simp)) (hR9 va (by rw [hTv0]; simp)) (fun k hk => ⟨by simp only [List.mem_cons, List.not_mem_nil, or_false]; omega, by simp only [List.mem_cons, List.not_mem_nil, or_false]; omega⟩)
    obtain ⟨hi_300, ht_301⟩ := hW.f_ou hL_h0 hT_h0
    have hM : PMl (dC, dI) cs A Bq h0 zt ze gt nf bd mm gm gl EX c3 go H1 := ⟨L, F2, _, ρ, ta, ou, so, ad, na, va, lc, dm, tg, pe, ml, bg, co, sp, nb0, nb1, nb2, pl, se, ke, wi, hs, mo, po, nu, pr, sq, xa, sa, n64, m64, ex, wh, sd, tk, hd, ak, ho, ot, sx, s0, s1, s2, ⟨hP, hD, hO, hW9⟩, hL_h0, rtf_self, (hB1.2.2.2 ta (by rw [rtf_tr hT_h0 (by decide) ht_291]; simp)).trans hFta, (hB1.2.2.2 ml (by rw [rtf_tr hT_h0 (by decide) ht_299]; simp)).trans hFml, hDM, hga0, hn01, hn02, hn12, U_re hU26, U15_re hU15, hBq⟩
    obtain ⟨e23, hro⟩ := hlr.pfo hln20 hro hf2 hga
    subst e23
    have er := hlr.pf hE1 hw hln20
    generalize H1 = H at hC hM hS ⊢
    refine lv_pop hx hb dL_law_446 rfl ?_
    refine lv_goto (tgt := 522) hx hb dL_law_447 (by decide) ?_
    refine W.widen (k := cc + 1) (n := ss + 5) (by omega) (by omega) ?_
    exact kk zt ze f gt n bb zm fL sA sB sC DX c2 f2 nf bd mm gm gl EX go _ _ _ (by omega) hcn (hrel) hlr hdr hro hC hM hS hl
