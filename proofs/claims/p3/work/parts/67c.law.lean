theorem kt_1268 : Cond.code yX11_seals cX11_seals 1 (some .int) ∈ tb := tb_at (i := 821) (by decide +kernel) (by decide +kernel)
theorem kt_1269 : Cond.methodLink RL 49 yX11_seals ∈ tb := tb_at (i := 818) (by decide +kernel) (by decide +kernel)
theorem kt_1270 : Cond.instanceMethod yX11_seals ∈ tb := tb_at (i := 819) (by decide +kernel) (by decide +kernel)
theorem kt_1271 : Cond.selects RX11 yX11_seals yX11_seals ∈ tb := tb_at (i := 820) (by decide +kernel) (by decide +kernel)
theorem kt_1272 : Cond.code yX15_seals cX15_seals 3 (some .int) ∈ tb := tb_at (i := 1651) (by decide +kernel) (by decide +kernel)
theorem kt_1273 : Cond.methodLink RL 52 yX15_seals ∈ tb := tb_at (i := 1648) (by decide +kernel) (by decide +kernel)
theorem kt_1274 : Cond.instanceMethod yX15_seals ∈ tb := tb_at (i := 1649) (by decide +kernel) (by decide +kernel)
theorem kt_1275 : Cond.selects RX15 yX15_seals yX15_seals ∈ tb := tb_at (i := 1650) (by decide +kernel) (by decide +kernel)
theorem kt_1276 : Cond.code yX11_sealed cX11_sealed 4 (some .int) ∈ tb := tb_at (i := 837) (by decide +kernel) (by decide +kernel)
theorem kt_1277 : Cond.methodLink RL 53 yX11_sealed ∈ tb := tb_at (i := 834) (by decide +kernel) (by decide +kernel)
theorem kt_1278 : Cond.instanceMethod yX11_sealed ∈ tb := tb_at (i := 835) (by decide +kernel) (by decide +kernel)
theorem kt_1279 : Cond.selects RX11 yX11_sealed yX11_sealed ∈ tb := tb_at (i := 836) (by decide +kernel) (by decide +kernel)
theorem kt_1280 : Cond.code yX15_sealed cX15_sealed 4 (some .int) ∈ tb := tb_at (i := 1690) (by decide +kernel) (by decide +kernel)
theorem kt_1281 : Cond.methodLink RL 56 yX15_sealed ∈ tb := tb_at (i := 1687) (by decide +kernel) (by decide +kernel)
theorem kt_1282 : Cond.instanceMethod yX15_sealed ∈ tb := tb_at (i := 1688) (by decide +kernel) (by decide +kernel)
theorem kt_1283 : Cond.selects RX15 yX15_sealed yX15_sealed ∈ tb := tb_at (i := 1689) (by decide +kernel) (by decide +kernel)
theorem kt_1284 : Cond.code yX11_plainBody cX11_plainBody 2 (some .int) ∈ tb := tb_at (i := 1086) (by decide +kernel) (by decide +kernel)
theorem kt_1285 : Cond.methodLink RL 57 yX11_plainBody ∈ tb := tb_at (i := 1083) (by decide +kernel) (by decide +kernel)
theorem kt_1286 : Cond.instanceMethod yX11_plainBody ∈ tb := tb_at (i := 1084) (by decide +kernel) (by decide +kernel)
theorem kt_1287 : Cond.selects RX11 yX11_plainBody yX11_plainBody ∈ tb := tb_at (i := 1085) (by decide +kernel) (by decide +kernel)
theorem kt_1288 : Cond.code yX15_plainBody cX15_plainBody 2 (some .int) ∈ tb := tb_at (i := 1666) (by decide +kernel) (by decide +kernel)
theorem kt_1289 : Cond.methodLink RL 61 yX15_plainBody ∈ tb := tb_at (i := 1663) (by decide +kernel) (by decide +kernel)
theorem kt_1290 : Cond.instanceMethod yX15_plainBody ∈ tb := tb_at (i := 1664) (by decide +kernel) (by decide +kernel)
theorem kt_1291 : Cond.selects RX15 yX15_plainBody yX15_plainBody ∈ tb := tb_at (i := 1665) (by decide +kernel) (by decide +kernel)
theorem kt_1292 : Cond.code yX11_plainField cX11_plainField 3 (some .int) ∈ tb := tb_at (i := 1091) (by decide +kernel) (by decide +kernel)
theorem kt_1293 : Cond.methodLink RL 62 yX11_plainField ∈ tb := tb_at (i := 1088) (by decide +kernel) (by decide +kernel)
theorem kt_1294 : Cond.instanceMethod yX11_plainField ∈ tb := tb_at (i := 1089) (by decide +kernel) (by decide +kernel)
theorem kt_1295 : Cond.selects RX11 yX11_plainField yX11_plainField ∈ tb := tb_at (i := 1090) (by decide +kernel) (by decide +kernel)
theorem kt_1296 : Cond.code yX15_plainField cX15_plainField 3 (some .int) ∈ tb := tb_at (i := 1678) (by decide +kernel) (by decide +kernel)
theorem kt_1297 : Cond.methodLink RL 66 yX15_plainField ∈ tb := tb_at (i := 1675) (by decide +kernel) (by decide +kernel)
theorem kt_1298 : Cond.instanceMethod yX15_plainField ∈ tb := tb_at (i := 1676) (by decide +kernel) (by decide +kernel)
theorem kt_1299 : Cond.selects RX15 yX15_plainField yX15_plainField ∈ tb := tb_at (i := 1677) (by decide +kernel) (by decide +kernel)
set_option maxHeartbeats 4000000 in
set_option maxRecDepth 100000 in
theorem law_8 {p : Program} {l : Launch} {e : Env} {s : State} {m : MethodId} {below : List Frame} {meth : Method} {c : Code} {A Bq : Nat → Prop} {dC : Nat → ClassId} {dI : Nat → Nat → Nat} {cs : Nat → ClassId} {b Ln : Nat} {xs : Nat → Int32} (C0 : LC p s m meth c A dC dI cs b Ln xs) {xq h0 i zt cc ss : Nat} (hi : i + 6 ≤ Ln) (hLn : Ln ≤ 384) (hnz : zt ≤ 1280) (hcc : cc + 1 ≤ 600000) (hss : ss + 5 ≤ 7302250) {H : Heap} {locs : List Loc} {ls : Array Slot} (hC : PCs (dC, dI) cs A Bq xq zt H) (hM : PMs (dC, dI) cs A Bq h0 zt H) (hS : va_S A s.heap H locs) (hl : lv_has ls 4 [(3, .int (nI i)), (2, .ref h0), (1, .ref xq), (0, .ref b)]) (kk : ∀ (z2 : Nat) (H : Heap) (locs : List Loc) (ls : Array Slot), z2 ≤ zt + 20 → PCs (dC, dI) cs A Bq xq z2 H → PMs (dC, dI) cs A Bq h0 z2 H → va_S A s.heap H locs → lv_has ls 4 [(3, .int (nI i)), (2, .ref h0), (1, .ref xq), (0, .ref b)] → W p l e room_1 s m #[Value.ref b] below meth c H locs (cc + 1) (ss + 5) (lw_Z below #[Value.ref b] s) (F0 m 522 ls [])) : W p l e room_1 s m #[Value.ref b] below meth c H locs cc ss (lw_Z below #[Value.ref b] s) (F0 m 316 ls []) := by
  obtain ⟨hx, hb, hr, hml, hown, hts, hX, hbl, hbA, hlocks, hE, hGc, hGm, hK, hA, hAs⟩ := id C0
  refine lv_aload_n hx hb dL_law_316 rfl (lv_at hl 2 rfl) ?_
  obtain ⟨L, F, ty, ρ, ta, ou, di, ea, ck, sl, po, hs, ⟨hP, hD, hO, hW⟩, hL_xq, hT_xq, hTS, hBq⟩ := hC
  have hG := hGc
  obtain ⟨hi_1, ⟨r_2, ht_3⟩, hi_4, ⟨r_5, ht_6⟩, hi_7, ht_8, hi_9, ⟨w0_10, w1_11, w2_12, w3_13, nm_14, te_15, ht_16⟩, hi_17, ⟨l1_18, lx_19, ly0_20, ly1_21, ly2_22, k1_23, kx_24, ky0_25, ky1_26, ky2_27, w0_28, w1_29, w2_30, w3_31, w4_32, w5_33, w6_34, w7_35, w8_36, tk_37, h1_38, hx_39, hy_40, hw_41, pw_42, px_43, py_44, pz_45, pu_46, ht_47⟩, hi_48, ⟨w0_49, w1_50, rc_51, rx_52, ry0_53, ry1_54, ry2_55, ht_56⟩, hi_57, ⟨hx_58, hy_59, hw_60, ht_61⟩⟩ := hW.gate hL_xq hT_xq
  obtain ⟨le_62, sp_63, hF_64, hq_65, hq_66, hq_67, hq_68⟩ := hO.gate hL_xq hT_xq
  obtain ⟨x_69, y0_70, y1_71, y2_72, ht_73⟩ := id hq_66
  obtain ⟨x_74, y0_75, y1_76, y2_77, ht_78⟩ := id hq_68
  have hFc := pg_free hD hS hA
  refine va_calli (va_runV (As := []) (rest := []) ⟨hx, hb, hml, hown, hts⟩ (s_X11_seals l dC dI cs ty L H.size F xq ρ ta ou di ea ck sl po hs zt hW hL_xq hT_xq hTS) ⟨callB_of 0 hts (gi kt_1268) rfl rfl rfl (hts _ kt_661) (hts _ kt_1269) (by decide +kernel) ⟨Nat.le_of_ble_eq_true rfl, Nat.le_of_ble_eq_true rfl⟩, (hts _ kt_1270), (hts _ kt_1271)⟩ ⟨fun a U g mk q => ⟨q.1, PTE.calling q.2⟩, pg_recv hK hP hL_xq hF_64 (q := (RX11, TX11, 9)) rfl, fun U hU hWm => ⟨rfl, PTE.mk hU hWm hP hK hD hE hO hG (fun x hx => absurd hx List.not_mem_nil) hS hFc⟩⟩ rfl rfl hl.1 rfl (lv_room (Nat.le_of_ble_eq_true rfl)) dL_law_317 ⟨by show _ + 0 ≤ 600000; omega, by show _ + 0 ≤ 7302250; omega⟩) hS (fun q _ h => hFc q h) hFc (fun r_79 u t H1 locs ht hvm hw hB hz1 hk1 hS => ?_)
  obtain ⟨F2, hB1, hTS2⟩ := hB
  obtain ⟨hP, hD, hO, hR⟩ := QT.back hB1 ht hFc FR.refl (fun q h => h)
  have hM := hM.kept hBq hk1
  have hC : PCs (dC, dI) cs A Bq xq zt H1 := ⟨L, F2, ty, ρ, ta, ou, di, ea, ck, sl, po, hs, ⟨hP, hD, hO, hW⟩, hL_xq, hT_xq, hTS2, hBq⟩
  generalize H1 = H at hC hM hS ⊢
  refine lv_pop hx hb dL_law_320 rfl ?_
  refine lv_aload_n hx hb dL_law_321 rfl (lv_at hl 1 rfl) ?_
  obtain ⟨L, F, ty, gm, ρ, ta, ou, so, ad, na, va, lc, dm, tg, pe, ml, bg, co, sp, nb0, nb1, nb2, pl, se, ke, wi, hs, mo, po, nu, pr, sq, xa, sa, n64, m64, ex, wh, sd, tk, hd, ak, ho, ot, sx, s0, s1, s2, nf, bd, mm, ⟨hP, hD, hO, hW⟩, hL_h0, hT_h0, hn01, hn02, hn12, hU26, hU15, hBq⟩ := hM
  have hG := hGm
  obtain ⟨hi_80, ht_81, hi_82, ht_83, hi_84, ht_85, hi_86, ht_87, hi_88, ht_89, hi_90, ht_91, hi_92, ⟨r_93, ht_94⟩, hi_95, ⟨r_96, ht_97⟩, hi_98, ht_99, hi_100, ⟨r_101, ht_102⟩, hi_103, ht_104, hi_105, ht_106, hi_107, ht_108, hi_109, ht_110, hi_111, ht_112, hi_113, ht_114, hi_115, ht_116, hi_117, ⟨r_118, ht_119⟩, hi_120, ht_121, hi_122, ⟨x_123, y0_124, y1_125, y2_126, ht_127⟩, hi_128, ⟨x_129, y0_130, y1_131, y2_132, ht_133⟩, hi_134, ⟨x_135, y_136, w_137, u_138, bl_139, ht_140⟩, hi_141, ht_142, hi_143, ht_144, hi_145, ht_146, hi_147, ht_148, hi_149, ht_150, hi_151, ht_152, hi_153, ht_154, hi_155, ht_156, hi_157, ht_158, hi_159, ht_160, hi_161, ⟨r_162, ht_163⟩, hi_164, ⟨r_165, ht_166⟩, hi_167, ht_168, hi_169, ht_170, hi_171, ⟨r_172, ht_173⟩, hi_174, ⟨r_175, ht_176⟩, hi_177, ⟨r_178, ht_179⟩, hq_180, hq_181, hq_182, hq_183, hq_184, hgO, hgA, hgB⟩ := hW.mod hL_h0 hT_h0
  obtain ⟨zo_185, ze_186, v11_187, v12_188, v14_189, v15_190, v17_191, v18_192, v19_193, v20_194, v21_195, v22_196, v33_197, v52_198, v53_199, v54_200, hF_201, hq_202, hq_203, hq_204, hq_205⟩ := hO.mod hL_h0 hT_h0
  have hFc := pg_free hD hS hA
  refine va_calli (va_runV (As := []) (rest := []) ⟨hx, hb, hml, hown, hts⟩ (s_X15_seals l dC dI cs ty gm L H.size F h0 ρ ta ou so ad na va lc dm tg pe ml bg co sp nb0 nb1 nb2 pl se ke wi hs mo po nu pr sq xa sa n64 m64 ex wh sd tk hd ak ho ot sx s0 s1 s2 nf bd mm zt hW hL_h0 hT_h0) ⟨callB_of 0 hts (gi kt_1272) rfl rfl rfl (hts _ kt_669) (hts _ kt_1273) (by decide +kernel) ⟨Nat.le_of_ble_eq_true rfl, Nat.le_of_ble_eq_true rfl⟩, (hts _ kt_1274), (hts _ kt_1275)⟩ ⟨fun a U g mk q => ⟨q.1, PTEm.calling q.2⟩, pg_recv hK hP hL_h0 hF_201 (q := (RX15, TX15, 59)) rfl, fun U hU hWm => ⟨rfl, PTEm.mk hU hWm hP hK hD hE hO hG (fun x hx => absurd hx List.not_mem_nil) hS hFc⟩⟩ rfl rfl hl.1 rfl (lv_room (Nat.le_of_ble_eq_true rfl)) dL_law_322 ⟨by show _ + 0 ≤ 600000; omega, by show _ + 0 ≤ 7302250; omega⟩) hS (fun q _ h => hFc q h) hFc (fun r_206 u t H1 locs ht hvm hw hB hz1 hk1 hS => ?_)
  obtain ⟨F2, hB1⟩ := hB
  obtain ⟨hP, hD, hO, hR⟩ := QTm.back hB1 ht hFc FR.refl (fun q h => h)
  have hC := hC.kept hBq hk1
  have hM : PMs (dC, dI) cs A Bq h0 zt H1 := ⟨L, F2, ty, gm, ρ, ta, ou, so, ad, na, va, lc, dm, tg, pe, ml, bg, co, sp, nb0, nb1, nb2, pl, se, ke, wi, hs, mo, po, nu, pr, sq, xa, sa, n64, m64, ex, wh, sd, tk, hd, ak, ho, ot, sx, s0, s1, s2, nf, bd, mm, ⟨hP, hD, hO, hW⟩, hL_h0, hT_h0, hn01, hn02, hn12, hU26, hU15, hBq⟩
  generalize H1 = H at hC hM hS ⊢
  refine lv_pop hx hb dL_law_325 rfl ?_
  refine lv_goto (tgt := 522) hx hb dL_law_326 (by decide) ?_
  refine W.widen (k := cc + 1) (n := ss + 5) (by omega) (by omega) ?_
  exact kk zt _ _ _ (by omega) hC hM hS hl
set_option maxHeartbeats 4000000 in
set_option maxRecDepth 100000 in
theorem law_9 {p : Program} {l : Launch} {e : Env} {s : State} {m : MethodId} {below : List Frame} {meth : Method} {c : Code} {A Bq : Nat → Prop} {dC : Nat → ClassId} {dI : Nat → Nat → Nat} {cs : Nat → ClassId} {b Ln : Nat} {xs : Nat → Int32} (C0 : LC p s m meth c A dC dI cs b Ln xs) {xq h0 i zt cc ss : Nat} (hi : i + 6 ≤ Ln) (hLn : Ln ≤ 384) (hnz : zt ≤ 1280) (hcc : cc + 1 ≤ 600000) (hss : ss + 5 ≤ 7302250) {H : Heap} {locs : List Loc} {ls : Array Slot} (hC : PCs (dC, dI) cs A Bq xq zt H) (hM : PMs (dC, dI) cs A Bq h0 zt H) (hS : va_S A s.heap H locs) (hl : lv_has ls 4 [(3, .int (nI i)), (2, .ref h0), (1, .ref xq), (0, .ref b)]) (kk : ∀ (z2 : Nat) (H : Heap) (locs : List Loc) (ls : Array Slot), z2 ≤ zt + 20 → PCs (dC, dI) cs A Bq xq z2 H → PMs (dC, dI) cs A Bq h0 z2 H → va_S A s.heap H locs → lv_has ls 4 [(3, .int (nI i)), (2, .ref h0), (1, .ref xq), (0, .ref b)] → W p l e room_1 s m #[Value.ref b] below meth c H locs (cc + 1) (ss + 5) (lw_Z below #[Value.ref b] s) (F0 m 522 ls [])) : W p l e room_1 s m #[Value.ref b] below meth c H locs cc ss (lw_Z below #[Value.ref b] s) (F0 m 329 ls []) := by
  obtain ⟨hx, hb, hr, hml, hown, hts, hX, hbl, hbA, hlocks, hE, hGc, hGm, hK, hA, hAs⟩ := id C0
  refine lv_aload_n hx hb dL_law_329 rfl (lv_at hl 2 rfl) ?_
  refine lv_aload_n hx hb dL_law_330 rfl (lv_at hl 3 rfl) ?_
  refine lv_iload_n hx hb dL_law_331 rfl (lv_at hl 0 rfl) ?_
  refine lv_iconst (v := 1) hx hb dL_law_332 (by decide) ?_
  refine lv_iadd hx hb dL_law_333 ?_
  refine lv_topi (fun x_1 ex_1 => ?_)
  obtain rfl : x_1 = (nI (i + 1)) := ex_1.trans (nI_add i 1)
  refine va_sld hx hb hX hbl hbA hS (vp_in_nI (by omega) (by omega)) dL_law_334 ?_
  refine lv_topi (fun x_2 ex_2 => ?_)
  obtain rfl : x_2 = (xs (i + 1)) := ex_2.trans (congrArg xs (nI_clamp (by omega)))
  refine lv_aload_n hx hb dL_law_335 rfl (lv_at hl 3 rfl) ?_
  refine lv_iload_n hx hb dL_law_336 rfl (lv_at hl 0 rfl) ?_
  refine lv_iconst (v := 2) hx hb dL_law_337 (by decide) ?_
  refine lv_iadd hx hb dL_law_338 ?_
  refine lv_topi (fun x_3 ex_3 => ?_)
  obtain rfl : x_3 = (nI (i + 2)) := ex_3.trans (nI_add i 2)
  refine va_sld hx hb hX hbl hbA hS (vp_in_nI (by omega) (by omega)) dL_law_339 ?_
  refine lv_topi (fun x_4 ex_4 => ?_)
  obtain rfl : x_4 = (xs (i + 2)) := ex_4.trans (congrArg xs (nI_clamp (by omega)))
  obtain ⟨L, F, ty, ρ, ta, ou, di, ea, ck, sl, po, hs, ⟨hP, hD, hO, hW⟩, hL_xq, hT_xq, hTS, hBq⟩ := hC
  have hG := hGc
  obtain ⟨hi_5, ⟨r_6, ht_7⟩, hi_8, ⟨r_9, ht_10⟩, hi_11, ht_12, hi_13, ⟨w0_14, w1_15, w2_16, w3_17, nm_18, te_19, ht_20⟩, hi_21, ⟨l1_22, lx_23, ly0_24, ly1_25, ly2_26, k1_27, kx_28, ky0_29, ky1_30, ky2_31, w0_32, w1_33, w2_34, w3_35, w4_36, w5_37, w6_38, w7_39, w8_40, tk_41, h1_42, hx_43, hy_44, hw_45, pw_46, px_47, py_48, pz_49, pu_50, ht_51⟩, hi_52, ⟨w0_53, w1_54, rc_55, rx_56, ry0_57, ry1_58, ry2_59, ht_60⟩, hi_61, ⟨hx_62, hy_63, hw_64, ht_65⟩⟩ := hW.gate hL_xq hT_xq
  obtain ⟨le_66, sp_67, hF_68, hq_69, hq_70, hq_71, hq_72⟩ := hO.gate hL_xq hT_xq
  obtain ⟨x_73, y0_74, y1_75, y2_76, ht_77⟩ := id hq_70
  obtain ⟨x_78, y0_79, y1_80, y2_81, ht_82⟩ := id hq_72
  have hFc := pg_free hD hS hA
  refine va_calli (va_runV (As := [.int (xs (i + 1)), .int (xs (i + 2))]) (rest := []) ⟨hx, hb, hml, hown, hts⟩ (s_X11_sealed l dC dI cs ty L H.size F xq ρ ta ou di ea ck sl po hs zt (xs (i + 1)) (xs (i + 2)) hW hL_xq hT_xq hTS) ⟨callB_of 2 hts (gi kt_1276) rfl rfl rfl (hts _ kt_661) (hts _ kt_1277) (by decide +kernel) ⟨Nat.le_of_ble_eq_true rfl, Nat.le_of_ble_eq_true rfl⟩, (hts _ kt_1278), (hts _ kt_1279)⟩ ⟨fun a U g mk q => ⟨q.1, PTE.calling q.2⟩, pg_recv hK hP hL_xq hF_68 (q := (RX11, TX11, 9)) rfl, fun U hU hWm => ⟨rfl, PTE.mk hU hWm hP hK hD hE hO hG (fun x hx => absurd hx List.not_mem_nil) hS hFc⟩⟩ rfl rfl hl.1 rfl (lv_room (Nat.le_of_ble_eq_true rfl)) dL_law_340 ⟨by show _ + 0 ≤ 600000; omega, by show _ + 0 ≤ 7302250; omega⟩) hS (fun q _ h => hFc q h) hFc (fun r_83 u t H1 locs ht hvm hw hB hz1 hk1 hS => ?_)
  obtain ⟨F2, hB1, hTS2⟩ := hB
  obtain ⟨hP, hD, hO, hR⟩ := QT.back hB1 ht hFc FR.refl (fun q h => h)
  have hM := hM.kept hBq hk1
  have hC : PCs (dC, dI) cs A Bq xq zt H1 := ⟨L, F2, ty, ρ, ta, ou, di, ea, ck, sl, po, hs, ⟨hP, hD, hO, hW⟩, hL_xq, hT_xq, hTS2, hBq⟩
  generalize H1 = H at hC hM hS ⊢
  refine lv_pop hx hb dL_law_343 rfl ?_
  refine lv_aload_n hx hb dL_law_344 rfl (lv_at hl 1 rfl) ?_
  refine lv_aload_n hx hb dL_law_345 rfl (lv_at hl 3 rfl) ?_
  refine lv_iload_n hx hb dL_law_346 rfl (lv_at hl 0 rfl) ?_
  refine lv_iconst (v := 1) hx hb dL_law_347 (by decide) ?_
  refine lv_iadd hx hb dL_law_348 ?_
  refine lv_topi (fun x_84 ex_84 => ?_)
  obtain rfl : x_84 = (nI (i + 1)) := ex_84.trans (nI_add i 1)
  refine va_sld hx hb hX hbl hbA hS (vp_in_nI (by omega) (by omega)) dL_law_349 ?_
  refine lv_topi (fun x_85 ex_85 => ?_)
  obtain rfl : x_85 = (xs (i + 1)) := ex_85.trans (congrArg xs (nI_clamp (by omega)))
  refine lv_aload_n hx hb dL_law_350 rfl (lv_at hl 3 rfl) ?_
  refine lv_iload_n hx hb dL_law_351 rfl (lv_at hl 0 rfl) ?_
  refine lv_iconst (v := 2) hx hb dL_law_352 (by decide) ?_
  refine lv_iadd hx hb dL_law_353 ?_
  refine lv_topi (fun x_86 ex_86 => ?_)
  obtain rfl : x_86 = (nI (i + 2)) := ex_86.trans (nI_add i 2)
  refine va_sld hx hb hX hbl hbA hS (vp_in_nI (by omega) (by omega)) dL_law_354 ?_
  refine lv_topi (fun x_87 ex_87 => ?_)
  obtain rfl : x_87 = (xs (i + 2)) := ex_87.trans (congrArg xs (nI_clamp (by omega)))
  obtain ⟨L, F, ty, gm, ρ, ta, ou, so, ad, na, va, lc, dm, tg, pe, ml, bg, co, sp, nb0, nb1, nb2, pl, se, ke, wi, hs, mo, po, nu, pr, sq, xa, sa, n64, m64, ex, wh, sd, tk, hd, ak, ho, ot, sx, s0, s1, s2, nf, bd, mm, ⟨hP, hD, hO, hW⟩, hL_h0, hT_h0, hn01, hn02, hn12, hU26, hU15, hBq⟩ := hM
  have hG := hGm
  obtain ⟨hi_88, ht_89, hi_90, ht_91, hi_92, ht_93, hi_94, ht_95, hi_96, ht_97, hi_98, ht_99, hi_100, ⟨r_101, ht_102⟩, hi_103, ⟨r_104, ht_105⟩, hi_106, ht_107, hi_108, ⟨r_109, ht_110⟩, hi_111, ht_112, hi_113, ht_114, hi_115, ht_116, hi_117, ht_118, hi_119, ht_120, hi_121, ht_122, hi_123, ht_124, hi_125, ⟨r_126, ht_127⟩, hi_128, ht_129, hi_130, ⟨x_131, y0_132, y1_133, y2_134, ht_135⟩, hi_136, ⟨x_137, y0_138, y1_139, y2_140, ht_141⟩, hi_142, ⟨x_143, y_144, w_145, u_146, bl_147, ht_148⟩, hi_149, ht_150, hi_151, ht_152, hi_153, ht_154, hi_155, ht_156, hi_157, ht_158, hi_159, ht_160, hi_161, ht_162, hi_163, ht_164, hi_165, ht_166, hi_167, ht_168, hi_169, ⟨r_170, ht_171⟩, hi_172, ⟨r_173, ht_174⟩, hi_175, ht_176, hi_177, ht_178, hi_179, ⟨r_180, ht_181⟩, hi_182, ⟨r_183, ht_184⟩, hi_185, ⟨r_186, ht_187⟩, hq_188, hq_189, hq_190, hq_191, hq_192, hgO, hgA, hgB⟩ := hW.mod hL_h0 hT_h0
  obtain ⟨zo_193, ze_194, v11_195, v12_196, v14_197, v15_198, v17_199, v18_200, v19_201, v20_202, v21_203, v22_204, v33_205, v52_206, v53_207, v54_208, hF_209, hq_210, hq_211, hq_212, hq_213⟩ := hO.mod hL_h0 hT_h0
  obtain ⟨hi_214, hi_215, hi_216, hi_217, ⟨r_218, ht_219⟩, ht_220, ht_221, ht_222, hq_223, hq_224⟩ := hW.tags hi_128 ht_129
  have ht_219 : ty sx = (14, ρ + 12, [r_218, 3000]) := ht_219
  have hFc := pg_free hD hS hA
  refine va_calli (va_runV (As := [.int (xs (i + 1)), .int (xs (i + 2))]) (rest := []) ⟨hx, hb, hml, hown, hts⟩ (s_X15_sealed l dC dI cs ty gm L H.size F h0 ρ ta ou so ad na va lc dm tg pe ml bg co sp nb0 nb1 nb2 pl se ke wi hs mo po nu pr sq xa sa n64 m64 ex wh sd tk hd ak ho ot sx s0 s1 s2 nf bd mm zt r_218 r_126 (xs (i + 1)) (xs (i + 2)) hW hL_h0 hT_h0 hi_214 ht_219 hi_125 ht_127) ⟨callB_of 2 hts (gi kt_1280) rfl rfl rfl (hts _ kt_669) (hts _ kt_1281) (by decide +kernel) ⟨Nat.le_of_ble_eq_true rfl, Nat.le_of_ble_eq_true rfl⟩, (hts _ kt_1282), (hts _ kt_1283)⟩ ⟨fun a U g mk q => ⟨q.1, PTEm.calling q.2⟩, pg_recv hK hP hL_h0 hF_209 (q := (RX15, TX15, 59)) rfl, fun U hU hWm => ⟨rfl, PTEm.mk hU hWm hP hK hD hE hO hG (fun x hx => absurd hx List.not_mem_nil) hS hFc⟩⟩ rfl rfl hl.1 rfl (lv_room (Nat.le_of_ble_eq_true rfl)) dL_law_355 ⟨by show _ + 0 ≤ 600000; omega, by show _ + 0 ≤ 7302250; omega⟩) hS (fun q _ h => hFc q h) hFc (fun r_225 u t H1 locs ht hvm hw hB hz1 hk1 hS => ?_)
  obtain ⟨F2, hB1⟩ := hB
  obtain ⟨hP, hD, hO, hR⟩ := QTm.back hB1 ht hFc FR.refl (fun q h => h)
  have hC := hC.kept hBq hk1
  have hM : PMs (dC, dI) cs A Bq h0 zt H1 := ⟨L, F2, ty, gm, ρ, ta, ou, so, ad, na, va, lc, dm, tg, pe, ml, bg, co, sp, nb0, nb1, nb2, pl, se, ke, wi, hs, mo, po, nu, pr, sq, xa, sa, n64, m64, ex, wh, sd, tk, hd, ak, ho, ot, sx, s0, s1, s2, nf, bd, mm, ⟨hP, hD, hO, hW⟩, hL_h0, hT_h0, hn01, hn02, hn12, hU26, hU15, hBq⟩
  generalize H1 = H at hC hM hS ⊢
  refine lv_pop hx hb dL_law_358 rfl ?_
  refine lv_goto (tgt := 522) hx hb dL_law_359 (by decide) ?_
  refine W.widen (k := cc + 1) (n := ss + 5) (by omega) (by omega) ?_
  exact kk zt _ _ _ (by omega) hC hM hS hl
set_option maxHeartbeats 4000000 in
set_option maxRecDepth 100000 in
theorem law_10 {p : Program} {l : Launch} {e : Env} {s : State} {m : MethodId} {below : List Frame} {meth : Method} {c : Code} {A Bq : Nat → Prop} {dC : Nat → ClassId} {dI : Nat → Nat → Nat} {cs : Nat → ClassId} {b Ln : Nat} {xs : Nat → Int32} (C0 : LC p s m meth c A dC dI cs b Ln xs) {xq h0 i zt cc ss : Nat} (hi : i + 6 ≤ Ln) (hLn : Ln ≤ 384) (hnz : zt ≤ 1280) (hcc : cc + 1 ≤ 600000) (hss : ss + 5 ≤ 7302250) {H : Heap} {locs : List Loc} {ls : Array Slot} (hC : PCs (dC, dI) cs A Bq xq zt H) (hM : PMs (dC, dI) cs A Bq h0 zt H) (hS : va_S A s.heap H locs) (hl : lv_has ls 4 [(3, .int (nI i)), (2, .ref h0), (1, .ref xq), (0, .ref b)]) (kk : ∀ (z2 : Nat) (H : Heap) (locs : List Loc) (ls : Array Slot), z2 ≤ zt + 20 → PCs (dC, dI) cs A Bq xq z2 H → PMs (dC, dI) cs A Bq h0 z2 H → va_S A s.heap H locs → lv_has ls 4 [(3, .int (nI i)), (2, .ref h0), (1, .ref xq), (0, .ref b)] → W p l e room_1 s m #[Value.ref b] below meth c H locs (cc + 1) (ss + 5) (lw_Z below #[Value.ref b] s) (F0 m 522 ls [])) : W p l e room_1 s m #[Value.ref b] below meth c H locs cc ss (lw_Z below #[Value.ref b] s) (F0 m 362 ls []) := by
  obtain ⟨hx, hb, hr, hml, hown, hts, hX, hbl, hbA, hlocks, hE, hGc, hGm, hK, hA, hAs⟩ := id C0
  refine lv_aload_n hx hb dL_law_362 rfl (lv_at hl 2 rfl) ?_
  refine lv_aload_n hx hb dL_law_363 rfl (lv_at hl 3 rfl) ?_
  refine lv_iload_n hx hb dL_law_364 rfl (lv_at hl 0 rfl) ?_
  refine lv_iconst (v := 1) hx hb dL_law_365 (by decide) ?_
  refine lv_iadd hx hb dL_law_366 ?_
  refine lv_topi (fun x_1 ex_1 => ?_)
  obtain rfl : x_1 = (nI (i + 1)) := ex_1.trans (nI_add i 1)
  refine va_sld hx hb hX hbl hbA hS (vp_in_nI (by omega) (by omega)) dL_law_367 ?_
  refine lv_topi (fun x_2 ex_2 => ?_)
  obtain rfl : x_2 = (xs (i + 1)) := ex_2.trans (congrArg xs (nI_clamp (by omega)))
  refine lv_if_eq (tgt := 375) hx hb dL_law_368 (by decide) (fun c_3 => ?_) (fun c_3 => ?_)
  ·
    refine lv_iconst (v := 0) hx hb dL_law_375 (by decide) ?_
    obtain ⟨L, F, ty, ρ, ta, ou, di, ea, ck, sl, po, hs, ⟨hP, hD, hO, hW⟩, hL_xq, hT_xq, hTS, hBq⟩ := hC
    have hG := hGc
    obtain ⟨hi_4, ⟨r_5, ht_6⟩, hi_7, ⟨r_8, ht_9⟩, hi_10, ht_11, hi_12, ⟨w0_13, w1_14, w2_15, w3_16, nm_17, te_18, ht_19⟩, hi_20, ⟨l1_21, lx_22, ly0_23, ly1_24, ly2_25, k1_26, kx_27, ky0_28, ky1_29, ky2_30, w0_31, w1_32, w2_33, w3_34, w4_35, w5_36, w6_37, w7_38, w8_39, tk_40, h1_41, hx_42, hy_43, hw_44, pw_45, px_46, py_47, pz_48, pu_49, ht_50⟩, hi_51, ⟨w0_52, w1_53, rc_54, rx_55, ry0_56, ry1_57, ry2_58, ht_59⟩, hi_60, ⟨hx_61, hy_62, hw_63, ht_64⟩⟩ := hW.gate hL_xq hT_xq
    obtain ⟨le_65, sp_66, hF_67, hq_68, hq_69, hq_70, hq_71⟩ := hO.gate hL_xq hT_xq
    obtain ⟨x_72, y0_73, y1_74, y2_75, ht_76⟩ := id hq_69
    obtain ⟨x_77, y0_78, y1_79, y2_80, ht_81⟩ := id hq_71
    have hFc := pg_free hD hS hA
    refine va_calli (va_runV (As := [.int 0]) (rest := []) ⟨hx, hb, hml, hown, hts⟩ (s_X11_plainBody l dC dI cs ty L H.size F xq ρ ta ou di ea ck sl po hs zt 0 hW hL_xq hT_xq hTS) ⟨callB_of 1 hts (gi kt_1284) rfl rfl rfl (hts _ kt_661) (hts _ kt_1285) (by decide +kernel) ⟨Nat.le_of_ble_eq_true rfl, Nat.le_of_ble_eq_true rfl⟩, (hts _ kt_1286), (hts _ kt_1287)⟩ ⟨fun a U g mk q => ⟨q.1, PT.calling q.2⟩, pg_recv hK hP hL_xq hF_67 (q := (RX11, TX11, 9)) rfl, fun U hU hWm => ⟨rfl, PT.mk hU hWm hP hK hD hE hO⟩⟩ rfl rfl hl.1 rfl (lv_room (Nat.le_of_ble_eq_true rfl)) dL_law_376 ⟨by show _ + 0 ≤ 600000; omega, by show _ + 0 ≤ 7302250; omega⟩) hS (fun q _ h => hFc q h) hFc (fun r_82 u t H1 locs ht hvm hw hB hz1 hk1 hS => ?_)
    obtain ⟨F2, hB1, hTS2⟩ := hB
    obtain ⟨hP, hD, hO, hR⟩ := QT.back hB1 ht hFc FR.refl (fun q h => h)
    have hM := hM.kept hBq hk1
    have hC : PCs (dC, dI) cs A Bq xq zt H1 := ⟨L, F2, ty, ρ, ta, ou, di, ea, ck, sl, po, hs, ⟨hP, hD, hO, hW⟩, hL_xq, hT_xq, hTS2, hBq⟩
    generalize H1 = H at hC hM hS ⊢
    refine lv_pop hx hb dL_law_379 rfl ?_
    refine lv_aload_n hx hb dL_law_380 rfl (lv_at hl 1 rfl) ?_
    refine lv_aload_n hx hb dL_law_381 rfl (lv_at hl 3 rfl) ?_
    refine lv_iload_n hx hb dL_law_382 rfl (lv_at hl 0 rfl) ?_
    refine lv_iconst (v := 1) hx hb dL_law_383 (by decide) ?_
    refine lv_iadd hx hb dL_law_384 ?_
    refine lv_topi (fun x_83 ex_83 => ?_)
    obtain rfl : x_83 = (nI (i + 1)) := ex_83.trans (nI_add i 1)
    refine va_sld hx hb hX hbl hbA hS (vp_in_nI (by omega) (by omega)) dL_law_385 ?_
    refine lv_topi (fun x_84 ex_84 => ?_)
    obtain rfl : x_84 = (xs (i + 1)) := ex_84.trans (congrArg xs (nI_clamp (by omega)))
    refine lv_if_eq (tgt := 393) hx hb dL_law_386 (by decide) (fun c_85 => ?_) (fun c_85 => ?_)
    ·
      refine lv_iconst (v := 0) hx hb dL_law_393 (by decide) ?_
      obtain ⟨L, F, ty, gm, ρ, ta, ou, so, ad, na, va, lc, dm, tg, pe, ml, bg, co, sp, nb0, nb1, nb2, pl, se, ke, wi, hs, mo, po, nu, pr, sq, xa, sa, n64, m64, ex, wh, sd, tk, hd, ak, ho, ot, sx, s0, s1, s2, nf, bd, mm, ⟨hP, hD, hO, hW⟩, hL_h0, hT_h0, hn01, hn02, hn12, hU26, hU15, hBq⟩ := hM
      have hG := hGm
      obtain ⟨hi_86, ht_87, hi_88, ht_89, hi_90, ht_91, hi_92, ht_93, hi_94, ht_95, hi_96, ht_97, hi_98, ⟨r_99, ht_100⟩, hi_101, ⟨r_102, ht_103⟩, hi_104, ht_105, hi_106, ⟨r_107, ht_108⟩, hi_109, ht_110, hi_111, ht_112, hi_113, ht_114, hi_115, ht_116, hi_117, ht_118, hi_119, ht_120, hi_121, ht_122, hi_123, ⟨r_124, ht_125⟩, hi_126, ht_127, hi_128, ⟨x_129, y0_130, y1_131, y2_132, ht_133⟩, hi_134, ⟨x_135, y0_136, y1_137, y2_138, ht_139⟩, hi_140, ⟨x_141, y_142, w_143, u_144, bl_145, ht_146⟩, hi_147, ht_148, hi_149, ht_150, hi_151, ht_152, hi_153, ht_154, hi_155, ht_156, hi_157, ht_158, hi_159, ht_160, hi_161, ht_162, hi_163, ht_164, hi_165, ht_166, hi_167, ⟨r_168, ht_169⟩, hi_170, ⟨r_171, ht_172⟩, hi_173, ht_174, hi_175, ht_176, hi_177, ⟨r_178, ht_179⟩, hi_180, ⟨r_181, ht_182⟩, hi_183, ⟨r_184, ht_185⟩, hq_186, hq_187, hq_188, hq_189, hq_190, hgO, hgA, hgB⟩ := hW.mod hL_h0 hT_h0
      obtain ⟨zo_191, ze_192, v11_193, v12_194, v14_195, v15_196, v17_197, v18_198, v19_199, v20_200, v21_201, v22_202, v33_203, v52_204, v53_205, v54_206, hF_207, hq_208, hq_209, hq_210, hq_211⟩ := hO.mod hL_h0 hT_h0
      have hFc := pg_free hD hS hA
      refine va_calli (va_runV (As := [.int 0]) (rest := []) ⟨hx, hb, hml, hown, hts⟩ (s_X15_plainBody l dC dI cs ty gm L H.size F h0 ρ ta ou so ad na va lc dm tg pe ml bg co sp nb0 nb1 nb2 pl se ke wi hs mo po nu pr sq xa sa n64 m64 ex wh sd tk hd ak ho ot sx s0 s1 s2 nf bd mm zt r_124 0 hW hL_h0 hT_h0 hi_123 ht_125) ⟨callB_of 1 hts (gi kt_1288) rfl rfl rfl (hts _ kt_669) (hts _ kt_1289) (by decide +kernel) ⟨Nat.le_of_ble_eq_true rfl, Nat.le_of_ble_eq_true rfl⟩, (hts _ kt_1290), (hts _ kt_1291)⟩ ⟨fun a U g mk q => ⟨q.1, PTm.calling q.2⟩, pg_recv hK hP hL_h0 hF_207 (q := (RX15, TX15, 59)) rfl, fun U hU hWm => ⟨rfl, PTm.mk hU hWm hP hK hD hE hO⟩⟩ rfl rfl hl.1 rfl (lv_room (Nat.le_of_ble_eq_true rfl)) dL_law_394 ⟨by show _ + 0 ≤ 600000; omega, by show _ + 0 ≤ 7302250; omega⟩) hS (fun q _ h => hFc q h) hFc (fun r_212 u t H1 locs ht hvm hw hB hz1 hk1 hS => ?_)
      obtain ⟨F2, hB1⟩ := hB
      obtain ⟨hP, hD, hO, hR⟩ := QTm.back hB1 ht hFc FR.refl (fun q h => h)
      have hC := hC.kept hBq hk1
      have hM : PMs (dC, dI) cs A Bq h0 zt H1 := ⟨L, F2, ty, gm, ρ, ta, ou, so, ad, na, va, lc, dm, tg, pe, ml, bg, co, sp, nb0, nb1, nb2, pl, se, ke, wi, hs, mo, po, nu, pr, sq, xa, sa, n64, m64, ex, wh, sd, tk, hd, ak, ho, ot, sx, s0, s1, s2, nf, bd, mm, ⟨hP, hD, hO, hW⟩, hL_h0, hT_h0, hn01, hn02, hn12, hU26, hU15, hBq⟩
      generalize H1 = H at hC hM hS ⊢
      refine lv_pop hx hb dL_law_397 rfl ?_
      refine lv_goto (tgt := 522) hx hb dL_law_398 (by decide) ?_
      refine W.widen (k := cc + 1) (n := ss + 5) (by omega) (by omega) ?_
      exact kk zt _ _ _ (by omega) hC hM hS hl
    ·
      refine lv_iconst (v := 1) hx hb dL_law_389 (by decide) ?_
      refine lv_goto (tgt := 394) hx hb dL_law_390 (by decide) ?_
      obtain ⟨L, F, ty, gm, ρ, ta, ou, so, ad, na, va, lc, dm, tg, pe, ml, bg, co, sp, nb0, nb1, nb2, pl, se, ke, wi, hs, mo, po, nu, pr, sq, xa, sa, n64, m64, ex, wh, sd, tk, hd, ak, ho, ot, sx, s0, s1, s2, nf, bd, mm, ⟨hP, hD, hO, hW⟩, hL_h0, hT_h0, hn01, hn02, hn12, hU26, hU15, hBq⟩ := hM
      have hG := hGm
      obtain ⟨hi_213, ht_214, hi_215, ht_216, hi_217, ht_218, hi_219, ht_220, hi_221, ht_222, hi_223, ht_224, hi_225, ⟨r_226, ht_227⟩, hi_228, ⟨r_229, ht_230⟩, hi_231, ht_232, hi_233, ⟨r_234, ht_235⟩, hi_236, ht_237, hi_238, ht_239, hi_240, ht_241, hi_242, ht_243, hi_244, ht_245, hi_246, ht_247, hi_248, ht_249, hi_250, ⟨r_251, ht_252⟩, hi_253, ht_254, hi_255, ⟨x_256, y0_257, y1_258, y2_259, ht_260⟩, hi_261, ⟨x_262, y0_263, y1_264, y2_265, ht_266⟩, hi_267, ⟨x_268, y_269, w_270, u_271, bl_272, ht_273⟩, hi_274, ht_275, hi_276, ht_277, hi_278, ht_279, hi_280, ht_281, hi_282, ht_283, hi_284, ht_285, hi_286, ht_287, hi_288, ht_289, hi_290, ht_291, hi_292, ht_293, hi_294, ⟨r_295, ht_296⟩, hi_297, ⟨r_298, ht_299⟩, hi_300, ht_301, hi_302, ht_303, hi_304, ⟨r_305, ht_306⟩, hi_307, ⟨r_308, ht_309⟩, hi_310, ⟨r_311, ht_312⟩, hq_313, hq_314, hq_315, hq_316, hq_317, hgO, hgA, hgB⟩ := hW.mod hL_h0 hT_h0
      obtain ⟨zo_318, ze_319, v11_320, v12_321, v14_322, v15_323, v17_324, v18_325, v19_326, v20_327, v21_328, v22_329, v33_330, v52_331, v53_332, v54_333, hF_334, hq_335, hq_336, hq_337, hq_338⟩ := hO.mod hL_h0 hT_h0
      have hFc := pg_free hD hS hA
      refine va_calli (va_runV (As := [.int 1]) (rest := []) ⟨hx, hb, hml, hown, hts⟩ (s_X15_plainBody l dC dI cs ty gm L H.size F h0 ρ ta ou so ad na va lc dm tg pe ml bg co sp nb0 nb1 nb2 pl se ke wi hs mo po nu pr sq xa sa n64 m64 ex wh sd tk hd ak ho ot sx s0 s1 s2 nf bd mm zt r_251 1 hW hL_h0 hT_h0 hi_250 ht_252) ⟨callB_of 1 hts (gi kt_1288) rfl rfl rfl (hts _ kt_669) (hts _ kt_1289) (by decide +kernel) ⟨Nat.le_of_ble_eq_true rfl, Nat.le_of_ble_eq_true rfl⟩, (hts _ kt_1290), (hts _ kt_1291)⟩ ⟨fun a U g mk q => ⟨q.1, PTm.calling q.2⟩, pg_recv hK hP hL_h0 hF_334 (q := (RX15, TX15, 59)) rfl, fun U hU hWm => ⟨rfl, PTm.mk hU hWm hP hK hD hE hO⟩⟩ rfl rfl hl.1 rfl (lv_room (Nat.le_of_ble_eq_true rfl)) dL_law_394 ⟨by show _ + 0 ≤ 600000; omega, by show _ + 0 ≤ 7302250; omega⟩) hS (fun q _ h => hFc q h) hFc (fun r_339 u t H1 locs ht hvm hw hB hz1 hk1 hS => ?_)
      obtain ⟨F2, hB1⟩ := hB
      obtain ⟨hP, hD, hO, hR⟩ := QTm.back hB1 ht hFc FR.refl (fun q h => h)
      have hC := hC.kept hBq hk1
      have hM : PMs (dC, dI) cs A Bq h0 zt H1 := ⟨L, F2, ty, gm, ρ, ta, ou, so, ad, na, va, lc, dm, tg, pe, ml, bg, co, sp, nb0, nb1, nb2, pl, se, ke, wi, hs, mo, po, nu, pr, sq, xa, sa, n64, m64, ex, wh, sd, tk, hd, ak, ho, ot, sx, s0, s1, s2, nf, bd, mm, ⟨hP, hD, hO, hW⟩, hL_h0, hT_h0, hn01, hn02, hn12, hU26, hU15, hBq⟩
      generalize H1 = H at hC hM hS ⊢
      refine lv_pop hx hb dL_law_397 rfl ?_
      refine lv_goto (tgt := 522) hx hb dL_law_398 (by decide) ?_
      refine W.widen (k := cc + 1) (n := ss + 5) (by omega) (by omega) ?_
      exact kk zt _ _ _ (by omega) hC hM hS hl
  ·
    refine lv_iconst (v := 1) hx hb dL_law_371 (by decide) ?_
    refine lv_goto (tgt := 376) hx hb dL_law_372 (by decide) ?_
    obtain ⟨L, F, ty, ρ, ta, ou, di, ea, ck, sl, po, hs, ⟨hP, hD, hO, hW⟩, hL_xq, hT_xq, hTS, hBq⟩ := hC
    have hG := hGc
    obtain ⟨hi_340, ⟨r_341, ht_342⟩, hi_343, ⟨r_344, ht_345⟩, hi_346, ht_347, hi_348, ⟨w0_349, w1_350, w2_351, w3_352, nm_353, te_354, ht_355⟩, hi_356, ⟨l1_357, lx_358, ly0_359, ly1_360, ly2_361, k1_362, kx_363, ky0_364, ky1_365, ky2_366, w0_367, w1_368, w2_369, w3_370, w4_371, w5_372, w6_373, w7_374, w8_375, tk_376, h1_377, hx_378, hy_379, hw_380, pw_381, px_382, py_383, pz_384, pu_385, ht_386⟩, hi_387, ⟨w0_388, w1_389, rc_390, rx_391, ry0_392, ry1_393, ry2_394, ht_395⟩, hi_396, ⟨hx_397, hy_398, hw_399, ht_400⟩⟩ := hW.gate hL_xq hT_xq
    obtain ⟨le_401, sp_402, hF_403, hq_404, hq_405, hq_406, hq_407⟩ := hO.gate hL_xq hT_xq
    obtain ⟨x_408, y0_409, y1_410, y2_411, ht_412⟩ := id hq_405
    obtain ⟨x_413, y0_414, y1_415, y2_416, ht_417⟩ := id hq_407
    have hFc := pg_free hD hS hA
    refine va_calli (va_runV (As := [.int 1]) (rest := []) ⟨hx, hb, hml, hown, hts⟩ (s_X11_plainBody l dC dI cs ty L H.size F xq ρ ta ou di ea ck sl po hs zt 1 hW hL_xq hT_xq hTS) ⟨callB_of 1 hts (gi kt_1284) rfl rfl rfl (hts _ kt_661) (hts _ kt_1285) (by decide +kernel) ⟨Nat.le_of_ble_eq_true rfl, Nat.le_of_ble_eq_true rfl⟩, (hts _ kt_1286), (hts _ kt_1287)⟩ ⟨fun a U g mk q => ⟨q.1, PT.calling q.2⟩, pg_recv hK hP hL_xq hF_403 (q := (RX11, TX11, 9)) rfl, fun U hU hWm => ⟨rfl, PT.mk hU hWm hP hK hD hE hO⟩⟩ rfl rfl hl.1 rfl (lv_room (Nat.le_of_ble_eq_true rfl)) dL_law_376 ⟨by show _ + 0 ≤ 600000; omega, by show _ + 0 ≤ 7302250; omega⟩) hS (fun q _ h => hFc q h) hFc (fun r_418 u t H1 locs ht hvm hw hB hz1 hk1 hS => ?_)
    obtain ⟨F2, hB1, hTS2⟩ := hB
    obtain ⟨hP, hD, hO, hR⟩ := QT.back hB1 ht hFc FR.refl (fun q h => h)
    have hM := hM.kept hBq hk1
    have hC : PCs (dC, dI) cs A Bq xq zt H1 := ⟨L, F2, ty, ρ, ta, ou, di, ea, ck, sl, po, hs, ⟨hP, hD, hO, hW⟩, hL_xq, hT_xq, hTS2, hBq⟩
    generalize H1 = H at hC hM hS ⊢
    refine lv_pop hx hb dL_law_379 rfl ?_
    refine lv_aload_n hx hb dL_law_380 rfl (lv_at hl 1 rfl) ?_
    refine lv_aload_n hx hb dL_law_381 rfl (lv_at hl 3 rfl) ?_
    refine lv_iload_n hx hb dL_law_382 rfl (lv_at hl 0 rfl) ?_
    refine lv_iconst (v := 1) hx hb dL_law_383 (by decide) ?_
    refine lv_iadd hx hb dL_law_384 ?_
    refine lv_topi (fun x_419 ex_419 => ?_)
    obtain rfl : x_419 = (nI (i + 1)) := ex_419.trans (nI_add i 1)
    refine va_sld hx hb hX hbl hbA hS (vp_in_nI (by omega) (by omega)) dL_law_385 ?_
    refine lv_topi (fun x_420 ex_420 => ?_)
    obtain rfl : x_420 = (xs (i + 1)) := ex_420.trans (congrArg xs (nI_clamp (by omega)))
    refine lv_if_eq (tgt := 393) hx hb dL_law_386 (by decide) (fun c_421 => ?_) (fun c_421 => ?_)
    ·
      refine lv_iconst (v := 0) hx hb dL_law_393 (by decide) ?_
      obtain ⟨L, F, ty, gm, ρ, ta, ou, so, ad, na, va, lc, dm, tg, pe, ml, bg, co, sp, nb0, nb1, nb2, pl, se, ke, wi, hs, mo, po, nu, pr, sq, xa, sa, n64, m64, ex, wh, sd, tk, hd, ak, ho, ot, sx, s0, s1, s2, nf, bd, mm, ⟨hP, hD, hO, hW⟩, hL_h0, hT_h0, hn01, hn02, hn12, hU26, hU15, hBq⟩ := hM
      have hG := hGm
      obtain ⟨hi_422, ht_423, hi_424, ht_425, hi_426, ht_427, hi_428, ht_429, hi_430, ht_431, hi_432, ht_433, hi_434, ⟨r_435, ht_436⟩, hi_437, ⟨r_438, ht_439⟩, hi_440, ht_441, hi_442, ⟨r_443, ht_444⟩, hi_445, ht_446, hi_447, ht_448, hi_449, ht_450, hi_451, ht_452, hi_453, ht_454, hi_455, ht_456, hi_457, ht_458, hi_459, ⟨r_460, ht_461⟩, hi_462, ht_463, hi_464, ⟨x_465, y0_466, y1_467, y2_468, ht_469⟩, hi_470, ⟨x_471, y0_472, y1_473, y2_474, ht_475⟩, hi_476, ⟨x_477, y_478, w_479, u_480, bl_481, ht_482⟩, hi_483, ht_484, hi_485, ht_486, hi_487, ht_488, hi_489, ht_490, hi_491, ht_492, hi_493, ht_494, hi_495, ht_496, hi_497, ht_498, hi_499, ht_500, hi_501, ht_502, hi_503, ⟨r_504, ht_505⟩, hi_506, ⟨r_507, ht_508⟩, hi_509, ht_510, hi_511, ht_512, hi_513, ⟨r_514, ht_515⟩, hi_516, ⟨r_517, ht_518⟩, hi_519, ⟨r_520, ht_521⟩, hq_522, hq_523, hq_524, hq_525, hq_526, hgO, hgA, hgB⟩ := hW.mod hL_h0 hT_h0
      obtain ⟨zo_527, ze_528, v11_529, v12_530, v14_531, v15_532, v17_533, v18_534, v19_535, v20_536, v21_537, v22_538, v33_539, v52_540, v53_541, v54_542, hF_543, hq_544, hq_545, hq_546, hq_547⟩ := hO.mod hL_h0 hT_h0
      have hFc := pg_free hD hS hA
      refine va_calli (va_runV (As := [.int 0]) (rest := []) ⟨hx, hb, hml, hown, hts⟩ (s_X15_plainBody l dC dI cs ty gm L H.size F h0 ρ ta ou so ad na va lc dm tg pe ml bg co sp nb0 nb1 nb2 pl se ke wi hs mo po nu pr sq xa sa n64 m64 ex wh sd tk hd ak ho ot sx s0 s1 s2 nf bd mm zt r_460 0 hW hL_h0 hT_h0 hi_459 ht_461) ⟨callB_of 1 hts (gi kt_1288) rfl rfl rfl (hts _ kt_669) (hts _ kt_1289) (by decide +kernel) ⟨Nat.le_of_ble_eq_true rfl, Nat.le_of_ble_eq_true rfl⟩, (hts _ kt_1290), (hts _ kt_1291)⟩ ⟨fun a U g mk q => ⟨q.1, PTm.calling q.2⟩, pg_recv hK hP hL_h0 hF_543 (q := (RX15, TX15, 59)) rfl, fun U hU hWm => ⟨rfl, PTm.mk hU hWm hP hK hD hE hO⟩⟩ rfl rfl hl.1 rfl (lv_room (Nat.le_of_ble_eq_true rfl)) dL_law_394 ⟨by show _ + 0 ≤ 600000; omega, by show _ + 0 ≤ 7302250; omega⟩) hS (fun q _ h => hFc q h) hFc (fun r_548 u t H1 locs ht hvm hw hB hz1 hk1 hS => ?_)
      obtain ⟨F2, hB1⟩ := hB
      obtain ⟨hP, hD, hO, hR⟩ := QTm.back hB1 ht hFc FR.refl (fun q h => h)
      have hC := hC.kept hBq hk1
      have hM : PMs (dC, dI) cs A Bq h0 zt H1 := ⟨L, F2, ty, gm, ρ, ta, ou, so, ad, na, va, lc, dm, tg, pe, ml, bg, co, sp, nb0, nb1, nb2, pl, se, ke, wi, hs, mo, po, nu, pr, sq, xa, sa, n64, m64, ex, wh, sd, tk, hd, ak, ho, ot, sx, s0, s1, s2, nf, bd, mm, ⟨hP, hD, hO, hW⟩, hL_h0, hT_h0, hn01, hn02, hn12, hU26, hU15, hBq⟩
      generalize H1 = H at hC hM hS ⊢
      refine lv_pop hx hb dL_law_397 rfl ?_
      refine lv_goto (tgt := 522) hx hb dL_law_398 (by decide) ?_
      refine W.widen (k := cc + 1) (n := ss + 5) (by omega) (by omega) ?_
      exact kk zt _ _ _ (by omega) hC hM hS hl
    ·
      refine lv_iconst (v := 1) hx hb dL_law_389 (by decide) ?_
      refine lv_goto (tgt := 394) hx hb dL_law_390 (by decide) ?_
      obtain ⟨L, F, ty, gm, ρ, ta, ou, so, ad, na, va, lc, dm, tg, pe, ml, bg, co, sp, nb0, nb1, nb2, pl, se, ke, wi, hs, mo, po, nu, pr, sq, xa, sa, n64, m64, ex, wh, sd, tk, hd, ak, ho, ot, sx, s0, s1, s2, nf, bd, mm, ⟨hP, hD, hO, hW⟩, hL_h0, hT_h0, hn01, hn02, hn12, hU26, hU15, hBq⟩ := hM
      have hG := hGm
      obtain ⟨hi_549, ht_550, hi_551, ht_552, hi_553, ht_554, hi_555, ht_556, hi_557, ht_558, hi_559, ht_560, hi_561, ⟨r_562, ht_563⟩, hi_564, ⟨r_565, ht_566⟩, hi_567, ht_568, hi_569, ⟨r_570, ht_571⟩, hi_572, ht_573, hi_574, ht_575, hi_576, ht_577, hi_578, ht_579, hi_580, ht_581, hi_582, ht_583, hi_584, ht_585, hi_586, ⟨r_587, ht_588⟩, hi_589, ht_590, hi_591, ⟨x_592, y0_593, y1_594, y2_595, ht_596⟩, hi_597, ⟨x_598, y0_599, y1_600, y2_601, ht_602⟩, hi_603, ⟨x_604, y_605, w_606, u_607, bl_608, ht_609⟩, hi_610, ht_611, hi_612, ht_613, hi_614, ht_615, hi_616, ht_617, hi_618, ht_619, hi_620, ht_621, hi_622, ht_623, hi_624, ht_625, hi_626, ht_627, hi_628, ht_629, hi_630, ⟨r_631, ht_632⟩, hi_633, ⟨r_634, ht_635⟩, hi_636, ht_637, hi_638, ht_639, hi_640, ⟨r_641, ht_642⟩, hi_643, ⟨r_644, ht_645⟩, hi_646, ⟨r_647, ht_648⟩, hq_649, hq_650, hq_651, hq_652, hq_653, hgO, hgA, hgB⟩ := hW.mod hL_h0 hT_h0
      obtain ⟨zo_654, ze_655, v11_656, v12_657, v14_658, v15_659, v17_660, v18_661, v19_662, v20_663, v21_664, v22_665, v33_666, v52_667, v53_668, v54_669, hF_670, hq_671, hq_672, hq_673, hq_674⟩ := hO.mod hL_h0 hT_h0
      have hFc := pg_free hD hS hA
      refine va_calli (va_runV (As := [.int 1]) (rest := []) ⟨hx, hb, hml, hown, hts⟩ (s_X15_plainBody l dC dI cs ty gm L H.size F h0 ρ ta ou so ad na va lc dm tg pe ml bg co sp nb0 nb1 nb2 pl se ke wi hs mo po nu pr sq xa sa n64 m64 ex wh sd tk hd ak ho ot sx s0 s1 s2 nf bd mm zt r_587 1 hW hL_h0 hT_h0 hi_586 ht_588) ⟨callB_of 1 hts (gi kt_1288) rfl rfl rfl (hts _ kt_669) (hts _ kt_1289) (by decide +kernel) ⟨Nat.le_of_ble_eq_true rfl, Nat.le_of_ble_eq_true rfl⟩, (hts _ kt_1290), (hts _ kt_1291)⟩ ⟨fun a U g mk q => ⟨q.1, PTm.calling q.2⟩, pg_recv hK hP hL_h0 hF_670 (q := (RX15, TX15, 59)) rfl, fun U hU hWm => ⟨rfl, PTm.mk hU hWm hP hK hD hE hO⟩⟩ rfl rfl hl.1 rfl (lv_room (Nat.le_of_ble_eq_true rfl)) dL_law_394 ⟨by show _ + 0 ≤ 600000; omega, by show _ + 0 ≤ 7302250; omega⟩) hS (fun q _ h => hFc q h) hFc (fun r_675 u t H1 locs ht hvm hw hB hz1 hk1 hS => ?_)
      obtain ⟨F2, hB1⟩ := hB
      obtain ⟨hP, hD, hO, hR⟩ := QTm.back hB1 ht hFc FR.refl (fun q h => h)
      have hC := hC.kept hBq hk1
      have hM : PMs (dC, dI) cs A Bq h0 zt H1 := ⟨L, F2, ty, gm, ρ, ta, ou, so, ad, na, va, lc, dm, tg, pe, ml, bg, co, sp, nb0, nb1, nb2, pl, se, ke, wi, hs, mo, po, nu, pr, sq, xa, sa, n64, m64, ex, wh, sd, tk, hd, ak, ho, ot, sx, s0, s1, s2, nf, bd, mm, ⟨hP, hD, hO, hW⟩, hL_h0, hT_h0, hn01, hn02, hn12, hU26, hU15, hBq⟩
      generalize H1 = H at hC hM hS ⊢
      refine lv_pop hx hb dL_law_397 rfl ?_
      refine lv_goto (tgt := 522) hx hb dL_law_398 (by decide) ?_
      refine W.widen (k := cc + 1) (n := ss + 5) (by omega) (by omega) ?_
      exact kk zt _ _ _ (by omega) hC hM hS hl
set_option maxHeartbeats 4000000 in
set_option maxRecDepth 100000 in
theorem law_11 {p : Program} {l : Launch} {e : Env} {s : State} {m : MethodId} {below : List Frame} {meth : Method} {c : Code} {A Bq : Nat → Prop} {dC : Nat → ClassId} {dI : Nat → Nat → Nat} {cs : Nat → ClassId} {b Ln : Nat} {xs : Nat → Int32} (C0 : LC p s m meth c A dC dI cs b Ln xs) {xq h0 i zt cc ss : Nat} (hi : i + 6 ≤ Ln) (hLn : Ln ≤ 384) (hnz : zt ≤ 1280) (hcc : cc + 1 ≤ 600000) (hss : ss + 5 ≤ 7302250) {H : Heap} {locs : List Loc} {ls : Array Slot} (hC : PCs (dC, dI) cs A Bq xq zt H) (hM : PMs (dC, dI) cs A Bq h0 zt H) (hS : va_S A s.heap H locs) (hl : lv_has ls 4 [(3, .int (nI i)), (2, .ref h0), (1, .ref xq), (0, .ref b)]) (kk : ∀ (z2 : Nat) (H : Heap) (locs : List Loc) (ls : Array Slot), z2 ≤ zt + 20 → PCs (dC, dI) cs A Bq xq z2 H → PMs (dC, dI) cs A Bq h0 z2 H → va_S A s.heap H locs → lv_has ls 4 [(3, .int (nI i)), (2, .ref h0), (1, .ref xq), (0, .ref b)] → W p l e room_1 s m #[Value.ref b] below meth c H locs (cc + 1) (ss + 5) (lw_Z below #[Value.ref b] s) (F0 m 522 ls [])) : W p l e room_1 s m #[Value.ref b] below meth c H locs cc ss (lw_Z below #[Value.ref b] s) (F0 m 401 ls []) := by
  obtain ⟨hx, hb, hr, hml, hown, hts, hX, hbl, hbA, hlocks, hE, hGc, hGm, hK, hA, hAs⟩ := id C0
  refine lv_aload_n hx hb dL_law_401 rfl (lv_at hl 2 rfl) ?_
  refine lv_aload_n hx hb dL_law_402 rfl (lv_at hl 3 rfl) ?_
  refine lv_iload_n hx hb dL_law_403 rfl (lv_at hl 0 rfl) ?_
  refine lv_iconst (v := 1) hx hb dL_law_404 (by decide) ?_
  refine lv_iadd hx hb dL_law_405 ?_
  refine lv_topi (fun x_1 ex_1 => ?_)
  obtain rfl : x_1 = (nI (i + 1)) := ex_1.trans (nI_add i 1)
  refine va_sld hx hb hX hbl hbA hS (vp_in_nI (by omega) (by omega)) dL_law_406 ?_
  refine lv_topi (fun x_2 ex_2 => ?_)
  obtain rfl : x_2 = (xs (i + 1)) := ex_2.trans (congrArg xs (nI_clamp (by omega)))
  refine lv_aload_n hx hb dL_law_407 rfl (lv_at hl 3 rfl) ?_
  refine lv_iload_n hx hb dL_law_408 rfl (lv_at hl 0 rfl) ?_
  refine lv_iconst (v := 2) hx hb dL_law_409 (by decide) ?_
  refine lv_iadd hx hb dL_law_410 ?_
  refine lv_topi (fun x_3 ex_3 => ?_)
  obtain rfl : x_3 = (nI (i + 2)) := ex_3.trans (nI_add i 2)
  refine va_sld hx hb hX hbl hbA hS (vp_in_nI (by omega) (by omega)) dL_law_411 ?_
  refine lv_topi (fun x_4 ex_4 => ?_)
  obtain rfl : x_4 = (xs (i + 2)) := ex_4.trans (congrArg xs (nI_clamp (by omega)))
  refine lv_if_eq (tgt := 419) hx hb dL_law_412 (by decide) (fun c_5 => ?_) (fun c_5 => ?_)
  ·
    refine lv_iconst (v := 0) hx hb dL_law_419 (by decide) ?_
    obtain ⟨L, F, ty, ρ, ta, ou, di, ea, ck, sl, po, hs, ⟨hP, hD, hO, hW⟩, hL_xq, hT_xq, hTS, hBq⟩ := hC
    have hG := hGc
    obtain ⟨hi_6, ⟨r_7, ht_8⟩, hi_9, ⟨r_10, ht_11⟩, hi_12, ht_13, hi_14, ⟨w0_15, w1_16, w2_17, w3_18, nm_19, te_20, ht_21⟩, hi_22, ⟨l1_23, lx_24, ly0_25, ly1_26, ly2_27, k1_28, kx_29, ky0_30, ky1_31, ky2_32, w0_33, w1_34, w2_35, w3_36, w4_37, w5_38, w6_39, w7_40, w8_41, tk_42, h1_43, hx_44, hy_45, hw_46, pw_47, px_48, py_49, pz_50, pu_51, ht_52⟩, hi_53, ⟨w0_54, w1_55, rc_56, rx_57, ry0_58, ry1_59, ry2_60, ht_61⟩, hi_62, ⟨hx_63, hy_64, hw_65, ht_66⟩⟩ := hW.gate hL_xq hT_xq
    obtain ⟨le_67, sp_68, hF_69, hq_70, hq_71, hq_72, hq_73⟩ := hO.gate hL_xq hT_xq
    obtain ⟨x_74, y0_75, y1_76, y2_77, ht_78⟩ := id hq_71
    obtain ⟨x_79, y0_80, y1_81, y2_82, ht_83⟩ := id hq_73
    have hFc := pg_free hD hS hA
    refine va_calli (va_runV (As := [.int (xs (i + 1)), .int 0]) (rest := []) ⟨hx, hb, hml, hown, hts⟩ (s_X11_plainField l dC dI cs ty L H.size F xq ρ ta ou di ea ck sl po hs zt (xs (i + 1)) 0 hW hL_xq hT_xq hTS) ⟨callB_of 2 hts (gi kt_1292) rfl rfl rfl (hts _ kt_661) (hts _ kt_1293) (by decide +kernel) ⟨Nat.le_of_ble_eq_true rfl, Nat.le_of_ble_eq_true rfl⟩, (hts _ kt_1294), (hts _ kt_1295)⟩ ⟨fun a U g mk q => ⟨q.1, PT.calling q.2⟩, pg_recv hK hP hL_xq hF_69 (q := (RX11, TX11, 9)) rfl, fun U hU hWm => ⟨rfl, PT.mk hU hWm hP hK hD hE hO⟩⟩ rfl rfl hl.1 rfl (lv_room (Nat.le_of_ble_eq_true rfl)) dL_law_420 ⟨by show _ + 0 ≤ 600000; omega, by show _ + 0 ≤ 7302250; omega⟩) hS (fun q _ h => hFc q h) hFc (fun r_84 u t H1 locs ht hvm hw hB hz1 hk1 hS => ?_)
    obtain ⟨F2, hB1, hTS2⟩ := hB
    obtain ⟨hP, hD, hO, hR⟩ := QT.back hB1 ht hFc FR.refl (fun q h => h)
    have hM := hM.kept hBq hk1
    have hC : PCs (dC, dI) cs A Bq xq zt H1 := ⟨L, F2, ty, ρ, ta, ou, di, ea, ck, sl, po, hs, ⟨hP, hD, hO, hW⟩, hL_xq, hT_xq, hTS2, hBq⟩
    generalize H1 = H at hC hM hS ⊢
    refine lv_pop hx hb dL_law_423 rfl ?_
    refine lv_aload_n hx hb dL_law_424 rfl (lv_at hl 1 rfl) ?_
    refine lv_aload_n hx hb dL_law_425 rfl (lv_at hl 3 rfl) ?_
    refine lv_iload_n hx hb dL_law_426 rfl (lv_at hl 0 rfl) ?_
    refine lv_iconst (v := 1) hx hb dL_law_427 (by decide) ?_
    refine lv_iadd hx hb dL_law_428 ?_
    refine lv_topi (fun x_85 ex_85 => ?_)
    obtain rfl : x_85 = (nI (i + 1)) := ex_85.trans (nI_add i 1)
    refine va_sld hx hb hX hbl hbA hS (vp_in_nI (by omega) (by omega)) dL_law_429 ?_
    refine lv_topi (fun x_86 ex_86 => ?_)
    obtain rfl : x_86 = (xs (i + 1)) := ex_86.trans (congrArg xs (nI_clamp (by omega)))
    refine lv_aload_n hx hb dL_law_430 rfl (lv_at hl 3 rfl) ?_
    refine lv_iload_n hx hb dL_law_431 rfl (lv_at hl 0 rfl) ?_
    refine lv_iconst (v := 2) hx hb dL_law_432 (by decide) ?_
    refine lv_iadd hx hb dL_law_433 ?_
    refine lv_topi (fun x_87 ex_87 => ?_)
    obtain rfl : x_87 = (nI (i + 2)) := ex_87.trans (nI_add i 2)
    refine va_sld hx hb hX hbl hbA hS (vp_in_nI (by omega) (by omega)) dL_law_434 ?_
    refine lv_topi (fun x_88 ex_88 => ?_)
    obtain rfl : x_88 = (xs (i + 2)) := ex_88.trans (congrArg xs (nI_clamp (by omega)))
    refine lv_if_eq (tgt := 442) hx hb dL_law_435 (by decide) (fun c_89 => ?_) (fun c_89 => ?_)
    ·
      refine lv_iconst (v := 0) hx hb dL_law_442 (by decide) ?_
      obtain ⟨L, F, ty, gm, ρ, ta, ou, so, ad, na, va, lc, dm, tg, pe, ml, bg, co, sp, nb0, nb1, nb2, pl, se, ke, wi, hs, mo, po, nu, pr, sq, xa, sa, n64, m64, ex, wh, sd, tk, hd, ak, ho, ot, sx, s0, s1, s2, nf, bd, mm, ⟨hP, hD, hO, hW⟩, hL_h0, hT_h0, hn01, hn02, hn12, hU26, hU15, hBq⟩ := hM
      have hG := hGm
      obtain ⟨hi_90, ht_91, hi_92, ht_93, hi_94, ht_95, hi_96, ht_97, hi_98, ht_99, hi_100, ht_101, hi_102, ⟨r_103, ht_104⟩, hi_105, ⟨r_106, ht_107⟩, hi_108, ht_109, hi_110, ⟨r_111, ht_112⟩, hi_113, ht_114, hi_115, ht_116, hi_117, ht_118, hi_119, ht_120, hi_121, ht_122, hi_123, ht_124, hi_125, ht_126, hi_127, ⟨r_128, ht_129⟩, hi_130, ht_131, hi_132, ⟨x_133, y0_134, y1_135, y2_136, ht_137⟩, hi_138, ⟨x_139, y0_140, y1_141, y2_142, ht_143⟩, hi_144, ⟨x_145, y_146, w_147, u_148, bl_149, ht_150⟩, hi_151, ht_152, hi_153, ht_154, hi_155, ht_156, hi_157, ht_158, hi_159, ht_160, hi_161, ht_162, hi_163, ht_164, hi_165, ht_166, hi_167, ht_168, hi_169, ht_170, hi_171, ⟨r_172, ht_173⟩, hi_174, ⟨r_175, ht_176⟩, hi_177, ht_178, hi_179, ht_180, hi_181, ⟨r_182, ht_183⟩, hi_184, ⟨r_185, ht_186⟩, hi_187, ⟨r_188, ht_189⟩, hq_190, hq_191, hq_192, hq_193, hq_194, hgO, hgA, hgB⟩ := hW.mod hL_h0 hT_h0
      obtain ⟨zo_195, ze_196, v11_197, v12_198, v14_199, v15_200, v17_201, v18_202, v19_203, v20_204, v21_205, v22_206, v33_207, v52_208, v53_209, v54_210, hF_211, hq_212, hq_213, hq_214, hq_215⟩ := hO.mod hL_h0 hT_h0
      have hFc := pg_free hD hS hA
      refine va_calli (va_runV (As := [.int (xs (i + 1)), .int 0]) (rest := []) ⟨hx, hb, hml, hown, hts⟩ (s_X15_plainField l dC dI cs ty gm L H.size F h0 ρ ta ou so ad na va lc dm tg pe ml bg co sp nb0 nb1 nb2 pl se ke wi hs mo po nu pr sq xa sa n64 m64 ex wh sd tk hd ak ho ot sx s0 s1 s2 nf bd mm zt r_128 (xs (i + 1)) 0 hW hL_h0 hT_h0 hi_127 ht_129) ⟨callB_of 2 hts (gi kt_1296) rfl rfl rfl (hts _ kt_669) (hts _ kt_1297) (by decide +kernel) ⟨Nat.le_of_ble_eq_true rfl, Nat.le_of_ble_eq_true rfl⟩, (hts _ kt_1298), (hts _ kt_1299)⟩ ⟨fun a U g mk q => ⟨q.1, PTm.calling q.2⟩, pg_recv hK hP hL_h0 hF_211 (q := (RX15, TX15, 59)) rfl, fun U hU hWm => ⟨rfl, PTm.mk hU hWm hP hK hD hE hO⟩⟩ rfl rfl hl.1 rfl (lv_room (Nat.le_of_ble_eq_true rfl)) dL_law_443 ⟨by show _ + 0 ≤ 600000; omega, by show _ + 0 ≤ 7302250; omega⟩) hS (fun q _ h => hFc q h) hFc (fun r_216 u t H1 locs ht hvm hw hB hz1 hk1 hS => ?_)
      obtain ⟨F2, hB1⟩ := hB
      obtain ⟨hP, hD, hO, hR⟩ := QTm.back hB1 ht hFc FR.refl (fun q h => h)
      have hC := hC.kept hBq hk1
      have hM : PMs (dC, dI) cs A Bq h0 zt H1 := ⟨L, F2, ty, gm, ρ, ta, ou, so, ad, na, va, lc, dm, tg, pe, ml, bg, co, sp, nb0, nb1, nb2, pl, se, ke, wi, hs, mo, po, nu, pr, sq, xa, sa, n64, m64, ex, wh, sd, tk, hd, ak, ho, ot, sx, s0, s1, s2, nf, bd, mm, ⟨hP, hD, hO, hW⟩, hL_h0, hT_h0, hn01, hn02, hn12, hU26, hU15, hBq⟩
      generalize H1 = H at hC hM hS ⊢
      refine lv_pop hx hb dL_law_446 rfl ?_
      refine lv_goto (tgt := 522) hx hb dL_law_447 (by decide) ?_
      refine W.widen (k := cc + 1) (n := ss + 5) (by omega) (by omega) ?_
      exact kk zt _ _ _ (by omega) hC hM hS hl
    ·
      refine lv_iconst (v := 1) hx hb dL_law_438 (by decide) ?_
      refine lv_goto (tgt := 443) hx hb dL_law_439 (by decide) ?_
      obtain ⟨L, F, ty, gm, ρ, ta, ou, so, ad, na, va, lc, dm, tg, pe, ml, bg, co, sp, nb0, nb1, nb2, pl, se, ke, wi, hs, mo, po, nu, pr, sq, xa, sa, n64, m64, ex, wh, sd, tk, hd, ak, ho, ot, sx, s0, s1, s2, nf, bd, mm, ⟨hP, hD, hO, hW⟩, hL_h0, hT_h0, hn01, hn02, hn12, hU26, hU15, hBq⟩ := hM
      have hG := hGm
      obtain ⟨hi_217, ht_218, hi_219, ht_220, hi_221, ht_222, hi_223, ht_224, hi_225, ht_226, hi_227, ht_228, hi_229, ⟨r_230, ht_231⟩, hi_232, ⟨r_233, ht_234⟩, hi_235, ht_236, hi_237, ⟨r_238, ht_239⟩, hi_240, ht_241, hi_242, ht_243, hi_244, ht_245, hi_246, ht_247, hi_248, ht_249, hi_250, ht_251, hi_252, ht_253, hi_254, ⟨r_255, ht_256⟩, hi_257, ht_258, hi_259, ⟨x_260, y0_261, y1_262, y2_263, ht_264⟩, hi_265, ⟨x_266, y0_267, y1_268, y2_269, ht_270⟩, hi_271, ⟨x_272, y_273, w_274, u_275, bl_276, ht_277⟩, hi_278, ht_279, hi_280, ht_281, hi_282, ht_283, hi_284, ht_285, hi_286, ht_287, hi_288, ht_289, hi_290, ht_291, hi_292, ht_293, hi_294, ht_295, hi_296, ht_297, hi_298, ⟨r_299, ht_300⟩, hi_301, ⟨r_302, ht_303⟩, hi_304, ht_305, hi_306, ht_307, hi_308, ⟨r_309, ht_310⟩, hi_311, ⟨r_312, ht_313⟩, hi_314, ⟨r_315, ht_316⟩, hq_317, hq_318, hq_319, hq_320, hq_321, hgO, hgA, hgB⟩ := hW.mod hL_h0 hT_h0
      obtain ⟨zo_322, ze_323, v11_324, v12_325, v14_326, v15_327, v17_328, v18_329, v19_330, v20_331, v21_332, v22_333, v33_334, v52_335, v53_336, v54_337, hF_338, hq_339, hq_340, hq_341, hq_342⟩ := hO.mod hL_h0 hT_h0
      have hFc := pg_free hD hS hA
      refine va_calli (va_runV (As := [.int (xs (i + 1)), .int 1]) (rest := []) ⟨hx, hb, hml, hown, hts⟩ (s_X15_plainField l dC dI cs ty gm L H.size F h0 ρ ta ou so ad na va lc dm tg pe ml bg co sp nb0 nb1 nb2 pl se ke wi hs mo po nu pr sq xa sa n64 m64 ex wh sd tk hd ak ho ot sx s0 s1 s2 nf bd mm zt r_255 (xs (i + 1)) 1 hW hL_h0 hT_h0 hi_254 ht_256) ⟨callB_of 2 hts (gi kt_1296) rfl rfl rfl (hts _ kt_669) (hts _ kt_1297) (by decide +kernel) ⟨Nat.le_of_ble_eq_true rfl, Nat.le_of_ble_eq_true rfl⟩, (hts _ kt_1298), (hts _ kt_1299)⟩ ⟨fun a U g mk q => ⟨q.1, PTm.calling q.2⟩, pg_recv hK hP hL_h0 hF_338 (q := (RX15, TX15, 59)) rfl, fun U hU hWm => ⟨rfl, PTm.mk hU hWm hP hK hD hE hO⟩⟩ rfl rfl hl.1 rfl (lv_room (Nat.le_of_ble_eq_true rfl)) dL_law_443 ⟨by show _ + 0 ≤ 600000; omega, by show _ + 0 ≤ 7302250; omega⟩) hS (fun q _ h => hFc q h) hFc (fun r_343 u t H1 locs ht hvm hw hB hz1 hk1 hS => ?_)
      obtain ⟨F2, hB1⟩ := hB
      obtain ⟨hP, hD, hO, hR⟩ := QTm.back hB1 ht hFc FR.refl (fun q h => h)
      have hC := hC.kept hBq hk1
      have hM : PMs (dC, dI) cs A Bq h0 zt H1 := ⟨L, F2, ty, gm, ρ, ta, ou, so, ad, na, va, lc, dm, tg, pe, ml, bg, co, sp, nb0, nb1, nb2, pl, se, ke, wi, hs, mo, po, nu, pr, sq, xa, sa, n64, m64, ex, wh, sd, tk, hd, ak, ho, ot, sx, s0, s1, s2, nf, bd, mm, ⟨hP, hD, hO, hW⟩, hL_h0, hT_h0, hn01, hn02, hn12, hU26, hU15, hBq⟩
      generalize H1 = H at hC hM hS ⊢
      refine lv_pop hx hb dL_law_446 rfl ?_
      refine lv_goto (tgt := 522) hx hb dL_law_447 (by decide) ?_
      refine W.widen (k := cc + 1) (n := ss + 5) (by omega) (by omega) ?_
      exact kk zt _ _ _ (by omega) hC hM hS hl
  ·
    refine lv_iconst (v := 1) hx hb dL_law_415 (by decide) ?_
    refine lv_goto (tgt := 420) hx hb dL_law_416 (by decide) ?_
    obtain ⟨L, F, ty, ρ, ta, ou, di, ea, ck, sl, po, hs, ⟨hP, hD, hO, hW⟩, hL_xq, hT_xq, hTS, hBq⟩ := hC
    have hG := hGc
    obtain ⟨hi_344, ⟨r_345, ht_346⟩, hi_347, ⟨r_348, ht_349⟩, hi_350, ht_351, hi_352, ⟨w0_353, w1_354, w2_355, w3_356, nm_357, te_358, ht_359⟩, hi_360, ⟨l1_361, lx_362, ly0_363, ly1_364, ly2_365, k1_366, kx_367, ky0_368, ky1_369, ky2_370, w0_371, w1_372, w2_373, w3_374, w4_375, w5_376, w6_377, w7_378, w8_379, tk_380, h1_381, hx_382, hy_383, hw_384, pw_385, px_386, py_387, pz_388, pu_389, ht_390⟩, hi_391, ⟨w0_392, w1_393, rc_394, rx_395, ry0_396, ry1_397, ry2_398, ht_399⟩, hi_400, ⟨hx_401, hy_402, hw_403, ht_404⟩⟩ := hW.gate hL_xq hT_xq
    obtain ⟨le_405, sp_406, hF_407, hq_408, hq_409, hq_410, hq_411⟩ := hO.gate hL_xq hT_xq
    obtain ⟨x_412, y0_413, y1_414, y2_415, ht_416⟩ := id hq_409
    obtain ⟨x_417, y0_418, y1_419, y2_420, ht_421⟩ := id hq_411
    have hFc := pg_free hD hS hA
    refine va_calli (va_runV (As := [.int (xs (i + 1)), .int 1]) (rest := []) ⟨hx, hb, hml, hown, hts⟩ (s_X11_plainField l dC dI cs ty L H.size F xq ρ ta ou di ea ck sl po hs zt (xs (i + 1)) 1 hW hL_xq hT_xq hTS) ⟨callB_of 2 hts (gi kt_1292) rfl rfl rfl (hts _ kt_661) (hts _ kt_1293) (by decide +kernel) ⟨Nat.le_of_ble_eq_true rfl, Nat.le_of_ble_eq_true rfl⟩, (hts _ kt_1294), (hts _ kt_1295)⟩ ⟨fun a U g mk q => ⟨q.1, PT.calling q.2⟩, pg_recv hK hP hL_xq hF_407 (q := (RX11, TX11, 9)) rfl, fun U hU hWm => ⟨rfl, PT.mk hU hWm hP hK hD hE hO⟩⟩ rfl rfl hl.1 rfl (lv_room (Nat.le_of_ble_eq_true rfl)) dL_law_420 ⟨by show _ + 0 ≤ 600000; omega, by show _ + 0 ≤ 7302250; omega⟩) hS (fun q _ h => hFc q h) hFc (fun r_422 u t H1 locs ht hvm hw hB hz1 hk1 hS => ?_)
    obtain ⟨F2, hB1, hTS2⟩ := hB
    obtain ⟨hP, hD, hO, hR⟩ := QT.back hB1 ht hFc FR.refl (fun q h => h)
    have hM := hM.kept hBq hk1
    have hC : PCs (dC, dI) cs A Bq xq zt H1 := ⟨L, F2, ty, ρ, ta, ou, di, ea, ck, sl, po, hs, ⟨hP, hD, hO, hW⟩, hL_xq, hT_xq, hTS2, hBq⟩
    generalize H1 = H at hC hM hS ⊢
    refine lv_pop hx hb dL_law_423 rfl ?_
    refine lv_aload_n hx hb dL_law_424 rfl (lv_at hl 1 rfl) ?_
    refine lv_aload_n hx hb dL_law_425 rfl (lv_at hl 3 rfl) ?_
    refine lv_iload_n hx hb dL_law_426 rfl (lv_at hl 0 rfl) ?_
    refine lv_iconst (v := 1) hx hb dL_law_427 (by decide) ?_
    refine lv_iadd hx hb dL_law_428 ?_
    refine lv_topi (fun x_423 ex_423 => ?_)
    obtain rfl : x_423 = (nI (i + 1)) := ex_423.trans (nI_add i 1)
    refine va_sld hx hb hX hbl hbA hS (vp_in_nI (by omega) (by omega)) dL_law_429 ?_
    refine lv_topi (fun x_424 ex_424 => ?_)
    obtain rfl : x_424 = (xs (i + 1)) := ex_424.trans (congrArg xs (nI_clamp (by omega)))
    refine lv_aload_n hx hb dL_law_430 rfl (lv_at hl 3 rfl) ?_
    refine lv_iload_n hx hb dL_law_431 rfl (lv_at hl 0 rfl) ?_
    refine lv_iconst (v := 2) hx hb dL_law_432 (by decide) ?_
    refine lv_iadd hx hb dL_law_433 ?_
    refine lv_topi (fun x_425 ex_425 => ?_)
    obtain rfl : x_425 = (nI (i + 2)) := ex_425.trans (nI_add i 2)
    refine va_sld hx hb hX hbl hbA hS (vp_in_nI (by omega) (by omega)) dL_law_434 ?_
    refine lv_topi (fun x_426 ex_426 => ?_)
    obtain rfl : x_426 = (xs (i + 2)) := ex_426.trans (congrArg xs (nI_clamp (by omega)))
    refine lv_if_eq (tgt := 442) hx hb dL_law_435 (by decide) (fun c_427 => ?_) (fun c_427 => ?_)
    ·
      refine lv_iconst (v := 0) hx hb dL_law_442 (by decide) ?_
      obtain ⟨L, F, ty, gm, ρ, ta, ou, so, ad, na, va, lc, dm, tg, pe, ml, bg, co, sp, nb0, nb1, nb2, pl, se, ke, wi, hs, mo, po, nu, pr, sq, xa, sa, n64, m64, ex, wh, sd, tk, hd, ak, ho, ot, sx, s0, s1, s2, nf, bd, mm, ⟨hP, hD, hO, hW⟩, hL_h0, hT_h0, hn01, hn02, hn12, hU26, hU15, hBq⟩ := hM
      have hG := hGm
      obtain ⟨hi_428, ht_429, hi_430, ht_431, hi_432, ht_433, hi_434, ht_435, hi_436, ht_437, hi_438, ht_439, hi_440, ⟨r_441, ht_442⟩, hi_443, ⟨r_444, ht_445⟩, hi_446, ht_447, hi_448, ⟨r_449, ht_450⟩, hi_451, ht_452, hi_453, ht_454, hi_455, ht_456, hi_457, ht_458, hi_459, ht_460, hi_461, ht_462, hi_463, ht_464, hi_465, ⟨r_466, ht_467⟩, hi_468, ht_469, hi_470, ⟨x_471, y0_472, y1_473, y2_474, ht_475⟩, hi_476, ⟨x_477, y0_478, y1_479, y2_480, ht_481⟩, hi_482, ⟨x_483, y_484, w_485, u_486, bl_487, ht_488⟩, hi_489, ht_490, hi_491, ht_492, hi_493, ht_494, hi_495, ht_496, hi_497, ht_498, hi_499, ht_500, hi_501, ht_502, hi_503, ht_504, hi_505, ht_506, hi_507, ht_508, hi_509, ⟨r_510, ht_511⟩, hi_512, ⟨r_513, ht_514⟩, hi_515, ht_516, hi_517, ht_518, hi_519, ⟨r_520, ht_521⟩, hi_522, ⟨r_523, ht_524⟩, hi_525, ⟨r_526, ht_527⟩, hq_528, hq_529, hq_530, hq_531, hq_532, hgO, hgA, hgB⟩ := hW.mod hL_h0 hT_h0
      obtain ⟨zo_533, ze_534, v11_535, v12_536, v14_537, v15_538, v17_539, v18_540, v19_541, v20_542, v21_543, v22_544, v33_545, v52_546, v53_547, v54_548, hF_549, hq_550, hq_551, hq_552, hq_553⟩ := hO.mod hL_h0 hT_h0
      have hFc := pg_free hD hS hA
      refine va_calli (va_runV (As := [.int (xs (i + 1)), .int 0]) (rest := []) ⟨hx, hb, hml, hown, hts⟩ (s_X15_plainField l dC dI cs ty gm L H.size F h0 ρ ta ou so ad na va lc dm tg pe ml bg co sp nb0 nb1 nb2 pl se ke wi hs mo po nu pr sq xa sa n64 m64 ex wh sd tk hd ak ho ot sx s0 s1 s2 nf bd mm zt r_466 (xs (i + 1)) 0 hW hL_h0 hT_h0 hi_465 ht_467) ⟨callB_of 2 hts (gi kt_1296) rfl rfl rfl (hts _ kt_669) (hts _ kt_1297) (by decide +kernel) ⟨Nat.le_of_ble_eq_true rfl, Nat.le_of_ble_eq_true rfl⟩, (hts _ kt_1298), (hts _ kt_1299)⟩ ⟨fun a U g mk q => ⟨q.1, PTm.calling q.2⟩, pg_recv hK hP hL_h0 hF_549 (q := (RX15, TX15, 59)) rfl, fun U hU hWm => ⟨rfl, PTm.mk hU hWm hP hK hD hE hO⟩⟩ rfl rfl hl.1 rfl (lv_room (Nat.le_of_ble_eq_true rfl)) dL_law_443 ⟨by show _ + 0 ≤ 600000; omega, by show _ + 0 ≤ 7302250; omega⟩) hS (fun q _ h => hFc q h) hFc (fun r_554 u t H1 locs ht hvm hw hB hz1 hk1 hS => ?_)
      obtain ⟨F2, hB1⟩ := hB
      obtain ⟨hP, hD, hO, hR⟩ := QTm.back hB1 ht hFc FR.refl (fun q h => h)
      have hC := hC.kept hBq hk1
      have hM : PMs (dC, dI) cs A Bq h0 zt H1 := ⟨L, F2, ty, gm, ρ, ta, ou, so, ad, na, va, lc, dm, tg, pe, ml, bg, co, sp, nb0, nb1, nb2, pl, se, ke, wi, hs, mo, po, nu, pr, sq, xa, sa, n64, m64, ex, wh, sd, tk, hd, ak, ho, ot, sx, s0, s1, s2, nf, bd, mm, ⟨hP, hD, hO, hW⟩, hL_h0, hT_h0, hn01, hn02, hn12, hU26, hU15, hBq⟩
      generalize H1 = H at hC hM hS ⊢
      refine lv_pop hx hb dL_law_446 rfl ?_
      refine lv_goto (tgt := 522) hx hb dL_law_447 (by decide) ?_
      refine W.widen (k := cc + 1) (n := ss + 5) (by omega) (by omega) ?_
      exact kk zt _ _ _ (by omega) hC hM hS hl
    ·
      refine lv_iconst (v := 1) hx hb dL_law_438 (by decide) ?_
      refine lv_goto (tgt := 443) hx hb dL_law_439 (by decide) ?_
      obtain ⟨L, F, ty, gm, ρ, ta, ou, so, ad, na, va, lc, dm, tg, pe, ml, bg, co, sp, nb0, nb1, nb2, pl, se, ke, wi, hs, mo, po, nu, pr, sq, xa, sa, n64, m64, ex, wh, sd, tk, hd, ak, ho, ot, sx, s0, s1, s2, nf, bd, mm, ⟨hP, hD, hO, hW⟩, hL_h0, hT_h0, hn01, hn02, hn12, hU26, hU15, hBq⟩ := hM
      have hG := hGm
      obtain ⟨hi_555, ht_556, hi_557, ht_558, hi_559, ht_560, hi_561, ht_562, hi_563, ht_564, hi_565, ht_566, hi_567, ⟨r_568, ht_569⟩, hi_570, ⟨r_571, ht_572⟩, hi_573, ht_574, hi_575, ⟨r_576, ht_577⟩, hi_578, ht_579, hi_580, ht_581, hi_582, ht_583, hi_584, ht_585, hi_586, ht_587, hi_588, ht_589, hi_590, ht_591, hi_592, ⟨r_593, ht_594⟩, hi_595, ht_596, hi_597, ⟨x_598, y0_599, y1_600, y2_601, ht_602⟩, hi_603, ⟨x_604, y0_605, y1_606, y2_607, ht_608⟩, hi_609, ⟨x_610, y_611, w_612, u_613, bl_614, ht_615⟩, hi_616, ht_617, hi_618, ht_619, hi_620, ht_621, hi_622, ht_623, hi_624, ht_625, hi_626, ht_627, hi_628, ht_629, hi_630, ht_631, hi_632, ht_633, hi_634, ht_635, hi_636, ⟨r_637, ht_638⟩, hi_639, ⟨r_640, ht_641⟩, hi_642, ht_643, hi_644, ht_645, hi_646, ⟨r_647, ht_648⟩, hi_649, ⟨r_650, ht_651⟩, hi_652, ⟨r_653, ht_654⟩, hq_655, hq_656, hq_657, hq_658, hq_659, hgO, hgA, hgB⟩ := hW.mod hL_h0 hT_h0
      obtain ⟨zo_660, ze_661, v11_662, v12_663, v14_664, v15_665, v17_666, v18_667, v19_668, v20_669, v21_670, v22_671, v33_672, v52_673, v53_674, v54_675, hF_676, hq_677, hq_678, hq_679, hq_680⟩ := hO.mod hL_h0 hT_h0
      have hFc := pg_free hD hS hA
      refine va_calli (va_runV (As := [.int (xs (i + 1)), .int 1]) (rest := []) ⟨hx, hb, hml, hown, hts⟩ (s_X15_plainField l dC dI cs ty gm L H.size F h0 ρ ta ou so ad na va lc dm tg pe ml bg co sp nb0 nb1 nb2 pl se ke wi hs mo po nu pr sq xa sa n64 m64 ex wh sd tk hd ak ho ot sx s0 s1 s2 nf bd mm zt r_593 (xs (i + 1)) 1 hW hL_h0 hT_h0 hi_592 ht_594) ⟨callB_of 2 hts (gi kt_1296) rfl rfl rfl (hts _ kt_669) (hts _ kt_1297) (by decide +kernel) ⟨Nat.le_of_ble_eq_true rfl, Nat.le_of_ble_eq_true rfl⟩, (hts _ kt_1298), (hts _ kt_1299)⟩ ⟨fun a U g mk q => ⟨q.1, PTm.calling q.2⟩, pg_recv hK hP hL_h0 hF_676 (q := (RX15, TX15, 59)) rfl, fun U hU hWm => ⟨rfl, PTm.mk hU hWm hP hK hD hE hO⟩⟩ rfl rfl hl.1 rfl (lv_room (Nat.le_of_ble_eq_true rfl)) dL_law_443 ⟨by show _ + 0 ≤ 600000; omega, by show _ + 0 ≤ 7302250; omega⟩) hS (fun q _ h => hFc q h) hFc (fun r_681 u t H1 locs ht hvm hw hB hz1 hk1 hS => ?_)
      obtain ⟨F2, hB1⟩ := hB
      obtain ⟨hP, hD, hO, hR⟩ := QTm.back hB1 ht hFc FR.refl (fun q h => h)
      have hC := hC.kept hBq hk1
      have hM : PMs (dC, dI) cs A Bq h0 zt H1 := ⟨L, F2, ty, gm, ρ, ta, ou, so, ad, na, va, lc, dm, tg, pe, ml, bg, co, sp, nb0, nb1, nb2, pl, se, ke, wi, hs, mo, po, nu, pr, sq, xa, sa, n64, m64, ex, wh, sd, tk, hd, ak, ho, ot, sx, s0, s1, s2, nf, bd, mm, ⟨hP, hD, hO, hW⟩, hL_h0, hT_h0, hn01, hn02, hn12, hU26, hU15, hBq⟩
      generalize H1 = H at hC hM hS ⊢
      refine lv_pop hx hb dL_law_446 rfl ?_
      refine lv_goto (tgt := 522) hx hb dL_law_447 (by decide) ?_
      refine W.widen (k := cc + 1) (n := ss + 5) (by omega) (by omega) ?_
      exact kk zt _ _ _ (by omega) hC hM hS hl
