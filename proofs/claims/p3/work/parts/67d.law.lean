theorem kt_1300 : Cond.code yX11_house cX11_house 1 (some .int) ∈ tb := tb_at (i := 1096) (by decide +kernel) (by decide +kernel)
theorem kt_1301 : Cond.methodLink RL 67 yX11_house ∈ tb := tb_at (i := 1093) (by decide +kernel) (by decide +kernel)
theorem kt_1302 : Cond.instanceMethod yX11_house ∈ tb := tb_at (i := 1094) (by decide +kernel) (by decide +kernel)
theorem kt_1303 : Cond.selects RX11 yX11_house yX11_house ∈ tb := tb_at (i := 1095) (by decide +kernel) (by decide +kernel)
theorem kt_1304 : Cond.code yX15_house cX15_house 2 (some .int) ∈ tb := tb_at (i := 1851) (by decide +kernel) (by decide +kernel)
theorem kt_1305 : Cond.methodLink RL 70 yX15_house ∈ tb := tb_at (i := 1848) (by decide +kernel) (by decide +kernel)
theorem kt_1306 : Cond.instanceMethod yX15_house ∈ tb := tb_at (i := 1849) (by decide +kernel) (by decide +kernel)
theorem kt_1307 : Cond.selects RX15 yX15_house yX15_house ∈ tb := tb_at (i := 1850) (by decide +kernel) (by decide +kernel)
theorem kt_1308 : Cond.code yX11_wish cX11_wish 4 (some .int) ∈ tb := tb_at (i := 1119) (by decide +kernel) (by decide +kernel)
theorem kt_1309 : Cond.methodLink RL 71 yX11_wish ∈ tb := tb_at (i := 1116) (by decide +kernel) (by decide +kernel)
theorem kt_1310 : Cond.instanceMethod yX11_wish ∈ tb := tb_at (i := 1117) (by decide +kernel) (by decide +kernel)
theorem kt_1311 : Cond.selects RX11 yX11_wish yX11_wish ∈ tb := tb_at (i := 1118) (by decide +kernel) (by decide +kernel)
theorem kt_1312 : Cond.code yX15_wish cX15_wish 6 (some .int) ∈ tb := tb_at (i := 1864) (by decide +kernel) (by decide +kernel)
theorem kt_1313 : Cond.methodLink RL 74 yX15_wish ∈ tb := tb_at (i := 1861) (by decide +kernel) (by decide +kernel)
theorem kt_1314 : Cond.instanceMethod yX15_wish ∈ tb := tb_at (i := 1862) (by decide +kernel) (by decide +kernel)
theorem kt_1315 : Cond.selects RX15 yX15_wish yX15_wish ∈ tb := tb_at (i := 1863) (by decide +kernel) (by decide +kernel)
theorem kt_1316 : Cond.code yX11_digest cX11_digest 1 (some .int) ∈ tb := tb_at (i := 1188) (by decide +kernel) (by decide +kernel)
theorem kt_1317 : Cond.methodLink RL 75 yX11_digest ∈ tb := tb_at (i := 1185) (by decide +kernel) (by decide +kernel)
theorem kt_1318 : Cond.instanceMethod yX11_digest ∈ tb := tb_at (i := 1186) (by decide +kernel) (by decide +kernel)
theorem kt_1319 : Cond.selects RX11 yX11_digest yX11_digest ∈ tb := tb_at (i := 1187) (by decide +kernel) (by decide +kernel)
theorem kt_1320 : Cond.code yX15_digest_ cX15_digest_ 2 (some .int) ∈ tb := tb_at (i := 1847) (by decide +kernel) (by decide +kernel)
theorem kt_1321 : Cond.methodLink RL 78 yX15_digest_ ∈ tb := tb_at (i := 1844) (by decide +kernel) (by decide +kernel)
theorem kt_1322 : Cond.instanceMethod yX15_digest_ ∈ tb := tb_at (i := 1845) (by decide +kernel) (by decide +kernel)
theorem kt_1323 : Cond.selects RX15 yX15_digest_ yX15_digest_ ∈ tb := tb_at (i := 1846) (by decide +kernel) (by decide +kernel)
theorem kt_1324 : Cond.code yX11_octet cX11_octet 2 (some .int) ∈ tb := tb_at (i := 1193) (by decide +kernel) (by decide +kernel)
theorem kt_1325 : Cond.methodLink RL 79 yX11_octet ∈ tb := tb_at (i := 1190) (by decide +kernel) (by decide +kernel)
theorem kt_1326 : Cond.instanceMethod yX11_octet ∈ tb := tb_at (i := 1191) (by decide +kernel) (by decide +kernel)
theorem kt_1327 : Cond.selects RX11 yX11_octet yX11_octet ∈ tb := tb_at (i := 1192) (by decide +kernel) (by decide +kernel)
theorem kt_1328 : Cond.code yX15_octet cX15_octet 2 (some .int) ∈ tb := tb_at (i := 1897) (by decide +kernel) (by decide +kernel)
theorem kt_1329 : Cond.methodLink RL 82 yX15_octet ∈ tb := tb_at (i := 1894) (by decide +kernel) (by decide +kernel)
theorem kt_1330 : Cond.instanceMethod yX15_octet ∈ tb := tb_at (i := 1895) (by decide +kernel) (by decide +kernel)
theorem kt_1331 : Cond.selects RX15 yX15_octet yX15_octet ∈ tb := tb_at (i := 1896) (by decide +kernel) (by decide +kernel)
set_option maxHeartbeats 4000000 in
set_option maxRecDepth 100000 in
theorem law_12 {p : Program} {l : Launch} {e : Env} {s : State} {m : MethodId} {below : List Frame} {meth : Method} {c : Code} {A Bq : Nat → Prop} {dC : Nat → ClassId} {dI : Nat → Nat → Nat} {cs : Nat → ClassId} {b Ln : Nat} {xs : Nat → Int32} (C0 : LC p s m meth c A dC dI cs b Ln xs) {xq h0 i zt cc ss : Nat} (hi : i + 6 ≤ Ln) (hLn : Ln ≤ 384) (hnz : zt ≤ 1280) (hcc : cc + 1 ≤ 600000) (hss : ss + 5 ≤ 7302250) {H : Heap} {locs : List Loc} {ls : Array Slot} (hC : PCs (dC, dI) cs A Bq xq zt H) (hM : PMs (dC, dI) cs A Bq h0 zt H) (hS : va_S A s.heap H locs) (hl : lv_has ls 4 [(3, .int (nI i)), (2, .ref h0), (1, .ref xq), (0, .ref b)]) (kk : ∀ (z2 : Nat) (H : Heap) (locs : List Loc) (ls : Array Slot), z2 ≤ zt + 20 → PCs (dC, dI) cs A Bq xq z2 H → PMs (dC, dI) cs A Bq h0 z2 H → va_S A s.heap H locs → lv_has ls 4 [(3, .int (nI i)), (2, .ref h0), (1, .ref xq), (0, .ref b)] → W p l e room_1 s m #[Value.ref b] below meth c H locs (cc + 1) (ss + 5) (lw_Z below #[Value.ref b] s) (F0 m 522 ls [])) : W p l e room_1 s m #[Value.ref b] below meth c H locs cc ss (lw_Z below #[Value.ref b] s) (F0 m 450 ls []) := by
  obtain ⟨hx, hb, hr, hml, hown, hts, hX, hbl, hbA, hlocks, hE, hGc, hGm, hK, hA, hAs⟩ := id C0
  refine lv_aload_n hx hb dL_law_450 rfl (lv_at hl 2 rfl) ?_
  obtain ⟨L, F, ty, ρ, ta, ou, di, ea, ck, sl, po, hs, ⟨hP, hD, hO, hW⟩, hL_xq, hT_xq, hTS, hBq⟩ := hC
  have hG := hGc
  obtain ⟨hi_1, ⟨r_2, ht_3⟩, hi_4, ⟨r_5, ht_6⟩, hi_7, ht_8, hi_9, ⟨w0_10, w1_11, w2_12, w3_13, nm_14, te_15, ht_16⟩, hi_17, ⟨l1_18, lx_19, ly0_20, ly1_21, ly2_22, k1_23, kx_24, ky0_25, ky1_26, ky2_27, w0_28, w1_29, w2_30, w3_31, w4_32, w5_33, w6_34, w7_35, w8_36, tk_37, h1_38, hx_39, hy_40, hw_41, pw_42, px_43, py_44, pz_45, pu_46, ht_47⟩, hi_48, ⟨w0_49, w1_50, rc_51, rx_52, ry0_53, ry1_54, ry2_55, ht_56⟩, hi_57, ⟨hx_58, hy_59, hw_60, ht_61⟩⟩ := hW.gate hL_xq hT_xq
  obtain ⟨le_62, sp_63, hF_64, hq_65, hq_66, hq_67, hq_68⟩ := hO.gate hL_xq hT_xq
  obtain ⟨x_69, y0_70, y1_71, y2_72, ht_73⟩ := id hq_66
  obtain ⟨x_74, y0_75, y1_76, y2_77, ht_78⟩ := id hq_68
  have hFc := pg_free hD hS hA
  refine va_calli (va_runV (As := []) (rest := []) ⟨hx, hb, hml, hown, hts⟩ (s_X11_house l dC dI cs ty L H.size F xq ρ ta ou di ea ck sl po hs zt hW hL_xq hT_xq hTS) ⟨callB_of 0 hts (gi kt_1300) rfl rfl rfl (hts _ kt_661) (hts _ kt_1301) (by decide +kernel) ⟨Nat.le_of_ble_eq_true rfl, Nat.le_of_ble_eq_true rfl⟩, (hts _ kt_1302), (hts _ kt_1303)⟩ ⟨fun a U g mk q => ⟨q.1, PT.calling q.2⟩, pg_recv hK hP hL_xq hF_64 (q := (RX11, TX11, 9)) rfl, fun U hU hWm => ⟨rfl, PT.mk hU hWm hP hK hD hE hO⟩⟩ rfl rfl hl.1 rfl (lv_room (Nat.le_of_ble_eq_true rfl)) dL_law_451 ⟨by show _ + 0 ≤ 600000; omega, by show _ + 0 ≤ 7302250; omega⟩) hS (fun q _ h => hFc q h) hFc (fun r_79 u t H1 locs ht hvm hw hB hz1 hk1 hS => ?_)
  obtain ⟨F2, hB1, hTS2⟩ := hB
  obtain ⟨hP, hD, hO, hR⟩ := QT.back hB1 ht hFc FR.refl (fun q h => h)
  have hM := hM.kept hBq hk1
  have hC : PCs (dC, dI) cs A Bq xq 0 H1 := ⟨L, F2, ty, ρ, ta, ou, di, ea, ck, sl, po, hs, ⟨hP, hD, hO, hW⟩, hL_xq, hT_xq, hTS2, hBq⟩
  generalize H1 = H at hC hM hS ⊢
  refine lv_pop hx hb dL_law_454 rfl ?_
  refine lv_aload_n hx hb dL_law_455 rfl (lv_at hl 1 rfl) ?_
  obtain ⟨L, F, ty, gm, ρ, ta, ou, so, ad, na, va, lc, dm, tg, pe, ml, bg, co, sp, nb0, nb1, nb2, pl, se, ke, wi, hs, mo, po, nu, pr, sq, xa, sa, n64, m64, ex, wh, sd, tk, hd, ak, ho, ot, sx, s0, s1, s2, nf, bd, mm, ⟨hP, hD, hO, hW⟩, hL_h0, hT_h0, hn01, hn02, hn12, hU26, hU15, hBq⟩ := hM
  have hG := hGm
  obtain ⟨hi_80, ht_81, hi_82, ht_83, hi_84, ht_85, hi_86, ht_87, hi_88, ht_89, hi_90, ht_91, hi_92, ⟨r_93, ht_94⟩, hi_95, ⟨r_96, ht_97⟩, hi_98, ht_99, hi_100, ⟨r_101, ht_102⟩, hi_103, ht_104, hi_105, ht_106, hi_107, ht_108, hi_109, ht_110, hi_111, ht_112, hi_113, ht_114, hi_115, ht_116, hi_117, ⟨r_118, ht_119⟩, hi_120, ht_121, hi_122, ⟨x_123, y0_124, y1_125, y2_126, ht_127⟩, hi_128, ⟨x_129, y0_130, y1_131, y2_132, ht_133⟩, hi_134, ⟨x_135, y_136, w_137, u_138, bl_139, ht_140⟩, hi_141, ht_142, hi_143, ht_144, hi_145, ht_146, hi_147, ht_148, hi_149, ht_150, hi_151, ht_152, hi_153, ht_154, hi_155, ht_156, hi_157, ht_158, hi_159, ht_160, hi_161, ⟨r_162, ht_163⟩, hi_164, ⟨r_165, ht_166⟩, hi_167, ht_168, hi_169, ht_170, hi_171, ⟨r_172, ht_173⟩, hi_174, ⟨r_175, ht_176⟩, hi_177, ⟨r_178, ht_179⟩, hq_180, hq_181, hq_182, hq_183, hq_184, hgO, hgA, hgB⟩ := hW.mod hL_h0 hT_h0
  obtain ⟨zo_185, ze_186, v11_187, v12_188, v14_189, v15_190, v17_191, v18_192, v19_193, v20_194, v21_195, v22_196, v33_197, v52_198, v53_199, v54_200, hF_201, hq_202, hq_203, hq_204, hq_205⟩ := hO.mod hL_h0 hT_h0
  have hFc := pg_free hD hS hA
  refine va_calli (va_runV (As := []) (rest := []) ⟨hx, hb, hml, hown, hts⟩ (s_X15_house l dC dI cs ty gm L H.size F h0 ρ ta ou so ad na va lc dm tg pe ml bg co sp nb0 nb1 nb2 pl se ke wi hs mo po nu pr sq xa sa n64 m64 ex wh sd tk hd ak ho ot sx s0 s1 s2 nf bd mm zt hW hL_h0 hT_h0) ⟨callB_of 0 hts (gi kt_1304) rfl rfl rfl (hts _ kt_669) (hts _ kt_1305) (by decide +kernel) ⟨Nat.le_of_ble_eq_true rfl, Nat.le_of_ble_eq_true rfl⟩, (hts _ kt_1306), (hts _ kt_1307)⟩ ⟨fun a U g mk q => ⟨q.1, PTm.calling q.2⟩, pg_recv hK hP hL_h0 hF_201 (q := (RX15, TX15, 59)) rfl, fun U hU hWm => ⟨rfl, PTm.mk hU hWm hP hK hD hE hO⟩⟩ rfl rfl hl.1 rfl (lv_room (Nat.le_of_ble_eq_true rfl)) dL_law_456 ⟨by show _ + 0 ≤ 600000; omega, by show _ + 0 ≤ 7302250; omega⟩) hS (fun q _ h => hFc q h) hFc (fun r_206 u t H1 locs ht hvm hw hB hz1 hk1 hS => ?_)
  obtain ⟨F2, ty9, hty9, hB1, hW9⟩ := hB
  subst hty9
  obtain ⟨hP, hD, hO, hR⟩ := QTm.back hB1 ht hFc FR.refl (fun q h => h)
  have hC := hC.kept hBq hk1
  have hM : PMs (dC, dI) cs A Bq h0 0 H1 := ⟨L, F2, _, gm, ρ, ta, ou, so, ad, na, va, lc, dm, tg, pe, ml, bg, co, sp, nb0, nb1, nb2, pl, se, ke, wi, hs, mo, po, nu, pr, sq, xa, sa, n64, m64, ex, wh, sd, tk, hd, ak, ho, ot, sx, s0, s1, s2, nf, bd, mm, ⟨hP, hD, hO, hW9⟩, hL_h0, rtf_self, hn01, hn02, hn12, U_re hU26, U15_re hU15, hBq⟩
  generalize H1 = H at hC hM hS ⊢
  refine lv_pop hx hb dL_law_459 rfl ?_
  refine lv_goto (tgt := 522) hx hb dL_law_460 (by decide) ?_
  refine W.widen (k := cc + 1) (n := ss + 5) (by omega) (by omega) ?_
  exact kk 0 _ _ _ (by omega) hC hM hS hl
set_option maxHeartbeats 4000000 in
set_option maxRecDepth 100000 in
theorem law_13 {p : Program} {l : Launch} {e : Env} {s : State} {m : MethodId} {below : List Frame} {meth : Method} {c : Code} {A Bq : Nat → Prop} {dC : Nat → ClassId} {dI : Nat → Nat → Nat} {cs : Nat → ClassId} {b Ln : Nat} {xs : Nat → Int32} (C0 : LC p s m meth c A dC dI cs b Ln xs) {xq h0 i zt cc ss : Nat} (hi : i + 6 ≤ Ln) (hLn : Ln ≤ 384) (hnz : zt ≤ 1280) (hcc : cc + 1 ≤ 600000) (hss : ss + 5 ≤ 7302250) {H : Heap} {locs : List Loc} {ls : Array Slot} (hC : PCs (dC, dI) cs A Bq xq zt H) (hM : PMs (dC, dI) cs A Bq h0 zt H) (hS : va_S A s.heap H locs) (hl : lv_has ls 4 [(3, .int (nI i)), (2, .ref h0), (1, .ref xq), (0, .ref b)]) (kk : ∀ (z2 : Nat) (H : Heap) (locs : List Loc) (ls : Array Slot), z2 ≤ zt + 20 → PCs (dC, dI) cs A Bq xq z2 H → PMs (dC, dI) cs A Bq h0 z2 H → va_S A s.heap H locs → lv_has ls 4 [(3, .int (nI i)), (2, .ref h0), (1, .ref xq), (0, .ref b)] → W p l e room_1 s m #[Value.ref b] below meth c H locs (cc + 1) (ss + 5) (lw_Z below #[Value.ref b] s) (F0 m 522 ls [])) : W p l e room_1 s m #[Value.ref b] below meth c H locs cc ss (lw_Z below #[Value.ref b] s) (F0 m 463 ls []) := by
  obtain ⟨hx, hb, hr, hml, hown, hts, hX, hbl, hbA, hlocks, hE, hGc, hGm, hK, hA, hAs⟩ := id C0
  refine lv_aload_n hx hb dL_law_463 rfl (lv_at hl 2 rfl) ?_
  refine lv_aload_n hx hb dL_law_464 rfl (lv_at hl 3 rfl) ?_
  refine lv_iload_n hx hb dL_law_465 rfl (lv_at hl 0 rfl) ?_
  refine lv_iconst (v := 1) hx hb dL_law_466 (by decide) ?_
  refine lv_iadd hx hb dL_law_467 ?_
  refine lv_topi (fun x_1 ex_1 => ?_)
  obtain rfl : x_1 = (nI (i + 1)) := ex_1.trans (nI_add i 1)
  refine va_sld hx hb hX hbl hbA hS (vp_in_nI (by omega) (by omega)) dL_law_468 ?_
  refine lv_topi (fun x_2 ex_2 => ?_)
  obtain rfl : x_2 = (xs (i + 1)) := ex_2.trans (congrArg xs (nI_clamp (by omega)))
  obtain ⟨L, F, ty, ρ, ta, ou, di, ea, ck, sl, po, hs, ⟨hP, hD, hO, hW⟩, hL_xq, hT_xq, hTS, hBq⟩ := hC
  have hG := hGc
  obtain ⟨hi_3, ⟨r_4, ht_5⟩, hi_6, ⟨r_7, ht_8⟩, hi_9, ht_10, hi_11, ⟨w0_12, w1_13, w2_14, w3_15, nm_16, te_17, ht_18⟩, hi_19, ⟨l1_20, lx_21, ly0_22, ly1_23, ly2_24, k1_25, kx_26, ky0_27, ky1_28, ky2_29, w0_30, w1_31, w2_32, w3_33, w4_34, w5_35, w6_36, w7_37, w8_38, tk_39, h1_40, hx_41, hy_42, hw_43, pw_44, px_45, py_46, pz_47, pu_48, ht_49⟩, hi_50, ⟨w0_51, w1_52, rc_53, rx_54, ry0_55, ry1_56, ry2_57, ht_58⟩, hi_59, ⟨hx_60, hy_61, hw_62, ht_63⟩⟩ := hW.gate hL_xq hT_xq
  obtain ⟨le_64, sp_65, hF_66, hq_67, hq_68, hq_69, hq_70⟩ := hO.gate hL_xq hT_xq
  obtain ⟨x_71, y0_72, y1_73, y2_74, ht_75⟩ := id hq_68
  obtain ⟨x_76, y0_77, y1_78, y2_79, ht_80⟩ := id hq_70
  have hFc := pg_free hD hS hA
  refine va_calli (va_runV (As := [.int (xs (i + 1))]) (rest := []) ⟨hx, hb, hml, hown, hts⟩ (s_X11_wish l dC dI cs ty L H.size F xq ρ ta ou di ea ck sl po hs zt (xs (i + 1)) hW hL_xq hT_xq hTS) ⟨callB_of 1 hts (gi kt_1308) rfl rfl rfl (hts _ kt_661) (hts _ kt_1309) (by decide +kernel) ⟨Nat.le_of_ble_eq_true rfl, Nat.le_of_ble_eq_true rfl⟩, (hts _ kt_1310), (hts _ kt_1311)⟩ ⟨fun a U g mk q => ⟨q.1, PTE.calling q.2⟩, pg_recv hK hP hL_xq hF_66 (q := (RX11, TX11, 9)) rfl, fun U hU hWm => ⟨rfl, PTE.mk hU hWm hP hK hD hE hO hG (fun x hx => absurd hx List.not_mem_nil) hS hFc⟩⟩ rfl rfl hl.1 rfl (lv_room (Nat.le_of_ble_eq_true rfl)) dL_law_469 ⟨by show _ + 0 ≤ 600000; omega, by show _ + 0 ≤ 7302250; omega⟩) hS (fun q _ h => hFc q h) hFc (fun r_81 u t H1 locs ht hvm hw hB hz1 hk1 hS => ?_)
  obtain ⟨F2, hB1, hTS2⟩ := hB
  obtain ⟨hP, hD, hO, hR⟩ := QT.back hB1 ht hFc FR.refl (fun q h => h)
  have hM := hM.kept hBq hk1
  have hC : PCs (dC, dI) cs A Bq xq zt H1 := ⟨L, F2, ty, ρ, ta, ou, di, ea, ck, sl, po, hs, ⟨hP, hD, hO, hW⟩, hL_xq, hT_xq, hTS2, hBq⟩
  generalize H1 = H at hC hM hS ⊢
  refine lv_pop hx hb dL_law_472 rfl ?_
  refine lv_aload_n hx hb dL_law_473 rfl (lv_at hl 1 rfl) ?_
  refine lv_aload_n hx hb dL_law_474 rfl (lv_at hl 3 rfl) ?_
  refine lv_iload_n hx hb dL_law_475 rfl (lv_at hl 0 rfl) ?_
  refine lv_iconst (v := 1) hx hb dL_law_476 (by decide) ?_
  refine lv_iadd hx hb dL_law_477 ?_
  refine lv_topi (fun x_82 ex_82 => ?_)
  obtain rfl : x_82 = (nI (i + 1)) := ex_82.trans (nI_add i 1)
  refine va_sld hx hb hX hbl hbA hS (vp_in_nI (by omega) (by omega)) dL_law_478 ?_
  refine lv_topi (fun x_83 ex_83 => ?_)
  obtain rfl : x_83 = (xs (i + 1)) := ex_83.trans (congrArg xs (nI_clamp (by omega)))
  obtain ⟨L, F, ty, gm, ρ, ta, ou, so, ad, na, va, lc, dm, tg, pe, ml, bg, co, sp, nb0, nb1, nb2, pl, se, ke, wi, hs, mo, po, nu, pr, sq, xa, sa, n64, m64, ex, wh, sd, tk, hd, ak, ho, ot, sx, s0, s1, s2, nf, bd, mm, ⟨hP, hD, hO, hW⟩, hL_h0, hT_h0, hn01, hn02, hn12, hU26, hU15, hBq⟩ := hM
  have hG := hGm
  obtain ⟨hi_84, ht_85, hi_86, ht_87, hi_88, ht_89, hi_90, ht_91, hi_92, ht_93, hi_94, ht_95, hi_96, ⟨r_97, ht_98⟩, hi_99, ⟨r_100, ht_101⟩, hi_102, ht_103, hi_104, ⟨r_105, ht_106⟩, hi_107, ht_108, hi_109, ht_110, hi_111, ht_112, hi_113, ht_114, hi_115, ht_116, hi_117, ht_118, hi_119, ht_120, hi_121, ⟨r_122, ht_123⟩, hi_124, ht_125, hi_126, ⟨x_127, y0_128, y1_129, y2_130, ht_131⟩, hi_132, ⟨x_133, y0_134, y1_135, y2_136, ht_137⟩, hi_138, ⟨x_139, y_140, w_141, u_142, bl_143, ht_144⟩, hi_145, ht_146, hi_147, ht_148, hi_149, ht_150, hi_151, ht_152, hi_153, ht_154, hi_155, ht_156, hi_157, ht_158, hi_159, ht_160, hi_161, ht_162, hi_163, ht_164, hi_165, ⟨r_166, ht_167⟩, hi_168, ⟨r_169, ht_170⟩, hi_171, ht_172, hi_173, ht_174, hi_175, ⟨r_176, ht_177⟩, hi_178, ⟨r_179, ht_180⟩, hi_181, ⟨r_182, ht_183⟩, hq_184, hq_185, hq_186, hq_187, hq_188, hgO, hgA, hgB⟩ := hW.mod hL_h0 hT_h0
  obtain ⟨zo_189, ze_190, v11_191, v12_192, v14_193, v15_194, v17_195, v18_196, v19_197, v20_198, v21_199, v22_200, v33_201, v52_202, v53_203, v54_204, hF_205, hq_206, hq_207, hq_208, hq_209⟩ := hO.mod hL_h0 hT_h0
  obtain ⟨hi_210, hi_211, hi_212, hi_213, ⟨r_214, ht_215⟩, ht_216, ht_217, ht_218, hq_219, hq_220⟩ := hW.tags hi_124 ht_125
  have ht_215 : ty sx = (14, ρ + 12, [r_214, 3000]) := ht_215
  have hFc := pg_free hD hS hA
  refine va_calli (va_runV (As := [.int (xs (i + 1))]) (rest := []) ⟨hx, hb, hml, hown, hts⟩ (s_X15_wish l dC dI cs ty gm L H.size F h0 ρ ta ou so ad na va lc dm tg pe ml bg co sp nb0 nb1 nb2 pl se ke wi hs mo po nu pr sq xa sa n64 m64 ex wh sd tk hd ak ho ot sx s0 s1 s2 nf bd mm zt r_214 r_122 r_105 r_176 (xs (i + 1)) hW hL_h0 hT_h0 hi_210 ht_215 hi_121 ht_123 hi_104 ht_106 hi_175 ht_177) ⟨callB_of 1 hts (gi kt_1312) rfl rfl rfl (hts _ kt_669) (hts _ kt_1313) (by decide +kernel) ⟨Nat.le_of_ble_eq_true rfl, Nat.le_of_ble_eq_true rfl⟩, (hts _ kt_1314), (hts _ kt_1315)⟩ ⟨fun a U g mk q => ⟨q.1, PTEm.calling q.2⟩, pg_recv hK hP hL_h0 hF_205 (q := (RX15, TX15, 59)) rfl, fun U hU hWm => ⟨rfl, PTEm.mk hU hWm hP hK hD hE hO hG (fun x hx => absurd hx List.not_mem_nil) hS hFc⟩⟩ rfl rfl hl.1 rfl (lv_room (Nat.le_of_ble_eq_true rfl)) dL_law_479 ⟨by show _ + 0 ≤ 600000; omega, by show _ + 0 ≤ 7302250; omega⟩) hS (fun q _ h => hFc q h) hFc (fun r_221 u t H1 locs ht hvm hw hB hz1 hk1 hS => ?_)
  obtain ⟨F2, hB1⟩ := hB
  obtain ⟨hP, hD, hO, hR⟩ := QTm.back hB1 ht hFc FR.refl (fun q h => h)
  have hC := hC.kept hBq hk1
  have hM : PMs (dC, dI) cs A Bq h0 zt H1 := ⟨L, F2, ty, gm, ρ, ta, ou, so, ad, na, va, lc, dm, tg, pe, ml, bg, co, sp, nb0, nb1, nb2, pl, se, ke, wi, hs, mo, po, nu, pr, sq, xa, sa, n64, m64, ex, wh, sd, tk, hd, ak, ho, ot, sx, s0, s1, s2, nf, bd, mm, ⟨hP, hD, hO, hW⟩, hL_h0, hT_h0, hn01, hn02, hn12, hU26, hU15, hBq⟩
  generalize H1 = H at hC hM hS ⊢
  refine lv_pop hx hb dL_law_482 rfl ?_
  refine lv_goto (tgt := 522) hx hb dL_law_483 (by decide) ?_
  refine W.widen (k := cc + 1) (n := ss + 5) (by omega) (by omega) ?_
  exact kk zt _ _ _ (by omega) hC hM hS hl
set_option maxHeartbeats 4000000 in
set_option maxRecDepth 100000 in
theorem law_14 {p : Program} {l : Launch} {e : Env} {s : State} {m : MethodId} {below : List Frame} {meth : Method} {c : Code} {A Bq : Nat → Prop} {dC : Nat → ClassId} {dI : Nat → Nat → Nat} {cs : Nat → ClassId} {b Ln : Nat} {xs : Nat → Int32} (C0 : LC p s m meth c A dC dI cs b Ln xs) {xq h0 i zt cc ss : Nat} (hi : i + 6 ≤ Ln) (hLn : Ln ≤ 384) (hnz : zt ≤ 1280) (hcc : cc + 1 ≤ 600000) (hss : ss + 5 ≤ 7302250) {H : Heap} {locs : List Loc} {ls : Array Slot} (hC : PCs (dC, dI) cs A Bq xq zt H) (hM : PMs (dC, dI) cs A Bq h0 zt H) (hS : va_S A s.heap H locs) (hl : lv_has ls 4 [(3, .int (nI i)), (2, .ref h0), (1, .ref xq), (0, .ref b)]) (kk : ∀ (z2 : Nat) (H : Heap) (locs : List Loc) (ls : Array Slot), z2 ≤ zt + 20 → PCs (dC, dI) cs A Bq xq z2 H → PMs (dC, dI) cs A Bq h0 z2 H → va_S A s.heap H locs → lv_has ls 4 [(3, .int (nI i)), (2, .ref h0), (1, .ref xq), (0, .ref b)] → W p l e room_1 s m #[Value.ref b] below meth c H locs (cc + 1) (ss + 5) (lw_Z below #[Value.ref b] s) (F0 m 522 ls [])) : W p l e room_1 s m #[Value.ref b] below meth c H locs cc ss (lw_Z below #[Value.ref b] s) (F0 m 486 ls []) := by
  obtain ⟨hx, hb, hr, hml, hown, hts, hX, hbl, hbA, hlocks, hE, hGc, hGm, hK, hA, hAs⟩ := id C0
  refine lv_aload_n hx hb dL_law_486 rfl (lv_at hl 2 rfl) ?_
  obtain ⟨L, F, ty, ρ, ta, ou, di, ea, ck, sl, po, hs, ⟨hP, hD, hO, hW⟩, hL_xq, hT_xq, hTS, hBq⟩ := hC
  have hG := hGc
  obtain ⟨hi_1, ⟨r_2, ht_3⟩, hi_4, ⟨r_5, ht_6⟩, hi_7, ht_8, hi_9, ⟨w0_10, w1_11, w2_12, w3_13, nm_14, te_15, ht_16⟩, hi_17, ⟨l1_18, lx_19, ly0_20, ly1_21, ly2_22, k1_23, kx_24, ky0_25, ky1_26, ky2_27, w0_28, w1_29, w2_30, w3_31, w4_32, w5_33, w6_34, w7_35, w8_36, tk_37, h1_38, hx_39, hy_40, hw_41, pw_42, px_43, py_44, pz_45, pu_46, ht_47⟩, hi_48, ⟨w0_49, w1_50, rc_51, rx_52, ry0_53, ry1_54, ry2_55, ht_56⟩, hi_57, ⟨hx_58, hy_59, hw_60, ht_61⟩⟩ := hW.gate hL_xq hT_xq
  obtain ⟨le_62, sp_63, hF_64, hq_65, hq_66, hq_67, hq_68⟩ := hO.gate hL_xq hT_xq
  obtain ⟨x_69, y0_70, y1_71, y2_72, ht_73⟩ := id hq_66
  obtain ⟨x_74, y0_75, y1_76, y2_77, ht_78⟩ := id hq_68
  have hFc := pg_free hD hS hA
  refine va_calli (va_runV (As := []) (rest := []) ⟨hx, hb, hml, hown, hts⟩ (s_X11_digest l dC dI cs ty L H.size F xq ρ ta ou di ea ck sl po hs zt hW hL_xq hT_xq hTS) ⟨callB_of 0 hts (gi kt_1316) rfl rfl rfl (hts _ kt_661) (hts _ kt_1317) (by decide +kernel) ⟨Nat.le_of_ble_eq_true rfl, Nat.le_of_ble_eq_true rfl⟩, (hts _ kt_1318), (hts _ kt_1319)⟩ ⟨fun a U g mk q => ⟨q.1, PTE.calling q.2⟩, pg_recv hK hP hL_xq hF_64 (q := (RX11, TX11, 9)) rfl, fun U hU hWm => ⟨rfl, PTE.mk hU hWm hP hK hD hE hO hG (fun x hx => absurd hx List.not_mem_nil) hS hFc⟩⟩ rfl rfl hl.1 rfl (lv_room (Nat.le_of_ble_eq_true rfl)) dL_law_487 ⟨by show _ + 0 ≤ 600000; omega, by show _ + 0 ≤ 7302250; omega⟩) hS (fun q _ h => hFc q h) hFc (fun r_79 u t H1 locs ht hvm hw hB hz1 hk1 hS => ?_)
  obtain ⟨F2, hB1, hTS2⟩ := hB
  obtain ⟨hP, hD, hO, hR⟩ := QT.back hB1 ht hFc FR.refl (fun q h => h)
  have hM := hM.kept hBq hk1
  have hC : PCs (dC, dI) cs A Bq xq 0 H1 := ⟨L, F2, ty, ρ, ta, ou, di, ea, ck, sl, po, hs, ⟨hP, hD, hO, hW⟩, hL_xq, hT_xq, hTS2, hBq⟩
  generalize H1 = H at hC hM hS ⊢
  have hw : r_79 = 32 := hw
  subst hw
  refine lv_pop hx hb dL_law_490 rfl ?_
  refine lv_aload_n hx hb dL_law_491 rfl (lv_at hl 1 rfl) ?_
  obtain ⟨L, F, ty, gm, ρ, ta, ou, so, ad, na, va, lc, dm, tg, pe, ml, bg, co, sp, nb0, nb1, nb2, pl, se, ke, wi, hs, mo, po, nu, pr, sq, xa, sa, n64, m64, ex, wh, sd, tk, hd, ak, ho, ot, sx, s0, s1, s2, nf, bd, mm, ⟨hP, hD, hO, hW⟩, hL_h0, hT_h0, hn01, hn02, hn12, hU26, hU15, hBq⟩ := hM
  have hG := hGm
  obtain ⟨hi_80, ht_81, hi_82, ht_83, hi_84, ht_85, hi_86, ht_87, hi_88, ht_89, hi_90, ht_91, hi_92, ⟨r_93, ht_94⟩, hi_95, ⟨r_96, ht_97⟩, hi_98, ht_99, hi_100, ⟨r_101, ht_102⟩, hi_103, ht_104, hi_105, ht_106, hi_107, ht_108, hi_109, ht_110, hi_111, ht_112, hi_113, ht_114, hi_115, ht_116, hi_117, ⟨r_118, ht_119⟩, hi_120, ht_121, hi_122, ⟨x_123, y0_124, y1_125, y2_126, ht_127⟩, hi_128, ⟨x_129, y0_130, y1_131, y2_132, ht_133⟩, hi_134, ⟨x_135, y_136, w_137, u_138, bl_139, ht_140⟩, hi_141, ht_142, hi_143, ht_144, hi_145, ht_146, hi_147, ht_148, hi_149, ht_150, hi_151, ht_152, hi_153, ht_154, hi_155, ht_156, hi_157, ht_158, hi_159, ht_160, hi_161, ⟨r_162, ht_163⟩, hi_164, ⟨r_165, ht_166⟩, hi_167, ht_168, hi_169, ht_170, hi_171, ⟨r_172, ht_173⟩, hi_174, ⟨r_175, ht_176⟩, hi_177, ⟨r_178, ht_179⟩, hq_180, hq_181, hq_182, hq_183, hq_184, hgO, hgA, hgB⟩ := hW.mod hL_h0 hT_h0
  obtain ⟨zo_185, ze_186, v11_187, v12_188, v14_189, v15_190, v17_191, v18_192, v19_193, v20_194, v21_195, v22_196, v33_197, v52_198, v53_199, v54_200, hF_201, hq_202, hq_203, hq_204, hq_205⟩ := hO.mod hL_h0 hT_h0
  have hFc := pg_free hD hS hA
  refine va_calli (va_runV (As := []) (rest := []) ⟨hx, hb, hml, hown, hts⟩ (s_X15_digest_ l dC dI cs ty gm L H.size F h0 ρ ta ou so ad na va lc dm tg pe ml bg co sp nb0 nb1 nb2 pl se ke wi hs mo po nu pr sq xa sa n64 m64 ex wh sd tk hd ak ho ot sx s0 s1 s2 nf bd mm zt hW hL_h0 hT_h0) ⟨callB_of 0 hts (gi kt_1320) rfl rfl rfl (hts _ kt_669) (hts _ kt_1321) (by decide +kernel) ⟨Nat.le_of_ble_eq_true rfl, Nat.le_of_ble_eq_true rfl⟩, (hts _ kt_1322), (hts _ kt_1323)⟩ ⟨fun a U g mk q => ⟨q.1, PTm.calling q.2⟩, pg_recv hK hP hL_h0 hF_201 (q := (RX15, TX15, 59)) rfl, fun U hU hWm => ⟨rfl, PTm.mk hU hWm hP hK hD hE hO⟩⟩ rfl rfl hl.1 rfl (lv_room (Nat.le_of_ble_eq_true rfl)) dL_law_492 ⟨by show _ + 0 ≤ 600000; omega, by show _ + 0 ≤ 7302250; omega⟩) hS (fun q _ h => hFc q h) hFc (fun r_206 u t H1 locs ht hvm hw hB hz1 hk1 hS => ?_)
  obtain ⟨F2, ty9, hty9, hB1, hW9⟩ := hB
  subst hty9
  obtain ⟨hP, hD, hO, hR⟩ := QTm.back hB1 ht hFc FR.refl (fun q h => h)
  have hC := hC.kept hBq hk1
  have hM : PMs (dC, dI) cs A Bq h0 0 H1 := ⟨L, F2, _, gm, ρ, ta, ou, so, ad, na, va, lc, dm, tg, pe, ml, bg, co, sp, nb0, nb1, nb2, pl, se, ke, wi, hs, mo, po, nu, pr, sq, xa, sa, n64, m64, ex, wh, sd, tk, hd, ak, ho, ot, sx, s0, s1, s2, nf, bd, mm, ⟨hP, hD, hO, hW9⟩, hL_h0, rtf_self, hn01, hn02, hn12, U_re hU26, U15_re hU15, hBq⟩
  generalize H1 = H at hC hM hS ⊢
  have hw : r_206 = 32 := hw
  subst hw
  refine lv_pop hx hb dL_law_495 rfl ?_
  refine lv_goto (tgt := 522) hx hb dL_law_496 (by decide) ?_
  refine W.widen (k := cc + 1) (n := ss + 5) (by omega) (by omega) ?_
  exact kk 0 _ _ _ (by omega) hC hM hS hl
set_option maxHeartbeats 4000000 in
set_option maxRecDepth 100000 in
theorem law_15 {p : Program} {l : Launch} {e : Env} {s : State} {m : MethodId} {below : List Frame} {meth : Method} {c : Code} {A Bq : Nat → Prop} {dC : Nat → ClassId} {dI : Nat → Nat → Nat} {cs : Nat → ClassId} {b Ln : Nat} {xs : Nat → Int32} (C0 : LC p s m meth c A dC dI cs b Ln xs) {xq h0 i zt cc ss : Nat} (hi : i + 6 ≤ Ln) (hLn : Ln ≤ 384) (hnz : zt ≤ 1280) (hcc : cc + 1 ≤ 600000) (hss : ss + 5 ≤ 7302250) {H : Heap} {locs : List Loc} {ls : Array Slot} (hC : PCs (dC, dI) cs A Bq xq zt H) (hM : PMs (dC, dI) cs A Bq h0 zt H) (hS : va_S A s.heap H locs) (hl : lv_has ls 4 [(3, .int (nI i)), (2, .ref h0), (1, .ref xq), (0, .ref b)]) (kk : ∀ (z2 : Nat) (H : Heap) (locs : List Loc) (ls : Array Slot), z2 ≤ zt + 20 → PCs (dC, dI) cs A Bq xq z2 H → PMs (dC, dI) cs A Bq h0 z2 H → va_S A s.heap H locs → lv_has ls 4 [(3, .int (nI i)), (2, .ref h0), (1, .ref xq), (0, .ref b)] → W p l e room_1 s m #[Value.ref b] below meth c H locs (cc + 1) (ss + 5) (lw_Z below #[Value.ref b] s) (F0 m 522 ls [])) : W p l e room_1 s m #[Value.ref b] below meth c H locs cc ss (lw_Z below #[Value.ref b] s) (F0 m 499 ls []) := by
  obtain ⟨hx, hb, hr, hml, hown, hts, hX, hbl, hbA, hlocks, hE, hGc, hGm, hK, hA, hAs⟩ := id C0
  refine lv_aload_n hx hb dL_law_499 rfl (lv_at hl 2 rfl) ?_
  refine lv_aload_n hx hb dL_law_500 rfl (lv_at hl 3 rfl) ?_
  refine lv_iload_n hx hb dL_law_501 rfl (lv_at hl 0 rfl) ?_
  refine lv_iconst (v := 1) hx hb dL_law_502 (by decide) ?_
  refine lv_iadd hx hb dL_law_503 ?_
  refine lv_topi (fun x_1 ex_1 => ?_)
  obtain rfl : x_1 = (nI (i + 1)) := ex_1.trans (nI_add i 1)
  refine va_sld hx hb hX hbl hbA hS (vp_in_nI (by omega) (by omega)) dL_law_504 ?_
  refine lv_topi (fun x_2 ex_2 => ?_)
  obtain rfl : x_2 = (xs (i + 1)) := ex_2.trans (congrArg xs (nI_clamp (by omega)))
  obtain ⟨L, F, ty, ρ, ta, ou, di, ea, ck, sl, po, hs, ⟨hP, hD, hO, hW⟩, hL_xq, hT_xq, hTS, hBq⟩ := hC
  have hG := hGc
  obtain ⟨hi_3, ⟨r_4, ht_5⟩, hi_6, ⟨r_7, ht_8⟩, hi_9, ht_10, hi_11, ⟨w0_12, w1_13, w2_14, w3_15, nm_16, te_17, ht_18⟩, hi_19, ⟨l1_20, lx_21, ly0_22, ly1_23, ly2_24, k1_25, kx_26, ky0_27, ky1_28, ky2_29, w0_30, w1_31, w2_32, w3_33, w4_34, w5_35, w6_36, w7_37, w8_38, tk_39, h1_40, hx_41, hy_42, hw_43, pw_44, px_45, py_46, pz_47, pu_48, ht_49⟩, hi_50, ⟨w0_51, w1_52, rc_53, rx_54, ry0_55, ry1_56, ry2_57, ht_58⟩, hi_59, ⟨hx_60, hy_61, hw_62, ht_63⟩⟩ := hW.gate hL_xq hT_xq
  obtain ⟨le_64, sp_65, hF_66, hq_67, hq_68, hq_69, hq_70⟩ := hO.gate hL_xq hT_xq
  obtain ⟨x_71, y0_72, y1_73, y2_74, ht_75⟩ := id hq_68
  obtain ⟨x_76, y0_77, y1_78, y2_79, ht_80⟩ := id hq_70
  have hFc := pg_free hD hS hA
  refine va_calli (va_runV (As := [.int (xs (i + 1))]) (rest := []) ⟨hx, hb, hml, hown, hts⟩ (s_X11_octet l dC dI cs ty L H.size F xq ρ ta ou di ea ck sl po hs zt (xs (i + 1)) hW hL_xq hT_xq hTS) ⟨callB_of 1 hts (gi kt_1324) rfl rfl rfl (hts _ kt_661) (hts _ kt_1325) (by decide +kernel) ⟨Nat.le_of_ble_eq_true rfl, Nat.le_of_ble_eq_true rfl⟩, (hts _ kt_1326), (hts _ kt_1327)⟩ ⟨fun a U g mk q => ⟨q.1, PT.calling q.2⟩, pg_recv hK hP hL_xq hF_66 (q := (RX11, TX11, 9)) rfl, fun U hU hWm => ⟨rfl, PT.mk hU hWm hP hK hD hE hO⟩⟩ rfl rfl hl.1 rfl (lv_room (Nat.le_of_ble_eq_true rfl)) dL_law_505 ⟨by show _ + 0 ≤ 600000; omega, by show _ + 0 ≤ 7302250; omega⟩) hS (fun q _ h => hFc q h) hFc (fun r_81 u t H1 locs ht hvm hw hB hz1 hk1 hS => ?_)
  obtain ⟨F2, hB1, hTS2⟩ := hB
  obtain ⟨hP, hD, hO, hR⟩ := QT.back hB1 ht hFc FR.refl (fun q h => h)
  have hM := hM.kept hBq hk1
  have hC : PCs (dC, dI) cs A Bq xq zt H1 := ⟨L, F2, ty, ρ, ta, ou, di, ea, ck, sl, po, hs, ⟨hP, hD, hO, hW⟩, hL_xq, hT_xq, hTS2, hBq⟩
  generalize H1 = H at hC hM hS ⊢
  refine lv_pop hx hb dL_law_508 rfl ?_
  refine lv_aload_n hx hb dL_law_509 rfl (lv_at hl 1 rfl) ?_
  refine lv_aload_n hx hb dL_law_510 rfl (lv_at hl 3 rfl) ?_
  refine lv_iload_n hx hb dL_law_511 rfl (lv_at hl 0 rfl) ?_
  refine lv_iconst (v := 1) hx hb dL_law_512 (by decide) ?_
  refine lv_iadd hx hb dL_law_513 ?_
  refine lv_topi (fun x_82 ex_82 => ?_)
  obtain rfl : x_82 = (nI (i + 1)) := ex_82.trans (nI_add i 1)
  refine va_sld hx hb hX hbl hbA hS (vp_in_nI (by omega) (by omega)) dL_law_514 ?_
  refine lv_topi (fun x_83 ex_83 => ?_)
  obtain rfl : x_83 = (xs (i + 1)) := ex_83.trans (congrArg xs (nI_clamp (by omega)))
  obtain ⟨L, F, ty, gm, ρ, ta, ou, so, ad, na, va, lc, dm, tg, pe, ml, bg, co, sp, nb0, nb1, nb2, pl, se, ke, wi, hs, mo, po, nu, pr, sq, xa, sa, n64, m64, ex, wh, sd, tk, hd, ak, ho, ot, sx, s0, s1, s2, nf, bd, mm, ⟨hP, hD, hO, hW⟩, hL_h0, hT_h0, hn01, hn02, hn12, hU26, hU15, hBq⟩ := hM
  have hG := hGm
  obtain ⟨hi_84, ht_85, hi_86, ht_87, hi_88, ht_89, hi_90, ht_91, hi_92, ht_93, hi_94, ht_95, hi_96, ⟨r_97, ht_98⟩, hi_99, ⟨r_100, ht_101⟩, hi_102, ht_103, hi_104, ⟨r_105, ht_106⟩, hi_107, ht_108, hi_109, ht_110, hi_111, ht_112, hi_113, ht_114, hi_115, ht_116, hi_117, ht_118, hi_119, ht_120, hi_121, ⟨r_122, ht_123⟩, hi_124, ht_125, hi_126, ⟨x_127, y0_128, y1_129, y2_130, ht_131⟩, hi_132, ⟨x_133, y0_134, y1_135, y2_136, ht_137⟩, hi_138, ⟨x_139, y_140, w_141, u_142, bl_143, ht_144⟩, hi_145, ht_146, hi_147, ht_148, hi_149, ht_150, hi_151, ht_152, hi_153, ht_154, hi_155, ht_156, hi_157, ht_158, hi_159, ht_160, hi_161, ht_162, hi_163, ht_164, hi_165, ⟨r_166, ht_167⟩, hi_168, ⟨r_169, ht_170⟩, hi_171, ht_172, hi_173, ht_174, hi_175, ⟨r_176, ht_177⟩, hi_178, ⟨r_179, ht_180⟩, hi_181, ⟨r_182, ht_183⟩, hq_184, hq_185, hq_186, hq_187, hq_188, hgO, hgA, hgB⟩ := hW.mod hL_h0 hT_h0
  obtain ⟨zo_189, ze_190, v11_191, v12_192, v14_193, v15_194, v17_195, v18_196, v19_197, v20_198, v21_199, v22_200, v33_201, v52_202, v53_203, v54_204, hF_205, hq_206, hq_207, hq_208, hq_209⟩ := hO.mod hL_h0 hT_h0
  have hFc := pg_free hD hS hA
  refine va_calli (va_runV (As := [.int (xs (i + 1))]) (rest := []) ⟨hx, hb, hml, hown, hts⟩ (s_X15_octet l dC dI cs ty gm L H.size F h0 ρ ta ou so ad na va lc dm tg pe ml bg co sp nb0 nb1 nb2 pl se ke wi hs mo po nu pr sq xa sa n64 m64 ex wh sd tk hd ak ho ot sx s0 s1 s2 nf bd mm zt (xs (i + 1)) hW hL_h0 hT_h0) ⟨callB_of 1 hts (gi kt_1328) rfl rfl rfl (hts _ kt_669) (hts _ kt_1329) (by decide +kernel) ⟨Nat.le_of_ble_eq_true rfl, Nat.le_of_ble_eq_true rfl⟩, (hts _ kt_1330), (hts _ kt_1331)⟩ ⟨fun a U g mk q => ⟨q.1, PTm.calling q.2⟩, pg_recv hK hP hL_h0 hF_205 (q := (RX15, TX15, 59)) rfl, fun U hU hWm => ⟨rfl, PTm.mk hU hWm hP hK hD hE hO⟩⟩ rfl rfl hl.1 rfl (lv_room (Nat.le_of_ble_eq_true rfl)) dL_law_515 ⟨by show _ + 0 ≤ 600000; omega, by show _ + 0 ≤ 7302250; omega⟩) hS (fun q _ h => hFc q h) hFc (fun r_210 u t H1 locs ht hvm hw hB hz1 hk1 hS => ?_)
  obtain ⟨F2, hB1⟩ := hB
  obtain ⟨hP, hD, hO, hR⟩ := QTm.back hB1 ht hFc FR.refl (fun q h => h)
  have hC := hC.kept hBq hk1
  have hM : PMs (dC, dI) cs A Bq h0 zt H1 := ⟨L, F2, ty, gm, ρ, ta, ou, so, ad, na, va, lc, dm, tg, pe, ml, bg, co, sp, nb0, nb1, nb2, pl, se, ke, wi, hs, mo, po, nu, pr, sq, xa, sa, n64, m64, ex, wh, sd, tk, hd, ak, ho, ot, sx, s0, s1, s2, nf, bd, mm, ⟨hP, hD, hO, hW⟩, hL_h0, hT_h0, hn01, hn02, hn12, hU26, hU15, hBq⟩
  generalize H1 = H at hC hM hS ⊢
  refine lv_pop hx hb dL_law_518 rfl ?_
  refine lv_goto (tgt := 522) hx hb dL_law_519 (by decide) ?_
  refine W.widen (k := cc + 1) (n := ss + 5) (by omega) (by omega) ?_
  exact kk zt _ _ _ (by omega) hC hM hS hl
