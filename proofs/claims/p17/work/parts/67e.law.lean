theorem kt_1268 : Cond.code yX11_seals cX11_seals 1 (some .int) ∈ tb := tb_at (i := 821) (by decide +kernel) (by decide +kernel)
theorem kt_1269 : Cond.methodLink RL 49 yX11_seals ∈ tb := tb_at (i := 818) (by decide +kernel) (by decide +kernel)
theorem kt_1270 : Cond.instanceMethod yX11_seals ∈ tb := tb_at (i := 819) (by decide +kernel) (by decide +kernel)
theorem kt_1271 : Cond.selects RX11 yX11_seals yX11_seals ∈ tb := tb_at (i := 820) (by decide +kernel) (by decide +kernel)
theorem kt_1272 : Cond.code yX15_seals cX15_seals 3 (some .int) ∈ tb := tb_at (i := 1651) (by decide +kernel) (by decide +kernel)
theorem kt_1273 : Cond.methodLink RL 52 yX15_seals ∈ tb := tb_at (i := 1648) (by decide +kernel) (by decide +kernel)
theorem kt_1274 : Cond.instanceMethod yX15_seals ∈ tb := tb_at (i := 1649) (by decide +kernel) (by decide +kernel)
theorem kt_1275 : Cond.selects RX15 yX15_seals yX15_seals ∈ tb := tb_at (i := 1650) (by decide +kernel) (by decide +kernel)
theorem kt_1276 : Cond.code yX11_sealed cX11_sealed 4 (some .int) ∈ tb := tb_at (i := 837) (by decide +kernel) (by decide +kernel)
theorem kt_1277 : Cond.methodLink RL 53 yX11_sealed ∈ tb := tb_at (i := 834) (by decide +kernel) (by decide +kernel)
theorem kt_1278 : Cond.instanceMethod yX11_sealed ∈ tb := tb_at (i := 835) (by decide +kernel) (by decide +kernel)
theorem kt_1279 : Cond.selects RX11 yX11_sealed yX11_sealed ∈ tb := tb_at (i := 836) (by decide +kernel) (by decide +kernel)
theorem kt_1280 : Cond.code yX15_sealed cX15_sealed 4 (some .int) ∈ tb := tb_at (i := 1690) (by decide +kernel) (by decide +kernel)
theorem kt_1281 : Cond.methodLink RL 56 yX15_sealed ∈ tb := tb_at (i := 1687) (by decide +kernel) (by decide +kernel)
theorem kt_1282 : Cond.instanceMethod yX15_sealed ∈ tb := tb_at (i := 1688) (by decide +kernel) (by decide +kernel)
theorem kt_1283 : Cond.selects RX15 yX15_sealed yX15_sealed ∈ tb := tb_at (i := 1689) (by decide +kernel) (by decide +kernel)
set_option maxHeartbeats 4000000 in
set_option maxRecDepth 100000 in
theorem law_8 {p : Program} {l : Launch} {e : Env} {s : State} {m : MethodId} {below : List Frame} {meth : Method} {c : Code} {A Bq : Nat → Prop} {dC : Nat → ClassId} {dI : Nat → Nat → Nat} {cs : Nat → ClassId} {b Ln : Nat} {xs : Nat → Int32} (C0 : LC p s m meth c A dC dI cs b Ln xs) {xq h0 i zt ze cc ss : Nat} {f gt : Nat → Int32} {n : Nat} {bb : Int32} {zm : Nat} {fL sA sB sC : Nat → Int32} {DX : Nat → ETY} {zo : Nat} {fo : Nat → Int32} {nf bd mm : Nat} {gm : Nat → Nat → Nat} {gl : Nat → Int32} {EX : Nat → ETY} {go : Nat → Int32} (hi : i + 6 ≤ Ln) (hLn : Ln ≤ 384) (hnz : zt ≤ 1280) (hcc : cc + 1 ≤ 600000) (hss : ss + 5 ≤ 7302250) {H : Heap} {locs : List Loc} {ls : Array Slot} (hrel : REL f gt zt) (hlr : LRL n bb zm fL sA sB sC nf bd mm gm gl) (hdr : DREL DX EX ze) (hro : REL fo go zo) (hC : PCl (dC, dI) cs A Bq xq zt ze f n bb zm fL sA sB sC DX zo fo H) (hM : PMl (dC, dI) cs A Bq h0 zt ze gt nf bd mm gm gl EX zo go H) (hS : va_S A s.heap H locs) (hl : lv_has ls 4 [(3, .int (nI i)), (2, .ref h0), (1, .ref xq), (0, .ref b)]) (kk : ∀ (z2 c2 : Nat) (f2 g2 : Nat → Int32) (n : Nat) (bb : Int32) (zm : Nat) (fL sA sB sC : Nat → Int32) (DX : Nat → ETY) (zo : Nat) (fo : Nat → Int32) (nf bd mm : Nat) (gm : Nat → Nat → Nat) (gl : Nat → Int32) (EX : Nat → ETY) (go : Nat → Int32) (H : Heap) (locs : List Loc) (ls : Array Slot), z2 ≤ zt + 20 → c2 ≤ 40 → REL f2 g2 z2 → LRL n bb zm fL sA sB sC nf bd mm gm gl → DREL DX EX c2 → REL fo go zo → PCl (dC, dI) cs A Bq xq z2 c2 f2 n bb zm fL sA sB sC DX zo fo H → PMl (dC, dI) cs A Bq h0 z2 c2 g2 nf bd mm gm gl EX zo go H → va_S A s.heap H locs → lv_has ls 4 [(3, .int (nI i)), (2, .ref h0), (1, .ref xq), (0, .ref b)] → W p l e room_1 s m #[Value.ref b] below meth c H locs (cc + 1) (ss + 5) (lw_Z below #[Value.ref b] s) (F0 m 522 ls [])) : W p l e room_1 s m #[Value.ref b] below meth c H locs cc ss (lw_Z below #[Value.ref b] s) (F0 m 316 ls []) := by
  obtain ⟨hx, hb, hr, hml, hown, hts, hX, hbl, hbA, hlocks, hE, hGc, hGm, hK, hA, hAs⟩ := id C0
  refine lv_aload_n hx hb dL_law_316 rfl (lv_at hl 2 rfl) ?_
  obtain ⟨L, F, ty, ρ, ta, ou, di, ea, ck, sl, po, hs, rt, ro, ⟨hP, hD, hO, hW⟩, hL_xq, hT_xq, hTta, hFt, hFr, hzt, hFd, hcn, hLT, hDI, hTou, hFou, hFro, hzo, hBq⟩ := hC
  have hG := hGc
  have hTS : TS F ta zt := ⟨hzt, rt, hFt⟩
  obtain ⟨le, sp, μ, ν, x, y0, y1, y2, rx, x9, w0, w1, w2, rx9, o, hm, l1, l2, l3, l4, l5, l6, l7, l8, l9, l10, l11, l12, l13, l14, l15⟩ := id hLT
  have hF_xq := l1
  obtain ⟨hi_1, ⟨r_2, ht_3⟩, hi_4, ⟨r_5, ht_6⟩, hi_7, ht_8, hi_9, ⟨w0_10, w1_11, w2_12, w3_13, nm_14, te_15, ht_16⟩, hi_17, ⟨l1_18, lx_19, ly0_20, ly1_21, ly2_22, k1_23, kx_24, ky0_25, ky1_26, ky2_27, w0_28, w1_29, w2_30, w3_31, w4_32, w5_33, w6_34, w7_35, w8_36, tk_37, h1_38, hx_39, hy_40, hw_41, pw_42, px_43, py_44, pz_45, pu_46, ht_47⟩, hi_48, ⟨w0_49, w1_50, rc_51, rx_52, ry0_53, ry1_54, ry2_55, ht_56⟩, hi_57, ⟨hx_58, hy_59, hw_60, ht_61⟩⟩ := hW.gate hL_xq hT_xq
  obtain ⟨le_62, sp_63, μ_64, ν_65, hF_66, hq_67, hq_68, hq_69, hq_70, hq_71, hq_72⟩ := hO.gate hL_xq hT_xq
  obtain ⟨x_73, y0_74, y1_75, y2_76, ht_77⟩ := id hq_68
  obtain ⟨x_78, y0_79, y1_80, y2_81, ht_82⟩ := id hq_70
  obtain ⟨hiR, htR, -⟩ := hW.bytes hi_1 hTta
  obtain ⟨hi_83, ht_84⟩ := hW.dir hi_7 ht_8
  have hO0 := hO
  obtain ⟨hiO, htO, -⟩ := hW.bytes hi_4 hTou
  have hFc := pg_free hD hS hA
  refine va_calli (va_runV (As := []) (rest := []) ⟨hx, hb, hml, hown, hts⟩ (s_X11_seals_x l dC dI cs ty L H.size F xq ρ ta ou di ea ck sl po hs zt rt ze f le x y0 y1 y2 sp rx n μ bb hW hL_xq hT_xq l2 l3 l1 l9 l8) ⟨callB_of 0 hts (gi kt_1268) rfl rfl rfl (hts _ kt_646) (hts _ kt_1269) (by decide +kernel) ⟨Nat.le_of_ble_eq_true rfl, Nat.le_of_ble_eq_true rfl⟩, (hts _ kt_1270), (hts _ kt_1271)⟩ ⟨fun a U g mk q => ⟨q.1, PTE.calling q.2⟩, pg_recv hK hP hL_xq hF_66 (q := (RX11, TX11, 9)) rfl, fun U hU hWm => ⟨rfl, PTE.mk hU hWm hP hK hD hE hO hG (fun x hx => absurd hx List.not_mem_nil) hS hFc⟩⟩ rfl rfl hl.1 rfl (lv_room (Nat.le_of_ble_eq_true rfl)) dL_law_317 ⟨by show _ + 0 ≤ 600000; omega, by show _ + 0 ≤ 7302250; omega⟩) hS (fun q _ h => hFc q h) hFc (fun r_85 u t H1 locs ht hvm hw hB hz1 hk1 hS => ?_)
  obtain ⟨F2, hB1⟩ := hB
  obtain ⟨hP, hD, hO, hR⟩ := QT.back hB1 ht hFc FR.refl (fun q h => h)
  have hM := hM.kept hBq hk1
  have hLT := hLT.fr hW hT_xq hB1.2.2.2 (fun q h => absurd h List.not_mem_nil)
  have hE1 := hw
  have hSI := sl_iff hlr l10 l11 l12 l13
  have hDI := DIRC.fr hDI hO0 hW hi_83 ht_84 hcn hB1.2.2.2 (hB1.2.2.2 ea (by rw [ht_84]; simp)) (fun k hk => ⟨List.not_mem_nil, List.not_mem_nil, List.not_mem_nil⟩)
  have hC : PCl (dC, dI) cs A Bq xq zt ze f n bb zm fL sA sB sC DX zo fo H1 := ⟨L, F2, ty, ρ, ta, ou, di, ea, ck, sl, po, hs, rt, ro, ⟨hP, hD, hO, hW⟩, hL_xq, hT_xq, hTta, (hB1.2.2.2 ta (by rw [hTta]; simp)).trans hFt, (hB1.2.2.2 rt (by rw [htR]; simp)).trans hFr, hzt, (hB1.2.2.2 di (by rw [ht_8]; simp)).trans hFd, hcn, hLT, hDI, hTou, (hB1.2.2.2 ou (by rw [hTou]; simp)).trans hFou, (hB1.2.2.2 ro (by rw [htO]; simp)).trans hFro, hzo, hBq⟩
  generalize H1 = H at hC hM hS ⊢
  refine lv_pop hx hb dL_law_320 rfl ?_
  refine lv_aload_n hx hb dL_law_321 rfl (lv_at hl 1 rfl) ?_
  obtain ⟨L, F, ty, ρ, ta, ou, so, ad, na, va, lc, dm, tg, pe, ml, bg, co, sp, nb0, nb1, nb2, pl, se, ke, wi, hs, mo, po, nu, pr, sq, xa, sa, n64, m64, ex, wh, sd, tk, hd, ak, ho, ot, sx, s0, s1, s2, ⟨hP, hD, hO, hW⟩, hL_h0, hT_h0, hFta, hFml, hDM, hFou, hn01, hn02, hn12, hU26, hU15, hBq⟩ := hM
  have hG := hGm
  obtain ⟨hq_108, hq_109, hq_110, hq_111, hq_112, hgO, hgA, hgB⟩ := hW.sc hL_h0 hT_h0
  obtain ⟨v11_113, v12_114, v14_115, v15_116, v17_117, v18_118, v19_119, v20_120, v21_121, v22_122, v33_123, v52_124, v53_125, v54_126, hF_127, hq_128, hq_129, hq_130, hq_131⟩ := hO.mod hL_h0 hT_h0
  obtain ⟨hi_132, ht_133⟩ := hW.f_ta hL_h0 hT_h0
  obtain ⟨hLs0, hTs0⟩ := hW.f_so hL_h0 hT_h0
  obtain ⟨hLd0, hTd0⟩ := hW.f_ad hL_h0 hT_h0
  obtain ⟨hLn0, hTn0⟩ := hW.f_na hL_h0 hT_h0
  obtain ⟨hLv0, hTv0⟩ := hW.f_va hL_h0 hT_h0
  have hO0 := hO
  have hFc := pg_free hD hS hA
  refine va_calli (va_runV (As := []) (rest := []) ⟨hx, hb, hml, hown, hts⟩ (s_X15_seals_x l dC dI cs ty gm L H.size F h0 ρ ta ou so ad na va lc dm tg pe ml bg co sp nb0 nb1 nb2 pl se ke wi hs mo po nu pr sq xa sa n64 m64 ex wh sd tk hd ak ho ot sx s0 s1 s2 nf bd mm zo ze zt gl hW hL_h0 hT_h0 hFml) ⟨callB_of 0 hts (gi kt_1272) rfl rfl rfl (hts _ kt_659) (hts _ kt_1273) (by decide +kernel) ⟨Nat.le_of_ble_eq_true rfl, Nat.le_of_ble_eq_true rfl⟩, (hts _ kt_1274), (hts _ kt_1275)⟩ ⟨fun a U g mk q => ⟨q.1, PTEm.calling q.2⟩, pg_recv hK hP hL_h0 hF_127 (q := (RX15, TX15, 59)) rfl, fun U hU hWm => ⟨rfl, PTEm.mk hU hWm hP hK hD hE hO hG (fun x hx => absurd hx List.not_mem_nil) hS hFc⟩⟩ rfl rfl hl.1 rfl (lv_room (Nat.le_of_ble_eq_true rfl)) dL_law_322 ⟨by show _ + 0 ≤ 600000; omega, by show _ + 0 ≤ 7302250; omega⟩) hS (fun q _ h => hFc q h) hFc (fun r_134 u t H1 locs ht hvm hw hB hz1 hk1 hS => ?_)
  obtain ⟨F2, hB1⟩ := hB
  obtain ⟨hP, hD, hO, hR⟩ := QTm.back hB1 ht hFc FR.refl (fun q h => h)
  have hC := hC.kept hBq hk1
  obtain ⟨hi_135, ht_136⟩ := hW.f_ml hL_h0 hT_h0
  have hR9 := hB1.2.2.2
  have hDM := DIRM.fr hDM hO0 hW hLn0 hTn0 hLv0 hTv0 hcn hR9 (hR9 so (by rw [hTs0]; simp)) (hR9 ad (by rw [hTd0]; simp)) (hR9 na (by rw [hTn0]; simp)) (hR9 va (by rw [hTv0]; simp)) (fun k hk => ⟨List.not_mem_nil, List.not_mem_nil⟩)
  obtain ⟨hi_137, ht_138⟩ := hW.f_ou hL_h0 hT_h0
  have hM : PMl (dC, dI) cs A Bq h0 zt ze gt nf bd mm gm gl EX zo go H1 := ⟨L, F2, ty, ρ, ta, ou, so, ad, na, va, lc, dm, tg, pe, ml, bg, co, sp, nb0, nb1, nb2, pl, se, ke, wi, hs, mo, po, nu, pr, sq, xa, sa, n64, m64, ex, wh, sd, tk, hd, ak, ho, ot, sx, s0, s1, s2, ⟨hP, hD, hO, hW⟩, hL_h0, hT_h0, (hB1.2.2.2 ta (by rw [ht_133]; simp)).trans hFta, (hB1.2.2.2 ml (by rw [ht_136]; simp)).trans hFml, hDM, (hB1.2.2.2 ou (by rw [ht_138]; simp)).trans hFou, hn01, hn02, hn12, hU26, hU15, hBq⟩
  have er := seal_same hlr.1 hSI hE1 hw
  generalize H1 = H at hC hM hS ⊢
  refine lv_pop hx hb dL_law_325 rfl ?_
  refine lv_goto (tgt := 522) hx hb dL_law_326 (by decide) ?_
  refine W.widen (k := cc + 1) (n := ss + 5) (by omega) (by omega) ?_
  exact kk zt ze f gt n bb zm fL sA sB sC DX zo fo nf bd mm gm gl EX go _ _ _ (by omega) hcn (hrel) hlr hdr hro hC hM hS hl
set_option maxHeartbeats 4000000 in
set_option maxRecDepth 100000 in
theorem law_9 {p : Program} {l : Launch} {e : Env} {s : State} {m : MethodId} {below : List Frame} {meth : Method} {c : Code} {A Bq : Nat → Prop} {dC : Nat → ClassId} {dI : Nat → Nat → Nat} {cs : Nat → ClassId} {b Ln : Nat} {xs : Nat → Int32} (C0 : LC p s m meth c A dC dI cs b Ln xs) {xq h0 i zt ze cc ss : Nat} {f gt : Nat → Int32} {n : Nat} {bb : Int32} {zm : Nat} {fL sA sB sC : Nat → Int32} {DX : Nat → ETY} {zo : Nat} {fo : Nat → Int32} {nf bd mm : Nat} {gm : Nat → Nat → Nat} {gl : Nat → Int32} {EX : Nat → ETY} {go : Nat → Int32} (hi : i + 6 ≤ Ln) (hLn : Ln ≤ 384) (hnz : zt ≤ 1280) (hcc : cc + 1 ≤ 600000) (hss : ss + 5 ≤ 7302250) {H : Heap} {locs : List Loc} {ls : Array Slot} (hrel : REL f gt zt) (hlr : LRL n bb zm fL sA sB sC nf bd mm gm gl) (hdr : DREL DX EX ze) (hro : REL fo go zo) (hC : PCl (dC, dI) cs A Bq xq zt ze f n bb zm fL sA sB sC DX zo fo H) (hM : PMl (dC, dI) cs A Bq h0 zt ze gt nf bd mm gm gl EX zo go H) (hS : va_S A s.heap H locs) (hl : lv_has ls 4 [(3, .int (nI i)), (2, .ref h0), (1, .ref xq), (0, .ref b)]) (kk : ∀ (z2 c2 : Nat) (f2 g2 : Nat → Int32) (n : Nat) (bb : Int32) (zm : Nat) (fL sA sB sC : Nat → Int32) (DX : Nat → ETY) (zo : Nat) (fo : Nat → Int32) (nf bd mm : Nat) (gm : Nat → Nat → Nat) (gl : Nat → Int32) (EX : Nat → ETY) (go : Nat → Int32) (H : Heap) (locs : List Loc) (ls : Array Slot), z2 ≤ zt + 20 → c2 ≤ 40 → REL f2 g2 z2 → LRL n bb zm fL sA sB sC nf bd mm gm gl → DREL DX EX c2 → REL fo go zo → PCl (dC, dI) cs A Bq xq z2 c2 f2 n bb zm fL sA sB sC DX zo fo H → PMl (dC, dI) cs A Bq h0 z2 c2 g2 nf bd mm gm gl EX zo go H → va_S A s.heap H locs → lv_has ls 4 [(3, .int (nI i)), (2, .ref h0), (1, .ref xq), (0, .ref b)] → W p l e room_1 s m #[Value.ref b] below meth c H locs (cc + 1) (ss + 5) (lw_Z below #[Value.ref b] s) (F0 m 522 ls [])) : W p l e room_1 s m #[Value.ref b] below meth c H locs cc ss (lw_Z below #[Value.ref b] s) (F0 m 329 ls []) := by
  obtain ⟨hx, hb, hr, hml, hown, hts, hX, hbl, hbA, hlocks, hE, hGc, hGm, hK, hA, hAs⟩ := id C0
  refine lv_aload_n hx hb dL_law_329 rfl (lv_at hl 2 rfl) ?_
  refine lv_aload_n hx hb dL_law_330 rfl (lv_at hl 3 rfl) ?_
  refine lv_iload_n hx hb dL_law_331 rfl (lv_at hl 0 rfl) ?_
  refine lv_iconst (v := 1) hx hb dL_law_332 (by decide) ?_
  refine lv_iadd hx hb dL_law_333 ?_
  refine lv_topi (fun x_1 ex_1 => ?_)
  obtain rfl : x_1 = (nI (i + 1)) := ex_1.trans (nI_add i 1)
  refine va_sld hx hb hX hbl hbA hS (vp_in_nI (by omega) (by omega)) dL_law_334 ?_
  refine lv_topi (fun x_2 ex_2 => ?_)
  obtain rfl : x_2 = (xs (i + 1)) := ex_2.trans (congrArg xs (nI_clamp (by omega)))
  refine lv_aload_n hx hb dL_law_335 rfl (lv_at hl 3 rfl) ?_
  refine lv_iload_n hx hb dL_law_336 rfl (lv_at hl 0 rfl) ?_
  refine lv_iconst (v := 2) hx hb dL_law_337 (by decide) ?_
  refine lv_iadd hx hb dL_law_338 ?_
  refine lv_topi (fun x_3 ex_3 => ?_)
  obtain rfl : x_3 = (nI (i + 2)) := ex_3.trans (nI_add i 2)
  refine va_sld hx hb hX hbl hbA hS (vp_in_nI (by omega) (by omega)) dL_law_339 ?_
  refine lv_topi (fun x_4 ex_4 => ?_)
  obtain rfl : x_4 = (xs (i + 2)) := ex_4.trans (congrArg xs (nI_clamp (by omega)))
  obtain ⟨L, F, ty, ρ, ta, ou, di, ea, ck, sl, po, hs, rt, ro, ⟨hP, hD, hO, hW⟩, hL_xq, hT_xq, hTta, hFt, hFr, hzt, hFd, hcn, hLT, hDI, hTou, hFou, hFro, hzo, hBq⟩ := hC
  have hG := hGc
  have hTS : TS F ta zt := ⟨hzt, rt, hFt⟩
  obtain ⟨hi_5, ⟨r_6, ht_7⟩, hi_8, ⟨r_9, ht_10⟩, hi_11, ht_12, hi_13, ⟨w0_14, w1_15, w2_16, w3_17, nm_18, te_19, ht_20⟩, hi_21, ⟨l1_22, lx_23, ly0_24, ly1_25, ly2_26, k1_27, kx_28, ky0_29, ky1_30, ky2_31, w0_32, w1_33, w2_34, w3_35, w4_36, w5_37, w6_38, w7_39, w8_40, tk_41, h1_42, hx_43, hy_44, hw_45, pw_46, px_47, py_48, pz_49, pu_50, ht_51⟩, hi_52, ⟨w0_53, w1_54, rc_55, rx_56, ry0_57, ry1_58, ry2_59, ht_60⟩, hi_61, ⟨hx_62, hy_63, hw_64, ht_65⟩⟩ := hW.gate hL_xq hT_xq
  obtain ⟨le_66, sp_67, μ_68, ν_69, hF_70, hq_71, hq_72, hq_73, hq_74, hq_75, hq_76⟩ := hO.gate hL_xq hT_xq
  obtain ⟨x_77, y0_78, y1_79, y2_80, ht_81⟩ := id hq_72
  obtain ⟨x_82, y0_83, y1_84, y2_85, ht_86⟩ := id hq_74
  obtain ⟨hiR, htR, -⟩ := hW.bytes hi_5 hTta
  obtain ⟨hi_87, ht_88⟩ := hW.dir hi_11 ht_12
  have hO0 := hO
  obtain ⟨hiO, htO, -⟩ := hW.bytes hi_8 hTou
  have hFc := pg_free hD hS hA
  refine va_calli (va_runV (As := [.int (xs (i + 1)), .int (xs (i + 2))]) (rest := []) ⟨hx, hb, hml, hown, hts⟩ (s_X11_sealed l dC dI cs ty L H.size F xq ρ ta ou di ea ck sl po hs zt (xs (i + 1)) (xs (i + 2)) hW hL_xq hT_xq hTS) ⟨callB_of 2 hts (gi kt_1276) rfl rfl rfl (hts _ kt_646) (hts _ kt_1277) (by decide +kernel) ⟨Nat.le_of_ble_eq_true rfl, Nat.le_of_ble_eq_true rfl⟩, (hts _ kt_1278), (hts _ kt_1279)⟩ ⟨fun a U g mk q => ⟨q.1, PTE.calling q.2⟩, pg_recv hK hP hL_xq hF_70 (q := (RX11, TX11, 9)) rfl, fun U hU hWm => ⟨rfl, PTE.mk hU hWm hP hK hD hE hO hG (fun x hx => absurd hx List.not_mem_nil) hS hFc⟩⟩ rfl rfl hl.1 rfl (lv_room (Nat.le_of_ble_eq_true rfl)) dL_law_340 ⟨by show _ + 0 ≤ 600000; omega, by show _ + 0 ≤ 7302250; omega⟩) hS (fun q _ h => hFc q h) hFc (fun r_89 u t H1 locs ht hvm hw hB hz1 hk1 hS => ?_)
  obtain ⟨F2, hB1, hf0⟩ := hB
  obtain ⟨hP, hD, hO, hR⟩ := QT.back hB1 ht hFc FR.refl (fun q h => h)
  have hM := hM.kept hBq hk1
  have hLT := hLT.fr hW hT_xq hB1.2.2.2 (fun q h => by simp only [List.mem_cons, List.not_mem_nil, or_false] at h; omega)
  have hDI := DIRC.fr hDI hO0 hW hi_87 ht_88 hcn hB1.2.2.2 (hB1.2.2.2 ea (by rw [ht_88]; simp)) (fun k hk => by simp only [List.mem_cons, List.not_mem_nil, or_false]; omega)
  have hC : PCl (dC, dI) cs A Bq xq zt ze f n bb zm fL sA sB sC DX zo fo H1 := ⟨L, F2, ty, ρ, ta, ou, di, ea, ck, sl, po, hs, rt, ro, ⟨hP, hD, hO, hW⟩, hL_xq, hT_xq, hTta, (hB1.2.2.2 ta (by rw [hTta]; simp)).trans hFt, (hB1.2.2.2 rt (by rw [htR]; simp)).trans hFr, hzt, (hB1.2.2.2 di (by rw [ht_12]; simp)).trans hFd, hcn, hLT, hDI, hTou, (hB1.2.2.2 ou (by rw [hTou]; simp)).trans hFou, (hB1.2.2.2 ro (by rw [htO]; simp)).trans hFro, hzo, hBq⟩
  generalize H1 = H at hC hM hS ⊢
  refine lv_pop hx hb dL_law_343 rfl ?_
  refine lv_aload_n hx hb dL_law_344 rfl (lv_at hl 1 rfl) ?_
  refine lv_aload_n hx hb dL_law_345 rfl (lv_at hl 3 rfl) ?_
  refine lv_iload_n hx hb dL_law_346 rfl (lv_at hl 0 rfl) ?_
  refine lv_iconst (v := 1) hx hb dL_law_347 (by decide) ?_
  refine lv_iadd hx hb dL_law_348 ?_
  refine lv_topi (fun x_90 ex_90 => ?_)
  obtain rfl : x_90 = (nI (i + 1)) := ex_90.trans (nI_add i 1)
  refine va_sld hx hb hX hbl hbA hS (vp_in_nI (by omega) (by omega)) dL_law_349 ?_
  refine lv_topi (fun x_91 ex_91 => ?_)
  obtain rfl : x_91 = (xs (i + 1)) := ex_91.trans (congrArg xs (nI_clamp (by omega)))
  refine lv_aload_n hx hb dL_law_350 rfl (lv_at hl 3 rfl) ?_
  refine lv_iload_n hx hb dL_law_351 rfl (lv_at hl 0 rfl) ?_
  refine lv_iconst (v := 2) hx hb dL_law_352 (by decide) ?_
  refine lv_iadd hx hb dL_law_353 ?_
  refine lv_topi (fun x_92 ex_92 => ?_)
  obtain rfl : x_92 = (nI (i + 2)) := ex_92.trans (nI_add i 2)
  refine va_sld hx hb hX hbl hbA hS (vp_in_nI (by omega) (by omega)) dL_law_354 ?_
  refine lv_topi (fun x_93 ex_93 => ?_)
  obtain rfl : x_93 = (xs (i + 2)) := ex_93.trans (congrArg xs (nI_clamp (by omega)))
  obtain ⟨L, F, ty, ρ, ta, ou, so, ad, na, va, lc, dm, tg, pe, ml, bg, co, sp, nb0, nb1, nb2, pl, se, ke, wi, hs, mo, po, nu, pr, sq, xa, sa, n64, m64, ex, wh, sd, tk, hd, ak, ho, ot, sx, s0, s1, s2, ⟨hP, hD, hO, hW⟩, hL_h0, hT_h0, hFta, hFml, hDM, hFou, hn01, hn02, hn12, hU26, hU15, hBq⟩ := hM
  have hG := hGm
  obtain ⟨hq_116, hq_117, hq_118, hq_119, hq_120, hgO, hgA, hgB⟩ := hW.sc hL_h0 hT_h0
  obtain ⟨v11_121, v12_122, v14_123, v15_124, v17_125, v18_126, v19_127, v20_128, v21_129, v22_130, v33_131, v52_132, v53_133, v54_134, hF_135, hq_136, hq_137, hq_138, hq_139⟩ := hO.mod hL_h0 hT_h0
  obtain ⟨hi_140, ht_141⟩ := hW.f_se hL_h0 hT_h0
  obtain ⟨hi_142, hi_143, hi_144, hi_145, ⟨r_146, ht_147⟩, ht_148, ht_149, ht_150, hq_151, hq_152⟩ := hW.tags hi_140 ht_141
  have ht_147 : ty sx = (14, ρ + 12, [r_146, 3000]) := ht_147
  obtain ⟨hi_153, ht_154⟩ := hW.f_ta hL_h0 hT_h0
  obtain ⟨hLs0, hTs0⟩ := hW.f_so hL_h0 hT_h0
  obtain ⟨hLd0, hTd0⟩ := hW.f_ad hL_h0 hT_h0
  obtain ⟨hLn0, hTn0⟩ := hW.f_na hL_h0 hT_h0
  obtain ⟨hLv0, hTv0⟩ := hW.f_va hL_h0 hT_h0
  have hO0 := hO
  obtain ⟨hi_155, r_97, ht_156⟩ := hW.f_pl hL_h0 hT_h0
  have hFc := pg_free hD hS hA
  refine va_calli (va_runV (As := [.int (xs (i + 1)), .int (xs (i + 2))]) (rest := []) ⟨hx, hb, hml, hown, hts⟩ (s_X15_sealed l dC dI cs ty gm L H.size F h0 ρ ta ou so ad na va lc dm tg pe ml bg co sp nb0 nb1 nb2 pl se ke wi hs mo po nu pr sq xa sa n64 m64 ex wh sd tk hd ak ho ot sx s0 s1 s2 nf bd mm zo ze zt r_146 r_97 (xs (i + 1)) (xs (i + 2)) hW hL_h0 hT_h0 hi_142 ht_147 hi_155 ht_156) ⟨callB_of 2 hts (gi kt_1280) rfl rfl rfl (hts _ kt_659) (hts _ kt_1281) (by decide +kernel) ⟨Nat.le_of_ble_eq_true rfl, Nat.le_of_ble_eq_true rfl⟩, (hts _ kt_1282), (hts _ kt_1283)⟩ ⟨fun a U g mk q => ⟨q.1, PTEm.calling q.2⟩, pg_recv hK hP hL_h0 hF_135 (q := (RX15, TX15, 59)) rfl, fun U hU hWm => ⟨rfl, PTEm.mk hU hWm hP hK hD hE hO hG (fun x hx => absurd hx List.not_mem_nil) hS hFc⟩⟩ rfl rfl hl.1 rfl (lv_room (Nat.le_of_ble_eq_true rfl)) dL_law_355 ⟨by show _ + 0 ≤ 600000; omega, by show _ + 0 ≤ 7302250; omega⟩) hS (fun q _ h => hFc q h) hFc (fun r_157 u t H1 locs ht hvm hw hB hz1 hk1 hS => ?_)
  obtain ⟨F2, hB1⟩ := hB
  obtain ⟨hP, hD, hO, hR⟩ := QTm.back hB1 ht hFc FR.refl (fun q h => h)
  have hC := hC.kept hBq hk1
  obtain ⟨hi_158, ht_159⟩ := hW.f_ml hL_h0 hT_h0
  have hR9 := hB1.2.2.2
  have hDM := DIRM.fr hDM hO0 hW hLn0 hTn0 hLv0 hTv0 hcn hR9 (hR9 so (by rw [hTs0]; simp)) (hR9 ad (by rw [hTd0]; simp)) (hR9 na (by rw [hTn0]; simp)) (hR9 va (by rw [hTv0]; simp)) (fun k hk => ⟨by simp only [List.mem_cons, List.not_mem_nil, or_false]; omega, by simp only [List.mem_cons, List.not_mem_nil, or_false]; omega⟩)
  obtain ⟨hi_160, ht_161⟩ := hW.f_ou hL_h0 hT_h0
  have hM : PMl (dC, dI) cs A Bq h0 zt ze gt nf bd mm gm gl EX zo go H1 := ⟨L, F2, ty, ρ, ta, ou, so, ad, na, va, lc, dm, tg, pe, ml, bg, co, sp, nb0, nb1, nb2, pl, se, ke, wi, hs, mo, po, nu, pr, sq, xa, sa, n64, m64, ex, wh, sd, tk, hd, ak, ho, ot, sx, s0, s1, s2, ⟨hP, hD, hO, hW⟩, hL_h0, hT_h0, (hB1.2.2.2 ta (by rw [ht_154]; simp)).trans hFta, (hB1.2.2.2 ml (by rw [ht_159]; simp)).trans hFml, hDM, (hB1.2.2.2 ou (by rw [ht_161]; simp)).trans hFou, hn01, hn02, hn12, hU26, hU15, hBq⟩
  generalize H1 = H at hC hM hS ⊢
  refine lv_pop hx hb dL_law_358 rfl ?_
  refine lv_goto (tgt := 522) hx hb dL_law_359 (by decide) ?_
  refine W.widen (k := cc + 1) (n := ss + 5) (by omega) (by omega) ?_
  exact kk zt ze f gt n bb zm fL sA sB sC DX zo fo nf bd mm gm gl EX go _ _ _ (by omega) hcn (hrel) hlr hdr hro hC hM hS hl
