theorem kt_1284 : Cond.code yX11_plainBody cX11_plainBody 2 (some .int) ∈ tb := tb_at (i := 1086) (by decide +kernel) (by decide +kernel)
theorem kt_1285 : Cond.methodLink RL 57 yX11_plainBody ∈ tb := tb_at (i := 1083) (by decide +kernel) (by decide +kernel)
theorem kt_1286 : Cond.instanceMethod yX11_plainBody ∈ tb := tb_at (i := 1084) (by decide +kernel) (by decide +kernel)
theorem kt_1287 : Cond.selects RX11 yX11_plainBody yX11_plainBody ∈ tb := tb_at (i := 1085) (by decide +kernel) (by decide +kernel)
theorem kt_1288 : Cond.code yX15_plainBody cX15_plainBody 2 (some .int) ∈ tb := tb_at (i := 1666) (by decide +kernel) (by decide +kernel)
theorem kt_1289 : Cond.methodLink RL 61 yX15_plainBody ∈ tb := tb_at (i := 1663) (by decide +kernel) (by decide +kernel)
theorem kt_1290 : Cond.instanceMethod yX15_plainBody ∈ tb := tb_at (i := 1664) (by decide +kernel) (by decide +kernel)
theorem kt_1291 : Cond.selects RX15 yX15_plainBody yX15_plainBody ∈ tb := tb_at (i := 1665) (by decide +kernel) (by decide +kernel)
theorem kt_1292 : Cond.code yX11_plainField cX11_plainField 3 (some .int) ∈ tb := tb_at (i := 1091) (by decide +kernel) (by decide +kernel)
theorem kt_1293 : Cond.methodLink RL 62 yX11_plainField ∈ tb := tb_at (i := 1088) (by decide +kernel) (by decide +kernel)
theorem kt_1294 : Cond.instanceMethod yX11_plainField ∈ tb := tb_at (i := 1089) (by decide +kernel) (by decide +kernel)
theorem kt_1295 : Cond.selects RX11 yX11_plainField yX11_plainField ∈ tb := tb_at (i := 1090) (by decide +kernel) (by decide +kernel)
theorem kt_1296 : Cond.code yX15_plainField cX15_plainField 3 (some .int) ∈ tb := tb_at (i := 1678) (by decide +kernel) (by decide +kernel)
theorem kt_1297 : Cond.methodLink RL 66 yX15_plainField ∈ tb := tb_at (i := 1675) (by decide +kernel) (by decide +kernel)
theorem kt_1298 : Cond.instanceMethod yX15_plainField ∈ tb := tb_at (i := 1676) (by decide +kernel) (by decide +kernel)
theorem kt_1299 : Cond.selects RX15 yX15_plainField yX15_plainField ∈ tb := tb_at (i := 1677) (by decide +kernel) (by decide +kernel)
set_option maxHeartbeats 4000000 in
set_option maxRecDepth 100000 in
theorem law_10 {p : Program} {l : Launch} {e : Env} {s : State} {m : MethodId} {below : List Frame} {meth : Method} {c : Code} {A Bq : Nat → Prop} {dC : Nat → ClassId} {dI : Nat → Nat → Nat} {cs : Nat → ClassId} {b Ln : Nat} {xs : Nat → Int32} (C0 : LC p s m meth c A dC dI cs b Ln xs) {xq h0 i zt ze cc ss : Nat} {f gt : Nat → Int32} {n : Nat} {bb : Int32} {zm : Nat} {fL sA sB sC : Nat → Int32} {DX : Nat → ETY} {SD : SDR} {aS vS : Int32} {c9 u9 : Nat} {nf bd mm : Nat} {gm : Nat → Nat → Nat} {gl : Nat → Int32} {EX : Nat → ETY} {fm sn : Nat} {LC DN : List Nat} {gc gv : Nat} (hi : i + 6 ≤ Ln) (hLn : Ln ≤ 384) (hnz : zt ≤ 1280) (hcc : cc + 1 ≤ 600000) (hss : ss + 5 ≤ 7302250) {H : Heap} {locs : List Loc} {ls : Array Slot} (hrel : REL f gt zt) (hlr : LRL n bb zm fL sA sB sC nf bd mm gm gl) (hdr : DREL DX EX ze) (hsr : SRL SD aS vS fm sn LC DN) (hvn : VNI EX ze) (hce : c9 = gc ∧ u9 = gv) (hC : PCl (dC, dI) cs A Bq xq zt ze f n bb zm fL sA sB sC DX SD aS vS c9 u9 H) (hM : PMl (dC, dI) cs A Bq h0 zt ze gt nf bd mm gm gl EX fm sn LC DN gc gv H) (hS : va_S A s.heap H locs) (hl : lv_has ls 4 [(3, .int (nI i)), (2, .ref h0), (1, .ref xq), (0, .ref b)]) (kk : ∀ (z2 c2 : Nat) (f2 g2 : Nat → Int32) (n : Nat) (bb : Int32) (zm : Nat) (fL sA sB sC : Nat → Int32) (DX : Nat → ETY) (SD : SDR) (aS vS : Int32) (c9 u9 : Nat) (nf bd mm : Nat) (gm : Nat → Nat → Nat) (gl : Nat → Int32) (EX : Nat → ETY) (fm sn : Nat) (LC DN : List Nat) (gc gv : Nat) (H : Heap) (locs : List Loc) (ls : Array Slot), z2 ≤ zt + 20 → c2 ≤ 40 → REL f2 g2 z2 → LRL n bb zm fL sA sB sC nf bd mm gm gl → DREL DX EX c2 → SRL SD aS vS fm sn LC DN → VNI EX c2 → (c9 = gc ∧ u9 = gv) → PCl (dC, dI) cs A Bq xq z2 c2 f2 n bb zm fL sA sB sC DX SD aS vS c9 u9 H → PMl (dC, dI) cs A Bq h0 z2 c2 g2 nf bd mm gm gl EX fm sn LC DN gc gv H → va_S A s.heap H locs → lv_has ls 4 [(3, .int (nI i)), (2, .ref h0), (1, .ref xq), (0, .ref b)] → W p l e room_1 s m #[Value.ref b] below meth c H locs (cc + 1) (ss + 5) (lw_Z below #[Value.ref b] s) (F0 m 522 ls [])) : W p l e room_1 s m #[Value.ref b] below meth c H locs cc ss (lw_Z below #[Value.ref b] s) (F0 m 362 ls []) := by
  obtain ⟨hx, hb, hr, hml, hown, hts, hX, hbl, hbA, hlocks, hE, hGc, hGm, hK, hA, hAs⟩ := id C0
  refine lv_aload_n hx hb dL_law_362 rfl (lv_at hl 2 rfl) ?_
  refine lv_aload_n hx hb dL_law_363 rfl (lv_at hl 3 rfl) ?_
  refine lv_iload_n hx hb dL_law_364 rfl (lv_at hl 0 rfl) ?_
  refine lv_iconst (v := 1) hx hb dL_law_365 (by decide) ?_
  refine lv_iadd hx hb dL_law_366 ?_
  refine lv_topi (fun x_1 ex_1 => ?_)
  obtain rfl : x_1 = (nI (i + 1)) := ex_1.trans (nI_add i 1)
  refine va_sld hx hb hX hbl hbA hS (vp_in_nI (by omega) (by omega)) dL_law_367 ?_
  refine lv_topi (fun x_2 ex_2 => ?_)
  obtain rfl : x_2 = (xs (i + 1)) := ex_2.trans (congrArg xs (nI_clamp (by omega)))
  refine lv_if_eq (tgt := 375) hx hb dL_law_368 (by decide) (fun c_3 => ?_) (fun c_3 => ?_)
  ·
    refine lv_iconst (v := 0) hx hb dL_law_375 (by decide) ?_
    obtain ⟨L, F, ty, ρ, ta, ou, di, ea, ck, sl, po, hs, rt, ca0, ca1, ca2, ca3, cnm, cte, ⟨hP, hD, hO, hW⟩, hL_xq, hT_xq, hTta, hFt, hFr, hzt, hFd, hcn, hLT, hDI, hTck, hFk, hSD, hCol, hBq⟩ := hC
    have hG := hGc
    have hTS : TS F ta zt := ⟨hzt, rt, hFt⟩
    obtain ⟨le, sp, μ, ν, x, y0, y1, y2, rx, x9, w0, w1, w2, rx9, o, hm, l1, l2, l3, l4, l5, l6, l7, l8, l9, l10, l11, l12, l13, l14, l15, l16⟩ := id hLT
    have hF_xq := l1
    obtain ⟨hi_4, ⟨r_5, ht_6⟩, hi_7, ⟨r_8, ht_9⟩, hi_10, ht_11, hi_12, ⟨w0_13, w1_14, w2_15, w3_16, nm_17, te_18, ht_19⟩, hi_20, ⟨l1_21, lx_22, ly0_23, ly1_24, ly2_25, k1_26, kx_27, ky0_28, ky1_29, ky2_30, w0_31, w1_32, w2_33, w3_34, w4_35, w5_36, w6_37, w7_38, w8_39, tk_40, h1_41, hx_42, hy_43, hw_44, pw_45, px_46, py_47, pz_48, pu_49, ht_50⟩, hi_51, ⟨w0_52, w1_53, rc_54, rx_55, ry0_56, ry1_57, ry2_58, ht_59⟩, hi_60, ⟨hx_61, hy_62, hw_63, ht_64⟩⟩ := hW.gate hL_xq hT_xq
    obtain ⟨le_65, sp_66, μ_67, ν_68, hF_69, hq_70, hq_71, hq_72, hq_73, hq_74, hq_75⟩ := hO.gate hL_xq hT_xq
    obtain ⟨x_76, y0_77, y1_78, y2_79, ht_80⟩ := id hq_71
    obtain ⟨x_81, y0_82, y1_83, y2_84, ht_85⟩ := id hq_73
    obtain ⟨hiR, htR, -⟩ := hW.bytes hi_4 hTta
    obtain ⟨hi_86, ht_87⟩ := hW.dir hi_10 ht_11
    have hO0 := hO
    obtain ⟨hi_88, ht_89, hi_90, ⟨r_91, ht_92⟩, hi_93, ⟨r_94, ht_95⟩, hi_96, ⟨r_97, ht_98⟩, hi_99, ⟨r_100, ht_101⟩, hi_102, ht_103, hi_104, ht_105⟩ := hW.chk hi_12 hTck
    have ht_92 : ty ca0 = (0, ρ + 36, [r_91, 91]) := ht_92
    have ht_95 : ty ca1 = (0, ρ + 37, [r_94, 30]) := ht_95
    have ht_98 : ty ca2 = (0, ρ + 38, [r_97, 60]) := ht_98
    have ht_101 : ty ca3 = (0, ρ + 39, [r_100, 15]) := ht_101
    have ht_103 : ty cnm = (20, ρ + 40, [12]) := ht_103
    have ht_105 : ty cte = (22, ρ + 41, [11]) := ht_105
    obtain ⟨lx9, -, -, -, -, -, -, -⟩ := hW.msg l2 l3
    have hpf := hlr.pos
    have hFc := pg_free hD hS hA
    refine va_calli (va_runV (As := [.int 0]) (rest := []) ⟨hx, hb, hml, hown, hts⟩ (s_X11_plainBody_x l dC dI cs ty L H.size F xq ρ ta ou di ea ck sl po hs le x y0 y1 y2 sp rx r_8 n zm μ bd fL bb o 0 hW hL_xq hT_xq hi_7 ht_9 l2 l3 lx9 l6 l1 l9 l10 l11 l8 l15 (by omega) hlr.bs) ⟨callB_of 1 hts (gi kt_1284) rfl rfl rfl (hts _ kt_664) (hts _ kt_1285) (by decide +kernel) ⟨Nat.le_of_ble_eq_true rfl, Nat.le_of_ble_eq_true rfl⟩, (hts _ kt_1286), (hts _ kt_1287)⟩ ⟨fun a U g mk q => ⟨q.1, PT.calling q.2⟩, pg_recv hK hP hL_xq hF_69 (q := (RX11, TX11, 9)) rfl, fun U hU hWm => ⟨rfl, PT.mk hU hWm hP hK hD hE hO⟩⟩ rfl rfl hl.1 rfl (lv_room (Nat.le_of_ble_eq_true rfl)) dL_law_376 ⟨by show _ + 0 ≤ 600000; omega, by show _ + 0 ≤ 7302250; omega⟩) hS (fun q _ h => hFc q h) hFc (fun r_106 u t H1 locs ht hvm hw hB hz1 hk1 hS => ?_)
    obtain ⟨F2, hB1⟩ := hB
    obtain ⟨hP, hD, hO, hR⟩ := QT.back hB1 ht hFc FR.refl (fun q h => h)
    have hM := hM.kept hBq hk1
    have hLT := hLT.fr hW hT_xq hB1.2.2.2 (fun q h => by simp only [List.mem_cons, List.not_mem_nil, or_false] at h; omega)
    have hE1 := hw
    have hln20 := l8
    have hCol9 := hCol
    have hDI := DIRC.fr hDI hO0 hW hi_86 ht_87 hcn hB1.2.2.2 (hB1.2.2.2 ea (by rw [ht_87]; simp)) (fun k hk => by simp only [List.mem_cons, List.not_mem_nil, or_false]; omega)
    have hFk9 := (hB1.2.2.2 ck (by rw [hTck]; simp)).trans hFk
    have hSD9 := hSD.imp id (fun q => q.fr hO0 hW hi_90 ht_92 hi_93 ht_95 hi_96 ht_98 hi_99 ht_101 hB1.2.2.2 (fun k9 h1 h2 => by simp only [List.mem_cons, List.not_mem_nil, or_false]; omega))
    have hC : PCl (dC, dI) cs A Bq xq zt ze f n bb zm fL sA sB sC DX SD aS vS c9 u9 H1 := ⟨L, F2, ty, ρ, ta, ou, di, ea, ck, sl, po, hs, rt, ca0, ca1, ca2, ca3, cnm, cte, ⟨hP, hD, hO, hW⟩, hL_xq, hT_xq, hTta, (hB1.2.2.2 ta (by rw [hTta]; simp)).trans hFt, (hB1.2.2.2 rt (by rw [htR]; simp)).trans hFr, hzt, (hB1.2.2.2 di (by rw [ht_89]; simp)).trans hFd, hcn, hLT, hDI, hTck, hFk9, hSD9, hCol9, hBq⟩
    generalize H1 = H at hC hM hS ⊢
    refine lv_pop hx hb dL_law_379 rfl ?_
    refine lv_aload_n hx hb dL_law_380 rfl (lv_at hl 1 rfl) ?_
    refine lv_aload_n hx hb dL_law_381 rfl (lv_at hl 3 rfl) ?_
    refine lv_iload_n hx hb dL_law_382 rfl (lv_at hl 0 rfl) ?_
    refine lv_iconst (v := 1) hx hb dL_law_383 (by decide) ?_
    refine lv_iadd hx hb dL_law_384 ?_
    refine lv_topi (fun x_107 ex_107 => ?_)
    obtain rfl : x_107 = (nI (i + 1)) := ex_107.trans (nI_add i 1)
    refine va_sld hx hb hX hbl hbA hS (vp_in_nI (by omega) (by omega)) dL_law_385 ?_
    refine lv_topi (fun x_108 ex_108 => ?_)
    obtain rfl : x_108 = (xs (i + 1)) := ex_108.trans (congrArg xs (nI_clamp (by omega)))
    refine lv_if_eq (tgt := 393) hx hb dL_law_386 (by decide) (fun c_109 => ?_) (fun c_109 => absurd (c_3) c_109)
    refine lv_iconst (v := 0) hx hb dL_law_393 (by decide) ?_
    obtain ⟨L, F, ty, ρ, ta, ou, so, ad, na, va, lc, dm, tg, pe, ml, bg, co, sp, nb0, nb1, nb2, pl, se, ke, wi, hs, mo, po, nu, pr, sq, xa, sa, n64, m64, ex, wh, sd, tk, hd, ak, ho, ot, sx, s0, s1, s2, ⟨hP, hD, hO, hW⟩, hL_h0, hT_h0, hFta, hFml, hDM, hSN, hn01, hn02, hn12, hU26, hU15, hBq⟩ := hM
    have hG := hGm
    obtain ⟨hq_132, hq_133, hq_134, hq_135, hq_136, hgO, hgA, hgB, hq_137⟩ := hW.sc hL_h0 hT_h0
    obtain ⟨zo_138, v14_139, v15_140, v17_141, v18_142, v19_143, v20_144, v21_145, v22_146, v33_147, v52_148, v53_149, v54_150, hF_151, hq_152, hq_153, hq_154, hq_155, hq_156⟩ := hO.mod hL_h0 hT_h0
    obtain ⟨hi_157, ht_158⟩ := hW.f_ta hL_h0 hT_h0
    obtain ⟨hLs0, hTs0⟩ := hW.f_so hL_h0 hT_h0
    obtain ⟨hLd0, hTd0⟩ := hW.f_ad hL_h0 hT_h0
    obtain ⟨hLn0, hTn0⟩ := hW.f_na hL_h0 hT_h0
    obtain ⟨hLv0, hTv0⟩ := hW.f_va hL_h0 hT_h0
    have hO0 := hO
    obtain ⟨hi_159, r_110, ht_160⟩ := hW.f_lc hL_h0 hT_h0
    obtain ⟨hi_161, ht_162, hq_163⟩ := hW.txt hi_159 ht_160
    obtain ⟨hi_164, r_111, ht_165⟩ := hW.f_dm hL_h0 hT_h0
    obtain ⟨hi_166, ht_167, hq_168⟩ := hW.txt hi_164 ht_165
    obtain ⟨hi_169, r_112, ht_170⟩ := hW.f_pe hL_h0 hT_h0
    obtain ⟨hi_171, ht_172, hq_173⟩ := hW.txt hi_169 ht_170
    obtain ⟨hi_174, r_113, ht_175⟩ := hW.f_pl hL_h0 hT_h0
    obtain ⟨hi_176, ht_177, hq_178⟩ := hW.txt hi_174 ht_175
    have hFc := pg_free hD hS hA
    refine va_calli (va_runV (As := [.int 0]) (rest := []) ⟨hx, hb, hml, hown, hts⟩ (s_X15_plainBody_x l dC dI cs ty gm L H.size F h0 ρ ta ou so ad na va lc dm tg pe ml bg co sp nb0 nb1 nb2 pl se ke wi hs mo po nu pr sq xa sa n64 m64 ex wh sd tk hd ak ho ot sx s0 s1 s2 nf bd mm fm sn 1 gc gv ze zt r_113 gl 0 hW hL_h0 hT_h0 hi_174 ht_175 hFml) ⟨callB_of 1 hts (gi kt_1288) rfl rfl rfl (hts _ kt_669) (hts _ kt_1289) (by decide +kernel) ⟨Nat.le_of_ble_eq_true rfl, Nat.le_of_ble_eq_true rfl⟩, (hts _ kt_1290), (hts _ kt_1291)⟩ ⟨fun a U g mk q => ⟨q.1, PTm.calling q.2⟩, pg_recv hK hP hL_h0 hF_151 (q := (RX15, TX15, 59)) rfl, fun U hU hWm => ⟨rfl, PTm.mk hU hWm hP hK hD hE hO⟩⟩ rfl rfl hl.1 rfl (lv_room (Nat.le_of_ble_eq_true rfl)) dL_law_394 ⟨by show _ + 0 ≤ 600000; omega, by show _ + 0 ≤ 7302250; omega⟩) hS (fun q _ h => hFc q h) hFc (fun r_179 u t H1 locs ht hvm hw hB hz1 hk1 hS => ?_)
    obtain ⟨F2, hB1⟩ := hB
    obtain ⟨hP, hD, hO, hR⟩ := QTm.back hB1 ht hFc FR.refl (fun q h => h)
    have hC := hC.kept hBq hk1
    obtain ⟨hi_180, ht_181⟩ := hW.f_ml hL_h0 hT_h0
    have hR9 := hB1.2.2.2
    have hDM := DIRM.fr hDM hO0 hW hLn0 hTn0 hLv0 hTv0 hcn hR9 (hR9 so (by rw [hTs0]; simp)) (hR9 ad (by rw [hTd0]; simp)) (hR9 na (by rw [hTn0]; simp)) (hR9 va (by rw [hTv0]; simp)) (fun k hk => ⟨by simp only [List.mem_cons, List.not_mem_nil, or_false]; omega, by simp only [List.mem_cons, List.not_mem_nil, or_false]; omega⟩)
    have hSN9 := hSN.imp id (fun q => And.intro (q.1.fr hO0 hW hi_159 ht_160 hR9 (by simp only [List.mem_cons, List.not_mem_nil, or_false]; omega)) (q.2.fr hO0 hW hi_164 ht_165 hR9 (by simp only [List.mem_cons, List.not_mem_nil, or_false]; omega)))
    have hM : PMl (dC, dI) cs A Bq h0 zt ze gt nf bd mm gm gl EX fm sn LC DN gc gv H1 := ⟨L, F2, ty, ρ, ta, ou, so, ad, na, va, lc, dm, tg, pe, ml, bg, co, sp, nb0, nb1, nb2, pl, se, ke, wi, hs, mo, po, nu, pr, sq, xa, sa, n64, m64, ex, wh, sd, tk, hd, ak, ho, ot, sx, s0, s1, s2, ⟨hP, hD, hO, hW⟩, hL_h0, hT_h0, (hB1.2.2.2 ta (by rw [ht_158]; simp)).trans hFta, (hB1.2.2.2 ml (by rw [ht_181]; simp)).trans hFml, hDM, hSN9, hn01, hn02, hn12, hU26, hU15, hBq⟩
    have er := hlr.pb hE1 hw
    generalize H1 = H at hC hM hS ⊢
    refine lv_pop hx hb dL_law_397 rfl ?_
    refine lv_goto (tgt := 522) hx hb dL_law_398 (by decide) ?_
    refine W.widen (k := cc + 1) (n := ss + 5) (by omega) (by omega) ?_
    exact kk zt ze f gt n bb zm fL sA sB sC DX SD aS vS c9 u9 nf bd mm gm gl EX fm sn LC DN gc gv _ _ _ (by omega) hcn (hrel) hlr hdr hsr hvn hce hC hM hS hl
  ·
    refine lv_iconst (v := 1) hx hb dL_law_371 (by decide) ?_
    refine lv_goto (tgt := 376) hx hb dL_law_372 (by decide) ?_
    obtain ⟨L, F, ty, ρ, ta, ou, di, ea, ck, sl, po, hs, rt, ca0, ca1, ca2, ca3, cnm, cte, ⟨hP, hD, hO, hW⟩, hL_xq, hT_xq, hTta, hFt, hFr, hzt, hFd, hcn, hLT, hDI, hTck, hFk, hSD, hCol, hBq⟩ := hC
    have hG := hGc
    have hTS : TS F ta zt := ⟨hzt, rt, hFt⟩
    obtain ⟨le, sp, μ, ν, x, y0, y1, y2, rx, x9, w0, w1, w2, rx9, o, hm, l1, l2, l3, l4, l5, l6, l7, l8, l9, l10, l11, l12, l13, l14, l15, l16⟩ := id hLT
    have hF_xq := l1
    obtain ⟨hi_182, ⟨r_183, ht_184⟩, hi_185, ⟨r_186, ht_187⟩, hi_188, ht_189, hi_190, ⟨w0_191, w1_192, w2_193, w3_194, nm_195, te_196, ht_197⟩, hi_198, ⟨l1_199, lx_200, ly0_201, ly1_202, ly2_203, k1_204, kx_205, ky0_206, ky1_207, ky2_208, w0_209, w1_210, w2_211, w3_212, w4_213, w5_214, w6_215, w7_216, w8_217, tk_218, h1_219, hx_220, hy_221, hw_222, pw_223, px_224, py_225, pz_226, pu_227, ht_228⟩, hi_229, ⟨w0_230, w1_231, rc_232, rx_233, ry0_234, ry1_235, ry2_236, ht_237⟩, hi_238, ⟨hx_239, hy_240, hw_241, ht_242⟩⟩ := hW.gate hL_xq hT_xq
    obtain ⟨le_243, sp_244, μ_245, ν_246, hF_247, hq_248, hq_249, hq_250, hq_251, hq_252, hq_253⟩ := hO.gate hL_xq hT_xq
    obtain ⟨x_254, y0_255, y1_256, y2_257, ht_258⟩ := id hq_249
    obtain ⟨x_259, y0_260, y1_261, y2_262, ht_263⟩ := id hq_251
    obtain ⟨hiR, htR, -⟩ := hW.bytes hi_182 hTta
    obtain ⟨hi_264, ht_265⟩ := hW.dir hi_188 ht_189
    have hO0 := hO
    obtain ⟨hi_266, ht_267, hi_268, ⟨r_269, ht_270⟩, hi_271, ⟨r_272, ht_273⟩, hi_274, ⟨r_275, ht_276⟩, hi_277, ⟨r_278, ht_279⟩, hi_280, ht_281, hi_282, ht_283⟩ := hW.chk hi_190 hTck
    have ht_270 : ty ca0 = (0, ρ + 36, [r_269, 91]) := ht_270
    have ht_273 : ty ca1 = (0, ρ + 37, [r_272, 30]) := ht_273
    have ht_276 : ty ca2 = (0, ρ + 38, [r_275, 60]) := ht_276
    have ht_279 : ty ca3 = (0, ρ + 39, [r_278, 15]) := ht_279
    have ht_281 : ty cnm = (20, ρ + 40, [12]) := ht_281
    have ht_283 : ty cte = (22, ρ + 41, [11]) := ht_283
    obtain ⟨lx9, -, -, -, -, -, -, -⟩ := hW.msg l2 l3
    have hpf := hlr.pos
    have hFc := pg_free hD hS hA
    refine va_calli (va_runV (As := [.int 1]) (rest := []) ⟨hx, hb, hml, hown, hts⟩ (s_X11_plainBody_x l dC dI cs ty L H.size F xq ρ ta ou di ea ck sl po hs le x y0 y1 y2 sp rx r_186 n zm μ bd fL bb o 1 hW hL_xq hT_xq hi_185 ht_187 l2 l3 lx9 l6 l1 l9 l10 l11 l8 l15 (by omega) hlr.bs) ⟨callB_of 1 hts (gi kt_1284) rfl rfl rfl (hts _ kt_664) (hts _ kt_1285) (by decide +kernel) ⟨Nat.le_of_ble_eq_true rfl, Nat.le_of_ble_eq_true rfl⟩, (hts _ kt_1286), (hts _ kt_1287)⟩ ⟨fun a U g mk q => ⟨q.1, PT.calling q.2⟩, pg_recv hK hP hL_xq hF_247 (q := (RX11, TX11, 9)) rfl, fun U hU hWm => ⟨rfl, PT.mk hU hWm hP hK hD hE hO⟩⟩ rfl rfl hl.1 rfl (lv_room (Nat.le_of_ble_eq_true rfl)) dL_law_376 ⟨by show _ + 0 ≤ 600000; omega, by show _ + 0 ≤ 7302250; omega⟩) hS (fun q _ h => hFc q h) hFc (fun r_284 u t H1 locs ht hvm hw hB hz1 hk1 hS => ?_)
    obtain ⟨F2, hB1⟩ := hB
    obtain ⟨hP, hD, hO, hR⟩ := QT.back hB1 ht hFc FR.refl (fun q h => h)
    have hM := hM.kept hBq hk1
    have hLT := hLT.fr hW hT_xq hB1.2.2.2 (fun q h => by simp only [List.mem_cons, List.not_mem_nil, or_false] at h; omega)
    have hE1 := hw
    have hln20 := l8
    have hCol9 := hCol
    have hDI := DIRC.fr hDI hO0 hW hi_264 ht_265 hcn hB1.2.2.2 (hB1.2.2.2 ea (by rw [ht_265]; simp)) (fun k hk => by simp only [List.mem_cons, List.not_mem_nil, or_false]; omega)
    have hFk9 := (hB1.2.2.2 ck (by rw [hTck]; simp)).trans hFk
    have hSD9 := hSD.imp id (fun q => q.fr hO0 hW hi_268 ht_270 hi_271 ht_273 hi_274 ht_276 hi_277 ht_279 hB1.2.2.2 (fun k9 h1 h2 => by simp only [List.mem_cons, List.not_mem_nil, or_false]; omega))
    have hC : PCl (dC, dI) cs A Bq xq zt ze f n bb zm fL sA sB sC DX SD aS vS c9 u9 H1 := ⟨L, F2, ty, ρ, ta, ou, di, ea, ck, sl, po, hs, rt, ca0, ca1, ca2, ca3, cnm, cte, ⟨hP, hD, hO, hW⟩, hL_xq, hT_xq, hTta, (hB1.2.2.2 ta (by rw [hTta]; simp)).trans hFt, (hB1.2.2.2 rt (by rw [htR]; simp)).trans hFr, hzt, (hB1.2.2.2 di (by rw [ht_267]; simp)).trans hFd, hcn, hLT, hDI, hTck, hFk9, hSD9, hCol9, hBq⟩
    generalize H1 = H at hC hM hS ⊢
    refine lv_pop hx hb dL_law_379 rfl ?_
    refine lv_aload_n hx hb dL_law_380 rfl (lv_at hl 1 rfl) ?_
    refine lv_aload_n hx hb dL_law_381 rfl (lv_at hl 3 rfl) ?_
    refine lv_iload_n hx hb dL_law_382 rfl (lv_at hl 0 rfl) ?_
    refine lv_iconst (v := 1) hx hb dL_law_383 (by decide) ?_
    refine lv_iadd hx hb dL_law_384 ?_
    refine lv_topi (fun x_285 ex_285 => ?_)
    obtain rfl : x_285 = (nI (i + 1)) := ex_285.trans (nI_add i 1)
    refine va_sld hx hb hX hbl hbA hS (vp_in_nI (by omega) (by omega)) dL_law_385 ?_
    refine lv_topi (fun x_286 ex_286 => ?_)
    obtain rfl : x_286 = (xs (i + 1)) := ex_286.trans (congrArg xs (nI_clamp (by omega)))
    refine lv_if_eq (tgt := 393) hx hb dL_law_386 (by decide) (fun c_287 => absurd c_287 (c_3)) (fun c_287 => ?_)
    refine lv_iconst (v := 1) hx hb dL_law_389 (by decide) ?_
    refine lv_goto (tgt := 394) hx hb dL_law_390 (by decide) ?_
    obtain ⟨L, F, ty, ρ, ta, ou, so, ad, na, va, lc, dm, tg, pe, ml, bg, co, sp, nb0, nb1, nb2, pl, se, ke, wi, hs, mo, po, nu, pr, sq, xa, sa, n64, m64, ex, wh, sd, tk, hd, ak, ho, ot, sx, s0, s1, s2, ⟨hP, hD, hO, hW⟩, hL_h0, hT_h0, hFta, hFml, hDM, hSN, hn01, hn02, hn12, hU26, hU15, hBq⟩ := hM
    have hG := hGm
    obtain ⟨hq_310, hq_311, hq_312, hq_313, hq_314, hgO, hgA, hgB, hq_315⟩ := hW.sc hL_h0 hT_h0
    obtain ⟨zo_316, v14_317, v15_318, v17_319, v18_320, v19_321, v20_322, v21_323, v22_324, v33_325, v52_326, v53_327, v54_328, hF_329, hq_330, hq_331, hq_332, hq_333, hq_334⟩ := hO.mod hL_h0 hT_h0
    obtain ⟨hi_335, ht_336⟩ := hW.f_ta hL_h0 hT_h0
    obtain ⟨hLs0, hTs0⟩ := hW.f_so hL_h0 hT_h0
    obtain ⟨hLd0, hTd0⟩ := hW.f_ad hL_h0 hT_h0
    obtain ⟨hLn0, hTn0⟩ := hW.f_na hL_h0 hT_h0
    obtain ⟨hLv0, hTv0⟩ := hW.f_va hL_h0 hT_h0
    have hO0 := hO
    obtain ⟨hi_337, r_288, ht_338⟩ := hW.f_lc hL_h0 hT_h0
    obtain ⟨hi_339, ht_340, hq_341⟩ := hW.txt hi_337 ht_338
    obtain ⟨hi_342, r_289, ht_343⟩ := hW.f_dm hL_h0 hT_h0
    obtain ⟨hi_344, ht_345, hq_346⟩ := hW.txt hi_342 ht_343
    obtain ⟨hi_347, r_290, ht_348⟩ := hW.f_pe hL_h0 hT_h0
    obtain ⟨hi_349, ht_350, hq_351⟩ := hW.txt hi_347 ht_348
    obtain ⟨hi_352, r_291, ht_353⟩ := hW.f_pl hL_h0 hT_h0
    obtain ⟨hi_354, ht_355, hq_356⟩ := hW.txt hi_352 ht_353
    have hFc := pg_free hD hS hA
    refine va_calli (va_runV (As := [.int 1]) (rest := []) ⟨hx, hb, hml, hown, hts⟩ (s_X15_plainBody_x l dC dI cs ty gm L H.size F h0 ρ ta ou so ad na va lc dm tg pe ml bg co sp nb0 nb1 nb2 pl se ke wi hs mo po nu pr sq xa sa n64 m64 ex wh sd tk hd ak ho ot sx s0 s1 s2 nf bd mm fm sn 1 gc gv ze zt r_291 gl 1 hW hL_h0 hT_h0 hi_352 ht_353 hFml) ⟨callB_of 1 hts (gi kt_1288) rfl rfl rfl (hts _ kt_669) (hts _ kt_1289) (by decide +kernel) ⟨Nat.le_of_ble_eq_true rfl, Nat.le_of_ble_eq_true rfl⟩, (hts _ kt_1290), (hts _ kt_1291)⟩ ⟨fun a U g mk q => ⟨q.1, PTm.calling q.2⟩, pg_recv hK hP hL_h0 hF_329 (q := (RX15, TX15, 59)) rfl, fun U hU hWm => ⟨rfl, PTm.mk hU hWm hP hK hD hE hO⟩⟩ rfl rfl hl.1 rfl (lv_room (Nat.le_of_ble_eq_true rfl)) dL_law_394 ⟨by show _ + 0 ≤ 600000; omega, by show _ + 0 ≤ 7302250; omega⟩) hS (fun q _ h => hFc q h) hFc (fun r_357 u t H1 locs ht hvm hw hB hz1 hk1 hS => ?_)
    obtain ⟨F2, hB1⟩ := hB
    obtain ⟨hP, hD, hO, hR⟩ := QTm.back hB1 ht hFc FR.refl (fun q h => h)
    have hC := hC.kept hBq hk1
    obtain ⟨hi_358, ht_359⟩ := hW.f_ml hL_h0 hT_h0
    have hR9 := hB1.2.2.2
    have hDM := DIRM.fr hDM hO0 hW hLn0 hTn0 hLv0 hTv0 hcn hR9 (hR9 so (by rw [hTs0]; simp)) (hR9 ad (by rw [hTd0]; simp)) (hR9 na (by rw [hTn0]; simp)) (hR9 va (by rw [hTv0]; simp)) (fun k hk => ⟨by simp only [List.mem_cons, List.not_mem_nil, or_false]; omega, by simp only [List.mem_cons, List.not_mem_nil, or_false]; omega⟩)
    have hSN9 := hSN.imp id (fun q => And.intro (q.1.fr hO0 hW hi_337 ht_338 hR9 (by simp only [List.mem_cons, List.not_mem_nil, or_false]; omega)) (q.2.fr hO0 hW hi_342 ht_343 hR9 (by simp only [List.mem_cons, List.not_mem_nil, or_false]; omega)))
    have hM : PMl (dC, dI) cs A Bq h0 zt ze gt nf bd mm gm gl EX fm sn LC DN gc gv H1 := ⟨L, F2, ty, ρ, ta, ou, so, ad, na, va, lc, dm, tg, pe, ml, bg, co, sp, nb0, nb1, nb2, pl, se, ke, wi, hs, mo, po, nu, pr, sq, xa, sa, n64, m64, ex, wh, sd, tk, hd, ak, ho, ot, sx, s0, s1, s2, ⟨hP, hD, hO, hW⟩, hL_h0, hT_h0, (hB1.2.2.2 ta (by rw [ht_336]; simp)).trans hFta, (hB1.2.2.2 ml (by rw [ht_359]; simp)).trans hFml, hDM, hSN9, hn01, hn02, hn12, hU26, hU15, hBq⟩
    have er := hlr.pb hE1 hw
    generalize H1 = H at hC hM hS ⊢
    refine lv_pop hx hb dL_law_397 rfl ?_
    refine lv_goto (tgt := 522) hx hb dL_law_398 (by decide) ?_
    refine W.widen (k := cc + 1) (n := ss + 5) (by omega) (by omega) ?_
    exact kk zt ze f gt n bb zm fL sA sB sC DX SD aS vS c9 u9 nf bd mm gm gl EX fm sn LC DN gc gv _ _ _ (by omega) hcn (hrel) hlr hdr hsr hvn hce hC hM hS hl
set_option maxHeartbeats 4000000 in
set_option maxRecDepth 100000 in
theorem law_11 {p : Program} {l : Launch} {e : Env} {s : State} {m : MethodId} {below : List Frame} {meth : Method} {c : Code} {A Bq : Nat → Prop} {dC : Nat → ClassId} {dI : Nat → Nat → Nat} {cs : Nat → ClassId} {b Ln : Nat} {xs : Nat → Int32} (C0 : LC p s m meth c A dC dI cs b Ln xs) {xq h0 i zt ze cc ss : Nat} {f gt : Nat → Int32} {n : Nat} {bb : Int32} {zm : Nat} {fL sA sB sC : Nat → Int32} {DX : Nat → ETY} {SD : SDR} {aS vS : Int32} {c9 u9 : Nat} {nf bd mm : Nat} {gm : Nat → Nat → Nat} {gl : Nat → Int32} {EX : Nat → ETY} {fm sn : Nat} {LC DN : List Nat} {gc gv : Nat} (hi : i + 6 ≤ Ln) (hLn : Ln ≤ 384) (hnz : zt ≤ 1280) (hcc : cc + 1 ≤ 600000) (hss : ss + 5 ≤ 7302250) {H : Heap} {locs : List Loc} {ls : Array Slot} (hrel : REL f gt zt) (hlr : LRL n bb zm fL sA sB sC nf bd mm gm gl) (hdr : DREL DX EX ze) (hsr : SRL SD aS vS fm sn LC DN) (hvn : VNI EX ze) (hce : c9 = gc ∧ u9 = gv) (hC : PCl (dC, dI) cs A Bq xq zt ze f n bb zm fL sA sB sC DX SD aS vS c9 u9 H) (hM : PMl (dC, dI) cs A Bq h0 zt ze gt nf bd mm gm gl EX fm sn LC DN gc gv H) (hS : va_S A s.heap H locs) (hl : lv_has ls 4 [(3, .int (nI i)), (2, .ref h0), (1, .ref xq), (0, .ref b)]) (kk : ∀ (z2 c2 : Nat) (f2 g2 : Nat → Int32) (n : Nat) (bb : Int32) (zm : Nat) (fL sA sB sC : Nat → Int32) (DX : Nat → ETY) (SD : SDR) (aS vS : Int32) (c9 u9 : Nat) (nf bd mm : Nat) (gm : Nat → Nat → Nat) (gl : Nat → Int32) (EX : Nat → ETY) (fm sn : Nat) (LC DN : List Nat) (gc gv : Nat) (H : Heap) (locs : List Loc) (ls : Array Slot), z2 ≤ zt + 20 → c2 ≤ 40 → REL f2 g2 z2 → LRL n bb zm fL sA sB sC nf bd mm gm gl → DREL DX EX c2 → SRL SD aS vS fm sn LC DN → VNI EX c2 → (c9 = gc ∧ u9 = gv) → PCl (dC, dI) cs A Bq xq z2 c2 f2 n bb zm fL sA sB sC DX SD aS vS c9 u9 H → PMl (dC, dI) cs A Bq h0 z2 c2 g2 nf bd mm gm gl EX fm sn LC DN gc gv H → va_S A s.heap H locs → lv_has ls 4 [(3, .int (nI i)), (2, .ref h0), (1, .ref xq), (0, .ref b)] → W p l e room_1 s m #[Value.ref b] below meth c H locs (cc + 1) (ss + 5) (lw_Z below #[Value.ref b] s) (F0 m 522 ls [])) : W p l e room_1 s m #[Value.ref b] below meth c H locs cc ss (lw_Z below #[Value.ref b] s) (F0 m 401 ls []) := by
  obtain ⟨hx, hb, hr, hml, hown, hts, hX, hbl, hbA, hlocks, hE, hGc, hGm, hK, hA, hAs⟩ := id C0
  refine lv_aload_n hx hb dL_law_401 rfl (lv_at hl 2 rfl) ?_
  refine lv_aload_n hx hb dL_law_402 rfl (lv_at hl 3 rfl) ?_
  refine lv_iload_n hx hb dL_law_403 rfl (lv_at hl 0 rfl) ?_
  refine lv_iconst (v := 1) hx hb dL_law_404 (by decide) ?_
  refine lv_iadd hx hb dL_law_405 ?_
  refine lv_topi (fun x_1 ex_1 => ?_)
  obtain rfl : x_1 = (nI (i + 1)) := ex_1.trans (nI_add i 1)
  refine va_sld hx hb hX hbl hbA hS (vp_in_nI (by omega) (by omega)) dL_law_406 ?_
  refine lv_topi (fun x_2 ex_2 => ?_)
  obtain rfl : x_2 = (xs (i + 1)) := ex_2.trans (congrArg xs (nI_clamp (by omega)))
  refine lv_aload_n hx hb dL_law_407 rfl (lv_at hl 3 rfl) ?_
  refine lv_iload_n hx hb dL_law_408 rfl (lv_at hl 0 rfl) ?_
  refine lv_iconst (v := 2) hx hb dL_law_409 (by decide) ?_
  refine lv_iadd hx hb dL_law_410 ?_
  refine lv_topi (fun x_3 ex_3 => ?_)
  obtain rfl : x_3 = (nI (i + 2)) := ex_3.trans (nI_add i 2)
  refine va_sld hx hb hX hbl hbA hS (vp_in_nI (by omega) (by omega)) dL_law_411 ?_
  refine lv_topi (fun x_4 ex_4 => ?_)
  obtain rfl : x_4 = (xs (i + 2)) := ex_4.trans (congrArg xs (nI_clamp (by omega)))
  refine lv_if_eq (tgt := 419) hx hb dL_law_412 (by decide) (fun c_5 => ?_) (fun c_5 => ?_)
  ·
    refine lv_iconst (v := 0) hx hb dL_law_419 (by decide) ?_
    obtain ⟨L, F, ty, ρ, ta, ou, di, ea, ck, sl, po, hs, rt, ca0, ca1, ca2, ca3, cnm, cte, ⟨hP, hD, hO, hW⟩, hL_xq, hT_xq, hTta, hFt, hFr, hzt, hFd, hcn, hLT, hDI, hTck, hFk, hSD, hCol, hBq⟩ := hC
    have hG := hGc
    have hTS : TS F ta zt := ⟨hzt, rt, hFt⟩
    obtain ⟨le, sp, μ, ν, x, y0, y1, y2, rx, x9, w0, w1, w2, rx9, o, hm, l1, l2, l3, l4, l5, l6, l7, l8, l9, l10, l11, l12, l13, l14, l15, l16⟩ := id hLT
    have hF_xq := l1
    obtain ⟨hi_6, ⟨r_7, ht_8⟩, hi_9, ⟨r_10, ht_11⟩, hi_12, ht_13, hi_14, ⟨w0_15, w1_16, w2_17, w3_18, nm_19, te_20, ht_21⟩, hi_22, ⟨l1_23, lx_24, ly0_25, ly1_26, ly2_27, k1_28, kx_29, ky0_30, ky1_31, ky2_32, w0_33, w1_34, w2_35, w3_36, w4_37, w5_38, w6_39, w7_40, w8_41, tk_42, h1_43, hx_44, hy_45, hw_46, pw_47, px_48, py_49, pz_50, pu_51, ht_52⟩, hi_53, ⟨w0_54, w1_55, rc_56, rx_57, ry0_58, ry1_59, ry2_60, ht_61⟩, hi_62, ⟨hx_63, hy_64, hw_65, ht_66⟩⟩ := hW.gate hL_xq hT_xq
    obtain ⟨le_67, sp_68, μ_69, ν_70, hF_71, hq_72, hq_73, hq_74, hq_75, hq_76, hq_77⟩ := hO.gate hL_xq hT_xq
    obtain ⟨x_78, y0_79, y1_80, y2_81, ht_82⟩ := id hq_73
    obtain ⟨x_83, y0_84, y1_85, y2_86, ht_87⟩ := id hq_75
    obtain ⟨hiR, htR, -⟩ := hW.bytes hi_6 hTta
    obtain ⟨hi_88, ht_89⟩ := hW.dir hi_12 ht_13
    have hO0 := hO
    obtain ⟨hi_90, ht_91, hi_92, ⟨r_93, ht_94⟩, hi_95, ⟨r_96, ht_97⟩, hi_98, ⟨r_99, ht_100⟩, hi_101, ⟨r_102, ht_103⟩, hi_104, ht_105, hi_106, ht_107⟩ := hW.chk hi_14 hTck
    have ht_94 : ty ca0 = (0, ρ + 36, [r_93, 91]) := ht_94
    have ht_97 : ty ca1 = (0, ρ + 37, [r_96, 30]) := ht_97
    have ht_100 : ty ca2 = (0, ρ + 38, [r_99, 60]) := ht_100
    have ht_103 : ty ca3 = (0, ρ + 39, [r_102, 15]) := ht_103
    have ht_105 : ty cnm = (20, ρ + 40, [12]) := ht_105
    have ht_107 : ty cte = (22, ρ + 41, [11]) := ht_107
    obtain ⟨lx9, -, -, -, -, -, -, -⟩ := hW.msg l2 l3
    have hpf := hlr.pos
    have hFc := pg_free hD hS hA
    refine va_calli (va_runV (As := [.int (xs (i + 1)), .int 0]) (rest := []) ⟨hx, hb, hml, hown, hts⟩ (s_X11_plainField_x l dC dI cs ty L H.size F xq ρ ta ou di ea ck sl po hs le x y0 y1 y2 sp rx r_10 n zm μ fL sA sB sC (gm 0) (gm 1) (cln sC) bb o (xs (i + 1)) 0 hW hL_xq hT_xq hi_9 ht_11 l2 l3 lx9 l6 l1 l9 l10 l11 l12 l13 l14 l8 l15 (by omega) hpf.1) ⟨callB_of 2 hts (gi kt_1292) rfl rfl rfl (hts _ kt_664) (hts _ kt_1293) (by decide +kernel) ⟨Nat.le_of_ble_eq_true rfl, Nat.le_of_ble_eq_true rfl⟩, (hts _ kt_1294), (hts _ kt_1295)⟩ ⟨fun a U g mk q => ⟨q.1, PT.calling q.2⟩, pg_recv hK hP hL_xq hF_71 (q := (RX11, TX11, 9)) rfl, fun U hU hWm => ⟨rfl, PT.mk hU hWm hP hK hD hE hO⟩⟩ rfl rfl hl.1 rfl (lv_room (Nat.le_of_ble_eq_true rfl)) dL_law_420 ⟨by show _ + 0 ≤ 600000; omega, by show _ + 0 ≤ 7302250; omega⟩) hS (fun q _ h => hFc q h) hFc (fun r_108 u t H1 locs ht hvm hw hB hz1 hk1 hS => ?_)
    obtain ⟨F2, hB1⟩ := hB
    obtain ⟨hP, hD, hO, hR⟩ := QT.back hB1 ht hFc FR.refl (fun q h => h)
    have hM := hM.kept hBq hk1
    have hLT := hLT.fr hW hT_xq hB1.2.2.2 (fun q h => by simp only [List.mem_cons, List.not_mem_nil, or_false] at h; omega)
    have hE1 := hw
    have hln20 := l8
    have hCol9 := hCol
    have hDI := DIRC.fr hDI hO0 hW hi_88 ht_89 hcn hB1.2.2.2 (hB1.2.2.2 ea (by rw [ht_89]; simp)) (fun k hk => by simp only [List.mem_cons, List.not_mem_nil, or_false]; omega)
    have hFk9 := (hB1.2.2.2 ck (by rw [hTck]; simp)).trans hFk
    have hSD9 := hSD.imp id (fun q => q.fr hO0 hW hi_92 ht_94 hi_95 ht_97 hi_98 ht_100 hi_101 ht_103 hB1.2.2.2 (fun k9 h1 h2 => by simp only [List.mem_cons, List.not_mem_nil, or_false]; omega))
    have hC : PCl (dC, dI) cs A Bq xq zt ze f n bb zm fL sA sB sC DX SD aS vS c9 u9 H1 := ⟨L, F2, ty, ρ, ta, ou, di, ea, ck, sl, po, hs, rt, ca0, ca1, ca2, ca3, cnm, cte, ⟨hP, hD, hO, hW⟩, hL_xq, hT_xq, hTta, (hB1.2.2.2 ta (by rw [hTta]; simp)).trans hFt, (hB1.2.2.2 rt (by rw [htR]; simp)).trans hFr, hzt, (hB1.2.2.2 di (by rw [ht_91]; simp)).trans hFd, hcn, hLT, hDI, hTck, hFk9, hSD9, hCol9, hBq⟩
    generalize H1 = H at hC hM hS ⊢
    refine lv_pop hx hb dL_law_423 rfl ?_
    refine lv_aload_n hx hb dL_law_424 rfl (lv_at hl 1 rfl) ?_
    refine lv_aload_n hx hb dL_law_425 rfl (lv_at hl 3 rfl) ?_
    refine lv_iload_n hx hb dL_law_426 rfl (lv_at hl 0 rfl) ?_
    refine lv_iconst (v := 1) hx hb dL_law_427 (by decide) ?_
    refine lv_iadd hx hb dL_law_428 ?_
    refine lv_topi (fun x_109 ex_109 => ?_)
    obtain rfl : x_109 = (nI (i + 1)) := ex_109.trans (nI_add i 1)
    refine va_sld hx hb hX hbl hbA hS (vp_in_nI (by omega) (by omega)) dL_law_429 ?_
    refine lv_topi (fun x_110 ex_110 => ?_)
    obtain rfl : x_110 = (xs (i + 1)) := ex_110.trans (congrArg xs (nI_clamp (by omega)))
    refine lv_aload_n hx hb dL_law_430 rfl (lv_at hl 3 rfl) ?_
    refine lv_iload_n hx hb dL_law_431 rfl (lv_at hl 0 rfl) ?_
    refine lv_iconst (v := 2) hx hb dL_law_432 (by decide) ?_
    refine lv_iadd hx hb dL_law_433 ?_
    refine lv_topi (fun x_111 ex_111 => ?_)
    obtain rfl : x_111 = (nI (i + 2)) := ex_111.trans (nI_add i 2)
    refine va_sld hx hb hX hbl hbA hS (vp_in_nI (by omega) (by omega)) dL_law_434 ?_
    refine lv_topi (fun x_112 ex_112 => ?_)
    obtain rfl : x_112 = (xs (i + 2)) := ex_112.trans (congrArg xs (nI_clamp (by omega)))
    refine lv_if_eq (tgt := 442) hx hb dL_law_435 (by decide) (fun c_113 => ?_) (fun c_113 => absurd (c_5) c_113)
    refine lv_iconst (v := 0) hx hb dL_law_442 (by decide) ?_
    obtain ⟨L, F, ty, ρ, ta, ou, so, ad, na, va, lc, dm, tg, pe, ml, bg, co, sp, nb0, nb1, nb2, pl, se, ke, wi, hs, mo, po, nu, pr, sq, xa, sa, n64, m64, ex, wh, sd, tk, hd, ak, ho, ot, sx, s0, s1, s2, ⟨hP, hD, hO, hW⟩, hL_h0, hT_h0, hFta, hFml, hDM, hSN, hn01, hn02, hn12, hU26, hU15, hBq⟩ := hM
    have hG := hGm
    obtain ⟨hq_136, hq_137, hq_138, hq_139, hq_140, hgO, hgA, hgB, hq_141⟩ := hW.sc hL_h0 hT_h0
    obtain ⟨zo_142, v14_143, v15_144, v17_145, v18_146, v19_147, v20_148, v21_149, v22_150, v33_151, v52_152, v53_153, v54_154, hF_155, hq_156, hq_157, hq_158, hq_159, hq_160⟩ := hO.mod hL_h0 hT_h0
    obtain ⟨hi_161, ht_162⟩ := hW.f_ta hL_h0 hT_h0
    obtain ⟨hLs0, hTs0⟩ := hW.f_so hL_h0 hT_h0
    obtain ⟨hLd0, hTd0⟩ := hW.f_ad hL_h0 hT_h0
    obtain ⟨hLn0, hTn0⟩ := hW.f_na hL_h0 hT_h0
    obtain ⟨hLv0, hTv0⟩ := hW.f_va hL_h0 hT_h0
    have hO0 := hO
    obtain ⟨hi_163, r_114, ht_164⟩ := hW.f_lc hL_h0 hT_h0
    obtain ⟨hi_165, ht_166, hq_167⟩ := hW.txt hi_163 ht_164
    obtain ⟨hi_168, r_115, ht_169⟩ := hW.f_dm hL_h0 hT_h0
    obtain ⟨hi_170, ht_171, hq_172⟩ := hW.txt hi_168 ht_169
    obtain ⟨hi_173, r_116, ht_174⟩ := hW.f_pe hL_h0 hT_h0
    obtain ⟨hi_175, ht_176, hq_177⟩ := hW.txt hi_173 ht_174
    obtain ⟨hi_178, r_117, ht_179⟩ := hW.f_pl hL_h0 hT_h0
    obtain ⟨hi_180, ht_181, hq_182⟩ := hW.txt hi_178 ht_179
    have hFc := pg_free hD hS hA
    refine va_calli (va_runV (As := [.int (xs (i + 1)), .int 0]) (rest := []) ⟨hx, hb, hml, hown, hts⟩ (s_X15_plainField_x l dC dI cs ty gm L H.size F h0 ρ ta ou so ad na va lc dm tg pe ml bg co sp nb0 nb1 nb2 pl se ke wi hs mo po nu pr sq xa sa n64 m64 ex wh sd tk hd ak ho ot sx s0 s1 s2 nf bd mm fm sn 1 gc gv ze zt r_117 gl (cln sC) (xs (i + 1)) 0 hW hL_h0 hT_h0 hi_178 ht_179 hFml hpf.2) ⟨callB_of 2 hts (gi kt_1296) rfl rfl rfl (hts _ kt_669) (hts _ kt_1297) (by decide +kernel) ⟨Nat.le_of_ble_eq_true rfl, Nat.le_of_ble_eq_true rfl⟩, (hts _ kt_1298), (hts _ kt_1299)⟩ ⟨fun a U g mk q => ⟨q.1, PTm.calling q.2⟩, pg_recv hK hP hL_h0 hF_155 (q := (RX15, TX15, 59)) rfl, fun U hU hWm => ⟨rfl, PTm.mk hU hWm hP hK hD hE hO⟩⟩ rfl rfl hl.1 rfl (lv_room (Nat.le_of_ble_eq_true rfl)) dL_law_443 ⟨by show _ + 0 ≤ 600000; omega, by show _ + 0 ≤ 7302250; omega⟩) hS (fun q _ h => hFc q h) hFc (fun r_183 u t H1 locs ht hvm hw hB hz1 hk1 hS => ?_)
    obtain ⟨F2, hB1⟩ := hB
    obtain ⟨hP, hD, hO, hR⟩ := QTm.back hB1 ht hFc FR.refl (fun q h => h)
    have hC := hC.kept hBq hk1
    obtain ⟨hi_184, ht_185⟩ := hW.f_ml hL_h0 hT_h0
    have hR9 := hB1.2.2.2
    have hDM := DIRM.fr hDM hO0 hW hLn0 hTn0 hLv0 hTv0 hcn hR9 (hR9 so (by rw [hTs0]; simp)) (hR9 ad (by rw [hTd0]; simp)) (hR9 na (by rw [hTn0]; simp)) (hR9 va (by rw [hTv0]; simp)) (fun k hk => ⟨by simp only [List.mem_cons, List.not_mem_nil, or_false]; omega, by simp only [List.mem_cons, List.not_mem_nil, or_false]; omega⟩)
    have hSN9 := hSN.imp id (fun q => And.intro (q.1.fr hO0 hW hi_163 ht_164 hR9 (by simp only [List.mem_cons, List.not_mem_nil, or_false]; omega)) (q.2.fr hO0 hW hi_168 ht_169 hR9 (by simp only [List.mem_cons, List.not_mem_nil, or_false]; omega)))
    have hM : PMl (dC, dI) cs A Bq h0 zt ze gt nf bd mm gm gl EX fm sn LC DN gc gv H1 := ⟨L, F2, ty, ρ, ta, ou, so, ad, na, va, lc, dm, tg, pe, ml, bg, co, sp, nb0, nb1, nb2, pl, se, ke, wi, hs, mo, po, nu, pr, sq, xa, sa, n64, m64, ex, wh, sd, tk, hd, ak, ho, ot, sx, s0, s1, s2, ⟨hP, hD, hO, hW⟩, hL_h0, hT_h0, (hB1.2.2.2 ta (by rw [ht_162]; simp)).trans hFta, (hB1.2.2.2 ml (by rw [ht_185]; simp)).trans hFml, hDM, hSN9, hn01, hn02, hn12, hU26, hU15, hBq⟩
    have er := hlr.pf hE1 hw hln20
    generalize H1 = H at hC hM hS ⊢
    refine lv_pop hx hb dL_law_446 rfl ?_
    refine lv_goto (tgt := 522) hx hb dL_law_447 (by decide) ?_
    refine W.widen (k := cc + 1) (n := ss + 5) (by omega) (by omega) ?_
    exact kk zt ze f gt n bb zm fL sA sB sC DX SD aS vS c9 u9 nf bd mm gm gl EX fm sn LC DN gc gv _ _ _ (by omega) hcn (hrel) hlr hdr hsr hvn hce hC hM hS hl
  ·
    refine lv_iconst (v := 1) hx hb dL_law_415 (by decide) ?_
    refine lv_goto (tgt := 420) hx hb dL_law_416 (by decide) ?_
    obtain ⟨L, F, ty, ρ, ta, ou, di, ea, ck, sl, po, hs, rt, ca0, ca1, ca2, ca3, cnm, cte, ⟨hP, hD, hO, hW⟩, hL_xq, hT_xq, hTta, hFt, hFr, hzt, hFd, hcn, hLT, hDI, hTck, hFk, hSD, hCol, hBq⟩ := hC
    have hG := hGc
    have hTS : TS F ta zt := ⟨hzt, rt, hFt⟩
    obtain ⟨le, sp, μ, ν, x, y0, y1, y2, rx, x9, w0, w1, w2, rx9, o, hm, l1, l2, l3, l4, l5, l6, l7, l8, l9, l10, l11, l12, l13, l14, l15, l16⟩ := id hLT
    have hF_xq := l1
    obtain ⟨hi_186, ⟨r_187, ht_188⟩, hi_189, ⟨r_190, ht_191⟩, hi_192, ht_193, hi_194, ⟨w0_195, w1_196, w2_197, w3_198, nm_199, te_200, ht_201⟩, hi_202, ⟨l1_203, lx_204, ly0_205, ly1_206, ly2_207, k1_208, kx_209, ky0_210, ky1_211, ky2_212, w0_213, w1_214, w2_215, w3_216, w4_217, w5_218, w6_219, w7_220, w8_221, tk_222, h1_223, hx_224, hy_225, hw_226, pw_227, px_228, py_229, pz_230, pu_231, ht_232⟩, hi_233, ⟨w0_234, w1_235, rc_236, rx_237, ry0_238, ry1_239, ry2_240, ht_241⟩, hi_242, ⟨hx_243, hy_244, hw_245, ht_246⟩⟩ := hW.gate hL_xq hT_xq
    obtain ⟨le_247, sp_248, μ_249, ν_250, hF_251, hq_252, hq_253, hq_254, hq_255, hq_256, hq_257⟩ := hO.gate hL_xq hT_xq
    obtain ⟨x_258, y0_259, y1_260, y2_261, ht_262⟩ := id hq_253
    obtain ⟨x_263, y0_264, y1_265, y2_266, ht_267⟩ := id hq_255
    obtain ⟨hiR, htR, -⟩ := hW.bytes hi_186 hTta
    obtain ⟨hi_268, ht_269⟩ := hW.dir hi_192 ht_193
    have hO0 := hO
    obtain ⟨hi_270, ht_271, hi_272, ⟨r_273, ht_274⟩, hi_275, ⟨r_276, ht_277⟩, hi_278, ⟨r_279, ht_280⟩, hi_281, ⟨r_282, ht_283⟩, hi_284, ht_285, hi_286, ht_287⟩ := hW.chk hi_194 hTck
    have ht_274 : ty ca0 = (0, ρ + 36, [r_273, 91]) := ht_274
    have ht_277 : ty ca1 = (0, ρ + 37, [r_276, 30]) := ht_277
    have ht_280 : ty ca2 = (0, ρ + 38, [r_279, 60]) := ht_280
    have ht_283 : ty ca3 = (0, ρ + 39, [r_282, 15]) := ht_283
    have ht_285 : ty cnm = (20, ρ + 40, [12]) := ht_285
    have ht_287 : ty cte = (22, ρ + 41, [11]) := ht_287
    obtain ⟨lx9, -, -, -, -, -, -, -⟩ := hW.msg l2 l3
    have hpf := hlr.pos
    have hFc := pg_free hD hS hA
    refine va_calli (va_runV (As := [.int (xs (i + 1)), .int 1]) (rest := []) ⟨hx, hb, hml, hown, hts⟩ (s_X11_plainField_x l dC dI cs ty L H.size F xq ρ ta ou di ea ck sl po hs le x y0 y1 y2 sp rx r_190 n zm μ fL sA sB sC (gm 0) (gm 1) (cln sC) bb o (xs (i + 1)) 1 hW hL_xq hT_xq hi_189 ht_191 l2 l3 lx9 l6 l1 l9 l10 l11 l12 l13 l14 l8 l15 (by omega) hpf.1) ⟨callB_of 2 hts (gi kt_1292) rfl rfl rfl (hts _ kt_664) (hts _ kt_1293) (by decide +kernel) ⟨Nat.le_of_ble_eq_true rfl, Nat.le_of_ble_eq_true rfl⟩, (hts _ kt_1294), (hts _ kt_1295)⟩ ⟨fun a U g mk q => ⟨q.1, PT.calling q.2⟩, pg_recv hK hP hL_xq hF_251 (q := (RX11, TX11, 9)) rfl, fun U hU hWm => ⟨rfl, PT.mk hU hWm hP hK hD hE hO⟩⟩ rfl rfl hl.1 rfl (lv_room (Nat.le_of_ble_eq_true rfl)) dL_law_420 ⟨by show _ + 0 ≤ 600000; omega, by show _ + 0 ≤ 7302250; omega⟩) hS (fun q _ h => hFc q h) hFc (fun r_288 u t H1 locs ht hvm hw hB hz1 hk1 hS => ?_)
    obtain ⟨F2, hB1⟩ := hB
    obtain ⟨hP, hD, hO, hR⟩ := QT.back hB1 ht hFc FR.refl (fun q h => h)
    have hM := hM.kept hBq hk1
    have hLT := hLT.fr hW hT_xq hB1.2.2.2 (fun q h => by simp only [List.mem_cons, List.not_mem_nil, or_false] at h; omega)
    have hE1 := hw
    have hln20 := l8
    have hCol9 := hCol
    have hDI := DIRC.fr hDI hO0 hW hi_268 ht_269 hcn hB1.2.2.2 (hB1.2.2.2 ea (by rw [ht_269]; simp)) (fun k hk => by simp only [List.mem_cons, List.not_mem_nil, or_false]; omega)
    have hFk9 := (hB1.2.2.2 ck (by rw [hTck]; simp)).trans hFk
    have hSD9 := hSD.imp id (fun q => q.fr hO0 hW hi_272 ht_274 hi_275 ht_277 hi_278 ht_280 hi_281 ht_283 hB1.2.2.2 (fun k9 h1 h2 => by simp only [List.mem_cons, List.not_mem_nil, or_false]; omega))
    have hC : PCl (dC, dI) cs A Bq xq zt ze f n bb zm fL sA sB sC DX SD aS vS c9 u9 H1 := ⟨L, F2, ty, ρ, ta, ou, di, ea, ck, sl, po, hs, rt, ca0, ca1, ca2, ca3, cnm, cte, ⟨hP, hD, hO, hW⟩, hL_xq, hT_xq, hTta, (hB1.2.2.2 ta (by rw [hTta]; simp)).trans hFt, (hB1.2.2.2 rt (by rw [htR]; simp)).trans hFr, hzt, (hB1.2.2.2 di (by rw [ht_271]; simp)).trans hFd, hcn, hLT, hDI, hTck, hFk9, hSD9, hCol9, hBq⟩
    generalize H1 = H at hC hM hS ⊢
    refine lv_pop hx hb dL_law_423 rfl ?_
    refine lv_aload_n hx hb dL_law_424 rfl (lv_at hl 1 rfl) ?_
    refine lv_aload_n hx hb dL_law_425 rfl (lv_at hl 3 rfl) ?_
    refine lv_iload_n hx hb dL_law_426 rfl (lv_at hl 0 rfl) ?_
    refine lv_iconst (v := 1) hx hb dL_law_427 (by decide) ?_
    refine lv_iadd hx hb dL_law_428 ?_
    refine lv_topi (fun x_289 ex_289 => ?_)
    obtain rfl : x_289 = (nI (i + 1)) := ex_289.trans (nI_add i 1)
    refine va_sld hx hb hX hbl hbA hS (vp_in_nI (by omega) (by omega)) dL_law_429 ?_
    refine lv_topi (fun x_290 ex_290 => ?_)
    obtain rfl : x_290 = (xs (i + 1)) := ex_290.trans (congrArg xs (nI_clamp (by omega)))
    refine lv_aload_n hx hb dL_law_430 rfl (lv_at hl 3 rfl) ?_
    refine lv_iload_n hx hb dL_law_431 rfl (lv_at hl 0 rfl) ?_
    refine lv_iconst (v := 2) hx hb dL_law_432 (by decide) ?_
    refine lv_iadd hx hb dL_law_433 ?_
    refine lv_topi (fun x_291 ex_291 => ?_)
    obtain rfl : x_291 = (nI (i + 2)) := ex_291.trans (nI_add i 2)
    refine va_sld hx hb hX hbl hbA hS (vp_in_nI (by omega) (by omega)) dL_law_434 ?_
    refine lv_topi (fun x_292 ex_292 => ?_)
    obtain rfl : x_292 = (xs (i + 2)) := ex_292.trans (congrArg xs (nI_clamp (by omega)))
    refine lv_if_eq (tgt := 442) hx hb dL_law_435 (by decide) (fun c_293 => absurd c_293 (c_5)) (fun c_293 => ?_)
    refine lv_iconst (v := 1) hx hb dL_law_438 (by decide) ?_
    refine lv_goto (tgt := 443) hx hb dL_law_439 (by decide) ?_
    obtain ⟨L, F, ty, ρ, ta, ou, so, ad, na, va, lc, dm, tg, pe, ml, bg, co, sp, nb0, nb1, nb2, pl, se, ke, wi, hs, mo, po, nu, pr, sq, xa, sa, n64, m64, ex, wh, sd, tk, hd, ak, ho, ot, sx, s0, s1, s2, ⟨hP, hD, hO, hW⟩, hL_h0, hT_h0, hFta, hFml, hDM, hSN, hn01, hn02, hn12, hU26, hU15, hBq⟩ := hM
    have hG := hGm
    obtain ⟨hq_316, hq_317, hq_318, hq_319, hq_320, hgO, hgA, hgB, hq_321⟩ := hW.sc hL_h0 hT_h0
    obtain ⟨zo_322, v14_323, v15_324, v17_325, v18_326, v19_327, v20_328, v21_329, v22_330, v33_331, v52_332, v53_333, v54_334, hF_335, hq_336, hq_337, hq_338, hq_339, hq_340⟩ := hO.mod hL_h0 hT_h0
    obtain ⟨hi_341, ht_342⟩ := hW.f_ta hL_h0 hT_h0
    obtain ⟨hLs0, hTs0⟩ := hW.f_so hL_h0 hT_h0
    obtain ⟨hLd0, hTd0⟩ := hW.f_ad hL_h0 hT_h0
    obtain ⟨hLn0, hTn0⟩ := hW.f_na hL_h0 hT_h0
    obtain ⟨hLv0, hTv0⟩ := hW.f_va hL_h0 hT_h0
    have hO0 := hO
    obtain ⟨hi_343, r_294, ht_344⟩ := hW.f_lc hL_h0 hT_h0
    obtain ⟨hi_345, ht_346, hq_347⟩ := hW.txt hi_343 ht_344
    obtain ⟨hi_348, r_295, ht_349⟩ := hW.f_dm hL_h0 hT_h0
    obtain ⟨hi_350, ht_351, hq_352⟩ := hW.txt hi_348 ht_349
    obtain ⟨hi_353, r_296, ht_354⟩ := hW.f_pe hL_h0 hT_h0
    obtain ⟨hi_355, ht_356, hq_357⟩ := hW.txt hi_353 ht_354
    obtain ⟨hi_358, r_297, ht_359⟩ := hW.f_pl hL_h0 hT_h0
    obtain ⟨hi_360, ht_361, hq_362⟩ := hW.txt hi_358 ht_359
    have hFc := pg_free hD hS hA
    refine va_calli (va_runV (As := [.int (xs (i + 1)), .int 1]) (rest := []) ⟨hx, hb, hml, hown, hts⟩ (s_X15_plainField_x l dC dI cs ty gm L H.size F h0 ρ ta ou so ad na va lc dm tg pe ml bg co sp nb0 nb1 nb2 pl se ke wi hs mo po nu pr sq xa sa n64 m64 ex wh sd tk hd ak ho ot sx s0 s1 s2 nf bd mm fm sn 1 gc gv ze zt r_297 gl (cln sC) (xs (i + 1)) 1 hW hL_h0 hT_h0 hi_358 ht_359 hFml hpf.2) ⟨callB_of 2 hts (gi kt_1296) rfl rfl rfl (hts _ kt_669) (hts _ kt_1297) (by decide +kernel) ⟨Nat.le_of_ble_eq_true rfl, Nat.le_of_ble_eq_true rfl⟩, (hts _ kt_1298), (hts _ kt_1299)⟩ ⟨fun a U g mk q => ⟨q.1, PTm.calling q.2⟩, pg_recv hK hP hL_h0 hF_335 (q := (RX15, TX15, 59)) rfl, fun U hU hWm => ⟨rfl, PTm.mk hU hWm hP hK hD hE hO⟩⟩ rfl rfl hl.1 rfl (lv_room (Nat.le_of_ble_eq_true rfl)) dL_law_443 ⟨by show _ + 0 ≤ 600000; omega, by show _ + 0 ≤ 7302250; omega⟩) hS (fun q _ h => hFc q h) hFc (fun r_363 u t H1 locs ht hvm hw hB hz1 hk1 hS => ?_)
    obtain ⟨F2, hB1⟩ := hB
    obtain ⟨hP, hD, hO, hR⟩ := QTm.back hB1 ht hFc FR.refl (fun q h => h)
    have hC := hC.kept hBq hk1
    obtain ⟨hi_364, ht_365⟩ := hW.f_ml hL_h0 hT_h0
    have hR9 := hB1.2.2.2
    have hDM := DIRM.fr hDM hO0 hW hLn0 hTn0 hLv0 hTv0 hcn hR9 (hR9 so (by rw [hTs0]; simp)) (hR9 ad (by rw [hTd0]; simp)) (hR9 na (by rw [hTn0]; simp)) (hR9 va (by rw [hTv0]; simp)) (fun k hk => ⟨by simp only [List.mem_cons, List.not_mem_nil, or_false]; omega, by simp only [List.mem_cons, List.not_mem_nil, or_false]; omega⟩)
    have hSN9 := hSN.imp id (fun q => And.intro (q.1.fr hO0 hW hi_343 ht_344 hR9 (by simp only [List.mem_cons, List.not_mem_nil, or_false]; omega)) (q.2.fr hO0 hW hi_348 ht_349 hR9 (by simp only [List.mem_cons, List.not_mem_nil, or_false]; omega)))
    have hM : PMl (dC, dI) cs A Bq h0 zt ze gt nf bd mm gm gl EX fm sn LC DN gc gv H1 := ⟨L, F2, ty, ρ, ta, ou, so, ad, na, va, lc, dm, tg, pe, ml, bg, co, sp, nb0, nb1, nb2, pl, se, ke, wi, hs, mo, po, nu, pr, sq, xa, sa, n64, m64, ex, wh, sd, tk, hd, ak, ho, ot, sx, s0, s1, s2, ⟨hP, hD, hO, hW⟩, hL_h0, hT_h0, (hB1.2.2.2 ta (by rw [ht_342]; simp)).trans hFta, (hB1.2.2.2 ml (by rw [ht_365]; simp)).trans hFml, hDM, hSN9, hn01, hn02, hn12, hU26, hU15, hBq⟩
    have er := hlr.pf hE1 hw hln20
    generalize H1 = H at hC hM hS ⊢
    refine lv_pop hx hb dL_law_446 rfl ?_
    refine lv_goto (tgt := 522) hx hb dL_law_447 (by decide) ?_
    refine W.widen (k := cc + 1) (n := ss + 5) (by omega) (by omega) ?_
    exact kk zt ze f gt n bb zm fL sA sB sC DX SD aS vS c9 u9 nf bd mm gm gl EX fm sn LC DN gc gv _ _ _ (by omega) hcn (hrel) hlr hdr hsr hvn hce hC hM hS hl
