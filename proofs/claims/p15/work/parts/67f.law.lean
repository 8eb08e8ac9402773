theorem kt_1284 : Cond.code yX11_plainBody cX11_plainBody 2 (some .int) ∈ tb := tb_at (i := 1086) (by decide +kernel) (by decide +kernel)
theorem kt_1285 : Cond.methodLink RL 57 yX11_plainBody ∈ tb := tb_at (i := 1083) (by decide +kernel) (by decide +kernel)
theorem kt_1286 : Cond.instanceMethod yX11_plainBody ∈ tb := tb_at (i := 1084) (by decide +kernel) (by decide +kernel)
theorem kt_1287 : Cond.selects RX11 yX11_plainBody yX11_plainBody ∈ tb := tb_at (i := 1085) (by decide +kernel) (by decide +kernel)
theorem kt_1288 : Cond.code yX15_plainBody cX15_plainBody 2 (some .int) ∈ tb := tb_at (i := 1666) (by decide +kernel) (by decide +kernel)
theorem kt_1289 : Cond.methodLink RL 61 yX15_plainBody ∈ tb := tb_at (i := 1663) (by decide +kernel) (by decide +kernel)
theorem kt_1290 : Cond.instanceMethod yX15_plainBody ∈ tb := tb_at (i := 1664) (by decide +kernel) (by decide +kernel)
theorem kt_1291 : Cond.selects RX15 yX15_plainBody yX15_plainBody ∈ tb := tb_at (i := 1665) (by decide +kernel) (by decide +kernel)
theorem kt_1292 : Cond.code yX11_plainField cX11_plainField 3 (some .int) ∈ tb := tb_at (i := 1091) (by decide +kernel) (by decide +kernel)
theorem kt_1293 : Cond.methodLink RL 62 yX11_plainField ∈ tb := tb_at (i := 1088) (by decide +kernel) (by decide +kernel)
theorem kt_1294 : Cond.instanceMethod yX11_plainField ∈ tb := tb_at (i := 1089) (by decide +kernel) (by decide +kernel)
theorem kt_1295 : Cond.selects RX11 yX11_plainField yX11_plainField ∈ tb := tb_at (i := 1090) (by decide +kernel) (by decide +kernel)
theorem kt_1296 : Cond.code yX15_plainField cX15_plainField 3 (some .int) ∈ tb := tb_at (i := 1678) (by decide +kernel) (by decide +kernel)
theorem kt_1297 : Cond.methodLink RL 66 yX15_plainField ∈ tb := tb_at (i := 1675) (by decide +kernel) (by decide +kernel)
theorem kt_1298 : Cond.instanceMethod yX15_plainField ∈ tb := tb_at (i := 1676) (by decide +kernel) (by decide +kernel)
theorem kt_1299 : Cond.selects RX15 yX15_plainField yX15_plainField ∈ tb := tb_at (i := 1677) (by decide +kernel) (by decide +kernel)
set_option maxHeartbeats 4000000 in
set_option maxRecDepth 100000 in
theorem law_10 {p : Program} {l : Launch} {e : Env} {s : State} {m : MethodId} {below : List Frame} {meth : Method} {c : Code} {A Bq : Nat → Prop} {dC : Nat → ClassId} {dI : Nat → Nat → Nat} {cs : Nat → ClassId} {b Ln : Nat} {xs : Nat → Int32} (C0 : LC p s m meth c A dC dI cs b Ln xs) {xq h0 i zt ze cc ss : Nat} {f gt : Nat → Int32} {n : Nat} {bb : Int32} {zm : Nat} {fL sA sB sC : Nat → Int32} {DX : Nat → ETY} {zo : Nat} {fo : Nat → Int32} {SD : SDR} {aS vS : Int32} {c9 u9 : Nat} {nf bd mm : Nat} {gm : Nat → Nat → Nat} {gl : Nat → Int32} {EX : Nat → ETY} {go : Nat → Int32} {fm sn : Nat} {LC DN : List Nat} {gc gv : Nat} (hi : i + 6 ≤ Ln) (hLn : Ln ≤ 384) (hnz : zt ≤ 1280) (hcc : cc + 1 ≤ 600000) (hss : ss + 5 ≤ 7302250) {H : Heap} {locs : List Loc} {ls : Array Slot} (hrel : REL f gt zt) (hlr : LRL n bb zm fL sA sB sC nf bd mm gm gl) (hdr : DREL DX EX ze) (hro : REL fo go zo) (hsr : SRL SD aS vS fm sn LC DN) (hvn : VNI EX ze) (hce : c9 = gc ∧ u9 = gv) (hC : PCl (dC, dI) cs A Bq xq zt ze f n bb zm fL sA sB sC DX zo fo SD aS vS c9 u9 H) (hM : PMl (dC, dI) cs A Bq h0 zt ze gt nf bd mm gm gl EX zo go fm sn LC DN gc gv H) (hS : va_S A s.heap H locs) (hl : lv_has ls 4 [(3, .int (nI i)), (2, .ref h0), (1, .ref xq), (0, .ref b)]) (kk : ∀ (z2 c2 : Nat) (f2 g2 : Nat → Int32) (n : Nat) (bb : Int32) (zm : Nat) (fL sA sB sC : Nat → Int32) (DX : Nat → ETY) (zo : Nat) (fo : Nat → Int32) (SD : SDR) (aS vS : Int32) (c9 u9 : Nat) (nf bd mm : Nat) (gm : Nat → Nat → Nat) (gl : Nat → Int32) (EX : Nat → ETY) (go : Nat → Int32) (fm sn : Nat) (LC DN : List Nat) (gc gv : Nat) (H : Heap) (locs : List Loc) (ls : Array Slot), z2 ≤ zt + 20 → c2 ≤ 40 → REL f2 g2 z2 → LRL n bb zm fL sA sB sC nf bd mm gm gl → DREL DX EX c2 → REL fo go zo → SRL SD aS vS fm sn LC DN → VNI EX c2 → (c9 = gc ∧ u9 = gv) → PCl (dC, dI) cs A Bq xq z2 c2 f2 n bb zm fL sA sB sC DX zo fo SD aS vS c9 u9 H → PMl (dC, dI) cs A Bq h0 z2 c2 g2 nf bd mm gm gl EX zo go fm sn LC DN gc gv H → va_S A s.heap H locs → lv_has ls 4 [(3, .int (nI i)), (2, .ref h0), (1, .ref xq), (0, .ref b)] → W p l e room_1 s m #[Value.ref b] below meth c H locs (cc + 1) (ss + 5) (lw_Z below #[Value.ref b] s) (F0 m 522 ls [])) : W p l e room_1 s m #[Value.ref b] below meth c H locs cc ss (lw_Z below #[Value.ref b] s) (F0 m 362 ls []) := by
  obtain ⟨hx, hb, hr, hml, hown, hts, hX, hbl, hbA, hlocks, hE, hGc, hGm, hK, hA, hAs⟩ := id C0
  refine lv_aload_n hx hb dL_law_362 rfl (lv_at hl 2 rfl) ?_
  refine lv_aload_n hx hb dL_law_363 rfl (lv_at hl 3 rfl) ?_
  refine lv_iload_n hx hb dL_law_364 rfl (lv_at hl 0 rfl) ?_
  refine lv_iconst (v := 1) hx hb dL_law_365 (by decide) ?_
  refine lv_iadd hx hb dL_law_366 ?_
  refine lv_topi (fun x_1 ex_1 => ?_)
  obtain rfl : x_1 = (nI (i + 1)) := ex_1.trans (nI_add i 1)
  refine va_sld hx hb hX hbl hbA hS (vp_in_nI (by omega) (by omega)) dL_law_367 ?_
  refine lv_topi (fun x_2 ex_2 => ?_)
  obtain rfl : x_2 = (xs (i + 1)) := ex_2.trans (congrArg xs (nI_clamp (by omega)))
  refine lv_if_eq (tgt := 375) hx hb dL_law_368 (by decide) (fun c_3 => ?_) (fun c_3 => ?_)
  ·
    refine lv_iconst (v := 0) hx hb dL_law_375 (by decide) ?_
    obtain ⟨L, F, ty, ρ, ta, ou, di, ea, ck, sl, po, hs, rt, ro, ca0, ca1, ca2, ca3, cnm, cte, ⟨hP, hD, hO, hW⟩, hL_xq, hT_xq, hTta, hFt, hFr, hzt, hFd, hcn, hLT, hDI, hTck, hFk, hSD, hCol, hTou, hFou, hFro, hzo, hBq⟩ := hC
    have hG := hGc
    have hTS : TS F ta zt := ⟨hzt, rt, hFt⟩
    obtain ⟨le, sp, μ, ν, x, y0, y1, y2, rx, x9, w0, w1, w2, rx9, o, hm, l1, l2, l3, l4, l5, l6, l7, l8, l9, l10, l11, l12, l13, l14, l15, l16⟩ := id hLT
    have hF_xq := l1
    obtain ⟨hi_4, ⟨r_5, ht_6⟩, hi_7, ⟨r_8, ht_9⟩, hi_10, ht_11, hi_12, ⟨w0_13, w1_14, w2_15, w3_16, nm_17, te_18, ht_19⟩, hi_20, ⟨l1_21, lx_22, ly0_23, ly1_24, ly2_25, k1_26, kx_27, ky0_28, ky1_29, ky2_30, w0_31, w1_32, w2_33, w3_34, w4_35, w5_36, w6_37, w7_38, w8_39, tk_40, h1_41, hx_42, hy_43, hw_44, pw_45, px_46, py_47, pz_48, pu_49, ht_50⟩, hi_51, ⟨w0_52, w1_53, rc_54, rx_55, ry0_56, ry1_57, ry2_58, ht_59⟩, hi_60, ⟨hx_61, hy_62, hw_63, ht_64⟩⟩ := hW.gate hL_xq hT_xq
    obtain ⟨le_65, sp_66, μ_67, ν_68, hF_69, hq_70, hq_71, hq_72, hq_73, hq_74, hq_75⟩ := hO.gate hL_xq hT_xq
    obtain ⟨x_76, y0_77, y1_78, y2_79, ht_80⟩ := id hq_71
    obtain ⟨x_81, y0_82, y1_83, y2_84, ht_85⟩ := id hq_73
    obtain ⟨hiR, htR, -⟩ := hW.bytes hi_4 hTta
    obtain ⟨hi_86, ht_87⟩ := hW.dir hi_10 ht_11
    have hO0 := hO
    obtain ⟨hi_88, ht_89, hi_90, ⟨r_91, ht_92⟩, hi_93, ⟨r_94, ht_95⟩, hi_96, ⟨r_97, ht_98⟩, hi_99, ⟨r_100, ht_101⟩, hi_102, ht_103, hi_104, ht_105⟩ := hW.chk hi_12 hTck
    have ht_92 : ty ca0 = (0, ρ + 36, [r_91, 91]) := ht_92
    have ht_95 : ty ca1 = (0, ρ + 37, [r_94, 30]) := ht_95
    have ht_98 : ty ca2 = (0, ρ + 38, [r_97, 60]) := ht_98
    have ht_101 : ty ca3 = (0, ρ + 39, [r_100, 15]) := ht_101
    have ht_103 : ty cnm = (20, ρ + 40, [12]) := ht_103
    have ht_105 : ty cte = (22, ρ + 41, [11]) := ht_105
    obtain ⟨hiO, htO, -⟩ := hW.bytes hi_7 hTou
    obtain ⟨lx9, -, -, -, -, -, -, -⟩ := hW.msg l2 l3
    have hpf := hlr.pos
    have hFc := pg_free hD hS hA
    refine va_calli (va_runV (As := [.int 0]) (rest := []) ⟨hx, hb, hml, hown, hts⟩ (s_X11_plainBody_c l dC dI cs ty L H.size F xq ρ ta ou di ea ck sl po hs le x y0 y1 y2 sp rx ro n zm μ bd fL bb o 0 zo fo hW hL_xq hT_xq hi_7 hTou l2 l3 lx9 l6 l1 l9 l10 l11 l8 l15 (by omega) hlr.bs hFou hFro hzo) ⟨callB_of 1 hts (gi kt_1284) rfl rfl rfl (hts _ kt_664) (hts _ kt_1285) (by decide +kernel) ⟨Nat.le_of_ble_eq_true rfl, Nat.le_of_ble_eq_true rfl⟩, (hts _ kt_1286), (hts _ kt_1287)⟩ ⟨fun a U g mk q => ⟨q.1, PT.calling q.2⟩, pg_recv hK hP hL_xq hF_69 (q := (RX11, TX11, 9)) rfl, fun U hU hWm => ⟨rfl, PT.mk hU hWm hP hK hD hE hO⟩⟩ rfl rfl hl.1 rfl (lv_room (Nat.le_of_ble_eq_true rfl)) dL_law_376 ⟨by show _ + 0 ≤ 600000; omega, by show _ + 0 ≤ 7302250; omega⟩) hS (fun q _ h => hFc q h) hFc (fun r_106 c2 t H1 locs ht hvm hw hB hz1 hk1 hS => ?_)
    obtain ⟨F2, f2, hB1, hf0, hf1, hf2, hf3⟩ := hB
    obtain ⟨hP, hD, hO, hR⟩ := QT.back hB1 ht hFc FR.refl (fun q h => h)
    have hM := hM.kept hBq hk1
    have hLT := hLT.fr hW hT_xq hB1.2.2.2 (fun q h => by simp only [List.mem_cons, List.not_mem_nil, or_false] at h; omega)
    have hE1 := hw
    have hln20 := l8
    have hCol9 := hCol
    have hDI := DIRC.fr hDI hO0 hW hi_86 ht_87 hcn hB1.2.2.2 (hB1.2.2.2 ea (by rw [ht_87]; simp)) (fun k hk => by simp only [List.mem_cons, List.not_mem_nil, or_false]; omega)
    have hFk9 := (hB1.2.2.2 ck (by rw [hTck]; simp)).trans hFk
    have hSD9 := hSD.imp id (fun q => q.fr hO0 hW hi_90 ht_92 hi_93 ht_95 hi_96 ht_98 hi_99 ht_101 hB1.2.2.2 (fun k9 h1 h2 => by simp only [List.mem_cons, List.not_mem_nil, or_false]; omega))
    have hC : PCl (dC, dI) cs A Bq xq zt ze f n bb zm fL sA sB sC DX c2 f2 SD aS vS c9 u9 H1 := ⟨L, F2, ty, ρ, ta, ou, di, ea, ck, sl, po, hs, rt, ro, ca0, ca1, ca2, ca3, cnm, cte, ⟨hP, hD, hO, hW⟩, hL_xq, hT_xq, hTta, (hB1.2.2.2 ta (by rw [hTta]; simp)).trans hFt, (hB1.2.2.2 rt (by rw [htR]; simp)).trans hFr, hzt, (hB1.2.2.2 di (by rw [ht_89]; simp)).trans hFd, hcn, hLT, hDI, hTck, hFk9, hSD9, hCol9, hTou, hf0, hf1, hf3, hBq⟩
    generalize H1 = H at hC hM hS ⊢
    refine lv_pop hx hb dL_law_379 rfl ?_
    refine lv_aload_n hx hb dL_law_380 rfl (lv_at hl 1 rfl) ?_
    refine lv_aload_n hx hb dL_law_381 rfl (lv_at hl 3 rfl) ?_
    refine lv_iload_n hx hb dL_law_382 rfl (lv_at hl 0 rfl) ?_
    refine lv_iconst (v := 1) hx hb dL_law_383 (by decide) ?_
    refine lv_iadd hx hb dL_law_384 ?_
    refine lv_topi (fun x_107 ex_107 => ?_)
    obtain rfl : x_107 = (nI (i + 1)) := ex_107.trans (nI_add i 1)
    refine va_sld hx hb hX hbl hbA hS (vp_in_nI (by omega) (by omega)) dL_law_385 ?_
    refine lv_topi (fun x_108 ex_108 => ?_)
    obtain rfl : x_108 = (xs (i + 1)) := ex_108.trans (congrArg xs (nI_clamp (by omega)))
    refine lv_if_eq (tgt := 393) hx hb dL_law_386 (by decide) (fun c_109 => ?_) (fun c_109 => absurd (c_3) c_109)
    refine lv_iconst (v := 0) hx hb dL_law_393 (by decide) ?_
    obtain ⟨L, F, ty, ρ, ta, ou, so, ad, na, va, lc, dm, tg, pe, ml, bg, co, sp, nb0, nb1, nb2, pl, se, ke, wi, hs, mo, po, nu, pr, sq, xa, sa, n64, m64, ex, wh, sd, tk, hd, ak, ho, ot, sx, s0, s1, s2, ⟨hP, hD, hO, hW⟩, hL_h0, hT_h0, hFta, hFml, hDM, hSN, hFou, hn01, hn02, hn12, hU26, hU15, hBq⟩ := hM
    have hG := hGm
    obtain ⟨hq_132, hq_133, hq_134, hq_135, hq_136, hgO, hgA, hgB, hq_137⟩ := hW.sc hL_h0 hT_h0
    obtain ⟨v14_138, v15_139, v17_140, v18_141, v19_142, v20_143, v21_144, v22_145, v33_146, v52_147, v53_148, v54_149, hF_150, hq_151, hq_152, hq_153, hq_154, hq_155⟩ := hO.mod hL_h0 hT_h0
    obtain ⟨hi_156, ht_157⟩ := hW.f_ta hL_h0 hT_h0
    obtain ⟨hLs0, hTs0⟩ := hW.f_so hL_h0 hT_h0
    obtain ⟨hLd0, hTd0⟩ := hW.f_ad hL_h0 hT_h0
    obtain ⟨hLn0, hTn0⟩ := hW.f_na hL_h0 hT_h0
    obtain ⟨hLv0, hTv0⟩ := hW.f_va hL_h0 hT_h0
    have hO0 := hO
    obtain ⟨hi_158, r_110, ht_159⟩ := hW.f_lc hL_h0 hT_h0
    obtain ⟨hi_160, ht_161, hq_162⟩ := hW.txt hi_158 ht_159
    obtain ⟨hi_163, r_111, ht_164⟩ := hW.f_dm hL_h0 hT_h0
    obtain ⟨hi_165, ht_166, hq_167⟩ := hW.txt hi_163 ht_164
    obtain ⟨hi_168, r_112, ht_169⟩ := hW.f_pe hL_h0 hT_h0
    obtain ⟨hi_170, ht_171, hq_172⟩ := hW.txt hi_168 ht_169
    obtain ⟨hi_173, r_113, ht_174⟩ := hW.f_pl hL_h0 hT_h0
    obtain ⟨hi_175, ht_176, hq_177⟩ := hW.txt hi_173 ht_174
    have hFc := pg_free hD hS hA
    refine va_calli (va_runV (As := [.int 0]) (rest := []) ⟨hx, hb, hml, hown, hts⟩ (s_X15_plainBody_c l dC dI cs ty gm L H.size F h0 ρ ta ou so ad na va lc dm tg pe ml bg co sp nb0 nb1 nb2 pl se ke wi hs mo po nu pr sq xa sa n64 m64 ex wh sd tk hd ak ho ot sx s0 s1 s2 nf bd mm zo fm sn 1 gc gv ze zt r_113 gl 0 go hW hL_h0 hT_h0 hi_173 ht_174 hFml hFou) ⟨callB_of 1 hts (gi kt_1288) rfl rfl rfl (hts _ kt_669) (hts _ kt_1289) (by decide +kernel) ⟨Nat.le_of_ble_eq_true rfl, Nat.le_of_ble_eq_true rfl⟩, (hts _ kt_1290), (hts _ kt_1291)⟩ ⟨fun a U g mk q => ⟨q.1, PTm.calling q.2⟩, pg_recv hK hP hL_h0 hF_150 (q := (RX15, TX15, 59)) rfl, fun U hU hWm => ⟨rfl, PTm.mk hU hWm hP hK hD hE hO⟩⟩ rfl rfl hl.1 rfl (lv_room (Nat.le_of_ble_eq_true rfl)) dL_law_394 ⟨by show _ + 0 ≤ 600000; omega, by show _ + 0 ≤ 7302250; omega⟩) hS (fun q _ h => hFc q h) hFc (fun r_178 c3 t H1 locs ht hvm hw hB hz1 hk1 hS => ?_)
    obtain ⟨F2, ty9, go, hty9, hB1, hW9, hga0, hga⟩ := hB
    subst hty9
    obtain ⟨hP, hD, hO, hR⟩ := QTm.back hB1 ht hFc FR.refl (fun q h => h)
    have hC := hC.kept hBq hk1
    obtain ⟨hi_179, ht_180⟩ := hW.f_ml hL_h0 hT_h0
    have hR9 := FR.unre hT_h0 rfl hB1.2.2.2
    have hDM := DIRM.fr hDM hO0 hW hLn0 hTn0 hLv0 hTv0 hcn hR9 (hR9 so (by rw [hTs0]; simp)) (hR9 ad (by rw [hTd0]; simp)) (hR9 na (by rw [hTn0]; simp)) (hR9 va (by rw [hTv0]; simp)) (fun k hk => ⟨by simp only [List.mem_cons, List.not_mem_nil, or_false]; omega, by simp only [List.mem_cons, List.not_mem_nil, or_false]; omega⟩)
    have hSN9 := hSN.imp id (fun q => And.intro (q.1.fr hO0 hW hi_158 ht_159 hR9 (by simp only [List.mem_cons, List.not_mem_nil, or_false]; omega)) (q.2.fr hO0 hW hi_163 ht_164 hR9 (by simp only [List.mem_cons, List.not_mem_nil, or_false]; omega)))
    obtain ⟨hi_181, ht_182⟩ := hW.f_ou hL_h0 hT_h0
    have hM : PMl (dC, dI) cs A Bq h0 zt ze gt nf bd mm gm gl EX c3 go fm sn LC DN gc gv H1 := ⟨L, F2, _, ρ, ta, ou, so, ad, na, va, lc, dm, tg, pe, ml, bg, co, sp, nb0, nb1, nb2, pl, se, ke, wi, hs, mo, po, nu, pr, sq, xa, sa, n64, m64, ex, wh, sd, tk, hd, ak, ho, ot, sx, s0, s1, s2, ⟨hP, hD, hO, hW9⟩, hL_h0, rtf_self, (hB1.2.2.2 ta (by rw [rtf_tr hT_h0 (by decide) ht_157]; simp)).trans hFta, (hB1.2.2.2 ml (by rw [rtf_tr hT_h0 (by decide) ht_180]; simp)).trans hFml, hDM, hSN9, hga0, hn01, hn02, hn12, U_re hU26, U15_re hU15, hBq⟩
    obtain ⟨e23, hro⟩ := hlr.pbo hro hf2 hga
    subst e23
    have er := hlr.pb hE1 hw
    generalize H1 = H at hC hM hS ⊢
    refine lv_pop hx hb dL_law_397 rfl ?_
    refine lv_goto (tgt := 522) hx hb dL_law_398 (by decide) ?_
    refine W.widen (k := cc + 1) (n := ss + 5) (by omega) (by omega) ?_
    exact kk zt ze f gt n bb zm fL sA sB sC DX c2 f2 SD aS vS c9 u9 nf bd mm gm gl EX go fm sn LC DN gc gv _ _ _ (by omega) hcn (hrel) hlr hdr hro hsr hvn hce hC hM hS hl
  ·
    refine lv_iconst (v := 1) hx hb dL_law_371 (by decide) ?_
    refine lv_goto (tgt := 376) hx hb dL_law_372 (by decide) ?_
    obtain ⟨L, F, ty, ρ, ta, ou, di, ea, ck, sl, po, hs, rt, ro, ca0, ca1, ca2, ca3, cnm, cte, ⟨hP, hD, hO, hW⟩, hL_xq, hT_xq, hTta, hFt, hFr, hzt, hFd, hcn, hLT, hDI, hTck, hFk, hSD, hCol, hTou, hFou, hFro, hzo, hBq⟩ := hC
    have hG := hGc
    have hTS : TS F ta zt := ⟨hzt, rt, hFt⟩
    obtain ⟨le, sp, μ, ν, x, y0, y1, y2, rx, x9, w0, w1, w2, rx9, o, hm, l1, l2, l3, l4, l5, l6, l7, l8, l9, l10, l11, l12, l13, l14, l15, l16⟩ := id hLT
    have hF_xq := l1
    obtain ⟨hi_183, ⟨r_184, ht_185⟩, hi_186, ⟨r_187, ht_188⟩, hi_189, ht_190, hi_191, ⟨w0_192, w1_193, w2_194, w3_195, nm_196, te_197, ht_198⟩, hi_199, ⟨l1_200, lx_201, ly0_202, ly1_203, ly2_204, k1_205, kx_206, ky0_207, ky1_208, ky2_209, w0_210, w1_211, w2_212, w3_213, w4_214, w5_215, w6_216, w7_217, w8_218, tk_219, h1_220, hx_221, hy_222, hw_223, pw_224, px_225, py_226, pz_227, pu_228, ht_229⟩, hi_230, ⟨w0_231, w1_232, rc_233, rx_234, ry0_235, ry1_236, ry2_237, ht_238⟩, hi_239, ⟨hx_240, hy_241, hw_242, ht_243⟩⟩ := hW.gate hL_xq hT_xq
    obtain ⟨le_244, sp_245, μ_246, ν_247, hF_248, hq_249, hq_250, hq_251, hq_252, hq_253, hq_254⟩ := hO.gate hL_xq hT_xq
    obtain ⟨x_255, y0_256, y1_257, y2_258, ht_259⟩ := id hq_250
    obtain ⟨x_260, y0_261, y1_262, y2_263, ht_264⟩ := id hq_252
    obtain ⟨hiR, htR, -⟩ := hW.bytes hi_183 hTta
    obtain ⟨hi_265, ht_266⟩ := hW.dir hi_189 ht_190
    have hO0 := hO
    obtain ⟨hi_267, ht_268, hi_269, ⟨r_270, ht_271⟩, hi_272, ⟨r_273, ht_274⟩, hi_275, ⟨r_276, ht_277⟩, hi_278, ⟨r_279, ht_280⟩, hi_281, ht_282, hi_283, ht_284⟩ := hW.chk hi_191 hTck
    have ht_271 : ty ca0 = (0, ρ + 36, [r_270, 91]) := ht_271
    have ht_274 : ty ca1 = (0, ρ + 37, [r_273, 30]) := ht_274
    have ht_277 : ty ca2 = (0, ρ + 38, [r_276, 60]) := ht_277
    have ht_280 : ty ca3 = (0, ρ + 39, [r_279, 15]) := ht_280
    have ht_282 : ty cnm = (20, ρ + 40, [12]) := ht_282
    have ht_284 : ty cte = (22, ρ + 41, [11]) := ht_284
    obtain ⟨hiO, htO, -⟩ := hW.bytes hi_186 hTou
    obtain ⟨lx9, -, -, -, -, -, -, -⟩ := hW.msg l2 l3
    have hpf := hlr.pos
    have hFc := pg_free hD hS hA
    refine va_calli (va_runV (As := [.int 1]) (rest := []) ⟨hx, hb, hml, hown, hts⟩ (s_X11_plainBody_c l dC dI cs ty L H.size F xq ρ ta ou di ea ck sl po hs le x y0 y1 y2 sp rx ro n zm μ bd fL bb o 1 zo fo hW hL_xq hT_xq hi_186 hTou l2 l3 lx9 l6 l1 l9 l10 l11 l8 l15 (by omega) hlr.bs hFou hFro hzo) ⟨callB_of 1 hts (gi kt_1284) rfl rfl rfl (hts _ kt_664) (hts _ kt_1285) (by decide +kernel) ⟨Nat.le_of_ble_eq_true rfl, Nat.le_of_ble_eq_true rfl⟩, (hts _ kt_1286), (hts _ kt_1287)⟩ ⟨fun a U g mk q => ⟨q.1, PT.calling q.2⟩, pg_recv hK hP hL_xq hF_248 (q := (RX11, TX11, 9)) rfl, fun U hU hWm => ⟨rfl, PT.mk hU hWm hP hK hD hE hO⟩⟩ rfl rfl hl.1 rfl (lv_room (Nat.le_of_ble_eq_true rfl)) dL_law_376 ⟨by show _ + 0 ≤ 600000; omega, by show _ + 0 ≤ 7302250; omega⟩) hS (fun q _ h => hFc q h) hFc (fun r_285 c2 t H1 locs ht hvm hw hB hz1 hk1 hS => ?_)
    obtain ⟨F2, f2, hB1, hf0, hf1, hf2, hf3⟩ := hB
    obtain ⟨hP, hD, hO, hR⟩ := QT.back hB1 ht hFc FR.refl (fun q h => h)
    have hM := hM.kept hBq hk1
    have hLT := hLT.fr hW hT_xq hB1.2.2.2 (fun q h => by simp only [List.mem_cons, List.not_mem_nil, or_false] at h; omega)
    have hE1 := hw
    have hln20 := l8
    have hCol9 := hCol
    have hDI := DIRC.fr hDI hO0 hW hi_265 ht_266 hcn hB1.2.2.2 (hB1.2.2.2 ea (by rw [ht_266]; simp)) (fun k hk => by simp only [List.mem_cons, List.not_mem_nil, or_false]; omega)
    have hFk9 := (hB1.2.2.2 ck (by rw [hTck]; simp)).trans hFk
    have hSD9 := hSD.imp id (fun q => q.fr hO0 hW hi_269 ht_271 hi_272 ht_274 hi_275 ht_277 hi_278 ht_280 hB1.2.2.2 (fun k9 h1 h2 => by simp only [List.mem_cons, List.not_mem_nil, or_false]; omega))
    have hC : PCl (dC, dI) cs A Bq xq zt ze f n bb zm fL sA sB sC DX c2 f2 SD aS vS c9 u9 H1 := ⟨L, F2, ty, ρ, ta, ou, di, ea, ck, sl, po, hs, rt, ro, ca0, ca1, ca2, ca3, cnm, cte, ⟨hP, hD, hO, hW⟩, hL_xq, hT_xq, hTta, (hB1.2.2.2 ta (by rw [hTta]; simp)).trans hFt, (hB1.2.2.2 rt (by rw [htR]; simp)).trans hFr, hzt, (hB1.2.2.2 di (by rw [ht_268]; simp)).trans hFd, hcn, hLT, hDI, hTck, hFk9, hSD9, hCol9, hTou, hf0, hf1, hf3, hBq⟩
    generalize H1 = H at hC hM hS ⊢
    refine lv_pop hx hb dL_law_379 rfl ?_
    refine lv_aload_n hx hb dL_law_380 rfl (lv_at hl 1 rfl) ?_
    refine lv_aload_n hx hb dL_law_381 rfl (lv_at hl 3 rfl) ?_
    refine lv_iload_n hx hb dL_law_382 rfl (lv_at hl 0 rfl) ?_
    refine lv_iconst (v := 1) hx hb dL_law_383 (by decide) ?_
    refine lv_iadd hx hb dL_law_384 ?_
    refine lv_topi (fun x_286 ex_286 => ?_)
    obtain rfl : x_286 = (nI (i + 1)) := ex_286.trans (nI_add i 1)
    refine va_sld hx hb hX hbl hbA hS (vp_in_nI (by omega) (by omega)) dL_law_385 ?_
    refine lv_topi (fun x_287 ex_287 => ?_)
    obtain rfl : x_287 = (xs (i + 1)) := ex_287.trans (congrArg xs (nI_clamp (by omega)))
    refine lv_if_eq (tgt := 393) hx hb dL_law_386 (by decide) (fun c_288 => absurd c_288 (c_3)) (fun c_288 => ?_)
    refine lv_iconst (v := 1) hx hb dL_law_389 (by decide) ?_
    refine lv_goto (tgt := 394) hx hb dL_law_390 (by decide) ?_
    obtain ⟨L, F, ty, ρ, ta, ou, so, ad, na, va, lc, dm, tg, pe, ml, bg, co, sp, nb0, nb1, nb2, pl, se, ke, wi, hs, mo, po, nu, pr, sq, xa, sa, n64, m64, ex, wh, sd, tk, hd, ak, ho, ot, sx, s0, s1, s2, ⟨hP, hD, hO, hW⟩, hL_h0, hT_h0, hFta, hFml, hDM, hSN, hFou, hn01, hn02, hn12, hU26, hU15, hBq⟩ := hM
    have hG := hGm
    obtain ⟨hq_311, hq_312, hq_313, hq_314, hq_315, hgO, hgA, hgB, hq_316⟩ := hW.sc hL_h0 hT_h0
    obtain ⟨v14_317, v15_318, v17_319, v18_320, v19_321, v20_322, v21_323, v22_324, v33_325, v52_326, v53_327, v54_328, hF_329, hq_330, hq_331, hq_332, hq_333, hq_334⟩ := hO.mod hL_h0 hT_h0
    obtain ⟨hi_335, ht_336⟩ := hW.f_ta hL_h0 hT_h0
    obtain ⟨hLs0, hTs0⟩ := hW.f_so hL_h0 hT_h0
    obtain ⟨hLd0, hTd0⟩ := hW.f_ad hL_h0 hT_h0
    obtain ⟨hLn0, hTn0⟩ := hW.f_na hL_h0 hT_h0
    obtain ⟨hLv0, hTv0⟩ := hW.f_va hL_h0 hT_h0
    have hO0 := hO
    obtain ⟨hi_337, r_289, ht_338⟩ := hW.f_lc hL_h0 hT_h0
    obtain ⟨hi_339, ht_340, hq_341⟩ := hW.txt hi_337 ht_338
    obtain ⟨hi_342, r_290, ht_343⟩ := hW.f_dm hL_h0 hT_h0
    obtain ⟨hi_344, ht_345, hq_346⟩ := hW.txt hi_342 ht_343
    obtain ⟨hi_347, r_291, ht_348⟩ := hW.f_pe hL_h0 hT_h0
    obtain ⟨hi_349, ht_350, hq_351⟩ := hW.txt hi_347 ht_348
    obtain ⟨hi_352, r_292, ht_353⟩ := hW.f_pl hL_h0 hT_h0
    obtain ⟨hi_354, ht_355, hq_356⟩ := hW.txt hi_352 ht_353
    have hFc := pg_free hD hS hA
    refine va_calli (va_runV (As := [.int 1]) (rest := []) ⟨hx, hb, hml, hown, hts⟩ (s_X15_plainBody_c l dC dI cs ty gm L H.size F h0 ρ ta ou so ad na va lc dm tg pe ml bg co sp nb0 nb1 nb2 pl se ke wi hs mo po nu pr sq xa sa n64 m64 ex wh sd tk hd ak ho ot sx s0 s1 s2 nf bd mm zo fm sn 1 gc gv ze zt r_292 gl 1 go hW hL_h0 hT_h0 hi_352 ht_353 hFml hFou) ⟨callB_of 1 hts (gi kt_1288) rfl rfl rfl (hts _ kt_669) (hts _ kt_1289) (by decide +kernel) ⟨Nat.le_of_ble_eq_true rfl, Nat.le_of_ble_eq_true rfl⟩, (hts _ kt_1290), (hts _ kt_1291)⟩ ⟨fun a U g mk q => ⟨q.1, PTm.calling q.2⟩, pg_recv hK hP hL_h0 hF_329 (q := (RX15, TX15, 59)) rfl, fun U hU hWm => ⟨rfl, PTm.mk hU hWm hP hK hD hE hO⟩⟩ rfl rfl hl.1 rfl (lv_room (Nat.le_of_ble_eq_true rfl)) dL_law_394 ⟨by show _ + 0 ≤ 600000; omega, by show _ + 0 ≤ 7302250; omega⟩) hS (fun q _ h => hFc q h) hFc (fun r_357 c3 t H1 locs ht hvm hw hB hz1 hk1 hS => ?_)
    obtain ⟨F2, ty9, go, hty9, hB1, hW9, hga0, hga⟩ := hB
    subst hty9
    obtain ⟨hP, hD, hO, hR⟩ := QTm.back hB1 ht hFc FR.refl (fun q h => h)
    have hC := hC.kept hBq hk1
    obtain ⟨hi_358, ht_359⟩ := hW.f_ml hL_h0 hT_h0
    have hR9 := FR.unre hT_h0 rfl hB1.2.2.2
    have hDM := DIRM.fr hDM hO0 hW hLn0 hTn0 hLv0 hTv0 hcn hR9 (hR9 so (by rw [hTs0]; simp)) (hR9 ad (by rw [hTd0]; simp)) (hR9 na (by rw [hTn0]; simp)) (hR9 va (by rw [hTv0]; simp)) (fun k hk => ⟨by simp only [List.mem_cons, List.not_mem_nil, or_false]; omega, by simp only [List.mem_cons, List.not_mem_nil, or_false]; omega⟩)
    have hSN9 := hSN.imp id (fun q => And.intro (q.1.fr hO0 hW hi_337 ht_338 hR9 (by simp only [List.mem_cons, List.not_mem_nil, or_false]; omega)) (q.2.fr hO0 hW hi_342 ht_343 hR9 (by simp only [List.mem_cons, List.not_mem_nil, or_false]; omega)))
    obtain ⟨hi_360, ht_361⟩ := hW.f_ou hL_h0 hT_h0
    have hM : PMl (dC, dI) cs A Bq h0 zt ze gt nf bd mm gm gl EX c3 go fm sn LC DN gc gv H1 := ⟨L, F2, _, ρ, ta, ou, so, ad, na, va, lc, dm, tg, pe, ml, bg, co, sp, nb0, nb1, nb2, pl, se, ke, wi, hs, mo, po, nu, pr, sq, xa, sa, n64, m64, ex, wh, sd, tk, hd, ak, ho, ot, sx, s0, s1, s2, ⟨hP, hD, hO, hW9⟩, hL_h0, rtf_self, (hB1.2.2.2 ta (by rw [rtf_tr hT_h0 (by decide) ht_336]; simp)).trans hFta, (hB1.2.2.2 ml (by rw [rtf_tr hT_h0 (by decide) ht_359]; simp)).trans hFml, hDM, hSN9, hga0, hn01, hn02, hn12, U_re hU26, U15_re hU15, hBq⟩
    obtain ⟨e23, hro⟩ := hlr.pbo hro hf2 hga
    subst e23
    have er := hlr.pb hE1 hw
    generalize H1 = H at hC hM hS ⊢
    refine lv_pop hx hb dL_law_397 rfl ?_
    refine lv_goto (tgt := 522) hx hb dL_law_398 (by decide) ?_
    refine W.widen (k := cc + 1) (n := ss + 5) (by omega) (by omega) ?_
    exact kk zt ze f gt n bb zm fL sA sB sC DX c2 f2 SD aS vS c9 u9 nf bd mm gm gl EX go fm sn LC DN gc gv _ _ _ (by omega) hcn (hrel) hlr hdr hro hsr hvn hce hC hM hS hl
set_option maxHeartbeats 4000000 in
set_option maxRecDepth 100000 in
theorem law_11 {p : Program} {l : Launch} {e : Env} {s : State} {m : MethodId} {below : List Frame} {meth : Method} {c : Code} {A Bq : Nat → Prop} {dC : Nat → ClassId} {dI : Nat → Nat → Nat} {cs : Nat → ClassId} {b Ln : Nat} {xs : Nat → Int32} (C0 : LC p s m meth c A dC dI cs b Ln xs) {xq h0 i zt ze cc ss : Nat} {f gt : Nat → Int32} {n : Nat} {bb : Int32} {zm : Nat} {fL sA sB sC : Nat → Int32} {DX : Nat → ETY} {zo : Nat} {fo : Nat → Int32} {SD : SDR} {aS vS : Int32} {c9 u9 : Nat} {nf bd mm : Nat} {gm : Nat → Nat → Nat} {gl : Nat → Int32} {EX : Nat → ETY} {go : Nat → Int32} {fm sn : Nat} {LC DN : List Nat} {gc gv : Nat} (hi : i + 6 ≤ Ln) (hLn : Ln ≤ 384) (hnz : zt ≤ 1280) (hcc : cc + 1 ≤ 600000) (hss : ss + 5 ≤ 7302250) {H : Heap} {locs : List Loc} {ls : Array Slot} (hrel : REL f gt zt) (hlr : LRL n bb zm fL sA sB sC nf bd mm gm gl) (hdr : DREL DX EX ze) (hro : REL fo go zo) (hsr : SRL SD aS vS fm sn LC DN) (hvn : VNI EX ze) (hce : c9 = gc ∧ u9 = gv) (hC : PCl (dC, dI) cs A Bq xq zt ze f n bb zm fL sA sB sC DX zo fo SD aS vS c9 u9 H) (hM : PMl (dC, dI) cs A Bq h0 zt ze gt nf bd mm gm gl EX zo go fm sn LC DN gc gv H) (hS : va_S A s.heap H locs) (hl : lv_has ls 4 [(3, .int (nI i)), (2, .ref h0), (1, .ref xq), (0, .ref b)]) (kk : ∀ (z2 c2 : Nat) (f2 g2 : Nat → Int32) (n : Nat) (bb : Int32) (zm : Nat) (fL sA sB sC : Nat → Int32) (DX : Nat → ETY) (zo : Nat) (fo : Nat → Int32) (SD : SDR) (aS vS : Int32) (c9 u9 : Nat) (nf bd mm : Nat) (gm : Nat → Nat → Nat) (gl : Nat → Int32) (EX : Nat → ETY) (go : Nat → Int32) (fm sn : Nat) (LC DN : List Nat) (gc gv : Nat) (H : Heap) (locs : List Loc) (ls : Array Slot), z2 ≤ zt + 20 → c2 ≤ 40 → REL f2 g2 z2 → LRL n bb zm fL sA sB sC nf bd mm gm gl → DREL DX EX c2 → REL fo go zo → SRL SD aS vS fm sn LC DN → VNI EX c2 → (c9 = gc ∧ u9 = gv) → PCl (dC, dI) cs A Bq xq z2 c2 f2 n bb zm fL sA sB sC DX zo fo SD aS vS c9 u9 H → PMl (dC, dI) cs A Bq h0 z2 c2 g2 nf bd mm gm gl EX zo go fm sn LC DN gc gv H → va_S A s.heap H locs → lv_has ls 4 [(3, .int (nI i)), (2, .ref h0), (1, .ref xq), (0, .ref b)] → W p l e room_1 s m #[Value.ref b] below meth c H locs (cc + 1) (ss + 5) (lw_Z below #[Value.ref b] s) (F0 m 522 ls [])) : W p l e room_1 s m #[Value.ref b] below meth c H locs cc ss (lw_Z below #[Value.ref b] s) (F0 m 401 ls []) := by
  obtain ⟨hx, hb, hr, hml, hown, hts, hX, hbl, hbA, hlocks, hE, hGc, hGm, hK, hA, hAs⟩ := id C0
  refine lv_aload_n hx hb dL_law_401 rfl (lv_at hl 2 rfl) ?_
  refine lv_aload_n hx hb dL_law_402 rfl (lv_at hl 3 rfl) ?_
  refine lv_iload_n hx hb dL_law_403 rfl (lv_at hl 0 rfl) ?_
  refine lv_iconst (v := 1) hx hb dL_law_404 (by decide) ?_
  refine lv_iadd hx hb dL_law_405 ?_
  refine lv_topi (fun x_1 ex_1 => ?_)
  obtain rfl : x_1 = (nI (i + 1)) := ex_1.trans (nI_add i 1)
  refine va_sld hx hb hX hbl hbA hS (vp_in_nI (by omega) (by omega)) dL_law_406 ?_
  refine lv_topi (fun x_2 ex_2 => ?_)
  obtain rfl : x_2 = (xs (i + 1)) := ex_2.trans (congrArg xs (nI_clamp (by omega)))
  refine lv_aload_n hx hb dL_law_407 rfl (lv_at hl 3 rfl) ?_
  refine lv_iload_n hx hb dL_law_408 rfl (lv_at hl 0 rfl) ?_
  refine lv_iconst (v := 2) hx hb dL_law_409 (by decide) ?_
  refine lv_iadd hx hb dL_law_410 ?_
  refine lv_topi (fun x_3 ex_3 => ?_)
  obtain rfl : x_3 = (nI (i + 2)) := ex_3.trans (nI_add i 2)
  refine va_sld hx hb hX hbl hbA hS (vp_in_nI (by omega) (by omega)) dL_law_411 ?_
  refine lv_topi (fun x_4 ex_4 => ?_)
  obtain rfl : x_4 = (xs (i + 2)) := ex_4.trans (congrArg xs (nI_clamp (by omega)))
  refine lv_if_eq (tgt := 419) hx hb dL_law_412 (by decide) (fun c_5 => ?_) (fun c_5 => ?_)
  ·
    refine lv_iconst (v := 0) hx hb dL_law_419 (by decide) ?_
    obtain ⟨L, F, ty, ρ, ta, ou, di, ea, ck, sl, po, hs, rt, ro, ca0, ca1, ca2, ca3, cnm, cte, ⟨hP, hD, hO, hW⟩, hL_xq, hT_xq, hTta, hFt, hFr, hzt, hFd, hcn, hLT, hDI, hTck, hFk, hSD, hCol, hTou, hFou, hFro, hzo, hBq⟩ := hC
    have hG := hGc
    have hTS : TS F ta zt := ⟨hzt, rt, hFt⟩
    obtain ⟨le, sp, μ, ν, x, y0, y1, y2, rx, x9, w0, w1, w2, rx9, o, hm, l1, l2, l3, l4, l5, l6, l7, l8, l9, l10, l11, l12, l13, l14, l15, l16⟩ := id hLT
    have hF_xq := l1
    obtain ⟨hi_6, ⟨r_7, ht_8⟩, hi_9, ⟨r_10, ht_11⟩, hi_12, ht_13, hi_14, ⟨w0_15, w1_16, w2_17, w3_18, nm_19, te_20, ht_21⟩, hi_22, ⟨l1_23, lx_24, ly0_25, ly1_26, ly2_27, k1_28, kx_29, ky0_30, ky1_31, ky2_32, w0_33, w1_34, w2_35, w3_36, w4_37, w5_38, w6_39, w7_40, w8_41, tk_42, h1_43, hx_44, hy_45, hw_46, pw_47, px_48, py_49, pz_50, pu_51, ht_52⟩, hi_53, ⟨w0_54, w1_55, rc_56, rx_57, ry0_58, ry1_59, ry2_60, ht_61⟩, hi_62, ⟨hx_63, hy_64, hw_65, ht_66⟩⟩ := hW.gate hL_xq hT_xq
    obtain ⟨le_67, sp_68, μ_69, ν_70, hF_71, hq_72, hq_73, hq_74, hq_75, hq_76, hq_77⟩ := hO.gate hL_xq hT_xq
    obtain ⟨x_78, y0_79, y1_80, y2_81, ht_82⟩ := id hq_73
    obtain ⟨x_83, y0_84, y1_85, y2_86, ht_87⟩ := id hq_75
    obtain ⟨hiR, htR, -⟩ := hW.bytes hi_6 hTta
    obtain ⟨hi_88, ht_89⟩ := hW.dir hi_12 ht_13
    have hO0 := hO
    obtain ⟨hi_90, ht_91, hi_92, ⟨r_93, ht_94⟩, hi_95, ⟨r_96, ht_97⟩, hi_98, ⟨r_99, ht_100⟩, hi_101, ⟨r_102, ht_103⟩, hi_104, ht_105, hi_106, ht_107⟩ := hW.chk hi_14 hTck
    have ht_94 : ty ca0 = (0, ρ + 36, [r_93, 91]) := ht_94
    have ht_97 : ty ca1 = (0, ρ + 37, [r_96, 30]) := ht_97
    have ht_100 : ty ca2 = (0, ρ + 38, [r_99, 60]) := ht_100
    have ht_103 : ty ca3 = (0, ρ + 39, [r_102, 15]) := ht_103
    have ht_105 : ty cnm = (20, ρ + 40, [12]) := ht_105
    have ht_107 : ty cte = (22, ρ + 41, [11]) := ht_107
    obtain ⟨hiO, htO, -⟩ := hW.bytes hi_9 hTou
    obtain ⟨lx9, -, -, -, -, -, -, -⟩ := hW.msg l2 l3
    have hpf := hlr.pos
    have hFc := pg_free hD hS hA
    refine va_calli (va_runV (As := [.int (xs (i + 1)), .int 0]) (rest := []) ⟨hx, hb, hml, hown, hts⟩ (s_X11_plainField_c l dC dI cs ty L H.size F xq ρ ta ou di ea ck sl po hs le x y0 y1 y2 sp rx ro n zm μ fL sA sB sC (gm 0) (gm 1) (cln sC) bb o (xs (i + 1)) 0 zo fo hW hL_xq hT_xq hi_9 hTou l2 l3 lx9 l6 l1 l9 l10 l11 l12 l13 l14 l8 l15 (by omega) hpf.1 hFou hFro hzo) ⟨callB_of 2 hts (gi kt_1292) rfl rfl rfl (hts _ kt_664) (hts _ kt_1293) (by decide +kernel) ⟨Nat.le_of_ble_eq_true rfl, Nat.le_of_ble_eq_true rfl⟩, (hts _ kt_1294), (hts _ kt_1295)⟩ ⟨fun a U g mk q => ⟨q.1, PT.calling q.2⟩, pg_recv hK hP hL_xq hF_71 (q := (RX11, TX11, 9)) rfl, fun U hU hWm => ⟨rfl, PT.mk hU hWm hP hK hD hE hO⟩⟩ rfl rfl hl.1 rfl (lv_room (Nat.le_of_ble_eq_true rfl)) dL_law_420 ⟨by show _ + 0 ≤ 600000; omega, by show _ + 0 ≤ 7302250; omega⟩) hS (fun q _ h => hFc q h) hFc (fun r_108 c2 t H1 locs ht hvm hw hB hz1 hk1 hS => ?_)
    obtain ⟨F2, f2, hB1, hf0, hf1, hf2, hf3⟩ := hB
    obtain ⟨hP, hD, hO, hR⟩ := QT.back hB1 ht hFc FR.refl (fun q h => h)
    have hM := hM.kept hBq hk1
    have hLT := hLT.fr hW hT_xq hB1.2.2.2 (fun q h => by simp only [List.mem_cons, List.not_mem_nil, or_false] at h; omega)
    have hE1 := hw
    have hln20 := l8
    have hCol9 := hCol
    have hDI := DIRC.fr hDI hO0 hW hi_88 ht_89 hcn hB1.2.2.2 (hB1.2.2.2 ea (by rw [ht_89]; simp)) (fun k hk => by simp only [List.mem_cons, List.not_mem_nil, or_false]; omega)
    have hFk9 := (hB1.2.2.2 ck (by rw [hTck]; simp)).trans hFk
    have hSD9 := hSD.imp id (fun q => q.fr hO0 hW hi_92 ht_94 hi_95 ht_97 hi_98 ht_100 hi_101 ht_103 hB1.2.2.2 (fun k9 h1 h2 => by simp only [List.mem_cons, List.not_mem_nil, or_false]; omega))
    have hC : PCl (dC, dI) cs A Bq xq zt ze f n bb zm fL sA sB sC DX c2 f2 SD aS vS c9 u9 H1 := ⟨L, F2, ty, ρ, ta, ou, di, ea, ck, sl, po, hs, rt, ro, ca0, ca1, ca2, ca3, cnm, cte, ⟨hP, hD, hO, hW⟩, hL_xq, hT_xq, hTta, (hB1.2.2.2 ta (by rw [hTta]; simp)).trans hFt, (hB1.2.2.2 rt (by rw [htR]; simp)).trans hFr, hzt, (hB1.2.2.2 di (by rw [ht_91]; simp)).trans hFd, hcn, hLT, hDI, hTck, hFk9, hSD9, hCol9, hTou, hf0, hf1, hf3, hBq⟩
    generalize H1 = H at hC hM hS ⊢
    refine lv_pop hx hb dL_law_423 rfl ?_
    refine lv_aload_n hx hb dL_law_424 rfl (lv_at hl 1 rfl) ?_
    refine lv_aload_n hx hb dL_law_425 rfl (lv_at hl 3 rfl) ?_
    refine lv_iload_n hx hb dL_law_426 rfl (lv_at hl 0 rfl) ?_
    refine lv_iconst (v := 1) hx hb dL_law_427 (by decide) ?_
    refine lv_iadd hx hb dL_law_428 ?_
    refine lv_topi (fun x_109 ex_109 => ?_)
    obtain rfl : x_109 = (nI (i + 1)) := ex_109.trans (nI_add i 1)
    refine va_sld hx hb hX hbl hbA hS (vp_in_nI (by omega) (by omega)) dL_law_429 ?_
    refine lv_topi (fun x_110 ex_110 => ?_)
    obtain rfl : x_110 = (xs (i + 1)) := ex_110.trans (congrArg xs (nI_clamp (by omega)))
    refine lv_aload_n hx hb dL_law_430 rfl (lv_at hl 3 rfl) ?_
    refine lv_iload_n hx hb dL_law_431 rfl (lv_at hl 0 rfl) ?_
    refine lv_iconst (v := 2) hx hb dL_law_432 (by decide) ?_
    refine lv_iadd hx hb dL_law_433 ?_
    refine lv_topi (fun x_111 ex_111 => ?_)
    obtain rfl : x_111 = (nI (i + 2)) := ex_111.trans (nI_add i 2)
    refine va_sld hx hb hX hbl hbA hS (vp_in_nI (by omega) (by omega)) dL_law_434 ?_
    refine lv_topi (fun x_112 ex_112 => ?_)
    obtain rfl : x_112 = (xs (i + 2)) := ex_112.trans (congrArg xs (nI_clamp (by omega)))
    refine lv_if_eq (tgt := 442) hx hb dL_law_435 (by decide) (fun c_113 => ?_) (fun c_113 => absurd (c_5) c_113)
    refine lv_iconst (v := 0) hx hb dL_law_442 (by decide) ?_
    obtain ⟨L, F, ty, ρ, ta, ou, so, ad, na, va, lc, dm, tg, pe, ml, bg, co, sp, nb0, nb1, nb2, pl, se, ke, wi, hs, mo, po, nu, pr, sq, xa, sa, n64, m64, ex, wh, sd, tk, hd, ak, ho, ot, sx, s0, s1, s2, ⟨hP, hD, hO, hW⟩, hL_h0, hT_h0, hFta, hFml, hDM, hSN, hFou, hn01, hn02, hn12, hU26, hU15, hBq⟩ := hM
    have hG := hGm
    obtain ⟨hq_136, hq_137, hq_138, hq_139, hq_140, hgO, hgA, hgB, hq_141⟩ := hW.sc hL_h0 hT_h0
    obtain ⟨v14_142, v15_143, v17_144, v18_145, v19_146, v20_147, v21_148, v22_149, v33_150, v52_151, v53_152, v54_153, hF_154, hq_155, hq_156, hq_157, hq_158, hq_159⟩ := hO.mod hL_h0 hT_h0
    obtain ⟨hi_160, ht_161⟩ := hW.f_ta hL_h0 hT_h0
    obtain ⟨hLs0, hTs0⟩ := hW.f_so hL_h0 hT_h0
    obtain ⟨hLd0, hTd0⟩ := hW.f_ad hL_h0 hT_h0
    obtain ⟨hLn0, hTn0⟩ := hW.f_na hL_h0 hT_h0
    obtain ⟨hLv0, hTv0⟩ := hW.f_va hL_h0 hT_h0
    have hO0 := hO
    obtain ⟨hi_162, r_114, ht_163⟩ := hW.f_lc hL_h0 hT_h0
    obtain ⟨hi_164, ht_165, hq_166⟩ := hW.txt hi_162 ht_163
    obtain ⟨hi_167, r_115, ht_168⟩ := hW.f_dm hL_h0 hT_h0
    obtain ⟨hi_169, ht_170, hq_171⟩ := hW.txt hi_167 ht_168
    obtain ⟨hi_172, r_116, ht_173⟩ := hW.f_pe hL_h0 hT_h0
    obtain ⟨hi_174, ht_175, hq_176⟩ := hW.txt hi_172 ht_173
    obtain ⟨hi_177, r_117, ht_178⟩ := hW.f_pl hL_h0 hT_h0
    obtain ⟨hi_179, ht_180, hq_181⟩ := hW.txt hi_177 ht_178
    have hFc := pg_free hD hS hA
    refine va_calli (va_runV (As := [.int (xs (i + 1)), .int 0]) (rest := []) ⟨hx, hb, hml, hown, hts⟩ (s_X15_plainField_c l dC dI cs ty gm L H.size F h0 ρ ta ou so ad na va lc dm tg pe ml bg co sp nb0 nb1 nb2 pl se ke wi hs mo po nu pr sq xa sa n64 m64 ex wh sd tk hd ak ho ot sx s0 s1 s2 nf bd mm zo fm sn 1 gc gv ze zt r_117 gl go (cln sC) (xs (i + 1)) 0 hW hL_h0 hT_h0 hi_177 ht_178 hFml hpf.2 hFou) ⟨callB_of 2 hts (gi kt_1296) rfl rfl rfl (hts _ kt_669) (hts _ kt_1297) (by decide +kernel) ⟨Nat.le_of_ble_eq_true rfl, Nat.le_of_ble_eq_true rfl⟩, (hts _ kt_1298), (hts _ kt_1299)⟩ ⟨fun a U g mk q => ⟨q.1, PTm.calling q.2⟩, pg_recv hK hP hL_h0 hF_154 (q := (RX15, TX15, 59)) rfl, fun U hU hWm => ⟨rfl, PTm.mk hU hWm hP hK hD hE hO⟩⟩ rfl rfl hl.1 rfl (lv_room (Nat.le_of_ble_eq_true rfl)) dL_law_443 ⟨by show _ + 0 ≤ 600000; omega, by show _ + 0 ≤ 7302250; omega⟩) hS (fun q _ h => hFc q h) hFc (fun r_182 c3 t H1 locs ht hvm hw hB hz1 hk1 hS => ?_)
    obtain ⟨F2, ty9, go, hty9, hB1, hW9, hga0, hga⟩ := hB
    subst hty9
    obtain ⟨hP, hD, hO, hR⟩ := QTm.back hB1 ht hFc FR.refl (fun q h => h)
    have hC := hC.kept hBq hk1
    obtain ⟨hi_183, ht_184⟩ := hW.f_ml hL_h0 hT_h0
    have hR9 := FR.unre hT_h0 rfl hB1.2.2.2
    have hDM := DIRM.fr hDM hO0 hW hLn0 hTn0 hLv0 hTv0 hcn hR9 (hR9 so (by rw [hTs0]; simp)) (hR9 ad (by rw [hTd0]; simp)) (hR9 na (by rw [hTn0]; simp)) (hR9 va (by rw [hTv0]; simp)) (fun k hk => ⟨by simp only [List.mem_cons, List.not_mem_nil, or_false]; omega, by simp only [List.mem_cons, List.not_mem_nil, or_false]; omega⟩)
    have hSN9 := hSN.imp id (fun q => And.intro (q.1.fr hO0 hW hi_162 ht_163 hR9 (by simp only [List.mem_cons, List.not_mem_nil, or_false]; omega)) (q.2.fr hO0 hW hi_167 ht_168 hR9 (by simp only [List.mem_cons, List.not_mem_nil, or_false]; omega)))
    obtain ⟨hi_185, ht_186⟩ := hW.f_ou hL_h0 hT_h0
    have hM : PMl (dC, dI) cs A Bq h0 zt ze gt nf bd mm gm gl EX c3 go fm sn LC DN gc gv H1 := ⟨L, F2, _, ρ, ta, ou, so, ad, na, va, lc, dm, tg, pe, ml, bg, co, sp, nb0, nb1, nb2, pl, se, ke, wi, hs, mo, po, nu, pr, sq, xa, sa, n64, m64, ex, wh, sd, tk, hd, ak, ho, ot, sx, s0, s1, s2, ⟨hP, hD, hO, hW9⟩, hL_h0, rtf_self, (hB1.2.2.2 ta (by rw [rtf_tr hT_h0 (by decide) ht_161]; simp)).trans hFta, (hB1.2.2.2 ml (by rw [rtf_tr hT_h0 (by decide) ht_184]; simp)).trans hFml, hDM, hSN9, hga0, hn01, hn02, hn12, U_re hU26, U15_re hU15, hBq⟩
    obtain ⟨e23, hro⟩ := hlr.pfo hln20 hro hf2 hga
    subst e23
    have er := hlr.pf hE1 hw hln20
    generalize H1 = H at hC hM hS ⊢
    refine lv_pop hx hb dL_law_446 rfl ?_
    refine lv_goto (tgt := 522) hx hb dL_law_447 (by decide) ?_
    refine W.widen (k := cc + 1) (n := ss + 5) (by omega) (by omega) ?_
    exact kk zt ze f gt n bb zm fL sA sB sC DX c2 f2 SD aS vS c9 u9 nf bd mm gm gl EX go fm sn LC DN gc gv _ _ _ (by omega) hcn (hrel) hlr hdr hro hsr hvn hce hC hM hS hl
  ·
    refine lv_iconst (v := 1) hx hb dL_law_415 (by decide) ?_
    refine lv_goto (tgt := 420) hx hb dL_law_416 (by decide) ?_
    obtain ⟨L, F, ty, ρ, ta, ou, di, ea, ck, sl, po, hs, rt, ro, ca0, ca1, ca2, ca3, cnm, cte, ⟨hP, hD, hO, hW⟩, hL_xq, hT_xq, hTta, hFt, hFr, hzt, hFd, hcn, hLT, hDI, hTck, hFk, hSD, hCol, hTou, hFou, hFro, hzo, hBq⟩ := hC
    have hG := hGc
    have hTS : TS F ta zt := ⟨hzt, rt, hFt⟩
    obtain ⟨le, sp, μ, ν, x, y0, y1, y2, rx, x9, w0, w1, w2, rx9, o, hm, l1, l2, l3, l4, l5, l6, l7, l8, l9, l10, l11, l12, l13, l14, l15, l16⟩ := id hLT
    have hF_xq := l1
    obtain ⟨hi_187, ⟨r_188, ht_189⟩, hi_190, ⟨r_191, ht_192⟩, hi_193, ht_194, hi_195, ⟨w0_196, w1_197, w2_198, w3_199, nm_200, te_201, ht_202⟩, hi_203, ⟨l1_204, lx_205, ly0_206, ly1_207, ly2_208, k1_209, kx_210, ky0_211, ky1_212, ky2_213, w0_214, w1_215, w2_216, w3_217, w4_218, w5_219, w6_220, w7_221, w8_222, tk_223, h1_224, hx_225, hy_226, hw_227, pw_228, px_229, py_230, pz_231, pu_232, ht_233⟩, hi_234, ⟨w0_235, w1_236, rc_237, rx_238, ry0_239, ry1_240, ry2_241, ht_242⟩, hi_243, ⟨hx_244, hy_245, hw_246, ht_247⟩⟩ := hW.gate hL_xq hT_xq
    obtain ⟨le_248, sp_249, μ_250, ν_251, hF_252, hq_253, hq_254, hq_255, hq_256, hq_257, hq_258⟩ := hO.gate hL_xq hT_xq
    obtain ⟨x_259, y0_260, y1_261, y2_262, ht_263⟩ := id hq_254
    obtain ⟨x_264, y0_265, y1_266, y2_267, ht_268⟩ := id hq_256
    obtain ⟨hiR, htR, -⟩ := hW.bytes hi_187 hTta
    obtain ⟨hi_269, ht_270⟩ := hW.dir hi_193 ht_194
    have hO0 := hO
    obtain ⟨hi_271, ht_272, hi_273, ⟨r_274, ht_275⟩, hi_276, ⟨r_277, ht_278⟩, hi_279, ⟨r_280, ht_281⟩, hi_282, ⟨r_283, ht_284⟩, hi_285, ht_286, hi_287, ht_288⟩ := hW.chk hi_195 hTck
    have ht_275 : ty ca0 = (0, ρ + 36, [r_274, 91]) := ht_275
    have ht_278 : ty ca1 = (0, ρ + 37, [r_277, 30]) := ht_278
    have ht_281 : ty ca2 = (0, ρ + 38, [r_280, 60]) := ht_281
    have ht_284 : ty ca3 = (0, ρ + 39, [r_283, 15]) := ht_284
    have ht_286 : ty cnm = (20, ρ + 40, [12]) := ht_286
    have ht_288 : ty cte = (22, ρ + 41, [11]) := ht_288
    obtain ⟨hiO, htO, -⟩ := hW.bytes hi_190 hTou
    obtain ⟨lx9, -, -, -, -, -, -, -⟩ := hW.msg l2 l3
    have hpf := hlr.pos
    have hFc := pg_free hD hS hA
    refine va_calli (va_runV (As := [.int (xs (i + 1)), .int 1]) (rest := []) ⟨hx, hb, hml, hown, hts⟩ (s_X11_plainField_c l dC dI cs ty L H.size F xq ρ ta ou di ea ck sl po hs le x y0 y1 y2 sp rx ro n zm μ fL sA sB sC (gm 0) (gm 1) (cln sC) bb o (xs (i + 1)) 1 zo fo hW hL_xq hT_xq hi_190 hTou l2 l3 lx9 l6 l1 l9 l10 l11 l12 l13 l14 l8 l15 (by omega) hpf.1 hFou hFro hzo) ⟨callB_of 2 hts (gi kt_1292) rfl rfl rfl (hts _ kt_664) (hts _ kt_1293) (by decide +kernel) ⟨Nat.le_of_ble_eq_true rfl, Nat.le_of_ble_eq_true rfl⟩, (hts _ kt_1294), (hts _ kt_1295)⟩ ⟨fun a U g mk q => ⟨q.1, PT.calling q.2⟩, pg_recv hK hP hL_xq hF_252 (q := (RX11, TX11, 9)) rfl, fun U hU hWm => ⟨rfl, PT.mk hU hWm hP hK hD hE hO⟩⟩ rfl rfl hl.1 rfl (lv_room (Nat.le_of_ble_eq_true rfl)) dL_law_420 ⟨by show _ + 0 ≤ 600000; omega, by show _ + 0 ≤ 7302250; omega⟩) hS (fun q _ h => hFc q h) hFc (fun r_289 c2 t H1 locs ht hvm hw hB hz1 hk1 hS => ?_)
    obtain ⟨F2, f2, hB1, hf0, hf1, hf2, hf3⟩ := hB
    obtain ⟨hP, hD, hO, hR⟩ := QT.back hB1 ht hFc FR.refl (fun q h => h)
    have hM := hM.kept hBq hk1
    have hLT := hLT.fr hW hT_xq hB1.2.2.2 (fun q h => by simp only [List.mem_cons, List.not_mem_nil, or_false] at h; omega)
    have hE1 := hw
    have hln20 := l8
    have hCol9 := hCol
    have hDI := DIRC.fr hDI hO0 hW hi_269 ht_270 hcn hB1.2.2.2 (hB1.2.2.2 ea (by rw [ht_270]; simp)) (fun k hk => by simp only [List.mem_cons, List.not_mem_nil, or_false]; omega)
    have hFk9 := (hB1.2.2.2 ck (by rw [hTck]; simp)).trans hFk
    have hSD9 := hSD.imp id (fun q => q.fr hO0 hW hi_273 ht_275 hi_276 ht_278 hi_279 ht_281 hi_282 ht_284 hB1.2.2.2 (fun k9 h1 h2 => by simp only [List.mem_cons, List.not_mem_nil, or_false]; omega))
    have hC : PCl (dC, dI) cs A Bq xq zt ze f n bb zm fL sA sB sC DX c2 f2 SD aS vS c9 u9 H1 := ⟨L, F2, ty, ρ, ta, ou, di, ea, ck, sl, po, hs, rt, ro, ca0, ca1, ca2, ca3, cnm, cte, ⟨hP, hD, hO, hW⟩, hL_xq, hT_xq, hTta, (hB1.2.2.2 ta (by rw [hTta]; simp)).trans hFt, (hB1.2.2.2 rt (by rw [htR]; simp)).trans hFr, hzt, (hB1.2.2.2 di (by rw [ht_272]; simp)).trans hFd, hcn, hLT, hDI, hTck, hFk9, hSD9, hCol9, hTou, hf0, hf1, hf3, hBq⟩
    generalize H1 = H at hC hM hS ⊢
    refine lv_pop hx hb dL_law_423 rfl ?_
    refine lv_aload_n hx hb dL_law_424 rfl (lv_at hl 1 rfl) ?_
    refine lv_aload_n hx hb dL_law_425 rfl (lv_at hl 3 rfl) ?_
    refine lv_iload_n hx hb dL_law_426 rfl (lv_at hl 0 rfl) ?_
    refine lv_iconst (v := 1) hx hb dL_law_427 (by decide) ?_
    refine lv_iadd hx hb dL_law_428 ?_
    refine lv_topi (fun x_290 ex_290 => ?_)
    obtain rfl : x_290 = (nI (i + 1)) := ex_290.trans (nI_add i 1)
    refine va_sld hx hb hX hbl hbA hS (vp_in_nI (by omega) (by omega)) dL_law_429 ?_
    refine lv_topi (fun x_291 ex_291 => ?_)
    obtain rfl : x_291 = (xs (i + 1)) := ex_291.trans (congrArg xs (nI_clamp (by omega)))
    refine lv_aload_n hx hb dL_law_430 rfl (lv_at hl 3 rfl) ?_
    refine lv_iload_n hx hb dL_law_431 rfl (lv_at hl 0 rfl) ?_
    refine lv_iconst (v := 2) hx hb dL_law_432 (by decide) ?_
    refine lv_iadd hx hb dL_law_433 ?_
    refine lv_topi (fun x_292 ex_292 => ?_)
    obtain rfl : x_292 = (nI (i + 2)) := ex_292.trans (nI_add i 2)
    refine va_sld hx hb hX hbl hbA hS (vp_in_nI (by omega) (by omega)) dL_law_434 ?_
    refine lv_topi (fun x_293 ex_293 => ?_)
    obtain rfl : x_293 = (xs (i + 2)) := ex_293.trans (congrArg xs (nI_clamp (by omega)))
    refine lv_if_eq (tgt := 442) hx hb dL_law_435 (by decide) (fun c_294 => absurd c_294 (c_5)) (fun c_294 => ?_)
    refine lv_iconst (v := 1) hx hb dL_law_438 (by decide) ?_
    refine lv_goto (tgt := 443) hx hb dL_law_439 (by decide) ?_
    obtain ⟨L, F, ty, ρ, ta, ou, so, ad, na, va, lc, dm, tg, pe, ml, bg, co, sp, nb0, nb1, nb2, pl, se, ke, wi, hs, mo, po, nu, pr, sq, xa, sa, n64, m64, ex, wh, sd, tk, hd, ak, ho, ot, sx, s0, s1, s2, ⟨hP, hD, hO, hW⟩, hL_h0, hT_h0, hFta, hFml, hDM, hSN, hFou, hn01, hn02, hn12, hU26, hU15, hBq⟩ := hM
    have hG := hGm
    obtain ⟨hq_317, hq_318, hq_319, hq_320, hq_321, hgO, hgA, hgB, hq_322⟩ := hW.sc hL_h0 hT_h0
    obtain ⟨v14_323, v15_324, v17_325, v18_326, v19_327, v20_328, v21_329, v22_330, v33_331, v52_332, v53_333, v54_334, hF_335, hq_336, hq_337, hq_338, hq_339, hq_340⟩ := hO.mod hL_h0 hT_h0
    obtain ⟨hi_341, ht_342⟩ := hW.f_ta hL_h0 hT_h0
    obtain ⟨hLs0, hTs0⟩ := hW.f_so hL_h0 hT_h0
    obtain ⟨hLd0, hTd0⟩ := hW.f_ad hL_h0 hT_h0
    obtain ⟨hLn0, hTn0⟩ := hW.f_na hL_h0 hT_h0
    obtain ⟨hLv0, hTv0⟩ := hW.f_va hL_h0 hT_h0
    have hO0 := hO
    obtain ⟨hi_343, r_295, ht_344⟩ := hW.f_lc hL_h0 hT_h0
    obtain ⟨hi_345, ht_346, hq_347⟩ := hW.txt hi_343 ht_344
    obtain ⟨hi_348, r_296, ht_349⟩ := hW.f_dm hL_h0 hT_h0
    obtain ⟨hi_350, ht_351, hq_352⟩ := hW.txt hi_348 ht_349
    obtain ⟨hi_353, r_297, ht_354⟩ := hW.f_pe hL_h0 hT_h0
    obtain ⟨hi_355, ht_356, hq_357⟩ := hW.txt hi_353 ht_354
    obtain ⟨hi_358, r_298, ht_359⟩ := hW.f_pl hL_h0 hT_h0
    obtain ⟨hi_360, ht_361, hq_362⟩ := hW.txt hi_358 ht_359
    have hFc := pg_free hD hS hA
    refine va_calli (va_runV (As := [.int (xs (i + 1)), .int 1]) (rest := []) ⟨hx, hb, hml, hown, hts⟩ (s_X15_plainField_c l dC dI cs ty gm L H.size F h0 ρ ta ou so ad na va lc dm tg pe ml bg co sp nb0 nb1 nb2 pl se ke wi hs mo po nu pr sq xa sa n64 m64 ex wh sd tk hd ak ho ot sx s0 s1 s2 nf bd mm zo fm sn 1 gc gv ze zt r_298 gl go (cln sC) (xs (i + 1)) 1 hW hL_h0 hT_h0 hi_358 ht_359 hFml hpf.2 hFou) ⟨callB_of 2 hts (gi kt_1296) rfl rfl rfl (hts _ kt_669) (hts _ kt_1297) (by decide +kernel) ⟨Nat.le_of_ble_eq_true rfl, Nat.le_of_ble_eq_true rfl⟩, (hts _ kt_1298), (hts _ kt_1299)⟩ ⟨fun a U g mk q => ⟨q.1, PTm.calling q.2⟩, pg_recv hK hP hL_h0 hF_335 (q := (RX15, TX15, 59)) rfl, fun U hU hWm => ⟨rfl, PTm.mk hU hWm hP hK hD hE hO⟩⟩ rfl rfl hl.1 rfl (lv_room (Nat.le_of_ble_eq_true rfl)) dL_law_443 ⟨by show _ + 0 ≤ 600000; omega, by show _ + 0 ≤ 7302250; omega⟩) hS (fun q _ h => hFc q h) hFc (fun r_363 c3 t H1 locs ht hvm hw hB hz1 hk1 hS => ?_)
    obtain ⟨F2, ty9, go, hty9, hB1, hW9, hga0, hga⟩ := hB
    subst hty9
    obtain ⟨hP, hD, hO, hR⟩ := QTm.back hB1 ht hFc FR.refl (fun q h => h)
    have hC := hC.kept hBq hk1
    obtain ⟨hi_364, ht_365⟩ := hW.f_ml hL_h0 hT_h0
    have hR9 := FR.unre hT_h0 rfl hB1.2.2.2
    have hDM := DIRM.fr hDM hO0 hW hLn0 hTn0 hLv0 hTv0 hcn hR9 (hR9 so (by rw [hTs0]; simp)) (hR9 ad (by rw [hTd0]; simp)) (hR9 na (by rw [hTn0]; simp)) (hR9 va (by rw [hTv0]; simp)) (fun k hk => ⟨by simp only [List.mem_cons, List.not_mem_nil, or_false]; omega, by simp only [List.mem_cons, List.not_mem_nil, or_false]; omega⟩)
    have hSN9 := hSN.imp id (fun q => And.intro (q.1.fr hO0 hW hi_343 ht_344 hR9 (by simp only [List.mem_cons, List.not_mem_nil, or_false]; omega)) (q.2.fr hO0 hW hi_348 ht_349 hR9 (by simp only [List.mem_cons, List.not_mem_nil, or_false]; omega)))
    obtain ⟨hi_366, ht_367⟩ := hW.f_ou hL_h0 hT_h0
    have hM : PMl (dC, dI) cs A Bq h0 zt ze gt nf bd mm gm gl EX c3 go fm sn LC DN gc gv H1 := ⟨L, F2, _, ρ, ta, ou, so, ad, na, va, lc, dm, tg, pe, ml, bg, co, sp, nb0, nb1, nb2, pl, se, ke, wi, hs, mo, po, nu, pr, sq, xa, sa, n64, m64, ex, wh, sd, tk, hd, ak, ho, ot, sx, s0, s1, s2, ⟨hP, hD, hO, hW9⟩, hL_h0, rtf_self, (hB1.2.2.2 ta (by rw [rtf_tr hT_h0 (by decide) ht_342]; simp)).trans hFta, (hB1.2.2.2 ml (by rw [rtf_tr hT_h0 (by decide) ht_365]; simp)).trans hFml, hDM, hSN9, hga0, hn01, hn02, hn12, U_re hU26, U15_re hU15, hBq⟩
    obtain ⟨e23, hro⟩ := hlr.pfo hln20 hro hf2 hga
    subst e23
    have er := hlr.pf hE1 hw hln20
    generalize H1 = H at hC hM hS ⊢
    refine lv_pop hx hb dL_law_446 rfl ?_
    refine lv_goto (tgt := 522) hx hb dL_law_447 (by decide) ?_
    refine W.widen (k := cc + 1) (n := ss + 5) (by omega) (by omega) ?_
    exact kk zt ze f gt n bb zm fL sA sB sC DX c2 f2 SD aS vS c9 u9 nf bd mm gm gl EX go fm sn LC DN gc gv _ _ _ (by omega) hcn (hrel) hlr hdr hro hsr hvn hce hC hM hS hl
