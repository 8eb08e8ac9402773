theorem kt_1300 : Cond.code yX11_house cX11_house 1 (some .int) ∈ tb := tb_at (i := 1096) (by decide +kernel) (by decide +kernel)
theorem kt_1301 : Cond.methodLink RL 67 yX11_house ∈ tb := tb_at (i := 1093) (by decide +kernel) (by decide +kernel)
theorem kt_1302 : Cond.instanceMethod yX11_house ∈ tb := tb_at (i := 1094) (by decide +kernel) (by decide +kernel)
theorem kt_1303 : Cond.selects RX11 yX11_house yX11_house ∈ tb := tb_at (i := 1095) (by decide +kernel) (by decide +kernel)
theorem kt_1304 : Cond.code yX15_house cX15_house 2 (some .int) ∈ tb := tb_at (i := 1851) (by decide +kernel) (by decide +kernel)
theorem kt_1305 : Cond.methodLink RL 70 yX15_house ∈ tb := tb_at (i := 1848) (by decide +kernel) (by decide +kernel)
theorem kt_1306 : Cond.instanceMethod yX15_house ∈ tb := tb_at (i := 1849) (by decide +kernel) (by decide +kernel)
theorem kt_1307 : Cond.selects RX15 yX15_house yX15_house ∈ tb := tb_at (i := 1850) (by decide +kernel) (by decide +kernel)
theorem kt_1308 : Cond.code yX11_wish cX11_wish 4 (some .int) ∈ tb := tb_at (i := 1119) (by decide +kernel) (by decide +kernel)
theorem kt_1309 : Cond.methodLink RL 71 yX11_wish ∈ tb := tb_at (i := 1116) (by decide +kernel) (by decide +kernel)
theorem kt_1310 : Cond.instanceMethod yX11_wish ∈ tb := tb_at (i := 1117) (by decide +kernel) (by decide +kernel)
theorem kt_1311 : Cond.selects RX11 yX11_wish yX11_wish ∈ tb := tb_at (i := 1118) (by decide +kernel) (by decide +kernel)
theorem kt_1312 : Cond.code yX15_wish cX15_wish 6 (some .int) ∈ tb := tb_at (i := 1864) (by decide +kernel) (by decide +kernel)
theorem kt_1313 : Cond.methodLink RL 74 yX15_wish ∈ tb := tb_at (i := 1861) (by decide +kernel) (by decide +kernel)
theorem kt_1314 : Cond.instanceMethod yX15_wish ∈ tb := tb_at (i := 1862) (by decide +kernel) (by decide +kernel)
theorem kt_1315 : Cond.selects RX15 yX15_wish yX15_wish ∈ tb := tb_at (i := 1863) (by decide +kernel) (by decide +kernel)
set_option maxHeartbeats 4000000 in
set_option maxRecDepth 100000 in
theorem law_12 {p : Program} {l : Launch} {e : Env} {s : State} {m : MethodId} {below : List Frame} {meth : Method} {c : Code} {A Bq : Nat → Prop} {dC : Nat → ClassId} {dI : Nat → Nat → Nat} {cs : Nat → ClassId} {b Ln : Nat} {xs : Nat → Int32} (C0 : LC p s m meth c A dC dI cs b Ln xs) {xq h0 i zt ze cc ss : Nat} {f gt : Nat → Int32} {n : Nat} {bb : Int32} {zm : Nat} {fL sA sB sC : Nat → Int32} {DX : Nat → ETY} {zo : Nat} {fo : Nat → Int32} {nf bd mm : Nat} {gm : Nat → Nat → Nat} {gl : Nat → Int32} {EX : Nat → ETY} {go : Nat → Int32} (hi : i + 6 ≤ Ln) (hLn : Ln ≤ 384) (hnz : zt ≤ 1280) (hcc : cc + 1 ≤ 600000) (hss : ss + 5 ≤ 7302250) {H : Heap} {locs : List Loc} {ls : Array Slot} (hrel : REL f gt zt) (hlr : LRL n bb zm fL sA sB sC nf bd mm gm gl) (hdr : DREL DX EX ze) (hro : REL fo go zo) (hC : PCl (dC, dI) cs A Bq xq zt ze f n bb zm fL sA sB sC DX zo fo H) (hM : PMl (dC, dI) cs A Bq h0 zt ze gt nf bd mm gm gl EX zo go H) (hS : va_S A s.heap H locs) (hl : lv_has ls 4 [(3, .int (nI i)), (2, .ref h0), (1, .ref xq), (0, .ref b)]) (kk : ∀ (z2 c2 : Nat) (f2 g2 : Nat → Int32) (n : Nat) (bb : Int32) (zm : Nat) (fL sA sB sC : Nat → Int32) (DX : Nat → ETY) (zo : Nat) (fo : Nat → Int32) (nf bd mm : Nat) (gm : Nat → Nat → Nat) (gl : Nat → Int32) (EX : Nat → ETY) (go : Nat → Int32) (H : Heap) (locs : List Loc) (ls : Array Slot), z2 ≤ zt + 20 → c2 ≤ 40 → REL f2 g2 z2 → LRL n bb zm fL sA sB sC nf bd mm gm gl → DREL DX EX c2 → REL fo go zo → PCl (dC, dI) cs A Bq xq z2 c2 f2 n bb zm fL sA sB sC DX zo fo H → PMl (dC, dI) cs A Bq h0 z2 c2 g2 nf bd mm gm gl EX zo go H → va_S A s.heap H locs → lv_has ls 4 [(3, .int (nI i)), (2, .ref h0), (1, .ref xq), (0, .ref b)] → W p l e room_1 s m #[Value.ref b] below meth c H locs (cc + 1) (ss + 5) (lw_Z below #[Value.ref b] s) (F0 m 522 ls [])) : W p l e room_1 s m #[Value.ref b] below meth c H locs cc ss (lw_Z below #[Value.ref b] s) (F0 m 450 ls []) := by
  obtain ⟨hx, hb, hr, hml, hown, hts, hX, hbl, hbA, hlocks, hE, hGc, hGm, hK, hA, hAs⟩ := id C0
  refine lv_aload_n hx hb dL_law_450 rfl (lv_at hl 2 rfl) ?_
  obtain ⟨L, F, ty, ρ, ta, ou, di, ea, ck, sl, po, hs, rt, ro, ⟨hP, hD, hO, hW⟩, hL_xq, hT_xq, hTta, hFt, hFr, hzt, hFd, hcn, hLT, hDI, hTou, hFou, hFro, hzo, hBq⟩ := hC
  have hG := hGc
  have hTS : TS F ta zt := ⟨hzt, rt, hFt⟩
  obtain ⟨hi_1, ⟨r_2, ht_3⟩, hi_4, ⟨r_5, ht_6⟩, hi_7, ht_8, hi_9, ⟨w0_10, w1_11, w2_12, w3_13, nm_14, te_15, ht_16⟩, hi_17, ⟨l1_18, lx_19, ly0_20, ly1_21, ly2_22, k1_23, kx_24, ky0_25, ky1_26, ky2_27, w0_28, w1_29, w2_30, w3_31, w4_32, w5_33, w6_34, w7_35, w8_36, tk_37, h1_38, hx_39, hy_40, hw_41, pw_42, px_43, py_44, pz_45, pu_46, ht_47⟩, hi_48, ⟨w0_49, w1_50, rc_51, rx_52, ry0_53, ry1_54, ry2_55, ht_56⟩, hi_57, ⟨hx_58, hy_59, hw_60, ht_61⟩⟩ := hW.gate hL_xq hT_xq
  obtain ⟨le_62, sp_63, μ_64, ν_65, hF_66, hq_67, hq_68, hq_69, hq_70, hq_71, hq_72⟩ := hO.gate hL_xq hT_xq
  obtain ⟨x_73, y0_74, y1_75, y2_76, ht_77⟩ := id hq_68
  obtain ⟨x_78, y0_79, y1_80, y2_81, ht_82⟩ := id hq_70
  obtain ⟨hiR, htR, -⟩ := hW.bytes hi_1 hTta
  obtain ⟨hi_83, ht_84⟩ := hW.dir hi_7 ht_8
  have hO0 := hO
  obtain ⟨hiO, htO, -⟩ := hW.bytes hi_4 hTou
  have hFc := pg_free hD hS hA
  refine va_calli (va_runV (As := []) (rest := []) ⟨hx, hb, hml, hown, hts⟩ (s_X11_house_c l dC dI cs ty L H.size F xq ρ ta ou di ea ck sl po hs zt rt ze f ro DX zo fo hW hL_xq hT_xq hi_1 hTta hi_4 hTou hFt hFr hzt hFd hcn hDI hFou hFro hzo) ⟨callB_of 0 hts (gi kt_1300) rfl rfl rfl (hts _ kt_646) (hts _ kt_1301) (by decide +kernel) ⟨Nat.le_of_ble_eq_true rfl, Nat.le_of_ble_eq_true rfl⟩, (hts _ kt_1302), (hts _ kt_1303)⟩ ⟨fun a U g mk q => ⟨q.1, PT.calling q.2⟩, pg_recv hK hP hL_xq hF_66 (q := (RX11, TX11, 9)) rfl, fun U hU hWm => ⟨rfl, PT.mk hU hWm hP hK hD hE hO⟩⟩ rfl rfl hl.1 rfl (lv_room (Nat.le_of_ble_eq_true rfl)) dL_law_451 ⟨by show _ + 0 ≤ 600000; omega, by show _ + 0 ≤ 7302250; omega⟩) hS (fun q _ h => hFc q h) hFc (fun r_85 c2 t H1 locs ht hvm hw hB hz1 hk1 hS => ?_)
  obtain ⟨F2, f2, hB1, hf0, hf1, hf2, hf3, hf4⟩ := hB
  obtain ⟨hP, hD, hO, hR⟩ := QT.back hB1 ht hFc FR.refl (fun q h => h)
  have hM := hM.kept hBq hk1
  have hLT := hLT.fr hW hT_xq hB1.2.2.2 (fun q h => by simp only [List.mem_cons, List.not_mem_nil, or_false] at h; omega)
  have hE1 := hw
  obtain ⟨f9, hFr9⟩ := hO.ints hiR htR
  have hDI := DIRC.fr hDI hO0 hW hi_83 ht_84 hcn hB1.2.2.2 (hB1.2.2.2 ea (by rw [ht_84]; simp)) (fun k hk => by simp only [List.mem_cons, List.not_mem_nil, or_false]; omega)
  have hC : PCl (dC, dI) cs A Bq xq 0 ze f9 n bb zm fL sA sB sC DX c2 f2 H1 := ⟨L, F2, ty, ρ, ta, ou, di, ea, ck, sl, po, hs, rt, ro, ⟨hP, hD, hO, hW⟩, hL_xq, hT_xq, hTta, hf0, hFr9, (Nat.zero_le _), (hB1.2.2.2 di (by rw [ht_8]; simp)).trans hFd, hcn, hLT, hDI, hTou, hf1, hf2, hf4, hBq⟩
  generalize H1 = H at hC hM hS ⊢
  refine lv_pop hx hb dL_law_454 rfl ?_
  refine lv_aload_n hx hb dL_law_455 rfl (lv_at hl 1 rfl) ?_
  obtain ⟨L, F, ty, ρ, ta, ou, so, ad, na, va, lc, dm, tg, pe, ml, bg, co, sp, nb0, nb1, nb2, pl, se, ke, wi, hs, mo, po, nu, pr, sq, xa, sa, n64, m64, ex, wh, sd, tk, hd, ak, ho, ot, sx, s0, s1, s2, ⟨hP, hD, hO, hW⟩, hL_h0, hT_h0, hFta, hFml, hDM, hFou, hn01, hn02, hn12, hU26, hU15, hBq⟩ := hM
  have hG := hGm
  obtain ⟨hq_108, hq_109, hq_110, hq_111, hq_112, hgO, hgA, hgB⟩ := hW.sc hL_h0 hT_h0
  obtain ⟨v11_113, v12_114, v14_115, v15_116, v17_117, v18_118, v19_119, v20_120, v21_121, v22_122, v33_123, v52_124, v53_125, v54_126, hF_127, hq_128, hq_129, hq_130, hq_131⟩ := hO.mod hL_h0 hT_h0
  obtain ⟨hi_132, ht_133⟩ := hW.f_ta hL_h0 hT_h0
  obtain ⟨hLs0, hTs0⟩ := hW.f_so hL_h0 hT_h0
  obtain ⟨hLd0, hTd0⟩ := hW.f_ad hL_h0 hT_h0
  obtain ⟨hLn0, hTn0⟩ := hW.f_na hL_h0 hT_h0
  obtain ⟨hLv0, hTv0⟩ := hW.f_va hL_h0 hT_h0
  have hO0 := hO
  have hFc := pg_free hD hS hA
  refine va_calli (va_runV (As := []) (rest := []) ⟨hx, hb, hml, hown, hts⟩ (s_X15_house_c l dC dI cs ty gm L H.size F h0 ρ ta ou so ad na va lc dm tg pe ml bg co sp nb0 nb1 nb2 pl se ke wi hs mo po nu pr sq xa sa n64 m64 ex wh sd tk hd ak ho ot sx s0 s1 s2 nf bd mm zo ze zt gt EX go hW hL_h0 hT_h0 hFta hDM hFou) ⟨callB_of 0 hts (gi kt_1304) rfl rfl rfl (hts _ kt_659) (hts _ kt_1305) (by decide +kernel) ⟨Nat.le_of_ble_eq_true rfl, Nat.le_of_ble_eq_true rfl⟩, (hts _ kt_1306), (hts _ kt_1307)⟩ ⟨fun a U g mk q => ⟨q.1, PTm.calling q.2⟩, pg_recv hK hP hL_h0 hF_127 (q := (RX15, TX15, 59)) rfl, fun U hU hWm => ⟨rfl, PTm.mk hU hWm hP hK hD hE hO⟩⟩ rfl rfl hl.1 rfl (lv_room (Nat.le_of_ble_eq_true rfl)) dL_law_456 ⟨by show _ + 0 ≤ 600000; omega, by show _ + 0 ≤ 7302250; omega⟩) hS (fun q _ h => hFc q h) hFc (fun r_134 c3 t H1 locs ht hvm hw hB hz1 hk1 hS => ?_)
  obtain ⟨F2, ty9, go, hty9, hB1, hW9, hga0, hga⟩ := hB
  subst hty9
  obtain ⟨hP, hD, hO, hR⟩ := QTm.back hB1 ht hFc FR.refl (fun q h => h)
  have hC := hC.kept hBq hk1
  obtain ⟨hi_135, ht_136⟩ := hW.f_ml hL_h0 hT_h0
  have hR9 := FR.unre hT_h0 rfl hB1.2.2.2
  have hDM := DIRM.fr hDM hO0 hW hLn0 hTn0 hLv0 hTv0 hcn hR9 (hR9 so (by rw [hTs0]; simp)) (hR9 ad (by rw [hTd0]; simp)) (hR9 na (by rw [hTn0]; simp)) (hR9 va (by rw [hTv0]; simp)) (fun k hk => ⟨by simp only [List.mem_cons, List.not_mem_nil, or_false]; omega, by simp only [List.mem_cons, List.not_mem_nil, or_false]; omega⟩)
  obtain ⟨hi_137, ht_138⟩ := hW.f_ou hL_h0 hT_h0
  have hM : PMl (dC, dI) cs A Bq h0 0 ze gt nf bd mm gm gl EX c3 go H1 := ⟨L, F2, _, ρ, ta, ou, so, ad, na, va, lc, dm, tg, pe, ml, bg, co, sp, nb0, nb1, nb2, pl, se, ke, wi, hs, mo, po, nu, pr, sq, xa, sa, n64, m64, ex, wh, sd, tk, hd, ak, ho, ot, sx, s0, s1, s2, ⟨hP, hD, hO, hW9⟩, hL_h0, rtf_self, (hB1.2.2.2 ta (by rw [rtf_tr hT_h0 (by decide) ht_133]; simp)).trans hFta, (hB1.2.2.2 ml (by rw [rtf_tr hT_h0 (by decide) ht_136]; simp)).trans hFml, hDM, hga0, hn01, hn02, hn12, U_re hU26, U15_re hU15, hBq⟩
  have er := house_same hrel hdr
  obtain ⟨e23, hro⟩ := hsc_rel hrel hdr hro hf3 hga
  subst e23
  generalize H1 = H at hC hM hS ⊢
  refine lv_pop hx hb dL_law_459 rfl ?_
  refine lv_goto (tgt := 522) hx hb dL_law_460 (by decide) ?_
  refine W.widen (k := cc + 1) (n := ss + 5) (by omega) (by omega) ?_
  exact kk 0 ze f9 gt n bb zm fL sA sB sC DX c2 f2 nf bd mm gm gl EX go _ _ _ (by omega) hcn (REL.zero) hlr hdr hro hC hM hS hl
set_option maxHeartbeats 4000000 in
set_option maxRecDepth 100000 in
theorem law_13 {p : Program} {l : Launch} {e : Env} {s : State} {m : MethodId} {below : List Frame} {meth : Method} {c : Code} {A Bq : Nat → Prop} {dC : Nat → ClassId} {dI : Nat → Nat → Nat} {cs : Nat → ClassId} {b Ln : Nat} {xs : Nat → Int32} (C0 : LC p s m meth c A dC dI cs b Ln xs) {xq h0 i zt ze cc ss : Nat} {f gt : Nat → Int32} {n : Nat} {bb : Int32} {zm : Nat} {fL sA sB sC : Nat → Int32} {DX : Nat → ETY} {zo : Nat} {fo : Nat → Int32} {nf bd mm : Nat} {gm : Nat → Nat → Nat} {gl : Nat → Int32} {EX : Nat → ETY} {go : Nat → Int32} (hi : i + 6 ≤ Ln) (hLn : Ln ≤ 384) (hnz : zt ≤ 1280) (hcc : cc + 1 ≤ 600000) (hss : ss + 5 ≤ 7302250) {H : Heap} {locs : List Loc} {ls : Array Slot} (hrel : REL f gt zt) (hlr : LRL n bb zm fL sA sB sC nf bd mm gm gl) (hdr : DREL DX EX ze) (hro : REL fo go zo) (hC : PCl (dC, dI) cs A Bq xq zt ze f n bb zm fL sA sB sC DX zo fo H) (hM : PMl (dC, dI) cs A Bq h0 zt ze gt nf bd mm gm gl EX zo go H) (hS : va_S A s.heap H locs) (hl : lv_has ls 4 [(3, .int (nI i)), (2, .ref h0), (1, .ref xq), (0, .ref b)]) (kk : ∀ (z2 c2 : Nat) (f2 g2 : Nat → Int32) (n : Nat) (bb : Int32) (zm : Nat) (fL sA sB sC : Nat → Int32) (DX : Nat → ETY) (zo : Nat) (fo : Nat → Int32) (nf bd mm : Nat) (gm : Nat → Nat → Nat) (gl : Nat → Int32) (EX : Nat → ETY) (go : Nat → Int32) (H : Heap) (locs : List Loc) (ls : Array Slot), z2 ≤ zt + 20 → c2 ≤ 40 → REL f2 g2 z2 → LRL n bb zm fL sA sB sC nf bd mm gm gl → DREL DX EX c2 → REL fo go zo → PCl (dC, dI) cs A Bq xq z2 c2 f2 n bb zm fL sA sB sC DX zo fo H → PMl (dC, dI) cs A Bq h0 z2 c2 g2 nf bd mm gm gl EX zo go H → va_S A s.heap H locs → lv_has ls 4 [(3, .int (nI i)), (2, .ref h0), (1, .ref xq), (0, .ref b)] → W p l e room_1 s m #[Value.ref b] below meth c H locs (cc + 1) (ss + 5) (lw_Z below #[Value.ref b] s) (F0 m 522 ls [])) : W p l e room_1 s m #[Value.ref b] below meth c H locs cc ss (lw_Z below #[Value.ref b] s) (F0 m 463 ls []) := by
  obtain ⟨hx, hb, hr, hml, hown, hts, hX, hbl, hbA, hlocks, hE, hGc, hGm, hK, hA, hAs⟩ := id C0
  refine lv_aload_n hx hb dL_law_463 rfl (lv_at hl 2 rfl) ?_
  refine lv_aload_n hx hb dL_law_464 rfl (lv_at hl 3 rfl) ?_
  refine lv_iload_n hx hb dL_law_465 rfl (lv_at hl 0 rfl) ?_
  refine lv_iconst (v := 1) hx hb dL_law_466 (by decide) ?_
  refine lv_iadd hx hb dL_law_467 ?_
  refine lv_topi (fun x_1 ex_1 => ?_)
  obtain rfl : x_1 = (nI (i + 1)) := ex_1.trans (nI_add i 1)
  refine va_sld hx hb hX hbl hbA hS (vp_in_nI (by omega) (by omega)) dL_law_468 ?_
  refine lv_topi (fun x_2 ex_2 => ?_)
  obtain rfl : x_2 = (xs (i + 1)) := ex_2.trans (congrArg xs (nI_clamp (by omega)))
  obtain ⟨L, F, ty, ρ, ta, ou, di, ea, ck, sl, po, hs, rt, ro, ⟨hP, hD, hO, hW⟩, hL_xq, hT_xq, hTta, hFt, hFr, hzt, hFd, hcn, hLT, hDI, hTou, hFou, hFro, hzo, hBq⟩ := hC
  have hG := hGc
  have hTS : TS F ta zt := ⟨hzt, rt, hFt⟩
  obtain ⟨hi_3, ⟨r_4, ht_5⟩, hi_6, ⟨r_7, ht_8⟩, hi_9, ht_10, hi_11, ⟨w0_12, w1_13, w2_14, w3_15, nm_16, te_17, ht_18⟩, hi_19, ⟨l1_20, lx_21, ly0_22, ly1_23, ly2_24, k1_25, kx_26, ky0_27, ky1_28, ky2_29, w0_30, w1_31, w2_32, w3_33, w4_34, w5_35, w6_36, w7_37, w8_38, tk_39, h1_40, hx_41, hy_42, hw_43, pw_44, px_45, py_46, pz_47, pu_48, ht_49⟩, hi_50, ⟨w0_51, w1_52, rc_53, rx_54, ry0_55, ry1_56, ry2_57, ht_58⟩, hi_59, ⟨hx_60, hy_61, hw_62, ht_63⟩⟩ := hW.gate hL_xq hT_xq
  obtain ⟨le_64, sp_65, μ_66, ν_67, hF_68, hq_69, hq_70, hq_71, hq_72, hq_73, hq_74⟩ := hO.gate hL_xq hT_xq
  obtain ⟨x_75, y0_76, y1_77, y2_78, ht_79⟩ := id hq_70
  obtain ⟨x_80, y0_81, y1_82, y2_83, ht_84⟩ := id hq_72
  obtain ⟨hiR, htR, -⟩ := hW.bytes hi_3 hTta
  obtain ⟨hi_85, ht_86⟩ := hW.dir hi_9 ht_10
  have hO0 := hO
  obtain ⟨hiO, htO, -⟩ := hW.bytes hi_6 hTou
  have hFc := pg_free hD hS hA
  refine va_calli (va_runV (As := [.int (xs (i + 1))]) (rest := []) ⟨hx, hb, hml, hown, hts⟩ (s_X11_wish l dC dI cs ty L H.size F xq ρ ta ou di ea ck sl po hs zt (xs (i + 1)) hW hL_xq hT_xq hTS) ⟨callB_of 1 hts (gi kt_1308) rfl rfl rfl (hts _ kt_646) (hts _ kt_1309) (by decide +kernel) ⟨Nat.le_of_ble_eq_true rfl, Nat.le_of_ble_eq_true rfl⟩, (hts _ kt_1310), (hts _ kt_1311)⟩ ⟨fun a U g mk q => ⟨q.1, PTE.calling q.2⟩, pg_recv hK hP hL_xq hF_68 (q := (RX11, TX11, 9)) rfl, fun U hU hWm => ⟨rfl, PTE.mk hU hWm hP hK hD hE hO hG (fun x hx => absurd hx List.not_mem_nil) hS hFc⟩⟩ rfl rfl hl.1 rfl (lv_room (Nat.le_of_ble_eq_true rfl)) dL_law_469 ⟨by show _ + 0 ≤ 600000; omega, by show _ + 0 ≤ 7302250; omega⟩) hS (fun q _ h => hFc q h) hFc (fun r_87 u t H1 locs ht hvm hw hB hz1 hk1 hS => ?_)
  obtain ⟨F2, hB1, hf0⟩ := hB
  obtain ⟨hP, hD, hO, hR⟩ := QT.back hB1 ht hFc FR.refl (fun q h => h)
  have hM := hM.kept hBq hk1
  have hLT := hLT.fr hW hT_xq hB1.2.2.2 (fun q h => by simp only [List.mem_cons, List.not_mem_nil, or_false] at h; omega)
  have hDI := DIRC.fr hDI hO0 hW hi_85 ht_86 hcn hB1.2.2.2 (hB1.2.2.2 ea (by rw [ht_86]; simp)) (fun k hk => by simp only [List.mem_cons, List.not_mem_nil, or_false]; omega)
  have hC : PCl (dC, dI) cs A Bq xq zt ze f n bb zm fL sA sB sC DX zo fo H1 := ⟨L, F2, ty, ρ, ta, ou, di, ea, ck, sl, po, hs, rt, ro, ⟨hP, hD, hO, hW⟩, hL_xq, hT_xq, hTta, (hB1.2.2.2 ta (by rw [hTta]; simp)).trans hFt, (hB1.2.2.2 rt (by rw [htR]; simp)).trans hFr, hzt, (hB1.2.2.2 di (by rw [ht_10]; simp)).trans hFd, hcn, hLT, hDI, hTou, (hB1.2.2.2 ou (by rw [hTou]; simp)).trans hFou, (hB1.2.2.2 ro (by rw [htO]; simp)).trans hFro, hzo, hBq⟩
  generalize H1 = H at hC hM hS ⊢
  refine lv_pop hx hb dL_law_472 rfl ?_
  refine lv_aload_n hx hb dL_law_473 rfl (lv_at hl 1 rfl) ?_
  refine lv_aload_n hx hb dL_law_474 rfl (lv_at hl 3 rfl) ?_
  refine lv_iload_n hx hb dL_law_475 rfl (lv_at hl 0 rfl) ?_
  refine lv_iconst (v := 1) hx hb dL_law_476 (by decide) ?_
  refine lv_iadd hx hb dL_law_477 ?_
  refine lv_topi (fun x_88 ex_88 => ?_)
  obtain rfl : x_88 = (nI (i + 1)) := ex_88.trans (nI_add i 1)
  refine va_sld hx hb hX hbl hbA hS (vp_in_nI (by omega) (by omega)) dL_law_478 ?_
  refine lv_topi (fun x_89 ex_89 => ?_)
  obtain rfl : x_89 = (xs (i + 1)) := ex_89.trans (congrArg xs (nI_clamp (by omega)))
  obtain ⟨L, F, ty, ρ, ta, ou, so, ad, na, va, lc, dm, tg, pe, ml, bg, co, sp, nb0, nb1, nb2, pl, se, ke, wi, hs, mo, po, nu, pr, sq, xa, sa, n64, m64, ex, wh, sd, tk, hd, ak, ho, ot, sx, s0, s1, s2, ⟨hP, hD, hO, hW⟩, hL_h0, hT_h0, hFta, hFml, hDM, hFou, hn01, hn02, hn12, hU26, hU15, hBq⟩ := hM
  have hG := hGm
  obtain ⟨hq_112, hq_113, hq_114, hq_115, hq_116, hgO, hgA, hgB⟩ := hW.sc hL_h0 hT_h0
  obtain ⟨v11_117, v12_118, v14_119, v15_120, v17_121, v18_122, v19_123, v20_124, v21_125, v22_126, v33_127, v52_128, v53_129, v54_130, hF_131, hq_132, hq_133, hq_134, hq_135⟩ := hO.mod hL_h0 hT_h0
  obtain ⟨hi_136, ht_137⟩ := hW.f_se hL_h0 hT_h0
  obtain ⟨hi_138, hi_139, hi_140, hi_141, ⟨r_142, ht_143⟩, ht_144, ht_145, ht_146, hq_147, hq_148⟩ := hW.tags hi_136 ht_137
  have ht_143 : ty sx = (14, ρ + 12, [r_142, 3000]) := ht_143
  obtain ⟨hi_149, ht_150⟩ := hW.f_ta hL_h0 hT_h0
  obtain ⟨hLs0, hTs0⟩ := hW.f_so hL_h0 hT_h0
  obtain ⟨hLd0, hTd0⟩ := hW.f_ad hL_h0 hT_h0
  obtain ⟨hLn0, hTn0⟩ := hW.f_na hL_h0 hT_h0
  obtain ⟨hLv0, hTv0⟩ := hW.f_va hL_h0 hT_h0
  have hO0 := hO
  obtain ⟨hi_151, r_93, ht_152⟩ := hW.f_pl hL_h0 hT_h0
  obtain ⟨hi_153, r_92, ht_154⟩ := hW.f_pe hL_h0 hT_h0
  obtain ⟨hi_155, r_109, ht_156⟩ := hW.f_ak hL_h0 hT_h0
  have hFc := pg_free hD hS hA
  refine va_calli (va_runV (As := [.int (xs (i + 1))]) (rest := []) ⟨hx, hb, hml, hown, hts⟩ (s_X15_wish l dC dI cs ty gm L H.size F h0 ρ ta ou so ad na va lc dm tg pe ml bg co sp nb0 nb1 nb2 pl se ke wi hs mo po nu pr sq xa sa n64 m64 ex wh sd tk hd ak ho ot sx s0 s1 s2 nf bd mm zo ze zt r_142 r_93 r_92 r_109 (xs (i + 1)) hW hL_h0 hT_h0 hi_138 ht_143 hi_151 ht_152 hi_153 ht_154 hi_155 ht_156) ⟨callB_of 1 hts (gi kt_1312) rfl rfl rfl (hts _ kt_659) (hts _ kt_1313) (by decide +kernel) ⟨Nat.le_of_ble_eq_true rfl, Nat.le_of_ble_eq_true rfl⟩, (hts _ kt_1314), (hts _ kt_1315)⟩ ⟨fun a U g mk q => ⟨q.1, PTEm.calling q.2⟩, pg_recv hK hP hL_h0 hF_131 (q := (RX15, TX15, 59)) rfl, fun U hU hWm => ⟨rfl, PTEm.mk hU hWm hP hK hD hE hO hG (fun x hx => absurd hx List.not_mem_nil) hS hFc⟩⟩ rfl rfl hl.1 rfl (lv_room (Nat.le_of_ble_eq_true rfl)) dL_law_479 ⟨by show _ + 0 ≤ 600000; omega, by show _ + 0 ≤ 7302250; omega⟩) hS (fun q _ h => hFc q h) hFc (fun r_157 u t H1 locs ht hvm hw hB hz1 hk1 hS => ?_)
  obtain ⟨F2, hB1⟩ := hB
  obtain ⟨hP, hD, hO, hR⟩ := QTm.back hB1 ht hFc FR.refl (fun q h => h)
  have hC := hC.kept hBq hk1
  obtain ⟨hi_158, ht_159⟩ := hW.f_ml hL_h0 hT_h0
  have hR9 := hB1.2.2.2
  have hDM := DIRM.fr hDM hO0 hW hLn0 hTn0 hLv0 hTv0 hcn hR9 (hR9 so (by rw [hTs0]; simp)) (hR9 ad (by rw [hTd0]; simp)) (hR9 na (by rw [hTn0]; simp)) (hR9 va (by rw [hTv0]; simp)) (fun k hk => ⟨by simp only [List.mem_cons, List.not_mem_nil, or_false]; omega, by simp only [List.mem_cons, List.not_mem_nil, or_false]; omega⟩)
  obtain ⟨hi_160, ht_161⟩ := hW.f_ou hL_h0 hT_h0
  have hM : PMl (dC, dI) cs A Bq h0 zt ze gt nf bd mm gm gl EX zo go H1 := ⟨L, F2, ty, ρ, ta, ou, so, ad, na, va, lc, dm, tg, pe, ml, bg, co, sp, nb0, nb1, nb2, pl, se, ke, wi, hs, mo, po, nu, pr, sq, xa, sa, n64, m64, ex, wh, sd, tk, hd, ak, ho, ot, sx, s0, s1, s2, ⟨hP, hD, hO, hW⟩, hL_h0, hT_h0, (hB1.2.2.2 ta (by rw [ht_150]; simp)).trans hFta, (hB1.2.2.2 ml (by rw [ht_159]; simp)).trans hFml, hDM, (hB1.2.2.2 ou (by rw [ht_161]; simp)).trans hFou, hn01, hn02, hn12, hU26, hU15, hBq⟩
  generalize H1 = H at hC hM hS ⊢
  refine lv_pop hx hb dL_law_482 rfl ?_
  refine lv_goto (tgt := 522) hx hb dL_law_483 (by decide) ?_
  refine W.widen (k := cc + 1) (n := ss + 5) (by omega) (by omega) ?_
  exact kk zt ze f gt n bb zm fL sA sB sC DX zo fo nf bd mm gm gl EX go _ _ _ (by omega) hcn (hrel) hlr hdr hro hC hM hS hl
