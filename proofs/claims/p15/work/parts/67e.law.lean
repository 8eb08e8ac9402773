theorem kt_1268 : Cond.code yX11_seals cX11_seals 1 (some .int) ∈ tb := tb_at (i := 821) (by decide +kernel) (by decide +kernel)
theorem kt_1269 : Cond.methodLink RL 49 yX11_seals ∈ tb := tb_at (i := 818) (by decide +kernel) (by decide +kernel)
theorem kt_1270 : Cond.instanceMethod yX11_seals ∈ tb := tb_at (i := 819) (by decide +kernel) (by decide +kernel)
theorem kt_1271 : Cond.selects RX11 yX11_seals yX11_seals ∈ tb := tb_at (i := 820) (by decide +kernel) (by decide +kernel)
theorem kt_1272 : Cond.code yX15_seals cX15_seals 3 (some .int) ∈ tb := tb_at (i := 1651) (by decide +kernel) (by decide +kernel)
theorem kt_1273 : Cond.methodLink RL 52 yX15_seals ∈ tb := tb_at (i := 1648) (by decide +kernel) (by decide +kernel)
theorem kt_1274 : Cond.instanceMethod yX15_seals ∈ tb := tb_at (i := 1649) (by decide +kernel) (by decide +kernel)
theorem kt_1275 : Cond.selects RX15 yX15_seals yX15_seals ∈ tb := tb_at (i := 1650) (by decide +kernel) (by decide +kernel)
theorem kt_1276 : Cond.code yX11_sealed cX11_sealed 4 (some .int) ∈ tb := tb_at (i := 837) (by decide +kernel) (by decide +kernel)
theorem kt_1277 : Cond.methodLink RL 53 yX11_sealed ∈ tb := tb_at (i := 834) (by decide +kernel) (by decide +kernel)
theorem kt_1278 : Cond.instanceMethod yX11_sealed ∈ tb := tb_at (i := 835) (by decide +kernel) (by decide +kernel)
theorem kt_1279 : Cond.selects RX11 yX11_sealed yX11_sealed ∈ tb := tb_at (i := 836) (by decide +kernel) (by decide +kernel)
theorem kt_1280 : Cond.code yX15_sealed cX15_sealed 4 (some .int) ∈ tb := tb_at (i := 1690) (by decide +kernel) (by decide +kernel)
theorem kt_1281 : Cond.methodLink RL 56 yX15_sealed ∈ tb := tb_at (i := 1687) (by decide +kernel) (by decide +kernel)
theorem kt_1282 : Cond.instanceMethod yX15_sealed ∈ tb := tb_at (i := 1688) (by decide +kernel) (by decide +kernel)
theorem kt_1283 : Cond.selects RX15 yX15_sealed yX15_sealed ∈ tb := tb_at (i := 1689) (by decide +kernel) (by decide +kernel)
set_option maxHeartbeats 4000000 in
set_option maxRecDepth 100000 in
theorem law_8 {p : Program} {l : Launch} {e : Env} {s : State} {m : MethodId} {below : List Frame} {meth : Method} {c : Code} {A Bq : Nat → Prop} {dC : Nat → ClassId} {dI : Nat → Nat → Nat} {cs : Nat → ClassId} {b Ln : Nat} {xs : Nat → Int32} (C0 : LC p s m meth c A dC dI cs b Ln xs) {xq h0 i zt ze cc ss : Nat} {f gt : Nat → Int32} {n : Nat} {bb : Int32} {zm : Nat} {fL sA sB sC : Nat → Int32} {DX : Nat → ETY} {zo : Nat} {fo : Nat → Int32} {SD : SDR} {aS vS : Int32} {c9 u9 : Nat} {nf bd mm : Nat} {gm : Nat → Nat → Nat} {gl : Nat → Int32} {EX : Nat → ETY} {go : Nat → Int32} {fm sn : Nat} {LC DN : List Nat} {gc gv : Nat} (hi : i + 6 ≤ Ln) (hLn : Ln ≤ 384) (hnz : zt ≤ 1280) (hcc : cc + 1 ≤ 600000) (hss : ss + 5 ≤ 7302250) {H : Heap} {locs : List Loc} {ls : Array Slot} (hrel : REL f gt zt) (hlr : LRL n bb zm fL sA sB sC nf bd mm gm gl) (hdr : DREL DX EX ze) (hro : REL fo go zo) (hsr : SRL SD aS vS fm sn LC DN) (hvn : VNI EX ze) (hce : c9 = gc ∧ u9 = gv) (hC : PCl (dC, dI) cs A Bq xq zt ze f n bb zm fL sA sB sC DX zo fo SD aS vS c9 u9 H) (hM : PMl (dC, dI) cs A Bq h0 zt ze gt nf bd mm gm gl EX zo go fm sn LC DN gc gv H) (hS : va_S A s.heap H locs) (hl : lv_has ls 4 [(3, .int (nI i)), (2, .ref h0), (1, .ref xq), (0, .ref b)]) (kk : ∀ (z2 c2 : Nat) (f2 g2 : Nat → Int32) (n : Nat) (bb : Int32) (zm : Nat) (fL sA sB sC : Nat → Int32) (DX : Nat → ETY) (zo : Nat) (fo : Nat → Int32) (SD : SDR) (aS vS : Int32) (c9 u9 : Nat) (nf bd mm : Nat) (gm : Nat → Nat → Nat) (gl : Nat → Int32) (EX : Nat → ETY) (go : Nat → Int32) (fm sn : Nat) (LC DN : List Nat) (gc gv : Nat) (H : Heap) (locs : List Loc) (ls : Array Slot), z2 ≤ zt + 20 → c2 ≤ 40 → REL f2 g2 z2 → LRL n bb zm fL sA sB sC nf bd mm gm gl → DREL DX EX c2 → REL fo go zo → SRL SD aS vS fm sn LC DN → VNI EX c2 → (c9 = gc ∧ u9 = gv) → PCl (dC, dI) cs A Bq xq z2 c2 f2 n bb zm fL sA sB sC DX zo fo SD aS vS c9 u9 H → PMl (dC, dI) cs A Bq h0 z2 c2 g2 nf bd mm gm gl EX zo go fm sn LC DN gc gv H → va_S A s.heap H locs → lv_has ls 4 [(3, .int (nI i)), (2, .ref h0), (1, .ref xq), (0, .ref b)] → W p l e room_1 s m #[Value.ref b] below meth c H locs (cc + 1) (ss + 5) (lw_Z below #[Value.ref b] s) (F0 m 522 ls [])) : W p l e room_1 s m #[Value.ref b] below meth c H locs cc ss (lw_Z below #[Value.ref b] s) (F0 m 316 ls []) := by
  obtain ⟨hx, hb, hr, hml, hown, hts, hX, hbl, hbA, hlocks, hE, hGc, hGm, hK, hA, hAs⟩ := id C0
  refine lv_aload_n hx hb dL_law_316 rfl (lv_at hl 2 rfl) ?_
  obtain ⟨L, F, ty, ρ, ta, ou, di, ea, ck, sl, po, hs, rt, ro, ca0, ca1, ca2, ca3, cnm, cte, ⟨hP, hD, hO, hW⟩, hL_xq, hT_xq, hTta, hFt, hFr, hzt, hFd, hcn, hLT, hDI, hTck, hFk, hSD, hCol, hTou, hFou, hFro, hzo, hBq⟩ := hC
  have hG := hGc
  have hTS : TS F ta zt := ⟨hzt, rt, hFt⟩
  obtain ⟨le, sp, μ, ν, x, y0, y1, y2, rx, x9, w0, w1, w2, rx9, o, hm, l1, l2, l3, l4, l5, l6, l7, l8, l9, l10, l11, l12, l13, l14, l15, l16⟩ := id hLT
  have hF_xq := l1
  obtain ⟨hi_1, ⟨r_2, ht_3⟩, hi_4, ⟨r_5, ht_6⟩, hi_7, ht_8, hi_9, ⟨w0_10, w1_11, w2_12, w3_13, nm_14, te_15, ht_16⟩, hi_17, ⟨l1_18, lx_19, ly0_20, ly1_21, ly2_22, k1_23, kx_24, ky0_25, ky1_26, ky2_27, w0_28, w1_29, w2_30, w3_31, w4_32, w5_33, w6_34, w7_35, w8_36, tk_37, h1_38, hx_39, hy_40, hw_41, pw_42, px_43, py_44, pz_45, pu_46, ht_47⟩, hi_48, ⟨w0_49, w1_50, rc_51, rx_52, ry0_53, ry1_54, ry2_55, ht_56⟩, hi_57, ⟨hx_58, hy_59, hw_60, ht_61⟩⟩ := hW.gate hL_xq hT_xq
  obtain ⟨le_62, sp_63, μ_64, ν_65, hF_66, hq_67, hq_68, hq_69, hq_70, hq_71, hq_72⟩ := hO.gate hL_xq hT_xq
  obtain ⟨x_73, y0_74, y1_75, y2_76, ht_77⟩ := id hq_68
  obtain ⟨x_78, y0_79, y1_80, y2_81, ht_82⟩ := id hq_70
  obtain ⟨hiR, htR, -⟩ := hW.bytes hi_1 hTta
  obtain ⟨hi_83, ht_84⟩ := hW.dir hi_7 ht_8
  have hO0 := hO
  obtain ⟨hi_85, ht_86, hi_87, ⟨r_88, ht_89⟩, hi_90, ⟨r_91, ht_92⟩, hi_93, ⟨r_94, ht_95⟩, hi_96, ⟨r_97, ht_98⟩, hi_99, ht_100, hi_101, ht_102⟩ := hW.chk hi_9 hTck
  have ht_89 : ty ca0 = (0, ρ + 36, [r_88, 91]) := ht_89
  have ht_92 : ty ca1 = (0, ρ + 37, [r_91, 30]) := ht_92
  have ht_95 : ty ca2 = (0, ρ + 38, [r_94, 60]) := ht_95
  have ht_98 : ty ca3 = (0, ρ + 39, [r_97, 15]) := ht_98
  have ht_100 : ty cnm = (20, ρ + 40, [12]) := ht_100
  have ht_102 : ty cte = (22, ρ + 41, [11]) := ht_102
  obtain ⟨hiO, htO, -⟩ := hW.bytes hi_4 hTou
  have hFc := pg_free hD hS hA
  refine va_calli (va_runV (As := []) (rest := []) ⟨hx, hb, hml, hown, hts⟩ (s_X11_seals_x l dC dI cs ty L H.size F xq ρ ta ou di ea ck sl po hs zt rt ze f le x y0 y1 y2 sp rx n μ bb hW hL_xq hT_xq l2 l3 l1 l9 l8) ⟨callB_of 0 hts (gi kt_1268) rfl rfl rfl (hts _ kt_664) (hts _ kt_1269) (by decide +kernel) ⟨Nat.le_of_ble_eq_true rfl, Nat.le_of_ble_eq_true rfl⟩, (hts _ kt_1270), (hts _ kt_1271)⟩ ⟨fun a U g mk q => ⟨q.1, PTE.calling q.2⟩, pg_recv hK hP hL_xq hF_66 (q := (RX11, TX11, 9)) rfl, fun U hU hWm => ⟨rfl, PTE.mk hU hWm hP hK hD hE hO hG (fun x hx => absurd hx List.not_mem_nil) hS hFc⟩⟩ rfl rfl hl.1 rfl (lv_room (Nat.le_of_ble_eq_true rfl)) dL_law_317 ⟨by show _ + 0 ≤ 600000; omega, by show _ + 0 ≤ 7302250; omega⟩) hS (fun q _ h => hFc q h) hFc (fun r_103 u t H1 locs ht hvm hw hB hz1 hk1 hS => ?_)
  obtain ⟨F2, hB1⟩ := hB
  obtain ⟨hP, hD, hO, hR⟩ := QT.back hB1 ht hFc FR.refl (fun q h => h)
  have hM := hM.kept hBq hk1
  have hLT := hLT.fr hW hT_xq hB1.2.2.2 (fun q h => absurd h List.not_mem_nil)
  have hE1 := hw
  have hSI := sl_iff hlr l10 l11 l12 l13
  have hCol9 := hCol
  have hDI := DIRC.fr hDI hO0 hW hi_83 ht_84 hcn hB1.2.2.2 (hB1.2.2.2 ea (by rw [ht_84]; simp)) (fun k hk => ⟨List.not_mem_nil, List.not_mem_nil, List.not_mem_nil⟩)
  have hFk9 := (hB1.2.2.2 ck (by rw [hTck]; simp)).trans hFk
  have hSD9 := hSD.imp id (fun q => q.fr hO0 hW hi_87 ht_89 hi_90 ht_92 hi_93 ht_95 hi_96 ht_98 hB1.2.2.2 (fun k9 h1 h2 => List.not_mem_nil))
  have hC : PCl (dC, dI) cs A Bq xq zt ze f n bb zm fL sA sB sC DX zo fo SD aS vS c9 u9 H1 := ⟨L, F2, ty, ρ, ta, ou, di, ea, ck, sl, po, hs, rt, ro, ca0, ca1, ca2, ca3, cnm, cte, ⟨hP, hD, hO, hW⟩, hL_xq, hT_xq, hTta, (hB1.2.2.2 ta (by rw [hTta]; simp)).trans hFt, (hB1.2.2.2 rt (by rw [htR]; simp)).trans hFr, hzt, (hB1.2.2.2 di (by rw [ht_86]; simp)).trans hFd, hcn, hLT, hDI, hTck, hFk9, hSD9, hCol9, hTou, (hB1.2.2.2 ou (by rw [hTou]; simp)).trans hFou, (hB1.2.2.2 ro (by rw [htO]; simp)).trans hFro, hzo, hBq⟩
  generalize H1 = H at hC hM hS ⊢
  refine lv_pop hx hb dL_law_320 rfl ?_
  refine lv_aload_n hx hb dL_law_321 rfl (lv_at hl 1 rfl) ?_
  obtain ⟨L, F, ty, ρ, ta, ou, so, ad, na, va, lc, dm, tg, pe, ml, bg, co, sp, nb0, nb1, nb2, pl, se, ke, wi, hs, mo, po, nu, pr, sq, xa, sa, n64, m64, ex, wh, sd, tk, hd, ak, ho, ot, sx, s0, s1, s2, ⟨hP, hD, hO, hW⟩, hL_h0, hT_h0, hFta, hFml, hDM, hSN, hFou, hn01, hn02, hn12, hU26, hU15, hBq⟩ := hM
  have hG := hGm
  obtain ⟨hq_126, hq_127, hq_128, hq_129, hq_130, hgO, hgA, hgB, hq_131⟩ := hW.sc hL_h0 hT_h0
  obtain ⟨v14_132, v15_133, v17_134, v18_135, v19_136, v20_137, v21_138, v22_139, v33_140, v52_141, v53_142, v54_143, hF_144, hq_145, hq_146, hq_147, hq_148, hq_149⟩ := hO.mod hL_h0 hT_h0
  obtain ⟨hi_150, ht_151⟩ := hW.f_ta hL_h0 hT_h0
  obtain ⟨hLs0, hTs0⟩ := hW.f_so hL_h0 hT_h0
  obtain ⟨hLd0, hTd0⟩ := hW.f_ad hL_h0 hT_h0
  obtain ⟨hLn0, hTn0⟩ := hW.f_na hL_h0 hT_h0
  obtain ⟨hLv0, hTv0⟩ := hW.f_va hL_h0 hT_h0
  have hO0 := hO
  obtain ⟨hi_152, r_104, ht_153⟩ := hW.f_lc hL_h0 hT_h0
  obtain ⟨hi_154, ht_155, hq_156⟩ := hW.txt hi_152 ht_153
  obtain ⟨hi_157, r_105, ht_158⟩ := hW.f_dm hL_h0 hT_h0
  obtain ⟨hi_159, ht_160, hq_161⟩ := hW.txt hi_157 ht_158
  obtain ⟨hi_162, r_106, ht_163⟩ := hW.f_pe hL_h0 hT_h0
  obtain ⟨hi_164, ht_165, hq_166⟩ := hW.txt hi_162 ht_163
  have hFc := pg_free hD hS hA
  refine va_calli (va_runV (As := []) (rest := []) ⟨hx, hb, hml, hown, hts⟩ (s_X15_seals_x l dC dI cs ty gm L H.size F h0 ρ ta ou so ad na va lc dm tg pe ml bg co sp nb0 nb1 nb2 pl se ke wi hs mo po nu pr sq xa sa n64 m64 ex wh sd tk hd ak ho ot sx s0 s1 s2 nf bd mm zo fm sn 1 gc gv ze zt gl hW hL_h0 hT_h0 hFml) ⟨callB_of 0 hts (gi kt_1272) rfl rfl rfl (hts _ kt_669) (hts _ kt_1273) (by decide +kernel) ⟨Nat.le_of_ble_eq_true rfl, Nat.le_of_ble_eq_true rfl⟩, (hts _ kt_1274), (hts _ kt_1275)⟩ ⟨fun a U g mk q => ⟨q.1, PTEm.calling q.2⟩, pg_recv hK hP hL_h0 hF_144 (q := (RX15, TX15, 59)) rfl, fun U hU hWm => ⟨rfl, PTEm.mk hU hWm hP hK hD hE hO hG (fun x hx => absurd hx List.not_mem_nil) hS hFc⟩⟩ rfl rfl hl.1 rfl (lv_room (Nat.le_of_ble_eq_true rfl)) dL_law_322 ⟨by show _ + 0 ≤ 600000; omega, by show _ + 0 ≤ 7302250; omega⟩) hS (fun q _ h => hFc q h) hFc (fun r_167 u t H1 locs ht hvm hw hB hz1 hk1 hS => ?_)
  obtain ⟨F2, hB1⟩ := hB
  obtain ⟨hP, hD, hO, hR⟩ := QTm.back hB1 ht hFc FR.refl (fun q h => h)
  have hC := hC.kept hBq hk1
  obtain ⟨hi_168, ht_169⟩ := hW.f_ml hL_h0 hT_h0
  have hR9 := hB1.2.2.2
  have hDM := DIRM.fr hDM hO0 hW hLn0 hTn0 hLv0 hTv0 hcn hR9 (hR9 so (by rw [hTs0]; simp)) (hR9 ad (by rw [hTd0]; simp)) (hR9 na (by rw [hTn0]; simp)) (hR9 va (by rw [hTv0]; simp)) (fun k hk => ⟨List.not_mem_nil, List.not_mem_nil⟩)
  have hSN9 := hSN.imp id (fun q => And.intro (q.1.fr hO0 hW hi_152 ht_153 hR9 (List.not_mem_nil)) (q.2.fr hO0 hW hi_157 ht_158 hR9 (List.not_mem_nil)))
  obtain ⟨hi_170, ht_171⟩ := hW.f_ou hL_h0 hT_h0
  have hM : PMl (dC, dI) cs A Bq h0 zt ze gt nf bd mm gm gl EX zo go fm sn LC DN gc gv H1 := ⟨L, F2, ty, ρ, ta, ou, so, ad, na, va, lc, dm, tg, pe, ml, bg, co, sp, nb0, nb1, nb2, pl, se, ke, wi, hs, mo, po, nu, pr, sq, xa, sa, n64, m64, ex, wh, sd, tk, hd, ak, ho, ot, sx, s0, s1, s2, ⟨hP, hD, hO, hW⟩, hL_h0, hT_h0, (hB1.2.2.2 ta (by rw [ht_151]; simp)).trans hFta, (hB1.2.2.2 ml (by rw [ht_169]; simp)).trans hFml, hDM, hSN9, (hB1.2.2.2 ou (by rw [ht_171]; simp)).trans hFou, hn01, hn02, hn12, hU26, hU15, hBq⟩
  have er := seal_same hlr.1 hSI hE1 hw
  generalize H1 = H at hC hM hS ⊢
  refine lv_pop hx hb dL_law_325 rfl ?_
  refine lv_goto (tgt := 522) hx hb dL_law_326 (by decide) ?_
  refine W.widen (k := cc + 1) (n := ss + 5) (by omega) (by omega) ?_
  exact kk zt ze f gt n bb zm fL sA sB sC DX zo fo SD aS vS c9 u9 nf bd mm gm gl EX go fm sn LC DN gc gv _ _ _ (by omega) hcn (hrel) hlr hdr hro hsr hvn hce hC hM hS hl
set_option maxHeartbeats 4000000 in
set_option maxRecDepth 100000 in
theorem law_9 {p : Program} {l : Launch} {e : Env} {s : State} {m : MethodId} {below : List Frame} {meth : Method} {c : Code} {A Bq : Nat → Prop} {dC : Nat → ClassId} {dI : Nat → Nat → Nat} {cs : Nat → ClassId} {b Ln : Nat} {xs : Nat → Int32} (C0 : LC p s m meth c A dC dI cs b Ln xs) {xq h0 i zt ze cc ss : Nat} {f gt : Nat → Int32} {n : Nat} {bb : Int32} {zm : Nat} {fL sA sB sC : Nat → Int32} {DX : Nat → ETY} {zo : Nat} {fo : Nat → Int32} {SD : SDR} {aS vS : Int32} {c9 u9 : Nat} {nf bd mm : Nat} {gm : Nat → Nat → Nat} {gl : Nat → Int32} {EX : Nat → ETY} {go : Nat → Int32} {fm sn : Nat} {LC DN : List Nat} {gc gv : Nat} (hi : i + 6 ≤ Ln) (hLn : Ln ≤ 384) (hnz : zt ≤ 1280) (hcc : cc + 1 ≤ 600000) (hss : ss + 5 ≤ 7302250) {H : Heap} {locs : List Loc} {ls : Array Slot} (hrel : REL f gt zt) (hlr : LRL n bb zm fL sA sB sC nf bd mm gm gl) (hdr : DREL DX EX ze) (hro : REL fo go zo) (hsr : SRL SD aS vS fm sn LC DN) (hvn : VNI EX ze) (hce : c9 = gc ∧ u9 = gv) (hC : PCl (dC, dI) cs A Bq xq zt ze f n bb zm fL sA sB sC DX zo fo SD aS vS c9 u9 H) (hM : PMl (dC, dI) cs A Bq h0 zt ze gt nf bd mm gm gl EX zo go fm sn LC DN gc gv H) (hS : va_S A s.heap H locs) (hl : lv_has ls 4 [(3, .int (nI i)), (2, .ref h0), (1, .ref xq), (0, .ref b)]) (kk : ∀ (z2 c2 : Nat) (f2 g2 : Nat → Int32) (n : Nat) (bb : Int32) (zm : Nat) (fL sA sB sC : Nat → Int32) (DX : Nat → ETY) (zo : Nat) (fo : Nat → Int32) (SD : SDR) (aS vS : Int32) (c9 u9 : Nat) (nf bd mm : Nat) (gm : Nat → Nat → Nat) (gl : Nat → Int32) (EX : Nat → ETY) (go : Nat → Int32) (fm sn : Nat) (LC DN : List Nat) (gc gv : Nat) (H : Heap) (locs : List Loc) (ls : Array Slot), z2 ≤ zt + 20 → c2 ≤ 40 → REL f2 g2 z2 → LRL n bb zm fL sA sB sC nf bd mm gm gl → DREL DX EX c2 → REL fo go zo → SRL SD aS vS fm sn LC DN → VNI EX c2 → (c9 = gc ∧ u9 = gv) → PCl (dC, dI) cs A Bq xq z2 c2 f2 n bb zm fL sA sB sC DX zo fo SD aS vS c9 u9 H → PMl (dC, dI) cs A Bq h0 z2 c2 g2 nf bd mm gm gl EX zo go fm sn LC DN gc gv H → va_S A s.heap H locs → lv_has ls 4 [(3, .int (nI i)), (2, .ref h0), (1, .ref xq), (0, .ref b)] → W p l e room_1 s m #[Value.ref b] below meth c H locs (cc + 1) (ss + 5) (lw_Z below #[Value.ref b] s) (F0 m 522 ls [])) : W p l e room_1 s m #[Value.ref b] below meth c H locs cc ss (lw_Z below #[Value.ref b] s) (F0 m 329 ls []) := by
  obtain ⟨hx, hb, hr, hml, hown, hts, hX, hbl, hbA, hlocks, hE, hGc, hGm, hK, hA, hAs⟩ := id C0
  refine lv_aload_n hx hb dL_law_329 rfl (lv_at hl 2 rfl) ?_
  refine lv_aload_n hx hb dL_law_330 rfl (lv_at hl 3 rfl) ?_
  refine lv_iload_n hx hb dL_law_331 rfl (lv_at hl 0 rfl) ?_
  refine lv_iconst (v := 1) hx hb dL_law_332 (by decide) ?_
  refine lv_iadd hx hb dL_law_333 ?_
  refine lv_topi (fun x_1 ex_1 => ?_)
  obtain rfl : x_1 = (nI (i + 1)) := ex_1.trans (nI_add i 1)
  refine va_sld hx hb hX hbl hbA hS (vp_in_nI (by omega) (by omega)) dL_law_334 ?_
  refine lv_topi (fun x_2 ex_2 => ?_)
  obtain rfl : x_2 = (xs (i + 1)) := ex_2.trans (congrArg xs (nI_clamp (by omega)))
  refine lv_aload_n hx hb dL_law_335 rfl (lv_at hl 3 rfl) ?_
  refine lv_iload_n hx hb dL_law_336 rfl (lv_at hl 0 rfl) ?_
  refine lv_iconst (v := 2) hx hb dL_law_337 (by decide) ?_
  refine lv_iadd hx hb dL_law_338 ?_
  refine lv_topi (fun x_3 ex_3 => ?_)
  obtain rfl : x_3 = (nI (i + 2)) := ex_3.trans (nI_add i 2)
  refine va_sld hx hb hX hbl hbA hS (vp_in_nI (by omega) (by omega)) dL_law_339 ?_
  refine lv_topi (fun x_4 ex_4 => ?_)
  obtain rfl : x_4 = (xs (i + 2)) := ex_4.trans (congrArg xs (nI_clamp (by omega)))
  obtain ⟨L, F, ty, ρ, ta, ou, di, ea, ck, sl, po, hs, rt, ro, ca0, ca1, ca2, ca3, cnm, cte, ⟨hP, hD, hO, hW⟩, hL_xq, hT_xq, hTta, hFt, hFr, hzt, hFd, hcn, hLT, hDI, hTck, hFk, hSD, hCol, hTou, hFou, hFro, hzo, hBq⟩ := hC
  have hG := hGc
  have hTS : TS F ta zt := ⟨hzt, rt, hFt⟩
  obtain ⟨hi_5, ⟨r_6, ht_7⟩, hi_8, ⟨r_9, ht_10⟩, hi_11, ht_12, hi_13, ⟨w0_14, w1_15, w2_16, w3_17, nm_18, te_19, ht_20⟩, hi_21, ⟨l1_22, lx_23, ly0_24, ly1_25, ly2_26, k1_27, kx_28, ky0_29, ky1_30, ky2_31, w0_32, w1_33, w2_34, w3_35, w4_36, w5_37, w6_38, w7_39, w8_40, tk_41, h1_42, hx_43, hy_44, hw_45, pw_46, px_47, py_48, pz_49, pu_50, ht_51⟩, hi_52, ⟨w0_53, w1_54, rc_55, rx_56, ry0_57, ry1_58, ry2_59, ht_60⟩, hi_61, ⟨hx_62, hy_63, hw_64, ht_65⟩⟩ := hW.gate hL_xq hT_xq
  obtain ⟨le_66, sp_67, μ_68, ν_69, hF_70, hq_71, hq_72, hq_73, hq_74, hq_75, hq_76⟩ := hO.gate hL_xq hT_xq
  obtain ⟨x_77, y0_78, y1_79, y2_80, ht_81⟩ := id hq_72
  obtain ⟨x_82, y0_83, y1_84, y2_85, ht_86⟩ := id hq_74
  obtain ⟨hiR, htR, -⟩ := hW.bytes hi_5 hTta
  obtain ⟨hi_87, ht_88⟩ := hW.dir hi_11 ht_12
  have hO0 := hO
  obtain ⟨hi_89, ht_90, hi_91, ⟨r_92, ht_93⟩, hi_94, ⟨r_95, ht_96⟩, hi_97, ⟨r_98, ht_99⟩, hi_100, ⟨r_101, ht_102⟩, hi_103, ht_104, hi_105, ht_106⟩ := hW.chk hi_13 hTck
  have ht_93 : ty ca0 = (0, ρ + 36, [r_92, 91]) := ht_93
  have ht_96 : ty ca1 = (0, ρ + 37, [r_95, 30]) := ht_96
  have ht_99 : ty ca2 = (0, ρ + 38, [r_98, 60]) := ht_99
  have ht_102 : ty ca3 = (0, ρ + 39, [r_101, 15]) := ht_102
  have ht_104 : ty cnm = (20, ρ + 40, [12]) := ht_104
  have ht_106 : ty cte = (22, ρ + 41, [11]) := ht_106
  obtain ⟨hiO, htO, -⟩ := hW.bytes hi_8 hTou
  have hFc := pg_free hD hS hA
  refine va_calli (va_runV (As := [.int (xs (i + 1)), .int (xs (i + 2))]) (rest := []) ⟨hx, hb, hml, hown, hts⟩ (s_X11_sealed l dC dI cs ty L H.size F xq ρ ta ou di ea ck sl po hs zt (xs (i + 1)) (xs (i + 2)) hW hL_xq hT_xq hTS) ⟨callB_of 2 hts (gi kt_1276) rfl rfl rfl (hts _ kt_664) (hts _ kt_1277) (by decide +kernel) ⟨Nat.le_of_ble_eq_true rfl, Nat.le_of_ble_eq_true rfl⟩, (hts _ kt_1278), (hts _ kt_1279)⟩ ⟨fun a U g mk q => ⟨q.1, PTE.calling q.2⟩, pg_recv hK hP hL_xq hF_70 (q := (RX11, TX11, 9)) rfl, fun U hU hWm => ⟨rfl, PTE.mk hU hWm hP hK hD hE hO hG (fun x hx => absurd hx List.not_mem_nil) hS hFc⟩⟩ rfl rfl hl.1 rfl (lv_room (Nat.le_of_ble_eq_true rfl)) dL_law_340 ⟨by show _ + 0 ≤ 600000; omega, by show _ + 0 ≤ 7302250; omega⟩) hS (fun q _ h => hFc q h) hFc (fun r_107 u t H1 locs ht hvm hw hB hz1 hk1 hS => ?_)
  obtain ⟨F2, hB1, hf0⟩ := hB
  obtain ⟨hP, hD, hO, hR⟩ := QT.back hB1 ht hFc FR.refl (fun q h => h)
  have hM := hM.kept hBq hk1
  have hLT := hLT.fr hW hT_xq hB1.2.2.2 (fun q h => by simp only [List.mem_cons, List.not_mem_nil, or_false] at h; omega)
  have hCol9 := hCol
  have hDI := DIRC.fr hDI hO0 hW hi_87 ht_88 hcn hB1.2.2.2 (hB1.2.2.2 ea (by rw [ht_88]; simp)) (fun k hk => by simp only [List.mem_cons, List.not_mem_nil, or_false]; omega)
  have hFk9 := (hB1.2.2.2 ck (by rw [hTck]; simp)).trans hFk
  have hSD9 := hSD.imp id (fun q => q.fr hO0 hW hi_91 ht_93 hi_94 ht_96 hi_97 ht_99 hi_100 ht_102 hB1.2.2.2 (fun k9 h1 h2 => by simp only [List.mem_cons, List.not_mem_nil, or_false]; omega))
  have hC : PCl (dC, dI) cs A Bq xq zt ze f n bb zm fL sA sB sC DX zo fo SD aS vS c9 u9 H1 := ⟨L, F2, ty, ρ, ta, ou, di, ea, ck, sl, po, hs, rt, ro, ca0, ca1, ca2, ca3, cnm, cte, ⟨hP, hD, hO, hW⟩, hL_xq, hT_xq, hTta, (hB1.2.2.2 ta (by rw [hTta]; simp)).trans hFt, (hB1.2.2.2 rt (by rw [htR]; simp)).trans hFr, hzt, (hB1.2.2.2 di (by rw [ht_90]; simp)).trans hFd, hcn, hLT, hDI, hTck, hFk9, hSD9, hCol9, hTou, (hB1.2.2.2 ou (by rw [hTou]; simp)).trans hFou, (hB1.2.2.2 ro (by rw [htO]; simp)).trans hFro, hzo, hBq⟩
  generalize H1 = H at hC hM hS ⊢
  refine lv_pop hx hb dL_law_343 rfl ?_
  refine lv_aload_n hx hb dL_law_344 rfl (lv_at hl 1 rfl) ?_
  refine lv_aload_n hx hb dL_law_345 rfl (lv_at hl 3 rfl) ?_
  refine lv_iload_n hx hb dL_law_346 rfl (lv_at hl 0 rfl) ?_
  refine lv_iconst (v := 1) hx hb dL_law_347 (by decide) ?_
  refine lv_iadd hx hb dL_law_348 ?_
  refine lv_topi (fun x_108 ex_108 => ?_)
  obtain rfl : x_108 = (nI (i + 1)) := ex_108.trans (nI_add i 1)
  refine va_sld hx hb hX hbl hbA hS (vp_in_nI (by omega) (by omega)) dL_law_349 ?_
  refine lv_topi (fun x_109 ex_109 => ?_)
  obtain rfl : x_109 = (xs (i + 1)) := ex_109.trans (congrArg xs (nI_clamp (by omega)))
  refine lv_aload_n hx hb dL_law_350 rfl (lv_at hl 3 rfl) ?_
  refine lv_iload_n hx hb dL_law_351 rfl (lv_at hl 0 rfl) ?_
  refine lv_iconst (v := 2) hx hb dL_law_352 (by decide) ?_
  refine lv_iadd hx hb dL_law_353 ?_
  refine lv_topi (fun x_110 ex_110 => ?_)
  obtain rfl : x_110 = (nI (i + 2)) := ex_110.trans (nI_add i 2)
  refine va_sld hx hb hX hbl hbA hS (vp_in_nI (by omega) (by omega)) dL_law_354 ?_
  refine lv_topi (fun x_111 ex_111 => ?_)
  obtain rfl : x_111 = (xs (i + 2)) := ex_111.trans (congrArg xs (nI_clamp (by omega)))
  obtain ⟨L, F, ty, ρ, ta, ou, so, ad, na, va, lc, dm, tg, pe, ml, bg, co, sp, nb0, nb1, nb2, pl, se, ke, wi, hs, mo, po, nu, pr, sq, xa, sa, n64, m64, ex, wh, sd, tk, hd, ak, ho, ot, sx, s0, s1, s2, ⟨hP, hD, hO, hW⟩, hL_h0, hT_h0, hFta, hFml, hDM, hSN, hFou, hn01, hn02, hn12, hU26, hU15, hBq⟩ := hM
  have hG := hGm
  obtain ⟨hq_134, hq_135, hq_136, hq_137, hq_138, hgO, hgA, hgB, hq_139⟩ := hW.sc hL_h0 hT_h0
  obtain ⟨v14_140, v15_141, v17_142, v18_143, v19_144, v20_145, v21_146, v22_147, v33_148, v52_149, v53_150, v54_151, hF_152, hq_153, hq_154, hq_155, hq_156, hq_157⟩ := hO.mod hL_h0 hT_h0
  obtain ⟨hi_158, ht_159⟩ := hW.f_se hL_h0 hT_h0
  obtain ⟨hi_160, hi_161, hi_162, hi_163, ⟨r_164, ht_165⟩, ht_166, ht_167, ht_168, hq_169, hq_170⟩ := hW.tags hi_158 ht_159
  have ht_165 : ty sx = (14, ρ + 12, [r_164, 3000]) := ht_165
  have ht_167 : ty s1 = (25, ρ + 81, [40, 1280]) := ht_167
  have ht_168 : ty s2 = (25, ρ + 82, [40, 1280]) := ht_168
  obtain ⟨hi_171, ht_172⟩ := hW.f_ta hL_h0 hT_h0
  obtain ⟨hLs0, hTs0⟩ := hW.f_so hL_h0 hT_h0
  obtain ⟨hLd0, hTd0⟩ := hW.f_ad hL_h0 hT_h0
  obtain ⟨hLn0, hTn0⟩ := hW.f_na hL_h0 hT_h0
  obtain ⟨hLv0, hTv0⟩ := hW.f_va hL_h0 hT_h0
  have hO0 := hO
  obtain ⟨hi_173, r_112, ht_174⟩ := hW.f_lc hL_h0 hT_h0
  obtain ⟨hi_175, ht_176, hq_177⟩ := hW.txt hi_173 ht_174
  obtain ⟨hi_178, r_113, ht_179⟩ := hW.f_dm hL_h0 hT_h0
  obtain ⟨hi_180, ht_181, hq_182⟩ := hW.txt hi_178 ht_179
  obtain ⟨hi_183, r_114, ht_184⟩ := hW.f_pe hL_h0 hT_h0
  obtain ⟨hi_185, ht_186, hq_187⟩ := hW.txt hi_183 ht_184
  obtain ⟨hi_188, r_115, ht_189⟩ := hW.f_pl hL_h0 hT_h0
  have hFc := pg_free hD hS hA
  refine va_calli (va_runV (As := [.int (xs (i + 1)), .int (xs (i + 2))]) (rest := []) ⟨hx, hb, hml, hown, hts⟩ (s_X15_sealed l dC dI cs ty gm L H.size F h0 ρ ta ou so ad na va lc dm tg pe ml bg co sp nb0 nb1 nb2 pl se ke wi hs mo po nu pr sq xa sa n64 m64 ex wh sd tk hd ak ho ot sx s0 s1 s2 nf bd mm zo fm sn 1 gc gv ze zt r_164 r_115 (xs (i + 1)) (xs (i + 2)) hW hL_h0 hT_h0 hi_160 ht_165 hi_188 ht_189) ⟨callB_of 2 hts (gi kt_1280) rfl rfl rfl (hts _ kt_669) (hts _ kt_1281) (by decide +kernel) ⟨Nat.le_of_ble_eq_true rfl, Nat.le_of_ble_eq_true rfl⟩, (hts _ kt_1282), (hts _ kt_1283)⟩ ⟨fun a U g mk q => ⟨q.1, PTEm.calling q.2⟩, pg_recv hK hP hL_h0 hF_152 (q := (RX15, TX15, 59)) rfl, fun U hU hWm => ⟨rfl, PTEm.mk hU hWm hP hK hD hE hO hG (fun x hx => absurd hx List.not_mem_nil) hS hFc⟩⟩ rfl rfl hl.1 rfl (lv_room (Nat.le_of_ble_eq_true rfl)) dL_law_355 ⟨by show _ + 0 ≤ 600000; omega, by show _ + 0 ≤ 7302250; omega⟩) hS (fun q _ h => hFc q h) hFc (fun r_190 u t H1 locs ht hvm hw hB hz1 hk1 hS => ?_)
  obtain ⟨F2, hB1⟩ := hB
  obtain ⟨hP, hD, hO, hR⟩ := QTm.back hB1 ht hFc FR.refl (fun q h => h)
  have hC := hC.kept hBq hk1
  obtain ⟨hi_191, ht_192⟩ := hW.f_ml hL_h0 hT_h0
  have hR9 := hB1.2.2.2
  have hDM := DIRM.fr hDM hO0 hW hLn0 hTn0 hLv0 hTv0 hcn hR9 (hR9 so (by rw [hTs0]; simp)) (hR9 ad (by rw [hTd0]; simp)) (hR9 na (by rw [hTn0]; simp)) (hR9 va (by rw [hTv0]; simp)) (fun k hk => ⟨by simp only [List.mem_cons, List.not_mem_nil, or_false]; omega, by simp only [List.mem_cons, List.not_mem_nil, or_false]; omega⟩)
  have hSN9 := hSN.imp id (fun q => And.intro (q.1.fr hO0 hW hi_173 ht_174 hR9 (by simp only [List.mem_cons, List.not_mem_nil, or_false]; omega)) (q.2.fr hO0 hW hi_178 ht_179 hR9 (by simp only [List.mem_cons, List.not_mem_nil, or_false]; omega)))
  obtain ⟨hi_193, ht_194⟩ := hW.f_ou hL_h0 hT_h0
  have hM : PMl (dC, dI) cs A Bq h0 zt ze gt nf bd mm gm gl EX zo go fm sn LC DN gc gv H1 := ⟨L, F2, ty, ρ, ta, ou, so, ad, na, va, lc, dm, tg, pe, ml, bg, co, sp, nb0, nb1, nb2, pl, se, ke, wi, hs, mo, po, nu, pr, sq, xa, sa, n64, m64, ex, wh, sd, tk, hd, ak, ho, ot, sx, s0, s1, s2, ⟨hP, hD, hO, hW⟩, hL_h0, hT_h0, (hB1.2.2.2 ta (by rw [ht_172]; simp)).trans hFta, (hB1.2.2.2 ml (by rw [ht_192]; simp)).trans hFml, hDM, hSN9, (hB1.2.2.2 ou (by rw [ht_194]; simp)).trans hFou, hn01, hn02, hn12, hU26, hU15, hBq⟩
  generalize H1 = H at hC hM hS ⊢
  refine lv_pop hx hb dL_law_358 rfl ?_
  refine lv_goto (tgt := 522) hx hb dL_law_359 (by decide) ?_
  refine W.widen (k := cc + 1) (n := ss + 5) (by omega) (by omega) ?_
  exact kk zt ze f gt n bb zm fL sA sB sC DX zo fo SD aS vS c9 u9 nf bd mm gm gl EX go fm sn LC DN gc gv _ _ _ (by omega) hcn (hrel) hlr hdr hro hsr hvn hce hC hM hS hl
