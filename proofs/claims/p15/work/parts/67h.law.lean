theorem kt_1316 : Cond.code yX11_digest cX11_digest 1 (some .int) ∈ tb := tb_at (i := 1188) (by decide +kernel) (by decide +kernel)
theorem kt_1317 : Cond.methodLink RL 75 yX11_digest ∈ tb := tb_at (i := 1185) (by decide +kernel) (by decide +kernel)
theorem kt_1318 : Cond.instanceMethod yX11_digest ∈ tb := tb_at (i := 1186) (by decide +kernel) (by decide +kernel)
theorem kt_1319 : Cond.selects RX11 yX11_digest yX11_digest ∈ tb := tb_at (i := 1187) (by decide +kernel) (by decide +kernel)
theorem kt_1320 : Cond.code yX15_digest_ cX15_digest_ 2 (some .int) ∈ tb := tb_at (i := 1847) (by decide +kernel) (by decide +kernel)
theorem kt_1321 : Cond.methodLink RL 78 yX15_digest_ ∈ tb := tb_at (i := 1844) (by decide +kernel) (by decide +kernel)
theorem kt_1322 : Cond.instanceMethod yX15_digest_ ∈ tb := tb_at (i := 1845) (by decide +kernel) (by decide +kernel)
theorem kt_1323 : Cond.selects RX15 yX15_digest_ yX15_digest_ ∈ tb := tb_at (i := 1846) (by decide +kernel) (by decide +kernel)
theorem kt_1324 : Cond.code yX11_octet cX11_octet 2 (some .int) ∈ tb := tb_at (i := 1193) (by decide +kernel) (by decide +kernel)
theorem kt_1325 : Cond.methodLink RL 79 yX11_octet ∈ tb := tb_at (i := 1190) (by decide +kernel) (by decide +kernel)
theorem kt_1326 : Cond.instanceMethod yX11_octet ∈ tb := tb_at (i := 1191) (by decide +kernel) (by decide +kernel)
theorem kt_1327 : Cond.selects RX11 yX11_octet yX11_octet ∈ tb := tb_at (i := 1192) (by decide +kernel) (by decide +kernel)
theorem kt_1328 : Cond.code yX15_octet cX15_octet 2 (some .int) ∈ tb := tb_at (i := 1897) (by decide +kernel) (by decide +kernel)
theorem kt_1329 : Cond.methodLink RL 82 yX15_octet ∈ tb := tb_at (i := 1894) (by decide +kernel) (by decide +kernel)
theorem kt_1330 : Cond.instanceMethod yX15_octet ∈ tb := tb_at (i := 1895) (by decide +kernel) (by decide +kernel)
theorem kt_1331 : Cond.selects RX15 yX15_octet yX15_octet ∈ tb := tb_at (i := 1896) (by decide +kernel) (by decide +kernel)
set_option maxHeartbeats 4000000 in
set_option maxRecDepth 100000 in
theorem law_14 {p : Program} {l : Launch} {e : Env} {s : State} {m : MethodId} {below : List Frame} {meth : Method} {c : Code} {A Bq : Nat → Prop} {dC : Nat → ClassId} {dI : Nat → Nat → Nat} {cs : Nat → ClassId} {b Ln : Nat} {xs : Nat → Int32} (C0 : LC p s m meth c A dC dI cs b Ln xs) {xq h0 i zt ze cc ss : Nat} {f gt : Nat → Int32} {n : Nat} {bb : Int32} {zm : Nat} {fL sA sB sC : Nat → Int32} {DX : Nat → ETY} {zo : Nat} {fo : Nat → Int32} {SD : SDR} {aS vS : Int32} {c9 u9 : Nat} {nf bd mm : Nat} {gm : Nat → Nat → Nat} {gl : Nat → Int32} {EX : Nat → ETY} {go : Nat → Int32} {fm sn : Nat} {LC DN : List Nat} {gc gv : Nat} (hi : i + 6 ≤ Ln) (hLn : Ln ≤ 384) (hnz : zt ≤ 1280) (hcc : cc + 1 ≤ 600000) (hss : ss + 5 ≤ 7302250) {H : Heap} {locs : List Loc} {ls : Array Slot} (hrel : REL f gt zt) (hlr : LRL n bb zm fL sA sB sC nf bd mm gm gl) (hdr : DREL DX EX ze) (hro : REL fo go zo) (hsr : SRL SD aS vS fm sn LC DN) (hvn : VNI EX ze) (hce : c9 = gc ∧ u9 = gv) (hC : PCl (dC, dI) cs A Bq xq zt ze f n bb zm fL sA sB sC DX zo fo SD aS vS c9 u9 H) (hM : PMl (dC, dI) cs A Bq h0 zt ze gt nf bd mm gm gl EX zo go fm sn LC DN gc gv H) (hS : va_S A s.heap H locs) (hl : lv_has ls 4 [(3, .int (nI i)), (2, .ref h0), (1, .ref xq), (0, .ref b)]) (kk : ∀ (z2 c2 : Nat) (f2 g2 : Nat → Int32) (n : Nat) (bb : Int32) (zm : Nat) (fL sA sB sC : Nat → Int32) (DX : Nat → ETY) (zo : Nat) (fo : Nat → Int32) (SD : SDR) (aS vS : Int32) (c9 u9 : Nat) (nf bd mm : Nat) (gm : Nat → Nat → Nat) (gl : Nat → Int32) (EX : Nat → ETY) (go : Nat → Int32) (fm sn : Nat) (LC DN : List Nat) (gc gv : Nat) (H : Heap) (locs : List Loc) (ls : Array Slot), z2 ≤ zt + 20 → c2 ≤ 40 → REL f2 g2 z2 → LRL n bb zm fL sA sB sC nf bd mm gm gl → DREL DX EX c2 → REL fo go zo → SRL SD aS vS fm sn LC DN → VNI EX c2 → (c9 = gc ∧ u9 = gv) → PCl (dC, dI) cs A Bq xq z2 c2 f2 n bb zm fL sA sB sC DX zo fo SD aS vS c9 u9 H → PMl (dC, dI) cs A Bq h0 z2 c2 g2 nf bd mm gm gl EX zo go fm sn LC DN gc gv H → va_S A s.heap H locs → lv_has ls 4 [(3, .int (nI i)), (2, .ref h0), (1, .ref xq), (0, .ref b)] → W p l e room_1 s m #[Value.ref b] below meth c H locs (cc + 1) (ss + 5) (lw_Z below #[Value.ref b] s) (F0 m 522 ls [])) : W p l e room_1 s m #[Value.ref b] below meth c H locs cc ss (lw_Z below #[Value.ref b] s) (F0 m 486 ls []) := by
  obtain ⟨hx, hb, hr, hml, hown, hts, hX, hbl, hbA, hlocks, hE, hGc, hGm, hK, hA, hAs⟩ := id C0
  refine lv_aload_n hx hb dL_law_486 rfl (lv_at hl 2 rfl) ?_
  obtain ⟨L, F, ty, ρ, ta, ou, di, ea, ck, sl, po, hs, rt, ro, ca0, ca1, ca2, ca3, cnm, cte, ⟨hP, hD, hO, hW⟩, hL_xq, hT_xq, hTta, hFt, hFr, hzt, hFd, hcn, hLT, hDI, hTck, hFk, hSD, hCol, hTou, hFou, hFro, hzo, hBq⟩ := hC
  have hG := hGc
  have hTS : TS F ta zt := ⟨hzt, rt, hFt⟩
  obtain ⟨hi_1, ⟨r_2, ht_3⟩, hi_4, ⟨r_5, ht_6⟩, hi_7, ht_8, hi_9, ⟨w0_10, w1_11, w2_12, w3_13, nm_14, te_15, ht_16⟩, hi_17, ⟨l1_18, lx_19, ly0_20, ly1_21, ly2_22, k1_23, kx_24, ky0_25, ky1_26, ky2_27, w0_28, w1_29, w2_30, w3_31, w4_32, w5_33, w6_34, w7_35, w8_36, tk_37, h1_38, hx_39, hy_40, hw_41, pw_42, px_43, py_44, pz_45, pu_46, ht_47⟩, hi_48, ⟨w0_49, w1_50, rc_51, rx_52, ry0_53, ry1_54, ry2_55, ht_56⟩, hi_57, ⟨hx_58, hy_59, hw_60, ht_61⟩⟩ := hW.gate hL_xq hT_xq
  obtain ⟨le_62, sp_63, μ_64, ν_65, hF_66, hq_67, hq_68, hq_69, hq_70, hq_71, hq_72⟩ := hO.gate hL_xq hT_xq
  obtain ⟨x_73, y0_74, y1_75, y2_76, ht_77⟩ := id hq_68
  obtain ⟨x_78, y0_79, y1_80, y2_81, ht_82⟩ := id hq_70
  obtain ⟨hiR, htR, -⟩ := hW.bytes hi_1 hTta
  obtain ⟨hi_83, ht_84⟩ := hW.dir hi_7 ht_8
  have hO0 := hO
  obtain ⟨hi_85, ht_86, hi_87, ⟨r_88, ht_89⟩, hi_90, ⟨r_91, ht_92⟩, hi_93, ⟨r_94, ht_95⟩, hi_96, ⟨r_97, ht_98⟩, hi_99, ht_100, hi_101, ht_102⟩ := hW.chk hi_9 hTck
  have ht_89 : ty ca0 = (0, ρ + 36, [r_88, 91]) := ht_89
  have ht_92 : ty ca1 = (0, ρ + 37, [r_91, 30]) := ht_92
  have ht_95 : ty ca2 = (0, ρ + 38, [r_94, 60]) := ht_95
  have ht_98 : ty ca3 = (0, ρ + 39, [r_97, 15]) := ht_98
  have ht_100 : ty cnm = (20, ρ + 40, [12]) := ht_100
  have ht_102 : ty cte = (22, ρ + 41, [11]) := ht_102
  obtain ⟨hiO, htO, -⟩ := hW.bytes hi_4 hTou
  have hFc := pg_free hD hS hA
  refine va_calli (va_runV (As := []) (rest := []) ⟨hx, hb, hml, hown, hts⟩ (s_X11_digest_e l dC dI cs ty L H.size F xq ρ ta ou di ea ck sl po hs zt rt ze f ro hW hL_xq hT_xq hi_1 hTta hi_4 hTou hFt hFr hzt) ⟨callB_of 0 hts (gi kt_1316) rfl rfl rfl (hts _ kt_664) (hts _ kt_1317) (by decide +kernel) ⟨Nat.le_of_ble_eq_true rfl, Nat.le_of_ble_eq_true rfl⟩, (hts _ kt_1318), (hts _ kt_1319)⟩ ⟨fun a U g mk q => ⟨q.1, PTE.calling q.2⟩, pg_recv hK hP hL_xq hF_66 (q := (RX11, TX11, 9)) rfl, fun U hU hWm => ⟨rfl, PTE.mk hU hWm hP hK hD hE hO hG (fun x hx => absurd hx List.not_mem_nil) hS hFc⟩⟩ rfl rfl hl.1 rfl (lv_room (Nat.le_of_ble_eq_true rfl)) dL_law_487 ⟨by show _ + 0 ≤ 600000; omega, by show _ + 0 ≤ 7302250; omega⟩) hS (fun q _ h => hFc q h) hFc (fun r_103 u t H1 locs ht hvm hw hB hz1 hk1 hS => ?_)
  obtain ⟨F2, f2, hB1, hf0, hf1, hf2, hf3⟩ := hB
  obtain ⟨hP, hD, hO, hR⟩ := QT.back hB1 ht hFc FR.refl (fun q h => h)
  have hM := hM.kept hBq hk1
  have hLT := hLT.fr hW hT_xq hB1.2.2.2 (fun q h => by simp only [List.mem_cons, List.not_mem_nil, or_false] at h; omega)
  have hE1 := hw
  obtain ⟨f9, hFr9⟩ := hO.ints hiR htR
  have hCol9 := hCol
  have hDI := DIRC.fr hDI hO0 hW hi_83 ht_84 hcn hB1.2.2.2 (hB1.2.2.2 ea (by rw [ht_84]; simp)) (fun k hk => by simp only [List.mem_cons, List.not_mem_nil, or_false]; omega)
  have hFk9 := (hB1.2.2.2 ck (by rw [hTck]; simp)).trans hFk
  have hSD9 := hSD.imp id (fun q => q.fr hO0 hW hi_87 ht_89 hi_90 ht_92 hi_93 ht_95 hi_96 ht_98 hB1.2.2.2 (fun k9 h1 h2 => by simp only [List.mem_cons, List.not_mem_nil, or_false]; omega))
  have hC : PCl (dC, dI) cs A Bq xq 0 ze f9 n bb zm fL sA sB sC DX 32 f2 SD aS vS c9 u9 H1 := ⟨L, F2, ty, ρ, ta, ou, di, ea, ck, sl, po, hs, rt, ro, ca0, ca1, ca2, ca3, cnm, cte, ⟨hP, hD, hO, hW⟩, hL_xq, hT_xq, hTta, hf0, hFr9, (Nat.zero_le _), (hB1.2.2.2 di (by rw [ht_86]; simp)).trans hFd, hcn, hLT, hDI, hTck, hFk9, hSD9, hCol9, hTou, hf1, hf2, (by omega), hBq⟩
  generalize H1 = H at hC hM hS ⊢
  have hw : r_103 = 32 := hw
  subst hw
  refine lv_pop hx hb dL_law_490 rfl ?_
  refine lv_aload_n hx hb dL_law_491 rfl (lv_at hl 1 rfl) ?_
  obtain ⟨L, F, ty, ρ, ta, ou, so, ad, na, va, lc, dm, tg, pe, ml, bg, co, sp, nb0, nb1, nb2, pl, se, ke, wi, hs, mo, po, nu, pr, sq, xa, sa, n64, m64, ex, wh, sd, tk, hd, ak, ho, ot, sx, s0, s1, s2, ⟨hP, hD, hO, hW⟩, hL_h0, hT_h0, hFta, hFml, hDM, hSN, hFou, hn01, hn02, hn12, hU26, hU15, hBq⟩ := hM
  have hG := hGm
  obtain ⟨hq_126, hq_127, hq_128, hq_129, hq_130, hgO, hgA, hgB, hq_131⟩ := hW.sc hL_h0 hT_h0
  obtain ⟨v14_132, v15_133, v17_134, v18_135, v19_136, v20_137, v21_138, v22_139, v33_140, v52_141, v53_142, v54_143, hF_144, hq_145, hq_146, hq_147, hq_148, hq_149⟩ := hO.mod hL_h0 hT_h0
  obtain ⟨hi_150, ht_151⟩ := hW.f_ta hL_h0 hT_h0
  obtain ⟨hLs0, hTs0⟩ := hW.f_so hL_h0 hT_h0
  obtain ⟨hLd0, hTd0⟩ := hW.f_ad hL_h0 hT_h0
  obtain ⟨hLn0, hTn0⟩ := hW.f_na hL_h0 hT_h0
  obtain ⟨hLv0, hTv0⟩ := hW.f_va hL_h0 hT_h0
  have hO0 := hO
  obtain ⟨hi_152, r_104, ht_153⟩ := hW.f_lc hL_h0 hT_h0
  obtain ⟨hi_154, ht_155, hq_156⟩ := hW.txt hi_152 ht_153
  obtain ⟨hi_157, r_105, ht_158⟩ := hW.f_dm hL_h0 hT_h0
  obtain ⟨hi_159, ht_160, hq_161⟩ := hW.txt hi_157 ht_158
  obtain ⟨hi_162, r_106, ht_163⟩ := hW.f_pe hL_h0 hT_h0
  obtain ⟨hi_164, ht_165, hq_166⟩ := hW.txt hi_162 ht_163
  have hFc := pg_free hD hS hA
  refine va_calli (va_runV (As := []) (rest := []) ⟨hx, hb, hml, hown, hts⟩ (s_X15_digest_c l dC dI cs ty gm L H.size F h0 ρ ta ou so ad na va lc dm tg pe ml bg co sp nb0 nb1 nb2 pl se ke wi hs mo po nu pr sq xa sa n64 m64 ex wh sd tk hd ak ho ot sx s0 s1 s2 nf bd mm zo fm sn 1 gc gv ze zt gt hW hL_h0 hT_h0 hFta) ⟨callB_of 0 hts (gi kt_1320) rfl rfl rfl (hts _ kt_669) (hts _ kt_1321) (by decide +kernel) ⟨Nat.le_of_ble_eq_true rfl, Nat.le_of_ble_eq_true rfl⟩, (hts _ kt_1322), (hts _ kt_1323)⟩ ⟨fun a U g mk q => ⟨q.1, PTm.calling q.2⟩, pg_recv hK hP hL_h0 hF_144 (q := (RX15, TX15, 59)) rfl, fun U hU hWm => ⟨rfl, PTm.mk hU hWm hP hK hD hE hO⟩⟩ rfl rfl hl.1 rfl (lv_room (Nat.le_of_ble_eq_true rfl)) dL_law_492 ⟨by show _ + 0 ≤ 600000; omega, by show _ + 0 ≤ 7302250; omega⟩) hS (fun q _ h => hFc q h) hFc (fun r_167 u t H1 locs ht hvm hw hB hz1 hk1 hS => ?_)
  obtain ⟨F2, ty9, go, hty9, hB1, hW9, hga0, hga⟩ := hB
  subst hty9
  obtain ⟨hP, hD, hO, hR⟩ := QTm.back hB1 ht hFc FR.refl (fun q h => h)
  have hC := hC.kept hBq hk1
  obtain ⟨hi_168, ht_169⟩ := hW.f_ml hL_h0 hT_h0
  have hR9 := FR.unre hT_h0 rfl hB1.2.2.2
  have hDM := DIRM.fr hDM hO0 hW hLn0 hTn0 hLv0 hTv0 hcn hR9 (hR9 so (by rw [hTs0]; simp)) (hR9 ad (by rw [hTd0]; simp)) (hR9 na (by rw [hTn0]; simp)) (hR9 va (by rw [hTv0]; simp)) (fun k hk => ⟨by simp only [List.mem_cons, List.not_mem_nil, or_false]; omega, by simp only [List.mem_cons, List.not_mem_nil, or_false]; omega⟩)
  have hSN9 := hSN.imp id (fun q => And.intro (q.1.fr hO0 hW hi_152 ht_153 hR9 (by simp only [List.mem_cons, List.not_mem_nil, or_false]; omega)) (q.2.fr hO0 hW hi_157 ht_158 hR9 (by simp only [List.mem_cons, List.not_mem_nil, or_false]; omega)))
  obtain ⟨hi_170, ht_171⟩ := hW.f_ou hL_h0 hT_h0
  have hM : PMl (dC, dI) cs A Bq h0 0 ze gt nf bd mm gm gl EX 32 go fm sn LC DN gc gv H1 := ⟨L, F2, _, ρ, ta, ou, so, ad, na, va, lc, dm, tg, pe, ml, bg, co, sp, nb0, nb1, nb2, pl, se, ke, wi, hs, mo, po, nu, pr, sq, xa, sa, n64, m64, ex, wh, sd, tk, hd, ak, ho, ot, sx, s0, s1, s2, ⟨hP, hD, hO, hW9⟩, hL_h0, rtf_self, (hB1.2.2.2 ta (by rw [rtf_tr hT_h0 (by decide) ht_151]; simp)).trans hFta, (hB1.2.2.2 ml (by rw [rtf_tr hT_h0 (by decide) ht_169]; simp)).trans hFml, hDM, hSN9, hga0, hn01, hn02, hn12, U_re hU26, U15_re hU15, hBq⟩
  have hro := dig_rel hrel (by omega) hf3 hga
  generalize H1 = H at hC hM hS ⊢
  have hw : r_167 = 32 := hw
  subst hw
  refine lv_pop hx hb dL_law_495 rfl ?_
  refine lv_goto (tgt := 522) hx hb dL_law_496 (by decide) ?_
  refine W.widen (k := cc + 1) (n := ss + 5) (by omega) (by omega) ?_
  exact kk 0 ze f9 gt n bb zm fL sA sB sC DX 32 f2 SD aS vS c9 u9 nf bd mm gm gl EX go fm sn LC DN gc gv _ _ _ (by omega) hcn (REL.zero) hlr hdr hro hsr hvn hce hC hM hS hl
set_option maxHeartbeats 4000000 in
set_option maxRecDepth 100000 in
theorem law_15 {p : Program} {l : Launch} {e : Env} {s : State} {m : MethodId} {below : List Frame} {meth : Method} {c : Code} {A Bq : Nat → Prop} {dC : Nat → ClassId} {dI : Nat → Nat → Nat} {cs : Nat → ClassId} {b Ln : Nat} {xs : Nat → Int32} (C0 : LC p s m meth c A dC dI cs b Ln xs) {xq h0 i zt ze cc ss : Nat} {f gt : Nat → Int32} {n : Nat} {bb : Int32} {zm : Nat} {fL sA sB sC : Nat → Int32} {DX : Nat → ETY} {zo : Nat} {fo : Nat → Int32} {SD : SDR} {aS vS : Int32} {c9 u9 : Nat} {nf bd mm : Nat} {gm : Nat → Nat → Nat} {gl : Nat → Int32} {EX : Nat → ETY} {go : Nat → Int32} {fm sn : Nat} {LC DN : List Nat} {gc gv : Nat} (hi : i + 6 ≤ Ln) (hLn : Ln ≤ 384) (hnz : zt ≤ 1280) (hcc : cc + 1 ≤ 600000) (hss : ss + 5 ≤ 7302250) {H : Heap} {locs : List Loc} {ls : Array Slot} (hrel : REL f gt zt) (hlr : LRL n bb zm fL sA sB sC nf bd mm gm gl) (hdr : DREL DX EX ze) (hro : REL fo go zo) (hsr : SRL SD aS vS fm sn LC DN) (hvn : VNI EX ze) (hce : c9 = gc ∧ u9 = gv) (hC : PCl (dC, dI) cs A Bq xq zt ze f n bb zm fL sA sB sC DX zo fo SD aS vS c9 u9 H) (hM : PMl (dC, dI) cs A Bq h0 zt ze gt nf bd mm gm gl EX zo go fm sn LC DN gc gv H) (hS : va_S A s.heap H locs) (hl : lv_has ls 4 [(3, .int (nI i)), (2, .ref h0), (1, .ref xq), (0, .ref b)]) (kk : ∀ (z2 c2 : Nat) (f2 g2 : Nat → Int32) (n : Nat) (bb : Int32) (zm : Nat) (fL sA sB sC : Nat → Int32) (DX : Nat → ETY) (zo : Nat) (fo : Nat → Int32) (SD : SDR) (aS vS : Int32) (c9 u9 : Nat) (nf bd mm : Nat) (gm : Nat → Nat → Nat) (gl : Nat → Int32) (EX : Nat → ETY) (go : Nat → Int32) (fm sn : Nat) (LC DN : List Nat) (gc gv : Nat) (H : Heap) (locs : List Loc) (ls : Array Slot), z2 ≤ zt + 20 → c2 ≤ 40 → REL f2 g2 z2 → LRL n bb zm fL sA sB sC nf bd mm gm gl → DREL DX EX c2 → REL fo go zo → SRL SD aS vS fm sn LC DN → VNI EX c2 → (c9 = gc ∧ u9 = gv) → PCl (dC, dI) cs A Bq xq z2 c2 f2 n bb zm fL sA sB sC DX zo fo SD aS vS c9 u9 H → PMl (dC, dI) cs A Bq h0 z2 c2 g2 nf bd mm gm gl EX zo go fm sn LC DN gc gv H → va_S A s.heap H locs → lv_has ls 4 [(3, .int (nI i)), (2, .ref h0), (1, .ref xq), (0, .ref b)] → W p l e room_1 s m #[Value.ref b] below meth c H locs (cc + 1) (ss + 5) (lw_Z below #[Value.ref b] s) (F0 m 522 ls [])) : W p l e room_1 s m #[Value.ref b] below meth c H locs cc ss (lw_Z below #[Value.ref b] s) (F0 m 499 ls []) := by
  obtain ⟨hx, hb, hr, hml, hown, hts, hX, hbl, hbA, hlocks, hE, hGc, hGm, hK, hA, hAs⟩ := id C0
  refine lv_aload_n hx hb dL_law_499 rfl (lv_at hl 2 rfl) ?_
  refine lv_aload_n hx hb dL_law_500 rfl (lv_at hl 3 rfl) ?_
  refine lv_iload_n hx hb dL_law_501 rfl (lv_at hl 0 rfl) ?_
  refine lv_iconst (v := 1) hx hb dL_law_502 (by decide) ?_
  refine lv_iadd hx hb dL_law_503 ?_
  refine lv_topi (fun x_1 ex_1 => ?_)
  obtain rfl : x_1 = (nI (i + 1)) := ex_1.trans (nI_add i 1)
  refine va_sld hx hb hX hbl hbA hS (vp_in_nI (by omega) (by omega)) dL_law_504 ?_
  refine lv_topi (fun x_2 ex_2 => ?_)
  obtain rfl : x_2 = (xs (i + 1)) := ex_2.trans (congrArg xs (nI_clamp (by omega)))
  obtain ⟨L, F, ty, ρ, ta, ou, di, ea, ck, sl, po, hs, rt, ro, ca0, ca1, ca2, ca3, cnm, cte, ⟨hP, hD, hO, hW⟩, hL_xq, hT_xq, hTta, hFt, hFr, hzt, hFd, hcn, hLT, hDI, hTck, hFk, hSD, hCol, hTou, hFou, hFro, hzo, hBq⟩ := hC
  have hG := hGc
  have hTS : TS F ta zt := ⟨hzt, rt, hFt⟩
  obtain ⟨hi_3, ⟨r_4, ht_5⟩, hi_6, ⟨r_7, ht_8⟩, hi_9, ht_10, hi_11, ⟨w0_12, w1_13, w2_14, w3_15, nm_16, te_17, ht_18⟩, hi_19, ⟨l1_20, lx_21, ly0_22, ly1_23, ly2_24, k1_25, kx_26, ky0_27, ky1_28, ky2_29, w0_30, w1_31, w2_32, w3_33, w4_34, w5_35, w6_36, w7_37, w8_38, tk_39, h1_40, hx_41, hy_42, hw_43, pw_44, px_45, py_46, pz_47, pu_48, ht_49⟩, hi_50, ⟨w0_51, w1_52, rc_53, rx_54, ry0_55, ry1_56, ry2_57, ht_58⟩, hi_59, ⟨hx_60, hy_61, hw_62, ht_63⟩⟩ := hW.gate hL_xq hT_xq
  obtain ⟨le_64, sp_65, μ_66, ν_67, hF_68, hq_69, hq_70, hq_71, hq_72, hq_73, hq_74⟩ := hO.gate hL_xq hT_xq
  obtain ⟨x_75, y0_76, y1_77, y2_78, ht_79⟩ := id hq_70
  obtain ⟨x_80, y0_81, y1_82, y2_83, ht_84⟩ := id hq_72
  obtain ⟨hiR, htR, -⟩ := hW.bytes hi_3 hTta
  obtain ⟨hi_85, ht_86⟩ := hW.dir hi_9 ht_10
  have hO0 := hO
  obtain ⟨hi_87, ht_88, hi_89, ⟨r_90, ht_91⟩, hi_92, ⟨r_93, ht_94⟩, hi_95, ⟨r_96, ht_97⟩, hi_98, ⟨r_99, ht_100⟩, hi_101, ht_102, hi_103, ht_104⟩ := hW.chk hi_11 hTck
  have ht_91 : ty ca0 = (0, ρ + 36, [r_90, 91]) := ht_91
  have ht_94 : ty ca1 = (0, ρ + 37, [r_93, 30]) := ht_94
  have ht_97 : ty ca2 = (0, ρ + 38, [r_96, 60]) := ht_97
  have ht_100 : ty ca3 = (0, ρ + 39, [r_99, 15]) := ht_100
  have ht_102 : ty cnm = (20, ρ + 40, [12]) := ht_102
  have ht_104 : ty cte = (22, ρ + 41, [11]) := ht_104
  obtain ⟨hiO, htO, -⟩ := hW.bytes hi_6 hTou
  have hFc := pg_free hD hS hA
  refine va_calli (va_runV (As := [.int (xs (i + 1))]) (rest := []) ⟨hx, hb, hml, hown, hts⟩ (s_X11_octet_e l dC dI cs ty L H.size F xq ρ ta ou di ea ck sl po hs ro zo fo (xs (i + 1)) hW hL_xq hT_xq hi_6 hTou hFou hFro hzo) ⟨callB_of 1 hts (gi kt_1324) rfl rfl rfl (hts _ kt_664) (hts _ kt_1325) (by decide +kernel) ⟨Nat.le_of_ble_eq_true rfl, Nat.le_of_ble_eq_true rfl⟩, (hts _ kt_1326), (hts _ kt_1327)⟩ ⟨fun a U g mk q => ⟨q.1, PT.calling q.2⟩, pg_recv hK hP hL_xq hF_68 (q := (RX11, TX11, 9)) rfl, fun U hU hWm => ⟨rfl, PT.mk hU hWm hP hK hD hE hO⟩⟩ rfl rfl hl.1 rfl (lv_room (Nat.le_of_ble_eq_true rfl)) dL_law_505 ⟨by show _ + 0 ≤ 600000; omega, by show _ + 0 ≤ 7302250; omega⟩) hS (fun q _ h => hFc q h) hFc (fun r_105 u t H1 locs ht hvm hw hB hz1 hk1 hS => ?_)
  obtain ⟨F2, hB1⟩ := hB
  obtain ⟨hP, hD, hO, hR⟩ := QT.back hB1 ht hFc FR.refl (fun q h => h)
  have hM := hM.kept hBq hk1
  have hLT := hLT.fr hW hT_xq hB1.2.2.2 (fun q h => absurd h List.not_mem_nil)
  have hCol9 := hCol
  have hDI := DIRC.fr hDI hO0 hW hi_85 ht_86 hcn hB1.2.2.2 (hB1.2.2.2 ea (by rw [ht_86]; simp)) (fun k hk => ⟨List.not_mem_nil, List.not_mem_nil, List.not_mem_nil⟩)
  have hFk9 := (hB1.2.2.2 ck (by rw [hTck]; simp)).trans hFk
  have hSD9 := hSD.imp id (fun q => q.fr hO0 hW hi_89 ht_91 hi_92 ht_94 hi_95 ht_97 hi_98 ht_100 hB1.2.2.2 (fun k9 h1 h2 => List.not_mem_nil))
  have hC : PCl (dC, dI) cs A Bq xq zt ze f n bb zm fL sA sB sC DX zo fo SD aS vS c9 u9 H1 := ⟨L, F2, ty, ρ, ta, ou, di, ea, ck, sl, po, hs, rt, ro, ca0, ca1, ca2, ca3, cnm, cte, ⟨hP, hD, hO, hW⟩, hL_xq, hT_xq, hTta, (hB1.2.2.2 ta (by rw [hTta]; simp)).trans hFt, (hB1.2.2.2 rt (by rw [htR]; simp)).trans hFr, hzt, (hB1.2.2.2 di (by rw [ht_88]; simp)).trans hFd, hcn, hLT, hDI, hTck, hFk9, hSD9, hCol9, hTou, (hB1.2.2.2 ou (by rw [hTou]; simp)).trans hFou, (hB1.2.2.2 ro (by rw [htO]; simp)).trans hFro, hzo, hBq⟩
  generalize H1 = H at hC hM hS ⊢
  refine lv_pop hx hb dL_law_508 rfl ?_
  refine lv_aload_n hx hb dL_law_509 rfl (lv_at hl 1 rfl) ?_
  refine lv_aload_n hx hb dL_law_510 rfl (lv_at hl 3 rfl) ?_
  refine lv_iload_n hx hb dL_law_511 rfl (lv_at hl 0 rfl) ?_
  refine lv_iconst (v := 1) hx hb dL_law_512 (by decide) ?_
  refine lv_iadd hx hb dL_law_513 ?_
  refine lv_topi (fun x_106 ex_106 => ?_)
  obtain rfl : x_106 = (nI (i + 1)) := ex_106.trans (nI_add i 1)
  refine va_sld hx hb hX hbl hbA hS (vp_in_nI (by omega) (by omega)) dL_law_514 ?_
  refine lv_topi (fun x_107 ex_107 => ?_)
  obtain rfl : x_107 = (xs (i + 1)) := ex_107.trans (congrArg xs (nI_clamp (by omega)))
  obtain ⟨L, F, ty, ρ, ta, ou, so, ad, na, va, lc, dm, tg, pe, ml, bg, co, sp, nb0, nb1, nb2, pl, se, ke, wi, hs, mo, po, nu, pr, sq, xa, sa, n64, m64, ex, wh, sd, tk, hd, ak, ho, ot, sx, s0, s1, s2, ⟨hP, hD, hO, hW⟩, hL_h0, hT_h0, hFta, hFml, hDM, hSN, hFou, hn01, hn02, hn12, hU26, hU15, hBq⟩ := hM
  have hG := hGm
  obtain ⟨hq_130, hq_131, hq_132, hq_133, hq_134, hgO, hgA, hgB, hq_135⟩ := hW.sc hL_h0 hT_h0
  obtain ⟨v14_136, v15_137, v17_138, v18_139, v19_140, v20_141, v21_142, v22_143, v33_144, v52_145, v53_146, v54_147, hF_148, hq_149, hq_150, hq_151, hq_152, hq_153⟩ := hO.mod hL_h0 hT_h0
  obtain ⟨hi_154, ht_155⟩ := hW.f_ta hL_h0 hT_h0
  obtain ⟨hLs0, hTs0⟩ := hW.f_so hL_h0 hT_h0
  obtain ⟨hLd0, hTd0⟩ := hW.f_ad hL_h0 hT_h0
  obtain ⟨hLn0, hTn0⟩ := hW.f_na hL_h0 hT_h0
  obtain ⟨hLv0, hTv0⟩ := hW.f_va hL_h0 hT_h0
  have hO0 := hO
  obtain ⟨hi_156, r_108, ht_157⟩ := hW.f_lc hL_h0 hT_h0
  obtain ⟨hi_158, ht_159, hq_160⟩ := hW.txt hi_156 ht_157
  obtain ⟨hi_161, r_109, ht_162⟩ := hW.f_dm hL_h0 hT_h0
  obtain ⟨hi_163, ht_164, hq_165⟩ := hW.txt hi_161 ht_162
  obtain ⟨hi_166, r_110, ht_167⟩ := hW.f_pe hL_h0 hT_h0
  obtain ⟨hi_168, ht_169, hq_170⟩ := hW.txt hi_166 ht_167
  have hFc := pg_free hD hS hA
  refine va_calli (va_runV (As := [.int (xs (i + 1))]) (rest := []) ⟨hx, hb, hml, hown, hts⟩ (s_X15_octet_c l dC dI cs ty gm L H.size F h0 ρ ta ou so ad na va lc dm tg pe ml bg co sp nb0 nb1 nb2 pl se ke wi hs mo po nu pr sq xa sa n64 m64 ex wh sd tk hd ak ho ot sx s0 s1 s2 nf bd mm zo fm sn 1 gc gv ze zt go (xs (i + 1)) hW hL_h0 hT_h0 hFou) ⟨callB_of 1 hts (gi kt_1328) rfl rfl rfl (hts _ kt_669) (hts _ kt_1329) (by decide +kernel) ⟨Nat.le_of_ble_eq_true rfl, Nat.le_of_ble_eq_true rfl⟩, (hts _ kt_1330), (hts _ kt_1331)⟩ ⟨fun a U g mk q => ⟨q.1, PTm.calling q.2⟩, pg_recv hK hP hL_h0 hF_148 (q := (RX15, TX15, 59)) rfl, fun U hU hWm => ⟨rfl, PTm.mk hU hWm hP hK hD hE hO⟩⟩ rfl rfl hl.1 rfl (lv_room (Nat.le_of_ble_eq_true rfl)) dL_law_515 ⟨by show _ + 0 ≤ 600000; omega, by show _ + 0 ≤ 7302250; omega⟩) hS (fun q _ h => hFc q h) hFc (fun r_171 u t H1 locs ht hvm hw hB hz1 hk1 hS => ?_)
  obtain ⟨F2, hB1⟩ := hB
  obtain ⟨hP, hD, hO, hR⟩ := QTm.back hB1 ht hFc FR.refl (fun q h => h)
  have hC := hC.kept hBq hk1
  obtain ⟨hi_172, ht_173⟩ := hW.f_ml hL_h0 hT_h0
  have hR9 := hB1.2.2.2
  have hDM := DIRM.fr hDM hO0 hW hLn0 hTn0 hLv0 hTv0 hcn hR9 (hR9 so (by rw [hTs0]; simp)) (hR9 ad (by rw [hTd0]; simp)) (hR9 na (by rw [hTn0]; simp)) (hR9 va (by rw [hTv0]; simp)) (fun k hk => ⟨List.not_mem_nil, List.not_mem_nil⟩)
  have hSN9 := hSN.imp id (fun q => And.intro (q.1.fr hO0 hW hi_156 ht_157 hR9 (List.not_mem_nil)) (q.2.fr hO0 hW hi_161 ht_162 hR9 (List.not_mem_nil)))
  obtain ⟨hi_174, ht_175⟩ := hW.f_ou hL_h0 hT_h0
  have hM : PMl (dC, dI) cs A Bq h0 zt ze gt nf bd mm gm gl EX zo go fm sn LC DN gc gv H1 := ⟨L, F2, ty, ρ, ta, ou, so, ad, na, va, lc, dm, tg, pe, ml, bg, co, sp, nb0, nb1, nb2, pl, se, ke, wi, hs, mo, po, nu, pr, sq, xa, sa, n64, m64, ex, wh, sd, tk, hd, ak, ho, ot, sx, s0, s1, s2, ⟨hP, hD, hO, hW⟩, hL_h0, hT_h0, (hB1.2.2.2 ta (by rw [ht_155]; simp)).trans hFta, (hB1.2.2.2 ml (by rw [ht_173]; simp)).trans hFml, hDM, hSN9, (hB1.2.2.2 ou (by rw [ht_175]; simp)).trans hFou, hn01, hn02, hn12, hU26, hU15, hBq⟩
  have er := oct_same (x := (xs (i + 1))) hro hzo
  generalize H1 = H at hC hM hS ⊢
  refine lv_pop hx hb dL_law_518 rfl ?_
  refine lv_goto (tgt := 522) hx hb dL_law_519 (by decide) ?_
  refine W.widen (k := cc + 1) (n := ss + 5) (by omega) (by omega) ?_
  exact kk zt ze f gt n bb zm fL sA sB sC DX zo fo SD aS vS c9 u9 nf bd mm gm gl EX go fm sn LC DN gc gv _ _ _ (by omega) hcn (hrel) hlr hdr hro hsr hvn hce hC hM hS hl
