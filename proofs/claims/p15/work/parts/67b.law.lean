theorem kt_1223 : Cond.code yX11_entry cX11_entry 4 (some .int) ∈ tb := tb_at (i := 508) (by decide +kernel) (by decide +kernel)
theorem kt_1224 : Cond.methodLink RL 23 yX11_entry ∈ tb := tb_at (i := 505) (by decide +kernel) (by decide +kernel)
theorem kt_1225 : Cond.instanceMethod yX11_entry ∈ tb := tb_at (i := 506) (by decide +kernel) (by decide +kernel)
theorem kt_1226 : Cond.selects RX11 yX11_entry yX11_entry ∈ tb := tb_at (i := 507) (by decide +kernel) (by decide +kernel)
theorem kt_1227 : Cond.code yX15_entry cX15_entry 7 (some .int) ∈ tb := tb_at (i := 1481) (by decide +kernel) (by decide +kernel)
theorem kt_1228 : Cond.methodLink RL 27 yX15_entry ∈ tb := tb_at (i := 1478) (by decide +kernel) (by decide +kernel)
theorem kt_1229 : Cond.instanceMethod yX15_entry ∈ tb := tb_at (i := 1479) (by decide +kernel) (by decide +kernel)
theorem kt_1230 : Cond.selects RX15 yX15_entry yX15_entry ∈ tb := tb_at (i := 1480) (by decide +kernel) (by decide +kernel)
theorem kt_1231 : Cond.code yX11_forget cX11_forget 1 (some .int) ∈ tb := tb_at (i := 555) (by decide +kernel) (by decide +kernel)
theorem kt_1232 : Cond.methodLink RL 28 yX11_forget ∈ tb := tb_at (i := 552) (by decide +kernel) (by decide +kernel)
theorem kt_1233 : Cond.instanceMethod yX11_forget ∈ tb := tb_at (i := 553) (by decide +kernel) (by decide +kernel)
theorem kt_1234 : Cond.selects RX11 yX11_forget yX11_forget ∈ tb := tb_at (i := 554) (by decide +kernel) (by decide +kernel)
theorem kt_1235 : Cond.code yX15_forget cX15_forget 2 (some .int) ∈ tb := tb_at (i := 1510) (by decide +kernel) (by decide +kernel)
theorem kt_1236 : Cond.methodLink RL 32 yX15_forget ∈ tb := tb_at (i := 1507) (by decide +kernel) (by decide +kernel)
theorem kt_1237 : Cond.instanceMethod yX15_forget ∈ tb := tb_at (i := 1508) (by decide +kernel) (by decide +kernel)
theorem kt_1238 : Cond.selects RX15 yX15_forget yX15_forget ∈ tb := tb_at (i := 1509) (by decide +kernel) (by decide +kernel)
set_option maxHeartbeats 4000000 in
set_option maxRecDepth 100000 in
theorem law_2 {p : Program} {l : Launch} {e : Env} {s : State} {m : MethodId} {below : List Frame} {meth : Method} {c : Code} {A Bq : Nat → Prop} {dC : Nat → ClassId} {dI : Nat → Nat → Nat} {cs : Nat → ClassId} {b Ln : Nat} {xs : Nat → Int32} (C0 : LC p s m meth c A dC dI cs b Ln xs) {xq h0 i zt ze cc ss : Nat} {f gt : Nat → Int32} {n : Nat} {bb : Int32} {zm : Nat} {fL sA sB sC : Nat → Int32} {DX : Nat → ETY} {zo : Nat} {fo : Nat → Int32} {SD : SDR} {aS vS : Int32} {c9 u9 : Nat} {nf bd mm : Nat} {gm : Nat → Nat → Nat} {gl : Nat → Int32} {EX : Nat → ETY} {go : Nat → Int32} {fm sn : Nat} {LC DN : List Nat} {gc gv : Nat} (hi : i + 6 ≤ Ln) (hLn : Ln ≤ 384) (hnz : zt ≤ 1280) (hcc : cc + 1 ≤ 600000) (hss : ss + 5 ≤ 7302250) {H : Heap} {locs : List Loc} {ls : Array Slot} (hrel : REL f gt zt) (hlr : LRL n bb zm fL sA sB sC nf bd mm gm gl) (hdr : DREL DX EX ze) (hro : REL fo go zo) (hsr : SRL SD aS vS fm sn LC DN) (hvn : VNI EX ze) (hce : c9 = gc ∧ u9 = gv) (hC : PCl (dC, dI) cs A Bq xq zt ze f n bb zm fL sA sB sC DX zo fo SD aS vS c9 u9 H) (hM : PMl (dC, dI) cs A Bq h0 zt ze gt nf bd mm gm gl EX zo go fm sn LC DN gc gv H) (hS : va_S A s.heap H locs) (hl : lv_has ls 4 [(3, .int (nI i)), (2, .ref h0), (1, .ref xq), (0, .ref b)]) (kk : ∀ (z2 c2 : Nat) (f2 g2 : Nat → Int32) (n : Nat) (bb : Int32) (zm : Nat) (fL sA sB sC : Nat → Int32) (DX : Nat → ETY) (zo : Nat) (fo : Nat → Int32) (SD : SDR) (aS vS : Int32) (c9 u9 : Nat) (nf bd mm : Nat) (gm : Nat → Nat → Nat) (gl : Nat → Int32) (EX : Nat → ETY) (go : Nat → Int32) (fm sn : Nat) (LC DN : List Nat) (gc gv : Nat) (H : Heap) (locs : List Loc) (ls : Array Slot), z2 ≤ zt + 20 → c2 ≤ 40 → REL f2 g2 z2 → LRL n bb zm fL sA sB sC nf bd mm gm gl → DREL DX EX c2 → REL fo go zo → SRL SD aS vS fm sn LC DN → VNI EX c2 → (c9 = gc ∧ u9 = gv) → PCl (dC, dI) cs A Bq xq z2 c2 f2 n bb zm fL sA sB sC DX zo fo SD aS vS c9 u9 H → PMl (dC, dI) cs A Bq h0 z2 c2 g2 nf bd mm gm gl EX zo go fm sn LC DN gc gv H → va_S A s.heap H locs → lv_has ls 4 [(3, .int (nI i)), (2, .ref h0), (1, .ref xq), (0, .ref b)] → W p l e room_1 s m #[Value.ref b] below meth c H locs (cc + 1) (ss + 5) (lw_Z below #[Value.ref b] s) (F0 m 522 ls [])) : W p l e room_1 s m #[Value.ref b] below meth c H locs cc ss (lw_Z below #[Value.ref b] s) (F0 m 198 ls []) := by
  obtain ⟨hx, hb, hr, hml, hown, hts, hX, hbl, hbA, hlocks, hE, hGc, hGm, hK, hA, hAs⟩ := id C0
  refine lv_aload_n hx hb dL_law_198 rfl (lv_at hl 2 rfl) ?_
  refine lv_aload_n hx hb dL_law_199 rfl (lv_at hl 3 rfl) ?_
  refine lv_iload_n hx hb dL_law_200 rfl (lv_at hl 0 rfl) ?_
  refine lv_iconst (v := 1) hx hb dL_law_201 (by decide) ?_
  refine lv_iadd hx hb dL_law_202 ?_
  refine lv_topi (fun x_1 ex_1 => ?_)
  obtain rfl : x_1 = (nI (i + 1)) := ex_1.trans (nI_add i 1)
  refine va_sld hx hb hX hbl hbA hS (vp_in_nI (by omega) (by omega)) dL_law_203 ?_
  refine lv_topi (fun x_2 ex_2 => ?_)
  obtain rfl : x_2 = (xs (i + 1)) := ex_2.trans (congrArg xs (nI_clamp (by omega)))
  refine lv_aload_n hx hb dL_law_204 rfl (lv_at hl 3 rfl) ?_
  refine lv_iload_n hx hb dL_law_205 rfl (lv_at hl 0 rfl) ?_
  refine lv_iconst (v := 2) hx hb dL_law_206 (by decide) ?_
  refine lv_iadd hx hb dL_law_207 ?_
  refine lv_topi (fun x_3 ex_3 => ?_)
  obtain rfl : x_3 = (nI (i + 2)) := ex_3.trans (nI_add i 2)
  refine va_sld hx hb hX hbl hbA hS (vp_in_nI (by omega) (by omega)) dL_law_208 ?_
  refine lv_topi (fun x_4 ex_4 => ?_)
  obtain rfl : x_4 = (xs (i + 2)) := ex_4.trans (congrArg xs (nI_clamp (by omega)))
  obtain ⟨L, F, ty, ρ, ta, ou, di, ea, ck, sl, po, hs, rt, ro, ca0, ca1, ca2, ca3, cnm, cte, ⟨hP, hD, hO, hW⟩, hL_xq, hT_xq, hTta, hFt, hFr, hzt, hFd, hcn, hLT, hDI, hTck, hFk, hSD, hCol, hTou, hFou, hFro, hzo, hBq⟩ := hC
  have hG := hGc
  have hTS : TS F ta zt := ⟨hzt, rt, hFt⟩
  obtain ⟨hi_5, ⟨r_6, ht_7⟩, hi_8, ⟨r_9, ht_10⟩, hi_11, ht_12, hi_13, ⟨w0_14, w1_15, w2_16, w3_17, nm_18, te_19, ht_20⟩, hi_21, ⟨l1_22, lx_23, ly0_24, ly1_25, ly2_26, k1_27, kx_28, ky0_29, ky1_30, ky2_31, w0_32, w1_33, w2_34, w3_35, w4_36, w5_37, w6_38, w7_39, w8_40, tk_41, h1_42, hx_43, hy_44, hw_45, pw_46, px_47, py_48, pz_49, pu_50, ht_51⟩, hi_52, ⟨w0_53, w1_54, rc_55, rx_56, ry0_57, ry1_58, ry2_59, ht_60⟩, hi_61, ⟨hx_62, hy_63, hw_64, ht_65⟩⟩ := hW.gate hL_xq hT_xq
  obtain ⟨le_66, sp_67, μ_68, ν_69, hF_70, hq_71, hq_72, hq_73, hq_74, hq_75, hq_76⟩ := hO.gate hL_xq hT_xq
  obtain ⟨x_77, y0_78, y1_79, y2_80, ht_81⟩ := id hq_72
  obtain ⟨x_82, y0_83, y1_84, y2_85, ht_86⟩ := id hq_74
  obtain ⟨hiR, htR, -⟩ := hW.bytes hi_5 hTta
  obtain ⟨hi_87, ht_88⟩ := hW.dir hi_11 ht_12
  have hO0 := hO
  obtain ⟨hi_89, ht_90, hi_91, ⟨r_92, ht_93⟩, hi_94, ⟨r_95, ht_96⟩, hi_97, ⟨r_98, ht_99⟩, hi_100, ⟨r_101, ht_102⟩, hi_103, ht_104, hi_105, ht_106⟩ := hW.chk hi_13 hTck
  have ht_93 : ty ca0 = (0, ρ + 36, [r_92, 91]) := ht_93
  have ht_96 : ty ca1 = (0, ρ + 37, [r_95, 30]) := ht_96
  have ht_99 : ty ca2 = (0, ρ + 38, [r_98, 60]) := ht_99
  have ht_102 : ty ca3 = (0, ρ + 39, [r_101, 15]) := ht_102
  have ht_104 : ty cnm = (20, ρ + 40, [12]) := ht_104
  have ht_106 : ty cte = (22, ρ + 41, [11]) := ht_106
  obtain ⟨hiO, htO, -⟩ := hW.bytes hi_8 hTou
  have hFc := pg_free hD hS hA
  refine va_calli (va_runV (As := [.int (xs (i + 1)), .int (xs (i + 2))]) (rest := []) ⟨hx, hb, hml, hown, hts⟩ (s_X11_entry_d l dC dI cs ty L H.size F xq ρ ta ou di ea ck sl po hs zt rt ze f DX (xs (i + 1)) (xs (i + 2)) hW hL_xq hT_xq hi_5 hTta hFt hFr hzt hFd hcn hDI) ⟨callB_of 2 hts (gi kt_1223) rfl rfl rfl (hts _ kt_664) (hts _ kt_1224) (by decide +kernel) ⟨Nat.le_of_ble_eq_true rfl, Nat.le_of_ble_eq_true rfl⟩, (hts _ kt_1225), (hts _ kt_1226)⟩ ⟨fun a U g mk q => ⟨q.1, PT.calling q.2⟩, pg_recv hK hP hL_xq hF_70 (q := (RX11, TX11, 9)) rfl, fun U hU hWm => ⟨rfl, PT.mk hU hWm hP hK hD hE hO⟩⟩ rfl rfl hl.1 rfl (lv_room (Nat.le_of_ble_eq_true rfl)) dL_law_209 ⟨by show _ + 0 ≤ 600000; omega, by show _ + 0 ≤ 7302250; omega⟩) hS (fun q _ h => hFc q h) hFc (fun r_107 c2 t H1 locs ht hvm hw hB hz1 hk1 hS => ?_)
  obtain ⟨F2, hB1, hf0, hf1, hf2⟩ := hB
  obtain ⟨hP, hD, hO, hR⟩ := QT.back hB1 ht hFc FR.refl (fun q h => h)
  have hM := hM.kept hBq hk1
  have hLT := hLT.fr hW hT_xq hB1.2.2.2 (fun q h => by simp only [List.mem_cons, List.not_mem_nil, or_false] at h; omega)
  have hE1 : ENT ze c2 (xs (i + 1)) f zt r_107 := hw
  have hcn2 : c2 ≤ 40 := by rcases hE1 with ⟨a1, a2, -⟩ | ⟨a1, -, a2, -⟩ | ⟨a1, -, a2, -⟩ <;> omega
  obtain ⟨f9, hFr9⟩ := hO.ints hiR htR
  have hCol9 := hCol
  obtain ⟨dC9, hDI, hEX⟩ := hf2
  have hcc9 : c2 ≤ ze + 1 := by rcases hE1 with ⟨a1, a2, -⟩ | ⟨a1, -, a2, -⟩ | ⟨a1, -, a2, -⟩ <;> omega
  have hFk9 := (hB1.2.2.2 ck (by rw [hTck]; simp; omega)).trans hFk
  have hSD9 := hSD.imp id (fun q => q.fr hO0 hW hi_91 ht_93 hi_94 ht_96 hi_97 ht_99 hi_100 ht_102 hB1.2.2.2 (fun k9 h1 h2 => by simp only [List.mem_cons, List.not_mem_nil, or_false]; omega))
  have hC : PCl (dC, dI) cs A Bq xq 0 c2 f9 n bb zm fL sA sB sC (fun k => if k = ze then dC9 else DX k) zo fo SD aS vS c9 u9 H1 := ⟨L, F2, ty, ρ, ta, ou, di, ea, ck, sl, po, hs, rt, ro, ca0, ca1, ca2, ca3, cnm, cte, ⟨hP, hD, hO, hW⟩, hL_xq, hT_xq, hTta, hf0, hFr9, (Nat.zero_le _), hf1, hcn2, hLT, hDI, hTck, hFk9, hSD9, hCol9, hTou, (hB1.2.2.2 ou (by rw [hTou]; simp; omega)).trans hFou, (hB1.2.2.2 ro (by rw [htO]; simp; omega)).trans hFro, hzo, hBq⟩
  generalize H1 = H at hC hM hS ⊢
  refine lv_pop hx hb dL_law_212 rfl ?_
  refine lv_aload_n hx hb dL_law_213 rfl (lv_at hl 1 rfl) ?_
  refine lv_aload_n hx hb dL_law_214 rfl (lv_at hl 3 rfl) ?_
  refine lv_iload_n hx hb dL_law_215 rfl (lv_at hl 0 rfl) ?_
  refine lv_iconst (v := 1) hx hb dL_law_216 (by decide) ?_
  refine lv_iadd hx hb dL_law_217 ?_
  refine lv_topi (fun x_108 ex_108 => ?_)
  obtain rfl : x_108 = (nI (i + 1)) := ex_108.trans (nI_add i 1)
  refine va_sld hx hb hX hbl hbA hS (vp_in_nI (by omega) (by omega)) dL_law_218 ?_
  refine lv_topi (fun x_109 ex_109 => ?_)
  obtain rfl : x_109 = (xs (i + 1)) := ex_109.trans (congrArg xs (nI_clamp (by omega)))
  refine lv_aload_n hx hb dL_law_219 rfl (lv_at hl 3 rfl) ?_
  refine lv_iload_n hx hb dL_law_220 rfl (lv_at hl 0 rfl) ?_
  refine lv_iconst (v := 2) hx hb dL_law_221 (by decide) ?_
  refine lv_iadd hx hb dL_law_222 ?_
  refine lv_topi (fun x_110 ex_110 => ?_)
  obtain rfl : x_110 = (nI (i + 2)) := ex_110.trans (nI_add i 2)
  refine va_sld hx hb hX hbl hbA hS (vp_in_nI (by omega) (by omega)) dL_law_223 ?_
  refine lv_topi (fun x_111 ex_111 => ?_)
  obtain rfl : x_111 = (xs (i + 2)) := ex_111.trans (congrArg xs (nI_clamp (by omega)))
  obtain ⟨L, F, ty, ρ, ta, ou, so, ad, na, va, lc, dm, tg, pe, ml, bg, co, sp, nb0, nb1, nb2, pl, se, ke, wi, hs, mo, po, nu, pr, sq, xa, sa, n64, m64, ex, wh, sd, tk, hd, ak, ho, ot, sx, s0, s1, s2, ⟨hP, hD, hO, hW⟩, hL_h0, hT_h0, hFta, hFml, hDM, hSN, hFou, hn01, hn02, hn12, hU26, hU15, hBq⟩ := hM
  have hG := hGm
  obtain ⟨hq_134, hq_135, hq_136, hq_137, hq_138, hgO, hgA, hgB, hq_139⟩ := hW.sc hL_h0 hT_h0
  obtain ⟨v14_140, v15_141, v17_142, v18_143, v19_144, v20_145, v21_146, v22_147, v33_148, v52_149, v53_150, v54_151, hF_152, hq_153, hq_154, hq_155, hq_156, hq_157⟩ := hO.mod hL_h0 hT_h0
  obtain ⟨hi_158, ht_159⟩ := hW.f_ta hL_h0 hT_h0
  obtain ⟨hLs0, hTs0⟩ := hW.f_so hL_h0 hT_h0
  obtain ⟨hLd0, hTd0⟩ := hW.f_ad hL_h0 hT_h0
  obtain ⟨hLn0, hTn0⟩ := hW.f_na hL_h0 hT_h0
  obtain ⟨hLv0, hTv0⟩ := hW.f_va hL_h0 hT_h0
  have hO0 := hO
  obtain ⟨hi_160, r_112, ht_161⟩ := hW.f_lc hL_h0 hT_h0
  obtain ⟨hi_162, ht_163, hq_164⟩ := hW.txt hi_160 ht_161
  obtain ⟨hi_165, r_113, ht_166⟩ := hW.f_dm hL_h0 hT_h0
  obtain ⟨hi_167, ht_168, hq_169⟩ := hW.txt hi_165 ht_166
  obtain ⟨hi_170, r_114, ht_171⟩ := hW.f_pe hL_h0 hT_h0
  obtain ⟨hi_172, ht_173, hq_174⟩ := hW.txt hi_170 ht_171
  have hFc := pg_free hD hS hA
  refine va_calli (va_runV (As := [.int (xs (i + 1)), .int (xs (i + 2))]) (rest := []) ⟨hx, hb, hml, hown, hts⟩ (s_X15_entry_d l dC dI cs ty gm L H.size F h0 ρ ta ou so ad na va lc dm tg pe ml bg co sp nb0 nb1 nb2 pl se ke wi hs mo po nu pr sq xa sa n64 m64 ex wh sd tk hd ak ho ot sx s0 s1 s2 nf bd mm zo fm sn 1 gc gv ze zt (xs (i + 1)) (xs (i + 2)) gt EX hW hL_h0 hT_h0 hFta hDM) ⟨callB_of 2 hts (gi kt_1227) rfl rfl rfl (hts _ kt_669) (hts _ kt_1228) (by decide +kernel) ⟨Nat.le_of_ble_eq_true rfl, Nat.le_of_ble_eq_true rfl⟩, (hts _ kt_1229), (hts _ kt_1230)⟩ ⟨fun a U g mk q => ⟨q.1, PTm.calling q.2⟩, pg_recv hK hP hL_h0 hF_152 (q := (RX15, TX15, 59)) rfl, fun U hU hWm => ⟨rfl, PTm.mk hU hWm hP hK hD hE hO⟩⟩ rfl rfl hl.1 rfl (lv_room (Nat.le_of_ble_eq_true rfl)) dL_law_224 ⟨by show _ + 0 ≤ 600000; omega, by show _ + 0 ≤ 7302250; omega⟩) hS (fun q _ h => hFc q h) hFc (fun r_175 c3 t H1 locs ht hvm hw hB hz1 hk1 hS => ?_)
  obtain ⟨F2, ty9, hty9, hB1, hW9, hga0⟩ := hB
  subst hty9
  obtain ⟨hP, hD, hO, hR⟩ := QTm.back hB1 ht hFc FR.refl (fun q h => h)
  have hC := hC.kept hBq hk1
  obtain ⟨hi_176, ht_177⟩ := hW.f_ml hL_h0 hT_h0
  obtain ⟨dM9, hDM, hEY⟩ := hga0
  have hR9 := FR.unre hT_h0 rfl hB1.2.2.2
  have hSN9 := hSN.imp id (fun q => And.intro (q.1.fr hO0 hW hi_160 ht_161 hR9 (by simp only [List.mem_cons, List.not_mem_nil, or_false]; omega)) (q.2.fr hO0 hW hi_165 ht_166 hR9 (by simp only [List.mem_cons, List.not_mem_nil, or_false]; omega)))
  obtain ⟨hi_178, ht_179⟩ := hW.f_ou hL_h0 hT_h0
  have hM : PMl (dC, dI) cs A Bq h0 0 c3 gt nf bd mm gm gl (fun k => if k = ze then dM9 else EX k) zo go fm sn LC DN gc gv H1 := ⟨L, F2, _, ρ, ta, ou, so, ad, na, va, lc, dm, tg, pe, ml, bg, co, sp, nb0, nb1, nb2, pl, se, ke, wi, hs, mo, po, nu, pr, sq, xa, sa, n64, m64, ex, wh, sd, tk, hd, ak, ho, ot, sx, s0, s1, s2, ⟨hP, hD, hO, hW9⟩, hL_h0, rtf_self, (hB1.2.2.2 ta (by rw [rtf_tr hT_h0 (by decide) ht_159]; simp; omega)).trans hFta, (hB1.2.2.2 ml (by rw [rtf_tr hT_h0 (by decide) ht_177]; simp; omega)).trans hFml, hDM, hSN9, (hB1.2.2.2 ou (by rw [rtf_tr hT_h0 (by decide) ht_179]; simp; omega)).trans hFou, hn01, hn02, hn12, U_re hU26, U15_re hU15, hBq⟩
  have hE2 : ENT ze c3 (xs (i + 1)) gt zt r_175 := hw
  obtain ⟨e23, er⟩ := ENT.same (VAL_rel hrel) hE1 hE2
  subst e23
  generalize H1 = H at hC hM hS ⊢
  refine lv_pop hx hb dL_law_227 rfl ?_
  refine lv_goto (tgt := 522) hx hb dL_law_228 (by decide) ?_
  refine W.widen (k := cc + 1) (n := ss + 5) (by omega) (by omega) ?_
  exact kk 0 c2 f9 gt n bb zm fL sA sB sC (fun k => if k = ze then dC9 else DX k) zo fo SD aS vS c9 u9 nf bd mm gm gl (fun k => if k = ze then dM9 else EX k) go fm sn LC DN gc gv _ _ _ (by omega) hcn2 (REL.zero) hlr (hdr.add hcc9 hrel hEX hEY) hro hsr (hvn.add hE2 hEY) hce hC hM hS hl
set_option maxHeartbeats 4000000 in
set_option maxRecDepth 100000 in
theorem law_3 {p : Program} {l : Launch} {e : Env} {s : State} {m : MethodId} {below : List Frame} {meth : Method} {c : Code} {A Bq : Nat → Prop} {dC : Nat → ClassId} {dI : Nat → Nat → Nat} {cs : Nat → ClassId} {b Ln : Nat} {xs : Nat → Int32} (C0 : LC p s m meth c A dC dI cs b Ln xs) {xq h0 i zt ze cc ss : Nat} {f gt : Nat → Int32} {n : Nat} {bb : Int32} {zm : Nat} {fL sA sB sC : Nat → Int32} {DX : Nat → ETY} {zo : Nat} {fo : Nat → Int32} {SD : SDR} {aS vS : Int32} {c9 u9 : Nat} {nf bd mm : Nat} {gm : Nat → Nat → Nat} {gl : Nat → Int32} {EX : Nat → ETY} {go : Nat → Int32} {fm sn : Nat} {LC DN : List Nat} {gc gv : Nat} (hi : i + 6 ≤ Ln) (hLn : Ln ≤ 384) (hnz : zt ≤ 1280) (hcc : cc + 1 ≤ 600000) (hss : ss + 5 ≤ 7302250) {H : Heap} {locs : List Loc} {ls : Array Slot} (hrel : REL f gt zt) (hlr : LRL n bb zm fL sA sB sC nf bd mm gm gl) (hdr : DREL DX EX ze) (hro : REL fo go zo) (hsr : SRL SD aS vS fm sn LC DN) (hvn : VNI EX ze) (hce : c9 = gc ∧ u9 = gv) (hC : PCl (dC, dI) cs A Bq xq zt ze f n bb zm fL sA sB sC DX zo fo SD aS vS c9 u9 H) (hM : PMl (dC, dI) cs A Bq h0 zt ze gt nf bd mm gm gl EX zo go fm sn LC DN gc gv H) (hS : va_S A s.heap H locs) (hl : lv_has ls 4 [(3, .int (nI i)), (2, .ref h0), (1, .ref xq), (0, .ref b)]) (kk : ∀ (z2 c2 : Nat) (f2 g2 : Nat → Int32) (n : Nat) (bb : Int32) (zm : Nat) (fL sA sB sC : Nat → Int32) (DX : Nat → ETY) (zo : Nat) (fo : Nat → Int32) (SD : SDR) (aS vS : Int32) (c9 u9 : Nat) (nf bd mm : Nat) (gm : Nat → Nat → Nat) (gl : Nat → Int32) (EX : Nat → ETY) (go : Nat → Int32) (fm sn : Nat) (LC DN : List Nat) (gc gv : Nat) (H : Heap) (locs : List Loc) (ls : Array Slot), z2 ≤ zt + 20 → c2 ≤ 40 → REL f2 g2 z2 → LRL n bb zm fL sA sB sC nf bd mm gm gl → DREL DX EX c2 → REL fo go zo → SRL SD aS vS fm sn LC DN → VNI EX c2 → (c9 = gc ∧ u9 = gv) → PCl (dC, dI) cs A Bq xq z2 c2 f2 n bb zm fL sA sB sC DX zo fo SD aS vS c9 u9 H → PMl (dC, dI) cs A Bq h0 z2 c2 g2 nf bd mm gm gl EX zo go fm sn LC DN gc gv H → va_S A s.heap H locs → lv_has ls 4 [(3, .int (nI i)), (2, .ref h0), (1, .ref xq), (0, .ref b)] → W p l e room_1 s m #[Value.ref b] below meth c H locs (cc + 1) (ss + 5) (lw_Z below #[Value.ref b] s) (F0 m 522 ls [])) : W p l e room_1 s m #[Value.ref b] below meth c H locs cc ss (lw_Z below #[Value.ref b] s) (F0 m 231 ls []) := by
  obtain ⟨hx, hb, hr, hml, hown, hts, hX, hbl, hbA, hlocks, hE, hGc, hGm, hK, hA, hAs⟩ := id C0
  refine lv_aload_n hx hb dL_law_231 rfl (lv_at hl 2 rfl) ?_
  obtain ⟨L, F, ty, ρ, ta, ou, di, ea, ck, sl, po, hs, rt, ro, ca0, ca1, ca2, ca3, cnm, cte, ⟨hP, hD, hO, hW⟩, hL_xq, hT_xq, hTta, hFt, hFr, hzt, hFd, hcn, hLT, hDI, hTck, hFk, hSD, hCol, hTou, hFou, hFro, hzo, hBq⟩ := hC
  have hG := hGc
  have hTS : TS F ta zt := ⟨hzt, rt, hFt⟩
  obtain ⟨hi_1, ⟨r_2, ht_3⟩, hi_4, ⟨r_5, ht_6⟩, hi_7, ht_8, hi_9, ⟨w0_10, w1_11, w2_12, w3_13, nm_14, te_15, ht_16⟩, hi_17, ⟨l1_18, lx_19, ly0_20, ly1_21, ly2_22, k1_23, kx_24, ky0_25, ky1_26, ky2_27, w0_28, w1_29, w2_30, w3_31, w4_32, w5_33, w6_34, w7_35, w8_36, tk_37, h1_38, hx_39, hy_40, hw_41, pw_42, px_43, py_44, pz_45, pu_46, ht_47⟩, hi_48, ⟨w0_49, w1_50, rc_51, rx_52, ry0_53, ry1_54, ry2_55, ht_56⟩, hi_57, ⟨hx_58, hy_59, hw_60, ht_61⟩⟩ := hW.gate hL_xq hT_xq
  obtain ⟨le_62, sp_63, μ_64, ν_65, hF_66, hq_67, hq_68, hq_69, hq_70, hq_71, hq_72⟩ := hO.gate hL_xq hT_xq
  obtain ⟨x_73, y0_74, y1_75, y2_76, ht_77⟩ := id hq_68
  obtain ⟨x_78, y0_79, y1_80, y2_81, ht_82⟩ := id hq_70
  obtain ⟨hiR, htR, -⟩ := hW.bytes hi_1 hTta
  obtain ⟨hi_83, ht_84⟩ := hW.dir hi_7 ht_8
  have hO0 := hO
  obtain ⟨hi_85, ht_86, hi_87, ⟨r_88, ht_89⟩, hi_90, ⟨r_91, ht_92⟩, hi_93, ⟨r_94, ht_95⟩, hi_96, ⟨r_97, ht_98⟩, hi_99, ht_100, hi_101, ht_102⟩ := hW.chk hi_9 hTck
  have ht_89 : ty ca0 = (0, ρ + 36, [r_88, 91]) := ht_89
  have ht_92 : ty ca1 = (0, ρ + 37, [r_91, 30]) := ht_92
  have ht_95 : ty ca2 = (0, ρ + 38, [r_94, 60]) := ht_95
  have ht_98 : ty ca3 = (0, ρ + 39, [r_97, 15]) := ht_98
  have ht_100 : ty cnm = (20, ρ + 40, [12]) := ht_100
  have ht_102 : ty cte = (22, ρ + 41, [11]) := ht_102
  obtain ⟨hiO, htO, -⟩ := hW.bytes hi_4 hTou
  have hFc := pg_free hD hS hA
  refine va_calli (va_runV (As := []) (rest := []) ⟨hx, hb, hml, hown, hts⟩ (s_X11_forget_e l dC dI cs ty L H.size F xq ρ ta ou di ea ck sl po hs zt rt ze f hW hL_xq hT_xq hi_1 hTta hFd hcn) ⟨callB_of 0 hts (gi kt_1231) rfl rfl rfl (hts _ kt_664) (hts _ kt_1232) (by decide +kernel) ⟨Nat.le_of_ble_eq_true rfl, Nat.le_of_ble_eq_true rfl⟩, (hts _ kt_1233), (hts _ kt_1234)⟩ ⟨fun a U g mk q => ⟨q.1, PT.calling q.2⟩, pg_recv hK hP hL_xq hF_66 (q := (RX11, TX11, 9)) rfl, fun U hU hWm => ⟨rfl, PT.mk hU hWm hP hK hD hE hO⟩⟩ rfl rfl hl.1 rfl (lv_room (Nat.le_of_ble_eq_true rfl)) dL_law_232 ⟨by show _ + 0 ≤ 600000; omega, by show _ + 0 ≤ 7302250; omega⟩) hS (fun q _ h => hFc q h) hFc (fun r_103 u t H1 locs ht hvm hw hB hz1 hk1 hS => ?_)
  obtain ⟨F2, hB1, hf0⟩ := hB
  obtain ⟨hP, hD, hO, hR⟩ := QT.back hB1 ht hFc FR.refl (fun q h => h)
  have hM := hM.kept hBq hk1
  have hLT := hLT.fr hW hT_xq hB1.2.2.2 (fun q h => by simp only [List.mem_cons, List.not_mem_nil, or_false] at h; omega)
  have hCol9 := hCol
  have hDI : DIRC cs F2 ea 0 DX := DIRC.none hO hi_83 ht_84
  have hFk9 := (hB1.2.2.2 ck (by rw [hTck]; simp)).trans hFk
  have hSD9 := hSD.imp id (fun q => q.fr hO0 hW hi_87 ht_89 hi_90 ht_92 hi_93 ht_95 hi_96 ht_98 hB1.2.2.2 (fun k9 h1 h2 => by simp only [List.mem_cons, List.not_mem_nil, or_false]; omega))
  have hC : PCl (dC, dI) cs A Bq xq zt 0 f n bb zm fL sA sB sC DX zo fo SD aS vS c9 u9 H1 := ⟨L, F2, ty, ρ, ta, ou, di, ea, ck, sl, po, hs, rt, ro, ca0, ca1, ca2, ca3, cnm, cte, ⟨hP, hD, hO, hW⟩, hL_xq, hT_xq, hTta, (hB1.2.2.2 ta (by rw [hTta]; simp)).trans hFt, (hB1.2.2.2 rt (by rw [htR]; simp)).trans hFr, hzt, hf0, (Nat.zero_le _), hLT, hDI, hTck, hFk9, hSD9, hCol9, hTou, (hB1.2.2.2 ou (by rw [hTou]; simp)).trans hFou, (hB1.2.2.2 ro (by rw [htO]; simp)).trans hFro, hzo, hBq⟩
  generalize H1 = H at hC hM hS ⊢
  refine lv_pop hx hb dL_law_235 rfl ?_
  refine lv_aload_n hx hb dL_law_236 rfl (lv_at hl 1 rfl) ?_
  obtain ⟨L, F, ty, ρ, ta, ou, so, ad, na, va, lc, dm, tg, pe, ml, bg, co, sp, nb0, nb1, nb2, pl, se, ke, wi, hs, mo, po, nu, pr, sq, xa, sa, n64, m64, ex, wh, sd, tk, hd, ak, ho, ot, sx, s0, s1, s2, ⟨hP, hD, hO, hW⟩, hL_h0, hT_h0, hFta, hFml, hDM, hSN, hFou, hn01, hn02, hn12, hU26, hU15, hBq⟩ := hM
  have hG := hGm
  obtain ⟨hq_126, hq_127, hq_128, hq_129, hq_130, hgO, hgA, hgB, hq_131⟩ := hW.sc hL_h0 hT_h0
  obtain ⟨v14_132, v15_133, v17_134, v18_135, v19_136, v20_137, v21_138, v22_139, v33_140, v52_141, v53_142, v54_143, hF_144, hq_145, hq_146, hq_147, hq_148, hq_149⟩ := hO.mod hL_h0 hT_h0
  obtain ⟨hi_150, ht_151⟩ := hW.f_ta hL_h0 hT_h0
  obtain ⟨hLs0, hTs0⟩ := hW.f_so hL_h0 hT_h0
  obtain ⟨hLd0, hTd0⟩ := hW.f_ad hL_h0 hT_h0
  obtain ⟨hLn0, hTn0⟩ := hW.f_na hL_h0 hT_h0
  obtain ⟨hLv0, hTv0⟩ := hW.f_va hL_h0 hT_h0
  have hO0 := hO
  obtain ⟨hi_152, r_104, ht_153⟩ := hW.f_lc hL_h0 hT_h0
  obtain ⟨hi_154, ht_155, hq_156⟩ := hW.txt hi_152 ht_153
  obtain ⟨hi_157, r_105, ht_158⟩ := hW.f_dm hL_h0 hT_h0
  obtain ⟨hi_159, ht_160, hq_161⟩ := hW.txt hi_157 ht_158
  obtain ⟨hi_162, r_106, ht_163⟩ := hW.f_pe hL_h0 hT_h0
  obtain ⟨hi_164, ht_165, hq_166⟩ := hW.txt hi_162 ht_163
  have hFc := pg_free hD hS hA
  refine va_calli (va_runV (As := []) (rest := []) ⟨hx, hb, hml, hown, hts⟩ (s_X15_forget l dC dI cs ty gm L H.size F h0 ρ ta ou so ad na va lc dm tg pe ml bg co sp nb0 nb1 nb2 pl se ke wi hs mo po nu pr sq xa sa n64 m64 ex wh sd tk hd ak ho ot sx s0 s1 s2 nf bd mm zo fm sn 1 gc gv ze zt hW hL_h0 hT_h0) ⟨callB_of 0 hts (gi kt_1235) rfl rfl rfl (hts _ kt_669) (hts _ kt_1236) (by decide +kernel) ⟨Nat.le_of_ble_eq_true rfl, Nat.le_of_ble_eq_true rfl⟩, (hts _ kt_1237), (hts _ kt_1238)⟩ ⟨fun a U g mk q => ⟨q.1, PTm.calling q.2⟩, pg_recv hK hP hL_h0 hF_144 (q := (RX15, TX15, 59)) rfl, fun U hU hWm => ⟨rfl, PTm.mk hU hWm hP hK hD hE hO⟩⟩ rfl rfl hl.1 rfl (lv_room (Nat.le_of_ble_eq_true rfl)) dL_law_237 ⟨by show _ + 0 ≤ 600000; omega, by show _ + 0 ≤ 7302250; omega⟩) hS (fun q _ h => hFc q h) hFc (fun r_167 u t H1 locs ht hvm hw hB hz1 hk1 hS => ?_)
  obtain ⟨F2, ty9, hty9, hB1, hW9⟩ := hB
  subst hty9
  obtain ⟨hP, hD, hO, hR⟩ := QTm.back hB1 ht hFc FR.refl (fun q h => h)
  have hC := hC.kept hBq hk1
  obtain ⟨hi_168, ht_169⟩ := hW.f_ml hL_h0 hT_h0
  have hR9 := FR.unre hT_h0 rfl hB1.2.2.2
  have hDM := DIRM.fr hDM hO0 hW hLn0 hTn0 hLv0 hTv0 hcn hR9 (hR9 so (by rw [hTs0]; simp)) (hR9 ad (by rw [hTd0]; simp)) (hR9 na (by rw [hTn0]; simp)) (hR9 va (by rw [hTv0]; simp)) (fun k hk => ⟨by simp only [List.mem_cons, List.not_mem_nil, or_false]; omega, by simp only [List.mem_cons, List.not_mem_nil, or_false]; omega⟩)
  have hDM := hDM.less (Nat.zero_le ze)
  have hSN9 := hSN.imp id (fun q => And.intro (q.1.fr hO0 hW hi_152 ht_153 hR9 (by simp only [List.mem_cons, List.not_mem_nil, or_false]; omega)) (q.2.fr hO0 hW hi_157 ht_158 hR9 (by simp only [List.mem_cons, List.not_mem_nil, or_false]; omega)))
  obtain ⟨hi_170, ht_171⟩ := hW.f_ou hL_h0 hT_h0
  have hM : PMl (dC, dI) cs A Bq h0 zt 0 gt nf bd mm gm gl EX zo go fm sn LC DN gc gv H1 := ⟨L, F2, _, ρ, ta, ou, so, ad, na, va, lc, dm, tg, pe, ml, bg, co, sp, nb0, nb1, nb2, pl, se, ke, wi, hs, mo, po, nu, pr, sq, xa, sa, n64, m64, ex, wh, sd, tk, hd, ak, ho, ot, sx, s0, s1, s2, ⟨hP, hD, hO, hW9⟩, hL_h0, rtf_self, (hB1.2.2.2 ta (by rw [rtf_tr hT_h0 (by decide) ht_151]; simp)).trans hFta, (hB1.2.2.2 ml (by rw [rtf_tr hT_h0 (by decide) ht_169]; simp)).trans hFml, hDM, hSN9, (hB1.2.2.2 ou (by rw [rtf_tr hT_h0 (by decide) ht_171]; simp)).trans hFou, hn01, hn02, hn12, U_re hU26, U15_re hU15, hBq⟩
  generalize H1 = H at hC hM hS ⊢
  refine lv_pop hx hb dL_law_240 rfl ?_
  refine lv_goto (tgt := 522) hx hb dL_law_241 (by decide) ?_
  refine W.widen (k := cc + 1) (n := ss + 5) (by omega) (by omega) ?_
  exact kk zt 0 f gt n bb zm fL sA sB sC DX zo fo SD aS vS c9 u9 nf bd mm gm gl EX go fm sn LC DN gc gv _ _ _ (by omega) (Nat.zero_le _) (hrel) hlr DREL.zero hro hsr VNI.zero hce hC hM hS hl
