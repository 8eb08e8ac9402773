set_option maxHeartbeats 4000000 in
set_option maxRecDepth 100000 in
theorem law_loop {p : Program} {l : Launch} {e : Env} {s : State} {m : MethodId} {below : List Frame} {meth : Method} {c : Code} {A Bq : Nat → Prop} {dC : Nat → ClassId} {dI : Nat → Nat → Nat} {cs : Nat → ClassId} {b Ln : Nat} {xs : Nat → Int32} (C0 : LC p s m meth c A dC dI cs b Ln xs) {xq h0 : Nat} (hLn : Ln ≤ 384) : ∀ (f9 j zt ze : Nat) (f gt : Nat → Int32) (n : Nat) (bb : Int32) (zm : Nat) (fL sA sB sC : Nat → Int32) (DX : Nat → ETY) (zo : Nat) (fo : Nat → Int32) (SD : SDR) (aS vS : Int32) (c9 u9 : Nat) (nf bd mm : Nat) (gm : Nat → Nat → Nat) (gl : Nat → Int32) (EX : Nat → ETY) (go : Nat → Int32) (fm sn : Nat) (LC DN : List Nat) (gc gv : Nat), Ln - 6 * j < f9 → 6 * j ≤ Ln → zt ≤ 20 * j → ∀ (H : Heap) (locs : List Loc) (ls : Array Slot), REL f gt zt → LRL n bb zm fL sA sB sC nf bd mm gm gl → DREL DX EX ze → REL fo go zo → SRL SD aS vS fm sn LC DN → VNI EX ze → (c9 = gc ∧ u9 = gv) → PCl (dC, dI) cs A Bq xq zt ze f n bb zm fL sA sB sC DX zo fo SD aS vS c9 u9 H → PMl (dC, dI) cs A Bq h0 zt ze gt nf bd mm gm gl EX zo go fm sn LC DN gc gv H → va_S A s.heap H locs → lv_has ls 4 [(3, .int (nI (6 * j))), (2, .ref h0), (1, .ref xq), (0, .ref b)] → W p l e room_1 s m #[Value.ref b] below meth c H locs (579 + j) (138257 + 5 * j) (lw_Z below #[Value.ref b] s) (F0 m 18 ls []) := by
  obtain ⟨hx, hb, hr, hml, hown, hts, hX, hbl, hbA, hlocks, hE, hGc, hGm, hK, hA, hAs⟩ := id C0
  intro f9
  induction f9 with
  | zero => intro j zt ze f gt n bb zm fL sA sB sC DX zo fo SD aS vS c9 u9 nf bd mm gm gl EX go fm sn LC DN gc gv h; exact absurd h (Nat.not_lt_zero _)
  | succ f9 ih =>
    intro j zt ze f gt n bb zm fL sA sB sC DX zo fo SD aS vS c9 u9 nf bd mm gm gl EX go fm sn LC DN gc gv hf hj hzt H locs ls hrel hlr hdr hro hsr hvn hce hC hM hS hl
    refine lv_iload_n hx hb dL_law_18 rfl (lv_at hl 0 rfl) ?_
    refine lv_aload_n hx hb dL_law_19 rfl (lv_at hl 3 rfl) ?_
    refine va_slen hx hb hX hbl hbA hS dL_law_20 ?_
    refine W.eq (g2 := F0 m 21 ls [.int (nI Ln), .int (nI (6 * j))]) rfl ?_
    refine lv_bipush (v := 6) hx hb dL_law_21 (by decide) ?_
    refine lv_isub hx hb dL_law_23 ?_
    refine lv_topi (fun x_1 ex9 => ?_)
    refine lv_icmp_gt (tgt := 528) hx hb dL_law_24 (by decide) (fun c_2 => ?_) (fun c_2 => ?_)
    ·
      refine lv_iconst (v := 1) hx hb dL_law_528 (by decide) ?_
      refine va_forget (fun q hq => hAs _ (hS.2.2 q hq)) ?_
      refine W.widen (k := 600000) (n := 7302250) (by omega) (by omega) ?_
      exact lw_ret hx hb hr hlocks dL_law_529
    ·
      have hi : 6 * j + 6 ≤ Ln := by
        rcases Nat.lt_or_ge Ln 6 with q | q
        · have h1 : x_1 < 0 := by rw [ex9]; exact pk_sneg (b := 6) (by omega) q
          have h2 : ¬ nI (6 * j) < 0 := nI_pos (by omega)
          refine absurd (Int32.lt_iff_toInt_lt.mpr ?_) c_2
          have a1 := Int32.lt_iff_toInt_lt.mp h1
          have a2 : ¬ (nI (6 * j)).toInt < (0 : Int32).toInt := fun h => h2 (Int32.lt_iff_toInt_lt.mpr h)
          omega
        · have h1 : x_1 = nI (Ln - 6) := by rw [ex9]; exact pk_sub (b := 6) q
          rw [h1] at c_2
          have h2 : ¬ Ln - 6 < 6 * j := fun h => c_2 ((nI_ltI (by omega) (by omega)).mpr h)
          omega
      refine lv_aload_n hx hb dL_law_27 rfl (lv_at hl 3 rfl) ?_
      refine lv_iload_n hx hb dL_law_28 rfl (lv_at hl 0 rfl) ?_
      refine va_sld hx hb hX hbl hbA hS (vp_in_nI (by omega) (by omega)) dL_law_29 ?_
      refine lv_topi (fun x_3 ex_3 => ?_)
      obtain rfl : x_3 = (xs (6 * j)) := ex_3.trans (congrArg xs (nI_clamp (by omega)))
      refine lv_bipush (v := 15) hx hb dL_law_30 (by decide) ?_
      refine lv_iand hx hb dL_law_32 ?_
      obtain ⟨j9, hj9, ej9⟩ := pk_andE (xs (6 * j)) (m := 15) 4 (by decide)
      refine lv_topi (fun x_4 ex_4 => ?_)
      obtain rfl : x_4 = nI j9 := ex_4.trans ej9
      have kk : ∀ (z2 c2 : Nat) (f2 g2 : Nat → Int32) (n : Nat) (bb : Int32) (zm : Nat) (fL sA sB sC : Nat → Int32) (DX : Nat → ETY) (zo : Nat) (fo : Nat → Int32) (SD : SDR) (aS vS : Int32) (c9 u9 : Nat) (nf bd mm : Nat) (gm : Nat → Nat → Nat) (gl : Nat → Int32) (EX : Nat → ETY) (go : Nat → Int32) (fm sn : Nat) (LC DN : List Nat) (gc gv : Nat) (H : Heap) (locs : List Loc) (ls : Array Slot), z2 ≤ zt + 20 → c2 ≤ 40 → REL f2 g2 z2 → LRL n bb zm fL sA sB sC nf bd mm gm gl → DREL DX EX c2 → REL fo go zo → SRL SD aS vS fm sn LC DN → VNI EX c2 → (c9 = gc ∧ u9 = gv) → PCl (dC, dI) cs A Bq xq z2 c2 f2 n bb zm fL sA sB sC DX zo fo SD aS vS c9 u9 H → PMl (dC, dI) cs A Bq h0 z2 c2 g2 nf bd mm gm gl EX zo go fm sn LC DN gc gv H → va_S A s.heap H locs → lv_has ls 4 [(3, .int (nI (6 * j))), (2, .ref h0), (1, .ref xq), (0, .ref b)] → W p l e room_1 s m #[Value.ref b] below meth c H locs (579 + j + 1) (138257 + 5 * j + 5) (lw_Z below #[Value.ref b] s) (F0 m 522 ls []) := by
        intro z2 c2 f2 g2 n bb zm fL sA sB sC DX zo fo SD aS vS c9 u9 nf bd mm gm gl EX go fm sn LC DN gc gv H locs ls hz2 hc2 hrel hlr hdr hro hsr hvn hce hC hM hS hl
        obtain ⟨x_501, ex_501⟩ : ∃ y : Int32, y = (nI (6 * j)) + Int32.ofInt 6 := ⟨_, rfl⟩
        refine lv_iinc (v := x_501) (lv' := [(3, .int x_501), (2, .ref h0), (1, .ref xq), (0, .ref b)]) hx hb dL_law_522 hl (k := 0) rfl (ex_501.symm) (by decide) rfl (fun ls hl => ?_)
        refine lv_goto (tgt := 18) hx hb dL_law_525 (by decide) ?_
        refine W.widen (k := 579 + (j + 1)) (n := 138257 + 5 * (j + 1)) (by omega) (by omega) ?_
        have e6 : nI (6 * (j + 1)) = x_501 := by rw [ex_501, show Int32.ofInt 6 = nI 6 by decide, nI_add, show 6 * (j + 1) = 6 * j + 6 by omega]
        exact ih (j + 1) z2 c2 f2 g2 n bb zm fL sA sB sC DX zo fo SD aS vS c9 u9 nf bd mm gm gl EX go fm sn LC DN gc gv (by omega) (by omega) (by omega) H locs ls hrel hlr hdr hro hsr hvn hce hC hM hS (by rw [e6]; exact lv_sub hl [0, 1, 2, 3] rfl)
      rcases (show j9 = 0 ∨ j9 = 1 ∨ j9 = 2 ∨ j9 = 3 ∨ j9 = 4 ∨ j9 = 5 ∨ j9 = 6 ∨ j9 = 7 ∨ j9 = 8 ∨ j9 = 9 ∨ j9 = 10 ∨ j9 = 11 ∨ j9 = 12 ∨ j9 = 13 ∨ j9 = 14 ∨ j9 = 15 by omega) with rfl | rfl | rfl | rfl | rfl | rfl | rfl | rfl | rfl | rfl | rfl | rfl | rfl | rfl | rfl | rfl
      ·
        refine lv_tableIn (off := 79) (tgt := 112) hx hb dL_law_33 (by decide) (by decide) (by decide) (by decide) ?_
        exact law_0 C0 hi hLn (by omega) (by omega) (by omega) hrel hlr hdr hro hsr hvn hce hC hM hS (lv_sub hl [0, 1, 2, 3] rfl) kk
      ·
        refine lv_tableIn (off := 142) (tgt := 175) hx hb dL_law_33 (by decide) (by decide) (by decide) (by decide) ?_
        exact law_1 C0 hi hLn (by omega) (by omega) (by omega) hrel hlr hdr hro hsr hvn hce hC hM hS (lv_sub hl [0, 1, 2, 3] rfl) kk
      ·
        refine lv_tableIn (off := 165) (tgt := 198) hx hb dL_law_33 (by decide) (by decide) (by decide) (by decide) ?_
        exact law_2 C0 hi hLn (by omega) (by omega) (by omega) hrel hlr hdr hro hsr hvn hce hC hM hS (lv_sub hl [0, 1, 2, 3] rfl) kk
      ·
        refine lv_tableIn (off := 198) (tgt := 231) hx hb dL_law_33 (by decide) (by decide) (by decide) (by decide) ?_
        exact law_3 C0 hi hLn (by omega) (by omega) (by omega) hrel hlr hdr hro hsr hvn hce hC hM hS (lv_sub hl [0, 1, 2, 3] rfl) kk
      ·
        refine lv_tableIn (off := 211) (tgt := 244) hx hb dL_law_33 (by decide) (by decide) (by decide) (by decide) ?_
        exact law_4 C0 hi hLn (by omega) (by omega) (by omega) hrel hlr hdr hro hsr hvn hce hC hM hS (lv_sub hl [0, 1, 2, 3] rfl) kk
      ·
        refine lv_tableIn (off := 234) (tgt := 267) hx hb dL_law_33 (by decide) (by decide) (by decide) (by decide) ?_
        exact law_5 C0 hi hLn (by omega) (by omega) (by omega) hrel hlr hdr hro hsr hvn hce hC hM hS (lv_sub hl [0, 1, 2, 3] rfl) kk
      ·
        refine lv_tableIn (off := 247) (tgt := 280) hx hb dL_law_33 (by decide) (by decide) (by decide) (by decide) ?_
        exact law_6 C0 hi hLn (by omega) (by omega) (by omega) hrel hlr hdr hro hsr hvn hce hC hM hS (lv_sub hl [0, 1, 2, 3] rfl) kk
      ·
        refine lv_tableIn (off := 270) (tgt := 303) hx hb dL_law_33 (by decide) (by decide) (by decide) (by decide) ?_
        exact law_7 C0 hi hLn (by omega) (by omega) (by omega) hrel hlr hdr hro hsr hvn hce hC hM hS (lv_sub hl [0, 1, 2, 3] rfl) kk
      ·
        refine lv_tableIn (off := 283) (tgt := 316) hx hb dL_law_33 (by decide) (by decide) (by decide) (by decide) ?_
        exact law_8 C0 hi hLn (by omega) (by omega) (by omega) hrel hlr hdr hro hsr hvn hce hC hM hS (lv_sub hl [0, 1, 2, 3] rfl) kk
      ·
        refine lv_tableIn (off := 296) (tgt := 329) hx hb dL_law_33 (by decide) (by decide) (by decide) (by decide) ?_
        exact law_9 C0 hi hLn (by omega) (by omega) (by omega) hrel hlr hdr hro hsr hvn hce hC hM hS (lv_sub hl [0, 1, 2, 3] rfl) kk
      ·
        refine lv_tableIn (off := 329) (tgt := 362) hx hb dL_law_33 (by decide) (by decide) (by decide) (by decide) ?_
        exact law_10 C0 hi hLn (by omega) (by omega) (by omega) hrel hlr hdr hro hsr hvn hce hC hM hS (lv_sub hl [0, 1, 2, 3] rfl) kk
      ·
        refine lv_tableIn (off := 368) (tgt := 401) hx hb dL_law_33 (by decide) (by decide) (by decide) (by decide) ?_
        exact law_11 C0 hi hLn (by omega) (by omega) (by omega) hrel hlr hdr hro hsr hvn hce hC hM hS (lv_sub hl [0, 1, 2, 3] rfl) kk
      ·
        refine lv_tableIn (off := 417) (tgt := 450) hx hb dL_law_33 (by decide) (by decide) (by decide) (by decide) ?_
        exact law_12 C0 hi hLn (by omega) (by omega) (by omega) hrel hlr hdr hro hsr hvn hce hC hM hS (lv_sub hl [0, 1, 2, 3] rfl) kk
      ·
        refine lv_tableIn (off := 430) (tgt := 463) hx hb dL_law_33 (by decide) (by decide) (by decide) (by decide) ?_
        exact law_13 C0 hi hLn (by omega) (by omega) (by omega) hrel hlr hdr hro hsr hvn hce hC hM hS (lv_sub hl [0, 1, 2, 3] rfl) kk
      ·
        refine lv_tableIn (off := 453) (tgt := 486) hx hb dL_law_33 (by decide) (by decide) (by decide) (by decide) ?_
        exact law_14 C0 hi hLn (by omega) (by omega) (by omega) hrel hlr hdr hro hsr hvn hce hC hM hS (lv_sub hl [0, 1, 2, 3] rfl) kk
      ·
        refine lv_tableIn (off := 466) (tgt := 499) hx hb dL_law_33 (by decide) (by decide) (by decide) (by decide) ?_
        exact law_15 C0 hi hLn (by omega) (by omega) (by omega) hrel hlr hdr hro hsr hvn hce hC hM hS (lv_sub hl [0, 1, 2, 3] rfl) kk
