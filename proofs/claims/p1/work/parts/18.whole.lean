set_option maxHeartbeats 4000000 in
set_option maxRecDepth 100000 in
/-- THE LAW, from its entry -/
theorem whole_start {p : Program} {e : Env} {s : State} {m : MethodId} {below : List Frame} {meth : Method} {c : Code} (l : Launch) {b L : Nat} {xs : Nat → Int32} (hL : L ≤ 6) (C0 : lw_At p s m meth c b L xs) : W p l e room_1 s m #[Value.ref b] below meth c s.heap [] 0 0 (lw_Z below #[Value.ref b] s) (entryFrame m ([Value.ref b] : List Value).toArray 4) := by
  obtain ⟨hx, hb, hr, hml, hown, hts0, hX, hbl, hlocks, hgv⟩ := id C0
  have hown : s.vm.findClass RL = some m.cls := hown
  have hts : ∀ w ∈ tb, w.before #[Value.ref b] s = true := fun w h => hts0 w (tb_in h)
  have hE : ENV s := env_of hts0 hgv
  have hZ : SHV (fun q : Nat => s.heap.size ≤ q) s s.heap := shv_of hts0 hgv
  have hA : ∀ q : Nat, s.heap.size ≤ q → (fun q : Nat => s.heap.size ≤ q) q := fun _ h => h
  have hbA : ¬ (fun q : Nat => s.heap.size ≤ q) b := Nat.not_le.mpr hbl
  obtain ⟨c0, iS0, hKn0⟩ := u_known (C := RX0) (T := TX0) (N := 3) (n := 3) hts it_0 (hts _ kt_9)
  obtain ⟨c1, iS1, hKn1⟩ := u_known (C := RX1) (T := TX1) (N := 11) (n := 11) hts it_1 (hts _ kt_142)
  obtain ⟨c2, iS2, hKn2⟩ := u_known (C := RX2) (T := TX2) (N := 2) (n := 2) hts it_2 (hts _ kt_135)
  obtain ⟨c3, iS3, hKn3⟩ := u_known (C := RX3) (T := TX3) (N := 4) (n := 4) hts it_3 (hts _ kt_57)
  obtain ⟨c4, iS4, hKn4⟩ := u_known (C := RX4) (T := TX4) (N := 6) (n := 6) hts it_4 (hts _ kt_165)
  obtain ⟨c5, iS5, hKn5⟩ := u_known (C := RX5) (T := TX5) (N := 7) (n := 7) hts it_5 (hts _ kt_156)
  obtain ⟨c6, iS6, hKn6⟩ := u_known (C := RX6) (T := TX6) (N := 5) (n := 5) hts it_6 (hts _ kt_121)
  obtain ⟨c7, iS7, hKn7⟩ := u_known (C := RX7) (T := TX7) (N := 17) (n := 17) hts it_7 (hts _ kt_149)
  obtain ⟨c8, iS8, hKn8⟩ := u_known (C := RX8) (T := TX8) (N := 3) (n := 3) hts it_8 (hts _ kt_115)
  obtain ⟨c9, iS9, hKn9⟩ := u_known (C := RX9) (T := TX9) (N := 5) (n := 5) hts it_9 (hts _ kt_86)
  obtain ⟨c10, iS10, hKn10⟩ := u_known (C := RX10) (T := TX10) (N := 6) (n := 6) hts it_10 (hts _ kt_76)
  obtain ⟨c11, iS11, hKn11⟩ := u_known (C := RX11) (T := TX11) (N := 9) (n := 9) hts it_11 (hts _ kt_545)
  obtain ⟨c12, iS12, hKn12⟩ := u_known (C := RX12) (T := TX12) (N := 7) (n := 7) hts it_12 (hts _ kt_351)
  obtain ⟨c13, iS13, hKn13⟩ := u_known (C := RX13) (T := TX13) (N := 5) (n := 5) hts it_13 (hts _ kt_342)
  obtain ⟨c14, iS14, hKn14⟩ := u_known (C := RX14) (T := TX14) (N := 2) (n := 2) hts it_14 (hts _ kt_271)
  obtain ⟨c15, iS15, hKn15⟩ := u_known (C := RX15) (T := TX15) (N := 59) (n := 59) hts it_15 (hts _ kt_550)
  obtain ⟨dC, dI, hKc⟩ : ∃ (dC : Nat → ClassId) (dI : Nat → Nat → Nat), ∀ (k : Nat) (q : vw_C), vwCl[k]? = some q → u_Kn s q.1 q.2.1 q.2.2 (dC k) (dI k) := by
    refine ⟨fun k => if k = 0 then c0 else if k = 1 then c1 else if k = 2 then c2 else if k = 3 then c3 else if k = 4 then c4 else if k = 5 then c5 else if k = 6 then c6 else if k = 7 then c7 else if k = 8 then c8 else if k = 9 then c9 else if k = 10 then c10 else if k = 11 then c11 else if k = 12 then c12 else if k = 13 then c13 else if k = 14 then c14 else c15, fun k => if k = 0 then iS0 else if k = 1 then iS1 else if k = 2 then iS2 else if k = 3 then iS3 else if k = 4 then iS4 else if k = 5 then iS5 else if k = 6 then iS6 else if k = 7 then iS7 else if k = 8 then iS8 else if k = 9 then iS9 else if k = 10 then iS10 else if k = 11 then iS11 else if k = 12 then iS12 else if k = 13 then iS13 else if k = 14 then iS14 else iS15, ?_⟩
    intro k q hq
    match k, hq with
    | 0, hq => cases hq; exact hKn0
    | 1, hq => cases hq; exact hKn1
    | 2, hq => cases hq; exact hKn2
    | 3, hq => cases hq; exact hKn3
    | 4, hq => cases hq; exact hKn4
    | 5, hq => cases hq; exact hKn5
    | 6, hq => cases hq; exact hKn6
    | 7, hq => cases hq; exact hKn7
    | 8, hq => cases hq; exact hKn8
    | 9, hq => cases hq; exact hKn9
    | 10, hq => cases hq; exact hKn10
    | 11, hq => cases hq; exact hKn11
    | 12, hq => cases hq; exact hKn12
    | 13, hq => cases hq; exact hKn13
    | 14, hq => cases hq; exact hKn14
    | 15, hq => cases hq; exact hKn15
    | k + 16, hq => simp [vwCl] at hq
  have hS : va_S (fun q : Nat => s.heap.size ≤ q) s.heap s.heap [] := va_S.rf
  have hK : va_K (dC, dI) vwCl [] s := ⟨hKc, fun k q h => by simp at h⟩
  have hP : va_P (dC, dI) vwCl [] s.heap := fun k q h => by simp at h
  have hD : va_D (fun q : Nat => s.heap.size ≤ q) [] := ⟨fun i j p q h => by simp at h, fun k q h => by simp at h⟩
  have hl := lv_entry ([.ref b]) (n := 4) (Nat.le_of_ble_eq_true rfl)
  rw [lg_entry_eq]
  generalize (lg_sl ([.ref b]) ++ List.replicate (4 - (lg_sl ([.ref b])).length) Slot.unset).toArray = ls at hl ⊢
  have hl : lv_has ls 4 [(0, .ref b)] := hl
  refine va_new (ci := 11) (fs := [.null, .null, .null, .null, .null, .null, .null, .null, .null]) (C := RX11) (T := TX11) (N := 9) hx hb hts it_11 tyX11 tyX11_ok hown (hts _ kt_544) (hts _ kt_545) (hts _ kt_416) hK hP hD hS hA rfl df_11 (by show _ + 1 ≤ 600000; omega) (by show _ + 9 ≤ 7302249; omega) dL_law_0 (fun q_1 H hP hD hS => ?_)
  have hP : va_P (dC, dI) vwCl [(q_1, .inr (11, [.null, .null, .null, .null, .null, .null, .null, .null, .null]))] H := hP
  have hD : va_D (fun q : Nat => s.heap.size ≤ q) [(q_1, .inr (11, [.null, .null, .null, .null, .null, .null, .null, .null, .null]))] := hD
  refine lv_dup hx hb dL_law_3 rfl ?_
  have hPc := hP.sub (ws' := [(q_1, .inr (11, [.null, .null, .null, .null, .null, .null, .null, .null, .null]))]) [0] rfl
  have hDc := hD.sub (ws' := [(q_1, .inr (11, [.null, .null, .null, .null, .null, .null, .null, .null, .null]))]) [0] (by decide) rfl
  have hKc := hK.sub (tys' := []) [] rfl
  have hFc := va_free (wc := [(q_1, .inr (11, [.null, .null, .null, .null, .null, .null, .null, .null, .null]))]) hD hS hA [0] rfl
  refine va_callv (va_runI (As := []) (rest := [.ref q_1]) ⟨hx, hb, hml, hown, hts⟩ (c_X11_init l dC dI H.size q_1 ) ⟨callB_of 0 hts (gi kt_546) rfl rfl rfl (hts _ kt_416) (hts _ kt_547) (by decide +kernel) ⟨Nat.le_of_ble_eq_true rfl, Nat.le_of_ble_eq_true rfl⟩, rfl, (hts _ kt_548)⟩ ⟨fun a U g mk q => ⟨q.1, PW.calling q.2⟩, fun U hU hW => ⟨rfl, PW.mk hU hW hPc hKc hDc hE⟩⟩ rfl rfl hl.1 rfl (lv_room (Nat.le_of_ble_eq_true rfl)) dL_law_4 ⟨by show _ + 320 ≤ 600000; omega, by show _ + 55808 ≤ 7302249; omega⟩) hS (fun q _ h => hFc q h) hFc (fun u t H1 locs ht hvm hw hB hz1 hk1 hS => ?_)
  obtain ⟨t_3, o_4, d_5, ck_6, se_7, po_8, sh_9, le_10, sp_11, tr_12, orw_13, de_14, k1_15, k2_16, k3_17, k4_18, k5_19, k6_20, sw_21, ss_22, st_23, l0_24, l1_25, l2_26, l3_27, px_28, p1_29, p2_30, p3_31, pr_32, ct_33, co_34, cw_35, cs_36, cst_37, cp_38, hB1⟩ := hB
  obtain ⟨hP, hD, hK⟩ := QW.join (wr := []) hP hD hK [0] [] rfl rfl (by decide) (by decide) hk1 hFc ht hvm hB1
  generalize H1 = H at hP hS ⊢
  have hK : va_K (dC, dI) vwCl [(ct_33, .int), (co_34, .int), (cw_35, .int), (cs_36, .int), (cst_37, .int), (cp_38, .int)] s := hK.sub [0, 1, 2, 3, 4, 5] rfl
  have hP : va_P (dC, dI) vwCl [(q_1, .inr (11, [.ref t_3, .ref o_4, .ref d_5, .ref ck_6, .ref se_7, .ref po_8, .ref sh_9, .ref le_10, .ref sp_11])), (t_3, .inr (0, [.ref tr_12, .int 0, .int 0])), (tr_12, .inl (ct_33, 3000, .inl (fun _ => 0))), (o_4, .inr (0, [.ref orw_13, .int 0, .int 0])), (orw_13, .inl (co_34, 3000, .inl (fun _ => 0))), (d_5, .inr (2, [.ref de_14, .int 0])), (ck_6, .inr (1, [.ref d_5, .ref k1_15, .ref k2_16, .ref k3_17, .ref k4_18, .ref k5_19, .ref k6_20, .int 0, .int 0, .int 0, .int 0])), (sh_9, .inr (8, [.ref sw_21, .ref ss_22, .ref st_23])), (sw_21, .inl (cw_35, 64, .inl (fun _ => 0))), (ss_22, .inl (cs_36, 8, .inl (fun _ => 0))), (st_23, .inl (cst_37, 8, .inl (fun _ => 0))), (le_10, .inr (4, [.ref l0_24, .ref l1_25, .ref l2_26, .ref l3_27, .int 0, .int 0])), (sp_11, .inr (4, [.ref px_28, .ref p1_29, .ref p2_30, .ref p3_31, .int 0, .int 0])), (px_28, .inr (0, [.ref pr_32, .int 0, .int 0])), (pr_32, .inl (cp_38, 3000, .inl (fun _ => 0)))] H := hP
  have hD : va_D (fun q : Nat => s.heap.size ≤ q) [(q_1, .inr (11, [.ref t_3, .ref o_4, .ref d_5, .ref ck_6, .ref se_7, .ref po_8, .ref sh_9, .ref le_10, .ref sp_11])), (t_3, .inr (0, [.ref tr_12, .int 0, .int 0])), (tr_12, .inl (ct_33, 3000, .inl (fun _ => 0))), (o_4, .inr (0, [.ref orw_13, .int 0, .int 0])), (orw_13, .inl (co_34, 3000, .inl (fun _ => 0))), (d_5, .inr (2, [.ref de_14, .int 0])), (ck_6, .inr (1, [.ref d_5, .ref k1_15, .ref k2_16, .ref k3_17, .ref k4_18, .ref k5_19, .ref k6_20, .int 0, .int 0, .int 0, .int 0])), (sh_9, .inr (8, [.ref sw_21, .ref ss_22, .ref st_23])), (sw_21, .inl (cw_35, 64, .inl (fun _ => 0))), (ss_22, .inl (cs_36, 8, .inl (fun _ => 0))), (st_23, .inl (cst_37, 8, .inl (fun _ => 0))), (le_10, .inr (4, [.ref l0_24, .ref l1_25, .ref l2_26, .ref l3_27, .int 0, .int 0])), (sp_11, .inr (4, [.ref px_28, .ref p1_29, .ref p2_30, .ref p3_31, .int 0, .int 0])), (px_28, .inr (0, [.ref pr_32, .int 0, .int 0])), (pr_32, .inl (cp_38, 3000, .inl (fun _ => 0)))] := hD
  refine lv_astore_n (lv' := [(1, .ref q_1), (0, .ref b)]) hx hb dL_law_7 rfl hl (by decide) rfl (fun ls hl => ?_)
  refine va_new (ci := 15) (fs := [.null, .int 0, .int 0, .int 0, .null, .null, .null, .null, .null, .null, .null, .int 0, .int 0, .null, .int 0, .int 0, .null, .int 0, .int 0, .int 0, .int 0, .int 0, .int 0, .null, .null, .null, .null, .null, .null, .null, .int 0, .int 0, .int 0, .int 0, .null, .null, .null, .null, .null, .null, .null, .null, .null, .null, .null, .null, .null, .null, .null, .null, .null, .null, .int 0, .int 0, .int 0, .null, .null, .null, .null]) (C := RX15) (T := TX15) (N := 59) hx hb hts it_15 tyX15 tyX15_ok hown (hts _ kt_549) (hts _ kt_550) (hts _ kt_375) hK hP hD hS hA rfl df_15 (by show _ + 1 ≤ 600000; omega) (by show _ + 59 ≤ 7302249; omega) dL_law_8 (fun q_39 H hP hD hS => ?_)
  have hP : va_P (dC, dI) vwCl [(q_1, .inr (11, [.ref t_3, .ref o_4, .ref d_5, .ref ck_6, .ref se_7, .ref po_8, .ref sh_9, .ref le_10, .ref sp_11])), (t_3, .inr (0, [.ref tr_12, .int 0, .int 0])), (tr_12, .inl (ct_33, 3000, .inl (fun _ => 0))), (o_4, .inr (0, [.ref orw_13, .int 0, .int 0])), (orw_13, .inl (co_34, 3000, .inl (fun _ => 0))), (d_5, .inr (2, [.ref de_14, .int 0])), (ck_6, .inr (1, [.ref d_5, .ref k1_15, .ref k2_16, .ref k3_17, .ref k4_18, .ref k5_19, .ref k6_20, .int 0, .int 0, .int 0, .int 0])), (sh_9, .inr (8, [.ref sw_21, .ref ss_22, .ref st_23])), (sw_21, .inl (cw_35, 64, .inl (fun _ => 0))), (ss_22, .inl (cs_36, 8, .inl (fun _ => 0))), (st_23, .inl (cst_37, 8, .inl (fun _ => 0))), (le_10, .inr (4, [.ref l0_24, .ref l1_25, .ref l2_26, .ref l3_27, .int 0, .int 0])), (sp_11, .inr (4, [.ref px_28, .ref p1_29, .ref p2_30, .ref p3_31, .int 0, .int 0])), (px_28, .inr (0, [.ref pr_32, .int 0, .int 0])), (pr_32, .inl (cp_38, 3000, .inl (fun _ => 0))), (q_39, .inr (15, [.null, .int 0, .int 0, .int 0, .null, .null, .null, .null, .null, .null, .null, .int 0, .int 0, .null, .int 0, .int 0, .null, .int 0, .int 0, .int 0, .int 0, .int 0, .int 0, .null, .null, .null, .null, .null, .null, .null, .int 0, .int 0, .int 0, .int 0, .null, .null, .null, .null, .null, .null, .null, .null, .null, .null, .null, .null, .null, .null, .null, .null, .null, .null, .int 0, .int 0, .int 0, .null, .null, .null, .null]))] H := hP
  have hD : va_D (fun q : Nat => s.heap.size ≤ q) [(q_1, .inr (11, [.ref t_3, .ref o_4, .ref d_5, .ref ck_6, .ref se_7, .ref po_8, .ref sh_9, .ref le_10, .ref sp_11])), (t_3, .inr (0, [.ref tr_12, .int 0, .int 0])), (tr_12, .inl (ct_33, 3000, .inl (fun _ => 0))), (o_4, .inr (0, [.ref orw_13, .int 0, .int 0])), (orw_13, .inl (co_34, 3000, .inl (fun _ => 0))), (d_5, .inr (2, [.ref de_14, .int 0])), (ck_6, .inr (1, [.ref d_5, .ref k1_15, .ref k2_16, .ref k3_17, .ref k4_18, .ref k5_19, .ref k6_20, .int 0, .int 0, .int 0, .int 0])), (sh_9, .inr (8, [.ref sw_21, .ref ss_22, .ref st_23])), (sw_21, .inl (cw_35, 64, .inl (fun _ => 0))), (ss_22, .inl (cs_36, 8, .inl (fun _ => 0))), (st_23, .inl (cst_37, 8, .inl (fun _ => 0))), (le_10, .inr (4, [.ref l0_24, .ref l1_25, .ref l2_26, .ref l3_27, .int 0, .int 0])), (sp_11, .inr (4, [.ref px_28, .ref p1_29, .ref p2_30, .ref p3_31, .int 0, .int 0])), (px_28, .inr (0, [.ref pr_32, .int 0, .int 0])), (pr_32, .inl (cp_38, 3000, .inl (fun _ => 0))), (q_39, .inr (15, [.null, .int 0, .int 0, .int 0, .null, .null, .null, .null, .null, .null, .null, .int 0, .int 0, .null, .int 0, .int 0, .null, .int 0, .int 0, .int 0, .int 0, .int 0, .int 0, .null, .null, .null, .null, .null, .null, .null, .int 0, .int 0, .int 0, .int 0, .null, .null, .null, .null, .null, .null, .null, .null, .null, .null, .null, .null, .null, .null, .null, .null, .null, .null, .int 0, .int 0, .int 0, .null, .null, .null, .null]))] := hD
  refine lv_dup hx hb dL_law_11 rfl ?_
  have hPc := hP.sub (ws' := [(q_39, .inr (15, [.null, .int 0, .int 0, .int 0, .null, .null, .null, .null, .null, .null, .null, .int 0, .int 0, .null, .int 0, .int 0, .null, .int 0, .int 0, .int 0, .int 0, .int 0, .int 0, .null, .null, .null, .null, .null, .null, .null, .int 0, .int 0, .int 0, .int 0, .null, .null, .null, .null, .null, .null, .null, .null, .null, .null, .null, .null, .null, .null, .null, .null, .null, .null, .int 0, .int 0, .int 0, .null, .null, .null, .null]))]) [15] rfl
  have hDc := hD.sub (ws' := [(q_39, .inr (15, [.null, .int 0, .int 0, .int 0, .null, .null, .null, .null, .null, .null, .null, .int 0, .int 0, .null, .int 0, .int 0, .null, .int 0, .int 0, .int 0, .int 0, .int 0, .int 0, .null, .null, .null, .null, .null, .null, .null, .int 0, .int 0, .int 0, .int 0, .null, .null, .null, .null, .null, .null, .null, .null, .null, .null, .null, .null, .null, .null, .null, .null, .null, .null, .int 0, .int 0, .int 0, .null, .null, .null, .null]))]) [15] (by decide) rfl
  have hKc := hK.sub (tys' := []) [] rfl
  have hFc := va_free (wc := [(q_39, .inr (15, [.null, .int 0, .int 0, .int 0, .null, .null, .null, .null, .null, .null, .null, .int 0, .int 0, .null, .int 0, .int 0, .null, .int 0, .int 0, .int 0, .int 0, .int 0, .int 0, .null, .null, .null, .null, .null, .null, .null, .int 0, .int 0, .int 0, .int 0, .null, .null, .null, .null, .null, .null, .null, .null, .null, .null, .null, .null, .null, .null, .null, .null, .null, .null, .int 0, .int 0, .int 0, .null, .null, .null, .null]))]) hD hS hA [15] rfl
  refine va_callv (va_runI (As := []) (rest := [.ref q_39]) ⟨hx, hb, hml, hown, hts⟩ (c_X15_init l dC dI H.size q_39 ([.null, .int 0, .int 0, .int 0, .null, .null, .null, .null, .null, .null, .null, .int 0, .int 0, .null, .int 0, .int 0, .null, .int 0, .int 0, .int 0, .int 0, .int 0, .int 0, .null, .null, .null, .null, .null, .null, .null, .int 0, .int 0, .int 0, .int 0, .null, .null, .null, .null, .null, .null, .null, .null, .null, .null, .null, .null, .null, .null, .null, .null, .null, .null, .int 0, .int 0, .int 0, .null, .null, .null, .null]) (rfl) (rfl) (rfl) (rfl) (rfl) (rfl) (rfl) (rfl) (rfl)) ⟨callB_of 0 hts (gi kt_551) rfl rfl rfl (hts _ kt_375) (hts _ kt_552) (by decide +kernel) ⟨Nat.le_of_ble_eq_true rfl, Nat.le_of_ble_eq_true rfl⟩, rfl, (hts _ kt_553)⟩ ⟨fun a U g mk q => ⟨q.1, PW.calling q.2⟩, fun U hU hW => ⟨rfl, PW.mk hU hW hPc hKc hDc hE⟩⟩ rfl rfl hl.1 rfl (lv_room (Nat.le_of_ble_eq_true rfl)) dL_law_12 ⟨by show _ + 254 ≤ 600000; omega, by show _ + 82375 ≤ 7302249; omega⟩) hS (fun q _ h => hFc q h) hFc (fun u t H1 locs ht hvm hw hB hz1 hk1 hS => ?_)
  obtain ⟨fs2_41, y0_42, y4_43, y38_44, y44_45, z1_46, z2_47, z3_48, z4_49, z5_50, ct_51, co_52, ch_53, d1_54, d2_55, d3_56, d4_57, d5_58, f1_59, f4_60, hB1, hf_61, hf_62, hf_63, hf_64, hf_65, hf_66, hf_67, hf_68, hf_69, hf_70, hf_71, hf_72, hf_73⟩ := hB
  obtain ⟨hP, hD, hK⟩ := QW.join (wr := [(q_1, .inr (11, [.ref t_3, .ref o_4, .ref d_5, .ref ck_6, .ref se_7, .ref po_8, .ref sh_9, .ref le_10, .ref sp_11])), (t_3, .inr (0, [.ref tr_12, .int 0, .int 0])), (tr_12, .inl (ct_33, 3000, .inl (fun _ => 0))), (o_4, .inr (0, [.ref orw_13, .int 0, .int 0])), (orw_13, .inl (co_34, 3000, .inl (fun _ => 0))), (d_5, .inr (2, [.ref de_14, .int 0])), (ck_6, .inr (1, [.ref d_5, .ref k1_15, .ref k2_16, .ref k3_17, .ref k4_18, .ref k5_19, .ref k6_20, .int 0, .int 0, .int 0, .int 0])), (sh_9, .inr (8, [.ref sw_21, .ref ss_22, .ref st_23])), (sw_21, .inl (cw_35, 64, .inl (fun _ => 0))), (ss_22, .inl (cs_36, 8, .inl (fun _ => 0))), (st_23, .inl (cst_37, 8, .inl (fun _ => 0))), (le_10, .inr (4, [.ref l0_24, .ref l1_25, .ref l2_26, .ref l3_27, .int 0, .int 0])), (sp_11, .inr (4, [.ref px_28, .ref p1_29, .ref p2_30, .ref p3_31, .int 0, .int 0])), (px_28, .inr (0, [.ref pr_32, .int 0, .int 0])), (pr_32, .inl (cp_38, 3000, .inl (fun _ => 0)))]) hP hD hK [15] [0, 1, 2, 3, 4, 5, 6, 7, 8, 9, 10, 11, 12, 13, 14] rfl rfl (by decide) (by decide) hk1 hFc ht hvm hB1
  generalize H1 = H at hP hS ⊢
  have hK : va_K (dC, dI) vwCl [(ct_33, .int), (co_34, .int), (cw_35, .int), (cs_36, .int), (cst_37, .int), (cp_38, .int), (ct_51, .byte), (co_52, .byte), (d1_54, .int), (d2_55, .int), (d3_56, .int), (d4_57, .int), (d5_58, .byte), (ch_53, .byte)] s := hK.sub [0, 1, 2, 3, 4, 5, 6, 7, 8, 9, 10, 11, 12, 13] rfl
  have hP : va_P (dC, dI) vwCl [(q_1, .inr (11, [.ref t_3, .ref o_4, .ref d_5, .ref ck_6, .ref se_7, .ref po_8, .ref sh_9, .ref le_10, .ref sp_11])), (t_3, .inr (0, [.ref tr_12, .int 0, .int 0])), (tr_12, .inl (ct_33, 3000, .inl (fun _ => 0))), (o_4, .inr (0, [.ref orw_13, .int 0, .int 0])), (orw_13, .inl (co_34, 3000, .inl (fun _ => 0))), (d_5, .inr (2, [.ref de_14, .int 0])), (ck_6, .inr (1, [.ref d_5, .ref k1_15, .ref k2_16, .ref k3_17, .ref k4_18, .ref k5_19, .ref k6_20, .int 0, .int 0, .int 0, .int 0])), (sh_9, .inr (8, [.ref sw_21, .ref ss_22, .ref st_23])), (sw_21, .inl (cw_35, 64, .inl (fun _ => 0))), (ss_22, .inl (cs_36, 8, .inl (fun _ => 0))), (st_23, .inl (cst_37, 8, .inl (fun _ => 0))), (le_10, .inr (4, [.ref l0_24, .ref l1_25, .ref l2_26, .ref l3_27, .int 0, .int 0])), (sp_11, .inr (4, [.ref px_28, .ref p1_29, .ref p2_30, .ref p3_31, .int 0, .int 0])), (px_28, .inr (0, [.ref pr_32, .int 0, .int 0])), (pr_32, .inl (cp_38, 3000, .inl (fun _ => 0))), (q_39, .inr (15, fs2_41)), (y0_42, .inl (ct_51, 3000, .inl (fun _ => 0))), (y4_43, .inl (co_52, 6000, .inl (fun _ => 0))), (y38_44, .inr (12, [.ref z1_46, .ref z2_47, .ref z3_48, .ref z4_49, .ref z5_50, .int 0, .long 0])), (z1_46, .inl (d1_54, 8, .inl f1_59)), (z2_47, .inl (d2_55, 8, .inl (fun _ => 0))), (z3_48, .inl (d3_56, 64, .inl (fun _ => 0))), (z4_49, .inl (d4_57, 64, .inl f4_60)), (z5_50, .inl (d5_58, 64, .inl (fun _ => 0))), (y44_45, .inl (ch_53, 32, .inl (fun _ => 0)))] H := hP
  have hD : va_D (fun q : Nat => s.heap.size ≤ q) [(q_1, .inr (11, [.ref t_3, .ref o_4, .ref d_5, .ref ck_6, .ref se_7, .ref po_8, .ref sh_9, .ref le_10, .ref sp_11])), (t_3, .inr (0, [.ref tr_12, .int 0, .int 0])), (tr_12, .inl (ct_33, 3000, .inl (fun _ => 0))), (o_4, .inr (0, [.ref orw_13, .int 0, .int 0])), (orw_13, .inl (co_34, 3000, .inl (fun _ => 0))), (d_5, .inr (2, [.ref de_14, .int 0])), (ck_6, .inr (1, [.ref d_5, .ref k1_15, .ref k2_16, .ref k3_17, .ref k4_18, .ref k5_19, .ref k6_20, .int 0, .int 0, .int 0, .int 0])), (sh_9, .inr (8, [.ref sw_21, .ref ss_22, .ref st_23])), (sw_21, .inl (cw_35, 64, .inl (fun _ => 0))), (ss_22, .inl (cs_36, 8, .inl (fun _ => 0))), (st_23, .inl (cst_37, 8, .inl (fun _ => 0))), (le_10, .inr (4, [.ref l0_24, .ref l1_25, .ref l2_26, .ref l3_27, .int 0, .int 0])), (sp_11, .inr (4, [.ref px_28, .ref p1_29, .ref p2_30, .ref p3_31, .int 0, .int 0])), (px_28, .inr (0, [.ref pr_32, .int 0, .int 0])), (pr_32, .inl (cp_38, 3000, .inl (fun _ => 0))), (q_39, .inr (15, fs2_41)), (y0_42, .inl (ct_51, 3000, .inl (fun _ => 0))), (y4_43, .inl (co_52, 6000, .inl (fun _ => 0))), (y38_44, .inr (12, [.ref z1_46, .ref z2_47, .ref z3_48, .ref z4_49, .ref z5_50, .int 0, .long 0])), (z1_46, .inl (d1_54, 8, .inl f1_59)), (z2_47, .inl (d2_55, 8, .inl (fun _ => 0))), (z3_48, .inl (d3_56, 64, .inl (fun _ => 0))), (z4_49, .inl (d4_57, 64, .inl f4_60)), (z5_50, .inl (d5_58, 64, .inl (fun _ => 0))), (y44_45, .inl (ch_53, 32, .inl (fun _ => 0)))] := hD
  refine lv_astore_n (lv' := [(2, .ref q_39), (1, .ref q_1), (0, .ref b)]) hx hb dL_law_15 rfl hl (by decide) rfl (fun ls hl => ?_)
  refine lv_iconst (v := 0) hx hb dL_law_16 (by decide) ?_
  refine lv_istore_n (lv' := [(3, .int 0), (2, .ref q_39), (1, .ref q_1), (0, .ref b)]) hx hb dL_law_17 rfl hl (by decide) rfl (fun ls hl => ?_)
  refine lv_iload_n hx hb dL_law_18 rfl (lv_at hl 0 rfl) ?_
  refine lv_aload_n hx hb dL_law_19 rfl (lv_at hl 3 rfl) ?_
  refine va_slen hx hb hX hbl hbA hS dL_law_20 ?_
  refine W.eq (g2 := F0 m 21 ls [.int (nI L), .int 0]) rfl ?_
  refine lv_bipush (v := 6) hx hb dL_law_21 (by decide) ?_
  refine lv_isub hx hb dL_law_23 ?_
  refine lv_topi (fun x_74 ex9 => ?_)
  refine lv_icmp_gt (tgt := 528) hx hb dL_law_24 (by decide) (fun c_75 => ?_) (fun c_75 => ?_)
  ·
    refine lv_iconst (v := 1) hx hb dL_law_528 (by decide) ?_
    refine va_forget (fun q hq => hS.2.2 q hq) ?_
    refine W.widen (k := 600000) (n := 7302249) (by omega) (by omega) ?_
    exact lw_ret hx hb hr hlocks dL_law_529
  ·
    have hL6 : L = 6 := by
      rcases Nat.lt_or_ge L 6 with q | q
      · exact absurd (by rw [ex9]; exact pk_sneg (b := 6) (by omega) q) c_75
      · omega
    subst hL6
    refine lv_aload_n hx hb dL_law_27 rfl (lv_at hl 3 rfl) ?_
    refine lv_iload_n hx hb dL_law_28 rfl (lv_at hl 0 rfl) ?_
    refine va_sld hx hb hX hbl hbA hS (show vp_in (0 : Int32) 6 from (show vp_in (nI 0) 6 from vp_in_nI (by omega) (by omega))) dL_law_29 ?_
    refine lv_topi (fun x_76 ex_76 => ?_)
    obtain rfl : x_76 = xs 0 := ex_76.trans (congrArg xs (by decide))
    refine lv_bipush (v := 15) hx hb dL_law_30 (by decide) ?_
    refine lv_iand hx hb dL_law_32 ?_
    obtain ⟨j, hj, ej⟩ := pk_andE (xs 0) (m := 15) 4 (by decide)
    refine lv_topi (fun x_77 ex_77 => ?_)
    obtain rfl : x_77 = nI j := ex_77.trans ej
    have hC : LC p s m meth c b xs := ⟨hx, hb, hr, hml, hown, hts, hX, hbl, hlocks, hE, hZ⟩
    rcases (show j = 0 ∨ j = 1 ∨ j = 2 ∨ j = 3 ∨ j = 4 ∨ j = 5 ∨ j = 6 ∨ j = 7 ∨ j = 8 ∨ j = 9 ∨ j = 10 ∨ j = 11 ∨ j = 12 ∨ j = 13 ∨ j = 14 ∨ j = 15 by omega) with rfl | rfl | rfl | rfl | rfl | rfl | rfl | rfl | rfl | rfl | rfl | rfl | rfl | rfl | rfl | rfl
    ·
      refine lv_tableIn (off := 79) (tgt := 112) hx hb dL_law_33 (by decide) (by decide) (by decide) (by decide) ?_
      refine W.widen (k := 576) (n := 138251) (by omega) (by omega) ?_
      exact law_0 hC hf_61 hf_62 hf_63 hf_64 hf_65 hf_66 hf_67 hf_68 hf_69 hf_70 hf_71 hf_72 hf_73 hK hP hD hS (lv_sub hl [0, 1, 2, 3] rfl)
    ·
      refine lv_tableIn (off := 142) (tgt := 175) hx hb dL_law_33 (by decide) (by decide) (by decide) (by decide) ?_
      refine W.widen (k := 576) (n := 138251) (by omega) (by omega) ?_
      exact law_1 hC hf_61 hf_62 hf_63 hf_64 hf_65 hf_66 hf_67 hf_68 hf_69 hf_70 hf_71 hf_72 hf_73 hK hP hD hS (lv_sub hl [0, 1, 2, 3] rfl)
    ·
      refine lv_tableIn (off := 165) (tgt := 198) hx hb dL_law_33 (by decide) (by decide) (by decide) (by decide) ?_
      refine W.widen (k := 576) (n := 138251) (by omega) (by omega) ?_
      exact law_2 hC hf_61 hf_62 hf_63 hf_64 hf_65 hf_66 hf_67 hf_68 hf_69 hf_70 hf_71 hf_72 hf_73 hK hP hD hS (lv_sub hl [0, 1, 2, 3] rfl)
    ·
      refine lv_tableIn (off := 198) (tgt := 231) hx hb dL_law_33 (by decide) (by decide) (by decide) (by decide) ?_
      refine W.widen (k := 576) (n := 138251) (by omega) (by omega) ?_
      exact law_3 hC hf_61 hf_62 hf_63 hf_64 hf_65 hf_66 hf_67 hf_68 hf_69 hf_70 hf_71 hf_72 hf_73 hK hP hD hS (lv_sub hl [0, 1, 2, 3] rfl)
    ·
      refine lv_tableIn (off := 211) (tgt := 244) hx hb dL_law_33 (by decide) (by decide) (by decide) (by decide) ?_
      refine W.widen (k := 576) (n := 138251) (by omega) (by omega) ?_
      exact law_4 hC hf_61 hf_62 hf_63 hf_64 hf_65 hf_66 hf_67 hf_68 hf_69 hf_70 hf_71 hf_72 hf_73 hK hP hD hS (lv_sub hl [0, 1, 2, 3] rfl)
    ·
      refine lv_tableIn (off := 234) (tgt := 267) hx hb dL_law_33 (by decide) (by decide) (by decide) (by decide) ?_
      refine W.widen (k := 576) (n := 138251) (by omega) (by omega) ?_
      exact law_5 hC hf_61 hf_62 hf_63 hf_64 hf_65 hf_66 hf_67 hf_68 hf_69 hf_70 hf_71 hf_72 hf_73 hK hP hD hS (lv_sub hl [0, 1, 2, 3] rfl)
    ·
      refine lv_tableIn (off := 247) (tgt := 280) hx hb dL_law_33 (by decide) (by decide) (by decide) (by decide) ?_
      refine W.widen (k := 576) (n := 138251) (by omega) (by omega) ?_
      exact law_6 hC hf_61 hf_62 hf_63 hf_64 hf_65 hf_66 hf_67 hf_68 hf_69 hf_70 hf_71 hf_72 hf_73 hK hP hD hS (lv_sub hl [0, 1, 2, 3] rfl)
    ·
      refine lv_tableIn (off := 270) (tgt := 303) hx hb dL_law_33 (by decide) (by decide) (by decide) (by decide) ?_
      refine W.widen (k := 576) (n := 138251) (by omega) (by omega) ?_
      exact law_7 hC hf_61 hf_62 hf_63 hf_64 hf_65 hf_66 hf_67 hf_68 hf_69 hf_70 hf_71 hf_72 hf_73 hK hP hD hS (lv_sub hl [0, 1, 2, 3] rfl)
    ·
      refine lv_tableIn (off := 283) (tgt := 316) hx hb dL_law_33 (by decide) (by decide) (by decide) (by decide) ?_
      refine W.widen (k := 576) (n := 138251) (by omega) (by omega) ?_
      exact law_8 hC hf_61 hf_62 hf_63 hf_64 hf_65 hf_66 hf_67 hf_68 hf_69 hf_70 hf_71 hf_72 hf_73 hK hP hD hS (lv_sub hl [0, 1, 2, 3] rfl)
    ·
      refine lv_tableIn (off := 296) (tgt := 329) hx hb dL_law_33 (by decide) (by decide) (by decide) (by decide) ?_
      refine W.widen (k := 576) (n := 138251) (by omega) (by omega) ?_
      exact law_9 hC hf_61 hf_62 hf_63 hf_64 hf_65 hf_66 hf_67 hf_68 hf_69 hf_70 hf_71 hf_72 hf_73 hK hP hD hS (lv_sub hl [0, 1, 2, 3] rfl)
    ·
      refine lv_tableIn (off := 329) (tgt := 362) hx hb dL_law_33 (by decide) (by decide) (by decide) (by decide) ?_
      refine W.widen (k := 576) (n := 138251) (by omega) (by omega) ?_
      exact law_10 hC hf_61 hf_62 hf_63 hf_64 hf_65 hf_66 hf_67 hf_68 hf_69 hf_70 hf_71 hf_72 hf_73 hK hP hD hS (lv_sub hl [0, 1, 2, 3] rfl)
    ·
      refine lv_tableIn (off := 368) (tgt := 401) hx hb dL_law_33 (by decide) (by decide) (by decide) (by decide) ?_
      refine W.widen (k := 576) (n := 138251) (by omega) (by omega) ?_
      exact law_11 hC hf_61 hf_62 hf_63 hf_64 hf_65 hf_66 hf_67 hf_68 hf_69 hf_70 hf_71 hf_72 hf_73 hK hP hD hS (lv_sub hl [0, 1, 2, 3] rfl)
    ·
      refine lv_tableIn (off := 417) (tgt := 450) hx hb dL_law_33 (by decide) (by decide) (by decide) (by decide) ?_
      refine W.widen (k := 576) (n := 138251) (by omega) (by omega) ?_
      exact law_12 hC hf_61 hf_62 hf_63 hf_64 hf_65 hf_66 hf_67 hf_68 hf_69 hf_70 hf_71 hf_72 hf_73 hK hP hD hS (lv_sub hl [0, 1, 2, 3] rfl)
    ·
      refine lv_tableIn (off := 430) (tgt := 463) hx hb dL_law_33 (by decide) (by decide) (by decide) (by decide) ?_
      refine W.widen (k := 576) (n := 138251) (by omega) (by omega) ?_
      exact law_13 hC hf_61 hf_62 hf_63 hf_64 hf_65 hf_66 hf_67 hf_68 hf_69 hf_70 hf_71 hf_72 hf_73 hK hP hD hS (lv_sub hl [0, 1, 2, 3] rfl)
    ·
      refine lv_tableIn (off := 453) (tgt := 486) hx hb dL_law_33 (by decide) (by decide) (by decide) (by decide) ?_
      refine W.widen (k := 576) (n := 138251) (by omega) (by omega) ?_
      exact law_14 hC hf_61 hf_62 hf_63 hf_64 hf_65 hf_66 hf_67 hf_68 hf_69 hf_70 hf_71 hf_72 hf_73 hK hP hD hS (lv_sub hl [0, 1, 2, 3] rfl)
    ·
      refine lv_tableIn (off := 466) (tgt := 499) hx hb dL_law_33 (by decide) (by decide) (by decide) (by decide) ?_
      refine W.widen (k := 576) (n := 138251) (by omega) (by omega) ?_
      exact law_15 hC hf_61 hf_62 hf_63 hf_64 hf_65 hf_66 hf_67 hf_68 hf_69 hf_70 hf_71 hf_72 hf_73 hK hP hD hS (lv_sub hl [0, 1, 2, 3] rfl)
-- ===== YOUR PART ENDS =====
set_option maxHeartbeats 4000000 in
theorem lw_walk (l : Launch) (b : Addr) (xs : List Int32) : MetFree l x (headSpec (Jvm.Cond.code x code maxLocals ret :: tables_1) room_1) (lw_P b xs) (fun _ _ _ _ _ => True) lw_Q := by
  refine MetFree.of_bodyS (code := code) (maxLocals := maxLocals) (ret := ret) (by decide) ?_ ?_
  · intro args s m h hn
    obtain ⟨meth, c, h1, h2, h3, h4, h5, h6, -, -⟩ := Cond.code_spec hn (atoms_spec (ws := Jvm.Cond.code x code maxLocals ret :: tables_1) h _ List.mem_cons_self)
    exact ⟨meth, c, h1, h2, h3, h4, h5, h6⟩
  · intro p e s m args below meth c s₁ B hml0 hP _
    obtain ⟨rfl, hx, hbd, hgv⟩ := hP
    obtain ⟨scr, harrAt, hlist, hof, hsmall⟩ := hx
    obtain ⟨hcb, hkn, -, -⟩ := State.arrayAt?_spec harrAt
    have hown : s.vm.findClass R_law = some m.cls := findClass_of_methodNamed B.named
    have hts0 : ∀ c ∈ (Jvm.Cond.code x code maxLocals ret :: tables_1), c.before #[Value.ref b] s = true := atoms_spec (ws := Jvm.Cond.code x code maxLocals ret :: tables_1) B.pre
    have hts : ∀ w ∈ lw_tbl, w.before #[Value.ref b] s = true := k2_hts_sels lw_privs (fun w hw => hts0 w (List.mem_cons_of_mem _ hw)) lw_privs_ok
    have hml : c.maxLocals = 4 := B.maxLocals_eq (hts0 _ List.mem_cons_self)
    have X₀ : Stand p l e room_1 s m #[Value.ref b] below meth c s₁ [] 0 0 := Stand.of_body B
    have hh0 : s₁.heap = s.heap := by rw [B.state]; rfl
    have hsz : scr.slots.size = xs.length := by rw [← Array.length_toList, hlist, List.length_map]
    have hval : ∀ j : Nat, j < xs.length → scr.slots[j]? = some (.int (xs.getD j 0)) := fun j hj => by
      rw [← Array.getElem?_toList, hlist]
      simp [hj]
    have hbl : b < s.heap.size := (Array.getElem?_eq_some_iff.mp hcb).1
    have hX : va_X b xs.length (fun j => xs.getD j 0) s s.heap := ⟨scr, hcb, hof, hkn, hsz, hval⟩
    have K : W p l e room_1 s m #[Value.ref b] below meth c s₁.heap [] 0 0 (lw_Z below #[Value.ref b] s) (entryFrame m ([Value.ref b] : List Value).toArray 4) := by
      rw [hh0]
      exact whole_start l hbd ⟨B.exec, B.bytes, B.returns, hml, hown, hts, hX, hbl, B.notSynchronized, hgv⟩
    obtain ⟨t, a1, o, b1, b2, b3⟩ := K s₁ rfl X₀
    exact ⟨t, o, a1, b1, b2, b3⟩
theorem lw_pre_spec {args : Array Value} {s : State} (h : (Jvm.Cond.and given_1 narrow_1).before args s = true) (hr : rest_1_c.before args s = true) : ∃ (b : Addr) (xs : List Int32), lw_P b xs args s := by
  have hs := flat_of_before _ h
  have hq := flat_of_before _ hr
  have hc : (Cond.count 1).before args s = true := hs _ (by decide +kernel)
  have harr : (Cond.arrayOf (.arg 0) .int).before args s = true := hs _ (by decide +kernel)
  have hle : (Cond.le (.length (.arg 0)) (.int 6)).before args s = true := hs _ (by decide +kernel)
  have hlen : (Cond.isInt (.length (.arg 0))).before args s = true := hq _ (by decide +kernel)
  have hall : (Cond.all (.arg 0) (.isInt (.elem (.arg 0) (.index 0)))).before args s = true := hq _ (by decide +kernel)
  obtain ⟨b, xs, hb, hx⟩ := State.ints_of_pre rfl harr hlen hall
  have hsm : xs.length < 2 ^ 31 := hx.choose_spec.2.2.2
  have hev : (Term.length (.arg 0)).eval args s none [] s = some (.int xs.length.toInt32) := hx.length_eval hb
  have hv := Cond.le_ints hev (show (Term.int 6).eval args s none [] s = some (.int 6) from rfl)
  have hd : xs.length.toInt32 ≤ 6 := by
    simpa [Cond.before, Cond.holds, hv] using hle
  have hN : xs.length ≤ 6 := (Int32.ofNat_le_ofNat hsm (by decide)).mp (show Int32.ofNat xs.length ≤ Int32.ofNat 6 from hd)
  exact ⟨b, xs, Cond.one_arg hc (show args[0]? = some (.ref b) from hb), hx, hN, h⟩
theorem lw_comes (l : Launch) : Comes l x (Jvm.Cond.code x code maxLocals ret :: tables_1) room_1 (fun tb e args s => Calls_1 tb e args s ∧ rest_1 tb e args s ∧ Pre_1 tb e args s)
    (fun _ _ args s o t => lw_Q args s o t) := by
  intro p e ha hc hk s m args below hf hfit hheap happ hpre
  obtain ⟨b, xs, hP⟩ := lw_pre_spec hpre.2.2 hpre.2.1
  obtain ⟨k, o, h1, h2, h3, hQ⟩ := lw_walk l b xs p e ha hc hk s m args below hf ((Spec.applies_iff_loose hf).mp happ).1 hP trivial
  exact ⟨k, o, h1, h2, h3, hQ⟩
theorem lw_frame {s t : State} {o : Outcome} {args : Array Value} (h : Framed s o t [] 600000 7302249) :
    Framed s o t (fieldLocs frame_1_writes args s ++ arrayLocs frame_1_arrays args s ++ staticLocs frame_1_statics s) 600000 7302249 := h
theorem lw_limb (L : Cond) (hL : ∀ (args : Array Value) (s t : State), L.after args s (.returned (some (.int 1))) t = true) :
    ArmFor flags0 classFile x code maxLocals ret World_1 tables_1 room_1 Calls_1 rest_1 Pre_1
      (fun tb e a s o t => postC L tb e a s o t ∧ Framed s o t (fieldLocs frame_1_writes a s ++ arrayLocs frame_1_arrays a s ++ staticLocs frame_1_statics s) 600000 7302249) := by
  intro l _ _ _ p e ha hc hk s m args below hf hfit hheap happ hpre
  obtain ⟨k, o, h1, h2, h3, rfl, hF⟩ := lw_comes l p e ha hc hk s m args below hf hfit hheap happ hpre
  exact ⟨k, _, h1, h2, h3, hL args s _, lw_frame hF⟩
theorem i_vc : Claimed_1_1 ∧ Claimed_1_2 := ⟨lw_limb limb_1_1 (fun args s t => by simp [limb_1_1, Cond.after, Cond.holds, Cond.value]), lw_limb limb_1_2 (fun args s t => Cond.after_iff.mpr (by
  first | (rw [show limb_1_2 = Cond.eq .result (.int 1) from rfl, Cond.eq_ints (x := 1) (y := 1) rfl rfl]; simp; done) | (simp [limb_1_2, Cond.value, Term.eval]; done)))⟩
