theorem dX2_init_0 : decode cX2_init 0 = .ok (.aload_n 0, 1) := by decide +kernel
theorem dX2_init_1 : decode cX2_init 1 = .ok (.invokespecial 3, 3) := by decide +kernel
theorem dX2_init_4 : decode cX2_init 4 = .ok (.aload_n 0, 1) := by decide +kernel
theorem dX2_init_5 : decode cX2_init 5 = .ok (.bipush 40, 2) := by decide +kernel
theorem dX2_init_7 : decode cX2_init 7 = .ok (.anewarray 11, 3) := by decide +kernel
theorem dX2_init_10 : decode cX2_init 10 = .ok (.putfield 13, 3) := by decide +kernel
theorem dX2_init_13 : decode cX2_init 13 = .ok (.aload_n 0, 1) := by decide +kernel
theorem dX2_init_14 : decode cX2_init 14 = .ok (.iconst 0, 1) := by decide +kernel
theorem dX2_init_15 : decode cX2_init 15 = .ok (.putfield 17, 3) := by decide +kernel
theorem dX2_init_18 : decode cX2_init 18 = .ok (.iconst 0, 1) := by decide +kernel
theorem dX2_init_19 : decode cX2_init 19 = .ok (.istore_n 1, 1) := by decide +kernel
theorem dX2_init_20 : decode cX2_init 20 = .ok (.iload_n 1, 1) := by decide +kernel
theorem dX2_init_21 : decode cX2_init 21 = .ok (.bipush 40, 2) := by decide +kernel
theorem dX2_init_23 : decode cX2_init 23 = .ok (.if_icmp .ge 22, 3) := by decide +kernel
theorem dX2_init_26 : decode cX2_init 26 = .ok (.aload_n 0, 1) := by decide +kernel
theorem dX2_init_27 : decode cX2_init 27 = .ok (.getfield 13, 3) := by decide +kernel
theorem dX2_init_30 : decode cX2_init 30 = .ok (.iload_n 1, 1) := by decide +kernel
theorem dX2_init_31 : decode cX2_init 31 = .ok (.new 11, 3) := by decide +kernel
theorem dX2_init_34 : decode cX2_init 34 = .ok (.dup, 1) := by decide +kernel
theorem dX2_init_35 : decode cX2_init 35 = .ok (.invokespecial 21, 3) := by decide +kernel
theorem dX2_init_38 : decode cX2_init 38 = .ok (.aastore, 1) := by decide +kernel
theorem dX2_init_39 : decode cX2_init 39 = .ok (.iinc 1 1, 3) := by decide +kernel
theorem dX2_init_42 : decode cX2_init 42 = .ok (.goto (-22), 3) := by decide +kernel
theorem dX2_init_45 : decode cX2_init 45 = .ok (.return_, 1) := by decide +kernel
theorem kt_53 : Cond.methodLink RX2 3 objectInit ∈ tb := tb_at (i := 142) (by decide +kernel) (by decide +kernel)
theorem kt_54 : Cond.classLink RX2 11 RX3 ∈ tb := tb_at (i := 143) (by decide +kernel) (by decide +kernel)
theorem kt_55 : Cond.fieldLink RX2 13 "PostGate$Directory" "entries" "[LPostGate$Entry;" ∈ tb := tb_at (i := 171) (by decide +kernel) (by decide +kernel)
theorem kt_56 : Cond.fieldLink RX2 17 "PostGate$Directory" "count" "I" ∈ tb := tb_at (i := 173) (by decide +kernel) (by decide +kernel)
theorem kt_57 : Cond.instantiable RX3 4 ∈ tb := tb_at (i := 145) (by decide +kernel) (by decide +kernel)
theorem kt_58 : Cond.initialized RX3 ∈ tb := tb_at (i := 84) (by decide +kernel) (by decide +kernel)
theorem kt_59 : Cond.code yX3_init cX3_init 1 none ∈ tb := tb_at (i := 148) (by decide +kernel) (by decide +kernel)
theorem kt_60 : Cond.instanceMethod yX3_init ∈ tb := tb_at (i := 147) (by decide +kernel) (by decide +kernel)
theorem kn_0 : Cond.methodLinkNest RX2 21 yX3_init "PostGate" ∈ nw := nw_at (i := 66) (by decide +kernel) rfl
set_option maxHeartbeats 4000000 in
set_option maxRecDepth 100000 in
theorem c_X2_init (l : Launch) (dC : Nat → ClassId) (dI : Nat → Nat → Nat) (sz : Nat) (h0 : Nat) : Met l yX2_init (.code yX2_init cX2_init 2 none :: tb) ({ frames := 3, cells := 201, slots := 30840, locals := 53 }) (va_Pc [.ref h0] (PW (dC, dI) sz [(h0, .inr (2, [.null, .int 0]))] [])) (va_Qv (fun _ : Unit => True) (fun _ T9 => ∃ (q : Nat), QW (dC, dI) (va_A [(h0, .inr (2, [.null, .int 0]))] sz) [(h0, .inr (2, [.ref q, .int 0]))] [] T9) (va_A [(h0, .inr (2, [.null, .int 0]))] sz)) 201 30840 (va_A [(h0, .inr (2, [.null, .int 0]))] sz) := by
  refine Met.ofW (cc := cX2_init) (maxL := 2) (ret := none) (by decide) rfl ?_
  intro p e s m args below meth c s₁ B hml hv
  obtain ⟨rfl, hsz, hP, hK, hD0, hE⟩ := hv
  have hx := B.exec
  have hb := B.bytes
  have hr := B.returns
  have hts : ∀ w ∈ tb, w.before _ s = true := fun w h => atoms_spec (ws := .code yX2_init cX2_init 2 none :: tb) B.pre w (List.mem_cons_of_mem _ h)
  have hown : s.vm.findClass RX2 = some m.cls := findClass_of_methodNamed B.named
  have hlocks := B.notSynchronized
  have hin : meth.name = "<init>" := (name_of_methodNamed B.named B.method).1
  subst hsz
  have hD := hD0.self (sz := s.heap.size)
  generalize hAe : va_A [(h0, .inr (2, [.null, .int 0]))] s.heap.size = A at hD ⊢
  have hA : ∀ q : Nat, s.heap.size ≤ q → A q := fun q h => by rw [← hAe]; exact Or.inr h
  have hS : va_S A s.heap s.heap [] := va_S.rf
  have hP : va_P (dC, dI) vwCl [(h0, .inr (2, [.null, .int 0]))] s.heap := hP
  have hl := lv_entry ([.ref h0]) (n := 2) (Nat.le_of_ble_eq_true rfl)
  rw [lg_entry_eq]
  generalize (lg_sl ([.ref h0]) ++ List.replicate (2 - (lg_sl ([.ref h0])).length) Slot.unset).toArray = ls at hl ⊢
  have hl : lv_has ls 2 [(0, .ref h0)] := hl
  refine lv_aload_n hx hb dX2_init_0 rfl (lv_at hl 0 rfl) ?_
  refine W.objInit hx hb hown (hts _ kt_53) (hts _ kt_1) (hts _ kt_2) rfl (by rw [hml]; exact hl.1) rfl dX2_init_1 (Nat.le_of_ble_eq_true rfl) (Nat.le_of_ble_eq_true rfl) ?_
  refine W.eq (g2 := F0 m 4 ls []) rfl ?_
  refine lv_aload_n hx hb dX2_init_4 rfl (lv_at hl 0 rfl) ?_
  refine lv_bipush (v := 40) hx hb dX2_init_5 (by decide) ?_
  refine va_newq (N' := 40) hx hb hown (hts _ kt_54) (hE.ao3) hK hP hD hS hA (by decide) (by decide) (by decide) (by show _ + 1 ≤ 201; omega) (by show _ + 40 ≤ 30840; omega) dX2_init_7 (fun q_1 cA_2 H hK hP hD hS => ?_)
  have hK : va_K (dC, dI) vwCl [(cA_2, .object RX3)] s := hK
  have hP : va_P (dC, dI) vwCl [(h0, .inr (2, [.null, .int 0])), (q_1, .inl (cA_2, 40, .inr (.inr (.inr (.inr (fun _ => none))))))] H := hP
  have hD : va_D A [(h0, .inr (2, [.null, .int 0])), (q_1, .inl (cA_2, 40, .inr (.inr (.inr (.inr (fun _ => none))))))] := hD
  refine va_putF (D := (dC, dI)) (ci := 2) (v := .ref q_1) (ty := .array (.object "PostGate$Entry")) (C := RX2) (T := TX2) (N := 2) hx hb hts it_2 tyX2 tyX2_ok nmX2 hown hK hP hD hS 0 rfl rfl 0 (by decide) (hts _ kt_55) (fun _ h9 => h9) rfl hin rfl (by decide +kernel) rfl rfl (Nat.le_of_ble_eq_true rfl) dX2_init_10 (fun H locs hP hD hS => ?_)
  have hP : va_P (dC, dI) vwCl [(h0, .inr (2, [.ref q_1, .int 0])), (q_1, .inl (cA_2, 40, .inr (.inr (.inr (.inr (fun _ => none))))))] H := hP
  have hD : va_D A [(h0, .inr (2, [.ref q_1, .int 0])), (q_1, .inl (cA_2, 40, .inr (.inr (.inr (.inr (fun _ => none))))))] := hD
  refine lv_aload_n hx hb dX2_init_13 rfl (lv_at hl 0 rfl) ?_
  refine lv_iconst (v := 0) hx hb dX2_init_14 (by decide) ?_
  refine va_put (D := (dC, dI)) (ci := 2) (v := .int 0) (ty := .int) (C := RX2) (T := TX2) (N := 2) hx hb hts it_2 tyX2 tyX2_ok nmX2 hown hK hP hD hS 0 rfl rfl 1 (by decide) (hts _ kt_56) (fun _ h9 => h9) rfl (by decide +kernel) rfl rfl (Nat.le_of_ble_eq_true rfl) dX2_init_15 (fun H locs hP hD hS => ?_)
  have hP : va_P (dC, dI) vwCl [(h0, .inr (2, [.ref q_1, .int 0])), (q_1, .inl (cA_2, 40, .inr (.inr (.inr (.inr (fun _ => none))))))] H := hP
  have hD : va_D A [(h0, .inr (2, [.ref q_1, .int 0])), (q_1, .inl (cA_2, 40, .inr (.inr (.inr (.inr (fun _ => none))))))] := hD
  refine lv_iconst (v := 0) hx hb dX2_init_18 (by decide) ?_
  refine lv_istore_n (lv' := [(1, .int 0), (0, .ref h0)]) hx hb dX2_init_19 rfl hl (by decide) rfl (fun ls hl => ?_)
  refine W.widen (k := 1 + 5 * 0) (n := 40 + 770 * 0) (by omega) (by omega) ?_
  refine wl_loop (σ := Nat × (Nat → Option Nat)) A (dC, dI) 20 2 (fun (i, f) => [(h0, .inr (2, [.ref q_1, .int 0])), (q_1, .inl (cA_2, 40, .inr (.inr (.inr (.inr f)))))]) (fun (i, f) => [(1, .int (nI i)), (0, .ref h0)]) (fun (i, f) => []) (fun (i, f) => 1 + 5 * i) (fun (i, f) => 40 + 770 * i) (fun (i, f) => i ≤ 40) (fun (i, f) => 40 - i) ?_ (0, (fun _ => none)) (by first | omega | exact ⟨by omega, by omega⟩) _ _ (hP.sub [0, 1] rfl) (hD.sub [0, 1] (by decide) rfl) hS ls (lv_sub hl [0, 1] rfl)
  rintro ⟨i, f⟩ hv_3 ih_4 H locs hP hD hS ls hl
  have hP : va_P (dC, dI) vwCl [(h0, .inr (2, [.ref q_1, .int 0])), (q_1, .inl (cA_2, 40, .inr (.inr (.inr (.inr f)))))] H := hP
  have hD : va_D A [(h0, .inr (2, [.ref q_1, .int 0])), (q_1, .inl (cA_2, 40, .inr (.inr (.inr (.inr f)))))] := hD
  have hl : lv_has ls 2 [(1, .int (nI i)), (0, .ref h0)] := hl
  have hv_3 : i ≤ 40 := hv_3
  refine W.widen (k := 1 + 5 * i) (n := 40 + 770 * i) (Nat.le_refl _) (Nat.le_refl _) ?_
  refine W.eq (g2 := F0 m 20 ls []) rfl ?_
  refine lv_iload_n hx hb dX2_init_20 rfl (lv_at hl 0 rfl) ?_
  refine lv_bipush (v := 40) hx hb dX2_init_21 (by decide) ?_
  refine lv_icmp_ge (tgt := 45) hx hb dX2_init_23 (by decide) (fun c_5 => ?_) (fun c_5 => ?_)
  ·
    have hi_6 : 40 ≤ i := leN (N := 40) c_5
    have hP9 := hP.sub (ws' := [(h0, .inr (2, [.ref q_1, .int 0]))]) [0] rfl
    have hD9 := hD.sub (ws' := [(h0, .inr (2, [.ref q_1, .int 0]))]) [0] (by decide) rfl
    have hK9 := hK.sub (tys' := []) [] rfl
    refine W.widen (k := 201) (n := 30840) (by omega) (by omega) ?_
    exact W.vret hx hb hr (fun t ht hW => ⟨⟨(), rfl, trivial, ⟨q_1, QW.mk ht hW hP9 hK9 hD9⟩⟩, hS.F ht⟩) hS.2.2 dX2_init_45
  ·
    have hi_7 : i < 40 := ltN (N := 40) c_5
    refine lv_aload_n hx hb dX2_init_26 rfl (lv_at hl 1 rfl) ?_
    refine va_get (D := (dC, dI)) (ci := 2) (v := .ref q_1) (C := RX2) (T := TX2) (N := 2) hx hb hts it_2 hown hK hP 0 rfl rfl 0 (by decide) (hts _ kt_55) (fun _ h9 => h9) rfl dX2_init_27 ?_
    refine lv_iload_n hx hb dX2_init_30 rfl (lv_at hl 0 rfl) ?_
    refine va_new (ci := 3) (fs := [.null, .null, .int 0, .int 0]) (C := RX3) (T := TX3) (N := 4) hx hb hts it_3 tyX3 tyX3_ok hown (hts _ kt_54) (hts _ kt_57) (hts _ kt_58) hK hP hD hS hA rfl df_3 (by show _ + 1 ≤ 201; omega) (by show _ + 4 ≤ 30840; omega) dX2_init_31 (fun q_8 H hP hD hS => ?_)
    have hP : va_P (dC, dI) vwCl [(h0, .inr (2, [.ref q_1, .int 0])), (q_1, .inl (cA_2, 40, .inr (.inr (.inr (.inr f))))), (q_8, .inr (3, [.null, .null, .int 0, .int 0]))] H := hP
    have hD : va_D A [(h0, .inr (2, [.ref q_1, .int 0])), (q_1, .inl (cA_2, 40, .inr (.inr (.inr (.inr f))))), (q_8, .inr (3, [.null, .null, .int 0, .int 0]))] := hD
    refine lv_dup hx hb dX2_init_34 rfl ?_
    have hPc := hP.sub (ws' := [(q_8, .inr (3, [.null, .null, .int 0, .int 0]))]) [2] rfl
    have hDc := hD.sub (ws' := [(q_8, .inr (3, [.null, .null, .int 0, .int 0]))]) [2] (by decide) rfl
    have hKc := hK.sub (tys' := []) [] rfl
    have hFc := va_free (wc := [(q_8, .inr (3, [.null, .null, .int 0, .int 0]))]) hD hS hA [2] rfl
    refine va_callv (va_runIN (As := []) (rest := [.ref q_8, .int (nI i), .ref q_1]) ⟨hx, hb, hml, hown, hts⟩ (c_X3_init l dC dI H.size q_8 ) ⟨va_cnB 0 hts (gi kt_59) rfl rfl rfl (hE.nestw kn_0) (hts _ kt_58) (by decide +kernel) ⟨Nat.le_of_ble_eq_true rfl, Nat.le_of_ble_eq_true rfl⟩, rfl, (hts _ kt_60)⟩ ⟨fun a U g mk q => ⟨q.1, PW.calling q.2⟩, fun U hU hW => ⟨rfl, PW.mk hU hW hPc hKc hDc hE⟩⟩ rfl rfl hl.1 rfl (lv_room (Nat.le_of_ble_eq_true rfl)) dX2_init_35 ⟨by show _ + 4 ≤ 201; omega, by show _ + 766 ≤ 30840; omega⟩) hS (fun q _ h => hFc q h) hFc (fun u t H1 locs ht hvm hw hB hz1 hk1 hS => ?_)
    obtain ⟨q1_10, q2_11, hB1⟩ := hB
    obtain ⟨hP, hD, hK⟩ := QW.join (wr := [(h0, .inr (2, [.ref q_1, .int 0])), (q_1, .inl (cA_2, 40, .inr (.inr (.inr (.inr f)))))]) hP hD hK [2] [0, 1] rfl rfl (by decide) (by decide) hk1 hFc ht hvm hB1
    generalize H1 = H at hP hS ⊢
    have hK : va_K (dC, dI) vwCl [(cA_2, .object RX3)] s := hK.sub [0] rfl
    have hP : va_P (dC, dI) vwCl [(h0, .inr (2, [.ref q_1, .int 0])), (q_1, .inl (cA_2, 40, .inr (.inr (.inr (.inr f))))), (q_8, .inr (3, [.ref q1_10, .ref q2_11, .int 0, .int 0]))] H := hP
    have hD : va_D A [(h0, .inr (2, [.ref q_1, .int 0])), (q_1, .inl (cA_2, 40, .inr (.inr (.inr (.inr f))))), (q_8, .inr (3, [.ref q1_10, .ref q2_11, .int 0, .int 0]))] := hD
    refine va_astq (r := (RX3, TX3, 4)) hx hb hK hP hD hS 1 0 2 3 rfl rfl rfl rfl (vp_in_nI (by omega) (by omega)) dX2_init_38 (fun H locs hP hD hS => ?_)
    obtain ⟨f_12, hP, hD⟩ : ∃ f_12 : Nat → Option Nat, va_P (dC, dI) vwCl [(h0, .inr (2, [.ref q_1, .int 0])), (q_1, .inl (cA_2, 40, .inr (.inr (.inr (.inr f_12))))), (q_8, .inr (3, [.ref q1_10, .ref q2_11, .int 0, .int 0]))] H ∧ va_D A [(h0, .inr (2, [.ref q_1, .int 0])), (q_1, .inl (cA_2, 40, .inr (.inr (.inr (.inr f_12))))), (q_8, .inr (3, [.ref q1_10, .ref q2_11, .int 0, .int 0]))] := ⟨_, hP, hD⟩
    refine lv_iinc (v := (nI (i + 1))) (lv' := [(1, .int (nI (i + 1))), (0, .ref h0)]) hx hb dX2_init_39 hl (k := 0) rfl (nI_1 _) (by decide) rfl (fun ls hl => ?_)
    refine lv_goto (tgt := 20) hx hb dX2_init_42 (by decide) ?_
    refine W.widen (k := 1 + 5 * (i + 1)) (n := 40 + 770 * (i + 1)) (by omega) (by omega) ?_
    exact ih_4 ((i + 1), f_12) (by first | omega | exact ⟨by omega, by omega⟩) (by show 40 - (i + 1) < 40 - i; omega) _ _ (hP.sub [0, 1] rfl) (hD.sub [0, 1] (by decide) rfl) hS ls (lv_sub hl [0, 1] rfl)
