theorem dX2_init_0 : decode cX2_init 0 = .ok (.aload_n 0, 1) := by decide +kernel
theorem dX2_init_1 : decode cX2_init 1 = .ok (.invokespecial 3, 3) := by decide +kernel
theorem dX2_init_4 : decode cX2_init 4 = .ok (.aload_n 0, 1) := by decide +kernel
theorem dX2_init_5 : decode cX2_init 5 = .ok (.bipush 40, 2) := by decide +kernel
theorem dX2_init_7 : decode cX2_init 7 = .ok (.anewarray 11, 3) := by decide +kernel
theorem dX2_init_10 : decode cX2_init 10 = .ok (.putfield 13, 3) := by decide +kernel
theorem dX2_init_13 : decode cX2_init 13 = .ok (.aload_n 0, 1) := by decide +kernel
theorem dX2_init_14 : decode cX2_init 14 = .ok (.iconst 0, 1) := by decide +kernel
theorem dX2_init_15 : decode cX2_init 15 = .ok (.putfield 17, 3) := by decide +kernel
theorem dX2_init_18 : decode cX2_init 18 = .ok (.iconst 0, 1) := by decide +kernel
theorem dX2_init_19 : decode cX2_init 19 = .ok (.istore_n 1, 1) := by decide +kernel
theorem dX2_init_20 : decode cX2_init 20 = .ok (.iload_n 1, 1) := by decide +kernel
theorem dX2_init_21 : decode cX2_init 21 = .ok (.bipush 40, 2) := by decide +kernel
theorem dX2_init_23 : decode cX2_init 23 = .ok (.if_icmp .ge 22, 3) := by decide +kernel
theorem dX2_init_26 : decode cX2_init 26 = .ok (.aload_n 0, 1) := by decide +kernel
theorem dX2_init_27 : decode cX2_init 27 = .ok (.getfield 13, 3) := by decide +kernel
theorem dX2_init_30 : decode cX2_init 30 = .ok (.iload_n 1, 1) := by decide +kernel
theorem dX2_init_31 : decode cX2_init 31 = .ok (.new 11, 3) := by decide +kernel
theorem dX2_init_34 : decode cX2_init 34 = .ok (.dup, 1) := by decide +kernel
theorem dX2_init_35 : decode cX2_init 35 = .ok (.invokespecial 21, 3) := by decide +kernel
theorem dX2_init_38 : decode cX2_init 38 = .ok (.aastore, 1) := by decide +kernel
theorem dX2_init_39 : decode cX2_init 39 = .ok (.iinc 1 1, 3) := by decide +kernel
theorem dX2_init_42 : decode cX2_init 42 = .ok (.goto (-22), 3) := by decide +kernel
theorem dX2_init_45 : decode cX2_init 45 = .ok (.return_, 1) := by decide +kernel
theorem kt_1039 : Cond.methodLink RX2 3 objectInit ∈ tb := tb_at (i := 142) (by decide +kernel) (by decide +kernel)
theorem kt_1040 : Cond.classLink RX2 11 RX3 ∈ tb := tb_at (i := 143) (by decide +kernel) (by decide +kernel)
theorem kt_1041 : Cond.instantiable RX3 4 ∈ tb := tb_at (i := 145) (by decide +kernel) (by decide +kernel)
theorem kt_1042 : Cond.initialized RX3 ∈ tb := tb_at (i := 84) (by decide +kernel) (by decide +kernel)
theorem kt_1043 : Cond.code yX3_init cX3_init 1 none ∈ tb := tb_at (i := 148) (by decide +kernel) (by decide +kernel)
theorem kt_1044 : Cond.instanceMethod yX3_init ∈ tb := tb_at (i := 147) (by decide +kernel) (by decide +kernel)
theorem kn_44 : Cond.methodLinkNest RX2 21 yX3_init "PostGate" ∈ nw := nw_at (i := 66) (by decide +kernel) rfl
def FILJ (Q : Nat → TyE → Prop) (L : List Nat) (ty : TyM) (f : Nat → Option Nat) (j : Nat) : Prop := ∀ i, i < j → ∃ b, f i = some b ∧ b ∈ L ∧ Q i (ty b)
theorem FILJ.nil {Q : Nat → TyE → Prop} {L : List Nat} {ty : TyM} {f : Nat → Option Nat} : FILJ Q L ty f 0 := fun _ h => absurd h (Nat.not_lt_zero _)
theorem FILJ.keep {Q : Nat → TyE → Prop} {L L9 : List Nat} {ty t9 : TyM} {f : Nat → Option Nat} {j : Nat} (hold : ∀ a ∈ L, a ∈ L9 ∧ t9 a = ty a) (h : FILJ Q L ty f j) : FILJ Q L9 t9 f j := by
  intro i hi
  obtain ⟨b, h1, h2, h3⟩ := h i hi
  exact ⟨b, h1, (hold b h2).1, by rw [(hold b h2).2]; exact h3⟩
theorem FILJ.add {Q : Nat → TyE → Prop} {L : List Nat} {ty : TyM} {f : Nat → Option Nat} {j b : Nat} (h : FILJ Q L ty f j) (hj : j < 2 ^ 31) (hb : b ∈ L) (hq : Q j (ty b)) : FILJ Q L ty (va_up f (nI j).toNatClampNeg (some b)) (j + 1) := by
  intro i hi
  rw [nI_clamp hj]
  by_cases c : i = j
  · subst c
    exact ⟨b, by simp [va_up], hb, hq⟩
  · obtain ⟨b2, h1, h2, h3⟩ := h i (by omega)
    exact ⟨b2, by simp [va_up, c, h1], h2, h3⟩
set_option maxHeartbeats 4000000 in
set_option maxRecDepth 100000 in
theorem k_X2_init (l : Launch) (dC : Nat → ClassId) (dI : Nat → Nat → Nat) (cs : Nat → ClassId) (sz : Nat) (h0 : Nat) (ρ : Nat) : Met l yX2_init (.code yX2_init cX2_init 2 none :: tb) ({ frames := 3, cells := 201, slots := 30840, locals := 53 }) (va_Pc [.ref h0] (PT (dC, dI) cs RAWT [h0] (fun _ => .inr (2, [.null, .int 0])) sz)) (va_Qv (fun _ : Unit => True) (fun _ T9 => ∃ (L2 : List Nat) (F2 : Nat → va_E) (ty2 : TyM), ∃ x : Nat, NEW (dC, dI) cs ty2 L2 F2 (va_A (va_pl [h0] (fun _ => .inr (2, [.null, .int 0]))) sz) T9.heap ∧ h0 ∈ L2 ∧ ty2 h0 = (2, ρ, [x]) ∧ F2 h0 = .inr (2, [.ref x, .int 0])) (va_A (va_pl [h0] (fun _ => .inr (2, [.null, .int 0]))) sz)) 201 30840 (va_A (va_pl [h0] (fun _ => .inr (2, [.null, .int 0]))) sz) := by
  refine Met.ofW (cc := cX2_init) (maxL := 2) (ret := none) (by decide) rfl ?_
  intro p e s m args below meth c s₁ B hml hv
  obtain ⟨rfl, hsz, hP, hK, hD0, hE, hO⟩ := hv
  have hx := B.exec
  have hb := B.bytes
  have hr := B.returns
  have hts : ∀ w ∈ tb, w.before _ s = true := fun w h => atoms_spec (ws := .code yX2_init cX2_init 2 none :: tb) B.pre w (List.mem_cons_of_mem _ h)
  have hown : s.vm.findClass RX2 = some m.cls := findClass_of_methodNamed B.named
  have hin : meth.name = "<init>" := (name_of_methodNamed B.named B.method).1
  have hlocks := B.notSynchronized
  subst hsz
  have hD := hD0.self (sz := s.heap.size)
  generalize hAe : va_A (va_pl [h0] (fun _ => .inr (2, [.null, .int 0]))) s.heap.size = A at hD ⊢
  have hA : ∀ q : Nat, s.heap.size ≤ q → A q := fun q h => by rw [← hAe]; exact Or.inr h
  have hS : va_S A s.heap s.heap [] := va_S.rf
  have hl := lv_entry ([.ref h0]) (n := 2) (Nat.le_of_ble_eq_true rfl)
  rw [lg_entry_eq]
  generalize (lg_sl ([.ref h0]) ++ List.replicate (2 - (lg_sl ([.ref h0])).length) Slot.unset).toArray = ls at hl ⊢
  have hl : lv_has ls 2 [(0, .ref h0)] := hl
  obtain ⟨L, ty, F, hN, hL_h0, hT_h0, hF_h0⟩ : ∃ (L : List Nat) (t9 : TyM) (F : Nat → va_E), NEW (dC, dI) cs t9 L F A s.heap ∧ h0 ∈ L ∧ t9 h0 = (99, 0, []) ∧ F h0 = .inr (2, [.null, .int 0]) := ⟨[h0], RAWT, fun _ => .inr (2, [.null, .int 0]), ⟨hP, hD, hO, fun a _ => wta_raw rfl⟩, List.mem_singleton.mpr rfl, rfl, rfl⟩
  obtain ⟨hP, hD, hO, hW⟩ := hN
  have hfs : ∀ p ∈ ([] : List (Nat × TyE)), p.1 ∈ L ∧ ty p.1 = p.2 := fun p h => absurd h List.not_mem_nil
  refine lv_aload_n hx hb dX2_init_0 rfl (lv_at hl 0 rfl) ?_
  refine W.objInit hx hb hown (hts _ kt_1039) (hts _ kt_1009) (hts _ kt_1010) rfl (by rw [hml]; exact hl.1) rfl dX2_init_1 (Nat.le_of_ble_eq_true rfl) (Nat.le_of_ble_eq_true rfl) ?_
  refine W.eq (g2 := F0 m 4 ls []) rfl ?_
  refine lv_aload_n hx hb dX2_init_4 rfl (lv_at hl 0 rfl) ?_
  refine lv_bipush (v := 40) hx hb dX2_init_5 (by decide) ?_
  refine va_newq (N' := 40) hx hb hown (hts _ kt_1040) (hE.ao3) hK hP hD hS hA (by decide) (by decide) (by decide) (by show _ + 1 ≤ 201; omega) (by show _ + 40 ≤ 30840; omega) dX2_init_7 (fun q_1 cA H hKn hPa hDa hS => ?_)
  obtain rfl := cid_o3 hK hKn
  obtain ⟨L, ty, F_2, hN9, hold, holdF, hL_q_1, hT_q_1, hF_q_1⟩ := grow1 (e := (99, 0, [])) hPa hDa hO hW (sh.raw rtf_self) (wta_raw rtf_self)
  obtain ⟨hP, hD, hO, hW⟩ := hN9
  have hT_h0 := (hold _ hL_h0).2.trans hT_h0
  have hF_h0 := (holdF _ hL_h0).1.trans hF_h0
  have hne_h0_q_1 := (holdF _ hL_h0).2
  have hL_h0 := (hold _ hL_h0).1
  have hfs := gr_keep hold hfs
  refine pg_putF (ci := 2) (v := .ref q_1) (ty := .array (.object "PostGate$Entry")) (C := RX2) (T := TX2) (N := 2) hx hb hts it_2 tyX2 tyX2_ok nmX2 hown hK hP hD hS hL_h0 hF_h0 rfl 0 (by decide) (hts _ kt_84) (fun _ h9 => h9) rfl hin rfl (by decide +kernel) (rfl) (rfl) (Nat.le_of_ble_eq_true rfl) dX2_init_10 (fun H locs hP hD hS => ?_)
  obtain ⟨F_3, he_4, hP, hD, hO⟩ : ∃ G, G = va_up F_2 h0 (.inr (2, [.ref q_1, .int 0])) ∧ va_P (dC, dI) vwCl (va_pl L G) H ∧ va_D A (va_pl L G) ∧ OK cs ty L G := ⟨_, rfl, hP, hD, hO.up (sh.raw hT_h0)⟩
  have hF_5 : F_3 h0 = .inr (2, [.ref q_1, .int 0]) := by rw [he_4]; exact up_self
  have hF_6 : F_3 q_1 = .inl (cs 21, 40, .inr (.inr (.inr (.inr (fun _ => none))))) := by rw [he_4, up_ne hne_h0_q_1.symm]; exact hF_q_1
  refine lv_aload_n hx hb dX2_init_13 rfl (lv_at hl 0 rfl) ?_
  refine lv_iconst (v := 0) hx hb dX2_init_14 (by decide) ?_
  refine pg_put (ci := 2) (v := .int 0) (ty := .int) (C := RX2) (T := TX2) (N := 2) hx hb hts it_2 tyX2 tyX2_ok nmX2 hown hK hP hD hS hL_h0 hF_5 rfl 1 (by decide) (hts _ kt_83) (fun _ h9 => h9) rfl (by decide +kernel) (rfl) (rfl) (Nat.le_of_ble_eq_true rfl) dX2_init_15 (fun H locs hP hD hS => ?_)
  obtain ⟨F_7, he_8, hP, hD, hO⟩ : ∃ G, G = va_up F_3 h0 (.inr (2, [.ref q_1, .int 0])) ∧ va_P (dC, dI) vwCl (va_pl L G) H ∧ va_D A (va_pl L G) ∧ OK cs ty L G := ⟨_, rfl, hP, hD, hO.up (sh.raw hT_h0)⟩
  have hF_9 : F_7 h0 = .inr (2, [.ref q_1, .int 0]) := by rw [he_8]; exact up_self
  have hF_10 : F_7 q_1 = .inl (cs 21, 40, .inr (.inr (.inr (.inr (fun _ => none))))) := by rw [he_8, up_ne hne_h0_q_1.symm]; exact hF_6
  refine lv_iconst (v := 0) hx hb dX2_init_18 (by decide) ?_
  refine lv_istore_n (lv' := [(1, .int 0), (0, .ref h0)]) hx hb dX2_init_19 rfl hl (by decide) rfl (fun ls hl => ?_)
  refine W.widen (k := 1 + 5 * 0) (n := 40 + 770 * 0) (by omega) (by omega) ?_
  refine gr_loop (σ := Nat × (Nat → Option Nat)) A (dC, dI) cs 20 2 (fun (j, fe) => [(1, .int (nI j)), (0, .ref h0)]) (fun (j, fe) => []) (fun (j, fe) => 1 + 5 * j) (fun (j, fe) => 40 + 770 * j) (fun (j, fe) ty L FF => (j ≤ 40 ∧ FILJ (fun j9 e9 => ∃ x y, e9 = (3, ρ + j9 + j9 + j9 + 100, [x, y])) L ty fe j) ∧ h0 ∈ L ∧ ty h0 = (99, 0, []) ∧ FF h0 = .inr (2, [.ref q_1, .int 0]) ∧ q_1 ∈ L ∧ ty q_1 = (99, 0, []) ∧ FF q_1 = .inl (cs 21, 40, .inr (.inr (.inr (.inr fe)))) ∧ (∀ p ∈ ([] : List (Nat × TyE)), p.1 ∈ L ∧ ty p.1 = p.2)) (fun (j, fe) => 40 - j) ?_ (0, (fun _ => none)) ty L F_7 ⟨⟨by omega, FILJ.nil⟩, hL_h0, hT_h0, hF_9, hL_q_1, hT_q_1, hF_10, hfs⟩ _ _ ⟨hP, hD, hO, hW⟩ hS ls (lv_sub hl [0, 1] rfl)
  rintro ⟨j, fe⟩ ty L F_11 hv_12 ih_13 H locs hN9 hS ls hl
  have hl : lv_has ls 2 [(1, .int (nI j)), (0, .ref h0)] := hl
  obtain ⟨hu, hL_h0, hT_h0, hF_h0, hL_q_1, hT_q_1, hF_q_1, hfs⟩ := hv_12
  have hu : j ≤ 40 ∧ FILJ (fun j9 e9 => ∃ x y, e9 = (3, ρ + j9 + j9 + j9 + 100, [x, y])) L ty fe j := hu
  obtain ⟨hP, hD, hO, hW⟩ := hN9
  refine W.eq (g2 := F0 m 20 ls []) rfl ?_
  refine W.widen (k := 1 + 5 * j) (n := 40 + 770 * j) (Nat.le_refl _) (Nat.le_refl _) ?_
  obtain ⟨hu1, hu2⟩ := hu
  refine lv_iload_n hx hb dX2_init_20 rfl (lv_at hl 0 rfl) ?_
  refine lv_bipush (v := 40) hx hb dX2_init_21 (by decide) ?_
  refine lv_icmp_ge (tgt := 45) hx hb dX2_init_23 (by decide) (fun c_14 => ?_) (fun c_14 => ?_)
  ·
    have hi_15 : 40 ≤ j := leN (N := 40) c_14
    have hr9 : (ty q_1).1 = 99 := by rw [hT_q_1]
    have hN9 : NEW (dC, dI) cs (rtf ty q_1 (21, ρ, [40])) L F_11 A H := NEW.into ⟨hP, hD, hO, hW⟩ hr9 (by rw [hF_q_1]; exact sh.rentry rtf_self ⟨_, rfl, fun i hi => by obtain ⟨b, h1, h2, x, y, h3⟩ := hu2 i (by omega); exact ⟨b, x, y, h1, h2, rtf_old hr9 h3 (by decide)⟩⟩) (wta_rentry rtf_self trivial)
    obtain ⟨ty, hty9, hN9, hfs, hT_h0⟩ : ∃ t9 : TyM, t9 = rtf ty q_1 (21, ρ, [40]) ∧ NEW (dC, dI) cs t9 L F_11 A H ∧ (∀ p ∈ ((q_1, (21, ρ, [40])) :: [] : List (Nat × TyE)), p.1 ∈ L ∧ t9 p.1 = p.2) ∧ t9 h0 = (99, 0, []) := ⟨_, rfl, hN9, into_fs hr9 hfs (by simp) hL_q_1, (rtf_ne hne_h0_q_1).trans hT_h0⟩
    obtain ⟨hP, hD, hO, hW⟩ := hN9
    have hr9 : (ty h0).1 = 99 := by rw [hT_h0]
    have hN9 : NEW (dC, dI) cs (rtf ty h0 (2, ρ, [q_1])) L F_11 A H := NEW.into ⟨hP, hD, hO, hW⟩ hr9 (by rw [hF_h0]; exact sh.dir rtf_self ⟨0, rfl, (by first | omega | assumption | exact Or.inl rfl | exact Or.inr rfl)⟩) (wta_dir rtf_self ⟨(hfs _ (List.mem_cons_self)).1, rtf_old hr9 (hfs _ (List.mem_cons_self)).2 (by decide)⟩)
    refine W.widen (k := 201) (n := 30840) (by omega) (by omega) ?_
    exact W.vret hx hb hr (fun t ht hWm => ⟨⟨(), rfl, trivial, ⟨L, F_11, rtf ty h0 (2, ρ, [q_1]), q_1, (by rw [ht]; exact hN9), hL_h0, rtf_self, hF_h0⟩⟩, hS.F ht⟩) hS.2.2 dX2_init_45
  ·
    have hi_16 : j < 40 := ltN (N := 40) c_14
    refine lv_aload_n hx hb dX2_init_26 rfl (lv_at hl 1 rfl) ?_
    refine pg_get (ci := 2) (v := .ref q_1) (C := RX2) (T := TX2) (N := 2) hx hb hts it_2 hown hK hP hL_h0 hF_h0 rfl 0 (by decide) (hts _ kt_84) (fun _ h9 => h9) rfl dX2_init_27 ?_
    refine lv_iload_n hx hb dX2_init_30 rfl (lv_at hl 0 rfl) ?_
    refine va_new (ci := 3) (fs := [.null, .null, .int 0, .int 0]) (C := RX3) (T := TX3) (N := 4) hx hb hts it_3 tyX3 tyX3_ok hown (hts _ kt_1040) (hts _ kt_1041) (hts _ kt_1042) hK hP hD hS hA rfl df_3 (by show _ + 1 ≤ 201; omega) (by show _ + 4 ≤ 30840; omega) dX2_init_31 (fun q_17 H hPa hDa hS => ?_)
    have hP := left1 hPa
    have hD := left2 hDa
    refine lv_dup hx hb dX2_init_34 rfl ?_
    refine W.eq (g2 := F0 m 35 ls [.ref q_17, .ref q_17, .int (nI j), .ref q_1]) rfl ?_
    have hFc := free1 hDa hS hA
    have hPq := right1 hPa
    refine va_callv (va_runIN (As := []) (rest := [.ref q_17, .int (nI j), .ref q_1]) ⟨hx, hb, hml, hown, hts⟩ (k_X3_init l dC dI cs H.size q_17 (ρ + j + j + j + 100) ) ⟨va_cnB 0 hts (gi kt_1043) rfl rfl rfl (hE.nestw kn_44) (hts _ kt_1042) (by decide +kernel) ⟨Nat.le_of_ble_eq_true rfl, Nat.le_of_ble_eq_true rfl⟩, rfl, (hts _ kt_1044)⟩ ⟨fun a U g mk q => ⟨q.1, PT.calling q.2⟩, fun U hU hWm => ⟨rfl, PT.mk hU hWm hPq hK one1 hE (fun a _ => sh.raw rfl)⟩⟩ rfl rfl hl.1 rfl (lv_room (Nat.le_of_ble_eq_true rfl)) dX2_init_35 ⟨by show _ + 4 ≤ 201; omega, by show _ + 766 ≤ 30840; omega⟩) hS (fun q _ h => hFc q h) hFc (fun u t H1 locs ht hvm hw hB hz1 hk1 hS => ?_)
    obtain ⟨L2, F2, ty2, x_18, y_19, hN2, hc1, hc2⟩ := hB
    rw [ht] at hN2
    obtain ⟨L, ty, F_20, hN9, hold, holdF, hnew, hnewF⟩ := join1 hPa hDa hO hW hk1 hFc hN2
    obtain ⟨hP, hD, hO, hW⟩ := hN9
    generalize H1 = H at hP hS ⊢
    have hL_q_17 := (hnew _ hc1).1
    have hT_q_17 := (hnew _ hc1).2.trans hc2
    have hT_h0 := (hold _ hL_h0).2.trans hT_h0
    have hF_h0 := (holdF _ hL_h0).1.trans hF_h0
    have hnx_h0 := (holdF _ hL_h0).2
    have hL_h0 := (hold _ hL_h0).1
    have hT_q_1 := (hold _ hL_q_1).2.trans hT_q_1
    have hF_q_1 := (holdF _ hL_q_1).1.trans hF_q_1
    have hnx_q_1 := (holdF _ hL_q_1).2
    have hL_q_1 := (hold _ hL_q_1).1
    have hfs := gr_cons hold hfs hL_q_17 hT_q_17
    have hu2 := hu2.keep hold
    obtain ⟨hi_21, hi_22, ⟨r_23, ht_24⟩, ⟨r_25, ht_26⟩⟩ := hW.entry hL_q_17 hT_q_17
    have ht_24 : ty x_18 = (0, ρ + j + j + j + 101, [r_23, 60]) := ht_24
    have ht_26 : ty y_19 = (0, ρ + j + j + j + 102, [r_25, 700]) := ht_26
    obtain ⟨v0_27, v1_28, hF_29⟩ := hO.entry hL_q_17 hT_q_17
    refine pg_aast (r := (RX3, TX3, 4)) hx hb hK hP hD hS hL_q_1 5 3 hF_q_1 rfl hL_q_17 hF_29 rfl (vp_in_nI (by omega) (by omega)) dX2_init_38 (fun H locs hP hD hS => ?_)
    obtain ⟨F_30, he_31, hP, hD, hO⟩ : ∃ G, G = va_up F_20 q_1 (.inl (cs 21, 40, .inr (.inr (.inr (.inr (va_up fe ((nI j)).toNatClampNeg (some q_17))))))) ∧ va_P (dC, dI) vwCl (va_pl L G) H ∧ va_D A (va_pl L G) ∧ OK cs ty L G := ⟨_, rfl, hP, hD, hO.up (sh.raw hT_q_1)⟩
    have hF_32 : F_30 q_1 = .inl (cs 21, 40, .inr (.inr (.inr (.inr (va_up fe ((nI j)).toNatClampNeg (some q_17)))))) := by rw [he_31]; exact up_self
    have hF_33 : F_30 h0 = .inr (2, [.ref q_1, .int 0]) := by rw [he_31, up_ne hne_h0_q_1]; exact hF_h0
    refine lv_iinc (v := (nI (j + 1))) (lv' := [(1, .int (nI (j + 1))), (0, .ref h0)]) hx hb dX2_init_39 hl (k := 0) rfl (nI_1 _) (by decide) rfl (fun ls hl => ?_)
    refine lv_goto (tgt := 20) hx hb dX2_init_42 (by decide) ?_
    refine W.widen (k := 1 + 5 * (j + 1)) (n := 40 + 770 * (j + 1)) (by omega) (by omega) ?_
    exact ih_13 ((j + 1), (va_up fe ((nI j)).toNatClampNeg (some q_17))) ty L F_30 ⟨⟨by omega, hu2.add (by omega) hL_q_17 ⟨_, _, hT_q_17⟩⟩, hL_h0, hT_h0, hF_33, hL_q_1, hT_q_1, hF_32, fsub hfs (fun _ h => List.mem_cons_of_mem _ (h))⟩ (by show 40 - (j + 1) < 40 - j; omega) _ _ ⟨hP, hD, hO, hW⟩ hS ls (lv_sub hl [0, 1] rfl)
