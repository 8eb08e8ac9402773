theorem dX1_init_0 : decode cX1_init 0 = .ok (.aload_n 0, 1) := by decide +kernel
theorem dX1_init_1 : decode cX1_init 1 = .ok (.invokespecial 5, 3) := by decide +kernel
theorem dX1_init_4 : decode cX1_init 4 = .ok (.aload_n 0, 1) := by decide +kernel
theorem dX1_init_5 : decode cX1_init 5 = .ok (.new 11, 3) := by decide +kernel
theorem dX1_init_8 : decode cX1_init 8 = .ok (.dup, 1) := by decide +kernel
theorem dX1_init_9 : decode cX1_init 9 = .ok (.bipush 91, 2) := by decide +kernel
theorem dX1_init_11 : decode cX1_init 11 = .ok (.invokespecial 13, 3) := by decide +kernel
theorem dX1_init_14 : decode cX1_init 14 = .ok (.putfield 16, 3) := by decide +kernel
theorem dX1_init_17 : decode cX1_init 17 = .ok (.aload_n 0, 1) := by decide +kernel
theorem dX1_init_18 : decode cX1_init 18 = .ok (.new 11, 3) := by decide +kernel
theorem dX1_init_21 : decode cX1_init 21 = .ok (.dup, 1) := by decide +kernel
theorem dX1_init_22 : decode cX1_init 22 = .ok (.bipush 30, 2) := by decide +kernel
theorem dX1_init_24 : decode cX1_init 24 = .ok (.invokespecial 13, 3) := by decide +kernel
theorem dX1_init_27 : decode cX1_init 27 = .ok (.putfield 20, 3) := by decide +kernel
theorem dX1_init_30 : decode cX1_init 30 = .ok (.aload_n 0, 1) := by decide +kernel
theorem dX1_init_31 : decode cX1_init 31 = .ok (.new 11, 3) := by decide +kernel
theorem dX1_init_34 : decode cX1_init 34 = .ok (.dup, 1) := by decide +kernel
theorem dX1_init_35 : decode cX1_init 35 = .ok (.bipush 60, 2) := by decide +kernel
theorem dX1_init_37 : decode cX1_init 37 = .ok (.invokespecial 13, 3) := by decide +kernel
theorem dX1_init_40 : decode cX1_init 40 = .ok (.putfield 23, 3) := by decide +kernel
theorem dX1_init_43 : decode cX1_init 43 = .ok (.aload_n 0, 1) := by decide +kernel
theorem dX1_init_44 : decode cX1_init 44 = .ok (.new 11, 3) := by decide +kernel
theorem dX1_init_47 : decode cX1_init 47 = .ok (.dup, 1) := by decide +kernel
theorem dX1_init_48 : decode cX1_init 48 = .ok (.bipush 15, 2) := by decide +kernel
theorem dX1_init_50 : decode cX1_init 50 = .ok (.invokespecial 13, 3) := by decide +kernel
theorem dX1_init_53 : decode cX1_init 53 = .ok (.putfield 26, 3) := by decide +kernel
theorem dX1_init_56 : decode cX1_init 56 = .ok (.aload_n 0, 1) := by decide +kernel
theorem dX1_init_57 : decode cX1_init 57 = .ok (.bipush 12, 2) := by decide +kernel
theorem dX1_init_59 : decode cX1_init 59 = .ok (.anewarray 11, 3) := by decide +kernel
theorem dX1_init_62 : decode cX1_init 62 = .ok (.putfield 29, 3) := by decide +kernel
theorem dX1_init_65 : decode cX1_init 65 = .ok (.aload_n 0, 1) := by decide +kernel
theorem dX1_init_66 : decode cX1_init 66 = .ok (.bipush 11, 2) := by decide +kernel
theorem dX1_init_68 : decode cX1_init 68 = .ok (.anewarray 33, 3) := by decide +kernel
theorem dX1_init_71 : decode cX1_init 71 = .ok (.putfield 35, 3) := by decide +kernel
theorem dX1_init_74 : decode cX1_init 74 = .ok (.aload_n 0, 1) := by decide +kernel
theorem dX1_init_75 : decode cX1_init 75 = .ok (.iconst 0, 1) := by decide +kernel
theorem dX1_init_76 : decode cX1_init 76 = .ok (.putfield 39, 3) := by decide +kernel
theorem dX1_init_79 : decode cX1_init 79 = .ok (.aload_n 0, 1) := by decide +kernel
theorem dX1_init_80 : decode cX1_init 80 = .ok (.iconst 0, 1) := by decide +kernel
theorem dX1_init_81 : decode cX1_init 81 = .ok (.putfield 43, 3) := by decide +kernel
theorem dX1_init_84 : decode cX1_init 84 = .ok (.aload_n 0, 1) := by decide +kernel
theorem dX1_init_85 : decode cX1_init 85 = .ok (.iconst 0, 1) := by decide +kernel
theorem dX1_init_86 : decode cX1_init 86 = .ok (.putfield 47, 3) := by decide +kernel
theorem dX1_init_89 : decode cX1_init 89 = .ok (.aload_n 0, 1) := by decide +kernel
theorem dX1_init_90 : decode cX1_init 90 = .ok (.iconst 0, 1) := by decide +kernel
theorem dX1_init_91 : decode cX1_init 91 = .ok (.putfield 50, 3) := by decide +kernel
theorem dX1_init_94 : decode cX1_init 94 = .ok (.aload_n 0, 1) := by decide +kernel
theorem dX1_init_95 : decode cX1_init 95 = .ok (.aload_n 1, 1) := by decide +kernel
theorem dX1_init_96 : decode cX1_init 96 = .ok (.putfield 53, 3) := by decide +kernel
theorem dX1_init_99 : decode cX1_init 99 = .ok (.iconst 0, 1) := by decide +kernel
theorem dX1_init_100 : decode cX1_init 100 = .ok (.istore_n 2, 1) := by decide +kernel
theorem dX1_init_101 : decode cX1_init 101 = .ok (.iload_n 2, 1) := by decide +kernel
theorem dX1_init_102 : decode cX1_init 102 = .ok (.bipush 11, 2) := by decide +kernel
theorem dX1_init_104 : decode cX1_init 104 = .ok (.if_icmp .ge 37, 3) := by decide +kernel
theorem dX1_init_107 : decode cX1_init 107 = .ok (.aload_n 0, 1) := by decide +kernel
theorem dX1_init_108 : decode cX1_init 108 = .ok (.getfield 29, 3) := by decide +kernel
theorem dX1_init_111 : decode cX1_init 111 = .ok (.iload_n 2, 1) := by decide +kernel
theorem dX1_init_112 : decode cX1_init 112 = .ok (.new 11, 3) := by decide +kernel
theorem dX1_init_115 : decode cX1_init 115 = .ok (.dup, 1) := by decide +kernel
theorem dX1_init_116 : decode cX1_init 116 = .ok (.bipush 60, 2) := by decide +kernel
theorem dX1_init_118 : decode cX1_init 118 = .ok (.invokespecial 13, 3) := by decide +kernel
theorem dX1_init_121 : decode cX1_init 121 = .ok (.aastore, 1) := by decide +kernel
theorem dX1_init_122 : decode cX1_init 122 = .ok (.aload_n 0, 1) := by decide +kernel
theorem dX1_init_123 : decode cX1_init 123 = .ok (.getfield 35, 3) := by decide +kernel
theorem dX1_init_126 : decode cX1_init 126 = .ok (.iload_n 2, 1) := by decide +kernel
theorem dX1_init_127 : decode cX1_init 127 = .ok (.new 33, 3) := by decide +kernel
theorem dX1_init_130 : decode cX1_init 130 = .ok (.dup, 1) := by decide +kernel
theorem dX1_init_131 : decode cX1_init 131 = .ok (.invokespecial 57, 3) := by decide +kernel
theorem dX1_init_134 : decode cX1_init 134 = .ok (.aastore, 1) := by decide +kernel
theorem dX1_init_135 : decode cX1_init 135 = .ok (.iinc 2 1, 3) := by decide +kernel
theorem dX1_init_138 : decode cX1_init 138 = .ok (.goto (-37), 3) := by decide +kernel
theorem dX1_init_141 : decode cX1_init 141 = .ok (.aload_n 0, 1) := by decide +kernel
theorem dX1_init_142 : decode cX1_init 142 = .ok (.getfield 29, 3) := by decide +kernel
theorem dX1_init_145 : decode cX1_init 145 = .ok (.bipush 11, 2) := by decide +kernel
theorem dX1_init_147 : decode cX1_init 147 = .ok (.new 11, 3) := by decide +kernel
theorem dX1_init_150 : decode cX1_init 150 = .ok (.dup, 1) := by decide +kernel
theorem dX1_init_151 : decode cX1_init 151 = .ok (.bipush 60, 2) := by decide +kernel
theorem dX1_init_153 : decode cX1_init 153 = .ok (.invokespecial 13, 3) := by decide +kernel
theorem dX1_init_156 : decode cX1_init 156 = .ok (.aastore, 1) := by decide +kernel
theorem dX1_init_157 : decode cX1_init 157 = .ok (.return_, 1) := by decide +kernel
theorem dX5_init_0 : decode cX5_init 0 = .ok (.aload_n 0, 1) := by decide +kernel
theorem dX5_init_1 : decode cX5_init 1 = .ok (.invokespecial 3, 3) := by decide +kernel
theorem dX5_init_4 : decode cX5_init 4 = .ok (.aload_n 0, 1) := by decide +kernel
theorem dX5_init_5 : decode cX5_init 5 = .ok (.new 9, 3) := by decide +kernel
theorem dX5_init_8 : decode cX5_init 8 = .ok (.dup, 1) := by decide +kernel
theorem dX5_init_9 : decode cX5_init 9 = .ok (.bipush 60, 2) := by decide +kernel
theorem dX5_init_11 : decode cX5_init 11 = .ok (.invokespecial 11, 3) := by decide +kernel
theorem dX5_init_14 : decode cX5_init 14 = .ok (.putfield 14, 3) := by decide +kernel
theorem dX5_init_17 : decode cX5_init 17 = .ok (.aload_n 0, 1) := by decide +kernel
theorem dX5_init_18 : decode cX5_init 18 = .ok (.new 9, 3) := by decide +kernel
theorem dX5_init_21 : decode cX5_init 21 = .ok (.dup, 1) := by decide +kernel
theorem dX5_init_22 : decode cX5_init 22 = .ok (.bipush 60, 2) := by decide +kernel
theorem dX5_init_24 : decode cX5_init 24 = .ok (.invokespecial 11, 3) := by decide +kernel
theorem dX5_init_27 : decode cX5_init 27 = .ok (.putfield 20, 3) := by decide +kernel
theorem dX5_init_30 : decode cX5_init 30 = .ok (.aload_n 0, 1) := by decide +kernel
theorem dX5_init_31 : decode cX5_init 31 = .ok (.new 23, 3) := by decide +kernel
theorem dX5_init_34 : decode cX5_init 34 = .ok (.dup, 1) := by decide +kernel
theorem dX5_init_35 : decode cX5_init 35 = .ok (.sipush 700, 3) := by decide +kernel
theorem dX5_init_38 : decode cX5_init 38 = .ok (.invokespecial 25, 3) := by decide +kernel
theorem dX5_init_41 : decode cX5_init 41 = .ok (.putfield 26, 3) := by decide +kernel
theorem dX5_init_44 : decode cX5_init 44 = .ok (.aload_n 0, 1) := by decide +kernel
theorem dX5_init_45 : decode cX5_init 45 = .ok (.iconst 0, 1) := by decide +kernel
theorem dX5_init_46 : decode cX5_init 46 = .ok (.putfield 30, 3) := by decide +kernel
theorem dX5_init_49 : decode cX5_init 49 = .ok (.aload_n 0, 1) := by decide +kernel
theorem dX5_init_50 : decode cX5_init 50 = .ok (.iconst 0, 1) := by decide +kernel
theorem dX5_init_51 : decode cX5_init 51 = .ok (.putfield 34, 3) := by decide +kernel
theorem dX5_init_54 : decode cX5_init 54 = .ok (.aload_n 0, 1) := by decide +kernel
theorem dX5_init_55 : decode cX5_init 55 = .ok (.iconst 0, 1) := by decide +kernel
theorem dX5_init_56 : decode cX5_init 56 = .ok (.putfield 38, 3) := by decide +kernel
theorem dX5_init_59 : decode cX5_init 59 = .ok (.aload_n 0, 1) := by decide +kernel
theorem dX5_init_60 : decode cX5_init 60 = .ok (.aload_n 1, 1) := by decide +kernel
theorem dX5_init_61 : decode cX5_init 61 = .ok (.putfield 41, 3) := by decide +kernel
theorem dX5_init_64 : decode cX5_init 64 = .ok (.return_, 1) := by decide +kernel
theorem kt_1045 : Cond.methodLink RX5 3 objectInit ∈ tb := tb_at (i := 390) (by decide +kernel) (by decide +kernel)
theorem kt_1046 : Cond.classLink RX5 9 RX0 ∈ tb := tb_at (i := 391) (by decide +kernel) (by decide +kernel)
theorem kt_1047 : Cond.methodLink RX5 11 yX0_init ∈ tb := tb_at (i := 392) (by decide +kernel) (by decide +kernel)
theorem kt_1048 : Cond.classLink RX5 23 RX9 ∈ tb := tb_at (i := 393) (by decide +kernel) (by decide +kernel)
theorem kt_1049 : Cond.instantiable RX9 5 ∈ tb := tb_at (i := 266) (by decide +kernel) (by decide +kernel)
theorem kt_1050 : Cond.code yX9_init cX9_init 2 none ∈ tb := tb_at (i := 269) (by decide +kernel) (by decide +kernel)
theorem kt_1051 : Cond.methodLink RX5 25 yX9_init ∈ tb := tb_at (i := 394) (by decide +kernel) (by decide +kernel)
theorem kt_1052 : Cond.instanceMethod yX9_init ∈ tb := tb_at (i := 268) (by decide +kernel) (by decide +kernel)
theorem kt_1053 : Cond.methodLink RX1 5 objectInit ∈ tb := tb_at (i := 185) (by decide +kernel) (by decide +kernel)
theorem kt_1054 : Cond.classLink RX1 11 RX0 ∈ tb := tb_at (i := 186) (by decide +kernel) (by decide +kernel)
theorem kt_1055 : Cond.methodLink RX1 13 yX0_init ∈ tb := tb_at (i := 187) (by decide +kernel) (by decide +kernel)
theorem kt_1056 : Cond.classLink RX1 33 RX10 ∈ tb := tb_at (i := 189) (by decide +kernel) (by decide +kernel)
theorem kt_1057 : Cond.instantiable RX10 6 ∈ tb := tb_at (i := 191) (by decide +kernel) (by decide +kernel)
theorem kt_1058 : Cond.code yX10_init cX10_init 1 none ∈ tb := tb_at (i := 194) (by decide +kernel) (by decide +kernel)
theorem kt_1059 : Cond.instanceMethod yX10_init ∈ tb := tb_at (i := 193) (by decide +kernel) (by decide +kernel)
theorem kn_45 : Cond.methodLinkNest RX1 57 yX10_init "PostGate" ∈ nw := nw_at (i := 112) (by decide +kernel) rfl
set_option maxHeartbeats 4000000 in
set_option maxRecDepth 100000 in
theorem k_X5_init (l : Launch) (dC : Nat → ClassId) (dI : Nat → Nat → Nat) (cs : Nat → ClassId) (sz : Nat) (h0 : Nat) (d : Nat) (ρ : Nat) : Met l yX5_init (.code yX5_init cX5_init 2 none :: tb) ({ frames := 3, cells := 13, slots := 960, locals := 54 }) (va_Pc [.ref h0, .ref d] (PT (dC, dI) cs RAWT [h0] (fun _ => .inr (5, [.null, .null, .null, .null, .int 0, .int 0, .int 0])) sz)) (va_Qv (fun _ : Unit => True) (fun _ T9 => ∃ (L2 : List Nat) (F2 : Nat → va_E) (ty2 : TyM), ∃ w0 : Nat, ∃ r0 : Nat, ∃ w1 : Nat, ∃ r1 : Nat, ∃ rc : Nat, ∃ rx : Nat, ∃ ry0 : Nat, ∃ ry1 : Nat, ∃ ry2 : Nat, NEW (dC, dI) cs ty2 L2 F2 (va_A (va_pl [h0] (fun _ => .inr (5, [.null, .null, .null, .null, .int 0, .int 0, .int 0]))) sz) T9.heap ∧ h0 ∈ L2 ∧ ty2 h0 = (99, 0, []) ∧ F2 h0 = .inr (5, [.ref d, .ref w0, .ref w1, .ref rc, .int 0, .int 0, .int 0]) ∧ (∀ p ∈ ([(w0, (0, ρ + 1, [r0, 60])), (w1, (0, ρ + 9, [r1, 60])), (rc, (9, ρ + 2, [rx, 700, ry0, ry1, ry2]))] : List (Nat × TyE)), p.1 ∈ L2 ∧ ty2 p.1 = p.2)) (va_A (va_pl [h0] (fun _ => .inr (5, [.null, .null, .null, .null, .int 0, .int 0, .int 0]))) sz)) 13 960 (va_A (va_pl [h0] (fun _ => .inr (5, [.null, .null, .null, .null, .int 0, .int 0, .int 0]))) sz) := by
  refine Met.ofW (cc := cX5_init) (maxL := 2) (ret := none) (by decide) rfl ?_
  intro p e s m args below meth c s₁ B hml hv
  obtain ⟨rfl, hsz, hP, hK, hD0, hE, hO⟩ := hv
  have hx := B.exec
  have hb := B.bytes
  have hr := B.returns
  have hts : ∀ w ∈ tb, w.before _ s = true := fun w h => atoms_spec (ws := .code yX5_init cX5_init 2 none :: tb) B.pre w (List.mem_cons_of_mem _ h)
  have hown : s.vm.findClass RX5 = some m.cls := findClass_of_methodNamed B.named
  have hin : meth.name = "<init>" := (name_of_methodNamed B.named B.method).1
  have hlocks := B.notSynchronized
  subst hsz
  have hD := hD0.self (sz := s.heap.size)
  generalize hAe : va_A (va_pl [h0] (fun _ => .inr (5, [.null, .null, .null, .null, .int 0, .int 0, .int 0]))) s.heap.size = A at hD ⊢
  have hA : ∀ q : Nat, s.heap.size ≤ q → A q := fun q h => by rw [← hAe]; exact Or.inr h
  have hS : va_S A s.heap s.heap [] := va_S.rf
  have hl := lv_entry ([.ref h0, .ref d]) (n := 2) (Nat.le_of_ble_eq_true rfl)
  rw [lg_entry_eq]
  generalize (lg_sl ([.ref h0, .ref d]) ++ List.replicate (2 - (lg_sl ([.ref h0, .ref d])).length) Slot.unset).toArray = ls at hl ⊢
  have hl : lv_has ls 2 [(0, .ref h0), (1, .ref d)] := hl
  obtain ⟨L, ty, F, hN, hL_h0, hT_h0, hF_h0⟩ : ∃ (L : List Nat) (t9 : TyM) (F : Nat → va_E), NEW (dC, dI) cs t9 L F A s.heap ∧ h0 ∈ L ∧ t9 h0 = (99, 0, []) ∧ F h0 = .inr (5, [.null, .null, .null, .null, .int 0, .int 0, .int 0]) := ⟨[h0], RAWT, fun _ => .inr (5, [.null, .null, .null, .null, .int 0, .int 0, .int 0]), ⟨hP, hD, hO, fun a _ => wta_raw rfl⟩, List.mem_singleton.mpr rfl, rfl, rfl⟩
  obtain ⟨hP, hD, hO, hW⟩ := hN
  have hfs : ∀ p ∈ ([] : List (Nat × TyE)), p.1 ∈ L ∧ ty p.1 = p.2 := fun p h => absurd h List.not_mem_nil
  refine lv_aload_n hx hb dX5_init_0 rfl (lv_at hl 0 rfl) ?_
  refine W.objInit hx hb hown (hts _ kt_1045) (hts _ kt_1009) (hts _ kt_1010) rfl (by rw [hml]; exact hl.1) rfl dX5_init_1 (Nat.le_of_ble_eq_true rfl) (Nat.le_of_ble_eq_true rfl) ?_
  refine W.eq (g2 := F0 m 4 ls []) rfl ?_
  refine lv_aload_n hx hb dX5_init_4 rfl (lv_at hl 0 rfl) ?_
  refine va_new (ci := 0) (fs := [.null, .int 0, .int 0]) (C := RX0) (T := TX0) (N := 3) hx hb hts it_0 tyX0 tyX0_ok hown (hts _ kt_1046) (hts _ kt_1013) (hts _ kt_1) hK hP hD hS hA rfl df_0 (by show _ + 1 ≤ 13; omega) (by show _ + 3 ≤ 960; omega) dX5_init_5 (fun q_1 H hPa hDa hS => ?_)
  have hP := left1 hPa
  have hD := left2 hDa
  refine lv_dup hx hb dX5_init_8 rfl ?_
  refine lv_bipush (v := 60) hx hb dX5_init_9 (by decide) ?_
  refine W.eq (g2 := F0 m 11 ls [.int (nI 60), .ref q_1, .ref q_1, .ref h0]) rfl ?_
  have hFc := free1 hDa hS hA
  have hPq := right1 hPa
  refine va_callv (va_runI (As := [.int (nI 60)]) (rest := [.ref q_1, .ref h0]) ⟨hx, hb, hml, hown, hts⟩ (k_X0_init l dC dI cs H.size q_1 60 (ρ + 1) (by omega)) ⟨callB_of 1 hts (gi kt_1014) rfl rfl rfl (hts _ kt_1) (hts _ kt_1047) (by decide +kernel) ⟨Nat.le_of_ble_eq_true rfl, Nat.le_of_ble_eq_true rfl⟩, rfl, (hts _ kt_1016)⟩ ⟨fun a U g mk q => ⟨q.1, PT.calling q.2⟩, fun U hU hWm => ⟨rfl, PT.mk hU hWm hPq hK one1 hE (fun a _ => sh.raw rfl)⟩⟩ rfl rfl hl.1 rfl (lv_room (Nat.le_of_ble_eq_true rfl)) dX5_init_11 ⟨by show _ + 1 ≤ 13; omega, by show _ + 60 ≤ 960; omega⟩) hS (fun q _ h => hFc q h) hFc (fun u t H1 locs ht hvm hw hB hz1 hk1 hS => ?_)
  obtain ⟨L2, F2, ty2, q_2, hN2, hc1, hc2⟩ := hB
  rw [ht] at hN2
  obtain ⟨L, ty, F_3, hN9, hold, holdF, hnew, hnewF⟩ := join1 hPa hDa hO hW hk1 hFc hN2
  obtain ⟨hP, hD, hO, hW⟩ := hN9
  generalize H1 = H at hP hS ⊢
  have hL_q_1 := (hnew _ hc1).1
  have hT_q_1 := (hnew _ hc1).2.trans hc2
  have hT_h0 := (hold _ hL_h0).2.trans hT_h0
  have hF_h0 := (holdF _ hL_h0).1.trans hF_h0
  have hnx_h0 := (holdF _ hL_h0).2
  have hL_h0 := (hold _ hL_h0).1
  have hfs := gr_cons hold hfs hL_q_1 hT_q_1
  refine pg_putF (ci := 5) (v := .ref q_1) (ty := .object "PostGate$Bytes") (C := RX5) (T := TX5) (N := 7) hx hb hts it_5 tyX5 tyX5_ok nmX5 hown hK hP hD hS hL_h0 hF_h0 rfl 1 (by decide) (hts _ kt_461) (fun _ h9 => h9) rfl hin rfl (by decide +kernel) (rfl) (rfl) (Nat.le_of_ble_eq_true rfl) dX5_init_14 (fun H locs hP hD hS => ?_)
  obtain ⟨F_4, he_5, hP, hD, hO⟩ : ∃ G, G = va_up F_3 h0 (.inr (5, [.null, .ref q_1, .null, .null, .int 0, .int 0, .int 0])) ∧ va_P (dC, dI) vwCl (va_pl L G) H ∧ va_D A (va_pl L G) ∧ OK cs ty L G := ⟨_, rfl, hP, hD, hO.up (sh.raw hT_h0)⟩
  have hF_6 : F_4 h0 = .inr (5, [.null, .ref q_1, .null, .null, .int 0, .int 0, .int 0]) := by rw [he_5]; exact up_self
  refine lv_aload_n hx hb dX5_init_17 rfl (lv_at hl 0 rfl) ?_
  refine va_new (ci := 0) (fs := [.null, .int 0, .int 0]) (C := RX0) (T := TX0) (N := 3) hx hb hts it_0 tyX0 tyX0_ok hown (hts _ kt_1046) (hts _ kt_1013) (hts _ kt_1) hK hP hD hS hA rfl df_0 (by show _ + 1 ≤ 13; omega) (by show _ + 3 ≤ 960; omega) dX5_init_18 (fun q_7 H hPa hDa hS => ?_)
  have hP := left1 hPa
  have hD := left2 hDa
  refine lv_dup hx hb dX5_init_21 rfl ?_
  refine lv_bipush (v := 60) hx hb dX5_init_22 (by decide) ?_
  refine W.eq (g2 := F0 m 24 ls [.int (nI 60), .ref q_7, .ref q_7, .ref h0]) rfl ?_
  have hFc := free1 hDa hS hA
  have hPq := right1 hPa
  refine va_callv (va_runI (As := [.int (nI 60)]) (rest := [.ref q_7, .ref h0]) ⟨hx, hb, hml, hown, hts⟩ (k_X0_init l dC dI cs H.size q_7 60 (ρ + 9) (by omega)) ⟨callB_of 1 hts (gi kt_1014) rfl rfl rfl (hts _ kt_1) (hts _ kt_1047) (by decide +kernel) ⟨Nat.le_of_ble_eq_true rfl, Nat.le_of_ble_eq_true rfl⟩, rfl, (hts _ kt_1016)⟩ ⟨fun a U g mk q => ⟨q.1, PT.calling q.2⟩, fun U hU hWm => ⟨rfl, PT.mk hU hWm hPq hK one1 hE (fun a _ => sh.raw rfl)⟩⟩ rfl rfl hl.1 rfl (lv_room (Nat.le_of_ble_eq_true rfl)) dX5_init_24 ⟨by show _ + 1 ≤ 13; omega, by show _ + 60 ≤ 960; omega⟩) hS (fun q _ h => hFc q h) hFc (fun u t H1 locs ht hvm hw hB hz1 hk1 hS => ?_)
  obtain ⟨L2, F2, ty2, q_8, hN2, hc1, hc2⟩ := hB
  rw [ht] at hN2
  obtain ⟨L, ty, F_9, hN9, hold, holdF, hnew, hnewF⟩ := join1 hPa hDa hO hW hk1 hFc hN2
  obtain ⟨hP, hD, hO, hW⟩ := hN9
  generalize H1 = H at hP hS ⊢
  have hL_q_7 := (hnew _ hc1).1
  have hT_q_7 := (hnew _ hc1).2.trans hc2
  have hT_h0 := (hold _ hL_h0).2.trans hT_h0
  have hF_h0 := (holdF _ hL_h0).1.trans hF_6
  have hnx_h0 := (holdF _ hL_h0).2
  have hL_h0 := (hold _ hL_h0).1
  have hfs := gr_cons hold hfs hL_q_7 hT_q_7
  refine pg_putF (ci := 5) (v := .ref q_7) (ty := .object "PostGate$Bytes") (C := RX5) (T := TX5) (N := 7) hx hb hts it_5 tyX5 tyX5_ok nmX5 hown hK hP hD hS hL_h0 hF_h0 rfl 2 (by decide) (hts _ kt_458) (fun _ h9 => h9) rfl hin rfl (by decide +kernel) (rfl) (rfl) (Nat.le_of_ble_eq_true rfl) dX5_init_27 (fun H locs hP hD hS => ?_)
  obtain ⟨F_10, he_11, hP, hD, hO⟩ : ∃ G, G = va_up F_9 h0 (.inr (5, [.null, .ref q_1, .ref q_7, .null, .int 0, .int 0, .int 0])) ∧ va_P (dC, dI) vwCl (va_pl L G) H ∧ va_D A (va_pl L G) ∧ OK cs ty L G := ⟨_, rfl, hP, hD, hO.up (sh.raw hT_h0)⟩
  have hF_12 : F_10 h0 = .inr (5, [.null, .ref q_1, .ref q_7, .null, .int 0, .int 0, .int 0]) := by rw [he_11]; exact up_self
  refine lv_aload_n hx hb dX5_init_30 rfl (lv_at hl 0 rfl) ?_
  refine va_new (ci := 9) (fs := [.null, .null, .null, .null, .int 0]) (C := RX9) (T := TX9) (N := 5) hx hb hts it_9 tyX9 tyX9_ok hown (hts _ kt_1048) (hts _ kt_1049) (hts _ kt_164) hK hP hD hS hA rfl df_9 (by show _ + 1 ≤ 13; omega) (by show _ + 5 ≤ 960; omega) dX5_init_31 (fun q_13 H hPa hDa hS => ?_)
  have hP := left1 hPa
  have hD := left2 hDa
  refine lv_dup hx hb dX5_init_34 rfl ?_
  refine lv_sipush (v := 700) hx hb dX5_init_35 (by decide) ?_
  refine W.eq (g2 := F0 m 38 ls [.int (nI 700), .ref q_13, .ref q_13, .ref h0]) rfl ?_
  have hFc := free1 hDa hS hA
  have hPq := right1 hPa
  refine va_callv (va_runI (As := [.int (nI 700)]) (rest := [.ref q_13, .ref h0]) ⟨hx, hb, hml, hown, hts⟩ (k_X9_init l dC dI cs H.size q_13 700 (ρ + 2) (by omega)) ⟨callB_of 1 hts (gi kt_1050) rfl rfl rfl (hts _ kt_164) (hts _ kt_1051) (by decide +kernel) ⟨Nat.le_of_ble_eq_true rfl, Nat.le_of_ble_eq_true rfl⟩, rfl, (hts _ kt_1052)⟩ ⟨fun a U g mk q => ⟨q.1, PT.calling q.2⟩, fun U hU hWm => ⟨rfl, PT.mk hU hWm hPq hK one1 hE (fun a _ => sh.raw rfl)⟩⟩ rfl rfl hl.1 rfl (lv_room (Nat.le_of_ble_eq_true rfl)) dX5_init_38 ⟨by show _ + 5 ≤ 13; omega, by show _ + (700 + 123) ≤ 960; omega⟩) hS (fun q _ h => hFc q h) hFc (fun u t H1 locs ht hvm hw hB hz1 hk1 hS => ?_)
  obtain ⟨L2, F2, ty2, x_14, y0_15, y1_16, y2_17, hN2, hc1, hc2⟩ := hB
  rw [ht] at hN2
  obtain ⟨L, ty, F_18, hN9, hold, holdF, hnew, hnewF⟩ := join1 hPa hDa hO hW hk1 hFc hN2
  obtain ⟨hP, hD, hO, hW⟩ := hN9
  generalize H1 = H at hP hS ⊢
  have hL_q_13 := (hnew _ hc1).1
  have hT_q_13 := (hnew _ hc1).2.trans hc2
  have hT_h0 := (hold _ hL_h0).2.trans hT_h0
  have hF_h0 := (holdF _ hL_h0).1.trans hF_12
  have hnx_h0 := (holdF _ hL_h0).2
  have hL_h0 := (hold _ hL_h0).1
  have hfs := gr_cons hold hfs hL_q_13 hT_q_13
  refine pg_putF (ci := 5) (v := .ref q_13) (ty := .object "PostGate$Tags") (C := RX5) (T := TX5) (N := 7) hx hb hts it_5 tyX5 tyX5_ok nmX5 hown hK hP hD hS hL_h0 hF_h0 rfl 3 (by decide) (hts _ kt_456) (fun _ h9 => h9) rfl hin rfl (by decide +kernel) (rfl) (rfl) (Nat.le_of_ble_eq_true rfl) dX5_init_41 (fun H locs hP hD hS => ?_)
  obtain ⟨F_19, he_20, hP, hD, hO⟩ : ∃ G, G = va_up F_18 h0 (.inr (5, [.null, .ref q_1, .ref q_7, .ref q_13, .int 0, .int 0, .int 0])) ∧ va_P (dC, dI) vwCl (va_pl L G) H ∧ va_D A (va_pl L G) ∧ OK cs ty L G := ⟨_, rfl, hP, hD, hO.up (sh.raw hT_h0)⟩
  have hF_21 : F_19 h0 = .inr (5, [.null, .ref q_1, .ref q_7, .ref q_13, .int 0, .int 0, .int 0]) := by rw [he_20]; exact up_self
  refine lv_aload_n hx hb dX5_init_44 rfl (lv_at hl 0 rfl) ?_
  refine lv_iconst (v := 0) hx hb dX5_init_45 (by decide) ?_
  refine pg_put (ci := 5) (v := .int 0) (ty := .int) (C := RX5) (T := TX5) (N := 7) hx hb hts it_5 tyX5 tyX5_ok nmX5 hown hK hP hD hS hL_h0 hF_21 rfl 4 (by decide) (hts _ kt_475) (fun _ h9 => h9) rfl (by decide +kernel) (rfl) (rfl) (Nat.le_of_ble_eq_true rfl) dX5_init_46 (fun H locs hP hD hS => ?_)
  obtain ⟨F_22, he_23, hP, hD, hO⟩ : ∃ G, G = va_up F_19 h0 (.inr (5, [.null, .ref q_1, .ref q_7, .ref q_13, .int 0, .int 0, .int 0])) ∧ va_P (dC, dI) vwCl (va_pl L G) H ∧ va_D A (va_pl L G) ∧ OK cs ty L G := ⟨_, rfl, hP, hD, hO.up (sh.raw hT_h0)⟩
  have hF_24 : F_22 h0 = .inr (5, [.null, .ref q_1, .ref q_7, .ref q_13, .int 0, .int 0, .int 0]) := by rw [he_23]; exact up_self
  refine lv_aload_n hx hb dX5_init_49 rfl (lv_at hl 0 rfl) ?_
  refine lv_iconst (v := 0) hx hb dX5_init_50 (by decide) ?_
  refine pg_put (ci := 5) (v := .int 0) (ty := .boolean) (C := RX5) (T := TX5) (N := 7) hx hb hts it_5 tyX5 tyX5_ok nmX5 hown hK hP hD hS hL_h0 hF_24 rfl 5 (by decide) (hts _ kt_476) (fun _ h9 => h9) rfl (by decide +kernel) (rfl) (rfl) (Nat.le_of_ble_eq_true rfl) dX5_init_51 (fun H locs hP hD hS => ?_)
  obtain ⟨F_25, he_26, hP, hD, hO⟩ : ∃ G, G = va_up F_22 h0 (.inr (5, [.null, .ref q_1, .ref q_7, .ref q_13, .int 0, .int 0, .int 0])) ∧ va_P (dC, dI) vwCl (va_pl L G) H ∧ va_D A (va_pl L G) ∧ OK cs ty L G := ⟨_, rfl, hP, hD, hO.up (sh.raw hT_h0)⟩
  have hF_27 : F_25 h0 = .inr (5, [.null, .ref q_1, .ref q_7, .ref q_13, .int 0, .int 0, .int 0]) := by rw [he_26]; exact up_self
  refine lv_aload_n hx hb dX5_init_54 rfl (lv_at hl 0 rfl) ?_
  refine lv_iconst (v := 0) hx hb dX5_init_55 (by decide) ?_
  refine pg_put (ci := 5) (v := .int 0) (ty := .boolean) (C := RX5) (T := TX5) (N := 7) hx hb hts it_5 tyX5 tyX5_ok nmX5 hown hK hP hD hS hL_h0 hF_27 rfl 6 (by decide) (hts _ kt_477) (fun _ h9 => h9) rfl (by decide +kernel) (rfl) (rfl) (Nat.le_of_ble_eq_true rfl) dX5_init_56 (fun H locs hP hD hS => ?_)
  obtain ⟨F_28, he_29, hP, hD, hO⟩ : ∃ G, G = va_up F_25 h0 (.inr (5, [.null, .ref q_1, .ref q_7, .ref q_13, .int 0, .int 0, .int 0])) ∧ va_P (dC, dI) vwCl (va_pl L G) H ∧ va_D A (va_pl L G) ∧ OK cs ty L G := ⟨_, rfl, hP, hD, hO.up (sh.raw hT_h0)⟩
  have hF_30 : F_28 h0 = .inr (5, [.null, .ref q_1, .ref q_7, .ref q_13, .int 0, .int 0, .int 0]) := by rw [he_29]; exact up_self
  refine lv_aload_n hx hb dX5_init_59 rfl (lv_at hl 0 rfl) ?_
  refine lv_aload_n hx hb dX5_init_60 rfl (lv_at hl 1 rfl) ?_
  refine pg_putF (ci := 5) (v := .ref d) (ty := .object "PostGate$Directory") (C := RX5) (T := TX5) (N := 7) hx hb hts it_5 tyX5 tyX5_ok nmX5 hown hK hP hD hS hL_h0 hF_30 rfl 0 (by decide) (hts _ kt_463) (fun _ h9 => h9) rfl hin rfl (by decide +kernel) (rfl) (rfl) (Nat.le_of_ble_eq_true rfl) dX5_init_61 (fun H locs hP hD hS => ?_)
  obtain ⟨F_31, he_32, hP, hD, hO⟩ : ∃ G, G = va_up F_28 h0 (.inr (5, [.ref d, .ref q_1, .ref q_7, .ref q_13, .int 0, .int 0, .int 0])) ∧ va_P (dC, dI) vwCl (va_pl L G) H ∧ va_D A (va_pl L G) ∧ OK cs ty L G := ⟨_, rfl, hP, hD, hO.up (sh.raw hT_h0)⟩
  have hF_33 : F_31 h0 = .inr (5, [.ref d, .ref q_1, .ref q_7, .ref q_13, .int 0, .int 0, .int 0]) := by rw [he_32]; exact up_self
  refine W.widen (k := 13) (n := 960) (by omega) (by omega) ?_
  exact W.vret hx hb hr (fun t ht hWm => ⟨⟨(), rfl, trivial, ⟨L, F_31, ty, q_1, q_2, q_7, q_8, q_13, x_14, y0_15, y1_16, y2_17, (by rw [ht]; exact ⟨hP, hD, hO, hW⟩), hL_h0, hT_h0, hF_33, fsub hfs (by simp)⟩⟩, hS.F ht⟩) hS.2.2 dX5_init_64
set_option maxHeartbeats 4000000 in
set_option maxRecDepth 100000 in
theorem k_X1_init (l : Launch) (dC : Nat → ClassId) (dI : Nat → Nat → Nat) (cs : Nat → ClassId) (sz : Nat) (h0 : Nat) (d : Nat) (ρ : Nat) : Met l yX1_init (.code yX1_init cX1_init 3 none :: tb) ({ frames := 2, cells := 45, slots := 1053, locals := 33 }) (va_Pc [.ref h0, .ref d] (PT (dC, dI) cs RAWT [h0] (fun _ => .inr (1, [.null, .null, .null, .null, .null, .null, .null, .int 0, .int 0, .int 0, .int 0])) sz)) (va_Qv (fun _ : Unit => True) (fun _ T9 => ∃ (L2 : List Nat) (F2 : Nat → va_E) (ty2 : TyM), ∃ w0 : Nat, ∃ r0 : Nat, ∃ w1 : Nat, ∃ r1 : Nat, ∃ w2 : Nat, ∃ r2 : Nat, ∃ w3 : Nat, ∃ r3 : Nat, ∃ nm : Nat, ∃ te : Nat, NEW (dC, dI) cs ty2 L2 F2 (va_A (va_pl [h0] (fun _ => .inr (1, [.null, .null, .null, .null, .null, .null, .null, .int 0, .int 0, .int 0, .int 0]))) sz) T9.heap ∧ h0 ∈ L2 ∧ ty2 h0 = (99, 0, []) ∧ F2 h0 = .inr (1, [.ref d, .ref w0, .ref w1, .ref w2, .ref w3, .ref nm, .ref te, .int 0, .int 0, .int 0, .int 0]) ∧ (∀ p ∈ ([(w0, (0, ρ + 31, [r0, 91])), (w1, (0, ρ + 32, [r1, 30])), (w2, (0, ρ + 33, [r2, 60])), (w3, (0, ρ + 34, [r3, 15])), (nm, (20, ρ + 35, [12])), (te, (22, ρ + 36, [11]))] : List (Nat × TyE)), p.1 ∈ L2 ∧ ty2 p.1 = p.2)) (va_A (va_pl [h0] (fun _ => .inr (1, [.null, .null, .null, .null, .null, .null, .null, .int 0, .int 0, .int 0, .int 0]))) sz)) 45 1053 (va_A (va_pl [h0] (fun _ => .inr (1, [.null, .null, .null, .null, .null, .null, .null, .int 0, .int 0, .int 0, .int 0]))) sz) := by
  refine Met.ofW (cc := cX1_init) (maxL := 3) (ret := none) (by decide) rfl ?_
  intro p e s m args below meth c s₁ B hml hv
  obtain ⟨rfl, hsz, hP, hK, hD0, hE, hO⟩ := hv
  have hx := B.exec
  have hb := B.bytes
  have hr := B.returns
  have hts : ∀ w ∈ tb, w.before _ s = true := fun w h => atoms_spec (ws := .code yX1_init cX1_init 3 none :: tb) B.pre w (List.mem_cons_of_mem _ h)
  have hown : s.vm.findClass RX1 = some m.cls := findClass_of_methodNamed B.named
  have hin : meth.name = "<init>" := (name_of_methodNamed B.named B.method).1
  have hlocks := B.notSynchronized
  subst hsz
  have hD := hD0.self (sz := s.heap.size)
  generalize hAe : va_A (va_pl [h0] (fun _ => .inr (1, [.null, .null, .null, .null, .null, .null, .null, .int 0, .int 0, .int 0, .int 0]))) s.heap.size = A at hD ⊢
  have hA : ∀ q : Nat, s.heap.size ≤ q → A q := fun q h => by rw [← hAe]; exact Or.inr h
  have hS : va_S A s.heap s.heap [] := va_S.rf
  have hl := lv_entry ([.ref h0, .ref d]) (n := 3) (Nat.le_of_ble_eq_true rfl)
  rw [lg_entry_eq]
  generalize (lg_sl ([.ref h0, .ref d]) ++ List.replicate (3 - (lg_sl ([.ref h0, .ref d])).length) Slot.unset).toArray = ls at hl ⊢
  have hl : lv_has ls 3 [(0, .ref h0), (1, .ref d)] := hl
  obtain ⟨L, ty, F, hN, hL_h0, hT_h0, hF_h0⟩ : ∃ (L : List Nat) (t9 : TyM) (F : Nat → va_E), NEW (dC, dI) cs t9 L F A s.heap ∧ h0 ∈ L ∧ t9 h0 = (99, 0, []) ∧ F h0 = .inr (1, [.null, .null, .null, .null, .null, .null, .null, .int 0, .int 0, .int 0, .int 0]) := ⟨[h0], RAWT, fun _ => .inr (1, [.null, .null, .null, .null, .null, .null, .null, .int 0, .int 0, .int 0, .int 0]), ⟨hP, hD, hO, fun a _ => wta_raw rfl⟩, List.mem_singleton.mpr rfl, rfl, rfl⟩
  obtain ⟨hP, hD, hO, hW⟩ := hN
  have hfs : ∀ p ∈ ([] : List (Nat × TyE)), p.1 ∈ L ∧ ty p.1 = p.2 := fun p h => absurd h List.not_mem_nil
  refine lv_aload_n hx hb dX1_init_0 rfl (lv_at hl 0 rfl) ?_
  refine W.objInit hx hb hown (hts _ kt_1053) (hts _ kt_1009) (hts _ kt_1010) rfl (by rw [hml]; exact hl.1) rfl dX1_init_1 (Nat.le_of_ble_eq_true rfl) (Nat.le_of_ble_eq_true rfl) ?_
  refine W.eq (g2 := F0 m 4 ls []) rfl ?_
  refine lv_aload_n hx hb dX1_init_4 rfl (lv_at hl 0 rfl) ?_
  refine va_new (ci := 0) (fs := [.null, .int 0, .int 0]) (C := RX0) (T := TX0) (N := 3) hx hb hts it_0 tyX0 tyX0_ok hown (hts _ kt_1054) (hts _ kt_1013) (hts _ kt_1) hK hP hD hS hA rfl df_0 (by show _ + 1 ≤ 45; omega) (by show _ + 3 ≤ 1053; omega) dX1_init_5 (fun q_1 H hPa hDa hS => ?_)
  have hP := left1 hPa
  have hD := left2 hDa
  refine lv_dup hx hb dX1_init_8 rfl ?_
  refine lv_bipush (v := 91) hx hb dX1_init_9 (by decide) ?_
  refine W.eq (g2 := F0 m 11 ls [.int (nI 91), .ref q_1, .ref q_1, .ref h0]) rfl ?_
  have hFc := free1 hDa hS hA
  have hPq := right1 hPa
  refine va_callv (va_runI (As := [.int (nI 91)]) (rest := [.ref q_1, .ref h0]) ⟨hx, hb, hml, hown, hts⟩ (k_X0_init l dC dI cs H.size q_1 91 (ρ + 31) (by omega)) ⟨callB_of 1 hts (gi kt_1014) rfl rfl rfl (hts _ kt_1) (hts _ kt_1055) (by decide +kernel) ⟨Nat.le_of_ble_eq_true rfl, Nat.le_of_ble_eq_true rfl⟩, rfl, (hts _ kt_1016)⟩ ⟨fun a U g mk q => ⟨q.1, PT.calling q.2⟩, fun U hU hWm => ⟨rfl, PT.mk hU hWm hPq hK one1 hE (fun a _ => sh.raw rfl)⟩⟩ rfl rfl hl.1 rfl (lv_room (Nat.le_of_ble_eq_true rfl)) dX1_init_11 ⟨by show _ + 1 ≤ 45; omega, by show _ + 91 ≤ 1053; omega⟩) hS (fun q _ h => hFc q h) hFc (fun u t H1 locs ht hvm hw hB hz1 hk1 hS => ?_)
  obtain ⟨L2, F2, ty2, q_2, hN2, hc1, hc2⟩ := hB
  rw [ht] at hN2
  obtain ⟨L, ty, F_3, hN9, hold, holdF, hnew, hnewF⟩ := join1 hPa hDa hO hW hk1 hFc hN2
  obtain ⟨hP, hD, hO, hW⟩ := hN9
  generalize H1 = H at hP hS ⊢
  have hL_q_1 := (hnew _ hc1).1
  have hT_q_1 := (hnew _ hc1).2.trans hc2
  have hT_h0 := (hold _ hL_h0).2.trans hT_h0
  have hF_h0 := (holdF _ hL_h0).1.trans hF_h0
  have hnx_h0 := (holdF _ hL_h0).2
  have hL_h0 := (hold _ hL_h0).1
  have hfs := gr_cons hold hfs hL_q_1 hT_q_1
  refine pg_putF (ci := 1) (v := .ref q_1) (ty := .object "PostGate$Bytes") (C := RX1) (T := TX1) (N := 11) hx hb hts it_1 tyX1 tyX1_ok nmX1 hown hK hP hD hS hL_h0 hF_h0 rfl 1 (by decide) (hts _ kt_568) (fun _ h9 => h9) rfl hin rfl (by decide +kernel) (rfl) (rfl) (Nat.le_of_ble_eq_true rfl) dX1_init_14 (fun H locs hP hD hS => ?_)
  obtain ⟨F_4, he_5, hP, hD, hO⟩ : ∃ G, G = va_up F_3 h0 (.inr (1, [.null, .ref q_1, .null, .null, .null, .null, .null, .int 0, .int 0, .int 0, .int 0])) ∧ va_P (dC, dI) vwCl (va_pl L G) H ∧ va_D A (va_pl L G) ∧ OK cs ty L G := ⟨_, rfl, hP, hD, hO.up (sh.raw hT_h0)⟩
  have hF_6 : F_4 h0 = .inr (1, [.null, .ref q_1, .null, .null, .null, .null, .null, .int 0, .int 0, .int 0, .int 0]) := by rw [he_5]; exact up_self
  refine lv_aload_n hx hb dX1_init_17 rfl (lv_at hl 0 rfl) ?_
  refine va_new (ci := 0) (fs := [.null, .int 0, .int 0]) (C := RX0) (T := TX0) (N := 3) hx hb hts it_0 tyX0 tyX0_ok hown (hts _ kt_1054) (hts _ kt_1013) (hts _ kt_1) hK hP hD hS hA rfl df_0 (by show _ + 1 ≤ 45; omega) (by show _ + 3 ≤ 1053; omega) dX1_init_18 (fun q_7 H hPa hDa hS => ?_)
  have hP := left1 hPa
  have hD := left2 hDa
  refine lv_dup hx hb dX1_init_21 rfl ?_
  refine lv_bipush (v := 30) hx hb dX1_init_22 (by decide) ?_
  refine W.eq (g2 := F0 m 24 ls [.int (nI 30), .ref q_7, .ref q_7, .ref h0]) rfl ?_
  have hFc := free1 hDa hS hA
  have hPq := right1 hPa
  refine va_callv (va_runI (As := [.int (nI 30)]) (rest := [.ref q_7, .ref h0]) ⟨hx, hb, hml, hown, hts⟩ (k_X0_init l dC dI cs H.size q_7 30 (ρ + 32) (by omega)) ⟨callB_of 1 hts (gi kt_1014) rfl rfl rfl (hts _ kt_1) (hts _ kt_1055) (by decide +kernel) ⟨Nat.le_of_ble_eq_true rfl, Nat.le_of_ble_eq_true rfl⟩, rfl, (hts _ kt_1016)⟩ ⟨fun a U g mk q => ⟨q.1, PT.calling q.2⟩, fun U hU hWm => ⟨rfl, PT.mk hU hWm hPq hK one1 hE (fun a _ => sh.raw rfl)⟩⟩ rfl rfl hl.1 rfl (lv_room (Nat.le_of_ble_eq_true rfl)) dX1_init_24 ⟨by show _ + 1 ≤ 45; omega, by show _ + 30 ≤ 1053; omega⟩) hS (fun q _ h => hFc q h) hFc (fun u t H1 locs ht hvm hw hB hz1 hk1 hS => ?_)
  obtain ⟨L2, F2, ty2, q_8, hN2, hc1, hc2⟩ := hB
  rw [ht] at hN2
  obtain ⟨L, ty, F_9, hN9, hold, holdF, hnew, hnewF⟩ := join1 hPa hDa hO hW hk1 hFc hN2
  obtain ⟨hP, hD, hO, hW⟩ := hN9
  generalize H1 = H at hP hS ⊢
  have hL_q_7 := (hnew _ hc1).1
  have hT_q_7 := (hnew _ hc1).2.trans hc2
  have hT_h0 := (hold _ hL_h0).2.trans hT_h0
  have hF_h0 := (holdF _ hL_h0).1.trans hF_6
  have hnx_h0 := (holdF _ hL_h0).2
  have hL_h0 := (hold _ hL_h0).1
  have hfs := gr_cons hold hfs hL_q_7 hT_q_7
  refine pg_putF (ci := 1) (v := .ref q_7) (ty := .object "PostGate$Bytes") (C := RX1) (T := TX1) (N := 11) hx hb hts it_1 tyX1 tyX1_ok nmX1 hown hK hP hD hS hL_h0 hF_h0 rfl 2 (by decide) (hts _ kt_566) (fun _ h9 => h9) rfl hin rfl (by decide +kernel) (rfl) (rfl) (Nat.le_of_ble_eq_true rfl) dX1_init_27 (fun H locs hP hD hS => ?_)
  obtain ⟨F_10, he_11, hP, hD, hO⟩ : ∃ G, G = va_up F_9 h0 (.inr (1, [.null, .ref q_1, .ref q_7, .null, .null, .null, .null, .int 0, .int 0, .int 0, .int 0])) ∧ va_P (dC, dI) vwCl (va_pl L G) H ∧ va_D A (va_pl L G) ∧ OK cs ty L G := ⟨_, rfl, hP, hD, hO.up (sh.raw hT_h0)⟩
  have hF_12 : F_10 h0 = .inr (1, [.null, .ref q_1, .ref q_7, .null, .null, .null, .null, .int 0, .int 0, .int 0, .int 0]) := by rw [he_11]; exact up_self
  refine lv_aload_n hx hb dX1_init_30 rfl (lv_at hl 0 rfl) ?_
  refine va_new (ci := 0) (fs := [.null, .int 0, .int 0]) (C := RX0) (T := TX0) (N := 3) hx hb hts it_0 tyX0 tyX0_ok hown (hts _ kt_1054) (hts _ kt_1013) (hts _ kt_1) hK hP hD hS hA rfl df_0 (by show _ + 1 ≤ 45; omega) (by show _ + 3 ≤ 1053; omega) dX1_init_31 (fun q_13 H hPa hDa hS => ?_)
  have hP := left1 hPa
  have hD := left2 hDa
  refine lv_dup hx hb dX1_init_34 rfl ?_
  refine lv_bipush (v := 60) hx hb dX1_init_35 (by decide) ?_
  refine W.eq (g2 := F0 m 37 ls [.int (nI 60), .ref q_13, .ref q_13, .ref h0]) rfl ?_
  have hFc := free1 hDa hS hA
  have hPq := right1 hPa
  refine va_callv (va_runI (As := [.int (nI 60)]) (rest := [.ref q_13, .ref h0]) ⟨hx, hb, hml, hown, hts⟩ (k_X0_init l dC dI cs H.size q_13 60 (ρ + 33) (by omega)) ⟨callB_of 1 hts (gi kt_1014) rfl rfl rfl (hts _ kt_1) (hts _ kt_1055) (by decide +kernel) ⟨Nat.le_of_ble_eq_true rfl, Nat.le_of_ble_eq_true rfl⟩, rfl, (hts _ kt_1016)⟩ ⟨fun a U g mk q => ⟨q.1, PT.calling q.2⟩, fun U hU hWm => ⟨rfl, PT.mk hU hWm hPq hK one1 hE (fun a _ => sh.raw rfl)⟩⟩ rfl rfl hl.1 rfl (lv_room (Nat.le_of_ble_eq_true rfl)) dX1_init_37 ⟨by show _ + 1 ≤ 45; omega, by show _ + 60 ≤ 1053; omega⟩) hS (fun q _ h => hFc q h) hFc (fun u t H1 locs ht hvm hw hB hz1 hk1 hS => ?_)
  obtain ⟨L2, F2, ty2, q_14, hN2, hc1, hc2⟩ := hB
  rw [ht] at hN2
  obtain ⟨L, ty, F_15, hN9, hold, holdF, hnew, hnewF⟩ := join1 hPa hDa hO hW hk1 hFc hN2
  obtain ⟨hP, hD, hO, hW⟩ := hN9
  generalize H1 = H at hP hS ⊢
  have hL_q_13 := (hnew _ hc1).1
  have hT_q_13 := (hnew _ hc1).2.trans hc2
  have hT_h0 := (hold _ hL_h0).2.trans hT_h0
  have hF_h0 := (holdF _ hL_h0).1.trans hF_12
  have hnx_h0 := (holdF _ hL_h0).2
  have hL_h0 := (hold _ hL_h0).1
  have hfs := gr_cons hold hfs hL_q_13 hT_q_13
  refine pg_putF (ci := 1) (v := .ref q_13) (ty := .object "PostGate$Bytes") (C := RX1) (T := TX1) (N := 11) hx hb hts it_1 tyX1 tyX1_ok nmX1 hown hK hP hD hS hL_h0 hF_h0 rfl 3 (by decide) (hts _ kt_567) (fun _ h9 => h9) rfl hin rfl (by decide +kernel) (rfl) (rfl) (Nat.le_of_ble_eq_true rfl) dX1_init_40 (fun H locs hP hD hS => ?_)
  obtain ⟨F_16, he_17, hP, hD, hO⟩ : ∃ G, G = va_up F_15 h0 (.inr (1, [.null, .ref q_1, .ref q_7, .ref q_13, .null, .null, .null, .int 0, .int 0, .int 0, .int 0])) ∧ va_P (dC, dI) vwCl (va_pl L G) H ∧ va_D A (va_pl L G) ∧ OK cs ty L G := ⟨_, rfl, hP, hD, hO.up (sh.raw hT_h0)⟩
  have hF_18 : F_16 h0 = .inr (1, [.null, .ref q_1, .ref q_7, .ref q_13, .null, .null, .null, .int 0, .int 0, .int 0, .int 0]) := by rw [he_17]; exact up_self
  refine lv_aload_n hx hb dX1_init_43 rfl (lv_at hl 0 rfl) ?_
  refine va_new (ci := 0) (fs := [.null, .int 0, .int 0]) (C := RX0) (T := TX0) (N := 3) hx hb hts it_0 tyX0 tyX0_ok hown (hts _ kt_1054) (hts _ kt_1013) (hts _ kt_1) hK hP hD hS hA rfl df_0 (by show _ + 1 ≤ 45; omega) (by show _ + 3 ≤ 1053; omega) dX1_init_44 (fun q_19 H hPa hDa hS => ?_)
  have hP := left1 hPa
  have hD := left2 hDa
  refine lv_dup hx hb dX1_init_47 rfl ?_
  refine lv_bipush (v := 15) hx hb dX1_init_48 (by decide) ?_
  refine W.eq (g2 := F0 m 50 ls [.int (nI 15), .ref q_19, .ref q_19, .ref h0]) rfl ?_
  have hFc := free1 hDa hS hA
  have hPq := right1 hPa
  refine va_callv (va_runI (As := [.int (nI 15)]) (rest := [.ref q_19, .ref h0]) ⟨hx, hb, hml, hown, hts⟩ (k_X0_init l dC dI cs H.size q_19 15 (ρ + 34) (by omega)) ⟨callB_of 1 hts (gi kt_1014) rfl rfl rfl (hts _ kt_1) (hts _ kt_1055) (by decide +kernel) ⟨Nat.le_of_ble_eq_true rfl, Nat.le_of_ble_eq_true rfl⟩, rfl, (hts _ kt_1016)⟩ ⟨fun a U g mk q => ⟨q.1, PT.calling q.2⟩, fun U hU hWm => ⟨rfl, PT.mk hU hWm hPq hK one1 hE (fun a _ => sh.raw rfl)⟩⟩ rfl rfl hl.1 rfl (lv_room (Nat.le_of_ble_eq_true rfl)) dX1_init_50 ⟨by show _ + 1 ≤ 45; omega, by show _ + 15 ≤ 1053; omega⟩) hS (fun q _ h => hFc q h) hFc (fun u t H1 locs ht hvm hw hB hz1 hk1 hS => ?_)
  obtain ⟨L2, F2, ty2, q_20, hN2, hc1, hc2⟩ := hB
  rw [ht] at hN2
  obtain ⟨L, ty, F_21, hN9, hold, holdF, hnew, hnewF⟩ := join1 hPa hDa hO hW hk1 hFc hN2
  obtain ⟨hP, hD, hO, hW⟩ := hN9
  generalize H1 = H at hP hS ⊢
  have hL_q_19 := (hnew _ hc1).1
  have hT_q_19 := (hnew _ hc1).2.trans hc2
  have hT_h0 := (hold _ hL_h0).2.trans hT_h0
  have hF_h0 := (holdF _ hL_h0).1.trans hF_18
  have hnx_h0 := (holdF _ hL_h0).2
  have hL_h0 := (hold _ hL_h0).1
  have hfs := gr_cons hold hfs hL_q_19 hT_q_19
  refine pg_putF (ci := 1) (v := .ref q_19) (ty := .object "PostGate$Bytes") (C := RX1) (T := TX1) (N := 11) hx hb hts it_1 tyX1 tyX1_ok nmX1 hown hK hP hD hS hL_h0 hF_h0 rfl 4 (by decide) (hts _ kt_565) (fun _ h9 => h9) rfl hin rfl (by decide +kernel) (rfl) (rfl) (Nat.le_of_ble_eq_true rfl) dX1_init_53 (fun H locs hP hD hS => ?_)
  obtain ⟨F_22, he_23, hP, hD, hO⟩ : ∃ G, G = va_up F_21 h0 (.inr (1, [.null, .ref q_1, .ref q_7, .ref q_13, .ref q_19, .null, .null, .int 0, .int 0, .int 0, .int 0])) ∧ va_P (dC, dI) vwCl (va_pl L G) H ∧ va_D A (va_pl L G) ∧ OK cs ty L G := ⟨_, rfl, hP, hD, hO.up (sh.raw hT_h0)⟩
  have hF_24 : F_22 h0 = .inr (1, [.null, .ref q_1, .ref q_7, .ref q_13, .ref q_19, .null, .null, .int 0, .int 0, .int 0, .int 0]) := by rw [he_23]; exact up_self
  refine lv_aload_n hx hb dX1_init_56 rfl (lv_at hl 0 rfl) ?_
  refine lv_bipush (v := 12) hx hb dX1_init_57 (by decide) ?_
  refine va_newq (N' := 12) hx hb hown (hts _ kt_1054) (hE.ao0) hK hP hD hS hA (by decide) (by decide) (by decide) (by show _ + 1 ≤ 45; omega) (by show _ + 12 ≤ 1053; omega) dX1_init_59 (fun q_25 cA H hKn hPa hDa hS => ?_)
  obtain rfl := cid_o0 hK hKn
  obtain ⟨L, ty, F_26, hN9, hold, holdF, hL_q_25, hT_q_25, hF_q_25⟩ := grow1 (e := (99, 0, [])) hPa hDa hO hW (sh.raw rtf_self) (wta_raw rtf_self)
  obtain ⟨hP, hD, hO, hW⟩ := hN9
  have hT_h0 := (hold _ hL_h0).2.trans hT_h0
  have hF_h0 := (holdF _ hL_h0).1.trans hF_24
  have hne_h0_q_25 := (holdF _ hL_h0).2
  have hL_h0 := (hold _ hL_h0).1
  have hfs := gr_keep hold hfs
  refine pg_putF (ci := 1) (v := .ref q_25) (ty := .array (.object "PostGate$Bytes")) (C := RX1) (T := TX1) (N := 11) hx hb hts it_1 tyX1 tyX1_ok nmX1 hown hK hP hD hS hL_h0 hF_h0 rfl 5 (by decide) (hts _ kt_569) (fun _ h9 => h9) rfl hin rfl (by decide +kernel) (rfl) (rfl) (Nat.le_of_ble_eq_true rfl) dX1_init_62 (fun H locs hP hD hS => ?_)
  obtain ⟨F_27, he_28, hP, hD, hO⟩ : ∃ G, G = va_up F_26 h0 (.inr (1, [.null, .ref q_1, .ref q_7, .ref q_13, .ref q_19, .ref q_25, .null, .int 0, .int 0, .int 0, .int 0])) ∧ va_P (dC, dI) vwCl (va_pl L G) H ∧ va_D A (va_pl L G) ∧ OK cs ty L G := ⟨_, rfl, hP, hD, hO.up (sh.raw hT_h0)⟩
  have hF_29 : F_27 h0 = .inr (1, [.null, .ref q_1, .ref q_7, .ref q_13, .ref q_19, .ref q_25, .null, .int 0, .int 0, .int 0, .int 0]) := by rw [he_28]; exact up_self
  have hF_30 : F_27 q_25 = .inl (cs 20, 12, .inr (.inr (.inr (.inr (fun _ => none))))) := by rw [he_28, up_ne hne_h0_q_25.symm]; exact hF_q_25
  refine lv_aload_n hx hb dX1_init_65 rfl (lv_at hl 0 rfl) ?_
  refine lv_bipush (v := 11) hx hb dX1_init_66 (by decide) ?_
  refine va_newq (N' := 11) hx hb hown (hts _ kt_1056) (hE.ao10) hK hP hD hS hA (by decide) (by decide) (by decide) (by show _ + 1 ≤ 45; omega) (by show _ + 11 ≤ 1053; omega) dX1_init_68 (fun q_31 cA H hKn hPa hDa hS => ?_)
  obtain rfl := cid_o10 hK hKn
  obtain ⟨L, ty, F_32, hN9, hold, holdF, hL_q_31, hT_q_31, hF_q_31⟩ := grow1 (e := (99, 0, [])) hPa hDa hO hW (sh.raw rtf_self) (wta_raw rtf_self)
  obtain ⟨hP, hD, hO, hW⟩ := hN9
  have hT_h0 := (hold _ hL_h0).2.trans hT_h0
  have hF_h0 := (holdF _ hL_h0).1.trans hF_29
  have hne_h0_q_31 := (holdF _ hL_h0).2
  have hL_h0 := (hold _ hL_h0).1
  have hT_q_25 := (hold _ hL_q_25).2.trans hT_q_25
  have hF_q_25 := (holdF _ hL_q_25).1.trans hF_30
  have hne_q_25_q_31 := (holdF _ hL_q_25).2
  have hL_q_25 := (hold _ hL_q_25).1
  have hfs := gr_keep hold hfs
  refine pg_putF (ci := 1) (v := .ref q_31) (ty := .array (.object "PostGate$Term")) (C := RX1) (T := TX1) (N := 11) hx hb hts it_1 tyX1 tyX1_ok nmX1 hown hK hP hD hS hL_h0 hF_h0 rfl 6 (by decide) (hts _ kt_579) (fun _ h9 => h9) rfl hin rfl (by decide +kernel) (rfl) (rfl) (Nat.le_of_ble_eq_true rfl) dX1_init_71 (fun H locs hP hD hS => ?_)
  obtain ⟨F_33, he_34, hP, hD, hO⟩ : ∃ G, G = va_up F_32 h0 (.inr (1, [.null, .ref q_1, .ref q_7, .ref q_13, .ref q_19, .ref q_25, .ref q_31, .int 0, .int 0, .int 0, .int 0])) ∧ va_P (dC, dI) vwCl (va_pl L G) H ∧ va_D A (va_pl L G) ∧ OK cs ty L G := ⟨_, rfl, hP, hD, hO.up (sh.raw hT_h0)⟩
  have hF_35 : F_33 h0 = .inr (1, [.null, .ref q_1, .ref q_7, .ref q_13, .ref q_19, .ref q_25, .ref q_31, .int 0, .int 0, .int 0, .int 0]) := by rw [he_34]; exact up_self
  have hF_36 : F_33 q_25 = .inl (cs 20, 12, .inr (.inr (.inr (.inr (fun _ => none))))) := by rw [he_34, up_ne hne_h0_q_25.symm]; exact hF_q_25
  have hF_37 : F_33 q_31 = .inl (cs 22, 11, .inr (.inr (.inr (.inr (fun _ => none))))) := by rw [he_34, up_ne hne_h0_q_31.symm]; exact hF_q_31
  refine lv_aload_n hx hb dX1_init_74 rfl (lv_at hl 0 rfl) ?_
  refine lv_iconst (v := 0) hx hb dX1_init_75 (by decide) ?_
  refine pg_put (ci := 1) (v := .int 0) (ty := .int) (C := RX1) (T := TX1) (N := 11) hx hb hts it_1 tyX1 tyX1_ok nmX1 hown hK hP hD hS hL_h0 hF_35 rfl 7 (by decide) (hts _ kt_600) (fun _ h9 => h9) rfl (by decide +kernel) (rfl) (rfl) (Nat.le_of_ble_eq_true rfl) dX1_init_76 (fun H locs hP hD hS => ?_)
  obtain ⟨F_38, he_39, hP, hD, hO⟩ : ∃ G, G = va_up F_33 h0 (.inr (1, [.null, .ref q_1, .ref q_7, .ref q_13, .ref q_19, .ref q_25, .ref q_31, .int 0, .int 0, .int 0, .int 0])) ∧ va_P (dC, dI) vwCl (va_pl L G) H ∧ va_D A (va_pl L G) ∧ OK cs ty L G := ⟨_, rfl, hP, hD, hO.up (sh.raw hT_h0)⟩
  have hF_40 : F_38 h0 = .inr (1, [.null, .ref q_1, .ref q_7, .ref q_13, .ref q_19, .ref q_25, .ref q_31, .int 0, .int 0, .int 0, .int 0]) := by rw [he_39]; exact up_self
  have hF_41 : F_38 q_25 = .inl (cs 20, 12, .inr (.inr (.inr (.inr (fun _ => none))))) := by rw [he_39, up_ne hne_h0_q_25.symm]; exact hF_36
  have hF_42 : F_38 q_31 = .inl (cs 22, 11, .inr (.inr (.inr (.inr (fun _ => none))))) := by rw [he_39, up_ne hne_h0_q_31.symm]; exact hF_37
  refine lv_aload_n hx hb dX1_init_79 rfl (lv_at hl 0 rfl) ?_
  refine lv_iconst (v := 0) hx hb dX1_init_80 (by decide) ?_
  refine pg_put (ci := 1) (v := .int 0) (ty := .boolean) (C := RX1) (T := TX1) (N := 11) hx hb hts it_1 tyX1 tyX1_ok nmX1 hown hK hP hD hS hL_h0 hF_40 rfl 8 (by decide) (hts _ kt_618) (fun _ h9 => h9) rfl (by decide +kernel) (rfl) (rfl) (Nat.le_of_ble_eq_true rfl) dX1_init_81 (fun H locs hP hD hS => ?_)
  obtain ⟨F_43, he_44, hP, hD, hO⟩ : ∃ G, G = va_up F_38 h0 (.inr (1, [.null, .ref q_1, .ref q_7, .ref q_13, .ref q_19, .ref q_25, .ref q_31, .int 0, .int 0, .int 0, .int 0])) ∧ va_P (dC, dI) vwCl (va_pl L G) H ∧ va_D A (va_pl L G) ∧ OK cs ty L G := ⟨_, rfl, hP, hD, hO.up (sh.raw hT_h0)⟩
  have hF_45 : F_43 h0 = .inr (1, [.null, .ref q_1, .ref q_7, .ref q_13, .ref q_19, .ref q_25, .ref q_31, .int 0, .int 0, .int 0, .int 0]) := by rw [he_44]; exact up_self
  have hF_46 : F_43 q_25 = .inl (cs 20, 12, .inr (.inr (.inr (.inr (fun _ => none))))) := by rw [he_44, up_ne hne_h0_q_25.symm]; exact hF_41
  have hF_47 : F_43 q_31 = .inl (cs 22, 11, .inr (.inr (.inr (.inr (fun _ => none))))) := by rw [he_44, up_ne hne_h0_q_31.symm]; exact hF_42
  refine lv_aload_n hx hb dX1_init_84 rfl (lv_at hl 0 rfl) ?_
  refine lv_iconst (v := 0) hx hb dX1_init_85 (by decide) ?_
  refine pg_put (ci := 1) (v := .int 0) (ty := .int) (C := RX1) (T := TX1) (N := 11) hx hb hts it_1 tyX1 tyX1_ok nmX1 hown hK hP hD hS hL_h0 hF_45 rfl 9 (by decide) (hts _ kt_304) (fun _ h9 => h9) rfl (by decide +kernel) (rfl) (rfl) (Nat.le_of_ble_eq_true rfl) dX1_init_86 (fun H locs hP hD hS => ?_)
  obtain ⟨F_48, he_49, hP, hD, hO⟩ : ∃ G, G = va_up F_43 h0 (.inr (1, [.null, .ref q_1, .ref q_7, .ref q_13, .ref q_19, .ref q_25, .ref q_31, .int 0, .int 0, .int 0, .int 0])) ∧ va_P (dC, dI) vwCl (va_pl L G) H ∧ va_D A (va_pl L G) ∧ OK cs ty L G := ⟨_, rfl, hP, hD, hO.up (sh.raw hT_h0)⟩
  have hF_50 : F_48 h0 = .inr (1, [.null, .ref q_1, .ref q_7, .ref q_13, .ref q_19, .ref q_25, .ref q_31, .int 0, .int 0, .int 0, .int 0]) := by rw [he_49]; exact up_self
  have hF_51 : F_48 q_25 = .inl (cs 20, 12, .inr (.inr (.inr (.inr (fun _ => none))))) := by rw [he_49, up_ne hne_h0_q_25.symm]; exact hF_46
  have hF_52 : F_48 q_31 = .inl (cs 22, 11, .inr (.inr (.inr (.inr (fun _ => none))))) := by rw [he_49, up_ne hne_h0_q_31.symm]; exact hF_47
  refine lv_aload_n hx hb dX1_init_89 rfl (lv_at hl 0 rfl) ?_
  refine lv_iconst (v := 0) hx hb dX1_init_90 (by decide) ?_
  refine pg_put (ci := 1) (v := .int 0) (ty := .int) (C := RX1) (T := TX1) (N := 11) hx hb hts it_1 tyX1 tyX1_ok nmX1 hown hK hP hD hS hL_h0 hF_50 rfl 10 (by decide) (hts _ kt_605) (fun _ h9 => h9) rfl (by decide +kernel) (rfl) (rfl) (Nat.le_of_ble_eq_true rfl) dX1_init_91 (fun H locs hP hD hS => ?_)
  obtain ⟨F_53, he_54, hP, hD, hO⟩ : ∃ G, G = va_up F_48 h0 (.inr (1, [.null, .ref q_1, .ref q_7, .ref q_13, .ref q_19, .ref q_25, .ref q_31, .int 0, .int 0, .int 0, .int 0])) ∧ va_P (dC, dI) vwCl (va_pl L G) H ∧ va_D A (va_pl L G) ∧ OK cs ty L G := ⟨_, rfl, hP, hD, hO.up (sh.raw hT_h0)⟩
  have hF_55 : F_53 h0 = .inr (1, [.null, .ref q_1, .ref q_7, .ref q_13, .ref q_19, .ref q_25, .ref q_31, .int 0, .int 0, .int 0, .int 0]) := by rw [he_54]; exact up_self
  have hF_56 : F_53 q_25 = .inl (cs 20, 12, .inr (.inr (.inr (.inr (fun _ => none))))) := by rw [he_54, up_ne hne_h0_q_25.symm]; exact hF_51
  have hF_57 : F_53 q_31 = .inl (cs 22, 11, .inr (.inr (.inr (.inr (fun _ => none))))) := by rw [he_54, up_ne hne_h0_q_31.symm]; exact hF_52
  refine lv_aload_n hx hb dX1_init_94 rfl (lv_at hl 0 rfl) ?_
  refine lv_aload_n hx hb dX1_init_95 rfl (lv_at hl 1 rfl) ?_
  refine pg_putF (ci := 1) (v := .ref d) (ty := .object "PostGate$Directory") (C := RX1) (T := TX1) (N := 11) hx hb hts it_1 tyX1 tyX1_ok nmX1 hown hK hP hD hS hL_h0 hF_55 rfl 0 (by decide) (hts _ kt_596) (fun _ h9 => h9) rfl hin rfl (by decide +kernel) (rfl) (rfl) (Nat.le_of_ble_eq_true rfl) dX1_init_96 (fun H locs hP hD hS => ?_)
  obtain ⟨F_58, he_59, hP, hD, hO⟩ : ∃ G, G = va_up F_53 h0 (.inr (1, [.ref d, .ref q_1, .ref q_7, .ref q_13, .ref q_19, .ref q_25, .ref q_31, .int 0, .int 0, .int 0, .int 0])) ∧ va_P (dC, dI) vwCl (va_pl L G) H ∧ va_D A (va_pl L G) ∧ OK cs ty L G := ⟨_, rfl, hP, hD, hO.up (sh.raw hT_h0)⟩
  have hF_60 : F_58 h0 = .inr (1, [.ref d, .ref q_1, .ref q_7, .ref q_13, .ref q_19, .ref q_25, .ref q_31, .int 0, .int 0, .int 0, .int 0]) := by rw [he_59]; exact up_self
  have hF_61 : F_58 q_25 = .inl (cs 20, 12, .inr (.inr (.inr (.inr (fun _ => none))))) := by rw [he_59, up_ne hne_h0_q_25.symm]; exact hF_56
  have hF_62 : F_58 q_31 = .inl (cs 22, 11, .inr (.inr (.inr (.inr (fun _ => none))))) := by rw [he_59, up_ne hne_h0_q_31.symm]; exact hF_57
  refine lv_iconst (v := 0) hx hb dX1_init_99 (by decide) ?_
  refine lv_istore_n (lv' := [(2, .int 0), (0, .ref h0), (1, .ref d)]) hx hb dX1_init_100 rfl hl (by decide) rfl (fun ls hl => ?_)
  refine W.widen (k := 10 + 3 * 0) (n := 231 + 69 * 0) (by omega) (by omega) ?_
  refine gr_loop (σ := Nat × (Nat → Option Nat) × (Nat → Option Nat)) A (dC, dI) cs 101 3 (fun (j, fa, fb) => [(2, .int (nI j)), (0, .ref h0), (1, .ref d)]) (fun (j, fa, fb) => []) (fun (j, fa, fb) => 10 + 3 * j) (fun (j, fa, fb) => 231 + 69 * j) (fun (j, fa, fb) ty L FF => (j ≤ 11 ∧ FILJ (fun j9 e9 => ∃ x, e9 = (0, ρ + 35 + j9 + 5, [x, 60])) L ty fa j ∧ FILJ (fun j9 e9 => e9 = (10, ρ + 36 + j9 + 24, [])) L ty fb j) ∧ h0 ∈ L ∧ ty h0 = (99, 0, []) ∧ FF h0 = .inr (1, [.ref d, .ref q_1, .ref q_7, .ref q_13, .ref q_19, .ref q_25, .ref q_31, .int 0, .int 0, .int 0, .int 0]) ∧ q_25 ∈ L ∧ ty q_25 = (99, 0, []) ∧ FF q_25 = .inl (cs 20, 12, .inr (.inr (.inr (.inr fa)))) ∧ q_31 ∈ L ∧ ty q_31 = (99, 0, []) ∧ FF q_31 = .inl (cs 22, 11, .inr (.inr (.inr (.inr fb)))) ∧ (∀ p ∈ ([(q_19, (0, ρ + 34, [q_20, 15])), (q_13, (0, ρ + 33, [q_14, 60])), (q_7, (0, ρ + 32, [q_8, 30])), (q_1, (0, ρ + 31, [q_2, 91]))] : List (Nat × TyE)), p.1 ∈ L ∧ ty p.1 = p.2)) (fun (j, fa, fb) => 11 - j) ?_ (0, (fun _ => none), (fun _ => none)) ty L F_58 ⟨⟨by omega, FILJ.nil, FILJ.nil⟩, hL_h0, hT_h0, hF_60, hL_q_25, hT_q_25, hF_61, hL_q_31, hT_q_31, hF_62, hfs⟩ _ _ ⟨hP, hD, hO, hW⟩ hS ls (lv_sub hl [0, 1, 2] rfl)
  rintro ⟨j, fa, fb⟩ ty L F_63 hv_64 ih_65 H locs hN9 hS ls hl
  have hl : lv_has ls 3 [(2, .int (nI j)), (0, .ref h0), (1, .ref d)] := hl
  obtain ⟨hu, hL_h0, hT_h0, hF_h0, hL_q_25, hT_q_25, hF_q_25, hL_q_31, hT_q_31, hF_q_31, hfs⟩ := hv_64
  have hu : j ≤ 11 ∧ FILJ (fun j9 e9 => ∃ x, e9 = (0, ρ + 35 + j9 + 5, [x, 60])) L ty fa j ∧ FILJ (fun j9 e9 => e9 = (10, ρ + 36 + j9 + 24, [])) L ty fb j := hu
  obtain ⟨hP, hD, hO, hW⟩ := hN9
  refine W.eq (g2 := F0 m 101 ls []) rfl ?_
  refine W.widen (k := 10 + 3 * j) (n := 231 + 69 * j) (Nat.le_refl _) (Nat.le_refl _) ?_
  obtain ⟨hu1, hu2, hu3⟩ := hu
  refine lv_iload_n hx hb dX1_init_101 rfl (lv_at hl 0 rfl) ?_
  refine lv_bipush (v := 11) hx hb dX1_init_102 (by decide) ?_
  refine lv_icmp_ge (tgt := 141) hx hb dX1_init_104 (by decide) (fun c_66 => ?_) (fun c_66 => ?_)
  ·
    have hi_67 : 11 ≤ j := leN (N := 11) c_66
    obtain rfl : j = 11 := by omega
    refine lv_aload_n hx hb dX1_init_141 rfl (lv_at hl 1 rfl) ?_
    refine pg_get (ci := 1) (v := .ref q_25) (C := RX1) (T := TX1) (N := 11) hx hb hts it_1 hown hK hP hL_h0 hF_h0 rfl 5 (by decide) (hts _ kt_569) (fun _ h9 => h9) rfl dX1_init_142 ?_
    refine lv_bipush (v := 11) hx hb dX1_init_145 (by decide) ?_
    refine va_new (ci := 0) (fs := [.null, .int 0, .int 0]) (C := RX0) (T := TX0) (N := 3) hx hb hts it_0 tyX0 tyX0_ok hown (hts _ kt_1054) (hts _ kt_1013) (hts _ kt_1) hK hP hD hS hA rfl df_0 (by show _ + 1 ≤ 45; omega) (by show _ + 3 ≤ 1053; omega) dX1_init_147 (fun q_68 H hPa hDa hS => ?_)
    have hP := left1 hPa
    have hD := left2 hDa
    refine lv_dup hx hb dX1_init_150 rfl ?_
    refine lv_bipush (v := 60) hx hb dX1_init_151 (by decide) ?_
    refine W.eq (g2 := F0 m 153 ls [.int (nI 60), .ref q_68, .ref q_68, .int 11, .ref q_25]) rfl ?_
    have hFc := free1 hDa hS hA
    have hPq := right1 hPa
    refine va_callv (va_runI (As := [.int (nI 60)]) (rest := [.ref q_68, .int 11, .ref q_25]) ⟨hx, hb, hml, hown, hts⟩ (k_X0_init l dC dI cs H.size q_68 60 (ρ + 35 + 11 + 5) (by omega)) ⟨callB_of 1 hts (gi kt_1014) rfl rfl rfl (hts _ kt_1) (hts _ kt_1055) (by decide +kernel) ⟨Nat.le_of_ble_eq_true rfl, Nat.le_of_ble_eq_true rfl⟩, rfl, (hts _ kt_1016)⟩ ⟨fun a U g mk q => ⟨q.1, PT.calling q.2⟩, fun U hU hWm => ⟨rfl, PT.mk hU hWm hPq hK one1 hE (fun a _ => sh.raw rfl)⟩⟩ rfl rfl hl.1 rfl (lv_room (Nat.le_of_ble_eq_true rfl)) dX1_init_153 ⟨by show _ + 1 ≤ 45; omega, by show _ + 60 ≤ 1053; omega⟩) hS (fun q _ h => hFc q h) hFc (fun u t H1 locs ht hvm hw hB hz1 hk1 hS => ?_)
    obtain ⟨L2, F2, ty2, q_69, hN2, hc1, hc2⟩ := hB
    rw [ht] at hN2
    obtain ⟨L, ty, F_70, hN9, hold, holdF, hnew, hnewF⟩ := join1 hPa hDa hO hW hk1 hFc hN2
    obtain ⟨hP, hD, hO, hW⟩ := hN9
    generalize H1 = H at hP hS ⊢
    have hL_q_68 := (hnew _ hc1).1
    have hT_q_68 := (hnew _ hc1).2.trans hc2
    have hT_h0 := (hold _ hL_h0).2.trans hT_h0
    have hF_h0 := (holdF _ hL_h0).1.trans hF_h0
    have hnx_h0 := (holdF _ hL_h0).2
    have hL_h0 := (hold _ hL_h0).1
    have hT_q_25 := (hold _ hL_q_25).2.trans hT_q_25
    have hF_q_25 := (holdF _ hL_q_25).1.trans hF_q_25
    have hnx_q_25 := (holdF _ hL_q_25).2
    have hL_q_25 := (hold _ hL_q_25).1
    have hT_q_31 := (hold _ hL_q_31).2.trans hT_q_31
    have hF_q_31 := (holdF _ hL_q_31).1.trans hF_q_31
    have hnx_q_31 := (holdF _ hL_q_31).2
    have hL_q_31 := (hold _ hL_q_31).1
    have hfs := gr_cons hold hfs hL_q_68 hT_q_68
    have hu2 := hu2.keep hold
    have hu3 := hu3.keep hold
    obtain ⟨hi_71, ht_72, hq_73⟩ := hW.bytes hL_q_68 hT_q_68
    obtain ⟨z_74, o_75, hF_76, hq_77, hq_78⟩ := hO.bytes hL_q_68 hT_q_68
    refine pg_aast (r := (RX0, TX0, 3)) hx hb hK hP hD hS hL_q_25 4 0 hF_q_25 rfl hL_q_68 hF_76 rfl (show vp_in (11 : Int32) 12 from (show vp_in (nI 11) 12 from vp_in_nI (by omega) (by omega))) dX1_init_156 (fun H locs hP hD hS => ?_)
    obtain ⟨F_79, he_80, hP, hD, hO⟩ : ∃ G, G = va_up F_70 q_25 (.inl (cs 20, 12, .inr (.inr (.inr (.inr (va_up fa (11 : Int32).toNatClampNeg (some q_68))))))) ∧ va_P (dC, dI) vwCl (va_pl L G) H ∧ va_D A (va_pl L G) ∧ OK cs ty L G := ⟨_, rfl, hP, hD, hO.up (sh.raw hT_q_25)⟩
    have hF_81 : F_79 q_25 = .inl (cs 20, 12, .inr (.inr (.inr (.inr (va_up fa (11 : Int32).toNatClampNeg (some q_68)))))) := by rw [he_80]; exact up_self
    have hF_82 : F_79 h0 = .inr (1, [.ref d, .ref q_1, .ref q_7, .ref q_13, .ref q_19, .ref q_25, .ref q_31, .int 0, .int 0, .int 0, .int 0]) := by rw [he_80, up_ne hne_h0_q_25]; exact hF_h0
    have hF_83 : F_79 q_31 = .inl (cs 22, 11, .inr (.inr (.inr (.inr fb)))) := by rw [he_80, up_ne hne_q_25_q_31.symm]; exact hF_q_31
    have hu2 := hu2.add (by omega) hL_q_68 ⟨_, hT_q_68⟩
    have hr9 : (ty q_25).1 = 99 := by rw [hT_q_25]
    have hN9 : NEW (dC, dI) cs (rtf ty q_25 (20, ρ + 35, [12])) L F_79 A H := NEW.into ⟨hP, hD, hO, hW⟩ hr9 (by rw [hF_81]; exact sh.rbytes rtf_self ⟨_, rfl, fun i hi => by obtain ⟨b, h1, h2, x, h3⟩ := hu2 i (by omega); exact ⟨b, x, h1, h2, rtf_old hr9 h3 (by decide)⟩⟩) (wta_rbytes rtf_self trivial)
    obtain ⟨ty, hty9, hN9, hfs, hT_h0, hT_q_31⟩ : ∃ t9 : TyM, t9 = rtf ty q_25 (20, ρ + 35, [12]) ∧ NEW (dC, dI) cs t9 L F_79 A H ∧ (∀ p ∈ ((q_25, (20, ρ + 35, [12])) :: [(q_68, (0, ρ + 51, [q_69, 60])), (q_19, (0, ρ + 34, [q_20, 15])), (q_13, (0, ρ + 33, [q_14, 60])), (q_7, (0, ρ + 32, [q_8, 30])), (q_1, (0, ρ + 31, [q_2, 91]))] : List (Nat × TyE)), p.1 ∈ L ∧ t9 p.1 = p.2) ∧ t9 h0 = (99, 0, []) ∧ t9 q_31 = (99, 0, []) := ⟨_, rfl, hN9, into_fs hr9 hfs (by simp) hL_q_25, (rtf_ne hne_h0_q_25).trans hT_h0, (rtf_ne hne_q_25_q_31.symm).trans hT_q_31⟩
    obtain ⟨hP, hD, hO, hW⟩ := hN9
    have hu3 : FILJ (fun j9 e9 => e9 = (10, ρ + 36 + j9 + 24, [])) L ty fb 11 := fun i hi => by obtain ⟨b, h1, h2, h3⟩ := hu3 i hi; exact ⟨b, h1, h2, by rw [hty9]; exact rtf_old hr9 h3 (by decide)⟩
    have hr9 : (ty q_31).1 = 99 := by rw [hT_q_31]
    have hN9 : NEW (dC, dI) cs (rtf ty q_31 (22, ρ + 36, [11])) L F_79 A H := NEW.into ⟨hP, hD, hO, hW⟩ hr9 (by rw [hF_83]; exact sh.rterm rtf_self ⟨_, rfl, fun i hi => by obtain ⟨b, h1, h2, h3⟩ := hu3 i (by omega); exact ⟨b, h1, h2, rtf_old hr9 h3 (by decide)⟩⟩) (wta_rterm rtf_self trivial)
    obtain ⟨ty, hty9, hN9, hfs, hT_h0⟩ : ∃ t9 : TyM, t9 = rtf ty q_31 (22, ρ + 36, [11]) ∧ NEW (dC, dI) cs t9 L F_79 A H ∧ (∀ p ∈ ((q_31, (22, ρ + 36, [11])) :: [(q_25, (20, ρ + 35, [12])), (q_68, (0, ρ + 51, [q_69, 60])), (q_19, (0, ρ + 34, [q_20, 15])), (q_13, (0, ρ + 33, [q_14, 60])), (q_7, (0, ρ + 32, [q_8, 30])), (q_1, (0, ρ + 31, [q_2, 91]))] : List (Nat × TyE)), p.1 ∈ L ∧ t9 p.1 = p.2) ∧ t9 h0 = (99, 0, []) := ⟨_, rfl, hN9, into_fs hr9 hfs (by simp) hL_q_31, (rtf_ne hne_h0_q_31).trans hT_h0⟩
    obtain ⟨hP, hD, hO, hW⟩ := hN9
    refine W.widen (k := 45) (n := 1053) (by omega) (by omega) ?_
    exact W.vret hx hb hr (fun t ht hWm => ⟨⟨(), rfl, trivial, ⟨L, F_79, ty, q_1, q_2, q_7, q_8, q_13, q_14, q_19, q_20, q_25, q_31, (by rw [ht]; exact ⟨hP, hD, hO, hW⟩), hL_h0, hT_h0, hF_82, fsub hfs (by simp)⟩⟩, hS.F ht⟩) hS.2.2 dX1_init_157
  ·
    have hi_84 : j < 11 := ltN (N := 11) c_66
    refine lv_aload_n hx hb dX1_init_107 rfl (lv_at hl 1 rfl) ?_
    refine pg_get (ci := 1) (v := .ref q_25) (C := RX1) (T := TX1) (N := 11) hx hb hts it_1 hown hK hP hL_h0 hF_h0 rfl 5 (by decide) (hts _ kt_569) (fun _ h9 => h9) rfl dX1_init_108 ?_
    refine lv_iload_n hx hb dX1_init_111 rfl (lv_at hl 0 rfl) ?_
    refine va_new (ci := 0) (fs := [.null, .int 0, .int 0]) (C := RX0) (T := TX0) (N := 3) hx hb hts it_0 tyX0 tyX0_ok hown (hts _ kt_1054) (hts _ kt_1013) (hts _ kt_1) hK hP hD hS hA rfl df_0 (by show _ + 1 ≤ 45; omega) (by show _ + 3 ≤ 1053; omega) dX1_init_112 (fun q_85 H hPa hDa hS => ?_)
    have hP := left1 hPa
    have hD := left2 hDa
    refine lv_dup hx hb dX1_init_115 rfl ?_
    refine lv_bipush (v := 60) hx hb dX1_init_116 (by decide) ?_
    refine W.eq (g2 := F0 m 118 ls [.int (nI 60), .ref q_85, .ref q_85, .int (nI j), .ref q_25]) rfl ?_
    have hFc := free1 hDa hS hA
    have hPq := right1 hPa
    refine va_callv (va_runI (As := [.int (nI 60)]) (rest := [.ref q_85, .int (nI j), .ref q_25]) ⟨hx, hb, hml, hown, hts⟩ (k_X0_init l dC dI cs H.size q_85 60 (ρ + 35 + j + 5) (by omega)) ⟨callB_of 1 hts (gi kt_1014) rfl rfl rfl (hts _ kt_1) (hts _ kt_1055) (by decide +kernel) ⟨Nat.le_of_ble_eq_true rfl, Nat.le_of_ble_eq_true rfl⟩, rfl, (hts _ kt_1016)⟩ ⟨fun a U g mk q => ⟨q.1, PT.calling q.2⟩, fun U hU hWm => ⟨rfl, PT.mk hU hWm hPq hK one1 hE (fun a _ => sh.raw rfl)⟩⟩ rfl rfl hl.1 rfl (lv_room (Nat.le_of_ble_eq_true rfl)) dX1_init_118 ⟨by show _ + 1 ≤ 45; omega, by show _ + 60 ≤ 1053; omega⟩) hS (fun q _ h => hFc q h) hFc (fun u t H1 locs ht hvm hw hB hz1 hk1 hS => ?_)
    obtain ⟨L2, F2, ty2, q_86, hN2, hc1, hc2⟩ := hB
    rw [ht] at hN2
    obtain ⟨L, ty, F_87, hN9, hold, holdF, hnew, hnewF⟩ := join1 hPa hDa hO hW hk1 hFc hN2
    obtain ⟨hP, hD, hO, hW⟩ := hN9
    generalize H1 = H at hP hS ⊢
    have hL_q_85 := (hnew _ hc1).1
    have hT_q_85 := (hnew _ hc1).2.trans hc2
    have hT_h0 := (hold _ hL_h0).2.trans hT_h0
    have hF_h0 := (holdF _ hL_h0).1.trans hF_h0
    have hnx_h0 := (holdF _ hL_h0).2
    have hL_h0 := (hold _ hL_h0).1
    have hT_q_25 := (hold _ hL_q_25).2.trans hT_q_25
    have hF_q_25 := (holdF _ hL_q_25).1.trans hF_q_25
    have hnx_q_25 := (holdF _ hL_q_25).2
    have hL_q_25 := (hold _ hL_q_25).1
    have hT_q_31 := (hold _ hL_q_31).2.trans hT_q_31
    have hF_q_31 := (holdF _ hL_q_31).1.trans hF_q_31
    have hnx_q_31 := (holdF _ hL_q_31).2
    have hL_q_31 := (hold _ hL_q_31).1
    have hfs := gr_cons hold hfs hL_q_85 hT_q_85
    have hu2 := hu2.keep hold
    have hu3 := hu3.keep hold
    obtain ⟨hi_88, ht_89, hq_90⟩ := hW.bytes hL_q_85 hT_q_85
    obtain ⟨z_91, o_92, hF_93, hq_94, hq_95⟩ := hO.bytes hL_q_85 hT_q_85
    refine pg_aast (r := (RX0, TX0, 3)) hx hb hK hP hD hS hL_q_25 4 0 hF_q_25 rfl hL_q_85 hF_93 rfl (vp_in_nI (by omega) (by omega)) dX1_init_121 (fun H locs hP hD hS => ?_)
    obtain ⟨F_96, he_97, hP, hD, hO⟩ : ∃ G, G = va_up F_87 q_25 (.inl (cs 20, 12, .inr (.inr (.inr (.inr (va_up fa ((nI j)).toNatClampNeg (some q_85))))))) ∧ va_P (dC, dI) vwCl (va_pl L G) H ∧ va_D A (va_pl L G) ∧ OK cs ty L G := ⟨_, rfl, hP, hD, hO.up (sh.raw hT_q_25)⟩
    have hF_98 : F_96 q_25 = .inl (cs 20, 12, .inr (.inr (.inr (.inr (va_up fa ((nI j)).toNatClampNeg (some q_85)))))) := by rw [he_97]; exact up_self
    have hF_99 : F_96 h0 = .inr (1, [.ref d, .ref q_1, .ref q_7, .ref q_13, .ref q_19, .ref q_25, .ref q_31, .int 0, .int 0, .int 0, .int 0]) := by rw [he_97, up_ne hne_h0_q_25]; exact hF_h0
    have hF_100 : F_96 q_31 = .inl (cs 22, 11, .inr (.inr (.inr (.inr fb)))) := by rw [he_97, up_ne hne_q_25_q_31.symm]; exact hF_q_31
    have hu2 := hu2.add (by omega) hL_q_85 ⟨_, hT_q_85⟩
    refine lv_aload_n hx hb dX1_init_122 rfl (lv_at hl 1 rfl) ?_
    refine pg_get (ci := 1) (v := .ref q_31) (C := RX1) (T := TX1) (N := 11) hx hb hts it_1 hown hK hP hL_h0 hF_99 rfl 6 (by decide) (hts _ kt_579) (fun _ h9 => h9) rfl dX1_init_123 ?_
    refine lv_iload_n hx hb dX1_init_126 rfl (lv_at hl 0 rfl) ?_
    refine va_new (ci := 10) (fs := [.int 0, .int 0, .int 0, .int 0, .int 0, .int 0]) (C := RX10) (T := TX10) (N := 6) hx hb hts it_10 tyX10 tyX10_ok hown (hts _ kt_1056) (hts _ kt_1057) (hts _ kt_90) hK hP hD hS hA rfl df_10 (by show _ + 1 ≤ 45; omega) (by show _ + 6 ≤ 1053; omega) dX1_init_127 (fun q_101 H hPa hDa hS => ?_)
    have hP := left1 hPa
    have hD := left2 hDa
    refine lv_dup hx hb dX1_init_130 rfl ?_
    refine W.eq (g2 := F0 m 131 ls [.ref q_101, .ref q_101, .int (nI j), .ref q_31]) rfl ?_
    have hFc := free1 hDa hS hA
    have hPq := right1 hPa
    refine va_callv (va_runIN (As := []) (rest := [.ref q_101, .int (nI j), .ref q_31]) ⟨hx, hb, hml, hown, hts⟩ (k_X10_init l dC dI cs H.size q_101 (ρ + 36 + j + 24) ) ⟨va_cnB 0 hts (gi kt_1058) rfl rfl rfl (hE.nestw kn_45) (hts _ kt_90) (by decide +kernel) ⟨Nat.le_of_ble_eq_true rfl, Nat.le_of_ble_eq_true rfl⟩, rfl, (hts _ kt_1059)⟩ ⟨fun a U g mk q => ⟨q.1, PT.calling q.2⟩, fun U hU hWm => ⟨rfl, PT.mk hU hWm hPq hK one1 hE (fun a _ => sh.raw rfl)⟩⟩ rfl rfl hl.1 rfl (lv_room (Nat.le_of_ble_eq_true rfl)) dX1_init_131 ⟨by show _ + 0 ≤ 45; omega, by show _ + 0 ≤ 1053; omega⟩) hS (fun q _ h => hFc q h) hFc (fun u t H1 locs ht hvm hw hB hz1 hk1 hS => ?_)
    obtain ⟨L2, F2, ty2, hN2, hc1, hc2⟩ := hB
    rw [ht] at hN2
    obtain ⟨L, ty, F_102, hN9, hold, holdF, hnew, hnewF⟩ := join1 hPa hDa hO hW hk1 hFc hN2
    obtain ⟨hP, hD, hO, hW⟩ := hN9
    generalize H1 = H at hP hS ⊢
    have hL_q_101 := (hnew _ hc1).1
    have hT_q_101 := (hnew _ hc1).2.trans hc2
    have hT_h0 := (hold _ hL_h0).2.trans hT_h0
    have hF_h0 := (holdF _ hL_h0).1.trans hF_99
    have hnx_h0 := (holdF _ hL_h0).2
    have hL_h0 := (hold _ hL_h0).1
    have hT_q_25 := (hold _ hL_q_25).2.trans hT_q_25
    have hF_q_25 := (holdF _ hL_q_25).1.trans hF_98
    have hnx_q_25 := (holdF _ hL_q_25).2
    have hL_q_25 := (hold _ hL_q_25).1
    have hT_q_31 := (hold _ hL_q_31).2.trans hT_q_31
    have hF_q_31 := (holdF _ hL_q_31).1.trans hF_100
    have hnx_q_31 := (holdF _ hL_q_31).2
    have hL_q_31 := (hold _ hL_q_31).1
    have hfs := gr_cons hold hfs hL_q_101 hT_q_101
    have hu2 := hu2.keep hold
    have hu3 := hu3.keep hold
    obtain ⟨v0_103, v1_104, v2_105, z_106, v4_107, v5_108, hF_109, hq_110⟩ := hO.term hL_q_101 hT_q_101
    refine pg_aast (r := (RX10, TX10, 6)) hx hb hK hP hD hS hL_q_31 6 10 hF_q_31 rfl hL_q_101 hF_109 rfl (vp_in_nI (by omega) (by omega)) dX1_init_134 (fun H locs hP hD hS => ?_)
    obtain ⟨F_111, he_112, hP, hD, hO⟩ : ∃ G, G = va_up F_102 q_31 (.inl (cs 22, 11, .inr (.inr (.inr (.inr (va_up fb ((nI j)).toNatClampNeg (some q_101))))))) ∧ va_P (dC, dI) vwCl (va_pl L G) H ∧ va_D A (va_pl L G) ∧ OK cs ty L G := ⟨_, rfl, hP, hD, hO.up (sh.raw hT_q_31)⟩
    have hF_113 : F_111 q_31 = .inl (cs 22, 11, .inr (.inr (.inr (.inr (va_up fb ((nI j)).toNatClampNeg (some q_101)))))) := by rw [he_112]; exact up_self
    have hF_114 : F_111 q_25 = .inl (cs 20, 12, .inr (.inr (.inr (.inr (va_up fa ((nI j)).toNatClampNeg (some q_85)))))) := by rw [he_112, up_ne hne_q_25_q_31]; exact hF_q_25
    have hF_115 : F_111 h0 = .inr (1, [.ref d, .ref q_1, .ref q_7, .ref q_13, .ref q_19, .ref q_25, .ref q_31, .int 0, .int 0, .int 0, .int 0]) := by rw [he_112, up_ne hne_h0_q_31]; exact hF_h0
    have hu3 := hu3.add (by omega) hL_q_101 hT_q_101
    refine lv_iinc (v := (nI (j + 1))) (lv' := [(2, .int (nI (j + 1))), (0, .ref h0), (1, .ref d)]) hx hb dX1_init_135 hl (k := 0) rfl (nI_1 _) (by decide) rfl (fun ls hl => ?_)
    refine lv_goto (tgt := 101) hx hb dX1_init_138 (by decide) ?_
    refine W.widen (k := 10 + 3 * (j + 1)) (n := 231 + 69 * (j + 1)) (by omega) (by omega) ?_
    exact ih_65 ((j + 1), (va_up fa ((nI j)).toNatClampNeg (some q_85)), (va_up fb ((nI j)).toNatClampNeg (some q_101))) ty L F_111 ⟨⟨by omega, hu2, hu3⟩, hL_h0, hT_h0, hF_115, hL_q_25, hT_q_25, hF_114, hL_q_31, hT_q_31, hF_113, fsub hfs (fun _ h => List.mem_cons_of_mem _ (List.mem_cons_of_mem _ (h)))⟩ (by show 11 - (j + 1) < 11 - j; omega) _ _ ⟨hP, hD, hO, hW⟩ hS ls (lv_sub hl [0, 1, 2] rfl)
