theorem dX1_addQuad_0 : decode cX1_addQuad 0 = .ok (.bipush 24, 2) := by decide +kernel
theorem dX1_addQuad_2 : decode cX1_addQuad 2 = .ok (.istore_n 1, 1) := by decide +kernel
theorem dX1_addQuad_3 : decode cX1_addQuad 3 = .ok (.iload_n 1, 1) := by decide +kernel
theorem dX1_addQuad_4 : decode cX1_addQuad 4 = .ok (.ifCond .lt 90, 3) := by decide +kernel
theorem dX1_addQuad_7 : decode cX1_addQuad 7 = .ok (.aload_n 0, 1) := by decide +kernel
theorem dX1_addQuad_8 : decode cX1_addQuad 8 = .ok (.getfield 39, 3) := by decide +kernel
theorem dX1_addQuad_11 : decode cX1_addQuad 11 = .ok (.iload_n 1, 1) := by decide +kernel
theorem dX1_addQuad_12 : decode cX1_addQuad 12 = .ok (.iushr, 1) := by decide +kernel
theorem dX1_addQuad_13 : decode cX1_addQuad 13 = .ok (.sipush 255, 3) := by decide +kernel
theorem dX1_addQuad_16 : decode cX1_addQuad 16 = .ok (.iand, 1) := by decide +kernel
theorem dX1_addQuad_17 : decode cX1_addQuad 17 = .ok (.istore_n 2, 1) := by decide +kernel
theorem dX1_addQuad_18 : decode cX1_addQuad 18 = .ok (.iload_n 2, 1) := by decide +kernel
theorem dX1_addQuad_19 : decode cX1_addQuad 19 = .ok (.bipush 100, 2) := by decide +kernel
theorem dX1_addQuad_21 : decode cX1_addQuad 21 = .ok (.if_icmp .lt 17, 3) := by decide +kernel
theorem dX1_addQuad_24 : decode cX1_addQuad 24 = .ok (.aload_n 0, 1) := by decide +kernel
theorem dX1_addQuad_25 : decode cX1_addQuad 25 = .ok (.getfield 26, 3) := by decide +kernel
theorem dX1_addQuad_28 : decode cX1_addQuad 28 = .ok (.bipush 48, 2) := by decide +kernel
theorem dX1_addQuad_30 : decode cX1_addQuad 30 = .ok (.iload_n 2, 1) := by decide +kernel
theorem dX1_addQuad_31 : decode cX1_addQuad 31 = .ok (.bipush 100, 2) := by decide +kernel
theorem dX1_addQuad_33 : decode cX1_addQuad 33 = .ok (.idiv, 1) := by decide +kernel
theorem dX1_addQuad_34 : decode cX1_addQuad 34 = .ok (.iadd, 1) := by decide +kernel
theorem dX1_addQuad_35 : decode cX1_addQuad 35 = .ok (.invokevirtual 98, 3) := by decide +kernel
theorem dX1_addQuad_38 : decode cX1_addQuad 38 = .ok (.iload_n 2, 1) := by decide +kernel
theorem dX1_addQuad_39 : decode cX1_addQuad 39 = .ok (.bipush 10, 2) := by decide +kernel
theorem dX1_addQuad_41 : decode cX1_addQuad 41 = .ok (.if_icmp .lt 20, 3) := by decide +kernel
theorem dX1_addQuad_44 : decode cX1_addQuad 44 = .ok (.aload_n 0, 1) := by decide +kernel
theorem dX1_addQuad_45 : decode cX1_addQuad 45 = .ok (.getfield 26, 3) := by decide +kernel
theorem dX1_addQuad_48 : decode cX1_addQuad 48 = .ok (.bipush 48, 2) := by decide +kernel
theorem dX1_addQuad_50 : decode cX1_addQuad 50 = .ok (.iload_n 2, 1) := by decide +kernel
theorem dX1_addQuad_51 : decode cX1_addQuad 51 = .ok (.bipush 10, 2) := by decide +kernel
theorem dX1_addQuad_53 : decode cX1_addQuad 53 = .ok (.idiv, 1) := by decide +kernel
theorem dX1_addQuad_54 : decode cX1_addQuad 54 = .ok (.bipush 10, 2) := by decide +kernel
theorem dX1_addQuad_56 : decode cX1_addQuad 56 = .ok (.irem, 1) := by decide +kernel
theorem dX1_addQuad_57 : decode cX1_addQuad 57 = .ok (.iadd, 1) := by decide +kernel
theorem dX1_addQuad_58 : decode cX1_addQuad 58 = .ok (.invokevirtual 98, 3) := by decide +kernel
theorem dX1_addQuad_61 : decode cX1_addQuad 61 = .ok (.aload_n 0, 1) := by decide +kernel
theorem dX1_addQuad_62 : decode cX1_addQuad 62 = .ok (.getfield 26, 3) := by decide +kernel
theorem dX1_addQuad_65 : decode cX1_addQuad 65 = .ok (.bipush 48, 2) := by decide +kernel
theorem dX1_addQuad_67 : decode cX1_addQuad 67 = .ok (.iload_n 2, 1) := by decide +kernel
theorem dX1_addQuad_68 : decode cX1_addQuad 68 = .ok (.bipush 10, 2) := by decide +kernel
theorem dX1_addQuad_70 : decode cX1_addQuad 70 = .ok (.irem, 1) := by decide +kernel
theorem dX1_addQuad_71 : decode cX1_addQuad 71 = .ok (.iadd, 1) := by decide +kernel
theorem dX1_addQuad_72 : decode cX1_addQuad 72 = .ok (.invokevirtual 98, 3) := by decide +kernel
theorem dX1_addQuad_75 : decode cX1_addQuad 75 = .ok (.iload_n 1, 1) := by decide +kernel
theorem dX1_addQuad_76 : decode cX1_addQuad 76 = .ok (.ifCond .le 12, 3) := by decide +kernel
theorem dX1_addQuad_79 : decode cX1_addQuad 79 = .ok (.aload_n 0, 1) := by decide +kernel
theorem dX1_addQuad_80 : decode cX1_addQuad 80 = .ok (.getfield 26, 3) := by decide +kernel
theorem dX1_addQuad_83 : decode cX1_addQuad 83 = .ok (.bipush 46, 2) := by decide +kernel
theorem dX1_addQuad_85 : decode cX1_addQuad 85 = .ok (.invokevirtual 98, 3) := by decide +kernel
theorem dX1_addQuad_88 : decode cX1_addQuad 88 = .ok (.iinc 1 (-8), 3) := by decide +kernel
theorem dX1_addQuad_91 : decode cX1_addQuad 91 = .ok (.goto (-88), 3) := by decide +kernel
theorem dX1_addQuad_94 : decode cX1_addQuad 94 = .ok (.return_, 1) := by decide +kernel
def shv : Nat → Int32
  | 0 => 24
  | 1 => 16
  | 2 => 8
  | 3 => 0
  | _ => (-8)
theorem shv_lt {k : Nat} (hk : k ≤ 4) : shv k < 0 ↔ k = 4 := by
  rcases (show k = 0 ∨ k = 1 ∨ k = 2 ∨ k = 3 ∨ k = 4 by omega) with rfl | rfl | rfl | rfl | rfl <;> decide
theorem shv_le {k : Nat} (hk : k ≤ 3) : shv k ≤ 0 ↔ ¬ k < 3 := by
  rcases (show k = 0 ∨ k = 1 ∨ k = 2 ∨ k = 3 by omega) with rfl | rfl | rfl | rfl <;> decide
theorem shv_s {k : Nat} (hk : k ≤ 3) : shv k + Int32.ofInt (-8) = shv (k + 1) := by
  rcases (show k = 0 ∨ k = 1 ∨ k = 2 ∨ k = 3 by omega) with rfl | rfl | rfl | rfl <;> decide
def ocN (x s : Int32) : Nat := (usn x s &&& 255).toNatClampNeg
theorem ocN_e (x s : Int32) : usn x s &&& 255 = nI (ocN x s) ∧ ocN x s ≤ 255 := by
  unfold ocN
  generalize usn x s = y
  have h1 : ¬ (y &&& 255) < 0 := by
    rw [Int32.lt_iff_toInt_lt]
    intro h
    have h2 : (y &&& 255).toBitVec.msb = false := by
      rw [Int32.toBitVec_and, BitVec.msb_and, show (255 : Int32).toBitVec.msb = false by decide, Bool.and_false]
    have h3 : 0 ≤ (y &&& 255).toInt := by
      show 0 ≤ (y &&& 255).toBitVec.toInt
      rw [BitVec.toInt_eq_msb_cond, h2]
      simp
    have h4 : (0 : Int32).toInt = 0 := by decide
    omega
  have h5 : ¬ 255 < (y &&& 255) := by
    rw [Int32.lt_iff_toInt_lt]
    intro h
    have h2 : (y &&& 255).toBitVec.msb = false := by
      rw [Int32.toBitVec_and, BitVec.msb_and, show (255 : Int32).toBitVec.msb = false by decide, Bool.and_false]
    have h3 : (y &&& 255).toInt = ((y &&& 255).toBitVec.toNat : Int) := by
      show (y &&& 255).toBitVec.toInt = _
      rw [BitVec.toInt_eq_msb_cond, h2]
      simp
    have h6 : (y &&& 255).toBitVec.toNat ≤ 255 := by
      rw [Int32.toBitVec_and, BitVec.toNat_and]
      exact Nat.and_le_right
    have h4 : (255 : Int32).toInt = 255 := by decide
    omega
  obtain ⟨k, hk, e⟩ := nI_of h1
  rw [e, nI_clamp hk]
  rw [e] at h5
  exact ⟨rfl, Nat.not_lt.mp (fun q => h5 ((nI_ltI (a := 255) (by omega) hk).mpr q))⟩
def dgL (v : Nat) : List Nat := (if v < 100 then [] else [48 + v / 100]) ++ (if v < 10 then [] else [48 + v / 10 % 10]) ++ [48 + v % 10]
def qdP (x : Int32) : Nat → List Nat
  | 0 => []
  | k + 1 => qdP x k ++ (dgL (ocN x (shv k)) ++ (if k < 3 then [46] else []))
def qdL (x : Int32) : List Nat := qdP x 4
set_option maxHeartbeats 4000000 in
set_option maxRecDepth 100000 in
theorem s_X1_addQuad_e (l : Launch) (dC : Nat → ClassId) (dI : Nat → Nat → Nat) (cs : Nat → ClassId) (ty : TyM) (L : List Nat) (sz : Nat) (F : Nat → va_E) (h0 : Nat) (ρ : Nat) (d : Nat) (δ : Nat) (ea : Nat) (w0 : Nat) (w1 : Nat) (w2 : Nat) (w3 : Nat) (nm : Nat) (te : Nat) (cc : Nat) (vo : Nat) (ad : Int32) (v1 : Int32) (hW : WT ty L) (hL_h0 : h0 ∈ L) (hT_h0 : ty h0 = (1, ρ, [d, δ, ea, w0, w1, w2, w3, nm, te])) (hFh : F h0 = .inr (1, [.ref d, .ref w0, .ref w1, .ref w2, .ref w3, .ref nm, .ref te, .int ad, .int v1, .int (nI cc), .int (nI vo)])) (hQ0 : TXG cs F w3 15 []) : Met l yX1_addQuad (.code yX1_addQuad cX1_addQuad 3 none :: tb) ({ frames := 1, cells := 0, slots := 0, locals := 21 }) (va_Pc [.ref h0] (PT (dC, dI) cs ty L F sz)) (va_Qv (fun _ : Unit => True) (fun _ T9 => ∃ F2 : Nat → va_E, QT (dC, dI) cs ty L [ρ + 34] F F2 (va_A (va_pl L F) sz) T9 ∧ TXG cs F2 w3 15 (qdL ad)) (va_A (va_pl L F) sz)) 0 0 (va_A (va_pl L F) sz) := by
  refine Met.ofW (cc := cX1_addQuad) (maxL := 3) (ret := none) (by decide) rfl ?_
  intro p e s m args below meth c s₁ B hml hv
  obtain ⟨rfl, hsz, hP, hK, hD0, hE, hO⟩ := hv
  have hx := B.exec
  have hb := B.bytes
  have hr := B.returns
  have hts : ∀ w ∈ tb, w.before _ s = true := fun w h => atoms_spec (ws := .code yX1_addQuad cX1_addQuad 3 none :: tb) B.pre w (List.mem_cons_of_mem _ h)
  have hown : s.vm.findClass RX1 = some m.cls := findClass_of_methodNamed B.named
  have hlocks := B.notSynchronized
  subst hsz
  have hD := hD0.self (sz := s.heap.size)
  generalize hAe : va_A (va_pl L F) s.heap.size = A at hD ⊢
  have hA : ∀ q : Nat, s.heap.size ≤ q → A q := fun q h => by rw [← hAe]; exact Or.inr h
  have hS : va_S A s.heap s.heap [] := va_S.rf
  have hR : FR ty [ρ + 34] F F := FR.refl
  have hl := lv_entry ([.ref h0]) (n := 3) (Nat.le_of_ble_eq_true rfl)
  rw [lg_entry_eq]
  generalize (lg_sl ([.ref h0]) ++ List.replicate (3 - (lg_sl ([.ref h0])).length) Slot.unset).toArray = ls at hl ⊢
  have hl : lv_has ls 3 [(0, .ref h0)] := hl
  obtain ⟨hi_1, ht_2, hi_3, ⟨r_4, ht_5⟩, hi_6, ⟨r_7, ht_8⟩, hi_9, ⟨r_10, ht_11⟩, hi_12, ⟨r_13, ht_14⟩, hi_15, ht_16, hi_17, ht_18⟩ := hW.chk hL_h0 hT_h0
  obtain ⟨hi_19, ht_20, hq_21⟩ := hW.bytes hi_12 ht_14
  refine lv_bipush (v := 24) hx hb dX1_addQuad_0 (by decide) ?_
  refine lv_istore_n (lv' := [(1, .int 24), (0, .ref h0)]) hx hb dX1_addQuad_2 rfl hl (by decide) rfl (fun ls hl => ?_)
  refine W.widen (k := 0) (n := 0) (by omega) (by omega) ?_
  have hF_23 : F h0 = .inr (1, [.ref d, .ref w0, .ref w1, .ref w2, .ref w3, .ref nm, .ref te, .int ad, .int v1, .int (nI cc), .int (nI vo)]) := (hR h0 (by rw [hT_h0]; simp)).symm.trans hFh
  refine pl_loop (σ := Int32 × Nat) A (dC, dI) cs ty L [ρ + 34] F 3 3 (fun (i1, kq) => [(1, .int i1), (0, .ref h0)]) (fun (i1, kq) => []) (fun (i1, kq) FF => kq ≤ 4 ∧ i1 = shv kq ∧ TXG cs FF w3 15 (qdP ad kq)) (fun (i1, kq) => 4 - kq) ?_ (24, 0) F (⟨by omega, rfl, hQ0⟩) hO hR _ _ hP hD hS ls (lv_sub hl [0, 1] rfl)
  rintro ⟨i1, kq⟩ F_22 hv_24 hO hR ih_25 H locs hP hD hS ls hl
  have hl : lv_has ls 3 [(1, .int i1), (0, .ref h0)] := hl
  have hv_24 : kq ≤ 4 ∧ i1 = shv kq ∧ TXG cs F_22 w3 15 (qdP ad kq) := hv_24
  refine W.eq (g2 := F0 m 3 ls []) rfl ?_
  have hF_26 : F_22 h0 = .inr (1, [.ref d, .ref w0, .ref w1, .ref w2, .ref w3, .ref nm, .ref te, .int ad, .int v1, .int (nI cc), .int (nI vo)]) := (hR h0 (by rw [hT_h0]; simp)).trans hF_23
  obtain ⟨hv1, hv2, hv3⟩ := id hv_24
  subst hv2
  obtain ⟨yy, ov, fq, hy1, hy2, hy3⟩ := hv3.get hO hi_12 ht_14
  have hvv := (ocN_e ad (shv kq)).2
  refine lv_iload_n hx hb dX1_addQuad_3 rfl (lv_at hl 0 rfl) ?_
  refine lv_if_lt (tgt := 94) hx hb dX1_addQuad_4 (by decide) (fun c_27 => ?_) (fun c_27 => ?_)
  ·
    have hk4 : kq = 4 := (shv_lt hv1).mp c_27
    refine W.widen (k := 0) (n := 0) (by omega) (by omega) ?_
    exact W.vret hx hb hr (fun t ht hWm => ⟨⟨(), rfl, trivial, ⟨F_22, QT.mk ht hP hD hO hR, (by have h9 := hv3; rw [hk4] at h9; exact h9)⟩⟩, hS.F ht⟩) hS.2.2 dX1_addQuad_94
  ·
    have hk3 : kq ≤ 3 := by have h9 : kq ≠ 4 := fun q => c_27 ((shv_lt hv1).mpr q); omega
    refine lv_aload_n hx hb dX1_addQuad_7 rfl (lv_at hl 1 rfl) ?_
    refine pg_get (ci := 1) (v := .int ad) (C := RX1) (T := TX1) (N := 11) hx hb hts it_1 hown hK hP hL_h0 hF_26 rfl 7 (by decide) (hts _ kt_600) (fun _ h9 => h9) rfl dX1_addQuad_8 ?_
    refine lv_iload_n hx hb dX1_addQuad_11 rfl (lv_at hl 0 rfl) ?_
    refine lv_iushr hx hb dX1_addQuad_12 rfl ?_
    refine lv_topi (fun x_29 ex_29 => ?_)
    obtain rfl : x_29 = (usn ad (shv kq)) := ex_29.trans (rfl)
    refine lv_sipush (v := 255) hx hb dX1_addQuad_13 (by decide) ?_
    refine lv_iand hx hb dX1_addQuad_16 ?_
    refine lv_topi (fun x_30 ex_30 => ?_)
    obtain rfl : x_30 = (nI (ocN ad (shv kq))) := ex_30.trans ((ocN_e ad (shv kq)).1)
    refine lv_istore_n (lv' := [(2, .int (nI (ocN ad (shv kq)))), (1, .int (shv kq)), (0, .ref h0)]) hx hb dX1_addQuad_17 rfl hl (by decide) rfl (fun ls hl => ?_)
    refine lv_iload_n hx hb dX1_addQuad_18 rfl (lv_at hl 0 rfl) ?_
    refine lv_bipush (v := 100) hx hb dX1_addQuad_19 (by decide) ?_
    refine lv_icmp_lt (tgt := 38) hx hb dX1_addQuad_21 (by decide) (fun c_31 => ?_) (fun c_31 => ?_)
    ·
      have hi_32 : (ocN ad (shv kq)) < 100 := ltN (N := 100) (Int32.not_le.mpr c_31)
      have hl100 : (ocN ad (shv kq)) < 100 := (nI_ltI (b := 100) (by omega) (by omega)).mp c_31
      refine lv_iload_n hx hb dX1_addQuad_38 rfl (lv_at hl 0 rfl) ?_
      refine lv_bipush (v := 10) hx hb dX1_addQuad_39 (by decide) ?_
      refine lv_icmp_lt (tgt := 61) hx hb dX1_addQuad_41 (by decide) (fun c_33 => ?_) (fun c_33 => ?_)
      ·
        have hi_34 : (ocN ad (shv kq)) < 10 := ltN (N := 10) (Int32.not_le.mpr c_33)
        have hl10 : (ocN ad (shv kq)) < 10 := (nI_ltI (b := 10) (by omega) (by omega)).mp c_33
        refine lv_aload_n hx hb dX1_addQuad_61 rfl (lv_at hl 2 rfl) ?_
        refine pg_get (ci := 1) (v := .ref w3) (C := RX1) (T := TX1) (N := 11) hx hb hts it_1 hown hK hP hL_h0 hF_26 rfl 4 (by decide) (hts _ kt_565) (fun _ h9 => h9) rfl dX1_addQuad_62 ?_
        refine lv_bipush (v := 48) hx hb dX1_addQuad_65 (by decide) ?_
        refine lv_iload_n hx hb dX1_addQuad_67 rfl (lv_at hl 0 rfl) ?_
        refine lv_bipush (v := 10) hx hb dX1_addQuad_68 (by decide) ?_
        refine lv_irem hx hb dX1_addQuad_70 (by decide) ?_
        refine lv_topi (fun x_35 ex_35 => ?_)
        obtain rfl : x_35 = (nI ((ocN ad (shv kq)) % 10)) := ex_35.trans (pk_rem (a := (ocN ad (shv kq))) (d := 10) (by omega) (by omega) (by omega))
        refine lv_iadd hx hb dX1_addQuad_71 ?_
        refine lv_topi (fun x_36 ex_36 => ?_)
        obtain rfl : x_36 = (nI (48 + (ocN ad (shv kq)) % 10)) := ex_36.trans (nI_add 48 ((ocN ad (shv kq)) % 10))
        have hFc := pg_free hD hS hA
        refine va_callv (va_runV (As := [.int (nI (48 + (ocN ad (shv kq)) % 10))]) (rest := []) ⟨hx, hb, hml, hown, hts⟩ (s_X0_add_t l dC dI cs ty L H.size F_22 w3 (ρ + 34) r_13 15 yy (48 + (ocN ad (shv kq)) % 10) fq ov (qdP ad kq) hW hi_12 ht_14 hy1 hy2 (by omega) (hy3)) ⟨callB_of 1 hts (gi kt_13) rfl rfl rfl (hts _ kt_1) (hts _ kt_563) (by decide +kernel) ⟨Nat.le_of_ble_eq_true rfl, Nat.le_of_ble_eq_true rfl⟩, (hts _ kt_15), (hts _ kt_16)⟩ ⟨fun a U g mk q => ⟨q.1, PT.calling q.2⟩, pg_recv hK hP hi_12 hy1 (q := (RX0, TX0, 3)) rfl, fun U hU hWm => ⟨rfl, PT.mk hU hWm hP hK hD hE hO⟩⟩ rfl rfl hl.1 rfl (lv_room (Nat.le_of_ble_eq_true rfl)) dX1_addQuad_72 ⟨by show _ + 0 ≤ 0; omega, by show _ + 0 ≤ 0; omega⟩) hS (fun q _ h => hFc q h) hFc (fun u t H1 locs ht hvm hw hB hz1 hk1 hS => ?_)
        obtain ⟨F_38, y2_39, oo2_40, f2_41, hB1, hq_42, hq_43, hq_44⟩ := hB
        obtain ⟨hP, hD, hO, hR⟩ := QT.back hB1 ht hFc hR (fun q h => by simp only [List.mem_cons, List.not_mem_nil, or_false] at h ⊢; omega)
        have hF_45 : F_38 h0 = .inr (1, [.ref d, .ref w0, .ref w1, .ref w2, .ref w3, .ref nm, .ref te, .int ad, .int v1, .int (nI cc), .int (nI vo)]) := (hB1.2.2.2 h0 (by rw [hT_h0]; simp)).trans hF_26
        generalize H1 = H at hP hS ⊢
        refine lv_iload_n hx hb dX1_addQuad_75 rfl (lv_at hl 1 rfl) ?_
        refine lv_if_le (tgt := 88) hx hb dX1_addQuad_76 (by decide) (fun c_46 => ?_) (fun c_46 => ?_)
        ·
          have hk33 : ¬ kq < 3 := (shv_le hk3).mp c_46
          obtain ⟨x_47, ex_47⟩ : ∃ y : Int32, y = (shv kq) + Int32.ofInt (-8) := ⟨_, rfl⟩
          refine lv_iinc (v := x_47) (lv' := [(1, .int x_47), (2, .int (nI (ocN ad (shv kq)))), (0, .ref h0)]) hx hb dX1_addQuad_88 hl (k := 1) rfl (ex_47.symm) (by decide) rfl (fun ls hl => ?_)
          refine lv_goto (tgt := 3) hx hb dX1_addQuad_91 (by decide) ?_
          refine W.widen (k := 0) (n := 0) (by omega) (by omega) ?_
          exact ih_25 (x_47, (kq + 1)) F_38 (⟨by omega, ex_47.trans (shv_s hk3), ⟨r_13, _, _, _, hq_42, hq_43, by have h9 := hq_44; show TGA (qdP ad kq ++ (dgL (ocN ad (shv kq)) ++ (if kq < 3 then [46] else []))) _ _ _ _; unfold dgL; rw [if_pos hl100, if_pos hl10, if_neg hk33]; simpa [List.append_assoc] using h9⟩⟩) (by show 4 - (kq + 1) < 4 - kq; omega) hO hR _ _ hP hD hS ls (lv_sub hl [0, 2] rfl)
        ·
          have hk33 : kq < 3 := Classical.byContradiction (fun q => c_46 ((shv_le hk3).mpr q))
          refine lv_aload_n hx hb dX1_addQuad_79 rfl (lv_at hl 2 rfl) ?_
          refine pg_get (ci := 1) (v := .ref w3) (C := RX1) (T := TX1) (N := 11) hx hb hts it_1 hown hK hP hL_h0 hF_45 rfl 4 (by decide) (hts _ kt_565) (fun _ h9 => h9) rfl dX1_addQuad_80 ?_
          refine lv_bipush (v := 46) hx hb dX1_addQuad_83 (by decide) ?_
          refine W.eq (g2 := F0 m 85 ls [.int (nI 46), .ref w3]) rfl ?_
          have hFc := pg_free hD hS hA
          refine va_callv (va_runV (As := [.int (nI 46)]) (rest := []) ⟨hx, hb, hml, hown, hts⟩ (s_X0_add_t l dC dI cs ty L H.size F_38 w3 (ρ + 34) r_13 15 y2_39 46 f2_41 oo2_40 ((qdP ad kq) ++ [48 + (ocN ad (shv kq)) % 10]) hW hi_12 ht_14 hq_42 hq_43 (by omega) (hq_44)) ⟨callB_of 1 hts (gi kt_13) rfl rfl rfl (hts _ kt_1) (hts _ kt_563) (by decide +kernel) ⟨Nat.le_of_ble_eq_true rfl, Nat.le_of_ble_eq_true rfl⟩, (hts _ kt_15), (hts _ kt_16)⟩ ⟨fun a U g mk q => ⟨q.1, PT.calling q.2⟩, pg_recv hK hP hi_12 hq_42 (q := (RX0, TX0, 3)) rfl, fun U hU hWm => ⟨rfl, PT.mk hU hWm hP hK hD hE hO⟩⟩ rfl rfl hl.1 rfl (lv_room (Nat.le_of_ble_eq_true rfl)) dX1_addQuad_85 ⟨by show _ + 0 ≤ 0; omega, by show _ + 0 ≤ 0; omega⟩) hS (fun q _ h => hFc q h) hFc (fun u t H1 locs ht hvm hw hB hz1 hk1 hS => ?_)
          obtain ⟨F_49, y2_50, oo2_51, f2_52, hB1, hq_53, hq_54, hq_55⟩ := hB
          obtain ⟨hP, hD, hO, hR⟩ := QT.back hB1 ht hFc hR (fun q h => by simp only [List.mem_cons, List.not_mem_nil, or_false] at h ⊢; omega)
          have hF_56 : F_49 h0 = .inr (1, [.ref d, .ref w0, .ref w1, .ref w2, .ref w3, .ref nm, .ref te, .int ad, .int v1, .int (nI cc), .int (nI vo)]) := (hB1.2.2.2 h0 (by rw [hT_h0]; simp)).trans hF_45
          generalize H1 = H at hP hS ⊢
          obtain ⟨x_57, ex_57⟩ : ∃ y : Int32, y = (shv kq) + Int32.ofInt (-8) := ⟨_, rfl⟩
          refine lv_iinc (v := x_57) (lv' := [(1, .int x_57), (2, .int (nI (ocN ad (shv kq)))), (0, .ref h0)]) hx hb dX1_addQuad_88 hl (k := 1) rfl (ex_57.symm) (by decide) rfl (fun ls hl => ?_)
          refine lv_goto (tgt := 3) hx hb dX1_addQuad_91 (by decide) ?_
          refine W.widen (k := 0) (n := 0) (by omega) (by omega) ?_
          exact ih_25 (x_57, (kq + 1)) F_49 (⟨by omega, ex_57.trans (shv_s hk3), ⟨r_13, _, _, _, hq_53, hq_54, by have h9 := hq_55; show TGA (qdP ad kq ++ (dgL (ocN ad (shv kq)) ++ (if kq < 3 then [46] else []))) _ _ _ _; unfold dgL; rw [if_pos hl100, if_pos hl10, if_pos hk33]; simpa [List.append_assoc] using h9⟩⟩) (by show 4 - (kq + 1) < 4 - kq; omega) hO hR _ _ hP hD hS ls (lv_sub hl [0, 2] rfl)
      ·
        have hi_58 : 10 ≤ (ocN ad (shv kq)) := leN (N := 10) (Int32.not_lt.mp c_33)
        have hl10 : ¬ (ocN ad (shv kq)) < 10 := fun q => c_33 ((nI_ltI (b := 10) (by omega) (by omega)).mpr q)
        refine lv_aload_n hx hb dX1_addQuad_44 rfl (lv_at hl 2 rfl) ?_
        refine pg_get (ci := 1) (v := .ref w3) (C := RX1) (T := TX1) (N := 11) hx hb hts it_1 hown hK hP hL_h0 hF_26 rfl 4 (by decide) (hts _ kt_565) (fun _ h9 => h9) rfl dX1_addQuad_45 ?_
        refine lv_bipush (v := 48) hx hb dX1_addQuad_48 (by decide) ?_
        refine lv_iload_n hx hb dX1_addQuad_50 rfl (lv_at hl 0 rfl) ?_
        refine lv_bipush (v := 10) hx hb dX1_addQuad_51 (by decide) ?_
        refine lv_idiv hx hb dX1_addQuad_53 (by decide) ?_
        refine lv_topi (fun x_59 ex_59 => ?_)
        obtain rfl : x_59 = (nI ((ocN ad (shv kq)) / 10)) := ex_59.trans (pk_div (d := 10) (by omega) (by omega) (by omega))
        refine lv_bipush (v := 10) hx hb dX1_addQuad_54 (by decide) ?_
        refine lv_irem hx hb dX1_addQuad_56 (by decide) ?_
        refine lv_topi (fun x_60 ex_60 => ?_)
        obtain rfl : x_60 = (nI ((ocN ad (shv kq)) / 10 % 10)) := ex_60.trans (pk_rem (a := (ocN ad (shv kq)) / 10) (d := 10) (by omega) (by omega) (by omega))
        refine lv_iadd hx hb dX1_addQuad_57 ?_
        refine lv_topi (fun x_61 ex_61 => ?_)
        obtain rfl : x_61 = (nI (48 + (ocN ad (shv kq)) / 10 % 10)) := ex_61.trans (nI_add 48 ((ocN ad (shv kq)) / 10 % 10))
        have hFc := pg_free hD hS hA
        refine va_callv (va_runV (As := [.int (nI (48 + (ocN ad (shv kq)) / 10 % 10))]) (rest := []) ⟨hx, hb, hml, hown, hts⟩ (s_X0_add_t l dC dI cs ty L H.size F_22 w3 (ρ + 34) r_13 15 yy (48 + (ocN ad (shv kq)) / 10 % 10) fq ov (qdP ad kq) hW hi_12 ht_14 hy1 hy2 (by omega) (hy3)) ⟨callB_of 1 hts (gi kt_13) rfl rfl rfl (hts _ kt_1) (hts _ kt_563) (by decide +kernel) ⟨Nat.le_of_ble_eq_true rfl, Nat.le_of_ble_eq_true rfl⟩, (hts _ kt_15), (hts _ kt_16)⟩ ⟨fun a U g mk q => ⟨q.1, PT.calling q.2⟩, pg_recv hK hP hi_12 hy1 (q := (RX0, TX0, 3)) rfl, fun U hU hWm => ⟨rfl, PT.mk hU hWm hP hK hD hE hO⟩⟩ rfl rfl hl.1 rfl (lv_room (Nat.le_of_ble_eq_true rfl)) dX1_addQuad_58 ⟨by show _ + 0 ≤ 0; omega, by show _ + 0 ≤ 0; omega⟩) hS (fun q _ h => hFc q h) hFc (fun u t H1 locs ht hvm hw hB hz1 hk1 hS => ?_)
        obtain ⟨F_63, y2_64, oo2_65, f2_66, hB1, hq_67, hq_68, hq_69⟩ := hB
        obtain ⟨hP, hD, hO, hR⟩ := QT.back hB1 ht hFc hR (fun q h => by simp only [List.mem_cons, List.not_mem_nil, or_false] at h ⊢; omega)
        have hF_70 : F_63 h0 = .inr (1, [.ref d, .ref w0, .ref w1, .ref w2, .ref w3, .ref nm, .ref te, .int ad, .int v1, .int (nI cc), .int (nI vo)]) := (hB1.2.2.2 h0 (by rw [hT_h0]; simp)).trans hF_26
        generalize H1 = H at hP hS ⊢
        refine lv_aload_n hx hb dX1_addQuad_61 rfl (lv_at hl 2 rfl) ?_
        refine pg_get (ci := 1) (v := .ref w3) (C := RX1) (T := TX1) (N := 11) hx hb hts it_1 hown hK hP hL_h0 hF_70 rfl 4 (by decide) (hts _ kt_565) (fun _ h9 => h9) rfl dX1_addQuad_62 ?_
        refine lv_bipush (v := 48) hx hb dX1_addQuad_65 (by decide) ?_
        refine lv_iload_n hx hb dX1_addQuad_67 rfl (lv_at hl 0 rfl) ?_
        refine lv_bipush (v := 10) hx hb dX1_addQuad_68 (by decide) ?_
        refine lv_irem hx hb dX1_addQuad_70 (by decide) ?_
        refine lv_topi (fun x_71 ex_71 => ?_)
        obtain rfl : x_71 = (nI ((ocN ad (shv kq)) % 10)) := ex_71.trans (pk_rem (a := (ocN ad (shv kq))) (d := 10) (by omega) (by omega) (by omega))
        refine lv_iadd hx hb dX1_addQuad_71 ?_
        refine lv_topi (fun x_72 ex_72 => ?_)
        obtain rfl : x_72 = (nI (48 + (ocN ad (shv kq)) % 10)) := ex_72.trans (nI_add 48 ((ocN ad (shv kq)) % 10))
        have hFc := pg_free hD hS hA
        refine va_callv (va_runV (As := [.int (nI (48 + (ocN ad (shv kq)) % 10))]) (rest := []) ⟨hx, hb, hml, hown, hts⟩ (s_X0_add_t l dC dI cs ty L H.size F_63 w3 (ρ + 34) r_13 15 y2_64 (48 + (ocN ad (shv kq)) % 10) f2_66 oo2_65 ((qdP ad kq) ++ [48 + (ocN ad (shv kq)) / 10 % 10]) hW hi_12 ht_14 hq_67 hq_68 (by omega) (hq_69)) ⟨callB_of 1 hts (gi kt_13) rfl rfl rfl (hts _ kt_1) (hts _ kt_563) (by decide +kernel) ⟨Nat.le_of_ble_eq_true rfl, Nat.le_of_ble_eq_true rfl⟩, (hts _ kt_15), (hts _ kt_16)⟩ ⟨fun a U g mk q => ⟨q.1, PT.calling q.2⟩, pg_recv hK hP hi_12 hq_67 (q := (RX0, TX0, 3)) rfl, fun U hU hWm => ⟨rfl, PT.mk hU hWm hP hK hD hE hO⟩⟩ rfl rfl hl.1 rfl (lv_room (Nat.le_of_ble_eq_true rfl)) dX1_addQuad_72 ⟨by show _ + 0 ≤ 0; omega, by show _ + 0 ≤ 0; omega⟩) hS (fun q _ h => hFc q h) hFc (fun u t H1 locs ht hvm hw hB hz1 hk1 hS => ?_)
        obtain ⟨F_74, y2_75, oo2_76, f2_77, hB1, hq_78, hq_79, hq_80⟩ := hB
        obtain ⟨hP, hD, hO, hR⟩ := QT.back hB1 ht hFc hR (fun q h => by simp only [List.mem_cons, List.not_mem_nil, or_false] at h ⊢; omega)
        have hF_81 : F_74 h0 = .inr (1, [.ref d, .ref w0, .ref w1, .ref w2, .ref w3, .ref nm, .ref te, .int ad, .int v1, .int (nI cc), .int (nI vo)]) := (hB1.2.2.2 h0 (by rw [hT_h0]; simp)).trans hF_70
        generalize H1 = H at hP hS ⊢
        refine lv_iload_n hx hb dX1_addQuad_75 rfl (lv_at hl 1 rfl) ?_
        refine lv_if_le (tgt := 88) hx hb dX1_addQuad_76 (by decide) (fun c_82 => ?_) (fun c_82 => ?_)
        ·
          have hk33 : ¬ kq < 3 := (shv_le hk3).mp c_82
          obtain ⟨x_83, ex_83⟩ : ∃ y : Int32, y = (shv kq) + Int32.ofInt (-8) := ⟨_, rfl⟩
          refine lv_iinc (v := x_83) (lv' := [(1, .int x_83), (2, .int (nI (ocN ad (shv kq)))), (0, .ref h0)]) hx hb dX1_addQuad_88 hl (k := 1) rfl (ex_83.symm) (by decide) rfl (fun ls hl => ?_)
          refine lv_goto (tgt := 3) hx hb dX1_addQuad_91 (by decide) ?_
          refine W.widen (k := 0) (n := 0) (by omega) (by omega) ?_
          exact ih_25 (x_83, (kq + 1)) F_74 (⟨by omega, ex_83.trans (shv_s hk3), ⟨r_13, _, _, _, hq_78, hq_79, by have h9 := hq_80; show TGA (qdP ad kq ++ (dgL (ocN ad (shv kq)) ++ (if kq < 3 then [46] else []))) _ _ _ _; unfold dgL; rw [if_pos hl100, if_neg hl10, if_neg hk33]; simpa [List.append_assoc] using h9⟩⟩) (by show 4 - (kq + 1) < 4 - kq; omega) hO hR _ _ hP hD hS ls (lv_sub hl [0, 2] rfl)
        ·
          have hk33 : kq < 3 := Classical.byContradiction (fun q => c_82 ((shv_le hk3).mpr q))
          refine lv_aload_n hx hb dX1_addQuad_79 rfl (lv_at hl 2 rfl) ?_
          refine pg_get (ci := 1) (v := .ref w3) (C := RX1) (T := TX1) (N := 11) hx hb hts it_1 hown hK hP hL_h0 hF_81 rfl 4 (by decide) (hts _ kt_565) (fun _ h9 => h9) rfl dX1_addQuad_80 ?_
          refine lv_bipush (v := 46) hx hb dX1_addQuad_83 (by decide) ?_
          refine W.eq (g2 := F0 m 85 ls [.int (nI 46), .ref w3]) rfl ?_
          have hFc := pg_free hD hS hA
          refine va_callv (va_runV (As := [.int (nI 46)]) (rest := []) ⟨hx, hb, hml, hown, hts⟩ (s_X0_add_t l dC dI cs ty L H.size F_74 w3 (ρ + 34) r_13 15 y2_75 46 f2_77 oo2_76 (((qdP ad kq) ++ [48 + (ocN ad (shv kq)) / 10 % 10]) ++ [48 + (ocN ad (shv kq)) % 10]) hW hi_12 ht_14 hq_78 hq_79 (by omega) (hq_80)) ⟨callB_of 1 hts (gi kt_13) rfl rfl rfl (hts _ kt_1) (hts _ kt_563) (by decide +kernel) ⟨Nat.le_of_ble_eq_true rfl, Nat.le_of_ble_eq_true rfl⟩, (hts _ kt_15), (hts _ kt_16)⟩ ⟨fun a U g mk q => ⟨q.1, PT.calling q.2⟩, pg_recv hK hP hi_12 hq_78 (q := (RX0, TX0, 3)) rfl, fun U hU hWm => ⟨rfl, PT.mk hU hWm hP hK hD hE hO⟩⟩ rfl rfl hl.1 rfl (lv_room (Nat.le_of_ble_eq_true rfl)) dX1_addQuad_85 ⟨by show _ + 0 ≤ 0; omega, by show _ + 0 ≤ 0; omega⟩) hS (fun q _ h => hFc q h) hFc (fun u t H1 locs ht hvm hw hB hz1 hk1 hS => ?_)
          obtain ⟨F_85, y2_86, oo2_87, f2_88, hB1, hq_89, hq_90, hq_91⟩ := hB
          obtain ⟨hP, hD, hO, hR⟩ := QT.back hB1 ht hFc hR (fun q h => by simp only [List.mem_cons, List.not_mem_nil, or_false] at h ⊢; omega)
          have hF_92 : F_85 h0 = .inr (1, [.ref d, .ref w0, .ref w1, .ref w2, .ref w3, .ref nm, .ref te, .int ad, .int v1, .int (nI cc), .int (nI vo)]) := (hB1.2.2.2 h0 (by rw [hT_h0]; simp)).trans hF_81
          generalize H1 = H at hP hS ⊢
          obtain ⟨x_93, ex_93⟩ : ∃ y : Int32, y = (shv kq) + Int32.ofInt (-8) := ⟨_, rfl⟩
          refine lv_iinc (v := x_93) (lv' := [(1, .int x_93), (2, .int (nI (ocN ad (shv kq)))), (0, .ref h0)]) hx hb dX1_addQuad_88 hl (k := 1) rfl (ex_93.symm) (by decide) rfl (fun ls hl => ?_)
          refine lv_goto (tgt := 3) hx hb dX1_addQuad_91 (by decide) ?_
          refine W.widen (k := 0) (n := 0) (by omega) (by omega) ?_
          exact ih_25 (x_93, (kq + 1)) F_85 (⟨by omega, ex_93.trans (shv_s hk3), ⟨r_13, _, _, _, hq_89, hq_90, by have h9 := hq_91; show TGA (qdP ad kq ++ (dgL (ocN ad (shv kq)) ++ (if kq < 3 then [46] else []))) _ _ _ _; unfold dgL; rw [if_pos hl100, if_neg hl10, if_pos hk33]; simpa [List.append_assoc] using h9⟩⟩) (by show 4 - (kq + 1) < 4 - kq; omega) hO hR _ _ hP hD hS ls (lv_sub hl [0, 2] rfl)
    ·
      have hi_94 : 100 ≤ (ocN ad (shv kq)) := leN (N := 100) (Int32.not_lt.mp c_31)
      have hl100 : ¬ (ocN ad (shv kq)) < 100 := fun q => c_31 ((nI_ltI (b := 100) (by omega) (by omega)).mpr q)
      refine lv_aload_n hx hb dX1_addQuad_24 rfl (lv_at hl 2 rfl) ?_
      refine pg_get (ci := 1) (v := .ref w3) (C := RX1) (T := TX1) (N := 11) hx hb hts it_1 hown hK hP hL_h0 hF_26 rfl 4 (by decide) (hts _ kt_565) (fun _ h9 => h9) rfl dX1_addQuad_25 ?_
      refine lv_bipush (v := 48) hx hb dX1_addQuad_28 (by decide) ?_
      refine lv_iload_n hx hb dX1_addQuad_30 rfl (lv_at hl 0 rfl) ?_
      refine lv_bipush (v := 100) hx hb dX1_addQuad_31 (by decide) ?_
      refine lv_idiv hx hb dX1_addQuad_33 (by decide) ?_
      refine lv_topi (fun x_95 ex_95 => ?_)
      obtain rfl : x_95 = (nI ((ocN ad (shv kq)) / 100)) := ex_95.trans (pk_div (d := 100) (by omega) (by omega) (by omega))
      refine lv_iadd hx hb dX1_addQuad_34 ?_
      refine lv_topi (fun x_96 ex_96 => ?_)
      obtain rfl : x_96 = (nI (48 + (ocN ad (shv kq)) / 100)) := ex_96.trans (nI_add 48 ((ocN ad (shv kq)) / 100))
      have hFc := pg_free hD hS hA
      refine va_callv (va_runV (As := [.int (nI (48 + (ocN ad (shv kq)) / 100))]) (rest := []) ⟨hx, hb, hml, hown, hts⟩ (s_X0_add_t l dC dI cs ty L H.size F_22 w3 (ρ + 34) r_13 15 yy (48 + (ocN ad (shv kq)) / 100) fq ov (qdP ad kq) hW hi_12 ht_14 hy1 hy2 (by omega) (hy3)) ⟨callB_of 1 hts (gi kt_13) rfl rfl rfl (hts _ kt_1) (hts _ kt_563) (by decide +kernel) ⟨Nat.le_of_ble_eq_true rfl, Nat.le_of_ble_eq_true rfl⟩, (hts _ kt_15), (hts _ kt_16)⟩ ⟨fun a U g mk q => ⟨q.1, PT.calling q.2⟩, pg_recv hK hP hi_12 hy1 (q := (RX0, TX0, 3)) rfl, fun U hU hWm => ⟨rfl, PT.mk hU hWm hP hK hD hE hO⟩⟩ rfl rfl hl.1 rfl (lv_room (Nat.le_of_ble_eq_true rfl)) dX1_addQuad_35 ⟨by show _ + 0 ≤ 0; omega, by show _ + 0 ≤ 0; omega⟩) hS (fun q _ h => hFc q h) hFc (fun u t H1 locs ht hvm hw hB hz1 hk1 hS => ?_)
      obtain ⟨F_98, y2_99, oo2_100, f2_101, hB1, hq_102, hq_103, hq_104⟩ := hB
      obtain ⟨hP, hD, hO, hR⟩ := QT.back hB1 ht hFc hR (fun q h => by simp only [List.mem_cons, List.not_mem_nil, or_false] at h ⊢; omega)
      have hF_105 : F_98 h0 = .inr (1, [.ref d, .ref w0, .ref w1, .ref w2, .ref w3, .ref nm, .ref te, .int ad, .int v1, .int (nI cc), .int (nI vo)]) := (hB1.2.2.2 h0 (by rw [hT_h0]; simp)).trans hF_26
      generalize H1 = H at hP hS ⊢
      refine lv_iload_n hx hb dX1_addQuad_38 rfl (lv_at hl 0 rfl) ?_
      refine lv_bipush (v := 10) hx hb dX1_addQuad_39 (by decide) ?_
      refine lv_icmp_lt (tgt := 61) hx hb dX1_addQuad_41 (by decide) (fun c_106 => ?_) (fun c_106 => ?_)
      ·
        have hi_107 : (ocN ad (shv kq)) < 10 := ltN (N := 10) (Int32.not_le.mpr c_106)
        have hl10 : (ocN ad (shv kq)) < 10 := (nI_ltI (b := 10) (by omega) (by omega)).mp c_106
        refine lv_aload_n hx hb dX1_addQuad_61 rfl (lv_at hl 2 rfl) ?_
        refine pg_get (ci := 1) (v := .ref w3) (C := RX1) (T := TX1) (N := 11) hx hb hts it_1 hown hK hP hL_h0 hF_105 rfl 4 (by decide) (hts _ kt_565) (fun _ h9 => h9) rfl dX1_addQuad_62 ?_
        refine lv_bipush (v := 48) hx hb dX1_addQuad_65 (by decide) ?_
        refine lv_iload_n hx hb dX1_addQuad_67 rfl (lv_at hl 0 rfl) ?_
        refine lv_bipush (v := 10) hx hb dX1_addQuad_68 (by decide) ?_
        refine lv_irem hx hb dX1_addQuad_70 (by decide) ?_
        refine lv_topi (fun x_108 ex_108 => ?_)
        obtain rfl : x_108 = (nI ((ocN ad (shv kq)) % 10)) := ex_108.trans (pk_rem (a := (ocN ad (shv kq))) (d := 10) (by omega) (by omega) (by omega))
        refine lv_iadd hx hb dX1_addQuad_71 ?_
        refine lv_topi (fun x_109 ex_109 => ?_)
        obtain rfl : x_109 = (nI (48 + (ocN ad (shv kq)) % 10)) := ex_109.trans (nI_add 48 ((ocN ad (shv kq)) % 10))
        have hFc := pg_free hD hS hA
        refine va_callv (va_runV (As := [.int (nI (48 + (ocN ad (shv kq)) % 10))]) (rest := []) ⟨hx, hb, hml, hown, hts⟩ (s_X0_add_t l dC dI cs ty L H.size F_98 w3 (ρ + 34) r_13 15 y2_99 (48 + (ocN ad (shv kq)) % 10) f2_101 oo2_100 ((qdP ad kq) ++ [48 + (ocN ad (shv kq)) / 100]) hW hi_12 ht_14 hq_102 hq_103 (by omega) (hq_104)) ⟨callB_of 1 hts (gi kt_13) rfl rfl rfl (hts _ kt_1) (hts _ kt_563) (by decide +kernel) ⟨Nat.le_of_ble_eq_true rfl, Nat.le_of_ble_eq_true rfl⟩, (hts _ kt_15), (hts _ kt_16)⟩ ⟨fun a U g mk q => ⟨q.1, PT.calling q.2⟩, pg_recv hK hP hi_12 hq_102 (q := (RX0, TX0, 3)) rfl, fun U hU hWm => ⟨rfl, PT.mk hU hWm hP hK hD hE hO⟩⟩ rfl rfl hl.1 rfl (lv_room (Nat.le_of_ble_eq_true rfl)) dX1_addQuad_72 ⟨by show _ + 0 ≤ 0; omega, by show _ + 0 ≤ 0; omega⟩) hS (fun q _ h => hFc q h) hFc (fun u t H1 locs ht hvm hw hB hz1 hk1 hS => ?_)
        obtain ⟨F_111, y2_112, oo2_113, f2_114, hB1, hq_115, hq_116, hq_117⟩ := hB
        obtain ⟨hP, hD, hO, hR⟩ := QT.back hB1 ht hFc hR (fun q h => by simp only [List.mem_cons, List.not_mem_nil, or_false] at h ⊢; omega)
        have hF_118 : F_111 h0 = .inr (1, [.ref d, .ref w0, .ref w1, .ref w2, .ref w3, .ref nm, .ref te, .int ad, .int v1, .int (nI cc), .int (nI vo)]) := (hB1.2.2.2 h0 (by rw [hT_h0]; simp)).trans hF_105
        generalize H1 = H at hP hS ⊢
        refine lv_iload_n hx hb dX1_addQuad_75 rfl (lv_at hl 1 rfl) ?_
        refine lv_if_le (tgt := 88) hx hb dX1_addQuad_76 (by decide) (fun c_119 => ?_) (fun c_119 => ?_)
        ·
          have hk33 : ¬ kq < 3 := (shv_le hk3).mp c_119
          obtain ⟨x_120, ex_120⟩ : ∃ y : Int32, y = (shv kq) + Int32.ofInt (-8) := ⟨_, rfl⟩
          refine lv_iinc (v := x_120) (lv' := [(1, .int x_120), (2, .int (nI (ocN ad (shv kq)))), (0, .ref h0)]) hx hb dX1_addQuad_88 hl (k := 1) rfl (ex_120.symm) (by decide) rfl (fun ls hl => ?_)
          refine lv_goto (tgt := 3) hx hb dX1_addQuad_91 (by decide) ?_
          refine W.widen (k := 0) (n := 0) (by omega) (by omega) ?_
          exact ih_25 (x_120, (kq + 1)) F_111 (⟨by omega, ex_120.trans (shv_s hk3), ⟨r_13, _, _, _, hq_115, hq_116, by have h9 := hq_117; show TGA (qdP ad kq ++ (dgL (ocN ad (shv kq)) ++ (if kq < 3 then [46] else []))) _ _ _ _; unfold dgL; rw [if_neg hl100, if_pos hl10, if_neg hk33]; simpa [List.append_assoc] using h9⟩⟩) (by show 4 - (kq + 1) < 4 - kq; omega) hO hR _ _ hP hD hS ls (lv_sub hl [0, 2] rfl)
        ·
          have hk33 : kq < 3 := Classical.byContradiction (fun q => c_119 ((shv_le hk3).mpr q))
          refine lv_aload_n hx hb dX1_addQuad_79 rfl (lv_at hl 2 rfl) ?_
          refine pg_get (ci := 1) (v := .ref w3) (C := RX1) (T := TX1) (N := 11) hx hb hts it_1 hown hK hP hL_h0 hF_118 rfl 4 (by decide) (hts _ kt_565) (fun _ h9 => h9) rfl dX1_addQuad_80 ?_
          refine lv_bipush (v := 46) hx hb dX1_addQuad_83 (by decide) ?_
          refine W.eq (g2 := F0 m 85 ls [.int (nI 46), .ref w3]) rfl ?_
          have hFc := pg_free hD hS hA
          refine va_callv (va_runV (As := [.int (nI 46)]) (rest := []) ⟨hx, hb, hml, hown, hts⟩ (s_X0_add_t l dC dI cs ty L H.size F_111 w3 (ρ + 34) r_13 15 y2_112 46 f2_114 oo2_113 (((qdP ad kq) ++ [48 + (ocN ad (shv kq)) / 100]) ++ [48 + (ocN ad (shv kq)) % 10]) hW hi_12 ht_14 hq_115 hq_116 (by omega) (hq_117)) ⟨callB_of 1 hts (gi kt_13) rfl rfl rfl (hts _ kt_1) (hts _ kt_563) (by decide +kernel) ⟨Nat.le_of_ble_eq_true rfl, Nat.le_of_ble_eq_true rfl⟩, (hts _ kt_15), (hts _ kt_16)⟩ ⟨fun a U g mk q => ⟨q.1, PT.calling q.2⟩, pg_recv hK hP hi_12 hq_115 (q := (RX0, TX0, 3)) rfl, fun U hU hWm => ⟨rfl, PT.mk hU hWm hP hK hD hE hO⟩⟩ rfl rfl hl.1 rfl (lv_room (Nat.le_of_ble_eq_true rfl)) dX1_addQuad_85 ⟨by show _ + 0 ≤ 0; omega, by show _ + 0 ≤ 0; omega⟩) hS (fun q _ h => hFc q h) hFc (fun u t H1 locs ht hvm hw hB hz1 hk1 hS => ?_)
          obtain ⟨F_122, y2_123, oo2_124, f2_125, hB1, hq_126, hq_127, hq_128⟩ := hB
          obtain ⟨hP, hD, hO, hR⟩ := QT.back hB1 ht hFc hR (fun q h => by simp only [List.mem_cons, List.not_mem_nil, or_false] at h ⊢; omega)
          have hF_129 : F_122 h0 = .inr (1, [.ref d, .ref w0, .ref w1, .ref w2, .ref w3, .ref nm, .ref te, .int ad, .int v1, .int (nI cc), .int (nI vo)]) := (hB1.2.2.2 h0 (by rw [hT_h0]; simp)).trans hF_118
          generalize H1 = H at hP hS ⊢
          obtain ⟨x_130, ex_130⟩ : ∃ y : Int32, y = (shv kq) + Int32.ofInt (-8) := ⟨_, rfl⟩
          refine lv_iinc (v := x_130) (lv' := [(1, .int x_130), (2, .int (nI (ocN ad (shv kq)))), (0, .ref h0)]) hx hb dX1_addQuad_88 hl (k := 1) rfl (ex_130.symm) (by decide) rfl (fun ls hl => ?_)
          refine lv_goto (tgt := 3) hx hb dX1_addQuad_91 (by decide) ?_
          refine W.widen (k := 0) (n := 0) (by omega) (by omega) ?_
          exact ih_25 (x_130, (kq + 1)) F_122 (⟨by omega, ex_130.trans (shv_s hk3), ⟨r_13, _, _, _, hq_126, hq_127, by have h9 := hq_128; show TGA (qdP ad kq ++ (dgL (ocN ad (shv kq)) ++ (if kq < 3 then [46] else []))) _ _ _ _; unfold dgL; rw [if_neg hl100, if_pos hl10, if_pos hk33]; simpa [List.append_assoc] using h9⟩⟩) (by show 4 - (kq + 1) < 4 - kq; omega) hO hR _ _ hP hD hS ls (lv_sub hl [0, 2] rfl)
      ·
        have hi_131 : 10 ≤ (ocN ad (shv kq)) := leN (N := 10) (Int32.not_lt.mp c_106)
        have hl10 : ¬ (ocN ad (shv kq)) < 10 := fun q => c_106 ((nI_ltI (b := 10) (by omega) (by omega)).mpr q)
        refine lv_aload_n hx hb dX1_addQuad_44 rfl (lv_at hl 2 rfl) ?_
        refine pg_get (ci := 1) (v := .ref w3) (C := RX1) (T := TX1) (N := 11) hx hb hts it_1 hown hK hP hL_h0 hF_105 rfl 4 (by decide) (hts _ kt_565) (fun _ h9 => h9) rfl dX1_addQuad_45 ?_
        refine lv_bipush (v := 48) hx hb dX1_addQuad_48 (by decide) ?_
        refine lv_iload_n hx hb dX1_addQuad_50 rfl (lv_at hl 0 rfl) ?_
        refine lv_bipush (v := 10) hx hb dX1_addQuad_51 (by decide) ?_
        refine lv_idiv hx hb dX1_addQuad_53 (by decide) ?_
        refine lv_topi (fun x_132 ex_132 => ?_)
        obtain rfl : x_132 = (nI ((ocN ad (shv kq)) / 10)) := ex_132.trans (pk_div (d := 10) (by omega) (by omega) (by omega))
        refine lv_bipush (v := 10) hx hb dX1_addQuad_54 (by decide) ?_
        refine lv_irem hx hb dX1_addQuad_56 (by decide) ?_
        refine lv_topi (fun x_133 ex_133 => ?_)
        obtain rfl : x_133 = (nI ((ocN ad (shv kq)) / 10 % 10)) := ex_133.trans (pk_rem (a := (ocN ad (shv kq)) / 10) (d := 10) (by omega) (by omega) (by omega))
        refine lv_iadd hx hb dX1_addQuad_57 ?_
        refine lv_topi (fun x_134 ex_134 => ?_)
        obtain rfl : x_134 = (nI (48 + (ocN ad (shv kq)) / 10 % 10)) := ex_134.trans (nI_add 48 ((ocN ad (shv kq)) / 10 % 10))
        have hFc := pg_free hD hS hA
        refine va_callv (va_runV (As := [.int (nI (48 + (ocN ad (shv kq)) / 10 % 10))]) (rest := []) ⟨hx, hb, hml, hown, hts⟩ (s_X0_add_t l dC dI cs ty L H.size F_98 w3 (ρ + 34) r_13 15 y2_99 (48 + (ocN ad (shv kq)) / 10 % 10) f2_101 oo2_100 ((qdP ad kq) ++ [48 + (ocN ad (shv kq)) / 100]) hW hi_12 ht_14 hq_102 hq_103 (by omega) (hq_104)) ⟨callB_of 1 hts (gi kt_13) rfl rfl rfl (hts _ kt_1) (hts _ kt_563) (by decide +kernel) ⟨Nat.le_of_ble_eq_true rfl, Nat.le_of_ble_eq_true rfl⟩, (hts _ kt_15), (hts _ kt_16)⟩ ⟨fun a U g mk q => ⟨q.1, PT.calling q.2⟩, pg_recv hK hP hi_12 hq_102 (q := (RX0, TX0, 3)) rfl, fun U hU hWm => ⟨rfl, PT.mk hU hWm hP hK hD hE hO⟩⟩ rfl rfl hl.1 rfl (lv_room (Nat.le_of_ble_eq_true rfl)) dX1_addQuad_58 ⟨by show _ + 0 ≤ 0; omega, by show _ + 0 ≤ 0; omega⟩) hS (fun q _ h => hFc q h) hFc (fun u t H1 locs ht hvm hw hB hz1 hk1 hS => ?_)
        obtain ⟨F_136, y2_137, oo2_138, f2_139, hB1, hq_140, hq_141, hq_142⟩ := hB
        obtain ⟨hP, hD, hO, hR⟩ := QT.back hB1 ht hFc hR (fun q h => by simp only [List.mem_cons, List.not_mem_nil, or_false] at h ⊢; omega)
        have hF_143 : F_136 h0 = .inr (1, [.ref d, .ref w0, .ref w1, .ref w2, .ref w3, .ref nm, .ref te, .int ad, .int v1, .int (nI cc), .int (nI vo)]) := (hB1.2.2.2 h0 (by rw [hT_h0]; simp)).trans hF_105
        generalize H1 = H at hP hS ⊢
        refine lv_aload_n hx hb dX1_addQuad_61 rfl (lv_at hl 2 rfl) ?_
        refine pg_get (ci := 1) (v := .ref w3) (C := RX1) (T := TX1) (N := 11) hx hb hts it_1 hown hK hP hL_h0 hF_143 rfl 4 (by decide) (hts _ kt_565) (fun _ h9 => h9) rfl dX1_addQuad_62 ?_
        refine lv_bipush (v := 48) hx hb dX1_addQuad_65 (by decide) ?_
        refine lv_iload_n hx hb dX1_addQuad_67 rfl (lv_at hl 0 rfl) ?_
        refine lv_bipush (v := 10) hx hb dX1_addQuad_68 (by decide) ?_
        refine lv_irem hx hb dX1_addQuad_70 (by decide) ?_
        refine lv_topi (fun x_144 ex_144 => ?_)
        obtain rfl : x_144 = (nI ((ocN ad (shv kq)) % 10)) := ex_144.trans (pk_rem (a := (ocN ad (shv kq))) (d := 10) (by omega) (by omega) (by omega))
        refine lv_iadd hx hb dX1_addQuad_71 ?_
        refine lv_topi (fun x_145 ex_145 => ?_)
        obtain rfl : x_145 = (nI (48 + (ocN ad (shv kq)) % 10)) := ex_145.trans (nI_add 48 ((ocN ad (shv kq)) % 10))
        have hFc := pg_free hD hS hA
        refine va_callv (va_runV (As := [.int (nI (48 + (ocN ad (shv kq)) % 10))]) (rest := []) ⟨hx, hb, hml, hown, hts⟩ (s_X0_add_t l dC dI cs ty L H.size F_136 w3 (ρ + 34) r_13 15 y2_137 (48 + (ocN ad (shv kq)) % 10) f2_139 oo2_138 (((qdP ad kq) ++ [48 + (ocN ad (shv kq)) / 100]) ++ [48 + (ocN ad (shv kq)) / 10 % 10]) hW hi_12 ht_14 hq_140 hq_141 (by omega) (hq_142)) ⟨callB_of 1 hts (gi kt_13) rfl rfl rfl (hts _ kt_1) (hts _ kt_563) (by decide +kernel) ⟨Nat.le_of_ble_eq_true rfl, Nat.le_of_ble_eq_true rfl⟩, (hts _ kt_15), (hts _ kt_16)⟩ ⟨fun a U g mk q => ⟨q.1, PT.calling q.2⟩, pg_recv hK hP hi_12 hq_140 (q := (RX0, TX0, 3)) rfl, fun U hU hWm => ⟨rfl, PT.mk hU hWm hP hK hD hE hO⟩⟩ rfl rfl hl.1 rfl (lv_room (Nat.le_of_ble_eq_true rfl)) dX1_addQuad_72 ⟨by show _ + 0 ≤ 0; omega, by show _ + 0 ≤ 0; omega⟩) hS (fun q _ h => hFc q h) hFc (fun u t H1 locs ht hvm hw hB hz1 hk1 hS => ?_)
        obtain ⟨F_147, y2_148, oo2_149, f2_150, hB1, hq_151, hq_152, hq_153⟩ := hB
        obtain ⟨hP, hD, hO, hR⟩ := QT.back hB1 ht hFc hR (fun q h => by simp only [List.mem_cons, List.not_mem_nil, or_false] at h ⊢; omega)
        have hF_154 : F_147 h0 = .inr (1, [.ref d, .ref w0, .ref w1, .ref w2, .ref w3, .ref nm, .ref te, .int ad, .int v1, .int (nI cc), .int (nI vo)]) := (hB1.2.2.2 h0 (by rw [hT_h0]; simp)).trans hF_143
        generalize H1 = H at hP hS ⊢
        refine lv_iload_n hx hb dX1_addQuad_75 rfl (lv_at hl 1 rfl) ?_
        refine lv_if_le (tgt := 88) hx hb dX1_addQuad_76 (by decide) (fun c_155 => ?_) (fun c_155 => ?_)
        ·
          have hk33 : ¬ kq < 3 := (shv_le hk3).mp c_155
          obtain ⟨x_156, ex_156⟩ : ∃ y : Int32, y = (shv kq) + Int32.ofInt (-8) := ⟨_, rfl⟩
          refine lv_iinc (v := x_156) (lv' := [(1, .int x_156), (2, .int (nI (ocN ad (shv kq)))), (0, .ref h0)]) hx hb dX1_addQuad_88 hl (k := 1) rfl (ex_156.symm) (by decide) rfl (fun ls hl => ?_)
          refine lv_goto (tgt := 3) hx hb dX1_addQuad_91 (by decide) ?_
          refine W.widen (k := 0) (n := 0) (by omega) (by omega) ?_
          exact ih_25 (x_156, (kq + 1)) F_147 (⟨by omega, ex_156.trans (shv_s hk3), ⟨r_13, _, _, _, hq_151, hq_152, by have h9 := hq_153; show TGA (qdP ad kq ++ (dgL (ocN ad (shv kq)) ++ (if kq < 3 then [46] else []))) _ _ _ _; unfold dgL; rw [if_neg hl100, if_neg hl10, if_neg hk33]; simpa [List.append_assoc] using h9⟩⟩) (by show 4 - (kq + 1) < 4 - kq; omega) hO hR _ _ hP hD hS ls (lv_sub hl [0, 2] rfl)
        ·
          have hk33 : kq < 3 := Classical.byContradiction (fun q => c_155 ((shv_le hk3).mpr q))
          refine lv_aload_n hx hb dX1_addQuad_79 rfl (lv_at hl 2 rfl) ?_
          refine pg_get (ci := 1) (v := .ref w3) (C := RX1) (T := TX1) (N := 11) hx hb hts it_1 hown hK hP hL_h0 hF_154 rfl 4 (by decide) (hts _ kt_565) (fun _ h9 => h9) rfl dX1_addQuad_80 ?_
          refine lv_bipush (v := 46) hx hb dX1_addQuad_83 (by decide) ?_
          refine W.eq (g2 := F0 m 85 ls [.int (nI 46), .ref w3]) rfl ?_
          have hFc := pg_free hD hS hA
          refine va_callv (va_runV (As := [.int (nI 46)]) (rest := []) ⟨hx, hb, hml, hown, hts⟩ (s_X0_add_t l dC dI cs ty L H.size F_147 w3 (ρ + 34) r_13 15 y2_148 46 f2_150 oo2_149 ((((qdP ad kq) ++ [48 + (ocN ad (shv kq)) / 100]) ++ [48 + (ocN ad (shv kq)) / 10 % 10]) ++ [48 + (ocN ad (shv kq)) % 10]) hW hi_12 ht_14 hq_151 hq_152 (by omega) (hq_153)) ⟨callB_of 1 hts (gi kt_13) rfl rfl rfl (hts _ kt_1) (hts _ kt_563) (by decide +kernel) ⟨Nat.le_of_ble_eq_true rfl, Nat.le_of_ble_eq_true rfl⟩, (hts _ kt_15), (hts _ kt_16)⟩ ⟨fun a U g mk q => ⟨q.1, PT.calling q.2⟩, pg_recv hK hP hi_12 hq_151 (q := (RX0, TX0, 3)) rfl, fun U hU hWm => ⟨rfl, PT.mk hU hWm hP hK hD hE hO⟩⟩ rfl rfl hl.1 rfl (lv_room (Nat.le_of_ble_eq_true rfl)) dX1_addQuad_85 ⟨by show _ + 0 ≤ 0; omega, by show _ + 0 ≤ 0; omega⟩) hS (fun q _ h => hFc q h) hFc (fun u t H1 locs ht hvm hw hB hz1 hk1 hS => ?_)
          obtain ⟨F_158, y2_159, oo2_160, f2_161, hB1, hq_162, hq_163, hq_164⟩ := hB
          obtain ⟨hP, hD, hO, hR⟩ := QT.back hB1 ht hFc hR (fun q h => by simp only [List.mem_cons, List.not_mem_nil, or_false] at h ⊢; omega)
          have hF_165 : F_158 h0 = .inr (1, [.ref d, .ref w0, .ref w1, .ref w2, .ref w3, .ref nm, .ref te, .int ad, .int v1, .int (nI cc), .int (nI vo)]) := (hB1.2.2.2 h0 (by rw [hT_h0]; simp)).trans hF_154
          generalize H1 = H at hP hS ⊢
          obtain ⟨x_166, ex_166⟩ : ∃ y : Int32, y = (shv kq) + Int32.ofInt (-8) := ⟨_, rfl⟩
          refine lv_iinc (v := x_166) (lv' := [(1, .int x_166), (2, .int (nI (ocN ad (shv kq)))), (0, .ref h0)]) hx hb dX1_addQuad_88 hl (k := 1) rfl (ex_166.symm) (by decide) rfl (fun ls hl => ?_)
          refine lv_goto (tgt := 3) hx hb dX1_addQuad_91 (by decide) ?_
          refine W.widen (k := 0) (n := 0) (by omega) (by omega) ?_
          exact ih_25 (x_166, (kq + 1)) F_158 (⟨by omega, ex_166.trans (shv_s hk3), ⟨r_13, _, _, _, hq_162, hq_163, by have h9 := hq_164; show TGA (qdP ad kq ++ (dgL (ocN ad (shv kq)) ++ (if kq < 3 then [46] else []))) _ _ _ _; unfold dgL; rw [if_neg hl100, if_neg hl10, if_pos hk33]; simpa [List.append_assoc] using h9⟩⟩) (by show 4 - (kq + 1) < 4 - kq; omega) hO hR _ _ hP hD hS ls (lv_sub hl [0, 2] rfl)
