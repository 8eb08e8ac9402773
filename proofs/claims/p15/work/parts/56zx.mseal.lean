theorem u8_of (x : Int32) : x.toInt8.toBitVec.toNat = u32 x % 256 := by
  rw [Int32.toBitVec_toInt8, BitVec.signExtend_eq_setWidth_of_le _ (by decide), BitVec.toNat_setWidth]
  rfl
theorem nb8_n : ∀ n, n < 256 → nb8 (nI n) = vp_nar .byte (nI n) := by decide +kernel
theorem nb8_u (x : Int32) : nb8 x = vp_nar .byte (nI (u32 x % 256)) := by
  have h9 : u32 x % 256 < 256 := Nat.mod_lt _ (by decide)
  have e : x.toInt8 = (nI (u32 x % 256)).toInt8 := Int8.toBitVec_inj.mp (BitVec.eq_of_toNat_eq (by rw [u8_of, u8_of, u32_nI (by omega)]; omega))
  rw [← nb8_n _ h9]
  show vp_nar .byte (x.toInt8.toInt32) = vp_nar .byte ((nI (u32 x % 256)).toInt8.toInt32)
  rw [e]
def shM (g : Nat → Int32) (k j : Nat) : Nat := u32 (shr (rst (pad g k) ((k + 72) / 64) (j / 4)) (nI (24 - 8 * (j % 4)))) % 256
theorem shm_by {g fo : Nat → Int32} {k : Nat} (h : ∀ j, j < 32 → fo j = nb8 (shr (rst (pad g k) ((k + 72) / 64) (j / 4)) (nI (24 - 8 * (j % 4))))) : BYM (shM g k) 32 fo := fun j hj => ⟨Nat.mod_lt _ (by decide), (h j hj).trans (nb8_u _)⟩
theorem nar_inj : ∀ a, a < 256 → ∀ b, b < 256 → (vp_nar .byte (nI a) = vp_nar .byte (nI b) ↔ a = b) := by
  intro a ha b hb
  constructor
  · intro h
    have h9 := congrArg (fun x : Int32 => x &&& 255) h
    have h8 : vp_nar .byte (nI a) &&& 255 = vp_nar .byte (nI b) &&& 255 := h9
    rw [nar_255 a ha, nar_255 b hb] at h8
    exact (nI_eq (by omega) (by omega)).mp h8
  · intro h
    rw [h]
theorem bym_all {f g : Nat → Int32} {b c : Nat → Nat} {n : Nat} (hf : BYM b n f) (hg : BYM c n g) : (∀ j, j < n → f j = g j) ↔ ∀ j, j < n → b j = c j := by
  constructor
  · intro h j hj
    have h9 := h j hj
    rw [(hf j hj).2, (hg j hj).2] at h9
    exact (nar_inj _ (hf j hj).1 _ (hg j hj).1).mp h9
  · intro h j hj
    rw [(hf j hj).2, (hg j hj).2, h j hj]
theorem nmx_n {T : Nat → Nat} {g : Nat → Nat → Nat} {n : Nat} {l : List Nat} (h : NOM T g n l) (c : nmV T g (tgR T g l n) < 0) : tgR T g l n = none := by
  cases e : tgR T g l n with
  | none => rfl
  | some k =>
    exfalso
    rw [e] at c
    rcases h with h | h
    · exact nomatch e.symm.trans h
    · cases e2 : nbT T (g 1 k + 1) (g 2 k) 9 with
      | none =>
        rw [e] at h
        exact h e2
      | some v =>
        rw [nmV_y e2] at c
        exact absurd c (nI_pos (by have h9 := nbT_ltq e2; omega))
theorem nmx_y {T : Nat → Nat} {g : Nat → Nat → Nat} {n : Nat} {l : List Nat} (c : ¬ nmV T g (tgR T g l n) < 0) : ∃ w, tgM T g (tgR T g l n) = some w ∧ w < 1000000000 ∧ nmV T g (tgR T g l n) = nI w := by
  cases e : tgR T g l n with
  | none =>
    rw [e] at c
    exact absurd (show (-1 : Int32) < 0 by decide) c
  | some k =>
    rw [e] at c
    cases e2 : nbT T (g 1 k + 1) (g 2 k) 9 with
    | none =>
      rw [nmV_b e2] at c
      exact absurd (by decide) c
    | some v => exact ⟨v, e2, nbT_ltq e2, nmV_y e2⟩
theorem tgM_0 {T : Nat → Nat} {g : Nat → Nat → Nat} : tgM T g none = none := rfl
def BHOm (T : Nat → Nat) (g : Nat → Nat → Nat) (n N : Nat) (fo : Nat → Int32) : Prop := lnW T g n N ≤ N ∧ ∀ j, j < 32 → shM fo (lnW T g n N) j = dcB T (tgA g (tgR T g [98, 104] n)) 32 j
def SJBm (gl : Nat → Int32) (zm nm bs jf : Nat) (gb gc gd : Nat → Nat) (d : ETY) (T : Nat → Nat) (g : Nat → Nat → Nat) (n : Nat) (r : Int32) : Prop := ∃ N fo, BDC (fun y => nb8 (evs gl y)) (clr gl) (brx T g n) bs zm N fo ∧ ((¬ BHOm T g n N fo ∧ r = 3) ∨ (BHOm T g n N fo ∧ ∃ s e fw, owL (TC gl zm) (gc jf + 1) (gd jf) = some (s, e) ∧ OUTM gl fw (wkL (clr gl) (TC gl zm) T gb gc gd nm jf g n s e) ∧ ((SGO (sgB T g n) (kyM d) (shM fw (wkL (clr gl) (TC gl zm) T gb gc gd nm jf g n s e).length) ∧ r = 2) ∨ (¬ SGO (sgB T g n) (kyM d) (shM fw (wkL (clr gl) (TC gl zm) T gb gc gd nm jf g n s e).length) ∧ r = 3))))
def SJKm (gl : Nat → Int32) (zm nm bs jf : Nat) (gb gc gd : Nat → Nat) (D : Nat → ETY) (cn nw : Nat) (T : Nat → Nat) (g : Nat → Nat → Nat) (n : Nat) (r : Int32) : Prop := (XPD T g n nw ∧ r = 3) ∨ (¬ XPD T g n nw ∧ ∃ gk rk, KYX D cn (uK T g n) gk rk ∧ ((¬ rk = 2 ∧ r = rk) ∨ (rk = 2 ∧ SJBm gl zm nm bs jf gb gc gd (D gk) T g n r)))
def SJRm (gl : Nat → Int32) (zm nm bs jf : Nat) (gb gc gd : Nat → Nat) (D : Nat → ETY) (cn nw : Nat) (T : Nat → Nat) (Y : Nat) (r : Int32) : Prop := (¬ SWL T Y ∧ r = 1) ∨ ∃ gg, tgT T Y = some gg ∧ SWB T gg.2 gg.1 ∧ SJKm gl zm nm bs jf gb gc gd D cn nw T gg.2 gg.1 r
theorem flt_10 {T : Nat → Nat} {a k : Nat} (h : T (a + k) = 10) : flI T a (k + 1) = flI T a k := by
  rw [flI_s, if_pos (Or.inr (Or.inr h)), List.append_nil]
theorem flT_of {T : Nat → Nat} {a k m : Nat} (h : flI T a k = flI T a m) : flT T a k = flT T a m := by
  funext j
  unfold flT
  rw [h]
theorem flt_st {gl : Nat → Int32} {mm a e kd : Nat} (hst : e = min mm (kd + 1)) (hk : kd ≤ mm) (ha : a ≤ kd) (hek : EOK (clr gl) mm kd) : flI (TC gl mm) a (e - a) = flI (TC gl mm) a (kd - a) := by
  rcases Nat.lt_or_ge kd mm with c | c
  · have hz : gl kd = 10 := by
      rcases hek with ⟨q1, q2⟩ | ⟨q1, q2⟩
      · exact clg_0 q2
      · omega
    rw [show e - a = kd - a + 1 by omega]
    refine flt_10 ?_
    rw [show a + (kd - a) = kd by omega]
    exact (tcc c 10 (by decide)).mpr hz
  · rw [show e = kd by omega]
theorem uK_s {T : Nat → Nat} {g : Nat → Nat → Nat} {n : Nat} : uK T g n = rgT T (tgA g (tgR T g [115] n)) (tgB g (tgR T g [115] n) - tgA g (tgR T g [115] n)) ++ [46, 95, 100, 111, 109, 97, 105, 110, 107, 101, 121, 46] ++ dmL T g n := by
  unfold uK
  rw [rgL_all _ 0 (by omega), List.drop_zero]
theorem src_rt {T : Nat → Nat} {f fc : Nat → Int32} {z a b : Nat} (hab : a ≤ b) (hbz : b ≤ z) (hT : T = TC f z) (hn : NMC T a b = true) (hc : ∀ j, j < b - a → fc j = f (a + j)) : SRC (rgT T a (b - a)) (b - a) fc := by
  subst hT
  have h9 : ∀ j, j < b - a → TC f z (a + j) < 128 := fun j hj => nmc_cd hn tc_or (by omega) (by omega)
  refine ⟨rgT_len _ _, fun j hj => ?_, fun j hj => ?_⟩
  · rw [rgT_get _ _ _ hj, hc j hj]
    exact tc_nI (by omega) (h9 j hj)
  · rw [rgT_get _ _ _ hj]
    exact h9 j hj
set_option maxHeartbeats 4000000 in
set_option maxRecDepth 100000 in
theorem s_X15_isAll_x (l : Launch) (dC : Nat → ClassId) (dI : Nat → Nat → Nat) (cs : Nat → ClassId) (ty : TyM) (gm : Nat → Nat → Nat) (L : List Nat) (sz : Nat) (F : Nat → va_E) (g1 : Nat) (σ : Nat) (g2 : Nat) (τ : Nat) (fa9 : Nat → Int32) (fb9 : Nat → Int32) (bb : Nat → Nat) (cc : Nat → Nat) (hW : WTm ty gm L) (hL_g1 : g1 ∈ L) (hT_g1 : ty g1 = (17, σ, [32])) (hL_g2 : g2 ∈ L) (hT_g2 : ty g2 = (17, τ, [32])) (hFa : F g1 = .inl (cs 17, 32, .inl fa9)) (hFb : F g2 = .inl (cs 17, 32, .inl fb9)) (hBa : BYM bb 32 fa9) (hBb : BYM cc 32 fb9) : Met l yX15_isAll (.code yX15_isAll cX15_isAll 4 (some .boolean) :: tb) ({ frames := 0, cells := 0, slots := 0, locals := 0 }) (va_Pc [.ref g1, .ref g2] (PTm (dC, dI) cs ty gm L F sz)) (va_Qi (fun (r : Int32) (_ : Unit) => ((r = 1 ∧ (∀ j, j < 32 → bb j = cc j)) ∨ (r = 0 ∧ ¬ (∀ j, j < 32 → bb j = cc j)))) (fun _ T9 => ∃ F2 : Nat → va_E, QTm (dC, dI) cs ty gm L [] F F2 (va_A (va_pl L F) sz) T9) (va_A (va_pl L F) sz)) 0 0 (va_A (va_pl L F) sz) := by
  refine Met.ofW (cc := cX15_isAll) (maxL := 4) (ret := (some .boolean)) (by decide) rfl ?_
  intro p e s m args below meth c s₁ B hml hv
  obtain ⟨rfl, hsz, hP, hK, hD0, hE, hO⟩ := hv
  have hx := B.exec
  have hb := B.bytes
  have hr := B.returns
  have hts : ∀ w ∈ tb, w.before _ s = true := fun w h => atoms_spec (ws := .code yX15_isAll cX15_isAll 4 (some .boolean) :: tb) B.pre w (List.mem_cons_of_mem _ h)
  have hown : s.vm.findClass RX15 = some m.cls := findClass_of_methodNamed B.named
  have hlocks := B.notSynchronized
  subst hsz
  have hD := hD0.self (sz := s.heap.size)
  generalize hAe : va_A (va_pl L F) s.heap.size = A at hD ⊢
  have hA : ∀ q : Nat, s.heap.size ≤ q → A q := fun q h => by rw [← hAe]; exact Or.inr h
  have hS : va_S A s.heap s.heap [] := va_S.rf
  have hR : FR ty [] F F := FR.refl
  have hl := lv_entry ([.ref g1, .ref g2]) (n := 4) (Nat.le_of_ble_eq_true rfl)
  rw [lg_entry_eq]
  generalize (lg_sl ([.ref g1, .ref g2]) ++ List.replicate (4 - (lg_sl ([.ref g1, .ref g2])).length) Slot.unset).toArray = ls at hl ⊢
  have hl : lv_has ls 4 [(0, .ref g1), (1, .ref g2)] := hl
  refine lv_iconst (v := 1) hx hb dX15_isAll_0 (by decide) ?_
  refine lv_istore_n (lv' := [(2, .int 1), (0, .ref g1), (1, .ref g2)]) hx hb dX15_isAll_1 rfl hl (by decide) rfl (fun ls hl => ?_)
  refine lv_iconst (v := 0) hx hb dX15_isAll_2 (by decide) ?_
  refine lv_istore_n (lv' := [(3, .int 0), (2, .int 1), (0, .ref g1), (1, .ref g2)]) hx hb dX15_isAll_3 rfl hl (by decide) rfl (fun ls hl => ?_)
  refine W.widen (k := 0) (n := 0) (by omega) (by omega) ?_
  refine pl_loopm (σ := Nat × Int32) A (dC, dI) cs ty gm L [] F 4 4 (fun (j, w1) => [(3, .int (nI j)), (2, .int w1), (0, .ref g1), (1, .ref g2)]) (fun (j, w1) => []) (fun (j, w1) _ => j ≤ 32 ∧ ((w1 = 1 ∧ ∀ i, i < j → bb i = cc i) ∨ (w1 = 0 ∧ ∃ i, i < 32 ∧ ¬ bb i = cc i))) (fun (j, w1) => 32 - j) ?_ (0, 1) F (⟨by omega, Or.inl ⟨rfl, fun i hi => absurd hi (Nat.not_lt_zero _)⟩⟩) hO hR _ _ hP hD hS ls (lv_sub hl [0, 1, 2, 3] rfl)
  rintro ⟨j, w1⟩ F_1 hv_2 hO hR ih_3 H locs hP hD hS ls hl
  have hl : lv_has ls 4 [(3, .int (nI j)), (2, .int w1), (0, .ref g1), (1, .ref g2)] := hl
  have hv_2 : j ≤ 32 ∧ ((w1 = 1 ∧ ∀ i, i < j → bb i = cc i) ∨ (w1 = 0 ∧ ∃ i, i < 32 ∧ ¬ bb i = cc i)) := hv_2
  refine W.eq (g2 := F0 m 4 ls []) rfl ?_
  obtain rfl : F = F_1 := (funext (fun a => hR a List.not_mem_nil)).symm
  obtain ⟨hv1, hv2⟩ := id hv_2
  refine lv_iload_n hx hb dX15_isAll_4 rfl (lv_at hl 0 rfl) ?_
  refine lv_bipush (v := 32) hx hb dX15_isAll_5 (by decide) ?_
  refine lv_icmp_ge (tgt := 33) hx hb dX15_isAll_7 (by decide) (fun c_4 => ?_) (fun c_4 => ?_)
  ·
    have hi_5 : 32 ≤ j := leN (N := 32) c_4
    have hj32 : 32 ≤ j := (nI_leI (by omega) (by omega)).mp c_4
    refine lv_iload_n hx hb dX15_isAll_33 rfl (lv_at hl 1 rfl) ?_
    refine W.widen (k := 0) (n := 0) (by omega) (by omega) ?_
    exact W.zret (v := w1) (ty := .boolean) hx hb hr (bitN (hv2.elim (fun q => Or.inr q.1) (fun q => Or.inl q.1))) (fun t ht hWm => ⟨⟨w1, (), rfl, (by rcases hv2 with q | q; exact Or.inl ⟨q.1, fun i hi => q.2 i (by omega)⟩; exact Or.inr ⟨q.1, fun w => by obtain ⟨i9, k1, k2⟩ := q.2; exact k2 (w i9 k1)⟩), ⟨F, QTm.mk ht hP hD hO hR⟩⟩, hS.F ht⟩) hS.2.2 dX15_isAll_34
  ·
    have hi_6 : j < 32 := ltN (N := 32) c_4
    have hj32 : j < 32 := Nat.not_le.mp (fun q => c_4 ((nI_leI (by omega) (by omega)).mpr q))
    refine lv_iload_n hx hb dX15_isAll_10 rfl (lv_at hl 1 rfl) ?_
    refine lv_aload_n hx hb dX15_isAll_11 rfl (lv_at hl 2 rfl) ?_
    refine lv_iload_n hx hb dX15_isAll_12 rfl (lv_at hl 0 rfl) ?_
    obtain ⟨hq_7, hq_8⟩ := hW.octs hL_g1 hT_g1
    refine pg_bald hx hb hK hP hL_g1 1 hFa rfl (vp_in_nI (by omega) (by omega)) dX15_isAll_13 ?_
    refine lv_topi (fun x_9 ex_9 => ?_)
    obtain rfl : x_9 = (vp_nar .byte (nI (bb j))) := ex_9.trans ((congrArg fa9 (nI_clamp (by omega))).trans (hBa j hj32).2)
    refine lv_aload_n hx hb dX15_isAll_14 rfl (lv_at hl 3 rfl) ?_
    refine lv_iload_n hx hb dX15_isAll_15 rfl (lv_at hl 0 rfl) ?_
    obtain ⟨hq_10, hq_11⟩ := hW.octs hL_g2 hT_g2
    refine pg_bald hx hb hK hP hL_g2 1 hFb rfl (vp_in_nI (by omega) (by omega)) dX15_isAll_16 ?_
    refine lv_topi (fun x_12 ex_12 => ?_)
    obtain rfl : x_12 = (vp_nar .byte (nI (cc j))) := ex_12.trans ((congrArg fb9 (nI_clamp (by omega))).trans (hBb j hj32).2)
    refine lv_icmp_ne (tgt := 24) hx hb dX15_isAll_17 (by decide) (fun c_13 => ?_) (fun c_13 => ?_)
    ·
      have hde : ¬ bb j = cc j := fun q => c_13 (by rw [q])
      refine lv_iconst (v := 0) hx hb dX15_isAll_24 (by decide) ?_
      refine lv_iand hx hb dX15_isAll_25 ?_
      refine lv_topi (fun x_14 ex_14 => ?_)
      obtain rfl : x_14 = (w1 &&& 0) := ex_14.trans (rfl)
      refine lv_istore_n (lv' := [(2, .int (w1 &&& 0)), (3, .int (nI j)), (0, .ref g1), (1, .ref g2)]) hx hb dX15_isAll_26 rfl hl (by decide) rfl (fun ls hl => ?_)
      refine lv_iinc (v := (nI (j + 1))) (lv' := [(3, .int (nI (j + 1))), (2, .int (w1 &&& 0)), (0, .ref g1), (1, .ref g2)]) hx hb dX15_isAll_27 hl (k := 1) rfl (nI_1 _) (by decide) rfl (fun ls hl => ?_)
      refine lv_goto (tgt := 4) hx hb dX15_isAll_30 (by decide) ?_
      refine W.widen (k := 0) (n := 0) (by omega) (by omega) ?_
      exact ih_3 ((j + 1), (w1 &&& 0)) F (⟨by omega, (Or.inr ⟨by rcases hv2 with q | q <;> rw [q.1] <;> decide, j, hj32, hde⟩)⟩) (by show 32 - (j + 1) < 32 - j; omega) hO hR _ _ hP hD hS ls (lv_sub hl [0, 1, 2, 3] rfl)
    ·
      have hde : bb j = cc j := (nar_inj _ (hBa j hj32).1 _ (hBb j hj32).1).mp c_13
      refine lv_iconst (v := 1) hx hb dX15_isAll_20 (by decide) ?_
      refine lv_goto (tgt := 25) hx hb dX15_isAll_21 (by decide) ?_
      refine lv_iand hx hb dX15_isAll_25 ?_
      refine lv_topi (fun x_15 ex_15 => ?_)
      obtain rfl : x_15 = (w1 &&& 1) := ex_15.trans (rfl)
      refine lv_istore_n (lv' := [(2, .int (w1 &&& 1)), (3, .int (nI j)), (0, .ref g1), (1, .ref g2)]) hx hb dX15_isAll_26 rfl hl (by decide) rfl (fun ls hl => ?_)
      refine lv_iinc (v := (nI (j + 1))) (lv' := [(3, .int (nI (j + 1))), (2, .int (w1 &&& 1)), (0, .ref g1), (1, .ref g2)]) hx hb dX15_isAll_27 hl (k := 1) rfl (nI_1 _) (by decide) rfl (fun ls hl => ?_)
      refine lv_goto (tgt := 4) hx hb dX15_isAll_30 (by decide) ?_
      refine W.widen (k := 0) (n := 0) (by omega) (by omega) ?_
      exact ih_3 ((j + 1), (w1 &&& 1)) F (⟨by omega, (by rcases hv2 with q | q; exact Or.inl ⟨by rw [q.1]; decide, all_step q.2 hde⟩; exact Or.inr ⟨by rw [q.1]; decide, q.2⟩)⟩) (by show 32 - (j + 1) < 32 - j; omega) hO hR _ _ hP hD hS ls (lv_sub hl [0, 1, 2, 3] rfl)
set_option maxHeartbeats 4000000 in
set_option maxRecDepth 100000 in
theorem s_X15_sealOf_x (l : Launch) (dC : Nat → ClassId) (dI : Nat → Nat → Nat) (cs : Nat → ClassId) (ty : TyM) (gm : Nat → Nat → Nat) (L : List Nat) (sz : Nat) (F : Nat → va_E) (h0 : Nat) (ρ : Nat) (ta : Nat) (ou : Nat) (so : Nat) (ad : Nat) (na : Nat) (va : Nat) (lc : Nat) (dm : Nat) (tg : Nat) (pe : Nat) (ml : Nat) (bg : Nat) (co : Nat) (sp : Nat) (nb0 : Nat) (nb1 : Nat) (nb2 : Nat) (pl : Nat) (se : Nat) (ke : Nat) (wi : Nat) (hs : Nat) (mo : Nat) (po : Nat) (nu : Nat) (pr : Nat) (sq : Nat) (xa : Nat) (sa : Nat) (n64 : Nat) (m64 : Nat) (ex : Nat) (wh : Nat) (sd : Nat) (tk : Nat) (hd : Nat) (ak : Nat) (ho : Nat) (ot : Nat) (sx : Nat) (s0 : Nat) (s1 : Nat) (s2 : Nat) (nf : Nat) (bd : Nat) (mm : Nat) (zo : Nat) (fm : Nat) (sn : Nat) (hg : Nat) (gc : Nat) (gv : Nat) (ze : Nat) (zt : Nat) (sb : Nat) (rl : Nat) (rwh : Nat) (rsd : Nat) (jf : Nat) (nw : Nat) (gl : Nat → Int32) (D : Nat → ETY) (gd : Nat → Nat) (hW : WTm ty gm L) (hL_h0 : h0 ∈ L) (hT_h0 : ty h0 = (15, ρ, [ta, ou, so, ad, na, va, lc, dm, tg, pe, ml, bg, co, sp, nb0, nb1, nb2, pl, se, ke, wi, hs, mo, po, nu, pr, sq, xa, sa, n64, m64, ex, wh, sd, tk, hd, ak, ho, ot, sx, s0, s1, s2, nf, bd, mm, zo, fm, sn, hg, gc, gv, ze, zt])) (hL_sx : sx ∈ L) (hT_sx : ty sx = (14, ρ + 12, [sb, 3000])) (hL_pl : pl ∈ L) (hT_pl : ty pl = (14, ρ + 10, [rl, 6000])) (hL_wh : wh ∈ L) (hT_wh : ty wh = (14, ρ + 24, [rwh, 6000])) (hL_sd : sd ∈ L) (hT_sd : ty sd = (14, ρ + 25, [rsd, 3000])) (hFml : F ml = .inl (cs 17, 3000, .inl gl)) (hpos : ∀ j, j < nf → gm 2 j = min mm (gd j + 1) ∧ gm 1 j < gd j ∧ gd j ≤ mm ∧ EOK (clr gl) mm (gd j)) (hjf : jf < nf) (hnw : nw < 2147483648) (hDM : DIRM cs F so ad na va ze D) (hbd : ∀ k, k < ze → ∀ j, j < (D k).2.2.2.2.1 → BYQ ((D k).2.2.2.2.2 j)) (hby : ∀ j, j < mm → BYQ (gl j)) : Met l yX15_sealOf (.code yX15_sealOf cX15_sealOf 8 (some .int) :: tb) ({ frames := 8, cells := 0, slots := 0, locals := 186 }) (va_Pc [.ref h0, .int (nI jf), .int (nI nw)] (PTEm (dC, dI) cs ty gm L F sz [])) (va_Qi (fun (r : Int32) (_ : Unit) => SJRm gl mm nf bd jf (gm 0) (gm 1) gd D ze nw (flT (TC gl mm) (gm 1 jf + 1) ((gd jf) - (gm 1 jf + 1))) (flI (TC gl mm) (gm 1 jf + 1) ((gd jf) - (gm 1 jf + 1))).length r) (fun _ T9 => ∃ F2 : Nat → va_E, QTm (dC, dI) cs ty gm L [ρ, ρ + 10, ρ + 11, ρ + 12, ρ + 13, ρ + 14, ρ + 17, ρ + 18, ρ + 19, ρ + 20, ρ + 21, ρ + 22, ρ + 23, ρ + 24, ρ + 25, ρ + 26, ρ + 81, ρ + 82, ρ + 83, ρ + 84, ρ + 87, ρ + 88, ρ + 89, ρ + 90] F F2 (va_A (va_pl L F) sz) T9 ∧ (∀ g9, tgT (flT (TC gl mm) (gm 1 jf + 1) ((gd jf) - (gm 1 jf + 1))) (flI (TC gl mm) (gm 1 jf + 1) ((gd jf) - (gm 1 jf + 1))).length = some g9 → SWB (flT (TC gl mm) (gm 1 jf + 1) ((gd jf) - (gm 1 jf + 1))) g9.2 g9.1 → TXM cs F2 sd 3000 (dmL (flT (TC gl mm) (gm 1 jf + 1) ((gd jf) - (gm 1 jf + 1))) g9.2 g9.1))) (va_A (va_pl L F) sz)) 0 0 (va_A (va_pl L F) sz) := by
  refine Met.ofW (cc := cX15_sealOf) (maxL := 8) (ret := (some .int)) (by decide) rfl ?_
  intro p e s m args below meth c s₁ B hml hv
  obtain ⟨rfl, ⟨hsz, hP, hK, hD0, hE, hO⟩, hG, hX⟩ := hv
  have hx := B.exec
  have hb := B.bytes
  have hr := B.returns
  have hts : ∀ w ∈ tb, w.before _ s = true := fun w h => atoms_spec (ws := .code yX15_sealOf cX15_sealOf 8 (some .int) :: tb) B.pre w (List.mem_cons_of_mem _ h)
  have hown : s.vm.findClass RX15 = some m.cls := findClass_of_methodNamed B.named
  have hlocks := B.notSynchronized
  subst hsz
  have hD := hD0.self (sz := s.heap.size)
  generalize hAe : va_A (va_pl L F) s.heap.size = A at hD hG hX ⊢
  have hA : ∀ q : Nat, s.heap.size ≤ q → A q := fun q h => by rw [← hAe]; exact Or.inr h
  have hS : va_S A s.heap s.heap [] := va_S.rf
  have hR : FR ty [ρ, ρ + 10, ρ + 11, ρ + 12, ρ + 13, ρ + 14, ρ + 17, ρ + 18, ρ + 19, ρ + 20, ρ + 21, ρ + 22, ρ + 23, ρ + 24, ρ + 25, ρ + 26, ρ + 81, ρ + 82, ρ + 83, ρ + 84, ρ + 87, ρ + 88, ρ + 89, ρ + 90] F F := FR.refl
  have hl := lv_entry ([.ref h0, .int (nI jf), .int (nI nw)]) (n := 8) (Nat.le_of_ble_eq_true rfl)
  rw [lg_entry_eq]
  generalize (lg_sl ([.ref h0, .int (nI jf), .int (nI nw)]) ++ List.replicate (8 - (lg_sl ([.ref h0, .int (nI jf), .int (nI nw)])).length) Slot.unset).toArray = ls at hl ⊢
  have hl : lv_has ls 8 [(0, .ref h0), (1, .int (nI jf)), (2, .int (nI nw))] := hl
  obtain ⟨hq_20, hq_21, hq_22, hq_23, hq_24, hgO, hgA, hgB, hq_25⟩ := hW.sc hL_h0 hT_h0
  have hoj := hgO jf hjf
  obtain ⟨hi_26, ht_27⟩ := hW.f_se hL_h0 hT_h0
  obtain ⟨_, hi_28, hi_29, hi_30, _, ht_31, ht_32, ht_33, hq_34, hq_35⟩ := hW.tags hi_26 ht_27
  have ht_32 : ty s1 = (25, ρ + 81, [40, 1280]) := ht_32
  have ht_33 : ty s2 = (25, ρ + 82, [40, 1280]) := ht_33
  obtain ⟨hi_36, ht_37, hq_38⟩ := hW.txt hL_sx hT_sx
  obtain ⟨hi_39, ht_40, hq_41⟩ := hW.txt hL_pl hT_pl
  obtain ⟨hi_42, ht_43, hq_44⟩ := hW.txt hL_wh hT_wh
  obtain ⟨hi_45, ht_46, hq_47⟩ := hW.txt hL_sd hT_sd
  obtain ⟨hi_48, ht_49⟩ := hW.f_ml hL_h0 hT_h0
  obtain ⟨hq_50, hq_51⟩ := hW.octs hi_48 ht_49
  obtain ⟨hi_52, ht_53⟩ := hW.f_xa hL_h0 hT_h0
  obtain ⟨hq_54, hq_55⟩ := hW.octs hi_52 ht_53
  obtain ⟨hi_56, ht_57⟩ := hW.f_sa hL_h0 hT_h0
  obtain ⟨hq_58, hq_59⟩ := hW.octs hi_56 ht_57
  obtain ⟨hi_60, ht_61⟩ := hW.f_n64 hL_h0 hT_h0
  obtain ⟨hq_62, hq_63⟩ := hW.octs hi_60 ht_61
  obtain ⟨hi_64, ht_65⟩ := hW.f_m64 hL_h0 hT_h0
  obtain ⟨hq_66, hq_67⟩ := hW.octs hi_64 ht_65
  obtain ⟨v14_68, v15_69, v17_70, v18_71, v19_72, v20_73, v21_74, v22_75, v33_76, v52_77, v53_78, v54_79, hF_80, hq_81, hq_82, hq_83, hq_84, hq_85⟩ := hO.mod hL_h0 hT_h0
  have hO0 := hO
  have hW0 := hW
  obtain ⟨hLs0, hTs0⟩ := hW.f_so hL_h0 hT_h0
  obtain ⟨hLd0, hTd0⟩ := hW.f_ad hL_h0 hT_h0
  obtain ⟨hLn0, hTn0⟩ := hW.f_na hL_h0 hT_h0
  obtain ⟨hLv0, hTv0⟩ := hW.f_va hL_h0 hT_h0
  obtain ⟨qf1, qf2, qf3, qf4⟩ := hpos jf hjf
  have hfst := flt_st (a := gm 1 jf + 1) qf1 qf3 qf2 qf4
  have hTFT := flT_of hfst
  refine lv_aload_n hx hb dX15_sealOf_0 rfl (lv_at hl 0 rfl) ?_
  refine pg_get (ci := 15) (v := .ref ml) (C := RX15) (T := TX15) (N := 59) hx hb hts it_15 hown hK hP hL_h0 hF_80 rfl 23 (by decide) (hts _ kt_887) (fun _ h9 => h9) rfl dX15_sealOf_1 ?_
  refine lv_aload_n hx hb dX15_sealOf_4 rfl (lv_at hl 0 rfl) ?_
  refine pg_get (ci := 15) (v := .ref co) (C := RX15) (T := TX15) (N := 59) hx hb hts it_15 hown hK hP hL_h0 hF_80 rfl 25 (by decide) (hts _ kt_889) (fun _ h9 => h9) rfl dX15_sealOf_5 ?_
  refine lv_iload_n hx hb dX15_sealOf_8 rfl (lv_at hl 1 rfl) ?_
  obtain ⟨hi_86, ht_87⟩ := hW.f_co hL_h0 hT_h0
  obtain ⟨f_88, hF_89, hq_90⟩ := hO.pos hi_86 ht_87
  refine pg_iald hx hb hK hP hi_86 0 hF_89 rfl (vp_in_nI (by omega) (by omega)) dX15_sealOf_9 ?_
  refine lv_topi (fun x_91 ex_91 => ?_)
  obtain rfl : x_91 = (nI (gm 1 jf)) := ex_91.trans (by rw [show ((nI jf) : Int32) = nI jf from rfl, nI_clamp (by omega)]; exact hq_90 jf (by omega))
  have hgbx_91 := hgB 1 jf
  refine lv_iconst (v := 1) hx hb dX15_sealOf_10 (by decide) ?_
  refine lv_iadd hx hb dX15_sealOf_11 ?_
  refine lv_topi (fun x_92 ex_92 => ?_)
  obtain rfl : x_92 = (nI (gm 1 jf + 1)) := ex_92.trans (nI_1 _)
  refine lv_aload_n hx hb dX15_sealOf_12 rfl (lv_at hl 0 rfl) ?_
  refine pg_get (ci := 15) (v := .ref sp) (C := RX15) (T := TX15) (N := 59) hx hb hts it_15 hown hK hP hL_h0 hF_80 rfl 26 (by decide) (hts _ kt_890) (fun _ h9 => h9) rfl dX15_sealOf_13 ?_
  refine lv_iload_n hx hb dX15_sealOf_16 rfl (lv_at hl 1 rfl) ?_
  obtain ⟨hi_93, ht_94⟩ := hW.f_sp hL_h0 hT_h0
  obtain ⟨f_95, hF_96, hq_97⟩ := hO.pos hi_93 ht_94
  refine pg_iald hx hb hK hP hi_93 0 hF_96 rfl (vp_in_nI (by omega) (by omega)) dX15_sealOf_17 ?_
  refine lv_topi (fun x_98 ex_98 => ?_)
  obtain rfl : x_98 = (nI (gm 2 jf)) := ex_98.trans (by rw [show ((nI jf) : Int32) = nI jf from rfl, nI_clamp (by omega)]; exact hq_97 jf (by omega))
  have hgbx_98 := hgB 2 jf
  refine lv_aload_n hx hb dX15_sealOf_18 rfl (lv_at hl 0 rfl) ?_
  refine pg_get (ci := 15) (v := .ref se) (C := RX15) (T := TX15) (N := 59) hx hb hts it_15 hown hK hP hL_h0 hF_80 rfl 35 (by decide) (hts _ kt_847) (fun _ h9 => h9) rfl dX15_sealOf_19 ?_
  obtain ⟨z_99, hF_100, hq_101⟩ := hO.tags hi_26 ht_27
  refine pg_get (ci := 13) (v := .ref sx) (C := RX13) (T := TX13) (N := 5) hx hb hts it_13 hown hK hP hi_26 hF_100 rfl 0 (by decide) (hts _ kt_842) (fun _ h9 => h9) rfl dX15_sealOf_22 ?_
  have hFc := pg_free hD hS hA
  refine va_callv (va_runS (As := [.ref ml, .int (nI (gm 1 jf + 1)), .int (nI (gm 2 jf)), .ref sx]) (rest := []) ⟨hx, hb, hml, hown, hts⟩ (s_X15_withoutWhite_x l dC dI cs ty gm L s.heap.size F ml (ρ + 8) 3000 sx (ρ + 12) sb 3000 (gm 1 jf + 1) (gm 2 jf) mm gl hW hi_48 ht_49 hL_sx hT_sx hFml (by omega) (by omega) (by omega) (by omega) (by omega) (hby)) ⟨callB_of 4 hts (gi kt_926) rfl rfl rfl (hts _ kt_669) (hts _ kt_927) (by decide +kernel) ⟨Nat.le_of_ble_eq_true rfl, Nat.le_of_ble_eq_true rfl⟩, (hts _ kt_928)⟩ ⟨fun a U g mk q => ⟨q.1, PTm.calling q.2⟩, fun U hU hWm => ⟨rfl, PTm.mk hU hWm hP hK hD hE hO⟩⟩ rfl rfl hl.1 rfl (lv_room (Nat.le_of_ble_eq_true rfl)) dX15_sealOf_25 ⟨by show _ + 0 ≤ 0; omega, by show _ + 0 ≤ 0; omega⟩) hS (fun q _ h => hFc q h) hFc (fun u t H1 locs ht hvm hw hB hz1 hk1 hS => ?_)
  obtain ⟨F_103, fc_104, hB1, hq_105, hq_106, hq_107⟩ := hB
  obtain ⟨hP, hD, hO, hR⟩ := QTm.back hB1 ht hFc hR (fun q h => by simp only [List.mem_cons, List.not_mem_nil, or_false] at h ⊢; omega)
  have hF_108 : F_103 ml = .inl (cs 17, 3000, .inl gl) := (hB1.2.2.2 ml (by rw [ht_49]; simp)).trans hFml
  have hF_109 : F_103 h0 = .inr (15, (.ref ta) :: (.int (nI zt)) :: (.int (nI zo)) :: (.int (nI ze)) :: (.ref ou) :: (.ref so) :: (.ref ad) :: (.ref na) :: (.ref va) :: (.ref lc) :: (.ref dm) :: (.int (nI fm)) :: (.int (nI sn)) :: (.ref tg) :: (.int v14_68) :: (.int v15_69) :: (.ref pe) :: (.int v17_70) :: (.int v18_71) :: (.int v19_72) :: (.int v20_73) :: (.int v21_74) :: (.int v22_75) :: (.ref ml) :: (.ref bg) :: (.ref co) :: (.ref sp) :: (.ref nb0) :: (.ref nb1) :: (.ref nb2) :: (.int (nI nf)) :: (.int (nI bd)) :: (.int (nI mm)) :: (.int v33_76) :: (.ref pl) :: (.ref se) :: (.ref ke) :: (.ref wi) :: (.ref hs) :: (.ref mo) :: (.ref po) :: (.ref nu) :: (.ref pr) :: (.ref sq) :: (.ref xa) :: (.ref sa) :: (.ref n64) :: (.ref m64) :: (.ref ex) :: (.ref wh) :: (.ref sd) :: (.ref tk) :: (.int v52_77) :: (.int v53_78) :: (.int v54_79) :: (.ref hd) :: (.ref ak) :: (.ref ho) :: (.ref ot) :: []) := (hB1.2.2.2 h0 (by rw [hT_h0]; simp)).trans hF_80
  have hF_110 : F_103 co = .inl (cs 16, 21, .inl f_88) := (hB1.2.2.2 co (by rw [ht_87]; simp)).trans hF_89
  have hF_111 : F_103 sp = .inl (cs 16, 21, .inl f_95) := (hB1.2.2.2 sp (by rw [ht_94]; simp)).trans hF_96
  have hF_112 : F_103 se = .inr (13, [.ref sx, .ref s0, .ref s1, .ref s2, .int (nI z_99)]) := (hB1.2.2.2 se (by rw [ht_27]; simp)).trans hF_100
  generalize H1 = H at hP hS ⊢
  obtain ⟨hwT, hwL⟩ := hq_107
  rw [hfst] at hwT hwL
  rw [hTFT] at hwT
  have hF_113 : F_103 sx = .inr (14, [.ref sb, .int (nI (flI (TC gl mm) (gm 1 jf + 1) ((gd jf) - (gm 1 jf + 1))).length)]) := by have h9 := hq_105; rw [hfst] at h9; exact h9
  refine lv_aload_n hx hb dX15_sealOf_28 rfl (lv_at hl 0 rfl) ?_
  obtain ⟨hq_114, hq_115⟩ := hW.octs hi_36 ht_37
  have hFc := pg_free hD hS hA
  refine va_calli (va_runV (As := []) (rest := []) ⟨hx, hb, hml, hown, hts⟩ (s_X15_isWell_x l dC dI cs ty gm L H.size F_103 h0 ρ ta ou so ad na va lc dm tg pe ml bg co sp nb0 nb1 nb2 pl se ke wi hs mo po nu pr sq xa sa n64 m64 ex wh sd tk hd ak ho ot sx s0 s1 s2 nf bd mm zo fm sn hg gc gv ze zt sb ((flI (TC gl mm) (gm 1 jf + 1) ((gd jf) - (gm 1 jf + 1))).length) fc_104 hW hL_h0 hT_h0 hL_sx hT_sx hF_113 hq_106 (by omega)) ⟨callB_of 0 hts (gi kt_957) rfl rfl rfl (hts _ kt_669) (hts _ kt_958) (by decide +kernel) ⟨Nat.le_of_ble_eq_true rfl, Nat.le_of_ble_eq_true rfl⟩, (hts _ kt_959), (hts _ kt_960)⟩ ⟨fun a U g mk q => ⟨q.1, PTEm.calling q.2⟩, pg_recv hK hP hL_h0 hF_109 (q := (RX15, TX15, 59)) rfl, fun U hU hWm => ⟨rfl, PTEm.mk hU hWm hP hK hD hE hO hG (fun x hx => absurd hx List.not_mem_nil) hS hFc⟩⟩ rfl rfl hl.1 rfl (lv_room (Nat.le_of_ble_eq_true rfl)) dX15_sealOf_29 ⟨by show _ + 0 ≤ 0; omega, by show _ + 0 ≤ 0; omega⟩) hS (fun q _ h => hFc q h) hFc (fun r_117 gg_116 t H1 locs ht hvm hw hB hz1 hk1 hS => ?_)
  obtain ⟨F_118, p0_119, p1_120, p2_121, f9_122, f8_123, b0_124, b1_125, hB1, hq_126, hq_127, hq_128, hq_129, hq_130, hq_131, hq_132⟩ := hB
  obtain ⟨hP, hD, hO, hR⟩ := QTm.back hB1 ht hFc hR (fun q h => by simp only [List.mem_cons, List.not_mem_nil, or_false] at h ⊢; omega)
  have hF_133 : F_118 ml = .inl (cs 17, 3000, .inl gl) := (hB1.2.2.2 ml (by rw [ht_49]; simp)).trans hF_108
  have hF_134 : F_118 co = .inl (cs 16, 21, .inl f_88) := (hB1.2.2.2 co (by rw [ht_87]; simp)).trans hF_110
  have hF_135 : F_118 sp = .inl (cs 16, 21, .inl f_95) := (hB1.2.2.2 sp (by rw [ht_94]; simp)).trans hF_111
  have hF_136 : F_118 sx = .inr (14, [.ref sb, .int (nI (flI (TC gl mm) (gm 1 jf + 1) ((gd jf) - (gm 1 jf + 1))).length)]) := (hB1.2.2.2 sx (by rw [hT_sx]; simp)).trans hF_113
  have hF_137 : F_118 sb = .inl (cs 17, 3000, .inl fc_104) := (hB1.2.2.2 sb (by rw [ht_37]; simp)).trans hq_106
  generalize H1 = H at hP hS ⊢
  have hw : ((r_117 = 1 ∧ tgT (TC fc_104 (flI (TC gl mm) (gm 1 jf + 1) ((gd jf) - (gm 1 jf + 1))).length) (flI (TC gl mm) (gm 1 jf + 1) ((gd jf) - (gm 1 jf + 1))).length = some gg_116 ∧ SWB (TC fc_104 (flI (TC gl mm) (gm 1 jf + 1) ((gd jf) - (gm 1 jf + 1))).length) gg_116.2 gg_116.1) ∨ (r_117 = 0 ∧ ¬ SWL (TC fc_104 (flI (TC gl mm) (gm 1 jf + 1) ((gd jf) - (gm 1 jf + 1))).length) (flI (TC gl mm) (gm 1 jf + 1) ((gd jf) - (gm 1 jf + 1))).length)) := hw
  have hw_138 := hw
  have hWL := hw_138
  have hHL := hq_130
  obtain ⟨hti1, hti2⟩ := hq_131
  have hSB := hq_132
  refine lv_if_ne (tgt := 37) hx hb dX15_sealOf_32 (by decide) (fun c_139 => ?_) (fun c_139 => ?_)
  ·
    obtain ⟨hgt0, hsw⟩ : tgT (TC fc_104 (flI (TC gl mm) (gm 1 jf + 1) ((gd jf) - (gm 1 jf + 1))).length) (flI (TC gl mm) (gm 1 jf + 1) ((gd jf) - (gm 1 jf + 1))).length = some gg_116 ∧ SWB (TC fc_104 (flI (TC gl mm) (gm 1 jf + 1) ((gd jf) - (gm 1 jf + 1))).length) gg_116.2 gg_116.1 := by rcases hWL with q | q; exact q.2; exact absurd q.1 c_139
    obtain ⟨hu0, hu1, hs2a, hs2b, hs3a, hs3b⟩ := hSB hgt0 hsw
    have hgt := hgt0
    rw [hwT] at hgt
    have hsw2 : SWB (flT (TC gl mm) (gm 1 jf + 1) ((gd jf) - (gm 1 jf + 1))) gg_116.2 gg_116.1 := by have h9 := hsw; rw [hwT] at h9; exact h9
    obtain ⟨v14_140, v15_141, v17_142, v18_143, v19_144, v20_145, v21_146, v22_147, v33_148, v52_149, v53_150, v54_151, hF_152, hq_153, hq_154, hq_155, hq_156, hq_157⟩ := hO.mod hL_h0 hT_h0
    have h52e : v52_149 = frx (TC fc_104 (flI (TC gl mm) (gm 1 jf + 1) ((gd jf) - (gm 1 jf + 1))).length) gg_116.2 gg_116.1 := by have h9 := hu0; rw [hF_152] at h9; exact h9
    have h53e : v53_150 = brx (TC fc_104 (flI (TC gl mm) (gm 1 jf + 1) ((gd jf) - (gm 1 jf + 1))).length) gg_116.2 gg_116.1 := by have h9 := hu1; rw [hF_152] at h9; exact h9
    refine lv_aload_n hx hb dX15_sealOf_37 rfl (lv_at hl 0 rfl) ?_
    refine pg_get (ci := 15) (v := .ref se) (C := RX15) (T := TX15) (N := 59) hx hb hts it_15 hown hK hP hL_h0 hF_152 rfl 35 (by decide) (hts _ kt_847) (fun _ h9 => h9) rfl dX15_sealOf_38 ?_
    obtain ⟨q_158, v_159, hr_q_158, hX_q_158⟩ := hG.2.2 ("PostGateModel", 454, "d", [100]) (by decide +kernel)
    have hX_q_158 : SXc q_158 v_159 1 (cct [100]) A s s.heap := hX_q_158
    obtain ⟨xo_q_158, xc_q_158, xv_q_158, xt_q_158, xn_q_158⟩ := id hX_q_158
    have hr_q_158 : vk_R "PostGateModel" 454 "d" q_158 s := hr_q_158
    refine va_ldcwS hx hb hown hr_q_158 dX15_sealOf_41 ?_
    have hFc := pg_free hD hS hA
    refine va_calli (va_runV (As := [.ref q_158]) (rest := []) ⟨hx, hb, hml, hown, hts⟩ (s_X13_find_x l dC dI cs ty gm L H.size F_118 se (ρ + 11) sx 3000 1280 s0 s1 s2 sb ((flI (TC gl mm) (gm 1 jf + 1) ((gd jf) - (gm 1 jf + 1))).length) gg_116.1 fc_104 p0_119 p1_120 p2_121 gg_116.2 q_158 v_159 1 (cct [100]) ([100]) hW hi_26 ht_27 hL_sx hT_sx hF_136 hF_137 (by omega) hq_126 hq_127 hq_128 hq_129 (hti2) (hHL) (hti1) (Nat.le_refl _) (⟨rfl, by decide +kernel⟩)) ⟨callB_of 1 hts (gi kt_828) rfl rfl rfl (hts _ kt_829) (hts _ kt_839) (by decide +kernel) ⟨Nat.le_of_ble_eq_true rfl, Nat.le_of_ble_eq_true rfl⟩, (hts _ kt_831), (hts _ kt_832)⟩ ⟨fun a U g mk q => ⟨q.1, PTEm.calling q.2⟩, pg_recv hK hP hi_26 hq_126 (q := (RX13, TX13, 5)) rfl, fun U hU hWm => ⟨rfl, PTEm.mk hU hWm hP hK hD hE hO hG (fun x hx => by rw [List.mem_singleton] at hx; subst hx; exact hX_q_158) hS hFc⟩⟩ rfl rfl hl.1 rfl (lv_room (Nat.le_of_ble_eq_true rfl)) dX15_sealOf_44 ⟨by show _ + 0 ≤ 0; omega, by show _ + 0 ≤ 0; omega⟩) hS (fun q _ h => hFc q h) hFc (fun r_160 u t H1 locs ht hvm hw hB hz1 hk1 hS => ?_)
    obtain ⟨F_161, hB1⟩ := hB
    obtain rfl : F_118 = F_161 := (funext (fun a => hB1.2.2.2 a List.not_mem_nil)).symm
    obtain ⟨hP, hD, hO, hR⟩ := QTm.back hB1 ht hFc hR (fun q h => absurd h List.not_mem_nil)
    generalize H1 = H at hP hS ⊢
    have hw : RWX (TC fc_104 (flI (TC gl mm) (gm 1 jf + 1) ((gd jf) - (gm 1 jf + 1))).length) gg_116.2 gg_116.1 [100] r_160 := hw
    have hw_162 := hw
    obtain ⟨jd, hjdz, ejd, hjd1, hjd2⟩ := rwx_y hw_162 (fun q => by have hR9 : (tgR (TC fc_104 (flI (TC gl mm) (gm 1 jf + 1) ((gd jf) - (gm 1 jf + 1))).length) gg_116.2 [100] gg_116.1) = none := rwx_R hw_162 hti2 q; have h9 := hsw.2.2.1; rw [hR9] at h9; exact nmc_0 h9)
    subst ejd
    obtain ⟨hjda, hjdb, hjdc⟩ := hti1 jd hjdz
    have hRjd : (tgR (TC fc_104 (flI (TC gl mm) (gm 1 jf + 1) ((gd jf) - (gm 1 jf + 1))).length) gg_116.2 [100] gg_116.1) = some jd := tgR_y hjd1 hjd2 gg_116.1 hjdz
    have hAjd : tgA gg_116.2 (tgR (TC fc_104 (flI (TC gl mm) (gm 1 jf + 1) ((gd jf) - (gm 1 jf + 1))).length) gg_116.2 [100] gg_116.1) = gg_116.2 1 jd + 1 := by rw [hRjd]; rfl
    have hBjd : tgB gg_116.2 (tgR (TC fc_104 (flI (TC gl mm) (gm 1 jf + 1) ((gd jf) - (gm 1 jf + 1))).length) gg_116.2 [100] gg_116.1) = gg_116.2 2 jd := by rw [hRjd]; rfl
    refine lv_istore_n (lv' := [(3, .int (nI jd)), (0, .ref h0), (1, .int (nI jf)), (2, .int (nI nw))]) hx hb dX15_sealOf_47 rfl hl (by decide) rfl (fun ls hl => ?_)
    refine lv_aload_n hx hb dX15_sealOf_48 rfl (lv_at hl 1 rfl) ?_
    refine pg_get (ci := 15) (v := .ref se) (C := RX15) (T := TX15) (N := 59) hx hb hts it_15 hown hK hP hL_h0 hF_152 rfl 35 (by decide) (hts _ kt_847) (fun _ h9 => h9) rfl dX15_sealOf_49 ?_
    obtain ⟨q_163, v_164, hr_q_163, hX_q_163⟩ := hG.2.2 ("PostGateModel", 460, "s", [115]) (by decide +kernel)
    have hX_q_163 : SXc q_163 v_164 1 (cct [115]) A s s.heap := hX_q_163
    obtain ⟨xo_q_163, xc_q_163, xv_q_163, xt_q_163, xn_q_163⟩ := id hX_q_163
    have hr_q_163 : vk_R "PostGateModel" 460 "s" q_163 s := hr_q_163
    refine va_ldcwS hx hb hown hr_q_163 dX15_sealOf_52 ?_
    have hFc := pg_free hD hS hA
    refine va_calli (va_runV (As := [.ref q_163]) (rest := []) ⟨hx, hb, hml, hown, hts⟩ (s_X13_find_x l dC dI cs ty gm L H.size F_118 se (ρ + 11) sx 3000 1280 s0 s1 s2 sb ((flI (TC gl mm) (gm 1 jf + 1) ((gd jf) - (gm 1 jf + 1))).length) gg_116.1 fc_104 p0_119 p1_120 p2_121 gg_116.2 q_163 v_164 1 (cct [115]) ([115]) hW hi_26 ht_27 hL_sx hT_sx hF_136 hF_137 (by omega) hq_126 hq_127 hq_128 hq_129 (hti2) (hHL) (hti1) (Nat.le_refl _) (⟨rfl, by decide +kernel⟩)) ⟨callB_of 1 hts (gi kt_828) rfl rfl rfl (hts _ kt_829) (hts _ kt_839) (by decide +kernel) ⟨Nat.le_of_ble_eq_true rfl, Nat.le_of_ble_eq_true rfl⟩, (hts _ kt_831), (hts _ kt_832)⟩ ⟨fun a U g mk q => ⟨q.1, PTEm.calling q.2⟩, pg_recv hK hP hi_26 hq_126 (q := (RX13, TX13, 5)) rfl, fun U hU hWm => ⟨rfl, PTEm.mk hU hWm hP hK hD hE hO hG (fun x hx => by rw [List.mem_singleton] at hx; subst hx; exact hX_q_163) hS hFc⟩⟩ rfl rfl hl.1 rfl (lv_room (Nat.le_of_ble_eq_true rfl)) dX15_sealOf_55 ⟨by show _ + 0 ≤ 0; omega, by show _ + 0 ≤ 0; omega⟩) hS (fun q _ h => hFc q h) hFc (fun r_165 u t H1 locs ht hvm hw hB hz1 hk1 hS => ?_)
    obtain ⟨F_166, hB1⟩ := hB
    obtain rfl : F_118 = F_166 := (funext (fun a => hB1.2.2.2 a List.not_mem_nil)).symm
    obtain ⟨hP, hD, hO, hR⟩ := QTm.back hB1 ht hFc hR (fun q h => absurd h List.not_mem_nil)
    generalize H1 = H at hP hS ⊢
    have hw : RWX (TC fc_104 (flI (TC gl mm) (gm 1 jf + 1) ((gd jf) - (gm 1 jf + 1))).length) gg_116.2 gg_116.1 [115] r_165 := hw
    have hw_167 := hw
    obtain ⟨js, hjsz, ejs, hjs1, hjs2⟩ := rwx_y hw_167 (fun q => by have hR9 : (tgR (TC fc_104 (flI (TC gl mm) (gm 1 jf + 1) ((gd jf) - (gm 1 jf + 1))).length) gg_116.2 [115] gg_116.1) = none := rwx_R hw_167 hti2 q; have h9 := hsw.2.2.2.1; rw [hR9] at h9; exact nmc_0 h9)
    subst ejs
    obtain ⟨hjsa, hjsb, hjsc⟩ := hti1 js hjsz
    have hRjs : (tgR (TC fc_104 (flI (TC gl mm) (gm 1 jf + 1) ((gd jf) - (gm 1 jf + 1))).length) gg_116.2 [115] gg_116.1) = some js := tgR_y hjs1 hjs2 gg_116.1 hjsz
    have hAjs : tgA gg_116.2 (tgR (TC fc_104 (flI (TC gl mm) (gm 1 jf + 1) ((gd jf) - (gm 1 jf + 1))).length) gg_116.2 [115] gg_116.1) = gg_116.2 1 js + 1 := by rw [hRjs]; rfl
    have hBjs : tgB gg_116.2 (tgR (TC fc_104 (flI (TC gl mm) (gm 1 jf + 1) ((gd jf) - (gm 1 jf + 1))).length) gg_116.2 [115] gg_116.1) = gg_116.2 2 js := by rw [hRjs]; rfl
    refine lv_istore (lv' := [(4, .int (nI js)), (3, .int (nI jd)), (0, .ref h0), (1, .int (nI jf)), (2, .int (nI nw))]) hx hb dX15_sealOf_58 hl (by decide) rfl (fun ls hl => ?_)
    refine lv_aload_n hx hb dX15_sealOf_60 rfl (lv_at hl 2 rfl) ?_
    refine pg_get (ci := 15) (v := .ref se) (C := RX15) (T := TX15) (N := 59) hx hb hts it_15 hown hK hP hL_h0 hF_152 rfl 35 (by decide) (hts _ kt_847) (fun _ h9 => h9) rfl dX15_sealOf_61 ?_
    obtain ⟨q_168, v_169, hr_q_168, hX_q_168⟩ := hG.2.2 ("PostGateModel", 481, "x", [120]) (by decide +kernel)
    have hX_q_168 : SXc q_168 v_169 1 (cct [120]) A s s.heap := hX_q_168
    obtain ⟨xo_q_168, xc_q_168, xv_q_168, xt_q_168, xn_q_168⟩ := id hX_q_168
    have hr_q_168 : vk_R "PostGateModel" 481 "x" q_168 s := hr_q_168
    refine va_ldcwS hx hb hown hr_q_168 dX15_sealOf_64 ?_
    have hFc := pg_free hD hS hA
    refine va_calli (va_runS (As := [.ref se, .ref q_168]) (rest := []) ⟨hx, hb, hml, hown, hts⟩ (s_X15_number_x l dC dI cs ty gm L H.size F_118 se (ρ + 11) sx 3000 1280 s0 s1 s2 sb ((flI (TC gl mm) (gm 1 jf + 1) ((gd jf) - (gm 1 jf + 1))).length) gg_116.1 fc_104 p0_119 p1_120 p2_121 gg_116.2 q_168 v_169 1 (cct [120]) ([120]) hW hi_26 ht_27 hL_sx hT_sx hF_136 hF_137 (by omega) hq_126 hq_127 hq_128 hq_129 (hti2) (hHL) (hti1) (Nat.le_refl _) (⟨rfl, by decide +kernel⟩)) ⟨callB_of 2 hts (gi kt_884) rfl rfl rfl (hts _ kt_669) (hts _ kt_885) (by decide +kernel) ⟨Nat.le_of_ble_eq_true rfl, Nat.le_of_ble_eq_true rfl⟩, (hts _ kt_886)⟩ ⟨fun a U g mk q => ⟨q.1, PTEm.calling q.2⟩, fun U hU hWm => ⟨rfl, PTEm.mk hU hWm hP hK hD hE hO hG (fun x hx => by rw [List.mem_singleton] at hx; subst hx; exact hX_q_168) hS hFc⟩⟩ rfl rfl hl.1 rfl (lv_room (Nat.le_of_ble_eq_true rfl)) dX15_sealOf_67 ⟨by show _ + 0 ≤ 0; omega, by show _ + 0 ≤ 0; omega⟩) hS (fun q _ h => hFc q h) hFc (fun r_170 u t H1 locs ht hvm hw hB hz1 hk1 hS => ?_)
    obtain ⟨F_171, hB1⟩ := hB
    obtain rfl : F_118 = F_171 := (funext (fun a => hB1.2.2.2 a List.not_mem_nil)).symm
    obtain ⟨hP, hD, hO, hR⟩ := QTm.back hB1 ht hFc hR (fun q h => absurd h List.not_mem_nil)
    generalize H1 = H at hP hS ⊢
    have hw : r_170 = nmV (TC fc_104 (flI (TC gl mm) (gm 1 jf + 1) ((gd jf) - (gm 1 jf + 1))).length) gg_116.2 (tgR (TC fc_104 (flI (TC gl mm) (gm 1 jf + 1) ((gd jf) - (gm 1 jf + 1))).length) gg_116.2 [120] gg_116.1) := hw
    subst hw
    refine lv_istore (lv' := [(5, .int (nmV (TC fc_104 (flI (TC gl mm) (gm 1 jf + 1) ((gd jf) - (gm 1 jf + 1))).length) gg_116.2 (tgR (TC fc_104 (flI (TC gl mm) (gm 1 jf + 1) ((gd jf) - (gm 1 jf + 1))).length) gg_116.2 [120] gg_116.1))), (4, .int (nI js)), (3, .int (nI jd)), (0, .ref h0), (1, .int (nI jf)), (2, .int (nI nw))]) hx hb dX15_sealOf_70 hl (by decide) rfl (fun ls hl => ?_)
    refine lv_aload_n hx hb dX15_sealOf_72 rfl (lv_at hl 3 rfl) ?_
    refine pg_get (ci := 15) (v := .ref sd) (C := RX15) (T := TX15) (N := 59) hx hb hts it_15 hown hK hP hL_h0 hF_152 rfl 50 (by decide) (hts _ kt_961) (fun _ h9 => h9) rfl dX15_sealOf_73 ?_
    refine lv_aload_n hx hb dX15_sealOf_76 rfl (lv_at hl 3 rfl) ?_
    refine pg_get (ci := 15) (v := .ref se) (C := RX15) (T := TX15) (N := 59) hx hb hts it_15 hown hK hP hL_h0 hF_152 rfl 35 (by decide) (hts _ kt_847) (fun _ h9 => h9) rfl dX15_sealOf_77 ?_
    refine pg_get (ci := 13) (v := .ref sx) (C := RX13) (T := TX13) (N := 5) hx hb hts it_13 hown hK hP hi_26 hq_126 rfl 0 (by decide) (hts _ kt_842) (fun _ h9 => h9) rfl dX15_sealOf_80 ?_
    refine pg_get (ci := 14) (v := .ref sb) (C := RX14) (T := TX14) (N := 2) hx hb hts it_14 hown hK hP hL_sx hF_136 rfl 0 (by decide) (hts _ kt_710) (fun _ h9 => h9) rfl dX15_sealOf_83 ?_
    refine lv_aload_n hx hb dX15_sealOf_86 rfl (lv_at hl 3 rfl) ?_
    refine pg_get (ci := 15) (v := .ref se) (C := RX15) (T := TX15) (N := 59) hx hb hts it_15 hown hK hP hL_h0 hF_152 rfl 35 (by decide) (hts _ kt_847) (fun _ h9 => h9) rfl dX15_sealOf_87 ?_
    refine pg_get (ci := 13) (v := .ref s1) (C := RX13) (T := TX13) (N := 5) hx hb hts it_13 hown hK hP hi_26 hq_126 rfl 2 (by decide) (hts _ kt_840) (fun _ h9 => h9) rfl dX15_sealOf_90 ?_
    refine lv_iload_n hx hb dX15_sealOf_93 rfl (lv_at hl 2 rfl) ?_
    refine pg_iald hx hb hK hP hi_29 0 hq_128 rfl (vp_in_nI (by omega) (by omega)) dX15_sealOf_94 ?_
    refine lv_topi (fun x_172 ex_172 => ?_)
    obtain rfl : x_172 = (nI (gg_116.2 1 jd)) := ex_172.trans ((congrArg p1_120 (nI_clamp (by omega))).trans (hHL jd hjdz).2.1)
    refine lv_iconst (v := 1) hx hb dX15_sealOf_95 (by decide) ?_
    refine lv_iadd hx hb dX15_sealOf_96 ?_
    refine lv_topi (fun x_173 ex_173 => ?_)
    obtain rfl : x_173 = (nI (gg_116.2 1 jd + 1)) := ex_173.trans (nI_1 _)
    refine lv_aload_n hx hb dX15_sealOf_97 rfl (lv_at hl 3 rfl) ?_
    refine pg_get (ci := 15) (v := .ref se) (C := RX15) (T := TX15) (N := 59) hx hb hts it_15 hown hK hP hL_h0 hF_152 rfl 35 (by decide) (hts _ kt_847) (fun _ h9 => h9) rfl dX15_sealOf_98 ?_
    refine pg_get (ci := 13) (v := .ref s2) (C := RX13) (T := TX13) (N := 5) hx hb hts it_13 hown hK hP hi_26 hq_126 rfl 3 (by decide) (hts _ kt_841) (fun _ h9 => h9) rfl dX15_sealOf_101 ?_
    refine lv_iload_n hx hb dX15_sealOf_104 rfl (lv_at hl 2 rfl) ?_
    refine pg_iald hx hb hK hP hi_30 0 hq_129 rfl (vp_in_nI (by omega) (by omega)) dX15_sealOf_105 ?_
    refine lv_topi (fun x_174 ex_174 => ?_)
    obtain rfl : x_174 = (nI (gg_116.2 2 jd)) := ex_174.trans ((congrArg p2_121 (nI_clamp (by omega))).trans (hHL jd hjdz).2.2)
    have hFc := pg_free hD hS hA
    obtain ⟨z_175, hF_176, hq_177⟩ := hO.txt hL_sd hT_sd
    refine va_callv (va_runV (As := [.ref sb, .int (nI (gg_116.2 1 jd + 1)), .int (nI (gg_116.2 2 jd))]) (rest := []) ⟨hx, hb, hml, hown, hts⟩ (s_X14_set_e l dC dI cs ty gm L H.size F_118 sd (ρ + 25) rsd 3000 sb (ρ + 12) 3000 (gg_116.2 1 jd + 1) (gg_116.2 2 jd) fc_104 hW hL_sd hT_sd hi_36 ht_37 hF_137 (hjdb) (by omega) (by omega)) ⟨callB_of 3 hts (gi kt_941) rfl rfl rfl (hts _ kt_676) (hts _ kt_942) (by decide +kernel) ⟨Nat.le_of_ble_eq_true rfl, Nat.le_of_ble_eq_true rfl⟩, (hts _ kt_943), (hts _ kt_944)⟩ ⟨fun a U g mk q => ⟨q.1, PTm.calling q.2⟩, pg_recv hK hP hL_sd hF_176 (q := (RX14, TX14, 2)) rfl, fun U hU hWm => ⟨rfl, PTm.mk hU hWm hP hK hD hE hO⟩⟩ rfl rfl hl.1 rfl (lv_room (Nat.le_of_ble_eq_true rfl)) dX15_sealOf_106 ⟨by show _ + 0 ≤ 0; omega, by show _ + 0 ≤ 0; omega⟩) hS (fun q _ h => hFc q h) hFc (fun u t H1 locs ht hvm hw hB hz1 hk1 hS => ?_)
    obtain ⟨F_179, fc_180, hB1, hq_181, hq_182, hq_183⟩ := hB
    obtain ⟨hP, hD, hO, hR⟩ := QTm.back hB1 ht hFc hR (fun q h => by simp only [List.mem_cons, List.not_mem_nil, or_false] at h ⊢; omega)
    have hF_184 : F_179 ml = .inl (cs 17, 3000, .inl gl) := (hB1.2.2.2 ml (by rw [ht_49]; simp)).trans hF_133
    have hF_185 : F_179 co = .inl (cs 16, 21, .inl f_88) := (hB1.2.2.2 co (by rw [ht_87]; simp)).trans hF_134
    have hF_186 : F_179 sp = .inl (cs 16, 21, .inl f_95) := (hB1.2.2.2 sp (by rw [ht_94]; simp)).trans hF_135
    have hF_187 : F_179 sx = .inr (14, [.ref sb, .int (nI (flI (TC gl mm) (gm 1 jf + 1) ((gd jf) - (gm 1 jf + 1))).length)]) := (hB1.2.2.2 sx (by rw [hT_sx]; simp)).trans hF_136
    have hF_188 : F_179 sb = .inl (cs 17, 3000, .inl fc_104) := (hB1.2.2.2 sb (by rw [ht_37]; simp)).trans hF_137
    have hF_189 : F_179 se = .inr (13, [.ref sx, .ref s0, .ref s1, .ref s2, .int (nI gg_116.1)]) := (hB1.2.2.2 se (by rw [ht_27]; simp)).trans hq_126
    have hF_190 : F_179 s0 = .inl (cs 16, 40, .inl p0_119) := (hB1.2.2.2 s0 (by rw [ht_31]; simp)).trans hq_127
    have hF_191 : F_179 s1 = .inl (cs 16, 40, .inl p1_120) := (hB1.2.2.2 s1 (by rw [ht_32]; simp)).trans hq_128
    have hF_192 : F_179 s2 = .inl (cs 16, 40, .inl p2_121) := (hB1.2.2.2 s2 (by rw [ht_33]; simp)).trans hq_129
    have hF_193 : F_179 sa = .inl (cs 17, 32, .inl f9_122) := (hB1.2.2.2 sa (by rw [ht_57]; simp)).trans hs2a
    have hF_194 : F_179 n64 = .inl (cs 17, 64, .inl f8_123) := (hB1.2.2.2 n64 (by rw [ht_61]; simp)).trans hs3a
    have hF_195 : F_179 h0 = .inr (15, (.ref ta) :: (.int (nI zt)) :: (.int (nI zo)) :: (.int (nI ze)) :: (.ref ou) :: (.ref so) :: (.ref ad) :: (.ref na) :: (.ref va) :: (.ref lc) :: (.ref dm) :: (.int (nI fm)) :: (.int (nI sn)) :: (.ref tg) :: (.int v14_140) :: (.int v15_141) :: (.ref pe) :: (.int v17_142) :: (.int v18_143) :: (.int v19_144) :: (.int v20_145) :: (.int v21_146) :: (.int v22_147) :: (.ref ml) :: (.ref bg) :: (.ref co) :: (.ref sp) :: (.ref nb0) :: (.ref nb1) :: (.ref nb2) :: (.int (nI nf)) :: (.int (nI bd)) :: (.int (nI mm)) :: (.int v33_148) :: (.ref pl) :: (.ref se) :: (.ref ke) :: (.ref wi) :: (.ref hs) :: (.ref mo) :: (.ref po) :: (.ref nu) :: (.ref pr) :: (.ref sq) :: (.ref xa) :: (.ref sa) :: (.ref n64) :: (.ref m64) :: (.ref ex) :: (.ref wh) :: (.ref sd) :: (.ref tk) :: (.int v52_149) :: (.int v53_150) :: (.int v54_151) :: (.ref hd) :: (.ref ak) :: (.ref ho) :: (.ref ot) :: []) := (hB1.2.2.2 h0 (by rw [hT_h0]; simp)).trans hF_152
    generalize H1 = H at hP hS ⊢
    have hsd0 := src_rt (T := (TC fc_104 (flI (TC gl mm) (gm 1 jf + 1) ((gd jf) - (gm 1 jf + 1))).length)) (f := fc_104) (z := (flI (TC gl mm) (gm 1 jf + 1) ((gd jf) - (gm 1 jf + 1))).length) hjdb hjdc rfl (by have h9 := hsw.2.2.1; rw [hAjd, hBjd] at h9; exact h9) hq_183
    have hsdS : SRC (dmL (TC fc_104 (flI (TC gl mm) (gm 1 jf + 1) ((gd jf) - (gm 1 jf + 1))).length) gg_116.2 gg_116.1) (gg_116.2 2 jd - (gg_116.2 1 jd + 1)) fc_180 := by unfold dmL; rw [hAjd, hBjd]; exact hsd0
    have hdl9 := nmc_len hsw.2.2.1
    have hdl8 := nmc_len hsw.2.2.2.1
    rw [hAjd, hBjd] at hdl9
    rw [hAjs, hBjs] at hdl8
    obtain ⟨hq_196, hq_197⟩ := hW.octs hi_45 ht_46
    have hF_200 : F ml = .inl (cs 17, 3000, .inl gl) := (hR ml (by rw [ht_49]; simp)).symm.trans hF_184
    have hF_201 : F co = .inl (cs 16, 21, .inl f_88) := (hR co (by rw [ht_87]; simp)).symm.trans hF_185
    have hF_202 : F sp = .inl (cs 16, 21, .inl f_95) := (hR sp (by rw [ht_94]; simp)).symm.trans hF_186
    refine W.widen (k := 0) (n := 0) (by omega) (by omega) ?_
    refine pl_cutm (σ := Unit) A (dC, dI) cs ty gm L [ρ, ρ + 10, ρ + 11, ρ + 12, ρ + 13, ρ + 14, ρ + 17, ρ + 18, ρ + 19, ρ + 20, ρ + 21, ρ + 22, ρ + 23, ρ + 24, ρ + 25, ρ + 26, ρ + 81, ρ + 82, ρ + 83, ρ + 84, ρ + 87, ρ + 88, ρ + 89, ρ + 90] F 122 8 (fun u0 => [(4, .int (nI js)), (0, .ref h0), (1, .int (nI jf)), (2, .int (nI nw))]) (fun u0 => []) (fun u0 FF => (¬ XPD (TC fc_104 (flI (TC gl mm) (gm 1 jf + 1) ((gd jf) - (gm 1 jf + 1))).length) gg_116.2 gg_116.1 nw) ∧ FF sd = .inr (14, [.ref rsd, .int (nI ((gg_116.2 2 jd) - (gg_116.2 1 jd + 1)))]) ∧ FF rsd = .inl (cs 17, 3000, .inl fc_180) ∧ FF se = .inr (13, [.ref sx, .ref s0, .ref s1, .ref s2, .int (nI gg_116.1)]) ∧ FF sx = .inr (14, [.ref sb, .int (nI (flI (TC gl mm) (gm 1 jf + 1) ((gd jf) - (gm 1 jf + 1))).length)]) ∧ FF sb = .inl (cs 17, 3000, .inl fc_104) ∧ FF s0 = .inl (cs 16, 40, .inl p0_119) ∧ FF s1 = .inl (cs 16, 40, .inl p1_120) ∧ FF s2 = .inl (cs 16, 40, .inl p2_121) ∧ FF sa = .inl (cs 17, 32, .inl f9_122) ∧ FF n64 = .inl (cs 17, 64, .inl f8_123) ∧ gF (FF h0) 52 = v52_149 ∧ gF (FF h0) 53 = v53_150) ?_ (fun jn_198 => ?_)
    ·
      rintro u0 F_199 hv_203 hO hR H locs hP hD hS ls hl
      have hl : lv_has ls 8 [(4, .int (nI js)), (0, .ref h0), (1, .int (nI jf)), (2, .int (nI nw))] := hl
      have hv_203 : (¬ XPD (TC fc_104 (flI (TC gl mm) (gm 1 jf + 1) ((gd jf) - (gm 1 jf + 1))).length) gg_116.2 gg_116.1 nw) ∧ F_199 sd = .inr (14, [.ref rsd, .int (nI ((gg_116.2 2 jd) - (gg_116.2 1 jd + 1)))]) ∧ F_199 rsd = .inl (cs 17, 3000, .inl fc_180) ∧ F_199 se = .inr (13, [.ref sx, .ref s0, .ref s1, .ref s2, .int (nI gg_116.1)]) ∧ F_199 sx = .inr (14, [.ref sb, .int (nI (flI (TC gl mm) (gm 1 jf + 1) ((gd jf) - (gm 1 jf + 1))).length)]) ∧ F_199 sb = .inl (cs 17, 3000, .inl fc_104) ∧ F_199 s0 = .inl (cs 16, 40, .inl p0_119) ∧ F_199 s1 = .inl (cs 16, 40, .inl p1_120) ∧ F_199 s2 = .inl (cs 16, 40, .inl p2_121) ∧ F_199 sa = .inl (cs 17, 32, .inl f9_122) ∧ F_199 n64 = .inl (cs 17, 64, .inl f8_123) ∧ gF (F_199 h0) 52 = v52_149 ∧ gF (F_199 h0) 53 = v53_150 := hv_203
      refine W.eq (g2 := F0 m 122 ls []) rfl ?_
      have hF_204 : F_199 ml = .inl (cs 17, 3000, .inl gl) := (hR ml (by rw [ht_49]; simp)).trans hF_200
      have hF_205 : F_199 co = .inl (cs 16, 21, .inl f_88) := (hR co (by rw [ht_87]; simp)).trans hF_201
      have hF_206 : F_199 sp = .inl (cs 16, 21, .inl f_95) := (hR sp (by rw [ht_94]; simp)).trans hF_202
      obtain ⟨hXP, ka_sd, ka_rsd, ka_se, ka_sx, ka_sb, ka_s0, ka_s1, ka_s2, ka_sa, ka_n64, ka_52, ka_53⟩ := id hv_203
      obtain ⟨v14_207, v15_208, v17_209, v18_210, v19_211, v20_212, v21_213, v22_214, v33_215, v52_216, v53_217, v54_218, hF_219, hq_220, hq_221, hq_222, hq_223, hq_224⟩ := hO.mod hL_h0 hT_h0
      have ka_52e : v52_216 = v52_149 := by have h9 := ka_52; rw [hF_219] at h9; exact h9
      have ka_53e : v53_217 = v53_150 := by have h9 := ka_53; rw [hF_219] at h9; exact h9
      refine lv_aload_n hx hb dX15_sealOf_122 rfl (lv_at hl 1 rfl) ?_
      refine pg_get (ci := 15) (v := .ref wh) (C := RX15) (T := TX15) (N := 59) hx hb hts it_15 hown hK hP hL_h0 hF_219 rfl 49 (by decide) (hts _ kt_924) (fun _ h9 => h9) rfl dX15_sealOf_123 ?_
      refine lv_aload_n hx hb dX15_sealOf_126 rfl (lv_at hl 1 rfl) ?_
      refine pg_get (ci := 15) (v := .ref se) (C := RX15) (T := TX15) (N := 59) hx hb hts it_15 hown hK hP hL_h0 hF_219 rfl 35 (by decide) (hts _ kt_847) (fun _ h9 => h9) rfl dX15_sealOf_127 ?_
      refine pg_get (ci := 13) (v := .ref sx) (C := RX13) (T := TX13) (N := 5) hx hb hts it_13 hown hK hP hi_26 ka_se rfl 0 (by decide) (hts _ kt_842) (fun _ h9 => h9) rfl dX15_sealOf_130 ?_
      refine pg_get (ci := 14) (v := .ref sb) (C := RX14) (T := TX14) (N := 2) hx hb hts it_14 hown hK hP hL_sx ka_sx rfl 0 (by decide) (hts _ kt_710) (fun _ h9 => h9) rfl dX15_sealOf_133 ?_
      refine lv_aload_n hx hb dX15_sealOf_136 rfl (lv_at hl 1 rfl) ?_
      refine pg_get (ci := 15) (v := .ref se) (C := RX15) (T := TX15) (N := 59) hx hb hts it_15 hown hK hP hL_h0 hF_219 rfl 35 (by decide) (hts _ kt_847) (fun _ h9 => h9) rfl dX15_sealOf_137 ?_
      refine pg_get (ci := 13) (v := .ref s1) (C := RX13) (T := TX13) (N := 5) hx hb hts it_13 hown hK hP hi_26 ka_se rfl 2 (by decide) (hts _ kt_840) (fun _ h9 => h9) rfl dX15_sealOf_140 ?_
      refine lv_iload hx hb dX15_sealOf_143 (lv_at hl 0 rfl) ?_
      refine pg_iald hx hb hK hP hi_29 0 ka_s1 rfl (vp_in_nI (by omega) (by omega)) dX15_sealOf_145 ?_
      refine lv_topi (fun x_225 ex_225 => ?_)
      obtain rfl : x_225 = (nI (gg_116.2 1 js)) := ex_225.trans ((congrArg p1_120 (nI_clamp (by omega))).trans (hHL js hjsz).2.1)
      refine lv_iconst (v := 1) hx hb dX15_sealOf_146 (by decide) ?_
      refine lv_iadd hx hb dX15_sealOf_147 ?_
      refine lv_topi (fun x_226 ex_226 => ?_)
      obtain rfl : x_226 = (nI (gg_116.2 1 js + 1)) := ex_226.trans (nI_1 _)
      refine lv_aload_n hx hb dX15_sealOf_148 rfl (lv_at hl 1 rfl) ?_
      refine pg_get (ci := 15) (v := .ref se) (C := RX15) (T := TX15) (N := 59) hx hb hts it_15 hown hK hP hL_h0 hF_219 rfl 35 (by decide) (hts _ kt_847) (fun _ h9 => h9) rfl dX15_sealOf_149 ?_
      refine pg_get (ci := 13) (v := .ref s2) (C := RX13) (T := TX13) (N := 5) hx hb hts it_13 hown hK hP hi_26 ka_se rfl 3 (by decide) (hts _ kt_841) (fun _ h9 => h9) rfl dX15_sealOf_152 ?_
      refine lv_iload hx hb dX15_sealOf_155 (lv_at hl 0 rfl) ?_
      refine pg_iald hx hb hK hP hi_30 0 ka_s2 rfl (vp_in_nI (by omega) (by omega)) dX15_sealOf_157 ?_
      refine lv_topi (fun x_227 ex_227 => ?_)
      obtain rfl : x_227 = (nI (gg_116.2 2 js)) := ex_227.trans ((congrArg p2_121 (nI_clamp (by omega))).trans (hHL js hjsz).2.2)
      have hFc := pg_free hD hS hA
      obtain ⟨z_228, hF_229, hq_230⟩ := hO.txt hL_wh hT_wh
      refine va_callv (va_runV (As := [.ref sb, .int (nI (gg_116.2 1 js + 1)), .int (nI (gg_116.2 2 js))]) (rest := []) ⟨hx, hb, hml, hown, hts⟩ (s_X14_set_e l dC dI cs ty gm L H.size F_199 wh (ρ + 24) rwh 6000 sb (ρ + 12) 3000 (gg_116.2 1 js + 1) (gg_116.2 2 js) fc_104 hW hL_wh hT_wh hi_36 ht_37 ka_sb (hjsb) (by omega) (by omega)) ⟨callB_of 3 hts (gi kt_941) rfl rfl rfl (hts _ kt_676) (hts _ kt_942) (by decide +kernel) ⟨Nat.le_of_ble_eq_true rfl, Nat.le_of_ble_eq_true rfl⟩, (hts _ kt_943), (hts _ kt_944)⟩ ⟨fun a U g mk q => ⟨q.1, PTm.calling q.2⟩, pg_recv hK hP hL_wh hF_229 (q := (RX14, TX14, 2)) rfl, fun U hU hWm => ⟨rfl, PTm.mk hU hWm hP hK hD hE hO⟩⟩ rfl rfl hl.1 rfl (lv_room (Nat.le_of_ble_eq_true rfl)) dX15_sealOf_158 ⟨by show _ + 0 ≤ 0; omega, by show _ + 0 ≤ 0; omega⟩) hS (fun q _ h => hFc q h) hFc (fun u t H1 locs ht hvm hw hB hz1 hk1 hS => ?_)
      obtain ⟨F_232, fc_233, hB1, hq_234, hq_235, hq_236⟩ := hB
      obtain ⟨hP, hD, hO, hR⟩ := QTm.back hB1 ht hFc hR (fun q h => by simp only [List.mem_cons, List.not_mem_nil, or_false] at h ⊢; omega)
      have hF_237 : F_232 ml = .inl (cs 17, 3000, .inl gl) := (hB1.2.2.2 ml (by rw [ht_49]; simp)).trans hF_204
      have hF_238 : F_232 co = .inl (cs 16, 21, .inl f_88) := (hB1.2.2.2 co (by rw [ht_87]; simp)).trans hF_205
      have hF_239 : F_232 sp = .inl (cs 16, 21, .inl f_95) := (hB1.2.2.2 sp (by rw [ht_94]; simp)).trans hF_206
      have hF_240 : F_232 sd = .inr (14, [.ref rsd, .int (nI ((gg_116.2 2 jd) - (gg_116.2 1 jd + 1)))]) := (hB1.2.2.2 sd (by rw [hT_sd]; simp)).trans ka_sd
      have hF_241 : F_232 rsd = .inl (cs 17, 3000, .inl fc_180) := (hB1.2.2.2 rsd (by rw [ht_46]; simp)).trans ka_rsd
      have hF_242 : F_232 se = .inr (13, [.ref sx, .ref s0, .ref s1, .ref s2, .int (nI gg_116.1)]) := (hB1.2.2.2 se (by rw [ht_27]; simp)).trans ka_se
      have hF_243 : F_232 sx = .inr (14, [.ref sb, .int (nI (flI (TC gl mm) (gm 1 jf + 1) ((gd jf) - (gm 1 jf + 1))).length)]) := (hB1.2.2.2 sx (by rw [hT_sx]; simp)).trans ka_sx
      have hF_244 : F_232 sb = .inl (cs 17, 3000, .inl fc_104) := (hB1.2.2.2 sb (by rw [ht_37]; simp)).trans ka_sb
      have hF_245 : F_232 s0 = .inl (cs 16, 40, .inl p0_119) := (hB1.2.2.2 s0 (by rw [ht_31]; simp)).trans ka_s0
      have hF_246 : F_232 s1 = .inl (cs 16, 40, .inl p1_120) := (hB1.2.2.2 s1 (by rw [ht_32]; simp)).trans ka_s1
      have hF_247 : F_232 s2 = .inl (cs 16, 40, .inl p2_121) := (hB1.2.2.2 s2 (by rw [ht_33]; simp)).trans ka_s2
      have hF_248 : F_232 sa = .inl (cs 17, 32, .inl f9_122) := (hB1.2.2.2 sa (by rw [ht_57]; simp)).trans ka_sa
      have hF_249 : F_232 n64 = .inl (cs 17, 64, .inl f8_123) := (hB1.2.2.2 n64 (by rw [ht_61]; simp)).trans ka_n64
      have hF_250 : F_232 h0 = .inr (15, (.ref ta) :: (.int (nI zt)) :: (.int (nI zo)) :: (.int (nI ze)) :: (.ref ou) :: (.ref so) :: (.ref ad) :: (.ref na) :: (.ref va) :: (.ref lc) :: (.ref dm) :: (.int (nI fm)) :: (.int (nI sn)) :: (.ref tg) :: (.int v14_207) :: (.int v15_208) :: (.ref pe) :: (.int v17_209) :: (.int v18_210) :: (.int v19_211) :: (.int v20_212) :: (.int v21_213) :: (.int v22_214) :: (.ref ml) :: (.ref bg) :: (.ref co) :: (.ref sp) :: (.ref nb0) :: (.ref nb1) :: (.ref nb2) :: (.int (nI nf)) :: (.int (nI bd)) :: (.int (nI mm)) :: (.int v33_215) :: (.ref pl) :: (.ref se) :: (.ref ke) :: (.ref wi) :: (.ref hs) :: (.ref mo) :: (.ref po) :: (.ref nu) :: (.ref pr) :: (.ref sq) :: (.ref xa) :: (.ref sa) :: (.ref n64) :: (.ref m64) :: (.ref ex) :: (.ref wh) :: (.ref sd) :: (.ref tk) :: (.int v52_216) :: (.int v53_217) :: (.int v54_218) :: (.ref hd) :: (.ref ak) :: (.ref ho) :: (.ref ot) :: []) := (hB1.2.2.2 h0 (by rw [hT_h0]; simp)).trans hF_219
      generalize H1 = H at hP hS ⊢
      have hwh0 := src_rt (T := (TC fc_104 (flI (TC gl mm) (gm 1 jf + 1) ((gd jf) - (gm 1 jf + 1))).length)) (f := fc_104) (z := (flI (TC gl mm) (gm 1 jf + 1) ((gd jf) - (gm 1 jf + 1))).length) hjsb hjsc rfl (by have h9 := hsw.2.2.2.1; rw [hAjs, hBjs] at h9; exact h9) hq_236
      refine lv_iconst (v := 0) hx hb dX15_sealOf_161 (by decide) ?_
      refine lv_istore (lv' := [(6, .int 0), (4, .int (nI js)), (0, .ref h0), (1, .int (nI jf)), (2, .int (nI nw))]) hx hb dX15_sealOf_162 hl (by decide) rfl (fun ls hl => ?_)
      obtain ⟨hq_251, hq_252⟩ := hW.octs hi_45 ht_46
      obtain ⟨hq_253, hq_254⟩ := hW.octs hi_42 ht_43
      refine W.widen (k := 0) (n := 0) (by omega) (by omega) ?_
      have hF_256 : F ml = .inl (cs 17, 3000, .inl gl) := (hR ml (by rw [ht_49]; simp)).symm.trans hF_237
      have hF_257 : F co = .inl (cs 16, 21, .inl f_88) := (hR co (by rw [ht_87]; simp)).symm.trans hF_238
      have hF_258 : F sp = .inl (cs 16, 21, .inl f_95) := (hR sp (by rw [ht_94]; simp)).symm.trans hF_239
      refine pl_loopm (σ := Nat × (Nat → Int32)) A (dC, dI) cs ty gm L [ρ, ρ + 10, ρ + 11, ρ + 12, ρ + 13, ρ + 14, ρ + 17, ρ + 18, ρ + 19, ρ + 20, ρ + 21, ρ + 22, ρ + 23, ρ + 24, ρ + 25, ρ + 26, ρ + 81, ρ + 82, ρ + 83, ρ + 84, ρ + 87, ρ + 88, ρ + 89, ρ + 90] F 164 8 (fun (j, fq) => [(6, .int (nI j)), (0, .ref h0), (1, .int (nI jf)), (2, .int (nI nw))]) (fun (j, fq) => []) (fun (j, fq) FF => (j ≤ 12 ∧ FF wh = .inr (14, [.ref rwh, .int (nI ((gg_116.2 2 js - (gg_116.2 1 js + 1)) + j))]) ∧ FF rwh = .inl (cs 17, 6000, .inl fq) ∧ SRC ((rgT (TC fc_104 (flI (TC gl mm) (gm 1 jf + 1) ((gd jf) - (gm 1 jf + 1))).length) (gg_116.2 1 js + 1) (gg_116.2 2 js - (gg_116.2 1 js + 1))) ++ [46, 95, 100, 111, 109, 97, 105, 110, 107, 101, 121, 46].take j) ((gg_116.2 2 js - (gg_116.2 1 js + 1)) + j) fq) ∧ FF sd = .inr (14, [.ref rsd, .int (nI ((gg_116.2 2 jd) - (gg_116.2 1 jd + 1)))]) ∧ FF rsd = .inl (cs 17, 3000, .inl fc_180) ∧ FF se = .inr (13, [.ref sx, .ref s0, .ref s1, .ref s2, .int (nI gg_116.1)]) ∧ FF sx = .inr (14, [.ref sb, .int (nI (flI (TC gl mm) (gm 1 jf + 1) ((gd jf) - (gm 1 jf + 1))).length)]) ∧ FF sb = .inl (cs 17, 3000, .inl fc_104) ∧ FF s0 = .inl (cs 16, 40, .inl p0_119) ∧ FF s1 = .inl (cs 16, 40, .inl p1_120) ∧ FF s2 = .inl (cs 16, 40, .inl p2_121) ∧ FF sa = .inl (cs 17, 32, .inl f9_122) ∧ FF n64 = .inl (cs 17, 64, .inl f8_123) ∧ gF (FF h0) 52 = v52_149 ∧ gF (FF h0) 53 = v53_150) (fun (j, fq) => 12 - j) ?_ (0, fc_233) F_232 (⟨⟨Nat.zero_le _, hq_234, hq_235, by rw [List.take_zero, List.append_nil]; exact hwh0⟩, hF_240, hF_241, hF_242, hF_243, hF_244, hF_245, hF_246, hF_247, hF_248, hF_249, (by rw [hF_250]; exact ka_52e), (by rw [hF_250]; exact ka_53e)⟩) hO hR _ _ hP hD hS ls (lv_sub hl [0, 2, 3, 4] rfl)
      rintro ⟨j, fq⟩ F_255 hv_259 hO hR ih_260 H locs hP hD hS ls hl
      have hl : lv_has ls 8 [(6, .int (nI j)), (0, .ref h0), (1, .int (nI jf)), (2, .int (nI nw))] := hl
      have hv_259 : (j ≤ 12 ∧ F_255 wh = .inr (14, [.ref rwh, .int (nI ((gg_116.2 2 js - (gg_116.2 1 js + 1)) + j))]) ∧ F_255 rwh = .inl (cs 17, 6000, .inl fq) ∧ SRC ((rgT (TC fc_104 (flI (TC gl mm) (gm 1 jf + 1) ((gd jf) - (gm 1 jf + 1))).length) (gg_116.2 1 js + 1) (gg_116.2 2 js - (gg_116.2 1 js + 1))) ++ [46, 95, 100, 111, 109, 97, 105, 110, 107, 101, 121, 46].take j) ((gg_116.2 2 js - (gg_116.2 1 js + 1)) + j) fq) ∧ F_255 sd = .inr (14, [.ref rsd, .int (nI ((gg_116.2 2 jd) - (gg_116.2 1 jd + 1)))]) ∧ F_255 rsd = .inl (cs 17, 3000, .inl fc_180) ∧ F_255 se = .inr (13, [.ref sx, .ref s0, .ref s1, .ref s2, .int (nI gg_116.1)]) ∧ F_255 sx = .inr (14, [.ref sb, .int (nI (flI (TC gl mm) (gm 1 jf + 1) ((gd jf) - (gm 1 jf + 1))).length)]) ∧ F_255 sb = .inl (cs 17, 3000, .inl fc_104) ∧ F_255 s0 = .inl (cs 16, 40, .inl p0_119) ∧ F_255 s1 = .inl (cs 16, 40, .inl p1_120) ∧ F_255 s2 = .inl (cs 16, 40, .inl p2_121) ∧ F_255 sa = .inl (cs 17, 32, .inl f9_122) ∧ F_255 n64 = .inl (cs 17, 64, .inl f8_123) ∧ gF (F_255 h0) 52 = v52_149 ∧ gF (F_255 h0) 53 = v53_150 := hv_259
      refine W.eq (g2 := F0 m 164 ls []) rfl ?_
      have hF_261 : F_255 ml = .inl (cs 17, 3000, .inl gl) := (hR ml (by rw [ht_49]; simp)).trans hF_256
      have hF_262 : F_255 co = .inl (cs 16, 21, .inl f_88) := (hR co (by rw [ht_87]; simp)).trans hF_257
      have hF_263 : F_255 sp = .inl (cs 16, 21, .inl f_95) := (hR sp (by rw [ht_94]; simp)).trans hF_258
      obtain ⟨hK0, hK1⟩ := id hv_259
      obtain ⟨ha1, ha2, ha3, ha4⟩ := hK0
      obtain ⟨kb_sd, kb_rsd, kb_se, kb_sx, kb_sb, kb_s0, kb_s1, kb_s2, kb_sa, kb_n64, kb_52, kb_53⟩ := id hK1
      obtain ⟨v14_264, v15_265, v17_266, v18_267, v19_268, v20_269, v21_270, v22_271, v33_272, v52_273, v53_274, v54_275, hF_276, hq_277, hq_278, hq_279, hq_280, hq_281⟩ := hO.mod hL_h0 hT_h0
      have kb_52e : v52_273 = v52_149 := by have h9 := kb_52; rw [hF_276] at h9; exact h9
      have kb_53e : v53_274 = v53_150 := by have h9 := kb_53; rw [hF_276] at h9; exact h9
      refine lv_iload hx hb dX15_sealOf_164 (lv_at hl 0 rfl) ?_
      refine lv_bipush (v := 12) hx hb dX15_sealOf_166 (by decide) ?_
      refine lv_icmp_ge (tgt := 192) hx hb dX15_sealOf_168 (by decide) (fun c_282 => ?_) (fun c_282 => ?_)
      ·
        have hi_283 : 12 ≤ j := leN (N := 12) c_282
        have hj12 : 12 ≤ j := (nI_leI (by omega) (by omega)).mp c_282
        refine lv_aload_n hx hb dX15_sealOf_192 rfl (lv_at hl 1 rfl) ?_
        refine pg_get (ci := 15) (v := .ref wh) (C := RX15) (T := TX15) (N := 59) hx hb hts it_15 hown hK hP hL_h0 hF_276 rfl 49 (by decide) (hts _ kt_924) (fun _ h9 => h9) rfl dX15_sealOf_193 ?_
        refine lv_aload_n hx hb dX15_sealOf_196 rfl (lv_at hl 1 rfl) ?_
        refine pg_get (ci := 15) (v := .ref sd) (C := RX15) (T := TX15) (N := 59) hx hb hts it_15 hown hK hP hL_h0 hF_276 rfl 50 (by decide) (hts _ kt_961) (fun _ h9 => h9) rfl dX15_sealOf_197 ?_
        refine pg_get (ci := 14) (v := .ref rsd) (C := RX14) (T := TX14) (N := 2) hx hb hts it_14 hown hK hP hL_sd kb_sd rfl 0 (by decide) (hts _ kt_710) (fun _ h9 => h9) rfl dX15_sealOf_200 ?_
        refine lv_iconst (v := 0) hx hb dX15_sealOf_203 (by decide) ?_
        refine lv_aload_n hx hb dX15_sealOf_204 rfl (lv_at hl 1 rfl) ?_
        refine pg_get (ci := 15) (v := .ref sd) (C := RX15) (T := TX15) (N := 59) hx hb hts it_15 hown hK hP hL_h0 hF_276 rfl 50 (by decide) (hts _ kt_961) (fun _ h9 => h9) rfl dX15_sealOf_205 ?_
        refine pg_get (ci := 14) (v := .int (nI ((gg_116.2 2 jd) - (gg_116.2 1 jd + 1)))) (C := RX14) (T := TX14) (N := 2) hx hb hts it_14 hown hK hP hL_sd kb_sd rfl 1 (by decide) (hts _ kt_709) (fun _ h9 => h9) rfl dX15_sealOf_208 ?_
        obtain ⟨hq_284, hq_285⟩ := hW.octs hi_42 ht_43
        have hFc := pg_free hD hS hA
        refine va_callv (va_runV (As := [.ref rsd, .int 0, .int (nI ((gg_116.2 2 jd) - (gg_116.2 1 jd + 1)))]) (rest := []) ⟨hx, hb, hml, hown, hts⟩ (s_X14_add__8 l dC dI cs ty gm L H.size F_255 wh (ρ + 24) rwh 6000 rsd (ρ + 25) 3000 ((gg_116.2 2 js - (gg_116.2 1 js + 1)) + j) ((gg_116.2 2 jd) - (gg_116.2 1 jd + 1)) fq fc_180 (dmL (TC fc_104 (flI (TC gl mm) (gm 1 jf + 1) ((gd jf) - (gm 1 jf + 1))).length) gg_116.2 gg_116.1) ((rgT (TC fc_104 (flI (TC gl mm) (gm 1 jf + 1) ((gd jf) - (gm 1 jf + 1))).length) (gg_116.2 1 js + 1) (gg_116.2 2 js - (gg_116.2 1 js + 1))) ++ [46, 95, 100, 111, 109, 97, 105, 110, 107, 101, 121, 46].take j) hW hL_wh hT_wh hi_45 ht_46 ha2 ha3 kb_rsd (by omega) (by omega) (by omega) (ha4) (hsdS)) ⟨callB_of 3 hts (gi kt_675) rfl rfl rfl (hts _ kt_676) (hts _ kt_956) (by decide +kernel) ⟨Nat.le_of_ble_eq_true rfl, Nat.le_of_ble_eq_true rfl⟩, (hts _ kt_678), (hts _ kt_679)⟩ ⟨fun a U g mk q => ⟨q.1, PTm.calling q.2⟩, pg_recv hK hP hL_wh ha2 (q := (RX14, TX14, 2)) rfl, fun U hU hWm => ⟨rfl, PTm.mk hU hWm hP hK hD hE hO⟩⟩ rfl rfl hl.1 rfl (lv_room (Nat.le_of_ble_eq_true rfl)) dX15_sealOf_211 ⟨by show _ + 0 ≤ 0; omega, by show _ + 0 ≤ 0; omega⟩) hS (fun q _ h => hFc q h) hFc (fun u t H1 locs ht hvm hw hB hz1 hk1 hS => ?_)
        obtain ⟨F_287, f2_288, hB1, hq_289, hq_290, hq_291⟩ := hB
        obtain ⟨hP, hD, hO, hR⟩ := QTm.back hB1 ht hFc hR (fun q h => by simp only [List.mem_cons, List.not_mem_nil, or_false] at h ⊢; omega)
        have hF_292 : F_287 ml = .inl (cs 17, 3000, .inl gl) := (hB1.2.2.2 ml (by rw [ht_49]; simp)).trans hF_261
        have hF_293 : F_287 co = .inl (cs 16, 21, .inl f_88) := (hB1.2.2.2 co (by rw [ht_87]; simp)).trans hF_262
        have hF_294 : F_287 sp = .inl (cs 16, 21, .inl f_95) := (hB1.2.2.2 sp (by rw [ht_94]; simp)).trans hF_263
        have hF_295 : F_287 sd = .inr (14, [.ref rsd, .int (nI ((gg_116.2 2 jd) - (gg_116.2 1 jd + 1)))]) := (hB1.2.2.2 sd (by rw [hT_sd]; simp)).trans kb_sd
        have hF_296 : F_287 rsd = .inl (cs 17, 3000, .inl fc_180) := (hB1.2.2.2 rsd (by rw [ht_46]; simp)).trans kb_rsd
        have hF_297 : F_287 se = .inr (13, [.ref sx, .ref s0, .ref s1, .ref s2, .int (nI gg_116.1)]) := (hB1.2.2.2 se (by rw [ht_27]; simp)).trans kb_se
        have hF_298 : F_287 sx = .inr (14, [.ref sb, .int (nI (flI (TC gl mm) (gm 1 jf + 1) ((gd jf) - (gm 1 jf + 1))).length)]) := (hB1.2.2.2 sx (by rw [hT_sx]; simp)).trans kb_sx
        have hF_299 : F_287 sb = .inl (cs 17, 3000, .inl fc_104) := (hB1.2.2.2 sb (by rw [ht_37]; simp)).trans kb_sb
        have hF_300 : F_287 s0 = .inl (cs 16, 40, .inl p0_119) := (hB1.2.2.2 s0 (by rw [ht_31]; simp)).trans kb_s0
        have hF_301 : F_287 s1 = .inl (cs 16, 40, .inl p1_120) := (hB1.2.2.2 s1 (by rw [ht_32]; simp)).trans kb_s1
        have hF_302 : F_287 s2 = .inl (cs 16, 40, .inl p2_121) := (hB1.2.2.2 s2 (by rw [ht_33]; simp)).trans kb_s2
        have hF_303 : F_287 sa = .inl (cs 17, 32, .inl f9_122) := (hB1.2.2.2 sa (by rw [ht_57]; simp)).trans kb_sa
        have hF_304 : F_287 n64 = .inl (cs 17, 64, .inl f8_123) := (hB1.2.2.2 n64 (by rw [ht_61]; simp)).trans kb_n64
        have hF_305 : F_287 h0 = .inr (15, (.ref ta) :: (.int (nI zt)) :: (.int (nI zo)) :: (.int (nI ze)) :: (.ref ou) :: (.ref so) :: (.ref ad) :: (.ref na) :: (.ref va) :: (.ref lc) :: (.ref dm) :: (.int (nI fm)) :: (.int (nI sn)) :: (.ref tg) :: (.int v14_264) :: (.int v15_265) :: (.ref pe) :: (.int v17_266) :: (.int v18_267) :: (.int v19_268) :: (.int v20_269) :: (.int v21_270) :: (.int v22_271) :: (.ref ml) :: (.ref bg) :: (.ref co) :: (.ref sp) :: (.ref nb0) :: (.ref nb1) :: (.ref nb2) :: (.int (nI nf)) :: (.int (nI bd)) :: (.int (nI mm)) :: (.int v33_272) :: (.ref pl) :: (.ref se) :: (.ref ke) :: (.ref wi) :: (.ref hs) :: (.ref mo) :: (.ref po) :: (.ref nu) :: (.ref pr) :: (.ref sq) :: (.ref xa) :: (.ref sa) :: (.ref n64) :: (.ref m64) :: (.ref ex) :: (.ref wh) :: (.ref sd) :: (.ref tk) :: (.int v52_273) :: (.int v53_274) :: (.int v54_275) :: (.ref hd) :: (.ref ak) :: (.ref ho) :: (.ref ot) :: []) := (hB1.2.2.2 h0 (by rw [hT_h0]; simp)).trans hF_276
        generalize H1 = H at hP hS ⊢
        have hTL : TGL (uK (TC fc_104 (flI (TC gl mm) (gm 1 jf + 1) ((gd jf) - (gm 1 jf + 1))).length) gg_116.2 gg_116.1) (((gg_116.2 2 js - (gg_116.2 1 js + 1)) + j) + ((gg_116.2 2 jd) - (gg_116.2 1 jd + 1))) f2_288 := by have h9 := tgl_of hq_291; rw [show ([46, 95, 100, 111, 109, 97, 105, 110, 107, 101, 121, 46] : List Nat).take j = [46, 95, 100, 111, 109, 97, 105, 110, 107, 101, 121, 46] by rw [show j = 12 by omega]; rfl] at h9; rw [uK_s, hAjs, hBjs]; exact h9
        have hQso := hR so (by rw [hTs0]; simp only [List.mem_cons, List.not_mem_nil, or_false]; omega)
        have hQad := hR ad (by rw [hTd0]; simp only [List.mem_cons, List.not_mem_nil, or_false]; omega)
        have hQna := hR na (by rw [hTn0]; simp only [List.mem_cons, List.not_mem_nil, or_false]; omega)
        have hQva := hR va (by rw [hTv0]; simp only [List.mem_cons, List.not_mem_nil, or_false]; omega)
        have hDM6 := DIRM.fr hDM hO0 hW0 hLn0 hTn0 hLv0 hTv0 (by omega) hR hQso hQad hQna hQva (fun k hk => ⟨by simp only [List.mem_cons, List.not_mem_nil, or_false]; omega, by simp only [List.mem_cons, List.not_mem_nil, or_false]; omega⟩)
        refine lv_aload_n hx hb dX15_sealOf_214 rfl (lv_at hl 1 rfl) ?_
        have hFc := pg_free hD hS hA
        refine va_calli (va_runV (As := []) (rest := []) ⟨hx, hb, hml, hown, hts⟩ (s_X15_keyOf_x l dC dI cs ty gm L H.size F_287 h0 ρ ta ou so ad na va lc dm tg pe ml bg co sp nb0 nb1 nb2 pl se ke wi hs mo po nu pr sq xa sa n64 m64 ex wh sd tk hd ak ho ot sx s0 s1 s2 nf bd mm zo fm sn hg gc gv ze zt rwh (((gg_116.2 2 js - (gg_116.2 1 js + 1)) + j) + ((gg_116.2 2 jd) - (gg_116.2 1 jd + 1))) f2_288 (uK (TC fc_104 (flI (TC gl mm) (gm 1 jf + 1) ((gd jf) - (gm 1 jf + 1))).length) gg_116.2 gg_116.1) D hW hL_h0 hT_h0 hL_wh hT_wh hq_289 hq_290 (by omega) (hTL) (hDM6) (hbd)) ⟨callB_of 0 hts (gi kt_962) rfl rfl rfl (hts _ kt_669) (hts _ kt_963) (by decide +kernel) ⟨Nat.le_of_ble_eq_true rfl, Nat.le_of_ble_eq_true rfl⟩, (hts _ kt_964), (hts _ kt_965)⟩ ⟨fun a U g mk q => ⟨q.1, PTEm.calling q.2⟩, pg_recv hK hP hL_h0 hF_305 (q := (RX15, TX15, 59)) rfl, fun U hU hWm => ⟨rfl, PTEm.mk hU hWm hP hK hD hE hO hG (fun x hx => absurd hx List.not_mem_nil) hS hFc⟩⟩ rfl rfl hl.1 rfl (lv_room (Nat.le_of_ble_eq_true rfl)) dX15_sealOf_215 ⟨by show _ + 0 ≤ 0; omega, by show _ + 0 ≤ 0; omega⟩) hS (fun q _ h => hFc q h) hFc (fun r_307 gk_306 t H1 locs ht hvm hw hB hz1 hk1 hS => ?_)
        obtain ⟨F_308, fM_309, hB1, hq_310⟩ := hB
        obtain ⟨hP, hD, hO, hR⟩ := QTm.back hB1 ht hFc hR (fun q h => by simp only [List.mem_cons, List.not_mem_nil, or_false] at h ⊢; omega)
        have hF_311 : F_308 ml = .inl (cs 17, 3000, .inl gl) := (hB1.2.2.2 ml (by rw [ht_49]; simp)).trans hF_292
        have hF_312 : F_308 co = .inl (cs 16, 21, .inl f_88) := (hB1.2.2.2 co (by rw [ht_87]; simp)).trans hF_293
        have hF_313 : F_308 sp = .inl (cs 16, 21, .inl f_95) := (hB1.2.2.2 sp (by rw [ht_94]; simp)).trans hF_294
        have hF_314 : F_308 sd = .inr (14, [.ref rsd, .int (nI ((gg_116.2 2 jd) - (gg_116.2 1 jd + 1)))]) := (hB1.2.2.2 sd (by rw [hT_sd]; simp)).trans hF_295
        have hF_315 : F_308 rsd = .inl (cs 17, 3000, .inl fc_180) := (hB1.2.2.2 rsd (by rw [ht_46]; simp)).trans hF_296
        have hF_316 : F_308 se = .inr (13, [.ref sx, .ref s0, .ref s1, .ref s2, .int (nI gg_116.1)]) := (hB1.2.2.2 se (by rw [ht_27]; simp)).trans hF_297
        have hF_317 : F_308 sx = .inr (14, [.ref sb, .int (nI (flI (TC gl mm) (gm 1 jf + 1) ((gd jf) - (gm 1 jf + 1))).length)]) := (hB1.2.2.2 sx (by rw [hT_sx]; simp)).trans hF_298
        have hF_318 : F_308 sb = .inl (cs 17, 3000, .inl fc_104) := (hB1.2.2.2 sb (by rw [ht_37]; simp)).trans hF_299
        have hF_319 : F_308 s0 = .inl (cs 16, 40, .inl p0_119) := (hB1.2.2.2 s0 (by rw [ht_31]; simp)).trans hF_300
        have hF_320 : F_308 s1 = .inl (cs 16, 40, .inl p1_120) := (hB1.2.2.2 s1 (by rw [ht_32]; simp)).trans hF_301
        have hF_321 : F_308 s2 = .inl (cs 16, 40, .inl p2_121) := (hB1.2.2.2 s2 (by rw [ht_33]; simp)).trans hF_302
        have hF_322 : F_308 sa = .inl (cs 17, 32, .inl f9_122) := (hB1.2.2.2 sa (by rw [ht_57]; simp)).trans hF_303
        have hF_323 : F_308 n64 = .inl (cs 17, 64, .inl f8_123) := (hB1.2.2.2 n64 (by rw [ht_61]; simp)).trans hF_304
        have hF_324 : F_308 h0 = .inr (15, (.ref ta) :: (.int (nI zt)) :: (.int (nI zo)) :: (.int (nI ze)) :: (.ref ou) :: (.ref so) :: (.ref ad) :: (.ref na) :: (.ref va) :: (.ref lc) :: (.ref dm) :: (.int (nI fm)) :: (.int (nI sn)) :: (.ref tg) :: (.int v14_264) :: (.int v15_265) :: (.ref pe) :: (.int v17_266) :: (.int v18_267) :: (.int v19_268) :: (.int v20_269) :: (.int v21_270) :: (.int v22_271) :: (.ref ml) :: (.ref bg) :: (.ref co) :: (.ref sp) :: (.ref nb0) :: (.ref nb1) :: (.ref nb2) :: (.int (nI nf)) :: (.int (nI bd)) :: (.int (nI mm)) :: (.int v33_272) :: (.ref pl) :: (.ref se) :: (.ref ke) :: (.ref wi) :: (.ref hs) :: (.ref mo) :: (.ref po) :: (.ref nu) :: (.ref pr) :: (.ref sq) :: (.ref xa) :: (.ref sa) :: (.ref n64) :: (.ref m64) :: (.ref ex) :: (.ref wh) :: (.ref sd) :: (.ref tk) :: (.int v52_273) :: (.int v53_274) :: (.int v54_275) :: (.ref hd) :: (.ref ak) :: (.ref ho) :: (.ref ot) :: []) := (hB1.2.2.2 h0 (by rw [hT_h0]; simp)).trans hF_305
        have hF_325 : F_308 wh = .inr (14, [.ref rwh, .int (nI (((gg_116.2 2 js - (gg_116.2 1 js + 1)) + j) + ((gg_116.2 2 jd) - (gg_116.2 1 jd + 1))))]) := (hB1.2.2.2 wh (by rw [hT_wh]; simp)).trans hq_289
        have hF_326 : F_308 rwh = .inl (cs 17, 6000, .inl f2_288) := (hB1.2.2.2 rwh (by rw [ht_43]; simp)).trans hq_290
        generalize H1 = H at hP hS ⊢
        have hw : KYX D ze (uK (TC fc_104 (flI (TC gl mm) (gm 1 jf + 1) ((gd jf) - (gm 1 jf + 1))).length) gg_116.2 gg_116.1) gk_306 r_307 := hw
        have hw_327 := hw
        have hKY : KYX D ze (uK (TC fc_104 (flI (TC gl mm) (gm 1 jf + 1) ((gd jf) - (gm 1 jf + 1))).length) gg_116.2 gg_116.1) gk_306 r_307 := hw_327
        have hKM := hq_310
        refine lv_istore (lv' := [(6, .int r_307), (0, .ref h0), (1, .int (nI jf)), (2, .int (nI nw))]) hx hb dX15_sealOf_218 hl (by decide) rfl (fun ls hl => ?_)
        refine lv_iload hx hb dX15_sealOf_220 (lv_at hl 0 rfl) ?_
        refine lv_iconst (v := 2) hx hb dX15_sealOf_222 (by decide) ?_
        refine lv_icmp_eq (tgt := 229) hx hb dX15_sealOf_223 (by decide) (fun c_328 => ?_) (fun c_328 => ?_)
        ·
          have hKY2 := hKY
          rw [c_328] at hKY2
          obtain ⟨hM1, hM2⟩ := hKM hKY2
          obtain ⟨hgk, hKO⟩ := kyx_2 hKY2 rfl
          have hkm0 : 128 ≤ kyM (D gk_306) 0 := by obtain ⟨g9, k1, k2⟩ := hKO; rw [kyM_e k1]; exact k2.2.2.2.1
          refine lv_aload_n hx hb dX15_sealOf_229 rfl (lv_at hl 1 rfl) ?_
          refine lv_aload_n hx hb dX15_sealOf_230 rfl (lv_at hl 1 rfl) ?_
          refine pg_get (ci := 15) (v := .int v53_274) (C := RX15) (T := TX15) (N := 59) hx hb hts it_15 hown hK hP hL_h0 hF_324 rfl 53 (by decide) (hts _ kt_858) (fun _ h9 => h9) rfl dX15_sealOf_231 ?_
          have hFc := pg_free hD hS hA
          refine va_callv (va_runV (As := [.int v53_274]) (rest := []) ⟨hx, hb, hml, hown, hts⟩ (s_X15_bodyPlain_c l dC dI cs ty gm L H.size F_308 h0 ρ ta ou so ad na va lc dm tg pe ml bg co sp nb0 nb1 nb2 pl se ke wi hs mo po nu pr sq xa sa n64 m64 ex wh sd tk hd ak ho ot sx s0 s1 s2 nf bd mm zo fm sn hg gc gv ze zt rl gl v53_274 hW hL_h0 hT_h0 hL_pl hT_pl hF_311 (by first | omega | assumption | exact Or.inl rfl)) ⟨callB_of 1 hts (gi kt_966) rfl rfl rfl (hts _ kt_669) (hts _ kt_967) (by decide +kernel) ⟨Nat.le_of_ble_eq_true rfl, Nat.le_of_ble_eq_true rfl⟩, (hts _ kt_968), (hts _ kt_969)⟩ ⟨fun a U g mk q => ⟨q.1, PTm.calling q.2⟩, pg_recv hK hP hL_h0 hF_324 (q := (RX15, TX15, 59)) rfl, fun U hU hWm => ⟨rfl, PTm.mk hU hWm hP hK hD hE hO⟩⟩ rfl rfl hl.1 rfl (lv_room (Nat.le_of_ble_eq_true rfl)) dX15_sealOf_234 ⟨by show _ + 0 ≤ 0; omega, by show _ + 0 ≤ 0; omega⟩) hS (fun q _ h => hFc q h) hFc (fun u t H1 locs ht hvm hw hB hz1 hk1 hS => ?_)
          obtain ⟨F_330, NN_331, f2_332, hB1, hq_333, hq_334, hq_335, hq_336, hq_337⟩ := hB
          obtain ⟨hP, hD, hO, hR⟩ := QTm.back hB1 ht hFc hR (fun q h => by simp only [List.mem_cons, List.not_mem_nil, or_false] at h ⊢; omega)
          have hF_338 : F_330 ml = .inl (cs 17, 3000, .inl gl) := (hB1.2.2.2 ml (by rw [ht_49]; simp)).trans hF_311
          have hF_339 : F_330 co = .inl (cs 16, 21, .inl f_88) := (hB1.2.2.2 co (by rw [ht_87]; simp)).trans hF_312
          have hF_340 : F_330 sp = .inl (cs 16, 21, .inl f_95) := (hB1.2.2.2 sp (by rw [ht_94]; simp)).trans hF_313
          have hF_341 : F_330 sd = .inr (14, [.ref rsd, .int (nI ((gg_116.2 2 jd) - (gg_116.2 1 jd + 1)))]) := (hB1.2.2.2 sd (by rw [hT_sd]; simp)).trans hF_314
          have hF_342 : F_330 rsd = .inl (cs 17, 3000, .inl fc_180) := (hB1.2.2.2 rsd (by rw [ht_46]; simp)).trans hF_315
          have hF_343 : F_330 se = .inr (13, [.ref sx, .ref s0, .ref s1, .ref s2, .int (nI gg_116.1)]) := (hB1.2.2.2 se (by rw [ht_27]; simp)).trans hF_316
          have hF_344 : F_330 sx = .inr (14, [.ref sb, .int (nI (flI (TC gl mm) (gm 1 jf + 1) ((gd jf) - (gm 1 jf + 1))).length)]) := (hB1.2.2.2 sx (by rw [hT_sx]; simp)).trans hF_317
          have hF_345 : F_330 sb = .inl (cs 17, 3000, .inl fc_104) := (hB1.2.2.2 sb (by rw [ht_37]; simp)).trans hF_318
          have hF_346 : F_330 s0 = .inl (cs 16, 40, .inl p0_119) := (hB1.2.2.2 s0 (by rw [ht_31]; simp)).trans hF_319
          have hF_347 : F_330 s1 = .inl (cs 16, 40, .inl p1_120) := (hB1.2.2.2 s1 (by rw [ht_32]; simp)).trans hF_320
          have hF_348 : F_330 s2 = .inl (cs 16, 40, .inl p2_121) := (hB1.2.2.2 s2 (by rw [ht_33]; simp)).trans hF_321
          have hF_349 : F_330 sa = .inl (cs 17, 32, .inl f9_122) := (hB1.2.2.2 sa (by rw [ht_57]; simp)).trans hF_322
          have hF_350 : F_330 n64 = .inl (cs 17, 64, .inl f8_123) := (hB1.2.2.2 n64 (by rw [ht_61]; simp)).trans hF_323
          have hF_351 : F_330 h0 = .inr (15, (.ref ta) :: (.int (nI zt)) :: (.int (nI zo)) :: (.int (nI ze)) :: (.ref ou) :: (.ref so) :: (.ref ad) :: (.ref na) :: (.ref va) :: (.ref lc) :: (.ref dm) :: (.int (nI fm)) :: (.int (nI sn)) :: (.ref tg) :: (.int v14_264) :: (.int v15_265) :: (.ref pe) :: (.int v17_266) :: (.int v18_267) :: (.int v19_268) :: (.int v20_269) :: (.int v21_270) :: (.int v22_271) :: (.ref ml) :: (.ref bg) :: (.ref co) :: (.ref sp) :: (.ref nb0) :: (.ref nb1) :: (.ref nb2) :: (.int (nI nf)) :: (.int (nI bd)) :: (.int (nI mm)) :: (.int v33_272) :: (.ref pl) :: (.ref se) :: (.ref ke) :: (.ref wi) :: (.ref hs) :: (.ref mo) :: (.ref po) :: (.ref nu) :: (.ref pr) :: (.ref sq) :: (.ref xa) :: (.ref sa) :: (.ref n64) :: (.ref m64) :: (.ref ex) :: (.ref wh) :: (.ref sd) :: (.ref tk) :: (.int v52_273) :: (.int v53_274) :: (.int v54_275) :: (.ref hd) :: (.ref ak) :: (.ref ho) :: (.ref ot) :: []) := (hB1.2.2.2 h0 (by rw [hT_h0]; simp)).trans hF_324
          have hF_352 : F_330 wh = .inr (14, [.ref rwh, .int (nI (((gg_116.2 2 js - (gg_116.2 1 js + 1)) + j) + ((gg_116.2 2 jd) - (gg_116.2 1 jd + 1))))]) := (hB1.2.2.2 wh (by rw [hT_wh]; simp)).trans hF_325
          have hF_353 : F_330 rwh = .inl (cs 17, 6000, .inl f2_288) := (hB1.2.2.2 rwh (by rw [ht_43]; simp)).trans hF_326
          have hF_354 : F_330 m64 = .inl (cs 17, 64, .inl fM_309) := (hB1.2.2.2 m64 (by rw [ht_65]; simp)).trans hM1
          generalize H1 = H at hP hS ⊢
          have hBD : BDC (fun y => nb8 (evs gl y)) (clr gl) (brx (TC fc_104 (flI (TC gl mm) (gm 1 jf + 1) ((gd jf) - (gm 1 jf + 1))).length) gg_116.2 gg_116.1) bd mm NN_331 f2_332 := by have h9 := hq_337; rw [kb_53e, h53e] at h9; exact h9
          have hNNl := bdc_le hBD
          refine lv_aload_n hx hb dX15_sealOf_237 rfl (lv_at hl 1 rfl) ?_
          refine pg_get (ci := 15) (v := .ref se) (C := RX15) (T := TX15) (N := 59) hx hb hts it_15 hown hK hP hL_h0 hF_351 rfl 35 (by decide) (hts _ kt_847) (fun _ h9 => h9) rfl dX15_sealOf_238 ?_
          obtain ⟨q_355, v_356, hr_q_355, hX_q_355⟩ := hG.2.2 ("PostGateModel", 476, "l", [108]) (by decide +kernel)
          have hX_q_355 : SXc q_355 v_356 1 (cct [108]) A s s.heap := hX_q_355
          obtain ⟨xo_q_355, xc_q_355, xv_q_355, xt_q_355, xn_q_355⟩ := id hX_q_355
          have hr_q_355 : vk_R "PostGateModel" 476 "l" q_355 s := hr_q_355
          refine va_ldcwS hx hb hown hr_q_355 dX15_sealOf_241 ?_
          have hFc := pg_free hD hS hA
          refine va_calli (va_runS (As := [.ref se, .ref q_355]) (rest := []) ⟨hx, hb, hml, hown, hts⟩ (s_X15_number_x l dC dI cs ty gm L H.size F_330 se (ρ + 11) sx 3000 1280 s0 s1 s2 sb ((flI (TC gl mm) (gm 1 jf + 1) ((gd jf) - (gm 1 jf + 1))).length) gg_116.1 fc_104 p0_119 p1_120 p2_121 gg_116.2 q_355 v_356 1 (cct [108]) ([108]) hW hi_26 ht_27 hL_sx hT_sx hF_344 hF_345 (by omega) hF_343 hF_346 hF_347 hF_348 (hti2) (hHL) (hti1) (Nat.le_refl _) (⟨rfl, by decide +kernel⟩)) ⟨callB_of 2 hts (gi kt_884) rfl rfl rfl (hts _ kt_669) (hts _ kt_885) (by decide +kernel) ⟨Nat.le_of_ble_eq_true rfl, Nat.le_of_ble_eq_true rfl⟩, (hts _ kt_886)⟩ ⟨fun a U g mk q => ⟨q.1, PTEm.calling q.2⟩, fun U hU hWm => ⟨rfl, PTEm.mk hU hWm hP hK hD hE hO hG (fun x hx => by rw [List.mem_singleton] at hx; subst hx; exact hX_q_355) hS hFc⟩⟩ rfl rfl hl.1 rfl (lv_room (Nat.le_of_ble_eq_true rfl)) dX15_sealOf_244 ⟨by show _ + 0 ≤ 0; omega, by show _ + 0 ≤ 0; omega⟩) hS (fun q _ h => hFc q h) hFc (fun r_357 u t H1 locs ht hvm hw hB hz1 hk1 hS => ?_)
          obtain ⟨F_358, hB1⟩ := hB
          obtain rfl : F_330 = F_358 := (funext (fun a => hB1.2.2.2 a List.not_mem_nil)).symm
          obtain ⟨hP, hD, hO, hR⟩ := QTm.back hB1 ht hFc hR (fun q h => absurd h List.not_mem_nil)
          generalize H1 = H at hP hS ⊢
          have hw : r_357 = nmV (TC fc_104 (flI (TC gl mm) (gm 1 jf + 1) ((gd jf) - (gm 1 jf + 1))).length) gg_116.2 (tgR (TC fc_104 (flI (TC gl mm) (gm 1 jf + 1) ((gd jf) - (gm 1 jf + 1))).length) gg_116.2 [108] gg_116.1) := hw
          subst hw
          refine lv_istore (lv' := [(7, .int (nmV (TC fc_104 (flI (TC gl mm) (gm 1 jf + 1) ((gd jf) - (gm 1 jf + 1))).length) gg_116.2 (tgR (TC fc_104 (flI (TC gl mm) (gm 1 jf + 1) ((gd jf) - (gm 1 jf + 1))).length) gg_116.2 [108] gg_116.1))), (6, .int r_307), (0, .ref h0), (1, .int (nI jf)), (2, .int (nI nw))]) hx hb dX15_sealOf_247 hl (by decide) rfl (fun ls hl => ?_)
          refine lv_iload hx hb dX15_sealOf_249 (lv_at hl 0 rfl) ?_
          refine lv_aload_n hx hb dX15_sealOf_251 rfl (lv_at hl 2 rfl) ?_
          refine pg_get (ci := 15) (v := .ref pl) (C := RX15) (T := TX15) (N := 59) hx hb hts it_15 hown hK hP hL_h0 hF_351 rfl 34 (by decide) (hts _ kt_901) (fun _ h9 => h9) rfl dX15_sealOf_252 ?_
          refine pg_get (ci := 14) (v := .int (nI NN_331)) (C := RX14) (T := TX14) (N := 2) hx hb hts it_14 hown hK hP hL_pl hq_333 rfl 1 (by decide) (hts _ kt_709) (fun _ h9 => h9) rfl dX15_sealOf_255 ?_
          refine lv_icmp_le (tgt := 263) hx hb dX15_sealOf_258 (by decide) (fun c_359 => ?_) (fun c_359 => ?_)
          ·
            have hle8 := c_359
            refine lv_aload_n hx hb dX15_sealOf_263 rfl (lv_at hl 2 rfl) ?_
            refine lv_aload_n hx hb dX15_sealOf_264 rfl (lv_at hl 2 rfl) ?_
            refine pg_get (ci := 15) (v := .ref pl) (C := RX15) (T := TX15) (N := 59) hx hb hts it_15 hown hK hP hL_h0 hF_351 rfl 34 (by decide) (hts _ kt_901) (fun _ h9 => h9) rfl dX15_sealOf_265 ?_
            refine pg_get (ci := 14) (v := .ref rl) (C := RX14) (T := TX14) (N := 2) hx hb hts it_14 hown hK hP hL_pl hq_333 rfl 0 (by decide) (hts _ kt_710) (fun _ h9 => h9) rfl dX15_sealOf_268 ?_
            refine lv_iload hx hb dX15_sealOf_271 (lv_at hl 0 rfl) ?_
            refine lv_if_lt (tgt := 281) hx hb dX15_sealOf_273 (by decide) (fun c_360 => ?_) (fun c_360 => ?_)
            ·
              have hln8 : (lnW (TC fc_104 (flI (TC gl mm) (gm 1 jf + 1) ((gd jf) - (gm 1 jf + 1))).length) gg_116.2 gg_116.1 NN_331) = NN_331 := lnW_n (nmx_n hsw.2.2.2.2.2.2.2.2.1 c_360)
              refine lv_aload_n hx hb dX15_sealOf_281 rfl (lv_at hl 2 rfl) ?_
              refine pg_get (ci := 15) (v := .ref pl) (C := RX15) (T := TX15) (N := 59) hx hb hts it_15 hown hK hP hL_h0 hF_351 rfl 34 (by decide) (hts _ kt_901) (fun _ h9 => h9) rfl dX15_sealOf_282 ?_
              refine pg_get (ci := 14) (v := .int (nI NN_331)) (C := RX14) (T := TX14) (N := 2) hx hb hts it_14 hown hK hP hL_pl hq_333 rfl 1 (by decide) (hts _ kt_709) (fun _ h9 => h9) rfl dX15_sealOf_285 ?_
              refine lv_aload_n hx hb dX15_sealOf_288 rfl (lv_at hl 2 rfl) ?_
              refine pg_get (ci := 15) (v := .ref xa) (C := RX15) (T := TX15) (N := 59) hx hb hts it_15 hown hK hP hL_h0 hF_351 rfl 44 (by decide) (hts _ kt_921) (fun _ h9 => h9) rfl dX15_sealOf_289 ?_
              obtain ⟨hq_361, hq_362⟩ := hW.octs hi_39 ht_40
              have hFc := pg_free hD hS hA
              refine va_callv (va_runV (As := [.ref rl, .int (nI NN_331), .ref xa]) (rest := []) ⟨hx, hb, hml, hown, hts⟩ (s_X15_digest_d l dC dI cs ty gm L H.size F_330 h0 ρ ta ou so ad na va lc dm tg pe ml bg co sp nb0 nb1 nb2 pl se ke wi hs mo po nu pr sq xa sa n64 m64 ex wh sd tk hd ak ho ot sx s0 s1 s2 nf bd mm zo fm sn hg gc gv ze zt rl (ρ + 10) 6000 xa (ρ + 19) 32 NN_331 f2_332 hW hL_h0 hT_h0 hi_39 ht_40 hi_52 ht_53 hq_336 (by omega) (by omega) (by decide) (by decide) (by omega) (by omega) (by omega)) ⟨callB_of 3 hts (gi kt_970) rfl rfl rfl (hts _ kt_669) (hts _ kt_971) (by decide +kernel) ⟨Nat.le_of_ble_eq_true rfl, Nat.le_of_ble_eq_true rfl⟩, (hts _ kt_972), (hts _ kt_973)⟩ ⟨fun a U g mk q => ⟨q.1, PTm.calling q.2⟩, pg_recv hK hP hL_h0 hF_351 (q := (RX15, TX15, 59)) rfl, fun U hU hWm => ⟨rfl, PTm.mk hU hWm hP hK hD hE hO⟩⟩ rfl rfl hl.1 rfl (lv_room (Nat.le_of_ble_eq_true rfl)) dX15_sealOf_292 ⟨by show _ + 0 ≤ 0; omega, by show _ + 0 ≤ 0; omega⟩) hS (fun q _ h => hFc q h) hFc (fun u t H1 locs ht hvm hw hB hz1 hk1 hS => ?_)
              obtain ⟨F_364, fo_365, hB1, hq_366, hq_367⟩ := hB
              obtain ⟨hP, hD, hO, hR⟩ := QTm.back hB1 ht hFc hR (fun q h => by simp only [List.mem_cons, List.not_mem_nil, or_false] at h ⊢; omega)
              have hF_368 : F_364 ml = .inl (cs 17, 3000, .inl gl) := (hB1.2.2.2 ml (by rw [ht_49]; simp)).trans hF_338
              have hF_369 : F_364 co = .inl (cs 16, 21, .inl f_88) := (hB1.2.2.2 co (by rw [ht_87]; simp)).trans hF_339
              have hF_370 : F_364 sp = .inl (cs 16, 21, .inl f_95) := (hB1.2.2.2 sp (by rw [ht_94]; simp)).trans hF_340
              have hF_371 : F_364 sd = .inr (14, [.ref rsd, .int (nI ((gg_116.2 2 jd) - (gg_116.2 1 jd + 1)))]) := (hB1.2.2.2 sd (by rw [hT_sd]; simp)).trans hF_341
              have hF_372 : F_364 rsd = .inl (cs 17, 3000, .inl fc_180) := (hB1.2.2.2 rsd (by rw [ht_46]; simp)).trans hF_342
              have hF_373 : F_364 se = .inr (13, [.ref sx, .ref s0, .ref s1, .ref s2, .int (nI gg_116.1)]) := (hB1.2.2.2 se (by rw [ht_27]; simp)).trans hF_343
              have hF_374 : F_364 sx = .inr (14, [.ref sb, .int (nI (flI (TC gl mm) (gm 1 jf + 1) ((gd jf) - (gm 1 jf + 1))).length)]) := (hB1.2.2.2 sx (by rw [hT_sx]; simp)).trans hF_344
              have hF_375 : F_364 sb = .inl (cs 17, 3000, .inl fc_104) := (hB1.2.2.2 sb (by rw [ht_37]; simp)).trans hF_345
              have hF_376 : F_364 s0 = .inl (cs 16, 40, .inl p0_119) := (hB1.2.2.2 s0 (by rw [ht_31]; simp)).trans hF_346
              have hF_377 : F_364 s1 = .inl (cs 16, 40, .inl p1_120) := (hB1.2.2.2 s1 (by rw [ht_32]; simp)).trans hF_347
              have hF_378 : F_364 s2 = .inl (cs 16, 40, .inl p2_121) := (hB1.2.2.2 s2 (by rw [ht_33]; simp)).trans hF_348
              have hF_379 : F_364 sa = .inl (cs 17, 32, .inl f9_122) := (hB1.2.2.2 sa (by rw [ht_57]; simp)).trans hF_349
              have hF_380 : F_364 n64 = .inl (cs 17, 64, .inl f8_123) := (hB1.2.2.2 n64 (by rw [ht_61]; simp)).trans hF_350
              have hF_381 : F_364 h0 = .inr (15, (.ref ta) :: (.int (nI zt)) :: (.int (nI zo)) :: (.int (nI ze)) :: (.ref ou) :: (.ref so) :: (.ref ad) :: (.ref na) :: (.ref va) :: (.ref lc) :: (.ref dm) :: (.int (nI fm)) :: (.int (nI sn)) :: (.ref tg) :: (.int v14_264) :: (.int v15_265) :: (.ref pe) :: (.int v17_266) :: (.int v18_267) :: (.int v19_268) :: (.int v20_269) :: (.int v21_270) :: (.int v22_271) :: (.ref ml) :: (.ref bg) :: (.ref co) :: (.ref sp) :: (.ref nb0) :: (.ref nb1) :: (.ref nb2) :: (.int (nI nf)) :: (.int (nI bd)) :: (.int (nI mm)) :: (.int v33_272) :: (.ref pl) :: (.ref se) :: (.ref ke) :: (.ref wi) :: (.ref hs) :: (.ref mo) :: (.ref po) :: (.ref nu) :: (.ref pr) :: (.ref sq) :: (.ref xa) :: (.ref sa) :: (.ref n64) :: (.ref m64) :: (.ref ex) :: (.ref wh) :: (.ref sd) :: (.ref tk) :: (.int v52_273) :: (.int v53_274) :: (.int v54_275) :: (.ref hd) :: (.ref ak) :: (.ref ho) :: (.ref ot) :: []) := (hB1.2.2.2 h0 (by rw [hT_h0]; simp)).trans hF_351
              have hF_382 : F_364 wh = .inr (14, [.ref rwh, .int (nI (((gg_116.2 2 js - (gg_116.2 1 js + 1)) + j) + ((gg_116.2 2 jd) - (gg_116.2 1 jd + 1))))]) := (hB1.2.2.2 wh (by rw [hT_wh]; simp)).trans hF_352
              have hF_383 : F_364 rwh = .inl (cs 17, 6000, .inl f2_288) := (hB1.2.2.2 rwh (by rw [ht_43]; simp)).trans hF_353
              have hF_384 : F_364 m64 = .inl (cs 17, 64, .inl fM_309) := (hB1.2.2.2 m64 (by rw [ht_65]; simp)).trans hF_354
              have hF_385 : F_364 pl = .inr (14, [.ref rl, .int (nI NN_331)]) := (hB1.2.2.2 pl (by rw [hT_pl]; simp)).trans hq_333
              have hF_386 : F_364 rl = .inl (cs 17, 6000, .inl f2_332) := (hB1.2.2.2 rl (by rw [ht_40]; simp)).trans hq_336
              generalize H1 = H at hP hS ⊢
              have hD1 : BYM (shM f2_332 NN_331) 32 fo_365 := shm_by hq_367
              refine lv_aload_n hx hb dX15_sealOf_295 rfl (lv_at hl 2 rfl) ?_
              refine pg_get (ci := 15) (v := .ref xa) (C := RX15) (T := TX15) (N := 59) hx hb hts it_15 hown hK hP hL_h0 hF_381 rfl 44 (by decide) (hts _ kt_921) (fun _ h9 => h9) rfl dX15_sealOf_296 ?_
              refine lv_aload_n hx hb dX15_sealOf_299 rfl (lv_at hl 2 rfl) ?_
              refine pg_get (ci := 15) (v := .ref sa) (C := RX15) (T := TX15) (N := 59) hx hb hts it_15 hown hK hP hL_h0 hF_381 rfl 45 (by decide) (hts _ kt_871) (fun _ h9 => h9) rfl dX15_sealOf_300 ?_
              have hFc := pg_free hD hS hA
              refine va_calli (va_runS (As := [.ref xa, .ref sa]) (rest := []) ⟨hx, hb, hml, hown, hts⟩ (s_X15_isAll_x l dC dI cs ty gm L H.size F_364 xa (ρ + 19) sa (ρ + 20) fo_365 f9_122 (shM f2_332 NN_331) (dcB (TC fc_104 (flI (TC gl mm) (gm 1 jf + 1) ((gd jf) - (gm 1 jf + 1))).length) (tgA gg_116.2 (tgR (TC fc_104 (flI (TC gl mm) (gm 1 jf + 1) ((gd jf) - (gm 1 jf + 1))).length) gg_116.2 [98, 104] gg_116.1)) 32) hW hi_52 ht_53 hi_56 ht_57 hq_366 hF_379 (hD1) (hs2b)) ⟨callB_of 2 hts (gi kt_974) rfl rfl rfl (hts _ kt_669) (hts _ kt_975) (by decide +kernel) ⟨Nat.le_of_ble_eq_true rfl, Nat.le_of_ble_eq_true rfl⟩, (hts _ kt_976)⟩ ⟨fun a U g mk q => ⟨q.1, PTm.calling q.2⟩, fun U hU hWm => ⟨rfl, PTm.mk hU hWm hP hK hD hE hO⟩⟩ rfl rfl hl.1 rfl (lv_room (Nat.le_of_ble_eq_true rfl)) dX15_sealOf_303 ⟨by show _ + 0 ≤ 0; omega, by show _ + 0 ≤ 0; omega⟩) hS (fun q _ h => hFc q h) hFc (fun r_387 u t H1 locs ht hvm hw hB hz1 hk1 hS => ?_)
              obtain ⟨F_388, hB1⟩ := hB
              obtain rfl : F_364 = F_388 := (funext (fun a => hB1.2.2.2 a List.not_mem_nil)).symm
              obtain ⟨hP, hD, hO, hR⟩ := QTm.back hB1 ht hFc hR (fun q h => absurd h List.not_mem_nil)
              generalize H1 = H at hP hS ⊢
              have hw : ((r_387 = 1 ∧ (∀ j, j < 32 → (shM f2_332 NN_331) j = (dcB (TC fc_104 (flI (TC gl mm) (gm 1 jf + 1) ((gd jf) - (gm 1 jf + 1))).length) (tgA gg_116.2 (tgR (TC fc_104 (flI (TC gl mm) (gm 1 jf + 1) ((gd jf) - (gm 1 jf + 1))).length) gg_116.2 [98, 104] gg_116.1)) 32) j)) ∨ (r_387 = 0 ∧ ¬ (∀ j, j < 32 → (shM f2_332 NN_331) j = (dcB (TC fc_104 (flI (TC gl mm) (gm 1 jf + 1) ((gd jf) - (gm 1 jf + 1))).length) (tgA gg_116.2 (tgR (TC fc_104 (flI (TC gl mm) (gm 1 jf + 1) ((gd jf) - (gm 1 jf + 1))).length) gg_116.2 [98, 104] gg_116.1)) 32) j))) := hw
              have hw_389 := hw
              refine lv_if_ne (tgt := 311) hx hb dX15_sealOf_306 (by decide) (fun c_390 => ?_) (fun c_390 => ?_)
              ·
                have hBH : BHOm (TC fc_104 (flI (TC gl mm) (gm 1 jf + 1) ((gd jf) - (gm 1 jf + 1))).length) gg_116.2 gg_116.1 NN_331 f2_332 := ⟨by rw [hln8]; omega, by rw [hln8]; exact orp1 hw_389 c_390⟩
                obtain ⟨howe, os, oe, how1, how2, how3, how4⟩ : owL (TC gl mm) (gm 1 jf + 1) (gd jf) = owS (TC gl mm) (gm 1 jf + 1) (gd jf) ∧ ∃ s q, owS (TC gl mm) (gm 1 jf + 1) (gd jf) = some (s, q) ∧ s ≤ q ∧ (gm 1 jf + 1) < s ∧ q ≤ (gd jf) := by have h9 := ow_well (T := (TC gl mm)) (a := (gm 1 jf + 1)) (k := ((gd jf) - (gm 1 jf + 1))) hgt (by have h8 := hsw2.2.2.2.2.2.1; exact h8); rw [show (gm 1 jf + 1) + ((gd jf) - (gm 1 jf + 1)) = (gd jf) by omega] at h9; exact h9
                refine lv_aload_n hx hb dX15_sealOf_311 rfl (lv_at hl 2 rfl) ?_
                refine lv_iload_n hx hb dX15_sealOf_312 rfl (lv_at hl 3 rfl) ?_
                have hFc := pg_free hD hS hA
                refine va_callv (va_runV (As := [.int (nI jf)]) (rest := []) ⟨hx, hb, hml, hown, hts⟩ (s_X15_fieldsPlain_x l dC dI cs ty gm L H.size F_364 h0 ρ ta ou so ad na va lc dm tg pe ml bg co sp nb0 nb1 nb2 pl se ke wi hs mo po nu pr sq xa sa n64 m64 ex wh sd tk hd ak ho ot sx s0 s1 s2 nf bd mm zo fm sn hg gc gv ze zt sb ((flI (TC gl mm) (gm 1 jf + 1) ((gd jf) - (gm 1 jf + 1))).length) gg_116.1 fc_104 p0_119 p1_120 p2_121 gg_116.2 rl gl jf os oe gd gg_116 v52_273 hW hL_h0 hT_h0 hL_sx hT_sx hL_pl hT_pl hF_373 hF_374 hF_375 hF_376 hF_377 hF_378 (by omega) (hti2) (hHL) (hti1) hF_368 (hpos) (hjf) (by rw [hF_381]; rfl) (hlo_v hsw.2.2.2.2.2.2.1) (hgt) (howe.trans how1) (⟨how3, how2, how4⟩)) ⟨callB_of 1 hts (gi kt_977) rfl rfl rfl (hts _ kt_669) (hts _ kt_978) (by decide +kernel) ⟨Nat.le_of_ble_eq_true rfl, Nat.le_of_ble_eq_true rfl⟩, (hts _ kt_979), (hts _ kt_980)⟩ ⟨fun a U g mk q => ⟨q.1, PTEm.calling q.2⟩, pg_recv hK hP hL_h0 hF_381 (q := (RX15, TX15, 59)) rfl, fun U hU hWm => ⟨rfl, PTEm.mk hU hWm hP hK hD hE hO hG (fun x hx => absurd hx List.not_mem_nil) hS hFc⟩⟩ rfl rfl hl.1 rfl (lv_room (Nat.le_of_ble_eq_true rfl)) dX15_sealOf_313 ⟨by show _ + 0 ≤ 0; omega, by show _ + 0 ≤ 0; omega⟩) hS (fun q _ h => hFc q h) hFc (fun u t H1 locs ht hvm hw hB hz1 hk1 hS => ?_)
                obtain ⟨F_392, f2_393, hB1, hq_394, hq_395, hq_396, hq_397⟩ := hB
                obtain ⟨hP, hD, hO, hR⟩ := QTm.back hB1 ht hFc hR (fun q h => by simp only [List.mem_cons, List.not_mem_nil, or_false] at h ⊢; omega)
                have hF_398 : F_392 ml = .inl (cs 17, 3000, .inl gl) := (hB1.2.2.2 ml (by rw [ht_49]; simp)).trans hF_368
                have hF_399 : F_392 co = .inl (cs 16, 21, .inl f_88) := (hB1.2.2.2 co (by rw [ht_87]; simp)).trans hF_369
                have hF_400 : F_392 sp = .inl (cs 16, 21, .inl f_95) := (hB1.2.2.2 sp (by rw [ht_94]; simp)).trans hF_370
                have hF_401 : F_392 sd = .inr (14, [.ref rsd, .int (nI ((gg_116.2 2 jd) - (gg_116.2 1 jd + 1)))]) := (hB1.2.2.2 sd (by rw [hT_sd]; simp)).trans hF_371
                have hF_402 : F_392 rsd = .inl (cs 17, 3000, .inl fc_180) := (hB1.2.2.2 rsd (by rw [ht_46]; simp)).trans hF_372
                have hF_403 : F_392 se = .inr (13, [.ref sx, .ref s0, .ref s1, .ref s2, .int (nI gg_116.1)]) := (hB1.2.2.2 se (by rw [ht_27]; simp)).trans hF_373
                have hF_404 : F_392 sx = .inr (14, [.ref sb, .int (nI (flI (TC gl mm) (gm 1 jf + 1) ((gd jf) - (gm 1 jf + 1))).length)]) := (hB1.2.2.2 sx (by rw [hT_sx]; simp)).trans hF_374
                have hF_405 : F_392 sb = .inl (cs 17, 3000, .inl fc_104) := (hB1.2.2.2 sb (by rw [ht_37]; simp)).trans hF_375
                have hF_406 : F_392 s0 = .inl (cs 16, 40, .inl p0_119) := (hB1.2.2.2 s0 (by rw [ht_31]; simp)).trans hF_376
                have hF_407 : F_392 s1 = .inl (cs 16, 40, .inl p1_120) := (hB1.2.2.2 s1 (by rw [ht_32]; simp)).trans hF_377
                have hF_408 : F_392 s2 = .inl (cs 16, 40, .inl p2_121) := (hB1.2.2.2 s2 (by rw [ht_33]; simp)).trans hF_378
                have hF_409 : F_392 sa = .inl (cs 17, 32, .inl f9_122) := (hB1.2.2.2 sa (by rw [ht_57]; simp)).trans hF_379
                have hF_410 : F_392 n64 = .inl (cs 17, 64, .inl f8_123) := (hB1.2.2.2 n64 (by rw [ht_61]; simp)).trans hF_380
                have hF_411 : F_392 h0 = .inr (15, (.ref ta) :: (.int (nI zt)) :: (.int (nI zo)) :: (.int (nI ze)) :: (.ref ou) :: (.ref so) :: (.ref ad) :: (.ref na) :: (.ref va) :: (.ref lc) :: (.ref dm) :: (.int (nI fm)) :: (.int (nI sn)) :: (.ref tg) :: (.int v14_264) :: (.int v15_265) :: (.ref pe) :: (.int v17_266) :: (.int v18_267) :: (.int v19_268) :: (.int v20_269) :: (.int v21_270) :: (.int v22_271) :: (.ref ml) :: (.ref bg) :: (.ref co) :: (.ref sp) :: (.ref nb0) :: (.ref nb1) :: (.ref nb2) :: (.int (nI nf)) :: (.int (nI bd)) :: (.int (nI mm)) :: (.int v33_272) :: (.ref pl) :: (.ref se) :: (.ref ke) :: (.ref wi) :: (.ref hs) :: (.ref mo) :: (.ref po) :: (.ref nu) :: (.ref pr) :: (.ref sq) :: (.ref xa) :: (.ref sa) :: (.ref n64) :: (.ref m64) :: (.ref ex) :: (.ref wh) :: (.ref sd) :: (.ref tk) :: (.int v52_273) :: (.int v53_274) :: (.int v54_275) :: (.ref hd) :: (.ref ak) :: (.ref ho) :: (.ref ot) :: []) := (hB1.2.2.2 h0 (by rw [hT_h0]; simp)).trans hF_381
                have hF_412 : F_392 wh = .inr (14, [.ref rwh, .int (nI (((gg_116.2 2 js - (gg_116.2 1 js + 1)) + j) + ((gg_116.2 2 jd) - (gg_116.2 1 jd + 1))))]) := (hB1.2.2.2 wh (by rw [hT_wh]; simp)).trans hF_382
                have hF_413 : F_392 rwh = .inl (cs 17, 6000, .inl f2_288) := (hB1.2.2.2 rwh (by rw [ht_43]; simp)).trans hF_383
                have hF_414 : F_392 m64 = .inl (cs 17, 64, .inl fM_309) := (hB1.2.2.2 m64 (by rw [ht_65]; simp)).trans hF_384
                have hF_415 : F_392 xa = .inl (cs 17, 32, .inl fo_365) := (hB1.2.2.2 xa (by rw [ht_53]; simp)).trans hq_366
                generalize H1 = H at hP hS ⊢
                have hWKe : ((adl (clr gl) (TC gl mm) (TC fc_104 (flI (TC gl mm) (gm 1 jf + 1) ((gd jf) - (gm 1 jf + 1))).length) (gm 0) (gm 1) gd nf v52_273 (hsG (TC fc_104 (flI (TC gl mm) (gm 1 jf + 1) ((gd jf) - (gm 1 jf + 1))).length) (tgA gg_116.2 (tgR (TC fc_104 (flI (TC gl mm) (gm 1 jf + 1) ((gd jf) - (gm 1 jf + 1))).length) gg_116.2 [104] gg_116.1)) (tgB gg_116.2 (tgR (TC fc_104 (flI (TC gl mm) (gm 1 jf + 1) ((gd jf) - (gm 1 jf + 1))).length) gg_116.2 [104] gg_116.1)))).2 ++ FPW (clr gl) v52_273 (gm 0 jf) (gm 1 jf) (gd jf) os oe) = (wkL (clr gl) (TC gl mm) (TC fc_104 (flI (TC gl mm) (gm 1 jf + 1) ((gd jf) - (gm 1 jf + 1))).length) (gm 0) (gm 1) gd nf jf gg_116.2 gg_116.1 os oe) := by rw [show v52_273 = frx (TC fc_104 (flI (TC gl mm) (gm 1 jf + 1) ((gd jf) - (gm 1 jf + 1))).length) gg_116.2 gg_116.1 from (kb_52e).trans h52e]; rfl
                have hF_416 : F_392 pl = .inr (14, [.ref rl, .int (nI (wkL (clr gl) (TC gl mm) (TC fc_104 (flI (TC gl mm) (gm 1 jf + 1) ((gd jf) - (gm 1 jf + 1))).length) (gm 0) (gm 1) gd nf jf gg_116.2 gg_116.1 os oe).length)]) := by rw [← hWKe]; exact hq_394
                have hOUW : OUTM gl f2_393 (wkL (clr gl) (TC gl mm) (TC fc_104 (flI (TC gl mm) (gm 1 jf + 1) ((gd jf) - (gm 1 jf + 1))).length) (gm 0) (gm 1) gd nf jf gg_116.2 gg_116.1 os oe) := by rw [← hWKe]; exact hq_396
                have hWKl : (wkL (clr gl) (TC gl mm) (TC fc_104 (flI (TC gl mm) (gm 1 jf + 1) ((gd jf) - (gm 1 jf + 1))).length) (gm 0) (gm 1) gd nf jf gg_116.2 gg_116.1 os oe).length ≤ 5000 := by rw [← hWKe]; exact hq_397
                refine lv_aload_n hx hb dX15_sealOf_316 rfl (lv_at hl 2 rfl) ?_
                refine lv_aload_n hx hb dX15_sealOf_317 rfl (lv_at hl 2 rfl) ?_
                refine pg_get (ci := 15) (v := .ref pl) (C := RX15) (T := TX15) (N := 59) hx hb hts it_15 hown hK hP hL_h0 hF_411 rfl 34 (by decide) (hts _ kt_901) (fun _ h9 => h9) rfl dX15_sealOf_318 ?_
                refine pg_get (ci := 14) (v := .ref rl) (C := RX14) (T := TX14) (N := 2) hx hb hts it_14 hown hK hP hL_pl hF_416 rfl 0 (by decide) (hts _ kt_710) (fun _ h9 => h9) rfl dX15_sealOf_321 ?_
                refine lv_aload_n hx hb dX15_sealOf_324 rfl (lv_at hl 2 rfl) ?_
                refine pg_get (ci := 15) (v := .ref pl) (C := RX15) (T := TX15) (N := 59) hx hb hts it_15 hown hK hP hL_h0 hF_411 rfl 34 (by decide) (hts _ kt_901) (fun _ h9 => h9) rfl dX15_sealOf_325 ?_
                refine pg_get (ci := 14) (v := .int (nI (wkL (clr gl) (TC gl mm) (TC fc_104 (flI (TC gl mm) (gm 1 jf + 1) ((gd jf) - (gm 1 jf + 1))).length) (gm 0) (gm 1) gd nf jf gg_116.2 gg_116.1 os oe).length)) (C := RX14) (T := TX14) (N := 2) hx hb hts it_14 hown hK hP hL_pl hF_416 rfl 1 (by decide) (hts _ kt_709) (fun _ h9 => h9) rfl dX15_sealOf_328 ?_
                refine lv_aload_n hx hb dX15_sealOf_331 rfl (lv_at hl 2 rfl) ?_
                refine pg_get (ci := 15) (v := .ref xa) (C := RX15) (T := TX15) (N := 59) hx hb hts it_15 hown hK hP hL_h0 hF_411 rfl 44 (by decide) (hts _ kt_921) (fun _ h9 => h9) rfl dX15_sealOf_332 ?_
                have hFc := pg_free hD hS hA
                refine va_callv (va_runV (As := [.ref rl, .int (nI (wkL (clr gl) (TC gl mm) (TC fc_104 (flI (TC gl mm) (gm 1 jf + 1) ((gd jf) - (gm 1 jf + 1))).length) (gm 0) (gm 1) gd nf jf gg_116.2 gg_116.1 os oe).length), .ref xa]) (rest := []) ⟨hx, hb, hml, hown, hts⟩ (s_X15_digest_d l dC dI cs ty gm L H.size F_392 h0 ρ ta ou so ad na va lc dm tg pe ml bg co sp nb0 nb1 nb2 pl se ke wi hs mo po nu pr sq xa sa n64 m64 ex wh sd tk hd ak ho ot sx s0 s1 s2 nf bd mm zo fm sn hg gc gv ze zt rl (ρ + 10) 6000 xa (ρ + 19) 32 ((wkL (clr gl) (TC gl mm) (TC fc_104 (flI (TC gl mm) (gm 1 jf + 1) ((gd jf) - (gm 1 jf + 1))).length) (gm 0) (gm 1) gd nf jf gg_116.2 gg_116.1 os oe).length) f2_393 hW hL_h0 hT_h0 hi_39 ht_40 hi_52 ht_53 hq_395 (by omega) (by omega) (by decide) (by decide) (by omega) (by omega) (by omega)) ⟨callB_of 3 hts (gi kt_970) rfl rfl rfl (hts _ kt_669) (hts _ kt_971) (by decide +kernel) ⟨Nat.le_of_ble_eq_true rfl, Nat.le_of_ble_eq_true rfl⟩, (hts _ kt_972), (hts _ kt_973)⟩ ⟨fun a U g mk q => ⟨q.1, PTm.calling q.2⟩, pg_recv hK hP hL_h0 hF_411 (q := (RX15, TX15, 59)) rfl, fun U hU hWm => ⟨rfl, PTm.mk hU hWm hP hK hD hE hO⟩⟩ rfl rfl hl.1 rfl (lv_room (Nat.le_of_ble_eq_true rfl)) dX15_sealOf_335 ⟨by show _ + 0 ≤ 0; omega, by show _ + 0 ≤ 0; omega⟩) hS (fun q _ h => hFc q h) hFc (fun u t H1 locs ht hvm hw hB hz1 hk1 hS => ?_)
                obtain ⟨F_418, fo_419, hB1, hq_420, hq_421⟩ := hB
                obtain ⟨hP, hD, hO, hR⟩ := QTm.back hB1 ht hFc hR (fun q h => by simp only [List.mem_cons, List.not_mem_nil, or_false] at h ⊢; omega)
                have hF_422 : F_418 ml = .inl (cs 17, 3000, .inl gl) := (hB1.2.2.2 ml (by rw [ht_49]; simp)).trans hF_398
                have hF_423 : F_418 co = .inl (cs 16, 21, .inl f_88) := (hB1.2.2.2 co (by rw [ht_87]; simp)).trans hF_399
                have hF_424 : F_418 sp = .inl (cs 16, 21, .inl f_95) := (hB1.2.2.2 sp (by rw [ht_94]; simp)).trans hF_400
                have hF_425 : F_418 sd = .inr (14, [.ref rsd, .int (nI ((gg_116.2 2 jd) - (gg_116.2 1 jd + 1)))]) := (hB1.2.2.2 sd (by rw [hT_sd]; simp)).trans hF_401
                have hF_426 : F_418 rsd = .inl (cs 17, 3000, .inl fc_180) := (hB1.2.2.2 rsd (by rw [ht_46]; simp)).trans hF_402
                have hF_427 : F_418 se = .inr (13, [.ref sx, .ref s0, .ref s1, .ref s2, .int (nI gg_116.1)]) := (hB1.2.2.2 se (by rw [ht_27]; simp)).trans hF_403
                have hF_428 : F_418 sx = .inr (14, [.ref sb, .int (nI (flI (TC gl mm) (gm 1 jf + 1) ((gd jf) - (gm 1 jf + 1))).length)]) := (hB1.2.2.2 sx (by rw [hT_sx]; simp)).trans hF_404
                have hF_429 : F_418 sb = .inl (cs 17, 3000, .inl fc_104) := (hB1.2.2.2 sb (by rw [ht_37]; simp)).trans hF_405
                have hF_430 : F_418 s0 = .inl (cs 16, 40, .inl p0_119) := (hB1.2.2.2 s0 (by rw [ht_31]; simp)).trans hF_406
                have hF_431 : F_418 s1 = .inl (cs 16, 40, .inl p1_120) := (hB1.2.2.2 s1 (by rw [ht_32]; simp)).trans hF_407
                have hF_432 : F_418 s2 = .inl (cs 16, 40, .inl p2_121) := (hB1.2.2.2 s2 (by rw [ht_33]; simp)).trans hF_408
                have hF_433 : F_418 sa = .inl (cs 17, 32, .inl f9_122) := (hB1.2.2.2 sa (by rw [ht_57]; simp)).trans hF_409
                have hF_434 : F_418 n64 = .inl (cs 17, 64, .inl f8_123) := (hB1.2.2.2 n64 (by rw [ht_61]; simp)).trans hF_410
                have hF_435 : F_418 h0 = .inr (15, (.ref ta) :: (.int (nI zt)) :: (.int (nI zo)) :: (.int (nI ze)) :: (.ref ou) :: (.ref so) :: (.ref ad) :: (.ref na) :: (.ref va) :: (.ref lc) :: (.ref dm) :: (.int (nI fm)) :: (.int (nI sn)) :: (.ref tg) :: (.int v14_264) :: (.int v15_265) :: (.ref pe) :: (.int v17_266) :: (.int v18_267) :: (.int v19_268) :: (.int v20_269) :: (.int v21_270) :: (.int v22_271) :: (.ref ml) :: (.ref bg) :: (.ref co) :: (.ref sp) :: (.ref nb0) :: (.ref nb1) :: (.ref nb2) :: (.int (nI nf)) :: (.int (nI bd)) :: (.int (nI mm)) :: (.int v33_272) :: (.ref pl) :: (.ref se) :: (.ref ke) :: (.ref wi) :: (.ref hs) :: (.ref mo) :: (.ref po) :: (.ref nu) :: (.ref pr) :: (.ref sq) :: (.ref xa) :: (.ref sa) :: (.ref n64) :: (.ref m64) :: (.ref ex) :: (.ref wh) :: (.ref sd) :: (.ref tk) :: (.int v52_273) :: (.int v53_274) :: (.int v54_275) :: (.ref hd) :: (.ref ak) :: (.ref ho) :: (.ref ot) :: []) := (hB1.2.2.2 h0 (by rw [hT_h0]; simp)).trans hF_411
                have hF_436 : F_418 wh = .inr (14, [.ref rwh, .int (nI (((gg_116.2 2 js - (gg_116.2 1 js + 1)) + j) + ((gg_116.2 2 jd) - (gg_116.2 1 jd + 1))))]) := (hB1.2.2.2 wh (by rw [hT_wh]; simp)).trans hF_412
                have hF_437 : F_418 rwh = .inl (cs 17, 6000, .inl f2_288) := (hB1.2.2.2 rwh (by rw [ht_43]; simp)).trans hF_413
                have hF_438 : F_418 m64 = .inl (cs 17, 64, .inl fM_309) := (hB1.2.2.2 m64 (by rw [ht_65]; simp)).trans hF_414
                have hF_439 : F_418 pl = .inr (14, [.ref rl, .int (nI (wkL (clr gl) (TC gl mm) (TC fc_104 (flI (TC gl mm) (gm 1 jf + 1) ((gd jf) - (gm 1 jf + 1))).length) (gm 0) (gm 1) gd nf jf gg_116.2 gg_116.1 os oe).length)]) := (hB1.2.2.2 pl (by rw [hT_pl]; simp)).trans hF_416
                have hF_440 : F_418 rl = .inl (cs 17, 6000, .inl f2_393) := (hB1.2.2.2 rl (by rw [ht_40]; simp)).trans hq_395
                generalize H1 = H at hP hS ⊢
                have hD2 : BYM (shM f2_393 (wkL (clr gl) (TC gl mm) (TC fc_104 (flI (TC gl mm) (gm 1 jf + 1) ((gd jf) - (gm 1 jf + 1))).length) (gm 0) (gm 1) gd nf jf gg_116.2 gg_116.1 os oe).length) 32 fo_419 := shm_by hq_421
                refine lv_aload_n hx hb dX15_sealOf_338 rfl (lv_at hl 2 rfl) ?_
                have hFc := pg_free hD hS hA
                refine va_calli (va_runV (As := []) (rest := []) ⟨hx, hb, hml, hown, hts⟩ (s_X15_isPower_x l dC dI cs ty gm L H.size F_418 h0 ρ ta ou so ad na va lc dm tg pe ml bg co sp nb0 nb1 nb2 pl se ke wi hs mo po nu pr sq xa sa n64 m64 ex wh sd tk hd ak ho ot sx s0 s1 s2 nf bd mm zo fm sn hg gc gv ze zt fM_309 f8_123 fo_419 (kyM (D gk_306)) (sgB (TC fc_104 (flI (TC gl mm) (gm 1 jf + 1) ((gd jf) - (gm 1 jf + 1))).length) gg_116.2 gg_116.1) (shM f2_393 (wkL (clr gl) (TC gl mm) (TC fc_104 (flI (TC gl mm) (gm 1 jf + 1) ((gd jf) - (gm 1 jf + 1))).length) (gm 0) (gm 1) gd nf jf gg_116.2 gg_116.1 os oe).length) hW hL_h0 hT_h0 hF_438 (hM2) hF_434 (hs3b) hq_420 (hD2) (hkm0)) ⟨callB_of 0 hts (gi kt_981) rfl rfl rfl (hts _ kt_669) (hts _ kt_982) (by decide +kernel) ⟨Nat.le_of_ble_eq_true rfl, Nat.le_of_ble_eq_true rfl⟩, (hts _ kt_983), (hts _ kt_984)⟩ ⟨fun a U g mk q => ⟨q.1, PTm.calling q.2⟩, pg_recv hK hP hL_h0 hF_435 (q := (RX15, TX15, 59)) rfl, fun U hU hWm => ⟨rfl, PTm.mk hU hWm hP hK hD hE hO⟩⟩ rfl rfl hl.1 rfl (lv_room (Nat.le_of_ble_eq_true rfl)) dX15_sealOf_339 ⟨by show _ + 0 ≤ 0; omega, by show _ + 0 ≤ 0; omega⟩) hS (fun q _ h => hFc q h) hFc (fun r_441 u t H1 locs ht hvm hw hB hz1 hk1 hS => ?_)
                obtain ⟨F_442, hB1⟩ := hB
                obtain ⟨hP, hD, hO, hR⟩ := QTm.back hB1 ht hFc hR (fun q h => by simp only [List.mem_cons, List.not_mem_nil, or_false] at h ⊢; omega)
                have hF_443 : F_442 ml = .inl (cs 17, 3000, .inl gl) := (hB1.2.2.2 ml (by rw [ht_49]; simp)).trans hF_422
                have hF_444 : F_442 co = .inl (cs 16, 21, .inl f_88) := (hB1.2.2.2 co (by rw [ht_87]; simp)).trans hF_423
                have hF_445 : F_442 sp = .inl (cs 16, 21, .inl f_95) := (hB1.2.2.2 sp (by rw [ht_94]; simp)).trans hF_424
                have hF_446 : F_442 sd = .inr (14, [.ref rsd, .int (nI ((gg_116.2 2 jd) - (gg_116.2 1 jd + 1)))]) := (hB1.2.2.2 sd (by rw [hT_sd]; simp)).trans hF_425
                have hF_447 : F_442 rsd = .inl (cs 17, 3000, .inl fc_180) := (hB1.2.2.2 rsd (by rw [ht_46]; simp)).trans hF_426
                have hF_448 : F_442 se = .inr (13, [.ref sx, .ref s0, .ref s1, .ref s2, .int (nI gg_116.1)]) := (hB1.2.2.2 se (by rw [ht_27]; simp)).trans hF_427
                have hF_449 : F_442 sx = .inr (14, [.ref sb, .int (nI (flI (TC gl mm) (gm 1 jf + 1) ((gd jf) - (gm 1 jf + 1))).length)]) := (hB1.2.2.2 sx (by rw [hT_sx]; simp)).trans hF_428
                have hF_450 : F_442 sb = .inl (cs 17, 3000, .inl fc_104) := (hB1.2.2.2 sb (by rw [ht_37]; simp)).trans hF_429
                have hF_451 : F_442 s0 = .inl (cs 16, 40, .inl p0_119) := (hB1.2.2.2 s0 (by rw [ht_31]; simp)).trans hF_430
                have hF_452 : F_442 s1 = .inl (cs 16, 40, .inl p1_120) := (hB1.2.2.2 s1 (by rw [ht_32]; simp)).trans hF_431
                have hF_453 : F_442 s2 = .inl (cs 16, 40, .inl p2_121) := (hB1.2.2.2 s2 (by rw [ht_33]; simp)).trans hF_432
                have hF_454 : F_442 sa = .inl (cs 17, 32, .inl f9_122) := (hB1.2.2.2 sa (by rw [ht_57]; simp)).trans hF_433
                have hF_455 : F_442 n64 = .inl (cs 17, 64, .inl f8_123) := (hB1.2.2.2 n64 (by rw [ht_61]; simp)).trans hF_434
                have hF_456 : F_442 h0 = .inr (15, (.ref ta) :: (.int (nI zt)) :: (.int (nI zo)) :: (.int (nI ze)) :: (.ref ou) :: (.ref so) :: (.ref ad) :: (.ref na) :: (.ref va) :: (.ref lc) :: (.ref dm) :: (.int (nI fm)) :: (.int (nI sn)) :: (.ref tg) :: (.int v14_264) :: (.int v15_265) :: (.ref pe) :: (.int v17_266) :: (.int v18_267) :: (.int v19_268) :: (.int v20_269) :: (.int v21_270) :: (.int v22_271) :: (.ref ml) :: (.ref bg) :: (.ref co) :: (.ref sp) :: (.ref nb0) :: (.ref nb1) :: (.ref nb2) :: (.int (nI nf)) :: (.int (nI bd)) :: (.int (nI mm)) :: (.int v33_272) :: (.ref pl) :: (.ref se) :: (.ref ke) :: (.ref wi) :: (.ref hs) :: (.ref mo) :: (.ref po) :: (.ref nu) :: (.ref pr) :: (.ref sq) :: (.ref xa) :: (.ref sa) :: (.ref n64) :: (.ref m64) :: (.ref ex) :: (.ref wh) :: (.ref sd) :: (.ref tk) :: (.int v52_273) :: (.int v53_274) :: (.int v54_275) :: (.ref hd) :: (.ref ak) :: (.ref ho) :: (.ref ot) :: []) := (hB1.2.2.2 h0 (by rw [hT_h0]; simp)).trans hF_435
                have hF_457 : F_442 wh = .inr (14, [.ref rwh, .int (nI (((gg_116.2 2 js - (gg_116.2 1 js + 1)) + j) + ((gg_116.2 2 jd) - (gg_116.2 1 jd + 1))))]) := (hB1.2.2.2 wh (by rw [hT_wh]; simp)).trans hF_436
                have hF_458 : F_442 rwh = .inl (cs 17, 6000, .inl f2_288) := (hB1.2.2.2 rwh (by rw [ht_43]; simp)).trans hF_437
                have hF_459 : F_442 m64 = .inl (cs 17, 64, .inl fM_309) := (hB1.2.2.2 m64 (by rw [ht_65]; simp)).trans hF_438
                have hF_460 : F_442 pl = .inr (14, [.ref rl, .int (nI (wkL (clr gl) (TC gl mm) (TC fc_104 (flI (TC gl mm) (gm 1 jf + 1) ((gd jf) - (gm 1 jf + 1))).length) (gm 0) (gm 1) gd nf jf gg_116.2 gg_116.1 os oe).length)]) := (hB1.2.2.2 pl (by rw [hT_pl]; simp)).trans hF_439
                have hF_461 : F_442 rl = .inl (cs 17, 6000, .inl f2_393) := (hB1.2.2.2 rl (by rw [ht_40]; simp)).trans hF_440
                have hF_462 : F_442 xa = .inl (cs 17, 32, .inl fo_419) := (hB1.2.2.2 xa (by rw [ht_53]; simp)).trans hq_420
                generalize H1 = H at hP hS ⊢
                have hw : ((r_441 = 1 ∧ SGO (sgB (TC fc_104 (flI (TC gl mm) (gm 1 jf + 1) ((gd jf) - (gm 1 jf + 1))).length) gg_116.2 gg_116.1) (kyM (D gk_306)) (shM f2_393 (wkL (clr gl) (TC gl mm) (TC fc_104 (flI (TC gl mm) (gm 1 jf + 1) ((gd jf) - (gm 1 jf + 1))).length) (gm 0) (gm 1) gd nf jf gg_116.2 gg_116.1 os oe).length)) ∨ (r_441 = 0 ∧ ¬ SGO (sgB (TC fc_104 (flI (TC gl mm) (gm 1 jf + 1) ((gd jf) - (gm 1 jf + 1))).length) gg_116.2 gg_116.1) (kyM (D gk_306)) (shM f2_393 (wkL (clr gl) (TC gl mm) (TC fc_104 (flI (TC gl mm) (gm 1 jf + 1) ((gd jf) - (gm 1 jf + 1))).length) (gm 0) (gm 1) gd nf jf gg_116.2 gg_116.1 os oe).length))) := hw
                have hw_463 := hw
                refine lv_if_eq (tgt := 349) hx hb dX15_sealOf_342 (by decide) (fun c_464 => ?_) (fun c_464 => ?_)
                ·
                  refine lv_iconst (v := 3) hx hb dX15_sealOf_349 (by decide) ?_
                  refine W.widen (k := 0) (n := 0) (by omega) (by omega) ?_
                  exact W.iret (v := 3) hx hb hr (fun t ht hWm => ⟨⟨3, (), rfl, (Or.inr ⟨gg_116, hgt, hsw2, by rw [← hwT]; exact Or.inr ⟨hXP, _, 2, hKY2, Or.inr ⟨rfl, ⟨_, _, hBD, Or.inr ⟨hBH, os, oe, _, howe.trans how1, hOUW, Or.inr ⟨orp0 hw_463 c_464, rfl⟩⟩⟩⟩⟩⟩), ⟨F_442, QTm.mk ht hP hD hO hR, (fun g9 h1 _ => by obtain rfl := Option.some.inj (hgt.symm.trans h1); rw [← hwT]; exact ⟨_, _, _, hF_446, hF_447, hsdS, by omega⟩)⟩⟩, hS.F ht⟩) hS.2.2 dX15_sealOf_350
                ·
                  refine lv_iconst (v := 2) hx hb dX15_sealOf_345 (by decide) ?_
                  refine lv_goto (tgt := 350) hx hb dX15_sealOf_346 (by decide) ?_
                  refine W.widen (k := 0) (n := 0) (by omega) (by omega) ?_
                  exact W.iret (v := 2) hx hb hr (fun t ht hWm => ⟨⟨2, (), rfl, (Or.inr ⟨gg_116, hgt, hsw2, by rw [← hwT]; exact Or.inr ⟨hXP, _, 2, hKY2, Or.inr ⟨rfl, ⟨_, _, hBD, Or.inr ⟨hBH, os, oe, _, howe.trans how1, hOUW, Or.inl ⟨orp1 hw_463 c_464, rfl⟩⟩⟩⟩⟩⟩), ⟨F_442, QTm.mk ht hP hD hO hR, (fun g9 h1 _ => by obtain rfl := Option.some.inj (hgt.symm.trans h1); rw [← hwT]; exact ⟨_, _, _, hF_446, hF_447, hsdS, by omega⟩)⟩⟩, hS.F ht⟩) hS.2.2 dX15_sealOf_350
              ·
                have hBH : ¬ BHOm (TC fc_104 (flI (TC gl mm) (gm 1 jf + 1) ((gd jf) - (gm 1 jf + 1))).length) gg_116.2 gg_116.1 NN_331 f2_332 := fun q => orp0 hw_389 c_390 (by have h9 := q.2; rw [hln8] at h9; exact h9)
                refine lv_iconst (v := 3) hx hb dX15_sealOf_309 (by decide) ?_
                refine W.widen (k := 0) (n := 0) (by omega) (by omega) ?_
                exact W.iret (v := 3) hx hb hr (fun t ht hWm => ⟨⟨3, (), rfl, (Or.inr ⟨gg_116, hgt, hsw2, by rw [← hwT]; exact Or.inr ⟨hXP, _, 2, hKY2, Or.inr ⟨rfl, ⟨_, _, hBD, Or.inl ⟨hBH, rfl⟩⟩⟩⟩⟩), ⟨F_364, QTm.mk ht hP hD hO hR, (fun g9 h1 _ => by obtain rfl := Option.some.inj (hgt.symm.trans h1); rw [← hwT]; exact ⟨_, _, _, hF_371, hF_372, hsdS, by omega⟩)⟩⟩, hS.F ht⟩) hS.2.2 dX15_sealOf_310
            ·
              obtain ⟨w8, hw81, hw82, hw83⟩ := nmx_y c_360
              have hln8 : (lnW (TC fc_104 (flI (TC gl mm) (gm 1 jf + 1) ((gd jf) - (gm 1 jf + 1))).length) gg_116.2 gg_116.1 NN_331) = w8 := lnW_s hw81
              have hw8n : w8 ≤ NN_331 := (nI_leI (by omega) (by omega)).mp (by rw [← hw83]; exact hle8)
              refine lv_iload hx hb dX15_sealOf_276 (lv_at hl 0 rfl) ?_
              refine lv_goto (tgt := 288) hx hb dX15_sealOf_278 (by decide) ?_
              refine lv_topi (fun x9 ex9 => ?_)
              obtain rfl : x9 = nI w8 := ex9.trans hw83
              refine lv_aload_n hx hb dX15_sealOf_288 rfl (lv_at hl 2 rfl) ?_
              refine pg_get (ci := 15) (v := .ref xa) (C := RX15) (T := TX15) (N := 59) hx hb hts it_15 hown hK hP hL_h0 hF_351 rfl 44 (by decide) (hts _ kt_921) (fun _ h9 => h9) rfl dX15_sealOf_289 ?_
              obtain ⟨hq_465, hq_466⟩ := hW.octs hi_39 ht_40
              have hFc := pg_free hD hS hA
              refine va_callv (va_runV (As := [.ref rl, .int (nI w8), .ref xa]) (rest := []) ⟨hx, hb, hml, hown, hts⟩ (s_X15_digest_d l dC dI cs ty gm L H.size F_330 h0 ρ ta ou so ad na va lc dm tg pe ml bg co sp nb0 nb1 nb2 pl se ke wi hs mo po nu pr sq xa sa n64 m64 ex wh sd tk hd ak ho ot sx s0 s1 s2 nf bd mm zo fm sn hg gc gv ze zt rl (ρ + 10) 6000 xa (ρ + 19) 32 w8 f2_332 hW hL_h0 hT_h0 hi_39 ht_40 hi_52 ht_53 hq_336 (by omega) (by omega) (by decide) (by decide) (by omega) (by omega) (by omega)) ⟨callB_of 3 hts (gi kt_970) rfl rfl rfl (hts _ kt_669) (hts _ kt_971) (by decide +kernel) ⟨Nat.le_of_ble_eq_true rfl, Nat.le_of_ble_eq_true rfl⟩, (hts _ kt_972), (hts _ kt_973)⟩ ⟨fun a U g mk q => ⟨q.1, PTm.calling q.2⟩, pg_recv hK hP hL_h0 hF_351 (q := (RX15, TX15, 59)) rfl, fun U hU hWm => ⟨rfl, PTm.mk hU hWm hP hK hD hE hO⟩⟩ rfl rfl hl.1 rfl (lv_room (Nat.le_of_ble_eq_true rfl)) dX15_sealOf_292 ⟨by show _ + 0 ≤ 0; omega, by show _ + 0 ≤ 0; omega⟩) hS (fun q _ h => hFc q h) hFc (fun u t H1 locs ht hvm hw hB hz1 hk1 hS => ?_)
              obtain ⟨F_468, fo_469, hB1, hq_470, hq_471⟩ := hB
              obtain ⟨hP, hD, hO, hR⟩ := QTm.back hB1 ht hFc hR (fun q h => by simp only [List.mem_cons, List.not_mem_nil, or_false] at h ⊢; omega)
              have hF_472 : F_468 ml = .inl (cs 17, 3000, .inl gl) := (hB1.2.2.2 ml (by rw [ht_49]; simp)).trans hF_338
              have hF_473 : F_468 co = .inl (cs 16, 21, .inl f_88) := (hB1.2.2.2 co (by rw [ht_87]; simp)).trans hF_339
              have hF_474 : F_468 sp = .inl (cs 16, 21, .inl f_95) := (hB1.2.2.2 sp (by rw [ht_94]; simp)).trans hF_340
              have hF_475 : F_468 sd = .inr (14, [.ref rsd, .int (nI ((gg_116.2 2 jd) - (gg_116.2 1 jd + 1)))]) := (hB1.2.2.2 sd (by rw [hT_sd]; simp)).trans hF_341
              have hF_476 : F_468 rsd = .inl (cs 17, 3000, .inl fc_180) := (hB1.2.2.2 rsd (by rw [ht_46]; simp)).trans hF_342
              have hF_477 : F_468 se = .inr (13, [.ref sx, .ref s0, .ref s1, .ref s2, .int (nI gg_116.1)]) := (hB1.2.2.2 se (by rw [ht_27]; simp)).trans hF_343
              have hF_478 : F_468 sx = .inr (14, [.ref sb, .int (nI (flI (TC gl mm) (gm 1 jf + 1) ((gd jf) - (gm 1 jf + 1))).length)]) := (hB1.2.2.2 sx (by rw [hT_sx]; simp)).trans hF_344
              have hF_479 : F_468 sb = .inl (cs 17, 3000, .inl fc_104) := (hB1.2.2.2 sb (by rw [ht_37]; simp)).trans hF_345
              have hF_480 : F_468 s0 = .inl (cs 16, 40, .inl p0_119) := (hB1.2.2.2 s0 (by rw [ht_31]; simp)).trans hF_346
              have hF_481 : F_468 s1 = .inl (cs 16, 40, .inl p1_120) := (hB1.2.2.2 s1 (by rw [ht_32]; simp)).trans hF_347
              have hF_482 : F_468 s2 = .inl (cs 16, 40, .inl p2_121) := (hB1.2.2.2 s2 (by rw [ht_33]; simp)).trans hF_348
              have hF_483 : F_468 sa = .inl (cs 17, 32, .inl f9_122) := (hB1.2.2.2 sa (by rw [ht_57]; simp)).trans hF_349
              have hF_484 : F_468 n64 = .inl (cs 17, 64, .inl f8_123) := (hB1.2.2.2 n64 (by rw [ht_61]; simp)).trans hF_350
              have hF_485 : F_468 h0 = .inr (15, (.ref ta) :: (.int (nI zt)) :: (.int (nI zo)) :: (.int (nI ze)) :: (.ref ou) :: (.ref so) :: (.ref ad) :: (.ref na) :: (.ref va) :: (.ref lc) :: (.ref dm) :: (.int (nI fm)) :: (.int (nI sn)) :: (.ref tg) :: (.int v14_264) :: (.int v15_265) :: (.ref pe) :: (.int v17_266) :: (.int v18_267) :: (.int v19_268) :: (.int v20_269) :: (.int v21_270) :: (.int v22_271) :: (.ref ml) :: (.ref bg) :: (.ref co) :: (.ref sp) :: (.ref nb0) :: (.ref nb1) :: (.ref nb2) :: (.int (nI nf)) :: (.int (nI bd)) :: (.int (nI mm)) :: (.int v33_272) :: (.ref pl) :: (.ref se) :: (.ref ke) :: (.ref wi) :: (.ref hs) :: (.ref mo) :: (.ref po) :: (.ref nu) :: (.ref pr) :: (.ref sq) :: (.ref xa) :: (.ref sa) :: (.ref n64) :: (.ref m64) :: (.ref ex) :: (.ref wh) :: (.ref sd) :: (.ref tk) :: (.int v52_273) :: (.int v53_274) :: (.int v54_275) :: (.ref hd) :: (.ref ak) :: (.ref ho) :: (.ref ot) :: []) := (hB1.2.2.2 h0 (by rw [hT_h0]; simp)).trans hF_351
              have hF_486 : F_468 wh = .inr (14, [.ref rwh, .int (nI (((gg_116.2 2 js - (gg_116.2 1 js + 1)) + j) + ((gg_116.2 2 jd) - (gg_116.2 1 jd + 1))))]) := (hB1.2.2.2 wh (by rw [hT_wh]; simp)).trans hF_352
              have hF_487 : F_468 rwh = .inl (cs 17, 6000, .inl f2_288) := (hB1.2.2.2 rwh (by rw [ht_43]; simp)).trans hF_353
              have hF_488 : F_468 m64 = .inl (cs 17, 64, .inl fM_309) := (hB1.2.2.2 m64 (by rw [ht_65]; simp)).trans hF_354
              have hF_489 : F_468 pl = .inr (14, [.ref rl, .int (nI NN_331)]) := (hB1.2.2.2 pl (by rw [hT_pl]; simp)).trans hq_333
              have hF_490 : F_468 rl = .inl (cs 17, 6000, .inl f2_332) := (hB1.2.2.2 rl (by rw [ht_40]; simp)).trans hq_336
              generalize H1 = H at hP hS ⊢
              have hD1 : BYM (shM f2_332 w8) 32 fo_469 := shm_by hq_471
              refine lv_aload_n hx hb dX15_sealOf_295 rfl (lv_at hl 2 rfl) ?_
              refine pg_get (ci := 15) (v := .ref xa) (C := RX15) (T := TX15) (N := 59) hx hb hts it_15 hown hK hP hL_h0 hF_485 rfl 44 (by decide) (hts _ kt_921) (fun _ h9 => h9) rfl dX15_sealOf_296 ?_
              refine lv_aload_n hx hb dX15_sealOf_299 rfl (lv_at hl 2 rfl) ?_
              refine pg_get (ci := 15) (v := .ref sa) (C := RX15) (T := TX15) (N := 59) hx hb hts it_15 hown hK hP hL_h0 hF_485 rfl 45 (by decide) (hts _ kt_871) (fun _ h9 => h9) rfl dX15_sealOf_300 ?_
              have hFc := pg_free hD hS hA
              refine va_calli (va_runS (As := [.ref xa, .ref sa]) (rest := []) ⟨hx, hb, hml, hown, hts⟩ (s_X15_isAll_x l dC dI cs ty gm L H.size F_468 xa (ρ + 19) sa (ρ + 20) fo_469 f9_122 (shM f2_332 w8) (dcB (TC fc_104 (flI (TC gl mm) (gm 1 jf + 1) ((gd jf) - (gm 1 jf + 1))).length) (tgA gg_116.2 (tgR (TC fc_104 (flI (TC gl mm) (gm 1 jf + 1) ((gd jf) - (gm 1 jf + 1))).length) gg_116.2 [98, 104] gg_116.1)) 32) hW hi_52 ht_53 hi_56 ht_57 hq_470 hF_483 (hD1) (hs2b)) ⟨callB_of 2 hts (gi kt_974) rfl rfl rfl (hts _ kt_669) (hts _ kt_975) (by decide +kernel) ⟨Nat.le_of_ble_eq_true rfl, Nat.le_of_ble_eq_true rfl⟩, (hts _ kt_976)⟩ ⟨fun a U g mk q => ⟨q.1, PTm.calling q.2⟩, fun U hU hWm => ⟨rfl, PTm.mk hU hWm hP hK hD hE hO⟩⟩ rfl rfl hl.1 rfl (lv_room (Nat.le_of_ble_eq_true rfl)) dX15_sealOf_303 ⟨by show _ + 0 ≤ 0; omega, by show _ + 0 ≤ 0; omega⟩) hS (fun q _ h => hFc q h) hFc (fun r_491 u t H1 locs ht hvm hw hB hz1 hk1 hS => ?_)
              obtain ⟨F_492, hB1⟩ := hB
              obtain rfl : F_468 = F_492 := (funext (fun a => hB1.2.2.2 a List.not_mem_nil)).symm
              obtain ⟨hP, hD, hO, hR⟩ := QTm.back hB1 ht hFc hR (fun q h => absurd h List.not_mem_nil)
              generalize H1 = H at hP hS ⊢
              have hw : ((r_491 = 1 ∧ (∀ j, j < 32 → (shM f2_332 w8) j = (dcB (TC fc_104 (flI (TC gl mm) (gm 1 jf + 1) ((gd jf) - (gm 1 jf + 1))).length) (tgA gg_116.2 (tgR (TC fc_104 (flI (TC gl mm) (gm 1 jf + 1) ((gd jf) - (gm 1 jf + 1))).length) gg_116.2 [98, 104] gg_116.1)) 32) j)) ∨ (r_491 = 0 ∧ ¬ (∀ j, j < 32 → (shM f2_332 w8) j = (dcB (TC fc_104 (flI (TC gl mm) (gm 1 jf + 1) ((gd jf) - (gm 1 jf + 1))).length) (tgA gg_116.2 (tgR (TC fc_104 (flI (TC gl mm) (gm 1 jf + 1) ((gd jf) - (gm 1 jf + 1))).length) gg_116.2 [98, 104] gg_116.1)) 32) j))) := hw
              have hw_493 := hw
              refine lv_if_ne (tgt := 311) hx hb dX15_sealOf_306 (by decide) (fun c_494 => ?_) (fun c_494 => ?_)
              ·
                have hBH : BHOm (TC fc_104 (flI (TC gl mm) (gm 1 jf + 1) ((gd jf) - (gm 1 jf + 1))).length) gg_116.2 gg_116.1 NN_331 f2_332 := ⟨by rw [hln8]; omega, by rw [hln8]; exact orp1 hw_493 c_494⟩
                obtain ⟨howe, os, oe, how1, how2, how3, how4⟩ : owL (TC gl mm) (gm 1 jf + 1) (gd jf) = owS (TC gl mm) (gm 1 jf + 1) (gd jf) ∧ ∃ s q, owS (TC gl mm) (gm 1 jf + 1) (gd jf) = some (s, q) ∧ s ≤ q ∧ (gm 1 jf + 1) < s ∧ q ≤ (gd jf) := by have h9 := ow_well (T := (TC gl mm)) (a := (gm 1 jf + 1)) (k := ((gd jf) - (gm 1 jf + 1))) hgt (by have h8 := hsw2.2.2.2.2.2.1; exact h8); rw [show (gm 1 jf + 1) + ((gd jf) - (gm 1 jf + 1)) = (gd jf) by omega] at h9; exact h9
                refine lv_aload_n hx hb dX15_sealOf_311 rfl (lv_at hl 2 rfl) ?_
                refine lv_iload_n hx hb dX15_sealOf_312 rfl (lv_at hl 3 rfl) ?_
                have hFc := pg_free hD hS hA
                refine va_callv (va_runV (As := [.int (nI jf)]) (rest := []) ⟨hx, hb, hml, hown, hts⟩ (s_X15_fieldsPlain_x l dC dI cs ty gm L H.size F_468 h0 ρ ta ou so ad na va lc dm tg pe ml bg co sp nb0 nb1 nb2 pl se ke wi hs mo po nu pr sq xa sa n64 m64 ex wh sd tk hd ak ho ot sx s0 s1 s2 nf bd mm zo fm sn hg gc gv ze zt sb ((flI (TC gl mm) (gm 1 jf + 1) ((gd jf) - (gm 1 jf + 1))).length) gg_116.1 fc_104 p0_119 p1_120 p2_121 gg_116.2 rl gl jf os oe gd gg_116 v52_273 hW hL_h0 hT_h0 hL_sx hT_sx hL_pl hT_pl hF_477 hF_478 hF_479 hF_480 hF_481 hF_482 (by omega) (hti2) (hHL) (hti1) hF_472 (hpos) (hjf) (by rw [hF_485]; rfl) (hlo_v hsw.2.2.2.2.2.2.1) (hgt) (howe.trans how1) (⟨how3, how2, how4⟩)) ⟨callB_of 1 hts (gi kt_977) rfl rfl rfl (hts _ kt_669) (hts _ kt_978) (by decide +kernel) ⟨Nat.le_of_ble_eq_true rfl, Nat.le_of_ble_eq_true rfl⟩, (hts _ kt_979), (hts _ kt_980)⟩ ⟨fun a U g mk q => ⟨q.1, PTEm.calling q.2⟩, pg_recv hK hP hL_h0 hF_485 (q := (RX15, TX15, 59)) rfl, fun U hU hWm => ⟨rfl, PTEm.mk hU hWm hP hK hD hE hO hG (fun x hx => absurd hx List.not_mem_nil) hS hFc⟩⟩ rfl rfl hl.1 rfl (lv_room (Nat.le_of_ble_eq_true rfl)) dX15_sealOf_313 ⟨by show _ + 0 ≤ 0; omega, by show _ + 0 ≤ 0; omega⟩) hS (fun q _ h => hFc q h) hFc (fun u t H1 locs ht hvm hw hB hz1 hk1 hS => ?_)
                obtain ⟨F_496, f2_497, hB1, hq_498, hq_499, hq_500, hq_501⟩ := hB
                obtain ⟨hP, hD, hO, hR⟩ := QTm.back hB1 ht hFc hR (fun q h => by simp only [List.mem_cons, List.not_mem_nil, or_false] at h ⊢; omega)
                have hF_502 : F_496 ml = .inl (cs 17, 3000, .inl gl) := (hB1.2.2.2 ml (by rw [ht_49]; simp)).trans hF_472
                have hF_503 : F_496 co = .inl (cs 16, 21, .inl f_88) := (hB1.2.2.2 co (by rw [ht_87]; simp)).trans hF_473
                have hF_504 : F_496 sp = .inl (cs 16, 21, .inl f_95) := (hB1.2.2.2 sp (by rw [ht_94]; simp)).trans hF_474
                have hF_505 : F_496 sd = .inr (14, [.ref rsd, .int (nI ((gg_116.2 2 jd) - (gg_116.2 1 jd + 1)))]) := (hB1.2.2.2 sd (by rw [hT_sd]; simp)).trans hF_475
                have hF_506 : F_496 rsd = .inl (cs 17, 3000, .inl fc_180) := (hB1.2.2.2 rsd (by rw [ht_46]; simp)).trans hF_476
                have hF_507 : F_496 se = .inr (13, [.ref sx, .ref s0, .ref s1, .ref s2, .int (nI gg_116.1)]) := (hB1.2.2.2 se (by rw [ht_27]; simp)).trans hF_477
                have hF_508 : F_496 sx = .inr (14, [.ref sb, .int (nI (flI (TC gl mm) (gm 1 jf + 1) ((gd jf) - (gm 1 jf + 1))).length)]) := (hB1.2.2.2 sx (by rw [hT_sx]; simp)).trans hF_478
                have hF_509 : F_496 sb = .inl (cs 17, 3000, .inl fc_104) := (hB1.2.2.2 sb (by rw [ht_37]; simp)).trans hF_479
                have hF_510 : F_496 s0 = .inl (cs 16, 40, .inl p0_119) := (hB1.2.2.2 s0 (by rw [ht_31]; simp)).trans hF_480
                have hF_511 : F_496 s1 = .inl (cs 16, 40, .inl p1_120) := (hB1.2.2.2 s1 (by rw [ht_32]; simp)).trans hF_481
                have hF_512 : F_496 s2 = .inl (cs 16, 40, .inl p2_121) := (hB1.2.2.2 s2 (by rw [ht_33]; simp)).trans hF_482
                have hF_513 : F_496 sa = .inl (cs 17, 32, .inl f9_122) := (hB1.2.2.2 sa (by rw [ht_57]; simp)).trans hF_483
                have hF_514 : F_496 n64 = .inl (cs 17, 64, .inl f8_123) := (hB1.2.2.2 n64 (by rw [ht_61]; simp)).trans hF_484
                have hF_515 : F_496 h0 = .inr (15, (.ref ta) :: (.int (nI zt)) :: (.int (nI zo)) :: (.int (nI ze)) :: (.ref ou) :: (.ref so) :: (.ref ad) :: (.ref na) :: (.ref va) :: (.ref lc) :: (.ref dm) :: (.int (nI fm)) :: (.int (nI sn)) :: (.ref tg) :: (.int v14_264) :: (.int v15_265) :: (.ref pe) :: (.int v17_266) :: (.int v18_267) :: (.int v19_268) :: (.int v20_269) :: (.int v21_270) :: (.int v22_271) :: (.ref ml) :: (.ref bg) :: (.ref co) :: (.ref sp) :: (.ref nb0) :: (.ref nb1) :: (.ref nb2) :: (.int (nI nf)) :: (.int (nI bd)) :: (.int (nI mm)) :: (.int v33_272) :: (.ref pl) :: (.ref se) :: (.ref ke) :: (.ref wi) :: (.ref hs) :: (.ref mo) :: (.ref po) :: (.ref nu) :: (.ref pr) :: (.ref sq) :: (.ref xa) :: (.ref sa) :: (.ref n64) :: (.ref m64) :: (.ref ex) :: (.ref wh) :: (.ref sd) :: (.ref tk) :: (.int v52_273) :: (.int v53_274) :: (.int v54_275) :: (.ref hd) :: (.ref ak) :: (.ref ho) :: (.ref ot) :: []) := (hB1.2.2.2 h0 (by rw [hT_h0]; simp)).trans hF_485
                have hF_516 : F_496 wh = .inr (14, [.ref rwh, .int (nI (((gg_116.2 2 js - (gg_116.2 1 js + 1)) + j) + ((gg_116.2 2 jd) - (gg_116.2 1 jd + 1))))]) := (hB1.2.2.2 wh (by rw [hT_wh]; simp)).trans hF_486
                have hF_517 : F_496 rwh = .inl (cs 17, 6000, .inl f2_288) := (hB1.2.2.2 rwh (by rw [ht_43]; simp)).trans hF_487
                have hF_518 : F_496 m64 = .inl (cs 17, 64, .inl fM_309) := (hB1.2.2.2 m64 (by rw [ht_65]; simp)).trans hF_488
                have hF_519 : F_496 xa = .inl (cs 17, 32, .inl fo_469) := (hB1.2.2.2 xa (by rw [ht_53]; simp)).trans hq_470
                generalize H1 = H at hP hS ⊢
                have hWKe : ((adl (clr gl) (TC gl mm) (TC fc_104 (flI (TC gl mm) (gm 1 jf + 1) ((gd jf) - (gm 1 jf + 1))).length) (gm 0) (gm 1) gd nf v52_273 (hsG (TC fc_104 (flI (TC gl mm) (gm 1 jf + 1) ((gd jf) - (gm 1 jf + 1))).length) (tgA gg_116.2 (tgR (TC fc_104 (flI (TC gl mm) (gm 1 jf + 1) ((gd jf) - (gm 1 jf + 1))).length) gg_116.2 [104] gg_116.1)) (tgB gg_116.2 (tgR (TC fc_104 (flI (TC gl mm) (gm 1 jf + 1) ((gd jf) - (gm 1 jf + 1))).length) gg_116.2 [104] gg_116.1)))).2 ++ FPW (clr gl) v52_273 (gm 0 jf) (gm 1 jf) (gd jf) os oe) = (wkL (clr gl) (TC gl mm) (TC fc_104 (flI (TC gl mm) (gm 1 jf + 1) ((gd jf) - (gm 1 jf + 1))).length) (gm 0) (gm 1) gd nf jf gg_116.2 gg_116.1 os oe) := by rw [show v52_273 = frx (TC fc_104 (flI (TC gl mm) (gm 1 jf + 1) ((gd jf) - (gm 1 jf + 1))).length) gg_116.2 gg_116.1 from (kb_52e).trans h52e]; rfl
                have hF_520 : F_496 pl = .inr (14, [.ref rl, .int (nI (wkL (clr gl) (TC gl mm) (TC fc_104 (flI (TC gl mm) (gm 1 jf + 1) ((gd jf) - (gm 1 jf + 1))).length) (gm 0) (gm 1) gd nf jf gg_116.2 gg_116.1 os oe).length)]) := by rw [← hWKe]; exact hq_498
                have hOUW : OUTM gl f2_497 (wkL (clr gl) (TC gl mm) (TC fc_104 (flI (TC gl mm) (gm 1 jf + 1) ((gd jf) - (gm 1 jf + 1))).length) (gm 0) (gm 1) gd nf jf gg_116.2 gg_116.1 os oe) := by rw [← hWKe]; exact hq_500
                have hWKl : (wkL (clr gl) (TC gl mm) (TC fc_104 (flI (TC gl mm) (gm 1 jf + 1) ((gd jf) - (gm 1 jf + 1))).length) (gm 0) (gm 1) gd nf jf gg_116.2 gg_116.1 os oe).length ≤ 5000 := by rw [← hWKe]; exact hq_501
                refine lv_aload_n hx hb dX15_sealOf_316 rfl (lv_at hl 2 rfl) ?_
                refine lv_aload_n hx hb dX15_sealOf_317 rfl (lv_at hl 2 rfl) ?_
                refine pg_get (ci := 15) (v := .ref pl) (C := RX15) (T := TX15) (N := 59) hx hb hts it_15 hown hK hP hL_h0 hF_515 rfl 34 (by decide) (hts _ kt_901) (fun _ h9 => h9) rfl dX15_sealOf_318 ?_
                refine pg_get (ci := 14) (v := .ref rl) (C := RX14) (T := TX14) (N := 2) hx hb hts it_14 hown hK hP hL_pl hF_520 rfl 0 (by decide) (hts _ kt_710) (fun _ h9 => h9) rfl dX15_sealOf_321 ?_
                refine lv_aload_n hx hb dX15_sealOf_324 rfl (lv_at hl 2 rfl) ?_
                refine pg_get (ci := 15) (v := .ref pl) (C := RX15) (T := TX15) (N := 59) hx hb hts it_15 hown hK hP hL_h0 hF_515 rfl 34 (by decide) (hts _ kt_901) (fun _ h9 => h9) rfl dX15_sealOf_325 ?_
                refine pg_get (ci := 14) (v := .int (nI (wkL (clr gl) (TC gl mm) (TC fc_104 (flI (TC gl mm) (gm 1 jf + 1) ((gd jf) - (gm 1 jf + 1))).length) (gm 0) (gm 1) gd nf jf gg_116.2 gg_116.1 os oe).length)) (C := RX14) (T := TX14) (N := 2) hx hb hts it_14 hown hK hP hL_pl hF_520 rfl 1 (by decide) (hts _ kt_709) (fun _ h9 => h9) rfl dX15_sealOf_328 ?_
                refine lv_aload_n hx hb dX15_sealOf_331 rfl (lv_at hl 2 rfl) ?_
                refine pg_get (ci := 15) (v := .ref xa) (C := RX15) (T := TX15) (N := 59) hx hb hts it_15 hown hK hP hL_h0 hF_515 rfl 44 (by decide) (hts _ kt_921) (fun _ h9 => h9) rfl dX15_sealOf_332 ?_
                have hFc := pg_free hD hS hA
                refine va_callv (va_runV (As := [.ref rl, .int (nI (wkL (clr gl) (TC gl mm) (TC fc_104 (flI (TC gl mm) (gm 1 jf + 1) ((gd jf) - (gm 1 jf + 1))).length) (gm 0) (gm 1) gd nf jf gg_116.2 gg_116.1 os oe).length), .ref xa]) (rest := []) ⟨hx, hb, hml, hown, hts⟩ (s_X15_digest_d l dC dI cs ty gm L H.size F_496 h0 ρ ta ou so ad na va lc dm tg pe ml bg co sp nb0 nb1 nb2 pl se ke wi hs mo po nu pr sq xa sa n64 m64 ex wh sd tk hd ak ho ot sx s0 s1 s2 nf bd mm zo fm sn hg gc gv ze zt rl (ρ + 10) 6000 xa (ρ + 19) 32 ((wkL (clr gl) (TC gl mm) (TC fc_104 (flI (TC gl mm) (gm 1 jf + 1) ((gd jf) - (gm 1 jf + 1))).length) (gm 0) (gm 1) gd nf jf gg_116.2 gg_116.1 os oe).length) f2_497 hW hL_h0 hT_h0 hi_39 ht_40 hi_52 ht_53 hq_499 (by omega) (by omega) (by decide) (by decide) (by omega) (by omega) (by omega)) ⟨callB_of 3 hts (gi kt_970) rfl rfl rfl (hts _ kt_669) (hts _ kt_971) (by decide +kernel) ⟨Nat.le_of_ble_eq_true rfl, Nat.le_of_ble_eq_true rfl⟩, (hts _ kt_972), (hts _ kt_973)⟩ ⟨fun a U g mk q => ⟨q.1, PTm.calling q.2⟩, pg_recv hK hP hL_h0 hF_515 (q := (RX15, TX15, 59)) rfl, fun U hU hWm => ⟨rfl, PTm.mk hU hWm hP hK hD hE hO⟩⟩ rfl rfl hl.1 rfl (lv_room (Nat.le_of_ble_eq_true rfl)) dX15_sealOf_335 ⟨by show _ + 0 ≤ 0; omega, by show _ + 0 ≤ 0; omega⟩) hS (fun q _ h => hFc q h) hFc (fun u t H1 locs ht hvm hw hB hz1 hk1 hS => ?_)
                obtain ⟨F_522, fo_523, hB1, hq_524, hq_525⟩ := hB
                obtain ⟨hP, hD, hO, hR⟩ := QTm.back hB1 ht hFc hR (fun q h => by simp only [List.mem_cons, List.not_mem_nil, or_false] at h ⊢; omega)
                have hF_526 : F_522 ml = .inl (cs 17, 3000, .inl gl) := (hB1.2.2.2 ml (by rw [ht_49]; simp)).trans hF_502
                have hF_527 : F_522 co = .inl (cs 16, 21, .inl f_88) := (hB1.2.2.2 co (by rw [ht_87]; simp)).trans hF_503
                have hF_528 : F_522 sp = .inl (cs 16, 21, .inl f_95) := (hB1.2.2.2 sp (by rw [ht_94]; simp)).trans hF_504
                have hF_529 : F_522 sd = .inr (14, [.ref rsd, .int (nI ((gg_116.2 2 jd) - (gg_116.2 1 jd + 1)))]) := (hB1.2.2.2 sd (by rw [hT_sd]; simp)).trans hF_505
                have hF_530 : F_522 rsd = .inl (cs 17, 3000, .inl fc_180) := (hB1.2.2.2 rsd (by rw [ht_46]; simp)).trans hF_506
                have hF_531 : F_522 se = .inr (13, [.ref sx, .ref s0, .ref s1, .ref s2, .int (nI gg_116.1)]) := (hB1.2.2.2 se (by rw [ht_27]; simp)).trans hF_507
                have hF_532 : F_522 sx = .inr (14, [.ref sb, .int (nI (flI (TC gl mm) (gm 1 jf + 1) ((gd jf) - (gm 1 jf + 1))).length)]) := (hB1.2.2.2 sx (by rw [hT_sx]; simp)).trans hF_508
                have hF_533 : F_522 sb = .inl (cs 17, 3000, .inl fc_104) := (hB1.2.2.2 sb (by rw [ht_37]; simp)).trans hF_509
                have hF_534 : F_522 s0 = .inl (cs 16, 40, .inl p0_119) := (hB1.2.2.2 s0 (by rw [ht_31]; simp)).trans hF_510
                have hF_535 : F_522 s1 = .inl (cs 16, 40, .inl p1_120) := (hB1.2.2.2 s1 (by rw [ht_32]; simp)).trans hF_511
                have hF_536 : F_522 s2 = .inl (cs 16, 40, .inl p2_121) := (hB1.2.2.2 s2 (by rw [ht_33]; simp)).trans hF_512
                have hF_537 : F_522 sa = .inl (cs 17, 32, .inl f9_122) := (hB1.2.2.2 sa (by rw [ht_57]; simp)).trans hF_513
                have hF_538 : F_522 n64 = .inl (cs 17, 64, .inl f8_123) := (hB1.2.2.2 n64 (by rw [ht_61]; simp)).trans hF_514
                have hF_539 : F_522 h0 = .inr (15, (.ref ta) :: (.int (nI zt)) :: (.int (nI zo)) :: (.int (nI ze)) :: (.ref ou) :: (.ref so) :: (.ref ad) :: (.ref na) :: (.ref va) :: (.ref lc) :: (.ref dm) :: (.int (nI fm)) :: (.int (nI sn)) :: (.ref tg) :: (.int v14_264) :: (.int v15_265) :: (.ref pe) :: (.int v17_266) :: (.int v18_267) :: (.int v19_268) :: (.int v20_269) :: (.int v21_270) :: (.int v22_271) :: (.ref ml) :: (.ref bg) :: (.ref co) :: (.ref sp) :: (.ref nb0) :: (.ref nb1) :: (.ref nb2) :: (.int (nI nf)) :: (.int (nI bd)) :: (.int (nI mm)) :: (.int v33_272) :: (.ref pl) :: (.ref se) :: (.ref ke) :: (.ref wi) :: (.ref hs) :: (.ref mo) :: (.ref po) :: (.ref nu) :: (.ref pr) :: (.ref sq) :: (.ref xa) :: (.ref sa) :: (.ref n64) :: (.ref m64) :: (.ref ex) :: (.ref wh) :: (.ref sd) :: (.ref tk) :: (.int v52_273) :: (.int v53_274) :: (.int v54_275) :: (.ref hd) :: (.ref ak) :: (.ref ho) :: (.ref ot) :: []) := (hB1.2.2.2 h0 (by rw [hT_h0]; simp)).trans hF_515
                have hF_540 : F_522 wh = .inr (14, [.ref rwh, .int (nI (((gg_116.2 2 js - (gg_116.2 1 js + 1)) + j) + ((gg_116.2 2 jd) - (gg_116.2 1 jd + 1))))]) := (hB1.2.2.2 wh (by rw [hT_wh]; simp)).trans hF_516
                have hF_541 : F_522 rwh = .inl (cs 17, 6000, .inl f2_288) := (hB1.2.2.2 rwh (by rw [ht_43]; simp)).trans hF_517
                have hF_542 : F_522 m64 = .inl (cs 17, 64, .inl fM_309) := (hB1.2.2.2 m64 (by rw [ht_65]; simp)).trans hF_518
                have hF_543 : F_522 pl = .inr (14, [.ref rl, .int (nI (wkL (clr gl) (TC gl mm) (TC fc_104 (flI (TC gl mm) (gm 1 jf + 1) ((gd jf) - (gm 1 jf + 1))).length) (gm 0) (gm 1) gd nf jf gg_116.2 gg_116.1 os oe).length)]) := (hB1.2.2.2 pl (by rw [hT_pl]; simp)).trans hF_520
                have hF_544 : F_522 rl = .inl (cs 17, 6000, .inl f2_497) := (hB1.2.2.2 rl (by rw [ht_40]; simp)).trans hq_499
                generalize H1 = H at hP hS ⊢
                have hD2 : BYM (shM f2_497 (wkL (clr gl) (TC gl mm) (TC fc_104 (flI (TC gl mm) (gm 1 jf + 1) ((gd jf) - (gm 1 jf + 1))).length) (gm 0) (gm 1) gd nf jf gg_116.2 gg_116.1 os oe).length) 32 fo_523 := shm_by hq_525
                refine lv_aload_n hx hb dX15_sealOf_338 rfl (lv_at hl 2 rfl) ?_
                have hFc := pg_free hD hS hA
                refine va_calli (va_runV (As := []) (rest := []) ⟨hx, hb, hml, hown, hts⟩ (s_X15_isPower_x l dC dI cs ty gm L H.size F_522 h0 ρ ta ou so ad na va lc dm tg pe ml bg co sp nb0 nb1 nb2 pl se ke wi hs mo po nu pr sq xa sa n64 m64 ex wh sd tk hd ak ho ot sx s0 s1 s2 nf bd mm zo fm sn hg gc gv ze zt fM_309 f8_123 fo_523 (kyM (D gk_306)) (sgB (TC fc_104 (flI (TC gl mm) (gm 1 jf + 1) ((gd jf) - (gm 1 jf + 1))).length) gg_116.2 gg_116.1) (shM f2_497 (wkL (clr gl) (TC gl mm) (TC fc_104 (flI (TC gl mm) (gm 1 jf + 1) ((gd jf) - (gm 1 jf + 1))).length) (gm 0) (gm 1) gd nf jf gg_116.2 gg_116.1 os oe).length) hW hL_h0 hT_h0 hF_542 (hM2) hF_538 (hs3b) hq_524 (hD2) (hkm0)) ⟨callB_of 0 hts (gi kt_981) rfl rfl rfl (hts _ kt_669) (hts _ kt_982) (by decide +kernel) ⟨Nat.le_of_ble_eq_true rfl, Nat.le_of_ble_eq_true rfl⟩, (hts _ kt_983), (hts _ kt_984)⟩ ⟨fun a U g mk q => ⟨q.1, PTm.calling q.2⟩, pg_recv hK hP hL_h0 hF_539 (q := (RX15, TX15, 59)) rfl, fun U hU hWm => ⟨rfl, PTm.mk hU hWm hP hK hD hE hO⟩⟩ rfl rfl hl.1 rfl (lv_room (Nat.le_of_ble_eq_true rfl)) dX15_sealOf_339 ⟨by show _ + 0 ≤ 0; omega, by show _ + 0 ≤ 0; omega⟩) hS (fun q _ h => hFc q h) hFc (fun r_545 u t H1 locs ht hvm hw hB hz1 hk1 hS => ?_)
                obtain ⟨F_546, hB1⟩ := hB
                obtain ⟨hP, hD, hO, hR⟩ := QTm.back hB1 ht hFc hR (fun q h => by simp only [List.mem_cons, List.not_mem_nil, or_false] at h ⊢; omega)
                have hF_547 : F_546 ml = .inl (cs 17, 3000, .inl gl) := (hB1.2.2.2 ml (by rw [ht_49]; simp)).trans hF_526
                have hF_548 : F_546 co = .inl (cs 16, 21, .inl f_88) := (hB1.2.2.2 co (by rw [ht_87]; simp)).trans hF_527
                have hF_549 : F_546 sp = .inl (cs 16, 21, .inl f_95) := (hB1.2.2.2 sp (by rw [ht_94]; simp)).trans hF_528
                have hF_550 : F_546 sd = .inr (14, [.ref rsd, .int (nI ((gg_116.2 2 jd) - (gg_116.2 1 jd + 1)))]) := (hB1.2.2.2 sd (by rw [hT_sd]; simp)).trans hF_529
                have hF_551 : F_546 rsd = .inl (cs 17, 3000, .inl fc_180) := (hB1.2.2.2 rsd (by rw [ht_46]; simp)).trans hF_530
                have hF_552 : F_546 se = .inr (13, [.ref sx, .ref s0, .ref s1, .ref s2, .int (nI gg_116.1)]) := (hB1.2.2.2 se (by rw [ht_27]; simp)).trans hF_531
                have hF_553 : F_546 sx = .inr (14, [.ref sb, .int (nI (flI (TC gl mm) (gm 1 jf + 1) ((gd jf) - (gm 1 jf + 1))).length)]) := (hB1.2.2.2 sx (by rw [hT_sx]; simp)).trans hF_532
                have hF_554 : F_546 sb = .inl (cs 17, 3000, .inl fc_104) := (hB1.2.2.2 sb (by rw [ht_37]; simp)).trans hF_533
                have hF_555 : F_546 s0 = .inl (cs 16, 40, .inl p0_119) := (hB1.2.2.2 s0 (by rw [ht_31]; simp)).trans hF_534
                have hF_556 : F_546 s1 = .inl (cs 16, 40, .inl p1_120) := (hB1.2.2.2 s1 (by rw [ht_32]; simp)).trans hF_535
                have hF_557 : F_546 s2 = .inl (cs 16, 40, .inl p2_121) := (hB1.2.2.2 s2 (by rw [ht_33]; simp)).trans hF_536
                have hF_558 : F_546 sa = .inl (cs 17, 32, .inl f9_122) := (hB1.2.2.2 sa (by rw [ht_57]; simp)).trans hF_537
                have hF_559 : F_546 n64 = .inl (cs 17, 64, .inl f8_123) := (hB1.2.2.2 n64 (by rw [ht_61]; simp)).trans hF_538
                have hF_560 : F_546 h0 = .inr (15, (.ref ta) :: (.int (nI zt)) :: (.int (nI zo)) :: (.int (nI ze)) :: (.ref ou) :: (.ref so) :: (.ref ad) :: (.ref na) :: (.ref va) :: (.ref lc) :: (.ref dm) :: (.int (nI fm)) :: (.int (nI sn)) :: (.ref tg) :: (.int v14_264) :: (.int v15_265) :: (.ref pe) :: (.int v17_266) :: (.int v18_267) :: (.int v19_268) :: (.int v20_269) :: (.int v21_270) :: (.int v22_271) :: (.ref ml) :: (.ref bg) :: (.ref co) :: (.ref sp) :: (.ref nb0) :: (.ref nb1) :: (.ref nb2) :: (.int (nI nf)) :: (.int (nI bd)) :: (.int (nI mm)) :: (.int v33_272) :: (.ref pl) :: (.ref se) :: (.ref ke) :: (.ref wi) :: (.ref hs) :: (.ref mo) :: (.ref po) :: (.ref nu) :: (.ref pr) :: (.ref sq) :: (.ref xa) :: (.ref sa) :: (.ref n64) :: (.ref m64) :: (.ref ex) :: (.ref wh) :: (.ref sd) :: (.ref tk) :: (.int v52_273) :: (.int v53_274) :: (.int v54_275) :: (.ref hd) :: (.ref ak) :: (.ref ho) :: (.ref ot) :: []) := (hB1.2.2.2 h0 (by rw [hT_h0]; simp)).trans hF_539
                have hF_561 : F_546 wh = .inr (14, [.ref rwh, .int (nI (((gg_116.2 2 js - (gg_116.2 1 js + 1)) + j) + ((gg_116.2 2 jd) - (gg_116.2 1 jd + 1))))]) := (hB1.2.2.2 wh (by rw [hT_wh]; simp)).trans hF_540
                have hF_562 : F_546 rwh = .inl (cs 17, 6000, .inl f2_288) := (hB1.2.2.2 rwh (by rw [ht_43]; simp)).trans hF_541
                have hF_563 : F_546 m64 = .inl (cs 17, 64, .inl fM_309) := (hB1.2.2.2 m64 (by rw [ht_65]; simp)).trans hF_542
                have hF_564 : F_546 pl = .inr (14, [.ref rl, .int (nI (wkL (clr gl) (TC gl mm) (TC fc_104 (flI (TC gl mm) (gm 1 jf + 1) ((gd jf) - (gm 1 jf + 1))).length) (gm 0) (gm 1) gd nf jf gg_116.2 gg_116.1 os oe).length)]) := (hB1.2.2.2 pl (by rw [hT_pl]; simp)).trans hF_543
                have hF_565 : F_546 rl = .inl (cs 17, 6000, .inl f2_497) := (hB1.2.2.2 rl (by rw [ht_40]; simp)).trans hF_544
                have hF_566 : F_546 xa = .inl (cs 17, 32, .inl fo_523) := (hB1.2.2.2 xa (by rw [ht_53]; simp)).trans hq_524
                generalize H1 = H at hP hS ⊢
                have hw : ((r_545 = 1 ∧ SGO (sgB (TC fc_104 (flI (TC gl mm) (gm 1 jf + 1) ((gd jf) - (gm 1 jf + 1))).length) gg_116.2 gg_116.1) (kyM (D gk_306)) (shM f2_497 (wkL (clr gl) (TC gl mm) (TC fc_104 (flI (TC gl mm) (gm 1 jf + 1) ((gd jf) - (gm 1 jf + 1))).length) (gm 0) (gm 1) gd nf jf gg_116.2 gg_116.1 os oe).length)) ∨ (r_545 = 0 ∧ ¬ SGO (sgB (TC fc_104 (flI (TC gl mm) (gm 1 jf + 1) ((gd jf) - (gm 1 jf + 1))).length) gg_116.2 gg_116.1) (kyM (D gk_306)) (shM f2_497 (wkL (clr gl) (TC gl mm) (TC fc_104 (flI (TC gl mm) (gm 1 jf + 1) ((gd jf) - (gm 1 jf + 1))).length) (gm 0) (gm 1) gd nf jf gg_116.2 gg_116.1 os oe).length))) := hw
                have hw_567 := hw
                refine lv_if_eq (tgt := 349) hx hb dX15_sealOf_342 (by decide) (fun c_568 => ?_) (fun c_568 => ?_)
                ·
                  refine lv_iconst (v := 3) hx hb dX15_sealOf_349 (by decide) ?_
                  refine W.widen (k := 0) (n := 0) (by omega) (by omega) ?_
                  exact W.iret (v := 3) hx hb hr (fun t ht hWm => ⟨⟨3, (), rfl, (Or.inr ⟨gg_116, hgt, hsw2, by rw [← hwT]; exact Or.inr ⟨hXP, _, 2, hKY2, Or.inr ⟨rfl, ⟨_, _, hBD, Or.inr ⟨hBH, os, oe, _, howe.trans how1, hOUW, Or.inr ⟨orp0 hw_567 c_568, rfl⟩⟩⟩⟩⟩⟩), ⟨F_546, QTm.mk ht hP hD hO hR, (fun g9 h1 _ => by obtain rfl := Option.some.inj (hgt.symm.trans h1); rw [← hwT]; exact ⟨_, _, _, hF_550, hF_551, hsdS, by omega⟩)⟩⟩, hS.F ht⟩) hS.2.2 dX15_sealOf_350
                ·
                  refine lv_iconst (v := 2) hx hb dX15_sealOf_345 (by decide) ?_
                  refine lv_goto (tgt := 350) hx hb dX15_sealOf_346 (by decide) ?_
                  refine W.widen (k := 0) (n := 0) (by omega) (by omega) ?_
                  exact W.iret (v := 2) hx hb hr (fun t ht hWm => ⟨⟨2, (), rfl, (Or.inr ⟨gg_116, hgt, hsw2, by rw [← hwT]; exact Or.inr ⟨hXP, _, 2, hKY2, Or.inr ⟨rfl, ⟨_, _, hBD, Or.inr ⟨hBH, os, oe, _, howe.trans how1, hOUW, Or.inl ⟨orp1 hw_567 c_568, rfl⟩⟩⟩⟩⟩⟩), ⟨F_546, QTm.mk ht hP hD hO hR, (fun g9 h1 _ => by obtain rfl := Option.some.inj (hgt.symm.trans h1); rw [← hwT]; exact ⟨_, _, _, hF_550, hF_551, hsdS, by omega⟩)⟩⟩, hS.F ht⟩) hS.2.2 dX15_sealOf_350
              ·
                have hBH : ¬ BHOm (TC fc_104 (flI (TC gl mm) (gm 1 jf + 1) ((gd jf) - (gm 1 jf + 1))).length) gg_116.2 gg_116.1 NN_331 f2_332 := fun q => orp0 hw_493 c_494 (by have h9 := q.2; rw [hln8] at h9; exact h9)
                refine lv_iconst (v := 3) hx hb dX15_sealOf_309 (by decide) ?_
                refine W.widen (k := 0) (n := 0) (by omega) (by omega) ?_
                exact W.iret (v := 3) hx hb hr (fun t ht hWm => ⟨⟨3, (), rfl, (Or.inr ⟨gg_116, hgt, hsw2, by rw [← hwT]; exact Or.inr ⟨hXP, _, 2, hKY2, Or.inr ⟨rfl, ⟨_, _, hBD, Or.inl ⟨hBH, rfl⟩⟩⟩⟩⟩), ⟨F_468, QTm.mk ht hP hD hO hR, (fun g9 h1 _ => by obtain rfl := Option.some.inj (hgt.symm.trans h1); rw [← hwT]; exact ⟨_, _, _, hF_475, hF_476, hsdS, by omega⟩)⟩⟩, hS.F ht⟩) hS.2.2 dX15_sealOf_310
          ·
            have hBH : ¬ BHOm (TC fc_104 (flI (TC gl mm) (gm 1 jf + 1) ((gd jf) - (gm 1 jf + 1))).length) gg_116.2 gg_116.1 NN_331 f2_332 := fun q => by by_cases c9 : nmV (TC fc_104 (flI (TC gl mm) (gm 1 jf + 1) ((gd jf) - (gm 1 jf + 1))).length) gg_116.2 (tgR (TC fc_104 (flI (TC gl mm) (gm 1 jf + 1) ((gd jf) - (gm 1 jf + 1))).length) gg_116.2 [108] gg_116.1) < 0; exact c_359 (Int32.le_of_lt (Int32.lt_of_lt_of_le c9 (Int32.not_lt.mp (nI_pos (by omega))))); obtain ⟨w, w1, w2, w3⟩ := nmx_y c9; have h8 := q.1; rw [lnW_s w1] at h8; exact c_359 (by rw [w3]; exact (nI_leI (by omega) (by omega)).mpr h8)
            refine lv_iconst (v := 3) hx hb dX15_sealOf_261 (by decide) ?_
            refine W.widen (k := 0) (n := 0) (by omega) (by omega) ?_
            exact W.iret (v := 3) hx hb hr (fun t ht hWm => ⟨⟨3, (), rfl, (Or.inr ⟨gg_116, hgt, hsw2, by rw [← hwT]; exact Or.inr ⟨hXP, _, 2, hKY2, Or.inr ⟨rfl, ⟨_, _, hBD, Or.inl ⟨hBH, rfl⟩⟩⟩⟩⟩), ⟨F_330, QTm.mk ht hP hD hO hR, (fun g9 h1 _ => by obtain rfl := Option.some.inj (hgt.symm.trans h1); rw [← hwT]; exact ⟨_, _, _, hF_341, hF_342, hsdS, by omega⟩)⟩⟩, hS.F ht⟩) hS.2.2 dX15_sealOf_262
        ·
          refine lv_iload hx hb dX15_sealOf_226 (lv_at hl 0 rfl) ?_
          refine W.widen (k := 0) (n := 0) (by omega) (by omega) ?_
          exact W.iret (v := r_307) hx hb hr (fun t ht hWm => ⟨⟨r_307, (), rfl, (Or.inr ⟨gg_116, hgt, hsw2, by rw [← hwT]; exact Or.inr ⟨hXP, _, _, hKY, Or.inl ⟨c_328, rfl⟩⟩⟩), ⟨F_308, QTm.mk ht hP hD hO hR, (fun g9 h1 _ => by obtain rfl := Option.some.inj (hgt.symm.trans h1); rw [← hwT]; exact ⟨_, _, _, hF_314, hF_315, hsdS, by omega⟩)⟩⟩, hS.F ht⟩) hS.2.2 dX15_sealOf_228
      ·
        have hi_569 : j < 12 := ltN (N := 12) c_282
        have hj12 : j < 12 := Nat.not_le.mp (fun q => c_282 ((nI_leI (by omega) (by omega)).mpr q))
        refine lv_aload_n hx hb dX15_sealOf_171 rfl (lv_at hl 1 rfl) ?_
        refine pg_get (ci := 15) (v := .ref wh) (C := RX15) (T := TX15) (N := 59) hx hb hts it_15 hown hK hP hL_h0 hF_276 rfl 49 (by decide) (hts _ kt_924) (fun _ h9 => h9) rfl dX15_sealOf_172 ?_
        obtain ⟨q_570, v_571, hr_q_570, hX_q_570⟩ := hG.2.2 ("PostGateModel", 514, "._domainkey.", [46, 95, 100, 111, 109, 97, 105, 110, 107, 101, 121, 46]) (by decide +kernel)
        have hX_q_570 : SXc q_570 v_571 12 (cct [46, 95, 100, 111, 109, 97, 105, 110, 107, 101, 121, 46]) A s s.heap := hX_q_570
        obtain ⟨xo_q_570, xc_q_570, xv_q_570, xt_q_570, xn_q_570⟩ := id hX_q_570
        have hr_q_570 : vk_R "PostGateModel" 514 "._domainkey." q_570 s := hr_q_570
        refine va_ldcwS hx hb hown hr_q_570 dX15_sealOf_175 ?_
        refine lv_iload hx hb dX15_sealOf_178 (lv_at hl 0 rfl) ?_
        have hFc := pg_free hD hS hA
        refine va_calli (va_runV (As := [.int (nI j)]) (rest := [.ref wh]) ⟨hx, hb, hml, hown, hts⟩ (m_J0_charAt_5068e l dC dI cs ty gm L H.size F_255 q_570 v_571 12 (cct [46, 95, 100, 111, 109, 97, 105, 110, 107, 101, 121, 46]) j hW (hj12)) ⟨callB_of 1 hts (gi kt_75) rfl rfl rfl (hts _ kt_51) (hts _ kt_693) (by decide +kernel) ⟨Nat.le_of_ble_eq_true rfl, Nat.le_of_ble_eq_true rfl⟩, (hts _ kt_77), (hts _ kt_78)⟩ ⟨fun a U g mk q => ⟨q.1, PTEm.calling q.2⟩, sx_recv hX_q_570.sx hS, fun U hU hWm => ⟨rfl, PTEm.mk hU hWm hP hK hD hE hO hG (fun x hx => by rw [List.mem_singleton] at hx; subst hx; exact hX_q_570) hS hFc⟩⟩ rfl rfl hl.1 rfl (lv_room (Nat.le_of_ble_eq_true rfl)) dX15_sealOf_180 ⟨by show _ + 0 ≤ 0; omega, by show _ + 0 ≤ 0; omega⟩) hS (fun q _ h => hFc q h) hFc (fun r_572 u t H1 locs ht hvm hw hB hz1 hk1 hS => ?_)
        obtain ⟨F_573, hB1⟩ := hB
        obtain rfl : F_255 = F_573 := (funext (fun a => hB1.2.2.2 a List.not_mem_nil)).symm
        obtain ⟨hP, hD, hO, hR⟩ := QTm.back hB1 ht hFc hR (fun q h => absurd h List.not_mem_nil)
        generalize H1 = H at hP hS ⊢
        have hw : r_572 = chv ((cct [46, 95, 100, 111, 109, 97, 105, 110, 107, 101, 121, 46]) j) := hw
        subst hw
        have hCL12 : CLI (cct [46, 95, 100, 111, 109, 97, 105, 110, 107, 101, 121, 46]) 12 [46, 95, 100, 111, 109, 97, 105, 110, 107, 101, 121, 46] := ⟨rfl, by decide +kernel⟩
        refine lv_topi (fun x9 ex9 => ?_)
        obtain rfl : x9 = nI ([46, 95, 100, 111, 109, 97, 105, 110, 107, 101, 121, 46].getD j 0) := ex9.trans (hCL12.2 j hj12).1
        obtain ⟨hq_574, hq_575⟩ := hW.octs hi_42 ht_43
        have hFc := pg_free hD hS hA
        refine va_callv (va_runV (As := [.int (nI ([46, 95, 100, 111, 109, 97, 105, 110, 107, 101, 121, 46].getD j 0))]) (rest := []) ⟨hx, hb, hml, hown, hts⟩ (s_X14_add_8 l dC dI cs ty gm L H.size F_255 wh (ρ + 24) rwh 6000 ((gg_116.2 2 js - (gg_116.2 1 js + 1)) + j) ([46, 95, 100, 111, 109, 97, 105, 110, 107, 101, 121, 46].getD j 0) fq hW hL_wh hT_wh ha2 ha3 (by omega) ((hCL12.2 j hj12).2)) ⟨callB_of 1 hts (gi kt_711) rfl rfl rfl (hts _ kt_676) (hts _ kt_712) (by decide +kernel) ⟨Nat.le_of_ble_eq_true rfl, Nat.le_of_ble_eq_true rfl⟩, (hts _ kt_713), (hts _ kt_714)⟩ ⟨fun a U g mk q => ⟨q.1, PTm.calling q.2⟩, pg_recv hK hP hL_wh ha2 (q := (RX14, TX14, 2)) rfl, fun U hU hWm => ⟨rfl, PTm.mk hU hWm hP hK hD hE hO⟩⟩ rfl rfl hl.1 rfl (lv_room (Nat.le_of_ble_eq_true rfl)) dX15_sealOf_183 ⟨by show _ + 0 ≤ 0; omega, by show _ + 0 ≤ 0; omega⟩) hS (fun q _ h => hFc q h) hFc (fun u t H1 locs ht hvm hw hB hz1 hk1 hS => ?_)
        obtain ⟨F_577, hB1, hq_578, hq_579⟩ := hB
        obtain ⟨hP, hD, hO, hR⟩ := QTm.back hB1 ht hFc hR (fun q h => by simp only [List.mem_cons, List.not_mem_nil, or_false] at h ⊢; omega)
        have hF_580 : F_577 ml = .inl (cs 17, 3000, .inl gl) := (hB1.2.2.2 ml (by rw [ht_49]; simp)).trans hF_261
        have hF_581 : F_577 co = .inl (cs 16, 21, .inl f_88) := (hB1.2.2.2 co (by rw [ht_87]; simp)).trans hF_262
        have hF_582 : F_577 sp = .inl (cs 16, 21, .inl f_95) := (hB1.2.2.2 sp (by rw [ht_94]; simp)).trans hF_263
        have hF_583 : F_577 sd = .inr (14, [.ref rsd, .int (nI ((gg_116.2 2 jd) - (gg_116.2 1 jd + 1)))]) := (hB1.2.2.2 sd (by rw [hT_sd]; simp)).trans kb_sd
        have hF_584 : F_577 rsd = .inl (cs 17, 3000, .inl fc_180) := (hB1.2.2.2 rsd (by rw [ht_46]; simp)).trans kb_rsd
        have hF_585 : F_577 se = .inr (13, [.ref sx, .ref s0, .ref s1, .ref s2, .int (nI gg_116.1)]) := (hB1.2.2.2 se (by rw [ht_27]; simp)).trans kb_se
        have hF_586 : F_577 sx = .inr (14, [.ref sb, .int (nI (flI (TC gl mm) (gm 1 jf + 1) ((gd jf) - (gm 1 jf + 1))).length)]) := (hB1.2.2.2 sx (by rw [hT_sx]; simp)).trans kb_sx
        have hF_587 : F_577 sb = .inl (cs 17, 3000, .inl fc_104) := (hB1.2.2.2 sb (by rw [ht_37]; simp)).trans kb_sb
        have hF_588 : F_577 s0 = .inl (cs 16, 40, .inl p0_119) := (hB1.2.2.2 s0 (by rw [ht_31]; simp)).trans kb_s0
        have hF_589 : F_577 s1 = .inl (cs 16, 40, .inl p1_120) := (hB1.2.2.2 s1 (by rw [ht_32]; simp)).trans kb_s1
        have hF_590 : F_577 s2 = .inl (cs 16, 40, .inl p2_121) := (hB1.2.2.2 s2 (by rw [ht_33]; simp)).trans kb_s2
        have hF_591 : F_577 sa = .inl (cs 17, 32, .inl f9_122) := (hB1.2.2.2 sa (by rw [ht_57]; simp)).trans kb_sa
        have hF_592 : F_577 n64 = .inl (cs 17, 64, .inl f8_123) := (hB1.2.2.2 n64 (by rw [ht_61]; simp)).trans kb_n64
        have hF_593 : F_577 h0 = .inr (15, (.ref ta) :: (.int (nI zt)) :: (.int (nI zo)) :: (.int (nI ze)) :: (.ref ou) :: (.ref so) :: (.ref ad) :: (.ref na) :: (.ref va) :: (.ref lc) :: (.ref dm) :: (.int (nI fm)) :: (.int (nI sn)) :: (.ref tg) :: (.int v14_264) :: (.int v15_265) :: (.ref pe) :: (.int v17_266) :: (.int v18_267) :: (.int v19_268) :: (.int v20_269) :: (.int v21_270) :: (.int v22_271) :: (.ref ml) :: (.ref bg) :: (.ref co) :: (.ref sp) :: (.ref nb0) :: (.ref nb1) :: (.ref nb2) :: (.int (nI nf)) :: (.int (nI bd)) :: (.int (nI mm)) :: (.int v33_272) :: (.ref pl) :: (.ref se) :: (.ref ke) :: (.ref wi) :: (.ref hs) :: (.ref mo) :: (.ref po) :: (.ref nu) :: (.ref pr) :: (.ref sq) :: (.ref xa) :: (.ref sa) :: (.ref n64) :: (.ref m64) :: (.ref ex) :: (.ref wh) :: (.ref sd) :: (.ref tk) :: (.int v52_273) :: (.int v53_274) :: (.int v54_275) :: (.ref hd) :: (.ref ak) :: (.ref ho) :: (.ref ot) :: []) := (hB1.2.2.2 h0 (by rw [hT_h0]; simp)).trans hF_276
        generalize H1 = H at hP hS ⊢
        refine lv_iinc (v := (nI (j + 1))) (lv' := [(6, .int (nI (j + 1))), (0, .ref h0), (1, .int (nI jf)), (2, .int (nI nw))]) hx hb dX15_sealOf_186 hl (k := 0) rfl (nI_1 _) (by decide) rfl (fun ls hl => ?_)
        refine lv_goto (tgt := 164) hx hb dX15_sealOf_189 (by decide) ?_
        refine W.widen (k := 0) (n := 0) (by omega) (by omega) ?_
        exact ih_260 ((j + 1), (upd fq ((gg_116.2 2 js - (gg_116.2 1 js + 1)) + j) (nI ([46, 95, 100, 111, 109, 97, 105, 110, 107, 101, 121, 46].getD j 0)))) F_577 (⟨⟨by omega, hq_578, hq_579, by have h9 := src_a ha4 (c := [46, 95, 100, 111, 109, 97, 105, 110, 107, 101, 121, 46].getD j 0) (hCL12.2 j hj12).2; rw [List.append_assoc, tk_s (l := []) [46, 95, 100, 111, 109, 97, 105, 110, 107, 101, 121, 46] j hj12] at h9; exact h9⟩, hF_583, hF_584, hF_585, hF_586, hF_587, hF_588, hF_589, hF_590, hF_591, hF_592, (by rw [hF_593]; exact kb_52e), (by rw [hF_593]; exact kb_53e)⟩) (by show 12 - (j + 1) < 12 - j; omega) hO hR _ _ hP hD hS ls (lv_sub hl [0, 1, 2, 3] rfl)
    ·
      refine lv_iload hx hb dX15_sealOf_109 (lv_at hl 0 rfl) ?_
      refine lv_if_lt (tgt := 122) hx hb dX15_sealOf_111 (by decide) (fun c_594 => ?_) (fun c_594 => ?_)
      ·
        have hXP : ¬ XPD (TC fc_104 (flI (TC gl mm) (gm 1 jf + 1) ((gd jf) - (gm 1 jf + 1))).length) gg_116.2 gg_116.1 nw := fun q => by obtain ⟨w, w1, w2⟩ := q; rw [nmx_n hsw.2.2.2.2.2.2.2.2.2 c_594] at w1; exact nomatch w1
        refine W.widen (k := 0) (n := 0) (by omega) (by omega) ?_
        exact jn_198 () F_179 (⟨hXP, hq_181, hq_182, hF_189, hF_187, hF_188, hF_190, hF_191, hF_192, hF_193, hF_194, (by rw [hF_195]; rfl), (by rw [hF_195]; rfl)⟩) hO hR _ _ hP hD hS ls (lv_sub hl [1, 3, 4, 5] rfl)
      ·
        obtain ⟨xw, hxw1, hxw2, hxw3⟩ := nmx_y c_594
        refine lv_iload_n hx hb dX15_sealOf_114 rfl (lv_at hl 5 rfl) ?_
        refine lv_iload hx hb dX15_sealOf_115 (lv_at hl 0 rfl) ?_
        refine lv_icmp_le (tgt := 122) hx hb dX15_sealOf_117 (by decide) (fun c_595 => ?_) (fun c_595 => ?_)
        ·
          have hXP : ¬ XPD (TC fc_104 (flI (TC gl mm) (gm 1 jf + 1) ((gd jf) - (gm 1 jf + 1))).length) gg_116.2 gg_116.1 nw := fun q => by obtain ⟨w, w1, w2⟩ := q; obtain rfl := Option.some.inj (hxw1.symm.trans w1); have h8 := c_595; rw [hxw3] at h8; have h9 : nw ≤ xw := (nI_leI (by omega) (by omega)).mp h8; omega
          refine W.widen (k := 0) (n := 0) (by omega) (by omega) ?_
          exact jn_198 () F_179 (⟨hXP, hq_181, hq_182, hF_189, hF_187, hF_188, hF_190, hF_191, hF_192, hF_193, hF_194, (by rw [hF_195]; rfl), (by rw [hF_195]; rfl)⟩) hO hR _ _ hP hD hS ls (lv_sub hl [1, 3, 4, 5] rfl)
        ·
          have hXP : XPD (TC fc_104 (flI (TC gl mm) (gm 1 jf + 1) ((gd jf) - (gm 1 jf + 1))).length) gg_116.2 gg_116.1 nw := ⟨xw, hxw1, Nat.not_le.mp (fun q => c_595 (by rw [hxw3]; exact (nI_leI (by omega) (by omega)).mpr q))⟩
          refine lv_iconst (v := 3) hx hb dX15_sealOf_120 (by decide) ?_
          refine W.widen (k := 0) (n := 0) (by omega) (by omega) ?_
          exact W.iret (v := 3) hx hb hr (fun t ht hWm => ⟨⟨3, (), rfl, (Or.inr ⟨gg_116, hgt, hsw2, by rw [← hwT]; exact Or.inl ⟨hXP, rfl⟩⟩), ⟨F_179, QTm.mk ht hP hD hO hR, (fun g9 h1 _ => by obtain rfl := Option.some.inj (hgt.symm.trans h1); rw [← hwT]; exact ⟨_, _, _, hq_181, hq_182, hsdS, by omega⟩)⟩⟩, hS.F ht⟩) hS.2.2 dX15_sealOf_121
  ·
    have hNW : ¬ SWL (flT (TC gl mm) (gm 1 jf + 1) ((gd jf) - (gm 1 jf + 1))) (flI (TC gl mm) (gm 1 jf + 1) ((gd jf) - (gm 1 jf + 1))).length := by rcases hWL with q | q; exact absurd (q.1.symm.trans c_139) (by decide); rw [hwT] at q; exact q.2
    refine lv_iconst (v := 1) hx hb dX15_sealOf_35 (by decide) ?_
    refine W.widen (k := 0) (n := 0) (by omega) (by omega) ?_
    exact W.iret (v := 1) hx hb hr (fun t ht hWm => ⟨⟨1, (), rfl, (Or.inl ⟨hNW, rfl⟩), ⟨F_118, QTm.mk ht hP hD hO hR, (fun g9 h1 h2 => absurd ⟨g9, h1, h2⟩ hNW)⟩⟩, hS.F ht⟩) hS.2.2 dX15_sealOf_36
