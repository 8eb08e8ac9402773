def LOC (c : Int32) : Bool := decide ((c = 46 ∨ c = 45 ∨ c = 95 ∨ c = 43) ∨ (97 ≤ c ∧ c ≤ 122) ∨ (48 ≤ c ∧ c ≤ 57))
theorem loc_m {c : Int32} (h : c = 46 ∨ c = 45 ∨ c = 95 ∨ c = 43) : LOC c = true := decide_eq_true (Or.inl h)
theorem loc_s {c : Int32} (h : 97 ≤ c ∧ c ≤ 122) : LOC c = true := decide_eq_true (Or.inr (Or.inl h))
theorem loc_d {c : Int32} (h : 48 ≤ c ∧ c ≤ 57) : LOC c = true := decide_eq_true (Or.inr (Or.inr h))
theorem loc_n {c : Int32} (h1 : ¬ (c = 46 ∨ c = 45 ∨ c = 95 ∨ c = 43)) (h2 : ¬ (97 ≤ c ∧ c ≤ 122)) (h3 : ¬ (48 ≤ c ∧ c ≤ 57)) : LOC c = false := decide_eq_false (fun q => q.elim h1 (fun q => q.elim h2 h3))
def LCL (f : Nat → Int32) (e : Nat) : Prop := 1 ≤ e ∧ e ≤ 30 ∧ ∀ j, j < e → LOC (f j) = true
def SND (f : Nat → Int32) (z : Nat) : Prop := ∃ k, FST f 64 z k ∧ LCL f k ∧ NM f (k + 1) z = true
theorem lcl_n {f : Nat → Int32} {e i : Nat} (hi : i < e) (h : LOC (f i) = false) : ¬ LCL f e := fun q => by
  have h9 := q.2.2 i hi
  rw [h] at h9
  exact absurd h9 (by decide)
theorem lcl1 {f : Nat → Int32} {e : Nat} {r : Int32} (h : (r = 1 ∧ LCL f e) ∨ (r = 0 ∧ ¬ LCL f e)) (c : ¬ r = 0) : LCL f e := h.elim And.right (fun q => absurd q.1 c)
theorem lcl0 {f : Nat → Int32} {e : Nat} {r : Int32} (h : (r = 1 ∧ LCL f e) ∨ (r = 0 ∧ ¬ LCL f e)) (c : r = 0) : ¬ LCL f e := h.elim (fun q => absurd (q.1.symm.trans c) (by decide)) And.right
theorem snd_n {f : Nat → Int32} {z k : Nat} (hk : FST f 64 z k) (h : ¬ (LCL f k ∧ NM f (k + 1) z = true)) : ¬ SND f z := fun q => by
  obtain ⟨k9, q1, q2⟩ := q
  rw [q1.uniq hk] at q2
  exact h q2
theorem sub_lt1 {a b : Nat} (ha : a ≤ 20000) (hb : b ≤ 20000) : nI b - nI a < 1 ↔ ¬ a + 1 ≤ b := by
  have h1 : (1 : Int32).toInt = 1 := by decide
  rw [Int32.lt_iff_toInt_lt, pk_sub_toInt (by omega) (by omega), h1]
  omega
theorem sub_le60 {a b : Nat} (ha : a ≤ 20000) (hb : b ≤ 20000) : nI b - nI a ≤ 60 ↔ b ≤ a + 60 := by
  have h1 : (60 : Int32).toInt = 60 := by decide
  rw [Int32.le_iff_toInt_le, pk_sub_toInt (by omega) (by omega), h1]
  omega
theorem bz1 {r : Int32} {P : Prop} (h : (r = 1 ∧ P) ∨ (r = 0 ∧ ¬ P)) (c : ¬ r = 0) : P := h.elim And.right (fun q => absurd q.1 c)
theorem bz0 {r : Int32} {P : Prop} (h : (r = 1 ∧ P) ∨ (r = 0 ∧ ¬ P)) (c : r = 0) : ¬ P := h.elim (fun q => absurd (q.1.symm.trans c) (by decide)) And.right
theorem bzN {r : Int32} {P : Prop} (h : (r = 1 ∧ P) ∨ (r = 0 ∧ ¬ P)) : r = 0 ∨ r = 1 := h.elim (fun q => Or.inr q.1) (fun q => Or.inl q.1)
set_option maxHeartbeats 4000000 in
set_option maxRecDepth 100000 in
theorem s_X0_isName_g (l : Launch) (dC : Nat → ClassId) (dI : Nat → Nat → Nat) (cs : Nat → ClassId) (ty : TyM) (L : List Nat) (sz : Nat) (F : Nat → va_E) (h0 : Nat) (ρ : Nat) (r0 : Nat) (n : Nat) (z : Nat) (a : Nat) (b : Nat) (f : Nat → Int32) (hW : WT ty L) (hL_h0 : h0 ∈ L) (hT_h0 : ty h0 = (0, ρ, [r0, n])) (hF0 : F h0 = .inr (0, [.ref r0, .int (nI z), .int 0])) (hFr : F r0 = .inl (cs 16, n, .inl f)) (hzn : z ≤ n) (hn9 : n ≤ 10000) (ha9 : a ≤ 20000) (hbz : b ≤ z) : Met l yX0_isName (.code yX0_isName cX0_isName 7 (some .boolean) :: tb) ({ frames := 1, cells := 0, slots := 0, locals := 21 }) (va_Pc [.ref h0, .int (nI a), .int (nI b)] (PT (dC, dI) cs ty L F sz)) (va_Qi (fun (r : Int32) (_ : Unit) => r = (if NM f a b = true then 1 else 0)) (fun _ T9 => ∃ F2 : Nat → va_E, QT (dC, dI) cs ty L [] F F2 (va_A (va_pl L F) sz) T9) (va_A (va_pl L F) sz)) 0 0 (va_A (va_pl L F) sz) := by
  refine Met.ofW (cc := cX0_isName) (maxL := 7) (ret := (some .boolean)) (by decide) rfl ?_
  intro p e s m args below meth c s₁ B hml hv
  obtain ⟨rfl, hsz, hP, hK, hD0, hE, hO⟩ := hv
  have hx := B.exec
  have hb := B.bytes
  have hr := B.returns
  have hts : ∀ w ∈ tb, w.before _ s = true := fun w h => atoms_spec (ws := .code yX0_isName cX0_isName 7 (some .boolean) :: tb) B.pre w (List.mem_cons_of_mem _ h)
  have hown : s.vm.findClass RX0 = some m.cls := findClass_of_methodNamed B.named
  have hlocks := B.notSynchronized
  subst hsz
  have hD := hD0.self (sz := s.heap.size)
  generalize hAe : va_A (va_pl L F) s.heap.size = A at hD ⊢
  have hA : ∀ q : Nat, s.heap.size ≤ q → A q := fun q h => by rw [← hAe]; exact Or.inr h
  have hS : va_S A s.heap s.heap [] := va_S.rf
  have hR : FR ty [] F F := FR.refl
  have hl := lv_entry ([.ref h0, .int (nI a), .int (nI b)]) (n := 7) (Nat.le_of_ble_eq_true rfl)
  rw [lg_entry_eq]
  generalize (lg_sl ([.ref h0, .int (nI a), .int (nI b)]) ++ List.replicate (7 - (lg_sl ([.ref h0, .int (nI a), .int (nI b)])).length) Slot.unset).toArray = ls at hl ⊢
  have hl : lv_has ls 7 [(0, .ref h0), (1, .int (nI a)), (2, .int (nI b))] := hl
  refine lv_aload_n hx hb dX0_isName_0 rfl (lv_at hl 0 rfl) ?_
  obtain ⟨hi_1, ht_2, hq_3⟩ := hW.bytes hL_h0 hT_h0
  refine pg_get (ci := 0) (v := .int 0) (C := RX0) (T := TX0) (N := 3) hx hb hts it_0 hown hK hP hL_h0 hF0 rfl 2 (by decide) (hts _ kt_11) (fun _ h9 => h9) rfl dX0_isName_1 ?_
  refine lv_if_ne (tgt := 22) hx hb dX0_isName_4 (by decide) (fun c_4 => absurd (by decide) c_4) (fun c_4 => ?_)
  refine lv_iload_n hx hb dX0_isName_7 rfl (lv_at hl 2 rfl) ?_
  refine lv_iload_n hx hb dX0_isName_8 rfl (lv_at hl 1 rfl) ?_
  refine lv_isub hx hb dX0_isName_9 ?_
  refine lv_topi (fun x_5 ex_5 => ?_)
  obtain rfl : x_5 = ((nI b) - nI a) := ex_5.trans (rfl)
  refine lv_iconst (v := 1) hx hb dX0_isName_10 (by decide) ?_
  refine lv_icmp_lt (tgt := 22) hx hb dX0_isName_11 (by decide) (fun c_6 => ?_) (fun c_6 => ?_)
  ·
    have hl1 : ¬ a + 1 ≤ b := (sub_lt1 (by omega) (by omega)).mp c_6
    refine lv_iconst (v := 0) hx hb dX0_isName_22 (by decide) ?_
    refine W.widen (k := 0) (n := 0) (by omega) (by omega) ?_
    exact W.zret (v := 0) (ty := .boolean) hx hb hr (by decide) (fun t ht hWm => ⟨⟨0, (), rfl, (nm_len (fun q => by omega)), ⟨F, QT.mk ht hP hD hO hR⟩⟩, hS.F ht⟩) hS.2.2 dX0_isName_23
  ·
    have hl1 : a + 1 ≤ b := Decidable.of_not_not (fun q => c_6 ((sub_lt1 (by omega) (by omega)).mpr q))
    refine lv_iload_n hx hb dX0_isName_14 rfl (lv_at hl 2 rfl) ?_
    refine lv_iload_n hx hb dX0_isName_15 rfl (lv_at hl 1 rfl) ?_
    refine lv_isub hx hb dX0_isName_16 ?_
    refine lv_topi (fun x_7 ex_7 => ?_)
    obtain rfl : x_7 = ((nI b) - nI a) := ex_7.trans (rfl)
    refine lv_bipush (v := 60) hx hb dX0_isName_17 (by decide) ?_
    refine lv_icmp_le (tgt := 24) hx hb dX0_isName_19 (by decide) (fun c_8 => ?_) (fun c_8 => ?_)
    ·
      have hl2 : b ≤ a + 60 := (sub_le60 (by omega) (by omega)).mp c_8
      refine lv_iconst (v := 0) hx hb dX0_isName_24 (by decide) ?_
      refine lv_istore_n (lv' := [(3, .int 0), (0, .ref h0), (1, .int (nI a)), (2, .int (nI b))]) hx hb dX0_isName_25 rfl hl (by decide) rfl (fun ls hl => ?_)
      refine lv_iload_n hx hb dX0_isName_26 rfl (lv_at hl 2 rfl) ?_
      refine lv_istore (lv' := [(4, .int (nI a)), (3, .int 0), (0, .ref h0), (1, .int (nI a)), (2, .int (nI b))]) hx hb dX0_isName_27 hl (by decide) rfl (fun ls hl => ?_)
      refine W.widen (k := 0) (n := 0) (by omega) (by omega) ?_
      refine pl_loop (σ := Nat × Nat) A (dC, dI) cs ty L [] F 29 7 (fun (i1, p1) => [(4, .int (nI i1)), (3, .int (nI p1)), (0, .ref h0), (1, .int (nI a)), (2, .int (nI b))]) (fun (i1, p1) => []) (fun (i1, p1) _ => a ≤ i1 ∧ i1 ≤ b ∧ p1 ≤ 20 ∧ nmw f (b - i1) i1 p1 = nmw f (b - a) a 0) (fun (i1, p1) => b - i1) ?_ (a, 0) F (⟨by omega, by omega, by omega, rfl⟩) hO hR _ _ hP hD hS ls (lv_sub hl [0, 1, 2, 3, 4] rfl)
      rintro ⟨i1, p1⟩ F_9 hv_10 hO hR ih_11 H locs hP hD hS ls hl
      have hl : lv_has ls 7 [(4, .int (nI i1)), (3, .int (nI p1)), (0, .ref h0), (1, .int (nI a)), (2, .int (nI b))] := hl
      have hv_10 : a ≤ i1 ∧ i1 ≤ b ∧ p1 ≤ 20 ∧ nmw f (b - i1) i1 p1 = nmw f (b - a) a 0 := hv_10
      refine W.eq (g2 := F0 m 29 ls []) rfl ?_
      obtain rfl : F = F_9 := (funext (fun a => hR a List.not_mem_nil)).symm
      obtain ⟨hv1, hv2, hv3, hv4⟩ := id hv_10
      refine lv_iload hx hb dX0_isName_29 (lv_at hl 0 rfl) ?_
      refine lv_iload_n hx hb dX0_isName_31 rfl (lv_at hl 4 rfl) ?_
      refine lv_icmp_ge (tgt := 126) hx hb dX0_isName_32 (by decide) (fun c_12 => ?_) (fun c_12 => ?_)
      ·
        have hi_13 : b ≤ i1 := leN (N := b) c_12
        obtain rfl : i1 = b := by have h9 : b ≤ i1 := (nI_leI (by omega) (by omega)).mp c_12; omega
        refine lv_iload_n hx hb dX0_isName_126 rfl (lv_at hl 1 rfl) ?_
        refine lv_if_le (tgt := 134) hx hb dX0_isName_127 (by decide) (fun c_14 => ?_) (fun c_14 => ?_)
        ·
          refine lv_iconst (v := 0) hx hb dX0_isName_134 (by decide) ?_
          refine W.widen (k := 0) (n := 0) (by omega) (by omega) ?_
          exact W.zret (v := 0) (ty := .boolean) hx hb hr (by decide) (fun t ht hWm => ⟨⟨0, (), rfl, (nm_z hl1 hl2 ((nm_end hv4).trans (decide_eq_false (fun q => absurd ((nI_leI (b := 0) (by omega) (by omega)).mp c_14) (by omega))))), ⟨F, QT.mk ht hP hD hO hR⟩⟩, hS.F ht⟩) hS.2.2 dX0_isName_135
        ·
          refine lv_iconst (v := 1) hx hb dX0_isName_130 (by decide) ?_
          refine lv_goto (tgt := 135) hx hb dX0_isName_131 (by decide) ?_
          refine W.widen (k := 0) (n := 0) (by omega) (by omega) ?_
          exact W.zret (v := 1) (ty := .boolean) hx hb hr (by decide) (fun t ht hWm => ⟨⟨1, (), rfl, (nm_o hl1 hl2 ((nm_end hv4).trans (decide_eq_true (Nat.pos_of_ne_zero (fun q => c_14 (by rw [q]; decide)))))), ⟨F, QT.mk ht hP hD hO hR⟩⟩, hS.F ht⟩) hS.2.2 dX0_isName_135
      ·
        have hi_17 : i1 < b := ltN (N := b) c_12
        have hib : i1 < b := Nat.not_le.mp (fun q => c_12 ((nI_leI (by omega) (by omega)).mpr q))
        refine lv_aload_n hx hb dX0_isName_35 rfl (lv_at hl 2 rfl) ?_
        refine lv_iload hx hb dX0_isName_36 (lv_at hl 0 rfl) ?_
        have hFc := pg_free hD hS hA
        refine va_calli (va_runV (As := [.int (nI i1)]) (rest := []) ⟨hx, hb, hml, hown, hts⟩ (s_X0_at_e l dC dI cs ty L H.size F h0 ρ r0 n z i1 f hW hL_h0 hT_h0 hF0 hFr (by omega) (by omega) (by omega)) ⟨callB_of 1 hts (gi kt_21) rfl rfl rfl (hts _ kt_1) (hts _ kt_22) (by decide +kernel) ⟨Nat.le_of_ble_eq_true rfl, Nat.le_of_ble_eq_true rfl⟩, (hts _ kt_23), (hts _ kt_24)⟩ ⟨fun a U g mk q => ⟨q.1, PT.calling q.2⟩, pg_recv hK hP hL_h0 hF0 (q := (RX0, TX0, 3)) rfl, fun U hU hWm => ⟨rfl, PT.mk hU hWm hP hK hD hE hO⟩⟩ rfl rfl hl.1 rfl (lv_room (Nat.le_of_ble_eq_true rfl)) dX0_isName_38 ⟨by show _ + 0 ≤ 0; omega, by show _ + 0 ≤ 0; omega⟩) hS (fun q _ h => hFc q h) hFc (fun r_18 u t H1 locs ht hvm hw hB hz1 hk1 hS => ?_)
        obtain ⟨F_19, hB1⟩ := hB
        obtain rfl : F = F_19 := (funext (fun a => hB1.2.2.2 a List.not_mem_nil)).symm
        obtain ⟨hP, hD, hO, hR⟩ := QT.back hB1 ht hFc hR (fun q h => absurd h List.not_mem_nil)
        generalize H1 = H at hP hS ⊢
        have hw : r_18 = f i1 := hw
        have hw_20 := hw
        subst hw_20
        refine lv_istore (lv' := [(5, .int (f i1)), (4, .int (nI i1)), (3, .int (nI p1)), (0, .ref h0), (1, .int (nI a)), (2, .int (nI b))]) hx hb dX0_isName_41 hl (by decide) rfl (fun ls hl => ?_)
        refine lv_iload hx hb dX0_isName_43 (lv_at hl 0 rfl) ?_
        refine lv_bipush (v := 46) hx hb dX0_isName_45 (by decide) ?_
        refine lv_icmp_ne (tgt := 54) hx hb dX0_isName_47 (by decide) (fun c_21 => ?_) (fun c_21 => ?_)
        ·
          refine lv_iconst (v := 0) hx hb dX0_isName_54 (by decide) ?_
          refine lv_istore (lv' := [(6, .int 0), (5, .int (f i1)), (4, .int (nI i1)), (3, .int (nI p1)), (0, .ref h0), (1, .int (nI a)), (2, .int (nI b))]) hx hb dX0_isName_55 hl (by decide) rfl (fun ls hl => ?_)
          refine lv_iload hx hb dX0_isName_57 (lv_at hl 0 rfl) ?_
          refine lv_if_eq (tgt := 69) hx hb dX0_isName_59 (by decide) (fun c_22 => ?_) (fun c_22 => absurd (by decide) c_22)
          refine lv_iload_n hx hb dX0_isName_69 rfl (lv_at hl 3 rfl) ?_
          refine lv_bipush (v := 20) hx hb dX0_isName_70 (by decide) ?_
          refine lv_icmp_eq (tgt := 105) hx hb dX0_isName_72 (by decide) (fun c_23 => ?_) (fun c_23 => ?_)
          ·
            refine lv_iconst (v := 0) hx hb dX0_isName_105 (by decide) ?_
            refine W.widen (k := 0) (n := 0) (by omega) (by omega) ?_
            exact W.zret (v := 0) (ty := .boolean) hx hb hr (by decide) (fun t ht hWm => ⟨⟨0, (), rfl, (nm_z hl1 hl2 (nm_bad hv4 hib c_21 (Or.inl ((nI_eq (a := p1) (b := 20) (by omega) (by omega)).mp c_23)))), ⟨F, QT.mk ht hP hD hO hR⟩⟩, hS.F ht⟩) hS.2.2 dX0_isName_106
          ·
            refine lv_iload hx hb dX0_isName_75 (lv_at hl 1 rfl) ?_
            have hFc := pg_free hD hS hA
            refine va_calli (va_runS (As := [.int (f i1)]) (rest := []) ⟨hx, hb, hml, hown, hts⟩ (s_X0_isSmall_e l dC dI cs ty L H.size F (f i1) hW ) ⟨callB_of 1 hts (gi kt_4) rfl rfl rfl (hts _ kt_1) (hts _ kt_5) (by decide +kernel) ⟨Nat.le_of_ble_eq_true rfl, Nat.le_of_ble_eq_true rfl⟩, (hts _ kt_6)⟩ ⟨fun a U g mk q => ⟨q.1, PT.calling q.2⟩, fun U hU hWm => ⟨rfl, PT.mk hU hWm hP hK hD hE hO⟩⟩ rfl rfl hl.1 rfl (lv_room (Nat.le_of_ble_eq_true rfl)) dX0_isName_77 ⟨by show _ + 0 ≤ 0; omega, by show _ + 0 ≤ 0; omega⟩) hS (fun q _ h => hFc q h) hFc (fun r_26 u t H1 locs ht hvm hw hB hz1 hk1 hS => ?_)
            obtain ⟨F_27, hB1⟩ := hB
            obtain rfl : F = F_27 := (funext (fun a => hB1.2.2.2 a List.not_mem_nil)).symm
            obtain ⟨hP, hD, hO, hR⟩ := QT.back hB1 ht hFc hR (fun q h => absurd h List.not_mem_nil)
            generalize H1 = H at hP hS ⊢
            have hw : r_26 = (if 97 ≤ (f i1) ∧ (f i1) ≤ 122 then 1 else 0) := hw
            have hw_28 := hw
            refine lv_if_ne (tgt := 107) hx hb dX0_isName_80 (by decide) (fun c_29 => ?_) (fun c_29 => ?_)
            ·
              refine lv_iload hx hb dX0_isName_107 (lv_at hl 0 rfl) ?_
              refine lv_if_eq (tgt := 116) hx hb dX0_isName_109 (by decide) (fun c_30 => ?_) (fun c_30 => absurd (by decide) c_30)
              refine lv_iload_n hx hb dX0_isName_116 rfl (lv_at hl 3 rfl) ?_
              refine lv_iconst (v := 1) hx hb dX0_isName_117 (by decide) ?_
              refine lv_iadd hx hb dX0_isName_118 ?_
              refine lv_topi (fun x_31 ex_31 => ?_)
              obtain rfl : x_31 = (nI (p1 + 1)) := ex_31.trans (nI_1 p1)
              refine lv_istore_n (lv' := [(3, .int (nI (p1 + 1))), (6, .int 0), (5, .int (f i1)), (4, .int (nI i1)), (0, .ref h0), (1, .int (nI a)), (2, .int (nI b))]) hx hb dX0_isName_119 rfl hl (by decide) rfl (fun ls hl => ?_)
              refine lv_iinc (v := (nI (i1 + 1))) (lv' := [(4, .int (nI (i1 + 1))), (3, .int (nI (p1 + 1))), (6, .int 0), (5, .int (f i1)), (0, .ref h0), (1, .int (nI a)), (2, .int (nI b))]) hx hb dX0_isName_120 hl (k := 3) rfl (nI_1 _) (by decide) rfl (fun ls hl => ?_)
              refine lv_goto (tgt := 29) hx hb dX0_isName_123 (by decide) ?_
              refine W.widen (k := 0) (n := 0) (by omega) (by omega) ?_
              exact ih_11 ((i1 + 1), (p1 + 1)) F (⟨by omega, by omega, by have h9 : p1 ≠ 20 := (fun q => c_23 (by rw [q]; rfl)); omega, nm_chr hv4 hib c_21 (fun q => c_23 (by rw [q]; rfl)) (decide_eq_true (Or.inl (ifb1 hw_28 c_29)))⟩) (by show b - (i1 + 1) < b - i1; omega) hO hR _ _ hP hD hS ls (lv_sub hl [0, 1, 4, 5, 6] rfl)
            ·
              refine lv_iload hx hb dX0_isName_83 (lv_at hl 1 rfl) ?_
              have hFc := pg_free hD hS hA
              refine va_calli (va_runS (As := [.int (f i1)]) (rest := []) ⟨hx, hb, hml, hown, hts⟩ (s_X0_isDigit_e l dC dI cs ty L H.size F (f i1) hW ) ⟨callB_of 1 hts (gi kt_7) rfl rfl rfl (hts _ kt_1) (hts _ kt_8) (by decide +kernel) ⟨Nat.le_of_ble_eq_true rfl, Nat.le_of_ble_eq_true rfl⟩, (hts _ kt_9)⟩ ⟨fun a U g mk q => ⟨q.1, PT.calling q.2⟩, fun U hU hWm => ⟨rfl, PT.mk hU hWm hP hK hD hE hO⟩⟩ rfl rfl hl.1 rfl (lv_room (Nat.le_of_ble_eq_true rfl)) dX0_isName_85 ⟨by show _ + 0 ≤ 0; omega, by show _ + 0 ≤ 0; omega⟩) hS (fun q _ h => hFc q h) hFc (fun r_32 u t H1 locs ht hvm hw hB hz1 hk1 hS => ?_)
              obtain ⟨F_33, hB1⟩ := hB
              obtain rfl : F = F_33 := (funext (fun a => hB1.2.2.2 a List.not_mem_nil)).symm
              obtain ⟨hP, hD, hO, hR⟩ := QT.back hB1 ht hFc hR (fun q h => absurd h List.not_mem_nil)
              generalize H1 = H at hP hS ⊢
              have hw : r_32 = (if 48 ≤ (f i1) ∧ (f i1) ≤ 57 then 1 else 0) := hw
              have hw_34 := hw
              refine lv_if_ne (tgt := 107) hx hb dX0_isName_88 (by decide) (fun c_35 => ?_) (fun c_35 => ?_)
              ·
                refine lv_iload hx hb dX0_isName_107 (lv_at hl 0 rfl) ?_
                refine lv_if_eq (tgt := 116) hx hb dX0_isName_109 (by decide) (fun c_36 => ?_) (fun c_36 => absurd (by decide) c_36)
                refine lv_iload_n hx hb dX0_isName_116 rfl (lv_at hl 3 rfl) ?_
                refine lv_iconst (v := 1) hx hb dX0_isName_117 (by decide) ?_
                refine lv_iadd hx hb dX0_isName_118 ?_
                refine lv_topi (fun x_37 ex_37 => ?_)
                obtain rfl : x_37 = (nI (p1 + 1)) := ex_37.trans (nI_1 p1)
                refine lv_istore_n (lv' := [(3, .int (nI (p1 + 1))), (6, .int 0), (5, .int (f i1)), (4, .int (nI i1)), (0, .ref h0), (1, .int (nI a)), (2, .int (nI b))]) hx hb dX0_isName_119 rfl hl (by decide) rfl (fun ls hl => ?_)
                refine lv_iinc (v := (nI (i1 + 1))) (lv' := [(4, .int (nI (i1 + 1))), (3, .int (nI (p1 + 1))), (6, .int 0), (5, .int (f i1)), (0, .ref h0), (1, .int (nI a)), (2, .int (nI b))]) hx hb dX0_isName_120 hl (k := 3) rfl (nI_1 _) (by decide) rfl (fun ls hl => ?_)
                refine lv_goto (tgt := 29) hx hb dX0_isName_123 (by decide) ?_
                refine W.widen (k := 0) (n := 0) (by omega) (by omega) ?_
                exact ih_11 ((i1 + 1), (p1 + 1)) F (⟨by omega, by omega, by have h9 : p1 ≠ 20 := (fun q => c_23 (by rw [q]; rfl)); omega, nm_chr hv4 hib c_21 (fun q => c_23 (by rw [q]; rfl)) (decide_eq_true (Or.inr (Or.inl (ifb1 hw_34 c_35))))⟩) (by show b - (i1 + 1) < b - i1; omega) hO hR _ _ hP hD hS ls (lv_sub hl [0, 1, 4, 5, 6] rfl)
              ·
                refine lv_iload hx hb dX0_isName_91 (lv_at hl 1 rfl) ?_
                refine lv_bipush (v := 45) hx hb dX0_isName_93 (by decide) ?_
                refine lv_icmp_eq (tgt := 107) hx hb dX0_isName_95 (by decide) (fun c_38 => ?_) (fun c_38 => ?_)
                ·
                  refine lv_iload hx hb dX0_isName_107 (lv_at hl 0 rfl) ?_
                  refine lv_if_eq (tgt := 116) hx hb dX0_isName_109 (by decide) (fun c_39 => ?_) (fun c_39 => absurd (by decide) c_39)
                  refine lv_iload_n hx hb dX0_isName_116 rfl (lv_at hl 3 rfl) ?_
                  refine lv_iconst (v := 1) hx hb dX0_isName_117 (by decide) ?_
                  refine lv_iadd hx hb dX0_isName_118 ?_
                  refine lv_topi (fun x_40 ex_40 => ?_)
                  obtain rfl : x_40 = (nI (p1 + 1)) := ex_40.trans (nI_1 p1)
                  refine lv_istore_n (lv' := [(3, .int (nI (p1 + 1))), (6, .int 0), (5, .int (f i1)), (4, .int (nI i1)), (0, .ref h0), (1, .int (nI a)), (2, .int (nI b))]) hx hb dX0_isName_119 rfl hl (by decide) rfl (fun ls hl => ?_)
                  refine lv_iinc (v := (nI (i1 + 1))) (lv' := [(4, .int (nI (i1 + 1))), (3, .int (nI (p1 + 1))), (6, .int 0), (5, .int (f i1)), (0, .ref h0), (1, .int (nI a)), (2, .int (nI b))]) hx hb dX0_isName_120 hl (k := 3) rfl (nI_1 _) (by decide) rfl (fun ls hl => ?_)
                  refine lv_goto (tgt := 29) hx hb dX0_isName_123 (by decide) ?_
                  refine W.widen (k := 0) (n := 0) (by omega) (by omega) ?_
                  exact ih_11 ((i1 + 1), (p1 + 1)) F (⟨by omega, by omega, by have h9 : p1 ≠ 20 := (fun q => c_23 (by rw [q]; rfl)); omega, nm_chr hv4 hib c_21 (fun q => c_23 (by rw [q]; rfl)) (decide_eq_true (Or.inr (Or.inr (Or.inl c_38))))⟩) (by show b - (i1 + 1) < b - i1; omega) hO hR _ _ hP hD hS ls (lv_sub hl [0, 1, 4, 5, 6] rfl)
                ·
                  refine lv_iload hx hb dX0_isName_98 (lv_at hl 1 rfl) ?_
                  refine lv_bipush (v := 95) hx hb dX0_isName_100 (by decide) ?_
                  refine lv_icmp_eq (tgt := 107) hx hb dX0_isName_102 (by decide) (fun c_41 => ?_) (fun c_41 => ?_)
                  ·
                    refine lv_iload hx hb dX0_isName_107 (lv_at hl 0 rfl) ?_
                    refine lv_if_eq (tgt := 116) hx hb dX0_isName_109 (by decide) (fun c_42 => ?_) (fun c_42 => absurd (by decide) c_42)
                    refine lv_iload_n hx hb dX0_isName_116 rfl (lv_at hl 3 rfl) ?_
                    refine lv_iconst (v := 1) hx hb dX0_isName_117 (by decide) ?_
                    refine lv_iadd hx hb dX0_isName_118 ?_
                    refine lv_topi (fun x_43 ex_43 => ?_)
                    obtain rfl : x_43 = (nI (p1 + 1)) := ex_43.trans (nI_1 p1)
                    refine lv_istore_n (lv' := [(3, .int (nI (p1 + 1))), (6, .int 0), (5, .int (f i1)), (4, .int (nI i1)), (0, .ref h0), (1, .int (nI a)), (2, .int (nI b))]) hx hb dX0_isName_119 rfl hl (by decide) rfl (fun ls hl => ?_)
                    refine lv_iinc (v := (nI (i1 + 1))) (lv' := [(4, .int (nI (i1 + 1))), (3, .int (nI (p1 + 1))), (6, .int 0), (5, .int (f i1)), (0, .ref h0), (1, .int (nI a)), (2, .int (nI b))]) hx hb dX0_isName_120 hl (k := 3) rfl (nI_1 _) (by decide) rfl (fun ls hl => ?_)
                    refine lv_goto (tgt := 29) hx hb dX0_isName_123 (by decide) ?_
                    refine W.widen (k := 0) (n := 0) (by omega) (by omega) ?_
                    exact ih_11 ((i1 + 1), (p1 + 1)) F (⟨by omega, by omega, by have h9 : p1 ≠ 20 := (fun q => c_23 (by rw [q]; rfl)); omega, nm_chr hv4 hib c_21 (fun q => c_23 (by rw [q]; rfl)) (decide_eq_true (Or.inr (Or.inr (Or.inr c_41))))⟩) (by show b - (i1 + 1) < b - i1; omega) hO hR _ _ hP hD hS ls (lv_sub hl [0, 1, 4, 5, 6] rfl)
                  ·
                    refine lv_iconst (v := 0) hx hb dX0_isName_105 (by decide) ?_
                    refine W.widen (k := 0) (n := 0) (by omega) (by omega) ?_
                    exact W.zret (v := 0) (ty := .boolean) hx hb hr (by decide) (fun t ht hWm => ⟨⟨0, (), rfl, (nm_z hl1 hl2 (nm_bad hv4 hib c_21 (Or.inr (decide_eq_false (fun q => q.elim (ifb0 hw_28 c_29) (fun q => q.elim (ifb0 hw_34 c_35) (fun q => q.elim (c_38) (c_41)))))))), ⟨F, QT.mk ht hP hD hO hR⟩⟩, hS.F ht⟩) hS.2.2 dX0_isName_106
        ·
          refine lv_iconst (v := 1) hx hb dX0_isName_50 (by decide) ?_
          refine lv_goto (tgt := 55) hx hb dX0_isName_51 (by decide) ?_
          refine lv_istore (lv' := [(6, .int 1), (5, .int (f i1)), (4, .int (nI i1)), (3, .int (nI p1)), (0, .ref h0), (1, .int (nI a)), (2, .int (nI b))]) hx hb dX0_isName_55 hl (by decide) rfl (fun ls hl => ?_)
          refine lv_iload hx hb dX0_isName_57 (lv_at hl 0 rfl) ?_
          refine lv_if_eq (tgt := 69) hx hb dX0_isName_59 (by decide) (fun c_44 => absurd c_44 (by decide)) (fun c_44 => ?_)
          refine lv_iload_n hx hb dX0_isName_62 rfl (lv_at hl 3 rfl) ?_
          refine lv_if_ne (tgt := 107) hx hb dX0_isName_63 (by decide) (fun c_45 => ?_) (fun c_45 => ?_)
          ·
            refine lv_iload hx hb dX0_isName_107 (lv_at hl 0 rfl) ?_
            refine lv_if_eq (tgt := 116) hx hb dX0_isName_109 (by decide) (fun c_47 => absurd c_47 (by decide)) (fun c_47 => ?_)
            refine lv_iconst (v := 0) hx hb dX0_isName_112 (by decide) ?_
            refine lv_goto (tgt := 119) hx hb dX0_isName_113 (by decide) ?_
            refine lv_istore_n (lv' := [(3, .int 0), (6, .int 1), (5, .int (f i1)), (4, .int (nI i1)), (0, .ref h0), (1, .int (nI a)), (2, .int (nI b))]) hx hb dX0_isName_119 rfl hl (by decide) rfl (fun ls hl => ?_)
            refine lv_iinc (v := (nI (i1 + 1))) (lv' := [(4, .int (nI (i1 + 1))), (3, .int 0), (6, .int 1), (5, .int (f i1)), (0, .ref h0), (1, .int (nI a)), (2, .int (nI b))]) hx hb dX0_isName_120 hl (k := 3) rfl (nI_1 _) (by decide) rfl (fun ls hl => ?_)
            refine lv_goto (tgt := 29) hx hb dX0_isName_123 (by decide) ?_
            refine W.widen (k := 0) (n := 0) (by omega) (by omega) ?_
            exact ih_11 ((i1 + 1), 0) F (⟨by omega, by omega, by omega, nm_dot hv4 hib c_21 (fun q => c_45 (by rw [q]; rfl))⟩) (by show b - (i1 + 1) < b - i1; omega) hO hR _ _ hP hD hS ls (lv_sub hl [0, 1, 4, 5, 6] rfl)
          ·
            refine lv_goto (tgt := 105) hx hb dX0_isName_66 (by decide) ?_
            refine lv_iconst (v := 0) hx hb dX0_isName_105 (by decide) ?_
            refine W.widen (k := 0) (n := 0) (by omega) (by omega) ?_
            exact W.zret (v := 0) (ty := .boolean) hx hb hr (by decide) (fun t ht hWm => ⟨⟨0, (), rfl, (nm_z hl1 hl2 (nm_dot0 hv4 hib c_21 ((nI_eq (a := p1) (b := 0) (by omega) (by omega)).mp c_45))), ⟨F, QT.mk ht hP hD hO hR⟩⟩, hS.F ht⟩) hS.2.2 dX0_isName_106
    ·
      have hl2 : ¬ b ≤ a + 60 := fun q => c_8 ((sub_le60 (by omega) (by omega)).mpr q)
      refine lv_iconst (v := 0) hx hb dX0_isName_22 (by decide) ?_
      refine W.widen (k := 0) (n := 0) (by omega) (by omega) ?_
      exact W.zret (v := 0) (ty := .boolean) hx hb hr (by decide) (fun t ht hWm => ⟨⟨0, (), rfl, (nm_len (fun q => by omega)), ⟨F, QT.mk ht hP hD hO hR⟩⟩, hS.F ht⟩) hS.2.2 dX0_isName_23
set_option maxHeartbeats 4000000 in
set_option maxRecDepth 100000 in
theorem s_X1_isLocal_e (l : Launch) (dC : Nat → ClassId) (dI : Nat → Nat → Nat) (cs : Nat → ClassId) (ty : TyM) (L : List Nat) (sz : Nat) (F : Nat → va_E) (g1 : Nat) (σ : Nat) (r1 : Nat) (n1 : Nat) (z : Nat) (e9 : Nat) (f : Nat → Int32) (hW : WT ty L) (hL_g1 : g1 ∈ L) (hT_g1 : ty g1 = (0, σ, [r1, n1])) (hFg : F g1 = .inr (0, [.ref r1, .int (nI z), .int 0])) (hFr : F r1 = .inl (cs 16, n1, .inl f)) (hzn : z ≤ n1) (hn9 : n1 ≤ 10000) (hez : e9 ≤ z) : Met l yX1_isLocal (.code yX1_isLocal cX1_isLocal 5 (some .boolean) :: tb) ({ frames := 1, cells := 0, slots := 0, locals := 21 }) (va_Pc [.ref g1, .int (nI e9)] (PT (dC, dI) cs ty L F sz)) (va_Qi (fun (r : Int32) (_ : Unit) => (r = 1 ∧ LCL f e9) ∨ (r = 0 ∧ ¬ LCL f e9)) (fun _ T9 => ∃ F2 : Nat → va_E, QT (dC, dI) cs ty L [] F F2 (va_A (va_pl L F) sz) T9) (va_A (va_pl L F) sz)) 0 0 (va_A (va_pl L F) sz) := by
  refine Met.ofW (cc := cX1_isLocal) (maxL := 5) (ret := (some .boolean)) (by decide) rfl ?_
  intro p e s m args below meth c s₁ B hml hv
  obtain ⟨rfl, hsz, hP, hK, hD0, hE, hO⟩ := hv
  have hx := B.exec
  have hb := B.bytes
  have hr := B.returns
  have hts : ∀ w ∈ tb, w.before _ s = true := fun w h => atoms_spec (ws := .code yX1_isLocal cX1_isLocal 5 (some .boolean) :: tb) B.pre w (List.mem_cons_of_mem _ h)
  have hown : s.vm.findClass RX1 = some m.cls := findClass_of_methodNamed B.named
  have hlocks := B.notSynchronized
  subst hsz
  have hD := hD0.self (sz := s.heap.size)
  generalize hAe : va_A (va_pl L F) s.heap.size = A at hD ⊢
  have hA : ∀ q : Nat, s.heap.size ≤ q → A q := fun q h => by rw [← hAe]; exact Or.inr h
  have hS : va_S A s.heap s.heap [] := va_S.rf
  have hR : FR ty [] F F := FR.refl
  have hl := lv_entry ([.ref g1, .int (nI e9)]) (n := 5) (Nat.le_of_ble_eq_true rfl)
  rw [lg_entry_eq]
  generalize (lg_sl ([.ref g1, .int (nI e9)]) ++ List.replicate (5 - (lg_sl ([.ref g1, .int (nI e9)])).length) Slot.unset).toArray = ls at hl ⊢
  have hl : lv_has ls 5 [(0, .ref g1), (1, .int (nI e9))] := hl
  refine lv_iconst (v := 0) hx hb dX1_isLocal_0 (by decide) ?_
  refine lv_istore_n (lv' := [(2, .int 0), (0, .ref g1), (1, .int (nI e9))]) hx hb dX1_isLocal_1 rfl hl (by decide) rfl (fun ls hl => ?_)
  refine W.widen (k := 0) (n := 0) (by omega) (by omega) ?_
  refine pl_loop (σ := Nat) A (dC, dI) cs ty L [] F 2 5 (fun i1 => [(2, .int (nI i1)), (0, .ref g1), (1, .int (nI e9))]) (fun i1 => []) (fun i1 _ => i1 ≤ e9 ∧ ∀ j, j < i1 → LOC (f j) = true) (fun i1 => e9 - i1) ?_ 0 F (⟨by omega, fun j hj => absurd hj (Nat.not_lt_zero _)⟩) hO hR _ _ hP hD hS ls (lv_sub hl [0, 1, 2] rfl)
  rintro i1 F_1 hv_2 hO hR ih_3 H locs hP hD hS ls hl
  have hl : lv_has ls 5 [(2, .int (nI i1)), (0, .ref g1), (1, .int (nI e9))] := hl
  have hv_2 : i1 ≤ e9 ∧ ∀ j, j < i1 → LOC (f j) = true := hv_2
  refine W.eq (g2 := F0 m 2 ls []) rfl ?_
  obtain rfl : F = F_1 := (funext (fun a => hR a List.not_mem_nil)).symm
  obtain ⟨hv1, hv2⟩ := id hv_2
  refine lv_iload_n hx hb dX1_isLocal_2 rfl (lv_at hl 0 rfl) ?_
  refine lv_iload_n hx hb dX1_isLocal_3 rfl (lv_at hl 2 rfl) ?_
  refine lv_icmp_ge (tgt := 71) hx hb dX1_isLocal_4 (by decide) (fun c_4 => ?_) (fun c_4 => ?_)
  ·
    have hi_5 : e9 ≤ i1 := leN (N := e9) c_4
    obtain rfl : e9 = i1 := by have h9 : e9 ≤ i1 := (nI_leI (by omega) (by omega)).mp c_4; omega
    refine lv_iload_n hx hb dX1_isLocal_71 rfl (lv_at hl 2 rfl) ?_
    refine lv_iconst (v := 1) hx hb dX1_isLocal_72 (by decide) ?_
    refine lv_icmp_lt (tgt := 86) hx hb dX1_isLocal_73 (by decide) (fun c_6 => ?_) (fun c_6 => ?_)
    ·
      have hi_7 : e9 < 1 := ltN (N := 1) (Int32.not_le.mpr c_6)
      refine lv_iconst (v := 0) hx hb dX1_isLocal_86 (by decide) ?_
      refine W.widen (k := 0) (n := 0) (by omega) (by omega) ?_
      exact W.zret (v := 0) (ty := .boolean) hx hb hr (by decide) (fun t ht hWm => ⟨⟨0, (), rfl, (Or.inr ⟨rfl, fun q => absurd q.1 (by have h9 : e9 < 1 := (nI_ltI (b := 1) (by omega) (by omega)).mp c_6; omega)⟩), ⟨F, QT.mk ht hP hD hO hR⟩⟩, hS.F ht⟩) hS.2.2 dX1_isLocal_87
    ·
      have hi_8 : 1 ≤ e9 := leN (N := 1) (Int32.not_lt.mp c_6)
      refine lv_iload_n hx hb dX1_isLocal_76 rfl (lv_at hl 2 rfl) ?_
      refine lv_bipush (v := 30) hx hb dX1_isLocal_77 (by decide) ?_
      refine lv_icmp_gt (tgt := 86) hx hb dX1_isLocal_79 (by decide) (fun c_9 => ?_) (fun c_9 => ?_)
      ·
        have hi_10 : 30 < e9 := (nI_ltI (a := 30) (b := e9) (by omega) (by omega)).mp c_9
        refine lv_iconst (v := 0) hx hb dX1_isLocal_86 (by decide) ?_
        refine W.widen (k := 0) (n := 0) (by omega) (by omega) ?_
        exact W.zret (v := 0) (ty := .boolean) hx hb hr (by decide) (fun t ht hWm => ⟨⟨0, (), rfl, (Or.inr ⟨rfl, fun q => absurd q.2.1 (by have h9 : 30 < e9 := (nI_ltI (a := 30) (by omega) (by omega)).mp c_9; omega)⟩), ⟨F, QT.mk ht hP hD hO hR⟩⟩, hS.F ht⟩) hS.2.2 dX1_isLocal_87
      ·
        have hi_11 : e9 ≤ 30 := Nat.not_lt.mp (fun q => c_9 ((nI_ltI (a := 30) (b := e9) (by omega) (by omega)).mpr q))
        refine lv_iconst (v := 1) hx hb dX1_isLocal_82 (by decide) ?_
        refine lv_goto (tgt := 87) hx hb dX1_isLocal_83 (by decide) ?_
        refine W.widen (k := 0) (n := 0) (by omega) (by omega) ?_
        exact W.zret (v := 1) (ty := .boolean) hx hb hr (by decide) (fun t ht hWm => ⟨⟨1, (), rfl, (Or.inl ⟨rfl, (by have h9 : ¬ e9 < 1 := fun q => c_6 ((nI_ltI (b := 1) (by omega) (by omega)).mpr q); omega), (by have h9 : ¬ 30 < e9 := fun q => c_9 ((nI_ltI (a := 30) (by omega) (by omega)).mpr q); omega), hv2⟩), ⟨F, QT.mk ht hP hD hO hR⟩⟩, hS.F ht⟩) hS.2.2 dX1_isLocal_87
  ·
    have hi_12 : i1 < e9 := ltN (N := e9) c_4
    have hie : i1 < e9 := Nat.not_le.mp (fun q => c_4 ((nI_leI (by omega) (by omega)).mpr q))
    refine lv_aload_n hx hb dX1_isLocal_7 rfl (lv_at hl 1 rfl) ?_
    refine lv_iload_n hx hb dX1_isLocal_8 rfl (lv_at hl 0 rfl) ?_
    obtain ⟨hi_13, ht_14, hq_15⟩ := hW.bytes hL_g1 hT_g1
    have hFc := pg_free hD hS hA
    refine va_calli (va_runV (As := [.int (nI i1)]) (rest := []) ⟨hx, hb, hml, hown, hts⟩ (s_X0_at_e l dC dI cs ty L H.size F g1 σ r1 n1 z i1 f hW hL_g1 hT_g1 hFg hFr (by omega) (by omega) (by omega)) ⟨callB_of 1 hts (gi kt_21) rfl rfl rfl (hts _ kt_1) (hts _ kt_301) (by decide +kernel) ⟨Nat.le_of_ble_eq_true rfl, Nat.le_of_ble_eq_true rfl⟩, (hts _ kt_23), (hts _ kt_24)⟩ ⟨fun a U g mk q => ⟨q.1, PT.calling q.2⟩, pg_recv hK hP hL_g1 hFg (q := (RX0, TX0, 3)) rfl, fun U hU hWm => ⟨rfl, PT.mk hU hWm hP hK hD hE hO⟩⟩ rfl rfl hl.1 rfl (lv_room (Nat.le_of_ble_eq_true rfl)) dX1_isLocal_9 ⟨by show _ + 0 ≤ 0; omega, by show _ + 0 ≤ 0; omega⟩) hS (fun q _ h => hFc q h) hFc (fun r_16 u t H1 locs ht hvm hw hB hz1 hk1 hS => ?_)
    obtain ⟨F_17, hB1⟩ := hB
    obtain rfl : F = F_17 := (funext (fun a => hB1.2.2.2 a List.not_mem_nil)).symm
    obtain ⟨hP, hD, hO, hR⟩ := QT.back hB1 ht hFc hR (fun q h => absurd h List.not_mem_nil)
    generalize H1 = H at hP hS ⊢
    have hw : r_16 = f i1 := hw
    have hw_18 := hw
    subst hw_18
    refine lv_istore_n (lv' := [(3, .int (f i1)), (2, .int (nI i1)), (0, .ref g1), (1, .int (nI e9))]) hx hb dX1_isLocal_12 rfl hl (by decide) rfl (fun ls hl => ?_)
    refine W.widen (k := 0) (n := 0) (by omega) (by omega) ?_
    refine pl_cut (σ := Int32) A (dC, dI) cs ty L [] F 42 5 (fun s0 => [(3, .int (f i1)), (2, .int (nI i1)), (0, .ref g1), (1, .int (nI e9))]) (fun s0 => [.int s0]) (fun s0 _ => (s0 = 1 ∧ (f i1 = 46 ∨ f i1 = 45 ∨ f i1 = 95 ∨ f i1 = 43)) ∨ (s0 = 0 ∧ ¬ (f i1 = 46 ∨ f i1 = 45 ∨ f i1 = 95 ∨ f i1 = 43))) ?_ (fun jn_19 => ?_)
    ·
      rintro s0 F_20 hv_21 hO hR H locs hP hD hS ls hl
      have hl : lv_has ls 5 [(3, .int (f i1)), (2, .int (nI i1)), (0, .ref g1), (1, .int (nI e9))] := hl
      have hv_21 : (s0 = 1 ∧ (f i1 = 46 ∨ f i1 = 45 ∨ f i1 = 95 ∨ f i1 = 43)) ∨ (s0 = 0 ∧ ¬ (f i1 = 46 ∨ f i1 = 45 ∨ f i1 = 95 ∨ f i1 = 43)) := hv_21
      refine W.eq (g2 := F0 m 42 ls [.int s0]) rfl ?_
      obtain rfl : F = F_20 := (funext (fun a => hR a List.not_mem_nil)).symm
      have hmk := hv_21
      refine lv_istore (lv' := [(4, .int s0), (3, .int (f i1)), (2, .int (nI i1)), (0, .ref g1), (1, .int (nI e9))]) hx hb dX1_isLocal_42 hl (by decide) rfl (fun ls hl => ?_)
      refine lv_iload hx hb dX1_isLocal_44 (lv_at hl 0 rfl) ?_
      refine lv_if_ne (tgt := 65) hx hb dX1_isLocal_46 (by decide) (fun c_22 => ?_) (fun c_22 => ?_)
      ·
        refine lv_iinc (v := (nI (i1 + 1))) (lv' := [(2, .int (nI (i1 + 1))), (4, .int s0), (3, .int (f i1)), (0, .ref g1), (1, .int (nI e9))]) hx hb dX1_isLocal_65 hl (k := 2) rfl (nI_1 _) (by decide) rfl (fun ls hl => ?_)
        refine lv_goto (tgt := 2) hx hb dX1_isLocal_68 (by decide) ?_
        refine W.widen (k := 0) (n := 0) (by omega) (by omega) ?_
        exact ih_3 (i1 + 1) F (⟨by omega, fun j hj => by rcases Nat.lt_or_ge j i1 with q | q; exact hv2 j q; rw [show j = i1 by omega]; exact loc_m (bz1 hmk c_22)⟩) (by show e9 - (i1 + 1) < e9 - i1; omega) hO hR _ _ hP hD hS ls (lv_sub hl [0, 3, 4] rfl)
      ·
        refine lv_iload_n hx hb dX1_isLocal_49 rfl (lv_at hl 1 rfl) ?_
        have hFc := pg_free hD hS hA
        refine va_calli (va_runS (As := [.int (f i1)]) (rest := []) ⟨hx, hb, hml, hown, hts⟩ (s_X0_isSmall_e l dC dI cs ty L H.size F (f i1) hW ) ⟨callB_of 1 hts (gi kt_4) rfl rfl rfl (hts _ kt_1) (hts _ kt_302) (by decide +kernel) ⟨Nat.le_of_ble_eq_true rfl, Nat.le_of_ble_eq_true rfl⟩, (hts _ kt_6)⟩ ⟨fun a U g mk q => ⟨q.1, PT.calling q.2⟩, fun U hU hWm => ⟨rfl, PT.mk hU hWm hP hK hD hE hO⟩⟩ rfl rfl hl.1 rfl (lv_room (Nat.le_of_ble_eq_true rfl)) dX1_isLocal_50 ⟨by show _ + 0 ≤ 0; omega, by show _ + 0 ≤ 0; omega⟩) hS (fun q _ h => hFc q h) hFc (fun r_23 u t H1 locs ht hvm hw hB hz1 hk1 hS => ?_)
        obtain ⟨F_24, hB1⟩ := hB
        obtain rfl : F = F_24 := (funext (fun a => hB1.2.2.2 a List.not_mem_nil)).symm
        obtain ⟨hP, hD, hO, hR⟩ := QT.back hB1 ht hFc hR (fun q h => absurd h List.not_mem_nil)
        generalize H1 = H at hP hS ⊢
        have hw : r_23 = (if 97 ≤ (f i1) ∧ (f i1) ≤ 122 then 1 else 0) := hw
        have hw_25 := hw
        refine lv_if_ne (tgt := 65) hx hb dX1_isLocal_53 (by decide) (fun c_26 => ?_) (fun c_26 => ?_)
        ·
          refine lv_iinc (v := (nI (i1 + 1))) (lv' := [(2, .int (nI (i1 + 1))), (4, .int s0), (3, .int (f i1)), (0, .ref g1), (1, .int (nI e9))]) hx hb dX1_isLocal_65 hl (k := 2) rfl (nI_1 _) (by decide) rfl (fun ls hl => ?_)
          refine lv_goto (tgt := 2) hx hb dX1_isLocal_68 (by decide) ?_
          refine W.widen (k := 0) (n := 0) (by omega) (by omega) ?_
          exact ih_3 (i1 + 1) F (⟨by omega, fun j hj => by rcases Nat.lt_or_ge j i1 with q | q; exact hv2 j q; rw [show j = i1 by omega]; exact loc_s (ifb1 hw_25 c_26)⟩) (by show e9 - (i1 + 1) < e9 - i1; omega) hO hR _ _ hP hD hS ls (lv_sub hl [0, 3, 4] rfl)
        ·
          refine lv_iload_n hx hb dX1_isLocal_56 rfl (lv_at hl 1 rfl) ?_
          have hFc := pg_free hD hS hA
          refine va_calli (va_runS (As := [.int (f i1)]) (rest := []) ⟨hx, hb, hml, hown, hts⟩ (s_X0_isDigit_e l dC dI cs ty L H.size F (f i1) hW ) ⟨callB_of 1 hts (gi kt_7) rfl rfl rfl (hts _ kt_1) (hts _ kt_303) (by decide +kernel) ⟨Nat.le_of_ble_eq_true rfl, Nat.le_of_ble_eq_true rfl⟩, (hts _ kt_9)⟩ ⟨fun a U g mk q => ⟨q.1, PT.calling q.2⟩, fun U hU hWm => ⟨rfl, PT.mk hU hWm hP hK hD hE hO⟩⟩ rfl rfl hl.1 rfl (lv_room (Nat.le_of_ble_eq_true rfl)) dX1_isLocal_57 ⟨by show _ + 0 ≤ 0; omega, by show _ + 0 ≤ 0; omega⟩) hS (fun q _ h => hFc q h) hFc (fun r_27 u t H1 locs ht hvm hw hB hz1 hk1 hS => ?_)
          obtain ⟨F_28, hB1⟩ := hB
          obtain rfl : F = F_28 := (funext (fun a => hB1.2.2.2 a List.not_mem_nil)).symm
          obtain ⟨hP, hD, hO, hR⟩ := QT.back hB1 ht hFc hR (fun q h => absurd h List.not_mem_nil)
          generalize H1 = H at hP hS ⊢
          have hw : r_27 = (if 48 ≤ (f i1) ∧ (f i1) ≤ 57 then 1 else 0) := hw
          have hw_29 := hw
          refine lv_if_ne (tgt := 65) hx hb dX1_isLocal_60 (by decide) (fun c_30 => ?_) (fun c_30 => ?_)
          ·
            refine lv_iinc (v := (nI (i1 + 1))) (lv' := [(2, .int (nI (i1 + 1))), (4, .int s0), (3, .int (f i1)), (0, .ref g1), (1, .int (nI e9))]) hx hb dX1_isLocal_65 hl (k := 2) rfl (nI_1 _) (by decide) rfl (fun ls hl => ?_)
            refine lv_goto (tgt := 2) hx hb dX1_isLocal_68 (by decide) ?_
            refine W.widen (k := 0) (n := 0) (by omega) (by omega) ?_
            exact ih_3 (i1 + 1) F (⟨by omega, fun j hj => by rcases Nat.lt_or_ge j i1 with q | q; exact hv2 j q; rw [show j = i1 by omega]; exact loc_d (ifb1 hw_29 c_30)⟩) (by show e9 - (i1 + 1) < e9 - i1; omega) hO hR _ _ hP hD hS ls (lv_sub hl [0, 3, 4] rfl)
          ·
            refine lv_iconst (v := 0) hx hb dX1_isLocal_63 (by decide) ?_
            refine W.widen (k := 0) (n := 0) (by omega) (by omega) ?_
            exact W.zret (v := 0) (ty := .boolean) hx hb hr (by decide) (fun t ht hWm => ⟨⟨0, (), rfl, (Or.inr ⟨rfl, lcl_n hie (loc_n (bz0 hmk c_22) (ifb0 hw_25 c_26) (ifb0 hw_29 c_30))⟩), ⟨F, QT.mk ht hP hD hO hR⟩⟩, hS.F ht⟩) hS.2.2 dX1_isLocal_64
    ·
      refine lv_iload_n hx hb dX1_isLocal_13 rfl (lv_at hl 0 rfl) ?_
      refine lv_bipush (v := 46) hx hb dX1_isLocal_14 (by decide) ?_
      refine lv_icmp_eq (tgt := 37) hx hb dX1_isLocal_16 (by decide) (fun c_31 => ?_) (fun c_31 => ?_)
      ·
        refine lv_iconst (v := 1) hx hb dX1_isLocal_37 (by decide) ?_
        refine lv_goto (tgt := 42) hx hb dX1_isLocal_38 (by decide) ?_
        refine W.widen (k := 0) (n := 0) (by omega) (by omega) ?_
        exact jn_19 1 F ((Or.inl ⟨rfl, Or.inl c_31⟩)) hO hR _ _ hP hD hS ls (lv_sub hl [0, 1, 2, 3] rfl)
      ·
        refine lv_iload_n hx hb dX1_isLocal_19 rfl (lv_at hl 0 rfl) ?_
        refine lv_bipush (v := 45) hx hb dX1_isLocal_20 (by decide) ?_
        refine lv_icmp_eq (tgt := 37) hx hb dX1_isLocal_22 (by decide) (fun c_32 => ?_) (fun c_32 => ?_)
        ·
          refine lv_iconst (v := 1) hx hb dX1_isLocal_37 (by decide) ?_
          refine lv_goto (tgt := 42) hx hb dX1_isLocal_38 (by decide) ?_
          refine W.widen (k := 0) (n := 0) (by omega) (by omega) ?_
          exact jn_19 1 F ((Or.inl ⟨rfl, Or.inr (Or.inl c_32)⟩)) hO hR _ _ hP hD hS ls (lv_sub hl [0, 1, 2, 3] rfl)
        ·
          refine lv_iload_n hx hb dX1_isLocal_25 rfl (lv_at hl 0 rfl) ?_
          refine lv_bipush (v := 95) hx hb dX1_isLocal_26 (by decide) ?_
          refine lv_icmp_eq (tgt := 37) hx hb dX1_isLocal_28 (by decide) (fun c_33 => ?_) (fun c_33 => ?_)
          ·
            refine lv_iconst (v := 1) hx hb dX1_isLocal_37 (by decide) ?_
            refine lv_goto (tgt := 42) hx hb dX1_isLocal_38 (by decide) ?_
            refine W.widen (k := 0) (n := 0) (by omega) (by omega) ?_
            exact jn_19 1 F ((Or.inl ⟨rfl, Or.inr (Or.inr (Or.inl c_33))⟩)) hO hR _ _ hP hD hS ls (lv_sub hl [0, 1, 2, 3] rfl)
          ·
            refine lv_iload_n hx hb dX1_isLocal_31 rfl (lv_at hl 0 rfl) ?_
            refine lv_bipush (v := 43) hx hb dX1_isLocal_32 (by decide) ?_
            refine lv_icmp_ne (tgt := 41) hx hb dX1_isLocal_34 (by decide) (fun c_34 => ?_) (fun c_34 => ?_)
            ·
              refine lv_iconst (v := 0) hx hb dX1_isLocal_41 (by decide) ?_
              refine W.widen (k := 0) (n := 0) (by omega) (by omega) ?_
              exact jn_19 0 F ((Or.inr ⟨rfl, fun q => q.elim c_31 (fun q => q.elim c_32 (fun q => q.elim c_33 c_34))⟩)) hO hR _ _ hP hD hS ls (lv_sub hl [0, 1, 2, 3] rfl)
            ·
              refine lv_iconst (v := 1) hx hb dX1_isLocal_37 (by decide) ?_
              refine lv_goto (tgt := 42) hx hb dX1_isLocal_38 (by decide) ?_
              refine W.widen (k := 0) (n := 0) (by omega) (by omega) ?_
              exact jn_19 1 F ((Or.inl ⟨rfl, Or.inr (Or.inr (Or.inr c_34))⟩)) hO hR _ _ hP hD hS ls (lv_sub hl [0, 1, 2, 3] rfl)
