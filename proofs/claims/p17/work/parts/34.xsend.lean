def LOC (c : Int32) : Bool := decide ((c = 46 ∨ c = 45 ∨ c = 95 ∨ c = 43) ∨ (97 ≤ c ∧ c ≤ 122) ∨ (48 ≤ c ∧ c ≤ 57))
theorem loc_m {c : Int32} (h : c = 46 ∨ c = 45 ∨ c = 95 ∨ c = 43) : LOC c = true := decide_eq_true (Or.inl h)
theorem loc_s {c : Int32} (h : 97 ≤ c ∧ c ≤ 122) : LOC c = true := decide_eq_true (Or.inr (Or.inl h))
theorem loc_d {c : Int32} (h : 48 ≤ c ∧ c ≤ 57) : LOC c = true := decide_eq_true (Or.inr (Or.inr h))
theorem loc_n {c : Int32} (h1 : ¬ (c = 46 ∨ c = 45 ∨ c = 95 ∨ c = 43)) (h2 : ¬ (97 ≤ c ∧ c ≤ 122)) (h3 : ¬ (48 ≤ c ∧ c ≤ 57)) : LOC c = false := decide_eq_false (fun q => q.elim h1 (fun q => q.elim h2 h3))
def LCL (f : Nat → Int32) (e : Nat) : Prop := 1 ≤ e ∧ e ≤ 30 ∧ ∀ j, j < e → LOC (f j) = true
def SND (f : Nat → Int32) (z : Nat) : Prop := ∃ k, FST f 64 z k ∧ LCL f k ∧ NM f (k + 1) z = true
theorem lcl_n {f : Nat → Int32} {e i : Nat} (hi : i < e) (h : LOC (f i) = false) : ¬ LCL f e := fun q => by
  have h9 := q.2.2 i hi
  rw [h] at h9
  exact absurd h9 (by decide)
theorem lcl1 {f : Nat → Int32} {e : Nat} {r : Int32} (h : (r = 1 ∧ LCL f e) ∨ (r = 0 ∧ ¬ LCL f e)) (c : ¬ r = 0) : LCL f e := h.elim And.right (fun q => absurd q.1 c)
theorem lcl0 {f : Nat → Int32} {e : Nat} {r : Int32} (h : (r = 1 ∧ LCL f e) ∨ (r = 0 ∧ ¬ LCL f e)) (c : r = 0) : ¬ LCL f e := h.elim (fun q => absurd (q.1.symm.trans c) (by decide)) And.right
theorem snd_n {f : Nat → Int32} {z k : Nat} (hk : FST f 64 z k) (h : ¬ (LCL f k ∧ NM f (k + 1) z = true)) : ¬ SND f z := fun q => by
  obtain ⟨k9, q1, q2⟩ := q
  rw [q1.uniq hk] at q2
  exact h q2
theorem sub_lt1 {a b : Nat} (ha : a ≤ 20000) (hb : b ≤ 20000) : nI b - nI a < 1 ↔ ¬ a + 1 ≤ b := by
  have h1 : (1 : Int32).toInt = 1 := by decide
  rw [Int32.lt_iff_toInt_lt, pk_sub_toInt (by omega) (by omega), h1]
  omega
theorem sub_le60 {a b : Nat} (ha : a ≤ 20000) (hb : b ≤ 20000) : nI b - nI a ≤ 60 ↔ b ≤ a + 60 := by
  have h1 : (60 : Int32).toInt = 60 := by decide
  rw [Int32.le_iff_toInt_le, pk_sub_toInt (by omega) (by omega), h1]
  omega
theorem bz1 {r : Int32} {P : Prop} (h : (r = 1 ∧ P) ∨ (r = 0 ∧ ¬ P)) (c : ¬ r = 0) : P := h.elim And.right (fun q => absurd q.1 c)
theorem bz0 {r : Int32} {P : Prop} (h : (r = 1 ∧ P) ∨ (r = 0 ∧ ¬ P)) (c : r = 0) : ¬ P := h.elim (fun q => absurd (q.1.symm.trans c) (by decide)) And.right
theorem bzN {r : Int32} {P : Prop} (h : (r = 1 ∧ P) ∨ (r = 0 ∧ ¬ P)) : r = 0 ∨ r = 1 := h.elim (fun q => Or.inr q.1) (fun q => Or.inl q.1)
set_option maxHeartbeats 4000000 in
set_option maxRecDepth 100000 in
theorem s_X0_isName_g (l : Launch) (dC : Nat → ClassId) (dI : Nat → Nat → Nat) (cs : Nat → ClassId) (ty : TyM) (L : List Nat) (sz : Nat) (F : Nat → va_E) (h0 : Nat) (ρ : Nat) (r0 : Nat) (n : Nat) (z : Nat) (a : Nat) (b : Nat) (f : Nat → Int32) (hW : WT ty L) (hL_h0 : h0 ∈ L) (hT_h0 : ty h0 = (0, ρ, [r0, n])) (hF0 : F h0 = .inr (0, [.ref r0, .int (nI z), .int 0])) (hFr : F r0 = .inl (cs 16, n, .inl f)) (hzn : z ≤ n) (hn9 : n ≤ 10000) (ha9 : a ≤ 20000) (hbz : b ≤ z) : Met l yX0_isName (.code yX0_isName cX0_isName 7 (some .boolean) :: tb) ({ frames := 1, cells := 0, slots := 0, locals := 21 }) (va_Pc [.ref h0, .int (nI a), .int (nI b)] (PT (dC, dI) cs ty L F sz)) (va_Qi (fun (r : Int32) (_ : Unit) => r = (if NM f a b = true then 1 else 0)) (fun _ T9 => ∃ F2 : Nat → va_E, QT (dC, dI) cs ty L [] F F2 (va_A (va_pl L F) sz) T9) (va_A (va_pl L F) sz)) 0 0 (va_A (va_pl L F) sz) := by
  refine Met.ofW (cc := cX0_isName) (maxL := 7) (ret := (some .boolean)) (by decide) rfl ?_
  intro p e s m args below meth c s₁ B hml hv
  obtain ⟨rfl, hsz, hP, hK, hD0, hE, hO⟩ := hv
  have hx := B.exec
  have hb := B.bytes
  have hr := B.returns
  have hts : ∀ w ∈ tb, w.before _ s = true := fun w h => atoms_spec (ws := .code yX0_isName cX0_isName 7 (some .boolean) :: tb) B.pre w (List.mem_cons_of_mem _ h)
  have hown : s.vm.findClass RX0 = some m.cls := findClass_of_methodNamed B.named
  have hlocks := B.notSynchronized
  subst hsz
  have hD := hD0.self (sz := s.heap.size)
  generalize hAe : va_A (va_pl L F) s.heap.size = A at hD ⊢
  have hA : ∀ q : Nat, s.heap.size ≤ q → A q := fun q h => by rw [← hAe]; exact Or.inr h
  have hS : va_S A s.heap s.heap [] := va_S.rf
  have hR : FR ty [] F F := FR.refl
  have hl := lv_entry ([.ref h0, .int (nI a), .int (nI b)]) (n := 7) (Nat.le_of_ble_eq_true rfl)
  rw [lg_entry_eq]
  generalize (lg_sl ([.ref h0, .int (nI a), .int (nI b)]) ++ List.replicate (7 - (lg_sl ([.ref h0, .int (nI a), .int (nI b)])).length) Slot.unset).toArray = ls at hl ⊢
  have hl : lv_has ls 7 [(0, .ref h0), (1, .int (nI a)), (2, .int (nI b))] := hl
  refine lv_aload_n hx hb dX0_isName_0 rfl (lv_at hl 0 rfl) ?_
  obtain ⟨hi_1, ht_2, hq_3⟩ := hW.bytes hL_h0 hT_h0
  refine pg_get (ci := 0) (v := .int 0) (C := RX0) (T := TX0) (N := 3) hx hb hts it_0 hown hK hP hL_h0 hF0 rfl 2 (by decide) (hts _ kt_11) (fun _ h9 => h9) rfl dX0_isName_1 ?_
  refine lv_if_ne (tgt := 22) hx hb dX0_isName_4 (by decide) (fun c_4 => absurd (by decide) c_4) (fun c_4 => ?_)
  refine lv_iload_n hx hb dX0_isName_7 rfl (lv_at hl 2 rfl) ?_
  refine lv_iload_n hx hb dX0_isName_8 rfl (lv_at hl 1 rfl) ?_
  refine lv_isub hx hb dX0_isName_9 ?_
  refine lv_topi (fun x_5 ex_5 => ?_)
  obtain rfl : x_5 = ((nI b) - nI a) := ex_5.trans (rfl)
  refine lv_iconst (v := 1) hx hb dX0_isName_10 (by decide) ?_
  refine lv_icmp_lt (tgt := 22) hx hb dX0_isName_11 (by decide) (fun c_6 => ?_) (fun c_6 => ?_)
  ·
    have hl1 : ¬ a + 1 ≤ b := (sub_lt1 (by omega) (by omega)).mp c_6
    refine lv_iconst (v := 0) hx hb dX0_isName_22 (by decide) ?_
    refine W.widen (k := 0) (n := 0) (by omega) (by omega) ?_
    exact W.zret (v := 0) (ty := .boolean) hx hb hr (by decide) (fun t ht hWm => ⟨⟨0, (), rfl, (nm_len (fun q => by omega)), ⟨F, QT.mk ht hP hD hO hR⟩⟩, hS.F ht⟩) hS.2.2 dX0_isName_23
  ·
    have hl1 : a + 1 ≤ b := Decidable.of_not_not (fun q => c_6 ((sub_lt1 (by omega) (by omega)).mpr q))
    refine lv_iload_n hx hb dX0_isName_14 rfl (lv_at hl 2 rfl) ?_
    refine lv_iload_n hx hb dX0_isName_15 rfl (lv_at hl 1 rfl) ?_
    refine lv_isub hx hb dX0_isName_16 ?_
    refine lv_topi (fun x_7 ex_7 => ?_)
    obtain rfl : x_7 = ((nI b) - nI a) := ex_7.trans (rfl)
    refine lv_bipush (v := 60) hx hb dX0_isName_17 (by decide) ?_
    refine lv_icmp_le (tgt := 24) hx hb dX0_isName_19 (by decide) (fun c_8 => ?_) (fun c_8 => ?_)
    ·
      have hl2 : b ≤ a + 60 := (sub_le60 (by omega) (by omega)).mp c_8
      refine lv_iconst (v := 0) hx hb dX0_isName_24 (by decide) ?_
      refine lv_istore_n (lv' := [(3, .int 0), (0, .ref h0), (1, .int (nI a)), (2, .int (nI b))]) hx hb dX0_isName_25 rfl hl (by decide) rfl (fun ls hl => ?_)
      refine lv_iload_n hx hb dX0_isName_26 rfl (lv_at hl 2 rfl) ?_
      refine lv_istore (lv' := [(4, .int (nI a)), (3, .int 0), (0, .ref h0), (1, .int (nI a)), (2, .int (nI b))]) hx hb dX0_isName_27 hl (by decide) rfl (fun ls hl => ?_)
      refine W.widen (k := 0) (n := 0) (by omega) (by omega) ?_
      refine pl_loop (σ := Nat × Nat) A (dC, dI) cs ty L [] F 29 7 (fun (i1, p1) => [(4, .int (nI i1)), (3, .int (nI p1)), (0, .ref h0), (1, .int (nI a)), (2, .int (nI b))]) (fun (i1, p1) => []) (fun (i1, p1) _ => a ≤ i1 ∧ i1 ≤ b ∧ p1 ≤ 20 ∧ nmw f (b - i1) i1 p1 = nmw f (b - a) a 0) (fun (i1, p1) => b - i1) ?_ (a, 0) F (⟨by omega, by omega, by omega, rfl⟩) hO hR _ _ hP hD hS ls (lv_sub hl [0, 1, 2, 3, 4] rfl)
      rintro ⟨i1, p1⟩ F_9 hv_10 hO hR ih_11 H locs hP hD hS ls hl
      have hl : lv_has ls 7 [(4, .int (nI i1)), (3, .int (nI p1)), (0, .ref h0), (1, .int (nI a)), (2, .int (nI b))] := hl
      have hv_10 : a ≤ i1 ∧ i1 ≤ b ∧ p1 ≤ 20 ∧ nmw f (b - i1) i1 p1 = nmw f (b - a) a 0 := hv_10
      refine W.eq (g2 := F0 m 29 ls []) rfl ?_
      obtain rfl : F = F_9 := (funext (fun a => hR a List.not_mem_nil)).symm
      obtain ⟨hv1, hv2, hv3, hv4⟩ := id hv_10
      refine lv_iload hx hb dX0_isName_29 (lv_at hl 0 rfl) ?_
      refine lv_iload_n hx hb dX0_isName_31 rfl (lv_at hl 4 rfl) ?_
      refine lv_icmp_ge (tgt := 126) hx hb dX0_isName_32 (by decide) (fun c_12 => ?_) (fun c_12 => ?_)
      ·
        have hi_13 : b ≤ i1 := leN (N := b) c_12
        obtain rfl : i1 = b := by have h9 : b ≤ i1 := (nI_leI (by omega) (by omega)).mp c_12; omega
        refine lv_iload_n hx hb dX0_isName_126 rfl (lv_at hl 1 rfl) ?_
        refine lv_if_le (tgt := 134) hx hb dX0_isName_127 (by decide) (fun c_14 => ?_) (fun c_14 => ?_)
        ·
          refine lv_iconst (v := 0) hx hb dX0_isName_134 (by decide) ?_
          refine W.widen (k := 0) (n := 0) (by omega) (by omega) ?_
          exact W.zret (v := 0) (ty := .boolean) hx hb hr (by decide) (fun t ht hWm => ⟨⟨0, (), rfl, (nm_z hl1 hl2 ((nm_end hv4).trans (decide_eq_false (fun q => absurd ((nI_leI (b := 0) (by omega) (by omega)).mp c_14) (by omega))))), ⟨F, QT.mk ht hP hD hO hR⟩⟩, hS.F ht⟩) hS.2.2 dX0_isName_135
        ·
          refine lv_iconst (v := 1) hx hb dX0_isName_130 (by decide) ?_
          refine lv_goto (tgt := 135) hx hb dX0_isName_131 (by decide) ?_
          refine W.widen (k := 0) (n := 0) (by omega) (by omega) ?_
          exact W.zret (v := 1) (ty := .boolean) hx hb hr (by decide) (fun t ht hWm => ⟨⟨1, (), rfl, (nm_o hl1 hl2 ((nm_end hv4).trans (decide_eq_true (Nat.pos_of_ne_zero (fun q => c_14 (by rw [q]; decide)))))), ⟨F, QT.mk ht hP hD hO hR⟩⟩, hS.F ht⟩) hS.2.2 dX0_isName_135
      ·
        have hi_17 : i1 < b := ltN (N := b) c_12
        have hib : i1 < b := Nat.not_le.mp (fun q => c_12 ((nI_leI (by omega) (by omega)).mpr q))
        refine lv_aload_n hx hb dX0_isName_35 rfl (lv_at hl 2 rfl) ?_
        refine lv_iload hx hb dX0_isName_36 (lv_at hl 0 rfl) ?_
        have hFc := pg_free hD hS hA
        refine va_calli (va_runV (As := [.int (nI i1)]) (rest := []) ⟨hx, hb, hml, hown, hts⟩ (s_X0_at_e l dC dI cs ty L H.size F h0 ρ r0 n z i1 f hW hL_h0 hT_h0 hF0 hFr (by omega) (by omega) (by omega)) ⟨callB_of 1 hts (gi kt_21) rfl rfl rfl (hts _ kt_1) (hts _ kt_22) (by decide +kernel) ⟨Nat.le_of_ble_eq_true rfl, Nat.le_of_ble_eq_true rfl⟩, (hts _ kt_23), (hts _ kt_24)⟩ ⟨fun a U g mk q => ⟨q.1, PT.calling q.2⟩, pg_recv hK hP hL_h0 hF0 (q := (RX0, TX0, 3)) rfl, fun U hU hWm => ⟨rfl, PT.mk hU hWm hP hK hD hE hO⟩⟩ rfl rfl hl.1 rfl (lv_room (Nat.le_of_ble_eq_true rfl)) dX0_isName_38 ⟨by show _ + 0 ≤ 0; omega, by show _ + 0 ≤ 0; omega⟩) hS (fun q _ h => hFc q h) hFc (fun r_18 u t H1 locs ht hvm hw hB hz1 hk1 hS => ?_)
        obtain ⟨F_19, hB1⟩ := hB
        obtain rfl : F = F_19 := (funext (fun a => hB1.2.2.2 a List.not_mem_nil)).symm
        obtain ⟨hP, hD, hO, hR⟩ := QT.back hB1 ht hFc hR (fun q h => absurd h List.not_mem_nil)
        generalize H1 = H at hP hS ⊢
        have hw : r_18 = f i1 := hw
        have hw_20 := hw
        subst hw_20
        refine lv_istore (lv' := [(5, .int (f i1)), (4, .int (nI i1)), (3, .int (nI p1)), (0, .ref h0), (1, .int (nI a)), (2, .int (nI b))]) hx hb dX0_isName_41 hl (by decide) rfl (fun ls hl => ?_)
        refine lv_iload hx hb dX0_isName_43 (lv_at hl 0 rfl) ?_
        refine lv_bipush (v := 46) hx hb dX0_isName_45 (by decide) ?_
        refine lv_icmp_ne (tgt := 54) hx hb dX0_isName_47 (by decide) (fun c_21 => ?_) (fun c_21 => ?_)
        ·
          refine lv_iconst (v := 0) hx hb dX0_isName_54 (by decide) ?_
          refine lv_istore (lv' := [(6, .int 0), (5, .int (f i1)), (4, .int (nI i1)), (3, .int (nI p1)), (0, .ref h0), (1, .int (nI a)), (2, .int (nI b))]) hx hb dX0_isName_55 hl (by decide) rfl (fun ls hl => ?_)
          refine lv_iload hx hb dX0_isName_57 (lv_at hl 0 rfl) ?_
          refine lv_if_eq (tgt := 69) hx hb dX0_isName_59 (by decide) (fun c_22 => ?_) (fun c_22 => absurd (by decide) c_22)
          refine lv_iload_n hx hb dX0_isName_69 rfl (lv_at hl 3 rfl) ?_
          refine lv_bipush (v := 20) hx hb dX0_isName_70 (by decide) ?_
          refine lv_icmp_eq (tgt := 105) hx hb dX0_isName_72 (by decide) (fun c_23 => ?_) (fun c_23 => ?_)
          ·
            refine lv_iconst (v := 0) hx hb dX0_isName_105 (by decide) ?_
            refine W.widen (k := 0) (n := 0) (by omega) (by omega) ?_
            exact W.zret (v := 0) (ty := .boolean) hx hb hr (by decide) (fun t ht hWm => ⟨⟨0, (), rfl, (nm_z hl1 hl2 (nm_bad hv4 hib c_21 (Or.inl ((nI_eq (a := p1) (b := 20) (by omega) (by omega)).mp c_23)))), ⟨F, QT.mk ht hP hD hO hR⟩⟩, hS.F ht⟩) hS.2.2 dX0_isName_106
          ·
            refine lv_iload hx hb dX0_isName_75 (lv_at hl 1 rfl) ?_
            have hFc := pg_free hD hS hA
            refine va_calli (va_runS (As := [.int (f i1)]) (rest := []) ⟨hx, hb, hml, hown, hts⟩ (s_X0_isSmall_e l dC dI cs ty L H.size F (f i1) hW ) ⟨callB_of 1 hts (gi kt_4) rfl rfl rfl (hts _ kt_1) (hts _ kt_5) (by decide +kernel) ⟨Nat.le_of_ble_eq_true rfl, Nat.le_of_ble_eq_true rfl⟩, (hts _ kt_6)⟩ ⟨fun a U g mk q => ⟨q.1, PT.calling q.2⟩, fun U hU hWm => ⟨rfl, PT.mk hU hWm hP hK hD hE hO⟩⟩ rfl rfl hl.1 rfl (lv_room (Nat.le_of_ble_eq_true rfl)) dX0_isName_77 ⟨by show _ + 0 ≤ 0; omega, by show _ + 0 ≤ 0; omega⟩) hS (fun q _ h => hFc q h) hFc (fun r_26 u t H1 locs ht hvm hw hB hz1 hk1 hS => ?_)
            obtain ⟨F_27, hB1⟩ := hB
            obtain rfl : F = F_27 := (funext (fun a => hB1.2.2.2 a List.not_mem_nil)).symm
            obtain ⟨hP, hD, hO, hR⟩ := QT.back hB1 ht hFc hR (fun q h => absurd h List.not_mem_nil)
            generalize H1 = H at hP hS ⊢
            have hw : r_26 = (if 97 ≤ (f i1) ∧ (f i1) ≤ 122 then 1 else 0) := hw
            have hw_28 := hw
            refine lv_if_ne (tgt := 107) hx hb dX0_isName_80 (by decide) (fun c_29 => ?_) (fun c_29 => ?_)
            ·
              refine lv_iload hx hb dX0_isName_107 (lv_at hl 0 rfl) ?_
              refine lv_if_eq (tgt := 116) hx hb dX0_isName_109 (by decide) (fun c_30 => ?_) (fun c_30 => absurd (by decide) c_30)
              refine lv_iload_n hx hb dX0_isName_116 rfl (lv_at hl 3 rfl) ?_
              refine lv_iconst (v := 1) hx hb dX0_isName_117 (by decide) ?_
              refine lv_iadd hx hb dX0_isName_118 ?_
              refine lv_topi (fun x_31 ex_31 => ?_)
              obtain rfl : x_31 = (nI (p1 + 1)) := ex_31.trans (nI_1 p1)
              refine lv_istore_n (lv' := [(3, .int (nI (p1 + 1))), (6, .int 0), (5, .int (f i1)), (4, .int (nI i1)), (0, .ref h0), (1, .int (nI a)), (2, .int (nI b))]) hx hb dX0_isName_119 rfl hl (by decide) rfl (fun ls hl => ?_)
              refine lv_iinc (v := (nI (i1 + 1))) (lv' := [(4, .int (nI (i1 + 1))), (3, .int (nI (p1 + 1))), (6, .int 0), (5, .int (f i1)), (0, .ref h0), (1, .int (nI a)), (2, .int (nI b))]) hx hb dX0_isName_120 hl (k := 3) rfl (nI_1 _) (by decide) rfl (fun ls hl => ?_)
              refine lv_goto (tgt := 29) hx hb dX0_isName_123 (by decide) ?_
              refine W.widen (k := 0) (n := 0) (by omega) (by omega) ?_
              exact ih_11 ((i1 + 1), (p1 + 1)) F (⟨by omega, by omega, by have h9 : p1 ≠ 20 := (fun q => c_23 (by rw [q]; rfl)); omega, nm_chr hv4 hib c_21 (fun q => c_23 (by rw [q]; rfl)) (decide_eq_true (Or.inl (ifb1 hw_28 c_29)))⟩) (by show b - (i1 + 1) < b - i1; omega) hO hR _ _ hP hD hS ls (lv_sub hl [0, 1, 4, 5, 6] rfl)
            ·
              refine lv_iload hx hb dX0_isName_83 (lv_at hl 1 rfl) ?_
              have hFc := pg_free hD hS hA
              refine va_calli (va_runS (As := [.int (f i1)]) (rest := []) ⟨hx, hb, hml, hown, hts⟩ (s_X0_isDigit_e l dC dI cs ty L H.size F (f i1) hW ) ⟨callB_of 1 hts (gi kt_7) rfl rfl rfl (hts _ kt_1) (hts _ kt_8) (by decide +kernel) ⟨Nat.le_of_ble_eq_true rfl, Nat.le_of_ble_eq_true rfl⟩, (hts _ kt_9)⟩ ⟨fun a U g mk q => ⟨q.1, PT.calling q.2⟩, fun U hU hWm => ⟨rfl, PT.mk hU hWm hP hK hD hE hO⟩⟩ rfl rfl hl.1 rfl (lv_room (Nat.le_of_ble_eq_true rfl)) dX0_isName_85 ⟨by show _ + 0 ≤ 0; omega, by show _ + 0 ≤ 0; omega⟩) hS (fun q _ h => hFc q h) hFc (fun r_32 u t H1 locs ht hvm hw hB hz1 hk1 hS => ?_)
              obtain ⟨F_33, hB1⟩ := hB
              obtain rfl : F = F_33 := (funext (fun a => hB1.2.2.2 a List.not_mem_nil)).symm
              obtain ⟨hP, hD, hO, hR⟩ := QT.back hB1 ht hFc hR (fun q h => absurd h List.not_mem_nil)
              generalize H1 = H at hP hS ⊢
              have hw : r_32 = (if 48 ≤ (f i1) ∧ (f i1) ≤ 57 then 1 else 0) := hw
              have hw_34 := hw
              refine lv_if_ne (tgt := 107) hx hb dX0_isName_88 (by decide) (fun c_35 => ?_) (fun c_35 => ?_)
              ·
                refine lv_iload hx hb dX0_isName_107 (lv_at hl 0 rfl) ?_
                refine lv_if_eq (tgt := 116) hx hb dX0_isName_109 (by decide) (fun c_36 => ?_) (fun c_36 => absurd (by decide) c_36)
                refine lv_iload_n hx hb dX0_isName_116 rfl (lv_at hl 3 rfl) ?_
                refine lv_iconst (v := 1) hx hb dX0_isName_117 (by decide) ?_
                refine lv_iadd hx hb dX0_isName_118 ?_
                refine lv_topi (fun x_37 ex_37 => ?_)
                obtain rfl : x_37 = (nI (p1 + 1)) := ex_37.trans (nI_1 p1)
                refine lv_istore_n (lv' := [(3, .int (nI (p1 + 1))), (6, .int 0), (5, .int (f i1)), (4, .int (nI i1)), (0, .ref h0), (1, .int (nI a)), (2, .int (nI b))]) hx hb dX0_isName_119 rfl hl (by decide) rfl (fun ls hl => ?_)
                refine lv_iinc (v := (nI (i1 + 1))) (lv' := [(4, .int (nI (i1 + 1))), (3, .int (nI (p1 + 1))), (6, .int 0), (5, .int (f i1)), (0, .ref h0), (1, .int (nI a)), (2, .int (nI b))]) hx hb dX0_isName_120 hl (k := 3) rfl (nI_1 _) (by decide) rfl (fun ls hl => ?_)
                refine lv_goto (tgt := 29) hx hb dX0_isName_123 (by decide) ?_
                refine W.widen (k := 0) (n := 0) (by omega) (by omega) ?_
                exact ih_11 ((i1 + 1), (p1 + 1)) F (⟨by omega, by omega, by have h9 : p1 ≠ 20 := (fun q => c_23 (by rw [q]; rfl)); omega, nm_chr hv4 hib c_21 (fun q => c_23 (by rw [q]; rfl)) (decide_eq_true (Or.inr (Or.inl (ifb1 hw_34 c_35))))⟩) (by show b - (i1 + 1) < b - i1; omega) hO hR _ _ hP hD hS ls (lv_sub hl [0, 1, 4, 5, 6] rfl)
              ·
                refine lv_iload hx hb dX0_isName_91 (lv_at hl 1 rfl) ?_
                refine lv_bipush (v := 45) hx hb dX0_isName_93 (by decide) ?_
                refine lv_icmp_eq (tgt := 107) hx hb dX0_isName_95 (by decide) (fun c_38 => ?_) (fun c_38 => ?_)
                ·
                  refine lv_iload hx hb dX0_isName_107 (lv_at hl 0 rfl) ?_
                  refine lv_if_eq (tgt := 116) hx hb dX0_isName_109 (by decide) (fun c_39 => ?_) (fun c_39 => absurd (by decide) c_39)
                  refine lv_iload_n hx hb dX0_isName_116 rfl (lv_at hl 3 rfl) ?_
                  refine lv_iconst (v := 1) hx hb dX0_isName_117 (by decide) ?_
                  refine lv_iadd hx hb dX0_isName_118 ?_
                  refine lv_topi (fun x_40 ex_40 => ?_)
                  obtain rfl : x_40 = (nI (p1 + 1)) := ex_40.trans (nI_1 p1)
                  refine lv_istore_n (lv' := [(3, .int (nI (p1 + 1))), (6, .int 0), (5, .int (f i1)), (4, .int (nI i1)), (0, .ref h0), (1, .int (nI a)), (2, .int (nI b))]) hx hb dX0_isName_119 rfl hl (by decide) rfl (fun ls hl => ?_)
                  refine lv_iinc (v := (nI (i1 + 1))) (lv' := [(4, .int (nI (i1 + 1))), (3, .int (nI (p1 + 1))), (6, .int 0), (5, .int (f i1)), (0, .ref h0), (1, .int (nI a)), (2, .int (nI b))]) hx hb dX0_isName_120 hl (k := 3) rfl (nI_1 _) (by decide) rfl (fun ls hl => ?_)
                  refine lv_goto (tgt := 29) hx hb dX0_isName_123 (by decide) ?_
                  refine W.widen (k := 0) (n := 0) (by omega) (by omega) ?_
                  exact ih_11 ((i1 + 1), (p1 + 1)) F (⟨by omega, by omega, by have h9 : p1 ≠ 20 := (fun q => c_23 (by rw [q]; rfl)); omega, nm_chr hv4 hib c_21 (fun q => c_23 (by rw [q]; rfl)) (decide_eq_true (Or.inr (Or.inr (Or.inl c_38))))⟩) (by show b - (i1 + 1) < b - i1; omega) hO hR _ _ hP hD hS ls (lv_sub hl [0, 1, 4, 5, 6] rfl)
                ·
                  refine lv_iload hx hb dX0_isName_98 (lv_at hl 1 rfl) ?_
                  refine lv_bipush (v := 95) hx hb dX0_isName_100 (by decide) ?_
                  refine lv_icmp_eq (tgt := 107) hx hb dX0_isName_102 (by decide) (fun c_41 => ?_) (fun c_41 => ?_)
                  ·
                    refine lv_iload hx hb dX0_isName_107 (lv_at hl 0 rfl) ?_
                    refine lv_if_eq (tgt := 116) hx hb dX0_isName_109 (by decide) (fun c_42 => ?_) (fun c_42 => absurd (by decide) c_42)
                    refine lv_iload_n hx hb dX0_isName_116 rfl (lv_at hl 3 rfl) ?_
                    refine lv_iconst (v := 1) hx hb dX0_isName_117 (by decide) ?_
                    refine lv_iadd hx hb dX0_isName_118 ?_
                    refine lv_topi (fun x_43 ex_43 => ?_)
                    obtain rfl : x_43 = (nI (p1 + 1)) := ex_43.trans (nI_1 p1)
                    refine lv_istore_n (lv' := [(3, .int (nI (p1 + 1))), (6, .int 0), (5, .int (f i1)), (4, .int (nI i1)), (0, .ref h0), (1, .int (nI a)), (2, .int (nI b))]) hx hb dX0_isName_119 rfl hl (by decide) rfl (fun ls hl => ?_)
                    refine lv_iinc (v := (nI (i1 + 1))) (lv' := [(4, .int (nI (i1 + 1))), (3, .int (nI (p1 + 1))), (6, .int 0), (5, .int (f i1)), (0, .ref h0), (1, .int (nI a)), (2, .int (nI b))]) hx hb dX0_isName_120 hl (k := 3) rfl (nI_1 _) (by decide) rfl (fun ls hl => ?_)
                    refine lv_goto (tgt := 29) hx hb dX0_isName_123 (by decide) ?_
                    refine W.widen (k := 0) (n := 0) (by omega) (by omega) ?_
                    exact ih_11 ((i1 + 1), (p1 + 1)) F (⟨by omega, by omega, by have h9 : p1 ≠ 20 := (fun q => c_23 (by rw [q]; rfl)); omega, nm_chr hv4 hib c_21 (fun q => c_23 (by rw [q]; rfl)) (decide_eq_true (Or.inr (Or.inr (Or.inr c_41))))⟩) (by show b - (i1 + 1) < b - i1; omega) hO hR _ _ hP hD hS ls (lv_sub hl [0, 1, 4, 5, 6] rfl)
                  ·
                    refine lv_iconst (v := 0) hx hb dX0_isName_105 (by decide) ?_
                    refine W.widen (k := 0) (n := 0) (by omega) (by omega) ?_
                    exact W.zret (v := 0) (ty := .boolean) hx hb hr (by decide) (fun t ht hWm => ⟨⟨0, (), rfl, (nm_z hl1 hl2 (nm_bad hv4 hib c_21 (Or.inr (decide_eq_false (fun q => q.elim (ifb0 hw_28 c_29) (fun q => q.elim (ifb0 hw_34 c_35) (fun q => q.elim (c_38) (c_41)))))))), ⟨F, QT.mk ht hP hD hO hR⟩⟩, hS.F ht⟩) hS.2.2 dX0_isName_106
        ·
          refine lv_iconst (v := 1) hx hb dX0_isName_50 (by decide) ?_
          refine lv_goto (tgt := 55) hx hb dX0_isName_51 (by decide) ?_
          refine lv_istore (lv' := [(6, .int 1), (5, .int (f i1)), (4, .int (nI i1)), (3, .int (nI p1)), (0, .ref h0), (1, .int (nI a)), (2, .int (nI b))]) hx hb dX0_isName_55 hl (by decide) rfl (fun ls hl => ?_)
          refine lv_iload hx hb dX0_isName_57 (lv_at hl 0 rfl) ?_
          refine lv_if_eq (tgt := 69) hx hb dX0_isName_59 (by decide) (fun c_44 => absurd c_44 (by decide)) (fun c_44 => ?_)
          refine lv_iload_n hx hb dX0_isName_62 rfl (lv_at hl 3 rfl) ?_
          refine lv_if_ne (tgt := 107) hx hb dX0_isName_63 (by decide) (fun c_45 => ?_) (fun c_45 => ?_)
          ·
            refine lv_iload hx hb dX0_isName_107 (lv_at hl 0 rfl) ?_
            refine lv_if_eq (tgt := 116) hx hb dX0_isName_109 (by decide) (fun c_47 => absurd c_47 (by decide)) (fun c_47 => ?_)
            refine lv_iconst (v := 0) hx hb dX0_isName_112 (by decide) ?_
            refine lv_goto (tgt := 119) hx hb dX0_isName_113 (by decide) ?_
            refine lv_istore_n (lv' := [(3, .int 0), (6, .int 1), (5, .int (f i1)), (4, .int (nI i1)), (0, .ref h0), (1, .int (nI a)), (2, .int (nI b))]) hx hb dX0_isName_119 rfl hl (by decide) rfl (fun ls hl => ?_)
            refine lv_iinc (v := (nI (i1 + 1))) (lv' := [(4, .int (nI (i1 + 1))), (3, .int 0), (6, .int 1), (5, .int (f i1)), (0, .ref h0), (1, .int (nI a)), (2, .int (nI b))]) hx hb dX0_isName_120 hl (k := 3) rfl (nI_1 _) (by decide) rfl (fun ls hl => ?_)
            refine lv_goto (tgt := 29) hx hb dX0_isName_123 (by decide) ?_
            refine W.widen (k := 0) (n := 0) (by omega) (by omega) ?_
            exact ih_11 ((i1 + 1), 0) F (⟨by omega, by omega, by omega, nm_dot hv4 hib c_21 (fun q => c_45 (by rw [q]; rfl))⟩) (by show b - (i1 + 1) < b - i1; omega) hO hR _ _ hP hD hS ls (lv_sub hl [0, 1, 4, 5, 6] rfl)
          ·
            refine lv_goto (tgt := 105) hx hb dX0_isName_66 (by decide) ?_
            refine lv_iconst (v := 0) hx hb dX0_isName_105 (by decide) ?_
            refine W.widen (k := 0) (n := 0) (by omega) (by omega) ?_
            exact W.zret (v := 0) (ty := .boolean) hx hb hr (by decide) (fun t ht hWm => ⟨⟨0, (), rfl, (nm_z hl1 hl2 (nm_dot0 hv4 hib c_21 ((nI_eq (a := p1) (b := 0) (by omega) (by omega)).mp c_45))), ⟨F, QT.mk ht hP hD hO hR⟩⟩, hS.F ht⟩) hS.2.2 dX0_isName_106
    ·
      have hl2 : ¬ b ≤ a + 60 := fun q => c_8 ((sub_le60 (by omega) (by omega)).mpr q)
      refine lv_iconst (v := 0) hx hb dX0_isName_22 (by decide) ?_
      refine W.widen (k := 0) (n := 0) (by omega) (by omega) ?_
      exact W.zret (v := 0) (ty := .boolean) hx hb hr (by decide) (fun t ht hWm => ⟨⟨0, (), rfl, (nm_len (fun q => by omega)), ⟨F, QT.mk ht hP hD hO hR⟩⟩, hS.F ht⟩) hS.2.2 dX0_isName_23
set_option maxHeartbeats 4000000 in
set_option maxRecDepth 100000 in
theorem s_X1_isLocal_e (l : Launch) (dC : Nat → ClassId) (dI : Nat → Nat → Nat) (cs : Nat → ClassId) (ty : TyM) (L : List Nat) (sz : Nat) (F : Nat → va_E) (g1 : Nat) (σ : Nat) (r1 : Nat) (n1 : Nat) (z : Nat) (e9 : Nat) (f : Nat → Int32) (hW : WT ty L) (hL_g1 : g1 ∈ L) (hT_g1 : ty g1 = (0, σ, [r1, n1])) (hFg : F g1 = .inr (0, [.ref r1, .int (nI z), .int 0])) (hFr : F r1 = .inl (cs 16, n1, .inl f)) (hzn : z ≤ n1) (hn9 : n1 ≤ 10000) (hez : e9 ≤ z) : Met l yX1_isLocal (.code yX1_isLocal cX1_isLocal 5 (some .boolean) :: tb) ({ frames := 1, cells := 0, slots := 0, locals := 21 }) (va_Pc [.ref g1, .int (nI e9)] (PT (dC, dI) cs ty L F sz)) (va_Qi (fun (r : Int32) (_ : Unit) => (r = 1 ∧ LCL f e9) ∨ (r = 0 ∧ ¬ LCL f e9)) (fun _ T9 => ∃ F2 : Nat → va_E, QT (dC, dI) cs ty L [] F F2 (va_A (va_pl L F) sz) T9) (va_A (va_pl L F) sz)) 0 0 (va_A (va_pl L F) sz) := by
  refine Met.ofW (cc := cX1_isLocal) (maxL := 5) (ret := (some .boolean)) (by decide) rfl ?_
  intro p e s m args below meth c s₁ B hml hv
  obtain ⟨rfl, hsz, hP, hK, hD0, hE, hO⟩ := hv
  have hx := B.exec
  have hb := B.bytes
  have hr := B.returns
  have hts : ∀ w ∈ tb, w.before _ s = true := fun w h => atoms_spec (ws := .code yX1_isLocal cX1_isLocal 5 (some .boolean) :: tb) B.pre w (List.mem_cons_of_mem _ h)
  have hown : s.vm.findClass RX1 = some m.cls := findClass_of_methodNamed B.named
  have hlocks := B.notSynchronized
  subst hsz
  have hD := hD0.self (sz := s.heap.size)
  generalize hAe : va_A (va_pl L F) s.heap.size = A at hD ⊢
  have hA : ∀ q : Nat, s.heap.size ≤ q → A q := fun q h => by rw [← hAe]; exact Or.inr h
  have hS : va_S A s.heap s.heap [] := va_S.rf
  have hR : FR ty [] F F := FR.refl
  have hl := lv_entry ([.ref g1, .int (nI e9)]) (n := 5) (Nat.le_of_ble_eq_true rfl)
  rw [lg_entry_eq]
  generalize (lg_sl ([.ref g1, .int (nI e9)]) ++ List.replicate (5 - (lg_sl ([.ref g1, .int (nI e9)])).length) Slot.unset).toArray = ls at hl ⊢
  have hl : lv_has ls 5 [(0, .ref g1), (1, .int (nI e9))] := hl
  refine lv_iconst (v := 0) hx hb dX1_isLocal_0 (by decide) ?_
  refine lv_istore_n (lv' := [(2, .int 0), (0, .ref g1), (1, .int (nI e9))]) hx hb dX1_isLocal_1 rfl hl (by decide) rfl (fun ls hl => ?_)
  refine W.widen (k := 0) (n := 0) (by omega) (by omega) ?_
  refine pl_loop (σ := Nat) A (dC, dI) cs ty L [] F 2 5 (fun i1 => [(2, .int (nI i1)), (0, .ref g1), (1, .int (nI e9))]) (fun i1 => []) (fun i1 _ => i1 ≤ e9 ∧ ∀ j, j < i1 → LOC (f j) = true) (fun i1 => e9 - i1) ?_ 0 F (⟨by omega, fun j hj => absurd hj (Nat.not_lt_zero _)⟩) hO hR _ _ hP hD hS ls (lv_sub hl [0, 1, 2] rfl)
  rintro i1 F_1 hv_2 hO hR ih_3 H locs hP hD hS ls hl
  have hl : lv_has ls 5 [(2, .int (nI i1)), (0, .ref g1), (1, .int (nI e9))] := hl
  have hv_2 : i1 ≤ e9 ∧ ∀ j, j < i1 → LOC (f j) = true := hv_2
  refine W.eq (g2 := F0 m 2 ls []) rfl ?_
  obtain rfl : F = F_1 := (funext (fun a => hR a List.not_mem_nil)).symm
  obtain ⟨hv1, hv2⟩ := id hv_2
  refine lv_iload_n hx hb dX1_isLocal_2 rfl (lv_at hl 0 rfl) ?_
  refine lv_iload_n hx hb dX1_isLocal_3 rfl (lv_at hl 2 rfl) ?_
  refine lv_icmp_ge (tgt := 71) hx hb dX1_isLocal_4 (by decide) (fun c_4 => ?_) (fun c_4 => ?_)
  ·
    have hi_5 : e9 ≤ i1 := leN (N := e9) c_4
    obtain rfl : e9 = i1 := by have h9 : e9 ≤ i1 := (nI_leI (by omega) (by omega)).mp c_4; omega
    refine lv_iload_n hx hb dX1_isLocal_71 rfl (lv_at hl 2 rfl) ?_
    refine lv_iconst (v := 1) hx hb dX1_isLocal_72 (by decide) ?_
    refine lv_icmp_lt (tgt := 86) hx hb dX1_isLocal_73 (by decide) (fun c_6 => ?_) (fun c_6 => ?_)
    ·
      have hi_7 : e9 < 1 := ltN (N := 1) (Int32.not_le.mpr c_6)
      refine lv_iconst (v := 0) hx hb dX1_isLocal_86 (by decide) ?_
      refine W.widen (k := 0) (n := 0) (by omega) (by omega) ?_
      exact W.zret (v := 0) (ty := .boolean) hx hb hr (by decide) (fun t ht hWm => ⟨⟨0, (), rfl, (Or.inr ⟨rfl, fun q => absurd q.1 (by have h9 : e9 < 1 := (nI_ltI (b := 1) (by omega) (by omega)).mp c_6; omega)⟩), ⟨F, QT.mk ht hP hD hO hR⟩⟩, hS.F ht⟩) hS.2.2 dX1_isLocal_87
    ·
      have hi_8 : 1 ≤ e9 := leN (N := 1) (Int32.not_lt.mp c_6)
      refine lv_iload_n hx hb dX1_isLocal_76 rfl (lv_at hl 2 rfl) ?_
      refine lv_bipush (v := 30) hx hb dX1_isLocal_77 (by decide) ?_
      refine lv_icmp_gt (tgt := 86) hx hb dX1_isLocal_79 (by decide) (fun c_9 => ?_) (fun c_9 => ?_)
      ·
        have hi_10 : 30 < e9 := (nI_ltI (a := 30) (b := e9) (by omega) (by omega)).mp c_9
        refine lv_iconst (v := 0) hx hb dX1_isLocal_86 (by decide) ?_
        refine W.widen (k := 0) (n := 0) (by omega) (by omega) ?_
        exact W.zret (v := 0) (ty := .boolean) hx hb hr (by decide) (fun t ht hWm => ⟨⟨0, (), rfl, (Or.inr ⟨rfl, fun q => absurd q.2.1 (by have h9 : 30 < e9 := (nI_ltI (a := 30) (by omega) (by omega)).mp c_9; omega)⟩), ⟨F, QT.mk ht hP hD hO hR⟩⟩, hS.F ht⟩) hS.2.2 dX1_isLocal_87
      ·
        have hi_11 : e9 ≤ 30 := Nat.not_lt.mp (fun q => c_9 ((nI_ltI (a := 30) (b := e9) (by omega) (by omega)).mpr q))
        refine lv_iconst (v := 1) hx hb dX1_isLocal_82 (by decide) ?_
        refine lv_goto (tgt := 87) hx hb dX1_isLocal_83 (by decide) ?_
        refine W.widen (k := 0) (n := 0) (by omega) (by omega) ?_
        exact W.zret (v := 1) (ty := .boolean) hx hb hr (by decide) (fun t ht hWm => ⟨⟨1, (), rfl, (Or.inl ⟨rfl, (by have h9 : ¬ e9 < 1 := fun q => c_6 ((nI_ltI (b := 1) (by omega) (by omega)).mpr q); omega), (by have h9 : ¬ 30 < e9 := fun q => c_9 ((nI_ltI (a := 30) (by omega) (by omega)).mpr q); omega), hv2⟩), ⟨F, QT.mk ht hP hD hO hR⟩⟩, hS.F ht⟩) hS.2.2 dX1_isLocal_87
  ·
    have hi_12 : i1 < e9 := ltN (N := e9) c_4
    have hie : i1 < e9 := Nat.not_le.mp (fun q => c_4 ((nI_leI (by omega) (by omega)).mpr q))
    refine lv_aload_n hx hb dX1_isLocal_7 rfl (lv_at hl 1 rfl) ?_
    refine lv_iload_n hx hb dX1_isLocal_8 rfl (lv_at hl 0 rfl) ?_
    obtain ⟨hi_13, ht_14, hq_15⟩ := hW.bytes hL_g1 hT_g1
    have hFc := pg_free hD hS hA
    refine va_calli (va_runV (As := [.int (nI i1)]) (rest := []) ⟨hx, hb, hml, hown, hts⟩ (s_X0_at_e l dC dI cs ty L H.size F g1 σ r1 n1 z i1 f hW hL_g1 hT_g1 hFg hFr (by omega) (by omega) (by omega)) ⟨callB_of 1 hts (gi kt_21) rfl rfl rfl (hts _ kt_1) (hts _ kt_301) (by decide +kernel) ⟨Nat.le_of_ble_eq_true rfl, Nat.le_of_ble_eq_true rfl⟩, (hts _ kt_23), (hts _ kt_24)⟩ ⟨fun a U g mk q => ⟨q.1, PT.calling q.2⟩, pg_recv hK hP hL_g1 hFg (q := (RX0, TX0, 3)) rfl, fun U hU hWm => ⟨rfl, PT.mk hU hWm hP hK hD hE hO⟩⟩ rfl rfl hl.1 rfl (lv_room (Nat.le_of_ble_eq_true rfl)) dX1_isLocal_9 ⟨by show _ + 0 ≤ 0; omega, by show _ + 0 ≤ 0; omega⟩) hS (fun q _ h => hFc q h) hFc (fun r_16 u t H1 locs ht hvm hw hB hz1 hk1 hS => ?_)
    obtain ⟨F_17, hB1⟩ := hB
    obtain rfl : F = F_17 := (funext (fun a => hB1.2.2.2 a List.not_mem_nil)).symm
    obtain ⟨hP, hD, hO, hR⟩ := QT.back hB1 ht hFc hR (fun q h => absurd h List.not_mem_nil)
    generalize H1 = H at hP hS ⊢
    have hw : r_16 = f i1 := hw
    have hw_18 := hw
    subst hw_18
    refine lv_istore_n (lv' := [(3, .int (f i1)), (2, .int (nI i1)), (0, .ref g1), (1, .int (nI e9))]) hx hb dX1_isLocal_12 rfl hl (by decide) rfl (fun ls hl => ?_)
    refine W.widen (k := 0) (n := 0) (by omega) (by omega) ?_
    refine pl_cut (σ := Int32) A (dC, dI) cs ty L [] F 42 5 (fun s0 => [(3, .int (f i1)), (2, .int (nI i1)), (0, .ref g1), (1, .int (nI e9))]) (fun s0 => [.int s0]) (fun s0 _ => (s0 = 1 ∧ (f i1 = 46 ∨ f i1 = 45 ∨ f i1 = 95 ∨ f i1 = 43)) ∨ (s0 = 0 ∧ ¬ (f i1 = 46 ∨ f i1 = 45 ∨ f i1 = 95 ∨ f i1 = 43))) ?_ (fun jn_19 => ?_)
    ·
      rintro s0 F_20 hv_21 hO hR H locs hP hD hS ls hl
      have hl : lv_has ls 5 [(3, .int (f i1)), (2, .int (nI i1)), (0, .ref g1), (1, .int (nI e9))] := hl
      have hv_21 : (s0 = 1 ∧ (f i1 = 46 ∨ f i1 = 45 ∨ f i1 = 95 ∨ f i1 = 43)) ∨ (s0 = 0 ∧ ¬ (f i1 = 46 ∨ f i1 = 45 ∨ f i1 = 95 ∨ f i1 = 43)) := hv_21
      refine W.eq (g2 := F0 m 42 ls [.int s0]) rfl ?_
      obtain rfl : F = F_20 := (funext (fun a => hR a List.not_mem_nil)).symm
      have hmk := hv_21
      refine lv_istore (lv' := [(4, .int s0), (3, .int (f i1)), (2, .int (nI i1)), (0, .ref g1), (1, .int (nI e9))]) hx hb dX1_isLocal_42 hl (by decide) rfl (fun ls hl => ?_)
      refine lv_iload hx hb dX1_isLocal_44 (lv_at hl 0 rfl) ?_
      refine lv_if_ne (tgt := 65) hx hb dX1_isLocal_46 (by decide) (fun c_22 => ?_) (fun c_22 => ?_)
      ·
        refine lv_iinc (v := (nI (i1 + 1))) (lv' := [(2, .int (nI (i1 + 1))), (4, .int s0), (3, .int (f i1)), (0, .ref g1), (1, .int (nI e9))]) hx hb dX1_isLocal_65 hl (k := 2) rfl (nI_1 _) (by decide) rfl (fun ls hl => ?_)
        refine lv_goto (tgt := 2) hx hb dX1_isLocal_68 (by decide) ?_
        refine W.widen (k := 0) (n := 0) (by omega) (by omega) ?_
        exact ih_3 (i1 + 1) F (⟨by omega, fun j hj => by rcases Nat.lt_or_ge j i1 with q | q; exact hv2 j q; rw [show j = i1 by omega]; exact loc_m (bz1 hmk c_22)⟩) (by show e9 - (i1 + 1) < e9 - i1; omega) hO hR _ _ hP hD hS ls (lv_sub hl [0, 3, 4] rfl)
      ·
        refine lv_iload_n hx hb dX1_isLocal_49 rfl (lv_at hl 1 rfl) ?_
        have hFc := pg_free hD hS hA
        refine va_calli (va_runS (As := [.int (f i1)]) (rest := []) ⟨hx, hb, hml, hown, hts⟩ (s_X0_isSmall_e l dC dI cs ty L H.size F (f i1) hW ) ⟨callB_of 1 hts (gi kt_4) rfl rfl rfl (hts _ kt_1) (hts _ kt_302) (by decide +kernel) ⟨Nat.le_of_ble_eq_true rfl, Nat.le_of_ble_eq_true rfl⟩, (hts _ kt_6)⟩ ⟨fun a U g mk q => ⟨q.1, PT.calling q.2⟩, fun U hU hWm => ⟨rfl, PT.mk hU hWm hP hK hD hE hO⟩⟩ rfl rfl hl.1 rfl (lv_room (Nat.le_of_ble_eq_true rfl)) dX1_isLocal_50 ⟨by show _ + 0 ≤ 0; omega, by show _ + 0 ≤ 0; omega⟩) hS (fun q _ h => hFc q h) hFc (fun r_23 u t H1 locs ht hvm hw hB hz1 hk1 hS => ?_)
        obtain ⟨F_24, hB1⟩ := hB
        obtain rfl : F = F_24 := (funext (fun a => hB1.2.2.2 a List.not_mem_nil)).symm
        obtain ⟨hP, hD, hO, hR⟩ := QT.back hB1 ht hFc hR (fun q h => absurd h List.not_mem_nil)
        generalize H1 = H at hP hS ⊢
        have hw : r_23 = (if 97 ≤ (f i1) ∧ (f i1) ≤ 122 then 1 else 0) := hw
        have hw_25 := hw
        refine lv_if_ne (tgt := 65) hx hb dX1_isLocal_53 (by decide) (fun c_26 => ?_) (fun c_26 => ?_)
        ·
          refine lv_iinc (v := (nI (i1 + 1))) (lv' := [(2, .int (nI (i1 + 1))), (4, .int s0), (3, .int (f i1)), (0, .ref g1), (1, .int (nI e9))]) hx hb dX1_isLocal_65 hl (k := 2) rfl (nI_1 _) (by decide) rfl (fun ls hl => ?_)
          refine lv_goto (tgt := 2) hx hb dX1_isLocal_68 (by decide) ?_
          refine W.widen (k := 0) (n := 0) (by omega) (by omega) ?_
          exact ih_3 (i1 + 1) F (⟨by omega, fun j hj => by rcases Nat.lt_or_ge j i1 with q | q; exact hv2 j q; rw [show j = i1 by omega]; exact loc_s (ifb1 hw_25 c_26)⟩) (by show e9 - (i1 + 1) < e9 - i1; omega) hO hR _ _ hP hD hS ls (lv_sub hl [0, 3, 4] rfl)
        ·
          refine lv_iload_n hx hb dX1_isLocal_56 rfl (lv_at hl 1 rfl) ?_
          have hFc := pg_free hD hS hA
          refine va_calli (va_runS (As := [.int (f i1)]) (rest := []) ⟨hx, hb, hml, hown, hts⟩ (s_X0_isDigit_e l dC dI cs ty L H.size F (f i1) hW ) ⟨callB_of 1 hts (gi kt_7) rfl rfl rfl (hts _ kt_1) (hts _ kt_303) (by decide +kernel) ⟨Nat.le_of_ble_eq_true rfl, Nat.le_of_ble_eq_true rfl⟩, (hts _ kt_9)⟩ ⟨fun a U g mk q => ⟨q.1, PT.calling q.2⟩, fun U hU hWm => ⟨rfl, PT.mk hU hWm hP hK hD hE hO⟩⟩ rfl rfl hl.1 rfl (lv_room (Nat.le_of_ble_eq_true rfl)) dX1_isLocal_57 ⟨by show _ + 0 ≤ 0; omega, by show _ + 0 ≤ 0; omega⟩) hS (fun q _ h => hFc q h) hFc (fun r_27 u t H1 locs ht hvm hw hB hz1 hk1 hS => ?_)
          obtain ⟨F_28, hB1⟩ := hB
          obtain rfl : F = F_28 := (funext (fun a => hB1.2.2.2 a List.not_mem_nil)).symm
          obtain ⟨hP, hD, hO, hR⟩ := QT.back hB1 ht hFc hR (fun q h => absurd h List.not_mem_nil)
          generalize H1 = H at hP hS ⊢
          have hw : r_27 = (if 48 ≤ (f i1) ∧ (f i1) ≤ 57 then 1 else 0) := hw
          have hw_29 := hw
          refine lv_if_ne (tgt := 65) hx hb dX1_isLocal_60 (by decide) (fun c_30 => ?_) (fun c_30 => ?_)
          ·
            refine lv_iinc (v := (nI (i1 + 1))) (lv' := [(2, .int (nI (i1 + 1))), (4, .int s0), (3, .int (f i1)), (0, .ref g1), (1, .int (nI e9))]) hx hb dX1_isLocal_65 hl (k := 2) rfl (nI_1 _) (by decide) rfl (fun ls hl => ?_)
            refine lv_goto (tgt := 2) hx hb dX1_isLocal_68 (by decide) ?_
            refine W.widen (k := 0) (n := 0) (by omega) (by omega) ?_
            exact ih_3 (i1 + 1) F (⟨by omega, fun j hj => by rcases Nat.lt_or_ge j i1 with q | q; exact hv2 j q; rw [show j = i1 by omega]; exact loc_d (ifb1 hw_29 c_30)⟩) (by show e9 - (i1 + 1) < e9 - i1; omega) hO hR _ _ hP hD hS ls (lv_sub hl [0, 3, 4] rfl)
          ·
            refine lv_iconst (v := 0) hx hb dX1_isLocal_63 (by decide) ?_
            refine W.widen (k := 0) (n := 0) (by omega) (by omega) ?_
            exact W.zret (v := 0) (ty := .boolean) hx hb hr (by decide) (fun t ht hWm => ⟨⟨0, (), rfl, (Or.inr ⟨rfl, lcl_n hie (loc_n (bz0 hmk c_22) (ifb0 hw_25 c_26) (ifb0 hw_29 c_30))⟩), ⟨F, QT.mk ht hP hD hO hR⟩⟩, hS.F ht⟩) hS.2.2 dX1_isLocal_64
    ·
      refine lv_iload_n hx hb dX1_isLocal_13 rfl (lv_at hl 0 rfl) ?_
      refine lv_bipush (v := 46) hx hb dX1_isLocal_14 (by decide) ?_
      refine lv_icmp_eq (tgt := 37) hx hb dX1_isLocal_16 (by decide) (fun c_31 => ?_) (fun c_31 => ?_)
      ·
        refine lv_iconst (v := 1) hx hb dX1_isLocal_37 (by decide) ?_
        refine lv_goto (tgt := 42) hx hb dX1_isLocal_38 (by decide) ?_
        refine W.widen (k := 0) (n := 0) (by omega) (by omega) ?_
        exact jn_19 1 F ((Or.inl ⟨rfl, Or.inl c_31⟩)) hO hR _ _ hP hD hS ls (lv_sub hl [0, 1, 2, 3] rfl)
      ·
        refine lv_iload_n hx hb dX1_isLocal_19 rfl (lv_at hl 0 rfl) ?_
        refine lv_bipush (v := 45) hx hb dX1_isLocal_20 (by decide) ?_
        refine lv_icmp_eq (tgt := 37) hx hb dX1_isLocal_22 (by decide) (fun c_32 => ?_) (fun c_32 => ?_)
        ·
          refine lv_iconst (v := 1) hx hb dX1_isLocal_37 (by decide) ?_
          refine lv_goto (tgt := 42) hx hb dX1_isLocal_38 (by decide) ?_
          refine W.widen (k := 0) (n := 0) (by omega) (by omega) ?_
          exact jn_19 1 F ((Or.inl ⟨rfl, Or.inr (Or.inl c_32)⟩)) hO hR _ _ hP hD hS ls (lv_sub hl [0, 1, 2, 3] rfl)
        ·
          refine lv_iload_n hx hb dX1_isLocal_25 rfl (lv_at hl 0 rfl) ?_
          refine lv_bipush (v := 95) hx hb dX1_isLocal_26 (by decide) ?_
          refine lv_icmp_eq (tgt := 37) hx hb dX1_isLocal_28 (by decide) (fun c_33 => ?_) (fun c_33 => ?_)
          ·
            refine lv_iconst (v := 1) hx hb dX1_isLocal_37 (by decide) ?_
            refine lv_goto (tgt := 42) hx hb dX1_isLocal_38 (by decide) ?_
            refine W.widen (k := 0) (n := 0) (by omega) (by omega) ?_
            exact jn_19 1 F ((Or.inl ⟨rfl, Or.inr (Or.inr (Or.inl c_33))⟩)) hO hR _ _ hP hD hS ls (lv_sub hl [0, 1, 2, 3] rfl)
          ·
            refine lv_iload_n hx hb dX1_isLocal_31 rfl (lv_at hl 0 rfl) ?_
            refine lv_bipush (v := 43) hx hb dX1_isLocal_32 (by decide) ?_
            refine lv_icmp_ne (tgt := 41) hx hb dX1_isLocal_34 (by decide) (fun c_34 => ?_) (fun c_34 => ?_)
            ·
              refine lv_iconst (v := 0) hx hb dX1_isLocal_41 (by decide) ?_
              refine W.widen (k := 0) (n := 0) (by omega) (by omega) ?_
              exact jn_19 0 F ((Or.inr ⟨rfl, fun q => q.elim c_31 (fun q => q.elim c_32 (fun q => q.elim c_33 c_34))⟩)) hO hR _ _ hP hD hS ls (lv_sub hl [0, 1, 2, 3] rfl)
            ·
              refine lv_iconst (v := 1) hx hb dX1_isLocal_37 (by decide) ?_
              refine lv_goto (tgt := 42) hx hb dX1_isLocal_38 (by decide) ?_
              refine W.widen (k := 0) (n := 0) (by omega) (by omega) ?_
              exact jn_19 1 F ((Or.inl ⟨rfl, Or.inr (Or.inr (Or.inr c_34))⟩)) hO hR _ _ hP hD hS ls (lv_sub hl [0, 1, 2, 3] rfl)
set_option maxHeartbeats 4000000 in
set_option maxRecDepth 100000 in
theorem s_X1_takeSender_e (l : Launch) (dC : Nat → ClassId) (dI : Nat → Nat → Nat) (cs : Nat → ClassId) (ty : TyM) (L : List Nat) (sz : Nat) (F : Nat → va_E) (h0 : Nat) (ρ : Nat) (d : Nat) (δ : Nat) (ea : Nat) (w0 : Nat) (w1 : Nat) (w2 : Nat) (w3 : Nat) (nm : Nat) (te : Nat) (g1 : Nat) (σ : Nat) (r1 : Nat) (n1 : Nat) (z : Nat) (f : Nat → Int32) (x1 : Int32) (hW : WT ty L) (hL_h0 : h0 ∈ L) (hT_h0 : ty h0 = (1, ρ, [d, δ, ea, w0, w1, w2, w3, nm, te])) (hL_g1 : g1 ∈ L) (hT_g1 : ty g1 = (0, σ, [r1, n1])) (hFg : F g1 = .inr (0, [.ref r1, .int (nI z), .int 0])) (hFr : F r1 = .inl (cs 16, n1, .inl f)) (hzn : z ≤ n1) (hn9 : n1 ≤ 10000) : Met l yX1_takeSender (.code yX1_takeSender cX1_takeSender 4 (some .boolean) :: tb) ({ frames := 3, cells := 0, slots := 0, locals := 95 }) (va_Pc [.ref h0, .int x1, .ref g1] (PT (dC, dI) cs ty L F sz)) (va_Qi (fun (r : Int32) (_ : Unit) => (r = 1 ∧ SND f z) ∨ (r = 0 ∧ ¬ SND f z)) (fun _ T9 => ∃ F2 : Nat → va_E, QT (dC, dI) cs ty L [ρ, ρ + 1] F F2 (va_A (va_pl L F) sz) T9) (va_A (va_pl L F) sz)) 0 0 (va_A (va_pl L F) sz) := by
  refine Met.ofW (cc := cX1_takeSender) (maxL := 4) (ret := (some .boolean)) (by decide) rfl ?_
  intro p e s m args below meth c s₁ B hml hv
  obtain ⟨rfl, hsz, hP, hK, hD0, hE, hO⟩ := hv
  have hx := B.exec
  have hb := B.bytes
  have hr := B.returns
  have hts : ∀ w ∈ tb, w.before _ s = true := fun w h => atoms_spec (ws := .code yX1_takeSender cX1_takeSender 4 (some .boolean) :: tb) B.pre w (List.mem_cons_of_mem _ h)
  have hown : s.vm.findClass RX1 = some m.cls := findClass_of_methodNamed B.named
  have hlocks := B.notSynchronized
  subst hsz
  have hD := hD0.self (sz := s.heap.size)
  generalize hAe : va_A (va_pl L F) s.heap.size = A at hD ⊢
  have hA : ∀ q : Nat, s.heap.size ≤ q → A q := fun q h => by rw [← hAe]; exact Or.inr h
  have hS : va_S A s.heap s.heap [] := va_S.rf
  have hR : FR ty [ρ, ρ + 1] F F := FR.refl
  have hl := lv_entry ([.ref h0, .int x1, .ref g1]) (n := 4) (Nat.le_of_ble_eq_true rfl)
  rw [lg_entry_eq]
  generalize (lg_sl ([.ref h0, .int x1, .ref g1]) ++ List.replicate (4 - (lg_sl ([.ref h0, .int x1, .ref g1])).length) Slot.unset).toArray = ls at hl ⊢
  have hl : lv_has ls 4 [(0, .ref h0), (1, .int x1), (2, .ref g1)] := hl
  refine lv_aload_n hx hb dX1_takeSender_0 rfl (lv_at hl 2 rfl) ?_
  refine lv_bipush (v := 64) hx hb dX1_takeSender_1 (by decide) ?_
  refine lv_iconst (v := 0) hx hb dX1_takeSender_3 (by decide) ?_
  refine lv_aload_n hx hb dX1_takeSender_4 rfl (lv_at hl 2 rfl) ?_
  obtain ⟨hi_1, ht_2, hq_3⟩ := hW.bytes hL_g1 hT_g1
  refine pg_getN (ci := 0) (v := .int (nI z)) (C := RX0) (T := TX0) (N := 3) hx hb hts it_0 hown hK hP hL_g1 hFg rfl 1 (by decide) (hE.nest kn_7) (fun _ h9 => h9) rfl dX1_takeSender_5 ?_
  have hFc := pg_free hD hS hA
  refine va_calli (va_runV (As := [.int 64, .int 0, .int (nI z)]) (rest := []) ⟨hx, hb, hml, hown, hts⟩ (s_X0_find_e l dC dI cs ty L s.heap.size F g1 σ r1 n1 z z f 64 hW hL_g1 hT_g1 hFg hFr (by omega) (by omega) (by omega)) ⟨callB_of 3 hts (gi kt_122) rfl rfl rfl (hts _ kt_1) (hts _ kt_308) (by decide +kernel) ⟨Nat.le_of_ble_eq_true rfl, Nat.le_of_ble_eq_true rfl⟩, (hts _ kt_124), (hts _ kt_125)⟩ ⟨fun a U g mk q => ⟨q.1, PT.calling q.2⟩, pg_recv hK hP hL_g1 hFg (q := (RX0, TX0, 3)) rfl, fun U hU hWm => ⟨rfl, PT.mk hU hWm hP hK hD hE hO⟩⟩ rfl rfl hl.1 rfl (lv_room (Nat.le_of_ble_eq_true rfl)) dX1_takeSender_8 ⟨by show _ + 0 ≤ 0; omega, by show _ + 0 ≤ 0; omega⟩) hS (fun q _ h => hFc q h) hFc (fun r_4 u t H1 locs ht hvm hw hB hz1 hk1 hS => ?_)
  obtain ⟨F_5, hB1⟩ := hB
  obtain rfl : F = F_5 := (funext (fun a => hB1.2.2.2 a List.not_mem_nil)).symm
  obtain ⟨hP, hD, hO, hR⟩ := QT.back hB1 ht hFc hR (fun q h => absurd h List.not_mem_nil)
  generalize H1 = H at hP hS ⊢
  have hw : (∃ k : Nat, k ≤ z ∧ r_4 = nI k ∧ (∀ j, j < k → ¬ f j = 64) ∧ (k = z ∨ f k = 64)) := hw
  have hw_6 := hw
  obtain ⟨kk, hk1k, hk2k, hk3k, hk4k⟩ := hw_6
  subst hk2k
  have hfs : FST f 64 z kk := ⟨hk1k, hk3k, hk4k⟩
  refine lv_istore_n (lv' := [(3, .int (nI kk)), (0, .ref h0), (1, .int x1), (2, .ref g1)]) hx hb dX1_takeSender_11 rfl hl (by decide) rfl (fun ls hl => ?_)
  refine lv_aload_n hx hb dX1_takeSender_12 rfl (lv_at hl 3 rfl) ?_
  refine lv_iload_n hx hb dX1_takeSender_13 rfl (lv_at hl 0 rfl) ?_
  have hFc := pg_free hD hS hA
  refine va_calli (va_runS (As := [.ref g1, .int (nI kk)]) (rest := []) ⟨hx, hb, hml, hown, hts⟩ (s_X1_isLocal_e l dC dI cs ty L H.size F g1 σ r1 n1 z kk f hW hL_g1 hT_g1 hFg hFr (by omega) (by omega) (by omega)) ⟨callB_of 2 hts (gi kt_309) rfl rfl rfl (hts _ kt_310) (hts _ kt_311) (by decide +kernel) ⟨Nat.le_of_ble_eq_true rfl, Nat.le_of_ble_eq_true rfl⟩, (hts _ kt_312)⟩ ⟨fun a U g mk q => ⟨q.1, PT.calling q.2⟩, fun U hU hWm => ⟨rfl, PT.mk hU hWm hP hK hD hE hO⟩⟩ rfl rfl hl.1 rfl (lv_room (Nat.le_of_ble_eq_true rfl)) dX1_takeSender_14 ⟨by show _ + 0 ≤ 0; omega, by show _ + 0 ≤ 0; omega⟩) hS (fun q _ h => hFc q h) hFc (fun r_7 u t H1 locs ht hvm hw hB hz1 hk1 hS => ?_)
  obtain ⟨F_8, hB1⟩ := hB
  obtain rfl : F = F_8 := (funext (fun a => hB1.2.2.2 a List.not_mem_nil)).symm
  obtain ⟨hP, hD, hO, hR⟩ := QT.back hB1 ht hFc hR (fun q h => absurd h List.not_mem_nil)
  generalize H1 = H at hP hS ⊢
  have hw : (r_7 = 1 ∧ LCL f kk) ∨ (r_7 = 0 ∧ ¬ LCL f kk) := hw
  have hw_9 := hw
  refine lv_if_eq (tgt := 34) hx hb dX1_takeSender_17 (by decide) (fun c_10 => ?_) (fun c_10 => ?_)
  ·
    refine lv_iconst (v := 0) hx hb dX1_takeSender_34 (by decide) ?_
    refine W.widen (k := 0) (n := 0) (by omega) (by omega) ?_
    exact W.zret (v := 0) (ty := .boolean) hx hb hr (by decide) (fun t ht hWm => ⟨⟨0, (), rfl, (Or.inr ⟨rfl, snd_n hfs (fun q => lcl0 hw_9 c_10 q.1)⟩), ⟨F, QT.mk ht hP hD hO hR⟩⟩, hS.F ht⟩) hS.2.2 dX1_takeSender_35
  ·
    refine lv_aload_n hx hb dX1_takeSender_20 rfl (lv_at hl 3 rfl) ?_
    refine lv_iload_n hx hb dX1_takeSender_21 rfl (lv_at hl 0 rfl) ?_
    refine lv_iconst (v := 1) hx hb dX1_takeSender_22 (by decide) ?_
    refine lv_iadd hx hb dX1_takeSender_23 ?_
    refine lv_topi (fun x_11 ex_11 => ?_)
    obtain rfl : x_11 = (nI (kk + 1)) := ex_11.trans (nI_1 kk)
    refine lv_aload_n hx hb dX1_takeSender_24 rfl (lv_at hl 3 rfl) ?_
    refine pg_getN (ci := 0) (v := .int (nI z)) (C := RX0) (T := TX0) (N := 3) hx hb hts it_0 hown hK hP hL_g1 hFg rfl 1 (by decide) (hE.nest kn_7) (fun _ h9 => h9) rfl dX1_takeSender_25 ?_
    have hFc := pg_free hD hS hA
    refine va_calli (va_runV (As := [.int (nI (kk + 1)), .int (nI z)]) (rest := []) ⟨hx, hb, hml, hown, hts⟩ (s_X0_isName_g l dC dI cs ty L H.size F g1 σ r1 n1 z (kk + 1) z f hW hL_g1 hT_g1 hFg hFr (by omega) (by omega) (by omega) (by omega)) ⟨callB_of 2 hts (gi kt_108) rfl rfl rfl (hts _ kt_1) (hts _ kt_313) (by decide +kernel) ⟨Nat.le_of_ble_eq_true rfl, Nat.le_of_ble_eq_true rfl⟩, (hts _ kt_110), (hts _ kt_111)⟩ ⟨fun a U g mk q => ⟨q.1, PT.calling q.2⟩, pg_recv hK hP hL_g1 hFg (q := (RX0, TX0, 3)) rfl, fun U hU hWm => ⟨rfl, PT.mk hU hWm hP hK hD hE hO⟩⟩ rfl rfl hl.1 rfl (lv_room (Nat.le_of_ble_eq_true rfl)) dX1_takeSender_28 ⟨by show _ + 0 ≤ 0; omega, by show _ + 0 ≤ 0; omega⟩) hS (fun q _ h => hFc q h) hFc (fun r_12 u t H1 locs ht hvm hw hB hz1 hk1 hS => ?_)
    obtain ⟨F_13, hB1⟩ := hB
    obtain rfl : F = F_13 := (funext (fun a => hB1.2.2.2 a List.not_mem_nil)).symm
    obtain ⟨hP, hD, hO, hR⟩ := QT.back hB1 ht hFc hR (fun q h => absurd h List.not_mem_nil)
    generalize H1 = H at hP hS ⊢
    have hw : r_12 = (if NM f (kk + 1) z = true then 1 else 0) := hw
    have hw_14 := hw
    refine lv_if_ne (tgt := 36) hx hb dX1_takeSender_31 (by decide) (fun c_15 => ?_) (fun c_15 => ?_)
    ·
      refine lv_aload_n hx hb dX1_takeSender_36 rfl (lv_at hl 1 rfl) ?_
      obtain ⟨hi_16, ht_17, hi_18, ⟨r_19, ht_20⟩, hi_21, ⟨r_22, ht_23⟩, hi_24, ⟨r_25, ht_26⟩, hi_27, ⟨r_28, ht_29⟩, hi_30, ht_31, hi_32, ht_33⟩ := hW.chk hL_h0 hT_h0
      obtain ⟨v0_34, v1_35, v2_36, v3_37, hF_38⟩ := hO.chk hL_h0 hT_h0
      refine pg_get (ci := 1) (v := .ref w0) (C := RX1) (T := TX1) (N := 11) hx hb hts it_1 hown hK hP hL_h0 hF_38 rfl 1 (by decide) (hts _ kt_314) (fun _ h9 => h9) rfl dX1_takeSender_37 ?_
      refine lv_aload_n hx hb dX1_takeSender_40 rfl (lv_at hl 3 rfl) ?_
      have hFc := pg_free hD hS hA
      obtain ⟨hi_39, ht_40, hq_41⟩ := hW.bytes hi_18 ht_20
      obtain ⟨z_42, o_43, hF_44, hq_45, hq_46⟩ := hO.bytes hi_18 ht_20
      refine va_callv (va_runV (As := [.ref g1]) (rest := []) ⟨hx, hb, hml, hown, hts⟩ (s_X0_copy l dC dI cs ty L H.size F w0 (ρ + 1) r_19 91 g1 σ r1 n1 hW hi_18 ht_20 hL_g1 hT_g1) ⟨callB_of 1 hts (gi kt_221) rfl rfl rfl (hts _ kt_1) (hts _ kt_315) (by decide +kernel) ⟨Nat.le_of_ble_eq_true rfl, Nat.le_of_ble_eq_true rfl⟩, (hts _ kt_223), (hts _ kt_224)⟩ ⟨fun a U g mk q => ⟨q.1, PT.calling q.2⟩, pg_recv hK hP hi_18 hF_44 (q := (RX0, TX0, 3)) rfl, fun U hU hWm => ⟨rfl, PT.mk hU hWm hP hK hD hE hO⟩⟩ rfl rfl hl.1 rfl (lv_room (Nat.le_of_ble_eq_true rfl)) dX1_takeSender_41 ⟨by show _ + 0 ≤ 0; omega, by show _ + 0 ≤ 0; omega⟩) hS (fun q _ h => hFc q h) hFc (fun u t H1 locs ht hvm hw hB hz1 hk1 hS => ?_)
      obtain ⟨F_48, hB1⟩ := hB
      obtain ⟨hP, hD, hO, hR⟩ := QT.back hB1 ht hFc hR (fun q h => by simp only [List.mem_cons, List.not_mem_nil, or_false] at h ⊢; omega)
      have hF_49 : F_48 h0 = .inr (1, [.ref d, .ref w0, .ref w1, .ref w2, .ref w3, .ref nm, .ref te, .int v0_34, .int v1_35, .int v2_36, .int v3_37]) := (hB1.2.2.2 h0 (by rw [hT_h0]; simp)).trans hF_38
      generalize H1 = H at hP hS ⊢
      refine lv_aload_n hx hb dX1_takeSender_44 rfl (lv_at hl 1 rfl) ?_
      refine pg_get (ci := 1) (v := .ref w1) (C := RX1) (T := TX1) (N := 11) hx hb hts it_1 hown hK hP hL_h0 hF_49 rfl 2 (by decide) (hts _ kt_316) (fun _ h9 => h9) rfl dX1_takeSender_45 ?_
      have hFc := pg_free hD hS hA
      obtain ⟨hi_50, ht_51, hq_52⟩ := hW.bytes hi_21 ht_23
      obtain ⟨z_53, o_54, hF_55, hq_56, hq_57⟩ := hO.bytes hi_21 ht_23
      refine va_callv (va_runV (As := []) (rest := []) ⟨hx, hb, hml, hown, hts⟩ (s_X0_clear l dC dI cs ty L H.size F_48 w1 (ρ + 1) r_22 30 hW hi_21 ht_23) ⟨callB_of 0 hts (gi kt_32) rfl rfl rfl (hts _ kt_1) (hts _ kt_317) (by decide +kernel) ⟨Nat.le_of_ble_eq_true rfl, Nat.le_of_ble_eq_true rfl⟩, (hts _ kt_34), (hts _ kt_35)⟩ ⟨fun a U g mk q => ⟨q.1, PT.calling q.2⟩, pg_recv hK hP hi_21 hF_55 (q := (RX0, TX0, 3)) rfl, fun U hU hWm => ⟨rfl, PT.mk hU hWm hP hK hD hE hO⟩⟩ rfl rfl hl.1 rfl (lv_room (Nat.le_of_ble_eq_true rfl)) dX1_takeSender_48 ⟨by show _ + 0 ≤ 0; omega, by show _ + 0 ≤ 0; omega⟩) hS (fun q _ h => hFc q h) hFc (fun u t H1 locs ht hvm hw hB hz1 hk1 hS => ?_)
      obtain ⟨F_59, hB1, hq_60⟩ := hB
      obtain ⟨hP, hD, hO, hR⟩ := QT.back hB1 ht hFc hR (fun q h => by simp only [List.mem_cons, List.not_mem_nil, or_false] at h ⊢; omega)
      have hF_61 : F_59 h0 = .inr (1, [.ref d, .ref w0, .ref w1, .ref w2, .ref w3, .ref nm, .ref te, .int v0_34, .int v1_35, .int v2_36, .int v3_37]) := (hB1.2.2.2 h0 (by rw [hT_h0]; simp)).trans hF_49
      generalize H1 = H at hP hS ⊢
      refine lv_aload_n hx hb dX1_takeSender_51 rfl (lv_at hl 1 rfl) ?_
      refine pg_get (ci := 1) (v := .ref w1) (C := RX1) (T := TX1) (N := 11) hx hb hts it_1 hown hK hP hL_h0 hF_61 rfl 2 (by decide) (hts _ kt_316) (fun _ h9 => h9) rfl dX1_takeSender_52 ?_
      refine lv_aload_n hx hb dX1_takeSender_55 rfl (lv_at hl 3 rfl) ?_
      refine lv_iconst (v := 0) hx hb dX1_takeSender_56 (by decide) ?_
      refine lv_iload_n hx hb dX1_takeSender_57 rfl (lv_at hl 0 rfl) ?_
      have hFc := pg_free hD hS hA
      refine va_callv (va_runV (As := [.ref g1, .int 0, .int (nI kk)]) (rest := []) ⟨hx, hb, hml, hown, hts⟩ (s_X0_addRange l dC dI cs ty L H.size F_59 w1 (ρ + 1) r_22 30 g1 σ r1 n1 0 (nI kk) hW hi_21 ht_23 hL_g1 hT_g1 (nI_pos (by omega))) ⟨callB_of 3 hts (gi kt_36) rfl rfl rfl (hts _ kt_1) (hts _ kt_318) (by decide +kernel) ⟨Nat.le_of_ble_eq_true rfl, Nat.le_of_ble_eq_true rfl⟩, (hts _ kt_38), (hts _ kt_39)⟩ ⟨fun a U g mk q => ⟨q.1, PT.calling q.2⟩, pg_recv hK hP hi_21 hq_60 (q := (RX0, TX0, 3)) rfl, fun U hU hWm => ⟨rfl, PT.mk hU hWm hP hK hD hE hO⟩⟩ rfl rfl hl.1 rfl (lv_room (Nat.le_of_ble_eq_true rfl)) dX1_takeSender_58 ⟨by show _ + 0 ≤ 0; omega, by show _ + 0 ≤ 0; omega⟩) hS (fun q _ h => hFc q h) hFc (fun u t H1 locs ht hvm hw hB hz1 hk1 hS => ?_)
      obtain ⟨F_63, hB1⟩ := hB
      obtain ⟨hP, hD, hO, hR⟩ := QT.back hB1 ht hFc hR (fun q h => by simp only [List.mem_cons, List.not_mem_nil, or_false] at h ⊢; omega)
      have hF_64 : F_63 h0 = .inr (1, [.ref d, .ref w0, .ref w1, .ref w2, .ref w3, .ref nm, .ref te, .int v0_34, .int v1_35, .int v2_36, .int v3_37]) := (hB1.2.2.2 h0 (by rw [hT_h0]; simp)).trans hF_61
      generalize H1 = H at hP hS ⊢
      refine lv_aload_n hx hb dX1_takeSender_61 rfl (lv_at hl 1 rfl) ?_
      refine pg_get (ci := 1) (v := .ref w2) (C := RX1) (T := TX1) (N := 11) hx hb hts it_1 hown hK hP hL_h0 hF_64 rfl 3 (by decide) (hts _ kt_319) (fun _ h9 => h9) rfl dX1_takeSender_62 ?_
      have hFc := pg_free hD hS hA
      obtain ⟨hi_65, ht_66, hq_67⟩ := hW.bytes hi_24 ht_26
      obtain ⟨z_68, o_69, hF_70, hq_71, hq_72⟩ := hO.bytes hi_24 ht_26
      refine va_callv (va_runV (As := []) (rest := []) ⟨hx, hb, hml, hown, hts⟩ (s_X0_clear l dC dI cs ty L H.size F_63 w2 (ρ + 1) r_25 60 hW hi_24 ht_26) ⟨callB_of 0 hts (gi kt_32) rfl rfl rfl (hts _ kt_1) (hts _ kt_317) (by decide +kernel) ⟨Nat.le_of_ble_eq_true rfl, Nat.le_of_ble_eq_true rfl⟩, (hts _ kt_34), (hts _ kt_35)⟩ ⟨fun a U g mk q => ⟨q.1, PT.calling q.2⟩, pg_recv hK hP hi_24 hF_70 (q := (RX0, TX0, 3)) rfl, fun U hU hWm => ⟨rfl, PT.mk hU hWm hP hK hD hE hO⟩⟩ rfl rfl hl.1 rfl (lv_room (Nat.le_of_ble_eq_true rfl)) dX1_takeSender_65 ⟨by show _ + 0 ≤ 0; omega, by show _ + 0 ≤ 0; omega⟩) hS (fun q _ h => hFc q h) hFc (fun u t H1 locs ht hvm hw hB hz1 hk1 hS => ?_)
      obtain ⟨F_74, hB1, hq_75⟩ := hB
      obtain ⟨hP, hD, hO, hR⟩ := QT.back hB1 ht hFc hR (fun q h => by simp only [List.mem_cons, List.not_mem_nil, or_false] at h ⊢; omega)
      have hF_76 : F_74 h0 = .inr (1, [.ref d, .ref w0, .ref w1, .ref w2, .ref w3, .ref nm, .ref te, .int v0_34, .int v1_35, .int v2_36, .int v3_37]) := (hB1.2.2.2 h0 (by rw [hT_h0]; simp)).trans hF_64
      generalize H1 = H at hP hS ⊢
      refine lv_aload_n hx hb dX1_takeSender_68 rfl (lv_at hl 1 rfl) ?_
      refine pg_get (ci := 1) (v := .ref w2) (C := RX1) (T := TX1) (N := 11) hx hb hts it_1 hown hK hP hL_h0 hF_76 rfl 3 (by decide) (hts _ kt_319) (fun _ h9 => h9) rfl dX1_takeSender_69 ?_
      refine lv_aload_n hx hb dX1_takeSender_72 rfl (lv_at hl 3 rfl) ?_
      refine lv_iload_n hx hb dX1_takeSender_73 rfl (lv_at hl 0 rfl) ?_
      refine lv_iconst (v := 1) hx hb dX1_takeSender_74 (by decide) ?_
      refine lv_iadd hx hb dX1_takeSender_75 ?_
      refine lv_topi (fun x_77 ex_77 => ?_)
      obtain rfl : x_77 = (nI (kk + 1)) := ex_77.trans (nI_1 kk)
      refine lv_aload_n hx hb dX1_takeSender_76 rfl (lv_at hl 3 rfl) ?_
      obtain ⟨z_78, o_79, hF_80, hq_81, hq_82⟩ := hO.bytes hL_g1 hT_g1
      refine pg_getN (ci := 0) (v := .int (nI z_78)) (C := RX0) (T := TX0) (N := 3) hx hb hts it_0 hown hK hP hL_g1 hF_80 rfl 1 (by decide) (hE.nest kn_7) (fun _ h9 => h9) rfl dX1_takeSender_77 ?_
      have hFc := pg_free hD hS hA
      refine va_callv (va_runV (As := [.ref g1, .int (nI (kk + 1)), .int (nI z_78)]) (rest := []) ⟨hx, hb, hml, hown, hts⟩ (s_X0_addRange l dC dI cs ty L H.size F_74 w2 (ρ + 1) r_25 60 g1 σ r1 n1 (nI (kk + 1)) (nI z_78) hW hi_24 ht_26 hL_g1 hT_g1 (nI_pos (by omega))) ⟨callB_of 3 hts (gi kt_36) rfl rfl rfl (hts _ kt_1) (hts _ kt_318) (by decide +kernel) ⟨Nat.le_of_ble_eq_true rfl, Nat.le_of_ble_eq_true rfl⟩, (hts _ kt_38), (hts _ kt_39)⟩ ⟨fun a U g mk q => ⟨q.1, PT.calling q.2⟩, pg_recv hK hP hi_24 hq_75 (q := (RX0, TX0, 3)) rfl, fun U hU hWm => ⟨rfl, PT.mk hU hWm hP hK hD hE hO⟩⟩ rfl rfl hl.1 rfl (lv_room (Nat.le_of_ble_eq_true rfl)) dX1_takeSender_80 ⟨by show _ + 0 ≤ 0; omega, by show _ + 0 ≤ 0; omega⟩) hS (fun q _ h => hFc q h) hFc (fun u t H1 locs ht hvm hw hB hz1 hk1 hS => ?_)
      obtain ⟨F_84, hB1⟩ := hB
      obtain ⟨hP, hD, hO, hR⟩ := QT.back hB1 ht hFc hR (fun q h => by simp only [List.mem_cons, List.not_mem_nil, or_false] at h ⊢; omega)
      have hF_85 : F_84 h0 = .inr (1, [.ref d, .ref w0, .ref w1, .ref w2, .ref w3, .ref nm, .ref te, .int v0_34, .int v1_35, .int v2_36, .int v3_37]) := (hB1.2.2.2 h0 (by rw [hT_h0]; simp)).trans hF_76
      generalize H1 = H at hP hS ⊢
      refine lv_aload_n hx hb dX1_takeSender_83 rfl (lv_at hl 1 rfl) ?_
      refine lv_iload_n hx hb dX1_takeSender_84 rfl (lv_at hl 2 rfl) ?_
      refine pg_put (ci := 1) (v := .int x1) (ty := .int) (C := RX1) (T := TX1) (N := 11) hx hb hts it_1 tyX1 tyX1_ok nmX1 hown hK hP hD hS hL_h0 hF_85 rfl 7 (by decide) (hts _ kt_305) (fun _ h9 => h9) rfl (by decide +kernel) (rfl) (rfl) (Nat.le_of_ble_eq_true rfl) dX1_takeSender_85 (fun H locs hP hD hS => ?_)
      obtain ⟨F_86, he_87, hP, hD, hO, hR⟩ : ∃ G, G = va_up F_84 h0 (.inr (1, [.ref d, .ref w0, .ref w1, .ref w2, .ref w3, .ref nm, .ref te, .int x1, .int v1_35, .int v2_36, .int v3_37])) ∧ va_P (dC, dI) vwCl (va_pl L G) H ∧ va_D A (va_pl L G) ∧ OK cs ty L G ∧ FR ty [ρ, ρ + 1] F G := ⟨_, rfl, hP, hD, hO.up (sh.chk hT_h0 ⟨x1, v1_35, v2_36, v3_37, rfl⟩), hR.up hT_h0 (by simp)⟩
      have hF_88 : F_86 h0 = .inr (1, [.ref d, .ref w0, .ref w1, .ref w2, .ref w3, .ref nm, .ref te, .int x1, .int v1_35, .int v2_36, .int v3_37]) := by rw [he_87]; exact up_self
      refine lv_aload_n hx hb dX1_takeSender_88 rfl (lv_at hl 1 rfl) ?_
      refine pg_get (ci := 1) (v := .ref w3) (C := RX1) (T := TX1) (N := 11) hx hb hts it_1 hown hK hP hL_h0 hF_88 rfl 4 (by decide) (hts _ kt_306) (fun _ h9 => h9) rfl dX1_takeSender_89 ?_
      have hFc := pg_free hD hS hA
      obtain ⟨hi_89, ht_90, hq_91⟩ := hW.bytes hi_27 ht_29
      obtain ⟨z_92, o_93, hF_94, hq_95, hq_96⟩ := hO.bytes hi_27 ht_29
      refine va_callv (va_runV (As := []) (rest := []) ⟨hx, hb, hml, hown, hts⟩ (s_X0_clear l dC dI cs ty L H.size F_86 w3 (ρ + 1) r_28 15 hW hi_27 ht_29) ⟨callB_of 0 hts (gi kt_32) rfl rfl rfl (hts _ kt_1) (hts _ kt_317) (by decide +kernel) ⟨Nat.le_of_ble_eq_true rfl, Nat.le_of_ble_eq_true rfl⟩, (hts _ kt_34), (hts _ kt_35)⟩ ⟨fun a U g mk q => ⟨q.1, PT.calling q.2⟩, pg_recv hK hP hi_27 hF_94 (q := (RX0, TX0, 3)) rfl, fun U hU hWm => ⟨rfl, PT.mk hU hWm hP hK hD hE hO⟩⟩ rfl rfl hl.1 rfl (lv_room (Nat.le_of_ble_eq_true rfl)) dX1_takeSender_92 ⟨by show _ + 0 ≤ 0; omega, by show _ + 0 ≤ 0; omega⟩) hS (fun q _ h => hFc q h) hFc (fun u t H1 locs ht hvm hw hB hz1 hk1 hS => ?_)
      obtain ⟨F_98, hB1, hq_99⟩ := hB
      obtain ⟨hP, hD, hO, hR⟩ := QT.back hB1 ht hFc hR (fun q h => by simp only [List.mem_cons, List.not_mem_nil, or_false] at h ⊢; omega)
      have hF_100 : F_98 h0 = .inr (1, [.ref d, .ref w0, .ref w1, .ref w2, .ref w3, .ref nm, .ref te, .int x1, .int v1_35, .int v2_36, .int v3_37]) := (hB1.2.2.2 h0 (by rw [hT_h0]; simp)).trans hF_88
      generalize H1 = H at hP hS ⊢
      refine lv_aload_n hx hb dX1_takeSender_95 rfl (lv_at hl 1 rfl) ?_
      have hFc := pg_free hD hS hA
      refine va_callv (va_runV (As := []) (rest := []) ⟨hx, hb, hml, hown, hts⟩ (s_X1_addQuad l dC dI cs ty L H.size F_98 h0 ρ d δ ea w0 w1 w2 w3 nm te hW hL_h0 hT_h0) ⟨callB_of 0 hts (gi kt_320) rfl rfl rfl (hts _ kt_310) (hts _ kt_321) (by decide +kernel) ⟨Nat.le_of_ble_eq_true rfl, Nat.le_of_ble_eq_true rfl⟩, (hts _ kt_322), (hts _ kt_323)⟩ ⟨fun a U g mk q => ⟨q.1, PT.calling q.2⟩, pg_recv hK hP hL_h0 hF_100 (q := (RX1, TX1, 11)) rfl, fun U hU hWm => ⟨rfl, PT.mk hU hWm hP hK hD hE hO⟩⟩ rfl rfl hl.1 rfl (lv_room (Nat.le_of_ble_eq_true rfl)) dX1_takeSender_96 ⟨by show _ + 0 ≤ 0; omega, by show _ + 0 ≤ 0; omega⟩) hS (fun q _ h => hFc q h) hFc (fun u t H1 locs ht hvm hw hB hz1 hk1 hS => ?_)
      obtain ⟨F_102, hB1⟩ := hB
      obtain ⟨hP, hD, hO, hR⟩ := QT.back hB1 ht hFc hR (fun q h => by simp only [List.mem_cons, List.not_mem_nil, or_false] at h ⊢; omega)
      have hF_103 : F_102 h0 = .inr (1, [.ref d, .ref w0, .ref w1, .ref w2, .ref w3, .ref nm, .ref te, .int x1, .int v1_35, .int v2_36, .int v3_37]) := (hB1.2.2.2 h0 (by rw [hT_h0]; simp)).trans hF_100
      generalize H1 = H at hP hS ⊢
      refine lv_aload_n hx hb dX1_takeSender_99 rfl (lv_at hl 1 rfl) ?_
      refine lv_iconst (v := 1) hx hb dX1_takeSender_100 (by decide) ?_
      refine pg_put (ci := 1) (v := .int 1) (ty := .boolean) (C := RX1) (T := TX1) (N := 11) hx hb hts it_1 tyX1 tyX1_ok nmX1 hown hK hP hD hS hL_h0 hF_103 rfl 8 (by decide) (hts _ kt_324) (fun _ h9 => h9) rfl (by decide +kernel) (rfl) (rfl) (Nat.le_of_ble_eq_true rfl) dX1_takeSender_101 (fun H locs hP hD hS => ?_)
      obtain ⟨F_104, he_105, hP, hD, hO, hR⟩ : ∃ G, G = va_up F_102 h0 (.inr (1, [.ref d, .ref w0, .ref w1, .ref w2, .ref w3, .ref nm, .ref te, .int x1, .int 1, .int v2_36, .int v3_37])) ∧ va_P (dC, dI) vwCl (va_pl L G) H ∧ va_D A (va_pl L G) ∧ OK cs ty L G ∧ FR ty [ρ, ρ + 1] F G := ⟨_, rfl, hP, hD, hO.up (sh.chk hT_h0 ⟨x1, 1, v2_36, v3_37, rfl⟩), hR.up hT_h0 (by simp)⟩
      have hF_106 : F_104 h0 = .inr (1, [.ref d, .ref w0, .ref w1, .ref w2, .ref w3, .ref nm, .ref te, .int x1, .int 1, .int v2_36, .int v3_37]) := by rw [he_105]; exact up_self
      refine lv_iconst (v := 1) hx hb dX1_takeSender_104 (by decide) ?_
      refine W.widen (k := 0) (n := 0) (by omega) (by omega) ?_
      exact W.zret (v := 1) (ty := .boolean) hx hb hr (by decide) (fun t ht hWm => ⟨⟨1, (), rfl, (Or.inl ⟨rfl, kk, hfs, lcl1 hw_9 c_10, ifb1 hw_14 c_15⟩), ⟨F_104, QT.mk ht hP hD hO hR⟩⟩, hS.F ht⟩) hS.2.2 dX1_takeSender_105
    ·
      refine lv_iconst (v := 0) hx hb dX1_takeSender_34 (by decide) ?_
      refine W.widen (k := 0) (n := 0) (by omega) (by omega) ?_
      exact W.zret (v := 0) (ty := .boolean) hx hb hr (by decide) (fun t ht hWm => ⟨⟨0, (), rfl, (Or.inr ⟨rfl, snd_n hfs (fun q => ifb0 hw_14 c_15 q.2)⟩), ⟨F, QT.mk ht hP hD hO hR⟩⟩, hS.F ht⟩) hS.2.2 dX1_takeSender_35
set_option maxHeartbeats 4000000 in
set_option maxRecDepth 100000 in
theorem s_X11_sender_e (l : Launch) (dC : Nat → ClassId) (dI : Nat → Nat → Nat) (cs : Nat → ClassId) (ty : TyM) (L : List Nat) (sz : Nat) (F : Nat → va_E) (h0 : Nat) (ρ : Nat) (ta : Nat) (ou : Nat) (di : Nat) (ea : Nat) (ck : Nat) (sl : Nat) (po : Nat) (hs : Nat) (zt : Nat) (rt : Nat) (cn : Nat) (f : Nat → Int32) (x1 : Int32) (hW : WT ty L) (hL_h0 : h0 ∈ L) (hT_h0 : ty h0 = (11, ρ, [ta, ou, di, ea, ck, sl, po, hs])) (hL_ta : ta ∈ L) (hT_ta : ty ta = (0, ρ + 1, [rt, 3000])) (hFt : F ta = .inr (0, [.ref rt, .int (nI zt), .int 0])) (hFr : F rt = .inl (cs 16, 3000, .inl f)) (hzt : zt ≤ 3000) : Met l yX11_sender (.code yX11_sender cX11_sender 3 (some .int) :: tb) ({ frames := 4, cells := 0, slots := 0, locals := 118 }) (va_Pc [.ref h0, .int x1] (PT (dC, dI) cs ty L F sz)) (va_Qi (fun (r : Int32) (_ : Unit) => (r = 0 ∧ SND f zt) ∨ (r = (-1) ∧ ¬ SND f zt)) (fun _ T9 => ∃ F2 : Nat → va_E, QT (dC, dI) cs ty L [ρ + 1, ρ + 5, ρ + 6] F F2 (va_A (va_pl L F) sz) T9 ∧ F2 ta = .inr (0, [.ref rt, .int (nI 0), .int 0])) (va_A (va_pl L F) sz)) 0 0 (va_A (va_pl L F) sz) := by
  refine Met.ofW (cc := cX11_sender) (maxL := 3) (ret := (some .int)) (by decide) rfl ?_
  intro p e s m args below meth c s₁ B hml hv
  obtain ⟨rfl, hsz, hP, hK, hD0, hE, hO⟩ := hv
  have hx := B.exec
  have hb := B.bytes
  have hr := B.returns
  have hts : ∀ w ∈ tb, w.before _ s = true := fun w h => atoms_spec (ws := .code yX11_sender cX11_sender 3 (some .int) :: tb) B.pre w (List.mem_cons_of_mem _ h)
  have hown : s.vm.findClass RX11 = some m.cls := findClass_of_methodNamed B.named
  have hlocks := B.notSynchronized
  subst hsz
  have hD := hD0.self (sz := s.heap.size)
  generalize hAe : va_A (va_pl L F) s.heap.size = A at hD ⊢
  have hA : ∀ q : Nat, s.heap.size ≤ q → A q := fun q h => by rw [← hAe]; exact Or.inr h
  have hS : va_S A s.heap s.heap [] := va_S.rf
  have hR : FR ty [ρ + 1, ρ + 5, ρ + 6] F F := FR.refl
  have hl := lv_entry ([.ref h0, .int x1]) (n := 3) (Nat.le_of_ble_eq_true rfl)
  rw [lg_entry_eq]
  generalize (lg_sl ([.ref h0, .int x1]) ++ List.replicate (3 - (lg_sl ([.ref h0, .int x1])).length) Slot.unset).toArray = ls at hl ⊢
  have hl : lv_has ls 3 [(0, .ref h0), (1, .int x1)] := hl
  refine lv_aload_n hx hb dX11_sender_0 rfl (lv_at hl 0 rfl) ?_
  obtain ⟨_, _, hi_1, ⟨r_2, ht_3⟩, hi_4, ht_5, hi_6, ⟨w0_7, w1_8, w2_9, w3_10, nm_11, te_12, ht_13⟩, hi_14, ⟨l1_15, lx_16, ly0_17, ly1_18, ly2_19, k1_20, kx_21, ky0_22, ky1_23, ky2_24, w0_25, w1_26, w2_27, w3_28, w4_29, w5_30, w6_31, w7_32, w8_33, tk_34, h1_35, hx_36, hy_37, hw_38, pw_39, px_40, py_41, pz_42, pu_43, ht_44⟩, hi_45, ⟨w0_46, w1_47, rc_48, rx_49, ry0_50, ry1_51, ry2_52, ht_53⟩, hi_54, ⟨hx_55, hy_56, hw_57, ht_58⟩⟩ := hW.gate hL_h0 hT_h0
  obtain ⟨le_59, sp_60, μ_61, ν_62, hF_63, hq_64, hq_65, hq_66, hq_67, hq_68, hq_69⟩ := hO.gate hL_h0 hT_h0
  obtain ⟨x_70, y0_71, y1_72, y2_73, ht_74⟩ := id hq_65
  obtain ⟨x_75, y0_76, y1_77, y2_78, ht_79⟩ := id hq_67
  refine pg_get (ci := 11) (v := .ref ck) (C := RX11) (T := TX11) (N := 9) hx hb hts it_11 hown hK hP hL_h0 hF_63 rfl 3 (by decide) (hts _ kt_611) (fun _ h9 => h9) rfl dX11_sender_1 ?_
  refine lv_iload_n hx hb dX11_sender_4 rfl (lv_at hl 1 rfl) ?_
  refine lv_aload_n hx hb dX11_sender_5 rfl (lv_at hl 0 rfl) ?_
  refine pg_get (ci := 11) (v := .ref ta) (C := RX11) (T := TX11) (N := 9) hx hb hts it_11 hown hK hP hL_h0 hF_63 rfl 0 (by decide) (hts _ kt_603) (fun _ h9 => h9) rfl dX11_sender_6 ?_
  obtain ⟨hi_80, ht_81, hq_82⟩ := hW.bytes hL_ta hT_ta
  have hFc := pg_free hD hS hA
  obtain ⟨_, _, hi_83, ⟨r_84, ht_85⟩, hi_86, ⟨r_87, ht_88⟩, hi_89, ⟨r_90, ht_91⟩, hi_92, ⟨r_93, ht_94⟩, hi_95, ht_96, hi_97, ht_98⟩ := hW.chk hi_6 ht_13
  have ht_85 : ty w0_7 = (0, ρ + 6, [r_84, 91]) := ht_85
  have ht_88 : ty w1_8 = (0, ρ + 6, [r_87, 30]) := ht_88
  have ht_91 : ty w2_9 = (0, ρ + 6, [r_90, 60]) := ht_91
  have ht_94 : ty w3_10 = (0, ρ + 6, [r_93, 15]) := ht_94
  have ht_96 : ty nm_11 = (20, ρ + 6, [12]) := ht_96
  obtain ⟨v0_99, v1_100, v2_101, v3_102, hF_103⟩ := hO.chk hi_6 ht_13
  refine va_calli (va_runV (As := [.int x1, .ref ta]) (rest := []) ⟨hx, hb, hml, hown, hts⟩ (s_X1_takeSender_e l dC dI cs ty L s.heap.size F ck (ρ + 5) di (ρ + 3) ea w0_7 w1_8 w2_9 w3_10 nm_11 te_12 ta (ρ + 1) rt 3000 zt f x1 hW hi_6 ht_13 hL_ta hT_ta hFt hFr (by omega) (by omega)) ⟨callB_of 2 hts (gi kt_612) rfl rfl rfl (hts _ kt_310) (hts _ kt_613) (by decide +kernel) ⟨Nat.le_of_ble_eq_true rfl, Nat.le_of_ble_eq_true rfl⟩, (hts _ kt_614), (hts _ kt_615)⟩ ⟨fun a U g mk q => ⟨q.1, PT.calling q.2⟩, pg_recv hK hP hi_6 hF_103 (q := (RX1, TX1, 11)) rfl, fun U hU hWm => ⟨rfl, PT.mk hU hWm hP hK hD hE hO⟩⟩ rfl rfl hl.1 rfl (lv_room (Nat.le_of_ble_eq_true rfl)) dX11_sender_9 ⟨by show _ + 0 ≤ 0; omega, by show _ + 0 ≤ 0; omega⟩) hS (fun q _ h => hFc q h) hFc (fun r_104 u t H1 locs ht hvm hw hB hz1 hk1 hS => ?_)
  obtain ⟨F_105, hB1⟩ := hB
  obtain ⟨hP, hD, hO, hR⟩ := QT.back hB1 ht hFc hR (fun q h => by simp only [List.mem_cons, List.not_mem_nil, or_false] at h ⊢; omega)
  have hF_106 : F_105 ta = .inr (0, [.ref rt, .int (nI zt), .int 0]) := (hB1.2.2.2 ta (by rw [hT_ta]; simp <;> omega)).trans hFt
  have hF_107 : F_105 rt = .inl (cs 16, 3000, .inl f) := (hB1.2.2.2 rt (by rw [ht_81]; simp <;> omega)).trans hFr
  have hF_108 : F_105 h0 = .inr (11, [.ref ta, .ref ou, .ref di, .ref ck, .ref sl, .ref po, .ref hs, .ref le_59, .ref sp_60]) := (hB1.2.2.2 h0 (by rw [hT_h0]; simp <;> omega)).trans hF_63
  generalize H1 = H at hP hS ⊢
  have hw : (r_104 = 1 ∧ SND f zt) ∨ (r_104 = 0 ∧ ¬ SND f zt) := hw
  have hw_109 := hw
  refine lv_istore_n (lv' := [(2, .int r_104), (0, .ref h0), (1, .int x1)]) hx hb dX11_sender_12 rfl hl (by decide) rfl (fun ls hl => ?_)
  refine lv_aload_n hx hb dX11_sender_13 rfl (lv_at hl 1 rfl) ?_
  refine pg_get (ci := 11) (v := .ref ta) (C := RX11) (T := TX11) (N := 9) hx hb hts it_11 hown hK hP hL_h0 hF_108 rfl 0 (by decide) (hts _ kt_603) (fun _ h9 => h9) rfl dX11_sender_14 ?_
  have hFc := pg_free hD hS hA
  refine va_callv (va_runV (As := []) (rest := []) ⟨hx, hb, hml, hown, hts⟩ (s_X0_clear l dC dI cs ty L H.size F_105 ta (ρ + 1) rt 3000 hW hL_ta hT_ta) ⟨callB_of 0 hts (gi kt_32) rfl rfl rfl (hts _ kt_1) (hts _ kt_616) (by decide +kernel) ⟨Nat.le_of_ble_eq_true rfl, Nat.le_of_ble_eq_true rfl⟩, (hts _ kt_34), (hts _ kt_35)⟩ ⟨fun a U g mk q => ⟨q.1, PT.calling q.2⟩, pg_recv hK hP hL_ta hF_106 (q := (RX0, TX0, 3)) rfl, fun U hU hWm => ⟨rfl, PT.mk hU hWm hP hK hD hE hO⟩⟩ rfl rfl hl.1 rfl (lv_room (Nat.le_of_ble_eq_true rfl)) dX11_sender_17 ⟨by show _ + 0 ≤ 0; omega, by show _ + 0 ≤ 0; omega⟩) hS (fun q _ h => hFc q h) hFc (fun u t H1 locs ht hvm hw hB hz1 hk1 hS => ?_)
  obtain ⟨F_111, hB1, hq_112⟩ := hB
  obtain ⟨hP, hD, hO, hR⟩ := QT.back hB1 ht hFc hR (fun q h => by simp only [List.mem_cons, List.not_mem_nil, or_false] at h ⊢; omega)
  have hF_113 : F_111 h0 = .inr (11, [.ref ta, .ref ou, .ref di, .ref ck, .ref sl, .ref po, .ref hs, .ref le_59, .ref sp_60]) := (hB1.2.2.2 h0 (by rw [hT_h0]; simp)).trans hF_108
  generalize H1 = H at hP hS ⊢
  refine lv_iload_n hx hb dX11_sender_20 rfl (lv_at hl 0 rfl) ?_
  refine lv_if_eq (tgt := 28) hx hb dX11_sender_21 (by decide) (fun c_114 => ?_) (fun c_114 => ?_)
  ·
    refine lv_iconst (v := (-1)) hx hb dX11_sender_28 (by decide) ?_
    refine W.widen (k := 0) (n := 0) (by omega) (by omega) ?_
    exact W.iret (v := (-1)) hx hb hr (fun t ht hWm => ⟨⟨(-1), (), rfl, (Or.inr ⟨rfl, bz0 hw_109 c_114⟩), ⟨F_111, QT.mk ht hP hD hO hR, hq_112⟩⟩, hS.F ht⟩) hS.2.2 dX11_sender_29
  ·
    refine lv_iconst (v := 0) hx hb dX11_sender_24 (by decide) ?_
    refine lv_goto (tgt := 29) hx hb dX11_sender_25 (by decide) ?_
    refine W.widen (k := 0) (n := 0) (by omega) (by omega) ?_
    exact W.iret (v := 0) hx hb hr (fun t ht hWm => ⟨⟨0, (), rfl, (Or.inl ⟨rfl, bz1 hw_109 c_114⟩), ⟨F_111, QT.mk ht hP hD hO hR, hq_112⟩⟩, hS.F ht⟩) hS.2.2 dX11_sender_29
