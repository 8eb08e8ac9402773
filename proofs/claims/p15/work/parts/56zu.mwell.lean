def BYM (b : Nat → Nat) (n : Nat) (f : Nat → Int32) : Prop := ∀ i, i < n → b i < 256 ∧ f i = vp_nar .byte (nI (b i))
def lI (k : Nat) : Int64 := Int64.ofNat k
theorem mo6 : ∀ h, h < 64 → ∀ s, s < 64 → lsl (lI h) 6 ||| (nI s).toInt64 = lI (h * 64 + s) := by decide +kernel
theorem ms_0p : ∀ u, u < 64 → ∀ v, v < 64 → vp_nar .byte ((lsr (lI (u * 64 + v)) (nI 0)).toInt32.toInt8.toInt32) = vp_nar .byte (nI ((u * 64 + v) / 2 ^ 0)) ∧ lI (u * 64 + v) &&& (shl 1 (nI 0) - 1).toInt64 = lI ((u * 64 + v) % 2 ^ 0) := by decide +kernel
theorem ms_0 : ∀ h, h < 4096 → vp_nar .byte ((lsr (lI h) (nI 0)).toInt32.toInt8.toInt32) = vp_nar .byte (nI (h / 2 ^ 0)) ∧ lI h &&& (shl 1 (nI 0) - 1).toInt64 = lI (h % 2 ^ 0) := fun h hh => by
  have h9 := ms_0p (h / 64) (by omega) (h % 64) (by omega)
  rw [show h / 64 * 64 + h % 64 = h by omega] at h9
  exact h9
theorem ms_2p : ∀ u, u < 64 → ∀ v, v < 64 → vp_nar .byte ((lsr (lI (u * 64 + v)) (nI 2)).toInt32.toInt8.toInt32) = vp_nar .byte (nI ((u * 64 + v) / 2 ^ 2)) ∧ lI (u * 64 + v) &&& (shl 1 (nI 2) - 1).toInt64 = lI ((u * 64 + v) % 2 ^ 2) := by decide +kernel
theorem ms_2 : ∀ h, h < 4096 → vp_nar .byte ((lsr (lI h) (nI 2)).toInt32.toInt8.toInt32) = vp_nar .byte (nI (h / 2 ^ 2)) ∧ lI h &&& (shl 1 (nI 2) - 1).toInt64 = lI (h % 2 ^ 2) := fun h hh => by
  have h9 := ms_2p (h / 64) (by omega) (h % 64) (by omega)
  rw [show h / 64 * 64 + h % 64 = h by omega] at h9
  exact h9
theorem ms_4p : ∀ u, u < 64 → ∀ v, v < 64 → vp_nar .byte ((lsr (lI (u * 64 + v)) (nI 4)).toInt32.toInt8.toInt32) = vp_nar .byte (nI ((u * 64 + v) / 2 ^ 4)) ∧ lI (u * 64 + v) &&& (shl 1 (nI 4) - 1).toInt64 = lI ((u * 64 + v) % 2 ^ 4) := by decide +kernel
theorem ms_4 : ∀ h, h < 4096 → vp_nar .byte ((lsr (lI h) (nI 4)).toInt32.toInt8.toInt32) = vp_nar .byte (nI (h / 2 ^ 4)) ∧ lI h &&& (shl 1 (nI 4) - 1).toInt64 = lI (h % 2 ^ 4) := fun h hh => by
  have h9 := ms_4p (h / 64) (by omega) (h % 64) (by omega)
  rw [show h / 64 * 64 + h % 64 = h by omega] at h9
  exact h9
theorem ms_k {h k : Nat} (hh : h < 4096) (c : 8 ≤ 6 * k % 8 + 6) : vp_nar .byte ((lsr (lI h) (nI (6 * k % 8 + 6 - 8))).toInt32.toInt8.toInt32) = vp_nar .byte (nI (h / 2 ^ (6 * k % 8 + 6 - 8))) ∧ lI h &&& (shl 1 (nI (6 * k % 8 + 6 - 8)) - 1).toInt64 = lI (h % 2 ^ (6 * k % 8 + 6 - 8)) := by
  rcases b6_c k with e | e | e | e <;> rw [e] at c ⊢
  · omega
  · exact ms_0 h hh
  · exact ms_2 h hh
  · exact ms_4 h hh
theorem lI_0 : ∀ h, h < 64 → (lg_cmp (lI h) 0 = 0 ↔ h = 0) := by decide +kernel
def DCM (T : Nat → Nat) (a k : Nat) (h y : Nat) (fo : Nat → Int32) : Prop := (∀ i, i < k → sxT (T (a + i)) < 64) ∧ h = (dst T a k).1 ∧ y = (dst T a k).2.length ∧ ∀ j, j < y → (dst T a k).2.getD j 0 < 256 ∧ fo j = vp_nar .byte (nI ((dst T a k).2.getD j 0))
theorem dcm_0 {T : Nat → Nat} {a : Nat} {fo : Nat → Int32} : DCM T a 0 0 0 fo := ⟨fun i hi => absurd hi (Nat.not_lt_zero _), rfl, rfl, fun j hj => absurd hj (Nat.not_lt_zero _)⟩
theorem dcm_n {T : Nat → Nat} {a k h y : Nat} {fo : Nat → Int32} (H : DCM T a k h y fo) (h6 : sxT (T (a + k)) < 64) (c : ¬ 8 ≤ 6 * k % 8 + 6) : DCM T a (k + 1) (h * 64 + sxT (T (a + k))) y fo := by
  obtain ⟨h1, h2, h3, h4⟩ := H
  refine ⟨dci_all h1 h6, ?_⟩
  rw [dst_n c]
  exact ⟨by rw [h2], h3, h4⟩
theorem dcm_y {T : Nat → Nat} {a k h y : Nat} {fo f2 : Nat → Int32} {x : Int32} (H : DCM T a k h y fo) (h6 : sxT (T (a + k)) < 64) (c : 8 ≤ 6 * k % 8 + 6) (hf : f2 = upd fo y x) (hx : x = vp_nar .byte (nI ((h * 64 + sxT (T (a + k))) / 2 ^ (6 * k % 8 + 6 - 8)))) : DCM T a (k + 1) ((h * 64 + sxT (T (a + k))) % 2 ^ (6 * k % 8 + 6 - 8)) (y + 1) f2 := by
  obtain ⟨h1, h2, h3, h4⟩ := H
  refine ⟨dci_all h1 h6, ?_⟩
  have hb := dst_b h1 h6 c
  rw [dst_y c, hf]
  rw [← h2] at hb ⊢
  refine ⟨rfl, by show y + 1 = ((dst T a k).2 ++ [_]).length; rw [List.length_append, ← h3]; rfl, fun j hj => ?_⟩
  show ((dst T a k).2 ++ [_]).getD j 0 < 256 ∧ _ = vp_nar .byte (nI (((dst T a k).2 ++ [_]).getD j 0))
  by_cases e : j = y
  · have h9 : ((dst T a k).2 ++ [(h * 64 + sxT (T (a + k))) / 2 ^ (6 * k % 8 + 6 - 8)]).getD y 0 = (h * 64 + sxT (T (a + k))) / 2 ^ (6 * k % 8 + 6 - 8) := by
      have h8 := apl_r (W := [(h * 64 + sxT (T (a + k))) / 2 ^ (6 * k % 8 + 6 - 8)]) (dst T a k).2 0
      rw [← h3] at h8
      exact h8
    rw [e, h9, updc_at]
    exact ⟨hb, hx⟩
  · rw [apl_l _ _ (by omega), updc_ne e]
    exact h4 j (by omega)
theorem dcm_e {T : Nat → Nat} {a k h y w : Nat} {fo : Nat → Int32} (H : DCM T a k h y fo) (hk : k = (w * 4 + 2) / 3) (hw : w = 32 ∨ w = 64) : BYM (dcB T a w) w fo := by
  obtain ⟨h1, h2, h3, h4⟩ := H
  have hy : y = w := by
    rw [h3, dst_len]
    omega
  subst hk
  rw [hy] at h4
  exact h4
def nmV (T : Nat → Nat) (g : Nat → Nat → Nat) : Option Nat → Int32
  | none => (-1)
  | some k => match nbT T (g 1 k + 1) (g 2 k) 9 with
    | none => (-2)
    | some v => nI v
theorem nmV_s {T : Nat → Nat} {g : Nat → Nat → Nat} {k : Nat} : nmV T g (some k) = (match nbT T (g 1 k + 1) (g 2 k) 9 with | none => (-2) | some v => nI v) := rfl
theorem nmV_b {T : Nat → Nat} {g : Nat → Nat → Nat} {k : Nat} (h : nbT T (g 1 k + 1) (g 2 k) 9 = none) : nmV T g (some k) = (-2) := by
  rw [nmV_s, h]
theorem nmV_y {T : Nat → Nat} {g : Nat → Nat → Nat} {k v : Nat} (h : nbT T (g 1 k + 1) (g 2 k) 9 = some v) : nmV T g (some k) = nI v := by
  rw [nmV_s, h]
theorem nmV_2 {T : Nat → Nat} {g : Nat → Nat → Nat} {n : Nat} {l : List Nat} : ¬ nmV T g (tgR T g l n) = (-2) ↔ NOM T g n l := by
  unfold NOM
  cases e : tgR T g l n with
  | none => exact ⟨fun _ => Or.inl rfl, fun _ => by show ¬ (-1 : Int32) = (-2); decide⟩
  | some k =>
    cases e2 : nbT T (g 1 k + 1) (g 2 k) 9 with
    | none =>
      rw [nmV_b e2]
      refine ⟨fun q => absurd rfl q, fun q => ?_⟩
      rcases q with q | q
      · exact nomatch q
      · exact absurd e2 q
    | some v =>
      rw [nmV_y e2]
      refine ⟨fun _ => Or.inr (fun q => nomatch e2.symm.trans q), fun _ q => ?_⟩
      have h9 := nbT_ltq e2
      have h8 : ¬ nI v < 0 := nI_pos (by omega)
      rw [q] at h8
      exact h8 (by decide)
theorem alp_nal {gl C : Nat → Int32} {z a b k : Nat} {l : List Nat} (hC : CLI C k l) (hb : b ≤ z) : alP gl a b C k ↔ NAL (TC gl z) a b l := by
  obtain ⟨h1, h2⟩ := hC
  unfold alP NAL
  rw [h1]
  constructor
  · rintro ⟨q1, q2⟩
    refine ⟨q1.symm, fun i hi => ?_⟩
    have h9 := q2 i hi
    rw [(h2 i hi).1] at h9
    rw [tcn_in (by omega)]
    exact (smx_cd (h2 i hi).2).mp h9
  · rintro ⟨q1, q2⟩
    refine ⟨q1.symm, fun i hi => ?_⟩
    have h9 := q2 i hi
    rw [tcn_in (by omega)] at h9
    rw [(h2 i hi).1]
    exact (smx_cd (h2 i hi).2).mpr h9
theorem frm_nal {T : Nat → Nat} {a b : Nat} : NAL T a b FRO ↔ FRM T a b := Iff.rfl
set_option maxHeartbeats 4000000 in
set_option maxRecDepth 100000 in
theorem s_X15_digitOf_x (l : Launch) (dC : Nat → ClassId) (dI : Nat → Nat → Nat) (cs : Nat → ClassId) (ty : TyM) (gm : Nat → Nat → Nat) (L : List Nat) (sz : Nat) (F : Nat → va_E) (x1 : Int32) (hW : WTm ty gm L) : Met l yX15_digitOf (.code yX15_digitOf cX15_digitOf 1 (some .int) :: tb) ({ frames := 1, cells := 0, slots := 0, locals := 20 }) (va_Pc [.int x1] (PTm (dC, dI) cs ty gm L F sz)) (va_Qi (fun (r : Int32) (_ : Unit) => SXR (cdv x1) r) (fun _ T9 => ∃ F2 : Nat → va_E, QTm (dC, dI) cs ty gm L [] F F2 (va_A (va_pl L F) sz) T9) (va_A (va_pl L F) sz)) 0 0 (va_A (va_pl L F) sz) := by
  refine Met.ofW (cc := cX15_digitOf) (maxL := 1) (ret := (some .int)) (by decide) rfl ?_
  intro p e s m args below meth c s₁ B hml hv
  obtain ⟨rfl, hsz, hP, hK, hD0, hE, hO⟩ := hv
  have hx := B.exec
  have hb := B.bytes
  have hr := B.returns
  have hts : ∀ w ∈ tb, w.before _ s = true := fun w h => atoms_spec (ws := .code yX15_digitOf cX15_digitOf 1 (some .int) :: tb) B.pre w (List.mem_cons_of_mem _ h)
  have hown : s.vm.findClass RX15 = some m.cls := findClass_of_methodNamed B.named
  have hlocks := B.notSynchronized
  subst hsz
  have hD := hD0.self (sz := s.heap.size)
  generalize hAe : va_A (va_pl L F) s.heap.size = A at hD ⊢
  have hA : ∀ q : Nat, s.heap.size ≤ q → A q := fun q h => by rw [← hAe]; exact Or.inr h
  have hS : va_S A s.heap s.heap [] := va_S.rf
  have hR : FR ty [] F F := FR.refl
  have hl := lv_entry ([.int x1]) (n := 1) (Nat.le_of_ble_eq_true rfl)
  rw [lg_entry_eq]
  generalize (lg_sl ([.int x1]) ++ List.replicate (1 - (lg_sl ([.int x1])).length) Slot.unset).toArray = ls at hl ⊢
  have hl : lv_has ls 1 [(0, .int x1)] := hl
  refine lv_iload_n hx hb dX15_digitOf_0 rfl (lv_at hl 0 rfl) ?_
  refine lv_bipush (v := 65) hx hb dX15_digitOf_1 (by decide) ?_
  refine lv_icmp_lt (tgt := 17) hx hb dX15_digitOf_3 (by decide) (fun c_1 => ?_) (fun c_1 => ?_)
  ·
    have hn0 : ¬ (65 ≤ cdv x1 ∧ cdv x1 ≤ 90) := fun q => ((cdv_rng (a := 65) (b := 90) (by omega) (by omega)).mp q).1 c_1
    refine lv_iload_n hx hb dX15_digitOf_17 rfl (lv_at hl 0 rfl) ?_
    have hFc := pg_free hD hS hA
    refine va_calli (va_runS (As := [.int x1]) (rest := []) ⟨hx, hb, hml, hown, hts⟩ (s_X15_isSmall_e l dC dI cs ty gm L s.heap.size F x1 hW ) ⟨callB_of 1 hts (gi kt_668) rfl rfl rfl (hts _ kt_669) (hts _ kt_670) (by decide +kernel) ⟨Nat.le_of_ble_eq_true rfl, Nat.le_of_ble_eq_true rfl⟩, (hts _ kt_671)⟩ ⟨fun a U g mk q => ⟨q.1, PTm.calling q.2⟩, fun U hU hWm => ⟨rfl, PTm.mk hU hWm hP hK hD hE hO⟩⟩ rfl rfl hl.1 rfl (lv_room (Nat.le_of_ble_eq_true rfl)) dX15_digitOf_18 ⟨by show _ + 0 ≤ 0; omega, by show _ + 0 ≤ 0; omega⟩) hS (fun q _ h => hFc q h) hFc (fun r_2 u t H1 locs ht hvm hw hB hz1 hk1 hS => ?_)
    obtain ⟨F_3, hB1⟩ := hB
    obtain rfl : F = F_3 := (funext (fun a => hB1.2.2.2 a List.not_mem_nil)).symm
    obtain ⟨hP, hD, hO, hR⟩ := QTm.back hB1 ht hFc hR (fun q h => absurd h List.not_mem_nil)
    generalize H1 = H at hP hS ⊢
    have hw : r_2 = (if 97 ≤ x1 ∧ x1 ≤ 122 then 1 else 0) := hw
    have hw_4 := hw
    refine lv_if_eq (tgt := 32) hx hb dX15_digitOf_21 (by decide) (fun c_5 => ?_) (fun c_5 => ?_)
    ·
      refine lv_iload_n hx hb dX15_digitOf_32 rfl (lv_at hl 0 rfl) ?_
      have hFc := pg_free hD hS hA
      refine va_calli (va_runS (As := [.int x1]) (rest := []) ⟨hx, hb, hml, hown, hts⟩ (s_X15_isDigit_e l dC dI cs ty gm L H.size F x1 hW ) ⟨callB_of 1 hts (gi kt_687) rfl rfl rfl (hts _ kt_669) (hts _ kt_707) (by decide +kernel) ⟨Nat.le_of_ble_eq_true rfl, Nat.le_of_ble_eq_true rfl⟩, (hts _ kt_688)⟩ ⟨fun a U g mk q => ⟨q.1, PTm.calling q.2⟩, fun U hU hWm => ⟨rfl, PTm.mk hU hWm hP hK hD hE hO⟩⟩ rfl rfl hl.1 rfl (lv_room (Nat.le_of_ble_eq_true rfl)) dX15_digitOf_33 ⟨by show _ + 0 ≤ 0; omega, by show _ + 0 ≤ 0; omega⟩) hS (fun q _ h => hFc q h) hFc (fun r_6 u t H1 locs ht hvm hw hB hz1 hk1 hS => ?_)
      obtain ⟨F_7, hB1⟩ := hB
      obtain rfl : F = F_7 := (funext (fun a => hB1.2.2.2 a List.not_mem_nil)).symm
      obtain ⟨hP, hD, hO, hR⟩ := QTm.back hB1 ht hFc hR (fun q h => absurd h List.not_mem_nil)
      generalize H1 = H at hP hS ⊢
      have hw : r_6 = (if 48 ≤ x1 ∧ x1 ≤ 57 then 1 else 0) := hw
      have hw_8 := hw
      refine lv_if_eq (tgt := 47) hx hb dX15_digitOf_36 (by decide) (fun c_9 => ?_) (fun c_9 => ?_)
      ·
        refine lv_iload_n hx hb dX15_digitOf_47 rfl (lv_at hl 0 rfl) ?_
        refine lv_bipush (v := 43) hx hb dX15_digitOf_48 (by decide) ?_
        refine lv_icmp_ne (tgt := 58) hx hb dX15_digitOf_50 (by decide) (fun c_10 => ?_) (fun c_10 => ?_)
        ·
          refine lv_iload_n hx hb dX15_digitOf_58 rfl (lv_at hl 0 rfl) ?_
          refine lv_bipush (v := 47) hx hb dX15_digitOf_59 (by decide) ?_
          refine lv_icmp_ne (tgt := 69) hx hb dX15_digitOf_61 (by decide) (fun c_11 => ?_) (fun c_11 => ?_)
          ·
            refine lv_iconst (v := (-1)) hx hb dX15_digitOf_69 (by decide) ?_
            refine W.widen (k := 0) (n := 0) (by omega) (by omega) ?_
            exact W.iret (v := (-1)) hx hb hr (fun t ht hWm => ⟨⟨(-1), (), rfl, (sxr_n hn0 (sms_n hw_4 c_5) (sme_n hw_8 c_9) c_10 c_11), ⟨F, QTm.mk ht hP hD hO hR⟩⟩, hS.F ht⟩) hS.2.2 dX15_digitOf_70
          ·
            refine lv_bipush (v := 63) hx hb dX15_digitOf_64 (by decide) ?_
            refine lv_goto (tgt := 70) hx hb dX15_digitOf_66 (by decide) ?_
            refine W.widen (k := 0) (n := 0) (by omega) (by omega) ?_
            exact W.iret (v := 63) hx hb hr (fun t ht hWm => ⟨⟨63, (), rfl, (sxr_l hn0 (sms_n hw_4 c_5) (sme_n hw_8 c_9) c_10 c_11), ⟨F, QTm.mk ht hP hD hO hR⟩⟩, hS.F ht⟩) hS.2.2 dX15_digitOf_70
        ·
          refine lv_bipush (v := 62) hx hb dX15_digitOf_53 (by decide) ?_
          refine lv_goto (tgt := 70) hx hb dX15_digitOf_55 (by decide) ?_
          refine W.widen (k := 0) (n := 0) (by omega) (by omega) ?_
          exact W.iret (v := 62) hx hb hr (fun t ht hWm => ⟨⟨62, (), rfl, (sxr_p hn0 (sms_n hw_4 c_5) (sme_n hw_8 c_9) c_10), ⟨F, QTm.mk ht hP hD hO hR⟩⟩, hS.F ht⟩) hS.2.2 dX15_digitOf_70
      ·
        refine lv_iload_n hx hb dX15_digitOf_39 rfl (lv_at hl 0 rfl) ?_
        refine lv_bipush (v := 48) hx hb dX15_digitOf_40 (by decide) ?_
        refine lv_isub hx hb dX15_digitOf_42 ?_
        refine lv_topi (fun x_12 ex_12 => ?_)
        obtain rfl : x_12 = (x1 - 48) := ex_12.trans (rfl)
        refine lv_bipush (v := 52) hx hb dX15_digitOf_43 (by decide) ?_
        refine lv_iadd hx hb dX15_digitOf_45 ?_
        refine lv_topi (fun x_13 ex_13 => ?_)
        obtain rfl : x_13 = ((x1 - 48) + 52) := ex_13.trans (rfl)
        refine W.widen (k := 0) (n := 0) (by omega) (by omega) ?_
        exact W.iret (v := ((x1 - 48) + 52)) hx hb hr (fun t ht hWm => ⟨⟨((x1 - 48) + 52), (), rfl, (sxr_d hn0 (sms_n hw_4 c_5) (sme_d hw_8 c_9)), ⟨F, QTm.mk ht hP hD hO hR⟩⟩, hS.F ht⟩) hS.2.2 dX15_digitOf_46
    ·
      refine lv_iload_n hx hb dX15_digitOf_24 rfl (lv_at hl 0 rfl) ?_
      refine lv_bipush (v := 97) hx hb dX15_digitOf_25 (by decide) ?_
      refine lv_isub hx hb dX15_digitOf_27 ?_
      refine lv_topi (fun x_14 ex_14 => ?_)
      obtain rfl : x_14 = (x1 - 97) := ex_14.trans (rfl)
      refine lv_bipush (v := 26) hx hb dX15_digitOf_28 (by decide) ?_
      refine lv_iadd hx hb dX15_digitOf_30 ?_
      refine lv_topi (fun x_15 ex_15 => ?_)
      obtain rfl : x_15 = ((x1 - 97) + 26) := ex_15.trans (rfl)
      refine W.widen (k := 0) (n := 0) (by omega) (by omega) ?_
      exact W.iret (v := ((x1 - 97) + 26)) hx hb hr (fun t ht hWm => ⟨⟨((x1 - 97) + 26), (), rfl, (sxr_s hn0 (sms_d hw_4 c_5)), ⟨F, QTm.mk ht hP hD hO hR⟩⟩, hS.F ht⟩) hS.2.2 dX15_digitOf_31
  ·
    refine lv_iload_n hx hb dX15_digitOf_6 rfl (lv_at hl 0 rfl) ?_
    refine lv_bipush (v := 90) hx hb dX15_digitOf_7 (by decide) ?_
    refine lv_icmp_gt (tgt := 17) hx hb dX15_digitOf_9 (by decide) (fun c_16 => ?_) (fun c_16 => ?_)
    ·
      have hn0 : ¬ (65 ≤ cdv x1 ∧ cdv x1 ≤ 90) := fun q => ((cdv_rng (a := 65) (b := 90) (by omega) (by omega)).mp q).2 c_16
      refine lv_iload_n hx hb dX15_digitOf_17 rfl (lv_at hl 0 rfl) ?_
      have hFc := pg_free hD hS hA
      refine va_calli (va_runS (As := [.int x1]) (rest := []) ⟨hx, hb, hml, hown, hts⟩ (s_X15_isSmall_e l dC dI cs ty gm L s.heap.size F x1 hW ) ⟨callB_of 1 hts (gi kt_668) rfl rfl rfl (hts _ kt_669) (hts _ kt_670) (by decide +kernel) ⟨Nat.le_of_ble_eq_true rfl, Nat.le_of_ble_eq_true rfl⟩, (hts _ kt_671)⟩ ⟨fun a U g mk q => ⟨q.1, PTm.calling q.2⟩, fun U hU hWm => ⟨rfl, PTm.mk hU hWm hP hK hD hE hO⟩⟩ rfl rfl hl.1 rfl (lv_room (Nat.le_of_ble_eq_true rfl)) dX15_digitOf_18 ⟨by show _ + 0 ≤ 0; omega, by show _ + 0 ≤ 0; omega⟩) hS (fun q _ h => hFc q h) hFc (fun r_17 u t H1 locs ht hvm hw hB hz1 hk1 hS => ?_)
      obtain ⟨F_18, hB1⟩ := hB
      obtain rfl : F = F_18 := (funext (fun a => hB1.2.2.2 a List.not_mem_nil)).symm
      obtain ⟨hP, hD, hO, hR⟩ := QTm.back hB1 ht hFc hR (fun q h => absurd h List.not_mem_nil)
      generalize H1 = H at hP hS ⊢
      have hw : r_17 = (if 97 ≤ x1 ∧ x1 ≤ 122 then 1 else 0) := hw
      have hw_19 := hw
      refine lv_if_eq (tgt := 32) hx hb dX15_digitOf_21 (by decide) (fun c_20 => ?_) (fun c_20 => ?_)
      ·
        refine lv_iload_n hx hb dX15_digitOf_32 rfl (lv_at hl 0 rfl) ?_
        have hFc := pg_free hD hS hA
        refine va_calli (va_runS (As := [.int x1]) (rest := []) ⟨hx, hb, hml, hown, hts⟩ (s_X15_isDigit_e l dC dI cs ty gm L H.size F x1 hW ) ⟨callB_of 1 hts (gi kt_687) rfl rfl rfl (hts _ kt_669) (hts _ kt_707) (by decide +kernel) ⟨Nat.le_of_ble_eq_true rfl, Nat.le_of_ble_eq_true rfl⟩, (hts _ kt_688)⟩ ⟨fun a U g mk q => ⟨q.1, PTm.calling q.2⟩, fun U hU hWm => ⟨rfl, PTm.mk hU hWm hP hK hD hE hO⟩⟩ rfl rfl hl.1 rfl (lv_room (Nat.le_of_ble_eq_true rfl)) dX15_digitOf_33 ⟨by show _ + 0 ≤ 0; omega, by show _ + 0 ≤ 0; omega⟩) hS (fun q _ h => hFc q h) hFc (fun r_21 u t H1 locs ht hvm hw hB hz1 hk1 hS => ?_)
        obtain ⟨F_22, hB1⟩ := hB
        obtain rfl : F = F_22 := (funext (fun a => hB1.2.2.2 a List.not_mem_nil)).symm
        obtain ⟨hP, hD, hO, hR⟩ := QTm.back hB1 ht hFc hR (fun q h => absurd h List.not_mem_nil)
        generalize H1 = H at hP hS ⊢
        have hw : r_21 = (if 48 ≤ x1 ∧ x1 ≤ 57 then 1 else 0) := hw
        have hw_23 := hw
        refine lv_if_eq (tgt := 47) hx hb dX15_digitOf_36 (by decide) (fun c_24 => ?_) (fun c_24 => ?_)
        ·
          refine lv_iload_n hx hb dX15_digitOf_47 rfl (lv_at hl 0 rfl) ?_
          refine lv_bipush (v := 43) hx hb dX15_digitOf_48 (by decide) ?_
          refine lv_icmp_ne (tgt := 58) hx hb dX15_digitOf_50 (by decide) (fun c_25 => ?_) (fun c_25 => ?_)
          ·
            refine lv_iload_n hx hb dX15_digitOf_58 rfl (lv_at hl 0 rfl) ?_
            refine lv_bipush (v := 47) hx hb dX15_digitOf_59 (by decide) ?_
            refine lv_icmp_ne (tgt := 69) hx hb dX15_digitOf_61 (by decide) (fun c_26 => ?_) (fun c_26 => ?_)
            ·
              refine lv_iconst (v := (-1)) hx hb dX15_digitOf_69 (by decide) ?_
              refine W.widen (k := 0) (n := 0) (by omega) (by omega) ?_
              exact W.iret (v := (-1)) hx hb hr (fun t ht hWm => ⟨⟨(-1), (), rfl, (sxr_n hn0 (sms_n hw_19 c_20) (sme_n hw_23 c_24) c_25 c_26), ⟨F, QTm.mk ht hP hD hO hR⟩⟩, hS.F ht⟩) hS.2.2 dX15_digitOf_70
            ·
              refine lv_bipush (v := 63) hx hb dX15_digitOf_64 (by decide) ?_
              refine lv_goto (tgt := 70) hx hb dX15_digitOf_66 (by decide) ?_
              refine W.widen (k := 0) (n := 0) (by omega) (by omega) ?_
              exact W.iret (v := 63) hx hb hr (fun t ht hWm => ⟨⟨63, (), rfl, (sxr_l hn0 (sms_n hw_19 c_20) (sme_n hw_23 c_24) c_25 c_26), ⟨F, QTm.mk ht hP hD hO hR⟩⟩, hS.F ht⟩) hS.2.2 dX15_digitOf_70
          ·
            refine lv_bipush (v := 62) hx hb dX15_digitOf_53 (by decide) ?_
            refine lv_goto (tgt := 70) hx hb dX15_digitOf_55 (by decide) ?_
            refine W.widen (k := 0) (n := 0) (by omega) (by omega) ?_
            exact W.iret (v := 62) hx hb hr (fun t ht hWm => ⟨⟨62, (), rfl, (sxr_p hn0 (sms_n hw_19 c_20) (sme_n hw_23 c_24) c_25), ⟨F, QTm.mk ht hP hD hO hR⟩⟩, hS.F ht⟩) hS.2.2 dX15_digitOf_70
        ·
          refine lv_iload_n hx hb dX15_digitOf_39 rfl (lv_at hl 0 rfl) ?_
          refine lv_bipush (v := 48) hx hb dX15_digitOf_40 (by decide) ?_
          refine lv_isub hx hb dX15_digitOf_42 ?_
          refine lv_topi (fun x_27 ex_27 => ?_)
          obtain rfl : x_27 = (x1 - 48) := ex_27.trans (rfl)
          refine lv_bipush (v := 52) hx hb dX15_digitOf_43 (by decide) ?_
          refine lv_iadd hx hb dX15_digitOf_45 ?_
          refine lv_topi (fun x_28 ex_28 => ?_)
          obtain rfl : x_28 = ((x1 - 48) + 52) := ex_28.trans (rfl)
          refine W.widen (k := 0) (n := 0) (by omega) (by omega) ?_
          exact W.iret (v := ((x1 - 48) + 52)) hx hb hr (fun t ht hWm => ⟨⟨((x1 - 48) + 52), (), rfl, (sxr_d hn0 (sms_n hw_19 c_20) (sme_d hw_23 c_24)), ⟨F, QTm.mk ht hP hD hO hR⟩⟩, hS.F ht⟩) hS.2.2 dX15_digitOf_46
      ·
        refine lv_iload_n hx hb dX15_digitOf_24 rfl (lv_at hl 0 rfl) ?_
        refine lv_bipush (v := 97) hx hb dX15_digitOf_25 (by decide) ?_
        refine lv_isub hx hb dX15_digitOf_27 ?_
        refine lv_topi (fun x_29 ex_29 => ?_)
        obtain rfl : x_29 = (x1 - 97) := ex_29.trans (rfl)
        refine lv_bipush (v := 26) hx hb dX15_digitOf_28 (by decide) ?_
        refine lv_iadd hx hb dX15_digitOf_30 ?_
        refine lv_topi (fun x_30 ex_30 => ?_)
        obtain rfl : x_30 = ((x1 - 97) + 26) := ex_30.trans (rfl)
        refine W.widen (k := 0) (n := 0) (by omega) (by omega) ?_
        exact W.iret (v := ((x1 - 97) + 26)) hx hb hr (fun t ht hWm => ⟨⟨((x1 - 97) + 26), (), rfl, (sxr_s hn0 (sms_d hw_19 c_20)), ⟨F, QTm.mk ht hP hD hO hR⟩⟩, hS.F ht⟩) hS.2.2 dX15_digitOf_31
    ·
      refine lv_iload_n hx hb dX15_digitOf_12 rfl (lv_at hl 0 rfl) ?_
      refine lv_bipush (v := 65) hx hb dX15_digitOf_13 (by decide) ?_
      refine lv_isub hx hb dX15_digitOf_15 ?_
      refine lv_topi (fun x_31 ex_31 => ?_)
      obtain rfl : x_31 = (x1 - 65) := ex_31.trans (rfl)
      refine W.widen (k := 0) (n := 0) (by omega) (by omega) ?_
      exact W.iret (v := (x1 - 65)) hx hb hr (fun t ht hWm => ⟨⟨(x1 - 65), (), rfl, (sxr_a c_1 c_16), ⟨F, QTm.mk ht hP hD hO hR⟩⟩, hS.F ht⟩) hS.2.2 dX15_digitOf_16
set_option maxHeartbeats 4000000 in
set_option maxRecDepth 100000 in
theorem s_X15_base_x (l : Launch) (dC : Nat → ClassId) (dI : Nat → Nat → Nat) (cs : Nat → ClassId) (ty : TyM) (gm : Nat → Nat → Nat) (L : List Nat) (sz : Nat) (F : Nat → va_E) (g0 : Nat) (σ : Nat) (tx : Nat) (n : Nat) (Bn : Nat) (y0 : Nat) (y1 : Nat) (y2 : Nat) (tbx : Nat) (zx : Nat) (nn : Nat) (fb : Nat → Int32) (e0 : Nat → Int32) (e1 : Nat → Int32) (e2 : Nat → Int32) (gq : Nat → Nat → Nat) (q : Nat) (v : Nat) (k0 : Nat) (C : Nat → Int32) (ll : List Nat) (w : Nat) (ga : Nat) (τ : Nat) (hW : WTm ty gm L) (hL_g0 : g0 ∈ L) (hT_g0 : ty g0 = (13, σ, [tx, n, Bn, y0, y1, y2])) (hL_tx : tx ∈ L) (hT_tx : ty tx = (14, σ + 1, [tbx, n])) (hL_ga : ga ∈ L) (hT_ga : ty ga = (17, τ, [w])) (hFx : F tx = .inr (14, [.ref tbx, .int (nI zx)])) (hFb : F tbx = .inl (cs 17, n, .inl fb)) (hxn : zx ≤ n) (hF0 : F g0 = .inr (13, [.ref tx, .ref y0, .ref y1, .ref y2, .int (nI nn)])) (hFy0 : F y0 = .inl (cs 16, 40, .inl e0)) (hFy1 : F y1 = .inl (cs 16, 40, .inl e1)) (hFy2 : F y2 = .inl (cs 16, 40, .inl e2)) (hcn : nn ≤ 40) (hhl : HLD e0 e1 e2 nn gq) (hTG : TGI zx nn gq) (hn3 : n ≤ 3000) (hCL : CLI C k0 ll) (hw2 : w = 32 ∨ w = 64) (htsq : τ ≠ σ ∧ τ ≠ σ + 1 ∧ τ ≠ σ + 70 ∧ τ ≠ σ + 71) : Met l yX15_base (.code yX15_base cX15_base 14 (some .boolean) :: tb) ({ frames := 6, cells := 0, slots := 0, locals := 131 }) (va_Pc [.ref g0, .ref q, .int (nI w), .ref ga] (PTEm (dC, dI) cs ty gm L F sz [(q, v, k0, C)])) (va_Qi (fun (r : Int32) (_ : Unit) => ((r = 1 ∧ DCD (TC fb zx) (tgA gq (tgR (TC fb zx) gq ll nn)) (tgB gq (tgR (TC fb zx) gq ll nn)) w) ∨ (r = 0 ∧ ¬ DCD (TC fb zx) (tgA gq (tgR (TC fb zx) gq ll nn)) (tgB gq (tgR (TC fb zx) gq ll nn)) w))) (fun _ T9 => ∃ F2 : Nat → va_E, ∃ f2 : Nat → Int32, QTm (dC, dI) cs ty gm L [τ] F F2 (va_A (va_pl L F) sz) T9 ∧ F2 ga = .inl (cs 17, w, .inl f2) ∧ (DCD (TC fb zx) (tgA gq (tgR (TC fb zx) gq ll nn)) (tgB gq (tgR (TC fb zx) gq ll nn)) w → BYM (dcB (TC fb zx) (tgA gq (tgR (TC fb zx) gq ll nn)) w) w f2)) (va_A (va_pl L F) sz)) 0 0 (va_A (va_pl L F) sz) := by
  refine Met.ofW (cc := cX15_base) (maxL := 14) (ret := (some .boolean)) (by decide) rfl ?_
  intro p e s m args below meth c s₁ B hml hv
  obtain ⟨rfl, ⟨hsz, hP, hK, hD0, hE, hO⟩, hG, hX⟩ := hv
  have hx := B.exec
  have hb := B.bytes
  have hr := B.returns
  have hts : ∀ w ∈ tb, w.before _ s = true := fun w h => atoms_spec (ws := .code yX15_base cX15_base 14 (some .boolean) :: tb) B.pre w (List.mem_cons_of_mem _ h)
  have hown : s.vm.findClass RX15 = some m.cls := findClass_of_methodNamed B.named
  have hlocks := B.notSynchronized
  subst hsz
  have hD := hD0.self (sz := s.heap.size)
  generalize hAe : va_A (va_pl L F) s.heap.size = A at hD hG hX ⊢
  have hX_q : SXc q v k0 C A s s.heap := hX (q, v, k0, C) (by simp)
  obtain ⟨xo_q, xc_q, xv_q, xt_q, xn_q⟩ := id hX_q
  have hA : ∀ q : Nat, s.heap.size ≤ q → A q := fun q h => by rw [← hAe]; exact Or.inr h
  have hS : va_S A s.heap s.heap [] := va_S.rf
  have hR : FR ty [τ] F F := FR.refl
  have hl := lv_entry ([.ref g0, .ref q, .int (nI w), .ref ga]) (n := 14) (Nat.le_of_ble_eq_true rfl)
  rw [lg_entry_eq]
  generalize (lg_sl ([.ref g0, .ref q, .int (nI w), .ref ga]) ++ List.replicate (14 - (lg_sl ([.ref g0, .ref q, .int (nI w), .ref ga])).length) Slot.unset).toArray = ls at hl ⊢
  have hl : lv_has ls 14 [(0, .ref g0), (1, .ref q), (2, .int (nI w)), (3, .ref ga)] := hl
  obtain ⟨_, hi_1, hi_2, hi_3, _, ht_4, ht_5, ht_6, hq_7, hq_8⟩ := hW.tags hL_g0 hT_g0
  obtain ⟨hi_9, ht_10, hq_11⟩ := hW.txt hL_tx hT_tx
  obtain ⟨hq_12, hq_13⟩ := hW.octs hL_ga hT_ga
  obtain ⟨f_14, hF_15, hq_16⟩ := hO.octs hL_ga hT_ga
  refine lv_aload_n hx hb dX15_base_0 rfl (lv_at hl 0 rfl) ?_
  refine lv_aload_n hx hb dX15_base_1 rfl (lv_at hl 1 rfl) ?_
  obtain ⟨hq_17, hq_18⟩ := hW.octs hi_9 ht_10
  have hFc := pg_free hD hS hA
  refine va_calli (va_runV (As := [.ref q]) (rest := []) ⟨hx, hb, hml, hown, hts⟩ (s_X13_find_x l dC dI cs ty gm L s.heap.size F g0 σ tx n Bn y0 y1 y2 tbx zx nn fb e0 e1 e2 gq q v k0 C ll hW hL_g0 hT_g0 hL_tx hT_tx hFx hFb (hxn) hF0 hFy0 hFy1 hFy2 (hcn) (hhl) (hTG) (hn3) (hCL)) ⟨callB_of 1 hts (gi kt_828) rfl rfl rfl (hts _ kt_829) (hts _ kt_839) (by decide +kernel) ⟨Nat.le_of_ble_eq_true rfl, Nat.le_of_ble_eq_true rfl⟩, (hts _ kt_831), (hts _ kt_832)⟩ ⟨fun a U g mk q => ⟨q.1, PTEm.calling q.2⟩, pg_recv hK hP hL_g0 hF0 (q := (RX13, TX13, 5)) rfl, fun U hU hWm => ⟨rfl, PTEm.mk hU hWm hP hK hD hE hO hG (fun x hx => by rw [List.mem_singleton] at hx; subst hx; exact hX_q) hS hFc⟩⟩ rfl rfl hl.1 rfl (lv_room (Nat.le_of_ble_eq_true rfl)) dX15_base_2 ⟨by show _ + 0 ≤ 0; omega, by show _ + 0 ≤ 0; omega⟩) hS (fun q _ h => hFc q h) hFc (fun r_19 u t H1 locs ht hvm hw hB hz1 hk1 hS => ?_)
  obtain ⟨F_20, hB1⟩ := hB
  obtain rfl : F = F_20 := (funext (fun a => hB1.2.2.2 a List.not_mem_nil)).symm
  obtain ⟨hP, hD, hO, hR⟩ := QTm.back hB1 ht hFc hR (fun q h => absurd h List.not_mem_nil)
  generalize H1 = H at hP hS ⊢
  have hw : RWX (TC fb zx) gq nn ll r_19 := hw
  have hw_21 := hw
  refine lv_istore (lv' := [(4, .int r_19), (0, .ref g0), (1, .ref q), (2, .int (nI w)), (3, .ref ga)]) hx hb dX15_base_5 hl (by decide) rfl (fun ls hl => ?_)
  refine lv_iload hx hb dX15_base_7 (lv_at hl 0 rfl) ?_
  refine lv_if_ge (tgt := 14) hx hb dX15_base_9 (by decide) (fun c_22 => ?_) (fun c_22 => ?_)
  ·
    obtain ⟨j, hjz, ej, hj1, hj2⟩ := rwx_y hw_21 (Int32.not_lt.mpr c_22)
    subst ej
    obtain ⟨hg1, hg2, hg3⟩ := hTG j hjz
    have hR9 : (tgR (TC fb zx) gq ll nn) = some j := tgR_y hj1 hj2 nn hjz
    refine lv_aload_n hx hb dX15_base_14 rfl (lv_at hl 1 rfl) ?_
    refine pg_get (ci := 13) (v := .ref y1) (C := RX13) (T := TX13) (N := 5) hx hb hts it_13 hown hK hP hL_g0 hF0 rfl 2 (by decide) (hts _ kt_840) (fun _ h9 => h9) rfl dX15_base_15 ?_
    refine lv_iload hx hb dX15_base_18 (lv_at hl 0 rfl) ?_
    refine pg_iald hx hb hK hP hi_2 0 hFy1 rfl (vp_in_nI (by omega) (by omega)) dX15_base_20 ?_
    refine lv_topi (fun x_23 ex_23 => ?_)
    obtain rfl : x_23 = (nI (gq 1 j)) := ex_23.trans (((congrArg e1 (nI_clamp (by omega))).trans (hhl j hjz).2.1))
    refine lv_iconst (v := 1) hx hb dX15_base_21 (by decide) ?_
    refine lv_iadd hx hb dX15_base_22 ?_
    refine lv_topi (fun x_24 ex_24 => ?_)
    obtain rfl : x_24 = (nI (gq 1 j + 1)) := ex_24.trans (nI_1 _)
    refine lv_istore (lv' := [(5, .int (nI (gq 1 j + 1))), (4, .int (nI j)), (0, .ref g0), (1, .ref q), (2, .int (nI w)), (3, .ref ga)]) hx hb dX15_base_23 hl (by decide) rfl (fun ls hl => ?_)
    refine lv_bipush (v := 8) hx hb dX15_base_25 (by decide) ?_
    refine lv_iload_n hx hb dX15_base_27 rfl (lv_at hl 4 rfl) ?_
    refine lv_imul hx hb dX15_base_28 ?_
    refine lv_topi (fun x_25 ex_25 => ?_)
    obtain rfl : x_25 = (nI (8 * w)) := ex_25.trans (pk_mul 8 w)
    refine lv_iconst (v := 5) hx hb dX15_base_29 (by decide) ?_
    refine lv_iadd hx hb dX15_base_30 ?_
    refine lv_topi (fun x_26 ex_26 => ?_)
    obtain rfl : x_26 = (nI (8 * w + 5)) := ex_26.trans (nI_add (8 * w) 5)
    refine lv_bipush (v := 6) hx hb dX15_base_31 (by decide) ?_
    refine lv_idiv hx hb dX15_base_33 (by decide) ?_
    refine lv_topi (fun x_27 ex_27 => ?_)
    obtain rfl : x_27 = (nI ((w * 4 + 2) / 3)) := ex_27.trans ((pk_div (d := 6) (by omega) (by omega) (by omega)).trans (by rw [show (8 * w + 5) / 6 = (w * 4 + 2) / 3 by omega]))
    refine lv_istore (lv' := [(6, .int (nI ((w * 4 + 2) / 3))), (5, .int (nI (gq 1 j + 1))), (4, .int (nI j)), (0, .ref g0), (1, .ref q), (2, .int (nI w)), (3, .ref ga)]) hx hb dX15_base_34 hl (by decide) rfl (fun ls hl => ?_)
    refine lv_iload hx hb dX15_base_36 (lv_at hl 0 rfl) ?_
    refine lv_iconst (v := 3) hx hb dX15_base_38 (by decide) ?_
    refine lv_iadd hx hb dX15_base_39 ?_
    refine lv_topi (fun x_28 ex_28 => ?_)
    obtain rfl : x_28 = (nI (((w * 4 + 2) / 3) + 3)) := ex_28.trans (nI_add _ 3)
    refine lv_iconst (v := 4) hx hb dX15_base_40 (by decide) ?_
    refine lv_idiv hx hb dX15_base_41 (by decide) ?_
    refine lv_topi (fun x_29 ex_29 => ?_)
    obtain rfl : x_29 = (nI ((((w * 4 + 2) / 3) + 3) / 4)) := ex_29.trans (pk_div (d := 4) (by omega) (by omega) (by omega))
    refine lv_iconst (v := 4) hx hb dX15_base_42 (by decide) ?_
    refine lv_imul hx hb dX15_base_43 ?_
    refine lv_topi (fun x_30 ex_30 => ?_)
    obtain rfl : x_30 = (nI ((w + 2) / 3 * 4)) := ex_30.trans ((pk_mul ((((w * 4 + 2) / 3) + 3) / 4) 4).trans (by rw [show (((w * 4 + 2) / 3) + 3) / 4 * 4 = ((w + 2) / 3 * 4) by omega]))
    refine lv_istore (lv' := [(7, .int (nI ((w + 2) / 3 * 4))), (6, .int (nI ((w * 4 + 2) / 3))), (5, .int (nI (gq 1 j + 1))), (4, .int (nI j)), (0, .ref g0), (1, .ref q), (2, .int (nI w)), (3, .ref ga)]) hx hb dX15_base_44 hl (by decide) rfl (fun ls hl => ?_)
    refine lv_aload_n hx hb dX15_base_46 rfl (lv_at hl 4 rfl) ?_
    refine pg_get (ci := 13) (v := .ref y2) (C := RX13) (T := TX13) (N := 5) hx hb hts it_13 hown hK hP hL_g0 hF0 rfl 3 (by decide) (hts _ kt_841) (fun _ h9 => h9) rfl dX15_base_47 ?_
    refine lv_iload hx hb dX15_base_50 (lv_at hl 3 rfl) ?_
    refine pg_iald hx hb hK hP hi_3 0 hFy2 rfl (vp_in_nI (by omega) (by omega)) dX15_base_52 ?_
    refine lv_topi (fun x_31 ex_31 => ?_)
    obtain rfl : x_31 = (nI (gq 2 j)) := ex_31.trans (((congrArg e2 (nI_clamp (by omega))).trans (hhl j hjz).2.2))
    refine lv_iload hx hb dX15_base_53 (lv_at hl 2 rfl) ?_
    refine lv_isub hx hb dX15_base_55 ?_
    refine lv_topi (fun x_32 ex_32 => ?_)
    obtain rfl : x_32 = (nI (gq 2 j - (gq 1 j + 1))) := ex_32.trans (pk_sub hg2)
    refine lv_iload hx hb dX15_base_56 (lv_at hl 0 rfl) ?_
    refine lv_icmp_eq (tgt := 63) hx hb dX15_base_58 (by decide) (fun c_33 => ?_) (fun c_33 => ?_)
    ·
      have hi_34 : (gq 2 j - (gq 1 j + 1)) = ((w + 2) / 3 * 4) := (nI_eq (a := (gq 2 j - (gq 1 j + 1))) (b := ((w + 2) / 3 * 4)) (by omega) (by omega)).mp c_33
      have hle : (gq 1 j + 1) + ((w + 2) / 3 * 4) = gq 2 j := by have h9 := (nI_eq (by omega) (by omega)).mp c_33; omega
      refine lv_lconst (v := 0) hx hb dX15_base_63 (by decide) ?_
      refine lv_lstore (lv' := [(8, .long 0), (7, .int (nI ((w + 2) / 3 * 4))), (6, .int (nI ((w * 4 + 2) / 3))), (5, .int (nI (gq 1 j + 1))), (4, .int (nI j)), (0, .ref g0), (1, .ref q), (2, .int (nI w)), (3, .ref ga)]) hx hb dX15_base_64 hl (by decide) rfl (fun ls hl => ?_)
      refine lv_iconst (v := 0) hx hb dX15_base_66 (by decide) ?_
      refine lv_istore (lv' := [(10, .int 0), (8, .long 0), (7, .int (nI ((w + 2) / 3 * 4))), (6, .int (nI ((w * 4 + 2) / 3))), (5, .int (nI (gq 1 j + 1))), (4, .int (nI j)), (0, .ref g0), (1, .ref q), (2, .int (nI w)), (3, .ref ga)]) hx hb dX15_base_67 hl (by decide) rfl (fun ls hl => ?_)
      refine lv_iconst (v := 0) hx hb dX15_base_69 (by decide) ?_
      refine lv_istore (lv' := [(11, .int 0), (10, .int 0), (8, .long 0), (7, .int (nI ((w + 2) / 3 * 4))), (6, .int (nI ((w * 4 + 2) / 3))), (5, .int (nI (gq 1 j + 1))), (4, .int (nI j)), (0, .ref g0), (1, .ref q), (2, .int (nI w)), (3, .ref ga)]) hx hb dX15_base_70 hl (by decide) rfl (fun ls hl => ?_)
      refine lv_iconst (v := 0) hx hb dX15_base_72 (by decide) ?_
      refine lv_istore (lv' := [(12, .int 0), (11, .int 0), (10, .int 0), (8, .long 0), (7, .int (nI ((w + 2) / 3 * 4))), (6, .int (nI ((w * 4 + 2) / 3))), (5, .int (nI (gq 1 j + 1))), (4, .int (nI j)), (0, .ref g0), (1, .ref q), (2, .int (nI w)), (3, .ref ga)]) hx hb dX15_base_73 hl (by decide) rfl (fun ls hl => ?_)
      have hl0 : (0 : Int64) = lI 0 := by decide
      refine W.widen (k := 0) (n := 0) (by omega) (by omega) ?_
      have hF_36 : F tx = .inr (14, [.ref tbx, .int (nI zx)]) := (hR tx (by rw [hT_tx]; simp only [List.mem_cons, List.not_mem_nil, or_false]; omega)).symm.trans hFx
      have hF_37 : F tbx = .inl (cs 17, n, .inl fb) := (hR tbx (by rw [ht_10]; simp only [List.mem_cons, List.not_mem_nil, or_false]; omega)).symm.trans hFb
      have hF_38 : F g0 = .inr (13, [.ref tx, .ref y0, .ref y1, .ref y2, .int (nI nn)]) := (hR g0 (by rw [hT_g0]; simp only [List.mem_cons, List.not_mem_nil, or_false]; omega)).symm.trans hF0
      have hF_39 : F y0 = .inl (cs 16, 40, .inl e0) := (hR y0 (by rw [ht_4]; simp only [List.mem_cons, List.not_mem_nil, or_false]; omega)).symm.trans hFy0
      have hF_40 : F y1 = .inl (cs 16, 40, .inl e1) := (hR y1 (by rw [ht_5]; simp only [List.mem_cons, List.not_mem_nil, or_false]; omega)).symm.trans hFy1
      have hF_41 : F y2 = .inl (cs 16, 40, .inl e2) := (hR y2 (by rw [ht_6]; simp only [List.mem_cons, List.not_mem_nil, or_false]; omega)).symm.trans hFy2
      refine pl_loopm (σ := Nat × Nat × Nat × Int64 × Nat × (Nat → Int32)) A (dC, dI) cs ty gm L [τ] F 75 14 (fun (i, bb, mk9, wl, hh, fq) => [(12, .int (nI i)), (11, .int (nI mk9)), (10, .int (nI bb)), (8, .long wl), (7, .int (nI ((w + 2) / 3 * 4))), (6, .int (nI ((w * 4 + 2) / 3))), (5, .int (nI (gq 1 j + 1))), (4, .int (nI j)), (0, .ref g0), (1, .ref q), (2, .int (nI w)), (3, .ref ga)]) (fun (i, bb, mk9, wl, hh, fq) => []) (fun (i, bb, mk9, wl, hh, fq) FF => i ≤ ((w * 4 + 2) / 3) ∧ bb = 6 * i % 8 ∧ wl = lI hh ∧ FF ga = .inl (cs 17, w, .inl fq) ∧ DCM (TC fb zx) (gq 1 j + 1) i hh mk9 fq) (fun (i, bb, mk9, wl, hh, fq) => ((w * 4 + 2) / 3) - i) ?_ (0, 0, 0, 0, 0, f_14) F (⟨by omega, by omega, hl0, hF_15, dcm_0⟩) hO hR _ _ hP hD hS ls (lv_sub hl [0, 1, 2, 3, 4, 5, 6, 7, 8, 9, 10, 11] rfl)
      rintro ⟨i, bb, mk9, wl, hh, fq⟩ F_35 hv_42 hO hR ih_43 H locs hP hD hS ls hl
      have hl : lv_has ls 14 [(12, .int (nI i)), (11, .int (nI mk9)), (10, .int (nI bb)), (8, .long wl), (7, .int (nI ((w + 2) / 3 * 4))), (6, .int (nI ((w * 4 + 2) / 3))), (5, .int (nI (gq 1 j + 1))), (4, .int (nI j)), (0, .ref g0), (1, .ref q), (2, .int (nI w)), (3, .ref ga)] := hl
      have hv_42 : i ≤ ((w * 4 + 2) / 3) ∧ bb = 6 * i % 8 ∧ wl = lI hh ∧ F_35 ga = .inl (cs 17, w, .inl fq) ∧ DCM (TC fb zx) (gq 1 j + 1) i hh mk9 fq := hv_42
      refine W.eq (g2 := F0 m 75 ls []) rfl ?_
      have hF_44 : F_35 tx = .inr (14, [.ref tbx, .int (nI zx)]) := (hR tx (by rw [hT_tx]; simp only [List.mem_cons, List.not_mem_nil, or_false]; omega)).trans hF_36
      have hF_45 : F_35 tbx = .inl (cs 17, n, .inl fb) := (hR tbx (by rw [ht_10]; simp only [List.mem_cons, List.not_mem_nil, or_false]; omega)).trans hF_37
      have hF_46 : F_35 g0 = .inr (13, [.ref tx, .ref y0, .ref y1, .ref y2, .int (nI nn)]) := (hR g0 (by rw [hT_g0]; simp only [List.mem_cons, List.not_mem_nil, or_false]; omega)).trans hF_38
      have hF_47 : F_35 y0 = .inl (cs 16, 40, .inl e0) := (hR y0 (by rw [ht_4]; simp only [List.mem_cons, List.not_mem_nil, or_false]; omega)).trans hF_39
      have hF_48 : F_35 y1 = .inl (cs 16, 40, .inl e1) := (hR y1 (by rw [ht_5]; simp only [List.mem_cons, List.not_mem_nil, or_false]; omega)).trans hF_40
      have hF_49 : F_35 y2 = .inl (cs 16, 40, .inl e2) := (hR y2 (by rw [ht_6]; simp only [List.mem_cons, List.not_mem_nil, or_false]; omega)).trans hF_41
      obtain ⟨hv1, hv2, hv3, hv4, hv5⟩ := id hv_42
      subst hv3
      have hBG := bfmo hv4 (hO.octs hL_ga hT_ga)
      have hyl : mk9 = 6 * i / 8 := by rw [hv5.2.2.1, dst_len]
      have hh6 : hh < 64 := by rw [hv5.2.1]; exact dst_h hv5.1
      refine lv_iload hx hb dX15_base_75 (lv_at hl 0 rfl) ?_
      refine lv_iload hx hb dX15_base_77 (lv_at hl 5 rfl) ?_
      refine lv_icmp_ge (tgt := 166) hx hb dX15_base_79 (by decide) (fun c_50 => ?_) (fun c_50 => ?_)
      ·
        have hi_51 : ((w * 4 + 2) / 3) ≤ i := leN (N := ((w * 4 + 2) / 3)) c_50
        have hig : ((w * 4 + 2) / 3) ≤ i := (nI_leI (by omega) (by omega)).mp c_50
        have hig2 : i = ((w * 4 + 2) / 3) := by omega
        have hBY := dcm_e hv5 hig2 hw2
        rw [hig2] at hv5
        refine lv_iload hx hb dX15_base_166 (lv_at hl 5 rfl) ?_
        refine lv_istore (lv' := [(12, .int (nI ((w * 4 + 2) / 3))), (11, .int (nI mk9)), (10, .int (nI bb)), (8, .long (lI hh)), (7, .int (nI ((w + 2) / 3 * 4))), (6, .int (nI ((w * 4 + 2) / 3))), (5, .int (nI (gq 1 j + 1))), (4, .int (nI j)), (0, .ref g0), (1, .ref q), (2, .int (nI w)), (3, .ref ga)]) hx hb dX15_base_168 hl (by decide) rfl (fun ls hl => ?_)
        refine W.widen (k := 0) (n := 0) (by omega) (by omega) ?_
        have hF_53 : F tx = .inr (14, [.ref tbx, .int (nI zx)]) := (hR tx (by rw [hT_tx]; simp only [List.mem_cons, List.not_mem_nil, or_false]; omega)).symm.trans hF_44
        have hF_54 : F tbx = .inl (cs 17, n, .inl fb) := (hR tbx (by rw [ht_10]; simp only [List.mem_cons, List.not_mem_nil, or_false]; omega)).symm.trans hF_45
        have hF_55 : F g0 = .inr (13, [.ref tx, .ref y0, .ref y1, .ref y2, .int (nI nn)]) := (hR g0 (by rw [hT_g0]; simp only [List.mem_cons, List.not_mem_nil, or_false]; omega)).symm.trans hF_46
        have hF_56 : F y0 = .inl (cs 16, 40, .inl e0) := (hR y0 (by rw [ht_4]; simp only [List.mem_cons, List.not_mem_nil, or_false]; omega)).symm.trans hF_47
        have hF_57 : F y1 = .inl (cs 16, 40, .inl e1) := (hR y1 (by rw [ht_5]; simp only [List.mem_cons, List.not_mem_nil, or_false]; omega)).symm.trans hF_48
        have hF_58 : F y2 = .inl (cs 16, 40, .inl e2) := (hR y2 (by rw [ht_6]; simp only [List.mem_cons, List.not_mem_nil, or_false]; omega)).symm.trans hF_49
        refine pl_loopm (σ := Nat) A (dC, dI) cs ty gm L [τ] F 170 14 (fun i2 => [(12, .int (nI i2)), (8, .long (lI hh)), (7, .int (nI ((w + 2) / 3 * 4))), (6, .int (nI ((w * 4 + 2) / 3))), (5, .int (nI (gq 1 j + 1))), (4, .int (nI j)), (0, .ref g0), (1, .ref q), (2, .int (nI w)), (3, .ref ga)]) (fun i2 => []) (fun i2 FF => ((w * 4 + 2) / 3) ≤ i2 ∧ i2 ≤ ((w + 2) / 3 * 4) ∧ (∀ q9, (gq 1 j + 1) + ((w * 4 + 2) / 3) ≤ q9 → q9 < (gq 1 j + 1) + i2 → (TC fb zx) q9 = 61) ∧ FF ga = .inl (cs 17, w, .inl fq)) (fun i2 => ((w + 2) / 3 * 4) - i2) ?_ ((w * 4 + 2) / 3) F_35 (⟨Nat.le_refl _, by omega, fun q9 h1 h2 => absurd h2 (by omega), hv4⟩) hO hR _ _ hP hD hS ls (lv_sub hl [0, 3, 4, 5, 6, 7, 8, 9, 10, 11] rfl)
        rintro i2 F_52 hv_59 hO hR ih_60 H locs hP hD hS ls hl
        have hl : lv_has ls 14 [(12, .int (nI i2)), (8, .long (lI hh)), (7, .int (nI ((w + 2) / 3 * 4))), (6, .int (nI ((w * 4 + 2) / 3))), (5, .int (nI (gq 1 j + 1))), (4, .int (nI j)), (0, .ref g0), (1, .ref q), (2, .int (nI w)), (3, .ref ga)] := hl
        have hv_59 : ((w * 4 + 2) / 3) ≤ i2 ∧ i2 ≤ ((w + 2) / 3 * 4) ∧ (∀ q9, (gq 1 j + 1) + ((w * 4 + 2) / 3) ≤ q9 → q9 < (gq 1 j + 1) + i2 → (TC fb zx) q9 = 61) ∧ F_52 ga = .inl (cs 17, w, .inl fq) := hv_59
        refine W.eq (g2 := F0 m 170 ls []) rfl ?_
        have hF_61 : F_52 tx = .inr (14, [.ref tbx, .int (nI zx)]) := (hR tx (by rw [hT_tx]; simp only [List.mem_cons, List.not_mem_nil, or_false]; omega)).trans hF_53
        have hF_62 : F_52 tbx = .inl (cs 17, n, .inl fb) := (hR tbx (by rw [ht_10]; simp only [List.mem_cons, List.not_mem_nil, or_false]; omega)).trans hF_54
        have hF_63 : F_52 g0 = .inr (13, [.ref tx, .ref y0, .ref y1, .ref y2, .int (nI nn)]) := (hR g0 (by rw [hT_g0]; simp only [List.mem_cons, List.not_mem_nil, or_false]; omega)).trans hF_55
        have hF_64 : F_52 y0 = .inl (cs 16, 40, .inl e0) := (hR y0 (by rw [ht_4]; simp only [List.mem_cons, List.not_mem_nil, or_false]; omega)).trans hF_56
        have hF_65 : F_52 y1 = .inl (cs 16, 40, .inl e1) := (hR y1 (by rw [ht_5]; simp only [List.mem_cons, List.not_mem_nil, or_false]; omega)).trans hF_57
        have hF_66 : F_52 y2 = .inl (cs 16, 40, .inl e2) := (hR y2 (by rw [ht_6]; simp only [List.mem_cons, List.not_mem_nil, or_false]; omega)).trans hF_58
        obtain ⟨hu1, hu2, hu3, hu4⟩ := id hv_59
        refine lv_iload hx hb dX15_base_170 (lv_at hl 0 rfl) ?_
        refine lv_iload hx hb dX15_base_172 (lv_at hl 2 rfl) ?_
        refine lv_icmp_ge (tgt := 203) hx hb dX15_base_174 (by decide) (fun c_67 => ?_) (fun c_67 => ?_)
        ·
          have hi_68 : ((w + 2) / 3 * 4) ≤ i2 := leN (N := ((w + 2) / 3 * 4)) c_67
          have hie : ((w + 2) / 3 * 4) ≤ i2 := (nI_leI (by omega) (by omega)).mp c_67
          refine lv_lload hx hb dX15_base_203 (lv_at hl 1 rfl) ?_
          refine lv_lconst (v := 0) hx hb dX15_base_205 (by decide) ?_
          refine W.lcmp hx hb dX15_base_206 ?_
          refine lv_topi (fun x_69 ex_69 => ?_)
          obtain rfl : x_69 = (lg_cmp (lI hh) 0) := ex_69.trans (rfl)
          refine lv_if_ne (tgt := 214) hx hb dX15_base_207 (by decide) (fun c_70 => ?_) (fun c_70 => ?_)
          ·
            have hh0 : ¬ hh = 0 := fun q => c_70 ((lI_0 hh hh6).mpr q)
            refine lv_iconst (v := 0) hx hb dX15_base_214 (by decide) ?_
            refine W.widen (k := 0) (n := 0) (by omega) (by omega) ?_
            exact W.zret (v := 0) (ty := .boolean) hx hb hr (by decide) (fun t ht hWm => ⟨⟨0, (), rfl, (Or.inr ⟨rfl, (fun q => by have h9 := q.2.2.2; rw [hR9] at h9; exact hh0 (hv5.2.1.trans h9))⟩), ⟨F_52, fq, QTm.mk ht hP hD hO hR, hu4, (fun q => absurd q (fun q => by have h9 := q.2.2.2; rw [hR9] at h9; exact hh0 (hv5.2.1.trans h9)))⟩⟩, hS.F ht⟩) hS.2.2 dX15_base_215
          ·
            have hh0 : hh = 0 := (lI_0 hh hh6).mp c_70
            refine lv_iconst (v := 1) hx hb dX15_base_210 (by decide) ?_
            refine lv_goto (tgt := 215) hx hb dX15_base_211 (by decide) ?_
            refine W.widen (k := 0) (n := 0) (by omega) (by omega) ?_
            exact W.zret (v := 1) (ty := .boolean) hx hb hr (by decide) (fun t ht hWm => ⟨⟨1, (), rfl, (Or.inl ⟨rfl, (by rw [hR9]; exact ⟨hle, hv5.1, fun q9 h1 h2 => hu3 q9 h1 (by have h8 : q9 < gq 2 j := h2; omega), hv5.2.1.symm.trans hh0⟩)⟩), ⟨F_52, fq, QTm.mk ht hP hD hO hR, hu4, (fun _ => by rw [hR9]; exact hBY)⟩⟩, hS.F ht⟩) hS.2.2 dX15_base_215
        ·
          have hi_71 : i2 < ((w + 2) / 3 * 4) := ltN (N := ((w + 2) / 3 * 4)) c_67
          have hie : i2 < ((w + 2) / 3 * 4) := Nat.not_le.mp (fun q => c_67 ((nI_leI (by omega) (by omega)).mpr q))
          refine lv_aload_n hx hb dX15_base_177 rfl (lv_at hl 6 rfl) ?_
          refine pg_get (ci := 13) (v := .ref tx) (C := RX13) (T := TX13) (N := 5) hx hb hts it_13 hown hK hP hL_g0 hF_63 rfl 0 (by decide) (hts _ kt_842) (fun _ h9 => h9) rfl dX15_base_178 ?_
          refine pg_get (ci := 14) (v := .ref tbx) (C := RX14) (T := TX14) (N := 2) hx hb hts it_14 hown hK hP hL_tx hF_61 rfl 0 (by decide) (hts _ kt_710) (fun _ h9 => h9) rfl dX15_base_181 ?_
          refine lv_iload hx hb dX15_base_184 (lv_at hl 4 rfl) ?_
          refine lv_iload hx hb dX15_base_186 (lv_at hl 0 rfl) ?_
          refine lv_iadd hx hb dX15_base_188 ?_
          refine lv_topi (fun x_72 ex_72 => ?_)
          obtain rfl : x_72 = (nI ((gq 1 j + 1) + i2)) := ex_72.trans (nI_add _ i2)
          refine pg_bald hx hb hK hP hi_9 1 hF_62 rfl (vp_in_nI (by omega) (by omega)) dX15_base_189 ?_
          refine lv_topi (fun x_73 ex_73 => ?_)
          obtain rfl : x_73 = (fb ((gq 1 j + 1) + i2)) := ex_73.trans (congrArg fb (nI_clamp (by omega)))
          refine lv_bipush (v := 61) hx hb dX15_base_190 (by decide) ?_
          refine lv_icmp_eq (tgt := 197) hx hb dX15_base_192 (by decide) (fun c_74 => ?_) (fun c_74 => ?_)
          ·
            have heq : (TC fb zx) ((gq 1 j + 1) + i2) = 61 := (tcc (show (gq 1 j + 1) + i2 < zx by omega) 61 (by omega)).mpr c_74
            refine lv_iinc (v := (nI (i2 + 1))) (lv' := [(12, .int (nI (i2 + 1))), (8, .long (lI hh)), (7, .int (nI ((w + 2) / 3 * 4))), (6, .int (nI ((w * 4 + 2) / 3))), (5, .int (nI (gq 1 j + 1))), (4, .int (nI j)), (0, .ref g0), (1, .ref q), (2, .int (nI w)), (3, .ref ga)]) hx hb dX15_base_197 hl (k := 0) rfl (nI_1 _) (by decide) rfl (fun ls hl => ?_)
            refine lv_goto (tgt := 170) hx hb dX15_base_200 (by decide) ?_
            refine W.widen (k := 0) (n := 0) (by omega) (by omega) ?_
            exact ih_60 (i2 + 1) F_52 (⟨by omega, by omega, fun q9 h1 h2 => by rcases Nat.lt_or_ge q9 ((gq 1 j + 1) + i2) with w9 | w9; exact hu3 q9 h1 w9; rw [show q9 = (gq 1 j + 1) + i2 by omega]; exact heq, hu4⟩) (by show ((w + 2) / 3 * 4) - (i2 + 1) < ((w + 2) / 3 * 4) - i2; omega) hO hR _ _ hP hD hS ls (lv_sub hl [0, 1, 2, 3, 4, 5, 6, 7, 8, 9] rfl)
          ·
            have heq : ¬ (TC fb zx) ((gq 1 j + 1) + i2) = 61 := fun q => c_74 ((tcc (show (gq 1 j + 1) + i2 < zx by omega) 61 (by omega)).mp q)
            refine lv_iconst (v := 0) hx hb dX15_base_195 (by decide) ?_
            refine W.widen (k := 0) (n := 0) (by omega) (by omega) ?_
            exact W.zret (v := 0) (ty := .boolean) hx hb hr (by decide) (fun t ht hWm => ⟨⟨0, (), rfl, (Or.inr ⟨rfl, (fun q => by have h9 := q.2.2.1; rw [hR9] at h9; exact heq (h9 ((gq 1 j + 1) + i2) (by show (gq 1 j + 1) + ((w * 4 + 2) / 3) ≤ _; omega) (by show _ < gq 2 j; omega)))⟩), ⟨F_52, fq, QTm.mk ht hP hD hO hR, hu4, (fun q => absurd q (fun q => by have h9 := q.2.2.1; rw [hR9] at h9; exact heq (h9 ((gq 1 j + 1) + i2) (by show (gq 1 j + 1) + ((w * 4 + 2) / 3) ≤ _; omega) (by show _ < gq 2 j; omega))))⟩⟩, hS.F ht⟩) hS.2.2 dX15_base_196
      ·
        have hi_75 : i < ((w * 4 + 2) / 3) := ltN (N := ((w * 4 + 2) / 3)) c_50
        have hig : i < ((w * 4 + 2) / 3) := Nat.not_le.mp (fun q => c_50 ((nI_leI (by omega) (by omega)).mpr q))
        refine lv_aload_n hx hb dX15_base_82 rfl (lv_at hl 8 rfl) ?_
        refine pg_get (ci := 13) (v := .ref tx) (C := RX13) (T := TX13) (N := 5) hx hb hts it_13 hown hK hP hL_g0 hF_46 rfl 0 (by decide) (hts _ kt_842) (fun _ h9 => h9) rfl dX15_base_83 ?_
        refine pg_get (ci := 14) (v := .ref tbx) (C := RX14) (T := TX14) (N := 2) hx hb hts it_14 hown hK hP hL_tx hF_44 rfl 0 (by decide) (hts _ kt_710) (fun _ h9 => h9) rfl dX15_base_86 ?_
        refine lv_iload hx hb dX15_base_89 (lv_at hl 6 rfl) ?_
        refine lv_iload hx hb dX15_base_91 (lv_at hl 0 rfl) ?_
        refine lv_iadd hx hb dX15_base_93 ?_
        refine lv_topi (fun x_76 ex_76 => ?_)
        obtain rfl : x_76 = (nI ((gq 1 j + 1) + i)) := ex_76.trans (nI_add _ i)
        refine pg_bald hx hb hK hP hi_9 1 hF_45 rfl (vp_in_nI (by omega) (by omega)) dX15_base_94 ?_
        refine lv_topi (fun x_77 ex_77 => ?_)
        obtain rfl : x_77 = (fb ((gq 1 j + 1) + i)) := ex_77.trans (congrArg fb (nI_clamp (by omega)))
        have hFc := pg_free hD hS hA
        refine va_calli (va_runS (As := [.int (fb ((gq 1 j + 1) + i))]) (rest := []) ⟨hx, hb, hml, hown, hts⟩ (s_X15_digitOf_x l dC dI cs ty gm L H.size F_35 (fb ((gq 1 j + 1) + i)) hW ) ⟨callB_of 1 hts (gi kt_843) rfl rfl rfl (hts _ kt_669) (hts _ kt_844) (by decide +kernel) ⟨Nat.le_of_ble_eq_true rfl, Nat.le_of_ble_eq_true rfl⟩, (hts _ kt_845)⟩ ⟨fun a U g mk q => ⟨q.1, PTm.calling q.2⟩, fun U hU hWm => ⟨rfl, PTm.mk hU hWm hP hK hD hE hO⟩⟩ rfl rfl hl.1 rfl (lv_room (Nat.le_of_ble_eq_true rfl)) dX15_base_95 ⟨by show _ + 0 ≤ 0; omega, by show _ + 0 ≤ 0; omega⟩) hS (fun q _ h => hFc q h) hFc (fun r_78 u t H1 locs ht hvm hw hB hz1 hk1 hS => ?_)
        obtain ⟨F_79, hB1⟩ := hB
        obtain rfl : F_35 = F_79 := (funext (fun a => hB1.2.2.2 a List.not_mem_nil)).symm
        obtain ⟨hP, hD, hO, hR⟩ := QTm.back hB1 ht hFc hR (fun q h => absurd h List.not_mem_nil)
        generalize H1 = H at hP hS ⊢
        have hw : SXR (cdv (fb ((gq 1 j + 1) + i))) r_78 := hw
        have hw_80 := hw
        refine lv_istore (lv' := [(13, .int r_78), (12, .int (nI i)), (11, .int (nI mk9)), (10, .int (nI bb)), (8, .long (lI hh)), (7, .int (nI ((w + 2) / 3 * 4))), (6, .int (nI ((w * 4 + 2) / 3))), (5, .int (nI (gq 1 j + 1))), (4, .int (nI j)), (0, .ref g0), (1, .ref q), (2, .int (nI w)), (3, .ref ga)]) hx hb dX15_base_98 hl (by decide) rfl (fun ls hl => ?_)
        refine lv_iload hx hb dX15_base_100 (lv_at hl 0 rfl) ?_
        refine lv_if_ge (tgt := 107) hx hb dX15_base_102 (by decide) (fun c_81 => ?_) (fun c_81 => ?_)
        ·
          obtain ⟨hse, h6s⟩ : r_78 = nI (sxT ((TC fb zx) ((gq 1 j + 1) + i))) ∧ sxT ((TC fb zx) ((gq 1 j + 1) + i)) < 64 := by rw [tcn_in (show (gq 1 j + 1) + i < zx by omega)]; rcases hw_80 with q | q; rw [q.1] at c_81; exact absurd c_81 (by decide); exact q
          subst hse
          refine lv_lload hx hb dX15_base_107 (lv_at hl 4 rfl) ?_
          refine lv_bipush (v := 6) hx hb dX15_base_109 (by decide) ?_
          refine lv_lshl hx hb dX15_base_111 rfl ?_
          refine lv_topl (fun x_83 ex_83 => ?_)
          obtain rfl : x_83 = (lsl (lI hh) 6) := ex_83.trans (rfl)
          refine lv_iload hx hb dX15_base_112 (lv_at hl 0 rfl) ?_
          refine lv_i2l (v := (nI (sxT ((TC fb zx) ((gq 1 j + 1) + i)))).toInt64) hx hb dX15_base_114 rfl ?_
          refine lv_lor hx hb dX15_base_115 ?_
          refine lv_topl (fun x_84 ex_84 => ?_)
          obtain rfl : x_84 = (lI (hh * 64 + sxT ((TC fb zx) ((gq 1 j + 1) + i)))) := ex_84.trans (mo6 hh hh6 _ h6s)
          refine lv_lstore (lv' := [(8, .long (lI (hh * 64 + sxT ((TC fb zx) ((gq 1 j + 1) + i))))), (13, .int (nI (sxT ((TC fb zx) ((gq 1 j + 1) + i))))), (12, .int (nI i)), (11, .int (nI mk9)), (10, .int (nI bb)), (7, .int (nI ((w + 2) / 3 * 4))), (6, .int (nI ((w * 4 + 2) / 3))), (5, .int (nI (gq 1 j + 1))), (4, .int (nI j)), (0, .ref g0), (1, .ref q), (2, .int (nI w)), (3, .ref ga)]) hx hb dX15_base_116 hl (by decide) rfl (fun ls hl => ?_)
          refine lv_iinc (v := (nI (bb + 6))) (lv' := [(10, .int (nI (bb + 6))), (8, .long (lI (hh * 64 + sxT ((TC fb zx) ((gq 1 j + 1) + i))))), (13, .int (nI (sxT ((TC fb zx) ((gq 1 j + 1) + i))))), (12, .int (nI i)), (11, .int (nI mk9)), (7, .int (nI ((w + 2) / 3 * 4))), (6, .int (nI ((w * 4 + 2) / 3))), (5, .int (nI (gq 1 j + 1))), (4, .int (nI j)), (0, .ref g0), (1, .ref q), (2, .int (nI w)), (3, .ref ga)]) hx hb dX15_base_118 hl (k := 4) rfl (nI_add bb 6) (by decide) rfl (fun ls hl => ?_)
          refine lv_iload hx hb dX15_base_121 (lv_at hl 0 rfl) ?_
          refine lv_bipush (v := 8) hx hb dX15_base_123 (by decide) ?_
          refine lv_icmp_ge (tgt := 131) hx hb dX15_base_125 (by decide) (fun c_85 => ?_) (fun c_85 => ?_)
          ·
            have hi_86 : 8 ≤ (bb + 6) := leN (N := 8) c_85
            have hc8 : 8 ≤ 6 * i % 8 + 6 := by have h9 : 8 ≤ bb + 6 := (nI_leI (a := 8) (by omega) (by omega)).mp c_85; omega
            have hms := ms_k (h := (hh * 64 + sxT ((TC fb zx) ((gq 1 j + 1) + i)))) (k := i) (by omega) hc8
            rw [← hv2] at hms
            refine lv_iinc (v := (nI (bb + 6 - 8))) (lv' := [(10, .int (nI (bb + 6 - 8))), (8, .long (lI (hh * 64 + sxT ((TC fb zx) ((gq 1 j + 1) + i))))), (13, .int (nI (sxT ((TC fb zx) ((gq 1 j + 1) + i))))), (12, .int (nI i)), (11, .int (nI mk9)), (7, .int (nI ((w + 2) / 3 * 4))), (6, .int (nI ((w * 4 + 2) / 3))), (5, .int (nI (gq 1 j + 1))), (4, .int (nI j)), (0, .ref g0), (1, .ref q), (2, .int (nI w)), (3, .ref ga)]) hx hb dX15_base_131 hl (k := 0) rfl (m8N (by omega)) (by decide) rfl (fun ls hl => ?_)
            refine lv_aload_n hx hb dX15_base_134 rfl (lv_at hl 12 rfl) ?_
            refine lv_iload hx hb dX15_base_135 (lv_at hl 4 rfl) ?_
            refine lv_lload hx hb dX15_base_137 (lv_at hl 1 rfl) ?_
            refine lv_iload hx hb dX15_base_139 (lv_at hl 0 rfl) ?_
            refine lv_lshr hx hb dX15_base_141 rfl ?_
            refine lv_topl (fun x_88 ex_88 => ?_)
            obtain rfl : x_88 = (lsr (lI (hh * 64 + sxT ((TC fb zx) ((gq 1 j + 1) + i)))) (nI (bb + 6 - 8))) := ex_88.trans (rfl)
            refine lv_l2i hx hb dX15_base_142 rfl ?_
            refine lv_topi (fun x_89 ex_89 => ?_)
            obtain rfl : x_89 = ((lsr (lI (hh * 64 + sxT ((TC fb zx) ((gq 1 j + 1) + i)))) (nI (bb + 6 - 8))).toInt32) := ex_89.trans (rfl)
            refine lv_i2b hx hb dX15_base_143 rfl ?_
            refine lv_topi (fun x_90 ex_90 => ?_)
            obtain rfl : x_90 = ((lsr (lI (hh * 64 + sxT ((TC fb zx) ((gq 1 j + 1) + i)))) (nI (bb + 6 - 8))).toInt32.toInt8.toInt32) := ex_90.trans (rfl)
            refine pg_bast hx hb hK hP hD hS hL_ga 1 hv4 rfl (vp_in_nI (by omega) (by omega)) dX15_base_144 (fun H locs hP hD hS => ?_)
            obtain ⟨F_91, he_92, hP, hD, hO, hR⟩ : ∃ G, G = va_up F_35 ga (.inl (cs 17, w, .inl (upd fq ((nI mk9)).toNatClampNeg (vp_nar .byte (((lsr (lI (hh * 64 + sxT ((TC fb zx) ((gq 1 j + 1) + i)))) (nI (bb + 6 - 8))).toInt32.toInt8.toInt32)))))) ∧ va_P (dC, dI) vwCl (va_pl L G) H ∧ va_D A (va_pl L G) ∧ OKm cs ty gm L G ∧ FR ty [τ] F G := ⟨_, rfl, hP, hD, hO.up (shm.octs hT_ga ⟨_, rfl, bfm_upd hBG _ _⟩), hR.up hT_ga (by simp)⟩
            have hF_93 : F_91 ga = .inl (cs 17, w, .inl (upd fq ((nI mk9)).toNatClampNeg (vp_nar .byte (((lsr (lI (hh * 64 + sxT ((TC fb zx) ((gq 1 j + 1) + i)))) (nI (bb + 6 - 8))).toInt32.toInt8.toInt32))))) := by rw [he_92]; exact up_self
            have hF_94 : F_91 tx = .inr (14, [.ref tbx, .int (nI zx)]) := by rw [he_92, up_ne (ne_ty hT_tx hT_ga (by simp))]; exact hF_44
            have hF_95 : F_91 g0 = .inr (13, [.ref tx, .ref y0, .ref y1, .ref y2, .int (nI nn)]) := by rw [he_92, up_ne (ne_ty hT_g0 hT_ga (by simp))]; exact hF_46
            have hF_96 : F_91 y0 = .inl (cs 16, 40, .inl e0) := by rw [he_92, up_ne (ne_ty ht_4 hT_ga (by simp))]; exact hF_47
            have hF_97 : F_91 y1 = .inl (cs 16, 40, .inl e1) := by rw [he_92, up_ne (ne_ty ht_5 hT_ga (by simp))]; exact hF_48
            have hF_98 : F_91 y2 = .inl (cs 16, 40, .inl e2) := by rw [he_92, up_ne (ne_ty ht_6 hT_ga (by simp))]; exact hF_49
            obtain ⟨f_99, hF_93, hq_100, hfe_101⟩ : ∃ f : Nat → Int32, F_91 ga = .inl (cs 17, w, .inl f) ∧ BFm f ∧ f = upd fq ((nI mk9)).toNatClampNeg (vp_nar .byte (((lsr (lI (hh * 64 + sxT ((TC fb zx) ((gq 1 j + 1) + i)))) (nI (bb + 6 - 8))).toInt32.toInt8.toInt32))) := ⟨_, hF_93, bfm_upd hBG _ _, rfl⟩
            refine lv_iinc (v := (nI (mk9 + 1))) (lv' := [(11, .int (nI (mk9 + 1))), (10, .int (nI (bb + 6 - 8))), (8, .long (lI (hh * 64 + sxT ((TC fb zx) ((gq 1 j + 1) + i))))), (13, .int (nI (sxT ((TC fb zx) ((gq 1 j + 1) + i))))), (12, .int (nI i)), (7, .int (nI ((w + 2) / 3 * 4))), (6, .int (nI ((w * 4 + 2) / 3))), (5, .int (nI (gq 1 j + 1))), (4, .int (nI j)), (0, .ref g0), (1, .ref q), (2, .int (nI w)), (3, .ref ga)]) hx hb dX15_base_145 hl (k := 4) rfl (nI_1 _) (by decide) rfl (fun ls hl => ?_)
            refine lv_lload hx hb dX15_base_148 (lv_at hl 2 rfl) ?_
            refine lv_iconst (v := 1) hx hb dX15_base_150 (by decide) ?_
            refine lv_iload hx hb dX15_base_151 (lv_at hl 1 rfl) ?_
            refine lv_ishl hx hb dX15_base_153 ?_
            refine lv_topi (fun x_102 ex_102 => ?_)
            obtain rfl : x_102 = (shl 1 (nI (bb + 6 - 8))) := ex_102.trans (rfl)
            refine lv_iconst (v := 1) hx hb dX15_base_154 (by decide) ?_
            refine lv_isub hx hb dX15_base_155 ?_
            refine lv_topi (fun x_103 ex_103 => ?_)
            obtain rfl : x_103 = (shl 1 (nI (bb + 6 - 8)) - 1) := ex_103.trans (rfl)
            refine lv_i2l (v := (shl 1 (nI (bb + 6 - 8)) - 1).toInt64) hx hb dX15_base_156 rfl ?_
            refine lv_land hx hb dX15_base_157 ?_
            refine lv_topl (fun x_104 ex_104 => ?_)
            obtain rfl : x_104 = (lI ((hh * 64 + sxT ((TC fb zx) ((gq 1 j + 1) + i))) % 2 ^ (bb + 6 - 8))) := ex_104.trans (hms.2)
            refine lv_lstore (lv' := [(8, .long (lI ((hh * 64 + sxT ((TC fb zx) ((gq 1 j + 1) + i))) % 2 ^ (bb + 6 - 8)))), (11, .int (nI (mk9 + 1))), (10, .int (nI (bb + 6 - 8))), (13, .int (nI (sxT ((TC fb zx) ((gq 1 j + 1) + i))))), (12, .int (nI i)), (7, .int (nI ((w + 2) / 3 * 4))), (6, .int (nI ((w * 4 + 2) / 3))), (5, .int (nI (gq 1 j + 1))), (4, .int (nI j)), (0, .ref g0), (1, .ref q), (2, .int (nI w)), (3, .ref ga)]) hx hb dX15_base_158 hl (by decide) rfl (fun ls hl => ?_)
            refine lv_iinc (v := (nI (i + 1))) (lv' := [(12, .int (nI (i + 1))), (8, .long (lI ((hh * 64 + sxT ((TC fb zx) ((gq 1 j + 1) + i))) % 2 ^ (bb + 6 - 8)))), (11, .int (nI (mk9 + 1))), (10, .int (nI (bb + 6 - 8))), (13, .int (nI (sxT ((TC fb zx) ((gq 1 j + 1) + i))))), (7, .int (nI ((w + 2) / 3 * 4))), (6, .int (nI ((w * 4 + 2) / 3))), (5, .int (nI (gq 1 j + 1))), (4, .int (nI j)), (0, .ref g0), (1, .ref q), (2, .int (nI w)), (3, .ref ga)]) hx hb dX15_base_160 hl (k := 4) rfl (nI_1 _) (by decide) rfl (fun ls hl => ?_)
            refine lv_goto (tgt := 75) hx hb dX15_base_163 (by decide) ?_
            refine W.widen (k := 0) (n := 0) (by omega) (by omega) ?_
            exact ih_43 ((i + 1), (bb + 6 - 8), (mk9 + 1), (lI ((hh * 64 + sxT ((TC fb zx) ((gq 1 j + 1) + i))) % 2 ^ (bb + 6 - 8))), ((hh * 64 + sxT ((TC fb zx) ((gq 1 j + 1) + i))) % 2 ^ (bb + 6 - 8)), f_99) F_91 (⟨by omega, by omega, rfl, hF_93, (by have h8 := dcm_y hv5 h6s hc8 (hfe_101.trans (by rw [nI_clamp (by omega)])) (hms.1.trans (by rw [hv2])); rw [← hv2] at h8; exact h8)⟩) (by show ((w * 4 + 2) / 3) - (i + 1) < ((w * 4 + 2) / 3) - i; omega) hO hR _ _ hP hD hS ls (lv_sub hl [0, 2, 3, 1, 5, 6, 7, 8, 9, 10, 11, 12] rfl)
          ·
            have hi_105 : (bb + 6) < 8 := ltN (N := 8) c_85
            have hc8 : ¬ 8 ≤ 6 * i % 8 + 6 := fun q => c_85 ((nI_leI (a := 8) (by omega) (by omega)).mpr (by omega))
            refine lv_goto (tgt := 160) hx hb dX15_base_128 (by decide) ?_
            refine lv_iinc (v := (nI (i + 1))) (lv' := [(12, .int (nI (i + 1))), (10, .int (nI (bb + 6))), (8, .long (lI (hh * 64 + sxT ((TC fb zx) ((gq 1 j + 1) + i))))), (13, .int (nI (sxT ((TC fb zx) ((gq 1 j + 1) + i))))), (11, .int (nI mk9)), (7, .int (nI ((w + 2) / 3 * 4))), (6, .int (nI ((w * 4 + 2) / 3))), (5, .int (nI (gq 1 j + 1))), (4, .int (nI j)), (0, .ref g0), (1, .ref q), (2, .int (nI w)), (3, .ref ga)]) hx hb dX15_base_160 hl (k := 3) rfl (nI_1 _) (by decide) rfl (fun ls hl => ?_)
            refine lv_goto (tgt := 75) hx hb dX15_base_163 (by decide) ?_
            refine W.widen (k := 0) (n := 0) (by omega) (by omega) ?_
            exact ih_43 ((i + 1), (bb + 6), mk9, (lI (hh * 64 + sxT ((TC fb zx) ((gq 1 j + 1) + i)))), (hh * 64 + sxT ((TC fb zx) ((gq 1 j + 1) + i))), fq) F_35 (⟨by omega, by omega, rfl, hv4, dcm_n hv5 h6s (by omega)⟩) (by show ((w * 4 + 2) / 3) - (i + 1) < ((w * 4 + 2) / 3) - i; omega) hO hR _ _ hP hD hS ls (lv_sub hl [0, 4, 1, 2, 5, 6, 7, 8, 9, 10, 11, 12] rfl)
        ·
          have h6n : ¬ sxT ((TC fb zx) ((gq 1 j + 1) + i)) < 64 := by rw [tcn_in (show (gq 1 j + 1) + i < zx by omega)]; rcases hw_80 with q | q; rw [q.2]; decide; exact absurd (by rw [q.1]; exact Int32.not_lt.mp (nI_pos (by omega))) c_81
          refine lv_iconst (v := 0) hx hb dX15_base_105 (by decide) ?_
          refine W.widen (k := 0) (n := 0) (by omega) (by omega) ?_
          exact W.zret (v := 0) (ty := .boolean) hx hb hr (by decide) (fun t ht hWm => ⟨⟨0, (), rfl, (Or.inr ⟨rfl, (fun q => by have h9 := q.2.1; rw [hR9] at h9; exact h6n (h9 i (by omega)))⟩), ⟨F_35, fq, QTm.mk ht hP hD hO hR, hv4, (fun q => absurd q (fun q => by have h9 := q.2.1; rw [hR9] at h9; exact h6n (h9 i (by omega))))⟩⟩, hS.F ht⟩) hS.2.2 dX15_base_106
    ·
      have hi_106 : (gq 2 j - (gq 1 j + 1)) ≠ ((w + 2) / 3 * 4) := fun q => c_33 (by rw [q])
      have hle : ¬ (gq 1 j + 1) + ((w + 2) / 3 * 4) = gq 2 j := fun q => c_33 (by rw [show gq 2 j - (gq 1 j + 1) = ((w + 2) / 3 * 4) by omega])
      refine lv_iconst (v := 0) hx hb dX15_base_61 (by decide) ?_
      refine W.widen (k := 0) (n := 0) (by omega) (by omega) ?_
      exact W.zret (v := 0) (ty := .boolean) hx hb hr (by decide) (fun t ht hWm => ⟨⟨0, (), rfl, (Or.inr ⟨rfl, (fun q => by have h9 := q.1; rw [hR9] at h9; exact hle h9)⟩), ⟨F, f_14, QTm.mk ht hP hD hO hR, hF_15, (fun q => absurd q (fun q => by have h9 := q.1; rw [hR9] at h9; exact hle h9))⟩⟩, hS.F ht⟩) hS.2.2 dX15_base_62
  ·
    have hR9 : (tgR (TC fb zx) gq ll nn) = none := rwx_R hw_21 hcn (Int32.not_le.mp c_22)
    refine lv_iconst (v := 0) hx hb dX15_base_12 (by decide) ?_
    refine W.widen (k := 0) (n := 0) (by omega) (by omega) ?_
    exact W.zret (v := 0) (ty := .boolean) hx hb hr (by decide) (fun t ht hWm => ⟨⟨0, (), rfl, (Or.inr ⟨rfl, (fun q => by have h9 := q.1; rw [hR9] at h9; rcases hw2 with w9 | w9; (rw [w9] at h9; exact absurd (show (0 : Nat) + (32 + 2) / 3 * 4 = 0 from h9) (by decide)); (rw [w9] at h9; exact absurd (show (0 : Nat) + (64 + 2) / 3 * 4 = 0 from h9) (by decide)))⟩), ⟨F, f_14, QTm.mk ht hP hD hO hR, hF_15, (fun q => absurd q (fun q => by have h9 := q.1; rw [hR9] at h9; rcases hw2 with w9 | w9; (rw [w9] at h9; exact absurd (show (0 : Nat) + (32 + 2) / 3 * 4 = 0 from h9) (by decide)); (rw [w9] at h9; exact absurd (show (0 : Nat) + (64 + 2) / 3 * 4 = 0 from h9) (by decide))))⟩⟩, hS.F ht⟩) hS.2.2 dX15_base_13
set_option maxHeartbeats 4000000 in
set_option maxRecDepth 100000 in
theorem s_X15_number_x (l : Launch) (dC : Nat → ClassId) (dI : Nat → Nat → Nat) (cs : Nat → ClassId) (ty : TyM) (gm : Nat → Nat → Nat) (L : List Nat) (sz : Nat) (F : Nat → va_E) (g0 : Nat) (σ : Nat) (tx : Nat) (n : Nat) (Bn : Nat) (y0 : Nat) (y1 : Nat) (y2 : Nat) (tbx : Nat) (zx : Nat) (nn : Nat) (fb : Nat → Int32) (e0 : Nat → Int32) (e1 : Nat → Int32) (e2 : Nat → Int32) (gq : Nat → Nat → Nat) (q : Nat) (v : Nat) (k0 : Nat) (C : Nat → Int32) (ll : List Nat) (hW : WTm ty gm L) (hL_g0 : g0 ∈ L) (hT_g0 : ty g0 = (13, σ, [tx, n, Bn, y0, y1, y2])) (hL_tx : tx ∈ L) (hT_tx : ty tx = (14, σ + 1, [tbx, n])) (hFx : F tx = .inr (14, [.ref tbx, .int (nI zx)])) (hFb : F tbx = .inl (cs 17, n, .inl fb)) (hxn : zx ≤ n) (hF0 : F g0 = .inr (13, [.ref tx, .ref y0, .ref y1, .ref y2, .int (nI nn)])) (hFy0 : F y0 = .inl (cs 16, 40, .inl e0)) (hFy1 : F y1 = .inl (cs 16, 40, .inl e1)) (hFy2 : F y2 = .inl (cs 16, 40, .inl e2)) (hcn : nn ≤ 40) (hhl : HLD e0 e1 e2 nn gq) (hTG : TGI zx nn gq) (hn3 : n ≤ 3000) (hCL : CLI C k0 ll) : Met l yX15_number (.code yX15_number cX15_number 5 (some .int) :: tb) ({ frames := 6, cells := 0, slots := 0, locals := 131 }) (va_Pc [.ref g0, .ref q] (PTEm (dC, dI) cs ty gm L F sz [(q, v, k0, C)])) (va_Qi (fun (r : Int32) (_ : Unit) => r = nmV (TC fb zx) gq (tgR (TC fb zx) gq ll nn)) (fun _ T9 => ∃ F2 : Nat → va_E, QTm (dC, dI) cs ty gm L [] F F2 (va_A (va_pl L F) sz) T9) (va_A (va_pl L F) sz)) 0 0 (va_A (va_pl L F) sz) := by
  refine Met.ofW (cc := cX15_number) (maxL := 5) (ret := (some .int)) (by decide) rfl ?_
  intro p e s m args below meth c s₁ B hml hv
  obtain ⟨rfl, ⟨hsz, hP, hK, hD0, hE, hO⟩, hG, hX⟩ := hv
  have hx := B.exec
  have hb := B.bytes
  have hr := B.returns
  have hts : ∀ w ∈ tb, w.before _ s = true := fun w h => atoms_spec (ws := .code yX15_number cX15_number 5 (some .int) :: tb) B.pre w (List.mem_cons_of_mem _ h)
  have hown : s.vm.findClass RX15 = some m.cls := findClass_of_methodNamed B.named
  have hlocks := B.notSynchronized
  subst hsz
  have hD := hD0.self (sz := s.heap.size)
  generalize hAe : va_A (va_pl L F) s.heap.size = A at hD hG hX ⊢
  have hX_q : SXc q v k0 C A s s.heap := hX (q, v, k0, C) (by simp)
  obtain ⟨xo_q, xc_q, xv_q, xt_q, xn_q⟩ := id hX_q
  have hA : ∀ q : Nat, s.heap.size ≤ q → A q := fun q h => by rw [← hAe]; exact Or.inr h
  have hS : va_S A s.heap s.heap [] := va_S.rf
  have hR : FR ty [] F F := FR.refl
  have hl := lv_entry ([.ref g0, .ref q]) (n := 5) (Nat.le_of_ble_eq_true rfl)
  rw [lg_entry_eq]
  generalize (lg_sl ([.ref g0, .ref q]) ++ List.replicate (5 - (lg_sl ([.ref g0, .ref q])).length) Slot.unset).toArray = ls at hl ⊢
  have hl : lv_has ls 5 [(0, .ref g0), (1, .ref q)] := hl
  obtain ⟨_, hi_1, hi_2, hi_3, _, ht_4, ht_5, ht_6, hq_7, hq_8⟩ := hW.tags hL_g0 hT_g0
  obtain ⟨hi_9, ht_10, hq_11⟩ := hW.txt hL_tx hT_tx
  refine lv_aload_n hx hb dX15_number_0 rfl (lv_at hl 0 rfl) ?_
  refine lv_aload_n hx hb dX15_number_1 rfl (lv_at hl 1 rfl) ?_
  obtain ⟨hq_12, hq_13⟩ := hW.octs hi_9 ht_10
  have hFc := pg_free hD hS hA
  refine va_calli (va_runV (As := [.ref q]) (rest := []) ⟨hx, hb, hml, hown, hts⟩ (s_X13_find_x l dC dI cs ty gm L s.heap.size F g0 σ tx n Bn y0 y1 y2 tbx zx nn fb e0 e1 e2 gq q v k0 C ll hW hL_g0 hT_g0 hL_tx hT_tx hFx hFb (hxn) hF0 hFy0 hFy1 hFy2 (hcn) (hhl) (hTG) (hn3) (hCL)) ⟨callB_of 1 hts (gi kt_828) rfl rfl rfl (hts _ kt_829) (hts _ kt_839) (by decide +kernel) ⟨Nat.le_of_ble_eq_true rfl, Nat.le_of_ble_eq_true rfl⟩, (hts _ kt_831), (hts _ kt_832)⟩ ⟨fun a U g mk q => ⟨q.1, PTEm.calling q.2⟩, pg_recv hK hP hL_g0 hF0 (q := (RX13, TX13, 5)) rfl, fun U hU hWm => ⟨rfl, PTEm.mk hU hWm hP hK hD hE hO hG (fun x hx => by rw [List.mem_singleton] at hx; subst hx; exact hX_q) hS hFc⟩⟩ rfl rfl hl.1 rfl (lv_room (Nat.le_of_ble_eq_true rfl)) dX15_number_2 ⟨by show _ + 0 ≤ 0; omega, by show _ + 0 ≤ 0; omega⟩) hS (fun q _ h => hFc q h) hFc (fun r_14 u t H1 locs ht hvm hw hB hz1 hk1 hS => ?_)
  obtain ⟨F_15, hB1⟩ := hB
  obtain rfl : F = F_15 := (funext (fun a => hB1.2.2.2 a List.not_mem_nil)).symm
  obtain ⟨hP, hD, hO, hR⟩ := QTm.back hB1 ht hFc hR (fun q h => absurd h List.not_mem_nil)
  generalize H1 = H at hP hS ⊢
  have hw : RWX (TC fb zx) gq nn ll r_14 := hw
  have hw_16 := hw
  refine lv_istore_n (lv' := [(2, .int r_14), (0, .ref g0), (1, .ref q)]) hx hb dX15_number_5 rfl hl (by decide) rfl (fun ls hl => ?_)
  refine lv_iconst (v := 0) hx hb dX15_number_6 (by decide) ?_
  refine lv_istore_n (lv' := [(3, .int 0), (2, .int r_14), (0, .ref g0), (1, .ref q)]) hx hb dX15_number_7 rfl hl (by decide) rfl (fun ls hl => ?_)
  refine lv_iload_n hx hb dX15_number_8 rfl (lv_at hl 1 rfl) ?_
  refine lv_if_ge (tgt := 14) hx hb dX15_number_9 (by decide) (fun c_17 => ?_) (fun c_17 => ?_)
  ·
    obtain ⟨j, hjz, ej, hj1, hj2⟩ := rwx_y hw_16 (Int32.not_lt.mpr c_17)
    subst ej
    obtain ⟨hg1, hg2, hg3⟩ := hTG j hjz
    have hR9 : (tgR (TC fb zx) gq ll nn) = some j := tgR_y hj1 hj2 nn hjz
    refine lv_aload_n hx hb dX15_number_14 rfl (lv_at hl 2 rfl) ?_
    refine pg_get (ci := 13) (v := .ref y2) (C := RX13) (T := TX13) (N := 5) hx hb hts it_13 hown hK hP hL_g0 hF0 rfl 3 (by decide) (hts _ kt_841) (fun _ h9 => h9) rfl dX15_number_15 ?_
    refine lv_iload_n hx hb dX15_number_18 rfl (lv_at hl 1 rfl) ?_
    refine pg_iald hx hb hK hP hi_3 0 hFy2 rfl (vp_in_nI (by omega) (by omega)) dX15_number_19 ?_
    refine lv_topi (fun x_18 ex_18 => ?_)
    obtain rfl : x_18 = (nI (gq 2 j)) := ex_18.trans (((congrArg e2 (nI_clamp (by omega))).trans (hhl j hjz).2.2))
    refine lv_aload_n hx hb dX15_number_20 rfl (lv_at hl 2 rfl) ?_
    refine pg_get (ci := 13) (v := .ref y1) (C := RX13) (T := TX13) (N := 5) hx hb hts it_13 hown hK hP hL_g0 hF0 rfl 2 (by decide) (hts _ kt_840) (fun _ h9 => h9) rfl dX15_number_21 ?_
    refine lv_iload_n hx hb dX15_number_24 rfl (lv_at hl 1 rfl) ?_
    refine pg_iald hx hb hK hP hi_2 0 hFy1 rfl (vp_in_nI (by omega) (by omega)) dX15_number_25 ?_
    refine lv_topi (fun x_19 ex_19 => ?_)
    obtain rfl : x_19 = (nI (gq 1 j)) := ex_19.trans (((congrArg e1 (nI_clamp (by omega))).trans (hhl j hjz).2.1))
    refine lv_isub hx hb dX15_number_26 ?_
    refine lv_topi (fun x_20 ex_20 => ?_)
    obtain rfl : x_20 = (nI (gq 2 j - gq 1 j)) := ex_20.trans (pk_sub (by omega))
    refine lv_iconst (v := 1) hx hb dX15_number_27 (by decide) ?_
    refine lv_isub hx hb dX15_number_28 ?_
    refine lv_topi (fun x_21 ex_21 => ?_)
    obtain rfl : x_21 = (nI (gq 2 j - gq 1 j - 1)) := ex_21.trans (pk_sub (b := 1) (by omega))
    refine lv_i2l (v := (nI (gq 2 j - gq 1 j - 1)).toInt64) hx hb dX15_number_29 rfl ?_
    refine lv_lconst (v := 1) hx hb dX15_number_30 (by decide) ?_
    refine lv_ldc2 (v := 9) hx hb hown (hts _ kt_846) dX15_number_31 ?_
    have hFc := pg_free hD hS hA
    refine va_calli (va_runS (As := [.long ((nI (gq 2 j - gq 1 j - 1)).toInt64), .long 1, .long 9]) (rest := []) ⟨hx, hb, hml, hown, hts⟩ (s_X15_in l dC dI cs ty gm L H.size F ((nI (gq 2 j - gq 1 j - 1)).toInt64) 1 9 hW ) ⟨callB_of 3 hts (gi kt_685) rfl rfl rfl (hts _ kt_669) (hts _ kt_705) (by decide +kernel) ⟨Nat.le_of_ble_eq_true rfl, Nat.le_of_ble_eq_true rfl⟩, (hts _ kt_686)⟩ ⟨fun a U g mk q => ⟨q.1, PTm.calling q.2⟩, fun U hU hWm => ⟨rfl, PTm.mk hU hWm hP hK hD hE hO⟩⟩ rfl rfl hl.1 rfl (lv_room (Nat.le_of_ble_eq_true rfl)) dX15_number_34 ⟨by show _ + 0 ≤ 0; omega, by show _ + 0 ≤ 0; omega⟩) hS (fun q _ h => hFc q h) hFc (fun r_22 u t H1 locs ht hvm hw hB hz1 hk1 hS => ?_)
    obtain ⟨F_23, hB1⟩ := hB
    obtain rfl : F = F_23 := (funext (fun a => hB1.2.2.2 a List.not_mem_nil)).symm
    obtain ⟨hP, hD, hO, hR⟩ := QTm.back hB1 ht hFc hR (fun q h => absurd h List.not_mem_nil)
    generalize H1 = H at hP hS ⊢
    have hw : r_22 = (if 1 ≤ (nI (gq 2 j - gq 1 j - 1)).toInt64 ∧ (nI (gq 2 j - gq 1 j - 1)).toInt64 ≤ 9 then 1 else 0) := hw
    have hw_24 := hw
    refine lv_if_ne (tgt := 43) hx hb dX15_number_37 (by decide) (fun c_25 => ?_) (fun c_25 => ?_)
    ·
      obtain ⟨hl1, hl2⟩ := in_nat hw_24 c_25 (lo := 1) (hi := 9) (by decide) (by decide) (by omega)
      refine lv_aload_n hx hb dX15_number_43 rfl (lv_at hl 2 rfl) ?_
      refine pg_get (ci := 13) (v := .ref y1) (C := RX13) (T := TX13) (N := 5) hx hb hts it_13 hown hK hP hL_g0 hF0 rfl 2 (by decide) (hts _ kt_840) (fun _ h9 => h9) rfl dX15_number_44 ?_
      refine lv_iload_n hx hb dX15_number_47 rfl (lv_at hl 1 rfl) ?_
      refine pg_iald hx hb hK hP hi_2 0 hFy1 rfl (vp_in_nI (by omega) (by omega)) dX15_number_48 ?_
      refine lv_topi (fun x_26 ex_26 => ?_)
      obtain rfl : x_26 = (nI (gq 1 j)) := ex_26.trans (((congrArg e1 (nI_clamp (by omega))).trans (hhl j hjz).2.1))
      refine lv_iconst (v := 1) hx hb dX15_number_49 (by decide) ?_
      refine lv_iadd hx hb dX15_number_50 ?_
      refine lv_topi (fun x_27 ex_27 => ?_)
      obtain rfl : x_27 = (nI (gq 1 j + 1)) := ex_27.trans (nI_1 _)
      refine lv_istore (lv' := [(4, .int (nI (gq 1 j + 1))), (3, .int 0), (2, .int (nI j)), (0, .ref g0), (1, .ref q)]) hx hb dX15_number_51 hl (by decide) rfl (fun ls hl => ?_)
      refine W.widen (k := 0) (n := 0) (by omega) (by omega) ?_
      refine pl_loopm (σ := Nat × Nat) A (dC, dI) cs ty gm L [] F 53 5 (fun (i, vv) => [(4, .int (nI i)), (3, .int (nI vv)), (2, .int (nI j)), (0, .ref g0), (1, .ref q)]) (fun (i, vv) => []) (fun (i, vv) _ => (gq 1 j + 1) ≤ i ∧ i ≤ (gq 2 j) ∧ NB9 (gq 1 j + 1) i vv ∧ nbw (TC fb zx) ((gq 2 j) - i) i vv = nbw (TC fb zx) ((gq 2 j) - (gq 1 j + 1)) (gq 1 j + 1) 0) (fun (i, vv) => (gq 2 j) - i) ?_ ((gq 1 j + 1), 0) F (⟨Nat.le_refl _, by omega, nb9_0 _, rfl⟩) hO hR _ _ hP hD hS ls (lv_sub hl [0, 1, 2, 3, 4] rfl)
      rintro ⟨i, vv⟩ F_28 hv_29 hO hR ih_30 H locs hP hD hS ls hl
      have hl : lv_has ls 5 [(4, .int (nI i)), (3, .int (nI vv)), (2, .int (nI j)), (0, .ref g0), (1, .ref q)] := hl
      have hv_29 : (gq 1 j + 1) ≤ i ∧ i ≤ (gq 2 j) ∧ NB9 (gq 1 j + 1) i vv ∧ nbw (TC fb zx) ((gq 2 j) - i) i vv = nbw (TC fb zx) ((gq 2 j) - (gq 1 j + 1)) (gq 1 j + 1) 0 := hv_29
      refine W.eq (g2 := F0 m 53 ls []) rfl ?_
      obtain rfl : F = F_28 := (funext (fun a => hR a List.not_mem_nil)).symm
      obtain ⟨hv1, hv2, hv3, hv4⟩ := id hv_29
      refine lv_iload hx hb dX15_number_53 (lv_at hl 0 rfl) ?_
      refine lv_aload_n hx hb dX15_number_55 rfl (lv_at hl 3 rfl) ?_
      refine pg_get (ci := 13) (v := .ref y2) (C := RX13) (T := TX13) (N := 5) hx hb hts it_13 hown hK hP hL_g0 hF0 rfl 3 (by decide) (hts _ kt_841) (fun _ h9 => h9) rfl dX15_number_56 ?_
      refine lv_iload_n hx hb dX15_number_59 rfl (lv_at hl 2 rfl) ?_
      refine pg_iald hx hb hK hP hi_3 0 hFy2 rfl (vp_in_nI (by omega) (by omega)) dX15_number_60 ?_
      refine lv_topi (fun x_31 ex_31 => ?_)
      obtain rfl : x_31 = (nI (gq 2 j)) := ex_31.trans (((congrArg e2 (nI_clamp (by omega))).trans (hhl j hjz).2.2))
      refine lv_icmp_ge (tgt := 108) hx hb dX15_number_61 (by decide) (fun c_32 => ?_) (fun c_32 => ?_)
      ·
        have hi_33 : (gq 2 j) ≤ i := leN (N := (gq 2 j)) c_32
        have hib : (gq 2 j) ≤ i := (nI_leI (by omega) (by omega)).mp c_32
        refine lv_iload_n hx hb dX15_number_108 rfl (lv_at hl 1 rfl) ?_
        refine W.widen (k := 0) (n := 0) (by omega) (by omega) ?_
        exact W.iret (v := (nI vv)) hx hb hr (fun t ht hWm => ⟨⟨(nI vv), (), rfl, (by rw [hR9]; exact (nmV_y (show nbT (TC fb zx) (gq 1 j + 1) (gq 2 j) 9 = some vv from (if_pos ⟨by omega, by omega⟩).trans (nbw_e hv4 hib))).symm), ⟨F, QTm.mk ht hP hD hO hR⟩⟩, hS.F ht⟩) hS.2.2 dX15_number_109
      ·
        have hi_34 : i < (gq 2 j) := ltN (N := (gq 2 j)) c_32
        have hib : i < (gq 2 j) := Nat.not_le.mp (fun q => c_32 ((nI_leI (by omega) (by omega)).mpr q))
        have hvv : vv ≤ 99999999 := nb9_le hv3 (by omega)
        refine lv_aload_n hx hb dX15_number_64 rfl (lv_at hl 3 rfl) ?_
        refine pg_get (ci := 13) (v := .ref tx) (C := RX13) (T := TX13) (N := 5) hx hb hts it_13 hown hK hP hL_g0 hF0 rfl 0 (by decide) (hts _ kt_842) (fun _ h9 => h9) rfl dX15_number_65 ?_
        refine pg_get (ci := 14) (v := .ref tbx) (C := RX14) (T := TX14) (N := 2) hx hb hts it_14 hown hK hP hL_tx hFx rfl 0 (by decide) (hts _ kt_710) (fun _ h9 => h9) rfl dX15_number_68 ?_
        refine lv_iload hx hb dX15_number_71 (lv_at hl 0 rfl) ?_
        refine pg_bald hx hb hK hP hi_9 1 hFb rfl (vp_in_nI (by omega) (by omega)) dX15_number_73 ?_
        refine lv_topi (fun x_35 ex_35 => ?_)
        obtain rfl : x_35 = (fb i) := ex_35.trans (congrArg fb (nI_clamp (by omega)))
        have hFc := pg_free hD hS hA
        refine va_calli (va_runS (As := [.int (fb i)]) (rest := []) ⟨hx, hb, hml, hown, hts⟩ (s_X15_isDigit_e l dC dI cs ty gm L H.size F (fb i) hW ) ⟨callB_of 1 hts (gi kt_687) rfl rfl rfl (hts _ kt_669) (hts _ kt_707) (by decide +kernel) ⟨Nat.le_of_ble_eq_true rfl, Nat.le_of_ble_eq_true rfl⟩, (hts _ kt_688)⟩ ⟨fun a U g mk q => ⟨q.1, PTm.calling q.2⟩, fun U hU hWm => ⟨rfl, PTm.mk hU hWm hP hK hD hE hO⟩⟩ rfl rfl hl.1 rfl (lv_room (Nat.le_of_ble_eq_true rfl)) dX15_number_74 ⟨by show _ + 0 ≤ 0; omega, by show _ + 0 ≤ 0; omega⟩) hS (fun q _ h => hFc q h) hFc (fun r_36 u t H1 locs ht hvm hw hB hz1 hk1 hS => ?_)
        obtain ⟨F_37, hB1⟩ := hB
        obtain rfl : F = F_37 := (funext (fun a => hB1.2.2.2 a List.not_mem_nil)).symm
        obtain ⟨hP, hD, hO, hR⟩ := QTm.back hB1 ht hFc hR (fun q h => absurd h List.not_mem_nil)
        generalize H1 = H at hP hS ⊢
        have hw : r_36 = (if 48 ≤ (fb i) ∧ (fb i) ≤ 57 then 1 else 0) := hw
        have hw_38 := hw
        refine lv_if_ne (tgt := 83) hx hb dX15_number_77 (by decide) (fun c_39 => ?_) (fun c_39 => ?_)
        ·
          have hdg : 48 ≤ (TC fb zx) i ∧ (TC fb zx) i ≤ 57 := by rw [tcn_in (show i < zx by omega)]; exact sme_d hw_38 c_39
          have hcd : fb i = nI ((TC fb zx) i) := by rw [tcn_in (show i < zx by omega)] at hdg ⊢; exact cdv_in (by omega)
          refine lv_bipush (v := 10) hx hb dX15_number_83 (by decide) ?_
          refine lv_iload_n hx hb dX15_number_85 rfl (lv_at hl 1 rfl) ?_
          refine lv_imul hx hb dX15_number_86 ?_
          refine lv_topi (fun x_40 ex_40 => ?_)
          obtain rfl : x_40 = (nI (vv * 10)) := ex_40.trans ((pk_mul 10 vv).trans (by rw [Nat.mul_comm]))
          refine lv_aload_n hx hb dX15_number_87 rfl (lv_at hl 3 rfl) ?_
          refine pg_get (ci := 13) (v := .ref tx) (C := RX13) (T := TX13) (N := 5) hx hb hts it_13 hown hK hP hL_g0 hF0 rfl 0 (by decide) (hts _ kt_842) (fun _ h9 => h9) rfl dX15_number_88 ?_
          refine pg_get (ci := 14) (v := .ref tbx) (C := RX14) (T := TX14) (N := 2) hx hb hts it_14 hown hK hP hL_tx hFx rfl 0 (by decide) (hts _ kt_710) (fun _ h9 => h9) rfl dX15_number_91 ?_
          refine lv_iload hx hb dX15_number_94 (lv_at hl 0 rfl) ?_
          refine pg_bald hx hb hK hP hi_9 1 hFb rfl (vp_in_nI (by omega) (by omega)) dX15_number_96 ?_
          refine lv_topi (fun x_41 ex_41 => ?_)
          obtain rfl : x_41 = (fb i) := ex_41.trans (congrArg fb (nI_clamp (by omega)))
          refine lv_iadd hx hb dX15_number_97 ?_
          refine lv_topi (fun x_42 ex_42 => ?_)
          obtain rfl : x_42 = (nI (vv * 10 + (TC fb zx) i)) := ex_42.trans ((congrArg (fun q => nI (vv * 10) + q) hcd).trans (nI_add (vv * 10) ((TC fb zx) i)))
          refine lv_bipush (v := 48) hx hb dX15_number_98 (by decide) ?_
          refine lv_isub hx hb dX15_number_100 ?_
          refine lv_topi (fun x_43 ex_43 => ?_)
          obtain rfl : x_43 = (nI (vv * 10 + (TC fb zx) i - 48)) := ex_43.trans (pk_sub (b := 48) (by omega))
          refine lv_istore_n (lv' := [(3, .int (nI (vv * 10 + (TC fb zx) i - 48))), (4, .int (nI i)), (2, .int (nI j)), (0, .ref g0), (1, .ref q)]) hx hb dX15_number_101 rfl hl (by decide) rfl (fun ls hl => ?_)
          refine lv_iinc (v := (nI (i + 1))) (lv' := [(4, .int (nI (i + 1))), (3, .int (nI (vv * 10 + (TC fb zx) i - 48))), (2, .int (nI j)), (0, .ref g0), (1, .ref q)]) hx hb dX15_number_102 hl (k := 1) rfl (nI_1 _) (by decide) rfl (fun ls hl => ?_)
          refine lv_goto (tgt := 53) hx hb dX15_number_105 (by decide) ?_
          refine W.widen (k := 0) (n := 0) (by omega) (by omega) ?_
          exact ih_30 ((i + 1), (vv * 10 + (TC fb zx) i - 48)) F (⟨by omega, by omega, nb9_s hv3 hv1 hdg, nbw_y hv4 hib hdg⟩) (by show (gq 2 j) - (i + 1) < (gq 2 j) - i; omega) hO hR _ _ hP hD hS ls (lv_sub hl [0, 1, 2, 3, 4] rfl)
        ·
          have hdg : ¬ (48 ≤ (TC fb zx) i ∧ (TC fb zx) i ≤ 57) := by rw [tcn_in (show i < zx by omega)]; exact sme_n hw_38 c_39
          refine lv_bipush (v := (-2)) hx hb dX15_number_80 (by decide) ?_
          refine W.widen (k := 0) (n := 0) (by omega) (by omega) ?_
          exact W.iret (v := (-2)) hx hb hr (fun t ht hWm => ⟨⟨(-2), (), rfl, (by rw [hR9]; exact (nmV_b (show nbT (TC fb zx) (gq 1 j + 1) (gq 2 j) 9 = none from (if_pos ⟨by omega, by omega⟩).trans (nbw_n hv4 hib hdg))).symm), ⟨F, QTm.mk ht hP hD hO hR⟩⟩, hS.F ht⟩) hS.2.2 dX15_number_82
    ·
      have hnl : ¬ ((gq 1 j + 1) + 1 ≤ (gq 2 j) ∧ (gq 2 j) ≤ (gq 1 j + 1) + 9) := fun q => in_nat0 hw_24 c_25 (lo := 1) (hi := 9) (by decide) (by decide) (by omega) ⟨by omega, by omega⟩
      refine lv_bipush (v := (-2)) hx hb dX15_number_40 (by decide) ?_
      refine W.widen (k := 0) (n := 0) (by omega) (by omega) ?_
      exact W.iret (v := (-2)) hx hb hr (fun t ht hWm => ⟨⟨(-2), (), rfl, (by rw [hR9]; exact (nmV_b (show nbT (TC fb zx) (gq 1 j + 1) (gq 2 j) 9 = none from if_neg hnl)).symm), ⟨F, QTm.mk ht hP hD hO hR⟩⟩, hS.F ht⟩) hS.2.2 dX15_number_42
  ·
    have hR9 : (tgR (TC fb zx) gq ll nn) = none := rwx_R hw_16 hcn (Int32.not_le.mp c_17)
    refine lv_iconst (v := (-1)) hx hb dX15_number_12 (by decide) ?_
    refine W.widen (k := 0) (n := 0) (by omega) (by omega) ?_
    exact W.iret (v := (-1)) hx hb hr (fun t ht hWm => ⟨⟨(-1), (), rfl, (by rw [hR9]; rfl), ⟨F, QTm.mk ht hP hD hO hR⟩⟩, hS.F ht⟩) hS.2.2 dX15_number_13
theorem nmc_0 {T : Nat → Nat} : ¬ NMC T 0 0 = true := by
  intro h
  have h9 := nmc_len h
  omega
theorem fd_gt {T : Nat → Nat} {c a b i : Nat} (ha : a ≤ i) (hi : i < b) (h : ∀ q, a ≤ q → q ≤ i → ¬ T q = c) : i < fdT T c a b := by
  obtain ⟨h1, -⟩ := fd_y (T := T) (c := c) (a := a) (b := b) (by omega)
  have h2 := fd_ge (T := T) (c := c) (a := a) (b := b) (by omega)
  refine Nat.not_le.mp (fun q => ?_)
  rcases h1 with h1 | h1
  · omega
  · exact h _ h2.1 q h1
theorem fsc_l {x r : Int32} (h : r = (if (97 ≤ x ∧ x ≤ 122) ∨ (65 ≤ x ∧ x ≤ 90) then 1 else 0)) : (¬ r = 0 → FSC (cdv x)) ∧ (r = 0 → ¬ (97 ≤ smc (cdv x) ∧ smc (cdv x) ≤ 122)) := by
  have e1 : (97 ≤ cdv x ∧ cdv x ≤ 122) ↔ (97 ≤ x ∧ x ≤ 122) := by
    rw [cdv_rng (a := 97) (b := 122) (by omega) (by omega)]
    exact ⟨fun q => ⟨Int32.not_lt.mp q.1, Int32.not_lt.mp q.2⟩, fun q => ⟨Int32.not_lt.mpr q.1, Int32.not_lt.mpr q.2⟩⟩
  have e2 : (65 ≤ cdv x ∧ cdv x ≤ 90) ↔ (65 ≤ x ∧ x ≤ 90) := by
    rw [cdv_rng (a := 65) (b := 90) (by omega) (by omega)]
    exact ⟨fun q => ⟨Int32.not_lt.mp q.1, Int32.not_lt.mp q.2⟩, fun q => ⟨Int32.not_lt.mpr q.1, Int32.not_lt.mpr q.2⟩⟩
  have e3 : (97 ≤ smc (cdv x) ∧ smc (cdv x) ≤ 122) ↔ ((97 ≤ cdv x ∧ cdv x ≤ 122) ∨ (65 ≤ cdv x ∧ cdv x ≤ 90)) := by
    unfold smc
    by_cases c : 65 ≤ cdv x ∧ cdv x ≤ 90
    · rw [if_pos c]
      omega
    · rw [if_neg c]
      omega
  constructor
  · intro c
    refine Or.inl (e3.mpr ?_)
    rcases ifb1 h c with q | q
    · exact Or.inl (e1.mpr q)
    · exact Or.inr (e2.mpr q)
  · intro c q
    refine ifb0 h c ?_
    rcases e3.mp q with w | w
    · exact Or.inl (e1.mp w)
    · exact Or.inr (e2.mp w)
def HLV (T : Nat → Nat) (a e : Nat) : Prop := ∀ s, s ∈ hsG T a e → FNC T s.1 s.2
theorem hli_v {T : Nat → Nat} {a e w q : Nat} {pre : List (Nat × Nat)} {u : Int32} (h : HLI T a e w u pre) (hw : w ≤ e) (hq : fdT T 58 w e = q) (hf : ¬ FNC T w q) : ¬ HLV T a e := fun c => by
  refine hf (c (w, q) ?_)
  rw [← h.1, hsG_c hw hq]
  exact List.mem_append.mpr (Or.inr List.mem_cons_self)
theorem hli_w {T : Nat → Nat} {a e w : Nat} {pre : List (Nat × Nat)} {u : Int32} (h : HLI T a e w u pre) (hw : e < w) : HLV T a e := by
  have h1 := h.1
  rw [hsG_n hw, List.append_nil] at h1
  unfold HLV
  rw [← h1]
  exact h.2.1
theorem hlv_0 {T : Nat → Nat} : ¬ HLV T 0 0 := fun c => by
  have h9 := c (0, 0) (by rw [hsG_c (Nat.le_refl 0) (show fdT T 58 0 0 = 0 from rfl)]; exact List.mem_cons_self)
  have h8 := h9.1
  exact absurd h8 (by decide)
theorem hlo_v {T : Nat → Nat} {a e : Nat} (h : HLO T a e) : HLV T a e := h.1
theorem or_10 {u y : Int32} (hu : u = 0 ∨ u = 1) (hy : y = 1) : u ||| y = 1 := by
  subst hy
  rcases hu with q | q <;> rw [q] <;> decide
theorem or_u0 {u y : Int32} (hy : y = 0) : u ||| y = u := by
  rw [hy, Int32.or_zero]
set_option maxHeartbeats 4000000 in
set_option maxRecDepth 100000 in
theorem s_X15_isTagName_x (l : Launch) (dC : Nat → ClassId) (dI : Nat → Nat → Nat) (cs : Nat → ClassId) (ty : TyM) (gm : Nat → Nat → Nat) (L : List Nat) (sz : Nat) (F : Nat → va_E) (h0 : Nat) (ρ : Nat) (ta : Nat) (ou : Nat) (so : Nat) (ad : Nat) (na : Nat) (va : Nat) (lc : Nat) (dm : Nat) (tg : Nat) (pe : Nat) (ml : Nat) (bg : Nat) (co : Nat) (sp : Nat) (nb0 : Nat) (nb1 : Nat) (nb2 : Nat) (pl : Nat) (se : Nat) (ke : Nat) (wi : Nat) (hs : Nat) (mo : Nat) (po : Nat) (nu : Nat) (pr : Nat) (sq : Nat) (xa : Nat) (sa : Nat) (n64 : Nat) (m64 : Nat) (ex : Nat) (wh : Nat) (sd : Nat) (tk : Nat) (hd : Nat) (ak : Nat) (ho : Nat) (ot : Nat) (sx : Nat) (s0 : Nat) (s1 : Nat) (s2 : Nat) (nf : Nat) (bd : Nat) (mm : Nat) (zo : Nat) (fm : Nat) (sn : Nat) (hg : Nat) (gc : Nat) (gv : Nat) (ze : Nat) (zt : Nat) (sb : Nat) (zx : Nat) (nn : Nat) (fb : Nat → Int32) (e0 : Nat → Int32) (e1 : Nat → Int32) (e2 : Nat → Int32) (gq : Nat → Nat → Nat) (q : Nat) (v : Nat) (k0 : Nat) (C : Nat → Int32) (ll : List Nat) (hW : WTm ty gm L) (hL_h0 : h0 ∈ L) (hT_h0 : ty h0 = (15, ρ, [ta, ou, so, ad, na, va, lc, dm, tg, pe, ml, bg, co, sp, nb0, nb1, nb2, pl, se, ke, wi, hs, mo, po, nu, pr, sq, xa, sa, n64, m64, ex, wh, sd, tk, hd, ak, ho, ot, sx, s0, s1, s2, nf, bd, mm, zo, fm, sn, hg, gc, gv, ze, zt])) (hL_sx : sx ∈ L) (hT_sx : ty sx = (14, ρ + 12, [sb, 3000])) (hFs : F se = .inr (13, [.ref sx, .ref s0, .ref s1, .ref s2, .int (nI nn)])) (hFx : F sx = .inr (14, [.ref sb, .int (nI zx)])) (hFb : F sb = .inl (cs 17, 3000, .inl fb)) (hFy0 : F s0 = .inl (cs 16, 40, .inl e0)) (hFy1 : F s1 = .inl (cs 16, 40, .inl e1)) (hFy2 : F s2 = .inl (cs 16, 40, .inl e2)) (hxn : zx ≤ 3000) (hcn : nn ≤ 40) (hhl : HLD e0 e1 e2 nn gq) (hTG : TGI zx nn gq) (hCL : CLI C k0 ll) : Met l yX15_isTagName (.code yX15_isTagName cX15_isTagName 3 (some .boolean) :: tb) ({ frames := 6, cells := 0, slots := 0, locals := 131 }) (va_Pc [.ref h0, .ref q] (PTEm (dC, dI) cs ty gm L F sz [(q, v, k0, C)])) (va_Qi (fun (r : Int32) (_ : Unit) => ((r = 1 ∧ NMC (TC fb zx) (tgA gq (tgR (TC fb zx) gq ll nn)) (tgB gq (tgR (TC fb zx) gq ll nn)) = true) ∨ (r = 0 ∧ ¬ NMC (TC fb zx) (tgA gq (tgR (TC fb zx) gq ll nn)) (tgB gq (tgR (TC fb zx) gq ll nn)) = true))) (fun _ T9 => ∃ F2 : Nat → va_E, QTm (dC, dI) cs ty gm L [] F F2 (va_A (va_pl L F) sz) T9) (va_A (va_pl L F) sz)) 0 0 (va_A (va_pl L F) sz) := by
  refine Met.ofW (cc := cX15_isTagName) (maxL := 3) (ret := (some .boolean)) (by decide) rfl ?_
  intro p e s m args below meth c s₁ B hml hv
  obtain ⟨rfl, ⟨hsz, hP, hK, hD0, hE, hO⟩, hG, hX⟩ := hv
  have hx := B.exec
  have hb := B.bytes
  have hr := B.returns
  have hts : ∀ w ∈ tb, w.before _ s = true := fun w h => atoms_spec (ws := .code yX15_isTagName cX15_isTagName 3 (some .boolean) :: tb) B.pre w (List.mem_cons_of_mem _ h)
  have hown : s.vm.findClass RX15 = some m.cls := findClass_of_methodNamed B.named
  have hlocks := B.notSynchronized
  subst hsz
  have hD := hD0.self (sz := s.heap.size)
  generalize hAe : va_A (va_pl L F) s.heap.size = A at hD hG hX ⊢
  have hX_q : SXc q v k0 C A s s.heap := hX (q, v, k0, C) (by simp)
  obtain ⟨xo_q, xc_q, xv_q, xt_q, xn_q⟩ := id hX_q
  have hA : ∀ q : Nat, s.heap.size ≤ q → A q := fun q h => by rw [← hAe]; exact Or.inr h
  have hS : va_S A s.heap s.heap [] := va_S.rf
  have hR : FR ty [] F F := FR.refl
  have hl := lv_entry ([.ref h0, .ref q]) (n := 3) (Nat.le_of_ble_eq_true rfl)
  rw [lg_entry_eq]
  generalize (lg_sl ([.ref h0, .ref q]) ++ List.replicate (3 - (lg_sl ([.ref h0, .ref q])).length) Slot.unset).toArray = ls at hl ⊢
  have hl : lv_has ls 3 [(0, .ref h0), (1, .ref q)] := hl
  obtain ⟨hq_23, hq_24, hq_25, hq_26, hq_27, hgO, hgA, hgB, hq_28⟩ := hW.sc hL_h0 hT_h0
  obtain ⟨hi_29, ht_30⟩ := hW.f_se hL_h0 hT_h0
  obtain ⟨_, hi_31, hi_32, hi_33, _, ht_34, ht_35, ht_36, hq_37, hq_38⟩ := hW.tags hi_29 ht_30
  have ht_35 : ty s1 = (25, ρ + 81, [40, 1280]) := ht_35
  have ht_36 : ty s2 = (25, ρ + 82, [40, 1280]) := ht_36
  obtain ⟨hi_39, ht_40, hq_41⟩ := hW.txt hL_sx hT_sx
  refine lv_aload_n hx hb dX15_isTagName_0 rfl (lv_at hl 0 rfl) ?_
  obtain ⟨v14_42, v15_43, v17_44, v18_45, v19_46, v20_47, v21_48, v22_49, v33_50, v52_51, v53_52, v54_53, hF_54, hq_55, hq_56, hq_57, hq_58, hq_59⟩ := hO.mod hL_h0 hT_h0
  refine pg_get (ci := 15) (v := .ref se) (C := RX15) (T := TX15) (N := 59) hx hb hts it_15 hown hK hP hL_h0 hF_54 rfl 35 (by decide) (hts _ kt_847) (fun _ h9 => h9) rfl dX15_isTagName_1 ?_
  refine lv_aload_n hx hb dX15_isTagName_4 rfl (lv_at hl 1 rfl) ?_
  obtain ⟨hq_60, hq_61⟩ := hW.octs hi_39 ht_40
  have hFc := pg_free hD hS hA
  refine va_calli (va_runV (As := [.ref q]) (rest := []) ⟨hx, hb, hml, hown, hts⟩ (s_X13_find_x l dC dI cs ty gm L s.heap.size F se (ρ + 11) sx 3000 1280 s0 s1 s2 sb zx nn fb e0 e1 e2 gq q v k0 C ll hW hi_29 ht_30 hL_sx hT_sx hFx hFb (hxn) hFs hFy0 hFy1 hFy2 (hcn) (hhl) (hTG) (Nat.le_refl _) (hCL)) ⟨callB_of 1 hts (gi kt_828) rfl rfl rfl (hts _ kt_829) (hts _ kt_839) (by decide +kernel) ⟨Nat.le_of_ble_eq_true rfl, Nat.le_of_ble_eq_true rfl⟩, (hts _ kt_831), (hts _ kt_832)⟩ ⟨fun a U g mk q => ⟨q.1, PTEm.calling q.2⟩, pg_recv hK hP hi_29 hFs (q := (RX13, TX13, 5)) rfl, fun U hU hWm => ⟨rfl, PTEm.mk hU hWm hP hK hD hE hO hG (fun x hx => by rw [List.mem_singleton] at hx; subst hx; exact hX_q) hS hFc⟩⟩ rfl rfl hl.1 rfl (lv_room (Nat.le_of_ble_eq_true rfl)) dX15_isTagName_5 ⟨by show _ + 0 ≤ 0; omega, by show _ + 0 ≤ 0; omega⟩) hS (fun q _ h => hFc q h) hFc (fun r_62 u t H1 locs ht hvm hw hB hz1 hk1 hS => ?_)
  obtain ⟨F_63, hB1⟩ := hB
  obtain rfl : F = F_63 := (funext (fun a => hB1.2.2.2 a List.not_mem_nil)).symm
  obtain ⟨hP, hD, hO, hR⟩ := QTm.back hB1 ht hFc hR (fun q h => absurd h List.not_mem_nil)
  generalize H1 = H at hP hS ⊢
  have hw : RWX (TC fb zx) gq nn ll r_62 := hw
  have hw_64 := hw
  refine lv_istore_n (lv' := [(2, .int r_62), (0, .ref h0), (1, .ref q)]) hx hb dX15_isTagName_8 rfl hl (by decide) rfl (fun ls hl => ?_)
  refine lv_iload_n hx hb dX15_isTagName_9 rfl (lv_at hl 0 rfl) ?_
  refine lv_if_lt (tgt := 53) hx hb dX15_isTagName_10 (by decide) (fun c_65 => ?_) (fun c_65 => ?_)
  ·
    have hR9 : (tgR (TC fb zx) gq ll nn) = none := rwx_R hw_64 hcn c_65
    refine lv_iconst (v := 0) hx hb dX15_isTagName_53 (by decide) ?_
    refine W.widen (k := 0) (n := 0) (by omega) (by omega) ?_
    exact W.zret (v := 0) (ty := .boolean) hx hb hr (by decide) (fun t ht hWm => ⟨⟨0, (), rfl, (Or.inr ⟨rfl, by rw [hR9]; exact nmc_0⟩), ⟨F, QTm.mk ht hP hD hO hR⟩⟩, hS.F ht⟩) hS.2.2 dX15_isTagName_54
  ·
    obtain ⟨j, hjz, ej, hj1, hj2⟩ := rwx_y hw_64 c_65
    subst ej
    obtain ⟨hg1, hg2, hg3⟩ := hTG j hjz
    have hR9 : (tgR (TC fb zx) gq ll nn) = some j := tgR_y hj1 hj2 nn hjz
    refine lv_aload_n hx hb dX15_isTagName_13 rfl (lv_at hl 1 rfl) ?_
    refine pg_get (ci := 15) (v := .ref se) (C := RX15) (T := TX15) (N := 59) hx hb hts it_15 hown hK hP hL_h0 hF_54 rfl 35 (by decide) (hts _ kt_847) (fun _ h9 => h9) rfl dX15_isTagName_14 ?_
    refine pg_get (ci := 13) (v := .ref sx) (C := RX13) (T := TX13) (N := 5) hx hb hts it_13 hown hK hP hi_29 hFs rfl 0 (by decide) (hts _ kt_842) (fun _ h9 => h9) rfl dX15_isTagName_17 ?_
    refine pg_get (ci := 14) (v := .ref sb) (C := RX14) (T := TX14) (N := 2) hx hb hts it_14 hown hK hP hL_sx hFx rfl 0 (by decide) (hts _ kt_710) (fun _ h9 => h9) rfl dX15_isTagName_20 ?_
    refine lv_aload_n hx hb dX15_isTagName_23 rfl (lv_at hl 1 rfl) ?_
    refine pg_get (ci := 15) (v := .ref se) (C := RX15) (T := TX15) (N := 59) hx hb hts it_15 hown hK hP hL_h0 hF_54 rfl 35 (by decide) (hts _ kt_847) (fun _ h9 => h9) rfl dX15_isTagName_24 ?_
    refine pg_get (ci := 13) (v := .ref s1) (C := RX13) (T := TX13) (N := 5) hx hb hts it_13 hown hK hP hi_29 hFs rfl 2 (by decide) (hts _ kt_840) (fun _ h9 => h9) rfl dX15_isTagName_27 ?_
    refine lv_iload_n hx hb dX15_isTagName_30 rfl (lv_at hl 0 rfl) ?_
    refine pg_iald hx hb hK hP hi_32 0 hFy1 rfl (vp_in_nI (by omega) (by omega)) dX15_isTagName_31 ?_
    refine lv_topi (fun x_66 ex_66 => ?_)
    obtain rfl : x_66 = (nI (gq 1 j)) := ex_66.trans (((congrArg e1 (nI_clamp (by omega))).trans (hhl j hjz).2.1))
    refine lv_iconst (v := 1) hx hb dX15_isTagName_32 (by decide) ?_
    refine lv_iadd hx hb dX15_isTagName_33 ?_
    refine lv_topi (fun x_67 ex_67 => ?_)
    obtain rfl : x_67 = (nI (gq 1 j + 1)) := ex_67.trans (nI_1 _)
    refine lv_aload_n hx hb dX15_isTagName_34 rfl (lv_at hl 1 rfl) ?_
    refine pg_get (ci := 15) (v := .ref se) (C := RX15) (T := TX15) (N := 59) hx hb hts it_15 hown hK hP hL_h0 hF_54 rfl 35 (by decide) (hts _ kt_847) (fun _ h9 => h9) rfl dX15_isTagName_35 ?_
    refine pg_get (ci := 13) (v := .ref s2) (C := RX13) (T := TX13) (N := 5) hx hb hts it_13 hown hK hP hi_29 hFs rfl 3 (by decide) (hts _ kt_841) (fun _ h9 => h9) rfl dX15_isTagName_38 ?_
    refine lv_iload_n hx hb dX15_isTagName_41 rfl (lv_at hl 0 rfl) ?_
    refine pg_iald hx hb hK hP hi_33 0 hFy2 rfl (vp_in_nI (by omega) (by omega)) dX15_isTagName_42 ?_
    refine lv_topi (fun x_68 ex_68 => ?_)
    obtain rfl : x_68 = (nI (gq 2 j)) := ex_68.trans (((congrArg e2 (nI_clamp (by omega))).trans (hhl j hjz).2.2))
    have hFc := pg_free hD hS hA
    refine va_calli (va_runS (As := [.ref sb, .int (nI (gq 1 j + 1)), .int (nI (gq 2 j))]) (rest := []) ⟨hx, hb, hml, hown, hts⟩ (s_X14_isName_e l dC dI cs ty gm L H.size F sb (ρ + 12) 3000 (gq 1 j + 1) (gq 2 j) fb hW hi_39 ht_40 hFb (hg2) (by omega)) ⟨callB_of 3 hts (gi kt_689) rfl rfl rfl (hts _ kt_676) (hts _ kt_848) (by decide +kernel) ⟨Nat.le_of_ble_eq_true rfl, Nat.le_of_ble_eq_true rfl⟩, (hts _ kt_691)⟩ ⟨fun a U g mk q => ⟨q.1, PTm.calling q.2⟩, fun U hU hWm => ⟨rfl, PTm.mk hU hWm hP hK hD hE hO⟩⟩ rfl rfl hl.1 rfl (lv_room (Nat.le_of_ble_eq_true rfl)) dX15_isTagName_43 ⟨by show _ + 0 ≤ 0; omega, by show _ + 0 ≤ 0; omega⟩) hS (fun q _ h => hFc q h) hFc (fun r_69 u t H1 locs ht hvm hw hB hz1 hk1 hS => ?_)
    obtain ⟨F_70, hB1⟩ := hB
    obtain rfl : F = F_70 := (funext (fun a => hB1.2.2.2 a List.not_mem_nil)).symm
    obtain ⟨hP, hD, hO, hR⟩ := QTm.back hB1 ht hFc hR (fun q h => absurd h List.not_mem_nil)
    generalize H1 = H at hP hS ⊢
    have hw : r_69 = (if NM fb (gq 1 j + 1) (gq 2 j) = true then 1 else 0) := hw
    have hw_71 := hw
    refine lv_if_eq (tgt := 53) hx hb dX15_isTagName_46 (by decide) (fun c_72 => ?_) (fun c_72 => ?_)
    ·
      refine lv_iconst (v := 0) hx hb dX15_isTagName_53 (by decide) ?_
      refine W.widen (k := 0) (n := 0) (by omega) (by omega) ?_
      exact W.zret (v := 0) (ty := .boolean) hx hb hr (by decide) (fun t ht hWm => ⟨⟨0, (), rfl, (Or.inr ⟨rfl, by rw [hR9]; show ¬ NMC (TC fb zx) (gq 1 j + 1) (gq 2 j) = true; rw [← nmc_of (f := fb) (z := zx) hg3]; exact ifb0 hw_71 c_72⟩), ⟨F, QTm.mk ht hP hD hO hR⟩⟩, hS.F ht⟩) hS.2.2 dX15_isTagName_54
    ·
      refine lv_iconst (v := 1) hx hb dX15_isTagName_49 (by decide) ?_
      refine lv_goto (tgt := 54) hx hb dX15_isTagName_50 (by decide) ?_
      refine W.widen (k := 0) (n := 0) (by omega) (by omega) ?_
      exact W.zret (v := 1) (ty := .boolean) hx hb hr (by decide) (fun t ht hWm => ⟨⟨1, (), rfl, (Or.inl ⟨rfl, by rw [hR9]; show NMC (TC fb zx) (gq 1 j + 1) (gq 2 j) = true; rw [← nmc_of (f := fb) (z := zx) hg3]; exact ifb1 hw_71 c_72⟩), ⟨F, QTm.mk ht hP hD hO hR⟩⟩, hS.F ht⟩) hS.2.2 dX15_isTagName_54
theorem in_sub0 {tt a lo hi : Nat} {A B : Int64} {r : Int32} (hr : r = (if A ≤ (nI tt - nI a).toInt64 ∧ (nI tt - nI a).toInt64 ≤ B then 1 else 0)) (c : r = 0) (hA : A.toInt = lo) (hB : B.toInt = hi) (ht : tt < 2 ^ 30) (ha : a ≤ tt) : ¬ (lo ≤ tt - a ∧ tt - a ≤ hi) := by
  rw [show nI tt - nI a = nI (tt - a) from pk_sub ha] at hr
  exact in_nat0 hr c hA hB (by omega)
set_option maxHeartbeats 4000000 in
set_option maxRecDepth 100000 in
theorem s_X15_isNames_x (l : Launch) (dC : Nat → ClassId) (dI : Nat → Nat → Nat) (cs : Nat → ClassId) (ty : TyM) (gm : Nat → Nat → Nat) (L : List Nat) (sz : Nat) (F : Nat → va_E) (h0 : Nat) (ρ : Nat) (ta : Nat) (ou : Nat) (so : Nat) (ad : Nat) (na : Nat) (va : Nat) (lc : Nat) (dm : Nat) (tg : Nat) (pe : Nat) (ml : Nat) (bg : Nat) (co : Nat) (sp : Nat) (nb0 : Nat) (nb1 : Nat) (nb2 : Nat) (pl : Nat) (se : Nat) (ke : Nat) (wi : Nat) (hs : Nat) (mo : Nat) (po : Nat) (nu : Nat) (pr : Nat) (sq : Nat) (xa : Nat) (sa : Nat) (n64 : Nat) (m64 : Nat) (ex : Nat) (wh : Nat) (sd : Nat) (tk : Nat) (hd : Nat) (ak : Nat) (ho : Nat) (ot : Nat) (sx : Nat) (s0 : Nat) (s1 : Nat) (s2 : Nat) (nf : Nat) (bd : Nat) (mm : Nat) (zo : Nat) (fm : Nat) (sn : Nat) (hg : Nat) (gc : Nat) (gv : Nat) (ze : Nat) (zt : Nat) (sb : Nat) (zx : Nat) (nn : Nat) (fb : Nat → Int32) (e0 : Nat → Int32) (e1 : Nat → Int32) (e2 : Nat → Int32) (gq : Nat → Nat → Nat) (hW : WTm ty gm L) (hL_h0 : h0 ∈ L) (hT_h0 : ty h0 = (15, ρ, [ta, ou, so, ad, na, va, lc, dm, tg, pe, ml, bg, co, sp, nb0, nb1, nb2, pl, se, ke, wi, hs, mo, po, nu, pr, sq, xa, sa, n64, m64, ex, wh, sd, tk, hd, ak, ho, ot, sx, s0, s1, s2, nf, bd, mm, zo, fm, sn, hg, gc, gv, ze, zt])) (hL_sx : sx ∈ L) (hT_sx : ty sx = (14, ρ + 12, [sb, 3000])) (hFs : F se = .inr (13, [.ref sx, .ref s0, .ref s1, .ref s2, .int (nI nn)])) (hFx : F sx = .inr (14, [.ref sb, .int (nI zx)])) (hFb : F sb = .inl (cs 17, 3000, .inl fb)) (hFy0 : F s0 = .inl (cs 16, 40, .inl e0)) (hFy1 : F s1 = .inl (cs 16, 40, .inl e1)) (hFy2 : F s2 = .inl (cs 16, 40, .inl e2)) (hxn : zx ≤ 3000) (hcn : nn ≤ 40) (hhl : HLD e0 e1 e2 nn gq) (hTG : TGI zx nn gq) : Met l yX15_isNames (.code yX15_isNames cX15_isNames 5 (some .boolean) :: tb) ({ frames := 6, cells := 0, slots := 0, locals := 131 }) (va_Pc [.ref h0] (PTEm (dC, dI) cs ty gm L F sz [])) (va_Qi (fun (r : Int32) (_ : Unit) => ((r = 1 ∧ HLV (TC fb zx) (tgA gq (tgR (TC fb zx) gq [104] nn)) (tgB gq (tgR (TC fb zx) gq [104] nn))) ∨ (r = 0 ∧ ¬ HLV (TC fb zx) (tgA gq (tgR (TC fb zx) gq [104] nn)) (tgB gq (tgR (TC fb zx) gq [104] nn))))) (fun _ T9 => ∃ F2 : Nat → va_E, ∃ u2 : Int32, QTm (dC, dI) cs ty gm L [ρ] F F2 (va_A (va_pl L F) sz) T9 ∧ gF (F2 h0) 54 = u2 ∧ (HLV (TC fb zx) (tgA gq (tgR (TC fb zx) gq [104] nn)) (tgB gq (tgR (TC fb zx) gq [104] nn)) → ((u2 = 1 ∧ HLO (TC fb zx) (tgA gq (tgR (TC fb zx) gq [104] nn)) (tgB gq (tgR (TC fb zx) gq [104] nn))) ∨ (u2 = 0 ∧ ¬ HLO (TC fb zx) (tgA gq (tgR (TC fb zx) gq [104] nn)) (tgB gq (tgR (TC fb zx) gq [104] nn)))))) (va_A (va_pl L F) sz)) 0 0 (va_A (va_pl L F) sz) := by
  refine Met.ofW (cc := cX15_isNames) (maxL := 5) (ret := (some .boolean)) (by decide) rfl ?_
  intro p e s m args below meth c s₁ B hml hv
  obtain ⟨rfl, ⟨hsz, hP, hK, hD0, hE, hO⟩, hG, hX⟩ := hv
  have hx := B.exec
  have hb := B.bytes
  have hr := B.returns
  have hts : ∀ w ∈ tb, w.before _ s = true := fun w h => atoms_spec (ws := .code yX15_isNames cX15_isNames 5 (some .boolean) :: tb) B.pre w (List.mem_cons_of_mem _ h)
  have hown : s.vm.findClass RX15 = some m.cls := findClass_of_methodNamed B.named
  have hlocks := B.notSynchronized
  subst hsz
  have hD := hD0.self (sz := s.heap.size)
  generalize hAe : va_A (va_pl L F) s.heap.size = A at hD hG hX ⊢
  have hA : ∀ q : Nat, s.heap.size ≤ q → A q := fun q h => by rw [← hAe]; exact Or.inr h
  have hS : va_S A s.heap s.heap [] := va_S.rf
  have hR : FR ty [ρ] F F := FR.refl
  have hl := lv_entry ([.ref h0]) (n := 5) (Nat.le_of_ble_eq_true rfl)
  rw [lg_entry_eq]
  generalize (lg_sl ([.ref h0]) ++ List.replicate (5 - (lg_sl ([.ref h0])).length) Slot.unset).toArray = ls at hl ⊢
  have hl : lv_has ls 5 [(0, .ref h0)] := hl
  obtain ⟨hq_23, hq_24, hq_25, hq_26, hq_27, hgO, hgA, hgB, hq_28⟩ := hW.sc hL_h0 hT_h0
  obtain ⟨hi_29, ht_30⟩ := hW.f_se hL_h0 hT_h0
  obtain ⟨_, hi_31, hi_32, hi_33, _, ht_34, ht_35, ht_36, hq_37, hq_38⟩ := hW.tags hi_29 ht_30
  have ht_35 : ty s1 = (25, ρ + 81, [40, 1280]) := ht_35
  have ht_36 : ty s2 = (25, ρ + 82, [40, 1280]) := ht_36
  obtain ⟨hi_39, ht_40, hq_41⟩ := hW.txt hL_sx hT_sx
  obtain ⟨v14_42, v15_43, v17_44, v18_45, v19_46, v20_47, v21_48, v22_49, v33_50, v52_51, v53_52, v54_53, hF_54, hq_55, hq_56, hq_57, hq_58, hq_59⟩ := hO.mod hL_h0 hT_h0
  refine lv_aload_n hx hb dX15_isNames_0 rfl (lv_at hl 0 rfl) ?_
  refine pg_get (ci := 15) (v := .ref se) (C := RX15) (T := TX15) (N := 59) hx hb hts it_15 hown hK hP hL_h0 hF_54 rfl 35 (by decide) (hts _ kt_847) (fun _ h9 => h9) rfl dX15_isNames_1 ?_
  obtain ⟨q_60, v_61, hr_q_60, hX_q_60⟩ := hG.2.2 ("PostGateModel", 486, "h", [104]) (by decide +kernel)
  have hX_q_60 : SXc q_60 v_61 1 (cct [104]) A s s.heap := hX_q_60
  obtain ⟨xo_q_60, xc_q_60, xv_q_60, xt_q_60, xn_q_60⟩ := id hX_q_60
  have hr_q_60 : vk_R "PostGateModel" 486 "h" q_60 s := hr_q_60
  refine va_ldcwS hx hb hown hr_q_60 dX15_isNames_4 ?_
  obtain ⟨hq_62, hq_63⟩ := hW.octs hi_39 ht_40
  have hFc := pg_free hD hS hA
  refine va_calli (va_runV (As := [.ref q_60]) (rest := []) ⟨hx, hb, hml, hown, hts⟩ (s_X13_find_x l dC dI cs ty gm L s.heap.size F se (ρ + 11) sx 3000 1280 s0 s1 s2 sb zx nn fb e0 e1 e2 gq q_60 v_61 1 (cct [104]) ([104]) hW hi_29 ht_30 hL_sx hT_sx hFx hFb (hxn) hFs hFy0 hFy1 hFy2 (hcn) (hhl) (hTG) (Nat.le_refl _) (⟨rfl, by decide +kernel⟩)) ⟨callB_of 1 hts (gi kt_828) rfl rfl rfl (hts _ kt_829) (hts _ kt_839) (by decide +kernel) ⟨Nat.le_of_ble_eq_true rfl, Nat.le_of_ble_eq_true rfl⟩, (hts _ kt_831), (hts _ kt_832)⟩ ⟨fun a U g mk q => ⟨q.1, PTEm.calling q.2⟩, pg_recv hK hP hi_29 hFs (q := (RX13, TX13, 5)) rfl, fun U hU hWm => ⟨rfl, PTEm.mk hU hWm hP hK hD hE hO hG (fun x hx => by rw [List.mem_singleton] at hx; subst hx; exact hX_q_60) hS hFc⟩⟩ rfl rfl hl.1 rfl (lv_room (Nat.le_of_ble_eq_true rfl)) dX15_isNames_7 ⟨by show _ + 0 ≤ 0; omega, by show _ + 0 ≤ 0; omega⟩) hS (fun q _ h => hFc q h) hFc (fun r_64 u t H1 locs ht hvm hw hB hz1 hk1 hS => ?_)
  obtain ⟨F_65, hB1⟩ := hB
  obtain rfl : F = F_65 := (funext (fun a => hB1.2.2.2 a List.not_mem_nil)).symm
  obtain ⟨hP, hD, hO, hR⟩ := QTm.back hB1 ht hFc hR (fun q h => absurd h List.not_mem_nil)
  generalize H1 = H at hP hS ⊢
  have hw : RWX (TC fb zx) gq nn [104] r_64 := hw
  have hw_66 := hw
  refine lv_istore_n (lv' := [(1, .int r_64), (0, .ref h0)]) hx hb dX15_isNames_10 rfl hl (by decide) rfl (fun ls hl => ?_)
  refine lv_aload_n hx hb dX15_isNames_11 rfl (lv_at hl 1 rfl) ?_
  refine lv_iconst (v := 0) hx hb dX15_isNames_12 (by decide) ?_
  refine pg_put (ci := 15) (v := .int 0) (ty := .boolean) (C := RX15) (T := TX15) (N := 59) hx hb hts it_15 tyX15 tyX15_ok nmX15 hown hK hP hD hS hL_h0 hF_54 rfl 54 (by decide) (hts _ kt_849) (fun _ h9 => h9) rfl (by decide +kernel) (rfl) (rfl) (Nat.le_of_ble_eq_true rfl) dX15_isNames_13 (fun H locs hP hD hS => ?_)
  obtain ⟨F_67, he_68, hP, hD, hO, hR⟩ : ∃ G, G = va_up F h0 (.inr (15, (.ref ta) :: (.int (nI zt)) :: (.int (nI zo)) :: (.int (nI ze)) :: (.ref ou) :: (.ref so) :: (.ref ad) :: (.ref na) :: (.ref va) :: (.ref lc) :: (.ref dm) :: (.int (nI fm)) :: (.int (nI sn)) :: (.ref tg) :: (.int v14_42) :: (.int v15_43) :: (.ref pe) :: (.int v17_44) :: (.int v18_45) :: (.int v19_46) :: (.int v20_47) :: (.int v21_48) :: (.int v22_49) :: (.ref ml) :: (.ref bg) :: (.ref co) :: (.ref sp) :: (.ref nb0) :: (.ref nb1) :: (.ref nb2) :: (.int (nI nf)) :: (.int (nI bd)) :: (.int (nI mm)) :: (.int v33_50) :: (.ref pl) :: (.ref se) :: (.ref ke) :: (.ref wi) :: (.ref hs) :: (.ref mo) :: (.ref po) :: (.ref nu) :: (.ref pr) :: (.ref sq) :: (.ref xa) :: (.ref sa) :: (.ref n64) :: (.ref m64) :: (.ref ex) :: (.ref wh) :: (.ref sd) :: (.ref tk) :: (.int v52_51) :: (.int v53_52) :: (.int 0) :: (.ref hd) :: (.ref ak) :: (.ref ho) :: (.ref ot) :: [])) ∧ va_P (dC, dI) vwCl (va_pl L G) H ∧ va_D A (va_pl L G) ∧ OKm cs ty gm L G ∧ FR ty [ρ] F G := ⟨_, rfl, hP, hD, hO.up (shm.mod hT_h0 ⟨v14_42, v15_43, v17_44, v18_45, v19_46, v20_47, v21_48, v22_49, v33_50, v52_51, v53_52, 0, rfl, (by first | omega | assumption | exact Or.inl rfl | exact Or.inr rfl), (by first | omega | assumption | exact Or.inl rfl | exact Or.inr rfl), (by first | omega | assumption | exact Or.inl rfl | exact Or.inr rfl), (by first | omega | assumption | exact Or.inl rfl | exact Or.inr rfl), (by first | omega | assumption | exact Or.inl rfl | exact Or.inr rfl)⟩), hR.up hT_h0 (by simp)⟩
  have hF_69 : F_67 h0 = .inr (15, (.ref ta) :: (.int (nI zt)) :: (.int (nI zo)) :: (.int (nI ze)) :: (.ref ou) :: (.ref so) :: (.ref ad) :: (.ref na) :: (.ref va) :: (.ref lc) :: (.ref dm) :: (.int (nI fm)) :: (.int (nI sn)) :: (.ref tg) :: (.int v14_42) :: (.int v15_43) :: (.ref pe) :: (.int v17_44) :: (.int v18_45) :: (.int v19_46) :: (.int v20_47) :: (.int v21_48) :: (.int v22_49) :: (.ref ml) :: (.ref bg) :: (.ref co) :: (.ref sp) :: (.ref nb0) :: (.ref nb1) :: (.ref nb2) :: (.int (nI nf)) :: (.int (nI bd)) :: (.int (nI mm)) :: (.int v33_50) :: (.ref pl) :: (.ref se) :: (.ref ke) :: (.ref wi) :: (.ref hs) :: (.ref mo) :: (.ref po) :: (.ref nu) :: (.ref pr) :: (.ref sq) :: (.ref xa) :: (.ref sa) :: (.ref n64) :: (.ref m64) :: (.ref ex) :: (.ref wh) :: (.ref sd) :: (.ref tk) :: (.int v52_51) :: (.int v53_52) :: (.int 0) :: (.ref hd) :: (.ref ak) :: (.ref ho) :: (.ref ot) :: []) := by rw [he_68]; exact up_self
  have hF_70 : F_67 se = .inr (13, [.ref sx, .ref s0, .ref s1, .ref s2, .int (nI nn)]) := by rw [he_68, up_ne (ne_ty ht_30 hT_h0 (by simp))]; exact hFs
  have hF_71 : F_67 sx = .inr (14, [.ref sb, .int (nI zx)]) := by rw [he_68, up_ne (ne_ty hT_sx hT_h0 (by simp))]; exact hFx
  have hF_72 : F_67 sb = .inl (cs 17, 3000, .inl fb) := by rw [he_68, up_ne (ne_ty ht_40 hT_h0 (by simp))]; exact hFb
  have hF_73 : F_67 s0 = .inl (cs 16, 40, .inl e0) := by rw [he_68, up_ne (ne_ty ht_34 hT_h0 (by simp))]; exact hFy0
  have hF_74 : F_67 s1 = .inl (cs 16, 40, .inl e1) := by rw [he_68, up_ne (ne_ty ht_35 hT_h0 (by simp))]; exact hFy1
  have hF_75 : F_67 s2 = .inl (cs 16, 40, .inl e2) := by rw [he_68, up_ne (ne_ty ht_36 hT_h0 (by simp))]; exact hFy2
  refine lv_iload_n hx hb dX15_isNames_16 rfl (lv_at hl 0 rfl) ?_
  refine lv_if_ge (tgt := 22) hx hb dX15_isNames_17 (by decide) (fun c_76 => ?_) (fun c_76 => ?_)
  ·
    obtain ⟨j, hjz, ej, hj1, hj2⟩ := rwx_y hw_66 (Int32.not_lt.mpr c_76)
    subst ej
    obtain ⟨hg1, hg2, hg3⟩ := hTG j hjz
    have hR9 : (tgR (TC fb zx) gq [104] nn) = some j := tgR_y hj1 hj2 nn hjz
    refine lv_aload_n hx hb dX15_isNames_22 rfl (lv_at hl 1 rfl) ?_
    refine pg_get (ci := 15) (v := .ref se) (C := RX15) (T := TX15) (N := 59) hx hb hts it_15 hown hK hP hL_h0 hF_69 rfl 35 (by decide) (hts _ kt_847) (fun _ h9 => h9) rfl dX15_isNames_23 ?_
    refine pg_get (ci := 13) (v := .ref sx) (C := RX13) (T := TX13) (N := 5) hx hb hts it_13 hown hK hP hi_29 hF_70 rfl 0 (by decide) (hts _ kt_842) (fun _ h9 => h9) rfl dX15_isNames_26 ?_
    refine pg_get (ci := 14) (v := .ref sb) (C := RX14) (T := TX14) (N := 2) hx hb hts it_14 hown hK hP hL_sx hF_71 rfl 0 (by decide) (hts _ kt_710) (fun _ h9 => h9) rfl dX15_isNames_29 ?_
    refine lv_astore_n (lv' := [(2, .ref sb), (1, .int (nI j)), (0, .ref h0)]) hx hb dX15_isNames_32 rfl hl (by decide) rfl (fun ls hl => ?_)
    refine lv_aload_n hx hb dX15_isNames_33 rfl (lv_at hl 2 rfl) ?_
    refine pg_get (ci := 15) (v := .ref se) (C := RX15) (T := TX15) (N := 59) hx hb hts it_15 hown hK hP hL_h0 hF_69 rfl 35 (by decide) (hts _ kt_847) (fun _ h9 => h9) rfl dX15_isNames_34 ?_
    refine pg_get (ci := 13) (v := .ref s1) (C := RX13) (T := TX13) (N := 5) hx hb hts it_13 hown hK hP hi_29 hF_70 rfl 2 (by decide) (hts _ kt_840) (fun _ h9 => h9) rfl dX15_isNames_37 ?_
    refine lv_iload_n hx hb dX15_isNames_40 rfl (lv_at hl 1 rfl) ?_
    refine pg_iald hx hb hK hP hi_32 0 hF_74 rfl (vp_in_nI (by omega) (by omega)) dX15_isNames_41 ?_
    refine lv_topi (fun x_77 ex_77 => ?_)
    obtain rfl : x_77 = (nI (gq 1 j)) := ex_77.trans (((congrArg e1 (nI_clamp (by omega))).trans (hhl j hjz).2.1))
    refine lv_iconst (v := 1) hx hb dX15_isNames_42 (by decide) ?_
    refine lv_iadd hx hb dX15_isNames_43 ?_
    refine lv_topi (fun x_78 ex_78 => ?_)
    obtain rfl : x_78 = (nI (gq 1 j + 1)) := ex_78.trans (nI_1 _)
    refine lv_istore_n (lv' := [(3, .int (nI (gq 1 j + 1))), (2, .ref sb), (1, .int (nI j)), (0, .ref h0)]) hx hb dX15_isNames_44 rfl hl (by decide) rfl (fun ls hl => ?_)
    refine W.widen (k := 0) (n := 0) (by omega) (by omega) ?_
    have hF_80 : F se = .inr (13, [.ref sx, .ref s0, .ref s1, .ref s2, .int (nI nn)]) := (hR se (by rw [ht_30]; simp)).symm.trans hF_70
    have hF_81 : F sx = .inr (14, [.ref sb, .int (nI zx)]) := (hR sx (by rw [hT_sx]; simp)).symm.trans hF_71
    have hF_82 : F sb = .inl (cs 17, 3000, .inl fb) := (hR sb (by rw [ht_40]; simp)).symm.trans hF_72
    have hF_83 : F s0 = .inl (cs 16, 40, .inl e0) := (hR s0 (by rw [ht_34]; simp)).symm.trans hF_73
    have hF_84 : F s1 = .inl (cs 16, 40, .inl e1) := (hR s1 (by rw [ht_35]; simp)).symm.trans hF_74
    have hF_85 : F s2 = .inl (cs 16, 40, .inl e2) := (hR s2 (by rw [ht_36]; simp)).symm.trans hF_75
    refine pl_loopm (σ := Nat × (List (Nat × Nat)) × Int32) A (dC, dI) cs ty gm L [ρ] F 45 5 (fun (a3, pre, ug9) => [(3, .int (nI a3)), (2, .ref sb), (1, .int (nI j)), (0, .ref h0)]) (fun (a3, pre, ug9) => []) (fun (a3, pre, ug9) FF => (gq 1 j + 1) ≤ a3 ∧ a3 ≤ (gq 2 j) + 1 ∧ HLI (TC fb zx) (gq 1 j + 1) (gq 2 j) a3 ug9 pre ∧ gF (FF h0) 54 = ug9) (fun (a3, pre, ug9) => (gq 2 j) + 1 - a3) ?_ ((gq 1 j + 1), [], 0) F_67 (⟨Nat.le_refl _, by omega, hli_0, (by rw [hF_69]; rfl)⟩) hO hR _ _ hP hD hS ls (lv_sub hl [0, 1, 2, 3] rfl)
    rintro ⟨a3, pre, ug9⟩ F_79 hv_86 hO hR ih_87 H locs hP hD hS ls hl
    have hl : lv_has ls 5 [(3, .int (nI a3)), (2, .ref sb), (1, .int (nI j)), (0, .ref h0)] := hl
    have hv_86 : (gq 1 j + 1) ≤ a3 ∧ a3 ≤ (gq 2 j) + 1 ∧ HLI (TC fb zx) (gq 1 j + 1) (gq 2 j) a3 ug9 pre ∧ gF (F_79 h0) 54 = ug9 := hv_86
    refine W.eq (g2 := F0 m 45 ls []) rfl ?_
    have hF_88 : F_79 se = .inr (13, [.ref sx, .ref s0, .ref s1, .ref s2, .int (nI nn)]) := (hR se (by rw [ht_30]; simp)).trans hF_80
    have hF_89 : F_79 sx = .inr (14, [.ref sb, .int (nI zx)]) := (hR sx (by rw [hT_sx]; simp)).trans hF_81
    have hF_90 : F_79 sb = .inl (cs 17, 3000, .inl fb) := (hR sb (by rw [ht_40]; simp)).trans hF_82
    have hF_91 : F_79 s0 = .inl (cs 16, 40, .inl e0) := (hR s0 (by rw [ht_34]; simp)).trans hF_83
    have hF_92 : F_79 s1 = .inl (cs 16, 40, .inl e1) := (hR s1 (by rw [ht_35]; simp)).trans hF_84
    have hF_93 : F_79 s2 = .inl (cs 16, 40, .inl e2) := (hR s2 (by rw [ht_36]; simp)).trans hF_85
    obtain ⟨hv1, hv2, hv3, hv4⟩ := id hv_86
    obtain ⟨v14_94, v15_95, v17_96, v18_97, v19_98, v20_99, v21_100, v22_101, v33_102, v52_103, v53_104, v54_105, hF_106, hq_107, hq_108, hq_109, hq_110, hq_111⟩ := hO.mod hL_h0 hT_h0
    have hue : v54_105 = ug9 := by have h9 := hv4; rw [hF_106] at h9; exact h9
    refine lv_iload_n hx hb dX15_isNames_45 rfl (lv_at hl 0 rfl) ?_
    refine lv_aload_n hx hb dX15_isNames_46 rfl (lv_at hl 3 rfl) ?_
    refine pg_get (ci := 15) (v := .ref se) (C := RX15) (T := TX15) (N := 59) hx hb hts it_15 hown hK hP hL_h0 hF_106 rfl 35 (by decide) (hts _ kt_847) (fun _ h9 => h9) rfl dX15_isNames_47 ?_
    refine pg_get (ci := 13) (v := .ref s2) (C := RX13) (T := TX13) (N := 5) hx hb hts it_13 hown hK hP hi_29 hF_88 rfl 3 (by decide) (hts _ kt_841) (fun _ h9 => h9) rfl dX15_isNames_50 ?_
    refine lv_iload_n hx hb dX15_isNames_53 rfl (lv_at hl 2 rfl) ?_
    refine pg_iald hx hb hK hP hi_33 0 hF_93 rfl (vp_in_nI (by omega) (by omega)) dX15_isNames_54 ?_
    refine lv_topi (fun x_112 ex_112 => ?_)
    obtain rfl : x_112 = (nI (gq 2 j)) := ex_112.trans (((congrArg e2 (nI_clamp (by omega))).trans (hhl j hjz).2.2))
    refine lv_icmp_gt (tgt := 165) hx hb dX15_isNames_55 (by decide) (fun c_113 => ?_) (fun c_113 => ?_)
    ·
      have hi_114 : (gq 2 j) < a3 := (nI_ltI (a := (gq 2 j)) (b := a3) (by omega) (by omega)).mp c_113
      have hae : (gq 2 j) < a3 := (nI_ltI (by omega) (by omega)).mp c_113
      refine lv_iconst (v := 1) hx hb dX15_isNames_165 (by decide) ?_
      refine W.widen (k := 0) (n := 0) (by omega) (by omega) ?_
      exact W.zret (v := 1) (ty := .boolean) hx hb hr (by decide) (fun t ht hWm => ⟨⟨1, (), rfl, (Or.inl ⟨rfl, by rw [hR9]; exact hli_w hv3 hae⟩), ⟨F_79, v54_105, QTm.mk ht hP hD hO hR, (by rw [hF_106]; rfl), (fun _ => by rw [hR9, hue]; exact hli_e hv3 hae)⟩⟩, hS.F ht⟩) hS.2.2 dX15_isNames_166
    ·
      have hi_115 : a3 ≤ (gq 2 j) := Nat.not_lt.mp (fun q => c_113 ((nI_ltI (a := (gq 2 j)) (b := a3) (by omega) (by omega)).mpr q))
      have hae : a3 ≤ (gq 2 j) := Nat.not_lt.mp (fun q => c_113 ((nI_ltI (by omega) (by omega)).mpr q))
      refine lv_iload_n hx hb dX15_isNames_58 rfl (lv_at hl 0 rfl) ?_
      refine lv_istore (lv' := [(4, .int (nI a3)), (3, .int (nI a3)), (2, .ref sb), (1, .int (nI j)), (0, .ref h0)]) hx hb dX15_isNames_59 hl (by decide) rfl (fun ls hl => ?_)
      refine W.widen (k := 0) (n := 0) (by omega) (by omega) ?_
      have hF_117 : F se = .inr (13, [.ref sx, .ref s0, .ref s1, .ref s2, .int (nI nn)]) := (hR se (by rw [ht_30]; simp)).symm.trans hF_88
      have hF_118 : F sx = .inr (14, [.ref sb, .int (nI zx)]) := (hR sx (by rw [hT_sx]; simp)).symm.trans hF_89
      have hF_119 : F sb = .inl (cs 17, 3000, .inl fb) := (hR sb (by rw [ht_40]; simp)).symm.trans hF_90
      have hF_120 : F s0 = .inl (cs 16, 40, .inl e0) := (hR s0 (by rw [ht_34]; simp)).symm.trans hF_91
      have hF_121 : F s1 = .inl (cs 16, 40, .inl e1) := (hR s1 (by rw [ht_35]; simp)).symm.trans hF_92
      have hF_122 : F s2 = .inl (cs 16, 40, .inl e2) := (hR s2 (by rw [ht_36]; simp)).symm.trans hF_93
      refine pl_loopm (σ := Nat) A (dC, dI) cs ty gm L [ρ] F 61 5 (fun i => [(4, .int (nI i)), (3, .int (nI a3)), (2, .ref sb), (1, .int (nI j)), (0, .ref h0)]) (fun i => []) (fun i FF => a3 ≤ i ∧ i ≤ (gq 2 j) ∧ (∀ q9, a3 ≤ q9 → q9 < i → ¬ (TC fb zx) q9 = 58 ∧ FSC ((TC fb zx) q9)) ∧ gF (FF h0) 54 = ug9) (fun i => (gq 2 j) - i) ?_ a3 F_79 (⟨Nat.le_refl _, hae, fun q9 h1 h2 => absurd h2 (by omega), hv4⟩) hO hR _ _ hP hD hS ls (lv_sub hl [0, 1, 2, 3, 4] rfl)
      rintro i F_116 hv_123 hO hR ih_124 H locs hP hD hS ls hl
      have hl : lv_has ls 5 [(4, .int (nI i)), (3, .int (nI a3)), (2, .ref sb), (1, .int (nI j)), (0, .ref h0)] := hl
      have hv_123 : a3 ≤ i ∧ i ≤ (gq 2 j) ∧ (∀ q9, a3 ≤ q9 → q9 < i → ¬ (TC fb zx) q9 = 58 ∧ FSC ((TC fb zx) q9)) ∧ gF (F_116 h0) 54 = ug9 := hv_123
      refine W.eq (g2 := F0 m 61 ls []) rfl ?_
      have hF_125 : F_116 se = .inr (13, [.ref sx, .ref s0, .ref s1, .ref s2, .int (nI nn)]) := (hR se (by rw [ht_30]; simp)).trans hF_117
      have hF_126 : F_116 sx = .inr (14, [.ref sb, .int (nI zx)]) := (hR sx (by rw [hT_sx]; simp)).trans hF_118
      have hF_127 : F_116 sb = .inl (cs 17, 3000, .inl fb) := (hR sb (by rw [ht_40]; simp)).trans hF_119
      have hF_128 : F_116 s0 = .inl (cs 16, 40, .inl e0) := (hR s0 (by rw [ht_34]; simp)).trans hF_120
      have hF_129 : F_116 s1 = .inl (cs 16, 40, .inl e1) := (hR s1 (by rw [ht_35]; simp)).trans hF_121
      have hF_130 : F_116 s2 = .inl (cs 16, 40, .inl e2) := (hR s2 (by rw [ht_36]; simp)).trans hF_122
      obtain ⟨hw1, hw2, hw3, hw4⟩ := id hv_123
      obtain ⟨v14_131, v15_132, v17_133, v18_134, v19_135, v20_136, v21_137, v22_138, v33_139, v52_140, v53_141, v54_142, hF_143, hq_144, hq_145, hq_146, hq_147, hq_148⟩ := hO.mod hL_h0 hT_h0
      have hue : v54_142 = ug9 := by have h9 := hw4; rw [hF_143] at h9; exact h9
      refine lv_iload hx hb dX15_isNames_61 (lv_at hl 0 rfl) ?_
      refine lv_aload_n hx hb dX15_isNames_63 rfl (lv_at hl 4 rfl) ?_
      refine pg_get (ci := 15) (v := .ref se) (C := RX15) (T := TX15) (N := 59) hx hb hts it_15 hown hK hP hL_h0 hF_143 rfl 35 (by decide) (hts _ kt_847) (fun _ h9 => h9) rfl dX15_isNames_64 ?_
      refine pg_get (ci := 13) (v := .ref s2) (C := RX13) (T := TX13) (N := 5) hx hb hts it_13 hown hK hP hi_29 hF_125 rfl 3 (by decide) (hts _ kt_841) (fun _ h9 => h9) rfl dX15_isNames_67 ?_
      refine lv_iload_n hx hb dX15_isNames_70 rfl (lv_at hl 3 rfl) ?_
      refine pg_iald hx hb hK hP hi_33 0 hF_130 rfl (vp_in_nI (by omega) (by omega)) dX15_isNames_71 ?_
      refine lv_topi (fun x_149 ex_149 => ?_)
      obtain rfl : x_149 = (nI (gq 2 j)) := ex_149.trans (((congrArg e2 (nI_clamp (by omega))).trans (hhl j hjz).2.2))
      refine lv_icmp_ge (tgt := 121) hx hb dX15_isNames_72 (by decide) (fun c_150 => ?_) (fun c_150 => ?_)
      ·
        have hi_151 : (gq 2 j) ≤ i := leN (N := (gq 2 j)) c_150
        have hib : (gq 2 j) ≤ i := (nI_leI (by omega) (by omega)).mp c_150
        have hfd : fdT (TC fb zx) 58 a3 (gq 2 j) = i := fd_at hw1 hw2 (fun q9 h1 h2 => (hw3 q9 h1 h2).1) (Or.inl (by omega))
        refine lv_iload hx hb dX15_isNames_121 (lv_at hl 0 rfl) ?_
        refine lv_iload_n hx hb dX15_isNames_123 rfl (lv_at hl 1 rfl) ?_
        refine lv_isub hx hb dX15_isNames_124 ?_
        refine lv_topi (fun x_152 ex_152 => ?_)
        obtain rfl : x_152 = (nI i - nI a3) := ex_152.trans (rfl)
        refine lv_i2l (v := (nI i - nI a3).toInt64) hx hb dX15_isNames_125 rfl ?_
        refine lv_lconst (v := 1) hx hb dX15_isNames_126 (by decide) ?_
        refine lv_ldc2 (v := 20) hx hb hown (hts _ kt_850) dX15_isNames_127 ?_
        have hFc := pg_free hD hS hA
        refine va_calli (va_runS (As := [.long ((nI i - nI a3).toInt64), .long 1, .long 20]) (rest := []) ⟨hx, hb, hml, hown, hts⟩ (s_X15_in l dC dI cs ty gm L H.size F_116 ((nI i - nI a3).toInt64) 1 20 hW ) ⟨callB_of 3 hts (gi kt_685) rfl rfl rfl (hts _ kt_669) (hts _ kt_705) (by decide +kernel) ⟨Nat.le_of_ble_eq_true rfl, Nat.le_of_ble_eq_true rfl⟩, (hts _ kt_686)⟩ ⟨fun a U g mk q => ⟨q.1, PTm.calling q.2⟩, fun U hU hWm => ⟨rfl, PTm.mk hU hWm hP hK hD hE hO⟩⟩ rfl rfl hl.1 rfl (lv_room (Nat.le_of_ble_eq_true rfl)) dX15_isNames_130 ⟨by show _ + 0 ≤ 0; omega, by show _ + 0 ≤ 0; omega⟩) hS (fun q _ h => hFc q h) hFc (fun r_153 u t H1 locs ht hvm hw hB hz1 hk1 hS => ?_)
        obtain ⟨F_154, hB1⟩ := hB
        obtain rfl : F_116 = F_154 := (funext (fun a => hB1.2.2.2 a List.not_mem_nil)).symm
        obtain ⟨hP, hD, hO, hR⟩ := QTm.back hB1 ht hFc hR (fun q h => absurd h List.not_mem_nil)
        generalize H1 = H at hP hS ⊢
        have hw : r_153 = (if 1 ≤ (nI i - nI a3).toInt64 ∧ (nI i - nI a3).toInt64 ≤ 20 then 1 else 0) := hw
        have hw_155 := hw
        refine lv_if_ne (tgt := 138) hx hb dX15_isNames_133 (by decide) (fun c_156 => ?_) (fun c_156 => ?_)
        ·
          obtain ⟨hl1, hl2⟩ := in_sub hw_155 c_156 (lo := 1) (hi := 20) (by decide) (by decide) (by omega) (by omega)
          have hFN : FNC (TC fb zx) a3 i := ⟨by omega, by omega, fun q9 h1 h2 => (hw3 q9 h1 h2).2⟩
          refine lv_aload_n hx hb dX15_isNames_138 rfl (lv_at hl 4 rfl) ?_
          refine lv_dup hx hb dX15_isNames_139 rfl ?_
          refine pg_get (ci := 15) (v := .int v54_142) (C := RX15) (T := TX15) (N := 59) hx hb hts it_15 hown hK hP hL_h0 hF_143 rfl 54 (by decide) (hts _ kt_849) (fun _ h9 => h9) rfl dX15_isNames_140 ?_
          refine lv_aload_n hx hb dX15_isNames_143 rfl (lv_at hl 2 rfl) ?_
          refine lv_iload_n hx hb dX15_isNames_144 rfl (lv_at hl 1 rfl) ?_
          refine lv_iload hx hb dX15_isNames_145 (lv_at hl 0 rfl) ?_
          obtain ⟨q_157, v_158, hr_q_157, hX_q_157⟩ := hG.2.2 ("PostGateModel", 488, "from", [102, 114, 111, 109]) (by decide +kernel)
          have hX_q_157 : SXc q_157 v_158 4 (cct [102, 114, 111, 109]) A s s.heap := hX_q_157
          obtain ⟨xo_q_157, xc_q_157, xv_q_157, xt_q_157, xn_q_157⟩ := id hX_q_157
          have hr_q_157 : vk_R "PostGateModel" 488 "from" q_157 s := hr_q_157
          refine va_ldcwS hx hb hown hr_q_157 dX15_isNames_147 ?_
          have hFc := pg_free hD hS hA
          refine va_calli (va_runS (As := [.ref sb, .int (nI a3), .int (nI i), .ref q_157]) (rest := [.int v54_142, .ref h0]) ⟨hx, hb, hml, hown, hts⟩ (s_X15_isAlike_e l dC dI cs ty gm L H.size F_116 sb (ρ + 12) 3000 q_157 v_158 4 (cct [102, 114, 111, 109]) a3 i fb hW hi_39 ht_40 hF_127 (by omega) (by omega)) ⟨callB_of 4 hts (gi kt_851) rfl rfl rfl (hts _ kt_669) (hts _ kt_852) (by decide +kernel) ⟨Nat.le_of_ble_eq_true rfl, Nat.le_of_ble_eq_true rfl⟩, (hts _ kt_853)⟩ ⟨fun a U g mk q => ⟨q.1, PTEm.calling q.2⟩, fun U hU hWm => ⟨rfl, PTEm.mk hU hWm hP hK hD hE hO hG (fun x hx => by rw [List.mem_singleton] at hx; subst hx; exact hX_q_157) hS hFc⟩⟩ rfl rfl hl.1 rfl (lv_room (Nat.le_of_ble_eq_true rfl)) dX15_isNames_150 ⟨by show _ + 0 ≤ 0; omega, by show _ + 0 ≤ 0; omega⟩) hS (fun q _ h => hFc q h) hFc (fun r_159 u t H1 locs ht hvm hw hB hz1 hk1 hS => ?_)
          obtain ⟨F_160, hB1⟩ := hB
          obtain rfl : F_116 = F_160 := (funext (fun a => hB1.2.2.2 a List.not_mem_nil)).symm
          obtain ⟨hP, hD, hO, hR⟩ := QTm.back hB1 ht hFc hR (fun q h => absurd h List.not_mem_nil)
          generalize H1 = H at hP hS ⊢
          have hw : ((r_159 = 1 ∧ alP fb a3 i (cct [102, 114, 111, 109]) 4) ∨ (r_159 = 0 ∧ ¬ alP fb a3 i (cct [102, 114, 111, 109]) 4)) := hw
          have hw_161 := hw
          have hAK : (r_159 = 1 ∧ FRM (TC fb zx) a3 i) ∨ (r_159 = 0 ∧ ¬ FRM (TC fb zx) a3 i) := by rcases hw_161 with q | q; exact Or.inl ⟨q.1, frm_nal.mp ((alp_nal (z := zx) ⟨rfl, by decide +kernel⟩ (by omega)).mp q.2)⟩; exact Or.inr ⟨q.1, fun w => q.2 ((alp_nal (z := zx) ⟨rfl, by decide +kernel⟩ (by omega)).mpr (frm_nal.mpr w))⟩
          refine lv_ior hx hb dX15_isNames_153 ?_
          refine lv_topi (fun x_162 ex_162 => ?_)
          obtain rfl : x_162 = (v54_142 ||| r_159) := ex_162.trans (rfl)
          have hbu : ug9 = 0 ∨ ug9 = 1 := by rcases hv3.2.2 with q | q; exact Or.inr q.1; exact Or.inl q.1
          have hbn : (v54_142 ||| r_159) = 0 ∨ (v54_142 ||| r_159) = 1 := orbit (by rw [hue]; exact hbu) (by rcases hAK with q | q; exact Or.inr q.1; exact Or.inl q.1)
          have hlj : HLI (TC fb zx) (gq 1 j + 1) (gq 2 j) (i + 1) (v54_142 ||| r_159) (pre ++ [(a3, i)]) := by rcases hAK with q | q; rw [or_10 (by rw [hue]; exact hbu) q.1]; exact hli_y hv3 (by omega) hfd hFN (Or.inr q.2); rw [or_u0 q.1, hue]; rcases hv3.2.2 with w | w; rw [w.1]; exact hli_y hv3 (by omega) hfd hFN (Or.inl w.2); rw [w.1]; exact hli_z hv3 (by omega) hfd hFN w.1 q.2
          refine pg_put (ci := 15) (v := .int (v54_142 ||| r_159)) (ty := .boolean) (C := RX15) (T := TX15) (N := 59) hx hb hts it_15 tyX15 tyX15_ok nmX15 hown hK hP hD hS hL_h0 hF_143 rfl 54 (by decide) (hts _ kt_849) (fun _ h9 => h9) rfl (by decide +kernel) (bitN hbn) (bitF hbn) (Nat.le_of_ble_eq_true rfl) dX15_isNames_154 (fun H locs hP hD hS => ?_)
          obtain ⟨F_163, he_164, hP, hD, hO, hR⟩ : ∃ G, G = va_up F_116 h0 (.inr (15, (.ref ta) :: (.int (nI zt)) :: (.int (nI zo)) :: (.int (nI ze)) :: (.ref ou) :: (.ref so) :: (.ref ad) :: (.ref na) :: (.ref va) :: (.ref lc) :: (.ref dm) :: (.int (nI fm)) :: (.int (nI sn)) :: (.ref tg) :: (.int v14_131) :: (.int v15_132) :: (.ref pe) :: (.int v17_133) :: (.int v18_134) :: (.int v19_135) :: (.int v20_136) :: (.int v21_137) :: (.int v22_138) :: (.ref ml) :: (.ref bg) :: (.ref co) :: (.ref sp) :: (.ref nb0) :: (.ref nb1) :: (.ref nb2) :: (.int (nI nf)) :: (.int (nI bd)) :: (.int (nI mm)) :: (.int v33_139) :: (.ref pl) :: (.ref se) :: (.ref ke) :: (.ref wi) :: (.ref hs) :: (.ref mo) :: (.ref po) :: (.ref nu) :: (.ref pr) :: (.ref sq) :: (.ref xa) :: (.ref sa) :: (.ref n64) :: (.ref m64) :: (.ref ex) :: (.ref wh) :: (.ref sd) :: (.ref tk) :: (.int v52_140) :: (.int v53_141) :: (.int (v54_142 ||| r_159)) :: (.ref hd) :: (.ref ak) :: (.ref ho) :: (.ref ot) :: [])) ∧ va_P (dC, dI) vwCl (va_pl L G) H ∧ va_D A (va_pl L G) ∧ OKm cs ty gm L G ∧ FR ty [ρ] F G := ⟨_, rfl, hP, hD, hO.up (shm.mod hT_h0 ⟨v14_131, v15_132, v17_133, v18_134, v19_135, v20_136, v21_137, v22_138, v33_139, v52_140, v53_141, (v54_142 ||| r_159), rfl, (by first | omega | assumption | exact Or.inl rfl | exact Or.inr rfl), (by first | omega | assumption | exact Or.inl rfl | exact Or.inr rfl), (by first | omega | assumption | exact Or.inl rfl | exact Or.inr rfl), (by first | omega | assumption | exact Or.inl rfl | exact Or.inr rfl), (by first | omega | assumption | exact Or.inl rfl | exact Or.inr rfl)⟩), hR.up hT_h0 (by simp)⟩
          have hF_165 : F_163 h0 = .inr (15, (.ref ta) :: (.int (nI zt)) :: (.int (nI zo)) :: (.int (nI ze)) :: (.ref ou) :: (.ref so) :: (.ref ad) :: (.ref na) :: (.ref va) :: (.ref lc) :: (.ref dm) :: (.int (nI fm)) :: (.int (nI sn)) :: (.ref tg) :: (.int v14_131) :: (.int v15_132) :: (.ref pe) :: (.int v17_133) :: (.int v18_134) :: (.int v19_135) :: (.int v20_136) :: (.int v21_137) :: (.int v22_138) :: (.ref ml) :: (.ref bg) :: (.ref co) :: (.ref sp) :: (.ref nb0) :: (.ref nb1) :: (.ref nb2) :: (.int (nI nf)) :: (.int (nI bd)) :: (.int (nI mm)) :: (.int v33_139) :: (.ref pl) :: (.ref se) :: (.ref ke) :: (.ref wi) :: (.ref hs) :: (.ref mo) :: (.ref po) :: (.ref nu) :: (.ref pr) :: (.ref sq) :: (.ref xa) :: (.ref sa) :: (.ref n64) :: (.ref m64) :: (.ref ex) :: (.ref wh) :: (.ref sd) :: (.ref tk) :: (.int v52_140) :: (.int v53_141) :: (.int (v54_142 ||| r_159)) :: (.ref hd) :: (.ref ak) :: (.ref ho) :: (.ref ot) :: []) := by rw [he_164]; exact up_self
          have hF_166 : F_163 se = .inr (13, [.ref sx, .ref s0, .ref s1, .ref s2, .int (nI nn)]) := by rw [he_164, up_ne (ne_ty ht_30 hT_h0 (by simp))]; exact hF_125
          have hF_167 : F_163 sx = .inr (14, [.ref sb, .int (nI zx)]) := by rw [he_164, up_ne (ne_ty hT_sx hT_h0 (by simp))]; exact hF_126
          have hF_168 : F_163 sb = .inl (cs 17, 3000, .inl fb) := by rw [he_164, up_ne (ne_ty ht_40 hT_h0 (by simp))]; exact hF_127
          have hF_169 : F_163 s0 = .inl (cs 16, 40, .inl e0) := by rw [he_164, up_ne (ne_ty ht_34 hT_h0 (by simp))]; exact hF_128
          have hF_170 : F_163 s1 = .inl (cs 16, 40, .inl e1) := by rw [he_164, up_ne (ne_ty ht_35 hT_h0 (by simp))]; exact hF_129
          have hF_171 : F_163 s2 = .inl (cs 16, 40, .inl e2) := by rw [he_164, up_ne (ne_ty ht_36 hT_h0 (by simp))]; exact hF_130
          have hu9 : gF (F_163 h0) 54 = (v54_142 ||| r_159) := by rw [hF_165]; rfl
          refine lv_iload hx hb dX15_isNames_157 (lv_at hl 0 rfl) ?_
          refine lv_iconst (v := 1) hx hb dX15_isNames_159 (by decide) ?_
          refine lv_iadd hx hb dX15_isNames_160 ?_
          refine lv_topi (fun x_172 ex_172 => ?_)
          obtain rfl : x_172 = (nI (i + 1)) := ex_172.trans (nI_1 i)
          refine lv_istore_n (lv' := [(3, .int (nI (i + 1))), (4, .int (nI i)), (2, .ref sb), (1, .int (nI j)), (0, .ref h0)]) hx hb dX15_isNames_161 rfl hl (by decide) rfl (fun ls hl => ?_)
          refine lv_goto (tgt := 45) hx hb dX15_isNames_162 (by decide) ?_
          refine W.widen (k := 0) (n := 0) (by omega) (by omega) ?_
          exact ih_87 ((i + 1), (pre ++ [(a3, i)]), (v54_142 ||| r_159)) F_163 (⟨by omega, by omega, hlj, hu9⟩) (by show (gq 2 j) + 1 - (i + 1) < (gq 2 j) + 1 - a3; omega) hO hR _ _ hP hD hS ls (lv_sub hl [0, 2, 3, 4] rfl)
        ·
          have hFN : ¬ FNC (TC fb zx) a3 i := fun q => in_sub0 hw_155 c_156 (lo := 1) (hi := 20) (by decide) (by decide) (by omega) (by omega) ⟨by have h9 := q.1; omega, by have h9 := q.2.1; omega⟩
          refine lv_iconst (v := 0) hx hb dX15_isNames_136 (by decide) ?_
          refine W.widen (k := 0) (n := 0) (by omega) (by omega) ?_
          exact W.zret (v := 0) (ty := .boolean) hx hb hr (by decide) (fun t ht hWm => ⟨⟨0, (), rfl, (Or.inr ⟨rfl, by rw [hR9]; exact hli_v hv3 hae hfd hFN⟩), ⟨F_116, v54_142, QTm.mk ht hP hD hO hR, (by rw [hF_143]; rfl), (fun q => absurd q (by rw [hR9]; exact hli_v hv3 hae hfd hFN))⟩⟩, hS.F ht⟩) hS.2.2 dX15_isNames_137
      ·
        have hi_173 : i < (gq 2 j) := ltN (N := (gq 2 j)) c_150
        have hib : i < (gq 2 j) := Nat.not_le.mp (fun q => c_150 ((nI_leI (by omega) (by omega)).mpr q))
        refine lv_aload_n hx hb dX15_isNames_75 rfl (lv_at hl 2 rfl) ?_
        refine lv_iload hx hb dX15_isNames_76 (lv_at hl 0 rfl) ?_
        refine pg_bald hx hb hK hP hi_39 1 hF_127 rfl (vp_in_nI (by omega) (by omega)) dX15_isNames_78 ?_
        refine lv_topi (fun x_174 ex_174 => ?_)
        obtain rfl : x_174 = (fb i) := ex_174.trans (congrArg fb (nI_clamp (by omega)))
        refine lv_bipush (v := 58) hx hb dX15_isNames_79 (by decide) ?_
        refine lv_icmp_eq (tgt := 121) hx hb dX15_isNames_81 (by decide) (fun c_175 => ?_) (fun c_175 => ?_)
        ·
          have h58 : (TC fb zx) i = 58 := (tcc (show i < zx by omega) 58 (by omega)).mpr c_175
          have hfd : fdT (TC fb zx) 58 a3 (gq 2 j) = i := fd_at hw1 hw2 (fun q9 h1 h2 => (hw3 q9 h1 h2).1) (Or.inr h58)
          refine lv_iload hx hb dX15_isNames_121 (lv_at hl 0 rfl) ?_
          refine lv_iload_n hx hb dX15_isNames_123 rfl (lv_at hl 1 rfl) ?_
          refine lv_isub hx hb dX15_isNames_124 ?_
          refine lv_topi (fun x_176 ex_176 => ?_)
          obtain rfl : x_176 = (nI i - nI a3) := ex_176.trans (rfl)
          refine lv_i2l (v := (nI i - nI a3).toInt64) hx hb dX15_isNames_125 rfl ?_
          refine lv_lconst (v := 1) hx hb dX15_isNames_126 (by decide) ?_
          refine lv_ldc2 (v := 20) hx hb hown (hts _ kt_850) dX15_isNames_127 ?_
          have hFc := pg_free hD hS hA
          refine va_calli (va_runS (As := [.long ((nI i - nI a3).toInt64), .long 1, .long 20]) (rest := []) ⟨hx, hb, hml, hown, hts⟩ (s_X15_in l dC dI cs ty gm L H.size F_116 ((nI i - nI a3).toInt64) 1 20 hW ) ⟨callB_of 3 hts (gi kt_685) rfl rfl rfl (hts _ kt_669) (hts _ kt_705) (by decide +kernel) ⟨Nat.le_of_ble_eq_true rfl, Nat.le_of_ble_eq_true rfl⟩, (hts _ kt_686)⟩ ⟨fun a U g mk q => ⟨q.1, PTm.calling q.2⟩, fun U hU hWm => ⟨rfl, PTm.mk hU hWm hP hK hD hE hO⟩⟩ rfl rfl hl.1 rfl (lv_room (Nat.le_of_ble_eq_true rfl)) dX15_isNames_130 ⟨by show _ + 0 ≤ 0; omega, by show _ + 0 ≤ 0; omega⟩) hS (fun q _ h => hFc q h) hFc (fun r_177 u t H1 locs ht hvm hw hB hz1 hk1 hS => ?_)
          obtain ⟨F_178, hB1⟩ := hB
          obtain rfl : F_116 = F_178 := (funext (fun a => hB1.2.2.2 a List.not_mem_nil)).symm
          obtain ⟨hP, hD, hO, hR⟩ := QTm.back hB1 ht hFc hR (fun q h => absurd h List.not_mem_nil)
          generalize H1 = H at hP hS ⊢
          have hw : r_177 = (if 1 ≤ (nI i - nI a3).toInt64 ∧ (nI i - nI a3).toInt64 ≤ 20 then 1 else 0) := hw
          have hw_179 := hw
          refine lv_if_ne (tgt := 138) hx hb dX15_isNames_133 (by decide) (fun c_180 => ?_) (fun c_180 => ?_)
          ·
            obtain ⟨hl1, hl2⟩ := in_sub hw_179 c_180 (lo := 1) (hi := 20) (by decide) (by decide) (by omega) (by omega)
            have hFN : FNC (TC fb zx) a3 i := ⟨by omega, by omega, fun q9 h1 h2 => (hw3 q9 h1 h2).2⟩
            refine lv_aload_n hx hb dX15_isNames_138 rfl (lv_at hl 4 rfl) ?_
            refine lv_dup hx hb dX15_isNames_139 rfl ?_
            refine pg_get (ci := 15) (v := .int v54_142) (C := RX15) (T := TX15) (N := 59) hx hb hts it_15 hown hK hP hL_h0 hF_143 rfl 54 (by decide) (hts _ kt_849) (fun _ h9 => h9) rfl dX15_isNames_140 ?_
            refine lv_aload_n hx hb dX15_isNames_143 rfl (lv_at hl 2 rfl) ?_
            refine lv_iload_n hx hb dX15_isNames_144 rfl (lv_at hl 1 rfl) ?_
            refine lv_iload hx hb dX15_isNames_145 (lv_at hl 0 rfl) ?_
            obtain ⟨q_181, v_182, hr_q_181, hX_q_181⟩ := hG.2.2 ("PostGateModel", 488, "from", [102, 114, 111, 109]) (by decide +kernel)
            have hX_q_181 : SXc q_181 v_182 4 (cct [102, 114, 111, 109]) A s s.heap := hX_q_181
            obtain ⟨xo_q_181, xc_q_181, xv_q_181, xt_q_181, xn_q_181⟩ := id hX_q_181
            have hr_q_181 : vk_R "PostGateModel" 488 "from" q_181 s := hr_q_181
            refine va_ldcwS hx hb hown hr_q_181 dX15_isNames_147 ?_
            have hFc := pg_free hD hS hA
            refine va_calli (va_runS (As := [.ref sb, .int (nI a3), .int (nI i), .ref q_181]) (rest := [.int v54_142, .ref h0]) ⟨hx, hb, hml, hown, hts⟩ (s_X15_isAlike_e l dC dI cs ty gm L H.size F_116 sb (ρ + 12) 3000 q_181 v_182 4 (cct [102, 114, 111, 109]) a3 i fb hW hi_39 ht_40 hF_127 (by omega) (by omega)) ⟨callB_of 4 hts (gi kt_851) rfl rfl rfl (hts _ kt_669) (hts _ kt_852) (by decide +kernel) ⟨Nat.le_of_ble_eq_true rfl, Nat.le_of_ble_eq_true rfl⟩, (hts _ kt_853)⟩ ⟨fun a U g mk q => ⟨q.1, PTEm.calling q.2⟩, fun U hU hWm => ⟨rfl, PTEm.mk hU hWm hP hK hD hE hO hG (fun x hx => by rw [List.mem_singleton] at hx; subst hx; exact hX_q_181) hS hFc⟩⟩ rfl rfl hl.1 rfl (lv_room (Nat.le_of_ble_eq_true rfl)) dX15_isNames_150 ⟨by show _ + 0 ≤ 0; omega, by show _ + 0 ≤ 0; omega⟩) hS (fun q _ h => hFc q h) hFc (fun r_183 u t H1 locs ht hvm hw hB hz1 hk1 hS => ?_)
            obtain ⟨F_184, hB1⟩ := hB
            obtain rfl : F_116 = F_184 := (funext (fun a => hB1.2.2.2 a List.not_mem_nil)).symm
            obtain ⟨hP, hD, hO, hR⟩ := QTm.back hB1 ht hFc hR (fun q h => absurd h List.not_mem_nil)
            generalize H1 = H at hP hS ⊢
            have hw : ((r_183 = 1 ∧ alP fb a3 i (cct [102, 114, 111, 109]) 4) ∨ (r_183 = 0 ∧ ¬ alP fb a3 i (cct [102, 114, 111, 109]) 4)) := hw
            have hw_185 := hw
            have hAK : (r_183 = 1 ∧ FRM (TC fb zx) a3 i) ∨ (r_183 = 0 ∧ ¬ FRM (TC fb zx) a3 i) := by rcases hw_185 with q | q; exact Or.inl ⟨q.1, frm_nal.mp ((alp_nal (z := zx) ⟨rfl, by decide +kernel⟩ (by omega)).mp q.2)⟩; exact Or.inr ⟨q.1, fun w => q.2 ((alp_nal (z := zx) ⟨rfl, by decide +kernel⟩ (by omega)).mpr (frm_nal.mpr w))⟩
            refine lv_ior hx hb dX15_isNames_153 ?_
            refine lv_topi (fun x_186 ex_186 => ?_)
            obtain rfl : x_186 = (v54_142 ||| r_183) := ex_186.trans (rfl)
            have hbu : ug9 = 0 ∨ ug9 = 1 := by rcases hv3.2.2 with q | q; exact Or.inr q.1; exact Or.inl q.1
            have hbn : (v54_142 ||| r_183) = 0 ∨ (v54_142 ||| r_183) = 1 := orbit (by rw [hue]; exact hbu) (by rcases hAK with q | q; exact Or.inr q.1; exact Or.inl q.1)
            have hlj : HLI (TC fb zx) (gq 1 j + 1) (gq 2 j) (i + 1) (v54_142 ||| r_183) (pre ++ [(a3, i)]) := by rcases hAK with q | q; rw [or_10 (by rw [hue]; exact hbu) q.1]; exact hli_y hv3 (by omega) hfd hFN (Or.inr q.2); rw [or_u0 q.1, hue]; rcases hv3.2.2 with w | w; rw [w.1]; exact hli_y hv3 (by omega) hfd hFN (Or.inl w.2); rw [w.1]; exact hli_z hv3 (by omega) hfd hFN w.1 q.2
            refine pg_put (ci := 15) (v := .int (v54_142 ||| r_183)) (ty := .boolean) (C := RX15) (T := TX15) (N := 59) hx hb hts it_15 tyX15 tyX15_ok nmX15 hown hK hP hD hS hL_h0 hF_143 rfl 54 (by decide) (hts _ kt_849) (fun _ h9 => h9) rfl (by decide +kernel) (bitN hbn) (bitF hbn) (Nat.le_of_ble_eq_true rfl) dX15_isNames_154 (fun H locs hP hD hS => ?_)
            obtain ⟨F_187, he_188, hP, hD, hO, hR⟩ : ∃ G, G = va_up F_116 h0 (.inr (15, (.ref ta) :: (.int (nI zt)) :: (.int (nI zo)) :: (.int (nI ze)) :: (.ref ou) :: (.ref so) :: (.ref ad) :: (.ref na) :: (.ref va) :: (.ref lc) :: (.ref dm) :: (.int (nI fm)) :: (.int (nI sn)) :: (.ref tg) :: (.int v14_131) :: (.int v15_132) :: (.ref pe) :: (.int v17_133) :: (.int v18_134) :: (.int v19_135) :: (.int v20_136) :: (.int v21_137) :: (.int v22_138) :: (.ref ml) :: (.ref bg) :: (.ref co) :: (.ref sp) :: (.ref nb0) :: (.ref nb1) :: (.ref nb2) :: (.int (nI nf)) :: (.int (nI bd)) :: (.int (nI mm)) :: (.int v33_139) :: (.ref pl) :: (.ref se) :: (.ref ke) :: (.ref wi) :: (.ref hs) :: (.ref mo) :: (.ref po) :: (.ref nu) :: (.ref pr) :: (.ref sq) :: (.ref xa) :: (.ref sa) :: (.ref n64) :: (.ref m64) :: (.ref ex) :: (.ref wh) :: (.ref sd) :: (.ref tk) :: (.int v52_140) :: (.int v53_141) :: (.int (v54_142 ||| r_183)) :: (.ref hd) :: (.ref ak) :: (.ref ho) :: (.ref ot) :: [])) ∧ va_P (dC, dI) vwCl (va_pl L G) H ∧ va_D A (va_pl L G) ∧ OKm cs ty gm L G ∧ FR ty [ρ] F G := ⟨_, rfl, hP, hD, hO.up (shm.mod hT_h0 ⟨v14_131, v15_132, v17_133, v18_134, v19_135, v20_136, v21_137, v22_138, v33_139, v52_140, v53_141, (v54_142 ||| r_183), rfl, (by first | omega | assumption | exact Or.inl rfl | exact Or.inr rfl), (by first | omega | assumption | exact Or.inl rfl | exact Or.inr rfl), (by first | omega | assumption | exact Or.inl rfl | exact Or.inr rfl), (by first | omega | assumption | exact Or.inl rfl | exact Or.inr rfl), (by first | omega | assumption | exact Or.inl rfl | exact Or.inr rfl)⟩), hR.up hT_h0 (by simp)⟩
            have hF_189 : F_187 h0 = .inr (15, (.ref ta) :: (.int (nI zt)) :: (.int (nI zo)) :: (.int (nI ze)) :: (.ref ou) :: (.ref so) :: (.ref ad) :: (.ref na) :: (.ref va) :: (.ref lc) :: (.ref dm) :: (.int (nI fm)) :: (.int (nI sn)) :: (.ref tg) :: (.int v14_131) :: (.int v15_132) :: (.ref pe) :: (.int v17_133) :: (.int v18_134) :: (.int v19_135) :: (.int v20_136) :: (.int v21_137) :: (.int v22_138) :: (.ref ml) :: (.ref bg) :: (.ref co) :: (.ref sp) :: (.ref nb0) :: (.ref nb1) :: (.ref nb2) :: (.int (nI nf)) :: (.int (nI bd)) :: (.int (nI mm)) :: (.int v33_139) :: (.ref pl) :: (.ref se) :: (.ref ke) :: (.ref wi) :: (.ref hs) :: (.ref mo) :: (.ref po) :: (.ref nu) :: (.ref pr) :: (.ref sq) :: (.ref xa) :: (.ref sa) :: (.ref n64) :: (.ref m64) :: (.ref ex) :: (.ref wh) :: (.ref sd) :: (.ref tk) :: (.int v52_140) :: (.int v53_141) :: (.int (v54_142 ||| r_183)) :: (.ref hd) :: (.ref ak) :: (.ref ho) :: (.ref ot) :: []) := by rw [he_188]; exact up_self
            have hF_190 : F_187 se = .inr (13, [.ref sx, .ref s0, .ref s1, .ref s2, .int (nI nn)]) := by rw [he_188, up_ne (ne_ty ht_30 hT_h0 (by simp))]; exact hF_125
            have hF_191 : F_187 sx = .inr (14, [.ref sb, .int (nI zx)]) := by rw [he_188, up_ne (ne_ty hT_sx hT_h0 (by simp))]; exact hF_126
            have hF_192 : F_187 sb = .inl (cs 17, 3000, .inl fb) := by rw [he_188, up_ne (ne_ty ht_40 hT_h0 (by simp))]; exact hF_127
            have hF_193 : F_187 s0 = .inl (cs 16, 40, .inl e0) := by rw [he_188, up_ne (ne_ty ht_34 hT_h0 (by simp))]; exact hF_128
            have hF_194 : F_187 s1 = .inl (cs 16, 40, .inl e1) := by rw [he_188, up_ne (ne_ty ht_35 hT_h0 (by simp))]; exact hF_129
            have hF_195 : F_187 s2 = .inl (cs 16, 40, .inl e2) := by rw [he_188, up_ne (ne_ty ht_36 hT_h0 (by simp))]; exact hF_130
            have hu9 : gF (F_187 h0) 54 = (v54_142 ||| r_183) := by rw [hF_189]; rfl
            refine lv_iload hx hb dX15_isNames_157 (lv_at hl 0 rfl) ?_
            refine lv_iconst (v := 1) hx hb dX15_isNames_159 (by decide) ?_
            refine lv_iadd hx hb dX15_isNames_160 ?_
            refine lv_topi (fun x_196 ex_196 => ?_)
            obtain rfl : x_196 = (nI (i + 1)) := ex_196.trans (nI_1 i)
            refine lv_istore_n (lv' := [(3, .int (nI (i + 1))), (4, .int (nI i)), (2, .ref sb), (1, .int (nI j)), (0, .ref h0)]) hx hb dX15_isNames_161 rfl hl (by decide) rfl (fun ls hl => ?_)
            refine lv_goto (tgt := 45) hx hb dX15_isNames_162 (by decide) ?_
            refine W.widen (k := 0) (n := 0) (by omega) (by omega) ?_
            exact ih_87 ((i + 1), (pre ++ [(a3, i)]), (v54_142 ||| r_183)) F_187 (⟨by omega, by omega, hlj, hu9⟩) (by show (gq 2 j) + 1 - (i + 1) < (gq 2 j) + 1 - a3; omega) hO hR _ _ hP hD hS ls (lv_sub hl [0, 2, 3, 4] rfl)
          ·
            have hFN : ¬ FNC (TC fb zx) a3 i := fun q => in_sub0 hw_179 c_180 (lo := 1) (hi := 20) (by decide) (by decide) (by omega) (by omega) ⟨by have h9 := q.1; omega, by have h9 := q.2.1; omega⟩
            refine lv_iconst (v := 0) hx hb dX15_isNames_136 (by decide) ?_
            refine W.widen (k := 0) (n := 0) (by omega) (by omega) ?_
            exact W.zret (v := 0) (ty := .boolean) hx hb hr (by decide) (fun t ht hWm => ⟨⟨0, (), rfl, (Or.inr ⟨rfl, by rw [hR9]; exact hli_v hv3 hae hfd hFN⟩), ⟨F_116, v54_142, QTm.mk ht hP hD hO hR, (by rw [hF_143]; rfl), (fun q => absurd q (by rw [hR9]; exact hli_v hv3 hae hfd hFN))⟩⟩, hS.F ht⟩) hS.2.2 dX15_isNames_137
        ·
          have h58 : ¬ (TC fb zx) i = 58 := fun q => c_175 ((tcc (show i < zx by omega) 58 (by omega)).mp q)
          have hF_199 : F se = .inr (13, [.ref sx, .ref s0, .ref s1, .ref s2, .int (nI nn)]) := (hR se (by rw [ht_30]; simp)).symm.trans hF_125
          have hF_200 : F sx = .inr (14, [.ref sb, .int (nI zx)]) := (hR sx (by rw [hT_sx]; simp)).symm.trans hF_126
          have hF_201 : F sb = .inl (cs 17, 3000, .inl fb) := (hR sb (by rw [ht_40]; simp)).symm.trans hF_127
          have hF_202 : F s0 = .inl (cs 16, 40, .inl e0) := (hR s0 (by rw [ht_34]; simp)).symm.trans hF_128
          have hF_203 : F s1 = .inl (cs 16, 40, .inl e1) := (hR s1 (by rw [ht_35]; simp)).symm.trans hF_129
          have hF_204 : F s2 = .inl (cs 16, 40, .inl e2) := (hR s2 (by rw [ht_36]; simp)).symm.trans hF_130
          refine W.widen (k := 0) (n := 0) (by omega) (by omega) ?_
          refine pl_cutm (σ := Unit) A (dC, dI) cs ty gm L [ρ] F 115 5 (fun u0 => [(4, .int (nI i)), (3, .int (nI a3)), (2, .ref sb), (1, .int (nI j)), (0, .ref h0)]) (fun u0 => []) (fun u0 FF => FSC ((TC fb zx) i) ∧ gF (FF h0) 54 = ug9) ?_ (fun jn_197 => ?_)
          ·
            rintro u0 F_198 hv_205 hO hR H locs hP hD hS ls hl
            have hl : lv_has ls 5 [(4, .int (nI i)), (3, .int (nI a3)), (2, .ref sb), (1, .int (nI j)), (0, .ref h0)] := hl
            have hv_205 : FSC ((TC fb zx) i) ∧ gF (F_198 h0) 54 = ug9 := hv_205
            refine W.eq (g2 := F0 m 115 ls []) rfl ?_
            have hF_206 : F_198 se = .inr (13, [.ref sx, .ref s0, .ref s1, .ref s2, .int (nI nn)]) := (hR se (by rw [ht_30]; simp)).trans hF_199
            have hF_207 : F_198 sx = .inr (14, [.ref sb, .int (nI zx)]) := (hR sx (by rw [hT_sx]; simp)).trans hF_200
            have hF_208 : F_198 sb = .inl (cs 17, 3000, .inl fb) := (hR sb (by rw [ht_40]; simp)).trans hF_201
            have hF_209 : F_198 s0 = .inl (cs 16, 40, .inl e0) := (hR s0 (by rw [ht_34]; simp)).trans hF_202
            have hF_210 : F_198 s1 = .inl (cs 16, 40, .inl e1) := (hR s1 (by rw [ht_35]; simp)).trans hF_203
            have hF_211 : F_198 s2 = .inl (cs 16, 40, .inl e2) := (hR s2 (by rw [ht_36]; simp)).trans hF_204
            obtain ⟨hfs, hw4⟩ := id hv_205
            obtain ⟨v14_212, v15_213, v17_214, v18_215, v19_216, v20_217, v21_218, v22_219, v33_220, v52_221, v53_222, v54_223, hF_224, hq_225, hq_226, hq_227, hq_228, hq_229⟩ := hO.mod hL_h0 hT_h0
            have hue : v54_223 = ug9 := by have h9 := hw4; rw [hF_224] at h9; exact h9
            refine lv_iinc (v := (nI (i + 1))) (lv' := [(4, .int (nI (i + 1))), (3, .int (nI a3)), (2, .ref sb), (1, .int (nI j)), (0, .ref h0)]) hx hb dX15_isNames_115 hl (k := 0) rfl (nI_1 _) (by decide) rfl (fun ls hl => ?_)
            refine lv_goto (tgt := 61) hx hb dX15_isNames_118 (by decide) ?_
            refine W.widen (k := 0) (n := 0) (by omega) (by omega) ?_
            exact ih_124 (i + 1) F_198 (⟨by omega, by omega, fun q9 h1 h2 => by rcases Nat.lt_or_ge q9 i with w9 | w9; exact hw3 q9 h1 w9; rw [show q9 = i by omega]; exact ⟨h58, hfs⟩, hw4⟩) (by show (gq 2 j) - (i + 1) < (gq 2 j) - i; omega) hO hR _ _ hP hD hS ls (lv_sub hl [0, 1, 2, 3, 4] rfl)
          ·
            refine lv_aload_n hx hb dX15_isNames_84 rfl (lv_at hl 2 rfl) ?_
            refine lv_iload hx hb dX15_isNames_85 (lv_at hl 0 rfl) ?_
            refine pg_bald hx hb hK hP hi_39 1 hF_127 rfl (vp_in_nI (by omega) (by omega)) dX15_isNames_87 ?_
            refine lv_topi (fun x_230 ex_230 => ?_)
            obtain rfl : x_230 = (fb i) := ex_230.trans (congrArg fb (nI_clamp (by omega)))
            have hFc := pg_free hD hS hA
            refine va_calli (va_runS (As := [.int (fb i)]) (rest := []) ⟨hx, hb, hml, hown, hts⟩ (s_X15_isLetter_e l dC dI cs ty gm L H.size F_116 (fb i) hW ) ⟨callB_of 1 hts (gi kt_854) rfl rfl rfl (hts _ kt_669) (hts _ kt_855) (by decide +kernel) ⟨Nat.le_of_ble_eq_true rfl, Nat.le_of_ble_eq_true rfl⟩, (hts _ kt_856)⟩ ⟨fun a U g mk q => ⟨q.1, PTm.calling q.2⟩, fun U hU hWm => ⟨rfl, PTm.mk hU hWm hP hK hD hE hO⟩⟩ rfl rfl hl.1 rfl (lv_room (Nat.le_of_ble_eq_true rfl)) dX15_isNames_88 ⟨by show _ + 0 ≤ 0; omega, by show _ + 0 ≤ 0; omega⟩) hS (fun q _ h => hFc q h) hFc (fun r_231 u t H1 locs ht hvm hw hB hz1 hk1 hS => ?_)
            obtain ⟨F_232, hB1⟩ := hB
            obtain rfl : F_116 = F_232 := (funext (fun a => hB1.2.2.2 a List.not_mem_nil)).symm
            obtain ⟨hP, hD, hO, hR⟩ := QTm.back hB1 ht hFc hR (fun q h => absurd h List.not_mem_nil)
            generalize H1 = H at hP hS ⊢
            have hw : r_231 = (if (97 ≤ (fb i) ∧ (fb i) ≤ 122) ∨ (65 ≤ (fb i) ∧ (fb i) ≤ 90) then 1 else 0) := hw
            have hw_233 := hw
            refine lv_if_ne (tgt := 115) hx hb dX15_isNames_91 (by decide) (fun c_234 => ?_) (fun c_234 => ?_)
            ·
              refine W.widen (k := 0) (n := 0) (by omega) (by omega) ?_
              exact jn_197 () F_116 (⟨(by rw [tcn_in (show i < zx by omega)]; exact (fsc_l hw_233).1 c_234), (by rw [hF_143]; exact hue)⟩) hO hR _ _ hP hD hS ls (lv_sub hl [0, 1, 2, 3, 4] rfl)
            ·
              refine lv_aload_n hx hb dX15_isNames_94 rfl (lv_at hl 2 rfl) ?_
              refine lv_iload hx hb dX15_isNames_95 (lv_at hl 0 rfl) ?_
              refine pg_bald hx hb hK hP hi_39 1 hF_127 rfl (vp_in_nI (by omega) (by omega)) dX15_isNames_97 ?_
              refine lv_topi (fun x_235 ex_235 => ?_)
              obtain rfl : x_235 = (fb i) := ex_235.trans (congrArg fb (nI_clamp (by omega)))
              have hFc := pg_free hD hS hA
              refine va_calli (va_runS (As := [.int (fb i)]) (rest := []) ⟨hx, hb, hml, hown, hts⟩ (s_X15_isDigit_e l dC dI cs ty gm L H.size F_116 (fb i) hW ) ⟨callB_of 1 hts (gi kt_687) rfl rfl rfl (hts _ kt_669) (hts _ kt_707) (by decide +kernel) ⟨Nat.le_of_ble_eq_true rfl, Nat.le_of_ble_eq_true rfl⟩, (hts _ kt_688)⟩ ⟨fun a U g mk q => ⟨q.1, PTm.calling q.2⟩, fun U hU hWm => ⟨rfl, PTm.mk hU hWm hP hK hD hE hO⟩⟩ rfl rfl hl.1 rfl (lv_room (Nat.le_of_ble_eq_true rfl)) dX15_isNames_98 ⟨by show _ + 0 ≤ 0; omega, by show _ + 0 ≤ 0; omega⟩) hS (fun q _ h => hFc q h) hFc (fun r_236 u t H1 locs ht hvm hw hB hz1 hk1 hS => ?_)
              obtain ⟨F_237, hB1⟩ := hB
              obtain rfl : F_116 = F_237 := (funext (fun a => hB1.2.2.2 a List.not_mem_nil)).symm
              obtain ⟨hP, hD, hO, hR⟩ := QTm.back hB1 ht hFc hR (fun q h => absurd h List.not_mem_nil)
              generalize H1 = H at hP hS ⊢
              have hw : r_236 = (if 48 ≤ (fb i) ∧ (fb i) ≤ 57 then 1 else 0) := hw
              have hw_238 := hw
              refine lv_if_ne (tgt := 115) hx hb dX15_isNames_101 (by decide) (fun c_239 => ?_) (fun c_239 => ?_)
              ·
                refine W.widen (k := 0) (n := 0) (by omega) (by omega) ?_
                exact jn_197 () F_116 (⟨(by rw [tcn_in (show i < zx by omega)]; exact Or.inr (Or.inl (sme_d hw_238 c_239))), (by rw [hF_143]; exact hue)⟩) hO hR _ _ hP hD hS ls (lv_sub hl [0, 1, 2, 3, 4] rfl)
              ·
                refine lv_aload_n hx hb dX15_isNames_104 rfl (lv_at hl 2 rfl) ?_
                refine lv_iload hx hb dX15_isNames_105 (lv_at hl 0 rfl) ?_
                refine pg_bald hx hb hK hP hi_39 1 hF_127 rfl (vp_in_nI (by omega) (by omega)) dX15_isNames_107 ?_
                refine lv_topi (fun x_240 ex_240 => ?_)
                obtain rfl : x_240 = (fb i) := ex_240.trans (congrArg fb (nI_clamp (by omega)))
                refine lv_bipush (v := 45) hx hb dX15_isNames_108 (by decide) ?_
                refine lv_icmp_eq (tgt := 115) hx hb dX15_isNames_110 (by decide) (fun c_241 => ?_) (fun c_241 => ?_)
                ·
                  refine W.widen (k := 0) (n := 0) (by omega) (by omega) ?_
                  exact jn_197 () F_116 (⟨(Or.inr (Or.inr ((tcc (show i < zx by omega) 45 (by omega)).mpr c_241))), (by rw [hF_143]; exact hue)⟩) hO hR _ _ hP hD hS ls (lv_sub hl [0, 1, 2, 3, 4] rfl)
                ·
                  refine lv_iconst (v := 0) hx hb dX15_isNames_113 (by decide) ?_
                  refine W.widen (k := 0) (n := 0) (by omega) (by omega) ?_
                  exact W.zret (v := 0) (ty := .boolean) hx hb hr (by decide) (fun t ht hWm => ⟨⟨0, (), rfl, (Or.inr ⟨rfl, by rw [hR9]; have hgt : i < fdT (TC fb zx) 58 a3 (gq 2 j) := fd_gt hw1 hib (fun q9 h1 h2 => by rcases Nat.lt_or_ge q9 i with w9 | w9; exact (hw3 q9 h1 w9).1; rw [show q9 = i by omega]; exact h58); exact hli_v hv3 hae rfl (fun q => by have h9 := q.2.2 i hw1 hgt; rcases h9 with w | w | w; exact (fsc_l hw_233).2 c_234 (by rw [← tcn_in (f := fb) (show i < zx by omega)]; exact w); exact sme_n hw_238 c_239 (by rw [← tcn_in (f := fb) (show i < zx by omega)]; exact w); exact c_241 ((tcc (show i < zx by omega) 45 (by omega)).mp w))⟩), ⟨F_116, v54_142, QTm.mk ht hP hD hO hR, (by rw [hF_143]; rfl), (fun q => absurd q (by rw [hR9]; have hgt : i < fdT (TC fb zx) 58 a3 (gq 2 j) := fd_gt hw1 hib (fun q9 h1 h2 => by rcases Nat.lt_or_ge q9 i with w9 | w9; exact (hw3 q9 h1 w9).1; rw [show q9 = i by omega]; exact h58); exact hli_v hv3 hae rfl (fun q => by have h9 := q.2.2 i hw1 hgt; rcases h9 with w | w | w; exact (fsc_l hw_233).2 c_234 (by rw [← tcn_in (f := fb) (show i < zx by omega)]; exact w); exact sme_n hw_238 c_239 (by rw [← tcn_in (f := fb) (show i < zx by omega)]; exact w); exact c_241 ((tcc (show i < zx by omega) 45 (by omega)).mp w))))⟩⟩, hS.F ht⟩) hS.2.2 dX15_isNames_114
  ·
    have hR9 : (tgR (TC fb zx) gq [104] nn) = none := rwx_R hw_66 hcn (Int32.not_le.mp c_76)
    refine lv_iconst (v := 0) hx hb dX15_isNames_20 (by decide) ?_
    refine W.widen (k := 0) (n := 0) (by omega) (by omega) ?_
    exact W.zret (v := 0) (ty := .boolean) hx hb hr (by decide) (fun t ht hWm => ⟨⟨0, (), rfl, (Or.inr ⟨rfl, by rw [hR9]; exact hlv_0⟩), ⟨F_67, 0, QTm.mk ht hP hD hO hR, (by rw [hF_69]; rfl), (fun q => absurd q (by rw [hR9]; exact hlv_0))⟩⟩, hS.F ht⟩) hS.2.2 dX15_isNames_21
theorem isl_sl {T : Nat → Nat} {s e : Nat} {l : List Nat} (h : T s = 47) : ISL T s e (47 :: l) ↔ ISL T (s + 1) e l := by
  unfold ISL LIT
  constructor
  · rintro ⟨q1, q2⟩
    refine ⟨by have h9 : s + (l.length + 1) = e := q1; omega, fun i hi => ?_⟩
    have h8 := q2 (i + 1) (Nat.succ_lt_succ hi)
    rw [show s + (i + 1) = s + 1 + i by omega] at h8
    exact h8
  · rintro ⟨q1, q2⟩
    refine ⟨by show s + (l.length + 1) = e; omega, fun i hi => ?_⟩
    cases i with
    | zero => exact h
    | succ i =>
      have h8 := q2 i (Nat.lt_of_succ_lt_succ hi)
      rw [show s + 1 + i = s + (i + 1) by omega] at h8
      exact h8
theorem isl_no {T : Nat → Nat} {s e : Nat} {x : Nat} {l : List Nat} (h : s = e) : ¬ ISL T s e (x :: l) := fun q => by
  have h9 : s + (l.length + 1) = e := q.1
  omega
theorem cS_47 {T : Nat → Nat} {g : Nat → Nat → Nat} {n : Nat} (h : cA T g n ≤ cB T g n) (hs : ¬ cS T g n = cB T g n) : T (cS T g n) = 47 := by
  have h9 := (fd_y (T := T) (c := 47) h).1
  exact h9.resolve_left hs
set_option maxHeartbeats 4000000 in
set_option maxRecDepth 100000 in
theorem s_X15_isWay_x (l : Launch) (dC : Nat → ClassId) (dI : Nat → Nat → Nat) (cs : Nat → ClassId) (ty : TyM) (gm : Nat → Nat → Nat) (L : List Nat) (sz : Nat) (F : Nat → va_E) (h0 : Nat) (ρ : Nat) (ta : Nat) (ou : Nat) (so : Nat) (ad : Nat) (na : Nat) (va : Nat) (lc : Nat) (dm : Nat) (tg : Nat) (pe : Nat) (ml : Nat) (bg : Nat) (co : Nat) (sp : Nat) (nb0 : Nat) (nb1 : Nat) (nb2 : Nat) (pl : Nat) (se : Nat) (ke : Nat) (wi : Nat) (hs : Nat) (mo : Nat) (po : Nat) (nu : Nat) (pr : Nat) (sq : Nat) (xa : Nat) (sa : Nat) (n64 : Nat) (m64 : Nat) (ex : Nat) (wh : Nat) (sd : Nat) (tk : Nat) (hd : Nat) (ak : Nat) (ho : Nat) (ot : Nat) (sx : Nat) (s0 : Nat) (s1 : Nat) (s2 : Nat) (nf : Nat) (bd : Nat) (mm : Nat) (zo : Nat) (fm : Nat) (sn : Nat) (hg : Nat) (gc : Nat) (gv : Nat) (ze : Nat) (zt : Nat) (sb : Nat) (zx : Nat) (nn : Nat) (fb : Nat → Int32) (e0 : Nat → Int32) (e1 : Nat → Int32) (e2 : Nat → Int32) (gq : Nat → Nat → Nat) (hW : WTm ty gm L) (hL_h0 : h0 ∈ L) (hT_h0 : ty h0 = (15, ρ, [ta, ou, so, ad, na, va, lc, dm, tg, pe, ml, bg, co, sp, nb0, nb1, nb2, pl, se, ke, wi, hs, mo, po, nu, pr, sq, xa, sa, n64, m64, ex, wh, sd, tk, hd, ak, ho, ot, sx, s0, s1, s2, nf, bd, mm, zo, fm, sn, hg, gc, gv, ze, zt])) (hL_sx : sx ∈ L) (hT_sx : ty sx = (14, ρ + 12, [sb, 3000])) (hFs : F se = .inr (13, [.ref sx, .ref s0, .ref s1, .ref s2, .int (nI nn)])) (hFx : F sx = .inr (14, [.ref sb, .int (nI zx)])) (hFb : F sb = .inl (cs 17, 3000, .inl fb)) (hFy0 : F s0 = .inl (cs 16, 40, .inl e0)) (hFy1 : F s1 = .inl (cs 16, 40, .inl e1)) (hFy2 : F s2 = .inl (cs 16, 40, .inl e2)) (hxn : zx ≤ 3000) (hcn : nn ≤ 40) (hhl : HLD e0 e1 e2 nn gq) (hTG : TGI zx nn gq) : Met l yX15_isWay (.code yX15_isWay cX15_isWay 5 (some .boolean) :: tb) ({ frames := 6, cells := 0, slots := 0, locals := 131 }) (va_Pc [.ref h0] (PTEm (dC, dI) cs ty gm L F sz [])) (va_Qi (fun (r : Int32) (_ : Unit) => ((r = 1 ∧ PLO (TC fb zx) gq nn) ∨ (r = 0 ∧ ¬ PLO (TC fb zx) gq nn))) (fun _ T9 => ∃ F2 : Nat → va_E, ∃ b0 : Int32, ∃ b1 : Int32, QTm (dC, dI) cs ty gm L [ρ] F F2 (va_A (va_pl L F) sz) T9 ∧ gF (F2 h0) 52 = b0 ∧ gF (F2 h0) 53 = b1 ∧ gF (F2 h0) 54 = gF (F h0) 54 ∧ (PLO (TC fb zx) gq nn → b0 = frx (TC fb zx) gq nn ∧ b1 = brx (TC fb zx) gq nn)) (va_A (va_pl L F) sz)) 0 0 (va_A (va_pl L F) sz) := by
  refine Met.ofW (cc := cX15_isWay) (maxL := 5) (ret := (some .boolean)) (by decide) rfl ?_
  intro p e s m args below meth c s₁ B hml hv
  obtain ⟨rfl, ⟨hsz, hP, hK, hD0, hE, hO⟩, hG, hX⟩ := hv
  have hx := B.exec
  have hb := B.bytes
  have hr := B.returns
  have hts : ∀ w ∈ tb, w.before _ s = true := fun w h => atoms_spec (ws := .code yX15_isWay cX15_isWay 5 (some .boolean) :: tb) B.pre w (List.mem_cons_of_mem _ h)
  have hown : s.vm.findClass RX15 = some m.cls := findClass_of_methodNamed B.named
  have hlocks := B.notSynchronized
  subst hsz
  have hD := hD0.self (sz := s.heap.size)
  generalize hAe : va_A (va_pl L F) s.heap.size = A at hD hG hX ⊢
  have hA : ∀ q : Nat, s.heap.size ≤ q → A q := fun q h => by rw [← hAe]; exact Or.inr h
  have hS : va_S A s.heap s.heap [] := va_S.rf
  have hR : FR ty [ρ] F F := FR.refl
  have hl := lv_entry ([.ref h0]) (n := 5) (Nat.le_of_ble_eq_true rfl)
  rw [lg_entry_eq]
  generalize (lg_sl ([.ref h0]) ++ List.replicate (5 - (lg_sl ([.ref h0])).length) Slot.unset).toArray = ls at hl ⊢
  have hl : lv_has ls 5 [(0, .ref h0)] := hl
  obtain ⟨hq_23, hq_24, hq_25, hq_26, hq_27, hgO, hgA, hgB, hq_28⟩ := hW.sc hL_h0 hT_h0
  obtain ⟨hi_29, ht_30⟩ := hW.f_se hL_h0 hT_h0
  obtain ⟨_, hi_31, hi_32, hi_33, _, ht_34, ht_35, ht_36, hq_37, hq_38⟩ := hW.tags hi_29 ht_30
  have ht_35 : ty s1 = (25, ρ + 81, [40, 1280]) := ht_35
  have ht_36 : ty s2 = (25, ρ + 82, [40, 1280]) := ht_36
  obtain ⟨hi_39, ht_40, hq_41⟩ := hW.txt hL_sx hT_sx
  obtain ⟨v14_42, v15_43, v17_44, v18_45, v19_46, v20_47, v21_48, v22_49, v33_50, v52_51, v53_52, v54_53, hF_54, hq_55, hq_56, hq_57, hq_58, hq_59⟩ := hO.mod hL_h0 hT_h0
  have h540 : gF (F h0) 54 = v54_53 := by rw [hF_54]; rfl
  refine lv_aload_n hx hb dX15_isWay_0 rfl (lv_at hl 0 rfl) ?_
  refine pg_get (ci := 15) (v := .ref se) (C := RX15) (T := TX15) (N := 59) hx hb hts it_15 hown hK hP hL_h0 hF_54 rfl 35 (by decide) (hts _ kt_847) (fun _ h9 => h9) rfl dX15_isWay_1 ?_
  obtain ⟨q_60, v_61, hr_q_60, hX_q_60⟩ := hG.2.2 ("PostGateModel", 489, "c", [99]) (by decide +kernel)
  have hX_q_60 : SXc q_60 v_61 1 (cct [99]) A s s.heap := hX_q_60
  obtain ⟨xo_q_60, xc_q_60, xv_q_60, xt_q_60, xn_q_60⟩ := id hX_q_60
  have hr_q_60 : vk_R "PostGateModel" 489 "c" q_60 s := hr_q_60
  refine va_ldcwS hx hb hown hr_q_60 dX15_isWay_4 ?_
  obtain ⟨hq_62, hq_63⟩ := hW.octs hi_39 ht_40
  have hFc := pg_free hD hS hA
  refine va_calli (va_runV (As := [.ref q_60]) (rest := []) ⟨hx, hb, hml, hown, hts⟩ (s_X13_find_x l dC dI cs ty gm L s.heap.size F se (ρ + 11) sx 3000 1280 s0 s1 s2 sb zx nn fb e0 e1 e2 gq q_60 v_61 1 (cct [99]) ([99]) hW hi_29 ht_30 hL_sx hT_sx hFx hFb (hxn) hFs hFy0 hFy1 hFy2 (hcn) (hhl) (hTG) (Nat.le_refl _) (⟨rfl, by decide +kernel⟩)) ⟨callB_of 1 hts (gi kt_828) rfl rfl rfl (hts _ kt_829) (hts _ kt_839) (by decide +kernel) ⟨Nat.le_of_ble_eq_true rfl, Nat.le_of_ble_eq_true rfl⟩, (hts _ kt_831), (hts _ kt_832)⟩ ⟨fun a U g mk q => ⟨q.1, PTEm.calling q.2⟩, pg_recv hK hP hi_29 hFs (q := (RX13, TX13, 5)) rfl, fun U hU hWm => ⟨rfl, PTEm.mk hU hWm hP hK hD hE hO hG (fun x hx => by rw [List.mem_singleton] at hx; subst hx; exact hX_q_60) hS hFc⟩⟩ rfl rfl hl.1 rfl (lv_room (Nat.le_of_ble_eq_true rfl)) dX15_isWay_7 ⟨by show _ + 0 ≤ 0; omega, by show _ + 0 ≤ 0; omega⟩) hS (fun q _ h => hFc q h) hFc (fun r_64 u t H1 locs ht hvm hw hB hz1 hk1 hS => ?_)
  obtain ⟨F_65, hB1⟩ := hB
  obtain rfl : F = F_65 := (funext (fun a => hB1.2.2.2 a List.not_mem_nil)).symm
  obtain ⟨hP, hD, hO, hR⟩ := QTm.back hB1 ht hFc hR (fun q h => absurd h List.not_mem_nil)
  generalize H1 = H at hP hS ⊢
  have hw : RWX (TC fb zx) gq nn [99] r_64 := hw
  have hw_66 := hw
  refine lv_istore_n (lv' := [(1, .int r_64), (0, .ref h0)]) hx hb dX15_isWay_10 rfl hl (by decide) rfl (fun ls hl => ?_)
  refine lv_aload_n hx hb dX15_isWay_11 rfl (lv_at hl 1 rfl) ?_
  refine lv_iconst (v := 0) hx hb dX15_isWay_12 (by decide) ?_
  refine pg_put (ci := 15) (v := .int 0) (ty := .boolean) (C := RX15) (T := TX15) (N := 59) hx hb hts it_15 tyX15 tyX15_ok nmX15 hown hK hP hD hS hL_h0 hF_54 rfl 52 (by decide) (hts _ kt_857) (fun _ h9 => h9) rfl (by decide +kernel) (rfl) (rfl) (Nat.le_of_ble_eq_true rfl) dX15_isWay_13 (fun H locs hP hD hS => ?_)
  obtain ⟨F_67, he_68, hP, hD, hO, hR⟩ : ∃ G, G = va_up F h0 (.inr (15, (.ref ta) :: (.int (nI zt)) :: (.int (nI zo)) :: (.int (nI ze)) :: (.ref ou) :: (.ref so) :: (.ref ad) :: (.ref na) :: (.ref va) :: (.ref lc) :: (.ref dm) :: (.int (nI fm)) :: (.int (nI sn)) :: (.ref tg) :: (.int v14_42) :: (.int v15_43) :: (.ref pe) :: (.int v17_44) :: (.int v18_45) :: (.int v19_46) :: (.int v20_47) :: (.int v21_48) :: (.int v22_49) :: (.ref ml) :: (.ref bg) :: (.ref co) :: (.ref sp) :: (.ref nb0) :: (.ref nb1) :: (.ref nb2) :: (.int (nI nf)) :: (.int (nI bd)) :: (.int (nI mm)) :: (.int v33_50) :: (.ref pl) :: (.ref se) :: (.ref ke) :: (.ref wi) :: (.ref hs) :: (.ref mo) :: (.ref po) :: (.ref nu) :: (.ref pr) :: (.ref sq) :: (.ref xa) :: (.ref sa) :: (.ref n64) :: (.ref m64) :: (.ref ex) :: (.ref wh) :: (.ref sd) :: (.ref tk) :: (.int 0) :: (.int v53_52) :: (.int v54_53) :: (.ref hd) :: (.ref ak) :: (.ref ho) :: (.ref ot) :: [])) ∧ va_P (dC, dI) vwCl (va_pl L G) H ∧ va_D A (va_pl L G) ∧ OKm cs ty gm L G ∧ FR ty [ρ] F G := ⟨_, rfl, hP, hD, hO.up (shm.mod hT_h0 ⟨v14_42, v15_43, v17_44, v18_45, v19_46, v20_47, v21_48, v22_49, v33_50, 0, v53_52, v54_53, rfl, (by first | omega | assumption | exact Or.inl rfl | exact Or.inr rfl), (by first | omega | assumption | exact Or.inl rfl | exact Or.inr rfl), (by first | omega | assumption | exact Or.inl rfl | exact Or.inr rfl), (by first | omega | assumption | exact Or.inl rfl | exact Or.inr rfl), (by first | omega | assumption | exact Or.inl rfl | exact Or.inr rfl)⟩), hR.up hT_h0 (by simp)⟩
  have hF_69 : F_67 h0 = .inr (15, (.ref ta) :: (.int (nI zt)) :: (.int (nI zo)) :: (.int (nI ze)) :: (.ref ou) :: (.ref so) :: (.ref ad) :: (.ref na) :: (.ref va) :: (.ref lc) :: (.ref dm) :: (.int (nI fm)) :: (.int (nI sn)) :: (.ref tg) :: (.int v14_42) :: (.int v15_43) :: (.ref pe) :: (.int v17_44) :: (.int v18_45) :: (.int v19_46) :: (.int v20_47) :: (.int v21_48) :: (.int v22_49) :: (.ref ml) :: (.ref bg) :: (.ref co) :: (.ref sp) :: (.ref nb0) :: (.ref nb1) :: (.ref nb2) :: (.int (nI nf)) :: (.int (nI bd)) :: (.int (nI mm)) :: (.int v33_50) :: (.ref pl) :: (.ref se) :: (.ref ke) :: (.ref wi) :: (.ref hs) :: (.ref mo) :: (.ref po) :: (.ref nu) :: (.ref pr) :: (.ref sq) :: (.ref xa) :: (.ref sa) :: (.ref n64) :: (.ref m64) :: (.ref ex) :: (.ref wh) :: (.ref sd) :: (.ref tk) :: (.int 0) :: (.int v53_52) :: (.int v54_53) :: (.ref hd) :: (.ref ak) :: (.ref ho) :: (.ref ot) :: []) := by rw [he_68]; exact up_self
  have hF_70 : F_67 se = .inr (13, [.ref sx, .ref s0, .ref s1, .ref s2, .int (nI nn)]) := by rw [he_68, up_ne (ne_ty ht_30 hT_h0 (by simp))]; exact hFs
  have hF_71 : F_67 sx = .inr (14, [.ref sb, .int (nI zx)]) := by rw [he_68, up_ne (ne_ty hT_sx hT_h0 (by simp))]; exact hFx
  have hF_72 : F_67 sb = .inl (cs 17, 3000, .inl fb) := by rw [he_68, up_ne (ne_ty ht_40 hT_h0 (by simp))]; exact hFb
  have hF_73 : F_67 s0 = .inl (cs 16, 40, .inl e0) := by rw [he_68, up_ne (ne_ty ht_34 hT_h0 (by simp))]; exact hFy0
  have hF_74 : F_67 s1 = .inl (cs 16, 40, .inl e1) := by rw [he_68, up_ne (ne_ty ht_35 hT_h0 (by simp))]; exact hFy1
  have hF_75 : F_67 s2 = .inl (cs 16, 40, .inl e2) := by rw [he_68, up_ne (ne_ty ht_36 hT_h0 (by simp))]; exact hFy2
  refine lv_aload_n hx hb dX15_isWay_16 rfl (lv_at hl 1 rfl) ?_
  refine lv_iconst (v := 0) hx hb dX15_isWay_17 (by decide) ?_
  refine pg_put (ci := 15) (v := .int 0) (ty := .boolean) (C := RX15) (T := TX15) (N := 59) hx hb hts it_15 tyX15 tyX15_ok nmX15 hown hK hP hD hS hL_h0 hF_69 rfl 53 (by decide) (hts _ kt_858) (fun _ h9 => h9) rfl (by decide +kernel) (rfl) (rfl) (Nat.le_of_ble_eq_true rfl) dX15_isWay_18 (fun H locs hP hD hS => ?_)
  obtain ⟨F_76, he_77, hP, hD, hO, hR⟩ : ∃ G, G = va_up F_67 h0 (.inr (15, (.ref ta) :: (.int (nI zt)) :: (.int (nI zo)) :: (.int (nI ze)) :: (.ref ou) :: (.ref so) :: (.ref ad) :: (.ref na) :: (.ref va) :: (.ref lc) :: (.ref dm) :: (.int (nI fm)) :: (.int (nI sn)) :: (.ref tg) :: (.int v14_42) :: (.int v15_43) :: (.ref pe) :: (.int v17_44) :: (.int v18_45) :: (.int v19_46) :: (.int v20_47) :: (.int v21_48) :: (.int v22_49) :: (.ref ml) :: (.ref bg) :: (.ref co) :: (.ref sp) :: (.ref nb0) :: (.ref nb1) :: (.ref nb2) :: (.int (nI nf)) :: (.int (nI bd)) :: (.int (nI mm)) :: (.int v33_50) :: (.ref pl) :: (.ref se) :: (.ref ke) :: (.ref wi) :: (.ref hs) :: (.ref mo) :: (.ref po) :: (.ref nu) :: (.ref pr) :: (.ref sq) :: (.ref xa) :: (.ref sa) :: (.ref n64) :: (.ref m64) :: (.ref ex) :: (.ref wh) :: (.ref sd) :: (.ref tk) :: (.int 0) :: (.int 0) :: (.int v54_53) :: (.ref hd) :: (.ref ak) :: (.ref ho) :: (.ref ot) :: [])) ∧ va_P (dC, dI) vwCl (va_pl L G) H ∧ va_D A (va_pl L G) ∧ OKm cs ty gm L G ∧ FR ty [ρ] F G := ⟨_, rfl, hP, hD, hO.up (shm.mod hT_h0 ⟨v14_42, v15_43, v17_44, v18_45, v19_46, v20_47, v21_48, v22_49, v33_50, 0, 0, v54_53, rfl, (by first | omega | assumption | exact Or.inl rfl | exact Or.inr rfl), (by first | omega | assumption | exact Or.inl rfl | exact Or.inr rfl), (by first | omega | assumption | exact Or.inl rfl | exact Or.inr rfl), (by first | omega | assumption | exact Or.inl rfl | exact Or.inr rfl), (by first | omega | assumption | exact Or.inl rfl | exact Or.inr rfl)⟩), hR.up hT_h0 (by simp)⟩
  have hF_78 : F_76 h0 = .inr (15, (.ref ta) :: (.int (nI zt)) :: (.int (nI zo)) :: (.int (nI ze)) :: (.ref ou) :: (.ref so) :: (.ref ad) :: (.ref na) :: (.ref va) :: (.ref lc) :: (.ref dm) :: (.int (nI fm)) :: (.int (nI sn)) :: (.ref tg) :: (.int v14_42) :: (.int v15_43) :: (.ref pe) :: (.int v17_44) :: (.int v18_45) :: (.int v19_46) :: (.int v20_47) :: (.int v21_48) :: (.int v22_49) :: (.ref ml) :: (.ref bg) :: (.ref co) :: (.ref sp) :: (.ref nb0) :: (.ref nb1) :: (.ref nb2) :: (.int (nI nf)) :: (.int (nI bd)) :: (.int (nI mm)) :: (.int v33_50) :: (.ref pl) :: (.ref se) :: (.ref ke) :: (.ref wi) :: (.ref hs) :: (.ref mo) :: (.ref po) :: (.ref nu) :: (.ref pr) :: (.ref sq) :: (.ref xa) :: (.ref sa) :: (.ref n64) :: (.ref m64) :: (.ref ex) :: (.ref wh) :: (.ref sd) :: (.ref tk) :: (.int 0) :: (.int 0) :: (.int v54_53) :: (.ref hd) :: (.ref ak) :: (.ref ho) :: (.ref ot) :: []) := by rw [he_77]; exact up_self
  have hF_79 : F_76 se = .inr (13, [.ref sx, .ref s0, .ref s1, .ref s2, .int (nI nn)]) := by rw [he_77, up_ne (ne_ty ht_30 hT_h0 (by simp))]; exact hF_70
  have hF_80 : F_76 sx = .inr (14, [.ref sb, .int (nI zx)]) := by rw [he_77, up_ne (ne_ty hT_sx hT_h0 (by simp))]; exact hF_71
  have hF_81 : F_76 sb = .inl (cs 17, 3000, .inl fb) := by rw [he_77, up_ne (ne_ty ht_40 hT_h0 (by simp))]; exact hF_72
  have hF_82 : F_76 s0 = .inl (cs 16, 40, .inl e0) := by rw [he_77, up_ne (ne_ty ht_34 hT_h0 (by simp))]; exact hF_73
  have hF_83 : F_76 s1 = .inl (cs 16, 40, .inl e1) := by rw [he_77, up_ne (ne_ty ht_35 hT_h0 (by simp))]; exact hF_74
  have hF_84 : F_76 s2 = .inl (cs 16, 40, .inl e2) := by rw [he_77, up_ne (ne_ty ht_36 hT_h0 (by simp))]; exact hF_75
  refine lv_iload_n hx hb dX15_isWay_21 rfl (lv_at hl 0 rfl) ?_
  refine lv_if_ge (tgt := 27) hx hb dX15_isWay_22 (by decide) (fun c_85 => ?_) (fun c_85 => ?_)
  ·
    obtain ⟨j, hjz, ej, hj1, hj2⟩ := rwx_y hw_66 (Int32.not_lt.mpr c_85)
    subst ej
    obtain ⟨hg1, hg2, hg3⟩ := hTG j hjz
    have hR9 : (tgR (TC fb zx) gq [99] nn) = some j := tgR_y hj1 hj2 nn hjz
    have hcA : (cA (TC fb zx) gq nn) = gq 1 j + 1 := by unfold cA; rw [hR9]; rfl
    have hcB : (cB (TC fb zx) gq nn) = gq 2 j := by unfold cB; rw [hR9]; rfl
    have hcn1 : ¬ (tgR (TC fb zx) gq [99] nn) = none := by rw [hR9]; exact fun q => nomatch q
    have hab9 : (cA (TC fb zx) gq nn) ≤ (cB (TC fb zx) gq nn) := by rw [hcA, hcB]; exact hg2
    have hbz9 : (cB (TC fb zx) gq nn) ≤ zx := by rw [hcB]; exact hg3
    have hfl : (cA (TC fb zx) gq nn) ≤ (cS (TC fb zx) gq nn) ∧ (cS (TC fb zx) gq nn) ≤ (cB (TC fb zx) gq nn) := fd_ge hab9
    refine lv_aload_n hx hb dX15_isWay_27 rfl (lv_at hl 1 rfl) ?_
    refine pg_get (ci := 15) (v := .ref se) (C := RX15) (T := TX15) (N := 59) hx hb hts it_15 hown hK hP hL_h0 hF_78 rfl 35 (by decide) (hts _ kt_847) (fun _ h9 => h9) rfl dX15_isWay_28 ?_
    refine pg_get (ci := 13) (v := .ref sx) (C := RX13) (T := TX13) (N := 5) hx hb hts it_13 hown hK hP hi_29 hF_79 rfl 0 (by decide) (hts _ kt_842) (fun _ h9 => h9) rfl dX15_isWay_31 ?_
    refine pg_get (ci := 14) (v := .ref sb) (C := RX14) (T := TX14) (N := 2) hx hb hts it_14 hown hK hP hL_sx hF_80 rfl 0 (by decide) (hts _ kt_710) (fun _ h9 => h9) rfl dX15_isWay_34 ?_
    refine lv_astore_n (lv' := [(2, .ref sb), (1, .int (nI j)), (0, .ref h0)]) hx hb dX15_isWay_37 rfl hl (by decide) rfl (fun ls hl => ?_)
    refine lv_aload_n hx hb dX15_isWay_38 rfl (lv_at hl 2 rfl) ?_
    refine pg_get (ci := 15) (v := .ref se) (C := RX15) (T := TX15) (N := 59) hx hb hts it_15 hown hK hP hL_h0 hF_78 rfl 35 (by decide) (hts _ kt_847) (fun _ h9 => h9) rfl dX15_isWay_39 ?_
    refine pg_get (ci := 13) (v := .ref s1) (C := RX13) (T := TX13) (N := 5) hx hb hts it_13 hown hK hP hi_29 hF_79 rfl 2 (by decide) (hts _ kt_840) (fun _ h9 => h9) rfl dX15_isWay_42 ?_
    refine lv_iload_n hx hb dX15_isWay_45 rfl (lv_at hl 1 rfl) ?_
    refine pg_iald hx hb hK hP hi_32 0 hF_83 rfl (vp_in_nI (by omega) (by omega)) dX15_isWay_46 ?_
    refine lv_topi (fun x_86 ex_86 => ?_)
    obtain rfl : x_86 = (nI (gq 1 j)) := ex_86.trans (((congrArg e1 (nI_clamp (by omega))).trans (hhl j hjz).2.1))
    refine lv_iconst (v := 1) hx hb dX15_isWay_47 (by decide) ?_
    refine lv_iadd hx hb dX15_isWay_48 ?_
    refine lv_topi (fun x_87 ex_87 => ?_)
    obtain rfl : x_87 = (nI (cA (TC fb zx) gq nn)) := ex_87.trans ((nI_1 _).trans (by rw [hcA]))
    refine lv_istore_n (lv' := [(3, .int (nI (cA (TC fb zx) gq nn))), (2, .ref sb), (1, .int (nI j)), (0, .ref h0)]) hx hb dX15_isWay_49 rfl hl (by decide) rfl (fun ls hl => ?_)
    refine lv_aload_n hx hb dX15_isWay_50 rfl (lv_at hl 1 rfl) ?_
    refine lv_iload_n hx hb dX15_isWay_51 rfl (lv_at hl 0 rfl) ?_
    refine lv_aload_n hx hb dX15_isWay_52 rfl (lv_at hl 3 rfl) ?_
    refine pg_get (ci := 15) (v := .ref se) (C := RX15) (T := TX15) (N := 59) hx hb hts it_15 hown hK hP hL_h0 hF_78 rfl 35 (by decide) (hts _ kt_847) (fun _ h9 => h9) rfl dX15_isWay_53 ?_
    refine pg_get (ci := 13) (v := .ref s2) (C := RX13) (T := TX13) (N := 5) hx hb hts it_13 hown hK hP hi_29 hF_79 rfl 3 (by decide) (hts _ kt_841) (fun _ h9 => h9) rfl dX15_isWay_56 ?_
    refine lv_iload_n hx hb dX15_isWay_59 rfl (lv_at hl 2 rfl) ?_
    refine pg_iald hx hb hK hP hi_33 0 hF_84 rfl (vp_in_nI (by omega) (by omega)) dX15_isWay_60 ?_
    refine lv_topi (fun x_88 ex_88 => ?_)
    obtain rfl : x_88 = (nI (cB (TC fb zx) gq nn)) := ex_88.trans ((((congrArg e2 (nI_clamp (by omega))).trans (hhl j hjz).2.2)).trans (by rw [hcB]))
    have hFc := pg_free hD hS hA
    refine va_calli (va_runS (As := [.ref sb, .int (nI (cA (TC fb zx) gq nn)), .int (nI (cB (TC fb zx) gq nn))]) (rest := []) ⟨hx, hb, hml, hown, hts⟩ (s_X15_slashOf_x l dC dI cs ty gm L H.size F_76 sb (ρ + 12) 3000 zx (cA (TC fb zx) gq nn) (cB (TC fb zx) gq nn) fb hW hi_39 ht_40 hF_81 (hbz9) (by omega) (by omega) (hab9)) ⟨callB_of 3 hts (gi kt_746) rfl rfl rfl (hts _ kt_669) (hts _ kt_747) (by decide +kernel) ⟨Nat.le_of_ble_eq_true rfl, Nat.le_of_ble_eq_true rfl⟩, (hts _ kt_748)⟩ ⟨fun a U g mk q => ⟨q.1, PTm.calling q.2⟩, fun U hU hWm => ⟨rfl, PTm.mk hU hWm hP hK hD hE hO⟩⟩ rfl rfl hl.1 rfl (lv_room (Nat.le_of_ble_eq_true rfl)) dX15_isWay_61 ⟨by show _ + 0 ≤ 0; omega, by show _ + 0 ≤ 0; omega⟩) hS (fun q _ h => hFc q h) hFc (fun r_89 u t H1 locs ht hvm hw hB hz1 hk1 hS => ?_)
    obtain ⟨F_90, hB1⟩ := hB
    obtain rfl : F_76 = F_90 := (funext (fun a => hB1.2.2.2 a List.not_mem_nil)).symm
    obtain ⟨hP, hD, hO, hR⟩ := QTm.back hB1 ht hFc hR (fun q h => absurd h List.not_mem_nil)
    generalize H1 = H at hP hS ⊢
    have hw : r_89 = nI (fdT (TC fb zx) 47 (cA (TC fb zx) gq nn) (cB (TC fb zx) gq nn)) := hw
    subst hw
    refine lv_istore (lv' := [(4, .int (nI (cS (TC fb zx) gq nn))), (3, .int (nI (cA (TC fb zx) gq nn))), (2, .ref sb), (1, .int (nI j)), (0, .ref h0)]) hx hb dX15_isWay_64 hl (by decide) rfl (fun ls hl => ?_)
    refine lv_aload_n hx hb dX15_isWay_66 rfl (lv_at hl 4 rfl) ?_
    refine lv_aload_n hx hb dX15_isWay_67 rfl (lv_at hl 2 rfl) ?_
    refine lv_iload_n hx hb dX15_isWay_68 rfl (lv_at hl 1 rfl) ?_
    refine lv_iload hx hb dX15_isWay_69 (lv_at hl 0 rfl) ?_
    obtain ⟨q_91, v_92, hr_q_91, hX_q_91⟩ := hG.2.2 ("PostGateModel", 497, "relaxed", [114, 101, 108, 97, 120, 101, 100]) (by decide +kernel)
    have hX_q_91 : SXc q_91 v_92 7 (cct [114, 101, 108, 97, 120, 101, 100]) A s s.heap := hX_q_91
    obtain ⟨xo_q_91, xc_q_91, xv_q_91, xt_q_91, xn_q_91⟩ := id hX_q_91
    have hr_q_91 : vk_R "PostGateModel" 497 "relaxed" q_91 s := hr_q_91
    refine va_ldcwS hx hb hown hr_q_91 dX15_isWay_71 ?_
    have hFc := pg_free hD hS hA
    refine va_calli (va_runS (As := [.ref sb, .int (nI (cA (TC fb zx) gq nn)), .int (nI (cS (TC fb zx) gq nn)), .ref q_91]) (rest := [.ref h0]) ⟨hx, hb, hml, hown, hts⟩ (s_X15_is_x l dC dI cs ty gm L H.size F_76 sb (ρ + 12) 3000 q_91 v_92 7 (cct [114, 101, 108, 97, 120, 101, 100]) zx (cA (TC fb zx) gq nn) (cS (TC fb zx) gq nn) fb RLX hW hi_39 ht_40 hF_81 (by omega) (hxn) (by omega) (by omega) (⟨rfl, by decide +kernel⟩)) ⟨callB_of 4 hts (gi kt_694) rfl rfl rfl (hts _ kt_669) (hts _ kt_695) (by decide +kernel) ⟨Nat.le_of_ble_eq_true rfl, Nat.le_of_ble_eq_true rfl⟩, (hts _ kt_696)⟩ ⟨fun a U g mk q => ⟨q.1, PTEm.calling q.2⟩, fun U hU hWm => ⟨rfl, PTEm.mk hU hWm hP hK hD hE hO hG (fun x hx => by rw [List.mem_singleton] at hx; subst hx; exact hX_q_91) hS hFc⟩⟩ rfl rfl hl.1 rfl (lv_room (Nat.le_of_ble_eq_true rfl)) dX15_isWay_74 ⟨by show _ + 0 ≤ 0; omega, by show _ + 0 ≤ 0; omega⟩) hS (fun q _ h => hFc q h) hFc (fun r_93 u t H1 locs ht hvm hw hB hz1 hk1 hS => ?_)
    obtain ⟨F_94, hB1⟩ := hB
    obtain rfl : F_76 = F_94 := (funext (fun a => hB1.2.2.2 a List.not_mem_nil)).symm
    obtain ⟨hP, hD, hO, hR⟩ := QTm.back hB1 ht hFc hR (fun q h => absurd h List.not_mem_nil)
    generalize H1 = H at hP hS ⊢
    have hw : ((r_93 = 1 ∧ ISW (TC fb zx) (cA (TC fb zx) gq nn) (cS (TC fb zx) gq nn) 7 RLX) ∨ (r_93 = 0 ∧ ¬ ISW (TC fb zx) (cA (TC fb zx) gq nn) (cS (TC fb zx) gq nn) 7 RLX)) := hw
    have hw_95 := hw
    have hs1 : (r_93 = 1 ∧ ISL (TC fb zx) (cA (TC fb zx) gq nn) (cS (TC fb zx) gq nn) RLX) ∨ (r_93 = 0 ∧ ¬ ISL (TC fb zx) (cA (TC fb zx) gq nn) (cS (TC fb zx) gq nn) RLX) := hw_95
    refine pg_put (ci := 15) (v := .int r_93) (ty := .boolean) (C := RX15) (T := TX15) (N := 59) hx hb hts it_15 tyX15 tyX15_ok nmX15 hown hK hP hD hS hL_h0 hF_78 rfl 52 (by decide) (hts _ kt_857) (fun _ h9 => h9) rfl (by decide +kernel) (bitN (bit2 hs1)) (bitF (bit2 hs1)) (Nat.le_of_ble_eq_true rfl) dX15_isWay_77 (fun H locs hP hD hS => ?_)
    obtain ⟨F_96, he_97, hP, hD, hO, hR⟩ : ∃ G, G = va_up F_76 h0 (.inr (15, (.ref ta) :: (.int (nI zt)) :: (.int (nI zo)) :: (.int (nI ze)) :: (.ref ou) :: (.ref so) :: (.ref ad) :: (.ref na) :: (.ref va) :: (.ref lc) :: (.ref dm) :: (.int (nI fm)) :: (.int (nI sn)) :: (.ref tg) :: (.int v14_42) :: (.int v15_43) :: (.ref pe) :: (.int v17_44) :: (.int v18_45) :: (.int v19_46) :: (.int v20_47) :: (.int v21_48) :: (.int v22_49) :: (.ref ml) :: (.ref bg) :: (.ref co) :: (.ref sp) :: (.ref nb0) :: (.ref nb1) :: (.ref nb2) :: (.int (nI nf)) :: (.int (nI bd)) :: (.int (nI mm)) :: (.int v33_50) :: (.ref pl) :: (.ref se) :: (.ref ke) :: (.ref wi) :: (.ref hs) :: (.ref mo) :: (.ref po) :: (.ref nu) :: (.ref pr) :: (.ref sq) :: (.ref xa) :: (.ref sa) :: (.ref n64) :: (.ref m64) :: (.ref ex) :: (.ref wh) :: (.ref sd) :: (.ref tk) :: (.int r_93) :: (.int 0) :: (.int v54_53) :: (.ref hd) :: (.ref ak) :: (.ref ho) :: (.ref ot) :: [])) ∧ va_P (dC, dI) vwCl (va_pl L G) H ∧ va_D A (va_pl L G) ∧ OKm cs ty gm L G ∧ FR ty [ρ] F G := ⟨_, rfl, hP, hD, hO.up (shm.mod hT_h0 ⟨v14_42, v15_43, v17_44, v18_45, v19_46, v20_47, v21_48, v22_49, v33_50, r_93, 0, v54_53, rfl, (by first | omega | assumption | exact Or.inl rfl | exact Or.inr rfl), (by first | omega | assumption | exact Or.inl rfl | exact Or.inr rfl), (by first | omega | assumption | exact Or.inl rfl | exact Or.inr rfl), (by first | omega | assumption | exact Or.inl rfl | exact Or.inr rfl), (by first | omega | assumption | exact Or.inl rfl | exact Or.inr rfl)⟩), hR.up hT_h0 (by simp)⟩
    have hF_98 : F_96 h0 = .inr (15, (.ref ta) :: (.int (nI zt)) :: (.int (nI zo)) :: (.int (nI ze)) :: (.ref ou) :: (.ref so) :: (.ref ad) :: (.ref na) :: (.ref va) :: (.ref lc) :: (.ref dm) :: (.int (nI fm)) :: (.int (nI sn)) :: (.ref tg) :: (.int v14_42) :: (.int v15_43) :: (.ref pe) :: (.int v17_44) :: (.int v18_45) :: (.int v19_46) :: (.int v20_47) :: (.int v21_48) :: (.int v22_49) :: (.ref ml) :: (.ref bg) :: (.ref co) :: (.ref sp) :: (.ref nb0) :: (.ref nb1) :: (.ref nb2) :: (.int (nI nf)) :: (.int (nI bd)) :: (.int (nI mm)) :: (.int v33_50) :: (.ref pl) :: (.ref se) :: (.ref ke) :: (.ref wi) :: (.ref hs) :: (.ref mo) :: (.ref po) :: (.ref nu) :: (.ref pr) :: (.ref sq) :: (.ref xa) :: (.ref sa) :: (.ref n64) :: (.ref m64) :: (.ref ex) :: (.ref wh) :: (.ref sd) :: (.ref tk) :: (.int r_93) :: (.int 0) :: (.int v54_53) :: (.ref hd) :: (.ref ak) :: (.ref ho) :: (.ref ot) :: []) := by rw [he_97]; exact up_self
    have hF_99 : F_96 se = .inr (13, [.ref sx, .ref s0, .ref s1, .ref s2, .int (nI nn)]) := by rw [he_97, up_ne (ne_ty ht_30 hT_h0 (by simp))]; exact hF_79
    have hF_100 : F_96 sx = .inr (14, [.ref sb, .int (nI zx)]) := by rw [he_97, up_ne (ne_ty hT_sx hT_h0 (by simp))]; exact hF_80
    have hF_101 : F_96 sb = .inl (cs 17, 3000, .inl fb) := by rw [he_97, up_ne (ne_ty ht_40 hT_h0 (by simp))]; exact hF_81
    have hF_102 : F_96 s0 = .inl (cs 16, 40, .inl e0) := by rw [he_97, up_ne (ne_ty ht_34 hT_h0 (by simp))]; exact hF_82
    have hF_103 : F_96 s1 = .inl (cs 16, 40, .inl e1) := by rw [he_97, up_ne (ne_ty ht_35 hT_h0 (by simp))]; exact hF_83
    have hF_104 : F_96 s2 = .inl (cs 16, 40, .inl e2) := by rw [he_97, up_ne (ne_ty ht_36 hT_h0 (by simp))]; exact hF_84
    refine lv_aload_n hx hb dX15_isWay_80 rfl (lv_at hl 4 rfl) ?_
    refine pg_get (ci := 15) (v := .int r_93) (C := RX15) (T := TX15) (N := 59) hx hb hts it_15 hown hK hP hL_h0 hF_98 rfl 52 (by decide) (hts _ kt_857) (fun _ h9 => h9) rfl dX15_isWay_81 ?_
    refine lv_if_ne (tgt := 102) hx hb dX15_isWay_84 (by decide) (fun c_105 => ?_) (fun c_105 => ?_)
    ·
      refine lv_iload hx hb dX15_isWay_102 (lv_at hl 0 rfl) ?_
      refine lv_aload_n hx hb dX15_isWay_104 rfl (lv_at hl 4 rfl) ?_
      refine pg_get (ci := 15) (v := .ref se) (C := RX15) (T := TX15) (N := 59) hx hb hts it_15 hown hK hP hL_h0 hF_98 rfl 35 (by decide) (hts _ kt_847) (fun _ h9 => h9) rfl dX15_isWay_105 ?_
      refine pg_get (ci := 13) (v := .ref s2) (C := RX13) (T := TX13) (N := 5) hx hb hts it_13 hown hK hP hi_29 hF_99 rfl 3 (by decide) (hts _ kt_841) (fun _ h9 => h9) rfl dX15_isWay_108 ?_
      refine lv_iload_n hx hb dX15_isWay_111 rfl (lv_at hl 3 rfl) ?_
      refine pg_iald hx hb hK hP hi_33 0 hF_104 rfl (vp_in_nI (by omega) (by omega)) dX15_isWay_112 ?_
      refine lv_topi (fun x_106 ex_106 => ?_)
      obtain rfl : x_106 = (nI (cB (TC fb zx) gq nn)) := ex_106.trans ((((congrArg e2 (nI_clamp (by omega))).trans (hhl j hjz).2.2)).trans (by rw [hcB]))
      refine lv_icmp_ne (tgt := 118) hx hb dX15_isWay_113 (by decide) (fun c_107 => ?_) (fun c_107 => ?_)
      ·
        have hi_108 : (cS (TC fb zx) gq nn) ≠ (cB (TC fb zx) gq nn) := fun q => c_107 (by rw [q])
        have hse : ¬ (cS (TC fb zx) gq nn) = (cB (TC fb zx) gq nn) := fun q => c_107 (by rw [q])
        have h47 := cS_47 hab9 hse
        refine lv_aload_n hx hb dX15_isWay_118 rfl (lv_at hl 4 rfl) ?_
        refine lv_aload_n hx hb dX15_isWay_119 rfl (lv_at hl 2 rfl) ?_
        refine lv_iload hx hb dX15_isWay_120 (lv_at hl 0 rfl) ?_
        refine lv_iconst (v := 1) hx hb dX15_isWay_122 (by decide) ?_
        refine lv_iadd hx hb dX15_isWay_123 ?_
        refine lv_topi (fun x_109 ex_109 => ?_)
        obtain rfl : x_109 = (nI ((cS (TC fb zx) gq nn) + 1)) := ex_109.trans (nI_1 _)
        refine lv_aload_n hx hb dX15_isWay_124 rfl (lv_at hl 4 rfl) ?_
        refine pg_get (ci := 15) (v := .ref se) (C := RX15) (T := TX15) (N := 59) hx hb hts it_15 hown hK hP hL_h0 hF_98 rfl 35 (by decide) (hts _ kt_847) (fun _ h9 => h9) rfl dX15_isWay_125 ?_
        refine pg_get (ci := 13) (v := .ref s2) (C := RX13) (T := TX13) (N := 5) hx hb hts it_13 hown hK hP hi_29 hF_99 rfl 3 (by decide) (hts _ kt_841) (fun _ h9 => h9) rfl dX15_isWay_128 ?_
        refine lv_iload_n hx hb dX15_isWay_131 rfl (lv_at hl 3 rfl) ?_
        refine pg_iald hx hb hK hP hi_33 0 hF_104 rfl (vp_in_nI (by omega) (by omega)) dX15_isWay_132 ?_
        refine lv_topi (fun x_110 ex_110 => ?_)
        obtain rfl : x_110 = (nI (cB (TC fb zx) gq nn)) := ex_110.trans ((((congrArg e2 (nI_clamp (by omega))).trans (hhl j hjz).2.2)).trans (by rw [hcB]))
        refine va_ldcwS hx hb hown hr_q_91 dX15_isWay_133 ?_
        have hFc := pg_free hD hS hA
        refine va_calli (va_runS (As := [.ref sb, .int (nI ((cS (TC fb zx) gq nn) + 1)), .int (nI (cB (TC fb zx) gq nn)), .ref q_91]) (rest := [.ref h0]) ⟨hx, hb, hml, hown, hts⟩ (s_X15_is_x l dC dI cs ty gm L H.size F_96 sb (ρ + 12) 3000 q_91 v_92 7 (cct [114, 101, 108, 97, 120, 101, 100]) zx ((cS (TC fb zx) gq nn) + 1) (cB (TC fb zx) gq nn) fb RLX hW hi_39 ht_40 hF_101 (by omega) (hxn) (by omega) (by omega) (⟨rfl, by decide +kernel⟩)) ⟨callB_of 4 hts (gi kt_694) rfl rfl rfl (hts _ kt_669) (hts _ kt_695) (by decide +kernel) ⟨Nat.le_of_ble_eq_true rfl, Nat.le_of_ble_eq_true rfl⟩, (hts _ kt_696)⟩ ⟨fun a U g mk q => ⟨q.1, PTEm.calling q.2⟩, fun U hU hWm => ⟨rfl, PTEm.mk hU hWm hP hK hD hE hO hG (fun x hx => by rw [List.mem_singleton] at hx; subst hx; exact hX_q_91) hS hFc⟩⟩ rfl rfl hl.1 rfl (lv_room (Nat.le_of_ble_eq_true rfl)) dX15_isWay_136 ⟨by show _ + 0 ≤ 0; omega, by show _ + 0 ≤ 0; omega⟩) hS (fun q _ h => hFc q h) hFc (fun r_111 u t H1 locs ht hvm hw hB hz1 hk1 hS => ?_)
        obtain ⟨F_112, hB1⟩ := hB
        obtain rfl : F_96 = F_112 := (funext (fun a => hB1.2.2.2 a List.not_mem_nil)).symm
        obtain ⟨hP, hD, hO, hR⟩ := QTm.back hB1 ht hFc hR (fun q h => absurd h List.not_mem_nil)
        generalize H1 = H at hP hS ⊢
        have hw : ((r_111 = 1 ∧ ISW (TC fb zx) ((cS (TC fb zx) gq nn) + 1) (cB (TC fb zx) gq nn) 7 RLX) ∨ (r_111 = 0 ∧ ¬ ISW (TC fb zx) ((cS (TC fb zx) gq nn) + 1) (cB (TC fb zx) gq nn) 7 RLX)) := hw
        have hw_113 := hw
        have hs2 : (r_111 = 1 ∧ ISL (TC fb zx) ((cS (TC fb zx) gq nn) + 1) (cB (TC fb zx) gq nn) RLX) ∨ (r_111 = 0 ∧ ¬ ISL (TC fb zx) ((cS (TC fb zx) gq nn) + 1) (cB (TC fb zx) gq nn) RLX) := hw_113
        refine pg_put (ci := 15) (v := .int r_111) (ty := .boolean) (C := RX15) (T := TX15) (N := 59) hx hb hts it_15 tyX15 tyX15_ok nmX15 hown hK hP hD hS hL_h0 hF_98 rfl 53 (by decide) (hts _ kt_858) (fun _ h9 => h9) rfl (by decide +kernel) (bitN (bit2 hs2)) (bitF (bit2 hs2)) (Nat.le_of_ble_eq_true rfl) dX15_isWay_139 (fun H locs hP hD hS => ?_)
        obtain ⟨F_114, he_115, hP, hD, hO, hR⟩ : ∃ G, G = va_up F_96 h0 (.inr (15, (.ref ta) :: (.int (nI zt)) :: (.int (nI zo)) :: (.int (nI ze)) :: (.ref ou) :: (.ref so) :: (.ref ad) :: (.ref na) :: (.ref va) :: (.ref lc) :: (.ref dm) :: (.int (nI fm)) :: (.int (nI sn)) :: (.ref tg) :: (.int v14_42) :: (.int v15_43) :: (.ref pe) :: (.int v17_44) :: (.int v18_45) :: (.int v19_46) :: (.int v20_47) :: (.int v21_48) :: (.int v22_49) :: (.ref ml) :: (.ref bg) :: (.ref co) :: (.ref sp) :: (.ref nb0) :: (.ref nb1) :: (.ref nb2) :: (.int (nI nf)) :: (.int (nI bd)) :: (.int (nI mm)) :: (.int v33_50) :: (.ref pl) :: (.ref se) :: (.ref ke) :: (.ref wi) :: (.ref hs) :: (.ref mo) :: (.ref po) :: (.ref nu) :: (.ref pr) :: (.ref sq) :: (.ref xa) :: (.ref sa) :: (.ref n64) :: (.ref m64) :: (.ref ex) :: (.ref wh) :: (.ref sd) :: (.ref tk) :: (.int r_93) :: (.int r_111) :: (.int v54_53) :: (.ref hd) :: (.ref ak) :: (.ref ho) :: (.ref ot) :: [])) ∧ va_P (dC, dI) vwCl (va_pl L G) H ∧ va_D A (va_pl L G) ∧ OKm cs ty gm L G ∧ FR ty [ρ] F G := ⟨_, rfl, hP, hD, hO.up (shm.mod hT_h0 ⟨v14_42, v15_43, v17_44, v18_45, v19_46, v20_47, v21_48, v22_49, v33_50, r_93, r_111, v54_53, rfl, (by first | omega | assumption | exact Or.inl rfl | exact Or.inr rfl), (by first | omega | assumption | exact Or.inl rfl | exact Or.inr rfl), (by first | omega | assumption | exact Or.inl rfl | exact Or.inr rfl), (by first | omega | assumption | exact Or.inl rfl | exact Or.inr rfl), (by first | omega | assumption | exact Or.inl rfl | exact Or.inr rfl)⟩), hR.up hT_h0 (by simp)⟩
        have hF_116 : F_114 h0 = .inr (15, (.ref ta) :: (.int (nI zt)) :: (.int (nI zo)) :: (.int (nI ze)) :: (.ref ou) :: (.ref so) :: (.ref ad) :: (.ref na) :: (.ref va) :: (.ref lc) :: (.ref dm) :: (.int (nI fm)) :: (.int (nI sn)) :: (.ref tg) :: (.int v14_42) :: (.int v15_43) :: (.ref pe) :: (.int v17_44) :: (.int v18_45) :: (.int v19_46) :: (.int v20_47) :: (.int v21_48) :: (.int v22_49) :: (.ref ml) :: (.ref bg) :: (.ref co) :: (.ref sp) :: (.ref nb0) :: (.ref nb1) :: (.ref nb2) :: (.int (nI nf)) :: (.int (nI bd)) :: (.int (nI mm)) :: (.int v33_50) :: (.ref pl) :: (.ref se) :: (.ref ke) :: (.ref wi) :: (.ref hs) :: (.ref mo) :: (.ref po) :: (.ref nu) :: (.ref pr) :: (.ref sq) :: (.ref xa) :: (.ref sa) :: (.ref n64) :: (.ref m64) :: (.ref ex) :: (.ref wh) :: (.ref sd) :: (.ref tk) :: (.int r_93) :: (.int r_111) :: (.int v54_53) :: (.ref hd) :: (.ref ak) :: (.ref ho) :: (.ref ot) :: []) := by rw [he_115]; exact up_self
        have hF_117 : F_114 se = .inr (13, [.ref sx, .ref s0, .ref s1, .ref s2, .int (nI nn)]) := by rw [he_115, up_ne (ne_ty ht_30 hT_h0 (by simp))]; exact hF_99
        have hF_118 : F_114 sx = .inr (14, [.ref sb, .int (nI zx)]) := by rw [he_115, up_ne (ne_ty hT_sx hT_h0 (by simp))]; exact hF_100
        have hF_119 : F_114 sb = .inl (cs 17, 3000, .inl fb) := by rw [he_115, up_ne (ne_ty ht_40 hT_h0 (by simp))]; exact hF_101
        have hF_120 : F_114 s0 = .inl (cs 16, 40, .inl e0) := by rw [he_115, up_ne (ne_ty ht_34 hT_h0 (by simp))]; exact hF_102
        have hF_121 : F_114 s1 = .inl (cs 16, 40, .inl e1) := by rw [he_115, up_ne (ne_ty ht_35 hT_h0 (by simp))]; exact hF_103
        have hF_122 : F_114 s2 = .inl (cs 16, 40, .inl e2) := by rw [he_115, up_ne (ne_ty ht_36 hT_h0 (by simp))]; exact hF_104
        refine lv_aload_n hx hb dX15_isWay_142 rfl (lv_at hl 4 rfl) ?_
        refine pg_get (ci := 15) (v := .int r_111) (C := RX15) (T := TX15) (N := 59) hx hb hts it_15 hown hK hP hL_h0 hF_116 rfl 53 (by decide) (hts _ kt_858) (fun _ h9 => h9) rfl dX15_isWay_143 ?_
        refine lv_if_ne (tgt := 172) hx hb dX15_isWay_146 (by decide) (fun c_123 => ?_) (fun c_123 => ?_)
        ·
          refine lv_iconst (v := 1) hx hb dX15_isWay_172 (by decide) ?_
          refine lv_goto (tgt := 177) hx hb dX15_isWay_173 (by decide) ?_
          refine W.widen (k := 0) (n := 0) (by omega) (by omega) ?_
          exact W.zret (v := 1) (ty := .boolean) hx hb hr (by decide) (fun t ht hWm => ⟨⟨1, (), rfl, (Or.inl ⟨rfl, Or.inr ⟨Or.inl (orp1 hs1 c_105), Or.inl ((isl_sl (l := RLX) h47).mpr (orp1 hs2 c_123))⟩⟩), ⟨F_114, r_93, r_111, QTm.mk ht hP hD hO hR, (by rw [hF_116]; rfl), (by rw [hF_116]; rfl), (by rw [h540, hF_116]; rfl), (fun _ => ⟨frx_r hcn1 hs1, brx_r hcn1 (by rcases hs2 with q | q; exact Or.inl ⟨q.1, (isl_sl (l := RLX) h47).mpr q.2⟩; exact Or.inr ⟨q.1, fun w => q.2 ((isl_sl (l := RLX) h47).mp w)⟩)⟩)⟩⟩, hS.F ht⟩) hS.2.2 dX15_isWay_177
        ·
          refine lv_aload_n hx hb dX15_isWay_149 rfl (lv_at hl 2 rfl) ?_
          refine lv_iload hx hb dX15_isWay_150 (lv_at hl 0 rfl) ?_
          refine lv_iconst (v := 1) hx hb dX15_isWay_152 (by decide) ?_
          refine lv_iadd hx hb dX15_isWay_153 ?_
          refine lv_topi (fun x_124 ex_124 => ?_)
          obtain rfl : x_124 = (nI ((cS (TC fb zx) gq nn) + 1)) := ex_124.trans (nI_1 _)
          refine lv_aload_n hx hb dX15_isWay_154 rfl (lv_at hl 4 rfl) ?_
          refine pg_get (ci := 15) (v := .ref se) (C := RX15) (T := TX15) (N := 59) hx hb hts it_15 hown hK hP hL_h0 hF_116 rfl 35 (by decide) (hts _ kt_847) (fun _ h9 => h9) rfl dX15_isWay_155 ?_
          refine pg_get (ci := 13) (v := .ref s2) (C := RX13) (T := TX13) (N := 5) hx hb hts it_13 hown hK hP hi_29 hF_117 rfl 3 (by decide) (hts _ kt_841) (fun _ h9 => h9) rfl dX15_isWay_158 ?_
          refine lv_iload_n hx hb dX15_isWay_161 rfl (lv_at hl 3 rfl) ?_
          refine pg_iald hx hb hK hP hi_33 0 hF_122 rfl (vp_in_nI (by omega) (by omega)) dX15_isWay_162 ?_
          refine lv_topi (fun x_125 ex_125 => ?_)
          obtain rfl : x_125 = (nI (cB (TC fb zx) gq nn)) := ex_125.trans ((((congrArg e2 (nI_clamp (by omega))).trans (hhl j hjz).2.2)).trans (by rw [hcB]))
          obtain ⟨q_126, v_127, hr_q_126, hX_q_126⟩ := hG.2.2 ("PostGateModel", 499, "simple", [115, 105, 109, 112, 108, 101]) (by decide +kernel)
          have hX_q_126 : SXc q_126 v_127 6 (cct [115, 105, 109, 112, 108, 101]) A s s.heap := hX_q_126
          obtain ⟨xo_q_126, xc_q_126, xv_q_126, xt_q_126, xn_q_126⟩ := id hX_q_126
          have hr_q_126 : vk_R "PostGateModel" 499 "simple" q_126 s := hr_q_126
          refine va_ldcwS hx hb hown hr_q_126 dX15_isWay_163 ?_
          have hFc := pg_free hD hS hA
          refine va_calli (va_runS (As := [.ref sb, .int (nI ((cS (TC fb zx) gq nn) + 1)), .int (nI (cB (TC fb zx) gq nn)), .ref q_126]) (rest := []) ⟨hx, hb, hml, hown, hts⟩ (s_X15_is_x l dC dI cs ty gm L H.size F_114 sb (ρ + 12) 3000 q_126 v_127 6 (cct [115, 105, 109, 112, 108, 101]) zx ((cS (TC fb zx) gq nn) + 1) (cB (TC fb zx) gq nn) fb SPL hW hi_39 ht_40 hF_119 (by omega) (hxn) (by omega) (by omega) (⟨rfl, by decide +kernel⟩)) ⟨callB_of 4 hts (gi kt_694) rfl rfl rfl (hts _ kt_669) (hts _ kt_695) (by decide +kernel) ⟨Nat.le_of_ble_eq_true rfl, Nat.le_of_ble_eq_true rfl⟩, (hts _ kt_696)⟩ ⟨fun a U g mk q => ⟨q.1, PTEm.calling q.2⟩, fun U hU hWm => ⟨rfl, PTEm.mk hU hWm hP hK hD hE hO hG (fun x hx => by rw [List.mem_singleton] at hx; subst hx; exact hX_q_126) hS hFc⟩⟩ rfl rfl hl.1 rfl (lv_room (Nat.le_of_ble_eq_true rfl)) dX15_isWay_166 ⟨by show _ + 0 ≤ 0; omega, by show _ + 0 ≤ 0; omega⟩) hS (fun q _ h => hFc q h) hFc (fun r_128 u t H1 locs ht hvm hw hB hz1 hk1 hS => ?_)
          obtain ⟨F_129, hB1⟩ := hB
          obtain rfl : F_114 = F_129 := (funext (fun a => hB1.2.2.2 a List.not_mem_nil)).symm
          obtain ⟨hP, hD, hO, hR⟩ := QTm.back hB1 ht hFc hR (fun q h => absurd h List.not_mem_nil)
          generalize H1 = H at hP hS ⊢
          have hw : ((r_128 = 1 ∧ ISW (TC fb zx) ((cS (TC fb zx) gq nn) + 1) (cB (TC fb zx) gq nn) 6 SPL) ∨ (r_128 = 0 ∧ ¬ ISW (TC fb zx) ((cS (TC fb zx) gq nn) + 1) (cB (TC fb zx) gq nn) 6 SPL)) := hw
          have hw_130 := hw
          have hs4 : (r_128 = 1 ∧ ISL (TC fb zx) ((cS (TC fb zx) gq nn) + 1) (cB (TC fb zx) gq nn) SPL) ∨ (r_128 = 0 ∧ ¬ ISL (TC fb zx) ((cS (TC fb zx) gq nn) + 1) (cB (TC fb zx) gq nn) SPL) := hw_130
          refine lv_if_eq (tgt := 176) hx hb dX15_isWay_169 (by decide) (fun c_131 => ?_) (fun c_131 => ?_)
          ·
            refine lv_iconst (v := 0) hx hb dX15_isWay_176 (by decide) ?_
            refine W.widen (k := 0) (n := 0) (by omega) (by omega) ?_
            exact W.zret (v := 0) (ty := .boolean) hx hb hr (by decide) (fun t ht hWm => ⟨⟨0, (), rfl, (Or.inr ⟨rfl, fun q => q.elim hcn1 (fun q => q.2.elim (fun q => orp0 hs2 c_123 ((isl_sl (l := RLX) h47).mp q)) (fun q => q.elim hse (fun q => orp0 hs4 c_131 ((isl_sl (l := SPL) h47).mp q))))⟩), ⟨F_114, r_93, r_111, QTm.mk ht hP hD hO hR, (by rw [hF_116]; rfl), (by rw [hF_116]; rfl), (by rw [h540, hF_116]; rfl), (fun q => absurd q (fun q => q.elim hcn1 (fun q => q.2.elim (fun q => orp0 hs2 c_123 ((isl_sl (l := RLX) h47).mp q)) (fun q => q.elim hse (fun q => orp0 hs4 c_131 ((isl_sl (l := SPL) h47).mp q))))))⟩⟩, hS.F ht⟩) hS.2.2 dX15_isWay_177
          ·
            refine lv_iconst (v := 1) hx hb dX15_isWay_172 (by decide) ?_
            refine lv_goto (tgt := 177) hx hb dX15_isWay_173 (by decide) ?_
            refine W.widen (k := 0) (n := 0) (by omega) (by omega) ?_
            exact W.zret (v := 1) (ty := .boolean) hx hb hr (by decide) (fun t ht hWm => ⟨⟨1, (), rfl, (Or.inl ⟨rfl, Or.inr ⟨Or.inl (orp1 hs1 c_105), Or.inr (Or.inr ((isl_sl (l := SPL) h47).mpr (orp1 hs4 c_131)))⟩⟩), ⟨F_114, r_93, r_111, QTm.mk ht hP hD hO hR, (by rw [hF_116]; rfl), (by rw [hF_116]; rfl), (by rw [h540, hF_116]; rfl), (fun _ => ⟨frx_r hcn1 hs1, brx_r hcn1 (by rcases hs2 with q | q; exact Or.inl ⟨q.1, (isl_sl (l := RLX) h47).mpr q.2⟩; exact Or.inr ⟨q.1, fun w => q.2 ((isl_sl (l := RLX) h47).mp w)⟩)⟩)⟩⟩, hS.F ht⟩) hS.2.2 dX15_isWay_177
      ·
        have hi_132 : (cS (TC fb zx) gq nn) = (cB (TC fb zx) gq nn) := (nI_eq (a := (cS (TC fb zx) gq nn)) (b := (cB (TC fb zx) gq nn)) (by omega) (by omega)).mp c_107
        have hse : (cS (TC fb zx) gq nn) = (cB (TC fb zx) gq nn) := (nI_eq (by omega) (by omega)).mp c_107
        refine lv_iconst (v := 1) hx hb dX15_isWay_116 (by decide) ?_
        refine W.widen (k := 0) (n := 0) (by omega) (by omega) ?_
        exact W.zret (v := 1) (ty := .boolean) hx hb hr (by decide) (fun t ht hWm => ⟨⟨1, (), rfl, (Or.inl ⟨rfl, Or.inr ⟨Or.inl (orp1 hs1 c_105), Or.inr (Or.inl hse)⟩⟩), ⟨F_96, r_93, 0, QTm.mk ht hP hD hO hR, (by rw [hF_98]; rfl), (by rw [hF_98]; rfl), (by rw [h540, hF_98]; rfl), (fun _ => ⟨frx_r hcn1 hs1, (if_neg (fun q => isl_no (l := RLX) hse q.2)).symm⟩)⟩⟩, hS.F ht⟩) hS.2.2 dX15_isWay_117
    ·
      refine lv_aload_n hx hb dX15_isWay_87 rfl (lv_at hl 2 rfl) ?_
      refine lv_iload_n hx hb dX15_isWay_88 rfl (lv_at hl 1 rfl) ?_
      refine lv_iload hx hb dX15_isWay_89 (lv_at hl 0 rfl) ?_
      obtain ⟨q_133, v_134, hr_q_133, hX_q_133⟩ := hG.2.2 ("PostGateModel", 499, "simple", [115, 105, 109, 112, 108, 101]) (by decide +kernel)
      have hX_q_133 : SXc q_133 v_134 6 (cct [115, 105, 109, 112, 108, 101]) A s s.heap := hX_q_133
      obtain ⟨xo_q_133, xc_q_133, xv_q_133, xt_q_133, xn_q_133⟩ := id hX_q_133
      have hr_q_133 : vk_R "PostGateModel" 499 "simple" q_133 s := hr_q_133
      refine va_ldcwS hx hb hown hr_q_133 dX15_isWay_91 ?_
      have hFc := pg_free hD hS hA
      refine va_calli (va_runS (As := [.ref sb, .int (nI (cA (TC fb zx) gq nn)), .int (nI (cS (TC fb zx) gq nn)), .ref q_133]) (rest := []) ⟨hx, hb, hml, hown, hts⟩ (s_X15_is_x l dC dI cs ty gm L H.size F_96 sb (ρ + 12) 3000 q_133 v_134 6 (cct [115, 105, 109, 112, 108, 101]) zx (cA (TC fb zx) gq nn) (cS (TC fb zx) gq nn) fb SPL hW hi_39 ht_40 hF_101 (by omega) (hxn) (by omega) (by omega) (⟨rfl, by decide +kernel⟩)) ⟨callB_of 4 hts (gi kt_694) rfl rfl rfl (hts _ kt_669) (hts _ kt_695) (by decide +kernel) ⟨Nat.le_of_ble_eq_true rfl, Nat.le_of_ble_eq_true rfl⟩, (hts _ kt_696)⟩ ⟨fun a U g mk q => ⟨q.1, PTEm.calling q.2⟩, fun U hU hWm => ⟨rfl, PTEm.mk hU hWm hP hK hD hE hO hG (fun x hx => by rw [List.mem_singleton] at hx; subst hx; exact hX_q_133) hS hFc⟩⟩ rfl rfl hl.1 rfl (lv_room (Nat.le_of_ble_eq_true rfl)) dX15_isWay_94 ⟨by show _ + 0 ≤ 0; omega, by show _ + 0 ≤ 0; omega⟩) hS (fun q _ h => hFc q h) hFc (fun r_135 u t H1 locs ht hvm hw hB hz1 hk1 hS => ?_)
      obtain ⟨F_136, hB1⟩ := hB
      obtain rfl : F_96 = F_136 := (funext (fun a => hB1.2.2.2 a List.not_mem_nil)).symm
      obtain ⟨hP, hD, hO, hR⟩ := QTm.back hB1 ht hFc hR (fun q h => absurd h List.not_mem_nil)
      generalize H1 = H at hP hS ⊢
      have hw : ((r_135 = 1 ∧ ISW (TC fb zx) (cA (TC fb zx) gq nn) (cS (TC fb zx) gq nn) 6 SPL) ∨ (r_135 = 0 ∧ ¬ ISW (TC fb zx) (cA (TC fb zx) gq nn) (cS (TC fb zx) gq nn) 6 SPL)) := hw
      have hw_137 := hw
      have hs3 : (r_135 = 1 ∧ ISL (TC fb zx) (cA (TC fb zx) gq nn) (cS (TC fb zx) gq nn) SPL) ∨ (r_135 = 0 ∧ ¬ ISL (TC fb zx) (cA (TC fb zx) gq nn) (cS (TC fb zx) gq nn) SPL) := hw_137
      refine lv_if_ne (tgt := 102) hx hb dX15_isWay_97 (by decide) (fun c_138 => ?_) (fun c_138 => ?_)
      ·
        refine lv_iload hx hb dX15_isWay_102 (lv_at hl 0 rfl) ?_
        refine lv_aload_n hx hb dX15_isWay_104 rfl (lv_at hl 4 rfl) ?_
        refine pg_get (ci := 15) (v := .ref se) (C := RX15) (T := TX15) (N := 59) hx hb hts it_15 hown hK hP hL_h0 hF_98 rfl 35 (by decide) (hts _ kt_847) (fun _ h9 => h9) rfl dX15_isWay_105 ?_
        refine pg_get (ci := 13) (v := .ref s2) (C := RX13) (T := TX13) (N := 5) hx hb hts it_13 hown hK hP hi_29 hF_99 rfl 3 (by decide) (hts _ kt_841) (fun _ h9 => h9) rfl dX15_isWay_108 ?_
        refine lv_iload_n hx hb dX15_isWay_111 rfl (lv_at hl 3 rfl) ?_
        refine pg_iald hx hb hK hP hi_33 0 hF_104 rfl (vp_in_nI (by omega) (by omega)) dX15_isWay_112 ?_
        refine lv_topi (fun x_139 ex_139 => ?_)
        obtain rfl : x_139 = (nI (cB (TC fb zx) gq nn)) := ex_139.trans ((((congrArg e2 (nI_clamp (by omega))).trans (hhl j hjz).2.2)).trans (by rw [hcB]))
        refine lv_icmp_ne (tgt := 118) hx hb dX15_isWay_113 (by decide) (fun c_140 => ?_) (fun c_140 => ?_)
        ·
          have hi_141 : (cS (TC fb zx) gq nn) ≠ (cB (TC fb zx) gq nn) := fun q => c_140 (by rw [q])
          have hse : ¬ (cS (TC fb zx) gq nn) = (cB (TC fb zx) gq nn) := fun q => c_140 (by rw [q])
          have h47 := cS_47 hab9 hse
          refine lv_aload_n hx hb dX15_isWay_118 rfl (lv_at hl 4 rfl) ?_
          refine lv_aload_n hx hb dX15_isWay_119 rfl (lv_at hl 2 rfl) ?_
          refine lv_iload hx hb dX15_isWay_120 (lv_at hl 0 rfl) ?_
          refine lv_iconst (v := 1) hx hb dX15_isWay_122 (by decide) ?_
          refine lv_iadd hx hb dX15_isWay_123 ?_
          refine lv_topi (fun x_142 ex_142 => ?_)
          obtain rfl : x_142 = (nI ((cS (TC fb zx) gq nn) + 1)) := ex_142.trans (nI_1 _)
          refine lv_aload_n hx hb dX15_isWay_124 rfl (lv_at hl 4 rfl) ?_
          refine pg_get (ci := 15) (v := .ref se) (C := RX15) (T := TX15) (N := 59) hx hb hts it_15 hown hK hP hL_h0 hF_98 rfl 35 (by decide) (hts _ kt_847) (fun _ h9 => h9) rfl dX15_isWay_125 ?_
          refine pg_get (ci := 13) (v := .ref s2) (C := RX13) (T := TX13) (N := 5) hx hb hts it_13 hown hK hP hi_29 hF_99 rfl 3 (by decide) (hts _ kt_841) (fun _ h9 => h9) rfl dX15_isWay_128 ?_
          refine lv_iload_n hx hb dX15_isWay_131 rfl (lv_at hl 3 rfl) ?_
          refine pg_iald hx hb hK hP hi_33 0 hF_104 rfl (vp_in_nI (by omega) (by omega)) dX15_isWay_132 ?_
          refine lv_topi (fun x_143 ex_143 => ?_)
          obtain rfl : x_143 = (nI (cB (TC fb zx) gq nn)) := ex_143.trans ((((congrArg e2 (nI_clamp (by omega))).trans (hhl j hjz).2.2)).trans (by rw [hcB]))
          refine va_ldcwS hx hb hown hr_q_91 dX15_isWay_133 ?_
          have hFc := pg_free hD hS hA
          refine va_calli (va_runS (As := [.ref sb, .int (nI ((cS (TC fb zx) gq nn) + 1)), .int (nI (cB (TC fb zx) gq nn)), .ref q_91]) (rest := [.ref h0]) ⟨hx, hb, hml, hown, hts⟩ (s_X15_is_x l dC dI cs ty gm L H.size F_96 sb (ρ + 12) 3000 q_91 v_92 7 (cct [114, 101, 108, 97, 120, 101, 100]) zx ((cS (TC fb zx) gq nn) + 1) (cB (TC fb zx) gq nn) fb RLX hW hi_39 ht_40 hF_101 (by omega) (hxn) (by omega) (by omega) (⟨rfl, by decide +kernel⟩)) ⟨callB_of 4 hts (gi kt_694) rfl rfl rfl (hts _ kt_669) (hts _ kt_695) (by decide +kernel) ⟨Nat.le_of_ble_eq_true rfl, Nat.le_of_ble_eq_true rfl⟩, (hts _ kt_696)⟩ ⟨fun a U g mk q => ⟨q.1, PTEm.calling q.2⟩, fun U hU hWm => ⟨rfl, PTEm.mk hU hWm hP hK hD hE hO hG (fun x hx => by rw [List.mem_singleton] at hx; subst hx; exact hX_q_91) hS hFc⟩⟩ rfl rfl hl.1 rfl (lv_room (Nat.le_of_ble_eq_true rfl)) dX15_isWay_136 ⟨by show _ + 0 ≤ 0; omega, by show _ + 0 ≤ 0; omega⟩) hS (fun q _ h => hFc q h) hFc (fun r_144 u t H1 locs ht hvm hw hB hz1 hk1 hS => ?_)
          obtain ⟨F_145, hB1⟩ := hB
          obtain rfl : F_96 = F_145 := (funext (fun a => hB1.2.2.2 a List.not_mem_nil)).symm
          obtain ⟨hP, hD, hO, hR⟩ := QTm.back hB1 ht hFc hR (fun q h => absurd h List.not_mem_nil)
          generalize H1 = H at hP hS ⊢
          have hw : ((r_144 = 1 ∧ ISW (TC fb zx) ((cS (TC fb zx) gq nn) + 1) (cB (TC fb zx) gq nn) 7 RLX) ∨ (r_144 = 0 ∧ ¬ ISW (TC fb zx) ((cS (TC fb zx) gq nn) + 1) (cB (TC fb zx) gq nn) 7 RLX)) := hw
          have hw_146 := hw
          have hs2 : (r_144 = 1 ∧ ISL (TC fb zx) ((cS (TC fb zx) gq nn) + 1) (cB (TC fb zx) gq nn) RLX) ∨ (r_144 = 0 ∧ ¬ ISL (TC fb zx) ((cS (TC fb zx) gq nn) + 1) (cB (TC fb zx) gq nn) RLX) := hw_146
          refine pg_put (ci := 15) (v := .int r_144) (ty := .boolean) (C := RX15) (T := TX15) (N := 59) hx hb hts it_15 tyX15 tyX15_ok nmX15 hown hK hP hD hS hL_h0 hF_98 rfl 53 (by decide) (hts _ kt_858) (fun _ h9 => h9) rfl (by decide +kernel) (bitN (bit2 hs2)) (bitF (bit2 hs2)) (Nat.le_of_ble_eq_true rfl) dX15_isWay_139 (fun H locs hP hD hS => ?_)
          obtain ⟨F_147, he_148, hP, hD, hO, hR⟩ : ∃ G, G = va_up F_96 h0 (.inr (15, (.ref ta) :: (.int (nI zt)) :: (.int (nI zo)) :: (.int (nI ze)) :: (.ref ou) :: (.ref so) :: (.ref ad) :: (.ref na) :: (.ref va) :: (.ref lc) :: (.ref dm) :: (.int (nI fm)) :: (.int (nI sn)) :: (.ref tg) :: (.int v14_42) :: (.int v15_43) :: (.ref pe) :: (.int v17_44) :: (.int v18_45) :: (.int v19_46) :: (.int v20_47) :: (.int v21_48) :: (.int v22_49) :: (.ref ml) :: (.ref bg) :: (.ref co) :: (.ref sp) :: (.ref nb0) :: (.ref nb1) :: (.ref nb2) :: (.int (nI nf)) :: (.int (nI bd)) :: (.int (nI mm)) :: (.int v33_50) :: (.ref pl) :: (.ref se) :: (.ref ke) :: (.ref wi) :: (.ref hs) :: (.ref mo) :: (.ref po) :: (.ref nu) :: (.ref pr) :: (.ref sq) :: (.ref xa) :: (.ref sa) :: (.ref n64) :: (.ref m64) :: (.ref ex) :: (.ref wh) :: (.ref sd) :: (.ref tk) :: (.int r_93) :: (.int r_144) :: (.int v54_53) :: (.ref hd) :: (.ref ak) :: (.ref ho) :: (.ref ot) :: [])) ∧ va_P (dC, dI) vwCl (va_pl L G) H ∧ va_D A (va_pl L G) ∧ OKm cs ty gm L G ∧ FR ty [ρ] F G := ⟨_, rfl, hP, hD, hO.up (shm.mod hT_h0 ⟨v14_42, v15_43, v17_44, v18_45, v19_46, v20_47, v21_48, v22_49, v33_50, r_93, r_144, v54_53, rfl, (by first | omega | assumption | exact Or.inl rfl | exact Or.inr rfl), (by first | omega | assumption | exact Or.inl rfl | exact Or.inr rfl), (by first | omega | assumption | exact Or.inl rfl | exact Or.inr rfl), (by first | omega | assumption | exact Or.inl rfl | exact Or.inr rfl), (by first | omega | assumption | exact Or.inl rfl | exact Or.inr rfl)⟩), hR.up hT_h0 (by simp)⟩
          have hF_149 : F_147 h0 = .inr (15, (.ref ta) :: (.int (nI zt)) :: (.int (nI zo)) :: (.int (nI ze)) :: (.ref ou) :: (.ref so) :: (.ref ad) :: (.ref na) :: (.ref va) :: (.ref lc) :: (.ref dm) :: (.int (nI fm)) :: (.int (nI sn)) :: (.ref tg) :: (.int v14_42) :: (.int v15_43) :: (.ref pe) :: (.int v17_44) :: (.int v18_45) :: (.int v19_46) :: (.int v20_47) :: (.int v21_48) :: (.int v22_49) :: (.ref ml) :: (.ref bg) :: (.ref co) :: (.ref sp) :: (.ref nb0) :: (.ref nb1) :: (.ref nb2) :: (.int (nI nf)) :: (.int (nI bd)) :: (.int (nI mm)) :: (.int v33_50) :: (.ref pl) :: (.ref se) :: (.ref ke) :: (.ref wi) :: (.ref hs) :: (.ref mo) :: (.ref po) :: (.ref nu) :: (.ref pr) :: (.ref sq) :: (.ref xa) :: (.ref sa) :: (.ref n64) :: (.ref m64) :: (.ref ex) :: (.ref wh) :: (.ref sd) :: (.ref tk) :: (.int r_93) :: (.int r_144) :: (.int v54_53) :: (.ref hd) :: (.ref ak) :: (.ref ho) :: (.ref ot) :: []) := by rw [he_148]; exact up_self
          have hF_150 : F_147 se = .inr (13, [.ref sx, .ref s0, .ref s1, .ref s2, .int (nI nn)]) := by rw [he_148, up_ne (ne_ty ht_30 hT_h0 (by simp))]; exact hF_99
          have hF_151 : F_147 sx = .inr (14, [.ref sb, .int (nI zx)]) := by rw [he_148, up_ne (ne_ty hT_sx hT_h0 (by simp))]; exact hF_100
          have hF_152 : F_147 sb = .inl (cs 17, 3000, .inl fb) := by rw [he_148, up_ne (ne_ty ht_40 hT_h0 (by simp))]; exact hF_101
          have hF_153 : F_147 s0 = .inl (cs 16, 40, .inl e0) := by rw [he_148, up_ne (ne_ty ht_34 hT_h0 (by simp))]; exact hF_102
          have hF_154 : F_147 s1 = .inl (cs 16, 40, .inl e1) := by rw [he_148, up_ne (ne_ty ht_35 hT_h0 (by simp))]; exact hF_103
          have hF_155 : F_147 s2 = .inl (cs 16, 40, .inl e2) := by rw [he_148, up_ne (ne_ty ht_36 hT_h0 (by simp))]; exact hF_104
          refine lv_aload_n hx hb dX15_isWay_142 rfl (lv_at hl 4 rfl) ?_
          refine pg_get (ci := 15) (v := .int r_144) (C := RX15) (T := TX15) (N := 59) hx hb hts it_15 hown hK hP hL_h0 hF_149 rfl 53 (by decide) (hts _ kt_858) (fun _ h9 => h9) rfl dX15_isWay_143 ?_
          refine lv_if_ne (tgt := 172) hx hb dX15_isWay_146 (by decide) (fun c_156 => ?_) (fun c_156 => ?_)
          ·
            refine lv_iconst (v := 1) hx hb dX15_isWay_172 (by decide) ?_
            refine lv_goto (tgt := 177) hx hb dX15_isWay_173 (by decide) ?_
            refine W.widen (k := 0) (n := 0) (by omega) (by omega) ?_
            exact W.zret (v := 1) (ty := .boolean) hx hb hr (by decide) (fun t ht hWm => ⟨⟨1, (), rfl, (Or.inl ⟨rfl, Or.inr ⟨Or.inr (orp1 hs3 c_138), Or.inl ((isl_sl (l := RLX) h47).mpr (orp1 hs2 c_156))⟩⟩), ⟨F_147, r_93, r_144, QTm.mk ht hP hD hO hR, (by rw [hF_149]; rfl), (by rw [hF_149]; rfl), (by rw [h540, hF_149]; rfl), (fun _ => ⟨frx_r hcn1 hs1, brx_r hcn1 (by rcases hs2 with q | q; exact Or.inl ⟨q.1, (isl_sl (l := RLX) h47).mpr q.2⟩; exact Or.inr ⟨q.1, fun w => q.2 ((isl_sl (l := RLX) h47).mp w)⟩)⟩)⟩⟩, hS.F ht⟩) hS.2.2 dX15_isWay_177
          ·
            refine lv_aload_n hx hb dX15_isWay_149 rfl (lv_at hl 2 rfl) ?_
            refine lv_iload hx hb dX15_isWay_150 (lv_at hl 0 rfl) ?_
            refine lv_iconst (v := 1) hx hb dX15_isWay_152 (by decide) ?_
            refine lv_iadd hx hb dX15_isWay_153 ?_
            refine lv_topi (fun x_157 ex_157 => ?_)
            obtain rfl : x_157 = (nI ((cS (TC fb zx) gq nn) + 1)) := ex_157.trans (nI_1 _)
            refine lv_aload_n hx hb dX15_isWay_154 rfl (lv_at hl 4 rfl) ?_
            refine pg_get (ci := 15) (v := .ref se) (C := RX15) (T := TX15) (N := 59) hx hb hts it_15 hown hK hP hL_h0 hF_149 rfl 35 (by decide) (hts _ kt_847) (fun _ h9 => h9) rfl dX15_isWay_155 ?_
            refine pg_get (ci := 13) (v := .ref s2) (C := RX13) (T := TX13) (N := 5) hx hb hts it_13 hown hK hP hi_29 hF_150 rfl 3 (by decide) (hts _ kt_841) (fun _ h9 => h9) rfl dX15_isWay_158 ?_
            refine lv_iload_n hx hb dX15_isWay_161 rfl (lv_at hl 3 rfl) ?_
            refine pg_iald hx hb hK hP hi_33 0 hF_155 rfl (vp_in_nI (by omega) (by omega)) dX15_isWay_162 ?_
            refine lv_topi (fun x_158 ex_158 => ?_)
            obtain rfl : x_158 = (nI (cB (TC fb zx) gq nn)) := ex_158.trans ((((congrArg e2 (nI_clamp (by omega))).trans (hhl j hjz).2.2)).trans (by rw [hcB]))
            refine va_ldcwS hx hb hown hr_q_133 dX15_isWay_163 ?_
            have hFc := pg_free hD hS hA
            refine va_calli (va_runS (As := [.ref sb, .int (nI ((cS (TC fb zx) gq nn) + 1)), .int (nI (cB (TC fb zx) gq nn)), .ref q_133]) (rest := []) ⟨hx, hb, hml, hown, hts⟩ (s_X15_is_x l dC dI cs ty gm L H.size F_147 sb (ρ + 12) 3000 q_133 v_134 6 (cct [115, 105, 109, 112, 108, 101]) zx ((cS (TC fb zx) gq nn) + 1) (cB (TC fb zx) gq nn) fb SPL hW hi_39 ht_40 hF_152 (by omega) (hxn) (by omega) (by omega) (⟨rfl, by decide +kernel⟩)) ⟨callB_of 4 hts (gi kt_694) rfl rfl rfl (hts _ kt_669) (hts _ kt_695) (by decide +kernel) ⟨Nat.le_of_ble_eq_true rfl, Nat.le_of_ble_eq_true rfl⟩, (hts _ kt_696)⟩ ⟨fun a U g mk q => ⟨q.1, PTEm.calling q.2⟩, fun U hU hWm => ⟨rfl, PTEm.mk hU hWm hP hK hD hE hO hG (fun x hx => by rw [List.mem_singleton] at hx; subst hx; exact hX_q_133) hS hFc⟩⟩ rfl rfl hl.1 rfl (lv_room (Nat.le_of_ble_eq_true rfl)) dX15_isWay_166 ⟨by show _ + 0 ≤ 0; omega, by show _ + 0 ≤ 0; omega⟩) hS (fun q _ h => hFc q h) hFc (fun r_159 u t H1 locs ht hvm hw hB hz1 hk1 hS => ?_)
            obtain ⟨F_160, hB1⟩ := hB
            obtain rfl : F_147 = F_160 := (funext (fun a => hB1.2.2.2 a List.not_mem_nil)).symm
            obtain ⟨hP, hD, hO, hR⟩ := QTm.back hB1 ht hFc hR (fun q h => absurd h List.not_mem_nil)
            generalize H1 = H at hP hS ⊢
            have hw : ((r_159 = 1 ∧ ISW (TC fb zx) ((cS (TC fb zx) gq nn) + 1) (cB (TC fb zx) gq nn) 6 SPL) ∨ (r_159 = 0 ∧ ¬ ISW (TC fb zx) ((cS (TC fb zx) gq nn) + 1) (cB (TC fb zx) gq nn) 6 SPL)) := hw
            have hw_161 := hw
            have hs4 : (r_159 = 1 ∧ ISL (TC fb zx) ((cS (TC fb zx) gq nn) + 1) (cB (TC fb zx) gq nn) SPL) ∨ (r_159 = 0 ∧ ¬ ISL (TC fb zx) ((cS (TC fb zx) gq nn) + 1) (cB (TC fb zx) gq nn) SPL) := hw_161
            refine lv_if_eq (tgt := 176) hx hb dX15_isWay_169 (by decide) (fun c_162 => ?_) (fun c_162 => ?_)
            ·
              refine lv_iconst (v := 0) hx hb dX15_isWay_176 (by decide) ?_
              refine W.widen (k := 0) (n := 0) (by omega) (by omega) ?_
              exact W.zret (v := 0) (ty := .boolean) hx hb hr (by decide) (fun t ht hWm => ⟨⟨0, (), rfl, (Or.inr ⟨rfl, fun q => q.elim hcn1 (fun q => q.2.elim (fun q => orp0 hs2 c_156 ((isl_sl (l := RLX) h47).mp q)) (fun q => q.elim hse (fun q => orp0 hs4 c_162 ((isl_sl (l := SPL) h47).mp q))))⟩), ⟨F_147, r_93, r_144, QTm.mk ht hP hD hO hR, (by rw [hF_149]; rfl), (by rw [hF_149]; rfl), (by rw [h540, hF_149]; rfl), (fun q => absurd q (fun q => q.elim hcn1 (fun q => q.2.elim (fun q => orp0 hs2 c_156 ((isl_sl (l := RLX) h47).mp q)) (fun q => q.elim hse (fun q => orp0 hs4 c_162 ((isl_sl (l := SPL) h47).mp q))))))⟩⟩, hS.F ht⟩) hS.2.2 dX15_isWay_177
            ·
              refine lv_iconst (v := 1) hx hb dX15_isWay_172 (by decide) ?_
              refine lv_goto (tgt := 177) hx hb dX15_isWay_173 (by decide) ?_
              refine W.widen (k := 0) (n := 0) (by omega) (by omega) ?_
              exact W.zret (v := 1) (ty := .boolean) hx hb hr (by decide) (fun t ht hWm => ⟨⟨1, (), rfl, (Or.inl ⟨rfl, Or.inr ⟨Or.inr (orp1 hs3 c_138), Or.inr (Or.inr ((isl_sl (l := SPL) h47).mpr (orp1 hs4 c_162)))⟩⟩), ⟨F_147, r_93, r_144, QTm.mk ht hP hD hO hR, (by rw [hF_149]; rfl), (by rw [hF_149]; rfl), (by rw [h540, hF_149]; rfl), (fun _ => ⟨frx_r hcn1 hs1, brx_r hcn1 (by rcases hs2 with q | q; exact Or.inl ⟨q.1, (isl_sl (l := RLX) h47).mpr q.2⟩; exact Or.inr ⟨q.1, fun w => q.2 ((isl_sl (l := RLX) h47).mp w)⟩)⟩)⟩⟩, hS.F ht⟩) hS.2.2 dX15_isWay_177
        ·
          have hi_163 : (cS (TC fb zx) gq nn) = (cB (TC fb zx) gq nn) := (nI_eq (a := (cS (TC fb zx) gq nn)) (b := (cB (TC fb zx) gq nn)) (by omega) (by omega)).mp c_140
          have hse : (cS (TC fb zx) gq nn) = (cB (TC fb zx) gq nn) := (nI_eq (by omega) (by omega)).mp c_140
          refine lv_iconst (v := 1) hx hb dX15_isWay_116 (by decide) ?_
          refine W.widen (k := 0) (n := 0) (by omega) (by omega) ?_
          exact W.zret (v := 1) (ty := .boolean) hx hb hr (by decide) (fun t ht hWm => ⟨⟨1, (), rfl, (Or.inl ⟨rfl, Or.inr ⟨Or.inr (orp1 hs3 c_138), Or.inr (Or.inl hse)⟩⟩), ⟨F_96, r_93, 0, QTm.mk ht hP hD hO hR, (by rw [hF_98]; rfl), (by rw [hF_98]; rfl), (by rw [h540, hF_98]; rfl), (fun _ => ⟨frx_r hcn1 hs1, (if_neg (fun q => isl_no (l := RLX) hse q.2)).symm⟩)⟩⟩, hS.F ht⟩) hS.2.2 dX15_isWay_117
      ·
        refine lv_iconst (v := 0) hx hb dX15_isWay_100 (by decide) ?_
        refine W.widen (k := 0) (n := 0) (by omega) (by omega) ?_
        exact W.zret (v := 0) (ty := .boolean) hx hb hr (by decide) (fun t ht hWm => ⟨⟨0, (), rfl, (Or.inr ⟨rfl, fun q => q.elim hcn1 (fun q => q.1.elim (orp0 hs1 c_105) (orp0 hs3 c_138))⟩), ⟨F_96, r_93, 0, QTm.mk ht hP hD hO hR, (by rw [hF_98]; rfl), (by rw [hF_98]; rfl), (by rw [h540, hF_98]; rfl), (fun q => absurd q (fun q => q.elim hcn1 (fun q => q.1.elim (orp0 hs1 c_105) (orp0 hs3 c_138))))⟩⟩, hS.F ht⟩) hS.2.2 dX15_isWay_101
  ·
    have hR9 : (tgR (TC fb zx) gq [99] nn) = none := rwx_R hw_66 hcn (Int32.not_le.mp c_85)
    refine lv_iconst (v := 1) hx hb dX15_isWay_25 (by decide) ?_
    refine W.widen (k := 0) (n := 0) (by omega) (by omega) ?_
    exact W.zret (v := 1) (ty := .boolean) hx hb hr (by decide) (fun t ht hWm => ⟨⟨1, (), rfl, (Or.inl ⟨rfl, Or.inl hR9⟩), ⟨F_76, 0, 0, QTm.mk ht hP hD hO hR, (by rw [hF_78]; rfl), (by rw [hF_78]; rfl), (by rw [h540, hF_78]; rfl), (fun _ => ⟨frx_0 hR9, brx_0 hR9⟩)⟩⟩, hS.F ht⟩) hS.2.2 dX15_isWay_26
set_option maxHeartbeats 4000000 in
set_option maxRecDepth 100000 in
theorem s_X15_isWell_x (l : Launch) (dC : Nat → ClassId) (dI : Nat → Nat → Nat) (cs : Nat → ClassId) (ty : TyM) (gm : Nat → Nat → Nat) (L : List Nat) (sz : Nat) (F : Nat → va_E) (h0 : Nat) (ρ : Nat) (ta : Nat) (ou : Nat) (so : Nat) (ad : Nat) (na : Nat) (va : Nat) (lc : Nat) (dm : Nat) (tg : Nat) (pe : Nat) (ml : Nat) (bg : Nat) (co : Nat) (sp : Nat) (nb0 : Nat) (nb1 : Nat) (nb2 : Nat) (pl : Nat) (se : Nat) (ke : Nat) (wi : Nat) (hs : Nat) (mo : Nat) (po : Nat) (nu : Nat) (pr : Nat) (sq : Nat) (xa : Nat) (sa : Nat) (n64 : Nat) (m64 : Nat) (ex : Nat) (wh : Nat) (sd : Nat) (tk : Nat) (hd : Nat) (ak : Nat) (ho : Nat) (ot : Nat) (sx : Nat) (s0 : Nat) (s1 : Nat) (s2 : Nat) (nf : Nat) (bd : Nat) (mm : Nat) (zo : Nat) (fm : Nat) (sn : Nat) (hg : Nat) (gc : Nat) (gv : Nat) (ze : Nat) (zt : Nat) (sb : Nat) (zx : Nat) (fb : Nat → Int32) (hW : WTm ty gm L) (hL_h0 : h0 ∈ L) (hT_h0 : ty h0 = (15, ρ, [ta, ou, so, ad, na, va, lc, dm, tg, pe, ml, bg, co, sp, nb0, nb1, nb2, pl, se, ke, wi, hs, mo, po, nu, pr, sq, xa, sa, n64, m64, ex, wh, sd, tk, hd, ak, ho, ot, sx, s0, s1, s2, nf, bd, mm, zo, fm, sn, hg, gc, gv, ze, zt])) (hL_sx : sx ∈ L) (hT_sx : ty sx = (14, ρ + 12, [sb, 3000])) (hFx : F sx = .inr (14, [.ref sb, .int (nI zx)])) (hFb : F sb = .inl (cs 17, 3000, .inl fb)) (hzx : zx ≤ 1280) : Met l yX15_isWell (.code yX15_isWell cX15_isWell 1 (some .boolean) :: tb) ({ frames := 7, cells := 0, slots := 0, locals := 164 }) (va_Pc [.ref h0] (PTEm (dC, dI) cs ty gm L F sz [])) (va_Qi (fun (r : Int32) (gg : TGG) => ((r = 1 ∧ tgT (TC fb zx) zx = some gg ∧ SWB (TC fb zx) gg.2 gg.1) ∨ (r = 0 ∧ ¬ SWL (TC fb zx) zx))) (fun (gg : TGG) T9 => ∃ F2 : Nat → va_E, ∃ p0 : Nat → Int32, ∃ p1 : Nat → Int32, ∃ p2 : Nat → Int32, ∃ f9 : Nat → Int32, ∃ f8 : Nat → Int32, ∃ b0 : Int32, ∃ b1 : Int32, QTm (dC, dI) cs ty gm L [ρ, ρ + 11, ρ + 81, ρ + 82, ρ + 20, ρ + 21] F F2 (va_A (va_pl L F) sz) T9 ∧ F2 se = .inr (13, [.ref sx, .ref s0, .ref s1, .ref s2, .int (nI gg.1)]) ∧ F2 s0 = .inl (cs 16, 40, .inl p0) ∧ F2 s1 = .inl (cs 16, 40, .inl p1) ∧ F2 s2 = .inl (cs 16, 40, .inl p2) ∧ HLD p0 p1 p2 gg.1 gg.2 ∧ (TGI zx gg.1 gg.2 ∧ gg.1 ≤ 40) ∧ (tgT (TC fb zx) zx = some gg → SWB (TC fb zx) gg.2 gg.1 → gF (F2 h0) 52 = frx (TC fb zx) gg.2 gg.1 ∧ gF (F2 h0) 53 = brx (TC fb zx) gg.2 gg.1 ∧ F2 sa = .inl (cs 17, 32, .inl f9) ∧ BYM (dcB (TC fb zx) (tgA gg.2 (tgR (TC fb zx) gg.2 [98, 104] gg.1)) 32) 32 f9 ∧ F2 n64 = .inl (cs 17, 64, .inl f8) ∧ BYM (dcB (TC fb zx) (tgA gg.2 (tgR (TC fb zx) gg.2 [98] gg.1)) 64) 64 f8)) (va_A (va_pl L F) sz)) 0 0 (va_A (va_pl L F) sz) := by
  refine Met.ofW (cc := cX15_isWell) (maxL := 1) (ret := (some .boolean)) (by decide) rfl ?_
  intro p e s m args below meth c s₁ B hml hv
  obtain ⟨rfl, ⟨hsz, hP, hK, hD0, hE, hO⟩, hG, hX⟩ := hv
  have hx := B.exec
  have hb := B.bytes
  have hr := B.returns
  have hts : ∀ w ∈ tb, w.before _ s = true := fun w h => atoms_spec (ws := .code yX15_isWell cX15_isWell 1 (some .boolean) :: tb) B.pre w (List.mem_cons_of_mem _ h)
  have hown : s.vm.findClass RX15 = some m.cls := findClass_of_methodNamed B.named
  have hlocks := B.notSynchronized
  subst hsz
  have hD := hD0.self (sz := s.heap.size)
  generalize hAe : va_A (va_pl L F) s.heap.size = A at hD hG hX ⊢
  have hA : ∀ q : Nat, s.heap.size ≤ q → A q := fun q h => by rw [← hAe]; exact Or.inr h
  have hS : va_S A s.heap s.heap [] := va_S.rf
  have hR : FR ty [ρ, ρ + 11, ρ + 81, ρ + 82, ρ + 20, ρ + 21] F F := FR.refl
  have hl := lv_entry ([.ref h0]) (n := 1) (Nat.le_of_ble_eq_true rfl)
  rw [lg_entry_eq]
  generalize (lg_sl ([.ref h0]) ++ List.replicate (1 - (lg_sl ([.ref h0])).length) Slot.unset).toArray = ls at hl ⊢
  have hl : lv_has ls 1 [(0, .ref h0)] := hl
  obtain ⟨hq_23, hq_24, hq_25, hq_26, hq_27, hgO, hgA, hgB, hq_28⟩ := hW.sc hL_h0 hT_h0
  obtain ⟨hi_29, ht_30⟩ := hW.f_se hL_h0 hT_h0
  obtain ⟨_, hi_31, hi_32, hi_33, _, ht_34, ht_35, ht_36, hq_37, hq_38⟩ := hW.tags hi_29 ht_30
  have ht_35 : ty s1 = (25, ρ + 81, [40, 1280]) := ht_35
  have ht_36 : ty s2 = (25, ρ + 82, [40, 1280]) := ht_36
  obtain ⟨hi_39, ht_40, hq_41⟩ := hW.txt hL_sx hT_sx
  obtain ⟨hi_42, ht_43⟩ := hW.f_sa hL_h0 hT_h0
  obtain ⟨hq_44, hq_45⟩ := hW.octs hi_42 ht_43
  obtain ⟨hi_46, ht_47⟩ := hW.f_n64 hL_h0 hT_h0
  obtain ⟨hq_48, hq_49⟩ := hW.octs hi_46 ht_47
  refine lv_aload_n hx hb dX15_isWell_0 rfl (lv_at hl 0 rfl) ?_
  obtain ⟨v14_50, v15_51, v17_52, v18_53, v19_54, v20_55, v21_56, v22_57, v33_58, v52_59, v53_60, v54_61, hF_62, hq_63, hq_64, hq_65, hq_66, hq_67⟩ := hO.mod hL_h0 hT_h0
  refine pg_get (ci := 15) (v := .ref se) (C := RX15) (T := TX15) (N := 59) hx hb hts it_15 hown hK hP hL_h0 hF_62 rfl 35 (by decide) (hts _ kt_847) (fun _ h9 => h9) rfl dX15_isWell_1 ?_
  refine lv_bipush (v := 8) hx hb dX15_isWell_4 (by decide) ?_
  obtain ⟨hq_68, hq_69⟩ := hW.octs hi_39 ht_40
  have hFc := pg_free hD hS hA
  obtain ⟨z_70, hF_71, hq_72⟩ := hO.tags hi_29 ht_30
  refine va_calli (va_runV (As := [.int 8]) (rest := []) ⟨hx, hb, hml, hown, hts⟩ (s_X13_read_x l dC dI cs ty gm L s.heap.size F se (ρ + 11) sx 3000 1280 s0 s1 s2 sb zx fb hW hi_29 ht_30 hL_sx hT_sx hFx hFb (by omega) (by omega)) ⟨callB_of 1 hts (gi kt_859) rfl rfl rfl (hts _ kt_829) (hts _ kt_860) (by decide +kernel) ⟨Nat.le_of_ble_eq_true rfl, Nat.le_of_ble_eq_true rfl⟩, (hts _ kt_861), (hts _ kt_862)⟩ ⟨fun a U g mk q => ⟨q.1, PTm.calling q.2⟩, pg_recv hK hP hi_29 hF_71 (q := (RX13, TX13, 5)) rfl, fun U hU hWm => ⟨rfl, PTm.mk hU hWm hP hK hD hE hO⟩⟩ rfl rfl hl.1 rfl (lv_room (Nat.le_of_ble_eq_true rfl)) dX15_isWell_6 ⟨by show _ + 0 ≤ 0; omega, by show _ + 0 ≤ 0; omega⟩) hS (fun q _ h => hFc q h) hFc (fun r_74 gg_73 t H1 locs ht hvm hw hB hz1 hk1 hS => ?_)
  obtain ⟨F_75, p0_76, p1_77, p2_78, hB1, hq_79, hq_80, hq_81, hq_82, hq_83, hq_84⟩ := hB
  obtain ⟨hP, hD, hO, hR⟩ := QTm.back hB1 ht hFc hR (fun q h => by simp only [List.mem_cons, List.not_mem_nil, or_false] at h ⊢; omega)
  have hF_85 : F_75 sx = .inr (14, [.ref sb, .int (nI zx)]) := (hB1.2.2.2 sx (by rw [hT_sx]; simp <;> omega)).trans hFx
  have hF_86 : F_75 sb = .inl (cs 17, 3000, .inl fb) := (hB1.2.2.2 sb (by rw [ht_40]; simp <;> omega)).trans hFb
  have hF_87 : F_75 h0 = .inr (15, (.ref ta) :: (.int (nI zt)) :: (.int (nI zo)) :: (.int (nI ze)) :: (.ref ou) :: (.ref so) :: (.ref ad) :: (.ref na) :: (.ref va) :: (.ref lc) :: (.ref dm) :: (.int (nI fm)) :: (.int (nI sn)) :: (.ref tg) :: (.int v14_50) :: (.int v15_51) :: (.ref pe) :: (.int v17_52) :: (.int v18_53) :: (.int v19_54) :: (.int v20_55) :: (.int v21_56) :: (.int v22_57) :: (.ref ml) :: (.ref bg) :: (.ref co) :: (.ref sp) :: (.ref nb0) :: (.ref nb1) :: (.ref nb2) :: (.int (nI nf)) :: (.int (nI bd)) :: (.int (nI mm)) :: (.int v33_58) :: (.ref pl) :: (.ref se) :: (.ref ke) :: (.ref wi) :: (.ref hs) :: (.ref mo) :: (.ref po) :: (.ref nu) :: (.ref pr) :: (.ref sq) :: (.ref xa) :: (.ref sa) :: (.ref n64) :: (.ref m64) :: (.ref ex) :: (.ref wh) :: (.ref sd) :: (.ref tk) :: (.int v52_59) :: (.int v53_60) :: (.int v54_61) :: (.ref hd) :: (.ref ak) :: (.ref ho) :: (.ref ot) :: []) := (hB1.2.2.2 h0 (by rw [hT_h0]; simp <;> omega)).trans hF_62
  generalize H1 = H at hP hS ⊢
  have hw : TGX (TC fb zx) zx r_74 gg_73 := hw
  have hw_88 := hw
  have hHL := hq_83
  obtain ⟨hti1, hti2⟩ := hq_84
  have hRD := hw_88
  refine lv_if_eq (tgt := 64) hx hb dX15_isWell_9 (by decide) (fun c_89 => ?_) (fun c_89 => ?_)
  ·
    have hgt : tgT (TC fb zx) zx = none := by rcases hRD with h9 | h9; exact absurd (h9.1.symm.trans c_89) (by decide); exact h9.2
    refine lv_iconst (v := 0) hx hb dX15_isWell_64 (by decide) ?_
    refine W.widen (k := 0) (n := 0) (by omega) (by omega) ?_
    exact W.zret (v := 0) (ty := .boolean) hx hb hr (by decide) (fun t ht hWm => ⟨⟨0, gg_73, rfl, (Or.inr ⟨rfl, swl_0 hgt⟩), ⟨F_75, p0_76, p1_77, p2_78, (fun _ => 0), (fun _ => 0), 0, 0, QTm.mk ht hP hD hO hR, hq_79, hq_80, hq_81, hq_82, hHL, ⟨hti1, hti2⟩, (fun q _ => nomatch hgt.symm.trans q)⟩⟩, hS.F ht⟩) hS.2.2 dX15_isWell_65
  ·
    have hgt : tgT (TC fb zx) zx = some gg_73 := by rcases hRD with h9 | h9; exact h9.2; exact absurd h9.1 c_89
    refine lv_aload_n hx hb dX15_isWell_12 rfl (lv_at hl 0 rfl) ?_
    refine pg_get (ci := 15) (v := .ref se) (C := RX15) (T := TX15) (N := 59) hx hb hts it_15 hown hK hP hL_h0 hF_87 rfl 35 (by decide) (hts _ kt_847) (fun _ h9 => h9) rfl dX15_isWell_13 ?_
    obtain ⟨q_90, v_91, hr_q_90, hX_q_90⟩ := hG.2.2 ("PostGateModel", 444, "v", [118]) (by decide +kernel)
    have hX_q_90 : SXc q_90 v_91 1 (cct [118]) A s s.heap := hX_q_90
    obtain ⟨xo_q_90, xc_q_90, xv_q_90, xt_q_90, xn_q_90⟩ := id hX_q_90
    have hr_q_90 : vk_R "PostGateModel" 444 "v" q_90 s := hr_q_90
    refine va_ldcwS hx hb hown hr_q_90 dX15_isWell_16 ?_
    obtain ⟨q_92, v_93, hr_q_92, hX_q_92⟩ := hG.2.2 ("PostGateModel", 446, "1", [49]) (by decide +kernel)
    have hX_q_92 : SXc q_92 v_93 1 (cct [49]) A s s.heap := hX_q_92
    obtain ⟨xo_q_92, xc_q_92, xv_q_92, xt_q_92, xn_q_92⟩ := id hX_q_92
    have hr_q_92 : vk_R "PostGateModel" 446 "1" q_92 s := hr_q_92
    refine va_ldcwS hx hb hown hr_q_92 dX15_isWell_19 ?_
    have hFc := pg_free hD hS hA
    refine va_calli (va_runV (As := [.ref q_90, .ref q_92]) (rest := []) ⟨hx, hb, hml, hown, hts⟩ (s_X13_has_x l dC dI cs ty gm L H.size F_75 se (ρ + 11) sx 3000 1280 s0 s1 s2 sb zx gg_73.1 fb p0_76 p1_77 p2_78 gg_73.2 q_90 v_91 1 (cct [118]) q_92 v_93 1 (cct [49]) ([118]) ([49]) hW hi_29 ht_30 hL_sx hT_sx hF_85 hF_86 (by omega) hq_79 hq_80 hq_81 hq_82 (hti2) (hHL) (hti1) (Nat.le_refl _) (⟨rfl, by decide +kernel⟩) (⟨rfl, by decide +kernel⟩)) ⟨callB_of 2 hts (gi kt_863) rfl rfl rfl (hts _ kt_829) (hts _ kt_864) (by decide +kernel) ⟨Nat.le_of_ble_eq_true rfl, Nat.le_of_ble_eq_true rfl⟩, (hts _ kt_865), (hts _ kt_866)⟩ ⟨fun a U g mk q => ⟨q.1, PTEm.calling q.2⟩, pg_recv hK hP hi_29 hq_79 (q := (RX13, TX13, 5)) rfl, fun U hU hWm => ⟨rfl, PTEm.mk hU hWm hP hK hD hE hO hG (fun x hx => by simp only [List.mem_cons, List.not_mem_nil, or_false] at hx; rcases hx with hx | hx <;> subst hx <;> first | exact hX_q_90 | exact hX_q_92) hS hFc⟩⟩ rfl rfl hl.1 rfl (lv_room (Nat.le_of_ble_eq_true rfl)) dX15_isWell_22 ⟨by show _ + 0 ≤ 0; omega, by show _ + 0 ≤ 0; omega⟩) hS (fun q _ h => hFc q h) hFc (fun r_94 u t H1 locs ht hvm hw hB hz1 hk1 hS => ?_)
    obtain ⟨F_95, hB1⟩ := hB
    obtain rfl : F_75 = F_95 := (funext (fun a => hB1.2.2.2 a List.not_mem_nil)).symm
    obtain ⟨hP, hD, hO, hR⟩ := QTm.back hB1 ht hFc hR (fun q h => absurd h List.not_mem_nil)
    generalize H1 = H at hP hS ⊢
    have hw : ((r_94 = 1 ∧ TGV (TC fb zx) gg_73.2 gg_73.1 [118] [49]) ∨ (r_94 = 0 ∧ ¬ TGV (TC fb zx) gg_73.2 gg_73.1 [118] [49])) := hw
    have hw_96 := hw
    refine lv_if_eq (tgt := 64) hx hb dX15_isWell_25 (by decide) (fun c_97 => ?_) (fun c_97 => ?_)
    ·
      refine lv_iconst (v := 0) hx hb dX15_isWell_64 (by decide) ?_
      refine W.widen (k := 0) (n := 0) (by omega) (by omega) ?_
      exact W.zret (v := 0) (ty := .boolean) hx hb hr (by decide) (fun t ht hWm => ⟨⟨0, gg_73, rfl, (Or.inr ⟨rfl, swl_n hgt (show ¬ SWB (TC fb zx) gg_73.2 gg_73.1 from (fun q => orp0 hw_96 c_97 (q.1)))⟩), ⟨F_75, p0_76, p1_77, p2_78, (fun _ => 0), (fun _ => 0), 0, 0, QTm.mk ht hP hD hO hR, hq_79, hq_80, hq_81, hq_82, hHL, ⟨hti1, hti2⟩, (fun _ q => absurd q (show ¬ SWB (TC fb zx) gg_73.2 gg_73.1 from (fun q => orp0 hw_96 c_97 (q.1))))⟩⟩, hS.F ht⟩) hS.2.2 dX15_isWell_65
    ·
      refine lv_aload_n hx hb dX15_isWell_28 rfl (lv_at hl 0 rfl) ?_
      refine pg_get (ci := 15) (v := .ref se) (C := RX15) (T := TX15) (N := 59) hx hb hts it_15 hown hK hP hL_h0 hF_87 rfl 35 (by decide) (hts _ kt_847) (fun _ h9 => h9) rfl dX15_isWell_29 ?_
      obtain ⟨q_98, v_99, hr_q_98, hX_q_98⟩ := hG.2.2 ("PostGateModel", 274, "a", [97]) (by decide +kernel)
      have hX_q_98 : SXc q_98 v_99 1 (cct [97]) A s s.heap := hX_q_98
      obtain ⟨xo_q_98, xc_q_98, xv_q_98, xt_q_98, xn_q_98⟩ := id hX_q_98
      have hr_q_98 : vk_R "PostGateModel" 274 "a" q_98 s := hr_q_98
      refine va_ldcwS hx hb hown hr_q_98 dX15_isWell_32 ?_
      obtain ⟨q_100, v_101, hr_q_100, hX_q_100⟩ := hG.2.2 ("PostGateModel", 452, "rsa-sha256", [114, 115, 97, 45, 115, 104, 97, 50, 53, 54]) (by decide +kernel)
      have hX_q_100 : SXc q_100 v_101 10 (cct [114, 115, 97, 45, 115, 104, 97, 50, 53, 54]) A s s.heap := hX_q_100
      obtain ⟨xo_q_100, xc_q_100, xv_q_100, xt_q_100, xn_q_100⟩ := id hX_q_100
      have hr_q_100 : vk_R "PostGateModel" 452 "rsa-sha256" q_100 s := hr_q_100
      refine va_ldcwS hx hb hown hr_q_100 dX15_isWell_35 ?_
      have hFc := pg_free hD hS hA
      refine va_calli (va_runV (As := [.ref q_98, .ref q_100]) (rest := []) ⟨hx, hb, hml, hown, hts⟩ (s_X13_has_x l dC dI cs ty gm L H.size F_75 se (ρ + 11) sx 3000 1280 s0 s1 s2 sb zx gg_73.1 fb p0_76 p1_77 p2_78 gg_73.2 q_98 v_99 1 (cct [97]) q_100 v_101 10 (cct [114, 115, 97, 45, 115, 104, 97, 50, 53, 54]) ([97]) RS2 hW hi_29 ht_30 hL_sx hT_sx hF_85 hF_86 (by omega) hq_79 hq_80 hq_81 hq_82 (hti2) (hHL) (hti1) (Nat.le_refl _) (⟨rfl, by decide +kernel⟩) (⟨rfl, by decide +kernel⟩)) ⟨callB_of 2 hts (gi kt_863) rfl rfl rfl (hts _ kt_829) (hts _ kt_864) (by decide +kernel) ⟨Nat.le_of_ble_eq_true rfl, Nat.le_of_ble_eq_true rfl⟩, (hts _ kt_865), (hts _ kt_866)⟩ ⟨fun a U g mk q => ⟨q.1, PTEm.calling q.2⟩, pg_recv hK hP hi_29 hq_79 (q := (RX13, TX13, 5)) rfl, fun U hU hWm => ⟨rfl, PTEm.mk hU hWm hP hK hD hE hO hG (fun x hx => by simp only [List.mem_cons, List.not_mem_nil, or_false] at hx; rcases hx with hx | hx <;> subst hx <;> first | exact hX_q_98 | exact hX_q_100) hS hFc⟩⟩ rfl rfl hl.1 rfl (lv_room (Nat.le_of_ble_eq_true rfl)) dX15_isWell_38 ⟨by show _ + 0 ≤ 0; omega, by show _ + 0 ≤ 0; omega⟩) hS (fun q _ h => hFc q h) hFc (fun r_102 u t H1 locs ht hvm hw hB hz1 hk1 hS => ?_)
      obtain ⟨F_103, hB1⟩ := hB
      obtain rfl : F_75 = F_103 := (funext (fun a => hB1.2.2.2 a List.not_mem_nil)).symm
      obtain ⟨hP, hD, hO, hR⟩ := QTm.back hB1 ht hFc hR (fun q h => absurd h List.not_mem_nil)
      generalize H1 = H at hP hS ⊢
      have hw : ((r_102 = 1 ∧ TGV (TC fb zx) gg_73.2 gg_73.1 [97] RS2) ∨ (r_102 = 0 ∧ ¬ TGV (TC fb zx) gg_73.2 gg_73.1 [97] RS2)) := hw
      have hw_104 := hw
      refine lv_if_eq (tgt := 64) hx hb dX15_isWell_41 (by decide) (fun c_105 => ?_) (fun c_105 => ?_)
      ·
        refine lv_iconst (v := 0) hx hb dX15_isWell_64 (by decide) ?_
        refine W.widen (k := 0) (n := 0) (by omega) (by omega) ?_
        exact W.zret (v := 0) (ty := .boolean) hx hb hr (by decide) (fun t ht hWm => ⟨⟨0, gg_73, rfl, (Or.inr ⟨rfl, swl_n hgt (show ¬ SWB (TC fb zx) gg_73.2 gg_73.1 from (fun q => orp0 hw_104 c_105 (q.2.1)))⟩), ⟨F_75, p0_76, p1_77, p2_78, (fun _ => 0), (fun _ => 0), 0, 0, QTm.mk ht hP hD hO hR, hq_79, hq_80, hq_81, hq_82, hHL, ⟨hti1, hti2⟩, (fun _ q => absurd q (show ¬ SWB (TC fb zx) gg_73.2 gg_73.1 from (fun q => orp0 hw_104 c_105 (q.2.1))))⟩⟩, hS.F ht⟩) hS.2.2 dX15_isWell_65
      ·
        refine lv_aload_n hx hb dX15_isWell_44 rfl (lv_at hl 0 rfl) ?_
        obtain ⟨q_106, v_107, hr_q_106, hX_q_106⟩ := hG.2.2 ("PostGateModel", 454, "d", [100]) (by decide +kernel)
        have hX_q_106 : SXc q_106 v_107 1 (cct [100]) A s s.heap := hX_q_106
        obtain ⟨xo_q_106, xc_q_106, xv_q_106, xt_q_106, xn_q_106⟩ := id hX_q_106
        have hr_q_106 : vk_R "PostGateModel" 454 "d" q_106 s := hr_q_106
        refine va_ldcwS hx hb hown hr_q_106 dX15_isWell_45 ?_
        have hFc := pg_free hD hS hA
        refine va_calli (va_runV (As := [.ref q_106]) (rest := []) ⟨hx, hb, hml, hown, hts⟩ (s_X15_isTagName_x l dC dI cs ty gm L H.size F_75 h0 ρ ta ou so ad na va lc dm tg pe ml bg co sp nb0 nb1 nb2 pl se ke wi hs mo po nu pr sq xa sa n64 m64 ex wh sd tk hd ak ho ot sx s0 s1 s2 nf bd mm zo fm sn hg gc gv ze zt sb zx gg_73.1 fb p0_76 p1_77 p2_78 gg_73.2 q_106 v_107 1 (cct [100]) ([100]) hW hL_h0 hT_h0 hL_sx hT_sx hq_79 hF_85 hF_86 hq_80 hq_81 hq_82 (by omega) (hti2) (hHL) (hti1) (⟨rfl, by decide +kernel⟩)) ⟨callB_of 1 hts (gi kt_867) rfl rfl rfl (hts _ kt_669) (hts _ kt_868) (by decide +kernel) ⟨Nat.le_of_ble_eq_true rfl, Nat.le_of_ble_eq_true rfl⟩, (hts _ kt_869), (hts _ kt_870)⟩ ⟨fun a U g mk q => ⟨q.1, PTEm.calling q.2⟩, pg_recv hK hP hL_h0 hF_87 (q := (RX15, TX15, 59)) rfl, fun U hU hWm => ⟨rfl, PTEm.mk hU hWm hP hK hD hE hO hG (fun x hx => by rw [List.mem_singleton] at hx; subst hx; exact hX_q_106) hS hFc⟩⟩ rfl rfl hl.1 rfl (lv_room (Nat.le_of_ble_eq_true rfl)) dX15_isWell_48 ⟨by show _ + 0 ≤ 0; omega, by show _ + 0 ≤ 0; omega⟩) hS (fun q _ h => hFc q h) hFc (fun r_108 u t H1 locs ht hvm hw hB hz1 hk1 hS => ?_)
        obtain ⟨F_109, hB1⟩ := hB
        obtain rfl : F_75 = F_109 := (funext (fun a => hB1.2.2.2 a List.not_mem_nil)).symm
        obtain ⟨hP, hD, hO, hR⟩ := QTm.back hB1 ht hFc hR (fun q h => absurd h List.not_mem_nil)
        generalize H1 = H at hP hS ⊢
        have hw : ((r_108 = 1 ∧ NMC (TC fb zx) (tgA gg_73.2 (tgR (TC fb zx) gg_73.2 [100] gg_73.1)) (tgB gg_73.2 (tgR (TC fb zx) gg_73.2 [100] gg_73.1)) = true) ∨ (r_108 = 0 ∧ ¬ NMC (TC fb zx) (tgA gg_73.2 (tgR (TC fb zx) gg_73.2 [100] gg_73.1)) (tgB gg_73.2 (tgR (TC fb zx) gg_73.2 [100] gg_73.1)) = true)) := hw
        have hw_110 := hw
        refine lv_if_eq (tgt := 64) hx hb dX15_isWell_51 (by decide) (fun c_111 => ?_) (fun c_111 => ?_)
        ·
          refine lv_iconst (v := 0) hx hb dX15_isWell_64 (by decide) ?_
          refine W.widen (k := 0) (n := 0) (by omega) (by omega) ?_
          exact W.zret (v := 0) (ty := .boolean) hx hb hr (by decide) (fun t ht hWm => ⟨⟨0, gg_73, rfl, (Or.inr ⟨rfl, swl_n hgt (show ¬ SWB (TC fb zx) gg_73.2 gg_73.1 from (fun q => orp0 hw_110 c_111 (q.2.2.1)))⟩), ⟨F_75, p0_76, p1_77, p2_78, (fun _ => 0), (fun _ => 0), 0, 0, QTm.mk ht hP hD hO hR, hq_79, hq_80, hq_81, hq_82, hHL, ⟨hti1, hti2⟩, (fun _ q => absurd q (show ¬ SWB (TC fb zx) gg_73.2 gg_73.1 from (fun q => orp0 hw_110 c_111 (q.2.2.1))))⟩⟩, hS.F ht⟩) hS.2.2 dX15_isWell_65
        ·
          refine lv_aload_n hx hb dX15_isWell_54 rfl (lv_at hl 0 rfl) ?_
          obtain ⟨q_112, v_113, hr_q_112, hX_q_112⟩ := hG.2.2 ("PostGateModel", 460, "s", [115]) (by decide +kernel)
          have hX_q_112 : SXc q_112 v_113 1 (cct [115]) A s s.heap := hX_q_112
          obtain ⟨xo_q_112, xc_q_112, xv_q_112, xt_q_112, xn_q_112⟩ := id hX_q_112
          have hr_q_112 : vk_R "PostGateModel" 460 "s" q_112 s := hr_q_112
          refine va_ldcwS hx hb hown hr_q_112 dX15_isWell_55 ?_
          have hFc := pg_free hD hS hA
          refine va_calli (va_runV (As := [.ref q_112]) (rest := []) ⟨hx, hb, hml, hown, hts⟩ (s_X15_isTagName_x l dC dI cs ty gm L H.size F_75 h0 ρ ta ou so ad na va lc dm tg pe ml bg co sp nb0 nb1 nb2 pl se ke wi hs mo po nu pr sq xa sa n64 m64 ex wh sd tk hd ak ho ot sx s0 s1 s2 nf bd mm zo fm sn hg gc gv ze zt sb zx gg_73.1 fb p0_76 p1_77 p2_78 gg_73.2 q_112 v_113 1 (cct [115]) ([115]) hW hL_h0 hT_h0 hL_sx hT_sx hq_79 hF_85 hF_86 hq_80 hq_81 hq_82 (by omega) (hti2) (hHL) (hti1) (⟨rfl, by decide +kernel⟩)) ⟨callB_of 1 hts (gi kt_867) rfl rfl rfl (hts _ kt_669) (hts _ kt_868) (by decide +kernel) ⟨Nat.le_of_ble_eq_true rfl, Nat.le_of_ble_eq_true rfl⟩, (hts _ kt_869), (hts _ kt_870)⟩ ⟨fun a U g mk q => ⟨q.1, PTEm.calling q.2⟩, pg_recv hK hP hL_h0 hF_87 (q := (RX15, TX15, 59)) rfl, fun U hU hWm => ⟨rfl, PTEm.mk hU hWm hP hK hD hE hO hG (fun x hx => by rw [List.mem_singleton] at hx; subst hx; exact hX_q_112) hS hFc⟩⟩ rfl rfl hl.1 rfl (lv_room (Nat.le_of_ble_eq_true rfl)) dX15_isWell_58 ⟨by show _ + 0 ≤ 0; omega, by show _ + 0 ≤ 0; omega⟩) hS (fun q _ h => hFc q h) hFc (fun r_114 u t H1 locs ht hvm hw hB hz1 hk1 hS => ?_)
          obtain ⟨F_115, hB1⟩ := hB
          obtain rfl : F_75 = F_115 := (funext (fun a => hB1.2.2.2 a List.not_mem_nil)).symm
          obtain ⟨hP, hD, hO, hR⟩ := QTm.back hB1 ht hFc hR (fun q h => absurd h List.not_mem_nil)
          generalize H1 = H at hP hS ⊢
          have hw : ((r_114 = 1 ∧ NMC (TC fb zx) (tgA gg_73.2 (tgR (TC fb zx) gg_73.2 [115] gg_73.1)) (tgB gg_73.2 (tgR (TC fb zx) gg_73.2 [115] gg_73.1)) = true) ∨ (r_114 = 0 ∧ ¬ NMC (TC fb zx) (tgA gg_73.2 (tgR (TC fb zx) gg_73.2 [115] gg_73.1)) (tgB gg_73.2 (tgR (TC fb zx) gg_73.2 [115] gg_73.1)) = true)) := hw
          have hw_116 := hw
          refine lv_if_ne (tgt := 66) hx hb dX15_isWell_61 (by decide) (fun c_117 => ?_) (fun c_117 => ?_)
          ·
            refine lv_aload_n hx hb dX15_isWell_66 rfl (lv_at hl 0 rfl) ?_
            refine pg_get (ci := 15) (v := .ref se) (C := RX15) (T := TX15) (N := 59) hx hb hts it_15 hown hK hP hL_h0 hF_87 rfl 35 (by decide) (hts _ kt_847) (fun _ h9 => h9) rfl dX15_isWell_67 ?_
            obtain ⟨q_118, v_119, hr_q_118, hX_q_118⟩ := hG.2.2 ("PostGateModel", 462, "bh", [98, 104]) (by decide +kernel)
            have hX_q_118 : SXc q_118 v_119 2 (cct [98, 104]) A s s.heap := hX_q_118
            obtain ⟨xo_q_118, xc_q_118, xv_q_118, xt_q_118, xn_q_118⟩ := id hX_q_118
            have hr_q_118 : vk_R "PostGateModel" 462 "bh" q_118 s := hr_q_118
            refine va_ldcwS hx hb hown hr_q_118 dX15_isWell_70 ?_
            refine lv_bipush (v := 32) hx hb dX15_isWell_73 (by decide) ?_
            refine lv_aload_n hx hb dX15_isWell_75 rfl (lv_at hl 0 rfl) ?_
            refine pg_get (ci := 15) (v := .ref sa) (C := RX15) (T := TX15) (N := 59) hx hb hts it_15 hown hK hP hL_h0 hF_87 rfl 45 (by decide) (hts _ kt_871) (fun _ h9 => h9) rfl dX15_isWell_76 ?_
            refine W.eq (g2 := F0 m 79 ls [.ref sa, .int (nI 32), .ref q_118, .ref se]) rfl ?_
            have hFc := pg_free hD hS hA
            refine va_calli (va_runS (As := [.ref se, .ref q_118, .int (nI 32), .ref sa]) (rest := []) ⟨hx, hb, hml, hown, hts⟩ (s_X15_base_x l dC dI cs ty gm L H.size F_75 se (ρ + 11) sx 3000 1280 s0 s1 s2 sb zx gg_73.1 fb p0_76 p1_77 p2_78 gg_73.2 q_118 v_119 2 (cct [98, 104]) ([98, 104]) 32 sa (ρ + 20) hW hi_29 ht_30 hL_sx hT_sx hi_42 ht_43 hF_85 hF_86 (by omega) hq_79 hq_80 hq_81 hq_82 (hti2) (hHL) (hti1) (Nat.le_refl _) (⟨rfl, by decide +kernel⟩) (Or.inl rfl) (by omega)) ⟨callB_of 4 hts (gi kt_872) rfl rfl rfl (hts _ kt_669) (hts _ kt_873) (by decide +kernel) ⟨Nat.le_of_ble_eq_true rfl, Nat.le_of_ble_eq_true rfl⟩, (hts _ kt_874)⟩ ⟨fun a U g mk q => ⟨q.1, PTEm.calling q.2⟩, fun U hU hWm => ⟨rfl, PTEm.mk hU hWm hP hK hD hE hO hG (fun x hx => by rw [List.mem_singleton] at hx; subst hx; exact hX_q_118) hS hFc⟩⟩ rfl rfl hl.1 rfl (lv_room (Nat.le_of_ble_eq_true rfl)) dX15_isWell_79 ⟨by show _ + 0 ≤ 0; omega, by show _ + 0 ≤ 0; omega⟩) hS (fun q _ h => hFc q h) hFc (fun r_120 u t H1 locs ht hvm hw hB hz1 hk1 hS => ?_)
            obtain ⟨F_121, f2_122, hB1, hq_123, hq_124⟩ := hB
            obtain ⟨hP, hD, hO, hR⟩ := QTm.back hB1 ht hFc hR (fun q h => by simp only [List.mem_cons, List.not_mem_nil, or_false] at h ⊢; omega)
            have hF_125 : F_121 sx = .inr (14, [.ref sb, .int (nI zx)]) := (hB1.2.2.2 sx (by rw [hT_sx]; simp)).trans hF_85
            have hF_126 : F_121 sb = .inl (cs 17, 3000, .inl fb) := (hB1.2.2.2 sb (by rw [ht_40]; simp)).trans hF_86
            have hF_127 : F_121 h0 = .inr (15, (.ref ta) :: (.int (nI zt)) :: (.int (nI zo)) :: (.int (nI ze)) :: (.ref ou) :: (.ref so) :: (.ref ad) :: (.ref na) :: (.ref va) :: (.ref lc) :: (.ref dm) :: (.int (nI fm)) :: (.int (nI sn)) :: (.ref tg) :: (.int v14_50) :: (.int v15_51) :: (.ref pe) :: (.int v17_52) :: (.int v18_53) :: (.int v19_54) :: (.int v20_55) :: (.int v21_56) :: (.int v22_57) :: (.ref ml) :: (.ref bg) :: (.ref co) :: (.ref sp) :: (.ref nb0) :: (.ref nb1) :: (.ref nb2) :: (.int (nI nf)) :: (.int (nI bd)) :: (.int (nI mm)) :: (.int v33_58) :: (.ref pl) :: (.ref se) :: (.ref ke) :: (.ref wi) :: (.ref hs) :: (.ref mo) :: (.ref po) :: (.ref nu) :: (.ref pr) :: (.ref sq) :: (.ref xa) :: (.ref sa) :: (.ref n64) :: (.ref m64) :: (.ref ex) :: (.ref wh) :: (.ref sd) :: (.ref tk) :: (.int v52_59) :: (.int v53_60) :: (.int v54_61) :: (.ref hd) :: (.ref ak) :: (.ref ho) :: (.ref ot) :: []) := (hB1.2.2.2 h0 (by rw [hT_h0]; simp)).trans hF_87
            have hF_128 : F_121 se = .inr (13, [.ref sx, .ref s0, .ref s1, .ref s2, .int (nI gg_73.1)]) := (hB1.2.2.2 se (by rw [ht_30]; simp)).trans hq_79
            have hF_129 : F_121 s0 = .inl (cs 16, 40, .inl p0_76) := (hB1.2.2.2 s0 (by rw [ht_34]; simp)).trans hq_80
            have hF_130 : F_121 s1 = .inl (cs 16, 40, .inl p1_77) := (hB1.2.2.2 s1 (by rw [ht_35]; simp)).trans hq_81
            have hF_131 : F_121 s2 = .inl (cs 16, 40, .inl p2_78) := (hB1.2.2.2 s2 (by rw [ht_36]; simp)).trans hq_82
            generalize H1 = H at hP hS ⊢
            have hw : ((r_120 = 1 ∧ DCD (TC fb zx) (tgA gg_73.2 (tgR (TC fb zx) gg_73.2 [98, 104] gg_73.1)) (tgB gg_73.2 (tgR (TC fb zx) gg_73.2 [98, 104] gg_73.1)) 32) ∨ (r_120 = 0 ∧ ¬ DCD (TC fb zx) (tgA gg_73.2 (tgR (TC fb zx) gg_73.2 [98, 104] gg_73.1)) (tgB gg_73.2 (tgR (TC fb zx) gg_73.2 [98, 104] gg_73.1)) 32)) := hw
            have hw_132 := hw
            have hbb := hq_124
            refine lv_if_eq (tgt := 111) hx hb dX15_isWell_82 (by decide) (fun c_133 => ?_) (fun c_133 => ?_)
            ·
              refine lv_iconst (v := 0) hx hb dX15_isWell_111 (by decide) ?_
              refine W.widen (k := 0) (n := 0) (by omega) (by omega) ?_
              exact W.zret (v := 0) (ty := .boolean) hx hb hr (by decide) (fun t ht hWm => ⟨⟨0, gg_73, rfl, (Or.inr ⟨rfl, swl_n hgt (show ¬ SWB (TC fb zx) gg_73.2 gg_73.1 from (fun q => orp0 hw_132 c_133 (q.2.2.2.2.1)))⟩), ⟨F_121, p0_76, p1_77, p2_78, f2_122, (fun _ => 0), 0, 0, QTm.mk ht hP hD hO hR, hF_128, hF_129, hF_130, hF_131, hHL, ⟨hti1, hti2⟩, (fun _ q => absurd q (show ¬ SWB (TC fb zx) gg_73.2 gg_73.1 from (fun q => orp0 hw_132 c_133 (q.2.2.2.2.1))))⟩⟩, hS.F ht⟩) hS.2.2 dX15_isWell_112
            ·
              refine lv_aload_n hx hb dX15_isWell_85 rfl (lv_at hl 0 rfl) ?_
              refine pg_get (ci := 15) (v := .ref se) (C := RX15) (T := TX15) (N := 59) hx hb hts it_15 hown hK hP hL_h0 hF_127 rfl 35 (by decide) (hts _ kt_847) (fun _ h9 => h9) rfl dX15_isWell_86 ?_
              obtain ⟨q_134, v_135, hr_q_134, hX_q_134⟩ := hG.2.2 ("PostGateModel", 468, "b", [98]) (by decide +kernel)
              have hX_q_134 : SXc q_134 v_135 1 (cct [98]) A s s.heap := hX_q_134
              obtain ⟨xo_q_134, xc_q_134, xv_q_134, xt_q_134, xn_q_134⟩ := id hX_q_134
              have hr_q_134 : vk_R "PostGateModel" 468 "b" q_134 s := hr_q_134
              refine va_ldcwS hx hb hown hr_q_134 dX15_isWell_89 ?_
              refine lv_bipush (v := 64) hx hb dX15_isWell_92 (by decide) ?_
              refine lv_aload_n hx hb dX15_isWell_94 rfl (lv_at hl 0 rfl) ?_
              refine pg_get (ci := 15) (v := .ref n64) (C := RX15) (T := TX15) (N := 59) hx hb hts it_15 hown hK hP hL_h0 hF_127 rfl 46 (by decide) (hts _ kt_875) (fun _ h9 => h9) rfl dX15_isWell_95 ?_
              refine W.eq (g2 := F0 m 98 ls [.ref n64, .int (nI 64), .ref q_134, .ref se]) rfl ?_
              have hFc := pg_free hD hS hA
              refine va_calli (va_runS (As := [.ref se, .ref q_134, .int (nI 64), .ref n64]) (rest := []) ⟨hx, hb, hml, hown, hts⟩ (s_X15_base_x l dC dI cs ty gm L H.size F_121 se (ρ + 11) sx 3000 1280 s0 s1 s2 sb zx gg_73.1 fb p0_76 p1_77 p2_78 gg_73.2 q_134 v_135 1 (cct [98]) ([98]) 64 n64 (ρ + 21) hW hi_29 ht_30 hL_sx hT_sx hi_46 ht_47 hF_125 hF_126 (by omega) hF_128 hF_129 hF_130 hF_131 (hti2) (hHL) (hti1) (Nat.le_refl _) (⟨rfl, by decide +kernel⟩) (Or.inr rfl) (by omega)) ⟨callB_of 4 hts (gi kt_872) rfl rfl rfl (hts _ kt_669) (hts _ kt_873) (by decide +kernel) ⟨Nat.le_of_ble_eq_true rfl, Nat.le_of_ble_eq_true rfl⟩, (hts _ kt_874)⟩ ⟨fun a U g mk q => ⟨q.1, PTEm.calling q.2⟩, fun U hU hWm => ⟨rfl, PTEm.mk hU hWm hP hK hD hE hO hG (fun x hx => by rw [List.mem_singleton] at hx; subst hx; exact hX_q_134) hS hFc⟩⟩ rfl rfl hl.1 rfl (lv_room (Nat.le_of_ble_eq_true rfl)) dX15_isWell_98 ⟨by show _ + 0 ≤ 0; omega, by show _ + 0 ≤ 0; omega⟩) hS (fun q _ h => hFc q h) hFc (fun r_136 u t H1 locs ht hvm hw hB hz1 hk1 hS => ?_)
              obtain ⟨F_137, f2_138, hB1, hq_139, hq_140⟩ := hB
              obtain ⟨hP, hD, hO, hR⟩ := QTm.back hB1 ht hFc hR (fun q h => by simp only [List.mem_cons, List.not_mem_nil, or_false] at h ⊢; omega)
              have hF_141 : F_137 sx = .inr (14, [.ref sb, .int (nI zx)]) := (hB1.2.2.2 sx (by rw [hT_sx]; simp)).trans hF_125
              have hF_142 : F_137 sb = .inl (cs 17, 3000, .inl fb) := (hB1.2.2.2 sb (by rw [ht_40]; simp)).trans hF_126
              have hF_143 : F_137 h0 = .inr (15, (.ref ta) :: (.int (nI zt)) :: (.int (nI zo)) :: (.int (nI ze)) :: (.ref ou) :: (.ref so) :: (.ref ad) :: (.ref na) :: (.ref va) :: (.ref lc) :: (.ref dm) :: (.int (nI fm)) :: (.int (nI sn)) :: (.ref tg) :: (.int v14_50) :: (.int v15_51) :: (.ref pe) :: (.int v17_52) :: (.int v18_53) :: (.int v19_54) :: (.int v20_55) :: (.int v21_56) :: (.int v22_57) :: (.ref ml) :: (.ref bg) :: (.ref co) :: (.ref sp) :: (.ref nb0) :: (.ref nb1) :: (.ref nb2) :: (.int (nI nf)) :: (.int (nI bd)) :: (.int (nI mm)) :: (.int v33_58) :: (.ref pl) :: (.ref se) :: (.ref ke) :: (.ref wi) :: (.ref hs) :: (.ref mo) :: (.ref po) :: (.ref nu) :: (.ref pr) :: (.ref sq) :: (.ref xa) :: (.ref sa) :: (.ref n64) :: (.ref m64) :: (.ref ex) :: (.ref wh) :: (.ref sd) :: (.ref tk) :: (.int v52_59) :: (.int v53_60) :: (.int v54_61) :: (.ref hd) :: (.ref ak) :: (.ref ho) :: (.ref ot) :: []) := (hB1.2.2.2 h0 (by rw [hT_h0]; simp)).trans hF_127
              have hF_144 : F_137 se = .inr (13, [.ref sx, .ref s0, .ref s1, .ref s2, .int (nI gg_73.1)]) := (hB1.2.2.2 se (by rw [ht_30]; simp)).trans hF_128
              have hF_145 : F_137 s0 = .inl (cs 16, 40, .inl p0_76) := (hB1.2.2.2 s0 (by rw [ht_34]; simp)).trans hF_129
              have hF_146 : F_137 s1 = .inl (cs 16, 40, .inl p1_77) := (hB1.2.2.2 s1 (by rw [ht_35]; simp)).trans hF_130
              have hF_147 : F_137 s2 = .inl (cs 16, 40, .inl p2_78) := (hB1.2.2.2 s2 (by rw [ht_36]; simp)).trans hF_131
              have hF_148 : F_137 sa = .inl (cs 17, 32, .inl f2_122) := (hB1.2.2.2 sa (by rw [ht_43]; simp)).trans hq_123
              generalize H1 = H at hP hS ⊢
              have hw : ((r_136 = 1 ∧ DCD (TC fb zx) (tgA gg_73.2 (tgR (TC fb zx) gg_73.2 [98] gg_73.1)) (tgB gg_73.2 (tgR (TC fb zx) gg_73.2 [98] gg_73.1)) 64) ∨ (r_136 = 0 ∧ ¬ DCD (TC fb zx) (tgA gg_73.2 (tgR (TC fb zx) gg_73.2 [98] gg_73.1)) (tgB gg_73.2 (tgR (TC fb zx) gg_73.2 [98] gg_73.1)) 64)) := hw
              have hw_149 := hw
              have hbs := hq_140
              refine lv_if_eq (tgt := 111) hx hb dX15_isWell_101 (by decide) (fun c_150 => ?_) (fun c_150 => ?_)
              ·
                refine lv_iconst (v := 0) hx hb dX15_isWell_111 (by decide) ?_
                refine W.widen (k := 0) (n := 0) (by omega) (by omega) ?_
                exact W.zret (v := 0) (ty := .boolean) hx hb hr (by decide) (fun t ht hWm => ⟨⟨0, gg_73, rfl, (Or.inr ⟨rfl, swl_n hgt (show ¬ SWB (TC fb zx) gg_73.2 gg_73.1 from (fun q => orp0 hw_149 c_150 (q.2.2.2.2.2.1)))⟩), ⟨F_137, p0_76, p1_77, p2_78, f2_122, f2_138, 0, 0, QTm.mk ht hP hD hO hR, hF_144, hF_145, hF_146, hF_147, hHL, ⟨hti1, hti2⟩, (fun _ q => absurd q (show ¬ SWB (TC fb zx) gg_73.2 gg_73.1 from (fun q => orp0 hw_149 c_150 (q.2.2.2.2.2.1))))⟩⟩, hS.F ht⟩) hS.2.2 dX15_isWell_112
              ·
                refine lv_aload_n hx hb dX15_isWell_104 rfl (lv_at hl 0 rfl) ?_
                have hFc := pg_free hD hS hA
                refine va_calli (va_runV (As := []) (rest := []) ⟨hx, hb, hml, hown, hts⟩ (s_X15_isNames_x l dC dI cs ty gm L H.size F_137 h0 ρ ta ou so ad na va lc dm tg pe ml bg co sp nb0 nb1 nb2 pl se ke wi hs mo po nu pr sq xa sa n64 m64 ex wh sd tk hd ak ho ot sx s0 s1 s2 nf bd mm zo fm sn hg gc gv ze zt sb zx gg_73.1 fb p0_76 p1_77 p2_78 gg_73.2 hW hL_h0 hT_h0 hL_sx hT_sx hF_144 hF_141 hF_142 hF_145 hF_146 hF_147 (by omega) (hti2) (hHL) (hti1)) ⟨callB_of 0 hts (gi kt_876) rfl rfl rfl (hts _ kt_669) (hts _ kt_877) (by decide +kernel) ⟨Nat.le_of_ble_eq_true rfl, Nat.le_of_ble_eq_true rfl⟩, (hts _ kt_878), (hts _ kt_879)⟩ ⟨fun a U g mk q => ⟨q.1, PTEm.calling q.2⟩, pg_recv hK hP hL_h0 hF_143 (q := (RX15, TX15, 59)) rfl, fun U hU hWm => ⟨rfl, PTEm.mk hU hWm hP hK hD hE hO hG (fun x hx => absurd hx List.not_mem_nil) hS hFc⟩⟩ rfl rfl hl.1 rfl (lv_room (Nat.le_of_ble_eq_true rfl)) dX15_isWell_105 ⟨by show _ + 0 ≤ 0; omega, by show _ + 0 ≤ 0; omega⟩) hS (fun q _ h => hFc q h) hFc (fun r_151 u t H1 locs ht hvm hw hB hz1 hk1 hS => ?_)
                obtain ⟨F_152, u2_153, hB1, hq_154, hq_155⟩ := hB
                obtain ⟨hP, hD, hO, hR⟩ := QTm.back hB1 ht hFc hR (fun q h => by simp only [List.mem_cons, List.not_mem_nil, or_false] at h ⊢; omega)
                have hF_156 : F_152 sx = .inr (14, [.ref sb, .int (nI zx)]) := (hB1.2.2.2 sx (by rw [hT_sx]; simp)).trans hF_141
                have hF_157 : F_152 sb = .inl (cs 17, 3000, .inl fb) := (hB1.2.2.2 sb (by rw [ht_40]; simp)).trans hF_142
                have hF_158 : F_152 se = .inr (13, [.ref sx, .ref s0, .ref s1, .ref s2, .int (nI gg_73.1)]) := (hB1.2.2.2 se (by rw [ht_30]; simp)).trans hF_144
                have hF_159 : F_152 s0 = .inl (cs 16, 40, .inl p0_76) := (hB1.2.2.2 s0 (by rw [ht_34]; simp)).trans hF_145
                have hF_160 : F_152 s1 = .inl (cs 16, 40, .inl p1_77) := (hB1.2.2.2 s1 (by rw [ht_35]; simp)).trans hF_146
                have hF_161 : F_152 s2 = .inl (cs 16, 40, .inl p2_78) := (hB1.2.2.2 s2 (by rw [ht_36]; simp)).trans hF_147
                have hF_162 : F_152 sa = .inl (cs 17, 32, .inl f2_122) := (hB1.2.2.2 sa (by rw [ht_43]; simp)).trans hF_148
                have hF_163 : F_152 n64 = .inl (cs 17, 64, .inl f2_138) := (hB1.2.2.2 n64 (by rw [ht_47]; simp)).trans hq_139
                generalize H1 = H at hP hS ⊢
                have hw : ((r_151 = 1 ∧ HLV (TC fb zx) (tgA gg_73.2 (tgR (TC fb zx) gg_73.2 [104] gg_73.1)) (tgB gg_73.2 (tgR (TC fb zx) gg_73.2 [104] gg_73.1))) ∨ (r_151 = 0 ∧ ¬ HLV (TC fb zx) (tgA gg_73.2 (tgR (TC fb zx) gg_73.2 [104] gg_73.1)) (tgB gg_73.2 (tgR (TC fb zx) gg_73.2 [104] gg_73.1)))) := hw
                have hw_164 := hw
                have hn54 := hq_154
                have hnHL := hq_155
                refine lv_if_ne (tgt := 113) hx hb dX15_isWell_108 (by decide) (fun c_165 => ?_) (fun c_165 => ?_)
                ·
                  refine lv_aload_n hx hb dX15_isWell_113 rfl (lv_at hl 0 rfl) ?_
                  have hFc := pg_free hD hS hA
                  obtain ⟨v14_166, v15_167, v17_168, v18_169, v19_170, v20_171, v21_172, v22_173, v33_174, v52_175, v53_176, v54_177, hF_178, hq_179, hq_180, hq_181, hq_182, hq_183⟩ := hO.mod hL_h0 hT_h0
                  refine va_calli (va_runV (As := []) (rest := []) ⟨hx, hb, hml, hown, hts⟩ (s_X15_isWay_x l dC dI cs ty gm L H.size F_152 h0 ρ ta ou so ad na va lc dm tg pe ml bg co sp nb0 nb1 nb2 pl se ke wi hs mo po nu pr sq xa sa n64 m64 ex wh sd tk hd ak ho ot sx s0 s1 s2 nf bd mm zo fm sn hg gc gv ze zt sb zx gg_73.1 fb p0_76 p1_77 p2_78 gg_73.2 hW hL_h0 hT_h0 hL_sx hT_sx hF_158 hF_156 hF_157 hF_159 hF_160 hF_161 (by omega) (hti2) (hHL) (hti1)) ⟨callB_of 0 hts (gi kt_880) rfl rfl rfl (hts _ kt_669) (hts _ kt_881) (by decide +kernel) ⟨Nat.le_of_ble_eq_true rfl, Nat.le_of_ble_eq_true rfl⟩, (hts _ kt_882), (hts _ kt_883)⟩ ⟨fun a U g mk q => ⟨q.1, PTEm.calling q.2⟩, pg_recv hK hP hL_h0 hF_178 (q := (RX15, TX15, 59)) rfl, fun U hU hWm => ⟨rfl, PTEm.mk hU hWm hP hK hD hE hO hG (fun x hx => absurd hx List.not_mem_nil) hS hFc⟩⟩ rfl rfl hl.1 rfl (lv_room (Nat.le_of_ble_eq_true rfl)) dX15_isWell_114 ⟨by show _ + 0 ≤ 0; omega, by show _ + 0 ≤ 0; omega⟩) hS (fun q _ h => hFc q h) hFc (fun r_184 u t H1 locs ht hvm hw hB hz1 hk1 hS => ?_)
                  obtain ⟨F_185, b0_186, b1_187, hB1, hq_188, hq_189, hq_190, hq_191⟩ := hB
                  obtain ⟨hP, hD, hO, hR⟩ := QTm.back hB1 ht hFc hR (fun q h => by simp only [List.mem_cons, List.not_mem_nil, or_false] at h ⊢; omega)
                  have hF_192 : F_185 sx = .inr (14, [.ref sb, .int (nI zx)]) := (hB1.2.2.2 sx (by rw [hT_sx]; simp)).trans hF_156
                  have hF_193 : F_185 sb = .inl (cs 17, 3000, .inl fb) := (hB1.2.2.2 sb (by rw [ht_40]; simp)).trans hF_157
                  have hF_194 : F_185 se = .inr (13, [.ref sx, .ref s0, .ref s1, .ref s2, .int (nI gg_73.1)]) := (hB1.2.2.2 se (by rw [ht_30]; simp)).trans hF_158
                  have hF_195 : F_185 s0 = .inl (cs 16, 40, .inl p0_76) := (hB1.2.2.2 s0 (by rw [ht_34]; simp)).trans hF_159
                  have hF_196 : F_185 s1 = .inl (cs 16, 40, .inl p1_77) := (hB1.2.2.2 s1 (by rw [ht_35]; simp)).trans hF_160
                  have hF_197 : F_185 s2 = .inl (cs 16, 40, .inl p2_78) := (hB1.2.2.2 s2 (by rw [ht_36]; simp)).trans hF_161
                  have hF_198 : F_185 sa = .inl (cs 17, 32, .inl f2_122) := (hB1.2.2.2 sa (by rw [ht_43]; simp)).trans hF_162
                  have hF_199 : F_185 n64 = .inl (cs 17, 64, .inl f2_138) := (hB1.2.2.2 n64 (by rw [ht_47]; simp)).trans hF_163
                  generalize H1 = H at hP hS ⊢
                  have hw : ((r_184 = 1 ∧ PLO (TC fb zx) gg_73.2 gg_73.1) ∨ (r_184 = 0 ∧ ¬ PLO (TC fb zx) gg_73.2 gg_73.1)) := hw
                  have hw_200 := hw
                  have hy52 := hq_188
                  have hy53 := hq_189
                  have hy54 := (hq_190).trans hn54
                  have hyP := hq_191
                  refine lv_if_eq (tgt := 161) hx hb dX15_isWell_117 (by decide) (fun c_201 => ?_) (fun c_201 => ?_)
                  ·
                    refine lv_iconst (v := 0) hx hb dX15_isWell_161 (by decide) ?_
                    refine W.widen (k := 0) (n := 0) (by omega) (by omega) ?_
                    exact W.zret (v := 0) (ty := .boolean) hx hb hr (by decide) (fun t ht hWm => ⟨⟨0, gg_73, rfl, (Or.inr ⟨rfl, swl_n hgt (show ¬ SWB (TC fb zx) gg_73.2 gg_73.1 from (fun q => orp0 hw_200 c_201 (q.2.2.2.2.2.2.2.1)))⟩), ⟨F_185, p0_76, p1_77, p2_78, f2_122, f2_138, 0, 0, QTm.mk ht hP hD hO hR, hF_194, hF_195, hF_196, hF_197, hHL, ⟨hti1, hti2⟩, (fun _ q => absurd q (show ¬ SWB (TC fb zx) gg_73.2 gg_73.1 from (fun q => orp0 hw_200 c_201 (q.2.2.2.2.2.2.2.1))))⟩⟩, hS.F ht⟩) hS.2.2 dX15_isWell_162
                  ·
                    refine lv_aload_n hx hb dX15_isWell_120 rfl (lv_at hl 0 rfl) ?_
                    obtain ⟨v14_202, v15_203, v17_204, v18_205, v19_206, v20_207, v21_208, v22_209, v33_210, v52_211, v53_212, v54_213, hF_214, hq_215, hq_216, hq_217, hq_218, hq_219⟩ := hO.mod hL_h0 hT_h0
                    refine pg_get (ci := 15) (v := .ref se) (C := RX15) (T := TX15) (N := 59) hx hb hts it_15 hown hK hP hL_h0 hF_214 rfl 35 (by decide) (hts _ kt_847) (fun _ h9 => h9) rfl dX15_isWell_121 ?_
                    obtain ⟨q_220, v_221, hr_q_220, hX_q_220⟩ := hG.2.2 ("PostGateModel", 476, "l", [108]) (by decide +kernel)
                    have hX_q_220 : SXc q_220 v_221 1 (cct [108]) A s s.heap := hX_q_220
                    obtain ⟨xo_q_220, xc_q_220, xv_q_220, xt_q_220, xn_q_220⟩ := id hX_q_220
                    have hr_q_220 : vk_R "PostGateModel" 476 "l" q_220 s := hr_q_220
                    refine va_ldcwS hx hb hown hr_q_220 dX15_isWell_124 ?_
                    have hFc := pg_free hD hS hA
                    refine va_calli (va_runS (As := [.ref se, .ref q_220]) (rest := []) ⟨hx, hb, hml, hown, hts⟩ (s_X15_number_x l dC dI cs ty gm L H.size F_185 se (ρ + 11) sx 3000 1280 s0 s1 s2 sb zx gg_73.1 fb p0_76 p1_77 p2_78 gg_73.2 q_220 v_221 1 (cct [108]) ([108]) hW hi_29 ht_30 hL_sx hT_sx hF_192 hF_193 (by omega) hF_194 hF_195 hF_196 hF_197 (hti2) (hHL) (hti1) (Nat.le_refl _) (⟨rfl, by decide +kernel⟩)) ⟨callB_of 2 hts (gi kt_884) rfl rfl rfl (hts _ kt_669) (hts _ kt_885) (by decide +kernel) ⟨Nat.le_of_ble_eq_true rfl, Nat.le_of_ble_eq_true rfl⟩, (hts _ kt_886)⟩ ⟨fun a U g mk q => ⟨q.1, PTEm.calling q.2⟩, fun U hU hWm => ⟨rfl, PTEm.mk hU hWm hP hK hD hE hO hG (fun x hx => by rw [List.mem_singleton] at hx; subst hx; exact hX_q_220) hS hFc⟩⟩ rfl rfl hl.1 rfl (lv_room (Nat.le_of_ble_eq_true rfl)) dX15_isWell_127 ⟨by show _ + 0 ≤ 0; omega, by show _ + 0 ≤ 0; omega⟩) hS (fun q _ h => hFc q h) hFc (fun r_222 u t H1 locs ht hvm hw hB hz1 hk1 hS => ?_)
                    obtain ⟨F_223, hB1⟩ := hB
                    obtain rfl : F_185 = F_223 := (funext (fun a => hB1.2.2.2 a List.not_mem_nil)).symm
                    obtain ⟨hP, hD, hO, hR⟩ := QTm.back hB1 ht hFc hR (fun q h => absurd h List.not_mem_nil)
                    generalize H1 = H at hP hS ⊢
                    have hw : r_222 = nmV (TC fb zx) gg_73.2 (tgR (TC fb zx) gg_73.2 [108] gg_73.1) := hw
                    subst hw
                    refine lv_bipush (v := (-2)) hx hb dX15_isWell_130 (by decide) ?_
                    refine lv_icmp_eq (tgt := 161) hx hb dX15_isWell_132 (by decide) (fun c_224 => ?_) (fun c_224 => ?_)
                    ·
                      refine lv_iconst (v := 0) hx hb dX15_isWell_161 (by decide) ?_
                      refine W.widen (k := 0) (n := 0) (by omega) (by omega) ?_
                      exact W.zret (v := 0) (ty := .boolean) hx hb hr (by decide) (fun t ht hWm => ⟨⟨0, gg_73, rfl, (Or.inr ⟨rfl, swl_n hgt (show ¬ SWB (TC fb zx) gg_73.2 gg_73.1 from (fun q => nmV_2.mpr (q.2.2.2.2.2.2.2.2.1) c_224))⟩), ⟨F_185, p0_76, p1_77, p2_78, f2_122, f2_138, 0, 0, QTm.mk ht hP hD hO hR, hF_194, hF_195, hF_196, hF_197, hHL, ⟨hti1, hti2⟩, (fun _ q => absurd q (show ¬ SWB (TC fb zx) gg_73.2 gg_73.1 from (fun q => nmV_2.mpr (q.2.2.2.2.2.2.2.2.1) c_224)))⟩⟩, hS.F ht⟩) hS.2.2 dX15_isWell_162
                    ·
                      refine lv_aload_n hx hb dX15_isWell_135 rfl (lv_at hl 0 rfl) ?_
                      refine pg_get (ci := 15) (v := .ref se) (C := RX15) (T := TX15) (N := 59) hx hb hts it_15 hown hK hP hL_h0 hF_214 rfl 35 (by decide) (hts _ kt_847) (fun _ h9 => h9) rfl dX15_isWell_136 ?_
                      obtain ⟨q_225, v_226, hr_q_225, hX_q_225⟩ := hG.2.2 ("PostGateModel", 481, "x", [120]) (by decide +kernel)
                      have hX_q_225 : SXc q_225 v_226 1 (cct [120]) A s s.heap := hX_q_225
                      obtain ⟨xo_q_225, xc_q_225, xv_q_225, xt_q_225, xn_q_225⟩ := id hX_q_225
                      have hr_q_225 : vk_R "PostGateModel" 481 "x" q_225 s := hr_q_225
                      refine va_ldcwS hx hb hown hr_q_225 dX15_isWell_139 ?_
                      have hFc := pg_free hD hS hA
                      refine va_calli (va_runS (As := [.ref se, .ref q_225]) (rest := []) ⟨hx, hb, hml, hown, hts⟩ (s_X15_number_x l dC dI cs ty gm L H.size F_185 se (ρ + 11) sx 3000 1280 s0 s1 s2 sb zx gg_73.1 fb p0_76 p1_77 p2_78 gg_73.2 q_225 v_226 1 (cct [120]) ([120]) hW hi_29 ht_30 hL_sx hT_sx hF_192 hF_193 (by omega) hF_194 hF_195 hF_196 hF_197 (hti2) (hHL) (hti1) (Nat.le_refl _) (⟨rfl, by decide +kernel⟩)) ⟨callB_of 2 hts (gi kt_884) rfl rfl rfl (hts _ kt_669) (hts _ kt_885) (by decide +kernel) ⟨Nat.le_of_ble_eq_true rfl, Nat.le_of_ble_eq_true rfl⟩, (hts _ kt_886)⟩ ⟨fun a U g mk q => ⟨q.1, PTEm.calling q.2⟩, fun U hU hWm => ⟨rfl, PTEm.mk hU hWm hP hK hD hE hO hG (fun x hx => by rw [List.mem_singleton] at hx; subst hx; exact hX_q_225) hS hFc⟩⟩ rfl rfl hl.1 rfl (lv_room (Nat.le_of_ble_eq_true rfl)) dX15_isWell_142 ⟨by show _ + 0 ≤ 0; omega, by show _ + 0 ≤ 0; omega⟩) hS (fun q _ h => hFc q h) hFc (fun r_227 u t H1 locs ht hvm hw hB hz1 hk1 hS => ?_)
                      obtain ⟨F_228, hB1⟩ := hB
                      obtain rfl : F_185 = F_228 := (funext (fun a => hB1.2.2.2 a List.not_mem_nil)).symm
                      obtain ⟨hP, hD, hO, hR⟩ := QTm.back hB1 ht hFc hR (fun q h => absurd h List.not_mem_nil)
                      generalize H1 = H at hP hS ⊢
                      have hw : r_227 = nmV (TC fb zx) gg_73.2 (tgR (TC fb zx) gg_73.2 [120] gg_73.1) := hw
                      subst hw
                      refine lv_bipush (v := (-2)) hx hb dX15_isWell_145 (by decide) ?_
                      refine lv_icmp_eq (tgt := 161) hx hb dX15_isWell_147 (by decide) (fun c_229 => ?_) (fun c_229 => ?_)
                      ·
                        refine lv_iconst (v := 0) hx hb dX15_isWell_161 (by decide) ?_
                        refine W.widen (k := 0) (n := 0) (by omega) (by omega) ?_
                        exact W.zret (v := 0) (ty := .boolean) hx hb hr (by decide) (fun t ht hWm => ⟨⟨0, gg_73, rfl, (Or.inr ⟨rfl, swl_n hgt (show ¬ SWB (TC fb zx) gg_73.2 gg_73.1 from (fun q => nmV_2.mpr (q.2.2.2.2.2.2.2.2.2) c_229))⟩), ⟨F_185, p0_76, p1_77, p2_78, f2_122, f2_138, 0, 0, QTm.mk ht hP hD hO hR, hF_194, hF_195, hF_196, hF_197, hHL, ⟨hti1, hti2⟩, (fun _ q => absurd q (show ¬ SWB (TC fb zx) gg_73.2 gg_73.1 from (fun q => nmV_2.mpr (q.2.2.2.2.2.2.2.2.2) c_229)))⟩⟩, hS.F ht⟩) hS.2.2 dX15_isWell_162
                      ·
                        have hv54 : v54_213 = u2_153 := by have h9 := hy54; rw [hF_214] at h9; exact h9
                        refine lv_aload_n hx hb dX15_isWell_150 rfl (lv_at hl 0 rfl) ?_
                        refine pg_get (ci := 15) (v := .int v54_213) (C := RX15) (T := TX15) (N := 59) hx hb hts it_15 hown hK hP hL_h0 hF_214 rfl 54 (by decide) (hts _ kt_849) (fun _ h9 => h9) rfl dX15_isWell_151 ?_
                        refine lv_if_eq (tgt := 161) hx hb dX15_isWell_154 (by decide) (fun c_230 => ?_) (fun c_230 => ?_)
                        ·
                          refine lv_iconst (v := 0) hx hb dX15_isWell_161 (by decide) ?_
                          refine W.widen (k := 0) (n := 0) (by omega) (by omega) ?_
                          exact W.zret (v := 0) (ty := .boolean) hx hb hr (by decide) (fun t ht hWm => ⟨⟨0, gg_73, rfl, (Or.inr ⟨rfl, swl_n hgt (show ¬ SWB (TC fb zx) gg_73.2 gg_73.1 from (fun q => by rcases hnHL (orp1 hw_164 c_165) with w | w; exact absurd (w.1.symm.trans (hv54.symm.trans c_230)) (by decide); exact w.2 (q.2.2.2.2.2.2.1)))⟩), ⟨F_185, p0_76, p1_77, p2_78, f2_122, f2_138, 0, 0, QTm.mk ht hP hD hO hR, hF_194, hF_195, hF_196, hF_197, hHL, ⟨hti1, hti2⟩, (fun _ q => absurd q (show ¬ SWB (TC fb zx) gg_73.2 gg_73.1 from (fun q => by rcases hnHL (orp1 hw_164 c_165) with w | w; exact absurd (w.1.symm.trans (hv54.symm.trans c_230)) (by decide); exact w.2 (q.2.2.2.2.2.2.1))))⟩⟩, hS.F ht⟩) hS.2.2 dX15_isWell_162
                        ·
                          refine lv_iconst (v := 1) hx hb dX15_isWell_157 (by decide) ?_
                          refine lv_goto (tgt := 162) hx hb dX15_isWell_158 (by decide) ?_
                          refine W.widen (k := 0) (n := 0) (by omega) (by omega) ?_
                          exact W.zret (v := 1) (ty := .boolean) hx hb hr (by decide) (fun t ht hWm => ⟨⟨1, gg_73, rfl, (Or.inl ⟨rfl, hgt, (show SWB (TC fb zx) gg_73.2 gg_73.1 from ⟨orp1 hw_96 c_97, orp1 hw_104 c_105, orp1 hw_110 c_111, orp1 hw_116 c_117, orp1 hw_132 c_133, orp1 hw_149 c_150, (by rcases hnHL (orp1 hw_164 c_165) with w | w; exact w.2; exact absurd (hv54.trans w.1) c_230), orp1 hw_200 c_201, nmV_2.mp c_224, nmV_2.mp c_229⟩)⟩), ⟨F_185, p0_76, p1_77, p2_78, f2_122, f2_138, 0, 0, QTm.mk ht hP hD hO hR, hF_194, hF_195, hF_196, hF_197, hHL, ⟨hti1, hti2⟩, (fun _ _ => ⟨(by rw [← (hyP (orp1 hw_200 c_201)).1]; exact (by rw [hF_214]; exact (by have h9 := hy52; rw [hF_214] at h9; exact h9))), (by rw [← (hyP (orp1 hw_200 c_201)).2]; exact (by rw [hF_214]; exact (by have h9 := hy53; rw [hF_214] at h9; exact h9))), hF_198, hbb (orp1 hw_132 c_133), hF_199, hbs (orp1 hw_149 c_150)⟩)⟩⟩, hS.F ht⟩) hS.2.2 dX15_isWell_162
                ·
                  refine lv_iconst (v := 0) hx hb dX15_isWell_111 (by decide) ?_
                  refine W.widen (k := 0) (n := 0) (by omega) (by omega) ?_
                  exact W.zret (v := 0) (ty := .boolean) hx hb hr (by decide) (fun t ht hWm => ⟨⟨0, gg_73, rfl, (Or.inr ⟨rfl, swl_n hgt (show ¬ SWB (TC fb zx) gg_73.2 gg_73.1 from (fun q => orp0 hw_164 c_165 (hlo_v (q.2.2.2.2.2.2.1))))⟩), ⟨F_152, p0_76, p1_77, p2_78, f2_122, f2_138, 0, 0, QTm.mk ht hP hD hO hR, hF_158, hF_159, hF_160, hF_161, hHL, ⟨hti1, hti2⟩, (fun _ q => absurd q (show ¬ SWB (TC fb zx) gg_73.2 gg_73.1 from (fun q => orp0 hw_164 c_165 (hlo_v (q.2.2.2.2.2.2.1)))))⟩⟩, hS.F ht⟩) hS.2.2 dX15_isWell_112
          ·
            refine lv_iconst (v := 0) hx hb dX15_isWell_64 (by decide) ?_
            refine W.widen (k := 0) (n := 0) (by omega) (by omega) ?_
            exact W.zret (v := 0) (ty := .boolean) hx hb hr (by decide) (fun t ht hWm => ⟨⟨0, gg_73, rfl, (Or.inr ⟨rfl, swl_n hgt (show ¬ SWB (TC fb zx) gg_73.2 gg_73.1 from (fun q => orp0 hw_116 c_117 (q.2.2.2.1)))⟩), ⟨F_75, p0_76, p1_77, p2_78, (fun _ => 0), (fun _ => 0), 0, 0, QTm.mk ht hP hD hO hR, hq_79, hq_80, hq_81, hq_82, hHL, ⟨hti1, hti2⟩, (fun _ q => absurd q (show ¬ SWB (TC fb zx) gg_73.2 gg_73.1 from (fun q => orp0 hw_116 c_117 (q.2.2.2.1))))⟩⟩, hS.F ht⟩) hS.2.2 dX15_isWell_65
