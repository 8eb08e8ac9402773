def hdL : List Nat := [48, 49, 48, 13, 6, 9, 96, 134, 72, 1, 101, 3, 4, 2, 1, 5, 0, 4, 32]
def shK (n j : Nat) : Int32 := if n = 8 then shB j else if n = 19 then nI (hdL.getD j 0) else shF j
def ush (x k : Int32) : Int32 := (x.toUInt32 >>> (k.toUInt32 &&& Int32.toUInt32 31)).toInt32
def shr (x k : Int32) : Int32 := x >>> (k &&& 31)
def shl (x k : Int32) : Int32 := x <<< (k &&& 31)
def rot (x k j : Int32) : Int32 := ush x k ||| shl x j
def sg0 (a : Int32) : Int32 := rot a 2 30 ^^^ rot a 13 19 ^^^ rot a 22 10
def sg1 (a : Int32) : Int32 := rot a 6 26 ^^^ rot a 11 21 ^^^ rot a 25 7
def wlo (a : Int32) : Int32 := rot a 7 25 ^^^ rot a 18 14 ^^^ ush a 3
def whi (a : Int32) : Int32 := rot a 17 15 ^^^ rot a 19 13 ^^^ ush a 10
def chs (a b d : Int32) : Int32 := (a &&& b) ^^^ ((a ^^^ (-1)) &&& d)
def maj (a b d : Int32) : Int32 := (a &&& b) ^^^ (a &&& d) ^^^ (b &&& d)
def fst1 (T : Nat → Int32) (k w : Int32) : Int32 := T 7 + sg1 (T 4) + chs (T 4) (T 5) (T 6) + k + w
def shf (T : Nat → Int32) (k : Nat) : Nat → Int32 := fun j => if k ≤ j ∧ j ≤ 7 then T (j - 1) else T j
def stp (T : Nat → Int32) (k w : Int32) : Nat → Int32 := upd (upd (shf T 1) 4 (T 3 + fst1 T k w)) 0 (fst1 T k w + sg0 (T 0) + maj (T 0) (T 1) (T 2))
def sch (f : Nat → Int32) : Nat → Nat → Int32
  | 0 => f
  | k + 1 => upd (sch f k) (16 + k) (sch f k k + wlo (sch f k (k + 1)) + sch f k (k + 9) + whi (sch f k (k + 14)))
def rnd (K W T : Nat → Int32) : Nat → Nat → Int32
  | 0 => T
  | k + 1 => stp (rnd K W T k) (K k) (W k)
def mxs (f S : Nat → Int32) (j : Nat) : Int32 := S j + rnd shF (sch f 48) S 64 j
theorem ne_tyn {ty : TyM} {a b : Nat} {u v : TyE} (ha : ty a = u) (hb : ty b = v) (h : u ≠ v) : a ≠ b := fun e9 => h (by rw [← ha, ← hb, e9])
theorem upd_at {f : Nat → Int32} {i : Nat} {v : Int32} : upd f i v i = v := if_pos rfl
theorem upd_no {f : Nat → Int32} {i j : Nat} {v : Int32} (h : j ≠ i) : upd f i v j = f j := if_neg h
theorem shf_8 {T : Nat → Int32} : shf T 8 = T := by
  funext j
  exact if_neg (by omega)
theorem shf_s {T : Nat → Int32} {k : Nat} (h1 : 1 ≤ k) (h7 : k ≤ 7) : upd (shf T (k + 1)) k (shf T (k + 1) (k - 1)) = shf T k := by
  have e9 : shf T (k + 1) (k - 1) = T (k - 1) := if_neg (by omega)
  rw [e9]
  funext j
  by_cases c : j = k
  · rw [c, upd_at]
    exact (if_pos ⟨Nat.le_refl _, h7⟩).symm
  · rw [upd_no c]
    unfold shf
    by_cases d : k + 1 ≤ j ∧ j ≤ 7
    · rw [if_pos d, if_pos ⟨by omega, d.2⟩]
    · rw [if_neg d, if_neg (by omega)]
theorem stp_cg {T U : Nat → Int32} {k w : Int32} (h : ∀ j, j < 8 → T j = U j) : ∀ j, j < 8 → stp T k w j = stp U k w j := by
  intro j hj
  have e1 : fst1 T k w = fst1 U k w := by
    unfold fst1
    rw [h 7 (by omega), h 4 (by omega), h 5 (by omega), h 6 (by omega)]
  unfold stp
  rw [e1, h 3 (by omega), h 0 (by omega), h 1 (by omega), h 2 (by omega)]
  by_cases c : j = 0
  · rw [c, upd_at, upd_at]
  · rw [upd_no c, upd_no c]
    by_cases d : j = 4
    · rw [d, upd_at, upd_at]
    · rw [upd_no d, upd_no d]
      show (if 1 ≤ j ∧ j ≤ 7 then T (j - 1) else T j) = (if 1 ≤ j ∧ j ≤ 7 then U (j - 1) else U j)
      rw [h (j - 1) (by omega), h j hj]
theorem sch_cg {f g : Nat → Int32} (h : ∀ j, j < 16 → f j = g j) : ∀ k j, j < 16 + k → sch f k j = sch g k j
  | 0, j, hj => h j hj
  | k + 1, j, hj => by
    have ih := sch_cg h k
    show upd (sch f k) (16 + k) _ j = upd (sch g k) (16 + k) _ j
    by_cases c : j = 16 + k
    · rw [c, upd_at, upd_at, ih k (by omega), ih (k + 1) (by omega), ih (k + 9) (by omega), ih (k + 14) (by omega)]
    · rw [upd_no c, upd_no c]
      exact ih j (by omega)
theorem sch_s {f : Nat → Int32} {i : Nat} (h : 16 ≤ i) : upd (sch f (i - 16)) i (sch f (i - 16) (i - 16) + wlo (sch f (i - 16) (i - 15)) + sch f (i - 16) (i - 7) + whi (sch f (i - 16) (i - 2))) = sch f (i + 1 - 16) := by
  obtain ⟨k, rfl⟩ : ∃ k, i = 16 + k := ⟨i - 16, by omega⟩
  rw [show 16 + k + 1 - 16 = k + 1 by omega, show 16 + k - 16 = k by omega, show 16 + k - 15 = k + 1 by omega, show 16 + k - 7 = k + 9 by omega, show 16 + k - 2 = k + 14 by omega]
  rfl
theorem rnd_cg {K W V T U : Nat → Int32} (hT : ∀ j, j < 8 → T j = U j) : ∀ k, (∀ j, j < k → W j = V j) → ∀ j, j < 8 → rnd K W T k j = rnd K V U k j
  | 0, _, j, hj => hT j hj
  | k + 1, hW, j, hj => by
    have ih := rnd_cg (K := K) hT k (fun i hi => hW i (by omega))
    show stp (rnd K W T k) (K k) (W k) j = stp (rnd K V U k) (K k) (V k) j
    rw [hW k (by omega)]
    exact stp_cg ih j hj
theorem mxs_cg {f g S U : Nat → Int32} (hf : ∀ j, j < 16 → f j = g j) (hS : ∀ j, j < 8 → S j = U j) : ∀ j, j < 8 → mxs f S j = mxs g U j := by
  intro j hj
  unfold mxs
  rw [hS j hj, rnd_cg hS 64 (fun i hi => sch_cg hf 48 i (by omega)) j hj]
def byt (f : Nat → Int32) (n i : Nat) : Int32 := if i < n then f i &&& 255 else if i = n then 128 else 0
def wdk (b : Nat → Int32) (s9 : Nat) : Nat → Int32
  | 0 => 0
  | k + 1 => shl (wdk b s9 k) 8 ||| b (s9 + k)
def wrb (f : Nat → Int32) (n b i : Nat) : Int32 := if b + 1 = (n + 72) / 64 ∧ i = 15 then nI (n * 8) else wdk (byt f n) (b * 64 + i * 4) 4
def stt (f : Nat → Int32) (n : Nat) : Nat → Nat → Int32
  | 0 => shB
  | b + 1 => mxs (wrb f n b) (stt f n b)
def dgb (S : Nat → Int32) (j : Nat) : Int32 := ocT (S (j / 4)) (nI (24 - 8 * (j % 4)))
set_option maxHeartbeats 4000000 in
set_option maxRecDepth 100000 in
theorem s_X8_step_e (l : Launch) (dC : Nat → ClassId) (dI : Nat → Nat → Nat) (cs : Nat → ClassId) (ty : TyM) (L : List Nat) (sz : Nat) (F : Nat → va_E) (h0 : Nat) (ρ : Nat) (wa : Nat) (sa : Nat) (ta : Nat) (i : Nat) (fw : Nat → Int32) (fs : Nat → Int32) (ft : Nat → Int32) (hW : WT ty L) (hL_h0 : h0 ∈ L) (hT_h0 : ty h0 = (8, ρ, [wa, sa, ta])) (hi : i < 64) (hFw : F wa = .inl (cs 16, 64, .inl fw)) (hFs : F sa = .inl (cs 16, 8, .inl fs)) (hFt : F ta = .inl (cs 16, 8, .inl ft)) : Met l yX8_step (.code yX8_step cX8_step 10 none :: tb) ({ frames := 0, cells := 0, slots := 0, locals := 0 }) (va_Pc [.ref h0, .int (nI i)] (PTE (dC, dI) cs ty L F sz [])) (va_Qv (fun _ : Unit => True) (fun _ T9 => ∃ F2 : Nat → va_E, QT (dC, dI) cs ty L [ρ] F F2 (va_A (va_pl L F) sz) T9 ∧ F2 wa = .inl (cs 16, 64, .inl fw) ∧ F2 sa = .inl (cs 16, 8, .inl fs) ∧ F2 ta = .inl (cs 16, 8, .inl (stp ft (shF i) (fw i)))) (va_A (va_pl L F) sz)) 0 0 (va_A (va_pl L F) sz) := by
  refine Met.ofW (cc := cX8_step) (maxL := 10) (ret := none) (by decide) rfl ?_
  intro p e s m args below meth c s₁ B hml hv
  obtain ⟨rfl, ⟨hsz, hP, hK, hD0, hE, hO⟩, hG, hX⟩ := hv
  have hx := B.exec
  have hb := B.bytes
  have hr := B.returns
  have hts : ∀ w ∈ tb, w.before _ s = true := fun w h => atoms_spec (ws := .code yX8_step cX8_step 10 none :: tb) B.pre w (List.mem_cons_of_mem _ h)
  have hown : s.vm.findClass RX8 = some m.cls := findClass_of_methodNamed B.named
  have hlocks := B.notSynchronized
  subst hsz
  have hD := hD0.self (sz := s.heap.size)
  generalize hAe : va_A (va_pl L F) s.heap.size = A at hD hG hX ⊢
  have hA : ∀ q : Nat, s.heap.size ≤ q → A q := fun q h => by rw [← hAe]; exact Or.inr h
  have hS : va_S A s.heap s.heap [] := va_S.rf
  have hR : FR ty [ρ] F F := FR.refl
  have hl := lv_entry ([.ref h0, .int (nI i)]) (n := 10) (Nat.le_of_ble_eq_true rfl)
  rw [lg_entry_eq]
  generalize (lg_sl ([.ref h0, .int (nI i)]) ++ List.replicate (10 - (lg_sl ([.ref h0, .int (nI i)])).length) Slot.unset).toArray = ls at hl ⊢
  have hl : lv_has ls 10 [(0, .ref h0), (1, .int (nI i))] := hl
  obtain ⟨hi_1, hi_2, hi_3, ht_4, ht_5, ht_6⟩ := hW.sha hL_h0 hT_h0
  refine lv_aload_n hx hb dX8_step_0 rfl (lv_at hl 0 rfl) ?_
  have hF_7 := hO.sha hL_h0 hT_h0
  refine pg_get (ci := 8) (v := .ref ta) (C := RX8) (T := TX8) (N := 3) hx hb hts it_8 hown hK hP hL_h0 hF_7 rfl 2 (by decide) (hts _ kt_244) (fun _ h9 => h9) rfl dX8_step_1 ?_
  refine lv_iconst (v := 0) hx hb dX8_step_4 (by decide) ?_
  refine pg_iald hx hb hK hP hi_3 0 hFt rfl (show vp_in (0 : Int32) 8 from (show vp_in (nI 0) 8 from vp_in_nI (by omega) (by omega))) dX8_step_5 ?_
  refine lv_topi (fun x_8 ex_8 => ?_)
  obtain rfl : x_8 = (ft 0) := ex_8.trans (congrArg ft (show (0 : Int32).toNatClampNeg = 0 by decide))
  refine lv_istore_n (lv' := [(2, .int (ft 0)), (0, .ref h0), (1, .int (nI i))]) hx hb dX8_step_6 rfl hl (by decide) rfl (fun ls hl => ?_)
  refine lv_aload_n hx hb dX8_step_7 rfl (lv_at hl 1 rfl) ?_
  refine pg_get (ci := 8) (v := .ref ta) (C := RX8) (T := TX8) (N := 3) hx hb hts it_8 hown hK hP hL_h0 hF_7 rfl 2 (by decide) (hts _ kt_244) (fun _ h9 => h9) rfl dX8_step_8 ?_
  refine lv_iconst (v := 4) hx hb dX8_step_11 (by decide) ?_
  refine pg_iald hx hb hK hP hi_3 0 hFt rfl (show vp_in (4 : Int32) 8 from (show vp_in (nI 4) 8 from vp_in_nI (by omega) (by omega))) dX8_step_12 ?_
  refine lv_topi (fun x_9 ex_9 => ?_)
  obtain rfl : x_9 = (ft 4) := ex_9.trans (congrArg ft (show (4 : Int32).toNatClampNeg = 4 by decide))
  refine lv_istore_n (lv' := [(3, .int (ft 4)), (2, .int (ft 0)), (0, .ref h0), (1, .int (nI i))]) hx hb dX8_step_13 rfl hl (by decide) rfl (fun ls hl => ?_)
  refine lv_iload_n hx hb dX8_step_14 rfl (lv_at hl 0 rfl) ?_
  refine lv_aload_n hx hb dX8_step_15 rfl (lv_at hl 2 rfl) ?_
  refine pg_get (ci := 8) (v := .ref ta) (C := RX8) (T := TX8) (N := 3) hx hb hts it_8 hown hK hP hL_h0 hF_7 rfl 2 (by decide) (hts _ kt_244) (fun _ h9 => h9) rfl dX8_step_16 ?_
  refine lv_iconst (v := 5) hx hb dX8_step_19 (by decide) ?_
  refine pg_iald hx hb hK hP hi_3 0 hFt rfl (show vp_in (5 : Int32) 8 from (show vp_in (nI 5) 8 from vp_in_nI (by omega) (by omega))) dX8_step_20 ?_
  refine lv_topi (fun x_10 ex_10 => ?_)
  obtain rfl : x_10 = (ft 5) := ex_10.trans (congrArg ft (show (5 : Int32).toNatClampNeg = 5 by decide))
  refine lv_iand hx hb dX8_step_21 ?_
  refine lv_topi (fun x_11 ex_11 => ?_)
  obtain rfl : x_11 = ((ft 4) &&& (ft 5)) := ex_11.trans (rfl)
  refine lv_iload_n hx hb dX8_step_22 rfl (lv_at hl 0 rfl) ?_
  refine lv_iconst (v := (-1)) hx hb dX8_step_23 (by decide) ?_
  refine lv_ixor hx hb dX8_step_24 ?_
  refine lv_topi (fun x_12 ex_12 => ?_)
  obtain rfl : x_12 = ((ft 4) ^^^ (-1)) := ex_12.trans (rfl)
  refine lv_aload_n hx hb dX8_step_25 rfl (lv_at hl 2 rfl) ?_
  refine pg_get (ci := 8) (v := .ref ta) (C := RX8) (T := TX8) (N := 3) hx hb hts it_8 hown hK hP hL_h0 hF_7 rfl 2 (by decide) (hts _ kt_244) (fun _ h9 => h9) rfl dX8_step_26 ?_
  refine lv_bipush (v := 6) hx hb dX8_step_29 (by decide) ?_
  refine pg_iald hx hb hK hP hi_3 0 hFt rfl (show vp_in (6 : Int32) 8 from (show vp_in (nI 6) 8 from vp_in_nI (by omega) (by omega))) dX8_step_31 ?_
  refine lv_topi (fun x_13 ex_13 => ?_)
  obtain rfl : x_13 = (ft 6) := ex_13.trans (congrArg ft (show (6 : Int32).toNatClampNeg = 6 by decide))
  refine lv_iand hx hb dX8_step_32 ?_
  refine lv_topi (fun x_14 ex_14 => ?_)
  obtain rfl : x_14 = (((ft 4) ^^^ (-1)) &&& (ft 6)) := ex_14.trans (rfl)
  refine lv_ixor hx hb dX8_step_33 ?_
  refine lv_topi (fun x_15 ex_15 => ?_)
  obtain rfl : x_15 = (chs (ft 4) (ft 5) (ft 6)) := ex_15.trans (rfl)
  refine lv_istore (lv' := [(4, .int (chs (ft 4) (ft 5) (ft 6))), (3, .int (ft 4)), (2, .int (ft 0)), (0, .ref h0), (1, .int (nI i))]) hx hb dX8_step_34 hl (by decide) rfl (fun ls hl => ?_)
  refine lv_iload_n hx hb dX8_step_36 rfl (lv_at hl 2 rfl) ?_
  refine lv_aload_n hx hb dX8_step_37 rfl (lv_at hl 3 rfl) ?_
  refine pg_get (ci := 8) (v := .ref ta) (C := RX8) (T := TX8) (N := 3) hx hb hts it_8 hown hK hP hL_h0 hF_7 rfl 2 (by decide) (hts _ kt_244) (fun _ h9 => h9) rfl dX8_step_38 ?_
  refine lv_iconst (v := 1) hx hb dX8_step_41 (by decide) ?_
  refine pg_iald hx hb hK hP hi_3 0 hFt rfl (show vp_in (1 : Int32) 8 from (show vp_in (nI 1) 8 from vp_in_nI (by omega) (by omega))) dX8_step_42 ?_
  refine lv_topi (fun x_16 ex_16 => ?_)
  obtain rfl : x_16 = (ft 1) := ex_16.trans (congrArg ft (show (1 : Int32).toNatClampNeg = 1 by decide))
  refine lv_iand hx hb dX8_step_43 ?_
  refine lv_topi (fun x_17 ex_17 => ?_)
  obtain rfl : x_17 = ((ft 0) &&& (ft 1)) := ex_17.trans (rfl)
  refine lv_iload_n hx hb dX8_step_44 rfl (lv_at hl 2 rfl) ?_
  refine lv_aload_n hx hb dX8_step_45 rfl (lv_at hl 3 rfl) ?_
  refine pg_get (ci := 8) (v := .ref ta) (C := RX8) (T := TX8) (N := 3) hx hb hts it_8 hown hK hP hL_h0 hF_7 rfl 2 (by decide) (hts _ kt_244) (fun _ h9 => h9) rfl dX8_step_46 ?_
  refine lv_iconst (v := 2) hx hb dX8_step_49 (by decide) ?_
  refine pg_iald hx hb hK hP hi_3 0 hFt rfl (show vp_in (2 : Int32) 8 from (show vp_in (nI 2) 8 from vp_in_nI (by omega) (by omega))) dX8_step_50 ?_
  refine lv_topi (fun x_18 ex_18 => ?_)
  obtain rfl : x_18 = (ft 2) := ex_18.trans (congrArg ft (show (2 : Int32).toNatClampNeg = 2 by decide))
  refine lv_iand hx hb dX8_step_51 ?_
  refine lv_topi (fun x_19 ex_19 => ?_)
  obtain rfl : x_19 = ((ft 0) &&& (ft 2)) := ex_19.trans (rfl)
  refine lv_ixor hx hb dX8_step_52 ?_
  refine lv_topi (fun x_20 ex_20 => ?_)
  obtain rfl : x_20 = (((ft 0) &&& (ft 1)) ^^^ ((ft 0) &&& (ft 2))) := ex_20.trans (rfl)
  refine lv_aload_n hx hb dX8_step_53 rfl (lv_at hl 3 rfl) ?_
  refine pg_get (ci := 8) (v := .ref ta) (C := RX8) (T := TX8) (N := 3) hx hb hts it_8 hown hK hP hL_h0 hF_7 rfl 2 (by decide) (hts _ kt_244) (fun _ h9 => h9) rfl dX8_step_54 ?_
  refine lv_iconst (v := 1) hx hb dX8_step_57 (by decide) ?_
  refine pg_iald hx hb hK hP hi_3 0 hFt rfl (show vp_in (1 : Int32) 8 from (show vp_in (nI 1) 8 from vp_in_nI (by omega) (by omega))) dX8_step_58 ?_
  refine lv_topi (fun x_21 ex_21 => ?_)
  obtain rfl : x_21 = (ft 1) := ex_21.trans (congrArg ft (show (1 : Int32).toNatClampNeg = 1 by decide))
  refine lv_aload_n hx hb dX8_step_59 rfl (lv_at hl 3 rfl) ?_
  refine pg_get (ci := 8) (v := .ref ta) (C := RX8) (T := TX8) (N := 3) hx hb hts it_8 hown hK hP hL_h0 hF_7 rfl 2 (by decide) (hts _ kt_244) (fun _ h9 => h9) rfl dX8_step_60 ?_
  refine lv_iconst (v := 2) hx hb dX8_step_63 (by decide) ?_
  refine pg_iald hx hb hK hP hi_3 0 hFt rfl (show vp_in (2 : Int32) 8 from (show vp_in (nI 2) 8 from vp_in_nI (by omega) (by omega))) dX8_step_64 ?_
  refine lv_topi (fun x_22 ex_22 => ?_)
  obtain rfl : x_22 = (ft 2) := ex_22.trans (congrArg ft (show (2 : Int32).toNatClampNeg = 2 by decide))
  refine lv_iand hx hb dX8_step_65 ?_
  refine lv_topi (fun x_23 ex_23 => ?_)
  obtain rfl : x_23 = ((ft 1) &&& (ft 2)) := ex_23.trans (rfl)
  refine lv_ixor hx hb dX8_step_66 ?_
  refine lv_topi (fun x_24 ex_24 => ?_)
  obtain rfl : x_24 = (maj (ft 0) (ft 1) (ft 2)) := ex_24.trans (rfl)
  refine lv_istore (lv' := [(5, .int (maj (ft 0) (ft 1) (ft 2))), (4, .int (chs (ft 4) (ft 5) (ft 6))), (3, .int (ft 4)), (2, .int (ft 0)), (0, .ref h0), (1, .int (nI i))]) hx hb dX8_step_67 hl (by decide) rfl (fun ls hl => ?_)
  refine lv_iload_n hx hb dX8_step_69 rfl (lv_at hl 2 rfl) ?_
  refine lv_bipush (v := 6) hx hb dX8_step_70 (by decide) ?_
  refine lv_iushr hx hb dX8_step_72 rfl ?_
  refine lv_topi (fun x_26 ex_26 => ?_)
  obtain rfl : x_26 = (ush (ft 4) 6) := ex_26.trans (rfl)
  refine lv_iload_n hx hb dX8_step_73 rfl (lv_at hl 2 rfl) ?_
  refine lv_bipush (v := 26) hx hb dX8_step_74 (by decide) ?_
  refine lv_ishl hx hb dX8_step_76 ?_
  refine lv_topi (fun x_27 ex_27 => ?_)
  obtain rfl : x_27 = (shl (ft 4) 26) := ex_27.trans (rfl)
  refine lv_ior hx hb dX8_step_77 ?_
  refine lv_topi (fun x_28 ex_28 => ?_)
  obtain rfl : x_28 = ((ush (ft 4) 6) ||| (shl (ft 4) 26)) := ex_28.trans (rfl)
  refine lv_iload_n hx hb dX8_step_78 rfl (lv_at hl 2 rfl) ?_
  refine lv_bipush (v := 11) hx hb dX8_step_79 (by decide) ?_
  refine lv_iushr hx hb dX8_step_81 rfl ?_
  refine lv_topi (fun x_30 ex_30 => ?_)
  obtain rfl : x_30 = (ush (ft 4) 11) := ex_30.trans (rfl)
  refine lv_iload_n hx hb dX8_step_82 rfl (lv_at hl 2 rfl) ?_
  refine lv_bipush (v := 21) hx hb dX8_step_83 (by decide) ?_
  refine lv_ishl hx hb dX8_step_85 ?_
  refine lv_topi (fun x_31 ex_31 => ?_)
  obtain rfl : x_31 = (shl (ft 4) 21) := ex_31.trans (rfl)
  refine lv_ior hx hb dX8_step_86 ?_
  refine lv_topi (fun x_32 ex_32 => ?_)
  obtain rfl : x_32 = ((ush (ft 4) 11) ||| (shl (ft 4) 21)) := ex_32.trans (rfl)
  refine lv_ixor hx hb dX8_step_87 ?_
  refine lv_topi (fun x_33 ex_33 => ?_)
  obtain rfl : x_33 = (((ush (ft 4) 6) ||| (shl (ft 4) 26)) ^^^ ((ush (ft 4) 11) ||| (shl (ft 4) 21))) := ex_33.trans (rfl)
  refine lv_iload_n hx hb dX8_step_88 rfl (lv_at hl 2 rfl) ?_
  refine lv_bipush (v := 25) hx hb dX8_step_89 (by decide) ?_
  refine lv_iushr hx hb dX8_step_91 rfl ?_
  refine lv_topi (fun x_35 ex_35 => ?_)
  obtain rfl : x_35 = (ush (ft 4) 25) := ex_35.trans (rfl)
  refine lv_iload_n hx hb dX8_step_92 rfl (lv_at hl 2 rfl) ?_
  refine lv_bipush (v := 7) hx hb dX8_step_93 (by decide) ?_
  refine lv_ishl hx hb dX8_step_95 ?_
  refine lv_topi (fun x_36 ex_36 => ?_)
  obtain rfl : x_36 = (shl (ft 4) 7) := ex_36.trans (rfl)
  refine lv_ior hx hb dX8_step_96 ?_
  refine lv_topi (fun x_37 ex_37 => ?_)
  obtain rfl : x_37 = ((ush (ft 4) 25) ||| (shl (ft 4) 7)) := ex_37.trans (rfl)
  refine lv_ixor hx hb dX8_step_97 ?_
  refine lv_topi (fun x_38 ex_38 => ?_)
  obtain rfl : x_38 = (sg1 (ft 4)) := ex_38.trans (rfl)
  refine lv_istore (lv' := [(6, .int (sg1 (ft 4))), (5, .int (maj (ft 0) (ft 1) (ft 2))), (4, .int (chs (ft 4) (ft 5) (ft 6))), (3, .int (ft 4)), (2, .int (ft 0)), (0, .ref h0), (1, .int (nI i))]) hx hb dX8_step_98 hl (by decide) rfl (fun ls hl => ?_)
  refine lv_iload_n hx hb dX8_step_100 rfl (lv_at hl 4 rfl) ?_
  refine lv_iconst (v := 2) hx hb dX8_step_101 (by decide) ?_
  refine lv_iushr hx hb dX8_step_102 rfl ?_
  refine lv_topi (fun x_40 ex_40 => ?_)
  obtain rfl : x_40 = (ush (ft 0) 2) := ex_40.trans (rfl)
  refine lv_iload_n hx hb dX8_step_103 rfl (lv_at hl 4 rfl) ?_
  refine lv_bipush (v := 30) hx hb dX8_step_104 (by decide) ?_
  refine lv_ishl hx hb dX8_step_106 ?_
  refine lv_topi (fun x_41 ex_41 => ?_)
  obtain rfl : x_41 = (shl (ft 0) 30) := ex_41.trans (rfl)
  refine lv_ior hx hb dX8_step_107 ?_
  refine lv_topi (fun x_42 ex_42 => ?_)
  obtain rfl : x_42 = ((ush (ft 0) 2) ||| (shl (ft 0) 30)) := ex_42.trans (rfl)
  refine lv_iload_n hx hb dX8_step_108 rfl (lv_at hl 4 rfl) ?_
  refine lv_bipush (v := 13) hx hb dX8_step_109 (by decide) ?_
  refine lv_iushr hx hb dX8_step_111 rfl ?_
  refine lv_topi (fun x_44 ex_44 => ?_)
  obtain rfl : x_44 = (ush (ft 0) 13) := ex_44.trans (rfl)
  refine lv_iload_n hx hb dX8_step_112 rfl (lv_at hl 4 rfl) ?_
  refine lv_bipush (v := 19) hx hb dX8_step_113 (by decide) ?_
  refine lv_ishl hx hb dX8_step_115 ?_
  refine lv_topi (fun x_45 ex_45 => ?_)
  obtain rfl : x_45 = (shl (ft 0) 19) := ex_45.trans (rfl)
  refine lv_ior hx hb dX8_step_116 ?_
  refine lv_topi (fun x_46 ex_46 => ?_)
  obtain rfl : x_46 = ((ush (ft 0) 13) ||| (shl (ft 0) 19)) := ex_46.trans (rfl)
  refine lv_ixor hx hb dX8_step_117 ?_
  refine lv_topi (fun x_47 ex_47 => ?_)
  obtain rfl : x_47 = (((ush (ft 0) 2) ||| (shl (ft 0) 30)) ^^^ ((ush (ft 0) 13) ||| (shl (ft 0) 19))) := ex_47.trans (rfl)
  refine lv_iload_n hx hb dX8_step_118 rfl (lv_at hl 4 rfl) ?_
  refine lv_bipush (v := 22) hx hb dX8_step_119 (by decide) ?_
  refine lv_iushr hx hb dX8_step_121 rfl ?_
  refine lv_topi (fun x_49 ex_49 => ?_)
  obtain rfl : x_49 = (ush (ft 0) 22) := ex_49.trans (rfl)
  refine lv_iload_n hx hb dX8_step_122 rfl (lv_at hl 4 rfl) ?_
  refine lv_bipush (v := 10) hx hb dX8_step_123 (by decide) ?_
  refine lv_ishl hx hb dX8_step_125 ?_
  refine lv_topi (fun x_50 ex_50 => ?_)
  obtain rfl : x_50 = (shl (ft 0) 10) := ex_50.trans (rfl)
  refine lv_ior hx hb dX8_step_126 ?_
  refine lv_topi (fun x_51 ex_51 => ?_)
  obtain rfl : x_51 = ((ush (ft 0) 22) ||| (shl (ft 0) 10)) := ex_51.trans (rfl)
  refine lv_ixor hx hb dX8_step_127 ?_
  refine lv_topi (fun x_52 ex_52 => ?_)
  obtain rfl : x_52 = (sg0 (ft 0)) := ex_52.trans (rfl)
  refine lv_istore (lv' := [(7, .int (sg0 (ft 0))), (6, .int (sg1 (ft 4))), (5, .int (maj (ft 0) (ft 1) (ft 2))), (4, .int (chs (ft 4) (ft 5) (ft 6))), (3, .int (ft 4)), (2, .int (ft 0)), (0, .ref h0), (1, .int (nI i))]) hx hb dX8_step_128 hl (by decide) rfl (fun ls hl => ?_)
  refine lv_aload_n hx hb dX8_step_130 rfl (lv_at hl 6 rfl) ?_
  refine pg_get (ci := 8) (v := .ref ta) (C := RX8) (T := TX8) (N := 3) hx hb hts it_8 hown hK hP hL_h0 hF_7 rfl 2 (by decide) (hts _ kt_244) (fun _ h9 => h9) rfl dX8_step_131 ?_
  refine lv_bipush (v := 7) hx hb dX8_step_134 (by decide) ?_
  refine pg_iald hx hb hK hP hi_3 0 hFt rfl (show vp_in (7 : Int32) 8 from (show vp_in (nI 7) 8 from vp_in_nI (by omega) (by omega))) dX8_step_136 ?_
  refine lv_topi (fun x_53 ex_53 => ?_)
  obtain rfl : x_53 = (ft 7) := ex_53.trans (congrArg ft (show (7 : Int32).toNatClampNeg = 7 by decide))
  refine lv_iload hx hb dX8_step_137 (lv_at hl 1 rfl) ?_
  refine lv_iadd hx hb dX8_step_139 ?_
  refine lv_topi (fun x_54 ex_54 => ?_)
  obtain rfl : x_54 = ((ft 7) + (sg1 (ft 4))) := ex_54.trans (rfl)
  refine lv_iload hx hb dX8_step_140 (lv_at hl 3 rfl) ?_
  refine lv_iadd hx hb dX8_step_142 ?_
  refine lv_topi (fun x_55 ex_55 => ?_)
  obtain rfl : x_55 = (((ft 7) + (sg1 (ft 4))) + (chs (ft 4) (ft 5) (ft 6))) := ex_55.trans (rfl)
  obtain ⟨aB, aF, fB, fF, ⟨rfl, rfl⟩, zB, tB, zF, tF⟩ := id hG.2.2.1
  refine va_gets hx hb zF hS hown (hts _ kt_245) (fun _ h9 => h9) dX8_step_143 ?_
  refine lv_iload_n hx hb dX8_step_146 rfl (lv_at hl 7 rfl) ?_
  refine va_ti hx hb tF hS (vp_in_nI (by omega) (by omega)) rfl dX8_step_147 ?_
  refine lv_topi (fun x_56 ex_56 => ?_)
  obtain rfl : x_56 = (shF i) := ex_56.trans (congrArg shF (nI_clamp (by omega)))
  refine lv_iadd hx hb dX8_step_148 ?_
  refine lv_topi (fun x_57 ex_57 => ?_)
  obtain rfl : x_57 = ((((ft 7) + (sg1 (ft 4))) + (chs (ft 4) (ft 5) (ft 6))) + (shF i)) := ex_57.trans (rfl)
  refine lv_aload_n hx hb dX8_step_149 rfl (lv_at hl 6 rfl) ?_
  refine pg_get (ci := 8) (v := .ref wa) (C := RX8) (T := TX8) (N := 3) hx hb hts it_8 hown hK hP hL_h0 hF_7 rfl 0 (by decide) (hts _ kt_246) (fun _ h9 => h9) rfl dX8_step_150 ?_
  refine lv_iload_n hx hb dX8_step_153 rfl (lv_at hl 7 rfl) ?_
  refine pg_iald hx hb hK hP hi_1 0 hFw rfl (vp_in_nI (by omega) (by omega)) dX8_step_154 ?_
  refine lv_topi (fun x_58 ex_58 => ?_)
  obtain rfl : x_58 = (fw i) := ex_58.trans (congrArg fw (nI_clamp (by omega)))
  refine lv_iadd hx hb dX8_step_155 ?_
  refine lv_topi (fun x_59 ex_59 => ?_)
  obtain rfl : x_59 = (fst1 ft (shF i) (fw i)) := ex_59.trans (rfl)
  refine lv_istore (lv' := [(8, .int (fst1 ft (shF i) (fw i))), (7, .int (sg0 (ft 0))), (6, .int (sg1 (ft 4))), (5, .int (maj (ft 0) (ft 1) (ft 2))), (4, .int (chs (ft 4) (ft 5) (ft 6))), (3, .int (ft 4)), (2, .int (ft 0)), (0, .ref h0), (1, .int (nI i))]) hx hb dX8_step_156 hl (by decide) rfl (fun ls hl => ?_)
  refine lv_bipush (v := 7) hx hb dX8_step_158 (by decide) ?_
  refine lv_istore (lv' := [(9, .int 7), (8, .int (fst1 ft (shF i) (fw i))), (7, .int (sg0 (ft 0))), (6, .int (sg1 (ft 4))), (5, .int (maj (ft 0) (ft 1) (ft 2))), (4, .int (chs (ft 4) (ft 5) (ft 6))), (3, .int (ft 4)), (2, .int (ft 0)), (0, .ref h0), (1, .int (nI i))]) hx hb dX8_step_160 hl (by decide) rfl (fun ls hl => ?_)
  refine W.widen (k := 0) (n := 0) (by omega) (by omega) ?_
  refine pl_loop (σ := Nat) A (dC, dI) cs ty L [ρ] F 162 10 (fun k => [(9, .int (nI k)), (8, .int (fst1 ft (shF i) (fw i))), (7, .int (sg0 (ft 0))), (5, .int (maj (ft 0) (ft 1) (ft 2))), (0, .ref h0)]) (fun k => []) (fun k FF => k ≤ 7 ∧ FF wa = .inl (cs 16, 64, .inl fw) ∧ FF sa = .inl (cs 16, 8, .inl fs) ∧ FF ta = .inl (cs 16, 8, .inl (shf ft (k + 1)))) (fun k => k) ?_ 7 F (⟨by omega, hFw, hFs, by rw [shf_8]; exact hFt⟩) hO hR _ _ hP hD hS ls (lv_sub hl [0, 1, 2, 4, 8] rfl)
  rintro k F_60 hv_61 hO hR ih_62 H locs hP hD hS ls hl
  have hl : lv_has ls 10 [(9, .int (nI k)), (8, .int (fst1 ft (shF i) (fw i))), (7, .int (sg0 (ft 0))), (5, .int (maj (ft 0) (ft 1) (ft 2))), (0, .ref h0)] := hl
  have hv_61 : k ≤ 7 ∧ F_60 wa = .inl (cs 16, 64, .inl fw) ∧ F_60 sa = .inl (cs 16, 8, .inl fs) ∧ F_60 ta = .inl (cs 16, 8, .inl (shf ft (k + 1))) := hv_61
  refine W.eq (g2 := F0 m 162 ls []) rfl ?_
  obtain ⟨hv1, hv2, hv3, hv4⟩ := id hv_61
  refine lv_iload hx hb dX8_step_162 (lv_at hl 0 rfl) ?_
  refine lv_if_le (tgt := 189) hx hb dX8_step_164 (by decide) (fun c_63 => ?_) (fun c_63 => ?_)
  ·
    have hk0 : k = 0 := Nat.le_zero.mp ((nI_leI (a := k) (b := 0) (by omega) (by omega)).mp c_63)
    subst hk0
    refine lv_aload_n hx hb dX8_step_189 rfl (lv_at hl 4 rfl) ?_
    have hF_65 := hO.sha hL_h0 hT_h0
    refine pg_get (ci := 8) (v := .ref ta) (C := RX8) (T := TX8) (N := 3) hx hb hts it_8 hown hK hP hL_h0 hF_65 rfl 2 (by decide) (hts _ kt_244) (fun _ h9 => h9) rfl dX8_step_190 ?_
    refine lv_iconst (v := 4) hx hb dX8_step_193 (by decide) ?_
    refine lv_dup2_11 hx hb dX8_step_194 rfl rfl ?_
    refine pg_iald hx hb hK hP hi_3 0 hv4 rfl (show vp_in (4 : Int32) 8 from (show vp_in (nI 4) 8 from vp_in_nI (by omega) (by omega))) dX8_step_195 ?_
    refine lv_topi (fun x_66 ex_66 => ?_)
    obtain rfl : x_66 = (ft 3) := ex_66.trans ((congrArg (shf ft 1) (show (4 : Int32).toNatClampNeg = 4 by decide)).trans (if_pos ⟨by omega, by omega⟩))
    refine lv_iload hx hb dX8_step_196 (lv_at hl 1 rfl) ?_
    refine lv_iadd hx hb dX8_step_198 ?_
    refine lv_topi (fun x_67 ex_67 => ?_)
    obtain rfl : x_67 = ((ft 3) + (fst1 ft (shF i) (fw i))) := ex_67.trans (rfl)
    refine pg_iast hx hb hK hP hD hS hi_3 0 hv4 rfl (show vp_in (4 : Int32) 8 from (show vp_in (nI 4) 8 from vp_in_nI (by omega) (by omega))) dX8_step_199 (fun H locs hP hD hS => ?_)
    obtain ⟨F_68, he_69, hP, hD, hO, hR⟩ : ∃ G, G = va_up F_60 ta (.inl (cs 16, 8, .inl (upd (shf ft 1) (4 : Int32).toNatClampNeg (((ft 3) + (fst1 ft (shF i) (fw i))))))) ∧ va_P (dC, dI) vwCl (va_pl L G) H ∧ va_D A (va_pl L G) ∧ OK cs ty L G ∧ FR ty [ρ] F G := ⟨_, rfl, hP, hD, hO.up (sh.tur ht_6 ⟨_, rfl⟩), hR.up ht_6 (by simp)⟩
    have hF_70 : F_68 ta = .inl (cs 16, 8, .inl (upd (shf ft 1) (4 : Int32).toNatClampNeg (((ft 3) + (fst1 ft (shF i) (fw i)))))) := by rw [he_69]; exact up_self
    have hF_71 : F_68 wa = .inl (cs 16, 64, .inl fw) := by rw [he_69, up_ne (ne_ty ht_4 ht_6 (by simp))]; exact hv2
    have hF_72 : F_68 sa = .inl (cs 16, 8, .inl fs) := by rw [he_69, up_ne (ne_ty ht_5 ht_6 (by simp))]; exact hv3
    have hF_73 : F_68 h0 = .inr (8, [.ref wa, .ref sa, .ref ta]) := by rw [he_69, up_ne (ne_ty hT_h0 ht_6 (by simp))]; exact hF_65
    have hF_74 : F_68 ta = .inl (cs 16, 8, .inl (upd (shf ft 1) 4 ((ft 3) + (fst1 ft (shF i) (fw i))))) := by have h9 := hF_70; rwa [show (4 : Int32).toNatClampNeg = 4 by decide] at h9
    refine lv_aload_n hx hb dX8_step_200 rfl (lv_at hl 4 rfl) ?_
    refine pg_get (ci := 8) (v := .ref ta) (C := RX8) (T := TX8) (N := 3) hx hb hts it_8 hown hK hP hL_h0 hF_73 rfl 2 (by decide) (hts _ kt_244) (fun _ h9 => h9) rfl dX8_step_201 ?_
    refine lv_iconst (v := 0) hx hb dX8_step_204 (by decide) ?_
    refine lv_iload hx hb dX8_step_205 (lv_at hl 1 rfl) ?_
    refine lv_iload hx hb dX8_step_207 (lv_at hl 2 rfl) ?_
    refine lv_iadd hx hb dX8_step_209 ?_
    refine lv_topi (fun x_75 ex_75 => ?_)
    obtain rfl : x_75 = ((fst1 ft (shF i) (fw i)) + (sg0 (ft 0))) := ex_75.trans (rfl)
    refine lv_iload hx hb dX8_step_210 (lv_at hl 3 rfl) ?_
    refine lv_iadd hx hb dX8_step_212 ?_
    refine lv_topi (fun x_76 ex_76 => ?_)
    obtain rfl : x_76 = (((fst1 ft (shF i) (fw i)) + (sg0 (ft 0))) + (maj (ft 0) (ft 1) (ft 2))) := ex_76.trans (rfl)
    refine pg_iast hx hb hK hP hD hS hi_3 0 hF_74 rfl (show vp_in (0 : Int32) 8 from (show vp_in (nI 0) 8 from vp_in_nI (by omega) (by omega))) dX8_step_213 (fun H locs hP hD hS => ?_)
    obtain ⟨F_77, he_78, hP, hD, hO, hR⟩ : ∃ G, G = va_up F_68 ta (.inl (cs 16, 8, .inl (upd (upd (shf ft 1) 4 ((ft 3) + (fst1 ft (shF i) (fw i)))) (0 : Int32).toNatClampNeg ((((fst1 ft (shF i) (fw i)) + (sg0 (ft 0))) + (maj (ft 0) (ft 1) (ft 2))))))) ∧ va_P (dC, dI) vwCl (va_pl L G) H ∧ va_D A (va_pl L G) ∧ OK cs ty L G ∧ FR ty [ρ] F G := ⟨_, rfl, hP, hD, hO.up (sh.tur ht_6 ⟨_, rfl⟩), hR.up ht_6 (by simp)⟩
    have hF_79 : F_77 ta = .inl (cs 16, 8, .inl (upd (upd (shf ft 1) 4 ((ft 3) + (fst1 ft (shF i) (fw i)))) (0 : Int32).toNatClampNeg ((((fst1 ft (shF i) (fw i)) + (sg0 (ft 0))) + (maj (ft 0) (ft 1) (ft 2)))))) := by rw [he_78]; exact up_self
    have hF_80 : F_77 wa = .inl (cs 16, 64, .inl fw) := by rw [he_78, up_ne (ne_ty ht_4 ht_6 (by simp))]; exact hF_71
    have hF_81 : F_77 sa = .inl (cs 16, 8, .inl fs) := by rw [he_78, up_ne (ne_ty ht_5 ht_6 (by simp))]; exact hF_72
    have hF_82 : F_77 h0 = .inr (8, [.ref wa, .ref sa, .ref ta]) := by rw [he_78, up_ne (ne_ty hT_h0 ht_6 (by simp))]; exact hF_73
    have hF_83 : F_77 ta = .inl (cs 16, 8, .inl (upd (upd (shf ft 1) 4 ((ft 3) + (fst1 ft (shF i) (fw i)))) 0 (((fst1 ft (shF i) (fw i)) + (sg0 (ft 0))) + (maj (ft 0) (ft 1) (ft 2))))) := by have h9 := hF_79; rwa [show (0 : Int32).toNatClampNeg = 0 by decide] at h9
    refine W.widen (k := 0) (n := 0) (by omega) (by omega) ?_
    exact W.vret hx hb hr (fun t ht hWm => ⟨⟨(), rfl, trivial, ⟨F_77, QT.mk ht hP hD hO hR, hF_80, hF_81, hF_83⟩⟩, hS.F ht⟩) hS.2.2 dX8_step_214
  ·
    have hk1n : 1 ≤ k := posN c_63
    refine lv_aload_n hx hb dX8_step_167 rfl (lv_at hl 4 rfl) ?_
    have hF_85 := hO.sha hL_h0 hT_h0
    refine pg_get (ci := 8) (v := .ref ta) (C := RX8) (T := TX8) (N := 3) hx hb hts it_8 hown hK hP hL_h0 hF_85 rfl 2 (by decide) (hts _ kt_244) (fun _ h9 => h9) rfl dX8_step_168 ?_
    refine lv_iload hx hb dX8_step_171 (lv_at hl 0 rfl) ?_
    refine lv_aload_n hx hb dX8_step_173 rfl (lv_at hl 4 rfl) ?_
    refine pg_get (ci := 8) (v := .ref ta) (C := RX8) (T := TX8) (N := 3) hx hb hts it_8 hown hK hP hL_h0 hF_85 rfl 2 (by decide) (hts _ kt_244) (fun _ h9 => h9) rfl dX8_step_174 ?_
    refine lv_iload hx hb dX8_step_177 (lv_at hl 0 rfl) ?_
    refine lv_iconst (v := 1) hx hb dX8_step_179 (by decide) ?_
    refine lv_isub hx hb dX8_step_180 ?_
    refine lv_topi (fun x_86 ex_86 => ?_)
    obtain rfl : x_86 = (nI (k - 1)) := ex_86.trans (pk_sub (b := 1) (by omega))
    refine pg_iald hx hb hK hP hi_3 0 hv4 rfl (vp_in_nI (by omega) (by omega)) dX8_step_181 ?_
    refine lv_topi (fun x_87 ex_87 => ?_)
    obtain rfl : x_87 = ((shf ft (k + 1)) (k - 1)) := ex_87.trans (congrArg (shf ft (k + 1)) (nI_clamp (by omega)))
    refine pg_iast hx hb hK hP hD hS hi_3 0 hv4 rfl (vp_in_nI (by omega) (by omega)) dX8_step_182 (fun H locs hP hD hS => ?_)
    obtain ⟨F_88, he_89, hP, hD, hO, hR⟩ : ∃ G, G = va_up F_60 ta (.inl (cs 16, 8, .inl (upd (shf ft (k + 1)) ((nI k)).toNatClampNeg (((shf ft (k + 1)) (k - 1)))))) ∧ va_P (dC, dI) vwCl (va_pl L G) H ∧ va_D A (va_pl L G) ∧ OK cs ty L G ∧ FR ty [ρ] F G := ⟨_, rfl, hP, hD, hO.up (sh.tur ht_6 ⟨_, rfl⟩), hR.up ht_6 (by simp)⟩
    have hF_90 : F_88 ta = .inl (cs 16, 8, .inl (upd (shf ft (k + 1)) ((nI k)).toNatClampNeg (((shf ft (k + 1)) (k - 1))))) := by rw [he_89]; exact up_self
    have hF_91 : F_88 wa = .inl (cs 16, 64, .inl fw) := by rw [he_89, up_ne (ne_ty ht_4 ht_6 (by simp))]; exact hv2
    have hF_92 : F_88 sa = .inl (cs 16, 8, .inl fs) := by rw [he_89, up_ne (ne_ty ht_5 ht_6 (by simp))]; exact hv3
    have hF_93 : F_88 h0 = .inr (8, [.ref wa, .ref sa, .ref ta]) := by rw [he_89, up_ne (ne_ty hT_h0 ht_6 (by simp))]; exact hF_85
    have hF_94 : F_88 ta = .inl (cs 16, 8, .inl (upd (shf ft (k + 1)) k ((shf ft (k + 1)) (k - 1)))) := by have h9 := hF_90; rwa [nI_clamp (by omega)] at h9
    refine lv_iinc (v := (nI (k - 1))) (lv' := [(9, .int (nI (k - 1))), (8, .int (fst1 ft (shF i) (fw i))), (7, .int (sg0 (ft 0))), (5, .int (maj (ft 0) (ft 1) (ft 2))), (0, .ref h0)]) hx hb dX8_step_183 hl (k := 0) rfl (m1N (by omega)) (by decide) rfl (fun ls hl => ?_)
    refine lv_goto (tgt := 162) hx hb dX8_step_186 (by decide) ?_
    refine W.widen (k := 0) (n := 0) (by omega) (by omega) ?_
    exact ih_62 (k - 1) F_88 (⟨by omega, hF_91, hF_92, by rw [show k - 1 + 1 = k by omega, ← shf_s (T := ft) hk1n hv1]; exact hF_94⟩) (by show (k - 1) < k; omega) hO hR _ _ hP hD hS ls (lv_sub hl [0, 1, 2, 3, 4] rfl)
theorem cpy8 {f g : Nat → Int32} : ∀ j, j < 8 → va_cpy f g (0 : Int32).toNatClampNeg (0 : Int32).toNatClampNeg (8 : Int32).toNatClampNeg j = f j := by
  intro j hj
  rw [show (0 : Int32).toNatClampNeg = 0 by decide, show (8 : Int32).toNatClampNeg = 8 by decide]
  show (if 0 ≤ j ∧ j < 0 + 8 then f (0 + (j - 0)) else g j) = _
  rw [if_pos ⟨Nat.zero_le _, by omega⟩, Nat.sub_zero, Nat.zero_add]
theorem mx_up {f9 fw fs : Nat → Int32} {k : Nat} {v : Int32} (h : ∀ j, j < 8 → f9 j = if j < k then mxs fw fs j else fs j) (hk : k < 8) (hv : v = rnd shF (sch fw 48) fs 64 k) : ∀ j, j < 8 → upd f9 k (f9 k + v) j = if j < k + 1 then mxs fw fs j else fs j := by
  intro j hj
  by_cases c : j = k
  · rw [c, upd_at, if_pos (by omega), h k hk, if_neg (by omega), hv]
    rfl
  · rw [upd_no c, h j hj]
    by_cases d : j < k
    · rw [if_pos d, if_pos (by omega)]
    · rw [if_neg d, if_neg (by omega)]
set_option maxHeartbeats 4000000 in
set_option maxRecDepth 100000 in
theorem s_X8_mix_e (l : Launch) (dC : Nat → ClassId) (dI : Nat → Nat → Nat) (cs : Nat → ClassId) (ty : TyM) (L : List Nat) (sz : Nat) (F : Nat → va_E) (h0 : Nat) (ρ : Nat) (wa : Nat) (sa : Nat) (ta : Nat) (fw : Nat → Int32) (fs : Nat → Int32) (hW : WT ty L) (hL_h0 : h0 ∈ L) (hT_h0 : ty h0 = (8, ρ, [wa, sa, ta])) (hFw : F wa = .inl (cs 16, 64, .inl fw)) (hFs : F sa = .inl (cs 16, 8, .inl fs)) : Met l yX8_mix (.code yX8_mix cX8_mix 6 none :: tb) ({ frames := 1, cells := 0, slots := 0, locals := 48 }) (va_Pc [.ref h0] (PTE (dC, dI) cs ty L F sz [])) (va_Qv (fun _ : Unit => True) (fun _ T9 => ∃ F2 : Nat → va_E, ∃ f2 : Nat → Int32, QT (dC, dI) cs ty L [ρ] F F2 (va_A (va_pl L F) sz) T9 ∧ F2 sa = .inl (cs 16, 8, .inl f2) ∧ (∀ j, j < 8 → f2 j = mxs fw fs j)) (va_A (va_pl L F) sz)) 0 0 (va_A (va_pl L F) sz) := by
  refine Met.ofW (cc := cX8_mix) (maxL := 6) (ret := none) (by decide) rfl ?_
  intro p e s m args below meth c s₁ B hml hv
  obtain ⟨rfl, ⟨hsz, hP, hK, hD0, hE, hO⟩, hG, hX⟩ := hv
  have hx := B.exec
  have hb := B.bytes
  have hr := B.returns
  have hts : ∀ w ∈ tb, w.before _ s = true := fun w h => atoms_spec (ws := .code yX8_mix cX8_mix 6 none :: tb) B.pre w (List.mem_cons_of_mem _ h)
  have hown : s.vm.findClass RX8 = some m.cls := findClass_of_methodNamed B.named
  have hlocks := B.notSynchronized
  subst hsz
  have hD := hD0.self (sz := s.heap.size)
  generalize hAe : va_A (va_pl L F) s.heap.size = A at hD hG hX ⊢
  have hA : ∀ q : Nat, s.heap.size ≤ q → A q := fun q h => by rw [← hAe]; exact Or.inr h
  have hS : va_S A s.heap s.heap [] := va_S.rf
  have hR : FR ty [ρ] F F := FR.refl
  have hl := lv_entry ([.ref h0]) (n := 6) (Nat.le_of_ble_eq_true rfl)
  rw [lg_entry_eq]
  generalize (lg_sl ([.ref h0]) ++ List.replicate (6 - (lg_sl ([.ref h0])).length) Slot.unset).toArray = ls at hl ⊢
  have hl : lv_has ls 6 [(0, .ref h0)] := hl
  obtain ⟨hi_1, hi_2, hi_3, ht_4, ht_5, ht_6⟩ := hW.sha hL_h0 hT_h0
  refine lv_bipush (v := 16) hx hb dX8_mix_0 (by decide) ?_
  refine lv_istore_n (lv' := [(1, .int 16), (0, .ref h0)]) hx hb dX8_mix_2 rfl hl (by decide) rfl (fun ls hl => ?_)
  refine W.widen (k := 0) (n := 0) (by omega) (by omega) ?_
  refine pl_loop (σ := Nat) A (dC, dI) cs ty L [ρ] F 3 6 (fun i1 => [(1, .int (nI i1)), (0, .ref h0)]) (fun i1 => []) (fun i1 FF => 16 ≤ i1 ∧ i1 ≤ 64 ∧ FF wa = .inl (cs 16, 64, .inl (sch fw (i1 - 16))) ∧ FF sa = .inl (cs 16, 8, .inl fs)) (fun i1 => 64 - i1) ?_ 16 F (⟨by omega, by omega, hFw, hFs⟩) hO hR _ _ hP hD hS ls (lv_sub hl [0, 1] rfl)
  rintro i1 F_7 hv_8 hO hR ih_9 H locs hP hD hS ls hl
  have hl : lv_has ls 6 [(1, .int (nI i1)), (0, .ref h0)] := hl
  have hv_8 : 16 ≤ i1 ∧ i1 ≤ 64 ∧ F_7 wa = .inl (cs 16, 64, .inl (sch fw (i1 - 16))) ∧ F_7 sa = .inl (cs 16, 8, .inl fs) := hv_8
  refine W.eq (g2 := F0 m 3 ls []) rfl ?_
  obtain ⟨hv0, hv1, hv2, hv3⟩ := id hv_8
  refine lv_iload_n hx hb dX8_mix_3 rfl (lv_at hl 0 rfl) ?_
  refine lv_bipush (v := 64) hx hb dX8_mix_4 (by decide) ?_
  refine lv_icmp_ge (tgt := 116) hx hb dX8_mix_6 (by decide) (fun c_10 => ?_) (fun c_10 => ?_)
  ·
    have hi_11 : 64 ≤ i1 := leN (N := 64) c_10
    have hk48 : i1 = 64 := by omega
    subst hk48
    refine lv_aload_n hx hb dX8_mix_116 rfl (lv_at hl 1 rfl) ?_
    have hF_12 := hO.sha hL_h0 hT_h0
    refine pg_get (ci := 8) (v := .ref sa) (C := RX8) (T := TX8) (N := 3) hx hb hts it_8 hown hK hP hL_h0 hF_12 rfl 1 (by decide) (hts _ kt_247) (fun _ h9 => h9) rfl dX8_mix_117 ?_
    refine lv_iconst (v := 0) hx hb dX8_mix_120 (by decide) ?_
    refine lv_aload_n hx hb dX8_mix_121 rfl (lv_at hl 1 rfl) ?_
    refine pg_get (ci := 8) (v := .ref ta) (C := RX8) (T := TX8) (N := 3) hx hb hts it_8 hown hK hP hL_h0 hF_12 rfl 2 (by decide) (hts _ kt_244) (fun _ h9 => h9) rfl dX8_mix_122 ?_
    refine lv_iconst (v := 0) hx hb dX8_mix_125 (by decide) ?_
    refine lv_bipush (v := 8) hx hb dX8_mix_126 (by decide) ?_
    obtain ⟨f_13, hF_14⟩ := hO.tur hi_3 ht_6
    refine pg_copyi hx hb (by rw [hml]; exact hl.1.symm) hown (hts _ kt_248) (hts _ kt_29) (hts _ kt_30) (hts _ kt_31) hK hP hD hS hi_2 hi_3 0 0 hv3 hF_14 rfl rfl rfl (by decide) (by decide) (by decide) (by decide) (by decide) (fun _ _ => rfl) (Nat.le_of_ble_eq_true rfl) (by decide) dX8_mix_128 (fun H locs hP hD hS => ?_)
    obtain ⟨F_15, he_16, hP, hD, hO, hR⟩ : ∃ G, G = va_up F_7 ta (.inl (cs 16, 8, .inl (va_cpy fs f_13 (0 : Int32).toNatClampNeg (0 : Int32).toNatClampNeg (8 : Int32).toNatClampNeg))) ∧ va_P (dC, dI) vwCl (va_pl L G) H ∧ va_D A (va_pl L G) ∧ OK cs ty L G ∧ FR ty [ρ] F G := ⟨_, rfl, hP, hD, hO.up (sh.tur ht_6 ⟨_, rfl⟩), hR.up ht_6 (by simp)⟩
    have hF_17 : F_15 ta = .inl (cs 16, 8, .inl (va_cpy fs f_13 (0 : Int32).toNatClampNeg (0 : Int32).toNatClampNeg (8 : Int32).toNatClampNeg)) := by rw [he_16]; exact up_self
    have hF_18 : F_15 wa = .inl (cs 16, 64, .inl (sch fw 48)) := by rw [he_16, up_ne (ne_ty ht_4 ht_6 (by simp))]; exact hv2
    have hF_19 : F_15 sa = .inl (cs 16, 8, .inl fs) := by rw [he_16, up_ne (ne_ty ht_5 ht_6 (by simp))]; exact hv3
    have hF_20 : F_15 h0 = .inr (8, [.ref wa, .ref sa, .ref ta]) := by rw [he_16, up_ne (ne_ty hT_h0 ht_6 (by simp))]; exact hF_12
    refine lv_iconst (v := 0) hx hb dX8_mix_131 (by decide) ?_
    refine lv_istore_n (lv' := [(1, .int 0), (0, .ref h0)]) hx hb dX8_mix_132 rfl hl (by decide) rfl (fun ls hl => ?_)
    refine W.widen (k := 0) (n := 0) (by omega) (by omega) ?_
    refine pl_loop (σ := Nat) A (dC, dI) cs ty L [ρ] F 133 6 (fun k2 => [(1, .int (nI k2)), (0, .ref h0)]) (fun k2 => []) (fun k2 FF => k2 ≤ 64 ∧ FF wa = .inl (cs 16, 64, .inl (sch fw 48)) ∧ FF sa = .inl (cs 16, 8, .inl fs) ∧ FF ta = .inl (cs 16, 8, .inl (rnd shF (sch fw 48) (va_cpy fs f_13 (0 : Int32).toNatClampNeg (0 : Int32).toNatClampNeg (8 : Int32).toNatClampNeg) k2))) (fun k2 => 64 - k2) ?_ 0 F_15 (⟨by omega, hF_18, hF_19, hF_17⟩) hO hR _ _ hP hD hS ls (lv_sub hl [0, 1] rfl)
    rintro k2 F_21 hv_22 hO hR ih_23 H locs hP hD hS ls hl
    have hl : lv_has ls 6 [(1, .int (nI k2)), (0, .ref h0)] := hl
    have hv_22 : k2 ≤ 64 ∧ F_21 wa = .inl (cs 16, 64, .inl (sch fw 48)) ∧ F_21 sa = .inl (cs 16, 8, .inl fs) ∧ F_21 ta = .inl (cs 16, 8, .inl (rnd shF (sch fw 48) (va_cpy fs f_13 (0 : Int32).toNatClampNeg (0 : Int32).toNatClampNeg (8 : Int32).toNatClampNeg) k2)) := hv_22
    refine W.eq (g2 := F0 m 133 ls []) rfl ?_
    obtain ⟨hw1, hw2, hw3, hw4⟩ := id hv_22
    refine lv_iload_n hx hb dX8_mix_133 rfl (lv_at hl 0 rfl) ?_
    refine lv_bipush (v := 64) hx hb dX8_mix_134 (by decide) ?_
    refine lv_icmp_ge (tgt := 150) hx hb dX8_mix_136 (by decide) (fun c_24 => ?_) (fun c_24 => ?_)
    ·
      have hi_25 : 64 ≤ k2 := leN (N := 64) c_24
      have hk64 : k2 = 64 := by omega
      subst hk64
      refine lv_iconst (v := 0) hx hb dX8_mix_150 (by decide) ?_
      refine lv_istore_n (lv' := [(1, .int 0), (0, .ref h0)]) hx hb dX8_mix_151 rfl hl (by decide) rfl (fun ls hl => ?_)
      refine W.widen (k := 0) (n := 0) (by omega) (by omega) ?_
      refine pl_loop (σ := Nat) A (dC, dI) cs ty L [ρ] F 152 6 (fun k3 => [(1, .int (nI k3)), (0, .ref h0)]) (fun k3 => []) (fun k3 FF => k3 ≤ 8 ∧ FF ta = .inl (cs 16, 8, .inl (rnd shF (sch fw 48) (va_cpy fs f_13 (0 : Int32).toNatClampNeg (0 : Int32).toNatClampNeg (8 : Int32).toNatClampNeg) 64)) ∧ (∃ f9 : Nat → Int32, FF sa = .inl (cs 16, 8, .inl f9) ∧ ∀ j, j < 8 → f9 j = if j < k3 then mxs fw fs j else fs j)) (fun k3 => 8 - k3) ?_ 0 F_21 (⟨by omega, hw4, fs, hw3, fun j hj => (if_neg (Nat.not_lt_zero _)).symm⟩) hO hR _ _ hP hD hS ls (lv_sub hl [0, 1] rfl)
      rintro k3 F_26 hv_27 hO hR ih_28 H locs hP hD hS ls hl
      have hl : lv_has ls 6 [(1, .int (nI k3)), (0, .ref h0)] := hl
      have hv_27 : k3 ≤ 8 ∧ F_26 ta = .inl (cs 16, 8, .inl (rnd shF (sch fw 48) (va_cpy fs f_13 (0 : Int32).toNatClampNeg (0 : Int32).toNatClampNeg (8 : Int32).toNatClampNeg) 64)) ∧ (∃ f9 : Nat → Int32, F_26 sa = .inl (cs 16, 8, .inl f9) ∧ ∀ j, j < 8 → f9 j = if j < k3 then mxs fw fs j else fs j) := hv_27
      refine W.eq (g2 := F0 m 152 ls []) rfl ?_
      obtain ⟨hu1, hu2, f9, hu3, hu4⟩ := id hv_27
      refine lv_iload_n hx hb dX8_mix_152 rfl (lv_at hl 0 rfl) ?_
      refine lv_bipush (v := 8) hx hb dX8_mix_153 (by decide) ?_
      refine lv_icmp_ge (tgt := 179) hx hb dX8_mix_155 (by decide) (fun c_29 => ?_) (fun c_29 => ?_)
      ·
        have hi_30 : 8 ≤ k3 := leN (N := 8) c_29
        refine W.widen (k := 0) (n := 0) (by omega) (by omega) ?_
        exact W.vret hx hb hr (fun t ht hWm => ⟨⟨(), rfl, trivial, ⟨F_26, f9, QT.mk ht hP hD hO hR, hu3, (fun j hj => (hu4 j hj).trans (if_pos (by omega)))⟩⟩, hS.F ht⟩) hS.2.2 dX8_mix_179
      ·
        have hi_31 : k3 < 8 := ltN (N := 8) c_29
        refine lv_aload_n hx hb dX8_mix_158 rfl (lv_at hl 1 rfl) ?_
        have hF_32 := hO.sha hL_h0 hT_h0
        refine pg_get (ci := 8) (v := .ref sa) (C := RX8) (T := TX8) (N := 3) hx hb hts it_8 hown hK hP hL_h0 hF_32 rfl 1 (by decide) (hts _ kt_247) (fun _ h9 => h9) rfl dX8_mix_159 ?_
        refine lv_iload_n hx hb dX8_mix_162 rfl (lv_at hl 0 rfl) ?_
        refine lv_dup2_11 hx hb dX8_mix_163 rfl rfl ?_
        refine pg_iald hx hb hK hP hi_2 0 hu3 rfl (vp_in_nI (by omega) (by omega)) dX8_mix_164 ?_
        refine lv_topi (fun x_33 ex_33 => ?_)
        obtain rfl : x_33 = (f9 k3) := ex_33.trans (congrArg f9 (nI_clamp (by omega)))
        refine lv_aload_n hx hb dX8_mix_165 rfl (lv_at hl 1 rfl) ?_
        refine pg_get (ci := 8) (v := .ref ta) (C := RX8) (T := TX8) (N := 3) hx hb hts it_8 hown hK hP hL_h0 hF_32 rfl 2 (by decide) (hts _ kt_244) (fun _ h9 => h9) rfl dX8_mix_166 ?_
        refine lv_iload_n hx hb dX8_mix_169 rfl (lv_at hl 0 rfl) ?_
        refine pg_iald hx hb hK hP hi_3 0 hu2 rfl (vp_in_nI (by omega) (by omega)) dX8_mix_170 ?_
        refine lv_topi (fun x_34 ex_34 => ?_)
        obtain rfl : x_34 = ((rnd shF (sch fw 48) (va_cpy fs f_13 (0 : Int32).toNatClampNeg (0 : Int32).toNatClampNeg (8 : Int32).toNatClampNeg) 64) k3) := ex_34.trans (congrArg (rnd shF (sch fw 48) (va_cpy fs f_13 (0 : Int32).toNatClampNeg (0 : Int32).toNatClampNeg (8 : Int32).toNatClampNeg) 64) (nI_clamp (by omega)))
        refine lv_iadd hx hb dX8_mix_171 ?_
        refine lv_topi (fun x_35 ex_35 => ?_)
        obtain rfl : x_35 = ((f9 k3) + ((rnd shF (sch fw 48) (va_cpy fs f_13 (0 : Int32).toNatClampNeg (0 : Int32).toNatClampNeg (8 : Int32).toNatClampNeg) 64) k3)) := ex_35.trans (rfl)
        refine pg_iast hx hb hK hP hD hS hi_2 0 hu3 rfl (vp_in_nI (by omega) (by omega)) dX8_mix_172 (fun H locs hP hD hS => ?_)
        obtain ⟨F_36, he_37, hP, hD, hO, hR⟩ : ∃ G, G = va_up F_26 sa (.inl (cs 16, 8, .inl (upd f9 ((nI k3)).toNatClampNeg (((f9 k3) + ((rnd shF (sch fw 48) (va_cpy fs f_13 (0 : Int32).toNatClampNeg (0 : Int32).toNatClampNeg (8 : Int32).toNatClampNeg) 64) k3)))))) ∧ va_P (dC, dI) vwCl (va_pl L G) H ∧ va_D A (va_pl L G) ∧ OK cs ty L G ∧ FR ty [ρ] F G := ⟨_, rfl, hP, hD, hO.up (sh.ints ht_5 ⟨_, rfl⟩), hR.up ht_5 (by simp)⟩
        have hF_38 : F_36 sa = .inl (cs 16, 8, .inl (upd f9 ((nI k3)).toNatClampNeg (((f9 k3) + ((rnd shF (sch fw 48) (va_cpy fs f_13 (0 : Int32).toNatClampNeg (0 : Int32).toNatClampNeg (8 : Int32).toNatClampNeg) 64) k3))))) := by rw [he_37]; exact up_self
        have hF_39 : F_36 ta = .inl (cs 16, 8, .inl (rnd shF (sch fw 48) (va_cpy fs f_13 (0 : Int32).toNatClampNeg (0 : Int32).toNatClampNeg (8 : Int32).toNatClampNeg) 64)) := by rw [he_37, up_ne (ne_ty ht_6 ht_5 (by simp))]; exact hu2
        have hF_40 : F_36 h0 = .inr (8, [.ref wa, .ref sa, .ref ta]) := by rw [he_37, up_ne (ne_ty hT_h0 ht_5 (by simp))]; exact hF_32
        have hF_41 : F_36 sa = .inl (cs 16, 8, .inl (upd f9 k3 ((f9 k3) + ((rnd shF (sch fw 48) (va_cpy fs f_13 (0 : Int32).toNatClampNeg (0 : Int32).toNatClampNeg (8 : Int32).toNatClampNeg) 64) k3)))) := by have h9 := hF_38; rwa [nI_clamp (by omega)] at h9
        refine lv_iinc (v := (nI (k3 + 1))) (lv' := [(1, .int (nI (k3 + 1))), (0, .ref h0)]) hx hb dX8_mix_173 hl (k := 0) rfl (nI_1 _) (by decide) rfl (fun ls hl => ?_)
        refine lv_goto (tgt := 152) hx hb dX8_mix_176 (by decide) ?_
        refine W.widen (k := 0) (n := 0) (by omega) (by omega) ?_
        exact ih_28 (k3 + 1) F_36 (⟨by omega, hF_39, _, hF_41, mx_up hu4 (by omega) (rnd_cg (cpy8 (f := fs)) 64 (fun i hi => rfl) k3 (by omega))⟩) (by show 8 - (k3 + 1) < 8 - k3; omega) hO hR _ _ hP hD hS ls (lv_sub hl [0, 1] rfl)
    ·
      have hi_42 : k2 < 64 := ltN (N := 64) c_24
      refine lv_aload_n hx hb dX8_mix_139 rfl (lv_at hl 1 rfl) ?_
      refine lv_iload_n hx hb dX8_mix_140 rfl (lv_at hl 0 rfl) ?_
      have hFc := pg_free hD hS hA
      have hF_43 := hO.sha hL_h0 hT_h0
      refine va_callv (va_runV (As := [.int (nI k2)]) (rest := []) ⟨hx, hb, hml, hown, hts⟩ (s_X8_step_e l dC dI cs ty L H.size F_21 h0 ρ wa sa ta k2 (sch fw 48) fs (rnd shF (sch fw 48) (va_cpy fs f_13 (0 : Int32).toNatClampNeg (0 : Int32).toNatClampNeg (8 : Int32).toNatClampNeg) k2) hW hL_h0 hT_h0 (by omega) hw2 hw3 hw4) ⟨callB_of 1 hts (gi kt_249) rfl rfl rfl (hts _ kt_250) (hts _ kt_251) (by decide +kernel) ⟨Nat.le_of_ble_eq_true rfl, Nat.le_of_ble_eq_true rfl⟩, (hts _ kt_252), (hts _ kt_253)⟩ ⟨fun a U g mk q => ⟨q.1, PTE.calling q.2⟩, pg_recv hK hP hL_h0 hF_43 (q := (RX8, TX8, 3)) rfl, fun U hU hWm => ⟨rfl, PTE.mk hU hWm hP hK hD hE hO hG (fun x hx => absurd hx List.not_mem_nil) hS hFc⟩⟩ rfl rfl hl.1 rfl (lv_room (Nat.le_of_ble_eq_true rfl)) dX8_mix_141 ⟨by show _ + 0 ≤ 0; omega, by show _ + 0 ≤ 0; omega⟩) hS (fun q _ h => hFc q h) hFc (fun u t H1 locs ht hvm hw hB hz1 hk1 hS => ?_)
      obtain ⟨F_45, hB1, hq_46, hq_47, hq_48⟩ := hB
      obtain ⟨hP, hD, hO, hR⟩ := QT.back hB1 ht hFc hR (fun q h => by simp only [List.mem_cons, List.not_mem_nil, or_false] at h ⊢; omega)
      generalize H1 = H at hP hS ⊢
      refine lv_iinc (v := (nI (k2 + 1))) (lv' := [(1, .int (nI (k2 + 1))), (0, .ref h0)]) hx hb dX8_mix_144 hl (k := 0) rfl (nI_1 _) (by decide) rfl (fun ls hl => ?_)
      refine lv_goto (tgt := 133) hx hb dX8_mix_147 (by decide) ?_
      refine W.widen (k := 0) (n := 0) (by omega) (by omega) ?_
      exact ih_23 (k2 + 1) F_45 (⟨by omega, hq_46, hq_47, hq_48⟩) (by show 64 - (k2 + 1) < 64 - k2; omega) hO hR _ _ hP hD hS ls (lv_sub hl [0, 1] rfl)
  ·
    have hi_49 : i1 < 64 := ltN (N := 64) c_10
    refine lv_aload_n hx hb dX8_mix_9 rfl (lv_at hl 1 rfl) ?_
    have hF_50 := hO.sha hL_h0 hT_h0
    refine pg_get (ci := 8) (v := .ref wa) (C := RX8) (T := TX8) (N := 3) hx hb hts it_8 hown hK hP hL_h0 hF_50 rfl 0 (by decide) (hts _ kt_246) (fun _ h9 => h9) rfl dX8_mix_10 ?_
    refine lv_iload_n hx hb dX8_mix_13 rfl (lv_at hl 0 rfl) ?_
    refine lv_bipush (v := 15) hx hb dX8_mix_14 (by decide) ?_
    refine lv_isub hx hb dX8_mix_16 ?_
    refine lv_topi (fun x_51 ex_51 => ?_)
    obtain rfl : x_51 = (nI (i1 - 15)) := ex_51.trans (pk_sub (b := 15) (by omega))
    refine pg_iald hx hb hK hP hi_1 0 hv2 rfl (vp_in_nI (by omega) (by omega)) dX8_mix_17 ?_
    refine lv_topi (fun x_52 ex_52 => ?_)
    obtain rfl : x_52 = ((sch fw (i1 - 16)) (i1 - 15)) := ex_52.trans (congrArg (sch fw (i1 - 16)) (nI_clamp (by omega)))
    refine lv_istore_n (lv' := [(2, .int ((sch fw (i1 - 16)) (i1 - 15))), (1, .int (nI i1)), (0, .ref h0)]) hx hb dX8_mix_18 rfl hl (by decide) rfl (fun ls hl => ?_)
    refine lv_aload_n hx hb dX8_mix_19 rfl (lv_at hl 2 rfl) ?_
    refine pg_get (ci := 8) (v := .ref wa) (C := RX8) (T := TX8) (N := 3) hx hb hts it_8 hown hK hP hL_h0 hF_50 rfl 0 (by decide) (hts _ kt_246) (fun _ h9 => h9) rfl dX8_mix_20 ?_
    refine lv_iload_n hx hb dX8_mix_23 rfl (lv_at hl 1 rfl) ?_
    refine lv_iconst (v := 2) hx hb dX8_mix_24 (by decide) ?_
    refine lv_isub hx hb dX8_mix_25 ?_
    refine lv_topi (fun x_53 ex_53 => ?_)
    obtain rfl : x_53 = (nI (i1 - 2)) := ex_53.trans (pk_sub (b := 2) (by omega))
    refine pg_iald hx hb hK hP hi_1 0 hv2 rfl (vp_in_nI (by omega) (by omega)) dX8_mix_26 ?_
    refine lv_topi (fun x_54 ex_54 => ?_)
    obtain rfl : x_54 = ((sch fw (i1 - 16)) (i1 - 2)) := ex_54.trans (congrArg (sch fw (i1 - 16)) (nI_clamp (by omega)))
    refine lv_istore_n (lv' := [(3, .int ((sch fw (i1 - 16)) (i1 - 2))), (2, .int ((sch fw (i1 - 16)) (i1 - 15))), (1, .int (nI i1)), (0, .ref h0)]) hx hb dX8_mix_27 rfl hl (by decide) rfl (fun ls hl => ?_)
    refine lv_iload_n hx hb dX8_mix_28 rfl (lv_at hl 1 rfl) ?_
    refine lv_bipush (v := 7) hx hb dX8_mix_29 (by decide) ?_
    refine lv_iushr hx hb dX8_mix_31 rfl ?_
    refine lv_topi (fun x_56 ex_56 => ?_)
    obtain rfl : x_56 = (ush ((sch fw (i1 - 16)) (i1 - 15)) 7) := ex_56.trans (rfl)
    refine lv_iload_n hx hb dX8_mix_32 rfl (lv_at hl 1 rfl) ?_
    refine lv_bipush (v := 25) hx hb dX8_mix_33 (by decide) ?_
    refine lv_ishl hx hb dX8_mix_35 ?_
    refine lv_topi (fun x_57 ex_57 => ?_)
    obtain rfl : x_57 = (shl ((sch fw (i1 - 16)) (i1 - 15)) 25) := ex_57.trans (rfl)
    refine lv_ior hx hb dX8_mix_36 ?_
    refine lv_topi (fun x_58 ex_58 => ?_)
    obtain rfl : x_58 = ((ush ((sch fw (i1 - 16)) (i1 - 15)) 7) ||| (shl ((sch fw (i1 - 16)) (i1 - 15)) 25)) := ex_58.trans (rfl)
    refine lv_iload_n hx hb dX8_mix_37 rfl (lv_at hl 1 rfl) ?_
    refine lv_bipush (v := 18) hx hb dX8_mix_38 (by decide) ?_
    refine lv_iushr hx hb dX8_mix_40 rfl ?_
    refine lv_topi (fun x_60 ex_60 => ?_)
    obtain rfl : x_60 = (ush ((sch fw (i1 - 16)) (i1 - 15)) 18) := ex_60.trans (rfl)
    refine lv_iload_n hx hb dX8_mix_41 rfl (lv_at hl 1 rfl) ?_
    refine lv_bipush (v := 14) hx hb dX8_mix_42 (by decide) ?_
    refine lv_ishl hx hb dX8_mix_44 ?_
    refine lv_topi (fun x_61 ex_61 => ?_)
    obtain rfl : x_61 = (shl ((sch fw (i1 - 16)) (i1 - 15)) 14) := ex_61.trans (rfl)
    refine lv_ior hx hb dX8_mix_45 ?_
    refine lv_topi (fun x_62 ex_62 => ?_)
    obtain rfl : x_62 = ((ush ((sch fw (i1 - 16)) (i1 - 15)) 18) ||| (shl ((sch fw (i1 - 16)) (i1 - 15)) 14)) := ex_62.trans (rfl)
    refine lv_ixor hx hb dX8_mix_46 ?_
    refine lv_topi (fun x_63 ex_63 => ?_)
    obtain rfl : x_63 = (((ush ((sch fw (i1 - 16)) (i1 - 15)) 7) ||| (shl ((sch fw (i1 - 16)) (i1 - 15)) 25)) ^^^ ((ush ((sch fw (i1 - 16)) (i1 - 15)) 18) ||| (shl ((sch fw (i1 - 16)) (i1 - 15)) 14))) := ex_63.trans (rfl)
    refine lv_iload_n hx hb dX8_mix_47 rfl (lv_at hl 1 rfl) ?_
    refine lv_iconst (v := 3) hx hb dX8_mix_48 (by decide) ?_
    refine lv_iushr hx hb dX8_mix_49 rfl ?_
    refine lv_topi (fun x_65 ex_65 => ?_)
    obtain rfl : x_65 = (ush ((sch fw (i1 - 16)) (i1 - 15)) 3) := ex_65.trans (rfl)
    refine lv_ixor hx hb dX8_mix_50 ?_
    refine lv_topi (fun x_66 ex_66 => ?_)
    obtain rfl : x_66 = (wlo (sch fw (i1 - 16) (i1 - 15))) := ex_66.trans (rfl)
    refine lv_istore (lv' := [(4, .int (wlo (sch fw (i1 - 16) (i1 - 15)))), (3, .int ((sch fw (i1 - 16)) (i1 - 2))), (2, .int ((sch fw (i1 - 16)) (i1 - 15))), (1, .int (nI i1)), (0, .ref h0)]) hx hb dX8_mix_51 hl (by decide) rfl (fun ls hl => ?_)
    refine lv_iload_n hx hb dX8_mix_53 rfl (lv_at hl 1 rfl) ?_
    refine lv_bipush (v := 17) hx hb dX8_mix_54 (by decide) ?_
    refine lv_iushr hx hb dX8_mix_56 rfl ?_
    refine lv_topi (fun x_68 ex_68 => ?_)
    obtain rfl : x_68 = (ush ((sch fw (i1 - 16)) (i1 - 2)) 17) := ex_68.trans (rfl)
    refine lv_iload_n hx hb dX8_mix_57 rfl (lv_at hl 1 rfl) ?_
    refine lv_bipush (v := 15) hx hb dX8_mix_58 (by decide) ?_
    refine lv_ishl hx hb dX8_mix_60 ?_
    refine lv_topi (fun x_69 ex_69 => ?_)
    obtain rfl : x_69 = (shl ((sch fw (i1 - 16)) (i1 - 2)) 15) := ex_69.trans (rfl)
    refine lv_ior hx hb dX8_mix_61 ?_
    refine lv_topi (fun x_70 ex_70 => ?_)
    obtain rfl : x_70 = ((ush ((sch fw (i1 - 16)) (i1 - 2)) 17) ||| (shl ((sch fw (i1 - 16)) (i1 - 2)) 15)) := ex_70.trans (rfl)
    refine lv_iload_n hx hb dX8_mix_62 rfl (lv_at hl 1 rfl) ?_
    refine lv_bipush (v := 19) hx hb dX8_mix_63 (by decide) ?_
    refine lv_iushr hx hb dX8_mix_65 rfl ?_
    refine lv_topi (fun x_72 ex_72 => ?_)
    obtain rfl : x_72 = (ush ((sch fw (i1 - 16)) (i1 - 2)) 19) := ex_72.trans (rfl)
    refine lv_iload_n hx hb dX8_mix_66 rfl (lv_at hl 1 rfl) ?_
    refine lv_bipush (v := 13) hx hb dX8_mix_67 (by decide) ?_
    refine lv_ishl hx hb dX8_mix_69 ?_
    refine lv_topi (fun x_73 ex_73 => ?_)
    obtain rfl : x_73 = (shl ((sch fw (i1 - 16)) (i1 - 2)) 13) := ex_73.trans (rfl)
    refine lv_ior hx hb dX8_mix_70 ?_
    refine lv_topi (fun x_74 ex_74 => ?_)
    obtain rfl : x_74 = ((ush ((sch fw (i1 - 16)) (i1 - 2)) 19) ||| (shl ((sch fw (i1 - 16)) (i1 - 2)) 13)) := ex_74.trans (rfl)
    refine lv_ixor hx hb dX8_mix_71 ?_
    refine lv_topi (fun x_75 ex_75 => ?_)
    obtain rfl : x_75 = (((ush ((sch fw (i1 - 16)) (i1 - 2)) 17) ||| (shl ((sch fw (i1 - 16)) (i1 - 2)) 15)) ^^^ ((ush ((sch fw (i1 - 16)) (i1 - 2)) 19) ||| (shl ((sch fw (i1 - 16)) (i1 - 2)) 13))) := ex_75.trans (rfl)
    refine lv_iload_n hx hb dX8_mix_72 rfl (lv_at hl 1 rfl) ?_
    refine lv_bipush (v := 10) hx hb dX8_mix_73 (by decide) ?_
    refine lv_iushr hx hb dX8_mix_75 rfl ?_
    refine lv_topi (fun x_77 ex_77 => ?_)
    obtain rfl : x_77 = (ush ((sch fw (i1 - 16)) (i1 - 2)) 10) := ex_77.trans (rfl)
    refine lv_ixor hx hb dX8_mix_76 ?_
    refine lv_topi (fun x_78 ex_78 => ?_)
    obtain rfl : x_78 = (whi (sch fw (i1 - 16) (i1 - 2))) := ex_78.trans (rfl)
    refine lv_istore (lv' := [(5, .int (whi (sch fw (i1 - 16) (i1 - 2)))), (4, .int (wlo (sch fw (i1 - 16) (i1 - 15)))), (3, .int ((sch fw (i1 - 16)) (i1 - 2))), (2, .int ((sch fw (i1 - 16)) (i1 - 15))), (1, .int (nI i1)), (0, .ref h0)]) hx hb dX8_mix_77 hl (by decide) rfl (fun ls hl => ?_)
    refine lv_aload_n hx hb dX8_mix_79 rfl (lv_at hl 5 rfl) ?_
    refine pg_get (ci := 8) (v := .ref wa) (C := RX8) (T := TX8) (N := 3) hx hb hts it_8 hown hK hP hL_h0 hF_50 rfl 0 (by decide) (hts _ kt_246) (fun _ h9 => h9) rfl dX8_mix_80 ?_
    refine lv_iload_n hx hb dX8_mix_83 rfl (lv_at hl 4 rfl) ?_
    refine lv_aload_n hx hb dX8_mix_84 rfl (lv_at hl 5 rfl) ?_
    refine pg_get (ci := 8) (v := .ref wa) (C := RX8) (T := TX8) (N := 3) hx hb hts it_8 hown hK hP hL_h0 hF_50 rfl 0 (by decide) (hts _ kt_246) (fun _ h9 => h9) rfl dX8_mix_85 ?_
    refine lv_iload_n hx hb dX8_mix_88 rfl (lv_at hl 4 rfl) ?_
    refine lv_bipush (v := 16) hx hb dX8_mix_89 (by decide) ?_
    refine lv_isub hx hb dX8_mix_91 ?_
    refine lv_topi (fun x_79 ex_79 => ?_)
    obtain rfl : x_79 = (nI (i1 - 16)) := ex_79.trans (pk_sub (b := 16) (by omega))
    refine pg_iald hx hb hK hP hi_1 0 hv2 rfl (vp_in_nI (by omega) (by omega)) dX8_mix_92 ?_
    refine lv_topi (fun x_80 ex_80 => ?_)
    obtain rfl : x_80 = ((sch fw (i1 - 16)) (i1 - 16)) := ex_80.trans (congrArg (sch fw (i1 - 16)) (nI_clamp (by omega)))
    refine lv_iload hx hb dX8_mix_93 (lv_at hl 1 rfl) ?_
    refine lv_iadd hx hb dX8_mix_95 ?_
    refine lv_topi (fun x_81 ex_81 => ?_)
    obtain rfl : x_81 = (((sch fw (i1 - 16)) (i1 - 16)) + (wlo (sch fw (i1 - 16) (i1 - 15)))) := ex_81.trans (rfl)
    refine lv_aload_n hx hb dX8_mix_96 rfl (lv_at hl 5 rfl) ?_
    refine pg_get (ci := 8) (v := .ref wa) (C := RX8) (T := TX8) (N := 3) hx hb hts it_8 hown hK hP hL_h0 hF_50 rfl 0 (by decide) (hts _ kt_246) (fun _ h9 => h9) rfl dX8_mix_97 ?_
    refine lv_iload_n hx hb dX8_mix_100 rfl (lv_at hl 4 rfl) ?_
    refine lv_bipush (v := 7) hx hb dX8_mix_101 (by decide) ?_
    refine lv_isub hx hb dX8_mix_103 ?_
    refine lv_topi (fun x_82 ex_82 => ?_)
    obtain rfl : x_82 = (nI (i1 - 7)) := ex_82.trans (pk_sub (b := 7) (by omega))
    refine pg_iald hx hb hK hP hi_1 0 hv2 rfl (vp_in_nI (by omega) (by omega)) dX8_mix_104 ?_
    refine lv_topi (fun x_83 ex_83 => ?_)
    obtain rfl : x_83 = ((sch fw (i1 - 16)) (i1 - 7)) := ex_83.trans (congrArg (sch fw (i1 - 16)) (nI_clamp (by omega)))
    refine lv_iadd hx hb dX8_mix_105 ?_
    refine lv_topi (fun x_84 ex_84 => ?_)
    obtain rfl : x_84 = ((((sch fw (i1 - 16)) (i1 - 16)) + (wlo (sch fw (i1 - 16) (i1 - 15)))) + ((sch fw (i1 - 16)) (i1 - 7))) := ex_84.trans (rfl)
    refine lv_iload hx hb dX8_mix_106 (lv_at hl 0 rfl) ?_
    refine lv_iadd hx hb dX8_mix_108 ?_
    refine lv_topi (fun x_85 ex_85 => ?_)
    obtain rfl : x_85 = (((((sch fw (i1 - 16)) (i1 - 16)) + (wlo (sch fw (i1 - 16) (i1 - 15)))) + ((sch fw (i1 - 16)) (i1 - 7))) + (whi (sch fw (i1 - 16) (i1 - 2)))) := ex_85.trans (rfl)
    refine pg_iast hx hb hK hP hD hS hi_1 0 hv2 rfl (vp_in_nI (by omega) (by omega)) dX8_mix_109 (fun H locs hP hD hS => ?_)
    obtain ⟨F_86, he_87, hP, hD, hO, hR⟩ : ∃ G, G = va_up F_7 wa (.inl (cs 16, 64, .inl (upd (sch fw (i1 - 16)) ((nI i1)).toNatClampNeg ((((((sch fw (i1 - 16)) (i1 - 16)) + (wlo (sch fw (i1 - 16) (i1 - 15)))) + ((sch fw (i1 - 16)) (i1 - 7))) + (whi (sch fw (i1 - 16) (i1 - 2)))))))) ∧ va_P (dC, dI) vwCl (va_pl L G) H ∧ va_D A (va_pl L G) ∧ OK cs ty L G ∧ FR ty [ρ] F G := ⟨_, rfl, hP, hD, hO.up (sh.ints ht_4 ⟨_, rfl⟩), hR.up ht_4 (by simp)⟩
    have hF_88 : F_86 wa = .inl (cs 16, 64, .inl (upd (sch fw (i1 - 16)) ((nI i1)).toNatClampNeg ((((((sch fw (i1 - 16)) (i1 - 16)) + (wlo (sch fw (i1 - 16) (i1 - 15)))) + ((sch fw (i1 - 16)) (i1 - 7))) + (whi (sch fw (i1 - 16) (i1 - 2))))))) := by rw [he_87]; exact up_self
    have hF_89 : F_86 sa = .inl (cs 16, 8, .inl fs) := by rw [he_87, up_ne (ne_tyn ht_5 ht_4 (by simp))]; exact hv3
    have hF_90 : F_86 h0 = .inr (8, [.ref wa, .ref sa, .ref ta]) := by rw [he_87, up_ne (ne_ty hT_h0 ht_4 (by simp))]; exact hF_50
    have hF_91 : F_86 wa = .inl (cs 16, 64, .inl (upd (sch fw (i1 - 16)) i1 (((((sch fw (i1 - 16)) (i1 - 16)) + (wlo (sch fw (i1 - 16) (i1 - 15)))) + ((sch fw (i1 - 16)) (i1 - 7))) + (whi (sch fw (i1 - 16) (i1 - 2)))))) := by have h9 := hF_88; rwa [nI_clamp (by omega)] at h9
    refine lv_iinc (v := (nI (i1 + 1))) (lv' := [(1, .int (nI (i1 + 1))), (5, .int (whi (sch fw (i1 - 16) (i1 - 2)))), (4, .int (wlo (sch fw (i1 - 16) (i1 - 15)))), (3, .int ((sch fw (i1 - 16)) (i1 - 2))), (2, .int ((sch fw (i1 - 16)) (i1 - 15))), (0, .ref h0)]) hx hb dX8_mix_110 hl (k := 4) rfl (nI_1 _) (by decide) rfl (fun ls hl => ?_)
    refine lv_goto (tgt := 3) hx hb dX8_mix_113 (by decide) ?_
    refine W.widen (k := 0) (n := 0) (by omega) (by omega) ?_
    exact ih_9 (i1 + 1) F_86 (⟨by omega, by omega, by rw [← sch_s hv0]; exact hF_91, hF_89⟩) (by show 64 - (i1 + 1) < 64 - i1; omega) hO hR _ _ hP hD hS ls (lv_sub hl [0, 5] rfl)
theorem wdk_s {b : Nat → Int32} {s9 i : Nat} {wv x0 : Int32} (h : wv = wdk b s9 (i - s9)) (h2 : x0 = b i) (hs : s9 ≤ i) : shl wv 8 ||| x0 = wdk b s9 (i + 1 - s9) := by
  rw [show i + 1 - s9 = (i - s9) + 1 by omega, h, h2]
  show _ = shl (wdk b s9 (i - s9)) 8 ||| b (s9 + (i - s9))
  rw [show s9 + (i - s9) = i by omega]
theorem byt_lt {f : Nat → Int32} {n i : Nat} (h : i < n) : f i &&& 255 = byt f n i := (if_pos h).symm
theorem byt_eq {f : Nat → Int32} {n i : Nat} (h : i = n) : (128 : Int32) = byt f n i := by
  unfold byt
  rw [if_neg (by omega), if_pos h]
theorem byt_gt {f : Nat → Int32} {n i : Nat} (h : n ≤ i) (h2 : i ≠ n) : (0 : Int32) = byt f n i := by
  unfold byt
  rw [if_neg (by omega), if_neg h2]
theorem wr_in {f fw : Nat → Int32} {z b i1 : Nat} (h : ∀ i, i < i1 → fw i = wdk (byt f z) (b * 64 + i * 4) 4) : ∀ i, i < i1 + 1 → upd fw i1 (wdk (byt f z) (b * 64 + i1 * 4) 4) i = wdk (byt f z) (b * 64 + i * 4) 4 := by
  intro i hi
  by_cases c : i = i1
  · rw [c, upd_at]
  · rw [upd_no c]
    exact h i (by omega)
theorem wr_n {f fw : Nat → Int32} {z b : Nat} (h : ∀ i, i < 16 → fw i = wdk (byt f z) (b * 64 + i * 4) 4) (hb : b + 1 ≠ (z + 72) / 64) : ∀ i, i < 16 → fw i = wrb f z b i := by
  intro i hi
  unfold wrb
  rw [if_neg (fun q => hb q.1)]
  exact h i hi
theorem wr_y {f fw : Nat → Int32} {z b : Nat} (h : ∀ i, i < 16 → fw i = wdk (byt f z) (b * 64 + i * 4) 4) (hb : b + 1 = (z + 72) / 64) : ∀ i, i < 16 → upd fw 15 (nI (z * 8)) i = wrb f z b i := by
  intro i hi
  unfold wrb
  by_cases c : i = 15
  · rw [c, upd_at, if_pos ⟨hb, rfl⟩]
  · rw [upd_no c, if_neg (fun q => c q.2)]
    exact h i hi
theorem st_up {f fw f9 g9 : Nat → Int32} {z b : Nat} (h : ∀ i, i < 16 → fw i = wrb f z b i) (h2 : ∀ j, j < 8 → f9 j = stt f z b j) (h3 : ∀ j, j < 8 → g9 j = mxs fw f9 j) : ∀ j, j < 8 → g9 j = stt f z (b + 1) j := by
  intro j hj
  rw [h3 j hj, mxs_cg h h2 j hj]
  rfl
theorem st_0 {f g9 : Nat → Int32} {z : Nat} : ∀ j, j < 8 → va_cpy shB g9 (0 : Int32).toNatClampNeg (0 : Int32).toNatClampNeg (8 : Int32).toNatClampNeg j = stt f z 0 j := cpy8
theorem dg_up {fo S : Nat → Int32} {k : Nat} {x9 : Int32} (h : ∀ j, j < 4 * k → fo j = dgb S j) (hx : x9 = S k) : ∀ j, j < 4 * (k + 1) → up4 fo (4 * k) (ocT x9 24) (ocT x9 16) (ocT x9 8) (ocT x9 0) j = dgb S j := by
  intro j hj
  subst hx
  rcases Nat.lt_or_ge j (4 * k) with q | q
  · rw [← h j q]
    unfold up4
    rw [upd_no (by omega), upd_no (by omega), upd_no (by omega), upd_no (by omega)]
  · have e9 : j = 4 * k ∨ j = 4 * k + 1 ∨ j = 4 * k + 2 ∨ j = 4 * k + 3 := by omega
    rcases e9 with e9 | e9 | e9 | e9
    · subst e9
      unfold up4 dgb
      rw [upd_no (by omega), upd_no (by omega), upd_no (by omega), upd_at, show 4 * k / 4 = k by omega, show 24 - 8 * (4 * k % 4) = 24 by omega]
      rfl
    · subst e9
      unfold up4 dgb
      rw [upd_no (by omega), upd_no (by omega), upd_at, show (4 * k + 1) / 4 = k by omega, show 24 - 8 * ((4 * k + 1) % 4) = 16 by omega]
      rfl
    · subst e9
      unfold up4 dgb
      rw [upd_no (by omega), upd_at, show (4 * k + 2) / 4 = k by omega, show 24 - 8 * ((4 * k + 2) % 4) = 8 by omega]
      rfl
    · subst e9
      unfold up4 dgb
      rw [upd_at, show (4 * k + 3) / 4 = k by omega, show 24 - 8 * ((4 * k + 3) % 4) = 0 by omega]
      rfl
set_option maxHeartbeats 4000000 in
set_option maxRecDepth 100000 in
theorem s_X8_wordAt_e (l : Launch) (dC : Nat → ClassId) (dI : Nat → Nat → Nat) (cs : Nat → ClassId) (ty : TyM) (L : List Nat) (sz : Nat) (F : Nat → va_E) (g1 : Nat) (σ : Nat) (r1 : Nat) (n1 : Nat) (z : Nat) (n : Nat) (s9 : Nat) (f : Nat → Int32) (hW : WT ty L) (hL_g1 : g1 ∈ L) (hT_g1 : ty g1 = (0, σ, [r1, n1])) (hFg : F g1 = .inr (0, [.ref r1, .int (nI z), .int 0])) (hFr : F r1 = .inl (cs 16, n1, .inl f)) (hzn : z ≤ n1) (hn9 : n1 ≤ 10000) (hnz : n ≤ z) (hs9 : s9 ≤ 20000) : Met l yX8_wordAt (.code yX8_wordAt cX8_wordAt 6 (some .int) :: tb) ({ frames := 1, cells := 0, slots := 0, locals := 21 }) (va_Pc [.ref g1, .int (nI n), .int (nI s9)] (PT (dC, dI) cs ty L F sz)) (va_Qi (fun (r : Int32) (_ : Unit) => r = wdk (byt f n) s9 4) (fun _ T9 => ∃ F2 : Nat → va_E, QT (dC, dI) cs ty L [] F F2 (va_A (va_pl L F) sz) T9) (va_A (va_pl L F) sz)) 0 0 (va_A (va_pl L F) sz) := by
  refine Met.ofW (cc := cX8_wordAt) (maxL := 6) (ret := (some .int)) (by decide) rfl ?_
  intro p e s m args below meth c s₁ B hml hv
  obtain ⟨rfl, hsz, hP, hK, hD0, hE, hO⟩ := hv
  have hx := B.exec
  have hb := B.bytes
  have hr := B.returns
  have hts : ∀ w ∈ tb, w.before _ s = true := fun w h => atoms_spec (ws := .code yX8_wordAt cX8_wordAt 6 (some .int) :: tb) B.pre w (List.mem_cons_of_mem _ h)
  have hown : s.vm.findClass RX8 = some m.cls := findClass_of_methodNamed B.named
  have hlocks := B.notSynchronized
  subst hsz
  have hD := hD0.self (sz := s.heap.size)
  generalize hAe : va_A (va_pl L F) s.heap.size = A at hD ⊢
  have hA : ∀ q : Nat, s.heap.size ≤ q → A q := fun q h => by rw [← hAe]; exact Or.inr h
  have hS : va_S A s.heap s.heap [] := va_S.rf
  have hR : FR ty [] F F := FR.refl
  have hl := lv_entry ([.ref g1, .int (nI n), .int (nI s9)]) (n := 6) (Nat.le_of_ble_eq_true rfl)
  rw [lg_entry_eq]
  generalize (lg_sl ([.ref g1, .int (nI n), .int (nI s9)]) ++ List.replicate (6 - (lg_sl ([.ref g1, .int (nI n), .int (nI s9)])).length) Slot.unset).toArray = ls at hl ⊢
  have hl : lv_has ls 6 [(0, .ref g1), (1, .int (nI n)), (2, .int (nI s9))] := hl
  obtain ⟨hi_1, ht_2, hq_3⟩ := hW.bytes hL_g1 hT_g1
  refine lv_iconst (v := 0) hx hb dX8_wordAt_0 (by decide) ?_
  refine lv_istore_n (lv' := [(3, .int 0), (0, .ref g1), (1, .int (nI n)), (2, .int (nI s9))]) hx hb dX8_wordAt_1 rfl hl (by decide) rfl (fun ls hl => ?_)
  refine lv_iload_n hx hb dX8_wordAt_2 rfl (lv_at hl 3 rfl) ?_
  refine lv_istore (lv' := [(4, .int (nI s9)), (3, .int 0), (0, .ref g1), (1, .int (nI n)), (2, .int (nI s9))]) hx hb dX8_wordAt_3 hl (by decide) rfl (fun ls hl => ?_)
  refine W.widen (k := 0) (n := 0) (by omega) (by omega) ?_
  refine pl_loop (σ := Nat × Int32) A (dC, dI) cs ty L [] F 5 6 (fun (i, wv) => [(4, .int (nI i)), (3, .int wv), (0, .ref g1), (1, .int (nI n)), (2, .int (nI s9))]) (fun (i, wv) => []) (fun (i, wv) _ => s9 ≤ i ∧ i ≤ s9 + 4 ∧ wv = wdk (byt f n) s9 (i - s9)) (fun (i, wv) => s9 + 4 - i) ?_ (s9, 0) F (⟨by omega, by omega, by rw [Nat.sub_self]; rfl⟩) hO hR _ _ hP hD hS ls (lv_sub hl [0, 1, 2, 3, 4] rfl)
  rintro ⟨i, wv⟩ F_4 hv_5 hO hR ih_6 H locs hP hD hS ls hl
  have hl : lv_has ls 6 [(4, .int (nI i)), (3, .int wv), (0, .ref g1), (1, .int (nI n)), (2, .int (nI s9))] := hl
  have hv_5 : s9 ≤ i ∧ i ≤ s9 + 4 ∧ wv = wdk (byt f n) s9 (i - s9) := hv_5
  refine W.eq (g2 := F0 m 5 ls []) rfl ?_
  obtain rfl : F = F_4 := (funext (fun a => hR a List.not_mem_nil)).symm
  obtain ⟨hv1, hv2, hv3⟩ := id hv_5
  refine lv_iload hx hb dX8_wordAt_5 (lv_at hl 0 rfl) ?_
  refine lv_iload_n hx hb dX8_wordAt_7 rfl (lv_at hl 4 rfl) ?_
  refine lv_iconst (v := 4) hx hb dX8_wordAt_8 (by decide) ?_
  refine lv_iadd hx hb dX8_wordAt_9 ?_
  refine lv_topi (fun x_7 ex_7 => ?_)
  obtain rfl : x_7 = (nI (s9 + 4)) := ex_7.trans (nI_add s9 4)
  refine lv_icmp_ge (tgt := 61) hx hb dX8_wordAt_10 (by decide) (fun c_8 => ?_) (fun c_8 => ?_)
  ·
    have hi_9 : (s9 + 4) ≤ i := leN (N := (s9 + 4)) c_8
    have hi4 : s9 + 4 ≤ i := (nI_leI (by omega) (by omega)).mp c_8
    refine lv_iload_n hx hb dX8_wordAt_61 rfl (lv_at hl 1 rfl) ?_
    refine W.widen (k := 0) (n := 0) (by omega) (by omega) ?_
    exact W.iret (v := wv) hx hb hr (fun t ht hWm => ⟨⟨wv, (), rfl, (by rw [hv3, show i - s9 = 4 by omega]), ⟨F, QT.mk ht hP hD hO hR⟩⟩, hS.F ht⟩) hS.2.2 dX8_wordAt_62
  ·
    have hi_10 : i < (s9 + 4) := ltN (N := (s9 + 4)) c_8
    have hi4 : i < s9 + 4 := Nat.not_le.mp (fun q => c_8 ((nI_leI (by omega) (by omega)).mpr q))
    refine W.widen (k := 0) (n := 0) (by omega) (by omega) ?_
    refine pl_cut (σ := Int32) A (dC, dI) cs ty L [] F 45 6 (fun x0 => [(4, .int (nI i)), (3, .int wv), (0, .ref g1), (1, .int (nI n)), (2, .int (nI s9))]) (fun x0 => [.int x0]) (fun x0 _ => x0 = byt f n i) ?_ (fun jn_11 => ?_)
    ·
      rintro x0 F_12 hv_13 hO hR H locs hP hD hS ls hl
      have hl : lv_has ls 6 [(4, .int (nI i)), (3, .int wv), (0, .ref g1), (1, .int (nI n)), (2, .int (nI s9))] := hl
      have hv_13 : x0 = byt f n i := hv_13
      refine W.eq (g2 := F0 m 45 ls [.int x0]) rfl ?_
      obtain rfl : F = F_12 := (funext (fun a => hR a List.not_mem_nil)).symm
      have hs0 : x0 = byt f n i := hv_13
      refine lv_istore (lv' := [(5, .int x0), (4, .int (nI i)), (3, .int wv), (0, .ref g1), (1, .int (nI n)), (2, .int (nI s9))]) hx hb dX8_wordAt_45 hl (by decide) rfl (fun ls hl => ?_)
      refine lv_iload_n hx hb dX8_wordAt_47 rfl (lv_at hl 2 rfl) ?_
      refine lv_bipush (v := 8) hx hb dX8_wordAt_48 (by decide) ?_
      refine lv_ishl hx hb dX8_wordAt_50 ?_
      refine lv_topi (fun x_14 ex_14 => ?_)
      obtain rfl : x_14 = (shl wv 8) := ex_14.trans (rfl)
      refine lv_iload hx hb dX8_wordAt_51 (lv_at hl 0 rfl) ?_
      refine lv_ior hx hb dX8_wordAt_53 ?_
      refine lv_topi (fun x_15 ex_15 => ?_)
      obtain rfl : x_15 = ((shl wv 8) ||| x0) := ex_15.trans (rfl)
      refine lv_istore_n (lv' := [(3, .int ((shl wv 8) ||| x0)), (5, .int x0), (4, .int (nI i)), (0, .ref g1), (1, .int (nI n)), (2, .int (nI s9))]) hx hb dX8_wordAt_54 rfl hl (by decide) rfl (fun ls hl => ?_)
      refine lv_iinc (v := (nI (i + 1))) (lv' := [(4, .int (nI (i + 1))), (3, .int ((shl wv 8) ||| x0)), (5, .int x0), (0, .ref g1), (1, .int (nI n)), (2, .int (nI s9))]) hx hb dX8_wordAt_55 hl (k := 2) rfl (nI_1 _) (by decide) rfl (fun ls hl => ?_)
      refine lv_goto (tgt := 5) hx hb dX8_wordAt_58 (by decide) ?_
      refine W.widen (k := 0) (n := 0) (by omega) (by omega) ?_
      exact ih_6 ((i + 1), ((shl wv 8) ||| x0)) F (⟨by omega, by omega, wdk_s hv3 hs0 hv1⟩) (by show s9 + 4 - (i + 1) < s9 + 4 - i; omega) hO hR _ _ hP hD hS ls (lv_sub hl [0, 1, 3, 4, 5] rfl)
    ·
      refine lv_iload hx hb dX8_wordAt_13 (lv_at hl 0 rfl) ?_
      refine lv_iload_n hx hb dX8_wordAt_15 rfl (lv_at hl 3 rfl) ?_
      refine lv_icmp_ge (tgt := 32) hx hb dX8_wordAt_16 (by decide) (fun c_16 => ?_) (fun c_16 => ?_)
      ·
        have hi_17 : n ≤ i := leN (N := n) c_16
        have hin : n ≤ i := (nI_leI (by omega) (by omega)).mp c_16
        refine lv_iload hx hb dX8_wordAt_32 (lv_at hl 0 rfl) ?_
        refine lv_iload_n hx hb dX8_wordAt_34 rfl (lv_at hl 3 rfl) ?_
        refine lv_icmp_ne (tgt := 44) hx hb dX8_wordAt_35 (by decide) (fun c_18 => ?_) (fun c_18 => ?_)
        ·
          have hne : i ≠ n := fun q => c_18 (by rw [q])
          refine lv_iconst (v := 0) hx hb dX8_wordAt_44 (by decide) ?_
          refine W.widen (k := 0) (n := 0) (by omega) (by omega) ?_
          exact jn_11 0 F (byt_gt hin hne) hO hR _ _ hP hD hS ls (lv_sub hl [0, 1, 2, 3, 4] rfl)
        ·
          have heq : i = n := (nI_eq (by omega) (by omega)).mp c_18
          refine lv_sipush (v := 128) hx hb dX8_wordAt_38 (by decide) ?_
          refine lv_goto (tgt := 45) hx hb dX8_wordAt_41 (by decide) ?_
          refine W.widen (k := 0) (n := 0) (by omega) (by omega) ?_
          exact jn_11 128 F (byt_eq heq) hO hR _ _ hP hD hS ls (lv_sub hl [0, 1, 2, 3, 4] rfl)
      ·
        have hi_21 : i < n := ltN (N := n) c_16
        have hin : i < n := Nat.not_le.mp (fun q => c_16 ((nI_leI (by omega) (by omega)).mpr q))
        refine lv_aload_n hx hb dX8_wordAt_19 rfl (lv_at hl 2 rfl) ?_
        refine lv_iload hx hb dX8_wordAt_20 (lv_at hl 0 rfl) ?_
        have hFc := pg_free hD hS hA
        refine va_calli (va_runV (As := [.int (nI i)]) (rest := []) ⟨hx, hb, hml, hown, hts⟩ (s_X0_at_e l dC dI cs ty L H.size F g1 σ r1 n1 z i f hW hL_g1 hT_g1 hFg hFr (by omega) (by omega) (by omega)) ⟨callB_of 1 hts (gi kt_21) rfl rfl rfl (hts _ kt_1) (hts _ kt_254) (by decide +kernel) ⟨Nat.le_of_ble_eq_true rfl, Nat.le_of_ble_eq_true rfl⟩, (hts _ kt_23), (hts _ kt_24)⟩ ⟨fun a U g mk q => ⟨q.1, PT.calling q.2⟩, pg_recv hK hP hL_g1 hFg (q := (RX0, TX0, 3)) rfl, fun U hU hWm => ⟨rfl, PT.mk hU hWm hP hK hD hE hO⟩⟩ rfl rfl hl.1 rfl (lv_room (Nat.le_of_ble_eq_true rfl)) dX8_wordAt_22 ⟨by show _ + 0 ≤ 0; omega, by show _ + 0 ≤ 0; omega⟩) hS (fun q _ h => hFc q h) hFc (fun r_22 u t H1 locs ht hvm hw hB hz1 hk1 hS => ?_)
        obtain ⟨F_23, hB1⟩ := hB
        obtain rfl : F = F_23 := (funext (fun a => hB1.2.2.2 a List.not_mem_nil)).symm
        obtain ⟨hP, hD, hO, hR⟩ := QT.back hB1 ht hFc hR (fun q h => absurd h List.not_mem_nil)
        generalize H1 = H at hP hS ⊢
        have hw : r_22 = f i := hw
        have hw_24 := hw
        subst hw_24
        refine lv_sipush (v := 255) hx hb dX8_wordAt_25 (by decide) ?_
        refine lv_iand hx hb dX8_wordAt_28 ?_
        refine lv_topi (fun x_25 ex_25 => ?_)
        obtain rfl : x_25 = ((f i) &&& 255) := ex_25.trans (rfl)
        refine lv_goto (tgt := 45) hx hb dX8_wordAt_29 (by decide) ?_
        refine W.widen (k := 0) (n := 0) (by omega) (by omega) ?_
        exact jn_11 ((f i) &&& 255) F (byt_lt hin) hO hR _ _ hP hD hS ls (lv_sub hl [0, 1, 2, 3, 4] rfl)
set_option maxHeartbeats 4000000 in
set_option maxRecDepth 100000 in
theorem s_X8_sumOf_e (l : Launch) (dC : Nat → ClassId) (dI : Nat → Nat → Nat) (cs : Nat → ClassId) (ty : TyM) (L : List Nat) (sz : Nat) (F : Nat → va_E) (h0 : Nat) (ρ : Nat) (wa : Nat) (sa : Nat) (ta : Nat) (g1 : Nat) (σ : Nat) (r1 : Nat) (n1 : Nat) (g2 : Nat) (τ : Nat) (r2 : Nat) (n2 : Nat) (z : Nat) (f : Nat → Int32) (hW : WT ty L) (hL_h0 : h0 ∈ L) (hT_h0 : ty h0 = (8, ρ, [wa, sa, ta])) (hL_g1 : g1 ∈ L) (hT_g1 : ty g1 = (0, σ, [r1, n1])) (hL_g2 : g2 ∈ L) (hT_g2 : ty g2 = (0, τ, [r2, n2])) (hn2 : 32 ≤ n2) (hFg : F g1 = .inr (0, [.ref r1, .int (nI z), .int 0])) (hFr : F r1 = .inl (cs 16, n1, .inl f)) (hzn : z ≤ n1) (hn9 : n1 ≤ 10000) (hz3 : z ≤ 3000) (hm9 : n2 ≤ 10000) (hsr : σ < ρ) (hst : σ < τ) (htr : τ < ρ) : Met l yX8_sumOf (.code yX8_sumOf cX8_sumOf 7 none :: tb) ({ frames := 2, cells := 0, slots := 0, locals := 73 }) (va_Pc [.ref h0, .ref g1, .int (nI z), .ref g2] (PTE (dC, dI) cs ty L F sz [])) (va_Qv (fun _ : Unit => True) (fun _ T9 => ∃ F2 : Nat → va_E, ∃ f2 : Nat → Int32, QT (dC, dI) cs ty L [ρ, τ] F F2 (va_A (va_pl L F) sz) T9 ∧ F2 g2 = .inr (0, [.ref r2, .int (nI 32), .int 0]) ∧ F2 r2 = .inl (cs 16, n2, .inl f2) ∧ (∀ j, j < 32 → f2 j = dgb (stt f z ((z + 72) / 64)) j)) (va_A (va_pl L F) sz)) 0 0 (va_A (va_pl L F) sz) := by
  refine Met.ofW (cc := cX8_sumOf) (maxL := 7) (ret := none) (by decide) rfl ?_
  intro p e s m args below meth c s₁ B hml hv
  obtain ⟨rfl, ⟨hsz, hP, hK, hD0, hE, hO⟩, hG, hX⟩ := hv
  have hx := B.exec
  have hb := B.bytes
  have hr := B.returns
  have hts : ∀ w ∈ tb, w.before _ s = true := fun w h => atoms_spec (ws := .code yX8_sumOf cX8_sumOf 7 none :: tb) B.pre w (List.mem_cons_of_mem _ h)
  have hown : s.vm.findClass RX8 = some m.cls := findClass_of_methodNamed B.named
  have hlocks := B.notSynchronized
  subst hsz
  have hD := hD0.self (sz := s.heap.size)
  generalize hAe : va_A (va_pl L F) s.heap.size = A at hD hG hX ⊢
  have hA : ∀ q : Nat, s.heap.size ≤ q → A q := fun q h => by rw [← hAe]; exact Or.inr h
  have hS : va_S A s.heap s.heap [] := va_S.rf
  have hR : FR ty [ρ, τ] F F := FR.refl
  have hl := lv_entry ([.ref h0, .ref g1, .int (nI z), .ref g2]) (n := 7) (Nat.le_of_ble_eq_true rfl)
  rw [lg_entry_eq]
  generalize (lg_sl ([.ref h0, .ref g1, .int (nI z), .ref g2]) ++ List.replicate (7 - (lg_sl ([.ref h0, .ref g1, .int (nI z), .ref g2])).length) Slot.unset).toArray = ls at hl ⊢
  have hl : lv_has ls 7 [(0, .ref h0), (1, .ref g1), (2, .int (nI z)), (3, .ref g2)] := hl
  obtain ⟨hi_1, hi_2, hi_3, ht_4, ht_5, ht_6⟩ := hW.sha hL_h0 hT_h0
  obtain ⟨hi_7, ht_8, hq_9⟩ := hW.bytes hL_g1 hT_g1
  obtain ⟨hi_10, ht_11, hq_12⟩ := hW.bytes hL_g2 hT_g2
  obtain ⟨aB, aF, fB, fF, ⟨rfl, rfl⟩, zB, tB, zF, tF⟩ := id hG.2.2.1
  refine va_gets hx hb zB hS hown (hts _ kt_255) (fun _ h9 => h9) dX8_sumOf_0 ?_
  refine lv_iconst (v := 0) hx hb dX8_sumOf_3 (by decide) ?_
  refine lv_aload_n hx hb dX8_sumOf_4 rfl (lv_at hl 0 rfl) ?_
  have hF_13 := hO.sha hL_h0 hT_h0
  refine pg_get (ci := 8) (v := .ref sa) (C := RX8) (T := TX8) (N := 3) hx hb hts it_8 hown hK hP hL_h0 hF_13 rfl 1 (by decide) (hts _ kt_247) (fun _ h9 => h9) rfl dX8_sumOf_5 ?_
  refine lv_iconst (v := 0) hx hb dX8_sumOf_8 (by decide) ?_
  refine lv_bipush (v := 8) hx hb dX8_sumOf_9 (by decide) ?_
  obtain ⟨f_14, hF_15⟩ := hO.ints hi_2 ht_5
  refine pg_copyt hx hb (by rw [hml]; exact hl.1.symm) hown (hts _ kt_248) (hts _ kt_29) (hts _ kt_30) (hts _ kt_31) hK hP hD hS tB hi_2 0 hF_15 rfl (by decide) (by decide) (by decide) (by decide) (by decide) (Nat.le_of_ble_eq_true rfl) (by decide) dX8_sumOf_11 (fun H locs hP hD hS => ?_)
  obtain ⟨F_16, he_17, hP, hD, hO, hR⟩ : ∃ G, G = va_up F sa (.inl (cs 16, 8, .inl (va_cpy shB f_14 (0 : Int32).toNatClampNeg (0 : Int32).toNatClampNeg (8 : Int32).toNatClampNeg))) ∧ va_P (dC, dI) vwCl (va_pl L G) H ∧ va_D A (va_pl L G) ∧ OK cs ty L G ∧ FR ty [ρ, τ] F G := ⟨_, rfl, hP, hD, hO.up (sh.ints ht_5 ⟨_, rfl⟩), hR.up ht_5 (by simp)⟩
  have hF_18 : F_16 sa = .inl (cs 16, 8, .inl (va_cpy shB f_14 (0 : Int32).toNatClampNeg (0 : Int32).toNatClampNeg (8 : Int32).toNatClampNeg)) := by rw [he_17]; exact up_self
  have hF_19 : F_16 g1 = .inr (0, [.ref r1, .int (nI z), .int 0]) := by rw [he_17, up_ne (ne_ty hT_g1 ht_5 (by simp))]; exact hFg
  have hF_20 : F_16 r1 = .inl (cs 16, n1, .inl f) := by rw [he_17, up_ne (ne_ty3 ht_8 ht_5 (by show σ ≠ ρ; omega))]; exact hFr
  have hF_21 : F_16 h0 = .inr (8, [.ref wa, .ref sa, .ref ta]) := by rw [he_17, up_ne (ne_ty hT_h0 ht_5 (by simp))]; exact hF_13
  refine lv_iload_n hx hb dX8_sumOf_14 rfl (lv_at hl 2 rfl) ?_
  refine lv_bipush (v := 9) hx hb dX8_sumOf_15 (by decide) ?_
  refine lv_iadd hx hb dX8_sumOf_17 ?_
  refine lv_topi (fun x_22 ex_22 => ?_)
  obtain rfl : x_22 = (nI (z + 9)) := ex_22.trans (nI_add z 9)
  refine lv_bipush (v := 63) hx hb dX8_sumOf_18 (by decide) ?_
  refine lv_iadd hx hb dX8_sumOf_20 ?_
  refine lv_topi (fun x_23 ex_23 => ?_)
  obtain rfl : x_23 = (nI (z + 72)) := ex_23.trans ((nI_add (z + 9) 63).trans (by rw [show z + 9 + 63 = z + 72 by omega]))
  refine lv_bipush (v := 64) hx hb dX8_sumOf_21 (by decide) ?_
  refine lv_idiv hx hb dX8_sumOf_23 (by decide) ?_
  refine lv_topi (fun x_24 ex_24 => ?_)
  obtain rfl : x_24 = (nI ((z + 72) / 64)) := ex_24.trans (pk_div (d := 64) (by omega) (by omega) (by omega))
  refine lv_istore (lv' := [(4, .int (nI ((z + 72) / 64))), (0, .ref h0), (1, .ref g1), (2, .int (nI z)), (3, .ref g2)]) hx hb dX8_sumOf_24 hl (by decide) rfl (fun ls hl => ?_)
  refine lv_iconst (v := 0) hx hb dX8_sumOf_26 (by decide) ?_
  refine lv_istore (lv' := [(5, .int 0), (4, .int (nI ((z + 72) / 64))), (0, .ref h0), (1, .ref g1), (2, .int (nI z)), (3, .ref g2)]) hx hb dX8_sumOf_27 hl (by decide) rfl (fun ls hl => ?_)
  refine W.widen (k := 0) (n := 0) (by omega) (by omega) ?_
  have hF_26 : F g1 = .inr (0, [.ref r1, .int (nI z), .int 0]) := (hR g1 (by rw [hT_g1]; simp only [List.mem_cons, List.not_mem_nil, or_false]; omega)).symm.trans hF_19
  have hF_27 : F r1 = .inl (cs 16, n1, .inl f) := (hR r1 (by rw [ht_8]; simp only [List.mem_cons, List.not_mem_nil, or_false]; omega)).symm.trans hF_20
  refine pl_loop (σ := Nat) A (dC, dI) cs ty L [ρ, τ] F 29 7 (fun b => [(5, .int (nI b)), (4, .int (nI ((z + 72) / 64))), (0, .ref h0), (1, .ref g1), (2, .int (nI z)), (3, .ref g2)]) (fun b => []) (fun b FF => b ≤ ((z + 72) / 64) ∧ ∃ f9 : Nat → Int32, FF sa = .inl (cs 16, 8, .inl f9) ∧ ∀ j, j < 8 → f9 j = stt f z b j) (fun b => ((z + 72) / 64) - b) ?_ 0 F_16 (⟨by omega, _, hF_18, st_0⟩) hO hR _ _ hP hD hS ls (lv_sub hl [0, 1, 2, 3, 4, 5] rfl)
  rintro b F_25 hv_28 hO hR ih_29 H locs hP hD hS ls hl
  have hl : lv_has ls 7 [(5, .int (nI b)), (4, .int (nI ((z + 72) / 64))), (0, .ref h0), (1, .ref g1), (2, .int (nI z)), (3, .ref g2)] := hl
  have hv_28 : b ≤ ((z + 72) / 64) ∧ ∃ f9 : Nat → Int32, F_25 sa = .inl (cs 16, 8, .inl f9) ∧ ∀ j, j < 8 → f9 j = stt f z b j := hv_28
  refine W.eq (g2 := F0 m 29 ls []) rfl ?_
  have hF_30 : F_25 g1 = .inr (0, [.ref r1, .int (nI z), .int 0]) := (hR g1 (by rw [hT_g1]; simp only [List.mem_cons, List.not_mem_nil, or_false]; omega)).trans hF_26
  have hF_31 : F_25 r1 = .inl (cs 16, n1, .inl f) := (hR r1 (by rw [ht_8]; simp only [List.mem_cons, List.not_mem_nil, or_false]; omega)).trans hF_27
  obtain ⟨hv1, f9, hv2, hv3⟩ := id hv_28
  refine lv_iload hx hb dX8_sumOf_29 (lv_at hl 0 rfl) ?_
  refine lv_iload hx hb dX8_sumOf_31 (lv_at hl 1 rfl) ?_
  refine lv_icmp_ge (tgt := 104) hx hb dX8_sumOf_33 (by decide) (fun c_32 => ?_) (fun c_32 => ?_)
  ·
    have hi_33 : ((z + 72) / 64) ≤ b := leN (N := ((z + 72) / 64)) c_32
    have hbn : ((z + 72) / 64) ≤ b := (nI_leI (by omega) (by omega)).mp c_32
    have hbN : b = ((z + 72) / 64) := by omega
    rw [hbN] at hv3
    refine lv_aload_n hx hb dX8_sumOf_104 rfl (lv_at hl 5 rfl) ?_
    have hFc := pg_free hD hS hA
    obtain ⟨z_34, o_35, hF_36, hq_37, hq_38⟩ := hO.bytes hL_g2 hT_g2
    refine va_callv (va_runV (As := []) (rest := []) ⟨hx, hb, hml, hown, hts⟩ (s_X0_clear l dC dI cs ty L H.size F_25 g2 τ r2 n2 hW hL_g2 hT_g2) ⟨callB_of 0 hts (gi kt_32) rfl rfl rfl (hts _ kt_1) (hts _ kt_256) (by decide +kernel) ⟨Nat.le_of_ble_eq_true rfl, Nat.le_of_ble_eq_true rfl⟩, (hts _ kt_34), (hts _ kt_35)⟩ ⟨fun a U g mk q => ⟨q.1, PT.calling q.2⟩, pg_recv hK hP hL_g2 hF_36 (q := (RX0, TX0, 3)) rfl, fun U hU hWm => ⟨rfl, PT.mk hU hWm hP hK hD hE hO⟩⟩ rfl rfl hl.1 rfl (lv_room (Nat.le_of_ble_eq_true rfl)) dX8_sumOf_105 ⟨by show _ + 0 ≤ 0; omega, by show _ + 0 ≤ 0; omega⟩) hS (fun q _ h => hFc q h) hFc (fun u t H1 locs ht hvm hw hB hz1 hk1 hS => ?_)
    obtain ⟨F_40, hB1, hq_41⟩ := hB
    obtain ⟨hP, hD, hO, hR⟩ := QT.back hB1 ht hFc hR (fun q h => by simp only [List.mem_cons, List.not_mem_nil, or_false] at h ⊢; omega)
    have hF_42 : F_40 g1 = .inr (0, [.ref r1, .int (nI z), .int 0]) := (hB1.2.2.2 g1 (by rw [hT_g1]; simp only [List.mem_cons, List.not_mem_nil, or_false]; omega)).trans hF_30
    have hF_43 : F_40 r1 = .inl (cs 16, n1, .inl f) := (hB1.2.2.2 r1 (by rw [ht_8]; simp only [List.mem_cons, List.not_mem_nil, or_false]; omega)).trans hF_31
    have hF_44 : F_40 sa = .inl (cs 16, 8, .inl f9) := (hB1.2.2.2 sa (by rw [ht_5]; simp only [List.mem_cons, List.not_mem_nil, or_false]; omega)).trans hv2
    generalize H1 = H at hP hS ⊢
    refine lv_iconst (v := 0) hx hb dX8_sumOf_108 (by decide) ?_
    refine lv_istore (lv' := [(5, .int 0), (4, .int (nI ((z + 72) / 64))), (0, .ref h0), (1, .ref g1), (2, .int (nI z)), (3, .ref g2)]) hx hb dX8_sumOf_109 hl (by decide) rfl (fun ls hl => ?_)
    refine W.widen (k := 0) (n := 0) (by omega) (by omega) ?_
    have hF_46 : F g1 = .inr (0, [.ref r1, .int (nI z), .int 0]) := (hR g1 (by rw [hT_g1]; simp only [List.mem_cons, List.not_mem_nil, or_false]; omega)).symm.trans hF_42
    have hF_47 : F r1 = .inl (cs 16, n1, .inl f) := (hR r1 (by rw [ht_8]; simp only [List.mem_cons, List.not_mem_nil, or_false]; omega)).symm.trans hF_43
    obtain ⟨f_48, hF_49⟩ := hO.ints hi_10 ht_11
    refine pl_loop (σ := Nat) A (dC, dI) cs ty L [ρ, τ] F 111 7 (fun k => [(5, .int (nI k)), (4, .int (nI ((z + 72) / 64))), (0, .ref h0), (1, .ref g1), (2, .int (nI z)), (3, .ref g2)]) (fun k => []) (fun k FF => k ≤ 8 ∧ FF sa = .inl (cs 16, 8, .inl f9) ∧ FF g2 = .inr (0, [.ref r2, .int (nI (4 * k)), .int 0]) ∧ ∃ fo : Nat → Int32, FF r2 = .inl (cs 16, n2, .inl fo) ∧ ∀ j, j < 4 * k → fo j = dgb (stt f z ((z + 72) / 64)) j) (fun k => 8 - k) ?_ 0 F_40 (⟨by omega, hF_44, hq_41, _, hF_49, fun j hj => absurd hj (by omega)⟩) hO hR _ _ hP hD hS ls (lv_sub hl [0, 1, 2, 3, 4, 5] rfl)
    rintro k F_45 hv_50 hO hR ih_51 H locs hP hD hS ls hl
    have hl : lv_has ls 7 [(5, .int (nI k)), (4, .int (nI ((z + 72) / 64))), (0, .ref h0), (1, .ref g1), (2, .int (nI z)), (3, .ref g2)] := hl
    have hv_50 : k ≤ 8 ∧ F_45 sa = .inl (cs 16, 8, .inl f9) ∧ F_45 g2 = .inr (0, [.ref r2, .int (nI (4 * k)), .int 0]) ∧ ∃ fo : Nat → Int32, F_45 r2 = .inl (cs 16, n2, .inl fo) ∧ ∀ j, j < 4 * k → fo j = dgb (stt f z ((z + 72) / 64)) j := hv_50
    refine W.eq (g2 := F0 m 111 ls []) rfl ?_
    have hF_52 : F_45 g1 = .inr (0, [.ref r1, .int (nI z), .int 0]) := (hR g1 (by rw [hT_g1]; simp only [List.mem_cons, List.not_mem_nil, or_false]; omega)).trans hF_46
    have hF_53 : F_45 r1 = .inl (cs 16, n1, .inl f) := (hR r1 (by rw [ht_8]; simp only [List.mem_cons, List.not_mem_nil, or_false]; omega)).trans hF_47
    obtain ⟨hr1, hr2, hr3, fo, hr4, hr5⟩ := id hv_50
    refine lv_iload hx hb dX8_sumOf_111 (lv_at hl 0 rfl) ?_
    refine lv_bipush (v := 8) hx hb dX8_sumOf_113 (by decide) ?_
    refine lv_icmp_ge (tgt := 135) hx hb dX8_sumOf_115 (by decide) (fun c_54 => ?_) (fun c_54 => ?_)
    ·
      have hi_55 : 8 ≤ k := leN (N := 8) c_54
      have hk8 : 8 ≤ k := (nI_leI (by omega) (by omega)).mp c_54
      refine W.widen (k := 0) (n := 0) (by omega) (by omega) ?_
      exact W.vret hx hb hr (fun t ht hWm => ⟨⟨(), rfl, trivial, ⟨F_45, fo, QT.mk ht hP hD hO hR, (by rw [hr3, show 4 * k = 32 by omega]), hr4, (fun j hj => hr5 j (by omega))⟩⟩, hS.F ht⟩) hS.2.2 dX8_sumOf_135
    ·
      have hi_56 : k < 8 := ltN (N := 8) c_54
      have hk8 : k < 8 := Nat.not_le.mp (fun q => c_54 ((nI_leI (by omega) (by omega)).mpr q))
      refine lv_aload_n hx hb dX8_sumOf_118 rfl (lv_at hl 5 rfl) ?_
      refine lv_aload_n hx hb dX8_sumOf_119 rfl (lv_at hl 2 rfl) ?_
      have hF_57 := hO.sha hL_h0 hT_h0
      refine pg_get (ci := 8) (v := .ref sa) (C := RX8) (T := TX8) (N := 3) hx hb hts it_8 hown hK hP hL_h0 hF_57 rfl 1 (by decide) (hts _ kt_247) (fun _ h9 => h9) rfl dX8_sumOf_120 ?_
      refine lv_iload hx hb dX8_sumOf_123 (lv_at hl 0 rfl) ?_
      refine pg_iald hx hb hK hP hi_2 0 hr2 rfl (vp_in_nI (by omega) (by omega)) dX8_sumOf_125 ?_
      refine lv_topi (fun x_58 ex_58 => ?_)
      obtain rfl : x_58 = (f9 k) := ex_58.trans (congrArg f9 (nI_clamp (by omega)))
      have hFc := pg_free hD hS hA
      refine va_callv (va_runV (As := [.int (f9 k)]) (rest := []) ⟨hx, hb, hml, hown, hts⟩ (s_X0_addFour_e l dC dI cs ty L H.size F_45 g2 τ r2 n2 (4 * k) fo (f9 k) hW hL_g2 hT_g2 hr3 hr4 (by omega) (by omega)) ⟨callB_of 1 hts (gi kt_257) rfl rfl rfl (hts _ kt_1) (hts _ kt_258) (by decide +kernel) ⟨Nat.le_of_ble_eq_true rfl, Nat.le_of_ble_eq_true rfl⟩, (hts _ kt_259), (hts _ kt_260)⟩ ⟨fun a U g mk q => ⟨q.1, PT.calling q.2⟩, pg_recv hK hP hL_g2 hr3 (q := (RX0, TX0, 3)) rfl, fun U hU hWm => ⟨rfl, PT.mk hU hWm hP hK hD hE hO⟩⟩ rfl rfl hl.1 rfl (lv_room (Nat.le_of_ble_eq_true rfl)) dX8_sumOf_126 ⟨by show _ + 0 ≤ 0; omega, by show _ + 0 ≤ 0; omega⟩) hS (fun q _ h => hFc q h) hFc (fun u t H1 locs ht hvm hw hB hz1 hk1 hS => ?_)
      obtain ⟨F_60, hB1, hq_61, hq_62⟩ := hB
      obtain ⟨hP, hD, hO, hR⟩ := QT.back hB1 ht hFc hR (fun q h => by simp only [List.mem_cons, List.not_mem_nil, or_false] at h ⊢; omega)
      have hF_63 : F_60 g1 = .inr (0, [.ref r1, .int (nI z), .int 0]) := (hB1.2.2.2 g1 (by rw [hT_g1]; simp only [List.mem_cons, List.not_mem_nil, or_false]; omega)).trans hF_52
      have hF_64 : F_60 r1 = .inl (cs 16, n1, .inl f) := (hB1.2.2.2 r1 (by rw [ht_8]; simp only [List.mem_cons, List.not_mem_nil, or_false]; omega)).trans hF_53
      have hF_65 : F_60 sa = .inl (cs 16, 8, .inl f9) := (hB1.2.2.2 sa (by rw [ht_5]; simp only [List.mem_cons, List.not_mem_nil, or_false]; omega)).trans hr2
      have hF_66 : F_60 h0 = .inr (8, [.ref wa, .ref sa, .ref ta]) := (hB1.2.2.2 h0 (by rw [hT_h0]; simp only [List.mem_cons, List.not_mem_nil, or_false]; omega)).trans hF_57
      generalize H1 = H at hP hS ⊢
      refine lv_iinc (v := (nI (k + 1))) (lv' := [(5, .int (nI (k + 1))), (4, .int (nI ((z + 72) / 64))), (0, .ref h0), (1, .ref g1), (2, .int (nI z)), (3, .ref g2)]) hx hb dX8_sumOf_129 hl (k := 0) rfl (nI_1 _) (by decide) rfl (fun ls hl => ?_)
      refine lv_goto (tgt := 111) hx hb dX8_sumOf_132 (by decide) ?_
      refine W.widen (k := 0) (n := 0) (by omega) (by omega) ?_
      exact ih_51 (k + 1) F_60 (⟨by omega, hF_65, by rw [show 4 * (k + 1) = 4 * k + 4 by omega]; exact hq_61, _, hq_62, dg_up hr5 (hv3 k (by omega))⟩) (by show 8 - (k + 1) < 8 - k; omega) hO hR _ _ hP hD hS ls (lv_sub hl [0, 1, 2, 3, 4, 5] rfl)
  ·
    have hi_67 : b < ((z + 72) / 64) := ltN (N := ((z + 72) / 64)) c_32
    have hbn : b < ((z + 72) / 64) := Nat.not_le.mp (fun q => c_32 ((nI_leI (by omega) (by omega)).mpr q))
    refine lv_iconst (v := 0) hx hb dX8_sumOf_36 (by decide) ?_
    refine lv_istore (lv' := [(6, .int 0), (5, .int (nI b)), (4, .int (nI ((z + 72) / 64))), (0, .ref h0), (1, .ref g1), (2, .int (nI z)), (3, .ref g2)]) hx hb dX8_sumOf_37 hl (by decide) rfl (fun ls hl => ?_)
    refine W.widen (k := 0) (n := 0) (by omega) (by omega) ?_
    have hF_69 : F g1 = .inr (0, [.ref r1, .int (nI z), .int 0]) := (hR g1 (by rw [hT_g1]; simp only [List.mem_cons, List.not_mem_nil, or_false]; omega)).symm.trans hF_30
    have hF_70 : F r1 = .inl (cs 16, n1, .inl f) := (hR r1 (by rw [ht_8]; simp only [List.mem_cons, List.not_mem_nil, or_false]; omega)).symm.trans hF_31
    obtain ⟨f_71, hF_72⟩ := hO.ints hi_1 ht_4
    refine pl_loop (σ := Nat) A (dC, dI) cs ty L [ρ, τ] F 39 7 (fun i1 => [(6, .int (nI i1)), (5, .int (nI b)), (4, .int (nI ((z + 72) / 64))), (0, .ref h0), (1, .ref g1), (2, .int (nI z)), (3, .ref g2)]) (fun i1 => []) (fun i1 FF => i1 ≤ 16 ∧ ∃ fw : Nat → Int32, FF wa = .inl (cs 16, 64, .inl fw) ∧ (∀ i, i < i1 → fw i = wdk (byt f z) (b * 64 + i * 4) 4) ∧ FF sa = .inl (cs 16, 8, .inl f9)) (fun i1 => 16 - i1) ?_ 0 F_25 (⟨by omega, _, hF_72, fun i hi => absurd hi (Nat.not_lt_zero _), hv2⟩) hO hR _ _ hP hD hS ls (lv_sub hl [0, 1, 2, 3, 4, 5, 6] rfl)
    rintro i1 F_68 hv_73 hO hR ih_74 H locs hP hD hS ls hl
    have hl : lv_has ls 7 [(6, .int (nI i1)), (5, .int (nI b)), (4, .int (nI ((z + 72) / 64))), (0, .ref h0), (1, .ref g1), (2, .int (nI z)), (3, .ref g2)] := hl
    have hv_73 : i1 ≤ 16 ∧ ∃ fw : Nat → Int32, F_68 wa = .inl (cs 16, 64, .inl fw) ∧ (∀ i, i < i1 → fw i = wdk (byt f z) (b * 64 + i * 4) 4) ∧ F_68 sa = .inl (cs 16, 8, .inl f9) := hv_73
    refine W.eq (g2 := F0 m 39 ls []) rfl ?_
    have hF_75 : F_68 g1 = .inr (0, [.ref r1, .int (nI z), .int 0]) := (hR g1 (by rw [hT_g1]; simp only [List.mem_cons, List.not_mem_nil, or_false]; omega)).trans hF_69
    have hF_76 : F_68 r1 = .inl (cs 16, n1, .inl f) := (hR r1 (by rw [ht_8]; simp only [List.mem_cons, List.not_mem_nil, or_false]; omega)).trans hF_70
    obtain ⟨hp1, fw, hp2, hp3, hp4⟩ := id hv_73
    refine lv_iload hx hb dX8_sumOf_39 (lv_at hl 0 rfl) ?_
    refine lv_bipush (v := 16) hx hb dX8_sumOf_41 (by decide) ?_
    refine lv_icmp_ge (tgt := 74) hx hb dX8_sumOf_43 (by decide) (fun c_77 => ?_) (fun c_77 => ?_)
    ·
      have hi_78 : 16 ≤ i1 := leN (N := 16) c_77
      have hi6 : 16 ≤ i1 := (nI_leI (by omega) (by omega)).mp c_77
      have hF_81 : F g1 = .inr (0, [.ref r1, .int (nI z), .int 0]) := (hR g1 (by rw [hT_g1]; simp only [List.mem_cons, List.not_mem_nil, or_false]; omega)).symm.trans hF_75
      have hF_82 : F r1 = .inl (cs 16, n1, .inl f) := (hR r1 (by rw [ht_8]; simp only [List.mem_cons, List.not_mem_nil, or_false]; omega)).symm.trans hF_76
      refine W.widen (k := 0) (n := 0) (by omega) (by omega) ?_
      refine pl_cut (σ := Unit) A (dC, dI) cs ty L [ρ, τ] F 94 7 (fun u0 => [(5, .int (nI b)), (4, .int (nI ((z + 72) / 64))), (0, .ref h0), (1, .ref g1), (2, .int (nI z)), (3, .ref g2)]) (fun u0 => []) (fun u0 FF => ∃ fx : Nat → Int32, FF wa = .inl (cs 16, 64, .inl fx) ∧ (∀ i, i < 16 → fx i = wrb f z b i) ∧ FF sa = .inl (cs 16, 8, .inl f9)) ?_ (fun jn_79 => ?_)
      ·
        rintro u0 F_80 hv_83 hO hR H locs hP hD hS ls hl
        have hl : lv_has ls 7 [(5, .int (nI b)), (4, .int (nI ((z + 72) / 64))), (0, .ref h0), (1, .ref g1), (2, .int (nI z)), (3, .ref g2)] := hl
        have hv_83 : ∃ fx : Nat → Int32, F_80 wa = .inl (cs 16, 64, .inl fx) ∧ (∀ i, i < 16 → fx i = wrb f z b i) ∧ F_80 sa = .inl (cs 16, 8, .inl f9) := hv_83
        refine W.eq (g2 := F0 m 94 ls []) rfl ?_
        have hF_84 : F_80 g1 = .inr (0, [.ref r1, .int (nI z), .int 0]) := (hR g1 (by rw [hT_g1]; simp only [List.mem_cons, List.not_mem_nil, or_false]; omega)).trans hF_81
        have hF_85 : F_80 r1 = .inl (cs 16, n1, .inl f) := (hR r1 (by rw [ht_8]; simp only [List.mem_cons, List.not_mem_nil, or_false]; omega)).trans hF_82
        obtain ⟨fx, hq1, hq2, hq3⟩ := id hv_83
        refine lv_aload_n hx hb dX8_sumOf_94 rfl (lv_at hl 2 rfl) ?_
        have hFc := pg_free hD hS hA
        have hF_86 := hO.sha hL_h0 hT_h0
        refine va_callv (va_runV (As := []) (rest := []) ⟨hx, hb, hml, hown, hts⟩ (s_X8_mix_e l dC dI cs ty L H.size F_80 h0 ρ wa sa ta fx f9 hW hL_h0 hT_h0 hq1 hq3) ⟨callB_of 0 hts (gi kt_261) rfl rfl rfl (hts _ kt_250) (hts _ kt_262) (by decide +kernel) ⟨Nat.le_of_ble_eq_true rfl, Nat.le_of_ble_eq_true rfl⟩, (hts _ kt_263), (hts _ kt_264)⟩ ⟨fun a U g mk q => ⟨q.1, PTE.calling q.2⟩, pg_recv hK hP hL_h0 hF_86 (q := (RX8, TX8, 3)) rfl, fun U hU hWm => ⟨rfl, PTE.mk hU hWm hP hK hD hE hO hG (fun x hx => absurd hx List.not_mem_nil) hS hFc⟩⟩ rfl rfl hl.1 rfl (lv_room (Nat.le_of_ble_eq_true rfl)) dX8_sumOf_95 ⟨by show _ + 0 ≤ 0; omega, by show _ + 0 ≤ 0; omega⟩) hS (fun q _ h => hFc q h) hFc (fun u t H1 locs ht hvm hw hB hz1 hk1 hS => ?_)
        obtain ⟨F_88, f2_89, hB1, hq_90, hq_91⟩ := hB
        obtain ⟨hP, hD, hO, hR⟩ := QT.back hB1 ht hFc hR (fun q h => by simp only [List.mem_cons, List.not_mem_nil, or_false] at h ⊢; omega)
        have hF_92 : F_88 g1 = .inr (0, [.ref r1, .int (nI z), .int 0]) := (hB1.2.2.2 g1 (by rw [hT_g1]; simp only [List.mem_cons, List.not_mem_nil, or_false]; omega)).trans hF_84
        have hF_93 : F_88 r1 = .inl (cs 16, n1, .inl f) := (hB1.2.2.2 r1 (by rw [ht_8]; simp only [List.mem_cons, List.not_mem_nil, or_false]; omega)).trans hF_85
        generalize H1 = H at hP hS ⊢
        refine lv_iinc (v := (nI (b + 1))) (lv' := [(5, .int (nI (b + 1))), (4, .int (nI ((z + 72) / 64))), (0, .ref h0), (1, .ref g1), (2, .int (nI z)), (3, .ref g2)]) hx hb dX8_sumOf_98 hl (k := 0) rfl (nI_1 _) (by decide) rfl (fun ls hl => ?_)
        refine lv_goto (tgt := 29) hx hb dX8_sumOf_101 (by decide) ?_
        refine W.widen (k := 0) (n := 0) (by omega) (by omega) ?_
        exact ih_29 (b + 1) F_88 (⟨by omega, _, hq_90, st_up hq2 hv3 hq_91⟩) (by show ((z + 72) / 64) - (b + 1) < ((z + 72) / 64) - b; omega) hO hR _ _ hP hD hS ls (lv_sub hl [0, 1, 2, 3, 4, 5] rfl)
      ·
        have h16 : i1 = 16 := by omega
        subst h16
        refine lv_iload hx hb dX8_sumOf_74 (lv_at hl 1 rfl) ?_
        refine lv_iload hx hb dX8_sumOf_76 (lv_at hl 2 rfl) ?_
        refine lv_iconst (v := 1) hx hb dX8_sumOf_78 (by decide) ?_
        refine lv_isub hx hb dX8_sumOf_79 ?_
        refine lv_topi (fun x_94 ex_94 => ?_)
        obtain rfl : x_94 = (nI (((z + 72) / 64) - 1)) := ex_94.trans (pk_sub (b := 1) (by omega))
        refine lv_icmp_ne (tgt := 94) hx hb dX8_sumOf_80 (by decide) (fun c_95 => ?_) (fun c_95 => ?_)
        ·
          have hbl : b + 1 ≠ ((z + 72) / 64) := fun q => c_95 (by rw [← q]; rfl)
          refine W.widen (k := 0) (n := 0) (by omega) (by omega) ?_
          exact jn_79 () F_68 (⟨_, hp2, wr_n hp3 hbl, hp4⟩) hO hR _ _ hP hD hS ls (lv_sub hl [1, 2, 3, 4, 5, 6] rfl)
        ·
          have hbl : b + 1 = ((z + 72) / 64) := by have h9 := (nI_eq (a := b) (b := ((z + 72) / 64) - 1) (by omega) (by omega)).mp c_95; omega
          refine lv_aload_n hx hb dX8_sumOf_83 rfl (lv_at hl 3 rfl) ?_
          have hF_98 := hO.sha hL_h0 hT_h0
          refine pg_get (ci := 8) (v := .ref wa) (C := RX8) (T := TX8) (N := 3) hx hb hts it_8 hown hK hP hL_h0 hF_98 rfl 0 (by decide) (hts _ kt_246) (fun _ h9 => h9) rfl dX8_sumOf_84 ?_
          refine lv_bipush (v := 15) hx hb dX8_sumOf_87 (by decide) ?_
          refine lv_iload_n hx hb dX8_sumOf_89 rfl (lv_at hl 5 rfl) ?_
          refine lv_bipush (v := 8) hx hb dX8_sumOf_90 (by decide) ?_
          refine lv_imul hx hb dX8_sumOf_92 ?_
          refine lv_topi (fun x_99 ex_99 => ?_)
          obtain rfl : x_99 = (nI (z * 8)) := ex_99.trans (pk_mul z 8)
          refine pg_iast hx hb hK hP hD hS hi_1 0 hp2 rfl (show vp_in (15 : Int32) 64 from (show vp_in (nI 15) 64 from vp_in_nI (by omega) (by omega))) dX8_sumOf_93 (fun H locs hP hD hS => ?_)
          obtain ⟨F_100, he_101, hP, hD, hO, hR⟩ : ∃ G, G = va_up F_68 wa (.inl (cs 16, 64, .inl (upd fw (15 : Int32).toNatClampNeg ((nI (z * 8)))))) ∧ va_P (dC, dI) vwCl (va_pl L G) H ∧ va_D A (va_pl L G) ∧ OK cs ty L G ∧ FR ty [ρ, τ] F G := ⟨_, rfl, hP, hD, hO.up (sh.ints ht_4 ⟨_, rfl⟩), hR.up ht_4 (by simp)⟩
          have hF_102 : F_100 wa = .inl (cs 16, 64, .inl (upd fw (15 : Int32).toNatClampNeg ((nI (z * 8))))) := by rw [he_101]; exact up_self
          have hF_103 : F_100 g1 = .inr (0, [.ref r1, .int (nI z), .int 0]) := by rw [he_101, up_ne (ne_ty hT_g1 ht_4 (by simp))]; exact hF_75
          have hF_104 : F_100 r1 = .inl (cs 16, n1, .inl f) := by rw [he_101, up_ne (ne_ty3 ht_8 ht_4 (by show σ ≠ ρ; omega))]; exact hF_76
          have hF_105 : F_100 sa = .inl (cs 16, 8, .inl f9) := by rw [he_101, up_ne (ne_tyn ht_5 ht_4 (by simp))]; exact hp4
          have hF_106 : F_100 h0 = .inr (8, [.ref wa, .ref sa, .ref ta]) := by rw [he_101, up_ne (ne_ty hT_h0 ht_4 (by simp))]; exact hF_98
          have hF_107 : F_100 wa = .inl (cs 16, 64, .inl (upd fw 15 (nI (z * 8)))) := by have h9 := hF_102; rwa [show (15 : Int32).toNatClampNeg = 15 by decide] at h9
          refine W.widen (k := 0) (n := 0) (by omega) (by omega) ?_
          exact jn_79 () F_100 (⟨_, hF_107, wr_y hp3 hbl, hF_105⟩) hO hR _ _ hP hD hS ls (lv_sub hl [1, 2, 3, 4, 5, 6] rfl)
    ·
      have hi_108 : i1 < 16 := ltN (N := 16) c_77
      have hi6 : i1 < 16 := Nat.not_le.mp (fun q => c_77 ((nI_leI (by omega) (by omega)).mpr q))
      refine lv_aload_n hx hb dX8_sumOf_46 rfl (lv_at hl 3 rfl) ?_
      have hF_109 := hO.sha hL_h0 hT_h0
      refine pg_get (ci := 8) (v := .ref wa) (C := RX8) (T := TX8) (N := 3) hx hb hts it_8 hown hK hP hL_h0 hF_109 rfl 0 (by decide) (hts _ kt_246) (fun _ h9 => h9) rfl dX8_sumOf_47 ?_
      refine lv_iload hx hb dX8_sumOf_50 (lv_at hl 0 rfl) ?_
      refine lv_aload_n hx hb dX8_sumOf_52 rfl (lv_at hl 4 rfl) ?_
      refine lv_iload_n hx hb dX8_sumOf_53 rfl (lv_at hl 5 rfl) ?_
      refine lv_iload hx hb dX8_sumOf_54 (lv_at hl 1 rfl) ?_
      refine lv_bipush (v := 64) hx hb dX8_sumOf_56 (by decide) ?_
      refine lv_imul hx hb dX8_sumOf_58 ?_
      refine lv_topi (fun x_110 ex_110 => ?_)
      obtain rfl : x_110 = (nI (b * 64)) := ex_110.trans (pk_mul b 64)
      refine lv_iload hx hb dX8_sumOf_59 (lv_at hl 0 rfl) ?_
      refine lv_iconst (v := 4) hx hb dX8_sumOf_61 (by decide) ?_
      refine lv_imul hx hb dX8_sumOf_62 ?_
      refine lv_topi (fun x_111 ex_111 => ?_)
      obtain rfl : x_111 = (nI (i1 * 4)) := ex_111.trans (pk_mul i1 4)
      refine lv_iadd hx hb dX8_sumOf_63 ?_
      refine lv_topi (fun x_112 ex_112 => ?_)
      obtain rfl : x_112 = (nI (b * 64 + i1 * 4)) := ex_112.trans (nI_add (b * 64) (i1 * 4))
      have hFc := pg_free hD hS hA
      refine va_calli (va_runS (As := [.ref g1, .int (nI z), .int (nI (b * 64 + i1 * 4))]) (rest := [.int (nI i1), .ref wa]) ⟨hx, hb, hml, hown, hts⟩ (s_X8_wordAt_e l dC dI cs ty L H.size F_68 g1 σ r1 n1 z z (b * 64 + i1 * 4) f hW hL_g1 hT_g1 hF_75 hF_76 (by omega) (by omega) (Nat.le_refl _) (by omega)) ⟨callB_of 3 hts (gi kt_265) rfl rfl rfl (hts _ kt_250) (hts _ kt_266) (by decide +kernel) ⟨Nat.le_of_ble_eq_true rfl, Nat.le_of_ble_eq_true rfl⟩, (hts _ kt_267)⟩ ⟨fun a U g mk q => ⟨q.1, PT.calling q.2⟩, fun U hU hWm => ⟨rfl, PT.mk hU hWm hP hK hD hE hO⟩⟩ rfl rfl hl.1 rfl (lv_room (Nat.le_of_ble_eq_true rfl)) dX8_sumOf_64 ⟨by show _ + 0 ≤ 0; omega, by show _ + 0 ≤ 0; omega⟩) hS (fun q _ h => hFc q h) hFc (fun r_113 u t H1 locs ht hvm hw hB hz1 hk1 hS => ?_)
      obtain ⟨F_114, hB1⟩ := hB
      obtain rfl : F_68 = F_114 := (funext (fun a => hB1.2.2.2 a List.not_mem_nil)).symm
      obtain ⟨hP, hD, hO, hR⟩ := QT.back hB1 ht hFc hR (fun q h => absurd h List.not_mem_nil)
      generalize H1 = H at hP hS ⊢
      have hw : r_113 = wdk (byt f z) (b * 64 + i1 * 4) 4 := hw
      have hw_115 := hw
      subst hw_115
      refine pg_iast hx hb hK hP hD hS hi_1 0 hp2 rfl (vp_in_nI (by omega) (by omega)) dX8_sumOf_67 (fun H locs hP hD hS => ?_)
      obtain ⟨F_116, he_117, hP, hD, hO, hR⟩ : ∃ G, G = va_up F_68 wa (.inl (cs 16, 64, .inl (upd fw ((nI i1)).toNatClampNeg ((wdk (byt f z) (b * 64 + i1 * 4) 4))))) ∧ va_P (dC, dI) vwCl (va_pl L G) H ∧ va_D A (va_pl L G) ∧ OK cs ty L G ∧ FR ty [ρ, τ] F G := ⟨_, rfl, hP, hD, hO.up (sh.ints ht_4 ⟨_, rfl⟩), hR.up ht_4 (by simp)⟩
      have hF_118 : F_116 wa = .inl (cs 16, 64, .inl (upd fw ((nI i1)).toNatClampNeg ((wdk (byt f z) (b * 64 + i1 * 4) 4)))) := by rw [he_117]; exact up_self
      have hF_119 : F_116 g1 = .inr (0, [.ref r1, .int (nI z), .int 0]) := by rw [he_117, up_ne (ne_ty hT_g1 ht_4 (by simp))]; exact hF_75
      have hF_120 : F_116 r1 = .inl (cs 16, n1, .inl f) := by rw [he_117, up_ne (ne_ty3 ht_8 ht_4 (by show σ ≠ ρ; omega))]; exact hF_76
      have hF_121 : F_116 sa = .inl (cs 16, 8, .inl f9) := by rw [he_117, up_ne (ne_tyn ht_5 ht_4 (by simp))]; exact hp4
      have hF_122 : F_116 h0 = .inr (8, [.ref wa, .ref sa, .ref ta]) := by rw [he_117, up_ne (ne_ty hT_h0 ht_4 (by simp))]; exact hF_109
      have hF_123 : F_116 wa = .inl (cs 16, 64, .inl (upd fw i1 (wdk (byt f z) (b * 64 + i1 * 4) 4))) := by have h9 := hF_118; rwa [nI_clamp (by omega)] at h9
      refine lv_iinc (v := (nI (i1 + 1))) (lv' := [(6, .int (nI (i1 + 1))), (5, .int (nI b)), (4, .int (nI ((z + 72) / 64))), (0, .ref h0), (1, .ref g1), (2, .int (nI z)), (3, .ref g2)]) hx hb dX8_sumOf_68 hl (k := 0) rfl (nI_1 _) (by decide) rfl (fun ls hl => ?_)
      refine lv_goto (tgt := 39) hx hb dX8_sumOf_71 (by decide) ?_
      refine W.widen (k := 0) (n := 0) (by omega) (by omega) ?_
      exact ih_74 (i1 + 1) F_116 (⟨by omega, _, hF_123, wr_in hp3, hF_121⟩) (by show 16 - (i1 + 1) < 16 - i1; omega) hO hR _ _ hP hD hS ls (lv_sub hl [0, 1, 2, 3, 4, 5, 6] rfl)
set_option maxHeartbeats 4000000 in
set_option maxRecDepth 100000 in
theorem s_X11_digest_e (l : Launch) (dC : Nat → ClassId) (dI : Nat → Nat → Nat) (cs : Nat → ClassId) (ty : TyM) (L : List Nat) (sz : Nat) (F : Nat → va_E) (h0 : Nat) (ρ : Nat) (ta : Nat) (ou : Nat) (di : Nat) (ea : Nat) (ck : Nat) (sl : Nat) (po : Nat) (hs : Nat) (zt : Nat) (rt : Nat) (cn : Nat) (f : Nat → Int32) (ro : Nat) (hW : WT ty L) (hL_h0 : h0 ∈ L) (hT_h0 : ty h0 = (11, ρ, [ta, ou, di, ea, ck, sl, po, hs])) (hL_ta : ta ∈ L) (hT_ta : ty ta = (0, ρ + 1, [rt, 3000])) (hL_ou : ou ∈ L) (hT_ou : ty ou = (0, ρ + 2, [ro, 3000])) (hFt : F ta = .inr (0, [.ref rt, .int (nI zt), .int 0])) (hFr : F rt = .inl (cs 16, 3000, .inl f)) (hzt : zt ≤ 3000) : Met l yX11_digest (.code yX11_digest cX11_digest 1 (some .int) :: tb) ({ frames := 3, cells := 0, slots := 0, locals := 99 }) (va_Pc [.ref h0] (PTE (dC, dI) cs ty L F sz [])) (va_Qi (fun (r : Int32) (_ : Unit) => r = 32) (fun _ T9 => ∃ F2 : Nat → va_E, ∃ f2 : Nat → Int32, QT (dC, dI) cs ty L [ρ + 1, ρ + 2, ρ + 19] F F2 (va_A (va_pl L F) sz) T9 ∧ F2 ta = .inr (0, [.ref rt, .int (nI 0), .int 0]) ∧ F2 ou = .inr (0, [.ref ro, .int (nI 32), .int 0]) ∧ F2 ro = .inl (cs 16, 3000, .inl f2) ∧ (∀ j, j < 32 → f2 j = dgb (stt f zt ((zt + 72) / 64)) j)) (va_A (va_pl L F) sz)) 0 0 (va_A (va_pl L F) sz) := by
  refine Met.ofW (cc := cX11_digest) (maxL := 1) (ret := (some .int)) (by decide) rfl ?_
  intro p e s m args below meth c s₁ B hml hv
  obtain ⟨rfl, ⟨hsz, hP, hK, hD0, hE, hO⟩, hG, hX⟩ := hv
  have hx := B.exec
  have hb := B.bytes
  have hr := B.returns
  have hts : ∀ w ∈ tb, w.before _ s = true := fun w h => atoms_spec (ws := .code yX11_digest cX11_digest 1 (some .int) :: tb) B.pre w (List.mem_cons_of_mem _ h)
  have hown : s.vm.findClass RX11 = some m.cls := findClass_of_methodNamed B.named
  have hlocks := B.notSynchronized
  subst hsz
  have hD := hD0.self (sz := s.heap.size)
  generalize hAe : va_A (va_pl L F) s.heap.size = A at hD hG hX ⊢
  have hA : ∀ q : Nat, s.heap.size ≤ q → A q := fun q h => by rw [← hAe]; exact Or.inr h
  have hS : va_S A s.heap s.heap [] := va_S.rf
  have hR : FR ty [ρ + 1, ρ + 2, ρ + 19] F F := FR.refl
  have hl := lv_entry ([.ref h0]) (n := 1) (Nat.le_of_ble_eq_true rfl)
  rw [lg_entry_eq]
  generalize (lg_sl ([.ref h0]) ++ List.replicate (1 - (lg_sl ([.ref h0])).length) Slot.unset).toArray = ls at hl ⊢
  have hl : lv_has ls 1 [(0, .ref h0)] := hl
  obtain ⟨_, _, _, _, hi_1, ht_2, hi_3, ⟨w0_4, w1_5, w2_6, w3_7, nm_8, te_9, ht_10⟩, hi_11, ⟨l1_12, lx_13, ly0_14, ly1_15, ly2_16, k1_17, kx_18, ky0_19, ky1_20, ky2_21, w0_22, w1_23, w2_24, w3_25, w4_26, w5_27, w6_28, w7_29, w8_30, tk_31, h1_32, hx_33, hy_34, hw_35, pw_36, px_37, py_38, pz_39, pu_40, ht_41⟩, hi_42, ⟨w0_43, w1_44, rc_45, rx_46, ry0_47, ry1_48, ry2_49, ht_50⟩, hi_51, ⟨hx_52, hy_53, hw_54, ht_55⟩⟩ := hW.gate hL_h0 hT_h0
  obtain ⟨hi_56, hi_57, hi_58, ht_59, ht_60, ht_61⟩ := hW.sha hi_51 ht_55
  obtain ⟨hi_62, ht_63, hq_64⟩ := hW.bytes hL_ta hT_ta
  obtain ⟨hi_65, ht_66, hq_67⟩ := hW.bytes hL_ou hT_ou
  refine lv_aload_n hx hb dX11_digest_0 rfl (lv_at hl 0 rfl) ?_
  obtain ⟨le_68, sp_69, μ_70, ν_71, hF_72, hq_73, hq_74, hq_75, hq_76, hq_77, hq_78⟩ := hO.gate hL_h0 hT_h0
  obtain ⟨x_79, y0_80, y1_81, y2_82, ht_83⟩ := id hq_74
  obtain ⟨x_84, y0_85, y1_86, y2_87, ht_88⟩ := id hq_76
  refine pg_get (ci := 11) (v := .ref hs) (C := RX11) (T := TX11) (N := 9) hx hb hts it_11 hown hK hP hL_h0 hF_72 rfl 6 (by decide) (hts _ kt_539) (fun _ h9 => h9) rfl dX11_digest_1 ?_
  refine lv_aload_n hx hb dX11_digest_4 rfl (lv_at hl 0 rfl) ?_
  refine pg_get (ci := 11) (v := .ref ta) (C := RX11) (T := TX11) (N := 9) hx hb hts it_11 hown hK hP hL_h0 hF_72 rfl 0 (by decide) (hts _ kt_509) (fun _ h9 => h9) rfl dX11_digest_5 ?_
  refine lv_aload_n hx hb dX11_digest_8 rfl (lv_at hl 0 rfl) ?_
  refine pg_get (ci := 11) (v := .ref ta) (C := RX11) (T := TX11) (N := 9) hx hb hts it_11 hown hK hP hL_h0 hF_72 rfl 0 (by decide) (hts _ kt_509) (fun _ h9 => h9) rfl dX11_digest_9 ?_
  refine pg_getN (ci := 0) (v := .int (nI zt)) (C := RX0) (T := TX0) (N := 3) hx hb hts it_0 hown hK hP hL_ta hFt rfl 1 (by decide) (hE.nest kn_17) (fun _ h9 => h9) rfl dX11_digest_12 ?_
  refine lv_aload_n hx hb dX11_digest_15 rfl (lv_at hl 0 rfl) ?_
  refine pg_get (ci := 11) (v := .ref ou) (C := RX11) (T := TX11) (N := 9) hx hb hts it_11 hown hK hP hL_h0 hF_72 rfl 1 (by decide) (hts _ kt_526) (fun _ h9 => h9) rfl dX11_digest_16 ?_
  have hFc := pg_free hD hS hA
  have hF_89 := hO.sha hi_51 ht_55
  refine va_callv (va_runV (As := [.ref ta, .int (nI zt), .ref ou]) (rest := []) ⟨hx, hb, hml, hown, hts⟩ (s_X8_sumOf_e l dC dI cs ty L s.heap.size F hs (ρ + 19) hx_52 hy_53 hw_54 ta (ρ + 1) rt 3000 ou (ρ + 2) ro 3000 zt f hW hi_51 ht_55 hL_ta hT_ta hL_ou hT_ou (by omega) hFt hFr (hzt) (by omega) (hzt) (by omega) (by omega) (by omega) (by omega)) ⟨callB_of 3 hts (gi kt_397) rfl rfl rfl (hts _ kt_250) (hts _ kt_540) (by decide +kernel) ⟨Nat.le_of_ble_eq_true rfl, Nat.le_of_ble_eq_true rfl⟩, (hts _ kt_399), (hts _ kt_400)⟩ ⟨fun a U g mk q => ⟨q.1, PTE.calling q.2⟩, pg_recv hK hP hi_51 hF_89 (q := (RX8, TX8, 3)) rfl, fun U hU hWm => ⟨rfl, PTE.mk hU hWm hP hK hD hE hO hG (fun x hx => absurd hx List.not_mem_nil) hS hFc⟩⟩ rfl rfl hl.1 rfl (lv_room (Nat.le_of_ble_eq_true rfl)) dX11_digest_19 ⟨by show _ + 0 ≤ 0; omega, by show _ + 0 ≤ 0; omega⟩) hS (fun q _ h => hFc q h) hFc (fun u t H1 locs ht hvm hw hB hz1 hk1 hS => ?_)
  obtain ⟨F_91, f2_92, hB1, hq_93, hq_94, hq_95⟩ := hB
  obtain ⟨hP, hD, hO, hR⟩ := QT.back hB1 ht hFc hR (fun q h => by simp only [List.mem_cons, List.not_mem_nil, or_false] at h ⊢; omega)
  have hF_96 : F_91 ta = .inr (0, [.ref rt, .int (nI zt), .int 0]) := (hB1.2.2.2 ta (by rw [hT_ta]; simp)).trans hFt
  have hF_97 : F_91 rt = .inl (cs 16, 3000, .inl f) := (hB1.2.2.2 rt (by rw [ht_63]; simp)).trans hFr
  have hF_98 : F_91 h0 = .inr (11, [.ref ta, .ref ou, .ref di, .ref ck, .ref sl, .ref po, .ref hs, .ref le_68, .ref sp_69]) := (hB1.2.2.2 h0 (by rw [hT_h0]; simp)).trans hF_72
  generalize H1 = H at hP hS ⊢
  refine lv_aload_n hx hb dX11_digest_22 rfl (lv_at hl 0 rfl) ?_
  refine pg_get (ci := 11) (v := .ref ta) (C := RX11) (T := TX11) (N := 9) hx hb hts it_11 hown hK hP hL_h0 hF_98 rfl 0 (by decide) (hts _ kt_509) (fun _ h9 => h9) rfl dX11_digest_23 ?_
  have hFc := pg_free hD hS hA
  refine va_callv (va_runV (As := []) (rest := []) ⟨hx, hb, hml, hown, hts⟩ (s_X0_clear l dC dI cs ty L H.size F_91 ta (ρ + 1) rt 3000 hW hL_ta hT_ta) ⟨callB_of 0 hts (gi kt_32) rfl rfl rfl (hts _ kt_1) (hts _ kt_527) (by decide +kernel) ⟨Nat.le_of_ble_eq_true rfl, Nat.le_of_ble_eq_true rfl⟩, (hts _ kt_34), (hts _ kt_35)⟩ ⟨fun a U g mk q => ⟨q.1, PT.calling q.2⟩, pg_recv hK hP hL_ta hF_96 (q := (RX0, TX0, 3)) rfl, fun U hU hWm => ⟨rfl, PT.mk hU hWm hP hK hD hE hO⟩⟩ rfl rfl hl.1 rfl (lv_room (Nat.le_of_ble_eq_true rfl)) dX11_digest_26 ⟨by show _ + 0 ≤ 0; omega, by show _ + 0 ≤ 0; omega⟩) hS (fun q _ h => hFc q h) hFc (fun u t H1 locs ht hvm hw hB hz1 hk1 hS => ?_)
  obtain ⟨F_100, hB1, hq_101⟩ := hB
  obtain ⟨hP, hD, hO, hR⟩ := QT.back hB1 ht hFc hR (fun q h => by simp only [List.mem_cons, List.not_mem_nil, or_false] at h ⊢; omega)
  have hF_102 : F_100 h0 = .inr (11, [.ref ta, .ref ou, .ref di, .ref ck, .ref sl, .ref po, .ref hs, .ref le_68, .ref sp_69]) := (hB1.2.2.2 h0 (by rw [hT_h0]; simp)).trans hF_98
  have hF_103 : F_100 ou = .inr (0, [.ref ro, .int (nI 32), .int 0]) := (hB1.2.2.2 ou (by rw [hT_ou]; simp)).trans hq_93
  have hF_104 : F_100 ro = .inl (cs 16, 3000, .inl f2_92) := (hB1.2.2.2 ro (by rw [ht_66]; simp)).trans hq_94
  generalize H1 = H at hP hS ⊢
  refine lv_aload_n hx hb dX11_digest_29 rfl (lv_at hl 0 rfl) ?_
  refine pg_get (ci := 11) (v := .ref ou) (C := RX11) (T := TX11) (N := 9) hx hb hts it_11 hown hK hP hL_h0 hF_102 rfl 1 (by decide) (hts _ kt_526) (fun _ h9 => h9) rfl dX11_digest_30 ?_
  refine pg_getN (ci := 0) (v := .int (nI 32)) (C := RX0) (T := TX0) (N := 3) hx hb hts it_0 hown hK hP hL_ou hF_103 rfl 1 (by decide) (hE.nest kn_17) (fun _ h9 => h9) rfl dX11_digest_33 ?_
  refine W.widen (k := 0) (n := 0) (by omega) (by omega) ?_
  exact W.iret (v := (nI 32)) hx hb hr (fun t ht hWm => ⟨⟨(nI 32), (), rfl, rfl, ⟨F_100, f2_92, QT.mk ht hP hD hO hR, hq_101, hF_103, hF_104, hq_95⟩⟩, hS.F ht⟩) hS.2.2 dX11_digest_36
def octc (f : Nat → Int32) (z : Nat) (x : Int32) : Int32 := if x = (-1) then nI z else if x < 0 then (-2) else if x < nI z then f x.toNatClampNeg else (-2)
set_option maxHeartbeats 4000000 in
set_option maxRecDepth 100000 in
theorem s_X11_octet_e (l : Launch) (dC : Nat → ClassId) (dI : Nat → Nat → Nat) (cs : Nat → ClassId) (ty : TyM) (L : List Nat) (sz : Nat) (F : Nat → va_E) (h0 : Nat) (ρ : Nat) (ta : Nat) (ou : Nat) (di : Nat) (ea : Nat) (ck : Nat) (sl : Nat) (po : Nat) (hs : Nat) (ro : Nat) (zo : Nat) (fo : Nat → Int32) (x1 : Int32) (hW : WT ty L) (hL_h0 : h0 ∈ L) (hT_h0 : ty h0 = (11, ρ, [ta, ou, di, ea, ck, sl, po, hs])) (hL_ou : ou ∈ L) (hT_ou : ty ou = (0, ρ + 2, [ro, 3000])) (hFo : F ou = .inr (0, [.ref ro, .int (nI zo), .int 0])) (hFq : F ro = .inl (cs 16, 3000, .inl fo)) (hzo : zo ≤ 3000) : Met l yX11_octet (.code yX11_octet cX11_octet 2 (some .int) :: tb) ({ frames := 1, cells := 0, slots := 0, locals := 21 }) (va_Pc [.ref h0, .int x1] (PT (dC, dI) cs ty L F sz)) (va_Qi (fun (r : Int32) (_ : Unit) => r = octc fo zo x1) (fun _ T9 => ∃ F2 : Nat → va_E, QT (dC, dI) cs ty L [] F F2 (va_A (va_pl L F) sz) T9) (va_A (va_pl L F) sz)) 0 0 (va_A (va_pl L F) sz) := by
  refine Met.ofW (cc := cX11_octet) (maxL := 2) (ret := (some .int)) (by decide) rfl ?_
  intro p e s m args below meth c s₁ B hml hv
  obtain ⟨rfl, hsz, hP, hK, hD0, hE, hO⟩ := hv
  have hx := B.exec
  have hb := B.bytes
  have hr := B.returns
  have hts : ∀ w ∈ tb, w.before _ s = true := fun w h => atoms_spec (ws := .code yX11_octet cX11_octet 2 (some .int) :: tb) B.pre w (List.mem_cons_of_mem _ h)
  have hown : s.vm.findClass RX11 = some m.cls := findClass_of_methodNamed B.named
  have hlocks := B.notSynchronized
  subst hsz
  have hD := hD0.self (sz := s.heap.size)
  generalize hAe : va_A (va_pl L F) s.heap.size = A at hD ⊢
  have hA : ∀ q : Nat, s.heap.size ≤ q → A q := fun q h => by rw [← hAe]; exact Or.inr h
  have hS : va_S A s.heap s.heap [] := va_S.rf
  have hR : FR ty [] F F := FR.refl
  have hl := lv_entry ([.ref h0, .int x1]) (n := 2) (Nat.le_of_ble_eq_true rfl)
  rw [lg_entry_eq]
  generalize (lg_sl ([.ref h0, .int x1]) ++ List.replicate (2 - (lg_sl ([.ref h0, .int x1])).length) Slot.unset).toArray = ls at hl ⊢
  have hl : lv_has ls 2 [(0, .ref h0), (1, .int x1)] := hl
  obtain ⟨hi_1, ⟨r_2, ht_3⟩, _, _, hi_4, ht_5, hi_6, ⟨w0_7, w1_8, w2_9, w3_10, nm_11, te_12, ht_13⟩, hi_14, ⟨l1_15, lx_16, ly0_17, ly1_18, ly2_19, k1_20, kx_21, ky0_22, ky1_23, ky2_24, w0_25, w1_26, w2_27, w3_28, w4_29, w5_30, w6_31, w7_32, w8_33, tk_34, h1_35, hx_36, hy_37, hw_38, pw_39, px_40, py_41, pz_42, pu_43, ht_44⟩, hi_45, ⟨w0_46, w1_47, rc_48, rx_49, ry0_50, ry1_51, ry2_52, ht_53⟩, hi_54, ⟨hx_55, hy_56, hw_57, ht_58⟩⟩ := hW.gate hL_h0 hT_h0
  obtain ⟨hi_59, ht_60, hq_61⟩ := hW.bytes hL_ou hT_ou
  refine lv_iload_n hx hb dX11_octet_0 rfl (lv_at hl 1 rfl) ?_
  refine lv_iconst (v := (-1)) hx hb dX11_octet_1 (by decide) ?_
  refine lv_icmp_ne (tgt := 13) hx hb dX11_octet_2 (by decide) (fun c_62 => ?_) (fun c_62 => ?_)
  ·
    refine lv_iload_n hx hb dX11_octet_13 rfl (lv_at hl 1 rfl) ?_
    refine lv_if_lt (tgt := 28) hx hb dX11_octet_14 (by decide) (fun c_63 => ?_) (fun c_63 => ?_)
    ·
      refine lv_bipush (v := (-2)) hx hb dX11_octet_28 (by decide) ?_
      refine lv_goto (tgt := 41) hx hb dX11_octet_30 (by decide) ?_
      refine W.widen (k := 0) (n := 0) (by omega) (by omega) ?_
      exact W.iret (v := (-2)) hx hb hr (fun t ht hWm => ⟨⟨(-2), (), rfl, (by unfold octc; rw [if_neg c_62, if_pos c_63]), ⟨F, QT.mk ht hP hD hO hR⟩⟩, hS.F ht⟩) hS.2.2 dX11_octet_41
    ·
      refine lv_iload_n hx hb dX11_octet_17 rfl (lv_at hl 1 rfl) ?_
      refine lv_aload_n hx hb dX11_octet_18 rfl (lv_at hl 0 rfl) ?_
      obtain ⟨le_64, sp_65, μ_66, ν_67, hF_68, hq_69, hq_70, hq_71, hq_72, hq_73, hq_74⟩ := hO.gate hL_h0 hT_h0
      obtain ⟨x_75, y0_76, y1_77, y2_78, ht_79⟩ := id hq_70
      obtain ⟨x_80, y0_81, y1_82, y2_83, ht_84⟩ := id hq_72
      refine pg_get (ci := 11) (v := .ref ou) (C := RX11) (T := TX11) (N := 9) hx hb hts it_11 hown hK hP hL_h0 hF_68 rfl 1 (by decide) (hts _ kt_526) (fun _ h9 => h9) rfl dX11_octet_19 ?_
      refine pg_getN (ci := 0) (v := .int (nI zo)) (C := RX0) (T := TX0) (N := 3) hx hb hts it_0 hown hK hP hL_ou hFo rfl 1 (by decide) (hE.nest kn_17) (fun _ h9 => h9) rfl dX11_octet_22 ?_
      refine lv_icmp_lt (tgt := 33) hx hb dX11_octet_25 (by decide) (fun c_85 => ?_) (fun c_85 => ?_)
      ·
        obtain ⟨k, hk, rfl⟩ := nI_of c_63
        have hkz : k < zo := (nI_ltI (by omega) (by omega)).mp c_85
        refine lv_aload_n hx hb dX11_octet_33 rfl (lv_at hl 0 rfl) ?_
        refine pg_get (ci := 11) (v := .ref ou) (C := RX11) (T := TX11) (N := 9) hx hb hts it_11 hown hK hP hL_h0 hF_68 rfl 1 (by decide) (hts _ kt_526) (fun _ h9 => h9) rfl dX11_octet_34 ?_
        refine lv_iload_n hx hb dX11_octet_37 rfl (lv_at hl 1 rfl) ?_
        have hFc := pg_free hD hS hA
        refine va_calli (va_runV (As := [.int (nI k)]) (rest := []) ⟨hx, hb, hml, hown, hts⟩ (s_X0_at_e l dC dI cs ty L s.heap.size F ou (ρ + 2) ro 3000 zo k fo hW hL_ou hT_ou hFo hFq (by omega) (by omega) (hkz)) ⟨callB_of 1 hts (gi kt_21) rfl rfl rfl (hts _ kt_1) (hts _ kt_541) (by decide +kernel) ⟨Nat.le_of_ble_eq_true rfl, Nat.le_of_ble_eq_true rfl⟩, (hts _ kt_23), (hts _ kt_24)⟩ ⟨fun a U g mk q => ⟨q.1, PT.calling q.2⟩, pg_recv hK hP hL_ou hFo (q := (RX0, TX0, 3)) rfl, fun U hU hWm => ⟨rfl, PT.mk hU hWm hP hK hD hE hO⟩⟩ rfl rfl hl.1 rfl (lv_room (Nat.le_of_ble_eq_true rfl)) dX11_octet_38 ⟨by show _ + 0 ≤ 0; omega, by show _ + 0 ≤ 0; omega⟩) hS (fun q _ h => hFc q h) hFc (fun r_86 u t H1 locs ht hvm hw hB hz1 hk1 hS => ?_)
        obtain ⟨F_87, hB1⟩ := hB
        obtain rfl : F = F_87 := (funext (fun a => hB1.2.2.2 a List.not_mem_nil)).symm
        obtain ⟨hP, hD, hO, hR⟩ := QT.back hB1 ht hFc hR (fun q h => absurd h List.not_mem_nil)
        generalize H1 = H at hP hS ⊢
        have hw : r_86 = fo k := hw
        have hw_88 := hw
        refine W.widen (k := 0) (n := 0) (by omega) (by omega) ?_
        exact W.iret (v := r_86) hx hb hr (fun t ht hWm => ⟨⟨r_86, (), rfl, (by unfold octc; rw [if_neg c_62, if_neg c_63, if_pos c_85, nI_clamp (by omega)]; exact hw_88), ⟨F, QT.mk ht hP hD hO hR⟩⟩, hS.F ht⟩) hS.2.2 dX11_octet_41
      ·
        refine lv_bipush (v := (-2)) hx hb dX11_octet_28 (by decide) ?_
        refine lv_goto (tgt := 41) hx hb dX11_octet_30 (by decide) ?_
        refine W.widen (k := 0) (n := 0) (by omega) (by omega) ?_
        exact W.iret (v := (-2)) hx hb hr (fun t ht hWm => ⟨⟨(-2), (), rfl, (by unfold octc; rw [if_neg c_62, if_neg c_63, if_neg c_85]), ⟨F, QT.mk ht hP hD hO hR⟩⟩, hS.F ht⟩) hS.2.2 dX11_octet_41
  ·
    refine lv_aload_n hx hb dX11_octet_5 rfl (lv_at hl 0 rfl) ?_
    obtain ⟨le_89, sp_90, μ_91, ν_92, hF_93, hq_94, hq_95, hq_96, hq_97, hq_98, hq_99⟩ := hO.gate hL_h0 hT_h0
    obtain ⟨x_100, y0_101, y1_102, y2_103, ht_104⟩ := id hq_95
    obtain ⟨x_105, y0_106, y1_107, y2_108, ht_109⟩ := id hq_97
    refine pg_get (ci := 11) (v := .ref ou) (C := RX11) (T := TX11) (N := 9) hx hb hts it_11 hown hK hP hL_h0 hF_93 rfl 1 (by decide) (hts _ kt_526) (fun _ h9 => h9) rfl dX11_octet_6 ?_
    refine pg_getN (ci := 0) (v := .int (nI zo)) (C := RX0) (T := TX0) (N := 3) hx hb hts it_0 hown hK hP hL_ou hFo rfl 1 (by decide) (hE.nest kn_17) (fun _ h9 => h9) rfl dX11_octet_9 ?_
    refine W.widen (k := 0) (n := 0) (by omega) (by omega) ?_
    exact W.iret (v := (nI zo)) hx hb hr (fun t ht hWm => ⟨⟨(nI zo), (), rfl, (by unfold octc; rw [if_pos c_62]), ⟨F, QT.mk ht hP hD hO hR⟩⟩, hS.F ht⟩) hS.2.2 dX11_octet_12
