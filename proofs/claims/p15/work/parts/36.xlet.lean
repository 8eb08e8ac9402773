theorem dX11_message_0 : decode cX11_message 0 = .ok (.aload_n 0, 1) := by decide +kernel
theorem dX11_message_1 : decode cX11_message 1 = .ok (.getfield 65, 3) := by decide +kernel
theorem dX11_message_4 : decode cX11_message 4 = .ok (.aload_n 0, 1) := by decide +kernel
theorem dX11_message_5 : decode cX11_message 5 = .ok (.getfield 14, 3) := by decide +kernel
theorem dX11_message_8 : decode cX11_message 8 = .ok (.invokevirtual 105, 3) := by decide +kernel
theorem dX11_message_11 : decode cX11_message 11 = .ok (.istore_n 1, 1) := by decide +kernel
theorem dX11_message_12 : decode cX11_message 12 = .ok (.aload_n 0, 1) := by decide +kernel
theorem dX11_message_13 : decode cX11_message 13 = .ok (.getfield 14, 3) := by decide +kernel
theorem dX11_message_16 : decode cX11_message 16 = .ok (.invokevirtual 82, 3) := by decide +kernel
theorem dX11_message_19 : decode cX11_message 19 = .ok (.iload_n 1, 1) := by decide +kernel
theorem dX11_message_20 : decode cX11_message 20 = .ok (.ifCond .ne 5, 3) := by decide +kernel
theorem dX11_message_23 : decode cX11_message 23 = .ok (.iconst (-1), 1) := by decide +kernel
theorem dX11_message_24 : decode cX11_message 24 = .ok (.ireturn, 1) := by decide +kernel
theorem dX11_message_25 : decode cX11_message 25 = .ok (.aload_n 0, 1) := by decide +kernel
theorem dX11_message_26 : decode cX11_message 26 = .ok (.getfield 61, 3) := by decide +kernel
theorem dX11_message_29 : decode cX11_message 29 = .ok (.astore_n 2, 1) := by decide +kernel
theorem dX11_message_30 : decode cX11_message 30 = .ok (.aload_n 0, 1) := by decide +kernel
theorem dX11_message_31 : decode cX11_message 31 = .ok (.aload_n 0, 1) := by decide +kernel
theorem dX11_message_32 : decode cX11_message 32 = .ok (.getfield 65, 3) := by decide +kernel
theorem dX11_message_35 : decode cX11_message 35 = .ok (.putfield 61, 3) := by decide +kernel
theorem dX11_message_38 : decode cX11_message 38 = .ok (.aload_n 0, 1) := by decide +kernel
theorem dX11_message_39 : decode cX11_message 39 = .ok (.aload_n 2, 1) := by decide +kernel
theorem dX11_message_40 : decode cX11_message 40 = .ok (.putfield 65, 3) := by decide +kernel
theorem dX11_message_43 : decode cX11_message 43 = .ok (.aload_n 0, 1) := by decide +kernel
theorem dX11_message_44 : decode cX11_message 44 = .ok (.getfield 61, 3) := by decide +kernel
theorem dX11_message_47 : decode cX11_message 47 = .ok (.getfield 109, 3) := by decide +kernel
theorem dX11_message_50 : decode cX11_message 50 = .ok (.ireturn, 1) := by decide +kernel
theorem kt_542 : Cond.fieldLink RX11 65 "PostGate" "spare" "LPostGate$Message;" ∈ tb := tb_at (i := 465) (by decide +kernel) (by decide +kernel)
theorem kt_543 : Cond.code yX4_read cX4_read 5 (some .boolean) ∈ tb := tb_at (i := 798) (by decide +kernel) (by decide +kernel)
theorem kt_544 : Cond.methodLink RX11 105 yX4_read ∈ tb := tb_at (i := 795) (by decide +kernel) (by decide +kernel)
theorem kt_545 : Cond.instanceMethod yX4_read ∈ tb := tb_at (i := 796) (by decide +kernel) (by decide +kernel)
theorem kt_546 : Cond.selects RX4 yX4_read yX4_read ∈ tb := tb_at (i := 797) (by decide +kernel) (by decide +kernel)
def HLD (p0 p1 p2 : Nat → Int32) (n : Nat) (g : Nat → Nat → Nat) : Prop := ∀ j, j < n → p0 j = nI (g 0 j) ∧ p1 j = nI (g 1 j) ∧ p2 j = nI (g 2 j)
theorem HLD.nil {p0 p1 p2 : Nat → Int32} {g : Nat → Nat → Nat} : HLD p0 p1 p2 0 g := fun _ h => absurd h (Nat.not_lt_zero _)
theorem gpt_ne {g : Nat → Nat → Nat} {n a b c q j : Nat} (h : j ≠ n) : gpt g n a b c q j = g q j := if_neg h
theorem gpt_0 {g : Nat → Nat → Nat} {n a b c : Nat} : gpt g n a b c 0 n = a := by
  unfold gpt
  rw [if_pos rfl, if_pos rfl]
theorem gpt_1 {g : Nat → Nat → Nat} {n a b c : Nat} : gpt g n a b c 1 n = b := by
  unfold gpt
  rw [if_pos rfl, if_neg (by decide), if_pos rfl]
theorem gpt_2 {g : Nat → Nat → Nat} {n a b c : Nat} : gpt g n a b c 2 n = c := by
  unfold gpt
  rw [if_pos rfl, if_neg (by decide), if_neg (by decide)]
theorem updc_at {f : Nat → Int32} {k : Nat} {x : Int32} : upd f k x k = x := if_pos rfl
theorem updc_ne {f : Nat → Int32} {k i : Nat} {x : Int32} (h : i ≠ k) : upd f k x i = f i := if_neg h
theorem HLD.add {p0 p1 p2 : Nat → Int32} {n a k e : Nat} {g : Nat → Nat → Nat} (h : HLD p0 p1 p2 n g) : HLD (upd p0 n (nI a)) (upd p1 n (nI k)) (upd p2 n (nI e)) (n + 1) (gpt g n a k e) := by
  intro j hj
  by_cases c : j = n
  · subst c
    rw [gpt_0, gpt_1, gpt_2, updc_at, updc_at, updc_at]
    exact ⟨rfl, rfl, rfl⟩
  · rw [gpt_ne c, gpt_ne c, gpt_ne c, updc_ne c, updc_ne c, updc_ne c]
    exact h j (by omega)
theorem HLD.con {p0 p1 p2 : Nat → Int32} {n e : Nat} {g : Nat → Nat → Nat} (h : HLD p0 p1 p2 n g) (hn : 0 < n) : HLD p0 p1 (upd p2 (n - 1) (nI e)) n (gpt g (n - 1) (g 0 (n - 1)) (g 1 (n - 1)) e) := by
  intro j hj
  have b := h j hj
  by_cases c : j = n - 1
  · rw [c, gpt_0, gpt_1, gpt_2, updc_at]
    rw [c] at b
    exact ⟨b.1, b.2.1, rfl⟩
  · rw [gpt_ne c, gpt_ne c, gpt_ne c, updc_ne c]
    exact b
def MSX (T : Nat → Nat) (z : Nat) (r : Int32) (X : MRA) : Prop := MR T z 0 gz 0 X ∧ ((X = none ∧ r = (-1)) ∨ ∃ q : Nat × (Nat → Nat → Nat) × Nat, X = some q ∧ r = nI q.1 ∧ 0 < q.1 ∧ q.1 ≤ 20)
def RDX (T : Nat → Nat) (z : Nat) (r : Int32) (q : Nat × (Nat → Nat → Nat) × Nat) : Prop := (r = 1 ∧ 0 < q.1 ∧ q.1 ≤ 20 ∧ MR T z 0 gz 0 (some q)) ∨ (r = 0 ∧ MR T z 0 gz 0 none)
theorem rdx_1 {T U : Nat → Nat} {z n b : Nat} {g : Nat → Nat → Nat} (h : ∀ j, j < z → T j = U j) (hn : 0 < n) (h20 : n ≤ 20) (q : MR T z 0 gz 0 (finm n g b)) : RDX U z 1 (n, g, b) := by
  rw [finm_p (by omega)] at q
  exact Or.inl ⟨rfl, hn, h20, q.cg h⟩
theorem rdx_0 {T U : Nat → Nat} {z n b : Nat} {g : Nat → Nat → Nat} (h : ∀ j, j < z → T j = U j) (hn : n = 0) (q : MR T z 0 gz 0 (finm n g b)) : RDX U z 0 (n, g, b) := by
  rw [finm_0 hn] at q
  exact Or.inr ⟨rfl, q.cg h⟩
theorem rdx_n {T U : Nat → Nat} {z n b : Nat} {g : Nat → Nat → Nat} (h : ∀ j, j < z → T j = U j) (q : MR T z 0 gz 0 none) : RDX U z 0 (n, g, b) := Or.inr ⟨rfl, q.cg h⟩
theorem rdx_y {T : Nat → Nat} {z : Nat} {r : Int32} {q : Nat × (Nat → Nat → Nat) × Nat} (h : RDX T z r q) (c : ¬ r = 0) : MSX T z (nI q.1) (some q) := by
  rcases h with ⟨h1, h2, h3, h4⟩ | ⟨h1, h2⟩
  · exact ⟨h4, Or.inr ⟨q, rfl, rfl, h2, h3⟩⟩
  · exact absurd h1 c
theorem rdx_z {T : Nat → Nat} {z : Nat} {r : Int32} {q : Nat × (Nat → Nat → Nat) × Nat} (h : RDX T z r q) (c : r = 0) : MSX T z (-1) none := by
  rcases h with ⟨h1, -⟩ | ⟨h1, h2⟩
  · exact absurd (h1.symm.trans c) (by decide)
  · exact ⟨h2, Or.inl ⟨rfl, rfl⟩⟩
def CNT (P : Nat → Prop) : Nat → Nat → Prop
  | 0, w => w = 0
  | n + 1, w => (P n ∧ ∃ v, w = v + 1 ∧ CNT P n v) ∨ (¬ P n ∧ CNT P n w)
theorem CNT.y {P : Nat → Prop} {n w : Nat} (h : CNT P n w) (c : P n) : CNT P (n + 1) (w + 1) := Or.inl ⟨c, w, rfl, h⟩
theorem CNT.n {P : Nat → Prop} {n w : Nat} (h : CNT P n w) (c : ¬ P n) : CNT P (n + 1) w := Or.inr ⟨c, h⟩
theorem CNT.uniq {P Q : Nat → Prop} : ∀ n w v : Nat, (∀ j, j < n → (P j ↔ Q j)) → CNT P n w → CNT Q n v → w = v := by
  intro n
  induction n with
  | zero =>
    intro w v _ h1 h2
    have a1 : w = 0 := h1
    have a2 : v = 0 := h2
    omega
  | succ n ih =>
    intro w v hPQ h1 h2
    have hq := fun j hj => hPQ j (Nat.lt_succ_of_lt hj)
    have hn := hPQ n (Nat.lt_succ_self n)
    rcases h1 with ⟨a1, a2, a3, a4⟩ | ⟨a1, a2⟩ <;> rcases h2 with ⟨b1, b2, b3, b4⟩ | ⟨b1, b2⟩
    · have e := ih _ _ hq a4 b4
      omega
    · exact absurd (hn.mp a1) b1
    · exact absurd (hn.mpr b1) a1
    · exact ih _ _ hq a2 b2
theorem ix_of {F : Nat → va_E} {a n : Nat} {c : ClassId} {f : Nat → Int32} (hF : F a = .inl (c, n, .inl f)) (h : ∃ g : Nat → Int32, F a = .inl (c, n, .inl g) ∧ IX g) : IX f := by
  obtain ⟨g, h1, h2⟩ := h
  have e := hF.symm.trans h1
  injection e with e
  injection e with _ e
  injection e with _ e
  injection e with e
  rw [e]
  exact h2
set_option maxHeartbeats 4000000 in
set_option maxRecDepth 100000 in
theorem s_X4_takeLine_x (l : Launch) (dC : Nat → ClassId) (dI : Nat → Nat → Nat) (cs : Nat → ClassId) (ty : TyM) (L : List Nat) (sz : Nat) (F : Nat → va_E) (h0 : Nat) (ρ : Nat) (tx : Nat) (y0 : Nat) (y1 : Nat) (y2 : Nat) (rx : Nat) (z : Nat) (a1 : Nat) (b1 : Nat) (cn : Nat) (f : Nat → Int32) (e0 : Nat → Int32) (e1 : Nat → Int32) (e2 : Nat → Int32) (g0 : Nat → Nat → Nat) (v0 : Int32) (hW : WT ty L) (hL_h0 : h0 ∈ L) (hT_h0 : ty h0 = (4, ρ, [tx, y0, y1, y2])) (hL_tx : tx ∈ L) (hT_tx : ty tx = (0, ρ + 1, [rx, 3000])) (hF0 : F h0 = .inr (4, [.ref tx, .ref y0, .ref y1, .ref y2, .int (nI cn), .int v0])) (hFx : F tx = .inr (0, [.ref rx, .int (nI z), .int 0])) (hFr : F rx = .inl (cs 16, 3000, .inl f)) (hFy0 : F y0 = .inl (cs 16, 20, .inl e0)) (hFy1 : F y1 = .inl (cs 16, 20, .inl e1)) (hFy2 : F y2 = .inl (cs 16, 20, .inl e2)) (hab : a1 < b1) (hbz : b1 ≤ z) (hz3 : z ≤ 3000) (hcn : cn ≤ 20) (hle : FSF (clf f) 0 a1 z b1) (hhl : HLD e0 e1 e2 cn g0) : Met l yX4_takeLine (.code yX4_takeLine cX4_takeLine 4 (some .boolean) :: tb) ({ frames := 3, cells := 0, slots := 0, locals := 63 }) (va_Pc [.ref h0, .int (nI a1), .int (nI b1)] (PT (dC, dI) cs ty L F sz)) (va_Qi (fun (r : Int32) (gg : Nat × (Nat → Nat → Nat)) => TLR (clf f) z cn g0 a1 b1 gg.1 gg.2 r) (fun (gg : Nat × (Nat → Nat → Nat)) T9 => ∃ F2 : Nat → va_E, ∃ p0 : Nat → Int32, ∃ p1 : Nat → Int32, ∃ p2 : Nat → Int32, QT (dC, dI) cs ty L [ρ, ρ + 2, ρ + 3] F F2 (va_A (va_pl L F) sz) T9 ∧ F2 h0 = .inr (4, [.ref tx, .ref y0, .ref y1, .ref y2, .int (nI gg.1), .int v0]) ∧ F2 y0 = .inl (cs 16, 20, .inl p0) ∧ F2 y1 = .inl (cs 16, 20, .inl p1) ∧ F2 y2 = .inl (cs 16, 20, .inl p2) ∧ HLD p0 p1 p2 gg.1 gg.2) (va_A (va_pl L F) sz)) 0 0 (va_A (va_pl L F) sz) := by
  refine Met.ofW (cc := cX4_takeLine) (maxL := 4) (ret := (some .boolean)) (by decide) rfl ?_
  intro p e s m args below meth c s₁ B hml hv
  obtain ⟨rfl, hsz, hP, hK, hD0, hE, hO⟩ := hv
  have hx := B.exec
  have hb := B.bytes
  have hr := B.returns
  have hts : ∀ w ∈ tb, w.before _ s = true := fun w h => atoms_spec (ws := .code yX4_takeLine cX4_takeLine 4 (some .boolean) :: tb) B.pre w (List.mem_cons_of_mem _ h)
  have hown : s.vm.findClass RX4 = some m.cls := findClass_of_methodNamed B.named
  have hlocks := B.notSynchronized
  subst hsz
  have hD := hD0.self (sz := s.heap.size)
  generalize hAe : va_A (va_pl L F) s.heap.size = A at hD ⊢
  have hA : ∀ q : Nat, s.heap.size ≤ q → A q := fun q h => by rw [← hAe]; exact Or.inr h
  have hS : va_S A s.heap s.heap [] := va_S.rf
  have hR : FR ty [ρ, ρ + 2, ρ + 3] F F := FR.refl
  have hl := lv_entry ([.ref h0, .int (nI a1), .int (nI b1)]) (n := 4) (Nat.le_of_ble_eq_true rfl)
  rw [lg_entry_eq]
  generalize (lg_sl ([.ref h0, .int (nI a1), .int (nI b1)]) ++ List.replicate (4 - (lg_sl ([.ref h0, .int (nI a1), .int (nI b1)])).length) Slot.unset).toArray = ls at hl ⊢
  have hl : lv_has ls 4 [(0, .ref h0), (1, .int (nI a1)), (2, .int (nI b1))] := hl
  obtain ⟨_, hi_1, hi_2, hi_3, _, ht_4, ht_5, ht_6⟩ := hW.msg hL_h0 hT_h0
  have hq_7 := ix_of hFy0 (hO.idx hi_1 ht_4)
  have hq_8 := ix_of hFy1 (hO.idx hi_2 ht_5)
  have hq_9 := ix_of hFy2 (hO.idx hi_3 ht_6)
  refine lv_aload_n hx hb dX4_takeLine_0 rfl (lv_at hl 0 rfl) ?_
  refine pg_get (ci := 4) (v := .ref tx) (C := RX4) (T := TX4) (N := 6) hx hb hts it_4 hown hK hP hL_h0 hF0 rfl 0 (by decide) (hts _ kt_207) (fun _ h9 => h9) rfl dX4_takeLine_1 ?_
  refine lv_iload_n hx hb dX4_takeLine_4 rfl (lv_at hl 1 rfl) ?_
  obtain ⟨hi_10, ht_11, hq_12⟩ := hW.bytes hL_tx hT_tx
  have hFc := pg_free hD hS hA
  refine va_calli (va_runV (As := [.int (nI a1)]) (rest := []) ⟨hx, hb, hml, hown, hts⟩ (s_X0_at_e l dC dI cs ty L s.heap.size F tx (ρ + 1) rx 3000 z a1 f hW hL_tx hT_tx hFx hFr (by omega) (by omega) (by omega)) ⟨callB_of 1 hts (gi kt_21) rfl rfl rfl (hts _ kt_1) (hts _ kt_199) (by decide +kernel) ⟨Nat.le_of_ble_eq_true rfl, Nat.le_of_ble_eq_true rfl⟩, (hts _ kt_23), (hts _ kt_24)⟩ ⟨fun a U g mk q => ⟨q.1, PT.calling q.2⟩, pg_recv hK hP hL_tx hFx (q := (RX0, TX0, 3)) rfl, fun U hU hWm => ⟨rfl, PT.mk hU hWm hP hK hD hE hO⟩⟩ rfl rfl hl.1 rfl (lv_room (Nat.le_of_ble_eq_true rfl)) dX4_takeLine_5 ⟨by show _ + 0 ≤ 0; omega, by show _ + 0 ≤ 0; omega⟩) hS (fun q _ h => hFc q h) hFc (fun r_13 u t H1 locs ht hvm hw hB hz1 hk1 hS => ?_)
  obtain ⟨F_14, hB1⟩ := hB
  obtain rfl : F = F_14 := (funext (fun a => hB1.2.2.2 a List.not_mem_nil)).symm
  obtain ⟨hP, hD, hO, hR⟩ := QT.back hB1 ht hFc hR (fun q h => absurd h List.not_mem_nil)
  generalize H1 = H at hP hS ⊢
  have hw : r_13 = f a1 := hw
  have hw_15 := hw
  subst hw_15
  have hFc := pg_free hD hS hA
  refine va_calli (va_runS (As := [.int (f a1)]) (rest := []) ⟨hx, hb, hml, hown, hts⟩ (s_X0_isWhite_e l dC dI cs ty L H.size F (f a1) hW ) ⟨callB_of 1 hts (gi kt_195) rfl rfl rfl (hts _ kt_1) (hts _ kt_215) (by decide +kernel) ⟨Nat.le_of_ble_eq_true rfl, Nat.le_of_ble_eq_true rfl⟩, (hts _ kt_197)⟩ ⟨fun a U g mk q => ⟨q.1, PT.calling q.2⟩, fun U hU hWm => ⟨rfl, PT.mk hU hWm hP hK hD hE hO⟩⟩ rfl rfl hl.1 rfl (lv_room (Nat.le_of_ble_eq_true rfl)) dX4_takeLine_8 ⟨by show _ + 0 ≤ 0; omega, by show _ + 0 ≤ 0; omega⟩) hS (fun q _ h => hFc q h) hFc (fun r_16 u t H1 locs ht hvm hw hB hz1 hk1 hS => ?_)
  obtain ⟨F_17, hB1⟩ := hB
  obtain rfl : F = F_17 := (funext (fun a => hB1.2.2.2 a List.not_mem_nil)).symm
  obtain ⟨hP, hD, hO, hR⟩ := QT.back hB1 ht hFc hR (fun q h => absurd h List.not_mem_nil)
  generalize H1 = H at hP hS ⊢
  have hw : r_16 = (if (f a1) = 32 ∨ (f a1) = 9 then 1 else 0) := hw
  have hw_18 := hw
  refine lv_if_eq (tgt := 46) hx hb dX4_takeLine_11 (by decide) (fun c_19 => ?_) (fun c_19 => ?_)
  ·
    refine lv_aload_n hx hb dX4_takeLine_46 rfl (lv_at hl 0 rfl) ?_
    refine pg_get (ci := 4) (v := .ref tx) (C := RX4) (T := TX4) (N := 6) hx hb hts it_4 hown hK hP hL_h0 hF0 rfl 0 (by decide) (hts _ kt_207) (fun _ h9 => h9) rfl dX4_takeLine_47 ?_
    refine lv_bipush (v := 58) hx hb dX4_takeLine_50 (by decide) ?_
    refine lv_iload_n hx hb dX4_takeLine_52 rfl (lv_at hl 1 rfl) ?_
    refine lv_iload_n hx hb dX4_takeLine_53 rfl (lv_at hl 2 rfl) ?_
    have hFc := pg_free hD hS hA
    refine va_calli (va_runV (As := [.int 58, .int (nI a1), .int (nI b1)]) (rest := []) ⟨hx, hb, hml, hown, hts⟩ (s_X0_find_g l dC dI cs ty L H.size F tx (ρ + 1) rx 3000 z a1 b1 f 58 hW hL_tx hT_tx hFx hFr (by omega) (by omega) (by omega) (by omega)) ⟨callB_of 3 hts (gi kt_122) rfl rfl rfl (hts _ kt_1) (hts _ kt_216) (by decide +kernel) ⟨Nat.le_of_ble_eq_true rfl, Nat.le_of_ble_eq_true rfl⟩, (hts _ kt_124), (hts _ kt_125)⟩ ⟨fun a U g mk q => ⟨q.1, PT.calling q.2⟩, pg_recv hK hP hL_tx hFx (q := (RX0, TX0, 3)) rfl, fun U hU hWm => ⟨rfl, PT.mk hU hWm hP hK hD hE hO⟩⟩ rfl rfl hl.1 rfl (lv_room (Nat.le_of_ble_eq_true rfl)) dX4_takeLine_54 ⟨by show _ + 0 ≤ 0; omega, by show _ + 0 ≤ 0; omega⟩) hS (fun q _ h => hFc q h) hFc (fun r_20 u t H1 locs ht hvm hw hB hz1 hk1 hS => ?_)
    obtain ⟨F_21, hB1⟩ := hB
    obtain rfl : F = F_21 := (funext (fun a => hB1.2.2.2 a List.not_mem_nil)).symm
    obtain ⟨hP, hD, hO, hR⟩ := QT.back hB1 ht hFc hR (fun q h => absurd h List.not_mem_nil)
    generalize H1 = H at hP hS ⊢
    have hw : (∃ k : Nat, r_20 = nI k ∧ FSX f 58 a1 b1 k) := hw
    have hw_22 := hw
    obtain ⟨kk, e9, hfx⟩ := hw_22
    subst e9
    have hfc := fsx_2 hfx
    have hfa := hfx.1
    have hfb := hfx.2.1
    refine lv_istore_n (lv' := [(3, .int (nI kk)), (0, .ref h0), (1, .int (nI a1)), (2, .int (nI b1))]) hx hb dX4_takeLine_57 rfl hl (by decide) rfl (fun ls hl => ?_)
    refine lv_aload_n hx hb dX4_takeLine_58 rfl (lv_at hl 1 rfl) ?_
    refine pg_get (ci := 4) (v := .int (nI cn)) (C := RX4) (T := TX4) (N := 6) hx hb hts it_4 hown hK hP hL_h0 hF0 rfl 4 (by decide) (hts _ kt_203) (fun _ h9 => h9) rfl dX4_takeLine_59 ?_
    refine lv_bipush (v := 20) hx hb dX4_takeLine_62 (by decide) ?_
    refine lv_icmp_eq (tgt := 84) hx hb dX4_takeLine_64 (by decide) (fun c_23 => ?_) (fun c_23 => ?_)
    ·
      have hc20 : ¬ cn < 20 := by have h9 : cn = 20 := (nI_eq (b := 20) (by omega) (by omega)).mp c_23; omega
      refine lv_iconst (v := 0) hx hb dX4_takeLine_84 (by decide) ?_
      refine W.widen (k := 0) (n := 0) (by omega) (by omega) ?_
      exact W.zret (v := 0) (ty := .boolean) hx hb hr (by decide) (fun t ht hWm => ⟨⟨0, (cn, g0), rfl, (tlr_bad hab hle (clg1n (ifb0 hw_18 c_19)) hcn (fun q => hc20 q.1)), ⟨F, e0, e1, e2, QT.mk ht hP hD hO hR, hF0, hFy0, hFy1, hFy2, hhl⟩⟩, hS.F ht⟩) hS.2.2 dX4_takeLine_85
    ·
      have hc20 : cn < 20 := by have h9 : cn ≠ 20 := fun h => c_23 (by rw [h]; rfl); omega
      refine lv_iload_n hx hb dX4_takeLine_67 rfl (lv_at hl 0 rfl) ?_
      refine lv_iload_n hx hb dX4_takeLine_68 rfl (lv_at hl 3 rfl) ?_
      refine lv_icmp_eq (tgt := 84) hx hb dX4_takeLine_69 (by decide) (fun c_26 => ?_) (fun c_26 => ?_)
      ·
        have hke : kk = b1 := (nI_eq (by omega) (by omega)).mp c_26
        refine lv_iconst (v := 0) hx hb dX4_takeLine_84 (by decide) ?_
        refine W.widen (k := 0) (n := 0) (by omega) (by omega) ?_
        exact W.zret (v := 0) (ty := .boolean) hx hb hr (by decide) (fun t ht hWm => ⟨⟨0, (cn, g0), rfl, (tlr_bad hab hle (clg1n (ifb0 hw_18 c_19)) hcn (fun q => fln_n hfc (Or.inl hke) q.2)), ⟨F, e0, e1, e2, QT.mk ht hP hD hO hR, hF0, hFy0, hFy1, hFy2, hhl⟩⟩, hS.F ht⟩) hS.2.2 dX4_takeLine_85
      ·
        have hke : kk ≠ b1 := fun h => c_26 (by rw [h])
        refine lv_aload_n hx hb dX4_takeLine_72 rfl (lv_at hl 1 rfl) ?_
        refine pg_get (ci := 4) (v := .ref tx) (C := RX4) (T := TX4) (N := 6) hx hb hts it_4 hown hK hP hL_h0 hF0 rfl 0 (by decide) (hts _ kt_207) (fun _ h9 => h9) rfl dX4_takeLine_73 ?_
        refine lv_iload_n hx hb dX4_takeLine_76 rfl (lv_at hl 2 rfl) ?_
        refine lv_iload_n hx hb dX4_takeLine_77 rfl (lv_at hl 0 rfl) ?_
        have hFc := pg_free hD hS hA
        refine va_calli (va_runS (As := [.ref tx, .int (nI a1), .int (nI kk)]) (rest := []) ⟨hx, hb, hml, hown, hts⟩ (s_X4_isFieldName_e l dC dI cs ty L H.size F tx (ρ + 1) rx 3000 z a1 kk f hW hL_tx hT_tx hFx hFr (by omega) (by omega) (by omega) (by omega)) ⟨callB_of 3 hts (gi kt_217) rfl rfl rfl (hts _ kt_211) (hts _ kt_218) (by decide +kernel) ⟨Nat.le_of_ble_eq_true rfl, Nat.le_of_ble_eq_true rfl⟩, (hts _ kt_219)⟩ ⟨fun a U g mk q => ⟨q.1, PT.calling q.2⟩, fun U hU hWm => ⟨rfl, PT.mk hU hWm hP hK hD hE hO⟩⟩ rfl rfl hl.1 rfl (lv_room (Nat.le_of_ble_eq_true rfl)) dX4_takeLine_78 ⟨by show _ + 0 ≤ 0; omega, by show _ + 0 ≤ 0; omega⟩) hS (fun q _ h => hFc q h) hFc (fun r_29 u t H1 locs ht hvm hw hB hz1 hk1 hS => ?_)
        obtain ⟨F_30, hB1⟩ := hB
        obtain rfl : F = F_30 := (funext (fun a => hB1.2.2.2 a List.not_mem_nil)).symm
        obtain ⟨hP, hD, hO, hR⟩ := QT.back hB1 ht hFc hR (fun q h => absurd h List.not_mem_nil)
        generalize H1 = H at hP hS ⊢
        have hw : (r_29 = 1 ∧ FNM (clf f) a1 kk) ∨ (r_29 = 0 ∧ ¬ FNM (clf f) a1 kk) := hw
        have hw_31 := hw
        refine lv_if_ne (tgt := 86) hx hb dX4_takeLine_81 (by decide) (fun c_32 => ?_) (fun c_32 => ?_)
        ·
          refine lv_aload_n hx hb dX4_takeLine_86 rfl (lv_at hl 1 rfl) ?_
          refine pg_get (ci := 4) (v := .ref y0) (C := RX4) (T := TX4) (N := 6) hx hb hts it_4 hown hK hP hL_h0 hF0 rfl 1 (by decide) (hts _ kt_205) (fun _ h9 => h9) rfl dX4_takeLine_87 ?_
          refine lv_aload_n hx hb dX4_takeLine_90 rfl (lv_at hl 1 rfl) ?_
          refine pg_get (ci := 4) (v := .int (nI cn)) (C := RX4) (T := TX4) (N := 6) hx hb hts it_4 hown hK hP hL_h0 hF0 rfl 4 (by decide) (hts _ kt_203) (fun _ h9 => h9) rfl dX4_takeLine_91 ?_
          refine lv_iload_n hx hb dX4_takeLine_94 rfl (lv_at hl 2 rfl) ?_
          refine pg_iast hx hb hK hP hD hS hi_1 0 hFy0 rfl (vp_in_nI (by omega) (by omega)) dX4_takeLine_95 (fun H locs hP hD hS => ?_)
          obtain ⟨F_33, he_34, hP, hD, hO, hR⟩ : ∃ G, G = va_up F y0 (.inl (cs 16, 20, .inl (upd e0 ((nI cn)).toNatClampNeg ((nI a1))))) ∧ va_P (dC, dI) vwCl (va_pl L G) H ∧ va_D A (va_pl L G) ∧ OK cs ty L G ∧ FR ty [ρ, ρ + 2, ρ + 3] F G := ⟨_, rfl, hP, hD, hO.up (sh.idx ht_4 ⟨_, rfl, ix_upd hq_7 _ _ (by omega)⟩), hR.up ht_4 (by simp)⟩
          have hF_35 : F_33 y0 = .inl (cs 16, 20, .inl (upd e0 ((nI cn)).toNatClampNeg ((nI a1)))) := by rw [he_34]; exact up_self
          have hF_36 : F_33 h0 = .inr (4, [.ref tx, .ref y0, .ref y1, .ref y2, .int (nI cn), .int v0]) := by rw [he_34, up_ne (ne_ty hT_h0 ht_4 (by simp))]; exact hF0
          have hF_37 : F_33 tx = .inr (0, [.ref rx, .int (nI z), .int 0]) := by rw [he_34, up_ne (ne_ty hT_tx ht_4 (by simp))]; exact hFx
          have hF_38 : F_33 rx = .inl (cs 16, 3000, .inl f) := by rw [he_34, up_ne (ne_ty ht_11 ht_4 (by simp))]; exact hFr
          have hF_39 : F_33 y1 = .inl (cs 16, 20, .inl e1) := by rw [he_34, up_ne (ne_ty3 ht_5 ht_4 (by show ρ + 2 ≠ ρ; omega))]; exact hFy1
          have hF_40 : F_33 y2 = .inl (cs 16, 20, .inl e2) := by rw [he_34, up_ne (ne_ty3 ht_6 ht_4 (by show ρ + 3 ≠ ρ; omega))]; exact hFy2
          obtain ⟨f_41, hF_35, hq_42, hfe_43⟩ : ∃ f : Nat → Int32, F_33 y0 = .inl (cs 16, 20, .inl f) ∧ IX f ∧ f = upd e0 ((nI cn)).toNatClampNeg ((nI a1)) := ⟨_, hF_35, ix_upd hq_7 _ _ (by omega), rfl⟩
          refine lv_aload_n hx hb dX4_takeLine_96 rfl (lv_at hl 1 rfl) ?_
          refine pg_get (ci := 4) (v := .ref y1) (C := RX4) (T := TX4) (N := 6) hx hb hts it_4 hown hK hP hL_h0 hF_36 rfl 2 (by decide) (hts _ kt_204) (fun _ h9 => h9) rfl dX4_takeLine_97 ?_
          refine lv_aload_n hx hb dX4_takeLine_100 rfl (lv_at hl 1 rfl) ?_
          refine pg_get (ci := 4) (v := .int (nI cn)) (C := RX4) (T := TX4) (N := 6) hx hb hts it_4 hown hK hP hL_h0 hF_36 rfl 4 (by decide) (hts _ kt_203) (fun _ h9 => h9) rfl dX4_takeLine_101 ?_
          refine lv_iload_n hx hb dX4_takeLine_104 rfl (lv_at hl 0 rfl) ?_
          refine pg_iast hx hb hK hP hD hS hi_2 0 hF_39 rfl (vp_in_nI (by omega) (by omega)) dX4_takeLine_105 (fun H locs hP hD hS => ?_)
          obtain ⟨F_44, he_45, hP, hD, hO, hR⟩ : ∃ G, G = va_up F_33 y1 (.inl (cs 16, 20, .inl (upd e1 ((nI cn)).toNatClampNeg ((nI kk))))) ∧ va_P (dC, dI) vwCl (va_pl L G) H ∧ va_D A (va_pl L G) ∧ OK cs ty L G ∧ FR ty [ρ, ρ + 2, ρ + 3] F G := ⟨_, rfl, hP, hD, hO.up (sh.idx ht_5 ⟨_, rfl, ix_upd hq_8 _ _ (by omega)⟩), hR.up ht_5 (by simp)⟩
          have hF_46 : F_44 y1 = .inl (cs 16, 20, .inl (upd e1 ((nI cn)).toNatClampNeg ((nI kk)))) := by rw [he_45]; exact up_self
          have hF_47 : F_44 y0 = .inl (cs 16, 20, .inl f_41) := by rw [he_45, up_ne (ne_ty3 ht_4 ht_5 (by show ρ ≠ ρ + 2; omega))]; exact hF_35
          have hF_48 : F_44 h0 = .inr (4, [.ref tx, .ref y0, .ref y1, .ref y2, .int (nI cn), .int v0]) := by rw [he_45, up_ne (ne_ty hT_h0 ht_5 (by simp))]; exact hF_36
          have hF_49 : F_44 tx = .inr (0, [.ref rx, .int (nI z), .int 0]) := by rw [he_45, up_ne (ne_ty hT_tx ht_5 (by simp))]; exact hF_37
          have hF_50 : F_44 rx = .inl (cs 16, 3000, .inl f) := by rw [he_45, up_ne (ne_ty ht_11 ht_5 (by simp))]; exact hF_38
          have hF_51 : F_44 y2 = .inl (cs 16, 20, .inl e2) := by rw [he_45, up_ne (ne_ty3 ht_6 ht_5 (by show ρ + 3 ≠ ρ + 2; omega))]; exact hF_40
          obtain ⟨f_52, hF_46, hq_53, hfe_54⟩ : ∃ f : Nat → Int32, F_44 y1 = .inl (cs 16, 20, .inl f) ∧ IX f ∧ f = upd e1 ((nI cn)).toNatClampNeg ((nI kk)) := ⟨_, hF_46, ix_upd hq_8 _ _ (by omega), rfl⟩
          refine lv_aload_n hx hb dX4_takeLine_106 rfl (lv_at hl 1 rfl) ?_
          refine pg_get (ci := 4) (v := .ref y2) (C := RX4) (T := TX4) (N := 6) hx hb hts it_4 hown hK hP hL_h0 hF_48 rfl 3 (by decide) (hts _ kt_220) (fun _ h9 => h9) rfl dX4_takeLine_107 ?_
          refine lv_aload_n hx hb dX4_takeLine_110 rfl (lv_at hl 1 rfl) ?_
          refine pg_get (ci := 4) (v := .int (nI cn)) (C := RX4) (T := TX4) (N := 6) hx hb hts it_4 hown hK hP hL_h0 hF_48 rfl 4 (by decide) (hts _ kt_203) (fun _ h9 => h9) rfl dX4_takeLine_111 ?_
          refine lv_iload_n hx hb dX4_takeLine_114 rfl (lv_at hl 3 rfl) ?_
          refine pg_iast hx hb hK hP hD hS hi_3 0 hF_51 rfl (vp_in_nI (by omega) (by omega)) dX4_takeLine_115 (fun H locs hP hD hS => ?_)
          obtain ⟨F_55, he_56, hP, hD, hO, hR⟩ : ∃ G, G = va_up F_44 y2 (.inl (cs 16, 20, .inl (upd e2 ((nI cn)).toNatClampNeg ((nI b1))))) ∧ va_P (dC, dI) vwCl (va_pl L G) H ∧ va_D A (va_pl L G) ∧ OK cs ty L G ∧ FR ty [ρ, ρ + 2, ρ + 3] F G := ⟨_, rfl, hP, hD, hO.up (sh.idx ht_6 ⟨_, rfl, ix_upd hq_9 _ _ (by omega)⟩), hR.up ht_6 (by simp)⟩
          have hF_57 : F_55 y2 = .inl (cs 16, 20, .inl (upd e2 ((nI cn)).toNatClampNeg ((nI b1)))) := by rw [he_56]; exact up_self
          have hF_58 : F_55 y1 = .inl (cs 16, 20, .inl f_52) := by rw [he_56, up_ne (ne_ty3 ht_5 ht_6 (by show ρ + 2 ≠ ρ + 3; omega))]; exact hF_46
          have hF_59 : F_55 y0 = .inl (cs 16, 20, .inl f_41) := by rw [he_56, up_ne (ne_ty3 ht_4 ht_6 (by show ρ ≠ ρ + 3; omega))]; exact hF_47
          have hF_60 : F_55 h0 = .inr (4, [.ref tx, .ref y0, .ref y1, .ref y2, .int (nI cn), .int v0]) := by rw [he_56, up_ne (ne_ty hT_h0 ht_6 (by simp))]; exact hF_48
          have hF_61 : F_55 tx = .inr (0, [.ref rx, .int (nI z), .int 0]) := by rw [he_56, up_ne (ne_ty hT_tx ht_6 (by simp))]; exact hF_49
          have hF_62 : F_55 rx = .inl (cs 16, 3000, .inl f) := by rw [he_56, up_ne (ne_ty ht_11 ht_6 (by simp))]; exact hF_50
          obtain ⟨f_63, hF_57, hq_64, hfe_65⟩ : ∃ f : Nat → Int32, F_55 y2 = .inl (cs 16, 20, .inl f) ∧ IX f ∧ f = upd e2 ((nI cn)).toNatClampNeg ((nI b1)) := ⟨_, hF_57, ix_upd hq_9 _ _ (by omega), rfl⟩
          refine lv_aload_n hx hb dX4_takeLine_116 rfl (lv_at hl 1 rfl) ?_
          refine lv_dup hx hb dX4_takeLine_117 rfl ?_
          refine pg_get (ci := 4) (v := .int (nI cn)) (C := RX4) (T := TX4) (N := 6) hx hb hts it_4 hown hK hP hL_h0 hF_60 rfl 4 (by decide) (hts _ kt_203) (fun _ h9 => h9) rfl dX4_takeLine_118 ?_
          refine lv_iconst (v := 1) hx hb dX4_takeLine_121 (by decide) ?_
          refine lv_iadd hx hb dX4_takeLine_122 ?_
          refine lv_topi (fun x_66 ex_66 => ?_)
          obtain rfl : x_66 = (nI (cn + 1)) := ex_66.trans (nI_1 _)
          refine pg_put (ci := 4) (v := .int (nI (cn + 1))) (ty := .int) (C := RX4) (T := TX4) (N := 6) hx hb hts it_4 tyX4 tyX4_ok nmX4 hown hK hP hD hS hL_h0 hF_60 rfl 4 (by decide) (hts _ kt_203) (fun _ h9 => h9) rfl (by decide +kernel) (rfl) (rfl) (Nat.le_of_ble_eq_true rfl) dX4_takeLine_123 (fun H locs hP hD hS => ?_)
          obtain ⟨F_67, he_68, hP, hD, hO, hR⟩ : ∃ G, G = va_up F_55 h0 (.inr (4, [.ref tx, .ref y0, .ref y1, .ref y2, .int (nI (cn + 1)), .int v0])) ∧ va_P (dC, dI) vwCl (va_pl L G) H ∧ va_D A (va_pl L G) ∧ OK cs ty L G ∧ FR ty [ρ, ρ + 2, ρ + 3] F G := ⟨_, rfl, hP, hD, hO.up (sh.msg hT_h0 ⟨(cn + 1), v0, rfl, (by first | omega | assumption | exact Or.inl rfl | exact Or.inr rfl)⟩), hR.up hT_h0 (by simp)⟩
          have hF_69 : F_67 h0 = .inr (4, [.ref tx, .ref y0, .ref y1, .ref y2, .int (nI (cn + 1)), .int v0]) := by rw [he_68]; exact up_self
          have hF_70 : F_67 y2 = .inl (cs 16, 20, .inl f_63) := by rw [he_68, up_ne (ne_ty ht_6 hT_h0 (by simp))]; exact hF_57
          have hF_71 : F_67 y1 = .inl (cs 16, 20, .inl f_52) := by rw [he_68, up_ne (ne_ty ht_5 hT_h0 (by simp))]; exact hF_58
          have hF_72 : F_67 y0 = .inl (cs 16, 20, .inl f_41) := by rw [he_68, up_ne (ne_ty ht_4 hT_h0 (by simp))]; exact hF_59
          have hF_73 : F_67 tx = .inr (0, [.ref rx, .int (nI z), .int 0]) := by rw [he_68, up_ne (ne_ty hT_tx hT_h0 (by simp))]; exact hF_61
          have hF_74 : F_67 rx = .inl (cs 16, 3000, .inl f) := by rw [he_68, up_ne (ne_ty ht_11 hT_h0 (by simp))]; exact hF_62
          refine lv_iconst (v := 1) hx hb dX4_takeLine_126 (by decide) ?_
          refine W.widen (k := 0) (n := 0) (by omega) (by omega) ?_
          exact W.zret (v := 1) (ty := .boolean) hx hb hr (by decide) (fun t ht hWm => ⟨⟨1, (cn + 1, gpt g0 cn a1 kk b1), rfl, (tlr_fld hab hle (clg1n (ifb0 hw_18 c_19)) hfc hke (bz1 hw_31 c_32) hc20), ⟨F_67, f_41, f_52, f_63, QT.mk ht hP hD hO hR, hF_69, hF_72, hF_71, hF_70, (by rw [hfe_43, hfe_54, hfe_65, nI_clamp (by omega)]; exact hhl.add)⟩⟩, hS.F ht⟩) hS.2.2 dX4_takeLine_127
        ·
          refine lv_iconst (v := 0) hx hb dX4_takeLine_84 (by decide) ?_
          refine W.widen (k := 0) (n := 0) (by omega) (by omega) ?_
          exact W.zret (v := 0) (ty := .boolean) hx hb hr (by decide) (fun t ht hWm => ⟨⟨0, (cn, g0), rfl, (tlr_bad hab hle (clg1n (ifb0 hw_18 c_19)) hcn (fun q => fln_n hfc (Or.inr (bz0 hw_31 c_32)) q.2)), ⟨F, e0, e1, e2, QT.mk ht hP hD hO hR, hF0, hFy0, hFy1, hFy2, hhl⟩⟩, hS.F ht⟩) hS.2.2 dX4_takeLine_85
  ·
    refine lv_aload_n hx hb dX4_takeLine_14 rfl (lv_at hl 0 rfl) ?_
    refine pg_get (ci := 4) (v := .int (nI cn)) (C := RX4) (T := TX4) (N := 6) hx hb hts it_4 hown hK hP hL_h0 hF0 rfl 4 (by decide) (hts _ kt_203) (fun _ h9 => h9) rfl dX4_takeLine_15 ?_
    refine lv_if_le (tgt := 33) hx hb dX4_takeLine_18 (by decide) (fun c_75 => ?_) (fun c_75 => ?_)
    ·
      have hc0 : cn = 0 := by have h9 : cn ≤ 0 := (nI_leI (b := 0) (by omega) (by omega)).mp c_75; omega
      refine lv_aload_n hx hb dX4_takeLine_33 rfl (lv_at hl 0 rfl) ?_
      refine pg_get (ci := 4) (v := .int (nI cn)) (C := RX4) (T := TX4) (N := 6) hx hb hts it_4 hown hK hP hL_h0 hF0 rfl 4 (by decide) (hts _ kt_203) (fun _ h9 => h9) rfl dX4_takeLine_34 ?_
      refine lv_if_le (tgt := 44) hx hb dX4_takeLine_37 (by decide) (fun c_77 => ?_) (fun c_77 => absurd (c_75) c_77)
      refine lv_iconst (v := 0) hx hb dX4_takeLine_44 (by decide) ?_
      refine W.widen (k := 0) (n := 0) (by omega) (by omega) ?_
      exact W.zret (v := 0) (ty := .boolean) hx hb hr (by decide) (fun t ht hWm => ⟨⟨0, (cn, g0), rfl, (tlr_con0 hab hle (clg1 (ifb1 hw_18 c_19)) hc0), ⟨F, e0, e1, e2, QT.mk ht hP hD hO hR, hF0, hFy0, hFy1, hFy2, hhl⟩⟩, hS.F ht⟩) hS.2.2 dX4_takeLine_45
    ·
      have hcp : 0 < cn := posN c_75
      refine lv_aload_n hx hb dX4_takeLine_21 rfl (lv_at hl 0 rfl) ?_
      refine pg_get (ci := 4) (v := .ref y2) (C := RX4) (T := TX4) (N := 6) hx hb hts it_4 hown hK hP hL_h0 hF0 rfl 3 (by decide) (hts _ kt_220) (fun _ h9 => h9) rfl dX4_takeLine_22 ?_
      refine lv_aload_n hx hb dX4_takeLine_25 rfl (lv_at hl 0 rfl) ?_
      refine pg_get (ci := 4) (v := .int (nI cn)) (C := RX4) (T := TX4) (N := 6) hx hb hts it_4 hown hK hP hL_h0 hF0 rfl 4 (by decide) (hts _ kt_203) (fun _ h9 => h9) rfl dX4_takeLine_26 ?_
      refine lv_iconst (v := 1) hx hb dX4_takeLine_29 (by decide) ?_
      refine lv_isub hx hb dX4_takeLine_30 ?_
      refine lv_topi (fun x_79 ex_79 => ?_)
      obtain rfl : x_79 = (nI (cn - 1)) := ex_79.trans (pk_sub (b := 1) (by omega))
      refine lv_iload_n hx hb dX4_takeLine_31 rfl (lv_at hl 2 rfl) ?_
      refine pg_iast hx hb hK hP hD hS hi_3 0 hFy2 rfl (vp_in_nI (by omega) (by omega)) dX4_takeLine_32 (fun H locs hP hD hS => ?_)
      obtain ⟨F_80, he_81, hP, hD, hO, hR⟩ : ∃ G, G = va_up F y2 (.inl (cs 16, 20, .inl (upd e2 ((nI (cn - 1))).toNatClampNeg ((nI b1))))) ∧ va_P (dC, dI) vwCl (va_pl L G) H ∧ va_D A (va_pl L G) ∧ OK cs ty L G ∧ FR ty [ρ, ρ + 2, ρ + 3] F G := ⟨_, rfl, hP, hD, hO.up (sh.idx ht_6 ⟨_, rfl, ix_upd hq_9 _ _ (by omega)⟩), hR.up ht_6 (by simp)⟩
      have hF_82 : F_80 y2 = .inl (cs 16, 20, .inl (upd e2 ((nI (cn - 1))).toNatClampNeg ((nI b1)))) := by rw [he_81]; exact up_self
      have hF_83 : F_80 h0 = .inr (4, [.ref tx, .ref y0, .ref y1, .ref y2, .int (nI cn), .int v0]) := by rw [he_81, up_ne (ne_ty hT_h0 ht_6 (by simp))]; exact hF0
      have hF_84 : F_80 tx = .inr (0, [.ref rx, .int (nI z), .int 0]) := by rw [he_81, up_ne (ne_ty hT_tx ht_6 (by simp))]; exact hFx
      have hF_85 : F_80 rx = .inl (cs 16, 3000, .inl f) := by rw [he_81, up_ne (ne_ty ht_11 ht_6 (by simp))]; exact hFr
      have hF_86 : F_80 y0 = .inl (cs 16, 20, .inl e0) := by rw [he_81, up_ne (ne_ty3 ht_4 ht_6 (by show ρ ≠ ρ + 3; omega))]; exact hFy0
      have hF_87 : F_80 y1 = .inl (cs 16, 20, .inl e1) := by rw [he_81, up_ne (ne_ty3 ht_5 ht_6 (by show ρ + 2 ≠ ρ + 3; omega))]; exact hFy1
      obtain ⟨f_88, hF_82, hq_89, hfe_90⟩ : ∃ f : Nat → Int32, F_80 y2 = .inl (cs 16, 20, .inl f) ∧ IX f ∧ f = upd e2 ((nI (cn - 1))).toNatClampNeg ((nI b1)) := ⟨_, hF_82, ix_upd hq_9 _ _ (by omega), rfl⟩
      refine lv_aload_n hx hb dX4_takeLine_33 rfl (lv_at hl 0 rfl) ?_
      refine pg_get (ci := 4) (v := .int (nI cn)) (C := RX4) (T := TX4) (N := 6) hx hb hts it_4 hown hK hP hL_h0 hF_83 rfl 4 (by decide) (hts _ kt_203) (fun _ h9 => h9) rfl dX4_takeLine_34 ?_
      refine lv_if_le (tgt := 44) hx hb dX4_takeLine_37 (by decide) (fun c_91 => absurd c_91 (c_75)) (fun c_91 => ?_)
      refine lv_iconst (v := 1) hx hb dX4_takeLine_40 (by decide) ?_
      refine lv_goto (tgt := 45) hx hb dX4_takeLine_41 (by decide) ?_
      refine W.widen (k := 0) (n := 0) (by omega) (by omega) ?_
      exact W.zret (v := 1) (ty := .boolean) hx hb hr (by decide) (fun t ht hWm => ⟨⟨1, (cn, gpt g0 (cn - 1) (g0 0 (cn - 1)) (g0 1 (cn - 1)) b1), rfl, (tlr_con hab hle (clg1 (ifb1 hw_18 c_19)) hcp hcn), ⟨F_80, e0, e1, f_88, QT.mk ht hP hD hO hR, hF_83, hF_86, hF_87, hF_82, (by rw [hfe_90, nI_clamp (by omega)]; exact hhl.con hcp)⟩⟩, hS.F ht⟩) hS.2.2 dX4_takeLine_45
set_option maxHeartbeats 4000000 in
set_option maxRecDepth 100000 in
theorem s_X4_read_x (l : Launch) (dC : Nat → ClassId) (dI : Nat → Nat → Nat) (cs : Nat → ClassId) (ty : TyM) (L : List Nat) (sz : Nat) (F : Nat → va_E) (h0 : Nat) (ρ : Nat) (tx : Nat) (y0 : Nat) (y1 : Nat) (y2 : Nat) (g1 : Nat) (σ : Nat) (r1 : Nat) (n1 : Nat) (rx : Nat) (z : Nat) (f : Nat → Int32) (hW : WT ty L) (hL_h0 : h0 ∈ L) (hT_h0 : ty h0 = (4, ρ, [tx, y0, y1, y2])) (hL_tx : tx ∈ L) (hT_tx : ty tx = (0, ρ + 1, [rx, 3000])) (hL_g1 : g1 ∈ L) (hT_g1 : ty g1 = (0, σ, [r1, n1])) (hFg : F g1 = .inr (0, [.ref r1, .int (nI z), .int 0])) (hFr : F r1 = .inl (cs 16, n1, .inl f)) (hzn : z ≤ n1) (hn9 : n1 ≤ 10000) (hz3 : z ≤ 3000) (hne : σ ≠ ρ + 1) : Met l yX4_read (.code yX4_read cX4_read 5 (some .boolean) :: tb) ({ frames := 4, cells := 0, slots := 0, locals := 95 }) (va_Pc [.ref h0, .ref g1] (PT (dC, dI) cs ty L F sz)) (va_Qi (fun (r : Int32) (gh : Nat × (Nat → Nat → Nat) × Nat) => RDX (clf f) z r gh) (fun (gh : Nat × (Nat → Nat → Nat) × Nat) T9 => ∃ F2 : Nat → va_E, ∃ p0 : Nat → Int32, ∃ p1 : Nat → Int32, ∃ p2 : Nat → Int32, ∃ fc : Nat → Int32, QT (dC, dI) cs ty L [ρ, ρ + 1, ρ + 2, ρ + 3] F F2 (va_A (va_pl L F) sz) T9 ∧ F2 h0 = .inr (4, [.ref tx, .ref y0, .ref y1, .ref y2, .int (nI gh.1), .int (nI gh.2.2)]) ∧ F2 tx = .inr (0, [.ref rx, .int (nI z), .int 0]) ∧ F2 rx = .inl (cs 16, 3000, .inl fc) ∧ F2 y0 = .inl (cs 16, 20, .inl p0) ∧ F2 y1 = .inl (cs 16, 20, .inl p1) ∧ F2 y2 = .inl (cs 16, 20, .inl p2) ∧ (∀ j, j < z → fc j = f j) ∧ HLD p0 p1 p2 gh.1 gh.2.1) (va_A (va_pl L F) sz)) 0 0 (va_A (va_pl L F) sz) := by
  refine Met.ofW (cc := cX4_read) (maxL := 5) (ret := (some .boolean)) (by decide) rfl ?_
  intro p e s m args below meth c s₁ B hml hv
  obtain ⟨rfl, hsz, hP, hK, hD0, hE, hO⟩ := hv
  have hx := B.exec
  have hb := B.bytes
  have hr := B.returns
  have hts : ∀ w ∈ tb, w.before _ s = true := fun w h => atoms_spec (ws := .code yX4_read cX4_read 5 (some .boolean) :: tb) B.pre w (List.mem_cons_of_mem _ h)
  have hown : s.vm.findClass RX4 = some m.cls := findClass_of_methodNamed B.named
  have hlocks := B.notSynchronized
  subst hsz
  have hD := hD0.self (sz := s.heap.size)
  generalize hAe : va_A (va_pl L F) s.heap.size = A at hD ⊢
  have hA : ∀ q : Nat, s.heap.size ≤ q → A q := fun q h => by rw [← hAe]; exact Or.inr h
  have hS : va_S A s.heap s.heap [] := va_S.rf
  have hR : FR ty [ρ, ρ + 1, ρ + 2, ρ + 3] F F := FR.refl
  have hl := lv_entry ([.ref h0, .ref g1]) (n := 5) (Nat.le_of_ble_eq_true rfl)
  rw [lg_entry_eq]
  generalize (lg_sl ([.ref h0, .ref g1]) ++ List.replicate (5 - (lg_sl ([.ref h0, .ref g1])).length) Slot.unset).toArray = ls at hl ⊢
  have hl : lv_has ls 5 [(0, .ref h0), (1, .ref g1)] := hl
  obtain ⟨_, hi_1, hi_2, hi_3, _, ht_4, ht_5, ht_6⟩ := hW.msg hL_h0 hT_h0
  obtain ⟨z_7, v0_8, hF_9, hq_10⟩ := hO.msg hL_h0 hT_h0
  obtain ⟨hi_11, ht_12, hq_13⟩ := hW.bytes hL_tx hT_tx
  obtain ⟨f_14, hF_15, hq_16⟩ := hO.idx hi_1 ht_4
  obtain ⟨f_17, hF_18, hq_19⟩ := hO.idx hi_2 ht_5
  obtain ⟨f_20, hF_21, hq_22⟩ := hO.idx hi_3 ht_6
  refine lv_aload_n hx hb dX4_read_0 rfl (lv_at hl 0 rfl) ?_
  refine pg_get (ci := 4) (v := .ref tx) (C := RX4) (T := TX4) (N := 6) hx hb hts it_4 hown hK hP hL_h0 hF_9 rfl 0 (by decide) (hts _ kt_207) (fun _ h9 => h9) rfl dX4_read_1 ?_
  refine lv_aload_n hx hb dX4_read_4 rfl (lv_at hl 1 rfl) ?_
  obtain ⟨hi_23, ht_24, hq_25⟩ := hW.bytes hL_g1 hT_g1
  have hFc := pg_free hD hS hA
  obtain ⟨z_26, o_27, hF_28, hq_29, hq_30⟩ := hO.bytes hL_tx hT_tx
  refine va_callv (va_runV (As := [.ref g1]) (rest := []) ⟨hx, hb, hml, hown, hts⟩ (s_X0_copy_e l dC dI cs ty L s.heap.size F tx (ρ + 1) rx 3000 g1 σ r1 n1 z f hW hL_tx hT_tx hL_g1 hT_g1 hFg hFr (by omega) (by omega) (by omega) (by omega) (hne)) ⟨callB_of 1 hts (gi kt_221) rfl rfl rfl (hts _ kt_1) (hts _ kt_222) (by decide +kernel) ⟨Nat.le_of_ble_eq_true rfl, Nat.le_of_ble_eq_true rfl⟩, (hts _ kt_223), (hts _ kt_224)⟩ ⟨fun a U g mk q => ⟨q.1, PT.calling q.2⟩, pg_recv hK hP hL_tx hF_28 (q := (RX0, TX0, 3)) rfl, fun U hU hWm => ⟨rfl, PT.mk hU hWm hP hK hD hE hO⟩⟩ rfl rfl hl.1 rfl (lv_room (Nat.le_of_ble_eq_true rfl)) dX4_read_5 ⟨by show _ + 0 ≤ 0; omega, by show _ + 0 ≤ 0; omega⟩) hS (fun q _ h => hFc q h) hFc (fun u t H1 locs ht hvm hw hB hz1 hk1 hS => ?_)
  obtain ⟨F_32, fc_33, hB1, hq_34, hq_35, hq_36⟩ := hB
  obtain ⟨hP, hD, hO, hR⟩ := QT.back hB1 ht hFc hR (fun q h => by simp only [List.mem_cons, List.not_mem_nil, or_false] at h ⊢; omega)
  have hF_37 : F_32 h0 = .inr (4, [.ref tx, .ref y0, .ref y1, .ref y2, .int (nI z_7), .int v0_8]) := (hB1.2.2.2 h0 (by rw [hT_h0]; simp)).trans hF_9
  have hF_38 : F_32 y0 = .inl (cs 16, 20, .inl f_14) := (hB1.2.2.2 y0 (by rw [ht_4]; simp)).trans hF_15
  have hF_39 : F_32 y1 = .inl (cs 16, 20, .inl f_17) := (hB1.2.2.2 y1 (by rw [ht_5]; simp)).trans hF_18
  have hF_40 : F_32 y2 = .inl (cs 16, 20, .inl f_20) := (hB1.2.2.2 y2 (by rw [ht_6]; simp)).trans hF_21
  generalize H1 = H at hP hS ⊢
  have hcl : ∀ j, j < z → clf fc_33 j = clf f j := fun j hj => congrArg (clg FSG) (hq_36 j hj)
  refine lv_aload_n hx hb dX4_read_8 rfl (lv_at hl 0 rfl) ?_
  refine lv_iconst (v := 0) hx hb dX4_read_9 (by decide) ?_
  refine pg_put (ci := 4) (v := .int 0) (ty := .int) (C := RX4) (T := TX4) (N := 6) hx hb hts it_4 tyX4 tyX4_ok nmX4 hown hK hP hD hS hL_h0 hF_37 rfl 4 (by decide) (hts _ kt_203) (fun _ h9 => h9) rfl (by decide +kernel) (rfl) (rfl) (Nat.le_of_ble_eq_true rfl) dX4_read_10 (fun H locs hP hD hS => ?_)
  obtain ⟨F_41, he_42, hP, hD, hO, hR⟩ : ∃ G, G = va_up F_32 h0 (.inr (4, [.ref tx, .ref y0, .ref y1, .ref y2, .int 0, .int v0_8])) ∧ va_P (dC, dI) vwCl (va_pl L G) H ∧ va_D A (va_pl L G) ∧ OK cs ty L G ∧ FR ty [ρ, ρ + 1, ρ + 2, ρ + 3] F G := ⟨_, rfl, hP, hD, hO.up (sh.msg hT_h0 ⟨0, v0_8, rfl, (by first | omega | assumption | exact Or.inl rfl | exact Or.inr rfl)⟩), hR.up hT_h0 (by simp)⟩
  have hF_43 : F_41 h0 = .inr (4, [.ref tx, .ref y0, .ref y1, .ref y2, .int 0, .int v0_8]) := by rw [he_42]; exact up_self
  have hF_44 : F_41 y0 = .inl (cs 16, 20, .inl f_14) := by rw [he_42, up_ne (ne_ty ht_4 hT_h0 (by simp))]; exact hF_38
  have hF_45 : F_41 y1 = .inl (cs 16, 20, .inl f_17) := by rw [he_42, up_ne (ne_ty ht_5 hT_h0 (by simp))]; exact hF_39
  have hF_46 : F_41 y2 = .inl (cs 16, 20, .inl f_20) := by rw [he_42, up_ne (ne_ty ht_6 hT_h0 (by simp))]; exact hF_40
  have hF_47 : F_41 tx = .inr (0, [.ref rx, .int (nI z), .int 0]) := by rw [he_42, up_ne (ne_ty hT_tx hT_h0 (by simp))]; exact hq_34
  have hF_48 : F_41 rx = .inl (cs 16, 3000, .inl fc_33) := by rw [he_42, up_ne (ne_ty ht_12 hT_h0 (by simp))]; exact hq_35
  refine lv_aload_n hx hb dX4_read_13 rfl (lv_at hl 0 rfl) ?_
  refine lv_aload_n hx hb dX4_read_14 rfl (lv_at hl 0 rfl) ?_
  refine pg_get (ci := 4) (v := .ref tx) (C := RX4) (T := TX4) (N := 6) hx hb hts it_4 hown hK hP hL_h0 hF_43 rfl 0 (by decide) (hts _ kt_207) (fun _ h9 => h9) rfl dX4_read_15 ?_
  refine pg_getN (ci := 0) (v := .int (nI z)) (C := RX0) (T := TX0) (N := 3) hx hb hts it_0 hown hK hP hL_tx hF_47 rfl 1 (by decide) (hE.nest kn_6) (fun _ h9 => h9) rfl dX4_read_18 ?_
  refine pg_put (ci := 4) (v := .int (nI z)) (ty := .int) (C := RX4) (T := TX4) (N := 6) hx hb hts it_4 tyX4 tyX4_ok nmX4 hown hK hP hD hS hL_h0 hF_43 rfl 5 (by decide) (hts _ kt_225) (fun _ h9 => h9) rfl (by decide +kernel) (rfl) (rfl) (Nat.le_of_ble_eq_true rfl) dX4_read_21 (fun H locs hP hD hS => ?_)
  obtain ⟨F_49, he_50, hP, hD, hO, hR⟩ : ∃ G, G = va_up F_41 h0 (.inr (4, [.ref tx, .ref y0, .ref y1, .ref y2, .int 0, .int (nI z)])) ∧ va_P (dC, dI) vwCl (va_pl L G) H ∧ va_D A (va_pl L G) ∧ OK cs ty L G ∧ FR ty [ρ, ρ + 1, ρ + 2, ρ + 3] F G := ⟨_, rfl, hP, hD, hO.up (sh.msg hT_h0 ⟨0, (nI z), rfl, (by first | omega | assumption | exact Or.inl rfl | exact Or.inr rfl)⟩), hR.up hT_h0 (by simp)⟩
  have hF_51 : F_49 h0 = .inr (4, [.ref tx, .ref y0, .ref y1, .ref y2, .int 0, .int (nI z)]) := by rw [he_50]; exact up_self
  have hF_52 : F_49 y0 = .inl (cs 16, 20, .inl f_14) := by rw [he_50, up_ne (ne_ty ht_4 hT_h0 (by simp))]; exact hF_44
  have hF_53 : F_49 y1 = .inl (cs 16, 20, .inl f_17) := by rw [he_50, up_ne (ne_ty ht_5 hT_h0 (by simp))]; exact hF_45
  have hF_54 : F_49 y2 = .inl (cs 16, 20, .inl f_20) := by rw [he_50, up_ne (ne_ty ht_6 hT_h0 (by simp))]; exact hF_46
  have hF_55 : F_49 tx = .inr (0, [.ref rx, .int (nI z), .int 0]) := by rw [he_50, up_ne (ne_ty hT_tx hT_h0 (by simp))]; exact hF_47
  have hF_56 : F_49 rx = .inl (cs 16, 3000, .inl fc_33) := by rw [he_50, up_ne (ne_ty ht_12 hT_h0 (by simp))]; exact hF_48
  refine lv_iconst (v := 0) hx hb dX4_read_24 (by decide) ?_
  refine lv_istore_n (lv' := [(2, .int 0), (0, .ref h0), (1, .ref g1)]) hx hb dX4_read_25 rfl hl (by decide) rfl (fun ls hl => ?_)
  refine lv_iconst (v := 0) hx hb dX4_read_26 (by decide) ?_
  refine lv_istore_n (lv' := [(3, .int 0), (2, .int 0), (0, .ref h0), (1, .ref g1)]) hx hb dX4_read_27 rfl hl (by decide) rfl (fun ls hl => ?_)
  refine W.widen (k := 0) (n := 0) (by omega) (by omega) ?_
  refine pl_loop (σ := Nat × Nat × Nat × (Nat → Nat → Nat) × (Nat → Int32) × (Nat → Int32) × (Nat → Int32)) A (dC, dI) cs ty L [ρ, ρ + 1, ρ + 2, ρ + 3] F 28 5 (fun (j, w2, cn, gq, e0, e1, e2) => [(3, .int (nI j)), (2, .int (nI w2)), (0, .ref h0), (1, .ref g1)]) (fun (j, w2, cn, gq, e0, e1, e2) => []) (fun (j, w2, cn, gq, e0, e1, e2) FF => cn ≤ 20 ∧ w2 ≤ j ∧ j ≤ z + 1 ∧ (j ≤ z ∨ z ≤ w2) ∧ (∀ i, w2 ≤ i → i < j → i < z → ¬ clf fc_33 i = 0) ∧ (∀ X, MR (clf fc_33) z cn gq w2 X → MR (clf fc_33) z 0 gz 0 X) ∧ FF h0 = .inr (4, [.ref tx, .ref y0, .ref y1, .ref y2, .int (nI cn), .int (nI z)]) ∧ FF tx = .inr (0, [.ref rx, .int (nI z), .int 0]) ∧ FF rx = .inl (cs 16, 3000, .inl fc_33) ∧ FF y0 = .inl (cs 16, 20, .inl e0) ∧ FF y1 = .inl (cs 16, 20, .inl e1) ∧ FF y2 = .inl (cs 16, 20, .inl e2) ∧ HLD e0 e1 e2 cn gq) (fun (j, w2, cn, gq, e0, e1, e2) => 3002 - j) ?_ (0, 0, 0, gz, f_14, f_17, f_20) F_49 (⟨by omega, by omega, by omega, by omega, fun i h1 h2 h3 => by omega, fun X hX => hX, hF_51, hF_55, hF_56, hF_52, hF_53, hF_54, HLD.nil⟩) hO hR _ _ hP hD hS ls (lv_sub hl [0, 1, 2, 3] rfl)
  rintro ⟨j, w2, cn, gq, e0, e1, e2⟩ F_57 hv_58 hO hR ih_59 H locs hP hD hS ls hl
  have hl : lv_has ls 5 [(3, .int (nI j)), (2, .int (nI w2)), (0, .ref h0), (1, .ref g1)] := hl
  have hv_58 : cn ≤ 20 ∧ w2 ≤ j ∧ j ≤ z + 1 ∧ (j ≤ z ∨ z ≤ w2) ∧ (∀ i, w2 ≤ i → i < j → i < z → ¬ clf fc_33 i = 0) ∧ (∀ X, MR (clf fc_33) z cn gq w2 X → MR (clf fc_33) z 0 gz 0 X) ∧ F_57 h0 = .inr (4, [.ref tx, .ref y0, .ref y1, .ref y2, .int (nI cn), .int (nI z)]) ∧ F_57 tx = .inr (0, [.ref rx, .int (nI z), .int 0]) ∧ F_57 rx = .inl (cs 16, 3000, .inl fc_33) ∧ F_57 y0 = .inl (cs 16, 20, .inl e0) ∧ F_57 y1 = .inl (cs 16, 20, .inl e1) ∧ F_57 y2 = .inl (cs 16, 20, .inl e2) ∧ HLD e0 e1 e2 cn gq := hv_58
  refine W.eq (g2 := F0 m 28 ls []) rfl ?_
  obtain ⟨hv1, hv2, hv3, hv4, hv5, hv6, hN0, hN1, hN2, hN3, hN4, hN5, hN6⟩ := id hv_58
  refine lv_iload_n hx hb dX4_read_28 rfl (lv_at hl 0 rfl) ?_
  refine lv_aload_n hx hb dX4_read_29 rfl (lv_at hl 2 rfl) ?_
  refine pg_get (ci := 4) (v := .ref tx) (C := RX4) (T := TX4) (N := 6) hx hb hts it_4 hown hK hP hL_h0 hN0 rfl 0 (by decide) (hts _ kt_207) (fun _ h9 => h9) rfl dX4_read_30 ?_
  refine pg_getN (ci := 0) (v := .int (nI z)) (C := RX0) (T := TX0) (N := 3) hx hb hts it_0 hown hK hP hL_tx hN1 rfl 1 (by decide) (hE.nest kn_6) (fun _ h9 => h9) rfl dX4_read_33 ?_
  refine lv_icmp_gt (tgt := 124) hx hb dX4_read_36 (by decide) (fun c_60 => ?_) (fun c_60 => ?_)
  ·
    have hi_61 : z < j := (nI_ltI (a := z) (b := j) (by omega) (by omega)).mp c_60
    have hjz : z < j := (nI_ltI (by omega) (by omega)).mp c_60
    refine lv_aload_n hx hb dX4_read_124 rfl (lv_at hl 2 rfl) ?_
    refine pg_get (ci := 4) (v := .int (nI cn)) (C := RX4) (T := TX4) (N := 6) hx hb hts it_4 hown hK hP hL_h0 hN0 rfl 4 (by decide) (hts _ kt_203) (fun _ h9 => h9) rfl dX4_read_125 ?_
    refine lv_if_le (tgt := 135) hx hb dX4_read_128 (by decide) (fun c_62 => ?_) (fun c_62 => ?_)
    ·
      refine lv_iconst (v := 0) hx hb dX4_read_135 (by decide) ?_
      refine W.widen (k := 0) (n := 0) (by omega) (by omega) ?_
      exact W.zret (v := 0) (ty := .boolean) hx hb hr (by decide) (fun t ht hWm => ⟨⟨0, (cn, gq, z), rfl, (rdx_0 hcl (by have h9 : cn ≤ 0 := (nI_leI (b := 0) (by omega) (by omega)).mp c_62; omega) (hv6 _ (mr_fin (by omega)))), ⟨F_57, e0, e1, e2, fc_33, QT.mk ht hP hD hO hR, hN0, hN1, hN2, hN3, hN4, hN5, hq_36, hN6⟩⟩, hS.F ht⟩) hS.2.2 dX4_read_136
    ·
      refine lv_iconst (v := 1) hx hb dX4_read_131 (by decide) ?_
      refine lv_goto (tgt := 136) hx hb dX4_read_132 (by decide) ?_
      refine W.widen (k := 0) (n := 0) (by omega) (by omega) ?_
      exact W.zret (v := 1) (ty := .boolean) hx hb hr (by decide) (fun t ht hWm => ⟨⟨1, (cn, gq, z), rfl, (rdx_1 hcl (posN c_62) hv1 (hv6 _ (mr_fin (by omega)))), ⟨F_57, e0, e1, e2, fc_33, QT.mk ht hP hD hO hR, hN0, hN1, hN2, hN3, hN4, hN5, hq_36, hN6⟩⟩, hS.F ht⟩) hS.2.2 dX4_read_136
  ·
    have hi_65 : j ≤ z := Nat.not_lt.mp (fun q => c_60 ((nI_ltI (a := z) (b := j) (by omega) (by omega)).mpr q))
    have hjz : j ≤ z := Nat.not_lt.mp (fun q => c_60 ((nI_ltI (by omega) (by omega)).mpr q))
    refine lv_iload_n hx hb dX4_read_39 rfl (lv_at hl 0 rfl) ?_
    refine lv_aload_n hx hb dX4_read_40 rfl (lv_at hl 2 rfl) ?_
    refine pg_get (ci := 4) (v := .ref tx) (C := RX4) (T := TX4) (N := 6) hx hb hts it_4 hown hK hP hL_h0 hN0 rfl 0 (by decide) (hts _ kt_207) (fun _ h9 => h9) rfl dX4_read_41 ?_
    refine pg_getN (ci := 0) (v := .int (nI z)) (C := RX0) (T := TX0) (N := 3) hx hb hts it_0 hown hK hP hL_tx hN1 rfl 1 (by decide) (hE.nest kn_6) (fun _ h9 => h9) rfl dX4_read_44 ?_
    refine lv_icmp_ne (tgt := 54) hx hb dX4_read_47 (by decide) (fun c_66 => ?_) (fun c_66 => ?_)
    ·
      have hjl : j < z := by have h9 : j ≠ z := fun q => c_66 (by rw [q]); omega
      refine lv_iconst (v := 0) hx hb dX4_read_54 (by decide) ?_
      refine lv_istore (lv' := [(4, .int 0), (3, .int (nI j)), (2, .int (nI w2)), (0, .ref h0), (1, .ref g1)]) hx hb dX4_read_55 hl (by decide) rfl (fun ls hl => ?_)
      refine lv_iload hx hb dX4_read_57 (lv_at hl 0 rfl) ?_
      refine lv_if_ne (tgt := 75) hx hb dX4_read_59 (by decide) (fun c_68 => absurd (by decide) c_68) (fun c_68 => ?_)
      refine lv_aload_n hx hb dX4_read_62 rfl (lv_at hl 3 rfl) ?_
      refine pg_get (ci := 4) (v := .ref tx) (C := RX4) (T := TX4) (N := 6) hx hb hts it_4 hown hK hP hL_h0 hN0 rfl 0 (by decide) (hts _ kt_207) (fun _ h9 => h9) rfl dX4_read_63 ?_
      refine lv_iload_n hx hb dX4_read_66 rfl (lv_at hl 1 rfl) ?_
      have hFc := pg_free hD hS hA
      refine va_calli (va_runV (As := [.int (nI j)]) (rest := []) ⟨hx, hb, hml, hown, hts⟩ (s_X0_at_e l dC dI cs ty L H.size F_57 tx (ρ + 1) rx 3000 z j fc_33 hW hL_tx hT_tx hN1 hN2 (by omega) (by omega) (by omega)) ⟨callB_of 1 hts (gi kt_21) rfl rfl rfl (hts _ kt_1) (hts _ kt_199) (by decide +kernel) ⟨Nat.le_of_ble_eq_true rfl, Nat.le_of_ble_eq_true rfl⟩, (hts _ kt_23), (hts _ kt_24)⟩ ⟨fun a U g mk q => ⟨q.1, PT.calling q.2⟩, pg_recv hK hP hL_tx hN1 (q := (RX0, TX0, 3)) rfl, fun U hU hWm => ⟨rfl, PT.mk hU hWm hP hK hD hE hO⟩⟩ rfl rfl hl.1 rfl (lv_room (Nat.le_of_ble_eq_true rfl)) dX4_read_67 ⟨by show _ + 0 ≤ 0; omega, by show _ + 0 ≤ 0; omega⟩) hS (fun q _ h => hFc q h) hFc (fun r_69 u t H1 locs ht hvm hw hB hz1 hk1 hS => ?_)
      obtain ⟨F_70, hB1⟩ := hB
      obtain rfl : F_57 = F_70 := (funext (fun a => hB1.2.2.2 a List.not_mem_nil)).symm
      obtain ⟨hP, hD, hO, hR⟩ := QT.back hB1 ht hFc hR (fun q h => absurd h List.not_mem_nil)
      generalize H1 = H at hP hS ⊢
      have hw : r_69 = fc_33 j := hw
      have hw_71 := hw
      subst hw_71
      refine lv_bipush (v := 10) hx hb dX4_read_70 (by decide) ?_
      refine lv_icmp_ne (tgt := 118) hx hb dX4_read_72 (by decide) (fun c_72 => ?_) (fun c_72 => ?_)
      ·
        refine lv_iinc (v := (nI (j + 1))) (lv' := [(3, .int (nI (j + 1))), (4, .int 0), (2, .int (nI w2)), (0, .ref h0), (1, .ref g1)]) hx hb dX4_read_118 hl (k := 1) rfl (nI_1 _) (by decide) rfl (fun ls hl => ?_)
        refine lv_goto (tgt := 28) hx hb dX4_read_121 (by decide) ?_
        refine W.widen (k := 0) (n := 0) (by omega) (by omega) ?_
        exact ih_59 ((j + 1), w2, cn, gq, e0, e1, e2) F_57 (⟨by omega, by omega, by omega, by omega, fun i h1 h2 h3 => by rcases Nat.lt_or_ge i j with q | q; exact hv5 i h1 q h3; rw [show i = j by omega]; exact clg0n c_72, hv6, hN0, hN1, hN2, hN3, hN4, hN5, hN6⟩) (by show 3002 - (j + 1) < 3002 - j; omega) hO hR _ _ hP hD hS ls (lv_sub hl [0, 2, 3, 4] rfl)
      ·
        refine lv_iload hx hb dX4_read_75 (lv_at hl 0 rfl) ?_
        refine lv_if_eq (tgt := 88) hx hb dX4_read_77 (by decide) (fun c_73 => ?_) (fun c_73 => absurd (by decide) c_73)
        refine lv_iload_n hx hb dX4_read_88 rfl (lv_at hl 2 rfl) ?_
        refine lv_iload_n hx hb dX4_read_89 rfl (lv_at hl 1 rfl) ?_
        refine lv_icmp_ne (tgt := 103) hx hb dX4_read_90 (by decide) (fun c_74 => ?_) (fun c_74 => ?_)
        ·
          have hwj : w2 < j := by have h9 : w2 ≠ j := fun q => c_74 (by rw [q]); omega
          refine lv_aload_n hx hb dX4_read_103 rfl (lv_at hl 3 rfl) ?_
          refine lv_iload_n hx hb dX4_read_104 rfl (lv_at hl 2 rfl) ?_
          refine lv_iload_n hx hb dX4_read_105 rfl (lv_at hl 1 rfl) ?_
          have hFc := pg_free hD hS hA
          refine va_calli (va_runV (As := [.int (nI w2), .int (nI j)]) (rest := []) ⟨hx, hb, hml, hown, hts⟩ (s_X4_takeLine_x l dC dI cs ty L H.size F_57 h0 ρ tx y0 y1 y2 rx z w2 j cn fc_33 e0 e1 e2 gq (nI z) hW hL_h0 hT_h0 hL_tx hT_tx hN0 hN1 hN2 hN3 hN4 hN5 (by omega) (by omega) (by omega) (hv1) (⟨by omega, by omega, fun i h1 h2 => hv5 i h1 h2 (by omega), Or.inr (clg0 c_72)⟩) (hN6)) ⟨callB_of 2 hts (gi kt_226) rfl rfl rfl (hts _ kt_211) (hts _ kt_227) (by decide +kernel) ⟨Nat.le_of_ble_eq_true rfl, Nat.le_of_ble_eq_true rfl⟩, (hts _ kt_228), (hts _ kt_229)⟩ ⟨fun a U g mk q => ⟨q.1, PT.calling q.2⟩, pg_recv hK hP hL_h0 hN0 (q := (RX4, TX4, 6)) rfl, fun U hU hWm => ⟨rfl, PT.mk hU hWm hP hK hD hE hO⟩⟩ rfl rfl hl.1 rfl (lv_room (Nat.le_of_ble_eq_true rfl)) dX4_read_106 ⟨by show _ + 0 ≤ 0; omega, by show _ + 0 ≤ 0; omega⟩) hS (fun q _ h => hFc q h) hFc (fun r_77 gg_76 t H1 locs ht hvm hw hB hz1 hk1 hS => ?_)
          obtain ⟨F_78, p0_79, p1_80, p2_81, hB1, hq_82, hq_83, hq_84, hq_85, hq_86⟩ := hB
          obtain ⟨hP, hD, hO, hR⟩ := QT.back hB1 ht hFc hR (fun q h => by simp only [List.mem_cons, List.not_mem_nil, or_false] at h ⊢; omega)
          have hF_87 : F_78 tx = .inr (0, [.ref rx, .int (nI z), .int 0]) := (hB1.2.2.2 tx (by rw [hT_tx]; simp)).trans hN1
          have hF_88 : F_78 rx = .inl (cs 16, 3000, .inl fc_33) := (hB1.2.2.2 rx (by rw [ht_12]; simp)).trans hN2
          generalize H1 = H at hP hS ⊢
          have hw : TLR (clf fc_33) z cn gq w2 j gg_76.1 gg_76.2 r_77 := hw
          have hw_89 := hw
          refine lv_if_ne (tgt := 114) hx hb dX4_read_109 (by decide) (fun c_90 => ?_) (fun c_90 => ?_)
          ·
            refine lv_iload_n hx hb dX4_read_114 rfl (lv_at hl 1 rfl) ?_
            refine lv_iconst (v := 1) hx hb dX4_read_115 (by decide) ?_
            refine lv_iadd hx hb dX4_read_116 ?_
            refine lv_topi (fun x_91 ex_91 => ?_)
            obtain rfl : x_91 = (nI (j + 1)) := ex_91.trans (nI_1 j)
            refine lv_istore_n (lv' := [(2, .int (nI (j + 1))), (4, .int 0), (3, .int (nI j)), (0, .ref h0), (1, .ref g1)]) hx hb dX4_read_117 rfl hl (by decide) rfl (fun ls hl => ?_)
            refine lv_iinc (v := (nI (j + 1))) (lv' := [(3, .int (nI (j + 1))), (2, .int (nI (j + 1))), (4, .int 0), (0, .ref h0), (1, .ref g1)]) hx hb dX4_read_118 hl (k := 2) rfl (nI_1 _) (by decide) rfl (fun ls hl => ?_)
            refine lv_goto (tgt := 28) hx hb dX4_read_121 (by decide) ?_
            refine W.widen (k := 0) (n := 0) (by omega) (by omega) ?_
            exact ih_59 ((j + 1), (j + 1), gg_76.1, gg_76.2, p0_79, p1_80, p2_81) F_78 (⟨hw_89.1, by omega, by omega, by omega, fun i h1 h2 h3 => by omega, fun X hX => hv6 X (tlr1 hw_89 c_90 X hX), hq_82, hF_87, hF_88, hq_83, hq_84, hq_85, hq_86⟩) (by show 3002 - (j + 1) < 3002 - j; omega) hO hR _ _ hP hD hS ls (lv_sub hl [0, 1, 3, 4] rfl)
          ·
            refine lv_iconst (v := 0) hx hb dX4_read_112 (by decide) ?_
            refine W.widen (k := 0) (n := 0) (by omega) (by omega) ?_
            exact W.zret (v := 0) (ty := .boolean) hx hb hr (by decide) (fun t ht hWm => ⟨⟨0, (gg_76.1, gg_76.2, z), rfl, (rdx_n hcl (hv6 none (tlr0 hw_89 c_90))), ⟨F_78, p0_79, p1_80, p2_81, fc_33, QT.mk ht hP hD hO hR, hq_82, hF_87, hF_88, hq_83, hq_84, hq_85, hq_36, hq_86⟩⟩, hS.F ht⟩) hS.2.2 dX4_read_113
        ·
          have hwj : w2 = j := (nI_eq (by omega) (by omega)).mp c_74
          refine lv_aload_n hx hb dX4_read_93 rfl (lv_at hl 3 rfl) ?_
          refine lv_iload_n hx hb dX4_read_94 rfl (lv_at hl 1 rfl) ?_
          refine lv_iconst (v := 1) hx hb dX4_read_95 (by decide) ?_
          refine lv_iadd hx hb dX4_read_96 ?_
          refine lv_topi (fun x_93 ex_93 => ?_)
          obtain rfl : x_93 = (nI (j + 1)) := ex_93.trans (nI_1 j)
          refine pg_put (ci := 4) (v := .int (nI (j + 1))) (ty := .int) (C := RX4) (T := TX4) (N := 6) hx hb hts it_4 tyX4 tyX4_ok nmX4 hown hK hP hD hS hL_h0 hN0 rfl 5 (by decide) (hts _ kt_225) (fun _ h9 => h9) rfl (by decide +kernel) (rfl) (rfl) (Nat.le_of_ble_eq_true rfl) dX4_read_97 (fun H locs hP hD hS => ?_)
          obtain ⟨F_94, he_95, hP, hD, hO, hR⟩ : ∃ G, G = va_up F_57 h0 (.inr (4, [.ref tx, .ref y0, .ref y1, .ref y2, .int (nI cn), .int (nI (j + 1))])) ∧ va_P (dC, dI) vwCl (va_pl L G) H ∧ va_D A (va_pl L G) ∧ OK cs ty L G ∧ FR ty [ρ, ρ + 1, ρ + 2, ρ + 3] F G := ⟨_, rfl, hP, hD, hO.up (sh.msg hT_h0 ⟨cn, (nI (j + 1)), rfl, (by first | omega | assumption | exact Or.inl rfl | exact Or.inr rfl)⟩), hR.up hT_h0 (by simp)⟩
          have hF_96 : F_94 h0 = .inr (4, [.ref tx, .ref y0, .ref y1, .ref y2, .int (nI cn), .int (nI (j + 1))]) := by rw [he_95]; exact up_self
          have hF_97 : F_94 tx = .inr (0, [.ref rx, .int (nI z), .int 0]) := by rw [he_95, up_ne (ne_ty hT_tx hT_h0 (by simp))]; exact hN1
          have hF_98 : F_94 rx = .inl (cs 16, 3000, .inl fc_33) := by rw [he_95, up_ne (ne_ty ht_12 hT_h0 (by simp))]; exact hN2
          have hF_99 : F_94 y0 = .inl (cs 16, 20, .inl e0) := by rw [he_95, up_ne (ne_ty ht_4 hT_h0 (by simp))]; exact hN3
          have hF_100 : F_94 y1 = .inl (cs 16, 20, .inl e1) := by rw [he_95, up_ne (ne_ty ht_5 hT_h0 (by simp))]; exact hN4
          have hF_101 : F_94 y2 = .inl (cs 16, 20, .inl e2) := by rw [he_95, up_ne (ne_ty ht_6 hT_h0 (by simp))]; exact hN5
          refine lv_goto (tgt := 124) hx hb dX4_read_100 (by decide) ?_
          refine lv_aload_n hx hb dX4_read_124 rfl (lv_at hl 3 rfl) ?_
          refine pg_get (ci := 4) (v := .int (nI cn)) (C := RX4) (T := TX4) (N := 6) hx hb hts it_4 hown hK hP hL_h0 hF_96 rfl 4 (by decide) (hts _ kt_203) (fun _ h9 => h9) rfl dX4_read_125 ?_
          refine lv_if_le (tgt := 135) hx hb dX4_read_128 (by decide) (fun c_102 => ?_) (fun c_102 => ?_)
          ·
            refine lv_iconst (v := 0) hx hb dX4_read_135 (by decide) ?_
            refine W.widen (k := 0) (n := 0) (by omega) (by omega) ?_
            exact W.zret (v := 0) (ty := .boolean) hx hb hr (by decide) (fun t ht hWm => ⟨⟨0, (cn, gq, (j + 1)), rfl, (rdx_0 hcl (by have h9 : cn ≤ 0 := (nI_leI (b := 0) (by omega) (by omega)).mp c_102; omega) (hv6 _ (by rw [hwj]; exact mr_bod (by omega) (clg0 c_72)))), ⟨F_94, e0, e1, e2, fc_33, QT.mk ht hP hD hO hR, hF_96, hF_97, hF_98, hF_99, hF_100, hF_101, hq_36, hN6⟩⟩, hS.F ht⟩) hS.2.2 dX4_read_136
          ·
            refine lv_iconst (v := 1) hx hb dX4_read_131 (by decide) ?_
            refine lv_goto (tgt := 136) hx hb dX4_read_132 (by decide) ?_
            refine W.widen (k := 0) (n := 0) (by omega) (by omega) ?_
            exact W.zret (v := 1) (ty := .boolean) hx hb hr (by decide) (fun t ht hWm => ⟨⟨1, (cn, gq, (j + 1)), rfl, (rdx_1 hcl (posN c_102) hv1 (hv6 _ (by rw [hwj]; exact mr_bod (by omega) (clg0 c_72)))), ⟨F_94, e0, e1, e2, fc_33, QT.mk ht hP hD hO hR, hF_96, hF_97, hF_98, hF_99, hF_100, hF_101, hq_36, hN6⟩⟩, hS.F ht⟩) hS.2.2 dX4_read_136
    ·
      have hjl : j = z := (nI_eq (by omega) (by omega)).mp c_66
      refine lv_iconst (v := 1) hx hb dX4_read_50 (by decide) ?_
      refine lv_goto (tgt := 55) hx hb dX4_read_51 (by decide) ?_
      refine lv_istore (lv' := [(4, .int 1), (3, .int (nI j)), (2, .int (nI w2)), (0, .ref h0), (1, .ref g1)]) hx hb dX4_read_55 hl (by decide) rfl (fun ls hl => ?_)
      refine lv_iload hx hb dX4_read_57 (lv_at hl 0 rfl) ?_
      refine lv_if_ne (tgt := 75) hx hb dX4_read_59 (by decide) (fun c_106 => ?_) (fun c_106 => absurd c_106 (by decide))
      refine lv_iload hx hb dX4_read_75 (lv_at hl 0 rfl) ?_
      refine lv_if_eq (tgt := 88) hx hb dX4_read_77 (by decide) (fun c_107 => absurd c_107 (by decide)) (fun c_107 => ?_)
      refine lv_iload_n hx hb dX4_read_80 rfl (lv_at hl 2 rfl) ?_
      refine lv_iload_n hx hb dX4_read_81 rfl (lv_at hl 1 rfl) ?_
      refine lv_icmp_ne (tgt := 88) hx hb dX4_read_82 (by decide) (fun c_108 => ?_) (fun c_108 => ?_)
      ·
        have hwj : w2 < j := by have h9 : w2 ≠ j := fun q => c_108 (by rw [q]); omega
        refine lv_iload_n hx hb dX4_read_88 rfl (lv_at hl 2 rfl) ?_
        refine lv_iload_n hx hb dX4_read_89 rfl (lv_at hl 1 rfl) ?_
        refine lv_icmp_ne (tgt := 103) hx hb dX4_read_90 (by decide) (fun c_110 => ?_) (fun c_110 => absurd c_110 (c_108))
        refine lv_aload_n hx hb dX4_read_103 rfl (lv_at hl 3 rfl) ?_
        refine lv_iload_n hx hb dX4_read_104 rfl (lv_at hl 2 rfl) ?_
        refine lv_iload_n hx hb dX4_read_105 rfl (lv_at hl 1 rfl) ?_
        have hFc := pg_free hD hS hA
        refine va_calli (va_runV (As := [.int (nI w2), .int (nI j)]) (rest := []) ⟨hx, hb, hml, hown, hts⟩ (s_X4_takeLine_x l dC dI cs ty L H.size F_57 h0 ρ tx y0 y1 y2 rx z w2 j cn fc_33 e0 e1 e2 gq (nI z) hW hL_h0 hT_h0 hL_tx hT_tx hN0 hN1 hN2 hN3 hN4 hN5 (by omega) (by omega) (by omega) (hv1) (⟨by omega, by omega, fun i h1 h2 => hv5 i h1 h2 (by omega), Or.inl hjl⟩) (hN6)) ⟨callB_of 2 hts (gi kt_226) rfl rfl rfl (hts _ kt_211) (hts _ kt_227) (by decide +kernel) ⟨Nat.le_of_ble_eq_true rfl, Nat.le_of_ble_eq_true rfl⟩, (hts _ kt_228), (hts _ kt_229)⟩ ⟨fun a U g mk q => ⟨q.1, PT.calling q.2⟩, pg_recv hK hP hL_h0 hN0 (q := (RX4, TX4, 6)) rfl, fun U hU hWm => ⟨rfl, PT.mk hU hWm hP hK hD hE hO⟩⟩ rfl rfl hl.1 rfl (lv_room (Nat.le_of_ble_eq_true rfl)) dX4_read_106 ⟨by show _ + 0 ≤ 0; omega, by show _ + 0 ≤ 0; omega⟩) hS (fun q _ h => hFc q h) hFc (fun r_112 gg_111 t H1 locs ht hvm hw hB hz1 hk1 hS => ?_)
        obtain ⟨F_113, p0_114, p1_115, p2_116, hB1, hq_117, hq_118, hq_119, hq_120, hq_121⟩ := hB
        obtain ⟨hP, hD, hO, hR⟩ := QT.back hB1 ht hFc hR (fun q h => by simp only [List.mem_cons, List.not_mem_nil, or_false] at h ⊢; omega)
        have hF_122 : F_113 tx = .inr (0, [.ref rx, .int (nI z), .int 0]) := (hB1.2.2.2 tx (by rw [hT_tx]; simp)).trans hN1
        have hF_123 : F_113 rx = .inl (cs 16, 3000, .inl fc_33) := (hB1.2.2.2 rx (by rw [ht_12]; simp)).trans hN2
        generalize H1 = H at hP hS ⊢
        have hw : TLR (clf fc_33) z cn gq w2 j gg_111.1 gg_111.2 r_112 := hw
        have hw_124 := hw
        refine lv_if_ne (tgt := 114) hx hb dX4_read_109 (by decide) (fun c_125 => ?_) (fun c_125 => ?_)
        ·
          refine lv_iload_n hx hb dX4_read_114 rfl (lv_at hl 1 rfl) ?_
          refine lv_iconst (v := 1) hx hb dX4_read_115 (by decide) ?_
          refine lv_iadd hx hb dX4_read_116 ?_
          refine lv_topi (fun x_126 ex_126 => ?_)
          obtain rfl : x_126 = (nI (j + 1)) := ex_126.trans (nI_1 j)
          refine lv_istore_n (lv' := [(2, .int (nI (j + 1))), (4, .int 1), (3, .int (nI j)), (0, .ref h0), (1, .ref g1)]) hx hb dX4_read_117 rfl hl (by decide) rfl (fun ls hl => ?_)
          refine lv_iinc (v := (nI (j + 1))) (lv' := [(3, .int (nI (j + 1))), (2, .int (nI (j + 1))), (4, .int 1), (0, .ref h0), (1, .ref g1)]) hx hb dX4_read_118 hl (k := 2) rfl (nI_1 _) (by decide) rfl (fun ls hl => ?_)
          refine lv_goto (tgt := 28) hx hb dX4_read_121 (by decide) ?_
          refine W.widen (k := 0) (n := 0) (by omega) (by omega) ?_
          exact ih_59 ((j + 1), (j + 1), gg_111.1, gg_111.2, p0_114, p1_115, p2_116) F_113 (⟨hw_124.1, by omega, by omega, by omega, fun i h1 h2 h3 => by omega, fun X hX => hv6 X (tlr1 hw_124 c_125 X hX), hq_117, hF_122, hF_123, hq_118, hq_119, hq_120, hq_121⟩) (by show 3002 - (j + 1) < 3002 - j; omega) hO hR _ _ hP hD hS ls (lv_sub hl [0, 1, 3, 4] rfl)
        ·
          refine lv_iconst (v := 0) hx hb dX4_read_112 (by decide) ?_
          refine W.widen (k := 0) (n := 0) (by omega) (by omega) ?_
          exact W.zret (v := 0) (ty := .boolean) hx hb hr (by decide) (fun t ht hWm => ⟨⟨0, (gg_111.1, gg_111.2, z), rfl, (rdx_n hcl (hv6 none (tlr0 hw_124 c_125))), ⟨F_113, p0_114, p1_115, p2_116, fc_33, QT.mk ht hP hD hO hR, hq_117, hF_122, hF_123, hq_118, hq_119, hq_120, hq_36, hq_121⟩⟩, hS.F ht⟩) hS.2.2 dX4_read_113
      ·
        have hwj : w2 = j := (nI_eq (by omega) (by omega)).mp c_108
        refine lv_goto (tgt := 118) hx hb dX4_read_85 (by decide) ?_
        refine lv_iinc (v := (nI (j + 1))) (lv' := [(3, .int (nI (j + 1))), (4, .int 1), (2, .int (nI w2)), (0, .ref h0), (1, .ref g1)]) hx hb dX4_read_118 hl (k := 1) rfl (nI_1 _) (by decide) rfl (fun ls hl => ?_)
        refine lv_goto (tgt := 28) hx hb dX4_read_121 (by decide) ?_
        refine W.widen (k := 0) (n := 0) (by omega) (by omega) ?_
        exact ih_59 ((j + 1), w2, cn, gq, e0, e1, e2) F_57 (⟨by omega, by omega, by omega, by omega, fun i h1 h2 h3 => by omega, hv6, hN0, hN1, hN2, hN3, hN4, hN5, hN6⟩) (by show 3002 - (j + 1) < 3002 - j; omega) hO hR _ _ hP hD hS ls (lv_sub hl [0, 2, 3, 4] rfl)
set_option maxHeartbeats 4000000 in
set_option maxRecDepth 100000 in
theorem s_X11_message_x20 (l : Launch) (dC : Nat → ClassId) (dI : Nat → Nat → Nat) (cs : Nat → ClassId) (ty : TyM) (L : List Nat) (sz : Nat) (F : Nat → va_E) (h0 : Nat) (ρ : Nat) (ta : Nat) (ou : Nat) (di : Nat) (ea : Nat) (ck : Nat) (sl : Nat) (po : Nat) (hs : Nat) (zt : Nat) (rt : Nat) (cn : Nat) (f : Nat → Int32) (le : Nat) (x : Nat) (y0 : Nat) (y1 : Nat) (y2 : Nat) (sp : Nat) (x9 : Nat) (w0 : Nat) (w1 : Nat) (w2 : Nat) (rx9 : Nat) (hW : WT ty L) (hL_h0 : h0 ∈ L) (hT_h0 : ty h0 = (11, ρ, [ta, ou, di, ea, ck, sl, po, hs])) (hL_ta : ta ∈ L) (hT_ta : ty ta = (0, ρ + 1, [rt, 3000])) (hL_le : le ∈ L) (hT_le : ty le = (4, ρ + 20, [x, y0, y1, y2])) (hL_sp : sp ∈ L) (hT_sp : ty sp = (4, ρ + 30, [x9, w0, w1, w2])) (hL_x9 : x9 ∈ L) (hT_x9 : ty x9 = (0, ρ + 31, [rx9, 3000])) (hFt : F ta = .inr (0, [.ref rt, .int (nI zt), .int 0])) (hFr : F rt = .inl (cs 16, 3000, .inl f)) (hzt : zt ≤ 3000) (hF0 : F h0 = .inr (11, [.ref ta, .ref ou, .ref di, .ref ck, .ref sl, .ref po, .ref hs, .ref le, .ref sp])) : Met l yX11_message (.code yX11_message cX11_message 3 (some .int) :: tb) ({ frames := 5, cells := 0, slots := 0, locals := 119 }) (va_Pc [.ref h0] (PT (dC, dI) cs ty L F sz)) (va_Qi (fun (r : Int32) (gh : MRA) => MSX (clf f) zt r gh) (fun (gh : MRA) T9 => ∃ F2 : Nat → va_E, QT (dC, dI) cs ty L [ρ, ρ + 1, ρ + 30, ρ + 31, ρ + 32, ρ + 33] F F2 (va_A (va_pl L F) sz) T9 ∧ F2 ta = .inr (0, [.ref rt, .int (nI 0), .int 0]) ∧ ((gh = none ∧ F2 h0 = .inr (11, [.ref ta, .ref ou, .ref di, .ref ck, .ref sl, .ref po, .ref hs, .ref le, .ref sp])) ∨ ∃ (q : Nat × (Nat → Nat → Nat) × Nat) (p0 p1 p2 fc : Nat → Int32), gh = some q ∧ F2 h0 = .inr (11, [.ref ta, .ref ou, .ref di, .ref ck, .ref sl, .ref po, .ref hs, .ref sp, .ref le]) ∧ F2 sp = .inr (4, [.ref x9, .ref w0, .ref w1, .ref w2, .int (nI q.1), .int (nI q.2.2)]) ∧ F2 x9 = .inr (0, [.ref rx9, .int (nI zt), .int 0]) ∧ F2 rx9 = .inl (cs 16, 3000, .inl fc) ∧ F2 w0 = .inl (cs 16, 20, .inl p0) ∧ F2 w1 = .inl (cs 16, 20, .inl p1) ∧ F2 w2 = .inl (cs 16, 20, .inl p2) ∧ (∀ j, j < zt → fc j = f j) ∧ HLD p0 p1 p2 q.1 q.2.1)) (va_A (va_pl L F) sz)) 0 0 (va_A (va_pl L F) sz) := by
  refine Met.ofW (cc := cX11_message) (maxL := 3) (ret := (some .int)) (by decide) rfl ?_
  intro p e s m args below meth c s₁ B hml hv
  obtain ⟨rfl, hsz, hP, hK, hD0, hE, hO⟩ := hv
  have hx := B.exec
  have hb := B.bytes
  have hr := B.returns
  have hts : ∀ w ∈ tb, w.before _ s = true := fun w h => atoms_spec (ws := .code yX11_message cX11_message 3 (some .int) :: tb) B.pre w (List.mem_cons_of_mem _ h)
  have hown : s.vm.findClass RX11 = some m.cls := findClass_of_methodNamed B.named
  have hlocks := B.notSynchronized
  subst hsz
  have hD := hD0.self (sz := s.heap.size)
  generalize hAe : va_A (va_pl L F) s.heap.size = A at hD ⊢
  have hA : ∀ q : Nat, s.heap.size ≤ q → A q := fun q h => by rw [← hAe]; exact Or.inr h
  have hS : va_S A s.heap s.heap [] := va_S.rf
  have hR : FR ty [ρ, ρ + 1, ρ + 30, ρ + 31, ρ + 32, ρ + 33] F F := FR.refl
  have hl := lv_entry ([.ref h0]) (n := 3) (Nat.le_of_ble_eq_true rfl)
  rw [lg_entry_eq]
  generalize (lg_sl ([.ref h0]) ++ List.replicate (3 - (lg_sl ([.ref h0])).length) Slot.unset).toArray = ls at hl ⊢
  have hl : lv_has ls 3 [(0, .ref h0)] := hl
  refine lv_aload_n hx hb dX11_message_0 rfl (lv_at hl 0 rfl) ?_
  obtain ⟨_, _, hi_1, ⟨r_2, ht_3⟩, hi_4, ht_5, hi_6, ⟨w0_7, w1_8, w2_9, w3_10, nm_11, te_12, ht_13⟩, hi_14, ⟨l1_15, lx_16, ly0_17, ly1_18, ly2_19, k1_20, kx_21, ky0_22, ky1_23, ky2_24, w0_25, w1_26, w2_27, w3_28, w4_29, w5_30, w6_31, w7_32, w8_33, tk_34, h1_35, hx_36, hy_37, hw_38, pw_39, px_40, py_41, pz_42, pu_43, ht_44⟩, hi_45, ⟨w0_46, w1_47, rc_48, rx_49, ry0_50, ry1_51, ry2_52, ht_53⟩, hi_54, ⟨hx_55, hy_56, hw_57, ht_58⟩⟩ := hW.gate hL_h0 hT_h0
  refine pg_get (ci := 11) (v := .ref sp) (C := RX11) (T := TX11) (N := 9) hx hb hts it_11 hown hK hP hL_h0 hF0 rfl 8 (by decide) (hts _ kt_542) (fun _ h9 => h9) rfl dX11_message_1 ?_
  refine lv_aload_n hx hb dX11_message_4 rfl (lv_at hl 0 rfl) ?_
  refine pg_get (ci := 11) (v := .ref ta) (C := RX11) (T := TX11) (N := 9) hx hb hts it_11 hown hK hP hL_h0 hF0 rfl 0 (by decide) (hts _ kt_509) (fun _ h9 => h9) rfl dX11_message_5 ?_
  obtain ⟨_, hi_59, hi_60, hi_61, _, ht_62, ht_63, ht_64⟩ := hW.msg hL_sp hT_sp
  have ht_63 : ty w1 = (24, ρ + 32, [20]) := ht_63
  have ht_64 : ty w2 = (24, ρ + 33, [20]) := ht_64
  obtain ⟨z_65, v0_66, hF_67, hq_68⟩ := hO.msg hL_sp hT_sp
  obtain ⟨hi_69, ht_70, hq_71⟩ := hW.bytes hL_x9 hT_x9
  obtain ⟨hi_72, ht_73, hq_74⟩ := hW.bytes hL_ta hT_ta
  have hFc := pg_free hD hS hA
  refine va_calli (va_runV (As := [.ref ta]) (rest := []) ⟨hx, hb, hml, hown, hts⟩ (s_X4_read_x l dC dI cs ty L s.heap.size F sp (ρ + 30) x9 w0 w1 w2 ta (ρ + 1) rt 3000 rx9 zt f hW hL_sp hT_sp hL_x9 hT_x9 hL_ta hT_ta hFt hFr (by omega) (by omega) (by omega) (by omega)) ⟨callB_of 1 hts (gi kt_543) rfl rfl rfl (hts _ kt_211) (hts _ kt_544) (by decide +kernel) ⟨Nat.le_of_ble_eq_true rfl, Nat.le_of_ble_eq_true rfl⟩, (hts _ kt_545), (hts _ kt_546)⟩ ⟨fun a U g mk q => ⟨q.1, PT.calling q.2⟩, pg_recv hK hP hL_sp hF_67 (q := (RX4, TX4, 6)) rfl, fun U hU hWm => ⟨rfl, PT.mk hU hWm hP hK hD hE hO⟩⟩ rfl rfl hl.1 rfl (lv_room (Nat.le_of_ble_eq_true rfl)) dX11_message_8 ⟨by show _ + 0 ≤ 0; omega, by show _ + 0 ≤ 0; omega⟩) hS (fun q _ h => hFc q h) hFc (fun r_76 gh_75 t H1 locs ht hvm hw hB hz1 hk1 hS => ?_)
  obtain ⟨F_77, p0_78, p1_79, p2_80, fc_81, hB1, hq_82, hq_83, hq_84, hq_85, hq_86, hq_87, hq_88, hq_89⟩ := hB
  obtain ⟨hP, hD, hO, hR⟩ := QT.back hB1 ht hFc hR (fun q h => by simp only [List.mem_cons, List.not_mem_nil, or_false] at h ⊢; omega)
  have hF_90 : F_77 ta = .inr (0, [.ref rt, .int (nI zt), .int 0]) := (hB1.2.2.2 ta (by rw [hT_ta]; simp <;> omega)).trans hFt
  have hF_91 : F_77 rt = .inl (cs 16, 3000, .inl f) := (hB1.2.2.2 rt (by rw [ht_73]; simp <;> omega)).trans hFr
  have hF_92 : F_77 h0 = .inr (11, [.ref ta, .ref ou, .ref di, .ref ck, .ref sl, .ref po, .ref hs, .ref le, .ref sp]) := (hB1.2.2.2 h0 (by rw [hT_h0]; simp <;> omega)).trans hF0
  generalize H1 = H at hP hS ⊢
  have hw : RDX (clf f) zt r_76 gh_75 := hw
  have hw_93 := hw
  refine lv_istore_n (lv' := [(1, .int r_76), (0, .ref h0)]) hx hb dX11_message_11 rfl hl (by decide) rfl (fun ls hl => ?_)
  refine lv_aload_n hx hb dX11_message_12 rfl (lv_at hl 1 rfl) ?_
  refine pg_get (ci := 11) (v := .ref ta) (C := RX11) (T := TX11) (N := 9) hx hb hts it_11 hown hK hP hL_h0 hF_92 rfl 0 (by decide) (hts _ kt_509) (fun _ h9 => h9) rfl dX11_message_13 ?_
  have hFc := pg_free hD hS hA
  refine va_callv (va_runV (As := []) (rest := []) ⟨hx, hb, hml, hown, hts⟩ (s_X0_clear l dC dI cs ty L H.size F_77 ta (ρ + 1) rt 3000 hW hL_ta hT_ta) ⟨callB_of 0 hts (gi kt_32) rfl rfl rfl (hts _ kt_1) (hts _ kt_527) (by decide +kernel) ⟨Nat.le_of_ble_eq_true rfl, Nat.le_of_ble_eq_true rfl⟩, (hts _ kt_34), (hts _ kt_35)⟩ ⟨fun a U g mk q => ⟨q.1, PT.calling q.2⟩, pg_recv hK hP hL_ta hF_90 (q := (RX0, TX0, 3)) rfl, fun U hU hWm => ⟨rfl, PT.mk hU hWm hP hK hD hE hO⟩⟩ rfl rfl hl.1 rfl (lv_room (Nat.le_of_ble_eq_true rfl)) dX11_message_16 ⟨by show _ + 0 ≤ 0; omega, by show _ + 0 ≤ 0; omega⟩) hS (fun q _ h => hFc q h) hFc (fun u t H1 locs ht hvm hw hB hz1 hk1 hS => ?_)
  obtain ⟨F_95, hB1, hq_96⟩ := hB
  obtain ⟨hP, hD, hO, hR⟩ := QT.back hB1 ht hFc hR (fun q h => by simp only [List.mem_cons, List.not_mem_nil, or_false] at h ⊢; omega)
  have hF_97 : F_95 h0 = .inr (11, [.ref ta, .ref ou, .ref di, .ref ck, .ref sl, .ref po, .ref hs, .ref le, .ref sp]) := (hB1.2.2.2 h0 (by rw [hT_h0]; simp)).trans hF_92
  have hF_98 : F_95 sp = .inr (4, [.ref x9, .ref w0, .ref w1, .ref w2, .int (nI gh_75.1), .int (nI gh_75.2.2)]) := (hB1.2.2.2 sp (by rw [hT_sp]; simp)).trans hq_82
  have hF_99 : F_95 x9 = .inr (0, [.ref rx9, .int (nI zt), .int 0]) := (hB1.2.2.2 x9 (by rw [hT_x9]; simp)).trans hq_83
  have hF_100 : F_95 rx9 = .inl (cs 16, 3000, .inl fc_81) := (hB1.2.2.2 rx9 (by rw [ht_70]; simp)).trans hq_84
  have hF_101 : F_95 w0 = .inl (cs 16, 20, .inl p0_78) := (hB1.2.2.2 w0 (by rw [ht_62]; simp)).trans hq_85
  have hF_102 : F_95 w1 = .inl (cs 16, 20, .inl p1_79) := (hB1.2.2.2 w1 (by rw [ht_63]; simp)).trans hq_86
  have hF_103 : F_95 w2 = .inl (cs 16, 20, .inl p2_80) := (hB1.2.2.2 w2 (by rw [ht_64]; simp)).trans hq_87
  generalize H1 = H at hP hS ⊢
  refine lv_iload_n hx hb dX11_message_19 rfl (lv_at hl 0 rfl) ?_
  refine lv_if_ne (tgt := 25) hx hb dX11_message_20 (by decide) (fun c_104 => ?_) (fun c_104 => ?_)
  ·
    refine lv_aload_n hx hb dX11_message_25 rfl (lv_at hl 1 rfl) ?_
    refine pg_get (ci := 11) (v := .ref le) (C := RX11) (T := TX11) (N := 9) hx hb hts it_11 hown hK hP hL_h0 hF_97 rfl 7 (by decide) (hts _ kt_518) (fun _ h9 => h9) rfl dX11_message_26 ?_
    refine lv_astore_n (lv' := [(2, .ref le), (1, .int r_76), (0, .ref h0)]) hx hb dX11_message_29 rfl hl (by decide) rfl (fun ls hl => ?_)
    refine lv_aload_n hx hb dX11_message_30 rfl (lv_at hl 2 rfl) ?_
    refine lv_aload_n hx hb dX11_message_31 rfl (lv_at hl 2 rfl) ?_
    refine pg_get (ci := 11) (v := .ref sp) (C := RX11) (T := TX11) (N := 9) hx hb hts it_11 hown hK hP hL_h0 hF_97 rfl 8 (by decide) (hts _ kt_542) (fun _ h9 => h9) rfl dX11_message_32 ?_
    refine pg_put (ci := 11) (v := .ref sp) (ty := .object "PostGate$Message") (C := RX11) (T := TX11) (N := 9) hx hb hts it_11 tyX11 tyX11_ok nmX11 hown hK hP hD hS hL_h0 hF_97 rfl 7 (by decide) (hts _ kt_518) (fun _ h9 => h9) rfl (by decide +kernel) (rfl) (rfl) (Nat.le_of_ble_eq_true rfl) dX11_message_35 (fun H locs hP hD hS => ?_)
    obtain ⟨F_105, he_106, hP, hD, hO, hR⟩ : ∃ G, G = va_up F_95 h0 (.inr (11, [.ref ta, .ref ou, .ref di, .ref ck, .ref sl, .ref po, .ref hs, .ref sp, .ref sp])) ∧ va_P (dC, dI) vwCl (va_pl L G) H ∧ va_D A (va_pl L G) ∧ OK cs ty L G ∧ FR ty [ρ, ρ + 1, ρ + 30, ρ + 31, ρ + 32, ρ + 33] F G := ⟨_, rfl, hP, hD, hO.up (sh.gate hT_h0 ⟨sp, sp, (ρ + 30), (ρ + 30), rfl, hL_sp, ⟨_, _, _, _, hT_sp⟩, hL_sp, ⟨_, _, _, _, hT_sp⟩, (by omega), (by omega)⟩), hR.up hT_h0 (by simp)⟩
    have hF_107 : F_105 h0 = .inr (11, [.ref ta, .ref ou, .ref di, .ref ck, .ref sl, .ref po, .ref hs, .ref sp, .ref sp]) := by rw [he_106]; exact up_self
    have hF_108 : F_105 sp = .inr (4, [.ref x9, .ref w0, .ref w1, .ref w2, .int (nI gh_75.1), .int (nI gh_75.2.2)]) := by rw [he_106, up_ne (ne_ty hT_sp hT_h0 (by simp))]; exact hF_98
    have hF_109 : F_105 x9 = .inr (0, [.ref rx9, .int (nI zt), .int 0]) := by rw [he_106, up_ne (ne_ty hT_x9 hT_h0 (by simp))]; exact hF_99
    have hF_110 : F_105 rx9 = .inl (cs 16, 3000, .inl fc_81) := by rw [he_106, up_ne (ne_ty ht_70 hT_h0 (by simp))]; exact hF_100
    have hF_111 : F_105 w0 = .inl (cs 16, 20, .inl p0_78) := by rw [he_106, up_ne (ne_ty ht_62 hT_h0 (by simp))]; exact hF_101
    have hF_112 : F_105 w1 = .inl (cs 16, 20, .inl p1_79) := by rw [he_106, up_ne (ne_ty ht_63 hT_h0 (by simp))]; exact hF_102
    have hF_113 : F_105 w2 = .inl (cs 16, 20, .inl p2_80) := by rw [he_106, up_ne (ne_ty ht_64 hT_h0 (by simp))]; exact hF_103
    have hF_114 : F_105 ta = .inr (0, [.ref rt, .int (nI 0), .int 0]) := by rw [he_106, up_ne (ne_ty hT_ta hT_h0 (by simp))]; exact hq_96
    refine lv_aload_n hx hb dX11_message_38 rfl (lv_at hl 2 rfl) ?_
    refine lv_aload_n hx hb dX11_message_39 rfl (lv_at hl 0 rfl) ?_
    refine pg_put (ci := 11) (v := .ref le) (ty := .object "PostGate$Message") (C := RX11) (T := TX11) (N := 9) hx hb hts it_11 tyX11 tyX11_ok nmX11 hown hK hP hD hS hL_h0 hF_107 rfl 8 (by decide) (hts _ kt_542) (fun _ h9 => h9) rfl (by decide +kernel) (rfl) (rfl) (Nat.le_of_ble_eq_true rfl) dX11_message_40 (fun H locs hP hD hS => ?_)
    obtain ⟨F_115, he_116, hP, hD, hO, hR⟩ : ∃ G, G = va_up F_105 h0 (.inr (11, [.ref ta, .ref ou, .ref di, .ref ck, .ref sl, .ref po, .ref hs, .ref sp, .ref le])) ∧ va_P (dC, dI) vwCl (va_pl L G) H ∧ va_D A (va_pl L G) ∧ OK cs ty L G ∧ FR ty [ρ, ρ + 1, ρ + 30, ρ + 31, ρ + 32, ρ + 33] F G := ⟨_, rfl, hP, hD, hO.up (sh.gate hT_h0 ⟨sp, le, (ρ + 30), (ρ + 20), rfl, hL_sp, ⟨_, _, _, _, hT_sp⟩, hL_le, ⟨_, _, _, _, hT_le⟩, (by omega), (by omega)⟩), hR.up hT_h0 (by simp)⟩
    have hF_117 : F_115 h0 = .inr (11, [.ref ta, .ref ou, .ref di, .ref ck, .ref sl, .ref po, .ref hs, .ref sp, .ref le]) := by rw [he_116]; exact up_self
    have hF_118 : F_115 sp = .inr (4, [.ref x9, .ref w0, .ref w1, .ref w2, .int (nI gh_75.1), .int (nI gh_75.2.2)]) := by rw [he_116, up_ne (ne_ty hT_sp hT_h0 (by simp))]; exact hF_108
    have hF_119 : F_115 x9 = .inr (0, [.ref rx9, .int (nI zt), .int 0]) := by rw [he_116, up_ne (ne_ty hT_x9 hT_h0 (by simp))]; exact hF_109
    have hF_120 : F_115 rx9 = .inl (cs 16, 3000, .inl fc_81) := by rw [he_116, up_ne (ne_ty ht_70 hT_h0 (by simp))]; exact hF_110
    have hF_121 : F_115 w0 = .inl (cs 16, 20, .inl p0_78) := by rw [he_116, up_ne (ne_ty ht_62 hT_h0 (by simp))]; exact hF_111
    have hF_122 : F_115 w1 = .inl (cs 16, 20, .inl p1_79) := by rw [he_116, up_ne (ne_ty ht_63 hT_h0 (by simp))]; exact hF_112
    have hF_123 : F_115 w2 = .inl (cs 16, 20, .inl p2_80) := by rw [he_116, up_ne (ne_ty ht_64 hT_h0 (by simp))]; exact hF_113
    have hF_124 : F_115 ta = .inr (0, [.ref rt, .int (nI 0), .int 0]) := by rw [he_116, up_ne (ne_ty hT_ta hT_h0 (by simp))]; exact hF_114
    refine lv_aload_n hx hb dX11_message_43 rfl (lv_at hl 2 rfl) ?_
    refine pg_get (ci := 11) (v := .ref sp) (C := RX11) (T := TX11) (N := 9) hx hb hts it_11 hown hK hP hL_h0 hF_117 rfl 7 (by decide) (hts _ kt_518) (fun _ h9 => h9) rfl dX11_message_44 ?_
    refine pg_getN (ci := 4) (v := .int (nI gh_75.1)) (C := RX4) (T := TX4) (N := 6) hx hb hts it_4 hown hK hP hL_sp hF_118 rfl 4 (by decide) (hE.nest kn_20) (fun _ h9 => h9) rfl dX11_message_47 ?_
    refine W.widen (k := 0) (n := 0) (by omega) (by omega) ?_
    exact W.iret (v := (nI gh_75.1)) hx hb hr (fun t ht hWm => ⟨⟨(nI gh_75.1), (some gh_75), rfl, (rdx_y hw_93 c_104), ⟨F_115, QT.mk ht hP hD hO hR, hF_124, (Or.inr ⟨gh_75, p0_78, p1_79, p2_80, fc_81, rfl, hF_117, hF_118, hF_119, hF_120, hF_121, hF_122, hF_123, hq_88, hq_89⟩)⟩⟩, hS.F ht⟩) hS.2.2 dX11_message_50
  ·
    refine lv_iconst (v := (-1)) hx hb dX11_message_23 (by decide) ?_
    refine W.widen (k := 0) (n := 0) (by omega) (by omega) ?_
    exact W.iret (v := (-1)) hx hb hr (fun t ht hWm => ⟨⟨(-1), none, rfl, (rdx_z hw_93 c_104), ⟨F_95, QT.mk ht hP hD hO hR, hq_96, (Or.inl ⟨rfl, hF_97⟩)⟩⟩, hS.F ht⟩) hS.2.2 dX11_message_24
set_option maxHeartbeats 4000000 in
set_option maxRecDepth 100000 in
theorem s_X11_message_x30 (l : Launch) (dC : Nat → ClassId) (dI : Nat → Nat → Nat) (cs : Nat → ClassId) (ty : TyM) (L : List Nat) (sz : Nat) (F : Nat → va_E) (h0 : Nat) (ρ : Nat) (ta : Nat) (ou : Nat) (di : Nat) (ea : Nat) (ck : Nat) (sl : Nat) (po : Nat) (hs : Nat) (zt : Nat) (rt : Nat) (cn : Nat) (f : Nat → Int32) (le : Nat) (x : Nat) (y0 : Nat) (y1 : Nat) (y2 : Nat) (sp : Nat) (x9 : Nat) (w0 : Nat) (w1 : Nat) (w2 : Nat) (rx9 : Nat) (hW : WT ty L) (hL_h0 : h0 ∈ L) (hT_h0 : ty h0 = (11, ρ, [ta, ou, di, ea, ck, sl, po, hs])) (hL_ta : ta ∈ L) (hT_ta : ty ta = (0, ρ + 1, [rt, 3000])) (hL_le : le ∈ L) (hT_le : ty le = (4, ρ + 30, [x, y0, y1, y2])) (hL_sp : sp ∈ L) (hT_sp : ty sp = (4, ρ + 20, [x9, w0, w1, w2])) (hL_x9 : x9 ∈ L) (hT_x9 : ty x9 = (0, ρ + 21, [rx9, 3000])) (hFt : F ta = .inr (0, [.ref rt, .int (nI zt), .int 0])) (hFr : F rt = .inl (cs 16, 3000, .inl f)) (hzt : zt ≤ 3000) (hF0 : F h0 = .inr (11, [.ref ta, .ref ou, .ref di, .ref ck, .ref sl, .ref po, .ref hs, .ref le, .ref sp])) : Met l yX11_message (.code yX11_message cX11_message 3 (some .int) :: tb) ({ frames := 5, cells := 0, slots := 0, locals := 119 }) (va_Pc [.ref h0] (PT (dC, dI) cs ty L F sz)) (va_Qi (fun (r : Int32) (gh : MRA) => MSX (clf f) zt r gh) (fun (gh : MRA) T9 => ∃ F2 : Nat → va_E, QT (dC, dI) cs ty L [ρ, ρ + 1, ρ + 20, ρ + 21, ρ + 22, ρ + 23] F F2 (va_A (va_pl L F) sz) T9 ∧ F2 ta = .inr (0, [.ref rt, .int (nI 0), .int 0]) ∧ ((gh = none ∧ F2 h0 = .inr (11, [.ref ta, .ref ou, .ref di, .ref ck, .ref sl, .ref po, .ref hs, .ref le, .ref sp])) ∨ ∃ (q : Nat × (Nat → Nat → Nat) × Nat) (p0 p1 p2 fc : Nat → Int32), gh = some q ∧ F2 h0 = .inr (11, [.ref ta, .ref ou, .ref di, .ref ck, .ref sl, .ref po, .ref hs, .ref sp, .ref le]) ∧ F2 sp = .inr (4, [.ref x9, .ref w0, .ref w1, .ref w2, .int (nI q.1), .int (nI q.2.2)]) ∧ F2 x9 = .inr (0, [.ref rx9, .int (nI zt), .int 0]) ∧ F2 rx9 = .inl (cs 16, 3000, .inl fc) ∧ F2 w0 = .inl (cs 16, 20, .inl p0) ∧ F2 w1 = .inl (cs 16, 20, .inl p1) ∧ F2 w2 = .inl (cs 16, 20, .inl p2) ∧ (∀ j, j < zt → fc j = f j) ∧ HLD p0 p1 p2 q.1 q.2.1)) (va_A (va_pl L F) sz)) 0 0 (va_A (va_pl L F) sz) := by
  refine Met.ofW (cc := cX11_message) (maxL := 3) (ret := (some .int)) (by decide) rfl ?_
  intro p e s m args below meth c s₁ B hml hv
  obtain ⟨rfl, hsz, hP, hK, hD0, hE, hO⟩ := hv
  have hx := B.exec
  have hb := B.bytes
  have hr := B.returns
  have hts : ∀ w ∈ tb, w.before _ s = true := fun w h => atoms_spec (ws := .code yX11_message cX11_message 3 (some .int) :: tb) B.pre w (List.mem_cons_of_mem _ h)
  have hown : s.vm.findClass RX11 = some m.cls := findClass_of_methodNamed B.named
  have hlocks := B.notSynchronized
  subst hsz
  have hD := hD0.self (sz := s.heap.size)
  generalize hAe : va_A (va_pl L F) s.heap.size = A at hD ⊢
  have hA : ∀ q : Nat, s.heap.size ≤ q → A q := fun q h => by rw [← hAe]; exact Or.inr h
  have hS : va_S A s.heap s.heap [] := va_S.rf
  have hR : FR ty [ρ, ρ + 1, ρ + 20, ρ + 21, ρ + 22, ρ + 23] F F := FR.refl
  have hl := lv_entry ([.ref h0]) (n := 3) (Nat.le_of_ble_eq_true rfl)
  rw [lg_entry_eq]
  generalize (lg_sl ([.ref h0]) ++ List.replicate (3 - (lg_sl ([.ref h0])).length) Slot.unset).toArray = ls at hl ⊢
  have hl : lv_has ls 3 [(0, .ref h0)] := hl
  refine lv_aload_n hx hb dX11_message_0 rfl (lv_at hl 0 rfl) ?_
  obtain ⟨_, _, hi_1, ⟨r_2, ht_3⟩, hi_4, ht_5, hi_6, ⟨w0_7, w1_8, w2_9, w3_10, nm_11, te_12, ht_13⟩, hi_14, ⟨l1_15, lx_16, ly0_17, ly1_18, ly2_19, k1_20, kx_21, ky0_22, ky1_23, ky2_24, w0_25, w1_26, w2_27, w3_28, w4_29, w5_30, w6_31, w7_32, w8_33, tk_34, h1_35, hx_36, hy_37, hw_38, pw_39, px_40, py_41, pz_42, pu_43, ht_44⟩, hi_45, ⟨w0_46, w1_47, rc_48, rx_49, ry0_50, ry1_51, ry2_52, ht_53⟩, hi_54, ⟨hx_55, hy_56, hw_57, ht_58⟩⟩ := hW.gate hL_h0 hT_h0
  refine pg_get (ci := 11) (v := .ref sp) (C := RX11) (T := TX11) (N := 9) hx hb hts it_11 hown hK hP hL_h0 hF0 rfl 8 (by decide) (hts _ kt_542) (fun _ h9 => h9) rfl dX11_message_1 ?_
  refine lv_aload_n hx hb dX11_message_4 rfl (lv_at hl 0 rfl) ?_
  refine pg_get (ci := 11) (v := .ref ta) (C := RX11) (T := TX11) (N := 9) hx hb hts it_11 hown hK hP hL_h0 hF0 rfl 0 (by decide) (hts _ kt_509) (fun _ h9 => h9) rfl dX11_message_5 ?_
  obtain ⟨_, hi_59, hi_60, hi_61, _, ht_62, ht_63, ht_64⟩ := hW.msg hL_sp hT_sp
  have ht_63 : ty w1 = (24, ρ + 22, [20]) := ht_63
  have ht_64 : ty w2 = (24, ρ + 23, [20]) := ht_64
  obtain ⟨z_65, v0_66, hF_67, hq_68⟩ := hO.msg hL_sp hT_sp
  obtain ⟨hi_69, ht_70, hq_71⟩ := hW.bytes hL_x9 hT_x9
  obtain ⟨hi_72, ht_73, hq_74⟩ := hW.bytes hL_ta hT_ta
  have hFc := pg_free hD hS hA
  refine va_calli (va_runV (As := [.ref ta]) (rest := []) ⟨hx, hb, hml, hown, hts⟩ (s_X4_read_x l dC dI cs ty L s.heap.size F sp (ρ + 20) x9 w0 w1 w2 ta (ρ + 1) rt 3000 rx9 zt f hW hL_sp hT_sp hL_x9 hT_x9 hL_ta hT_ta hFt hFr (by omega) (by omega) (by omega) (by omega)) ⟨callB_of 1 hts (gi kt_543) rfl rfl rfl (hts _ kt_211) (hts _ kt_544) (by decide +kernel) ⟨Nat.le_of_ble_eq_true rfl, Nat.le_of_ble_eq_true rfl⟩, (hts _ kt_545), (hts _ kt_546)⟩ ⟨fun a U g mk q => ⟨q.1, PT.calling q.2⟩, pg_recv hK hP hL_sp hF_67 (q := (RX4, TX4, 6)) rfl, fun U hU hWm => ⟨rfl, PT.mk hU hWm hP hK hD hE hO⟩⟩ rfl rfl hl.1 rfl (lv_room (Nat.le_of_ble_eq_true rfl)) dX11_message_8 ⟨by show _ + 0 ≤ 0; omega, by show _ + 0 ≤ 0; omega⟩) hS (fun q _ h => hFc q h) hFc (fun r_76 gh_75 t H1 locs ht hvm hw hB hz1 hk1 hS => ?_)
  obtain ⟨F_77, p0_78, p1_79, p2_80, fc_81, hB1, hq_82, hq_83, hq_84, hq_85, hq_86, hq_87, hq_88, hq_89⟩ := hB
  obtain ⟨hP, hD, hO, hR⟩ := QT.back hB1 ht hFc hR (fun q h => by simp only [List.mem_cons, List.not_mem_nil, or_false] at h ⊢; omega)
  have hF_90 : F_77 ta = .inr (0, [.ref rt, .int (nI zt), .int 0]) := (hB1.2.2.2 ta (by rw [hT_ta]; simp <;> omega)).trans hFt
  have hF_91 : F_77 rt = .inl (cs 16, 3000, .inl f) := (hB1.2.2.2 rt (by rw [ht_73]; simp <;> omega)).trans hFr
  have hF_92 : F_77 h0 = .inr (11, [.ref ta, .ref ou, .ref di, .ref ck, .ref sl, .ref po, .ref hs, .ref le, .ref sp]) := (hB1.2.2.2 h0 (by rw [hT_h0]; simp <;> omega)).trans hF0
  generalize H1 = H at hP hS ⊢
  have hw : RDX (clf f) zt r_76 gh_75 := hw
  have hw_93 := hw
  refine lv_istore_n (lv' := [(1, .int r_76), (0, .ref h0)]) hx hb dX11_message_11 rfl hl (by decide) rfl (fun ls hl => ?_)
  refine lv_aload_n hx hb dX11_message_12 rfl (lv_at hl 1 rfl) ?_
  refine pg_get (ci := 11) (v := .ref ta) (C := RX11) (T := TX11) (N := 9) hx hb hts it_11 hown hK hP hL_h0 hF_92 rfl 0 (by decide) (hts _ kt_509) (fun _ h9 => h9) rfl dX11_message_13 ?_
  have hFc := pg_free hD hS hA
  refine va_callv (va_runV (As := []) (rest := []) ⟨hx, hb, hml, hown, hts⟩ (s_X0_clear l dC dI cs ty L H.size F_77 ta (ρ + 1) rt 3000 hW hL_ta hT_ta) ⟨callB_of 0 hts (gi kt_32) rfl rfl rfl (hts _ kt_1) (hts _ kt_527) (by decide +kernel) ⟨Nat.le_of_ble_eq_true rfl, Nat.le_of_ble_eq_true rfl⟩, (hts _ kt_34), (hts _ kt_35)⟩ ⟨fun a U g mk q => ⟨q.1, PT.calling q.2⟩, pg_recv hK hP hL_ta hF_90 (q := (RX0, TX0, 3)) rfl, fun U hU hWm => ⟨rfl, PT.mk hU hWm hP hK hD hE hO⟩⟩ rfl rfl hl.1 rfl (lv_room (Nat.le_of_ble_eq_true rfl)) dX11_message_16 ⟨by show _ + 0 ≤ 0; omega, by show _ + 0 ≤ 0; omega⟩) hS (fun q _ h => hFc q h) hFc (fun u t H1 locs ht hvm hw hB hz1 hk1 hS => ?_)
  obtain ⟨F_95, hB1, hq_96⟩ := hB
  obtain ⟨hP, hD, hO, hR⟩ := QT.back hB1 ht hFc hR (fun q h => by simp only [List.mem_cons, List.not_mem_nil, or_false] at h ⊢; omega)
  have hF_97 : F_95 h0 = .inr (11, [.ref ta, .ref ou, .ref di, .ref ck, .ref sl, .ref po, .ref hs, .ref le, .ref sp]) := (hB1.2.2.2 h0 (by rw [hT_h0]; simp)).trans hF_92
  have hF_98 : F_95 sp = .inr (4, [.ref x9, .ref w0, .ref w1, .ref w2, .int (nI gh_75.1), .int (nI gh_75.2.2)]) := (hB1.2.2.2 sp (by rw [hT_sp]; simp)).trans hq_82
  have hF_99 : F_95 x9 = .inr (0, [.ref rx9, .int (nI zt), .int 0]) := (hB1.2.2.2 x9 (by rw [hT_x9]; simp)).trans hq_83
  have hF_100 : F_95 rx9 = .inl (cs 16, 3000, .inl fc_81) := (hB1.2.2.2 rx9 (by rw [ht_70]; simp)).trans hq_84
  have hF_101 : F_95 w0 = .inl (cs 16, 20, .inl p0_78) := (hB1.2.2.2 w0 (by rw [ht_62]; simp)).trans hq_85
  have hF_102 : F_95 w1 = .inl (cs 16, 20, .inl p1_79) := (hB1.2.2.2 w1 (by rw [ht_63]; simp)).trans hq_86
  have hF_103 : F_95 w2 = .inl (cs 16, 20, .inl p2_80) := (hB1.2.2.2 w2 (by rw [ht_64]; simp)).trans hq_87
  generalize H1 = H at hP hS ⊢
  refine lv_iload_n hx hb dX11_message_19 rfl (lv_at hl 0 rfl) ?_
  refine lv_if_ne (tgt := 25) hx hb dX11_message_20 (by decide) (fun c_104 => ?_) (fun c_104 => ?_)
  ·
    refine lv_aload_n hx hb dX11_message_25 rfl (lv_at hl 1 rfl) ?_
    refine pg_get (ci := 11) (v := .ref le) (C := RX11) (T := TX11) (N := 9) hx hb hts it_11 hown hK hP hL_h0 hF_97 rfl 7 (by decide) (hts _ kt_518) (fun _ h9 => h9) rfl dX11_message_26 ?_
    refine lv_astore_n (lv' := [(2, .ref le), (1, .int r_76), (0, .ref h0)]) hx hb dX11_message_29 rfl hl (by decide) rfl (fun ls hl => ?_)
    refine lv_aload_n hx hb dX11_message_30 rfl (lv_at hl 2 rfl) ?_
    refine lv_aload_n hx hb dX11_message_31 rfl (lv_at hl 2 rfl) ?_
    refine pg_get (ci := 11) (v := .ref sp) (C := RX11) (T := TX11) (N := 9) hx hb hts it_11 hown hK hP hL_h0 hF_97 rfl 8 (by decide) (hts _ kt_542) (fun _ h9 => h9) rfl dX11_message_32 ?_
    refine pg_put (ci := 11) (v := .ref sp) (ty := .object "PostGate$Message") (C := RX11) (T := TX11) (N := 9) hx hb hts it_11 tyX11 tyX11_ok nmX11 hown hK hP hD hS hL_h0 hF_97 rfl 7 (by decide) (hts _ kt_518) (fun _ h9 => h9) rfl (by decide +kernel) (rfl) (rfl) (Nat.le_of_ble_eq_true rfl) dX11_message_35 (fun H locs hP hD hS => ?_)
    obtain ⟨F_105, he_106, hP, hD, hO, hR⟩ : ∃ G, G = va_up F_95 h0 (.inr (11, [.ref ta, .ref ou, .ref di, .ref ck, .ref sl, .ref po, .ref hs, .ref sp, .ref sp])) ∧ va_P (dC, dI) vwCl (va_pl L G) H ∧ va_D A (va_pl L G) ∧ OK cs ty L G ∧ FR ty [ρ, ρ + 1, ρ + 20, ρ + 21, ρ + 22, ρ + 23] F G := ⟨_, rfl, hP, hD, hO.up (sh.gate hT_h0 ⟨sp, sp, (ρ + 20), (ρ + 20), rfl, hL_sp, ⟨_, _, _, _, hT_sp⟩, hL_sp, ⟨_, _, _, _, hT_sp⟩, (by omega), (by omega)⟩), hR.up hT_h0 (by simp)⟩
    have hF_107 : F_105 h0 = .inr (11, [.ref ta, .ref ou, .ref di, .ref ck, .ref sl, .ref po, .ref hs, .ref sp, .ref sp]) := by rw [he_106]; exact up_self
    have hF_108 : F_105 sp = .inr (4, [.ref x9, .ref w0, .ref w1, .ref w2, .int (nI gh_75.1), .int (nI gh_75.2.2)]) := by rw [he_106, up_ne (ne_ty hT_sp hT_h0 (by simp))]; exact hF_98
    have hF_109 : F_105 x9 = .inr (0, [.ref rx9, .int (nI zt), .int 0]) := by rw [he_106, up_ne (ne_ty hT_x9 hT_h0 (by simp))]; exact hF_99
    have hF_110 : F_105 rx9 = .inl (cs 16, 3000, .inl fc_81) := by rw [he_106, up_ne (ne_ty ht_70 hT_h0 (by simp))]; exact hF_100
    have hF_111 : F_105 w0 = .inl (cs 16, 20, .inl p0_78) := by rw [he_106, up_ne (ne_ty ht_62 hT_h0 (by simp))]; exact hF_101
    have hF_112 : F_105 w1 = .inl (cs 16, 20, .inl p1_79) := by rw [he_106, up_ne (ne_ty ht_63 hT_h0 (by simp))]; exact hF_102
    have hF_113 : F_105 w2 = .inl (cs 16, 20, .inl p2_80) := by rw [he_106, up_ne (ne_ty ht_64 hT_h0 (by simp))]; exact hF_103
    have hF_114 : F_105 ta = .inr (0, [.ref rt, .int (nI 0), .int 0]) := by rw [he_106, up_ne (ne_ty hT_ta hT_h0 (by simp))]; exact hq_96
    refine lv_aload_n hx hb dX11_message_38 rfl (lv_at hl 2 rfl) ?_
    refine lv_aload_n hx hb dX11_message_39 rfl (lv_at hl 0 rfl) ?_
    refine pg_put (ci := 11) (v := .ref le) (ty := .object "PostGate$Message") (C := RX11) (T := TX11) (N := 9) hx hb hts it_11 tyX11 tyX11_ok nmX11 hown hK hP hD hS hL_h0 hF_107 rfl 8 (by decide) (hts _ kt_542) (fun _ h9 => h9) rfl (by decide +kernel) (rfl) (rfl) (Nat.le_of_ble_eq_true rfl) dX11_message_40 (fun H locs hP hD hS => ?_)
    obtain ⟨F_115, he_116, hP, hD, hO, hR⟩ : ∃ G, G = va_up F_105 h0 (.inr (11, [.ref ta, .ref ou, .ref di, .ref ck, .ref sl, .ref po, .ref hs, .ref sp, .ref le])) ∧ va_P (dC, dI) vwCl (va_pl L G) H ∧ va_D A (va_pl L G) ∧ OK cs ty L G ∧ FR ty [ρ, ρ + 1, ρ + 20, ρ + 21, ρ + 22, ρ + 23] F G := ⟨_, rfl, hP, hD, hO.up (sh.gate hT_h0 ⟨sp, le, (ρ + 20), (ρ + 30), rfl, hL_sp, ⟨_, _, _, _, hT_sp⟩, hL_le, ⟨_, _, _, _, hT_le⟩, (by omega), (by omega)⟩), hR.up hT_h0 (by simp)⟩
    have hF_117 : F_115 h0 = .inr (11, [.ref ta, .ref ou, .ref di, .ref ck, .ref sl, .ref po, .ref hs, .ref sp, .ref le]) := by rw [he_116]; exact up_self
    have hF_118 : F_115 sp = .inr (4, [.ref x9, .ref w0, .ref w1, .ref w2, .int (nI gh_75.1), .int (nI gh_75.2.2)]) := by rw [he_116, up_ne (ne_ty hT_sp hT_h0 (by simp))]; exact hF_108
    have hF_119 : F_115 x9 = .inr (0, [.ref rx9, .int (nI zt), .int 0]) := by rw [he_116, up_ne (ne_ty hT_x9 hT_h0 (by simp))]; exact hF_109
    have hF_120 : F_115 rx9 = .inl (cs 16, 3000, .inl fc_81) := by rw [he_116, up_ne (ne_ty ht_70 hT_h0 (by simp))]; exact hF_110
    have hF_121 : F_115 w0 = .inl (cs 16, 20, .inl p0_78) := by rw [he_116, up_ne (ne_ty ht_62 hT_h0 (by simp))]; exact hF_111
    have hF_122 : F_115 w1 = .inl (cs 16, 20, .inl p1_79) := by rw [he_116, up_ne (ne_ty ht_63 hT_h0 (by simp))]; exact hF_112
    have hF_123 : F_115 w2 = .inl (cs 16, 20, .inl p2_80) := by rw [he_116, up_ne (ne_ty ht_64 hT_h0 (by simp))]; exact hF_113
    have hF_124 : F_115 ta = .inr (0, [.ref rt, .int (nI 0), .int 0]) := by rw [he_116, up_ne (ne_ty hT_ta hT_h0 (by simp))]; exact hF_114
    refine lv_aload_n hx hb dX11_message_43 rfl (lv_at hl 2 rfl) ?_
    refine pg_get (ci := 11) (v := .ref sp) (C := RX11) (T := TX11) (N := 9) hx hb hts it_11 hown hK hP hL_h0 hF_117 rfl 7 (by decide) (hts _ kt_518) (fun _ h9 => h9) rfl dX11_message_44 ?_
    refine pg_getN (ci := 4) (v := .int (nI gh_75.1)) (C := RX4) (T := TX4) (N := 6) hx hb hts it_4 hown hK hP hL_sp hF_118 rfl 4 (by decide) (hE.nest kn_20) (fun _ h9 => h9) rfl dX11_message_47 ?_
    refine W.widen (k := 0) (n := 0) (by omega) (by omega) ?_
    exact W.iret (v := (nI gh_75.1)) hx hb hr (fun t ht hWm => ⟨⟨(nI gh_75.1), (some gh_75), rfl, (rdx_y hw_93 c_104), ⟨F_115, QT.mk ht hP hD hO hR, hF_124, (Or.inr ⟨gh_75, p0_78, p1_79, p2_80, fc_81, rfl, hF_117, hF_118, hF_119, hF_120, hF_121, hF_122, hF_123, hq_88, hq_89⟩)⟩⟩, hS.F ht⟩) hS.2.2 dX11_message_50
  ·
    refine lv_iconst (v := (-1)) hx hb dX11_message_23 (by decide) ?_
    refine W.widen (k := 0) (n := 0) (by omega) (by omega) ?_
    exact W.iret (v := (-1)) hx hb hr (fun t ht hWm => ⟨⟨(-1), none, rfl, (rdx_z hw_93 c_104), ⟨F_95, QT.mk ht hP hD hO hR, hq_96, (Or.inl ⟨rfl, hF_97⟩)⟩⟩, hS.F ht⟩) hS.2.2 dX11_message_24
set_option maxHeartbeats 4000000 in
set_option maxRecDepth 100000 in
theorem s_X4_countOf_e (l : Launch) (dC : Nat → ClassId) (dI : Nat → Nat → Nat) (cs : Nat → ClassId) (ty : TyM) (L : List Nat) (sz : Nat) (F : Nat → va_E) (h0 : Nat) (ρ : Nat) (tx : Nat) (y0 : Nat) (y1 : Nat) (y2 : Nat) (q : Nat) (v : Nat) (k0 : Nat) (C : Nat → Int32) (z : Nat) (v0 : Int32) (hW : WT ty L) (hL_h0 : h0 ∈ L) (hT_h0 : ty h0 = (4, ρ, [tx, y0, y1, y2])) (hF0 : F h0 = .inr (4, [.ref tx, .ref y0, .ref y1, .ref y2, .int (nI z), .int v0])) (hz20 : z ≤ 20) : Met l yX4_countOf (.code yX4_countOf cX4_countOf 4 (some .int) :: tb) ({ frames := 5, cells := 0, slots := 0, locals := 108 }) (va_Pc [.ref h0, .ref q] (PTC (dC, dI) cs ty L F sz q v k0 C)) (va_Qi (fun (r : Int32) (_ : Unit) => (∃ w : Nat, r = nI w ∧ CNT (fun i => nmd F tx y0 y1 C k0 i) z w)) (fun _ T9 => ∃ F2 : Nat → va_E, QT (dC, dI) cs ty L [] F F2 (va_A (va_pl L F) sz) T9) (va_A (va_pl L F) sz)) 0 0 (va_A (va_pl L F) sz) := by
  refine Met.ofW (cc := cX4_countOf) (maxL := 4) (ret := (some .int)) (by decide) rfl ?_
  intro p e s m args below meth c s₁ B hml hv
  obtain ⟨rfl, ⟨hsz, hP, hK, hD0, hE, hO⟩, hG, hX⟩ := hv
  have hx := B.exec
  have hb := B.bytes
  have hr := B.returns
  have hts : ∀ w ∈ tb, w.before _ s = true := fun w h => atoms_spec (ws := .code yX4_countOf cX4_countOf 4 (some .int) :: tb) B.pre w (List.mem_cons_of_mem _ h)
  have hown : s.vm.findClass RX4 = some m.cls := findClass_of_methodNamed B.named
  have hlocks := B.notSynchronized
  subst hsz
  have hD := hD0.self (sz := s.heap.size)
  generalize hAe : va_A (va_pl L F) s.heap.size = A at hD hG hX ⊢
  have hX_q : SX q v k0 A s s.heap := hX.sx
  obtain ⟨xo_q, xc_q, xv_q, xt_q, xn_q⟩ := id hX
  have hA : ∀ q : Nat, s.heap.size ≤ q → A q := fun q h => by rw [← hAe]; exact Or.inr h
  have hS : va_S A s.heap s.heap [] := va_S.rf
  have hR : FR ty [] F F := FR.refl
  have hl := lv_entry ([.ref h0, .ref q]) (n := 4) (Nat.le_of_ble_eq_true rfl)
  rw [lg_entry_eq]
  generalize (lg_sl ([.ref h0, .ref q]) ++ List.replicate (4 - (lg_sl ([.ref h0, .ref q])).length) Slot.unset).toArray = ls at hl ⊢
  have hl : lv_has ls 4 [(0, .ref h0), (1, .ref q)] := hl
  refine lv_iconst (v := 0) hx hb dX4_countOf_0 (by decide) ?_
  refine lv_istore_n (lv' := [(2, .int 0), (0, .ref h0), (1, .ref q)]) hx hb dX4_countOf_1 rfl hl (by decide) rfl (fun ls hl => ?_)
  refine lv_iconst (v := 0) hx hb dX4_countOf_2 (by decide) ?_
  refine lv_istore_n (lv' := [(3, .int 0), (2, .int 0), (0, .ref h0), (1, .ref q)]) hx hb dX4_countOf_3 rfl hl (by decide) rfl (fun ls hl => ?_)
  refine W.widen (k := 0) (n := 0) (by omega) (by omega) ?_
  refine pl_loop (σ := Nat × Nat) A (dC, dI) cs ty L [] F 4 4 (fun (j, w2) => [(3, .int (nI j)), (2, .int (nI w2)), (0, .ref h0), (1, .ref q)]) (fun (j, w2) => []) (fun (j, w2) _ => j ≤ z ∧ w2 ≤ j ∧ CNT (fun i => nmd F tx y0 y1 C k0 i) j w2) (fun (j, w2) => 20 - j) ?_ (0, 0) F (⟨by omega, by omega, rfl⟩) hO hR _ _ hP hD hS ls (lv_sub hl [0, 1, 2, 3] rfl)
  rintro ⟨j, w2⟩ F_1 hv_2 hO hR ih_3 H locs hP hD hS ls hl
  have hl : lv_has ls 4 [(3, .int (nI j)), (2, .int (nI w2)), (0, .ref h0), (1, .ref q)] := hl
  have hv_2 : j ≤ z ∧ w2 ≤ j ∧ CNT (fun i => nmd F tx y0 y1 C k0 i) j w2 := hv_2
  refine W.eq (g2 := F0 m 4 ls []) rfl ?_
  obtain rfl : F = F_1 := (funext (fun a => hR a List.not_mem_nil)).symm
  obtain ⟨hv1, hv2, hv3⟩ := id hv_2
  refine lv_iload_n hx hb dX4_countOf_4 rfl (lv_at hl 0 rfl) ?_
  refine lv_aload_n hx hb dX4_countOf_5 rfl (lv_at hl 2 rfl) ?_
  obtain ⟨hi_4, hi_5, hi_6, hi_7, ⟨r_8, ht_9⟩, ht_10, ht_11, ht_12⟩ := hW.msg hL_h0 hT_h0
  refine pg_get (ci := 4) (v := .int (nI z)) (C := RX4) (T := TX4) (N := 6) hx hb hts it_4 hown hK hP hL_h0 hF0 rfl 4 (by decide) (hts _ kt_203) (fun _ h9 => h9) rfl dX4_countOf_6 ?_
  refine lv_icmp_ge (tgt := 35) hx hb dX4_countOf_9 (by decide) (fun c_13 => ?_) (fun c_13 => ?_)
  ·
    have hi_14 : z ≤ j := leN (N := z) c_13
    have hjz : z ≤ j := (nI_leI (by omega) (by omega)).mp c_13
    refine lv_iload_n hx hb dX4_countOf_35 rfl (lv_at hl 1 rfl) ?_
    refine W.widen (k := 0) (n := 0) (by omega) (by omega) ?_
    exact W.iret (v := (nI w2)) hx hb hr (fun t ht hWm => ⟨⟨(nI w2), (), rfl, ⟨w2, rfl, by rw [show z = j by omega]; exact hv3⟩, ⟨F, QT.mk ht hP hD hO hR⟩⟩, hS.F ht⟩) hS.2.2 dX4_countOf_36
  ·
    have hi_15 : j < z := ltN (N := z) c_13
    have hjz : j < z := Nat.not_le.mp (fun q => c_13 ((nI_leI (by omega) (by omega)).mpr q))
    refine lv_iload_n hx hb dX4_countOf_12 rfl (lv_at hl 1 rfl) ?_
    refine lv_aload_n hx hb dX4_countOf_13 rfl (lv_at hl 2 rfl) ?_
    refine lv_iload_n hx hb dX4_countOf_14 rfl (lv_at hl 0 rfl) ?_
    refine lv_aload_n hx hb dX4_countOf_15 rfl (lv_at hl 3 rfl) ?_
    have hFc := pg_free hD hS hA
    refine va_calli (va_runV (As := [.int (nI j), .ref q]) (rest := [.int (nI w2)]) ⟨hx, hb, hml, hown, hts⟩ (s_X4_isNamed_x l dC dI cs ty L H.size F h0 ρ tx y0 y1 y2 q v k0 C z j v0 hW hL_h0 hT_h0 hF0 (by omega) (by omega)) ⟨callB_of 2 hts (gi kt_210) rfl rfl rfl (hts _ kt_211) (hts _ kt_212) (by decide +kernel) ⟨Nat.le_of_ble_eq_true rfl, Nat.le_of_ble_eq_true rfl⟩, (hts _ kt_213), (hts _ kt_214)⟩ ⟨fun a U g mk q => ⟨q.1, PTC.calling q.2⟩, pg_recv hK hP hL_h0 hF0 (q := (RX4, TX4, 6)) rfl, fun U hU hWm => ⟨rfl, PTC.mk hU hWm hP hK hD hE hO hG hX hS hFc⟩⟩ rfl rfl hl.1 rfl (lv_room (Nat.le_of_ble_eq_true rfl)) dX4_countOf_16 ⟨by show _ + 0 ≤ 0; omega, by show _ + 0 ≤ 0; omega⟩) hS (fun q _ h => hFc q h) hFc (fun r_16 u t H1 locs ht hvm hw hB hz1 hk1 hS => ?_)
    obtain ⟨F_17, hB1⟩ := hB
    obtain rfl : F = F_17 := (funext (fun a => hB1.2.2.2 a List.not_mem_nil)).symm
    obtain ⟨hP, hD, hO, hR⟩ := QT.back hB1 ht hFc hR (fun q h => absurd h List.not_mem_nil)
    generalize H1 = H at hP hS ⊢
    have hw : ((r_16 = 1 ∧ nmd F tx y0 y1 C k0 j) ∨ (r_16 = 0 ∧ ¬ nmd F tx y0 y1 C k0 j)) := hw
    have hw_18 := hw
    refine lv_if_eq (tgt := 26) hx hb dX4_countOf_19 (by decide) (fun c_19 => ?_) (fun c_19 => ?_)
    ·
      refine lv_iconst (v := 0) hx hb dX4_countOf_26 (by decide) ?_
      refine lv_iadd hx hb dX4_countOf_27 ?_
      refine lv_topi (fun x_20 ex_20 => ?_)
      obtain rfl : x_20 = (nI w2) := ex_20.trans (nI_add w2 0)
      refine lv_istore_n (lv' := [(2, .int (nI w2)), (3, .int (nI j)), (0, .ref h0), (1, .ref q)]) hx hb dX4_countOf_28 rfl hl (by decide) rfl (fun ls hl => ?_)
      refine lv_iinc (v := (nI (j + 1))) (lv' := [(3, .int (nI (j + 1))), (2, .int (nI w2)), (0, .ref h0), (1, .ref q)]) hx hb dX4_countOf_29 hl (k := 1) rfl (nI_1 _) (by decide) rfl (fun ls hl => ?_)
      refine lv_goto (tgt := 4) hx hb dX4_countOf_32 (by decide) ?_
      refine W.widen (k := 0) (n := 0) (by omega) (by omega) ?_
      exact ih_3 ((j + 1), w2) F (⟨by omega, by omega, hv3.n (nm0 hw_18 c_19)⟩) (by show 20 - (j + 1) < 20 - j; omega) hO hR _ _ hP hD hS ls (lv_sub hl [0, 1, 2, 3] rfl)
    ·
      refine lv_iconst (v := 1) hx hb dX4_countOf_22 (by decide) ?_
      refine lv_goto (tgt := 27) hx hb dX4_countOf_23 (by decide) ?_
      refine lv_iadd hx hb dX4_countOf_27 ?_
      refine lv_topi (fun x_21 ex_21 => ?_)
      obtain rfl : x_21 = (nI (w2 + 1)) := ex_21.trans (nI_1 w2)
      refine lv_istore_n (lv' := [(2, .int (nI (w2 + 1))), (3, .int (nI j)), (0, .ref h0), (1, .ref q)]) hx hb dX4_countOf_28 rfl hl (by decide) rfl (fun ls hl => ?_)
      refine lv_iinc (v := (nI (j + 1))) (lv' := [(3, .int (nI (j + 1))), (2, .int (nI (w2 + 1))), (0, .ref h0), (1, .ref q)]) hx hb dX4_countOf_29 hl (k := 1) rfl (nI_1 _) (by decide) rfl (fun ls hl => ?_)
      refine lv_goto (tgt := 4) hx hb dX4_countOf_32 (by decide) ?_
      refine W.widen (k := 0) (n := 0) (by omega) (by omega) ?_
      exact ih_3 ((j + 1), (w2 + 1)) F (⟨by omega, by omega, hv3.y (nm1 hw_18 c_19)⟩) (by show 20 - (j + 1) < 20 - j; omega) hO hR _ _ hP hD hS ls (lv_sub hl [0, 1, 2, 3] rfl)
set_option maxHeartbeats 4000000 in
set_option maxRecDepth 100000 in
theorem s_X11_seals_x (l : Launch) (dC : Nat → ClassId) (dI : Nat → Nat → Nat) (cs : Nat → ClassId) (ty : TyM) (L : List Nat) (sz : Nat) (F : Nat → va_E) (h0 : Nat) (ρ : Nat) (ta : Nat) (ou : Nat) (di : Nat) (ea : Nat) (ck : Nat) (sl : Nat) (po : Nat) (hs : Nat) (zt : Nat) (rt : Nat) (cn : Nat) (f : Nat → Int32) (le : Nat) (x : Nat) (y0 : Nat) (y1 : Nat) (y2 : Nat) (sp : Nat) (rx : Nat) (nn : Nat) (μ : Nat) (bb : Int32) (hW : WT ty L) (hL_h0 : h0 ∈ L) (hT_h0 : ty h0 = (11, ρ, [ta, ou, di, ea, ck, sl, po, hs])) (hL_le : le ∈ L) (hT_le : ty le = (4, μ, [x, y0, y1, y2])) (hF0 : F h0 = .inr (11, [.ref ta, .ref ou, .ref di, .ref ck, .ref sl, .ref po, .ref hs, .ref le, .ref sp])) (hFe : F le = .inr (4, [.ref x, .ref y0, .ref y1, .ref y2, .int (nI nn), .int bb])) (hn20 : nn ≤ 20) : Met l yX11_seals (.code yX11_seals cX11_seals 1 (some .int) :: tb) ({ frames := 6, cells := 0, slots := 0, locals := 131 }) (va_Pc [.ref h0] (PTE (dC, dI) cs ty L F sz [])) (va_Qi (fun (r : Int32) (_ : Unit) => (∃ w : Nat, r = nI w ∧ CNT (fun i => nmd F x y0 y1 (cct [100, 107, 105, 109, 45, 115, 105, 103, 110, 97, 116, 117, 114, 101]) 14 i) nn w)) (fun _ T9 => ∃ F2 : Nat → va_E, QT (dC, dI) cs ty L [] F F2 (va_A (va_pl L F) sz) T9) (va_A (va_pl L F) sz)) 0 0 (va_A (va_pl L F) sz) := by
  refine Met.ofW (cc := cX11_seals) (maxL := 1) (ret := (some .int)) (by decide) rfl ?_
  intro p e s m args below meth c s₁ B hml hv
  obtain ⟨rfl, ⟨hsz, hP, hK, hD0, hE, hO⟩, hG, hX⟩ := hv
  have hx := B.exec
  have hb := B.bytes
  have hr := B.returns
  have hts : ∀ w ∈ tb, w.before _ s = true := fun w h => atoms_spec (ws := .code yX11_seals cX11_seals 1 (some .int) :: tb) B.pre w (List.mem_cons_of_mem _ h)
  have hown : s.vm.findClass RX11 = some m.cls := findClass_of_methodNamed B.named
  have hlocks := B.notSynchronized
  subst hsz
  have hD := hD0.self (sz := s.heap.size)
  generalize hAe : va_A (va_pl L F) s.heap.size = A at hD hG hX ⊢
  have hA : ∀ q : Nat, s.heap.size ≤ q → A q := fun q h => by rw [← hAe]; exact Or.inr h
  have hS : va_S A s.heap s.heap [] := va_S.rf
  have hR : FR ty [] F F := FR.refl
  have hl := lv_entry ([.ref h0]) (n := 1) (Nat.le_of_ble_eq_true rfl)
  rw [lg_entry_eq]
  generalize (lg_sl ([.ref h0]) ++ List.replicate (1 - (lg_sl ([.ref h0])).length) Slot.unset).toArray = ls at hl ⊢
  have hl : lv_has ls 1 [(0, .ref h0)] := hl
  obtain ⟨hi_1, ⟨r_2, ht_3⟩, hi_4, ⟨r_5, ht_6⟩, hi_7, ht_8, hi_9, ⟨w0_10, w1_11, w2_12, w3_13, nm_14, te_15, ht_16⟩, hi_17, ⟨l1_18, lx_19, ly0_20, ly1_21, ly2_22, k1_23, kx_24, ky0_25, ky1_26, ky2_27, w0_28, w1_29, w2_30, w3_31, w4_32, w5_33, w6_34, w7_35, w8_36, tk_37, h1_38, hx_39, hy_40, hw_41, pw_42, px_43, py_44, pz_45, pu_46, ht_47⟩, hi_48, ⟨w0_49, w1_50, rc_51, rx_52, ry0_53, ry1_54, ry2_55, ht_56⟩, hi_57, ⟨hx_58, hy_59, hw_60, ht_61⟩⟩ := hW.gate hL_h0 hT_h0
  obtain ⟨hi_62, hi_63, hi_64, hi_65, ⟨r_66, ht_67⟩, ht_68, ht_69, ht_70⟩ := hW.msg hL_le hT_le
  refine lv_aload_n hx hb dX11_seals_0 rfl (lv_at hl 0 rfl) ?_
  refine pg_get (ci := 11) (v := .ref le) (C := RX11) (T := TX11) (N := 9) hx hb hts it_11 hown hK hP hL_h0 hF0 rfl 7 (by decide) (hts _ kt_518) (fun _ h9 => h9) rfl dX11_seals_1 ?_
  obtain ⟨q_71, v_72, hr_q_71, hXc_q_71⟩ := hG.2.2.2.2 ("PostGate", 112, "dkim-signature", [100, 107, 105, 109, 45, 115, 105, 103, 110, 97, 116, 117, 114, 101]) (by decide +kernel)
  have hXc_q_71 : SXc q_71 v_72 14 (cct [100, 107, 105, 109, 45, 115, 105, 103, 110, 97, 116, 117, 114, 101]) A s s.heap := hXc_q_71
  have hX_q_71 : SX q_71 v_72 14 A s s.heap := hXc_q_71.sx
  obtain ⟨xo_q_71, xc_q_71, xv_q_71, xt_q_71, xn_q_71⟩ := id hXc_q_71
  have hr_q_71 : vk_R "PostGate" 112 "dkim-signature" q_71 s := hr_q_71
  refine va_ldcS hx hb hown hr_q_71 dX11_seals_4 ?_
  have hFc := pg_free hD hS hA
  refine va_calli (va_runV (As := [.ref q_71]) (rest := []) ⟨hx, hb, hml, hown, hts⟩ (s_X4_countOf_e l dC dI cs ty L s.heap.size F le μ x y0 y1 y2 q_71 v_72 14 (cct [100, 107, 105, 109, 45, 115, 105, 103, 110, 97, 116, 117, 114, 101]) nn bb hW hL_le hT_le hFe (by omega)) ⟨callB_of 1 hts (gi kt_432) rfl rfl rfl (hts _ kt_211) (hts _ kt_519) (by decide +kernel) ⟨Nat.le_of_ble_eq_true rfl, Nat.le_of_ble_eq_true rfl⟩, (hts _ kt_434), (hts _ kt_435)⟩ ⟨fun a U g mk q => ⟨q.1, PTC.calling q.2⟩, pg_recv hK hP hL_le hFe (q := (RX4, TX4, 6)) rfl, fun U hU hWm => ⟨rfl, PTC.mk hU hWm hP hK hD hE hO hG hXc_q_71 hS hFc⟩⟩ rfl rfl hl.1 rfl (lv_room (Nat.le_of_ble_eq_true rfl)) dX11_seals_6 ⟨by show _ + 0 ≤ 0; omega, by show _ + 0 ≤ 0; omega⟩) hS (fun q _ h => hFc q h) hFc (fun r_73 u t H1 locs ht hvm hw hB hz1 hk1 hS => ?_)
  obtain ⟨F_74, hB1⟩ := hB
  obtain rfl : F = F_74 := (funext (fun a => hB1.2.2.2 a List.not_mem_nil)).symm
  obtain ⟨hP, hD, hO, hR⟩ := QT.back hB1 ht hFc hR (fun q h => absurd h List.not_mem_nil)
  generalize H1 = H at hP hS ⊢
  have hw : (∃ w : Nat, r_73 = nI w ∧ CNT (fun i => nmd F x y0 y1 (cct [100, 107, 105, 109, 45, 115, 105, 103, 110, 97, 116, 117, 114, 101]) 14 i) nn w) := hw
  have hw_75 := hw
  refine W.widen (k := 0) (n := 0) (by omega) (by omega) ?_
  exact W.iret (v := r_73) hx hb hr (fun t ht hWm => ⟨⟨r_73, (), rfl, hw_75, ⟨F, QT.mk ht hP hD hO hR⟩⟩, hS.F ht⟩) hS.2.2 dX11_seals_9
