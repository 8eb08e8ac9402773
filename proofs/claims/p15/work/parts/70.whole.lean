theorem kt_1332 : Cond.classLink RL 7 RX11 ∈ tb := tb_at (i := 105) (by decide +kernel) (by decide +kernel)
theorem kt_1333 : Cond.instantiable RX11 9 ∈ tb := tb_at (i := 106) (by decide +kernel) (by decide +kernel)
theorem kt_1334 : Cond.code yX11_init cX11_init 1 none ∈ tb := tb_at (i := 109) (by decide +kernel) (by decide +kernel)
theorem kt_1335 : Cond.methodLink RL 9 yX11_init ∈ tb := tb_at (i := 107) (by decide +kernel) (by decide +kernel)
theorem kt_1336 : Cond.instanceMethod yX11_init ∈ tb := tb_at (i := 108) (by decide +kernel) (by decide +kernel)
theorem kt_1337 : Cond.classLink RL 10 RX15 ∈ tb := tb_at (i := 1195) (by decide +kernel) (by decide +kernel)
theorem kt_1338 : Cond.instantiable RX15 59 ∈ tb := tb_at (i := 1196) (by decide +kernel) (by decide +kernel)
theorem kt_1339 : Cond.code yX15_init cX15_init 2 none ∈ tb := tb_at (i := 1199) (by decide +kernel) (by decide +kernel)
theorem kt_1340 : Cond.methodLink RL 12 yX15_init ∈ tb := tb_at (i := 1197) (by decide +kernel) (by decide +kernel)
theorem kt_1341 : Cond.instanceMethod yX15_init ∈ tb := tb_at (i := 1198) (by decide +kernel) (by decide +kernel)
set_option maxHeartbeats 4000000 in
set_option maxRecDepth 100000 in
/-- THE LAW, from its entry -/
theorem whole_start {p : Program} {e : Env} {s : State} {m : MethodId} {below : List Frame} {meth : Method} {c : Code} (l : Launch) {b L : Nat} {xs : Nat → Int32} (hL : L ≤ 384) (C0 : lw_At p s m meth c b L xs) : W p l e room_1 s m #[Value.ref b] below meth c s.heap [] 0 0 (lw_Z below #[Value.ref b] s) (entryFrame m ([Value.ref b] : List Value).toArray 4) := by
  obtain ⟨hx, hb, hr, hml, hown, hts0, hX, hbl, hlocks, hgv⟩ := id C0
  have hown : s.vm.findClass RL = some m.cls := hown
  have hts : ∀ w ∈ tb, w.before #[Value.ref b] s = true := fun w h => hts0 w (tb_in h)
  have hs := flat_of_before _ hgv
  have hE : ENV s := env_of hts0 hs
  obtain ⟨A, hA, hAs, hbA, hGc, hGm⟩ : ∃ A : Nat → Prop, (∀ q : Nat, s.heap.size ≤ q → A q) ∧ (∀ q : Nat, A q → s.heap.size ≤ q) ∧ ¬ A b ∧ GV A s s.heap ∧ GVm A s s.heap := ⟨fun q => s.heap.size ≤ q, fun _ h => h, fun _ h => h, Nat.not_le.mpr hbl, gv_of hts0 hs (fun a h => Nat.not_le.mpr h)⟩
  obtain ⟨c0, iS0, hKn0⟩ := u_known (C := RX0) (T := TX0) (N := 3) (n := 3) hts it_0 (hts _ kt_1013)
  obtain ⟨c1, iS1, hKn1⟩ := u_known (C := RX1) (T := TX1) (N := 11) (n := 11) hts it_1 (hts _ kt_1083)
  obtain ⟨c2, iS2, hKn2⟩ := u_known (C := RX2) (T := TX2) (N := 2) (n := 2) hts it_2 (hts _ kt_1078)
  obtain ⟨c3, iS3, hKn3⟩ := u_known (C := RX3) (T := TX3) (N := 4) (n := 4) hts it_3 (hts _ kt_1041)
  obtain ⟨c4, iS4, hKn4⟩ := u_known (C := RX4) (T := TX4) (N := 6) (n := 6) hts it_4 (hts _ kt_1099)
  obtain ⟨c5, iS5, hKn5⟩ := u_known (C := RX5) (T := TX5) (N := 7) (n := 7) hts it_5 (hts _ kt_1093)
  obtain ⟨c6, iS6, hKn6⟩ := u_known (C := RX6) (T := TX6) (N := 5) (n := 5) hts it_6 (hts _ kt_1071)
  obtain ⟨c7, iS7, hKn7⟩ := u_known (C := RX7) (T := TX7) (N := 17) (n := 17) hts it_7 (hts _ kt_1088)
  obtain ⟨c8, iS8, hKn8⟩ := u_known (C := RX8) (T := TX8) (N := 3) (n := 3) hts it_8 (hts _ kt_1067)
  obtain ⟨c9, iS9, hKn9⟩ := u_known (C := RX9) (T := TX9) (N := 5) (n := 5) hts it_9 (hts _ kt_1049)
  obtain ⟨c10, iS10, hKn10⟩ := u_known (C := RX10) (T := TX10) (N := 6) (n := 6) hts it_10 (hts _ kt_1057)
  obtain ⟨c11, iS11, hKn11⟩ := u_known (C := RX11) (T := TX11) (N := 9) (n := 9) hts it_11 (hts _ kt_1333)
  obtain ⟨c12, iS12, hKn12⟩ := u_known (C := RX12) (T := TX12) (N := 7) (n := 7) hts it_12 (hts _ kt_1134)
  obtain ⟨c13, iS13, hKn13⟩ := u_known (C := RX13) (T := TX13) (N := 5) (n := 5) hts it_13 (hts _ kt_1128)
  obtain ⟨c14, iS14, hKn14⟩ := u_known (C := RX14) (T := TX14) (N := 2) (n := 2) hts it_14 (hts _ kt_1035)
  obtain ⟨c15, iS15, hKn15⟩ := u_known (C := RX15) (T := TX15) (N := 59) (n := 59) hts it_15 (hts _ kt_1338)
  obtain ⟨dC, dI, hKc⟩ : ∃ (dC : Nat → ClassId) (dI : Nat → Nat → Nat), ∀ (k : Nat) (q : vw_C), vwCl[k]? = some q → u_Kn s q.1 q.2.1 q.2.2 (dC k) (dI k) := by
    refine ⟨fun k => if k = 0 then c0 else if k = 1 then c1 else if k = 2 then c2 else if k = 3 then c3 else if k = 4 then c4 else if k = 5 then c5 else if k = 6 then c6 else if k = 7 then c7 else if k = 8 then c8 else if k = 9 then c9 else if k = 10 then c10 else if k = 11 then c11 else if k = 12 then c12 else if k = 13 then c13 else if k = 14 then c14 else c15, fun k => if k = 0 then iS0 else if k = 1 then iS1 else if k = 2 then iS2 else if k = 3 then iS3 else if k = 4 then iS4 else if k = 5 then iS5 else if k = 6 then iS6 else if k = 7 then iS7 else if k = 8 then iS8 else if k = 9 then iS9 else if k = 10 then iS10 else if k = 11 then iS11 else if k = 12 then iS12 else if k = 13 then iS13 else if k = 14 then iS14 else iS15, ?_⟩
    intro k q hq
    match k, hq with
    | 0, hq => cases hq; exact hKn0
    | 1, hq => cases hq; exact hKn1
    | 2, hq => cases hq; exact hKn2
    | 3, hq => cases hq; exact hKn3
    | 4, hq => cases hq; exact hKn4
    | 5, hq => cases hq; exact hKn5
    | 6, hq => cases hq; exact hKn6
    | 7, hq => cases hq; exact hKn7
    | 8, hq => cases hq; exact hKn8
    | 9, hq => cases hq; exact hKn9
    | 10, hq => cases hq; exact hKn10
    | 11, hq => cases hq; exact hKn11
    | 12, hq => cases hq; exact hKn12
    | 13, hq => cases hq; exact hKn13
    | 14, hq => cases hq; exact hKn14
    | 15, hq => cases hq; exact hKn15
    | k + 16, hq => simp [vwCl] at hq
  obtain ⟨cs, hTy⟩ := tys_of hts0
  have hK : va_K (dC, dI) vwCl (TYS cs) s := ⟨hKc, hTy⟩
  have hC0 : LC p s m meth c A dC dI cs b L xs := ⟨hx, hb, hr, hml, hown, hts, hX, hbl, hbA, hlocks, hE, hGc, hGm, hK, hA, hAs⟩
  have hS : va_S A s.heap s.heap [] := va_S.rf
  have hP : va_P (dC, dI) vwCl [] s.heap := fun k q h => by simp at h
  have hD : va_D A [] := ⟨fun i j p q h => by simp at h, fun k q h => by simp at h⟩
  have hl := lv_entry ([.ref b]) (n := 4) (Nat.le_of_ble_eq_true rfl)
  rw [lg_entry_eq]
  generalize (lg_sl ([.ref b]) ++ List.replicate (4 - (lg_sl ([.ref b])).length) Slot.unset).toArray = ls at hl ⊢
  have hl : lv_has ls 4 [(0, .ref b)] := hl
  refine va_new (ci := 11) (fs := [.null, .null, .null, .null, .null, .null, .null, .null, .null]) (C := RX11) (T := TX11) (N := 9) hx hb hts it_11 tyX11 tyX11_ok hown (hts _ kt_1332) (hts _ kt_1333) (hts _ kt_664) hK hP hD hS hA rfl df_11 (by show _ + 1 ≤ 600000; omega) (by show _ + 9 ≤ 7302250; omega) dL_law_0 (fun xq H hPa hDa hS => ?_)
  have hPa : va_P (dC, dI) vwCl (va_pl [] (fun _ => .inr (11, [.null, .null, .null, .null, .null, .null, .null, .null, .null])) ++ [(xq, .inr (11, [.null, .null, .null, .null, .null, .null, .null, .null, .null]))]) H := hPa
  have hDa : va_D A (va_pl [] (fun _ => .inr (11, [.null, .null, .null, .null, .null, .null, .null, .null, .null])) ++ [(xq, .inr (11, [.null, .null, .null, .null, .null, .null, .null, .null, .null]))]) := hDa
  refine lv_dup hx hb dL_law_3 rfl ?_
  have hFc := free1 hDa hS hA
  have hPq := right1 hPa
  refine va_callv (va_runI (As := []) (rest := [.ref xq]) ⟨hx, hb, hml, hown, hts⟩ (k_X11_init l dC dI cs H.size xq 0) ⟨callB_of 0 hts (gi kt_1334) rfl rfl rfl (hts _ kt_664) (hts _ kt_1335) (by decide +kernel) ⟨Nat.le_of_ble_eq_true rfl, Nat.le_of_ble_eq_true rfl⟩, rfl, (hts _ kt_1336)⟩ ⟨fun a U g mk q => ⟨q.1, PT.calling q.2⟩, fun U hU hWm => ⟨rfl, PT.mk hU hWm hPq hK one1 hE (fun a _ => sh.raw rfl)⟩⟩ rfl rfl hl.1 rfl (lv_room (Nat.le_of_ble_eq_true rfl)) dL_law_4 ⟨by show _ + 323 ≤ 600000; omega, by show _ + 55814 ≤ 7302250; omega⟩) hS (fun q _ h => hFc q h) hFc (fun u t H1 locs ht hvm hw hB hz1 hk1 hS => ?_)
  obtain ⟨L2, F2, ty2, ta, ou, di, ea, ck, sl, po, hs, le, sp, x, y0, y1, y2, x9, w0, w1, w2, ca0, ca1, ca2, ca3, cnm, cte, hN2, hcL, hcT, hTS, hDi, hLe, hGt, hLL, hLT9, hSL, hST9, hTSo, hFk, hLck, hTck⟩ := hB
  rw [ht] at hN2
  obtain ⟨hP, hD2, hO, hW⟩ := hN2
  have hD : va_D A (va_pl L2 F2) := hD2.weaken (fun _ _ _ h => hFc _ h)
  obtain ⟨hiTa, ⟨rt, hTta⟩, _, _, _, _, _, _, _, _, _, _, _, _⟩ := hW.gate hcL hcT
  obtain ⟨_, _, _, _, hlDi, htDi, _, _, _, _, _, _, _, _⟩ := hW.gate hcL hcT
  obtain ⟨hLea, hTea⟩ := hW.dir hlDi htDi
  obtain ⟨_, _, hiOu, ⟨ro, hTou⟩, _, _, _, _, _, _, _, _, _, _⟩ := hW.gate hcL hcT
  obtain ⟨z6, o6, hF6, -, -⟩ := hO.bytes hiOu hTou
  have hFou9 := ts_of hF6 hTSo
  obtain ⟨hiRo, htRo, -⟩ := hW.bytes hiOu hTou
  obtain ⟨fo9, hFro9⟩ := hO.ints hiRo htRo
  obtain ⟨z9, o9, hF9, -, -⟩ := hO.bytes hiTa hTta
  have hFt := ts_of hF9 hTS
  obtain ⟨hiR, htR, -⟩ := hW.bytes hiTa hTta
  obtain ⟨f9, hFr9⟩ := hO.ints hiR htR
  obtain ⟨m1, m2, m3, m4, ⟨rx, m5⟩, t1, t2, t3⟩ := hW.msg hLL hLT9
  obtain ⟨z8, o8, hFx8, hz8, -⟩ := hO.bytes m1 m5
  obtain ⟨m6, t6, -⟩ := hW.bytes m1 m5
  obtain ⟨fL8, hFL8⟩ := hO.ints m6 t6
  obtain ⟨s08, hS08, -⟩ := hO.idx m2 t1
  obtain ⟨s18, hS18, -⟩ := hO.idx m3 t2
  obtain ⟨s28, hS28, -⟩ := hO.idx m4 t3
  obtain ⟨-, -, -, -, ⟨rx9, n5⟩, -, -, -⟩ := hW.msg hSL hST9
  have hLTC : LTC cs ty2 L2 F2 xq 0 ta ou di ck sl po hs 0 0 z8 fL8 s08 s18 s28 := ⟨le, sp, 0 + 20, 0 + 30, x, y0, y1, y2, rx, x9, w0, w1, w2, rx9, o8, Or.inl ⟨rfl, rfl⟩, hGt, hLL, hLT9, hSL, hST9, m5, n5, Nat.zero_le _, hLe, hFx8, hFL8, hS08, hS18, hS28, hz8, Or.inl rfl⟩
  generalize H1 = H at hP hS ⊢
  refine lv_astore_n (lv' := [(1, .ref xq), (0, .ref b)]) hx hb dL_law_7 rfl hl (by decide) rfl (fun ls hl => ?_)
  refine va_new (ci := 15) (fs := [.null, .int 0, .int 0, .int 0, .null, .null, .null, .null, .null, .null, .null, .int 0, .int 0, .null, .int 0, .int 0, .null, .int 0, .int 0, .int 0, .int 0, .int 0, .int 0, .null, .null, .null, .null, .null, .null, .null, .int 0, .int 0, .int 0, .int 0, .null, .null, .null, .null, .null, .null, .null, .null, .null, .null, .null, .null, .null, .null, .null, .null, .null, .null, .int 0, .int 0, .int 0, .null, .null, .null, .null]) (C := RX15) (T := TX15) (N := 59) hx hb hts it_15 tyX15 tyX15_ok hown (hts _ kt_1337) (hts _ kt_1338) (hts _ kt_669) hK hP hD hS hA rfl df_15 (by show _ + 1 ≤ 600000; omega) (by show _ + 59 ≤ 7302250; omega) dL_law_8 (fun mq H hPa hDa hS => ?_)
  have hnew : mq ∉ L2 := va_pl_fresh2 (X := []) hDa
  have hC : PCl (dC, dI) cs A (fun a => a ∈ L2) xq 0 0 f9 0 0 z8 fL8 s08 s18 s28 (fun _ => (0, 0, 0, fun _ => 0, 0, fun _ => 0)) 0 fo9 ([], [], [], []) 0 0 0 0 H := ⟨L2, F2, ty2, 0, ta, ou, di, ea, ck, sl, po, hs, rt, ro, ca0, ca1, ca2, ca3, cnm, cte, ⟨left1 hPa, left2 hDa, hO, hW⟩, hcL, hcT, hTta, hFt, hFr9, Nat.zero_le _, hDi, Nat.zero_le _, hLTC, DIRC.none hO hLea hTea, hTck, hFk, Or.inl rfl, COL.zero, hTou, hFou9, hFro9, Nat.zero_le _, fun a h => h⟩
  refine lv_dup hx hb dL_law_11 rfl ?_
  have hFc := free1 hDa hS hA
  have hPq := right1 hPa
  refine va_callv (va_runI (As := []) (rest := [.ref mq]) ⟨hx, hb, hml, hown, hts⟩ (k_X15_init l dC dI cs (fun _ _ => 0) H.size mq 0 (fun _ _ => rfl)) ⟨callB_of 0 hts (gi kt_1339) rfl rfl rfl (hts _ kt_669) (hts _ kt_1340) (by decide +kernel) ⟨Nat.le_of_ble_eq_true rfl, Nat.le_of_ble_eq_true rfl⟩, rfl, (hts _ kt_1341)⟩ ⟨fun a U g mk q => ⟨q.1, PTm.calling q.2⟩, fun U hU hWm => ⟨rfl, PTm.mk hU hWm hPq hK one1 hE (fun a _ => shm.raw rfl)⟩⟩ rfl rfl hl.1 rfl (lv_room (Nat.le_of_ble_eq_true rfl)) dL_law_12 ⟨by show _ + 254 ≤ 600000; omega, by show _ + 82375 ≤ 7302250; omega⟩) hS (fun q _ h => hFc q h) hFc (fun u t H1 locs ht hvm hw hB hz1 hk1 hS => ?_)
  obtain ⟨L3, F3, ty3, ta, ou, so, ad, na, va, lc, dm, tg, pe, ml, bg, co, sp, nb0, nb1, nb2, pl, se, ke, wi, hs, mo, po, nu, pr, sq, xa, sa, n64, m64, ex, wh, sd, tk, hd, ak, ho, ot, sx, s0, s1, s2, hN3, hmL, hmT, hn01, hn02, hn12⟩ := hB
  rw [ht] at hN3
  have hlt : ∀ a ∈ L2, a < H.size := fun a ha => va_pl_lt (X := []) (f := F2) (left1 hPa) ha
  have hdis : ∀ a ∈ L3, ¬ (fun a => a ∈ L2) a := fun a ha w => by
    obtain ⟨k9, hk9⟩ := va_pl_get (X := []) (f := F3) ha
    rcases hN3.2.1.2 k9 _ hk9 with ⟨k8, e8, h8⟩ | h8
    · exact ne_in hnew w (List.mem_singleton.mp (pl_mem h8))
    · exact absurd (hlt a w) (Nat.not_lt.mpr h8)
  have hC := hC.kept (L1 := [mq]) (fun a ha w => ne_in hnew w (List.mem_singleton.mp ha)) hk1
  obtain ⟨hP3, hD3, hO3, hW3⟩ := hN3
  obtain ⟨t9, hN9, hT9, hU26, hU15⟩ := NEWm.only (A := A) ⟨hP3, hD3.weaken (fun _ _ _ h => hFc _ h), hO3, hW3⟩ hmL hmT
  obtain ⟨hiTm, hTm, hlou, htou, hlso, htso, hlad, htad, hlna, htna, hlva, htva, _, _, _, _, _, _, _, _, hiMm, hMm, _, _, _, _, _, _, _, _, _, _, _, _, _, _, _, _, _, _, _, _, _, _, _, _, _, _, _, _, _, _, _, _, _, _, _, _, _, _, _, _, _, _, _, _, _, _, _, _, _, _, _, _, _, _, _, _, _, _, _, _, _, _, _, _, _⟩ := hN9.2.2.2.mod hmL hT9
  obtain ⟨gt9, hgt9, -⟩ := hN9.2.2.1.octs hiTm hTm
  obtain ⟨gl9, hgl9, -⟩ := hN9.2.2.1.octs hiMm hMm
  obtain ⟨go9, hgo9, -⟩ := hN9.2.2.1.octs hlou htou
  obtain ⟨fso9, hqso⟩ := hN9.2.2.1.ints hlso htso
  obtain ⟨fad9, hqad⟩ := hN9.2.2.1.ints hlad htad
  obtain ⟨fna9, hqna, -⟩ := hN9.2.2.1.rtxj hlna htna
  obtain ⟨fva9, hqva, -⟩ := hN9.2.2.1.rtxj hlva htva
  have hM : PMl (dC, dI) cs A (fun a => a ∈ L2) mq 0 0 gt9 0 0 0 (fun _ _ => 0) gl9 (fun _ => (0, 0, 0, fun _ => 0, 0, fun _ => 0)) 0 go9 0 0 [] [] 0 0 H1 := ⟨L3, F3, t9, 0, ta, ou, so, ad, na, va, lc, dm, tg, pe, ml, bg, co, sp, nb0, nb1, nb2, pl, se, ke, wi, hs, mo, po, nu, pr, sq, xa, sa, n64, m64, ex, wh, sd, tk, hd, ak, ho, ot, sx, s0, s1, s2, hN9, hmL, hT9, hgt9, hgl9, DIRM.none hqso hqad hqna hqva, Or.inl rfl, hgo9, hn01, hn02, hn12, hU26, hU15, hdis⟩
  generalize H1 = H at hC hM hS ⊢
  refine lv_astore_n (lv' := [(2, .ref mq), (1, .ref xq), (0, .ref b)]) hx hb dL_law_15 rfl hl (by decide) rfl (fun ls hl => ?_)
  refine lv_iconst (v := 0) hx hb dL_law_16 (by decide) ?_
  refine lv_istore_n (lv' := [(3, .int 0), (2, .ref mq), (1, .ref xq), (0, .ref b)]) hx hb dL_law_17 rfl hl (by decide) rfl (fun ls hl => ?_)
  refine W.widen (k := 579 + 0) (n := 138257 + 5 * 0) (by omega) (by omega) ?_
  have hl9 : lv_has ls 4 [(3, .int (nI (6 * 0))), (2, .ref mq), (1, .ref xq), (0, .ref b)] := lv_sub hl [0, 1, 2, 3] rfl
  exact law_loop hC0 hL (L + 1) 0 0 0 f9 gt9 0 0 z8 fL8 s08 s18 s28 (fun _ => (0, 0, 0, fun _ => 0, 0, fun _ => 0)) 0 fo9 ([], [], [], []) 0 0 0 0 0 0 0 (fun _ _ => 0) gl9 (fun _ => (0, 0, 0, fun _ => 0, 0, fun _ => 0)) go9 0 0 [] [] 0 0 (by omega) (by omega) (by omega) _ _ _ REL.zero LRL.start DREL.zero REL.zero (Or.inl ⟨rfl, rfl⟩) VNI.zero ⟨rfl, rfl⟩ hC hM hS hl9
-- ===== YOUR PART ENDS =====
set_option maxHeartbeats 4000000 in
theorem lw_walk (l : Launch) (b : Addr) (xs : List Int32) : MetFree l x (headSpec (Jvm.Cond.code x code maxLocals ret :: tables_1) room_1) (lw_P b xs) (fun _ _ _ _ _ => True) lw_Q := by
  refine MetFree.of_bodyS (code := code) (maxLocals := maxLocals) (ret := ret) (by decide) ?_ ?_
  · intro args s m h hn
    obtain ⟨meth, c, h1, h2, h3, h4, h5, h6, -, -⟩ := Cond.code_spec hn (atoms_spec (ws := Jvm.Cond.code x code maxLocals ret :: tables_1) h _ List.mem_cons_self)
    exact ⟨meth, c, h1, h2, h3, h4, h5, h6⟩
  · intro p e s m args below meth c s₁ B hml0 hP _
    obtain ⟨rfl, hx, hbd, hgv⟩ := hP
    obtain ⟨scr, harrAt, hlist, hof, hsmall⟩ := hx
    obtain ⟨hcb, hkn, -, -⟩ := State.arrayAt?_spec harrAt
    have hown : s.vm.findClass R_law = some m.cls := findClass_of_methodNamed B.named
    have hts0 : ∀ c ∈ (Jvm.Cond.code x code maxLocals ret :: tables_1), c.before #[Value.ref b] s = true := atoms_spec (ws := Jvm.Cond.code x code maxLocals ret :: tables_1) B.pre
    have hts : ∀ w ∈ lw_tbl, w.before #[Value.ref b] s = true := k2_hts_sels lw_privs (fun w hw => hts0 w (List.mem_cons_of_mem _ hw)) lw_privs_ok
    have hml : c.maxLocals = 4 := B.maxLocals_eq (hts0 _ List.mem_cons_self)
    have X₀ : Stand p l e room_1 s m #[Value.ref b] below meth c s₁ [] 0 0 := Stand.of_body B
    have hh0 : s₁.heap = s.heap := by rw [B.state]; rfl
    have hsz : scr.slots.size = xs.length := by rw [← Array.length_toList, hlist, List.length_map]
    have hval : ∀ j : Nat, j < xs.length → scr.slots[j]? = some (.int (xs.getD j 0)) := fun j hj => by
      rw [← Array.getElem?_toList, hlist]
      simp [hj]
    have hbl : b < s.heap.size := (Array.getElem?_eq_some_iff.mp hcb).1
    have hX : va_X b xs.length (fun j => xs.getD j 0) s s.heap := ⟨scr, hcb, hof, hkn, hsz, hval⟩
    have K : W p l e room_1 s m #[Value.ref b] below meth c s₁.heap [] 0 0 (lw_Z below #[Value.ref b] s) (entryFrame m ([Value.ref b] : List Value).toArray 4) := by
      rw [hh0]
      exact whole_start l hbd ⟨B.exec, B.bytes, B.returns, hml, hown, hts, hX, hbl, B.notSynchronized, hgv⟩
    obtain ⟨t, a1, o, b1, b2, b3⟩ := K s₁ rfl X₀
    exact ⟨t, o, a1, b1, b2, b3⟩
theorem lw_pre_spec {args : Array Value} {s : State} (h : (Jvm.Cond.and given_1 narrow_1).before args s = true) (hr : rest_1_c.before args s = true) : ∃ (b : Addr) (xs : List Int32), lw_P b xs args s := by
  have hs := flat_of_before _ h
  have hq := flat_of_before _ hr
  have hc : (Cond.count 1).before args s = true := hs _ (by decide +kernel)
  have harr : (Cond.arrayOf (.arg 0) .int).before args s = true := hs _ (by decide +kernel)
  have hle : (Cond.le (.length (.arg 0)) (.int 384)).before args s = true := hs _ (by decide +kernel)
  have hlen : (Cond.isInt (.length (.arg 0))).before args s = true := hq _ (by decide +kernel)
  have hall : (Cond.all (.arg 0) (.isInt (.elem (.arg 0) (.index 0)))).before args s = true := hq _ (by decide +kernel)
  obtain ⟨b, xs, hb, hx⟩ := State.ints_of_pre rfl harr hlen hall
  have hsm : xs.length < 2 ^ 31 := hx.choose_spec.2.2.2
  have hev : (Term.length (.arg 0)).eval args s none [] s = some (.int xs.length.toInt32) := hx.length_eval hb
  have hv := Cond.le_ints hev (show (Term.int 384).eval args s none [] s = some (.int 384) from rfl)
  have hd : xs.length.toInt32 ≤ 384 := by
    simpa [Cond.before, Cond.holds, hv] using hle
  have hN : xs.length ≤ 384 := (Int32.ofNat_le_ofNat hsm (by decide)).mp (show Int32.ofNat xs.length ≤ Int32.ofNat 384 from hd)
  exact ⟨b, xs, Cond.one_arg hc (show args[0]? = some (.ref b) from hb), hx, hN, h⟩
theorem lw_comes (l : Launch) : Comes l x (Jvm.Cond.code x code maxLocals ret :: tables_1) room_1 (fun tb e args s => Calls_1 tb e args s ∧ rest_1 tb e args s ∧ Pre_1 tb e args s)
    (fun _ _ args s o t => lw_Q args s o t) := by
  intro p e ha hc hk s m args below hf hfit hheap happ hpre
  obtain ⟨b, xs, hP⟩ := lw_pre_spec hpre.2.2 hpre.2.1
  obtain ⟨k, o, h1, h2, h3, hQ⟩ := lw_walk l b xs p e ha hc hk s m args below hf ((Spec.applies_iff_loose hf).mp happ).1 hP trivial
  exact ⟨k, o, h1, h2, h3, hQ⟩
theorem lw_frame {s t : State} {o : Outcome} {args : Array Value} (h : Framed s o t [] 600000 7302250) :
    Framed s o t (fieldLocs frame_1_writes args s ++ arrayLocs frame_1_arrays args s ++ staticLocs frame_1_statics s) 600000 7302250 := h
theorem lw_limb (L : Cond) (hL : ∀ (args : Array Value) (s t : State), L.after args s (.returned (some (.int 1))) t = true) :
    ArmFor flags0 classFile x code maxLocals ret World_1 tables_1 room_1 Calls_1 rest_1 Pre_1
      (fun tb e a s o t => postC L tb e a s o t ∧ Framed s o t (fieldLocs frame_1_writes a s ++ arrayLocs frame_1_arrays a s ++ staticLocs frame_1_statics s) 600000 7302250) := by
  intro l _ _ _ p e ha hc hk s m args below hf hfit hheap happ hpre
  obtain ⟨k, o, h1, h2, h3, rfl, hF⟩ := lw_comes l p e ha hc hk s m args below hf hfit hheap happ hpre
  exact ⟨k, _, h1, h2, h3, hL args s _, lw_frame hF⟩
theorem i_vc : Claimed_1_1 ∧ Claimed_1_2 := ⟨lw_limb limb_1_1 (fun args s t => by simp [limb_1_1, Cond.after, Cond.holds, Cond.value]), lw_limb limb_1_2 (fun args s t => Cond.after_iff.mpr (by
  first | (rw [show limb_1_2 = Cond.eq .result (.int 1) from rfl, Cond.eq_ints (x := 1) (y := 1) rfl rfl]; simp; done) | (simp [limb_1_2, Cond.value, Term.eval]; done)))⟩
