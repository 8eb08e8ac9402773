def tyo (ty : TyM) (h0 bg co sp : Nat) : TyM := fun a => if a = h0 ∨ a = bg ∨ a = co ∨ a = sp then ty a else if (ty a).1 = 15 ∨ (ty a).1 = 26 then (99, 0, []) else ty a
theorem tyo_k {ty : TyM} {h0 bg co sp a : Nat} (h1 : (ty a).1 ≠ 15) (h2 : (ty a).1 ≠ 26) : tyo ty h0 bg co sp a = ty a := by
  unfold tyo
  split
  · rfl
  · exact if_neg (fun h => h.elim h1 h2)
theorem tyo_h {ty : TyM} {h0 bg co sp : Nat} : tyo ty h0 bg co sp h0 = ty h0 := if_pos (Or.inl rfl)
theorem tyo_bg {ty : TyM} {h0 bg co sp : Nat} : tyo ty h0 bg co sp bg = ty bg := if_pos (Or.inr (Or.inl rfl))
theorem tyo_co {ty : TyM} {h0 bg co sp : Nat} : tyo ty h0 bg co sp co = ty co := if_pos (Or.inr (Or.inr (Or.inl rfl)))
theorem tyo_sp {ty : TyM} {h0 bg co sp : Nat} : tyo ty h0 bg co sp sp = ty sp := if_pos (Or.inr (Or.inr (Or.inr rfl)))
theorem tyo_or (ty : TyM) (h0 bg co sp a : Nat) : tyo ty h0 bg co sp a = ty a ∨ tyo ty h0 bg co sp a = (99, 0, []) := by
  unfold tyo
  split
  · exact Or.inl rfl
  · split
    · exact Or.inr rfl
    · exact Or.inl rfl
theorem tyo_15 {ty : TyM} {h0 bg co sp a : Nat} (h1 : (ty bg).1 ≠ 15) (h2 : (ty co).1 ≠ 15) (h3 : (ty sp).1 ≠ 15) (c : a ≠ h0) : (tyo ty h0 bg co sp a).1 ≠ 15 := by
  unfold tyo
  split
  · rename_i h
    rcases h with h | h | h | h
    · exact absurd h c
    · rw [h]; exact h1
    · rw [h]; exact h2
    · rw [h]; exact h3
  · split
    · exact (by decide : (99 : Nat) ≠ 15)
    · rename_i h
      exact fun w => h (Or.inl w)
theorem tyo_26 {ty : TyM} {h0 bg co sp a : Nat} (h1 : (ty h0).1 ≠ 26) (h : (tyo ty h0 bg co sp a).1 = 26) : a = bg ∨ a = co ∨ a = sp := by
  unfold tyo at h
  split at h
  · rename_i h9
    rcases h9 with h9 | h9
    · rw [h9] at h
      exact absurd h h1
    · exact h9
  · split at h
    · exact absurd h (by decide : (99 : Nat) ≠ 26)
    · rename_i h9
      exact absurd (Or.inr h) h9
theorem knd {ty : TyM} {x k ρ n : Nat} {im : List Nat} (p : ty x = (k, ρ, im)) (hk : k ≠ n) : (ty x).1 ≠ n := by
  rw [p]
  exact hk
theorem wtm_txt_only {ty : TyM} {gm : Nat → Nat → Nat} {L : List Nat} {h9 b1 b2 b3 ρ r n : Nat} (h : wtm_txt ty gm L ρ r n) : wtm_txt (tyo ty h9 b1 b2 b3) gm L ρ r n := by
  obtain ⟨p0, p1, p2⟩ := h
  exact ⟨p0, (tyo_k (knd p1 (by decide)) (knd p1 (by decide))).trans p1, p2⟩
theorem wtm_octs_only {ty : TyM} {gm : Nat → Nat → Nat} {L : List Nat} {h9 b1 b2 b3 ρ n : Nat} (h : wtm_octs ty gm L ρ n) : wtm_octs (tyo ty h9 b1 b2 b3) gm L ρ n := by
  obtain ⟨p0, p1⟩ := h
  exact ⟨p0, p1⟩
theorem wtm_ints_only {ty : TyM} {gm : Nat → Nat → Nat} {L : List Nat} {h9 b1 b2 b3 ρ n : Nat} (h : wtm_ints ty gm L ρ n) : wtm_ints (tyo ty h9 b1 b2 b3) gm L ρ n := by
  obtain ⟨p0, p1⟩ := h
  exact ⟨p0, p1⟩
theorem wtm_hash_only {ty : TyM} {gm : Nat → Nat → Nat} {L : List Nat} {h9 b1 b2 b3 ρ x y w u bl : Nat} (h : wtm_hash ty gm L ρ x y w u bl) : wtm_hash (tyo ty h9 b1 b2 b3) gm L ρ x y w u bl := by
  obtain ⟨p0, p1, p2, p3, p4, p5, p6, p7, p8, p9⟩ := h
  exact ⟨p0, p1, p2, p3, p4, (tyo_k (knd p5 (by decide)) (knd p5 (by decide))).trans p5, (tyo_k (knd p6 (by decide)) (knd p6 (by decide))).trans p6, (tyo_k (knd p7 (by decide)) (knd p7 (by decide))).trans p7, (tyo_k (knd p8 (by decide)) (knd p8 (by decide))).trans p8, (tyo_k (knd p9 (by decide)) (knd p9 (by decide))).trans p9⟩
theorem wtm_tags_only {ty : TyM} {gm : Nat → Nat → Nat} {L : List Nat} {h9 b1 b2 b3 ρ x n B y0 y1 y2 : Nat} (h : wtm_tags ty gm L ρ x n B y0 y1 y2) : wtm_tags (tyo ty h9 b1 b2 b3) gm L ρ x n B y0 y1 y2 := by
  obtain ⟨p0, p1, p2, p3, ⟨r_4, p4⟩, p5, p6, p7, p8, p9⟩ := h
  exact ⟨p0, p1, p2, p3, ⟨r_4, (tyo_k (knd p4 (by decide)) (knd p4 (by decide))).trans p4⟩, (tyo_k (knd p5 (by decide)) (knd p5 (by decide))).trans p5, (tyo_k (knd p6 (by decide)) (knd p6 (by decide))).trans p6, (tyo_k (knd p7 (by decide)) (knd p7 (by decide))).trans p7, p8, p9⟩
theorem wtm_mod_only {ty : TyM} {gm : Nat → Nat → Nat} {L : List Nat} {h9 ρ ta ou so ad na va lc dm tg pe ml bg co sp nb0 nb1 nb2 pl se ke wi hs mo po nu pr sq xa sa n64 m64 ex wh sd tk hd ak ho ot sx s0 s1 s2 nf bd mm zo fm sn hg gc gv ze zt : Nat} (h : wtm_mod ty gm L ρ ta ou so ad na va lc dm tg pe ml bg co sp nb0 nb1 nb2 pl se ke wi hs mo po nu pr sq xa sa n64 m64 ex wh sd tk hd ak ho ot sx s0 s1 s2 nf bd mm zo fm sn hg gc gv ze zt) : wtm_mod (tyo ty h9 bg co sp) gm L ρ ta ou so ad na va lc dm tg pe ml bg co sp nb0 nb1 nb2 pl se ke wi hs mo po nu pr sq xa sa n64 m64 ex wh sd tk hd ak ho ot sx s0 s1 s2 nf bd mm zo fm sn hg gc gv ze zt := by
  obtain ⟨p0, p1, p2, p3, p4, p5, p6, p7, p8, p9, p10, p11, p12, ⟨r_13, p13⟩, p14, ⟨r_15, p15⟩, p16, p17, p18, ⟨r_19, p19⟩, p20, p21, p22, p23, p24, p25, p26, p27, p28, p29, p30, p31, p32, p33, p34, ⟨r_35, p35⟩, p36, p37, p38, ⟨x_39, y0_39, y1_39, y2_39, p39⟩, p40, ⟨x_41, y0_41, y1_41, y2_41, p41⟩, p42, ⟨x_43, y_43, w_43, u_43, bl_43, p43⟩, p44, p45, p46, p47, p48, p49, p50, p51, p52, p53, p54, p55, p56, p57, p58, p59, p60, p61, p62, p63, p64, ⟨r_65, p65⟩, p66, ⟨r_67, p67⟩, p68, p69, p70, p71, p72, ⟨r_73, p73⟩, p74, ⟨r_75, p75⟩, p76, ⟨r_77, p77⟩, p78, p79, p80, p81, p82, p83, p84, p85, p86⟩ := h
  exact ⟨p0, (tyo_k (knd p1 (by decide)) (knd p1 (by decide))).trans p1, p2, (tyo_k (knd p3 (by decide)) (knd p3 (by decide))).trans p3, p4, (tyo_k (knd p5 (by decide)) (knd p5 (by decide))).trans p5, p6, (tyo_k (knd p7 (by decide)) (knd p7 (by decide))).trans p7, p8, (tyo_k (knd p9 (by decide)) (knd p9 (by decide))).trans p9, p10, (tyo_k (knd p11 (by decide)) (knd p11 (by decide))).trans p11, p12, ⟨r_13, (tyo_k (knd p13 (by decide)) (knd p13 (by decide))).trans p13⟩, p14, ⟨r_15, (tyo_k (knd p15 (by decide)) (knd p15 (by decide))).trans p15⟩, p16, (tyo_k (knd p17 (by decide)) (knd p17 (by decide))).trans p17, p18, ⟨r_19, (tyo_k (knd p19 (by decide)) (knd p19 (by decide))).trans p19⟩, p20, (tyo_k (knd p21 (by decide)) (knd p21 (by decide))).trans p21, p22, tyo_bg.trans p23, p24, tyo_co.trans p25, p26, tyo_sp.trans p27, p28, (tyo_k (knd p29 (by decide)) (knd p29 (by decide))).trans p29, p30, (tyo_k (knd p31 (by decide)) (knd p31 (by decide))).trans p31, p32, (tyo_k (knd p33 (by decide)) (knd p33 (by decide))).trans p33, p34, ⟨r_35, (tyo_k (knd p35 (by decide)) (knd p35 (by decide))).trans p35⟩, p36, (tyo_k (knd p37 (by decide)) (knd p37 (by decide))).trans p37, p38, ⟨x_39, y0_39, y1_39, y2_39, (tyo_k (knd p39 (by decide)) (knd p39 (by decide))).trans p39⟩, p40, ⟨x_41, y0_41, y1_41, y2_41, (tyo_k (knd p41 (by decide)) (knd p41 (by decide))).trans p41⟩, p42, ⟨x_43, y_43, w_43, u_43, bl_43, (tyo_k (knd p43 (by decide)) (knd p43 (by decide))).trans p43⟩, p44, (tyo_k (knd p45 (by decide)) (knd p45 (by decide))).trans p45, p46, (tyo_k (knd p47 (by decide)) (knd p47 (by decide))).trans p47, p48, (tyo_k (knd p49 (by decide)) (knd p49 (by decide))).trans p49, p50, (tyo_k (knd p51 (by decide)) (knd p51 (by decide))).trans p51, p52, (tyo_k (knd p53 (by decide)) (knd p53 (by decide))).trans p53, p54, (tyo_k (knd p55 (by decide)) (knd p55 (by decide))).trans p55, p56, (tyo_k (knd p57 (by decide)) (knd p57 (by decide))).trans p57, p58, (tyo_k (knd p59 (by decide)) (knd p59 (by decide))).trans p59, p60, (tyo_k (knd p61 (by decide)) (knd p61 (by decide))).trans p61, p62, (tyo_k (knd p63 (by decide)) (knd p63 (by decide))).trans p63, p64, ⟨r_65, (tyo_k (knd p65 (by decide)) (knd p65 (by decide))).trans p65⟩, p66, ⟨r_67, (tyo_k (knd p67 (by decide)) (knd p67 (by decide))).trans p67⟩, p68, (tyo_k (knd p69 (by decide)) (knd p69 (by decide))).trans p69, p70, (tyo_k (knd p71 (by decide)) (knd p71 (by decide))).trans p71, p72, ⟨r_73, (tyo_k (knd p73 (by decide)) (knd p73 (by decide))).trans p73⟩, p74, ⟨r_75, (tyo_k (knd p75 (by decide)) (knd p75 (by decide))).trans p75⟩, p76, ⟨r_77, (tyo_k (knd p77 (by decide)) (knd p77 (by decide))).trans p77⟩, p78, p79, p80, p81, p82, p83, p84, p85, p86⟩
theorem OKm.only {cs : Nat → ClassId} {ty : TyM} {gm : Nat → Nat → Nat} {L : List Nat} {F : Nat → va_E} (h0 bg co sp : Nat) (hO : OKm cs ty gm L F) : OKm cs (tyo ty h0 bg co sp) gm L F := by
  intro a ha
  rcases tyo_or ty h0 bg co sp a with e9 | e9
  · have h := hO a ha
    exact ⟨fun _ _ _ e => (h.1) _ _ _ (e9.symm.trans e),
     fun _ _ e => (h.2.1) _ _ (e9.symm.trans e),
     fun _ _ e => (h.2.2.1) _ _ (e9.symm.trans e),
     fun _ _ e => (h.2.2.2.1) _ _ (e9.symm.trans e),
     fun _ _ _ e => (h.2.2.2.2.1) _ _ _ (e9.symm.trans e),
     fun _ _ e => (h.2.2.2.2.2.1) _ _ (e9.symm.trans e),
     fun _ _ _ e => by
      obtain ⟨f, h1, h2⟩ := (h.2.2.2.2.2.2.1) _ _ _ (e9.symm.trans e)
      exact ⟨f, h1, fun j hj => by obtain ⟨b, r, x1, x2, x3⟩ := h2 j hj; exact ⟨b, r, x1, x2, (tyo_k (knd x3 (by decide)) (knd x3 (by decide))).trans x3⟩⟩,
     fun _ _ _ e => by
      obtain ⟨f, h1, h2⟩ := (h.2.2.2.2.2.2.2.1) _ _ _ (e9.symm.trans e)
      exact ⟨f, h1, fun j hj => by obtain ⟨b, r, x1, x2, x3⟩ := h2 j hj; exact ⟨b, r, x1, x2, (tyo_k (knd x3 (by decide)) (knd x3 (by decide))).trans x3⟩⟩,
     fun _ _ _ _ _ _ e => (h.2.2.2.2.2.2.2.2.1) _ _ _ _ _ _ (e9.symm.trans e),
     fun _ _ e => (h.2.2.2.2.2.2.2.2.2.1) _ _ (e9.symm.trans e),
     fun _ _ _ _ _ _ _ e => (h.2.2.2.2.2.2.2.2.2.2.1) _ _ _ _ _ _ _ (e9.symm.trans e),
     fun _ _ _ _ _ _ _ _ _ _ _ _ _ _ _ _ _ _ _ _ _ _ _ _ _ _ _ _ _ _ _ _ _ _ _ _ _ _ _ _ _ _ _ _ _ _ _ _ _ _ _ _ _ _ _ e => (h.2.2.2.2.2.2.2.2.2.2.2) _ _ _ _ _ _ _ _ _ _ _ _ _ _ _ _ _ _ _ _ _ _ _ _ _ _ _ _ _ _ _ _ _ _ _ _ _ _ _ _ _ _ _ _ _ _ _ _ _ _ _ _ _ _ _ (e9.symm.trans e)⟩
  · exact shm.raw e9
set_option maxHeartbeats 4000000 in
theorem NEWm.only {D : va_G} {cs : Nat → ClassId} {ty : TyM} {gm : Nat → Nat → Nat} {L : List Nat} {F : Nat → va_E} {A : Nat → Prop} {H : Heap} {h0 ρ ta ou so ad na va lc dm tg pe ml bg co sp nb0 nb1 nb2 pl se ke wi hs mo po nu pr sq xa sa n64 m64 ex wh sd tk hd ak ho ot sx s0 s1 s2 nf bd mm zo fm sn hg gc gv ze zt : Nat} (h : NEWm D cs ty gm L F A H) (hL : h0 ∈ L) (hT : ty h0 = (15, ρ, [ta, ou, so, ad, na, va, lc, dm, tg, pe, ml, bg, co, sp, nb0, nb1, nb2, pl, se, ke, wi, hs, mo, po, nu, pr, sq, xa, sa, n64, m64, ex, wh, sd, tk, hd, ak, ho, ot, sx, s0, s1, s2, nf, bd, mm, zo, fm, sn, hg, gc, gv, ze, zt])) : ∃ t9 : TyM, NEWm D cs t9 gm L F A H ∧ t9 h0 = (15, ρ, [ta, ou, so, ad, na, va, lc, dm, tg, pe, ml, bg, co, sp, nb0, nb1, nb2, pl, se, ke, wi, hs, mo, po, nu, pr, sq, xa, sa, n64, m64, ex, wh, sd, tk, hd, ak, ho, ot, sx, s0, s1, s2, nf, bd, mm, zo, fm, sn, hg, gc, gv, ze, zt]) ∧ (∀ a ∈ L, (t9 a).1 = 26 → a = bg ∨ a = co ∨ a = sp) ∧ (∀ a ∈ L, (t9 a).1 = 15 → a = h0) := by
  obtain ⟨hP, hD, hO, hW⟩ := h
  have hm := hW.mod hL hT
  obtain ⟨_, _, _, _, _, _, _, _, _, _, _, _, _, _, _, _, _, _, _, _, _, _, _, p23, _, p25, _, p27, _, _, _, _, _, _, _, _, _, _, _, _, _, _, _, _, _, _, _, _, _, _, _, _, _, _, _, _, _, _, _, _, _, _, _, _, _, _, _, _, _, _, _, _, _, _, _, _, _, _, _, _, _, _, _, _, _, _, _⟩ := id hm
  have n1 := knd p23 (n := 15) (by decide)
  have n2 := knd p25 (n := 15) (by decide)
  have n3 := knd p27 (n := 15) (by decide)
  refine ⟨tyo ty h0 bg co sp, ⟨hP, hD, hO.only h0 bg co sp, ?_⟩, tyo_h.trans hT, fun a _ e => tyo_26 (knd hT (by decide)) e, fun a _ e => ?_⟩
  · intro a ha
    rcases tyo_or ty h0 bg co sp a with e9 | e9
    · have h9 := hW a ha
      by_cases c : a = h0
      · rw [c]
        exact ⟨fun _ _ _ e => absurd (congrArg Prod.fst ((tyo_h.trans hT).symm.trans e)) (by simp),
         fun _ _ e => absurd (congrArg Prod.fst ((tyo_h.trans hT).symm.trans e)) (by simp),
         fun _ _ e => absurd (congrArg Prod.fst ((tyo_h.trans hT).symm.trans e)) (by simp),
         fun _ _ _ => trivial,
         fun _ _ _ _ => trivial,
         fun _ _ _ => trivial,
         fun _ _ _ _ => trivial,
         fun _ _ _ _ => trivial,
         fun _ _ _ _ _ _ e => absurd (congrArg Prod.fst ((tyo_h.trans hT).symm.trans e)) (by simp),
         fun _ _ _ => trivial,
         fun _ _ _ _ _ _ _ e => absurd (congrArg Prod.fst ((tyo_h.trans hT).symm.trans e)) (by simp),
         fun _ _ _ _ _ _ _ _ _ _ _ _ _ _ _ _ _ _ _ _ _ _ _ _ _ _ _ _ _ _ _ _ _ _ _ _ _ _ _ _ _ _ _ _ _ _ _ _ _ _ _ _ _ _ _ e => by
        have e8 := (tyo_h.trans hT).symm.trans e
        cases e8
        exact wtm_mod_only hm⟩
      · exact ⟨fun _ _ _ e => wtm_txt_only ((h9.1) _ _ _ (e9.symm.trans e)),
         fun _ _ e => wtm_octs_only ((h9.2.1) _ _ (e9.symm.trans e)),
         fun _ _ e => wtm_ints_only ((h9.2.2.1) _ _ (e9.symm.trans e)),
         fun _ _ _ => trivial,
         fun _ _ _ _ => trivial,
         fun _ _ _ => trivial,
         fun _ _ _ _ => trivial,
         fun _ _ _ _ => trivial,
         fun _ _ _ _ _ _ e => wtm_hash_only ((h9.2.2.2.2.2.2.2.2.1) _ _ _ _ _ _ (e9.symm.trans e)),
         fun _ _ _ => trivial,
         fun _ _ _ _ _ _ _ e => wtm_tags_only ((h9.2.2.2.2.2.2.2.2.2.2.1) _ _ _ _ _ _ _ (e9.symm.trans e)),
         fun _ _ _ _ _ _ _ _ _ _ _ _ _ _ _ _ _ _ _ _ _ _ _ _ _ _ _ _ _ _ _ _ _ _ _ _ _ _ _ _ _ _ _ _ _ _ _ _ _ _ _ _ _ _ _ e => absurd (congrArg Prod.fst e) (tyo_15 n1 n2 n3 c)⟩
    · exact wtam_raw e9
  · by_cases c : a = h0
    · exact c
    · exact absurd e (tyo_15 n1 n2 n3 c)
-- ===== end of PART A; then your names; then what follows =====
/-! THE CLAIM OUT OF ONE WALK OF THE LAW'S BODY. Your part is whole_start (and what it stands on); all else here is the same for every law, but numbers. -/
def R_law : String := "PostGateLaw"
def lw_P (b : Addr) (xs : List Int32) (args : Array Value) (s : State) : Prop := args = #[.ref b] ∧ s.IntsAt b xs ∧ xs.length ≤ 384 ∧ (Jvm.Cond.and given_1 narrow_1).before args s = true
def lw_Q (_ : Array Value) (s : State) (o : Outcome) (t : State) : Prop := o = .returned (some (.int 1)) ∧ Framed s o t [] 600000 7302250
def lw_Z (below : List Frame) (a : Array Value) (s : State) : State → Prop := fun t => ∃ o, t.status = .running ∧ Ended t below o ∧ lw_Q a s o t
/-- the law's own end, with 1 on the stack, nothing written that was there before, its room as the claim has it -/
theorem lw_ret {p : Program} {l : Launch} {e : Env} {s : State} {m : MethodId} {below : List Frame} {meth : Method} {c : Code} {b : Nat} (hx : p.tables.exec = Jvm.exec) (hb : c.code = code) (hr : meth.sig.returnType = ret) (hlocks : meth.locks = false) {pc : Nat} {H : Heap} {ls : Array Slot} (hdg : decode code pc = .ok (.ireturn, 1)) : W p l e room_1 s m #[Value.ref b] below meth c H [] 600000 7302250 (lw_Z below #[Value.ref b] s) (F0 m pc ls [.int 1]) := by
  intro T hT X
  obtain ⟨fs, hret, hrun, hended, hW, hframe⟩ := X.leave (v := some (.int 1)) (hlocks := hlocks) (fun h => by rw [hr] at h; cases h)
  have hmeth' : T.vm.method? m = some meth := X.method'
  refine ⟨T.setFrames fs, ?_, .returned (some (.int 1)), hrun, hended, rfl, ⟨_, rfl⟩, hW, hframe⟩
  jvm_step X.here [X.here.top, hx, hb, hdg, hmeth', hr, ret, narrow_b1]
  (try refine ⟨rfl, ?_⟩); (try refine ⟨rfl, ?_⟩)
  first | (intro acts; rw [hret _ acts rfl rfl rfl]) | rw [hret _ _ rfl rfl rfl]
  exact Steps.refl _
/-- what holds at the law's entry: the machine, the code, the tables' words (any of lw_tbl by 'hts w (by decide +kernel)'), the script of L ints xs at the cell b, what the Statement gives of the start (any of its parts by flat_of_before) -/
def lw_At (p : Program) (s : State) (m : MethodId) (meth : Method) (c : Code) (b L : Nat) (xs : Nat → Int32) : Prop :=
  p.tables.exec = Jvm.exec ∧ c.code = code ∧ meth.sig.returnType = ret ∧ c.maxLocals = 4 ∧ s.vm.findClass R_law = some m.cls ∧ (∀ w ∈ lw_tbl, w.before #[Value.ref b] s = true) ∧ va_X b L xs s s.heap ∧ b < s.heap.size ∧ meth.locks = false ∧ (Jvm.Cond.and given_1 narrow_1).before #[Value.ref b] s = true
def PCs (D : va_G) (cs : Nat → ClassId) (A Bq : Nat → Prop) (xq zt : Nat) (H : Heap) : Prop := ∃ (L : List Nat) (F : Nat → va_E) (ty : TyM) (ρ ta ou di ea ck sl po hs : Nat), NEW D cs ty L F A H ∧ xq ∈ L ∧ ty xq = (11, ρ, [ta, ou, di, ea, ck, sl, po, hs]) ∧ TS F ta zt ∧ ∀ a ∈ L, Bq a
def PMs (D : va_G) (cs : Nat → ClassId) (A Bq : Nat → Prop) (h0 zt : Nat) (H : Heap) : Prop := ∃ (L : List Nat) (F : Nat → va_E) (ty : TyM) (gm : Nat → Nat → Nat) (ρ ta ou so ad na va lc dm tg pe ml bg co sp nb0 nb1 nb2 pl se ke wi hs mo po nu pr sq xa sa n64 m64 ex wh sd tk hd ak ho ot sx s0 s1 s2 nf bd mm zo fm sn hg gc gv ze : Nat), NEWm D cs ty gm L F A H ∧ h0 ∈ L ∧ ty h0 = (15, ρ, [ta, ou, so, ad, na, va, lc, dm, tg, pe, ml, bg, co, sp, nb0, nb1, nb2, pl, se, ke, wi, hs, mo, po, nu, pr, sq, xa, sa, n64, m64, ex, wh, sd, tk, hd, ak, ho, ot, sx, s0, s1, s2, nf, bd, mm, zo, fm, sn, hg, gc, gv, ze, zt]) ∧ nb0 ≠ nb1 ∧ nb0 ≠ nb2 ∧ nb1 ≠ nb2 ∧ (∀ a ∈ L, (ty a).1 = 26 → a = bg ∨ a = co ∨ a = sp) ∧ (∀ a ∈ L, (ty a).1 = 15 → a = h0) ∧ ∀ a ∈ L, ¬ Bq a
theorem pl_kept {D : va_G} {L L1 : List Nat} {F F1 : Nat → va_E} {H H1 : Heap} (hP : va_P D vwCl (va_pl L F) H) (hk : ∀ q : Nat, q < H.size → ¬ va_A (va_pl L1 F1) H.size q → H1[q]? = H[q]?) (hd : ∀ a ∈ L, a ∉ L1) : va_P D vwCl (va_pl L F) H1 := by
  have hlt : ∀ a ∈ L, a < H.size := fun a ha => va_pl_lt (X := []) (f := F) hP ha
  refine hP.kept (fun k z hz => hk z.1 (hlt _ (pl_mem hz)) (fun w => ?_))
  rcases w with ⟨k9, e9, h9⟩ | w
  · exact hd z.1 (pl_mem hz) (pl_mem (z := (z.1, e9)) h9)
  · exact absurd (hlt _ (pl_mem hz)) (Nat.not_lt.mpr w)
theorem PCs.kept {D : va_G} {cs : Nat → ClassId} {A Bq : Nat → Prop} {xq zt : Nat} {H H1 : Heap} {L1 : List Nat} {F1 : Nat → va_E} (h : PCs D cs A Bq xq zt H) (hB : ∀ a ∈ L1, ¬ Bq a) (hk : ∀ q : Nat, q < H.size → ¬ va_A (va_pl L1 F1) H.size q → H1[q]? = H[q]?) : PCs D cs A Bq xq zt H1 := by
  obtain ⟨L, F, ty, ρ, ta, ou, di, ea, ck, sl, po, hs, ⟨hP, hD, hO, hW⟩, h1, h2, h3, h4⟩ := h
  exact ⟨L, F, ty, ρ, ta, ou, di, ea, ck, sl, po, hs, ⟨pl_kept hP hk (fun a ha w => hB a w (h4 a ha)), hD, hO, hW⟩, h1, h2, h3, h4⟩
theorem PMs.kept {D : va_G} {cs : Nat → ClassId} {A Bq : Nat → Prop} {h0 zt : Nat} {H H1 : Heap} {L1 : List Nat} {F1 : Nat → va_E} (h : PMs D cs A Bq h0 zt H) (hB : ∀ a ∈ L1, Bq a) (hk : ∀ q : Nat, q < H.size → ¬ va_A (va_pl L1 F1) H.size q → H1[q]? = H[q]?) : PMs D cs A Bq h0 zt H1 := by
  obtain ⟨L, F, ty, gm, ρ, ta, ou, so, ad, na, va, lc, dm, tg, pe, ml, bg, co, sp, nb0, nb1, nb2, pl, se, ke, wi, hs, mo, po, nu, pr, sq, xa, sa, n64, m64, ex, wh, sd, tk, hd, ak, ho, ot, sx, s0, s1, s2, nf, bd, mm, zo, fm, sn, hg, gc, gv, ze, ⟨hP, hD, hO, hW⟩, h1, h2, h4, h5, h6, h7, h8, h9⟩ := h
  exact ⟨L, F, ty, gm, ρ, ta, ou, so, ad, na, va, lc, dm, tg, pe, ml, bg, co, sp, nb0, nb1, nb2, pl, se, ke, wi, hs, mo, po, nu, pr, sq, xa, sa, n64, m64, ex, wh, sd, tk, hd, ak, ho, ot, sx, s0, s1, s2, nf, bd, mm, zo, fm, sn, hg, gc, gv, ze, ⟨pl_kept hP hk (fun a ha w => h9 a ha (hB a w)), hD, hO, hW⟩, h1, h2, h4, h5, h6, h7, h8, h9⟩
theorem end_le {x : Int32} {z n : Nat} (hz : z ≤ 3000) (h : z ≤ n) : (if ¬ x < 0 ∧ ¬ nI z < x then x.toNatClampNeg else z) ≤ n := by
  split
  · rename_i hc
    obtain ⟨k, hk, rfl⟩ := nI_of hc.1
    have hkz : k ≤ z := Nat.not_lt.mp (fun h => hc.2 ((nI_ltI (by omega) hk).mpr h))
    rw [nI_clamp hk]
    omega
  · exact h
def LC (p : Program) (s : State) (m : MethodId) (meth : Method) (c : Code) (A : Nat → Prop) (dC : Nat → ClassId) (dI : Nat → Nat → Nat) (cs : Nat → ClassId) (b Ln : Nat) (xs : Nat → Int32) : Prop :=
  p.tables.exec = Jvm.exec ∧ c.code = cL_law ∧ meth.sig.returnType = ret ∧ c.maxLocals = 4 ∧ s.vm.findClass RL = some m.cls ∧ (∀ w ∈ tb, w.before #[Value.ref b] s = true) ∧ va_X b Ln xs s s.heap ∧ b < s.heap.size ∧ ¬ A b ∧ meth.locks = false ∧ ENV s ∧ GV A s s.heap ∧ GVm A s s.heap ∧ va_K (dC, dI) vwCl (TYS cs) s ∧ (∀ q : Nat, s.heap.size ≤ q → A q) ∧ (∀ q : Nat, A q → s.heap.size ≤ q)
