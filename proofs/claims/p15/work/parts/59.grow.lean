theorem nraw {ty : TyM} {x k ρ : Nat} {im : List Nat} (p : ty x = (k, ρ, im)) (hk : k ≠ 99) : (ty x).1 ≠ 99 := fun w => hk ((congrArg Prod.fst p).symm.trans w)
def mrg {α : Type} (L : List Nat) (f g : Nat → α) : Nat → α := fun a => if a ∈ L then f a else g a
theorem mrg_l {α : Type} {L : List Nat} {f g : Nat → α} {a : Nat} (h : a ∈ L) : mrg L f g a = f a := if_pos h
theorem mrg_r {α : Type} {L : List Nat} {f g : Nat → α} {a : Nat} (h : a ∉ L) : mrg L f g a = g a := if_neg h
def wta (ty : TyM) (L : List Nat) (a : Nat) : Prop :=
  (∀ (ρ r n : Nat), ty a = (0, ρ, [r, n]) → wt_bytes ty L ρ r n) ∧
  (∀ (ρ n : Nat), ty a = (16, ρ, [n]) → wt_ints ty L ρ n) ∧
  (∀ (ρ n : Nat), ty a = (17, ρ, [n]) → wt_octs ty L ρ n) ∧
  (∀ (ρ n : Nat), ty a = (18, ρ, [n]) → wt_bits ty L ρ n) ∧
  (∀ (ρ n : Nat), ty a = (19, ρ, [n]) → wt_longs ty L ρ n) ∧
  (∀ (ρ n : Nat), ty a = (24, ρ, [n]) → wt_idx ty L ρ n) ∧
  (∀ (ρ n : Nat), ty a = (20, ρ, [n]) → wt_rbytes ty L ρ n) ∧
  (∀ (ρ n : Nat), ty a = (21, ρ, [n]) → wt_rentry ty L ρ n) ∧
  (∀ (ρ n : Nat), ty a = (22, ρ, [n]) → wt_rterm ty L ρ n) ∧
  (∀ (ρ : Nat), ty a = (10, ρ, []) → wt_term ty L ρ) ∧
  (∀ (ρ x y : Nat), ty a = (3, ρ, [x, y]) → wt_entry ty L ρ x y) ∧
  (∀ (ρ x : Nat), ty a = (2, ρ, [x]) → wt_dir ty L ρ x) ∧
  (∀ (ρ x y0 y1 y2 : Nat), ty a = (4, ρ, [x, y0, y1, y2]) → wt_msg ty L ρ x y0 y1 y2) ∧
  (∀ (ρ x n y0 y1 y2 : Nat), ty a = (9, ρ, [x, n, y0, y1, y2]) → wt_tags ty L ρ x n y0 y1 y2) ∧
  (∀ (ρ x y w : Nat), ty a = (8, ρ, [x, y, w]) → wt_sha ty L ρ x y w) ∧
  (∀ (ρ n : Nat), ty a = (30, ρ, [n]) → wt_tur ty L ρ n) ∧
  (∀ (ρ x y w u : Nat), ty a = (6, ρ, [x, y, w, u]) → wt_power ty L ρ x y w u) ∧
  (∀ (ρ d δ ea w0 w1 w2 w3 nm te : Nat), ty a = (1, ρ, [d, δ, ea, w0, w1, w2, w3, nm, te]) → wt_chk ty L ρ d δ ea w0 w1 w2 w3 nm te) ∧
  (∀ (ρ d δ ea w0 w1 rc rx ry0 ry1 ry2 : Nat), ty a = (5, ρ, [d, δ, ea, w0, w1, rc, rx, ry0, ry1, ry2]) → wt_pol ty L ρ d δ ea w0 w1 rc rx ry0 ry1 ry2) ∧
  (∀ (ρ d δ ea sl sx sy0 sy1 sy2 ke kx ky0 ky1 ky2 w0 w1 w2 w3 w4 w5 w6 w7 w8 tk hs hx hy hw pw px py pz pu : Nat), ty a = (7, ρ, [d, δ, ea, sl, sx, sy0, sy1, sy2, ke, kx, ky0, ky1, ky2, w0, w1, w2, w3, w4, w5, w6, w7, w8, tk, hs, hx, hy, hw, pw, px, py, pz, pu]) → wt_slr ty L ρ d δ ea sl sx sy0 sy1 sy2 ke kx ky0 ky1 ky2 w0 w1 w2 w3 w4 w5 w6 w7 w8 tk hs hx hy hw pw px py pz pu) ∧
  (∀ (ρ ta ou di ea ck sl po hs : Nat), ty a = (11, ρ, [ta, ou, di, ea, ck, sl, po, hs]) → wt_gate ty L ρ ta ou di ea ck sl po hs)
theorem wt_bytes_mono {ty ty2 : TyM} {L L2 : List Nat} {ρ r n : Nat} (hb : ∀ b ∈ L, (ty b).1 ≠ 99 → b ∈ L2 ∧ ty2 b = ty b) (h : wt_bytes ty L ρ r n) : wt_bytes ty2 L2 ρ r n := by
  obtain ⟨p0, p1, p2⟩ := h
  exact ⟨(hb _ p0 (nraw p1 (by decide))).1, ((hb _ p0 (nraw p1 (by decide))).2.trans p1), p2⟩
theorem wt_entry_mono {ty ty2 : TyM} {L L2 : List Nat} {ρ x y : Nat} (hb : ∀ b ∈ L, (ty b).1 ≠ 99 → b ∈ L2 ∧ ty2 b = ty b) (h : wt_entry ty L ρ x y) : wt_entry ty2 L2 ρ x y := by
  obtain ⟨p0, p1, ⟨r_2, p2⟩, ⟨r_3, p3⟩⟩ := h
  exact ⟨(hb _ p0 (nraw p2 (by decide))).1, (hb _ p1 (nraw p3 (by decide))).1, ⟨r_2, (hb _ p0 (nraw p2 (by decide))).2.trans p2⟩, ⟨r_3, (hb _ p1 (nraw p3 (by decide))).2.trans p3⟩⟩
theorem wt_dir_mono {ty ty2 : TyM} {L L2 : List Nat} {ρ x : Nat} (hb : ∀ b ∈ L, (ty b).1 ≠ 99 → b ∈ L2 ∧ ty2 b = ty b) (h : wt_dir ty L ρ x) : wt_dir ty2 L2 ρ x := by
  obtain ⟨p0, p1⟩ := h
  exact ⟨(hb _ p0 (nraw p1 (by decide))).1, ((hb _ p0 (nraw p1 (by decide))).2.trans p1)⟩
theorem wt_msg_mono {ty ty2 : TyM} {L L2 : List Nat} {ρ x y0 y1 y2 : Nat} (hb : ∀ b ∈ L, (ty b).1 ≠ 99 → b ∈ L2 ∧ ty2 b = ty b) (h : wt_msg ty L ρ x y0 y1 y2) : wt_msg ty2 L2 ρ x y0 y1 y2 := by
  obtain ⟨p0, p1, p2, p3, ⟨r_4, p4⟩, p5, p6, p7⟩ := h
  exact ⟨(hb _ p0 (nraw p4 (by decide))).1, (hb _ p1 (nraw p5 (by decide))).1, (hb _ p2 (nraw p6 (by decide))).1, (hb _ p3 (nraw p7 (by decide))).1, ⟨r_4, (hb _ p0 (nraw p4 (by decide))).2.trans p4⟩, ((hb _ p1 (nraw p5 (by decide))).2.trans p5), ((hb _ p2 (nraw p6 (by decide))).2.trans p6), ((hb _ p3 (nraw p7 (by decide))).2.trans p7)⟩
theorem wt_tags_mono {ty ty2 : TyM} {L L2 : List Nat} {ρ x n y0 y1 y2 : Nat} (hb : ∀ b ∈ L, (ty b).1 ≠ 99 → b ∈ L2 ∧ ty2 b = ty b) (h : wt_tags ty L ρ x n y0 y1 y2) : wt_tags ty2 L2 ρ x n y0 y1 y2 := by
  obtain ⟨p0, p1, p2, p3, ⟨r_4, p4⟩, p5, p6, p7⟩ := h
  exact ⟨(hb _ p0 (nraw p4 (by decide))).1, (hb _ p1 (nraw p5 (by decide))).1, (hb _ p2 (nraw p6 (by decide))).1, (hb _ p3 (nraw p7 (by decide))).1, ⟨r_4, (hb _ p0 (nraw p4 (by decide))).2.trans p4⟩, ((hb _ p1 (nraw p5 (by decide))).2.trans p5), ((hb _ p2 (nraw p6 (by decide))).2.trans p6), ((hb _ p3 (nraw p7 (by decide))).2.trans p7)⟩
theorem wt_sha_mono {ty ty2 : TyM} {L L2 : List Nat} {ρ x y w : Nat} (hb : ∀ b ∈ L, (ty b).1 ≠ 99 → b ∈ L2 ∧ ty2 b = ty b) (h : wt_sha ty L ρ x y w) : wt_sha ty2 L2 ρ x y w := by
  obtain ⟨p0, p1, p2, p3, p4, p5⟩ := h
  exact ⟨(hb _ p0 (nraw p3 (by decide))).1, (hb _ p1 (nraw p4 (by decide))).1, (hb _ p2 (nraw p5 (by decide))).1, ((hb _ p0 (nraw p3 (by decide))).2.trans p3), ((hb _ p1 (nraw p4 (by decide))).2.trans p4), ((hb _ p2 (nraw p5 (by decide))).2.trans p5)⟩
theorem wt_power_mono {ty ty2 : TyM} {L L2 : List Nat} {ρ x y w u : Nat} (hb : ∀ b ∈ L, (ty b).1 ≠ 99 → b ∈ L2 ∧ ty2 b = ty b) (h : wt_power ty L ρ x y w u) : wt_power ty2 L2 ρ x y w u := by
  obtain ⟨p0, p1, p2, p3, p4, p5, p6, p7⟩ := h
  exact ⟨(hb _ p0 (nraw p4 (by decide))).1, (hb _ p1 (nraw p5 (by decide))).1, (hb _ p2 (nraw p6 (by decide))).1, (hb _ p3 (nraw p7 (by decide))).1, ((hb _ p0 (nraw p4 (by decide))).2.trans p4), ((hb _ p1 (nraw p5 (by decide))).2.trans p5), ((hb _ p2 (nraw p6 (by decide))).2.trans p6), ((hb _ p3 (nraw p7 (by decide))).2.trans p7)⟩
theorem wt_chk_mono {ty ty2 : TyM} {L L2 : List Nat} {ρ d δ ea w0 w1 w2 w3 nm te : Nat} (hb : ∀ b ∈ L, (ty b).1 ≠ 99 → b ∈ L2 ∧ ty2 b = ty b) (h : wt_chk ty L ρ d δ ea w0 w1 w2 w3 nm te) : wt_chk ty2 L2 ρ d δ ea w0 w1 w2 w3 nm te := by
  obtain ⟨p0, p1, p2, ⟨r_3, p3⟩, p4, ⟨r_5, p5⟩, p6, ⟨r_7, p7⟩, p8, ⟨r_9, p9⟩, p10, p11, p12, p13⟩ := h
  exact ⟨(hb _ p0 (nraw p1 (by decide))).1, ((hb _ p0 (nraw p1 (by decide))).2.trans p1), (hb _ p2 (nraw p3 (by decide))).1, ⟨r_3, (hb _ p2 (nraw p3 (by decide))).2.trans p3⟩, (hb _ p4 (nraw p5 (by decide))).1, ⟨r_5, (hb _ p4 (nraw p5 (by decide))).2.trans p5⟩, (hb _ p6 (nraw p7 (by decide))).1, ⟨r_7, (hb _ p6 (nraw p7 (by decide))).2.trans p7⟩, (hb _ p8 (nraw p9 (by decide))).1, ⟨r_9, (hb _ p8 (nraw p9 (by decide))).2.trans p9⟩, (hb _ p10 (nraw p11 (by decide))).1, ((hb _ p10 (nraw p11 (by decide))).2.trans p11), (hb _ p12 (nraw p13 (by decide))).1, ((hb _ p12 (nraw p13 (by decide))).2.trans p13)⟩
theorem wt_pol_mono {ty ty2 : TyM} {L L2 : List Nat} {ρ d δ ea w0 w1 rc rx ry0 ry1 ry2 : Nat} (hb : ∀ b ∈ L, (ty b).1 ≠ 99 → b ∈ L2 ∧ ty2 b = ty b) (h : wt_pol ty L ρ d δ ea w0 w1 rc rx ry0 ry1 ry2) : wt_pol ty2 L2 ρ d δ ea w0 w1 rc rx ry0 ry1 ry2 := by
  obtain ⟨p0, p1, p2, ⟨r_3, p3⟩, p4, ⟨r_5, p5⟩, p6, p7⟩ := h
  exact ⟨(hb _ p0 (nraw p1 (by decide))).1, ((hb _ p0 (nraw p1 (by decide))).2.trans p1), (hb _ p2 (nraw p3 (by decide))).1, ⟨r_3, (hb _ p2 (nraw p3 (by decide))).2.trans p3⟩, (hb _ p4 (nraw p5 (by decide))).1, ⟨r_5, (hb _ p4 (nraw p5 (by decide))).2.trans p5⟩, (hb _ p6 (nraw p7 (by decide))).1, ((hb _ p6 (nraw p7 (by decide))).2.trans p7)⟩
theorem wt_slr_mono {ty ty2 : TyM} {L L2 : List Nat} {ρ d δ ea sl sx sy0 sy1 sy2 ke kx ky0 ky1 ky2 w0 w1 w2 w3 w4 w5 w6 w7 w8 tk hs hx hy hw pw px py pz pu : Nat} (hb : ∀ b ∈ L, (ty b).1 ≠ 99 → b ∈ L2 ∧ ty2 b = ty b) (h : wt_slr ty L ρ d δ ea sl sx sy0 sy1 sy2 ke kx ky0 ky1 ky2 w0 w1 w2 w3 w4 w5 w6 w7 w8 tk hs hx hy hw pw px py pz pu) : wt_slr ty2 L2 ρ d δ ea sl sx sy0 sy1 sy2 ke kx ky0 ky1 ky2 w0 w1 w2 w3 w4 w5 w6 w7 w8 tk hs hx hy hw pw px py pz pu := by
  obtain ⟨p0, p1, p2, p3, p4, p5, p6, ⟨r_7, p7⟩, p8, ⟨r_9, p9⟩, p10, ⟨r_11, p11⟩, p12, ⟨r_13, p13⟩, p14, ⟨r_15, p15⟩, p16, ⟨r_17, p17⟩, p18, ⟨r_19, p19⟩, p20, ⟨r_21, p21⟩, p22, ⟨r_23, p23⟩, p24, p25, p26, p27, p28, p29⟩ := h
  exact ⟨(hb _ p0 (nraw p1 (by decide))).1, ((hb _ p0 (nraw p1 (by decide))).2.trans p1), (hb _ p2 (nraw p3 (by decide))).1, ((hb _ p2 (nraw p3 (by decide))).2.trans p3), (hb _ p4 (nraw p5 (by decide))).1, ((hb _ p4 (nraw p5 (by decide))).2.trans p5), (hb _ p6 (nraw p7 (by decide))).1, ⟨r_7, (hb _ p6 (nraw p7 (by decide))).2.trans p7⟩, (hb _ p8 (nraw p9 (by decide))).1, ⟨r_9, (hb _ p8 (nraw p9 (by decide))).2.trans p9⟩, (hb _ p10 (nraw p11 (by decide))).1, ⟨r_11, (hb _ p10 (nraw p11 (by decide))).2.trans p11⟩, (hb _ p12 (nraw p13 (by decide))).1, ⟨r_13, (hb _ p12 (nraw p13 (by decide))).2.trans p13⟩, (hb _ p14 (nraw p15 (by decide))).1, ⟨r_15, (hb _ p14 (nraw p15 (by decide))).2.trans p15⟩, (hb _ p16 (nraw p17 (by decide))).1, ⟨r_17, (hb _ p16 (nraw p17 (by decide))).2.trans p17⟩, (hb _ p18 (nraw p19 (by decide))).1, ⟨r_19, (hb _ p18 (nraw p19 (by decide))).2.trans p19⟩, (hb _ p20 (nraw p21 (by decide))).1, ⟨r_21, (hb _ p20 (nraw p21 (by decide))).2.trans p21⟩, (hb _ p22 (nraw p23 (by decide))).1, ⟨r_23, (hb _ p22 (nraw p23 (by decide))).2.trans p23⟩, (hb _ p24 (nraw p25 (by decide))).1, ((hb _ p24 (nraw p25 (by decide))).2.trans p25), (hb _ p26 (nraw p27 (by decide))).1, ((hb _ p26 (nraw p27 (by decide))).2.trans p27), (hb _ p28 (nraw p29 (by decide))).1, ((hb _ p28 (nraw p29 (by decide))).2.trans p29)⟩
theorem wt_gate_mono {ty ty2 : TyM} {L L2 : List Nat} {ρ ta ou di ea ck sl po hs : Nat} (hb : ∀ b ∈ L, (ty b).1 ≠ 99 → b ∈ L2 ∧ ty2 b = ty b) (h : wt_gate ty L ρ ta ou di ea ck sl po hs) : wt_gate ty2 L2 ρ ta ou di ea ck sl po hs := by
  obtain ⟨p0, ⟨r_1, p1⟩, p2, ⟨r_3, p3⟩, p4, p5, p6, ⟨w0_7, w1_7, w2_7, w3_7, nm_7, te_7, p7⟩, p8, ⟨l1_9, lx_9, ly0_9, ly1_9, ly2_9, k1_9, kx_9, ky0_9, ky1_9, ky2_9, w0_9, w1_9, w2_9, w3_9, w4_9, w5_9, w6_9, w7_9, w8_9, tk_9, h1_9, hx_9, hy_9, hw_9, pw_9, px_9, py_9, pz_9, pu_9, p9⟩, p10, ⟨w0_11, w1_11, rc_11, rx_11, ry0_11, ry1_11, ry2_11, p11⟩, p12, ⟨hx_13, hy_13, hw_13, p13⟩⟩ := h
  exact ⟨(hb _ p0 (nraw p1 (by decide))).1, ⟨r_1, (hb _ p0 (nraw p1 (by decide))).2.trans p1⟩, (hb _ p2 (nraw p3 (by decide))).1, ⟨r_3, (hb _ p2 (nraw p3 (by decide))).2.trans p3⟩, (hb _ p4 (nraw p5 (by decide))).1, ((hb _ p4 (nraw p5 (by decide))).2.trans p5), (hb _ p6 (nraw p7 (by decide))).1, ⟨w0_7, w1_7, w2_7, w3_7, nm_7, te_7, (hb _ p6 (nraw p7 (by decide))).2.trans p7⟩, (hb _ p8 (nraw p9 (by decide))).1, ⟨l1_9, lx_9, ly0_9, ly1_9, ly2_9, k1_9, kx_9, ky0_9, ky1_9, ky2_9, w0_9, w1_9, w2_9, w3_9, w4_9, w5_9, w6_9, w7_9, w8_9, tk_9, h1_9, hx_9, hy_9, hw_9, pw_9, px_9, py_9, pz_9, pu_9, (hb _ p8 (nraw p9 (by decide))).2.trans p9⟩, (hb _ p10 (nraw p11 (by decide))).1, ⟨w0_11, w1_11, rc_11, rx_11, ry0_11, ry1_11, ry2_11, (hb _ p10 (nraw p11 (by decide))).2.trans p11⟩, (hb _ p12 (nraw p13 (by decide))).1, ⟨hx_13, hy_13, hw_13, (hb _ p12 (nraw p13 (by decide))).2.trans p13⟩⟩
theorem wta_mono {ty ty2 : TyM} {L L2 : List Nat} {a : Nat} (ha : ty2 a = ty a) (hb : ∀ b ∈ L, (ty b).1 ≠ 99 → b ∈ L2 ∧ ty2 b = ty b) (h : wta ty L a) : wta ty2 L2 a :=
  ⟨fun _ _ _ e => wt_bytes_mono hb ((h.1) _ _ _ (ha.symm.trans e)),
   fun _ _ _ => trivial,
   fun _ _ _ => trivial,
   fun _ _ _ => trivial,
   fun _ _ _ => trivial,
   fun _ _ _ => trivial,
   fun _ _ _ => trivial,
   fun _ _ _ => trivial,
   fun _ _ _ => trivial,
   fun _ _ => trivial,
   fun _ _ _ e => wt_entry_mono hb ((h.2.2.2.2.2.2.2.2.2.2.1) _ _ _ (ha.symm.trans e)),
   fun _ _ e => wt_dir_mono hb ((h.2.2.2.2.2.2.2.2.2.2.2.1) _ _ (ha.symm.trans e)),
   fun _ _ _ _ _ e => wt_msg_mono hb ((h.2.2.2.2.2.2.2.2.2.2.2.2.1) _ _ _ _ _ (ha.symm.trans e)),
   fun _ _ _ _ _ _ e => wt_tags_mono hb ((h.2.2.2.2.2.2.2.2.2.2.2.2.2.1) _ _ _ _ _ _ (ha.symm.trans e)),
   fun _ _ _ _ e => wt_sha_mono hb ((h.2.2.2.2.2.2.2.2.2.2.2.2.2.2.1) _ _ _ _ (ha.symm.trans e)),
   fun _ _ _ => trivial,
   fun _ _ _ _ _ e => wt_power_mono hb ((h.2.2.2.2.2.2.2.2.2.2.2.2.2.2.2.2.1) _ _ _ _ _ (ha.symm.trans e)),
   fun _ _ _ _ _ _ _ _ _ _ e => wt_chk_mono hb ((h.2.2.2.2.2.2.2.2.2.2.2.2.2.2.2.2.2.1) _ _ _ _ _ _ _ _ _ _ (ha.symm.trans e)),
   fun _ _ _ _ _ _ _ _ _ _ _ e => wt_pol_mono hb ((h.2.2.2.2.2.2.2.2.2.2.2.2.2.2.2.2.2.2.1) _ _ _ _ _ _ _ _ _ _ _ (ha.symm.trans e)),
   fun _ _ _ _ _ _ _ _ _ _ _ _ _ _ _ _ _ _ _ _ _ _ _ _ _ _ _ _ _ _ _ _ _ e => wt_slr_mono hb ((h.2.2.2.2.2.2.2.2.2.2.2.2.2.2.2.2.2.2.2.1) _ _ _ _ _ _ _ _ _ _ _ _ _ _ _ _ _ _ _ _ _ _ _ _ _ _ _ _ _ _ _ _ _ (ha.symm.trans e)),
   fun _ _ _ _ _ _ _ _ _ e => wt_gate_mono hb ((h.2.2.2.2.2.2.2.2.2.2.2.2.2.2.2.2.2.2.2.2) _ _ _ _ _ _ _ _ _ (ha.symm.trans e))⟩
theorem wta_raw {ty : TyM} {L : List Nat} {a ρ : Nat} {im : List Nat} (ht : ty a = (99, ρ, im)) : wta ty L a :=
  ⟨fun _ _ _ e => absurd (ht.symm.trans e) (by simp), fun _ _ e => absurd (ht.symm.trans e) (by simp), fun _ _ e => absurd (ht.symm.trans e) (by simp), fun _ _ e => absurd (ht.symm.trans e) (by simp), fun _ _ e => absurd (ht.symm.trans e) (by simp), fun _ _ e => absurd (ht.symm.trans e) (by simp), fun _ _ e => absurd (ht.symm.trans e) (by simp), fun _ _ e => absurd (ht.symm.trans e) (by simp), fun _ _ e => absurd (ht.symm.trans e) (by simp), fun _ e => absurd (ht.symm.trans e) (by simp), fun _ _ _ e => absurd (ht.symm.trans e) (by simp), fun _ _ e => absurd (ht.symm.trans e) (by simp), fun _ _ _ _ _ e => absurd (ht.symm.trans e) (by simp), fun _ _ _ _ _ _ e => absurd (ht.symm.trans e) (by simp), fun _ _ _ _ e => absurd (ht.symm.trans e) (by simp), fun _ _ e => absurd (ht.symm.trans e) (by simp), fun _ _ _ _ _ e => absurd (ht.symm.trans e) (by simp), fun _ _ _ _ _ _ _ _ _ _ e => absurd (ht.symm.trans e) (by simp), fun _ _ _ _ _ _ _ _ _ _ _ e => absurd (ht.symm.trans e) (by simp), fun _ _ _ _ _ _ _ _ _ _ _ _ _ _ _ _ _ _ _ _ _ _ _ _ _ _ _ _ _ _ _ _ _ e => absurd (ht.symm.trans e) (by simp), fun _ _ _ _ _ _ _ _ _ e => absurd (ht.symm.trans e) (by simp)⟩
theorem wta_bytes {ty : TyM} {L : List Nat} {a : Nat} {ρ r n : Nat} (ht : ty a = (0, ρ, [r, n])) (h : wt_bytes ty L ρ r n) : wta ty L a :=
  ⟨fun _ _ _ e => by rw [ht] at e; cases e; exact h, fun _ _ e => absurd (ht.symm.trans e) (by simp), fun _ _ e => absurd (ht.symm.trans e) (by simp), fun _ _ e => absurd (ht.symm.trans e) (by simp), fun _ _ e => absurd (ht.symm.trans e) (by simp), fun _ _ e => absurd (ht.symm.trans e) (by simp), fun _ _ e => absurd (ht.symm.trans e) (by simp), fun _ _ e => absurd (ht.symm.trans e) (by simp), fun _ _ e => absurd (ht.symm.trans e) (by simp), fun _ e => absurd (ht.symm.trans e) (by simp), fun _ _ _ e => absurd (ht.symm.trans e) (by simp), fun _ _ e => absurd (ht.symm.trans e) (by simp), fun _ _ _ _ _ e => absurd (ht.symm.trans e) (by simp), fun _ _ _ _ _ _ e => absurd (ht.symm.trans e) (by simp), fun _ _ _ _ e => absurd (ht.symm.trans e) (by simp), fun _ _ e => absurd (ht.symm.trans e) (by simp), fun _ _ _ _ _ e => absurd (ht.symm.trans e) (by simp), fun _ _ _ _ _ _ _ _ _ _ e => absurd (ht.symm.trans e) (by simp), fun _ _ _ _ _ _ _ _ _ _ _ e => absurd (ht.symm.trans e) (by simp), fun _ _ _ _ _ _ _ _ _ _ _ _ _ _ _ _ _ _ _ _ _ _ _ _ _ _ _ _ _ _ _ _ _ e => absurd (ht.symm.trans e) (by simp), fun _ _ _ _ _ _ _ _ _ e => absurd (ht.symm.trans e) (by simp)⟩
theorem wta_ints {ty : TyM} {L : List Nat} {a : Nat} {ρ n : Nat} (ht : ty a = (16, ρ, [n])) (h : wt_ints ty L ρ n) : wta ty L a :=
  ⟨fun _ _ _ e => absurd (ht.symm.trans e) (by simp), fun _ _ e => by rw [ht] at e; cases e; exact h, fun _ _ e => absurd (ht.symm.trans e) (by simp), fun _ _ e => absurd (ht.symm.trans e) (by simp), fun _ _ e => absurd (ht.symm.trans e) (by simp), fun _ _ e => absurd (ht.symm.trans e) (by simp), fun _ _ e => absurd (ht.symm.trans e) (by simp), fun _ _ e => absurd (ht.symm.trans e) (by simp), fun _ _ e => absurd (ht.symm.trans e) (by simp), fun _ e => absurd (ht.symm.trans e) (by simp), fun _ _ _ e => absurd (ht.symm.trans e) (by simp), fun _ _ e => absurd (ht.symm.trans e) (by simp), fun _ _ _ _ _ e => absurd (ht.symm.trans e) (by simp), fun _ _ _ _ _ _ e => absurd (ht.symm.trans e) (by simp), fun _ _ _ _ e => absurd (ht.symm.trans e) (by simp), fun _ _ e => absurd (ht.symm.trans e) (by simp), fun _ _ _ _ _ e => absurd (ht.symm.trans e) (by simp), fun _ _ _ _ _ _ _ _ _ _ e => absurd (ht.symm.trans e) (by simp), fun _ _ _ _ _ _ _ _ _ _ _ e => absurd (ht.symm.trans e) (by simp), fun _ _ _ _ _ _ _ _ _ _ _ _ _ _ _ _ _ _ _ _ _ _ _ _ _ _ _ _ _ _ _ _ _ e => absurd (ht.symm.trans e) (by simp), fun _ _ _ _ _ _ _ _ _ e => absurd (ht.symm.trans e) (by simp)⟩
theorem wta_octs {ty : TyM} {L : List Nat} {a : Nat} {ρ n : Nat} (ht : ty a = (17, ρ, [n])) (h : wt_octs ty L ρ n) : wta ty L a :=
  ⟨fun _ _ _ e => absurd (ht.symm.trans e) (by simp), fun _ _ e => absurd (ht.symm.trans e) (by simp), fun _ _ e => by rw [ht] at e; cases e; exact h, fun _ _ e => absurd (ht.symm.trans e) (by simp), fun _ _ e => absurd (ht.symm.trans e) (by simp), fun _ _ e => absurd (ht.symm.trans e) (by simp), fun _ _ e => absurd (ht.symm.trans e) (by simp), fun _ _ e => absurd (ht.symm.trans e) (by simp), fun _ _ e => absurd (ht.symm.trans e) (by simp), fun _ e => absurd (ht.symm.trans e) (by simp), fun _ _ _ e => absurd (ht.symm.trans e) (by simp), fun _ _ e => absurd (ht.symm.trans e) (by simp), fun _ _ _ _ _ e => absurd (ht.symm.trans e) (by simp), fun _ _ _ _ _ _ e => absurd (ht.symm.trans e) (by simp), fun _ _ _ _ e => absurd (ht.symm.trans e) (by simp), fun _ _ e => absurd (ht.symm.trans e) (by simp), fun _ _ _ _ _ e => absurd (ht.symm.trans e) (by simp), fun _ _ _ _ _ _ _ _ _ _ e => absurd (ht.symm.trans e) (by simp), fun _ _ _ _ _ _ _ _ _ _ _ e => absurd (ht.symm.trans e) (by simp), fun _ _ _ _ _ _ _ _ _ _ _ _ _ _ _ _ _ _ _ _ _ _ _ _ _ _ _ _ _ _ _ _ _ e => absurd (ht.symm.trans e) (by simp), fun _ _ _ _ _ _ _ _ _ e => absurd (ht.symm.trans e) (by simp)⟩
theorem wta_bits {ty : TyM} {L : List Nat} {a : Nat} {ρ n : Nat} (ht : ty a = (18, ρ, [n])) (h : wt_bits ty L ρ n) : wta ty L a :=
  ⟨fun _ _ _ e => absurd (ht.symm.trans e) (by simp), fun _ _ e => absurd (ht.symm.trans e) (by simp), fun _ _ e => absurd (ht.symm.trans e) (by simp), fun _ _ e => by rw [ht] at e; cases e; exact h, fun _ _ e => absurd (ht.symm.trans e) (by simp), fun _ _ e => absurd (ht.symm.trans e) (by simp), fun _ _ e => absurd (ht.symm.trans e) (by simp), fun _ _ e => absurd (ht.symm.trans e) (by simp), fun _ _ e => absurd (ht.symm.trans e) (by simp), fun _ e => absurd (ht.symm.trans e) (by simp), fun _ _ _ e => absurd (ht.symm.trans e) (by simp), fun _ _ e => absurd (ht.symm.trans e) (by simp), fun _ _ _ _ _ e => absurd (ht.symm.trans e) (by simp), fun _ _ _ _ _ _ e => absurd (ht.symm.trans e) (by simp), fun _ _ _ _ e => absurd (ht.symm.trans e) (by simp), fun _ _ e => absurd (ht.symm.trans e) (by simp), fun _ _ _ _ _ e => absurd (ht.symm.trans e) (by simp), fun _ _ _ _ _ _ _ _ _ _ e => absurd (ht.symm.trans e) (by simp), fun _ _ _ _ _ _ _ _ _ _ _ e => absurd (ht.symm.trans e) (by simp), fun _ _ _ _ _ _ _ _ _ _ _ _ _ _ _ _ _ _ _ _ _ _ _ _ _ _ _ _ _ _ _ _ _ e => absurd (ht.symm.trans e) (by simp), fun _ _ _ _ _ _ _ _ _ e => absurd (ht.symm.trans e) (by simp)⟩
theorem wta_longs {ty : TyM} {L : List Nat} {a : Nat} {ρ n : Nat} (ht : ty a = (19, ρ, [n])) (h : wt_longs ty L ρ n) : wta ty L a :=
  ⟨fun _ _ _ e => absurd (ht.symm.trans e) (by simp), fun _ _ e => absurd (ht.symm.trans e) (by simp), fun _ _ e => absurd (ht.symm.trans e) (by simp), fun _ _ e => absurd (ht.symm.trans e) (by simp), fun _ _ e => by rw [ht] at e; cases e; exact h, fun _ _ e => absurd (ht.symm.trans e) (by simp), fun _ _ e => absurd (ht.symm.trans e) (by simp), fun _ _ e => absurd (ht.symm.trans e) (by simp), fun _ _ e => absurd (ht.symm.trans e) (by simp), fun _ e => absurd (ht.symm.trans e) (by simp), fun _ _ _ e => absurd (ht.symm.trans e) (by simp), fun _ _ e => absurd (ht.symm.trans e) (by simp), fun _ _ _ _ _ e => absurd (ht.symm.trans e) (by simp), fun _ _ _ _ _ _ e => absurd (ht.symm.trans e) (by simp), fun _ _ _ _ e => absurd (ht.symm.trans e) (by simp), fun _ _ e => absurd (ht.symm.trans e) (by simp), fun _ _ _ _ _ e => absurd (ht.symm.trans e) (by simp), fun _ _ _ _ _ _ _ _ _ _ e => absurd (ht.symm.trans e) (by simp), fun _ _ _ _ _ _ _ _ _ _ _ e => absurd (ht.symm.trans e) (by simp), fun _ _ _ _ _ _ _ _ _ _ _ _ _ _ _ _ _ _ _ _ _ _ _ _ _ _ _ _ _ _ _ _ _ e => absurd (ht.symm.trans e) (by simp), fun _ _ _ _ _ _ _ _ _ e => absurd (ht.symm.trans e) (by simp)⟩
theorem wta_idx {ty : TyM} {L : List Nat} {a : Nat} {ρ n : Nat} (ht : ty a = (24, ρ, [n])) (h : wt_idx ty L ρ n) : wta ty L a :=
  ⟨fun _ _ _ e => absurd (ht.symm.trans e) (by simp), fun _ _ e => absurd (ht.symm.trans e) (by simp), fun _ _ e => absurd (ht.symm.trans e) (by simp), fun _ _ e => absurd (ht.symm.trans e) (by simp), fun _ _ e => absurd (ht.symm.trans e) (by simp), fun _ _ e => by rw [ht] at e; cases e; exact h, fun _ _ e => absurd (ht.symm.trans e) (by simp), fun _ _ e => absurd (ht.symm.trans e) (by simp), fun _ _ e => absurd (ht.symm.trans e) (by simp), fun _ e => absurd (ht.symm.trans e) (by simp), fun _ _ _ e => absurd (ht.symm.trans e) (by simp), fun _ _ e => absurd (ht.symm.trans e) (by simp), fun _ _ _ _ _ e => absurd (ht.symm.trans e) (by simp), fun _ _ _ _ _ _ e => absurd (ht.symm.trans e) (by simp), fun _ _ _ _ e => absurd (ht.symm.trans e) (by simp), fun _ _ e => absurd (ht.symm.trans e) (by simp), fun _ _ _ _ _ e => absurd (ht.symm.trans e) (by simp), fun _ _ _ _ _ _ _ _ _ _ e => absurd (ht.symm.trans e) (by simp), fun _ _ _ _ _ _ _ _ _ _ _ e => absurd (ht.symm.trans e) (by simp), fun _ _ _ _ _ _ _ _ _ _ _ _ _ _ _ _ _ _ _ _ _ _ _ _ _ _ _ _ _ _ _ _ _ e => absurd (ht.symm.trans e) (by simp), fun _ _ _ _ _ _ _ _ _ e => absurd (ht.symm.trans e) (by simp)⟩
theorem wta_rbytes {ty : TyM} {L : List Nat} {a : Nat} {ρ n : Nat} (ht : ty a = (20, ρ, [n])) (h : wt_rbytes ty L ρ n) : wta ty L a :=
  ⟨fun _ _ _ e => absurd (ht.symm.trans e) (by simp), fun _ _ e => absurd (ht.symm.trans e) (by simp), fun _ _ e => absurd (ht.symm.trans e) (by simp), fun _ _ e => absurd (ht.symm.trans e) (by simp), fun _ _ e => absurd (ht.symm.trans e) (by simp), fun _ _ e => absurd (ht.symm.trans e) (by simp), fun _ _ e => by rw [ht] at e; cases e; exact h, fun _ _ e => absurd (ht.symm.trans e) (by simp), fun _ _ e => absurd (ht.symm.trans e) (by simp), fun _ e => absurd (ht.symm.trans e) (by simp), fun _ _ _ e => absurd (ht.symm.trans e) (by simp), fun _ _ e => absurd (ht.symm.trans e) (by simp), fun _ _ _ _ _ e => absurd (ht.symm.trans e) (by simp), fun _ _ _ _ _ _ e => absurd (ht.symm.trans e) (by simp), fun _ _ _ _ e => absurd (ht.symm.trans e) (by simp), fun _ _ e => absurd (ht.symm.trans e) (by simp), fun _ _ _ _ _ e => absurd (ht.symm.trans e) (by simp), fun _ _ _ _ _ _ _ _ _ _ e => absurd (ht.symm.trans e) (by simp), fun _ _ _ _ _ _ _ _ _ _ _ e => absurd (ht.symm.trans e) (by simp), fun _ _ _ _ _ _ _ _ _ _ _ _ _ _ _ _ _ _ _ _ _ _ _ _ _ _ _ _ _ _ _ _ _ e => absurd (ht.symm.trans e) (by simp), fun _ _ _ _ _ _ _ _ _ e => absurd (ht.symm.trans e) (by simp)⟩
theorem wta_rentry {ty : TyM} {L : List Nat} {a : Nat} {ρ n : Nat} (ht : ty a = (21, ρ, [n])) (h : wt_rentry ty L ρ n) : wta ty L a :=
  ⟨fun _ _ _ e => absurd (ht.symm.trans e) (by simp), fun _ _ e => absurd (ht.symm.trans e) (by simp), fun _ _ e => absurd (ht.symm.trans e) (by simp), fun _ _ e => absurd (ht.symm.trans e) (by simp), fun _ _ e => absurd (ht.symm.trans e) (by simp), fun _ _ e => absurd (ht.symm.trans e) (by simp), fun _ _ e => absurd (ht.symm.trans e) (by simp), fun _ _ e => by rw [ht] at e; cases e; exact h, fun _ _ e => absurd (ht.symm.trans e) (by simp), fun _ e => absurd (ht.symm.trans e) (by simp), fun _ _ _ e => absurd (ht.symm.trans e) (by simp), fun _ _ e => absurd (ht.symm.trans e) (by simp), fun _ _ _ _ _ e => absurd (ht.symm.trans e) (by simp), fun _ _ _ _ _ _ e => absurd (ht.symm.trans e) (by simp), fun _ _ _ _ e => absurd (ht.symm.trans e) (by simp), fun _ _ e => absurd (ht.symm.trans e) (by simp), fun _ _ _ _ _ e => absurd (ht.symm.trans e) (by simp), fun _ _ _ _ _ _ _ _ _ _ e => absurd (ht.symm.trans e) (by simp), fun _ _ _ _ _ _ _ _ _ _ _ e => absurd (ht.symm.trans e) (by simp), fun _ _ _ _ _ _ _ _ _ _ _ _ _ _ _ _ _ _ _ _ _ _ _ _ _ _ _ _ _ _ _ _ _ e => absurd (ht.symm.trans e) (by simp), fun _ _ _ _ _ _ _ _ _ e => absurd (ht.symm.trans e) (by simp)⟩
theorem wta_rterm {ty : TyM} {L : List Nat} {a : Nat} {ρ n : Nat} (ht : ty a = (22, ρ, [n])) (h : wt_rterm ty L ρ n) : wta ty L a :=
  ⟨fun _ _ _ e => absurd (ht.symm.trans e) (by simp), fun _ _ e => absurd (ht.symm.trans e) (by simp), fun _ _ e => absurd (ht.symm.trans e) (by simp), fun _ _ e => absurd (ht.symm.trans e) (by simp), fun _ _ e => absurd (ht.symm.trans e) (by simp), fun _ _ e => absurd (ht.symm.trans e) (by simp), fun _ _ e => absurd (ht.symm.trans e) (by simp), fun _ _ e => absurd (ht.symm.trans e) (by simp), fun _ _ e => by rw [ht] at e; cases e; exact h, fun _ e => absurd (ht.symm.trans e) (by simp), fun _ _ _ e => absurd (ht.symm.trans e) (by simp), fun _ _ e => absurd (ht.symm.trans e) (by simp), fun _ _ _ _ _ e => absurd (ht.symm.trans e) (by simp), fun _ _ _ _ _ _ e => absurd (ht.symm.trans e) (by simp), fun _ _ _ _ e => absurd (ht.symm.trans e) (by simp), fun _ _ e => absurd (ht.symm.trans e) (by simp), fun _ _ _ _ _ e => absurd (ht.symm.trans e) (by simp), fun _ _ _ _ _ _ _ _ _ _ e => absurd (ht.symm.trans e) (by simp), fun _ _ _ _ _ _ _ _ _ _ _ e => absurd (ht.symm.trans e) (by simp), fun _ _ _ _ _ _ _ _ _ _ _ _ _ _ _ _ _ _ _ _ _ _ _ _ _ _ _ _ _ _ _ _ _ e => absurd (ht.symm.trans e) (by simp), fun _ _ _ _ _ _ _ _ _ e => absurd (ht.symm.trans e) (by simp)⟩
theorem wta_term {ty : TyM} {L : List Nat} {a : Nat} {ρ : Nat} (ht : ty a = (10, ρ, [])) (h : wt_term ty L ρ) : wta ty L a :=
  ⟨fun _ _ _ e => absurd (ht.symm.trans e) (by simp), fun _ _ e => absurd (ht.symm.trans e) (by simp), fun _ _ e => absurd (ht.symm.trans e) (by simp), fun _ _ e => absurd (ht.symm.trans e) (by simp), fun _ _ e => absurd (ht.symm.trans e) (by simp), fun _ _ e => absurd (ht.symm.trans e) (by simp), fun _ _ e => absurd (ht.symm.trans e) (by simp), fun _ _ e => absurd (ht.symm.trans e) (by simp), fun _ _ e => absurd (ht.symm.trans e) (by simp), fun _ e => by rw [ht] at e; cases e; exact h, fun _ _ _ e => absurd (ht.symm.trans e) (by simp), fun _ _ e => absurd (ht.symm.trans e) (by simp), fun _ _ _ _ _ e => absurd (ht.symm.trans e) (by simp), fun _ _ _ _ _ _ e => absurd (ht.symm.trans e) (by simp), fun _ _ _ _ e => absurd (ht.symm.trans e) (by simp), fun _ _ e => absurd (ht.symm.trans e) (by simp), fun _ _ _ _ _ e => absurd (ht.symm.trans e) (by simp), fun _ _ _ _ _ _ _ _ _ _ e => absurd (ht.symm.trans e) (by simp), fun _ _ _ _ _ _ _ _ _ _ _ e => absurd (ht.symm.trans e) (by simp), fun _ _ _ _ _ _ _ _ _ _ _ _ _ _ _ _ _ _ _ _ _ _ _ _ _ _ _ _ _ _ _ _ _ e => absurd (ht.symm.trans e) (by simp), fun _ _ _ _ _ _ _ _ _ e => absurd (ht.symm.trans e) (by simp)⟩
theorem wta_entry {ty : TyM} {L : List Nat} {a : Nat} {ρ x y : Nat} (ht : ty a = (3, ρ, [x, y])) (h : wt_entry ty L ρ x y) : wta ty L a :=
  ⟨fun _ _ _ e => absurd (ht.symm.trans e) (by simp), fun _ _ e => absurd (ht.symm.trans e) (by simp), fun _ _ e => absurd (ht.symm.trans e) (by simp), fun _ _ e => absurd (ht.symm.trans e) (by simp), fun _ _ e => absurd (ht.symm.trans e) (by simp), fun _ _ e => absurd (ht.symm.trans e) (by simp), fun _ _ e => absurd (ht.symm.trans e) (by simp), fun _ _ e => absurd (ht.symm.trans e) (by simp), fun _ _ e => absurd (ht.symm.trans e) (by simp), fun _ e => absurd (ht.symm.trans e) (by simp), fun _ _ _ e => by rw [ht] at e; cases e; exact h, fun _ _ e => absurd (ht.symm.trans e) (by simp), fun _ _ _ _ _ e => absurd (ht.symm.trans e) (by simp), fun _ _ _ _ _ _ e => absurd (ht.symm.trans e) (by simp), fun _ _ _ _ e => absurd (ht.symm.trans e) (by simp), fun _ _ e => absurd (ht.symm.trans e) (by simp), fun _ _ _ _ _ e => absurd (ht.symm.trans e) (by simp), fun _ _ _ _ _ _ _ _ _ _ e => absurd (ht.symm.trans e) (by simp), fun _ _ _ _ _ _ _ _ _ _ _ e => absurd (ht.symm.trans e) (by simp), fun _ _ _ _ _ _ _ _ _ _ _ _ _ _ _ _ _ _ _ _ _ _ _ _ _ _ _ _ _ _ _ _ _ e => absurd (ht.symm.trans e) (by simp), fun _ _ _ _ _ _ _ _ _ e => absurd (ht.symm.trans e) (by simp)⟩
theorem wta_dir {ty : TyM} {L : List Nat} {a : Nat} {ρ x : Nat} (ht : ty a = (2, ρ, [x])) (h : wt_dir ty L ρ x) : wta ty L a :=
  ⟨fun _ _ _ e => absurd (ht.symm.trans e) (by simp), fun _ _ e => absurd (ht.symm.trans e) (by simp), fun _ _ e => absurd (ht.symm.trans e) (by simp), fun _ _ e => absurd (ht.symm.trans e) (by simp), fun _ _ e => absurd (ht.symm.trans e) (by simp), fun _ _ e => absurd (ht.symm.trans e) (by simp), fun _ _ e => absurd (ht.symm.trans e) (by simp), fun _ _ e => absurd (ht.symm.trans e) (by simp), fun _ _ e => absurd (ht.symm.trans e) (by simp), fun _ e => absurd (ht.symm.trans e) (by simp), fun _ _ _ e => absurd (ht.symm.trans e) (by simp), fun _ _ e => by rw [ht] at e; cases e; exact h, fun _ _ _ _ _ e => absurd (ht.symm.trans e) (by simp), fun _ _ _ _ _ _ e => absurd (ht.symm.trans e) (by simp), fun _ _ _ _ e => absurd (ht.symm.trans e) (by simp), fun _ _ e => absurd (ht.symm.trans e) (by simp), fun _ _ _ _ _ e => absurd (ht.symm.trans e) (by simp), fun _ _ _ _ _ _ _ _ _ _ e => absurd (ht.symm.trans e) (by simp), fun _ _ _ _ _ _ _ _ _ _ _ e => absurd (ht.symm.trans e) (by simp), fun _ _ _ _ _ _ _ _ _ _ _ _ _ _ _ _ _ _ _ _ _ _ _ _ _ _ _ _ _ _ _ _ _ e => absurd (ht.symm.trans e) (by simp), fun _ _ _ _ _ _ _ _ _ e => absurd (ht.symm.trans e) (by simp)⟩
theorem wta_msg {ty : TyM} {L : List Nat} {a : Nat} {ρ x y0 y1 y2 : Nat} (ht : ty a = (4, ρ, [x, y0, y1, y2])) (h : wt_msg ty L ρ x y0 y1 y2) : wta ty L a :=
  ⟨fun _ _ _ e => absurd (ht.symm.trans e) (by simp), fun _ _ e => absurd (ht.symm.trans e) (by simp), fun _ _ e => absurd (ht.symm.trans e) (by simp), fun _ _ e => absurd (ht.symm.trans e) (by simp), fun _ _ e => absurd (ht.symm.trans e) (by simp), fun _ _ e => absurd (ht.symm.trans e) (by simp), fun _ _ e => absurd (ht.symm.trans e) (by simp), fun _ _ e => absurd (ht.symm.trans e) (by simp), fun _ _ e => absurd (ht.symm.trans e) (by simp), fun _ e => absurd (ht.symm.trans e) (by simp), fun _ _ _ e => absurd (ht.symm.trans e) (by simp), fun _ _ e => absurd (ht.symm.trans e) (by simp), fun _ _ _ _ _ e => by rw [ht] at e; cases e; exact h, fun _ _ _ _ _ _ e => absurd (ht.symm.trans e) (by simp), fun _ _ _ _ e => absurd (ht.symm.trans e) (by simp), fun _ _ e => absurd (ht.symm.trans e) (by simp), fun _ _ _ _ _ e => absurd (ht.symm.trans e) (by simp), fun _ _ _ _ _ _ _ _ _ _ e => absurd (ht.symm.trans e) (by simp), fun _ _ _ _ _ _ _ _ _ _ _ e => absurd (ht.symm.trans e) (by simp), fun _ _ _ _ _ _ _ _ _ _ _ _ _ _ _ _ _ _ _ _ _ _ _ _ _ _ _ _ _ _ _ _ _ e => absurd (ht.symm.trans e) (by simp), fun _ _ _ _ _ _ _ _ _ e => absurd (ht.symm.trans e) (by simp)⟩
theorem wta_tags {ty : TyM} {L : List Nat} {a : Nat} {ρ x n y0 y1 y2 : Nat} (ht : ty a = (9, ρ, [x, n, y0, y1, y2])) (h : wt_tags ty L ρ x n y0 y1 y2) : wta ty L a :=
  ⟨fun _ _ _ e => absurd (ht.symm.trans e) (by simp), fun _ _ e => absurd (ht.symm.trans e) (by simp), fun _ _ e => absurd (ht.symm.trans e) (by simp), fun _ _ e => absurd (ht.symm.trans e) (by simp), fun _ _ e => absurd (ht.symm.trans e) (by simp), fun _ _ e => absurd (ht.symm.trans e) (by simp), fun _ _ e => absurd (ht.symm.trans e) (by simp), fun _ _ e => absurd (ht.symm.trans e) (by simp), fun _ _ e => absurd (ht.symm.trans e) (by simp), fun _ e => absurd (ht.symm.trans e) (by simp), fun _ _ _ e => absurd (ht.symm.trans e) (by simp), fun _ _ e => absurd (ht.symm.trans e) (by simp), fun _ _ _ _ _ e => absurd (ht.symm.trans e) (by simp), fun _ _ _ _ _ _ e => by rw [ht] at e; cases e; exact h, fun _ _ _ _ e => absurd (ht.symm.trans e) (by simp), fun _ _ e => absurd (ht.symm.trans e) (by simp), fun _ _ _ _ _ e => absurd (ht.symm.trans e) (by simp), fun _ _ _ _ _ _ _ _ _ _ e => absurd (ht.symm.trans e) (by simp), fun _ _ _ _ _ _ _ _ _ _ _ e => absurd (ht.symm.trans e) (by simp), fun _ _ _ _ _ _ _ _ _ _ _ _ _ _ _ _ _ _ _ _ _ _ _ _ _ _ _ _ _ _ _ _ _ e => absurd (ht.symm.trans e) (by simp), fun _ _ _ _ _ _ _ _ _ e => absurd (ht.symm.trans e) (by simp)⟩
theorem wta_sha {ty : TyM} {L : List Nat} {a : Nat} {ρ x y w : Nat} (ht : ty a = (8, ρ, [x, y, w])) (h : wt_sha ty L ρ x y w) : wta ty L a :=
  ⟨fun _ _ _ e => absurd (ht.symm.trans e) (by simp), fun _ _ e => absurd (ht.symm.trans e) (by simp), fun _ _ e => absurd (ht.symm.trans e) (by simp), fun _ _ e => absurd (ht.symm.trans e) (by simp), fun _ _ e => absurd (ht.symm.trans e) (by simp), fun _ _ e => absurd (ht.symm.trans e) (by simp), fun _ _ e => absurd (ht.symm.trans e) (by simp), fun _ _ e => absurd (ht.symm.trans e) (by simp), fun _ _ e => absurd (ht.symm.trans e) (by simp), fun _ e => absurd (ht.symm.trans e) (by simp), fun _ _ _ e => absurd (ht.symm.trans e) (by simp), fun _ _ e => absurd (ht.symm.trans e) (by simp), fun _ _ _ _ _ e => absurd (ht.symm.trans e) (by simp), fun _ _ _ _ _ _ e => absurd (ht.symm.trans e) (by simp), fun _ _ _ _ e => by rw [ht] at e; cases e; exact h, fun _ _ e => absurd (ht.symm.trans e) (by simp), fun _ _ _ _ _ e => absurd (ht.symm.trans e) (by simp), fun _ _ _ _ _ _ _ _ _ _ e => absurd (ht.symm.trans e) (by simp), fun _ _ _ _ _ _ _ _ _ _ _ e => absurd (ht.symm.trans e) (by simp), fun _ _ _ _ _ _ _ _ _ _ _ _ _ _ _ _ _ _ _ _ _ _ _ _ _ _ _ _ _ _ _ _ _ e => absurd (ht.symm.trans e) (by simp), fun _ _ _ _ _ _ _ _ _ e => absurd (ht.symm.trans e) (by simp)⟩
theorem wta_tur {ty : TyM} {L : List Nat} {a : Nat} {ρ n : Nat} (ht : ty a = (30, ρ, [n])) (h : wt_tur ty L ρ n) : wta ty L a :=
  ⟨fun _ _ _ e => absurd (ht.symm.trans e) (by simp), fun _ _ e => absurd (ht.symm.trans e) (by simp), fun _ _ e => absurd (ht.symm.trans e) (by simp), fun _ _ e => absurd (ht.symm.trans e) (by simp), fun _ _ e => absurd (ht.symm.trans e) (by simp), fun _ _ e => absurd (ht.symm.trans e) (by simp), fun _ _ e => absurd (ht.symm.trans e) (by simp), fun _ _ e => absurd (ht.symm.trans e) (by simp), fun _ _ e => absurd (ht.symm.trans e) (by simp), fun _ e => absurd (ht.symm.trans e) (by simp), fun _ _ _ e => absurd (ht.symm.trans e) (by simp), fun _ _ e => absurd (ht.symm.trans e) (by simp), fun _ _ _ _ _ e => absurd (ht.symm.trans e) (by simp), fun _ _ _ _ _ _ e => absurd (ht.symm.trans e) (by simp), fun _ _ _ _ e => absurd (ht.symm.trans e) (by simp), fun _ _ e => by rw [ht] at e; cases e; exact h, fun _ _ _ _ _ e => absurd (ht.symm.trans e) (by simp), fun _ _ _ _ _ _ _ _ _ _ e => absurd (ht.symm.trans e) (by simp), fun _ _ _ _ _ _ _ _ _ _ _ e => absurd (ht.symm.trans e) (by simp), fun _ _ _ _ _ _ _ _ _ _ _ _ _ _ _ _ _ _ _ _ _ _ _ _ _ _ _ _ _ _ _ _ _ e => absurd (ht.symm.trans e) (by simp), fun _ _ _ _ _ _ _ _ _ e => absurd (ht.symm.trans e) (by simp)⟩
theorem wta_power {ty : TyM} {L : List Nat} {a : Nat} {ρ x y w u : Nat} (ht : ty a = (6, ρ, [x, y, w, u])) (h : wt_power ty L ρ x y w u) : wta ty L a :=
  ⟨fun _ _ _ e => absurd (ht.symm.trans e) (by simp), fun _ _ e => absurd (ht.symm.trans e) (by simp), fun _ _ e => absurd (ht.symm.trans e) (by simp), fun _ _ e => absurd (ht.symm.trans e) (by simp), fun _ _ e => absurd (ht.symm.trans e) (by simp), fun _ _ e => absurd (ht.symm.trans e) (by simp), fun _ _ e => absurd (ht.symm.trans e) (by simp), fun _ _ e => absurd (ht.symm.trans e) (by simp), fun _ _ e => absurd (ht.symm.trans e) (by simp), fun _ e => absurd (ht.symm.trans e) (by simp), fun _ _ _ e => absurd (ht.symm.trans e) (by simp), fun _ _ e => absurd (ht.symm.trans e) (by simp), fun _ _ _ _ _ e => absurd (ht.symm.trans e) (by simp), fun _ _ _ _ _ _ e => absurd (ht.symm.trans e) (by simp), fun _ _ _ _ e => absurd (ht.symm.trans e) (by simp), fun _ _ e => absurd (ht.symm.trans e) (by simp), fun _ _ _ _ _ e => by rw [ht] at e; cases e; exact h, fun _ _ _ _ _ _ _ _ _ _ e => absurd (ht.symm.trans e) (by simp), fun _ _ _ _ _ _ _ _ _ _ _ e => absurd (ht.symm.trans e) (by simp), fun _ _ _ _ _ _ _ _ _ _ _ _ _ _ _ _ _ _ _ _ _ _ _ _ _ _ _ _ _ _ _ _ _ e => absurd (ht.symm.trans e) (by simp), fun _ _ _ _ _ _ _ _ _ e => absurd (ht.symm.trans e) (by simp)⟩
theorem wta_chk {ty : TyM} {L : List Nat} {a : Nat} {ρ d δ ea w0 w1 w2 w3 nm te : Nat} (ht : ty a = (1, ρ, [d, δ, ea, w0, w1, w2, w3, nm, te])) (h : wt_chk ty L ρ d δ ea w0 w1 w2 w3 nm te) : wta ty L a :=
  ⟨fun _ _ _ e => absurd (ht.symm.trans e) (by simp), fun _ _ e => absurd (ht.symm.trans e) (by simp), fun _ _ e => absurd (ht.symm.trans e) (by simp), fun _ _ e => absurd (ht.symm.trans e) (by simp), fun _ _ e => absurd (ht.symm.trans e) (by simp), fun _ _ e => absurd (ht.symm.trans e) (by simp), fun _ _ e => absurd (ht.symm.trans e) (by simp), fun _ _ e => absurd (ht.symm.trans e) (by simp), fun _ _ e => absurd (ht.symm.trans e) (by simp), fun _ e => absurd (ht.symm.trans e) (by simp), fun _ _ _ e => absurd (ht.symm.trans e) (by simp), fun _ _ e => absurd (ht.symm.trans e) (by simp), fun _ _ _ _ _ e => absurd (ht.symm.trans e) (by simp), fun _ _ _ _ _ _ e => absurd (ht.symm.trans e) (by simp), fun _ _ _ _ e => absurd (ht.symm.trans e) (by simp), fun _ _ e => absurd (ht.symm.trans e) (by simp), fun _ _ _ _ _ e => absurd (ht.symm.trans e) (by simp), fun _ _ _ _ _ _ _ _ _ _ e => by rw [ht] at e; cases e; exact h, fun _ _ _ _ _ _ _ _ _ _ _ e => absurd (ht.symm.trans e) (by simp), fun _ _ _ _ _ _ _ _ _ _ _ _ _ _ _ _ _ _ _ _ _ _ _ _ _ _ _ _ _ _ _ _ _ e => absurd (ht.symm.trans e) (by simp), fun _ _ _ _ _ _ _ _ _ e => absurd (ht.symm.trans e) (by simp)⟩
theorem wta_pol {ty : TyM} {L : List Nat} {a : Nat} {ρ d δ ea w0 w1 rc rx ry0 ry1 ry2 : Nat} (ht : ty a = (5, ρ, [d, δ, ea, w0, w1, rc, rx, ry0, ry1, ry2])) (h : wt_pol ty L ρ d δ ea w0 w1 rc rx ry0 ry1 ry2) : wta ty L a :=
  ⟨fun _ _ _ e => absurd (ht.symm.trans e) (by simp), fun _ _ e => absurd (ht.symm.trans e) (by simp), fun _ _ e => absurd (ht.symm.trans e) (by simp), fun _ _ e => absurd (ht.symm.trans e) (by simp), fun _ _ e => absurd (ht.symm.trans e) (by simp), fun _ _ e => absurd (ht.symm.trans e) (by simp), fun _ _ e => absurd (ht.symm.trans e) (by simp), fun _ _ e => absurd (ht.symm.trans e) (by simp), fun _ _ e => absurd (ht.symm.trans e) (by simp), fun _ e => absurd (ht.symm.trans e) (by simp), fun _ _ _ e => absurd (ht.symm.trans e) (by simp), fun _ _ e => absurd (ht.symm.trans e) (by simp), fun _ _ _ _ _ e => absurd (ht.symm.trans e) (by simp), fun _ _ _ _ _ _ e => absurd (ht.symm.trans e) (by simp), fun _ _ _ _ e => absurd (ht.symm.trans e) (by simp), fun _ _ e => absurd (ht.symm.trans e) (by simp), fun _ _ _ _ _ e => absurd (ht.symm.trans e) (by simp), fun _ _ _ _ _ _ _ _ _ _ e => absurd (ht.symm.trans e) (by simp), fun _ _ _ _ _ _ _ _ _ _ _ e => by rw [ht] at e; cases e; exact h, fun _ _ _ _ _ _ _ _ _ _ _ _ _ _ _ _ _ _ _ _ _ _ _ _ _ _ _ _ _ _ _ _ _ e => absurd (ht.symm.trans e) (by simp), fun _ _ _ _ _ _ _ _ _ e => absurd (ht.symm.trans e) (by simp)⟩
theorem wta_slr {ty : TyM} {L : List Nat} {a : Nat} {ρ d δ ea sl sx sy0 sy1 sy2 ke kx ky0 ky1 ky2 w0 w1 w2 w3 w4 w5 w6 w7 w8 tk hs hx hy hw pw px py pz pu : Nat} (ht : ty a = (7, ρ, [d, δ, ea, sl, sx, sy0, sy1, sy2, ke, kx, ky0, ky1, ky2, w0, w1, w2, w3, w4, w5, w6, w7, w8, tk, hs, hx, hy, hw, pw, px, py, pz, pu])) (h : wt_slr ty L ρ d δ ea sl sx sy0 sy1 sy2 ke kx ky0 ky1 ky2 w0 w1 w2 w3 w4 w5 w6 w7 w8 tk hs hx hy hw pw px py pz pu) : wta ty L a :=
  ⟨fun _ _ _ e => absurd (ht.symm.trans e) (by simp), fun _ _ e => absurd (ht.symm.trans e) (by simp), fun _ _ e => absurd (ht.symm.trans e) (by simp), fun _ _ e => absurd (ht.symm.trans e) (by simp), fun _ _ e => absurd (ht.symm.trans e) (by simp), fun _ _ e => absurd (ht.symm.trans e) (by simp), fun _ _ e => absurd (ht.symm.trans e) (by simp), fun _ _ e => absurd (ht.symm.trans e) (by simp), fun _ _ e => absurd (ht.symm.trans e) (by simp), fun _ e => absurd (ht.symm.trans e) (by simp), fun _ _ _ e => absurd (ht.symm.trans e) (by simp), fun _ _ e => absurd (ht.symm.trans e) (by simp), fun _ _ _ _ _ e => absurd (ht.symm.trans e) (by simp), fun _ _ _ _ _ _ e => absurd (ht.symm.trans e) (by simp), fun _ _ _ _ e => absurd (ht.symm.trans e) (by simp), fun _ _ e => absurd (ht.symm.trans e) (by simp), fun _ _ _ _ _ e => absurd (ht.symm.trans e) (by simp), fun _ _ _ _ _ _ _ _ _ _ e => absurd (ht.symm.trans e) (by simp), fun _ _ _ _ _ _ _ _ _ _ _ e => absurd (ht.symm.trans e) (by simp), fun _ _ _ _ _ _ _ _ _ _ _ _ _ _ _ _ _ _ _ _ _ _ _ _ _ _ _ _ _ _ _ _ _ e => by rw [ht] at e; cases e; exact h, fun _ _ _ _ _ _ _ _ _ e => absurd (ht.symm.trans e) (by simp)⟩
theorem wta_gate {ty : TyM} {L : List Nat} {a : Nat} {ρ ta ou di ea ck sl po hs : Nat} (ht : ty a = (11, ρ, [ta, ou, di, ea, ck, sl, po, hs])) (h : wt_gate ty L ρ ta ou di ea ck sl po hs) : wta ty L a :=
  ⟨fun _ _ _ e => absurd (ht.symm.trans e) (by simp), fun _ _ e => absurd (ht.symm.trans e) (by simp), fun _ _ e => absurd (ht.symm.trans e) (by simp), fun _ _ e => absurd (ht.symm.trans e) (by simp), fun _ _ e => absurd (ht.symm.trans e) (by simp), fun _ _ e => absurd (ht.symm.trans e) (by simp), fun _ _ e => absurd (ht.symm.trans e) (by simp), fun _ _ e => absurd (ht.symm.trans e) (by simp), fun _ _ e => absurd (ht.symm.trans e) (by simp), fun _ e => absurd (ht.symm.trans e) (by simp), fun _ _ _ e => absurd (ht.symm.trans e) (by simp), fun _ _ e => absurd (ht.symm.trans e) (by simp), fun _ _ _ _ _ e => absurd (ht.symm.trans e) (by simp), fun _ _ _ _ _ _ e => absurd (ht.symm.trans e) (by simp), fun _ _ _ _ e => absurd (ht.symm.trans e) (by simp), fun _ _ e => absurd (ht.symm.trans e) (by simp), fun _ _ _ _ _ e => absurd (ht.symm.trans e) (by simp), fun _ _ _ _ _ _ _ _ _ _ e => absurd (ht.symm.trans e) (by simp), fun _ _ _ _ _ _ _ _ _ _ _ e => absurd (ht.symm.trans e) (by simp), fun _ _ _ _ _ _ _ _ _ _ _ _ _ _ _ _ _ _ _ _ _ _ _ _ _ _ _ _ _ _ _ _ _ e => absurd (ht.symm.trans e) (by simp), fun _ _ _ _ _ _ _ _ _ e => by rw [ht] at e; cases e; exact h⟩
theorem sh_mono {cs : Nat → ClassId} {ty ty2 : TyM} {L L2 : List Nat} {a : Nat} {x : va_E} (ha : ty2 a = ty a) (hb : ∀ b ∈ L, (ty b).1 ≠ 99 → b ∈ L2 ∧ ty2 b = ty b) (h : sh cs ty L a x) : sh cs ty2 L2 a x :=
  ⟨fun _ _ _ e => (h.1) _ _ _ (ha.symm.trans e),
   fun _ _ e => (h.2.1) _ _ (ha.symm.trans e),
   fun _ _ e => (h.2.2.1) _ _ (ha.symm.trans e),
   fun _ _ e => (h.2.2.2.1) _ _ (ha.symm.trans e),
   fun _ _ e => (h.2.2.2.2.1) _ _ (ha.symm.trans e),
   fun _ _ e => (h.2.2.2.2.2.1) _ _ (ha.symm.trans e),
   fun _ _ e => by
      obtain ⟨f, h1, h2⟩ := (h.2.2.2.2.2.2.1) _ _ (ha.symm.trans e)
      exact ⟨f, h1, fun j hj => by obtain ⟨b, r, x1, x2, x3⟩ := h2 j hj; exact ⟨b, r, x1, (hb _ x2 (nraw x3 (by decide))).1, (hb _ x2 (nraw x3 (by decide))).2.trans x3⟩⟩,
   fun _ _ e => by
      obtain ⟨f, h1, h2⟩ := (h.2.2.2.2.2.2.2.1) _ _ (ha.symm.trans e)
      exact ⟨f, h1, fun j hj => by obtain ⟨b, x, y, x1, x2, x3⟩ := h2 j hj; exact ⟨b, x, y, x1, (hb _ x2 (nraw x3 (by decide))).1, (hb _ x2 (nraw x3 (by decide))).2.trans x3⟩⟩,
   fun _ _ e => by
      obtain ⟨f, h1, h2⟩ := (h.2.2.2.2.2.2.2.2.1) _ _ (ha.symm.trans e)
      exact ⟨f, h1, fun j hj => by obtain ⟨b, x1, x2, x3⟩ := h2 j hj; exact ⟨b, x1, (hb _ x2 (nraw x3 (by decide))).1, (hb _ x2 (nraw x3 (by decide))).2.trans x3⟩⟩,
   fun _ e => (h.2.2.2.2.2.2.2.2.2.1) _ (ha.symm.trans e),
   fun _ _ _ e => (h.2.2.2.2.2.2.2.2.2.2.1) _ _ _ (ha.symm.trans e),
   fun _ _ e => (h.2.2.2.2.2.2.2.2.2.2.2.1) _ _ (ha.symm.trans e),
   fun _ _ _ _ _ e => (h.2.2.2.2.2.2.2.2.2.2.2.2.1) _ _ _ _ _ (ha.symm.trans e),
   fun _ _ _ _ _ _ e => (h.2.2.2.2.2.2.2.2.2.2.2.2.2.1) _ _ _ _ _ _ (ha.symm.trans e),
   fun _ _ _ _ e => (h.2.2.2.2.2.2.2.2.2.2.2.2.2.2.1) _ _ _ _ (ha.symm.trans e),
   fun _ _ e => (h.2.2.2.2.2.2.2.2.2.2.2.2.2.2.2.1) _ _ (ha.symm.trans e),
   fun _ _ _ _ _ e => (h.2.2.2.2.2.2.2.2.2.2.2.2.2.2.2.2.1) _ _ _ _ _ (ha.symm.trans e),
   fun _ _ _ _ _ _ _ _ _ _ e => (h.2.2.2.2.2.2.2.2.2.2.2.2.2.2.2.2.2.1) _ _ _ _ _ _ _ _ _ _ (ha.symm.trans e),
   fun _ _ _ _ _ _ _ _ _ _ _ e => (h.2.2.2.2.2.2.2.2.2.2.2.2.2.2.2.2.2.2.1) _ _ _ _ _ _ _ _ _ _ _ (ha.symm.trans e),
   fun _ _ _ _ _ _ _ _ _ _ _ _ _ _ _ _ _ _ _ _ _ _ _ _ _ _ _ _ _ _ _ _ _ e => (h.2.2.2.2.2.2.2.2.2.2.2.2.2.2.2.2.2.2.2.1) _ _ _ _ _ _ _ _ _ _ _ _ _ _ _ _ _ _ _ _ _ _ _ _ _ _ _ _ _ _ _ _ _ (ha.symm.trans e),
   fun _ _ _ _ _ _ _ _ _ e => by
      obtain ⟨le, sp, mu, nu, h1, h2, ⟨x, y0, y1, y2, h3⟩, h4, ⟨z, w0, w1, w2, h5⟩, h6⟩ := (h.2.2.2.2.2.2.2.2.2.2.2.2.2.2.2.2.2.2.2.2) _ _ _ _ _ _ _ _ _ (ha.symm.trans e)
      exact ⟨le, sp, mu, nu, h1, (hb _ h2 (nraw h3 (by decide))).1, ⟨x, y0, y1, y2, (hb _ h2 (nraw h3 (by decide))).2.trans h3⟩, (hb _ h4 (nraw h5 (by decide))).1, ⟨z, w0, w1, w2, (hb _ h4 (nraw h5 (by decide))).2.trans h5⟩, h6⟩⟩
theorem WT.into {ty : TyM} {L : List Nat} {q : Nat} {e : TyE} (hW : WT ty L) (hr : (ty q).1 = 99) (hn : wta (rtf ty q e) L q) : WT (rtf ty q e) L := by
  intro a ha
  by_cases c : a = q
  · rw [c]
    exact hn
  · exact wta_mono (rtf_ne c) (fun b hb h => ⟨hb, rtf_ne (ne_raw h hr)⟩) (hW a ha)
theorem OK.into {cs : Nat → ClassId} {ty : TyM} {L : List Nat} {F : Nat → va_E} {q : Nat} {e : TyE} (hO : OK cs ty L F) (hr : (ty q).1 = 99) (hn : sh cs (rtf ty q e) L q (F q)) : OK cs (rtf ty q e) L F := by
  intro a ha
  by_cases c : a = q
  · rw [c]
    exact hn
  · exact sh_mono (rtf_ne c) (fun b hb h => ⟨hb, rtf_ne (ne_raw h hr)⟩) (hO a ha)
theorem WT.grow {ty : TyM} {L : List Nat} {q : Nat} {e : TyE} (hW : WT ty L) (hq : q ∉ L) (hn : wta (rtf ty q e) (L ++ [q]) q) : WT (rtf ty q e) (L ++ [q]) := by
  intro a ha
  rcases List.mem_append.mp ha with h | h
  · exact wta_mono (rtf_ne (ne_in hq h)) (fun b hb _ => ⟨List.mem_append_left _ hb, rtf_ne (ne_in hq hb)⟩) (hW a h)
  · rw [List.mem_singleton.mp h]
    exact hn
theorem WT.union {ty ty1 ty2 : TyM} {L1 L2 : List Nat} (h1 : WT ty1 L1) (h2 : WT ty2 L2) (e1 : ∀ a ∈ L1, ty a = ty1 a) (e2 : ∀ a ∈ L2, ty a = ty2 a) : WT ty (L1 ++ L2) := by
  intro a ha
  rcases List.mem_append.mp ha with h | h
  · exact wta_mono (e1 a h) (fun b hb _ => ⟨List.mem_append_left _ hb, e1 b hb⟩) (h1 a h)
  · exact wta_mono (e2 a h) (fun b hb _ => ⟨List.mem_append_right _ hb, e2 b hb⟩) (h2 a h)
theorem OK.union {cs : Nat → ClassId} {ty ty1 ty2 : TyM} {L1 L2 : List Nat} {F F1 F2 : Nat → va_E} (h1 : OK cs ty1 L1 F1) (h2 : OK cs ty2 L2 F2) (e1 : ∀ a ∈ L1, ty a = ty1 a) (e2 : ∀ a ∈ L2, ty a = ty2 a) (f1 : ∀ a ∈ L1, F a = F1 a) (f2 : ∀ a ∈ L2, F a = F2 a) : OK cs ty (L1 ++ L2) F := by
  intro a ha
  rcases List.mem_append.mp ha with h | h
  · rw [f1 a h]
    exact sh_mono (e1 a h) (fun b hb _ => ⟨List.mem_append_left _ hb, e1 b hb⟩) (h1 a h)
  · rw [f2 a h]
    exact sh_mono (e2 a h) (fun b hb _ => ⟨List.mem_append_right _ hb, e2 b hb⟩) (h2 a h)
def wtam (ty : TyM) (gm : Nat → Nat → Nat) (L : List Nat) (a : Nat) : Prop :=
  (∀ (ρ r n : Nat), ty a = (14, ρ, [r, n]) → wtm_txt ty gm L ρ r n) ∧
  (∀ (ρ n : Nat), ty a = (17, ρ, [n]) → wtm_octs ty gm L ρ n) ∧
  (∀ (ρ n : Nat), ty a = (16, ρ, [n]) → wtm_ints ty gm L ρ n) ∧
  (∀ (ρ n : Nat), ty a = (18, ρ, [n]) → wtm_bits ty gm L ρ n) ∧
  (∀ (ρ n B : Nat), ty a = (25, ρ, [n, B]) → wtm_idb ty gm L ρ n B) ∧
  (∀ (ρ k : Nat), ty a = (26, ρ, [k]) → wtm_pos ty gm L ρ k) ∧
  (∀ (ρ n rm : Nat), ty a = (23, ρ, [n, rm]) → wtm_rtxt ty gm L ρ n rm) ∧
  (∀ (ρ n rm : Nat), ty a = (27, ρ, [n, rm]) → wtm_rtxj ty gm L ρ n rm) ∧
  (∀ (ρ x y w u bl : Nat), ty a = (12, ρ, [x, y, w, u, bl]) → wtm_hash ty gm L ρ x y w u bl) ∧
  (∀ (ρ n : Nat), ty a = (28, ρ, [n]) → wtm_kst ty gm L ρ n) ∧
  (∀ (ρ x n B y0 y1 y2 : Nat), ty a = (13, ρ, [x, n, B, y0, y1, y2]) → wtm_tags ty gm L ρ x n B y0 y1 y2) ∧
  (∀ (ρ ta ou so ad na va lc dm tg pe ml bg co sp nb0 nb1 nb2 pl se ke wi hs mo po nu pr sq xa sa n64 m64 ex wh sd tk hd ak ho ot sx s0 s1 s2 nf bd mm zo fm sn hg gc gv ze zt : Nat), ty a = (15, ρ, [ta, ou, so, ad, na, va, lc, dm, tg, pe, ml, bg, co, sp, nb0, nb1, nb2, pl, se, ke, wi, hs, mo, po, nu, pr, sq, xa, sa, n64, m64, ex, wh, sd, tk, hd, ak, ho, ot, sx, s0, s1, s2, nf, bd, mm, zo, fm, sn, hg, gc, gv, ze, zt]) → wtm_mod ty gm L ρ ta ou so ad na va lc dm tg pe ml bg co sp nb0 nb1 nb2 pl se ke wi hs mo po nu pr sq xa sa n64 m64 ex wh sd tk hd ak ho ot sx s0 s1 s2 nf bd mm zo fm sn hg gc gv ze zt)
theorem wtm_txt_mono {ty ty2 : TyM} {gm : Nat → Nat → Nat} {L L2 : List Nat} {ρ r n : Nat} (hb : ∀ b ∈ L, (ty b).1 ≠ 99 → b ∈ L2 ∧ ty2 b = ty b) (h : wtm_txt ty gm L ρ r n) : wtm_txt ty2 gm L2 ρ r n := by
  obtain ⟨p0, p1, p2⟩ := h
  exact ⟨(hb _ p0 (nraw p1 (by decide))).1, ((hb _ p0 (nraw p1 (by decide))).2.trans p1), p2⟩
theorem wtm_octs_mono {ty ty2 : TyM} {gm : Nat → Nat → Nat} {L L2 : List Nat} {ρ n : Nat} (hb : ∀ b ∈ L, (ty b).1 ≠ 99 → b ∈ L2 ∧ ty2 b = ty b) (h : wtm_octs ty gm L ρ n) : wtm_octs ty2 gm L2 ρ n := by
  obtain ⟨p0, p1⟩ := h
  exact ⟨p0, p1⟩
theorem wtm_ints_mono {ty ty2 : TyM} {gm : Nat → Nat → Nat} {L L2 : List Nat} {ρ n : Nat} (hb : ∀ b ∈ L, (ty b).1 ≠ 99 → b ∈ L2 ∧ ty2 b = ty b) (h : wtm_ints ty gm L ρ n) : wtm_ints ty2 gm L2 ρ n := by
  obtain ⟨p0, p1⟩ := h
  exact ⟨p0, p1⟩
theorem wtm_hash_mono {ty ty2 : TyM} {gm : Nat → Nat → Nat} {L L2 : List Nat} {ρ x y w u bl : Nat} (hb : ∀ b ∈ L, (ty b).1 ≠ 99 → b ∈ L2 ∧ ty2 b = ty b) (h : wtm_hash ty gm L ρ x y w u bl) : wtm_hash ty2 gm L2 ρ x y w u bl := by
  obtain ⟨p0, p1, p2, p3, p4, p5, p6, p7, p8, p9⟩ := h
  exact ⟨(hb _ p0 (nraw p5 (by decide))).1, (hb _ p1 (nraw p6 (by decide))).1, (hb _ p2 (nraw p7 (by decide))).1, (hb _ p3 (nraw p8 (by decide))).1, (hb _ p4 (nraw p9 (by decide))).1, ((hb _ p0 (nraw p5 (by decide))).2.trans p5), ((hb _ p1 (nraw p6 (by decide))).2.trans p6), ((hb _ p2 (nraw p7 (by decide))).2.trans p7), ((hb _ p3 (nraw p8 (by decide))).2.trans p8), ((hb _ p4 (nraw p9 (by decide))).2.trans p9)⟩
theorem wtm_tags_mono {ty ty2 : TyM} {gm : Nat → Nat → Nat} {L L2 : List Nat} {ρ x n B y0 y1 y2 : Nat} (hb : ∀ b ∈ L, (ty b).1 ≠ 99 → b ∈ L2 ∧ ty2 b = ty b) (h : wtm_tags ty gm L ρ x n B y0 y1 y2) : wtm_tags ty2 gm L2 ρ x n B y0 y1 y2 := by
  obtain ⟨p0, p1, p2, p3, ⟨r_4, p4⟩, p5, p6, p7, p8, p9⟩ := h
  exact ⟨(hb _ p0 (nraw p4 (by decide))).1, (hb _ p1 (nraw p5 (by decide))).1, (hb _ p2 (nraw p6 (by decide))).1, (hb _ p3 (nraw p7 (by decide))).1, ⟨r_4, (hb _ p0 (nraw p4 (by decide))).2.trans p4⟩, ((hb _ p1 (nraw p5 (by decide))).2.trans p5), ((hb _ p2 (nraw p6 (by decide))).2.trans p6), ((hb _ p3 (nraw p7 (by decide))).2.trans p7), p8, p9⟩
theorem wtm_mod_mono {ty ty2 : TyM} {gm : Nat → Nat → Nat} {L L2 : List Nat} {ρ ta ou so ad na va lc dm tg pe ml bg co sp nb0 nb1 nb2 pl se ke wi hs mo po nu pr sq xa sa n64 m64 ex wh sd tk hd ak ho ot sx s0 s1 s2 nf bd mm zo fm sn hg gc gv ze zt : Nat} (hb : ∀ b ∈ L, (ty b).1 ≠ 99 → b ∈ L2 ∧ ty2 b = ty b) (h : wtm_mod ty gm L ρ ta ou so ad na va lc dm tg pe ml bg co sp nb0 nb1 nb2 pl se ke wi hs mo po nu pr sq xa sa n64 m64 ex wh sd tk hd ak ho ot sx s0 s1 s2 nf bd mm zo fm sn hg gc gv ze zt) : wtm_mod ty2 gm L2 ρ ta ou so ad na va lc dm tg pe ml bg co sp nb0 nb1 nb2 pl se ke wi hs mo po nu pr sq xa sa n64 m64 ex wh sd tk hd ak ho ot sx s0 s1 s2 nf bd mm zo fm sn hg gc gv ze zt := by
  obtain ⟨p0, p1, p2, p3, p4, p5, p6, p7, p8, p9, p10, p11, p12, ⟨r_13, p13⟩, p14, ⟨r_15, p15⟩, p16, p17, p18, ⟨r_19, p19⟩, p20, p21, p22, p23, p24, p25, p26, p27, p28, p29, p30, p31, p32, p33, p34, ⟨r_35, p35⟩, p36, p37, p38, ⟨x_39, y0_39, y1_39, y2_39, p39⟩, p40, ⟨x_41, y0_41, y1_41, y2_41, p41⟩, p42, ⟨x_43, y_43, w_43, u_43, bl_43, p43⟩, p44, p45, p46, p47, p48, p49, p50, p51, p52, p53, p54, p55, p56, p57, p58, p59, p60, p61, p62, p63, p64, ⟨r_65, p65⟩, p66, ⟨r_67, p67⟩, p68, p69, p70, p71, p72, ⟨r_73, p73⟩, p74, ⟨r_75, p75⟩, p76, ⟨r_77, p77⟩, p78, p79, p80, p81, p82, p83, p84, p85, p86⟩ := h
  exact ⟨(hb _ p0 (nraw p1 (by decide))).1, ((hb _ p0 (nraw p1 (by decide))).2.trans p1), (hb _ p2 (nraw p3 (by decide))).1, ((hb _ p2 (nraw p3 (by decide))).2.trans p3), (hb _ p4 (nraw p5 (by decide))).1, ((hb _ p4 (nraw p5 (by decide))).2.trans p5), (hb _ p6 (nraw p7 (by decide))).1, ((hb _ p6 (nraw p7 (by decide))).2.trans p7), (hb _ p8 (nraw p9 (by decide))).1, ((hb _ p8 (nraw p9 (by decide))).2.trans p9), (hb _ p10 (nraw p11 (by decide))).1, ((hb _ p10 (nraw p11 (by decide))).2.trans p11), (hb _ p12 (nraw p13 (by decide))).1, ⟨r_13, (hb _ p12 (nraw p13 (by decide))).2.trans p13⟩, (hb _ p14 (nraw p15 (by decide))).1, ⟨r_15, (hb _ p14 (nraw p15 (by decide))).2.trans p15⟩, (hb _ p16 (nraw p17 (by decide))).1, ((hb _ p16 (nraw p17 (by decide))).2.trans p17), (hb _ p18 (nraw p19 (by decide))).1, ⟨r_19, (hb _ p18 (nraw p19 (by decide))).2.trans p19⟩, (hb _ p20 (nraw p21 (by decide))).1, ((hb _ p20 (nraw p21 (by decide))).2.trans p21), (hb _ p22 (nraw p23 (by decide))).1, ((hb _ p22 (nraw p23 (by decide))).2.trans p23), (hb _ p24 (nraw p25 (by decide))).1, ((hb _ p24 (nraw p25 (by decide))).2.trans p25), (hb _ p26 (nraw p27 (by decide))).1, ((hb _ p26 (nraw p27 (by decide))).2.trans p27), (hb _ p28 (nraw p29 (by decide))).1, ((hb _ p28 (nraw p29 (by decide))).2.trans p29), (hb _ p30 (nraw p31 (by decide))).1, ((hb _ p30 (nraw p31 (by decide))).2.trans p31), (hb _ p32 (nraw p33 (by decide))).1, ((hb _ p32 (nraw p33 (by decide))).2.trans p33), (hb _ p34 (nraw p35 (by decide))).1, ⟨r_35, (hb _ p34 (nraw p35 (by decide))).2.trans p35⟩, (hb _ p36 (nraw p37 (by decide))).1, ((hb _ p36 (nraw p37 (by decide))).2.trans p37), (hb _ p38 (nraw p39 (by decide))).1, ⟨x_39, y0_39, y1_39, y2_39, (hb _ p38 (nraw p39 (by decide))).2.trans p39⟩, (hb _ p40 (nraw p41 (by decide))).1, ⟨x_41, y0_41, y1_41, y2_41, (hb _ p40 (nraw p41 (by decide))).2.trans p41⟩, (hb _ p42 (nraw p43 (by decide))).1, ⟨x_43, y_43, w_43, u_43, bl_43, (hb _ p42 (nraw p43 (by decide))).2.trans p43⟩, (hb _ p44 (nraw p45 (by decide))).1, ((hb _ p44 (nraw p45 (by decide))).2.trans p45), (hb _ p46 (nraw p47 (by decide))).1, ((hb _ p46 (nraw p47 (by decide))).2.trans p47), (hb _ p48 (nraw p49 (by decide))).1, ((hb _ p48 (nraw p49 (by decide))).2.trans p49), (hb _ p50 (nraw p51 (by decide))).1, ((hb _ p50 (nraw p51 (by decide))).2.trans p51), (hb _ p52 (nraw p53 (by decide))).1, ((hb _ p52 (nraw p53 (by decide))).2.trans p53), (hb _ p54 (nraw p55 (by decide))).1, ((hb _ p54 (nraw p55 (by decide))).2.trans p55), (hb _ p56 (nraw p57 (by decide))).1, ((hb _ p56 (nraw p57 (by decide))).2.trans p57), (hb _ p58 (nraw p59 (by decide))).1, ((hb _ p58 (nraw p59 (by decide))).2.trans p59), (hb _ p60 (nraw p61 (by decide))).1, ((hb _ p60 (nraw p61 (by decide))).2.trans p61), (hb _ p62 (nraw p63 (by decide))).1, ((hb _ p62 (nraw p63 (by decide))).2.trans p63), (hb _ p64 (nraw p65 (by decide))).1, ⟨r_65, (hb _ p64 (nraw p65 (by decide))).2.trans p65⟩, (hb _ p66 (nraw p67 (by decide))).1, ⟨r_67, (hb _ p66 (nraw p67 (by decide))).2.trans p67⟩, (hb _ p68 (nraw p69 (by decide))).1, ((hb _ p68 (nraw p69 (by decide))).2.trans p69), (hb _ p70 (nraw p71 (by decide))).1, ((hb _ p70 (nraw p71 (by decide))).2.trans p71), (hb _ p72 (nraw p73 (by decide))).1, ⟨r_73, (hb _ p72 (nraw p73 (by decide))).2.trans p73⟩, (hb _ p74 (nraw p75 (by decide))).1, ⟨r_75, (hb _ p74 (nraw p75 (by decide))).2.trans p75⟩, (hb _ p76 (nraw p77 (by decide))).1, ⟨r_77, (hb _ p76 (nraw p77 (by decide))).2.trans p77⟩, p78, p79, p80, p81, p82, p83, p84, p85, p86⟩
theorem wtam_mono {ty ty2 : TyM} {gm : Nat → Nat → Nat} {L L2 : List Nat} {a : Nat} (ha : ty2 a = ty a) (hb : ∀ b ∈ L, (ty b).1 ≠ 99 → b ∈ L2 ∧ ty2 b = ty b) (h : wtam ty gm L a) : wtam ty2 gm L2 a :=
  ⟨fun _ _ _ e => wtm_txt_mono hb ((h.1) _ _ _ (ha.symm.trans e)),
   fun _ _ e => wtm_octs_mono hb ((h.2.1) _ _ (ha.symm.trans e)),
   fun _ _ e => wtm_ints_mono hb ((h.2.2.1) _ _ (ha.symm.trans e)),
   fun _ _ _ => trivial,
   fun _ _ _ _ => trivial,
   fun _ _ _ => trivial,
   fun _ _ _ _ => trivial,
   fun _ _ _ _ => trivial,
   fun _ _ _ _ _ _ e => wtm_hash_mono hb ((h.2.2.2.2.2.2.2.2.1) _ _ _ _ _ _ (ha.symm.trans e)),
   fun _ _ _ => trivial,
   fun _ _ _ _ _ _ _ e => wtm_tags_mono hb ((h.2.2.2.2.2.2.2.2.2.2.1) _ _ _ _ _ _ _ (ha.symm.trans e)),
   fun _ _ _ _ _ _ _ _ _ _ _ _ _ _ _ _ _ _ _ _ _ _ _ _ _ _ _ _ _ _ _ _ _ _ _ _ _ _ _ _ _ _ _ _ _ _ _ _ _ _ _ _ _ _ _ e => wtm_mod_mono hb ((h.2.2.2.2.2.2.2.2.2.2.2) _ _ _ _ _ _ _ _ _ _ _ _ _ _ _ _ _ _ _ _ _ _ _ _ _ _ _ _ _ _ _ _ _ _ _ _ _ _ _ _ _ _ _ _ _ _ _ _ _ _ _ _ _ _ _ (ha.symm.trans e))⟩
theorem wtam_raw {ty : TyM} {gm : Nat → Nat → Nat} {L : List Nat} {a ρ : Nat} {im : List Nat} (ht : ty a = (99, ρ, im)) : wtam ty gm L a :=
  ⟨fun _ _ _ e => absurd (ht.symm.trans e) (by simp), fun _ _ e => absurd (ht.symm.trans e) (by simp), fun _ _ e => absurd (ht.symm.trans e) (by simp), fun _ _ e => absurd (ht.symm.trans e) (by simp), fun _ _ _ e => absurd (ht.symm.trans e) (by simp), fun _ _ e => absurd (ht.symm.trans e) (by simp), fun _ _ _ e => absurd (ht.symm.trans e) (by simp), fun _ _ _ e => absurd (ht.symm.trans e) (by simp), fun _ _ _ _ _ _ e => absurd (ht.symm.trans e) (by simp), fun _ _ e => absurd (ht.symm.trans e) (by simp), fun _ _ _ _ _ _ _ e => absurd (ht.symm.trans e) (by simp), fun _ _ _ _ _ _ _ _ _ _ _ _ _ _ _ _ _ _ _ _ _ _ _ _ _ _ _ _ _ _ _ _ _ _ _ _ _ _ _ _ _ _ _ _ _ _ _ _ _ _ _ _ _ _ _ e => absurd (ht.symm.trans e) (by simp)⟩
theorem wtam_txt {ty : TyM} {gm : Nat → Nat → Nat} {L : List Nat} {a : Nat} {ρ r n : Nat} (ht : ty a = (14, ρ, [r, n])) (h : wtm_txt ty gm L ρ r n) : wtam ty gm L a :=
  ⟨fun _ _ _ e => by rw [ht] at e; cases e; exact h, fun _ _ e => absurd (ht.symm.trans e) (by simp), fun _ _ e => absurd (ht.symm.trans e) (by simp), fun _ _ e => absurd (ht.symm.trans e) (by simp), fun _ _ _ e => absurd (ht.symm.trans e) (by simp), fun _ _ e => absurd (ht.symm.trans e) (by simp), fun _ _ _ e => absurd (ht.symm.trans e) (by simp), fun _ _ _ e => absurd (ht.symm.trans e) (by simp), fun _ _ _ _ _ _ e => absurd (ht.symm.trans e) (by simp), fun _ _ e => absurd (ht.symm.trans e) (by simp), fun _ _ _ _ _ _ _ e => absurd (ht.symm.trans e) (by simp), fun _ _ _ _ _ _ _ _ _ _ _ _ _ _ _ _ _ _ _ _ _ _ _ _ _ _ _ _ _ _ _ _ _ _ _ _ _ _ _ _ _ _ _ _ _ _ _ _ _ _ _ _ _ _ _ e => absurd (ht.symm.trans e) (by simp)⟩
theorem wtam_octs {ty : TyM} {gm : Nat → Nat → Nat} {L : List Nat} {a : Nat} {ρ n : Nat} (ht : ty a = (17, ρ, [n])) (h : wtm_octs ty gm L ρ n) : wtam ty gm L a :=
  ⟨fun _ _ _ e => absurd (ht.symm.trans e) (by simp), fun _ _ e => by rw [ht] at e; cases e; exact h, fun _ _ e => absurd (ht.symm.trans e) (by simp), fun _ _ e => absurd (ht.symm.trans e) (by simp), fun _ _ _ e => absurd (ht.symm.trans e) (by simp), fun _ _ e => absurd (ht.symm.trans e) (by simp), fun _ _ _ e => absurd (ht.symm.trans e) (by simp), fun _ _ _ e => absurd (ht.symm.trans e) (by simp), fun _ _ _ _ _ _ e => absurd (ht.symm.trans e) (by simp), fun _ _ e => absurd (ht.symm.trans e) (by simp), fun _ _ _ _ _ _ _ e => absurd (ht.symm.trans e) (by simp), fun _ _ _ _ _ _ _ _ _ _ _ _ _ _ _ _ _ _ _ _ _ _ _ _ _ _ _ _ _ _ _ _ _ _ _ _ _ _ _ _ _ _ _ _ _ _ _ _ _ _ _ _ _ _ _ e => absurd (ht.symm.trans e) (by simp)⟩
theorem wtam_ints {ty : TyM} {gm : Nat → Nat → Nat} {L : List Nat} {a : Nat} {ρ n : Nat} (ht : ty a = (16, ρ, [n])) (h : wtm_ints ty gm L ρ n) : wtam ty gm L a :=
  ⟨fun _ _ _ e => absurd (ht.symm.trans e) (by simp), fun _ _ e => absurd (ht.symm.trans e) (by simp), fun _ _ e => by rw [ht] at e; cases e; exact h, fun _ _ e => absurd (ht.symm.trans e) (by simp), fun _ _ _ e => absurd (ht.symm.trans e) (by simp), fun _ _ e => absurd (ht.symm.trans e) (by simp), fun _ _ _ e => absurd (ht.symm.trans e) (by simp), fun _ _ _ e => absurd (ht.symm.trans e) (by simp), fun _ _ _ _ _ _ e => absurd (ht.symm.trans e) (by simp), fun _ _ e => absurd (ht.symm.trans e) (by simp), fun _ _ _ _ _ _ _ e => absurd (ht.symm.trans e) (by simp), fun _ _ _ _ _ _ _ _ _ _ _ _ _ _ _ _ _ _ _ _ _ _ _ _ _ _ _ _ _ _ _ _ _ _ _ _ _ _ _ _ _ _ _ _ _ _ _ _ _ _ _ _ _ _ _ e => absurd (ht.symm.trans e) (by simp)⟩
theorem wtam_bits {ty : TyM} {gm : Nat → Nat → Nat} {L : List Nat} {a : Nat} {ρ n : Nat} (ht : ty a = (18, ρ, [n])) (h : wtm_bits ty gm L ρ n) : wtam ty gm L a :=
  ⟨fun _ _ _ e => absurd (ht.symm.trans e) (by simp), fun _ _ e => absurd (ht.symm.trans e) (by simp), fun _ _ e => absurd (ht.symm.trans e) (by simp), fun _ _ e => by rw [ht] at e; cases e; exact h, fun _ _ _ e => absurd (ht.symm.trans e) (by simp), fun _ _ e => absurd (ht.symm.trans e) (by simp), fun _ _ _ e => absurd (ht.symm.trans e) (by simp), fun _ _ _ e => absurd (ht.symm.trans e) (by simp), fun _ _ _ _ _ _ e => absurd (ht.symm.trans e) (by simp), fun _ _ e => absurd (ht.symm.trans e) (by simp), fun _ _ _ _ _ _ _ e => absurd (ht.symm.trans e) (by simp), fun _ _ _ _ _ _ _ _ _ _ _ _ _ _ _ _ _ _ _ _ _ _ _ _ _ _ _ _ _ _ _ _ _ _ _ _ _ _ _ _ _ _ _ _ _ _ _ _ _ _ _ _ _ _ _ e => absurd (ht.symm.trans e) (by simp)⟩
theorem wtam_idb {ty : TyM} {gm : Nat → Nat → Nat} {L : List Nat} {a : Nat} {ρ n B : Nat} (ht : ty a = (25, ρ, [n, B])) (h : wtm_idb ty gm L ρ n B) : wtam ty gm L a :=
  ⟨fun _ _ _ e => absurd (ht.symm.trans e) (by simp), fun _ _ e => absurd (ht.symm.trans e) (by simp), fun _ _ e => absurd (ht.symm.trans e) (by simp), fun _ _ e => absurd (ht.symm.trans e) (by simp), fun _ _ _ e => by rw [ht] at e; cases e; exact h, fun _ _ e => absurd (ht.symm.trans e) (by simp), fun _ _ _ e => absurd (ht.symm.trans e) (by simp), fun _ _ _ e => absurd (ht.symm.trans e) (by simp), fun _ _ _ _ _ _ e => absurd (ht.symm.trans e) (by simp), fun _ _ e => absurd (ht.symm.trans e) (by simp), fun _ _ _ _ _ _ _ e => absurd (ht.symm.trans e) (by simp), fun _ _ _ _ _ _ _ _ _ _ _ _ _ _ _ _ _ _ _ _ _ _ _ _ _ _ _ _ _ _ _ _ _ _ _ _ _ _ _ _ _ _ _ _ _ _ _ _ _ _ _ _ _ _ _ e => absurd (ht.symm.trans e) (by simp)⟩
theorem wtam_pos {ty : TyM} {gm : Nat → Nat → Nat} {L : List Nat} {a : Nat} {ρ k : Nat} (ht : ty a = (26, ρ, [k])) (h : wtm_pos ty gm L ρ k) : wtam ty gm L a :=
  ⟨fun _ _ _ e => absurd (ht.symm.trans e) (by simp), fun _ _ e => absurd (ht.symm.trans e) (by simp), fun _ _ e => absurd (ht.symm.trans e) (by simp), fun _ _ e => absurd (ht.symm.trans e) (by simp), fun _ _ _ e => absurd (ht.symm.trans e) (by simp), fun _ _ e => by rw [ht] at e; cases e; exact h, fun _ _ _ e => absurd (ht.symm.trans e) (by simp), fun _ _ _ e => absurd (ht.symm.trans e) (by simp), fun _ _ _ _ _ _ e => absurd (ht.symm.trans e) (by simp), fun _ _ e => absurd (ht.symm.trans e) (by simp), fun _ _ _ _ _ _ _ e => absurd (ht.symm.trans e) (by simp), fun _ _ _ _ _ _ _ _ _ _ _ _ _ _ _ _ _ _ _ _ _ _ _ _ _ _ _ _ _ _ _ _ _ _ _ _ _ _ _ _ _ _ _ _ _ _ _ _ _ _ _ _ _ _ _ e => absurd (ht.symm.trans e) (by simp)⟩
theorem wtam_rtxt {ty : TyM} {gm : Nat → Nat → Nat} {L : List Nat} {a : Nat} {ρ n rm : Nat} (ht : ty a = (23, ρ, [n, rm])) (h : wtm_rtxt ty gm L ρ n rm) : wtam ty gm L a :=
  ⟨fun _ _ _ e => absurd (ht.symm.trans e) (by simp), fun _ _ e => absurd (ht.symm.trans e) (by simp), fun _ _ e => absurd (ht.symm.trans e) (by simp), fun _ _ e => absurd (ht.symm.trans e) (by simp), fun _ _ _ e => absurd (ht.symm.trans e) (by simp), fun _ _ e => absurd (ht.symm.trans e) (by simp), fun _ _ _ e => by rw [ht] at e; cases e; exact h, fun _ _ _ e => absurd (ht.symm.trans e) (by simp), fun _ _ _ _ _ _ e => absurd (ht.symm.trans e) (by simp), fun _ _ e => absurd (ht.symm.trans e) (by simp), fun _ _ _ _ _ _ _ e => absurd (ht.symm.trans e) (by simp), fun _ _ _ _ _ _ _ _ _ _ _ _ _ _ _ _ _ _ _ _ _ _ _ _ _ _ _ _ _ _ _ _ _ _ _ _ _ _ _ _ _ _ _ _ _ _ _ _ _ _ _ _ _ _ _ e => absurd (ht.symm.trans e) (by simp)⟩
theorem wtam_rtxj {ty : TyM} {gm : Nat → Nat → Nat} {L : List Nat} {a : Nat} {ρ n rm : Nat} (ht : ty a = (27, ρ, [n, rm])) (h : wtm_rtxj ty gm L ρ n rm) : wtam ty gm L a :=
  ⟨fun _ _ _ e => absurd (ht.symm.trans e) (by simp), fun _ _ e => absurd (ht.symm.trans e) (by simp), fun _ _ e => absurd (ht.symm.trans e) (by simp), fun _ _ e => absurd (ht.symm.trans e) (by simp), fun _ _ _ e => absurd (ht.symm.trans e) (by simp), fun _ _ e => absurd (ht.symm.trans e) (by simp), fun _ _ _ e => absurd (ht.symm.trans e) (by simp), fun _ _ _ e => by rw [ht] at e; cases e; exact h, fun _ _ _ _ _ _ e => absurd (ht.symm.trans e) (by simp), fun _ _ e => absurd (ht.symm.trans e) (by simp), fun _ _ _ _ _ _ _ e => absurd (ht.symm.trans e) (by simp), fun _ _ _ _ _ _ _ _ _ _ _ _ _ _ _ _ _ _ _ _ _ _ _ _ _ _ _ _ _ _ _ _ _ _ _ _ _ _ _ _ _ _ _ _ _ _ _ _ _ _ _ _ _ _ _ e => absurd (ht.symm.trans e) (by simp)⟩
theorem wtam_hash {ty : TyM} {gm : Nat → Nat → Nat} {L : List Nat} {a : Nat} {ρ x y w u bl : Nat} (ht : ty a = (12, ρ, [x, y, w, u, bl])) (h : wtm_hash ty gm L ρ x y w u bl) : wtam ty gm L a :=
  ⟨fun _ _ _ e => absurd (ht.symm.trans e) (by simp), fun _ _ e => absurd (ht.symm.trans e) (by simp), fun _ _ e => absurd (ht.symm.trans e) (by simp), fun _ _ e => absurd (ht.symm.trans e) (by simp), fun _ _ _ e => absurd (ht.symm.trans e) (by simp), fun _ _ e => absurd (ht.symm.trans e) (by simp), fun _ _ _ e => absurd (ht.symm.trans e) (by simp), fun _ _ _ e => absurd (ht.symm.trans e) (by simp), fun _ _ _ _ _ _ e => by rw [ht] at e; cases e; exact h, fun _ _ e => absurd (ht.symm.trans e) (by simp), fun _ _ _ _ _ _ _ e => absurd (ht.symm.trans e) (by simp), fun _ _ _ _ _ _ _ _ _ _ _ _ _ _ _ _ _ _ _ _ _ _ _ _ _ _ _ _ _ _ _ _ _ _ _ _ _ _ _ _ _ _ _ _ _ _ _ _ _ _ _ _ _ _ _ e => absurd (ht.symm.trans e) (by simp)⟩
theorem wtam_kst {ty : TyM} {gm : Nat → Nat → Nat} {L : List Nat} {a : Nat} {ρ n : Nat} (ht : ty a = (28, ρ, [n])) (h : wtm_kst ty gm L ρ n) : wtam ty gm L a :=
  ⟨fun _ _ _ e => absurd (ht.symm.trans e) (by simp), fun _ _ e => absurd (ht.symm.trans e) (by simp), fun _ _ e => absurd (ht.symm.trans e) (by simp), fun _ _ e => absurd (ht.symm.trans e) (by simp), fun _ _ _ e => absurd (ht.symm.trans e) (by simp), fun _ _ e => absurd (ht.symm.trans e) (by simp), fun _ _ _ e => absurd (ht.symm.trans e) (by simp), fun _ _ _ e => absurd (ht.symm.trans e) (by simp), fun _ _ _ _ _ _ e => absurd (ht.symm.trans e) (by simp), fun _ _ e => by rw [ht] at e; cases e; exact h, fun _ _ _ _ _ _ _ e => absurd (ht.symm.trans e) (by simp), fun _ _ _ _ _ _ _ _ _ _ _ _ _ _ _ _ _ _ _ _ _ _ _ _ _ _ _ _ _ _ _ _ _ _ _ _ _ _ _ _ _ _ _ _ _ _ _ _ _ _ _ _ _ _ _ e => absurd (ht.symm.trans e) (by simp)⟩
theorem wtam_tags {ty : TyM} {gm : Nat → Nat → Nat} {L : List Nat} {a : Nat} {ρ x n B y0 y1 y2 : Nat} (ht : ty a = (13, ρ, [x, n, B, y0, y1, y2])) (h : wtm_tags ty gm L ρ x n B y0 y1 y2) : wtam ty gm L a :=
  ⟨fun _ _ _ e => absurd (ht.symm.trans e) (by simp), fun _ _ e => absurd (ht.symm.trans e) (by simp), fun _ _ e => absurd (ht.symm.trans e) (by simp), fun _ _ e => absurd (ht.symm.trans e) (by simp), fun _ _ _ e => absurd (ht.symm.trans e) (by simp), fun _ _ e => absurd (ht.symm.trans e) (by simp), fun _ _ _ e => absurd (ht.symm.trans e) (by simp), fun _ _ _ e => absurd (ht.symm.trans e) (by simp), fun _ _ _ _ _ _ e => absurd (ht.symm.trans e) (by simp), fun _ _ e => absurd (ht.symm.trans e) (by simp), fun _ _ _ _ _ _ _ e => by rw [ht] at e; cases e; exact h, fun _ _ _ _ _ _ _ _ _ _ _ _ _ _ _ _ _ _ _ _ _ _ _ _ _ _ _ _ _ _ _ _ _ _ _ _ _ _ _ _ _ _ _ _ _ _ _ _ _ _ _ _ _ _ _ e => absurd (ht.symm.trans e) (by simp)⟩
theorem wtam_mod {ty : TyM} {gm : Nat → Nat → Nat} {L : List Nat} {a : Nat} {ρ ta ou so ad na va lc dm tg pe ml bg co sp nb0 nb1 nb2 pl se ke wi hs mo po nu pr sq xa sa n64 m64 ex wh sd tk hd ak ho ot sx s0 s1 s2 nf bd mm zo fm sn hg gc gv ze zt : Nat} (ht : ty a = (15, ρ, [ta, ou, so, ad, na, va, lc, dm, tg, pe, ml, bg, co, sp, nb0, nb1, nb2, pl, se, ke, wi, hs, mo, po, nu, pr, sq, xa, sa, n64, m64, ex, wh, sd, tk, hd, ak, ho, ot, sx, s0, s1, s2, nf, bd, mm, zo, fm, sn, hg, gc, gv, ze, zt])) (h : wtm_mod ty gm L ρ ta ou so ad na va lc dm tg pe ml bg co sp nb0 nb1 nb2 pl se ke wi hs mo po nu pr sq xa sa n64 m64 ex wh sd tk hd ak ho ot sx s0 s1 s2 nf bd mm zo fm sn hg gc gv ze zt) : wtam ty gm L a :=
  ⟨fun _ _ _ e => absurd (ht.symm.trans e) (by simp), fun _ _ e => absurd (ht.symm.trans e) (by simp), fun _ _ e => absurd (ht.symm.trans e) (by simp), fun _ _ e => absurd (ht.symm.trans e) (by simp), fun _ _ _ e => absurd (ht.symm.trans e) (by simp), fun _ _ e => absurd (ht.symm.trans e) (by simp), fun _ _ _ e => absurd (ht.symm.trans e) (by simp), fun _ _ _ e => absurd (ht.symm.trans e) (by simp), fun _ _ _ _ _ _ e => absurd (ht.symm.trans e) (by simp), fun _ _ e => absurd (ht.symm.trans e) (by simp), fun _ _ _ _ _ _ _ e => absurd (ht.symm.trans e) (by simp), fun _ _ _ _ _ _ _ _ _ _ _ _ _ _ _ _ _ _ _ _ _ _ _ _ _ _ _ _ _ _ _ _ _ _ _ _ _ _ _ _ _ _ _ _ _ _ _ _ _ _ _ _ _ _ _ e => by rw [ht] at e; cases e; exact h⟩
theorem shm_mono {cs : Nat → ClassId} {ty ty2 : TyM} {gm : Nat → Nat → Nat} {L L2 : List Nat} {a : Nat} {x : va_E} (ha : ty2 a = ty a) (hb : ∀ b ∈ L, (ty b).1 ≠ 99 → b ∈ L2 ∧ ty2 b = ty b) (h : shm cs ty gm L a x) : shm cs ty2 gm L2 a x :=
  ⟨fun _ _ _ e => (h.1) _ _ _ (ha.symm.trans e),
   fun _ _ e => (h.2.1) _ _ (ha.symm.trans e),
   fun _ _ e => (h.2.2.1) _ _ (ha.symm.trans e),
   fun _ _ e => (h.2.2.2.1) _ _ (ha.symm.trans e),
   fun _ _ _ e => (h.2.2.2.2.1) _ _ _ (ha.symm.trans e),
   fun _ _ e => (h.2.2.2.2.2.1) _ _ (ha.symm.trans e),
   fun _ _ _ e => by
      obtain ⟨f, h1, h2⟩ := (h.2.2.2.2.2.2.1) _ _ _ (ha.symm.trans e)
      exact ⟨f, h1, fun j hj => by obtain ⟨b, r, x1, x2, x3⟩ := h2 j hj; exact ⟨b, r, x1, (hb _ x2 (nraw x3 (by decide))).1, (hb _ x2 (nraw x3 (by decide))).2.trans x3⟩⟩,
   fun _ _ _ e => by
      obtain ⟨f, h1, h2⟩ := (h.2.2.2.2.2.2.2.1) _ _ _ (ha.symm.trans e)
      exact ⟨f, h1, fun j hj => by obtain ⟨b, r, x1, x2, x3⟩ := h2 j hj; exact ⟨b, r, x1, (hb _ x2 (nraw x3 (by decide))).1, (hb _ x2 (nraw x3 (by decide))).2.trans x3⟩⟩,
   fun _ _ _ _ _ _ e => (h.2.2.2.2.2.2.2.2.1) _ _ _ _ _ _ (ha.symm.trans e),
   fun _ _ e => (h.2.2.2.2.2.2.2.2.2.1) _ _ (ha.symm.trans e),
   fun _ _ _ _ _ _ _ e => (h.2.2.2.2.2.2.2.2.2.2.1) _ _ _ _ _ _ _ (ha.symm.trans e),
   fun _ _ _ _ _ _ _ _ _ _ _ _ _ _ _ _ _ _ _ _ _ _ _ _ _ _ _ _ _ _ _ _ _ _ _ _ _ _ _ _ _ _ _ _ _ _ _ _ _ _ _ _ _ _ _ e => (h.2.2.2.2.2.2.2.2.2.2.2) _ _ _ _ _ _ _ _ _ _ _ _ _ _ _ _ _ _ _ _ _ _ _ _ _ _ _ _ _ _ _ _ _ _ _ _ _ _ _ _ _ _ _ _ _ _ _ _ _ _ _ _ _ _ _ (ha.symm.trans e)⟩
theorem WTm.into {ty : TyM} {gm : Nat → Nat → Nat} {L : List Nat} {q : Nat} {e : TyE} (hW : WTm ty gm L) (hr : (ty q).1 = 99) (hn : wtam (rtf ty q e) gm L q) : WTm (rtf ty q e) gm L := by
  intro a ha
  by_cases c : a = q
  · rw [c]
    exact hn
  · exact wtam_mono (rtf_ne c) (fun b hb h => ⟨hb, rtf_ne (ne_raw h hr)⟩) (hW a ha)
theorem OKm.into {cs : Nat → ClassId} {ty : TyM} {gm : Nat → Nat → Nat} {L : List Nat} {F : Nat → va_E} {q : Nat} {e : TyE} (hO : OKm cs ty gm L F) (hr : (ty q).1 = 99) (hn : shm cs (rtf ty q e) gm L q (F q)) : OKm cs (rtf ty q e) gm L F := by
  intro a ha
  by_cases c : a = q
  · rw [c]
    exact hn
  · exact shm_mono (rtf_ne c) (fun b hb h => ⟨hb, rtf_ne (ne_raw h hr)⟩) (hO a ha)
theorem WTm.grow {ty : TyM} {gm : Nat → Nat → Nat} {L : List Nat} {q : Nat} {e : TyE} (hW : WTm ty gm L) (hq : q ∉ L) (hn : wtam (rtf ty q e) gm (L ++ [q]) q) : WTm (rtf ty q e) gm (L ++ [q]) := by
  intro a ha
  rcases List.mem_append.mp ha with h | h
  · exact wtam_mono (rtf_ne (ne_in hq h)) (fun b hb _ => ⟨List.mem_append_left _ hb, rtf_ne (ne_in hq hb)⟩) (hW a h)
  · rw [List.mem_singleton.mp h]
    exact hn
theorem WTm.union {ty ty1 ty2 : TyM} {gm : Nat → Nat → Nat} {L1 L2 : List Nat} (h1 : WTm ty1 gm L1) (h2 : WTm ty2 gm L2) (e1 : ∀ a ∈ L1, ty a = ty1 a) (e2 : ∀ a ∈ L2, ty a = ty2 a) : WTm ty gm (L1 ++ L2) := by
  intro a ha
  rcases List.mem_append.mp ha with h | h
  · exact wtam_mono (e1 a h) (fun b hb _ => ⟨List.mem_append_left _ hb, e1 b hb⟩) (h1 a h)
  · exact wtam_mono (e2 a h) (fun b hb _ => ⟨List.mem_append_right _ hb, e2 b hb⟩) (h2 a h)
theorem OKm.union {cs : Nat → ClassId} {ty ty1 ty2 : TyM} {gm : Nat → Nat → Nat} {L1 L2 : List Nat} {F F1 F2 : Nat → va_E} (h1 : OKm cs ty1 gm L1 F1) (h2 : OKm cs ty2 gm L2 F2) (e1 : ∀ a ∈ L1, ty a = ty1 a) (e2 : ∀ a ∈ L2, ty a = ty2 a) (f1 : ∀ a ∈ L1, F a = F1 a) (f2 : ∀ a ∈ L2, F a = F2 a) : OKm cs ty gm (L1 ++ L2) F := by
  intro a ha
  rcases List.mem_append.mp ha with h | h
  · rw [f1 a h]
    exact shm_mono (e1 a h) (fun b hb _ => ⟨List.mem_append_left _ hb, e1 b hb⟩) (h1 a h)
  · rw [f2 a h]
    exact shm_mono (e2 a h) (fun b hb _ => ⟨List.mem_append_right _ hb, e2 b hb⟩) (h2 a h)
def RAWT : TyM := fun _ => (99, 0, [])
theorem pl_mem {L : List Nat} {F : Nat → va_E} {k : Nat} {z : Nat × va_E} (h : (va_pl L F)[k]? = some z) : z.1 ∈ L := by
  obtain ⟨a, ha, e⟩ := List.mem_map.mp (List.mem_of_getElem? h)
  rw [← e]
  exact ha
theorem pl_mrg {L L2 : List Nat} {F F2 : Nat → va_E} (hdis : ∀ a ∈ L, a ∉ L2) : va_pl (L ++ L2) (mrg L F F2) = va_pl L F ++ va_pl L2 F2 := by
  have e1 : L.map (fun a => (a, mrg L F F2 a)) = L.map (fun a => (a, F a)) := List.map_congr_left (fun a ha => by rw [mrg_l ha])
  have e2 : L2.map (fun a => (a, mrg L F F2 a)) = L2.map (fun a => (a, F2 a)) := List.map_congr_left (fun a ha => by rw [mrg_r (fun w => hdis a w ha)])
  show (L ++ L2).map (fun a => (a, mrg L F F2 a)) = L.map (fun a => (a, F a)) ++ L2.map (fun a => (a, F2 a))
  rw [List.map_append, e1, e2]
theorem app_l {w1 w2 : va_W} {k : Nat} {z : Nat × va_E} (h : w1[k]? = some z) : (w1 ++ w2)[k]? = some z := by
  rw [List.getElem?_append_left (List.getElem?_eq_some_iff.mp h).1]
  exact h
theorem gr_cons {L L9 : List Nat} {ty t9 : TyM} {l : List (Nat × TyE)} {q : Nat} {e : TyE} (hold : ∀ a ∈ L, a ∈ L9 ∧ t9 a = ty a) (hfs : ∀ p ∈ l, p.1 ∈ L ∧ ty p.1 = p.2) (hi : q ∈ L9) (ht : t9 q = e) : ∀ p ∈ (q, e) :: l, p.1 ∈ L9 ∧ t9 p.1 = p.2 := by
  intro p hp
  rcases List.mem_cons.mp hp with h | h
  · rw [h]
    exact ⟨hi, ht⟩
  · have h9 := hfs p h
    exact ⟨(hold _ h9.1).1, (hold _ h9.1).2.trans h9.2⟩
theorem gr_keep {L L9 : List Nat} {ty t9 : TyM} {l : List (Nat × TyE)} (hold : ∀ a ∈ L, a ∈ L9 ∧ t9 a = ty a) (hfs : ∀ p ∈ l, p.1 ∈ L ∧ ty p.1 = p.2) : ∀ p ∈ l, p.1 ∈ L9 ∧ t9 p.1 = p.2 := fun p h => ⟨(hold _ (hfs p h).1).1, (hold _ (hfs p h).1).2.trans (hfs p h).2⟩
def NEW (D : va_G) (cs : Nat → ClassId) (ty : TyM) (L : List Nat) (F : Nat → va_E) (A : Nat → Prop) (H : Heap) : Prop := va_P D vwCl (va_pl L F) H ∧ va_D A (va_pl L F) ∧ OK cs ty L F ∧ WT ty L
theorem NEW.into {D : va_G} {cs : Nat → ClassId} {ty : TyM} {L : List Nat} {F : Nat → va_E} {A : Nat → Prop} {H : Heap} {q : Nat} {e : TyE} (h : NEW D cs ty L F A H) (hr : (ty q).1 = 99) (hs : sh cs (rtf ty q e) L q (F q)) (hw : wta (rtf ty q e) L q) : NEW D cs (rtf ty q e) L F A H := ⟨h.1, h.2.1, h.2.2.1.into hr hs, h.2.2.2.into hr hw⟩
theorem grow1 {D : va_G} {cs : Nat → ClassId} {ty : TyM} {L : List Nat} {F : Nat → va_E} {A : Nat → Prop} {H : Heap} {q : Nat} {x : va_E} {e : TyE} (hP : va_P D vwCl (va_pl L F ++ [(q, x)]) H) (hD : va_D A (va_pl L F ++ [(q, x)])) (hO : OK cs ty L F) (hW : WT ty L) (hs : sh cs (rtf ty q e) (L ++ [q]) q x) (hw : wta (rtf ty q e) (L ++ [q]) q) : ∃ (L9 : List Nat) (t9 : TyM) (G : Nat → va_E), NEW D cs t9 L9 G A H ∧ (∀ a ∈ L, a ∈ L9 ∧ t9 a = ty a) ∧ (∀ a ∈ L, G a = F a ∧ a ≠ q) ∧ q ∈ L9 ∧ t9 q = e ∧ G q = x := by
  have hq : q ∉ L := va_pl_fresh2 (X := []) hD
  rw [va_pl_push hq] at hP hD
  exact ⟨L ++ [q], rtf ty q e, va_up F q x, ⟨hP, hD, OK.ext hO hq hs, WT.grow hW hq hw⟩, fun a ha => ⟨List.mem_append_left _ ha, rtf_ne (ne_in hq ha)⟩, fun a ha => ⟨up_ne (ne_in hq ha), ne_in hq ha⟩, List.mem_append_right _ (List.mem_singleton.mpr rfl), rtf_self, up_self⟩
theorem join1 {D : va_G} {cs : Nat → ClassId} {ty ty2 : TyM} {L L2 : List Nat} {F F2 : Nat → va_E} {A : Nat → Prop} {H H1 : Heap} {q : Nat} {x : va_E} (hP : va_P D vwCl (va_pl L F ++ [(q, x)]) H) (hD : va_D A (va_pl L F ++ [(q, x)])) (hO : OK cs ty L F) (hW : WT ty L) (hk : ∀ a : Nat, a < H.size → ¬ va_A (va_pl [q] (fun _ => x)) H.size a → H1[a]? = H[a]?) (hF : ∀ a, va_A (va_pl [q] (fun _ => x)) H.size a → A a) (hN : NEW D cs ty2 L2 F2 (va_A (va_pl [q] (fun _ => x)) H.size) H1) : ∃ (L9 : List Nat) (t9 : TyM) (G : Nat → va_E), NEW D cs t9 L9 G A H1 ∧ (∀ a ∈ L, a ∈ L9 ∧ t9 a = ty a) ∧ (∀ a ∈ L, G a = F a ∧ a ∉ L2) ∧ (∀ a ∈ L2, a ∈ L9 ∧ t9 a = ty2 a) ∧ (∀ a ∈ L2, G a = F2 a) := by
  have hq : q ∉ L := va_pl_fresh2 (X := []) hD
  have hP0 : va_P D vwCl (va_pl L F) H := fun k z hz => hP k z (app_l hz)
  have hD0 : va_D A (va_pl L F) := ⟨fun i j p r hi hj e => hD.1 i j p r (app_l hi) (app_l hj) e, fun k z hz => hD.2 k z (app_l hz)⟩
  have hlt : ∀ a ∈ L, a < H.size := fun a ha => va_pl_lt (X := []) (f := F) hP0 ha
  have hno : ∀ a ∈ L, ¬ va_A (va_pl [q] (fun _ => x)) H.size a := fun a ha w => by
    rcases w with ⟨k, e, hk9⟩ | w
    · have e9 : a = q := List.mem_singleton.mp (pl_mem hk9)
      exact ne_in hq ha e9
    · exact absurd (hlt a ha) (Nat.not_lt.mpr w)
  have hdis : ∀ a ∈ L, a ∉ L2 := fun a ha w => by
    obtain ⟨k, hk9⟩ := va_pl_get (X := []) (f := F2) w
    exact hno a ha (hN.2.1.2 k _ hk9)
  have hP1 : va_P D vwCl (va_pl L F) H1 := hP0.kept (fun k z hz => hk z.1 (hlt _ (pl_mem hz)) (hno _ (pl_mem hz)))
  refine ⟨L ++ L2, mrg L ty ty2, mrg L F F2, ⟨?_, ?_, ?_, ?_⟩, ?_, ?_, ?_, ?_⟩
  · rw [pl_mrg hdis]
    exact hP1.app hN.1
  · rw [pl_mrg hdis]
    exact hD0.app (hN.2.1.weaken (fun _ _ _ h => hF _ h)) (fun i j p r hi hj e => hdis p.1 (pl_mem hi) (by rw [e]; exact pl_mem hj))
  · exact OK.union hO hN.2.2.1 (fun a ha => mrg_l ha) (fun a ha => mrg_r (fun w => hdis a w ha)) (fun a ha => mrg_l ha) (fun a ha => mrg_r (fun w => hdis a w ha))
  · exact WT.union hW hN.2.2.2 (fun a ha => mrg_l ha) (fun a ha => mrg_r (fun w => hdis a w ha))
  · exact fun a ha => ⟨List.mem_append_left _ ha, mrg_l ha⟩
  · exact fun a ha => ⟨mrg_l ha, hdis a ha⟩
  · exact fun a ha => ⟨List.mem_append_right _ ha, mrg_r (fun w => hdis a w ha)⟩
  · exact fun a ha => mrg_r (fun w => hdis a w ha)
theorem gr_loop {σ : Type} {p : Program} {l : Launch} {e : Env} {R : Room} {s : State} {m : MethodId} {args : Array Value} {below : List Frame} {meth : Method} {c : Code} {Q : State → Prop} (A : Nat → Prop) (D : va_G) (cs : Nat → ClassId) (pc mL : Nat) (lvf : σ → List (Nat × Value)) (stf : σ → List Value) (cf sf : σ → Nat) (inv : σ → TyM → List Nat → (Nat → va_E) → Prop) (μ : σ → Nat)
    (body : ∀ (x : σ) (ty : TyM) (L : List Nat) (G : Nat → va_E), inv x ty L G → (∀ (y : σ) (ty : TyM) (L : List Nat) (K : Nat → va_E), inv y ty L K → μ y < μ x → ∀ (H : Heap) (locs : List Loc), NEW D cs ty L K A H → va_S A s.heap H locs → ∀ ls : Array Slot, lv_has ls mL (lvf y) → W p l e R s m args below meth c H locs (cf y) (sf y) Q (F0 m pc ls (stf y))) →
      ∀ (H : Heap) (locs : List Loc), NEW D cs ty L G A H → va_S A s.heap H locs → ∀ ls : Array Slot, lv_has ls mL (lvf x) → W p l e R s m args below meth c H locs (cf x) (sf x) Q (F0 m pc ls (stf x)))
    (x : σ) (ty : TyM) (L : List Nat) (G : Nat → va_E) (hx : inv x ty L G) : ∀ (H : Heap) (locs : List Loc), NEW D cs ty L G A H → va_S A s.heap H locs → ∀ ls : Array Slot, lv_has ls mL (lvf x) → W p l e R s m args below meth c H locs (cf x) (sf x) Q (F0 m pc ls (stf x)) := by
  suffices h : ∀ (k : Nat) (x : σ) (ty : TyM) (L : List Nat) (G : Nat → va_E), μ x < k → inv x ty L G → ∀ (H : Heap) (locs : List Loc), NEW D cs ty L G A H → va_S A s.heap H locs → ∀ ls : Array Slot, lv_has ls mL (lvf x) → W p l e R s m args below meth c H locs (cf x) (sf x) Q (F0 m pc ls (stf x)) from h (μ x + 1) x ty L G (Nat.lt_succ_self _) hx
  intro k
  induction k with
  | zero => intro x ty L G h; exact absurd h (Nat.not_lt_zero _)
  | succ k ih => exact fun x ty L G h hi => body x ty L G hi (fun y ty L K hy hm => ih y ty L K (Nat.lt_of_lt_of_le hm (Nat.le_of_lt_succ h)) hy)
def NEWm (D : va_G) (cs : Nat → ClassId) (ty : TyM) (gm : Nat → Nat → Nat) (L : List Nat) (F : Nat → va_E) (A : Nat → Prop) (H : Heap) : Prop := va_P D vwCl (va_pl L F) H ∧ va_D A (va_pl L F) ∧ OKm cs ty gm L F ∧ WTm ty gm L
theorem NEWm.into {D : va_G} {cs : Nat → ClassId} {ty : TyM} {gm : Nat → Nat → Nat} {L : List Nat} {F : Nat → va_E} {A : Nat → Prop} {H : Heap} {q : Nat} {e : TyE} (h : NEWm D cs ty gm L F A H) (hr : (ty q).1 = 99) (hs : shm cs (rtf ty q e) gm L q (F q)) (hw : wtam (rtf ty q e) gm L q) : NEWm D cs (rtf ty q e) gm L F A H := ⟨h.1, h.2.1, h.2.2.1.into hr hs, h.2.2.2.into hr hw⟩
theorem grow1m {D : va_G} {cs : Nat → ClassId} {ty : TyM} {gm : Nat → Nat → Nat} {L : List Nat} {F : Nat → va_E} {A : Nat → Prop} {H : Heap} {q : Nat} {x : va_E} {e : TyE} (hP : va_P D vwCl (va_pl L F ++ [(q, x)]) H) (hD : va_D A (va_pl L F ++ [(q, x)])) (hO : OKm cs ty gm L F) (hW : WTm ty gm L) (hs : shm cs (rtf ty q e) gm (L ++ [q]) q x) (hw : wtam (rtf ty q e) gm (L ++ [q]) q) : ∃ (L9 : List Nat) (t9 : TyM) (G : Nat → va_E), NEWm D cs t9 gm L9 G A H ∧ (∀ a ∈ L, a ∈ L9 ∧ t9 a = ty a) ∧ (∀ a ∈ L, G a = F a ∧ a ≠ q) ∧ q ∈ L9 ∧ t9 q = e ∧ G q = x := by
  have hq : q ∉ L := va_pl_fresh2 (X := []) hD
  rw [va_pl_push hq] at hP hD
  exact ⟨L ++ [q], rtf ty q e, va_up F q x, ⟨hP, hD, OKm.ext hO hq hs, WTm.grow hW hq hw⟩, fun a ha => ⟨List.mem_append_left _ ha, rtf_ne (ne_in hq ha)⟩, fun a ha => ⟨up_ne (ne_in hq ha), ne_in hq ha⟩, List.mem_append_right _ (List.mem_singleton.mpr rfl), rtf_self, up_self⟩
theorem join1m {D : va_G} {cs : Nat → ClassId} {ty ty2 : TyM} {gm : Nat → Nat → Nat} {L L2 : List Nat} {F F2 : Nat → va_E} {A : Nat → Prop} {H H1 : Heap} {q : Nat} {x : va_E} (hP : va_P D vwCl (va_pl L F ++ [(q, x)]) H) (hD : va_D A (va_pl L F ++ [(q, x)])) (hO : OKm cs ty gm L F) (hW : WTm ty gm L) (hk : ∀ a : Nat, a < H.size → ¬ va_A (va_pl [q] (fun _ => x)) H.size a → H1[a]? = H[a]?) (hF : ∀ a, va_A (va_pl [q] (fun _ => x)) H.size a → A a) (hN : NEWm D cs ty2 gm L2 F2 (va_A (va_pl [q] (fun _ => x)) H.size) H1) : ∃ (L9 : List Nat) (t9 : TyM) (G : Nat → va_E), NEWm D cs t9 gm L9 G A H1 ∧ (∀ a ∈ L, a ∈ L9 ∧ t9 a = ty a) ∧ (∀ a ∈ L, G a = F a ∧ a ∉ L2) ∧ (∀ a ∈ L2, a ∈ L9 ∧ t9 a = ty2 a) ∧ (∀ a ∈ L2, G a = F2 a) := by
  have hq : q ∉ L := va_pl_fresh2 (X := []) hD
  have hP0 : va_P D vwCl (va_pl L F) H := fun k z hz => hP k z (app_l hz)
  have hD0 : va_D A (va_pl L F) := ⟨fun i j p r hi hj e => hD.1 i j p r (app_l hi) (app_l hj) e, fun k z hz => hD.2 k z (app_l hz)⟩
  have hlt : ∀ a ∈ L, a < H.size := fun a ha => va_pl_lt (X := []) (f := F) hP0 ha
  have hno : ∀ a ∈ L, ¬ va_A (va_pl [q] (fun _ => x)) H.size a := fun a ha w => by
    rcases w with ⟨k, e, hk9⟩ | w
    · have e9 : a = q := List.mem_singleton.mp (pl_mem hk9)
      exact ne_in hq ha e9
    · exact absurd (hlt a ha) (Nat.not_lt.mpr w)
  have hdis : ∀ a ∈ L, a ∉ L2 := fun a ha w => by
    obtain ⟨k, hk9⟩ := va_pl_get (X := []) (f := F2) w
    exact hno a ha (hN.2.1.2 k _ hk9)
  have hP1 : va_P D vwCl (va_pl L F) H1 := hP0.kept (fun k z hz => hk z.1 (hlt _ (pl_mem hz)) (hno _ (pl_mem hz)))
  refine ⟨L ++ L2, mrg L ty ty2, mrg L F F2, ⟨?_, ?_, ?_, ?_⟩, ?_, ?_, ?_, ?_⟩
  · rw [pl_mrg hdis]
    exact hP1.app hN.1
  · rw [pl_mrg hdis]
    exact hD0.app (hN.2.1.weaken (fun _ _ _ h => hF _ h)) (fun i j p r hi hj e => hdis p.1 (pl_mem hi) (by rw [e]; exact pl_mem hj))
  · exact OKm.union hO hN.2.2.1 (fun a ha => mrg_l ha) (fun a ha => mrg_r (fun w => hdis a w ha)) (fun a ha => mrg_l ha) (fun a ha => mrg_r (fun w => hdis a w ha))
  · exact WTm.union hW hN.2.2.2 (fun a ha => mrg_l ha) (fun a ha => mrg_r (fun w => hdis a w ha))
  · exact fun a ha => ⟨List.mem_append_left _ ha, mrg_l ha⟩
  · exact fun a ha => ⟨mrg_l ha, hdis a ha⟩
  · exact fun a ha => ⟨List.mem_append_right _ ha, mrg_r (fun w => hdis a w ha)⟩
  · exact fun a ha => mrg_r (fun w => hdis a w ha)
theorem gr_loopm {σ : Type} {p : Program} {l : Launch} {e : Env} {R : Room} {s : State} {m : MethodId} {args : Array Value} {below : List Frame} {meth : Method} {c : Code} {Q : State → Prop} (A : Nat → Prop) (D : va_G) (cs : Nat → ClassId) (gm : Nat → Nat → Nat) (pc mL : Nat) (lvf : σ → List (Nat × Value)) (stf : σ → List Value) (cf sf : σ → Nat) (inv : σ → TyM → List Nat → (Nat → va_E) → Prop) (μ : σ → Nat)
    (body : ∀ (x : σ) (ty : TyM) (L : List Nat) (G : Nat → va_E), inv x ty L G → (∀ (y : σ) (ty : TyM) (L : List Nat) (K : Nat → va_E), inv y ty L K → μ y < μ x → ∀ (H : Heap) (locs : List Loc), NEWm D cs ty gm L K A H → va_S A s.heap H locs → ∀ ls : Array Slot, lv_has ls mL (lvf y) → W p l e R s m args below meth c H locs (cf y) (sf y) Q (F0 m pc ls (stf y))) →
      ∀ (H : Heap) (locs : List Loc), NEWm D cs ty gm L G A H → va_S A s.heap H locs → ∀ ls : Array Slot, lv_has ls mL (lvf x) → W p l e R s m args below meth c H locs (cf x) (sf x) Q (F0 m pc ls (stf x)))
    (x : σ) (ty : TyM) (L : List Nat) (G : Nat → va_E) (hx : inv x ty L G) : ∀ (H : Heap) (locs : List Loc), NEWm D cs ty gm L G A H → va_S A s.heap H locs → ∀ ls : Array Slot, lv_has ls mL (lvf x) → W p l e R s m args below meth c H locs (cf x) (sf x) Q (F0 m pc ls (stf x)) := by
  suffices h : ∀ (k : Nat) (x : σ) (ty : TyM) (L : List Nat) (G : Nat → va_E), μ x < k → inv x ty L G → ∀ (H : Heap) (locs : List Loc), NEWm D cs ty gm L G A H → va_S A s.heap H locs → ∀ ls : Array Slot, lv_has ls mL (lvf x) → W p l e R s m args below meth c H locs (cf x) (sf x) Q (F0 m pc ls (stf x)) from h (μ x + 1) x ty L G (Nat.lt_succ_self _) hx
  intro k
  induction k with
  | zero => intro x ty L G h; exact absurd h (Nat.not_lt_zero _)
  | succ k ih => exact fun x ty L G h hi => body x ty L G hi (fun y ty L K hy hm => ih y ty L K (Nat.lt_of_lt_of_le hm (Nat.le_of_lt_succ h)) hy)
theorem cid_byte {D : va_G} {cl : List vw_C} {cs : Nat → ClassId} {cA : ClassId} {s : State} (h : va_K D cl (TYS cs) s) (h2 : va_K D cl (TYS cs ++ [(cA, .byte)]) s) : cA = cs 17 := by
  have a : s.vm.findClass ("[" ++ (.byte : FieldType).toString) = some (cs 17) := (h.2 1 (cs 17, .byte) rfl).2
  have b : s.vm.findClass ("[" ++ (.byte : FieldType).toString) = some cA := (h2.2 8 (cA, .byte) rfl).2
  exact Option.some.inj (b.symm.trans a)
theorem cid_boolean {D : va_G} {cl : List vw_C} {cs : Nat → ClassId} {cA : ClassId} {s : State} (h : va_K D cl (TYS cs) s) (h2 : va_K D cl (TYS cs ++ [(cA, .boolean)]) s) : cA = cs 18 := by
  have a : s.vm.findClass ("[" ++ (.boolean : FieldType).toString) = some (cs 18) := (h.2 2 (cs 18, .boolean) rfl).2
  have b : s.vm.findClass ("[" ++ (.boolean : FieldType).toString) = some cA := (h2.2 8 (cA, .boolean) rfl).2
  exact Option.some.inj (b.symm.trans a)
theorem cid_long {D : va_G} {cl : List vw_C} {cs : Nat → ClassId} {cA : ClassId} {s : State} (h : va_K D cl (TYS cs) s) (h2 : va_K D cl (TYS cs ++ [(cA, .long)]) s) : cA = cs 19 := by
  have a : s.vm.findClass ("[" ++ (.long : FieldType).toString) = some (cs 19) := (h.2 3 (cs 19, .long) rfl).2
  have b : s.vm.findClass ("[" ++ (.long : FieldType).toString) = some cA := (h2.2 8 (cA, .long) rfl).2
  exact Option.some.inj (b.symm.trans a)
theorem cid_o0 {D : va_G} {cl : List vw_C} {cs : Nat → ClassId} {cA : ClassId} {s : State} (h : va_K D cl (TYS cs) s) (h2 : va_K D cl (TYS cs ++ [(cA, .object RX0)]) s) : cA = cs 20 := by
  obtain ⟨_, _, _, _, _, a⟩ := (h.2 4 (cs 20, .object RX0) rfl).2
  obtain ⟨_, _, _, _, _, b⟩ := (h2.2 8 (cA, .object RX0) rfl).2
  exact Option.some.inj (b.symm.trans a)
theorem cid_o3 {D : va_G} {cl : List vw_C} {cs : Nat → ClassId} {cA : ClassId} {s : State} (h : va_K D cl (TYS cs) s) (h2 : va_K D cl (TYS cs ++ [(cA, .object RX3)]) s) : cA = cs 21 := by
  obtain ⟨_, _, _, _, _, a⟩ := (h.2 5 (cs 21, .object RX3) rfl).2
  obtain ⟨_, _, _, _, _, b⟩ := (h2.2 8 (cA, .object RX3) rfl).2
  exact Option.some.inj (b.symm.trans a)
theorem cid_o10 {D : va_G} {cl : List vw_C} {cs : Nat → ClassId} {cA : ClassId} {s : State} (h : va_K D cl (TYS cs) s) (h2 : va_K D cl (TYS cs ++ [(cA, .object RX10)]) s) : cA = cs 22 := by
  obtain ⟨_, _, _, _, _, a⟩ := (h.2 6 (cs 22, .object RX10) rfl).2
  obtain ⟨_, _, _, _, _, b⟩ := (h2.2 8 (cA, .object RX10) rfl).2
  exact Option.some.inj (b.symm.trans a)
theorem cid_o14 {D : va_G} {cl : List vw_C} {cs : Nat → ClassId} {cA : ClassId} {s : State} (h : va_K D cl (TYS cs) s) (h2 : va_K D cl (TYS cs ++ [(cA, .object RX14)]) s) : cA = cs 23 := by
  obtain ⟨_, _, _, _, _, a⟩ := (h.2 7 (cs 23, .object RX14) rfl).2
  obtain ⟨_, _, _, _, _, b⟩ := (h2.2 8 (cA, .object RX14) rfl).2
  exact Option.some.inj (b.symm.trans a)
section
variable {p : Program} {l : Launch} {e : Env} {R : Room} {s : State} {m : MethodId} {args : Array Value} {below : List Frame} {meth : Method} {c : Code} {H H0 : Heap} {locs : List Loc} {cells slots : Nat} {Q : State → Prop}
variable {cc : ByteArray} {pc : Nat} {ls : Array Slot} {rest : List Value} {A : Nat → Prop} {D : va_G} {tys : List (ClassId × FieldType)} {L : List Nat} {F : Nat → va_E} {a : Nat}
theorem pg_putF (hexec : p.tables.exec = Jvm.exec) (hb : c.code = cc) {own ref C : String} {T : u_T} {N ci index : Nat} {Ts : List Cond} (hts : ∀ w ∈ Ts, w.before args s = true) (hin : ∀ w ∈ u_ws C T N, w ∈ Ts) (ty0 : Nat → FieldType) (hty : ∀ k, k < N → parseFieldDescriptor (T k).2.2.1 = some (ty0 k)) (hnm : ∀ a, a < N → ∀ b, b < N → a ≠ b → (T a).2.1 ≠ (T b).2.1) (hown : s.vm.findClass own = some m.cls) (hK : va_K D vwCl tys s) (hP : va_P D vwCl (va_pl L F) H) (hD : va_D A (va_pl L F)) (hS0 : va_S A H0 H locs) (ha : a ∈ L) {fs : List Value} (he : F a = .inr (ci, fs)) (hc : vwCl[ci]? = some (C, T, N)) (k : Nat) (hk : k < N) (hlink : (Cond.fieldLink own index ref (T k).2.1 (T k).2.2.1).before args s = true) (hsame : ∀ x, s.fieldFound? (T k).1 (T k).2.1 (T k).2.2.1 = some x → s.fieldFound? ref (T k).2.1 (T k).2.2.1 = some x) (hfin : (T k).2.2.2 = true) (hin2 : meth.name = "<init>") (hdecl : (T k).1 = own) {ty : FieldType} {v : Value} (hd : parseFieldDescriptor (T k).2.2.1 = some ty) (hn : narrow ty v = v) (hfit : fits ty v = true) (hl : k < fs.length) (hdg : decode cc pc = .ok (.putfield index, 3)) (kk : ∀ (H1 : Heap) (locs1 : List Loc), va_P D vwCl (va_pl L (va_up F a (.inr (ci, fs.set k v)))) H1 → va_D A (va_pl L (va_up F a (.inr (ci, fs.set k v)))) → va_S A H0 H1 locs1 → W p l e R s m args below meth c H1 locs1 cells slots Q (F0 m (pc + 3) ls rest)) : W p l e R s m args below meth c H locs cells slots Q (F0 m pc ls (v :: .ref a :: rest)) := by
  obtain ⟨q0, hq⟩ := pg_at (F := F) ha
  have e1 := pg_set (x := .inr (ci, fs.set k v)) hD ha hq
  exact va_putF hexec hb hts hin ty0 hty hnm hown hK hP hD hS0 q0 (by rw [← he]; exact hq) hc k hk hlink hsame hfin hin2 hdecl hd hn hfit hl hdg (fun H1 locs1 h1 h2 h3 => kk H1 locs1 (e1 ▸ h1) (e1 ▸ h2) h3)
theorem pg_aast (hexec : p.tables.exec = Jvm.exec) (hb : c.code = cc) (hK : va_K D vwCl tys s) (hP : va_P D vwCl (va_pl L F) H) (hD : va_D A (va_pl L F)) (hS : va_S A H0 H locs) (ha : a ∈ L) (t0 ci : Nat) {cA : ClassId} {r : vw_C} {n v : Nat} {vs : List Value} {f : Nat → Option Nat} (he : F a = .inl (cA, n, .inr (.inr (.inr (.inr f))))) (ht : tys[t0]? = some (cA, .object r.1)) (hv : v ∈ L) (hev : F v = .inr (ci, vs)) (hc : vwCl[ci]? = some r) {i : Int32} (hin : vp_in i n) (hdg : decode cc pc = .ok (.aastore, 1))
    (kk : ∀ (H1 : Heap) (locs1 : List Loc), va_P D vwCl (va_pl L (va_up F a (.inl (cA, n, .inr (.inr (.inr (.inr (va_up f i.toNatClampNeg (some v))))))))) H1 → va_D A (va_pl L (va_up F a (.inl (cA, n, .inr (.inr (.inr (.inr (va_up f i.toNatClampNeg (some v))))))))) → va_S A H0 H1 locs1 → W p l e R s m args below meth c H1 locs1 cells slots Q (F0 m (pc + 1) ls rest)) : W p l e R s m args below meth c H locs cells slots Q (F0 m pc ls (.ref v :: .int i :: .ref a :: rest)) := by
  obtain ⟨q0, hq⟩ := pg_at (F := F) ha
  obtain ⟨qk, hqk⟩ := pg_at (F := F) hv
  have e1 := pg_set (x := .inl (cA, n, .inr (.inr (.inr (.inr (va_up f i.toNatClampNeg (some v))))))) hD ha hq
  exact va_astq hexec hb hK hP hD hS q0 t0 qk ci (by rw [← he]; exact hq) ht (by rw [← hev]; exact hqk) hc hin hdg (fun H1 locs1 h1 h2 h3 => kk H1 locs1 (e1 ▸ h1) (e1 ▸ h2) h3)
end
theorem free1 {A : Nat → Prop} {w : va_W} {q : Nat} {x : va_E} {H0 H : Heap} {locs : List Loc} (hD : va_D A (w ++ [(q, x)])) (hS : va_S A H0 H locs) (hA : ∀ q, H0.size ≤ q → A q) : ∀ a, va_A (va_pl [q] (fun _ => x)) H.size a → A a := by
  intro a h
  rcases h with ⟨k, e, hk⟩ | h
  · have e9 : a = q := List.mem_singleton.mp (pl_mem hk)
    rw [e9]
    exact hD.2 w.length (q, x) (by simp)
  · exact hA a (Nat.le_trans hS.1 h)
theorem right1 {D : va_G} {w : va_W} {q : Nat} {x : va_E} {H : Heap} (hP : va_P D vwCl (w ++ [(q, x)]) H) : va_P D vwCl (va_pl [q] (fun _ => x)) H := by
  intro k z hz
  have e1 : va_pl [q] (fun _ => x) = [(q, x)] := rfl
  rw [e1] at hz
  cases k with
  | zero =>
    have e2 : z = (q, x) := (Option.some.inj hz).symm
    rw [e2]
    exact hP w.length (q, x) (by simp)
  | succ k => simp at hz
theorem one1 {q : Nat} {x : va_E} : va_D (fun _ => True) (va_pl [q] (fun _ => x)) := by
  have e1 : va_pl [q] (fun _ => x) = [(q, x)] := rfl
  rw [e1]
  refine ⟨fun i j p r hi hj _ => ?_, fun _ _ _ => trivial⟩
  cases i with
  | zero =>
    cases j with
    | zero => rfl
    | succ j => simp at hj
  | succ i => simp at hi
theorem rtf_old {ty : TyM} {q x k ρ : Nat} {im : List Nat} {e : TyE} (hr : (ty q).1 = 99) (p : ty x = (k, ρ, im)) (hk : k ≠ 99) : rtf ty q e x = (k, ρ, im) := (rtf_ne (ne_raw (nraw p hk) hr)).trans p
theorem left1 {D : va_G} {w : va_W} {q : Nat} {x : va_E} {H : Heap} (hP : va_P D vwCl (w ++ [(q, x)]) H) : va_P D vwCl w H := fun k z hz => hP k z (app_l hz)
theorem left2 {A : Nat → Prop} {w : va_W} {q : Nat} {x : va_E} (hD : va_D A (w ++ [(q, x)])) : va_D A w := ⟨fun i j p r hi hj e => hD.1 i j p r (app_l hi) (app_l hj) e, fun k z hz => hD.2 k z (app_l hz)⟩
def FILL (Q : TyE → Prop) (L : List Nat) (ty : TyM) (f : Nat → Option Nat) (j : Nat) : Prop := ∀ i, i < j → ∃ b, f i = some b ∧ b ∈ L ∧ Q (ty b)
theorem FILL.nil {Q : TyE → Prop} {L : List Nat} {ty : TyM} {f : Nat → Option Nat} : FILL Q L ty f 0 := fun _ h => absurd h (Nat.not_lt_zero _)
theorem FILL.keep {Q : TyE → Prop} {L L9 : List Nat} {ty t9 : TyM} {f : Nat → Option Nat} {j : Nat} (hold : ∀ a ∈ L, a ∈ L9 ∧ t9 a = ty a) (h : FILL Q L ty f j) : FILL Q L9 t9 f j := by
  intro i hi
  obtain ⟨b, h1, h2, h3⟩ := h i hi
  exact ⟨b, h1, (hold b h2).1, by rw [(hold b h2).2]; exact h3⟩
theorem FILL.add {Q : TyE → Prop} {L : List Nat} {ty : TyM} {f : Nat → Option Nat} {j b : Nat} (h : FILL Q L ty f j) (hj : j < 2 ^ 31) (hb : b ∈ L) (hq : Q (ty b)) : FILL Q L ty (va_up f (nI j).toNatClampNeg (some b)) (j + 1) := by
  intro i hi
  rw [nI_clamp hj]
  by_cases c : i = j
  · subst c
    exact ⟨b, by simp [va_up], hb, hq⟩
  · obtain ⟨b2, h1, h2, h3⟩ := h i (by omega)
    exact ⟨b2, by simp [va_up, c, h1], h2, h3⟩
theorem into_fs {L : List Nat} {ty : TyM} {l : List (Nat × TyE)} {q : Nat} {e : TyE} (hr : (ty q).1 = 99) (hfs : ∀ p ∈ l, p.1 ∈ L ∧ ty p.1 = p.2) (hl : ∀ p ∈ l, p.2.1 ≠ 99) (hq : q ∈ L) : ∀ p ∈ (q, e) :: l, p.1 ∈ L ∧ rtf ty q e p.1 = p.2 := by
  intro p hp
  rcases List.mem_cons.mp hp with h | h
  · rw [h]
    exact ⟨hq, rtf_self⟩
  · have h9 := hfs p h
    refine ⟨h9.1, (rtf_ne (fun w => hl p h ?_)).trans h9.2⟩
    rw [← h9.2, w]
    exact hr
theorem gr_app {L L2 L9 : List Nat} {ty ty2 t9 : TyM} {l l2 : List (Nat × TyE)} (hold : ∀ a ∈ L, a ∈ L9 ∧ t9 a = ty a) (hnew : ∀ a ∈ L2, a ∈ L9 ∧ t9 a = ty2 a) (hfs : ∀ p ∈ l, p.1 ∈ L ∧ ty p.1 = p.2) (hf2 : ∀ p ∈ l2, p.1 ∈ L2 ∧ ty2 p.1 = p.2) : ∀ p ∈ l2 ++ l, p.1 ∈ L9 ∧ t9 p.1 = p.2 := by
  intro p hp
  rcases List.mem_append.mp hp with h | h
  · exact ⟨(hnew _ (hf2 p h).1).1, (hnew _ (hf2 p h).1).2.trans (hf2 p h).2⟩
  · exact ⟨(hold _ (hfs p h).1).1, (hold _ (hfs p h).1).2.trans (hfs p h).2⟩
theorem fsub {L : List Nat} {ty : TyM} {l l2 : List (Nat × TyE)} (hfs : ∀ p ∈ l, p.1 ∈ L ∧ ty p.1 = p.2) (hs : ∀ p ∈ l2, p ∈ l) : ∀ p ∈ l2, p.1 ∈ L ∧ ty p.1 = p.2 := fun p h => hfs p (hs p h)
