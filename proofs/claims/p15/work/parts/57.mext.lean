theorem ne_in {L : List Nat} {a q : Nat} (hq : q ∉ L) (ha : a ∈ L) : a ≠ q := fun w => hq (w ▸ ha)
theorem ne_raw {ty : TyM} {b q : Nat} (h : (ty b).1 ≠ 99) (hr : (ty q).1 = 99) : b ≠ q := fun w => h (by rw [w]; exact hr)
theorem rtf_in {ty : TyM} {L : List Nat} {q x : Nat} {e t : TyE} (hq : q ∉ L) (hx : x ∈ L) (ht : ty x = t) : rtf ty q e x = t := (rtf_ne (ne_in hq hx)).trans ht
theorem wt_bytes_ext {ty : TyM} {L : List Nat} {q9 ρ r n : Nat} {e0 : TyE} (hq : q9 ∉ L) (h : wt_bytes ty L ρ r n) : wt_bytes (rtf ty q9 e0) (L ++ [q9]) ρ r n := by
  obtain ⟨p0, p1, p2⟩ := h
  exact ⟨List.mem_append_left _ p0, rtf_in hq p0 p1, p2⟩
theorem wt_entry_ext {ty : TyM} {L : List Nat} {q9 ρ x y : Nat} {e0 : TyE} (hq : q9 ∉ L) (h : wt_entry ty L ρ x y) : wt_entry (rtf ty q9 e0) (L ++ [q9]) ρ x y := by
  obtain ⟨p0, p1, ⟨r_2, p2⟩, ⟨r_3, p3⟩⟩ := h
  exact ⟨List.mem_append_left _ p0, List.mem_append_left _ p1, ⟨r_2, rtf_in hq p0 p2⟩, ⟨r_3, rtf_in hq p1 p3⟩⟩
theorem wt_dir_ext {ty : TyM} {L : List Nat} {q9 ρ x : Nat} {e0 : TyE} (hq : q9 ∉ L) (h : wt_dir ty L ρ x) : wt_dir (rtf ty q9 e0) (L ++ [q9]) ρ x := by
  obtain ⟨p0, p1⟩ := h
  exact ⟨List.mem_append_left _ p0, rtf_in hq p0 p1⟩
theorem wt_msg_ext {ty : TyM} {L : List Nat} {q9 ρ x y0 y1 y2 : Nat} {e0 : TyE} (hq : q9 ∉ L) (h : wt_msg ty L ρ x y0 y1 y2) : wt_msg (rtf ty q9 e0) (L ++ [q9]) ρ x y0 y1 y2 := by
  obtain ⟨p0, p1, p2, p3, ⟨r_4, p4⟩, p5, p6, p7⟩ := h
  exact ⟨List.mem_append_left _ p0, List.mem_append_left _ p1, List.mem_append_left _ p2, List.mem_append_left _ p3, ⟨r_4, rtf_in hq p0 p4⟩, rtf_in hq p1 p5, rtf_in hq p2 p6, rtf_in hq p3 p7⟩
theorem wt_tags_ext {ty : TyM} {L : List Nat} {q9 ρ x n y0 y1 y2 : Nat} {e0 : TyE} (hq : q9 ∉ L) (h : wt_tags ty L ρ x n y0 y1 y2) : wt_tags (rtf ty q9 e0) (L ++ [q9]) ρ x n y0 y1 y2 := by
  obtain ⟨p0, p1, p2, p3, ⟨r_4, p4⟩, p5, p6, p7⟩ := h
  exact ⟨List.mem_append_left _ p0, List.mem_append_left _ p1, List.mem_append_left _ p2, List.mem_append_left _ p3, ⟨r_4, rtf_in hq p0 p4⟩, rtf_in hq p1 p5, rtf_in hq p2 p6, rtf_in hq p3 p7⟩
theorem wt_sha_ext {ty : TyM} {L : List Nat} {q9 ρ x y w : Nat} {e0 : TyE} (hq : q9 ∉ L) (h : wt_sha ty L ρ x y w) : wt_sha (rtf ty q9 e0) (L ++ [q9]) ρ x y w := by
  obtain ⟨p0, p1, p2, p3, p4, p5⟩ := h
  exact ⟨List.mem_append_left _ p0, List.mem_append_left _ p1, List.mem_append_left _ p2, rtf_in hq p0 p3, rtf_in hq p1 p4, rtf_in hq p2 p5⟩
theorem wt_power_ext {ty : TyM} {L : List Nat} {q9 ρ x y w u : Nat} {e0 : TyE} (hq : q9 ∉ L) (h : wt_power ty L ρ x y w u) : wt_power (rtf ty q9 e0) (L ++ [q9]) ρ x y w u := by
  obtain ⟨p0, p1, p2, p3, p4, p5, p6, p7⟩ := h
  exact ⟨List.mem_append_left _ p0, List.mem_append_left _ p1, List.mem_append_left _ p2, List.mem_append_left _ p3, rtf_in hq p0 p4, rtf_in hq p1 p5, rtf_in hq p2 p6, rtf_in hq p3 p7⟩
theorem wt_chk_ext {ty : TyM} {L : List Nat} {q9 ρ d δ ea w0 w1 w2 w3 nm te : Nat} {e0 : TyE} (hq : q9 ∉ L) (h : wt_chk ty L ρ d δ ea w0 w1 w2 w3 nm te) : wt_chk (rtf ty q9 e0) (L ++ [q9]) ρ d δ ea w0 w1 w2 w3 nm te := by
  obtain ⟨p0, p1, p2, ⟨r_3, p3⟩, p4, ⟨r_5, p5⟩, p6, ⟨r_7, p7⟩, p8, ⟨r_9, p9⟩, p10, p11, p12, p13⟩ := h
  exact ⟨List.mem_append_left _ p0, rtf_in hq p0 p1, List.mem_append_left _ p2, ⟨r_3, rtf_in hq p2 p3⟩, List.mem_append_left _ p4, ⟨r_5, rtf_in hq p4 p5⟩, List.mem_append_left _ p6, ⟨r_7, rtf_in hq p6 p7⟩, List.mem_append_left _ p8, ⟨r_9, rtf_in hq p8 p9⟩, List.mem_append_left _ p10, rtf_in hq p10 p11, List.mem_append_left _ p12, rtf_in hq p12 p13⟩
theorem wt_pol_ext {ty : TyM} {L : List Nat} {q9 ρ d δ ea w0 w1 rc rx ry0 ry1 ry2 : Nat} {e0 : TyE} (hq : q9 ∉ L) (h : wt_pol ty L ρ d δ ea w0 w1 rc rx ry0 ry1 ry2) : wt_pol (rtf ty q9 e0) (L ++ [q9]) ρ d δ ea w0 w1 rc rx ry0 ry1 ry2 := by
  obtain ⟨p0, p1, p2, ⟨r_3, p3⟩, p4, ⟨r_5, p5⟩, p6, p7⟩ := h
  exact ⟨List.mem_append_left _ p0, rtf_in hq p0 p1, List.mem_append_left _ p2, ⟨r_3, rtf_in hq p2 p3⟩, List.mem_append_left _ p4, ⟨r_5, rtf_in hq p4 p5⟩, List.mem_append_left _ p6, rtf_in hq p6 p7⟩
theorem wt_slr_ext {ty : TyM} {L : List Nat} {q9 ρ d δ ea sl sx sy0 sy1 sy2 ke kx ky0 ky1 ky2 w0 w1 w2 w3 w4 w5 w6 w7 w8 tk hs hx hy hw pw px py pz pu : Nat} {e0 : TyE} (hq : q9 ∉ L) (h : wt_slr ty L ρ d δ ea sl sx sy0 sy1 sy2 ke kx ky0 ky1 ky2 w0 w1 w2 w3 w4 w5 w6 w7 w8 tk hs hx hy hw pw px py pz pu) : wt_slr (rtf ty q9 e0) (L ++ [q9]) ρ d δ ea sl sx sy0 sy1 sy2 ke kx ky0 ky1 ky2 w0 w1 w2 w3 w4 w5 w6 w7 w8 tk hs hx hy hw pw px py pz pu := by
  obtain ⟨p0, p1, p2, p3, p4, p5, p6, ⟨r_7, p7⟩, p8, ⟨r_9, p9⟩, p10, ⟨r_11, p11⟩, p12, ⟨r_13, p13⟩, p14, ⟨r_15, p15⟩, p16, ⟨r_17, p17⟩, p18, ⟨r_19, p19⟩, p20, ⟨r_21, p21⟩, p22, ⟨r_23, p23⟩, p24, p25, p26, p27, p28, p29⟩ := h
  exact ⟨List.mem_append_left _ p0, rtf_in hq p0 p1, List.mem_append_left _ p2, rtf_in hq p2 p3, List.mem_append_left _ p4, rtf_in hq p4 p5, List.mem_append_left _ p6, ⟨r_7, rtf_in hq p6 p7⟩, List.mem_append_left _ p8, ⟨r_9, rtf_in hq p8 p9⟩, List.mem_append_left _ p10, ⟨r_11, rtf_in hq p10 p11⟩, List.mem_append_left _ p12, ⟨r_13, rtf_in hq p12 p13⟩, List.mem_append_left _ p14, ⟨r_15, rtf_in hq p14 p15⟩, List.mem_append_left _ p16, ⟨r_17, rtf_in hq p16 p17⟩, List.mem_append_left _ p18, ⟨r_19, rtf_in hq p18 p19⟩, List.mem_append_left _ p20, ⟨r_21, rtf_in hq p20 p21⟩, List.mem_append_left _ p22, ⟨r_23, rtf_in hq p22 p23⟩, List.mem_append_left _ p24, rtf_in hq p24 p25, List.mem_append_left _ p26, rtf_in hq p26 p27, List.mem_append_left _ p28, rtf_in hq p28 p29⟩
theorem wt_gate_ext {ty : TyM} {L : List Nat} {q9 ρ ta ou di ea ck sl po hs : Nat} {e0 : TyE} (hq : q9 ∉ L) (h : wt_gate ty L ρ ta ou di ea ck sl po hs) : wt_gate (rtf ty q9 e0) (L ++ [q9]) ρ ta ou di ea ck sl po hs := by
  obtain ⟨p0, ⟨r_1, p1⟩, p2, ⟨r_3, p3⟩, p4, p5, p6, ⟨w0_7, w1_7, w2_7, w3_7, nm_7, te_7, p7⟩, p8, ⟨l1_9, lx_9, ly0_9, ly1_9, ly2_9, k1_9, kx_9, ky0_9, ky1_9, ky2_9, w0_9, w1_9, w2_9, w3_9, w4_9, w5_9, w6_9, w7_9, w8_9, tk_9, h1_9, hx_9, hy_9, hw_9, pw_9, px_9, py_9, pz_9, pu_9, p9⟩, p10, ⟨w0_11, w1_11, rc_11, rx_11, ry0_11, ry1_11, ry2_11, p11⟩, p12, ⟨hx_13, hy_13, hw_13, p13⟩⟩ := h
  exact ⟨List.mem_append_left _ p0, ⟨r_1, rtf_in hq p0 p1⟩, List.mem_append_left _ p2, ⟨r_3, rtf_in hq p2 p3⟩, List.mem_append_left _ p4, rtf_in hq p4 p5, List.mem_append_left _ p6, ⟨w0_7, w1_7, w2_7, w3_7, nm_7, te_7, rtf_in hq p6 p7⟩, List.mem_append_left _ p8, ⟨l1_9, lx_9, ly0_9, ly1_9, ly2_9, k1_9, kx_9, ky0_9, ky1_9, ky2_9, w0_9, w1_9, w2_9, w3_9, w4_9, w5_9, w6_9, w7_9, w8_9, tk_9, h1_9, hx_9, hy_9, hw_9, pw_9, px_9, py_9, pz_9, pu_9, rtf_in hq p8 p9⟩, List.mem_append_left _ p10, ⟨w0_11, w1_11, rc_11, rx_11, ry0_11, ry1_11, ry2_11, rtf_in hq p10 p11⟩, List.mem_append_left _ p12, ⟨hx_13, hy_13, hw_13, rtf_in hq p12 p13⟩⟩
theorem sh.ext {cs : Nat → ClassId} {ty : TyM} {L : List Nat} {a q9 : Nat} {e0 : TyE} {x : va_E} (ha : a ∈ L) (hq : q9 ∉ L) (h : sh cs ty L a x) : sh cs (rtf ty q9 e0) (L ++ [q9]) a x :=
  have hne : a ≠ q9 := ne_in hq ha
  ⟨fun _ _ _ e => (h.1) _ _ _ ((rtf_ne hne).symm.trans e),
   fun _ _ e => (h.2.1) _ _ ((rtf_ne hne).symm.trans e),
   fun _ _ e => (h.2.2.1) _ _ ((rtf_ne hne).symm.trans e),
   fun _ _ e => (h.2.2.2.1) _ _ ((rtf_ne hne).symm.trans e),
   fun _ _ e => (h.2.2.2.2.1) _ _ ((rtf_ne hne).symm.trans e),
   fun _ _ e => (h.2.2.2.2.2.1) _ _ ((rtf_ne hne).symm.trans e),
   fun _ _ e => by
      obtain ⟨f, h1, h2⟩ := (h.2.2.2.2.2.2.1) _ _ ((rtf_ne hne).symm.trans e)
      exact ⟨f, h1, fun j hj => by obtain ⟨b, r, x1, x2, x3⟩ := h2 j hj; exact ⟨b, r, x1, List.mem_append_left _ x2, rtf_in hq x2 x3⟩⟩,
   fun _ _ e => by
      obtain ⟨f, h1, h2⟩ := (h.2.2.2.2.2.2.2.1) _ _ ((rtf_ne hne).symm.trans e)
      exact ⟨f, h1, fun j hj => by obtain ⟨b, x, y, x1, x2, x3⟩ := h2 j hj; exact ⟨b, x, y, x1, List.mem_append_left _ x2, rtf_in hq x2 x3⟩⟩,
   fun _ _ e => by
      obtain ⟨f, h1, h2⟩ := (h.2.2.2.2.2.2.2.2.1) _ _ ((rtf_ne hne).symm.trans e)
      exact ⟨f, h1, fun j hj => by obtain ⟨b, x1, x2, x3⟩ := h2 j hj; exact ⟨b, x1, List.mem_append_left _ x2, rtf_in hq x2 x3⟩⟩,
   fun _ e => (h.2.2.2.2.2.2.2.2.2.1) _ ((rtf_ne hne).symm.trans e),
   fun _ _ _ e => (h.2.2.2.2.2.2.2.2.2.2.1) _ _ _ ((rtf_ne hne).symm.trans e),
   fun _ _ e => (h.2.2.2.2.2.2.2.2.2.2.2.1) _ _ ((rtf_ne hne).symm.trans e),
   fun _ _ _ _ _ e => (h.2.2.2.2.2.2.2.2.2.2.2.2.1) _ _ _ _ _ ((rtf_ne hne).symm.trans e),
   fun _ _ _ _ _ _ e => (h.2.2.2.2.2.2.2.2.2.2.2.2.2.1) _ _ _ _ _ _ ((rtf_ne hne).symm.trans e),
   fun _ _ _ _ e => (h.2.2.2.2.2.2.2.2.2.2.2.2.2.2.1) _ _ _ _ ((rtf_ne hne).symm.trans e),
   fun _ _ e => (h.2.2.2.2.2.2.2.2.2.2.2.2.2.2.2.1) _ _ ((rtf_ne hne).symm.trans e),
   fun _ _ _ _ _ e => (h.2.2.2.2.2.2.2.2.2.2.2.2.2.2.2.2.1) _ _ _ _ _ ((rtf_ne hne).symm.trans e),
   fun _ _ _ _ _ _ _ _ _ _ e => (h.2.2.2.2.2.2.2.2.2.2.2.2.2.2.2.2.2.1) _ _ _ _ _ _ _ _ _ _ ((rtf_ne hne).symm.trans e),
   fun _ _ _ _ _ _ _ _ _ _ _ e => (h.2.2.2.2.2.2.2.2.2.2.2.2.2.2.2.2.2.2.1) _ _ _ _ _ _ _ _ _ _ _ ((rtf_ne hne).symm.trans e),
   fun _ _ _ _ _ _ _ _ _ _ _ _ _ _ _ _ _ _ _ _ _ _ _ _ _ _ _ _ _ _ _ _ _ e => (h.2.2.2.2.2.2.2.2.2.2.2.2.2.2.2.2.2.2.2.1) _ _ _ _ _ _ _ _ _ _ _ _ _ _ _ _ _ _ _ _ _ _ _ _ _ _ _ _ _ _ _ _ _ ((rtf_ne hne).symm.trans e),
   fun _ _ _ _ _ _ _ _ _ e => by
      obtain ⟨le, sp, mu, nu, h1, h2, ⟨x, y0, y1, y2, h3⟩, h4, ⟨z, w0, w1, w2, h5⟩, h6⟩ := (h.2.2.2.2.2.2.2.2.2.2.2.2.2.2.2.2.2.2.2.2) _ _ _ _ _ _ _ _ _ ((rtf_ne hne).symm.trans e)
      exact ⟨le, sp, mu, nu, h1, List.mem_append_left _ h2, ⟨x, y0, y1, y2, rtf_in hq h2 h3⟩, List.mem_append_left _ h4, ⟨z, w0, w1, w2, rtf_in hq h4 h5⟩, h6⟩⟩
theorem OK.ext {cs : Nat → ClassId} {ty : TyM} {L : List Nat} {F : Nat → va_E} {q9 : Nat} {e0 : TyE} {x : va_E} (hO : OK cs ty L F) (hq : q9 ∉ L) (hx : sh cs (rtf ty q9 e0) (L ++ [q9]) q9 x) : OK cs (rtf ty q9 e0) (L ++ [q9]) (va_up F q9 x) := by
  intro b hb
  rcases List.mem_append.mp hb with h | h
  · rw [up_ne (ne_in hq h)]
    exact (hO b h).ext h hq
  · rw [List.mem_singleton] at h
    subst h
    rw [up_self]
    exact hx
theorem sh.raw {cs : Nat → ClassId} {ty : TyM} {L : List Nat} {a ρ : Nat} {im : List Nat} {x : va_E} (ht : ty a = (99, ρ, im)) : sh cs ty L a x :=
  ⟨fun _ _ _ e => absurd (ht.symm.trans e) (by simp), fun _ _ e => absurd (ht.symm.trans e) (by simp), fun _ _ e => absurd (ht.symm.trans e) (by simp), fun _ _ e => absurd (ht.symm.trans e) (by simp), fun _ _ e => absurd (ht.symm.trans e) (by simp), fun _ _ e => absurd (ht.symm.trans e) (by simp), fun _ _ e => absurd (ht.symm.trans e) (by simp), fun _ _ e => absurd (ht.symm.trans e) (by simp), fun _ _ e => absurd (ht.symm.trans e) (by simp), fun _ e => absurd (ht.symm.trans e) (by simp), fun _ _ _ e => absurd (ht.symm.trans e) (by simp), fun _ _ e => absurd (ht.symm.trans e) (by simp), fun _ _ _ _ _ e => absurd (ht.symm.trans e) (by simp), fun _ _ _ _ _ _ e => absurd (ht.symm.trans e) (by simp), fun _ _ _ _ e => absurd (ht.symm.trans e) (by simp), fun _ _ e => absurd (ht.symm.trans e) (by simp), fun _ _ _ _ _ e => absurd (ht.symm.trans e) (by simp), fun _ _ _ _ _ _ _ _ _ _ e => absurd (ht.symm.trans e) (by simp), fun _ _ _ _ _ _ _ _ _ _ _ e => absurd (ht.symm.trans e) (by simp), fun _ _ _ _ _ _ _ _ _ _ _ _ _ _ _ _ _ _ _ _ _ _ _ _ _ _ _ _ _ _ _ _ _ e => absurd (ht.symm.trans e) (by simp), fun _ _ _ _ _ _ _ _ _ e => absurd (ht.symm.trans e) (by simp)⟩
theorem WT.ext_raw {ty : TyM} {L : List Nat} {q9 ρ : Nat} (hW : WT ty L) (hq : q9 ∉ L) : WT (rtf ty q9 (99, ρ, [])) (L ++ [q9]) := by
  intro a ha
  rcases List.mem_append.mp ha with hl | hl
  · have h9 := hW a hl
    have hne : a ≠ q9 := ne_in hq hl
    exact ⟨fun _ _ _ e => wt_bytes_ext hq ((h9.1) _ _ _ ((rtf_ne hne).symm.trans e)),
      fun _ _ _ => trivial,
      fun _ _ _ => trivial,
      fun _ _ _ => trivial,
      fun _ _ _ => trivial,
      fun _ _ _ => trivial,
      fun _ _ _ => trivial,
      fun _ _ _ => trivial,
      fun _ _ _ => trivial,
      fun _ _ => trivial,
      fun _ _ _ e => wt_entry_ext hq ((h9.2.2.2.2.2.2.2.2.2.2.1) _ _ _ ((rtf_ne hne).symm.trans e)),
      fun _ _ e => wt_dir_ext hq ((h9.2.2.2.2.2.2.2.2.2.2.2.1) _ _ ((rtf_ne hne).symm.trans e)),
      fun _ _ _ _ _ e => wt_msg_ext hq ((h9.2.2.2.2.2.2.2.2.2.2.2.2.1) _ _ _ _ _ ((rtf_ne hne).symm.trans e)),
      fun _ _ _ _ _ _ e => wt_tags_ext hq ((h9.2.2.2.2.2.2.2.2.2.2.2.2.2.1) _ _ _ _ _ _ ((rtf_ne hne).symm.trans e)),
      fun _ _ _ _ e => wt_sha_ext hq ((h9.2.2.2.2.2.2.2.2.2.2.2.2.2.2.1) _ _ _ _ ((rtf_ne hne).symm.trans e)),
      fun _ _ _ => trivial,
      fun _ _ _ _ _ e => wt_power_ext hq ((h9.2.2.2.2.2.2.2.2.2.2.2.2.2.2.2.2.1) _ _ _ _ _ ((rtf_ne hne).symm.trans e)),
      fun _ _ _ _ _ _ _ _ _ _ e => wt_chk_ext hq ((h9.2.2.2.2.2.2.2.2.2.2.2.2.2.2.2.2.2.1) _ _ _ _ _ _ _ _ _ _ ((rtf_ne hne).symm.trans e)),
      fun _ _ _ _ _ _ _ _ _ _ _ e => wt_pol_ext hq ((h9.2.2.2.2.2.2.2.2.2.2.2.2.2.2.2.2.2.2.1) _ _ _ _ _ _ _ _ _ _ _ ((rtf_ne hne).symm.trans e)),
      fun _ _ _ _ _ _ _ _ _ _ _ _ _ _ _ _ _ _ _ _ _ _ _ _ _ _ _ _ _ _ _ _ _ e => wt_slr_ext hq ((h9.2.2.2.2.2.2.2.2.2.2.2.2.2.2.2.2.2.2.2.1) _ _ _ _ _ _ _ _ _ _ _ _ _ _ _ _ _ _ _ _ _ _ _ _ _ _ _ _ _ _ _ _ _ ((rtf_ne hne).symm.trans e)),
      fun _ _ _ _ _ _ _ _ _ e => wt_gate_ext hq ((h9.2.2.2.2.2.2.2.2.2.2.2.2.2.2.2.2.2.2.2.2) _ _ _ _ _ _ _ _ _ ((rtf_ne hne).symm.trans e))⟩
  · rw [List.mem_singleton] at hl
    subst hl
    exact ⟨fun _ _ _ e => absurd (rtf_self.symm.trans e) (by simp),
      fun _ _ _ => trivial,
      fun _ _ _ => trivial,
      fun _ _ _ => trivial,
      fun _ _ _ => trivial,
      fun _ _ _ => trivial,
      fun _ _ _ => trivial,
      fun _ _ _ => trivial,
      fun _ _ _ => trivial,
      fun _ _ => trivial,
      fun _ _ _ e => absurd (rtf_self.symm.trans e) (by simp),
      fun _ _ e => absurd (rtf_self.symm.trans e) (by simp),
      fun _ _ _ _ _ e => absurd (rtf_self.symm.trans e) (by simp),
      fun _ _ _ _ _ _ e => absurd (rtf_self.symm.trans e) (by simp),
      fun _ _ _ _ e => absurd (rtf_self.symm.trans e) (by simp),
      fun _ _ _ => trivial,
      fun _ _ _ _ _ e => absurd (rtf_self.symm.trans e) (by simp),
      fun _ _ _ _ _ _ _ _ _ _ e => absurd (rtf_self.symm.trans e) (by simp),
      fun _ _ _ _ _ _ _ _ _ _ _ e => absurd (rtf_self.symm.trans e) (by simp),
      fun _ _ _ _ _ _ _ _ _ _ _ _ _ _ _ _ _ _ _ _ _ _ _ _ _ _ _ _ _ _ _ _ _ e => absurd (rtf_self.symm.trans e) (by simp),
      fun _ _ _ _ _ _ _ _ _ e => absurd (rtf_self.symm.trans e) (by simp)⟩
theorem WT.ext_ints {ty : TyM} {L : List Nat} {q9 ρ n : Nat} (hW : WT ty L) (hq : q9 ∉ L) : WT (rtf ty q9 (16, ρ, [n])) (L ++ [q9]) := by
  intro a ha
  rcases List.mem_append.mp ha with hl | hl
  · have h9 := hW a hl
    have hne : a ≠ q9 := ne_in hq hl
    exact ⟨fun _ _ _ e => wt_bytes_ext hq ((h9.1) _ _ _ ((rtf_ne hne).symm.trans e)),
      fun _ _ _ => trivial,
      fun _ _ _ => trivial,
      fun _ _ _ => trivial,
      fun _ _ _ => trivial,
      fun _ _ _ => trivial,
      fun _ _ _ => trivial,
      fun _ _ _ => trivial,
      fun _ _ _ => trivial,
      fun _ _ => trivial,
      fun _ _ _ e => wt_entry_ext hq ((h9.2.2.2.2.2.2.2.2.2.2.1) _ _ _ ((rtf_ne hne).symm.trans e)),
      fun _ _ e => wt_dir_ext hq ((h9.2.2.2.2.2.2.2.2.2.2.2.1) _ _ ((rtf_ne hne).symm.trans e)),
      fun _ _ _ _ _ e => wt_msg_ext hq ((h9.2.2.2.2.2.2.2.2.2.2.2.2.1) _ _ _ _ _ ((rtf_ne hne).symm.trans e)),
      fun _ _ _ _ _ _ e => wt_tags_ext hq ((h9.2.2.2.2.2.2.2.2.2.2.2.2.2.1) _ _ _ _ _ _ ((rtf_ne hne).symm.trans e)),
      fun _ _ _ _ e => wt_sha_ext hq ((h9.2.2.2.2.2.2.2.2.2.2.2.2.2.2.1) _ _ _ _ ((rtf_ne hne).symm.trans e)),
      fun _ _ _ => trivial,
      fun _ _ _ _ _ e => wt_power_ext hq ((h9.2.2.2.2.2.2.2.2.2.2.2.2.2.2.2.2.1) _ _ _ _ _ ((rtf_ne hne).symm.trans e)),
      fun _ _ _ _ _ _ _ _ _ _ e => wt_chk_ext hq ((h9.2.2.2.2.2.2.2.2.2.2.2.2.2.2.2.2.2.1) _ _ _ _ _ _ _ _ _ _ ((rtf_ne hne).symm.trans e)),
      fun _ _ _ _ _ _ _ _ _ _ _ e => wt_pol_ext hq ((h9.2.2.2.2.2.2.2.2.2.2.2.2.2.2.2.2.2.2.1) _ _ _ _ _ _ _ _ _ _ _ ((rtf_ne hne).symm.trans e)),
      fun _ _ _ _ _ _ _ _ _ _ _ _ _ _ _ _ _ _ _ _ _ _ _ _ _ _ _ _ _ _ _ _ _ e => wt_slr_ext hq ((h9.2.2.2.2.2.2.2.2.2.2.2.2.2.2.2.2.2.2.2.1) _ _ _ _ _ _ _ _ _ _ _ _ _ _ _ _ _ _ _ _ _ _ _ _ _ _ _ _ _ _ _ _ _ ((rtf_ne hne).symm.trans e)),
      fun _ _ _ _ _ _ _ _ _ e => wt_gate_ext hq ((h9.2.2.2.2.2.2.2.2.2.2.2.2.2.2.2.2.2.2.2.2) _ _ _ _ _ _ _ _ _ ((rtf_ne hne).symm.trans e))⟩
  · rw [List.mem_singleton] at hl
    subst hl
    exact ⟨fun _ _ _ e => absurd (rtf_self.symm.trans e) (by simp),
      fun _ _ _ => trivial,
      fun _ _ _ => trivial,
      fun _ _ _ => trivial,
      fun _ _ _ => trivial,
      fun _ _ _ => trivial,
      fun _ _ _ => trivial,
      fun _ _ _ => trivial,
      fun _ _ _ => trivial,
      fun _ _ => trivial,
      fun _ _ _ e => absurd (rtf_self.symm.trans e) (by simp),
      fun _ _ e => absurd (rtf_self.symm.trans e) (by simp),
      fun _ _ _ _ _ e => absurd (rtf_self.symm.trans e) (by simp),
      fun _ _ _ _ _ _ e => absurd (rtf_self.symm.trans e) (by simp),
      fun _ _ _ _ e => absurd (rtf_self.symm.trans e) (by simp),
      fun _ _ _ => trivial,
      fun _ _ _ _ _ e => absurd (rtf_self.symm.trans e) (by simp),
      fun _ _ _ _ _ _ _ _ _ _ e => absurd (rtf_self.symm.trans e) (by simp),
      fun _ _ _ _ _ _ _ _ _ _ _ e => absurd (rtf_self.symm.trans e) (by simp),
      fun _ _ _ _ _ _ _ _ _ _ _ _ _ _ _ _ _ _ _ _ _ _ _ _ _ _ _ _ _ _ _ _ _ e => absurd (rtf_self.symm.trans e) (by simp),
      fun _ _ _ _ _ _ _ _ _ e => absurd (rtf_self.symm.trans e) (by simp)⟩
theorem WT.ext_octs {ty : TyM} {L : List Nat} {q9 ρ n : Nat} (hW : WT ty L) (hq : q9 ∉ L) : WT (rtf ty q9 (17, ρ, [n])) (L ++ [q9]) := by
  intro a ha
  rcases List.mem_append.mp ha with hl | hl
  · have h9 := hW a hl
    have hne : a ≠ q9 := ne_in hq hl
    exact ⟨fun _ _ _ e => wt_bytes_ext hq ((h9.1) _ _ _ ((rtf_ne hne).symm.trans e)),
      fun _ _ _ => trivial,
      fun _ _ _ => trivial,
      fun _ _ _ => trivial,
      fun _ _ _ => trivial,
      fun _ _ _ => trivial,
      fun _ _ _ => trivial,
      fun _ _ _ => trivial,
      fun _ _ _ => trivial,
      fun _ _ => trivial,
      fun _ _ _ e => wt_entry_ext hq ((h9.2.2.2.2.2.2.2.2.2.2.1) _ _ _ ((rtf_ne hne).symm.trans e)),
      fun _ _ e => wt_dir_ext hq ((h9.2.2.2.2.2.2.2.2.2.2.2.1) _ _ ((rtf_ne hne).symm.trans e)),
      fun _ _ _ _ _ e => wt_msg_ext hq ((h9.2.2.2.2.2.2.2.2.2.2.2.2.1) _ _ _ _ _ ((rtf_ne hne).symm.trans e)),
      fun _ _ _ _ _ _ e => wt_tags_ext hq ((h9.2.2.2.2.2.2.2.2.2.2.2.2.2.1) _ _ _ _ _ _ ((rtf_ne hne).symm.trans e)),
      fun _ _ _ _ e => wt_sha_ext hq ((h9.2.2.2.2.2.2.2.2.2.2.2.2.2.2.1) _ _ _ _ ((rtf_ne hne).symm.trans e)),
      fun _ _ _ => trivial,
      fun _ _ _ _ _ e => wt_power_ext hq ((h9.2.2.2.2.2.2.2.2.2.2.2.2.2.2.2.2.1) _ _ _ _ _ ((rtf_ne hne).symm.trans e)),
      fun _ _ _ _ _ _ _ _ _ _ e => wt_chk_ext hq ((h9.2.2.2.2.2.2.2.2.2.2.2.2.2.2.2.2.2.1) _ _ _ _ _ _ _ _ _ _ ((rtf_ne hne).symm.trans e)),
      fun _ _ _ _ _ _ _ _ _ _ _ e => wt_pol_ext hq ((h9.2.2.2.2.2.2.2.2.2.2.2.2.2.2.2.2.2.2.1) _ _ _ _ _ _ _ _ _ _ _ ((rtf_ne hne).symm.trans e)),
      fun _ _ _ _ _ _ _ _ _ _ _ _ _ _ _ _ _ _ _ _ _ _ _ _ _ _ _ _ _ _ _ _ _ e => wt_slr_ext hq ((h9.2.2.2.2.2.2.2.2.2.2.2.2.2.2.2.2.2.2.2.1) _ _ _ _ _ _ _ _ _ _ _ _ _ _ _ _ _ _ _ _ _ _ _ _ _ _ _ _ _ _ _ _ _ ((rtf_ne hne).symm.trans e)),
      fun _ _ _ _ _ _ _ _ _ e => wt_gate_ext hq ((h9.2.2.2.2.2.2.2.2.2.2.2.2.2.2.2.2.2.2.2.2) _ _ _ _ _ _ _ _ _ ((rtf_ne hne).symm.trans e))⟩
  · rw [List.mem_singleton] at hl
    subst hl
    exact ⟨fun _ _ _ e => absurd (rtf_self.symm.trans e) (by simp),
      fun _ _ _ => trivial,
      fun _ _ _ => trivial,
      fun _ _ _ => trivial,
      fun _ _ _ => trivial,
      fun _ _ _ => trivial,
      fun _ _ _ => trivial,
      fun _ _ _ => trivial,
      fun _ _ _ => trivial,
      fun _ _ => trivial,
      fun _ _ _ e => absurd (rtf_self.symm.trans e) (by simp),
      fun _ _ e => absurd (rtf_self.symm.trans e) (by simp),
      fun _ _ _ _ _ e => absurd (rtf_self.symm.trans e) (by simp),
      fun _ _ _ _ _ _ e => absurd (rtf_self.symm.trans e) (by simp),
      fun _ _ _ _ e => absurd (rtf_self.symm.trans e) (by simp),
      fun _ _ _ => trivial,
      fun _ _ _ _ _ e => absurd (rtf_self.symm.trans e) (by simp),
      fun _ _ _ _ _ _ _ _ _ _ e => absurd (rtf_self.symm.trans e) (by simp),
      fun _ _ _ _ _ _ _ _ _ _ _ e => absurd (rtf_self.symm.trans e) (by simp),
      fun _ _ _ _ _ _ _ _ _ _ _ _ _ _ _ _ _ _ _ _ _ _ _ _ _ _ _ _ _ _ _ _ _ e => absurd (rtf_self.symm.trans e) (by simp),
      fun _ _ _ _ _ _ _ _ _ e => absurd (rtf_self.symm.trans e) (by simp)⟩
theorem WT.ext_bits {ty : TyM} {L : List Nat} {q9 ρ n : Nat} (hW : WT ty L) (hq : q9 ∉ L) : WT (rtf ty q9 (18, ρ, [n])) (L ++ [q9]) := by
  intro a ha
  rcases List.mem_append.mp ha with hl | hl
  · have h9 := hW a hl
    have hne : a ≠ q9 := ne_in hq hl
    exact ⟨fun _ _ _ e => wt_bytes_ext hq ((h9.1) _ _ _ ((rtf_ne hne).symm.trans e)),
      fun _ _ _ => trivial,
      fun _ _ _ => trivial,
      fun _ _ _ => trivial,
      fun _ _ _ => trivial,
      fun _ _ _ => trivial,
      fun _ _ _ => trivial,
      fun _ _ _ => trivial,
      fun _ _ _ => trivial,
      fun _ _ => trivial,
      fun _ _ _ e => wt_entry_ext hq ((h9.2.2.2.2.2.2.2.2.2.2.1) _ _ _ ((rtf_ne hne).symm.trans e)),
      fun _ _ e => wt_dir_ext hq ((h9.2.2.2.2.2.2.2.2.2.2.2.1) _ _ ((rtf_ne hne).symm.trans e)),
      fun _ _ _ _ _ e => wt_msg_ext hq ((h9.2.2.2.2.2.2.2.2.2.2.2.2.1) _ _ _ _ _ ((rtf_ne hne).symm.trans e)),
      fun _ _ _ _ _ _ e => wt_tags_ext hq ((h9.2.2.2.2.2.2.2.2.2.2.2.2.2.1) _ _ _ _ _ _ ((rtf_ne hne).symm.trans e)),
      fun _ _ _ _ e => wt_sha_ext hq ((h9.2.2.2.2.2.2.2.2.2.2.2.2.2.2.1) _ _ _ _ ((rtf_ne hne).symm.trans e)),
      fun _ _ _ => trivial,
      fun _ _ _ _ _ e => wt_power_ext hq ((h9.2.2.2.2.2.2.2.2.2.2.2.2.2.2.2.2.1) _ _ _ _ _ ((rtf_ne hne).symm.trans e)),
      fun _ _ _ _ _ _ _ _ _ _ e => wt_chk_ext hq ((h9.2.2.2.2.2.2.2.2.2.2.2.2.2.2.2.2.2.1) _ _ _ _ _ _ _ _ _ _ ((rtf_ne hne).symm.trans e)),
      fun _ _ _ _ _ _ _ _ _ _ _ e => wt_pol_ext hq ((h9.2.2.2.2.2.2.2.2.2.2.2.2.2.2.2.2.2.2.1) _ _ _ _ _ _ _ _ _ _ _ ((rtf_ne hne).symm.trans e)),
      fun _ _ _ _ _ _ _ _ _ _ _ _ _ _ _ _ _ _ _ _ _ _ _ _ _ _ _ _ _ _ _ _ _ e => wt_slr_ext hq ((h9.2.2.2.2.2.2.2.2.2.2.2.2.2.2.2.2.2.2.2.1) _ _ _ _ _ _ _ _ _ _ _ _ _ _ _ _ _ _ _ _ _ _ _ _ _ _ _ _ _ _ _ _ _ ((rtf_ne hne).symm.trans e)),
      fun _ _ _ _ _ _ _ _ _ e => wt_gate_ext hq ((h9.2.2.2.2.2.2.2.2.2.2.2.2.2.2.2.2.2.2.2.2) _ _ _ _ _ _ _ _ _ ((rtf_ne hne).symm.trans e))⟩
  · rw [List.mem_singleton] at hl
    subst hl
    exact ⟨fun _ _ _ e => absurd (rtf_self.symm.trans e) (by simp),
      fun _ _ _ => trivial,
      fun _ _ _ => trivial,
      fun _ _ _ => trivial,
      fun _ _ _ => trivial,
      fun _ _ _ => trivial,
      fun _ _ _ => trivial,
      fun _ _ _ => trivial,
      fun _ _ _ => trivial,
      fun _ _ => trivial,
      fun _ _ _ e => absurd (rtf_self.symm.trans e) (by simp),
      fun _ _ e => absurd (rtf_self.symm.trans e) (by simp),
      fun _ _ _ _ _ e => absurd (rtf_self.symm.trans e) (by simp),
      fun _ _ _ _ _ _ e => absurd (rtf_self.symm.trans e) (by simp),
      fun _ _ _ _ e => absurd (rtf_self.symm.trans e) (by simp),
      fun _ _ _ => trivial,
      fun _ _ _ _ _ e => absurd (rtf_self.symm.trans e) (by simp),
      fun _ _ _ _ _ _ _ _ _ _ e => absurd (rtf_self.symm.trans e) (by simp),
      fun _ _ _ _ _ _ _ _ _ _ _ e => absurd (rtf_self.symm.trans e) (by simp),
      fun _ _ _ _ _ _ _ _ _ _ _ _ _ _ _ _ _ _ _ _ _ _ _ _ _ _ _ _ _ _ _ _ _ e => absurd (rtf_self.symm.trans e) (by simp),
      fun _ _ _ _ _ _ _ _ _ e => absurd (rtf_self.symm.trans e) (by simp)⟩
theorem WT.ext_longs {ty : TyM} {L : List Nat} {q9 ρ n : Nat} (hW : WT ty L) (hq : q9 ∉ L) : WT (rtf ty q9 (19, ρ, [n])) (L ++ [q9]) := by
  intro a ha
  rcases List.mem_append.mp ha with hl | hl
  · have h9 := hW a hl
    have hne : a ≠ q9 := ne_in hq hl
    exact ⟨fun _ _ _ e => wt_bytes_ext hq ((h9.1) _ _ _ ((rtf_ne hne).symm.trans e)),
      fun _ _ _ => trivial,
      fun _ _ _ => trivial,
      fun _ _ _ => trivial,
      fun _ _ _ => trivial,
      fun _ _ _ => trivial,
      fun _ _ _ => trivial,
      fun _ _ _ => trivial,
      fun _ _ _ => trivial,
      fun _ _ => trivial,
      fun _ _ _ e => wt_entry_ext hq ((h9.2.2.2.2.2.2.2.2.2.2.1) _ _ _ ((rtf_ne hne).symm.trans e)),
      fun _ _ e => wt_dir_ext hq ((h9.2.2.2.2.2.2.2.2.2.2.2.1) _ _ ((rtf_ne hne).symm.trans e)),
      fun _ _ _ _ _ e => wt_msg_ext hq ((h9.2.2.2.2.2.2.2.2.2.2.2.2.1) _ _ _ _ _ ((rtf_ne hne).symm.trans e)),
      fun _ _ _ _ _ _ e => wt_tags_ext hq ((h9.2.2.2.2.2.2.2.2.2.2.2.2.2.1) _ _ _ _ _ _ ((rtf_ne hne).symm.trans e)),
      fun _ _ _ _ e => wt_sha_ext hq ((h9.2.2.2.2.2.2.2.2.2.2.2.2.2.2.1) _ _ _ _ ((rtf_ne hne).symm.trans e)),
      fun _ _ _ => trivial,
      fun _ _ _ _ _ e => wt_power_ext hq ((h9.2.2.2.2.2.2.2.2.2.2.2.2.2.2.2.2.1) _ _ _ _ _ ((rtf_ne hne).symm.trans e)),
      fun _ _ _ _ _ _ _ _ _ _ e => wt_chk_ext hq ((h9.2.2.2.2.2.2.2.2.2.2.2.2.2.2.2.2.2.1) _ _ _ _ _ _ _ _ _ _ ((rtf_ne hne).symm.trans e)),
      fun _ _ _ _ _ _ _ _ _ _ _ e => wt_pol_ext hq ((h9.2.2.2.2.2.2.2.2.2.2.2.2.2.2.2.2.2.2.1) _ _ _ _ _ _ _ _ _ _ _ ((rtf_ne hne).symm.trans e)),
      fun _ _ _ _ _ _ _ _ _ _ _ _ _ _ _ _ _ _ _ _ _ _ _ _ _ _ _ _ _ _ _ _ _ e => wt_slr_ext hq ((h9.2.2.2.2.2.2.2.2.2.2.2.2.2.2.2.2.2.2.2.1) _ _ _ _ _ _ _ _ _ _ _ _ _ _ _ _ _ _ _ _ _ _ _ _ _ _ _ _ _ _ _ _ _ ((rtf_ne hne).symm.trans e)),
      fun _ _ _ _ _ _ _ _ _ e => wt_gate_ext hq ((h9.2.2.2.2.2.2.2.2.2.2.2.2.2.2.2.2.2.2.2.2) _ _ _ _ _ _ _ _ _ ((rtf_ne hne).symm.trans e))⟩
  · rw [List.mem_singleton] at hl
    subst hl
    exact ⟨fun _ _ _ e => absurd (rtf_self.symm.trans e) (by simp),
      fun _ _ _ => trivial,
      fun _ _ _ => trivial,
      fun _ _ _ => trivial,
      fun _ _ _ => trivial,
      fun _ _ _ => trivial,
      fun _ _ _ => trivial,
      fun _ _ _ => trivial,
      fun _ _ _ => trivial,
      fun _ _ => trivial,
      fun _ _ _ e => absurd (rtf_self.symm.trans e) (by simp),
      fun _ _ e => absurd (rtf_self.symm.trans e) (by simp),
      fun _ _ _ _ _ e => absurd (rtf_self.symm.trans e) (by simp),
      fun _ _ _ _ _ _ e => absurd (rtf_self.symm.trans e) (by simp),
      fun _ _ _ _ e => absurd (rtf_self.symm.trans e) (by simp),
      fun _ _ _ => trivial,
      fun _ _ _ _ _ e => absurd (rtf_self.symm.trans e) (by simp),
      fun _ _ _ _ _ _ _ _ _ _ e => absurd (rtf_self.symm.trans e) (by simp),
      fun _ _ _ _ _ _ _ _ _ _ _ e => absurd (rtf_self.symm.trans e) (by simp),
      fun _ _ _ _ _ _ _ _ _ _ _ _ _ _ _ _ _ _ _ _ _ _ _ _ _ _ _ _ _ _ _ _ _ e => absurd (rtf_self.symm.trans e) (by simp),
      fun _ _ _ _ _ _ _ _ _ e => absurd (rtf_self.symm.trans e) (by simp)⟩
theorem wtm_txt_ext {ty : TyM} {gm : Nat → Nat → Nat} {L : List Nat} {q9 ρ r n : Nat} {e0 : TyE} (hq : q9 ∉ L) (h : wtm_txt ty gm L ρ r n) : wtm_txt (rtf ty q9 e0) gm (L ++ [q9]) ρ r n := by
  obtain ⟨p0, p1, p2⟩ := h
  exact ⟨List.mem_append_left _ p0, rtf_in hq p0 p1, p2⟩
theorem wtm_octs_ext {ty : TyM} {gm : Nat → Nat → Nat} {L : List Nat} {q9 ρ n : Nat} {e0 : TyE} (hq : q9 ∉ L) (h : wtm_octs ty gm L ρ n) : wtm_octs (rtf ty q9 e0) gm (L ++ [q9]) ρ n := by
  obtain ⟨p0, p1⟩ := h
  exact ⟨p0, p1⟩
theorem wtm_ints_ext {ty : TyM} {gm : Nat → Nat → Nat} {L : List Nat} {q9 ρ n : Nat} {e0 : TyE} (hq : q9 ∉ L) (h : wtm_ints ty gm L ρ n) : wtm_ints (rtf ty q9 e0) gm (L ++ [q9]) ρ n := by
  obtain ⟨p0, p1⟩ := h
  exact ⟨p0, p1⟩
theorem wtm_hash_ext {ty : TyM} {gm : Nat → Nat → Nat} {L : List Nat} {q9 ρ x y w u bl : Nat} {e0 : TyE} (hq : q9 ∉ L) (h : wtm_hash ty gm L ρ x y w u bl) : wtm_hash (rtf ty q9 e0) gm (L ++ [q9]) ρ x y w u bl := by
  obtain ⟨p0, p1, p2, p3, p4, p5, p6, p7, p8, p9⟩ := h
  exact ⟨List.mem_append_left _ p0, List.mem_append_left _ p1, List.mem_append_left _ p2, List.mem_append_left _ p3, List.mem_append_left _ p4, rtf_in hq p0 p5, rtf_in hq p1 p6, rtf_in hq p2 p7, rtf_in hq p3 p8, rtf_in hq p4 p9⟩
theorem wtm_tags_ext {ty : TyM} {gm : Nat → Nat → Nat} {L : List Nat} {q9 ρ x n B y0 y1 y2 : Nat} {e0 : TyE} (hq : q9 ∉ L) (h : wtm_tags ty gm L ρ x n B y0 y1 y2) : wtm_tags (rtf ty q9 e0) gm (L ++ [q9]) ρ x n B y0 y1 y2 := by
  obtain ⟨p0, p1, p2, p3, ⟨r_4, p4⟩, p5, p6, p7, p8, p9⟩ := h
  exact ⟨List.mem_append_left _ p0, List.mem_append_left _ p1, List.mem_append_left _ p2, List.mem_append_left _ p3, ⟨r_4, rtf_in hq p0 p4⟩, rtf_in hq p1 p5, rtf_in hq p2 p6, rtf_in hq p3 p7, p8, p9⟩
theorem wtm_mod_ext {ty : TyM} {gm : Nat → Nat → Nat} {L : List Nat} {q9 ρ ta ou so ad na va lc dm tg pe ml bg co sp nb0 nb1 nb2 pl se ke wi hs mo po nu pr sq xa sa n64 m64 ex wh sd tk hd ak ho ot sx s0 s1 s2 nf bd mm zo fm sn hg gc gv ze zt : Nat} {e0 : TyE} (hq : q9 ∉ L) (h : wtm_mod ty gm L ρ ta ou so ad na va lc dm tg pe ml bg co sp nb0 nb1 nb2 pl se ke wi hs mo po nu pr sq xa sa n64 m64 ex wh sd tk hd ak ho ot sx s0 s1 s2 nf bd mm zo fm sn hg gc gv ze zt) : wtm_mod (rtf ty q9 e0) gm (L ++ [q9]) ρ ta ou so ad na va lc dm tg pe ml bg co sp nb0 nb1 nb2 pl se ke wi hs mo po nu pr sq xa sa n64 m64 ex wh sd tk hd ak ho ot sx s0 s1 s2 nf bd mm zo fm sn hg gc gv ze zt := by
  obtain ⟨p0, p1, p2, p3, p4, p5, p6, p7, p8, p9, p10, p11, p12, ⟨r_13, p13⟩, p14, ⟨r_15, p15⟩, p16, p17, p18, ⟨r_19, p19⟩, p20, p21, p22, p23, p24, p25, p26, p27, p28, p29, p30, p31, p32, p33, p34, ⟨r_35, p35⟩, p36, p37, p38, ⟨x_39, y0_39, y1_39, y2_39, p39⟩, p40, ⟨x_41, y0_41, y1_41, y2_41, p41⟩, p42, ⟨x_43, y_43, w_43, u_43, bl_43, p43⟩, p44, p45, p46, p47, p48, p49, p50, p51, p52, p53, p54, p55, p56, p57, p58, p59, p60, p61, p62, p63, p64, ⟨r_65, p65⟩, p66, ⟨r_67, p67⟩, p68, p69, p70, p71, p72, ⟨r_73, p73⟩, p74, ⟨r_75, p75⟩, p76, ⟨r_77, p77⟩, p78, p79, p80, p81, p82, p83, p84, p85, p86⟩ := h
  exact ⟨List.mem_append_left _ p0, rtf_in hq p0 p1, List.mem_append_left _ p2, rtf_in hq p2 p3, List.mem_append_left _ p4, rtf_in hq p4 p5, List.mem_append_left _ p6, rtf_in hq p6 p7, List.mem_append_left _ p8, rtf_in hq p8 p9, List.mem_append_left _ p10, rtf_in hq p10 p11, List.mem_append_left _ p12, ⟨r_13, rtf_in hq p12 p13⟩, List.mem_append_left _ p14, ⟨r_15, rtf_in hq p14 p15⟩, List.mem_append_left _ p16, rtf_in hq p16 p17, List.mem_append_left _ p18, ⟨r_19, rtf_in hq p18 p19⟩, List.mem_append_left _ p20, rtf_in hq p20 p21, List.mem_append_left _ p22, rtf_in hq p22 p23, List.mem_append_left _ p24, rtf_in hq p24 p25, List.mem_append_left _ p26, rtf_in hq p26 p27, List.mem_append_left _ p28, rtf_in hq p28 p29, List.mem_append_left _ p30, rtf_in hq p30 p31, List.mem_append_left _ p32, rtf_in hq p32 p33, List.mem_append_left _ p34, ⟨r_35, rtf_in hq p34 p35⟩, List.mem_append_left _ p36, rtf_in hq p36 p37, List.mem_append_left _ p38, ⟨x_39, y0_39, y1_39, y2_39, rtf_in hq p38 p39⟩, List.mem_append_left _ p40, ⟨x_41, y0_41, y1_41, y2_41, rtf_in hq p40 p41⟩, List.mem_append_left _ p42, ⟨x_43, y_43, w_43, u_43, bl_43, rtf_in hq p42 p43⟩, List.mem_append_left _ p44, rtf_in hq p44 p45, List.mem_append_left _ p46, rtf_in hq p46 p47, List.mem_append_left _ p48, rtf_in hq p48 p49, List.mem_append_left _ p50, rtf_in hq p50 p51, List.mem_append_left _ p52, rtf_in hq p52 p53, List.mem_append_left _ p54, rtf_in hq p54 p55, List.mem_append_left _ p56, rtf_in hq p56 p57, List.mem_append_left _ p58, rtf_in hq p58 p59, List.mem_append_left _ p60, rtf_in hq p60 p61, List.mem_append_left _ p62, rtf_in hq p62 p63, List.mem_append_left _ p64, ⟨r_65, rtf_in hq p64 p65⟩, List.mem_append_left _ p66, ⟨r_67, rtf_in hq p66 p67⟩, List.mem_append_left _ p68, rtf_in hq p68 p69, List.mem_append_left _ p70, rtf_in hq p70 p71, List.mem_append_left _ p72, ⟨r_73, rtf_in hq p72 p73⟩, List.mem_append_left _ p74, ⟨r_75, rtf_in hq p74 p75⟩, List.mem_append_left _ p76, ⟨r_77, rtf_in hq p76 p77⟩, p78, p79, p80, p81, p82, p83, p84, p85, p86⟩
theorem shm.ext {cs : Nat → ClassId} {ty : TyM} {gm : Nat → Nat → Nat} {L : List Nat} {a q9 : Nat} {e0 : TyE} {x : va_E} (ha : a ∈ L) (hq : q9 ∉ L) (h : shm cs ty gm L a x) : shm cs (rtf ty q9 e0) gm (L ++ [q9]) a x :=
  have hne : a ≠ q9 := ne_in hq ha
  ⟨fun _ _ _ e => (h.1) _ _ _ ((rtf_ne hne).symm.trans e),
   fun _ _ e => (h.2.1) _ _ ((rtf_ne hne).symm.trans e),
   fun _ _ e => (h.2.2.1) _ _ ((rtf_ne hne).symm.trans e),
   fun _ _ e => (h.2.2.2.1) _ _ ((rtf_ne hne).symm.trans e),
   fun _ _ _ e => (h.2.2.2.2.1) _ _ _ ((rtf_ne hne).symm.trans e),
   fun _ _ e => (h.2.2.2.2.2.1) _ _ ((rtf_ne hne).symm.trans e),
   fun _ _ _ e => by
      obtain ⟨f, h1, h2⟩ := (h.2.2.2.2.2.2.1) _ _ _ ((rtf_ne hne).symm.trans e)
      exact ⟨f, h1, fun j hj => by obtain ⟨b, r, x1, x2, x3⟩ := h2 j hj; exact ⟨b, r, x1, List.mem_append_left _ x2, rtf_in hq x2 x3⟩⟩,
   fun _ _ _ e => by
      obtain ⟨f, h1, h2⟩ := (h.2.2.2.2.2.2.2.1) _ _ _ ((rtf_ne hne).symm.trans e)
      exact ⟨f, h1, fun j hj => by obtain ⟨b, r, x1, x2, x3⟩ := h2 j hj; exact ⟨b, r, x1, List.mem_append_left _ x2, rtf_in hq x2 x3⟩⟩,
   fun _ _ _ _ _ _ e => (h.2.2.2.2.2.2.2.2.1) _ _ _ _ _ _ ((rtf_ne hne).symm.trans e),
   fun _ _ e => (h.2.2.2.2.2.2.2.2.2.1) _ _ ((rtf_ne hne).symm.trans e),
   fun _ _ _ _ _ _ _ e => (h.2.2.2.2.2.2.2.2.2.2.1) _ _ _ _ _ _ _ ((rtf_ne hne).symm.trans e),
   fun _ _ _ _ _ _ _ _ _ _ _ _ _ _ _ _ _ _ _ _ _ _ _ _ _ _ _ _ _ _ _ _ _ _ _ _ _ _ _ _ _ _ _ _ _ _ _ _ _ _ _ _ _ _ _ e => (h.2.2.2.2.2.2.2.2.2.2.2) _ _ _ _ _ _ _ _ _ _ _ _ _ _ _ _ _ _ _ _ _ _ _ _ _ _ _ _ _ _ _ _ _ _ _ _ _ _ _ _ _ _ _ _ _ _ _ _ _ _ _ _ _ _ _ ((rtf_ne hne).symm.trans e)⟩
theorem OKm.ext {cs : Nat → ClassId} {ty : TyM} {gm : Nat → Nat → Nat} {L : List Nat} {F : Nat → va_E} {q9 : Nat} {e0 : TyE} {x : va_E} (hO : OKm cs ty gm L F) (hq : q9 ∉ L) (hx : shm cs (rtf ty q9 e0) gm (L ++ [q9]) q9 x) : OKm cs (rtf ty q9 e0) gm (L ++ [q9]) (va_up F q9 x) := by
  intro b hb
  rcases List.mem_append.mp hb with h | h
  · rw [up_ne (ne_in hq h)]
    exact (hO b h).ext h hq
  · rw [List.mem_singleton] at h
    subst h
    rw [up_self]
    exact hx
theorem shm.raw {cs : Nat → ClassId} {ty : TyM} {gm : Nat → Nat → Nat} {L : List Nat} {a ρ : Nat} {im : List Nat} {x : va_E} (ht : ty a = (99, ρ, im)) : shm cs ty gm L a x :=
  ⟨fun _ _ _ e => absurd (ht.symm.trans e) (by simp), fun _ _ e => absurd (ht.symm.trans e) (by simp), fun _ _ e => absurd (ht.symm.trans e) (by simp), fun _ _ e => absurd (ht.symm.trans e) (by simp), fun _ _ _ e => absurd (ht.symm.trans e) (by simp), fun _ _ e => absurd (ht.symm.trans e) (by simp), fun _ _ _ e => absurd (ht.symm.trans e) (by simp), fun _ _ _ e => absurd (ht.symm.trans e) (by simp), fun _ _ _ _ _ _ e => absurd (ht.symm.trans e) (by simp), fun _ _ e => absurd (ht.symm.trans e) (by simp), fun _ _ _ _ _ _ _ e => absurd (ht.symm.trans e) (by simp), fun _ _ _ _ _ _ _ _ _ _ _ _ _ _ _ _ _ _ _ _ _ _ _ _ _ _ _ _ _ _ _ _ _ _ _ _ _ _ _ _ _ _ _ _ _ _ _ _ _ _ _ _ _ _ _ e => absurd (ht.symm.trans e) (by simp)⟩
theorem WTm.ext_raw {ty : TyM} {gm : Nat → Nat → Nat} {L : List Nat} {q9 ρ : Nat} (hW : WTm ty gm L) (hq : q9 ∉ L) : WTm (rtf ty q9 (99, ρ, [])) gm (L ++ [q9]) := by
  intro a ha
  rcases List.mem_append.mp ha with hl | hl
  · have h9 := hW a hl
    have hne : a ≠ q9 := ne_in hq hl
    exact ⟨fun _ _ _ e => wtm_txt_ext hq ((h9.1) _ _ _ ((rtf_ne hne).symm.trans e)),
      fun _ _ e => wtm_octs_ext hq ((h9.2.1) _ _ ((rtf_ne hne).symm.trans e)),
      fun _ _ e => wtm_ints_ext hq ((h9.2.2.1) _ _ ((rtf_ne hne).symm.trans e)),
      fun _ _ _ => trivial,
      fun _ _ _ _ => trivial,
      fun _ _ _ => trivial,
      fun _ _ _ _ => trivial,
      fun _ _ _ _ => trivial,
      fun _ _ _ _ _ _ e => wtm_hash_ext hq ((h9.2.2.2.2.2.2.2.2.1) _ _ _ _ _ _ ((rtf_ne hne).symm.trans e)),
      fun _ _ _ => trivial,
      fun _ _ _ _ _ _ _ e => wtm_tags_ext hq ((h9.2.2.2.2.2.2.2.2.2.2.1) _ _ _ _ _ _ _ ((rtf_ne hne).symm.trans e)),
      fun _ _ _ _ _ _ _ _ _ _ _ _ _ _ _ _ _ _ _ _ _ _ _ _ _ _ _ _ _ _ _ _ _ _ _ _ _ _ _ _ _ _ _ _ _ _ _ _ _ _ _ _ _ _ _ e => wtm_mod_ext hq ((h9.2.2.2.2.2.2.2.2.2.2.2) _ _ _ _ _ _ _ _ _ _ _ _ _ _ _ _ _ _ _ _ _ _ _ _ _ _ _ _ _ _ _ _ _ _ _ _ _ _ _ _ _ _ _ _ _ _ _ _ _ _ _ _ _ _ _ ((rtf_ne hne).symm.trans e))⟩
  · rw [List.mem_singleton] at hl
    subst hl
    exact ⟨fun _ _ _ e => absurd (rtf_self.symm.trans e) (by simp),
      fun _ _ e => absurd (rtf_self.symm.trans e) (by simp),
      fun _ _ e => absurd (rtf_self.symm.trans e) (by simp),
      fun _ _ _ => trivial,
      fun _ _ _ _ => trivial,
      fun _ _ _ => trivial,
      fun _ _ _ _ => trivial,
      fun _ _ _ _ => trivial,
      fun _ _ _ _ _ _ e => absurd (rtf_self.symm.trans e) (by simp),
      fun _ _ _ => trivial,
      fun _ _ _ _ _ _ _ e => absurd (rtf_self.symm.trans e) (by simp),
      fun _ _ _ _ _ _ _ _ _ _ _ _ _ _ _ _ _ _ _ _ _ _ _ _ _ _ _ _ _ _ _ _ _ _ _ _ _ _ _ _ _ _ _ _ _ _ _ _ _ _ _ _ _ _ _ e => absurd (rtf_self.symm.trans e) (by simp)⟩
theorem WTm.ext_octs {ty : TyM} {gm : Nat → Nat → Nat} {L : List Nat} {q9 ρ n : Nat} (hW : WTm ty gm L) (hq : q9 ∉ L) (hnew : wtm_octs (rtf ty q9 (17, ρ, [n])) gm (L ++ [q9]) ρ n) : WTm (rtf ty q9 (17, ρ, [n])) gm (L ++ [q9]) := by
  intro a ha
  rcases List.mem_append.mp ha with hl | hl
  · have h9 := hW a hl
    have hne : a ≠ q9 := ne_in hq hl
    exact ⟨fun _ _ _ e => wtm_txt_ext hq ((h9.1) _ _ _ ((rtf_ne hne).symm.trans e)),
      fun _ _ e => wtm_octs_ext hq ((h9.2.1) _ _ ((rtf_ne hne).symm.trans e)),
      fun _ _ e => wtm_ints_ext hq ((h9.2.2.1) _ _ ((rtf_ne hne).symm.trans e)),
      fun _ _ _ => trivial,
      fun _ _ _ _ => trivial,
      fun _ _ _ => trivial,
      fun _ _ _ _ => trivial,
      fun _ _ _ _ => trivial,
      fun _ _ _ _ _ _ e => wtm_hash_ext hq ((h9.2.2.2.2.2.2.2.2.1) _ _ _ _ _ _ ((rtf_ne hne).symm.trans e)),
      fun _ _ _ => trivial,
      fun _ _ _ _ _ _ _ e => wtm_tags_ext hq ((h9.2.2.2.2.2.2.2.2.2.2.1) _ _ _ _ _ _ _ ((rtf_ne hne).symm.trans e)),
      fun _ _ _ _ _ _ _ _ _ _ _ _ _ _ _ _ _ _ _ _ _ _ _ _ _ _ _ _ _ _ _ _ _ _ _ _ _ _ _ _ _ _ _ _ _ _ _ _ _ _ _ _ _ _ _ e => wtm_mod_ext hq ((h9.2.2.2.2.2.2.2.2.2.2.2) _ _ _ _ _ _ _ _ _ _ _ _ _ _ _ _ _ _ _ _ _ _ _ _ _ _ _ _ _ _ _ _ _ _ _ _ _ _ _ _ _ _ _ _ _ _ _ _ _ _ _ _ _ _ _ ((rtf_ne hne).symm.trans e))⟩
  · rw [List.mem_singleton] at hl
    subst hl
    exact ⟨fun _ _ _ e => absurd (rtf_self.symm.trans e) (by simp),
      fun _ _ e => by
        have e9 := rtf_self.symm.trans e
        cases e9
        exact hnew,
      fun _ _ e => absurd (rtf_self.symm.trans e) (by simp),
      fun _ _ _ => trivial,
      fun _ _ _ _ => trivial,
      fun _ _ _ => trivial,
      fun _ _ _ _ => trivial,
      fun _ _ _ _ => trivial,
      fun _ _ _ _ _ _ e => absurd (rtf_self.symm.trans e) (by simp),
      fun _ _ _ => trivial,
      fun _ _ _ _ _ _ _ e => absurd (rtf_self.symm.trans e) (by simp),
      fun _ _ _ _ _ _ _ _ _ _ _ _ _ _ _ _ _ _ _ _ _ _ _ _ _ _ _ _ _ _ _ _ _ _ _ _ _ _ _ _ _ _ _ _ _ _ _ _ _ _ _ _ _ _ _ e => absurd (rtf_self.symm.trans e) (by simp)⟩
theorem WTm.ext_ints {ty : TyM} {gm : Nat → Nat → Nat} {L : List Nat} {q9 ρ n : Nat} (hW : WTm ty gm L) (hq : q9 ∉ L) (hnew : wtm_ints (rtf ty q9 (16, ρ, [n])) gm (L ++ [q9]) ρ n) : WTm (rtf ty q9 (16, ρ, [n])) gm (L ++ [q9]) := by
  intro a ha
  rcases List.mem_append.mp ha with hl | hl
  · have h9 := hW a hl
    have hne : a ≠ q9 := ne_in hq hl
    exact ⟨fun _ _ _ e => wtm_txt_ext hq ((h9.1) _ _ _ ((rtf_ne hne).symm.trans e)),
      fun _ _ e => wtm_octs_ext hq ((h9.2.1) _ _ ((rtf_ne hne).symm.trans e)),
      fun _ _ e => wtm_ints_ext hq ((h9.2.2.1) _ _ ((rtf_ne hne).symm.trans e)),
      fun _ _ _ => trivial,
      fun _ _ _ _ => trivial,
      fun _ _ _ => trivial,
      fun _ _ _ _ => trivial,
      fun _ _ _ _ => trivial,
      fun _ _ _ _ _ _ e => wtm_hash_ext hq ((h9.2.2.2.2.2.2.2.2.1) _ _ _ _ _ _ ((rtf_ne hne).symm.trans e)),
      fun _ _ _ => trivial,
      fun _ _ _ _ _ _ _ e => wtm_tags_ext hq ((h9.2.2.2.2.2.2.2.2.2.2.1) _ _ _ _ _ _ _ ((rtf_ne hne).symm.trans e)),
      fun _ _ _ _ _ _ _ _ _ _ _ _ _ _ _ _ _ _ _ _ _ _ _ _ _ _ _ _ _ _ _ _ _ _ _ _ _ _ _ _ _ _ _ _ _ _ _ _ _ _ _ _ _ _ _ e => wtm_mod_ext hq ((h9.2.2.2.2.2.2.2.2.2.2.2) _ _ _ _ _ _ _ _ _ _ _ _ _ _ _ _ _ _ _ _ _ _ _ _ _ _ _ _ _ _ _ _ _ _ _ _ _ _ _ _ _ _ _ _ _ _ _ _ _ _ _ _ _ _ _ ((rtf_ne hne).symm.trans e))⟩
  · rw [List.mem_singleton] at hl
    subst hl
    exact ⟨fun _ _ _ e => absurd (rtf_self.symm.trans e) (by simp),
      fun _ _ e => absurd (rtf_self.symm.trans e) (by simp),
      fun _ _ e => by
        have e9 := rtf_self.symm.trans e
        cases e9
        exact hnew,
      fun _ _ _ => trivial,
      fun _ _ _ _ => trivial,
      fun _ _ _ => trivial,
      fun _ _ _ _ => trivial,
      fun _ _ _ _ => trivial,
      fun _ _ _ _ _ _ e => absurd (rtf_self.symm.trans e) (by simp),
      fun _ _ _ => trivial,
      fun _ _ _ _ _ _ _ e => absurd (rtf_self.symm.trans e) (by simp),
      fun _ _ _ _ _ _ _ _ _ _ _ _ _ _ _ _ _ _ _ _ _ _ _ _ _ _ _ _ _ _ _ _ _ _ _ _ _ _ _ _ _ _ _ _ _ _ _ _ _ _ _ _ _ _ _ e => absurd (rtf_self.symm.trans e) (by simp)⟩
theorem WTm.ext_bits {ty : TyM} {gm : Nat → Nat → Nat} {L : List Nat} {q9 ρ n : Nat} (hW : WTm ty gm L) (hq : q9 ∉ L) : WTm (rtf ty q9 (18, ρ, [n])) gm (L ++ [q9]) := by
  intro a ha
  rcases List.mem_append.mp ha with hl | hl
  · have h9 := hW a hl
    have hne : a ≠ q9 := ne_in hq hl
    exact ⟨fun _ _ _ e => wtm_txt_ext hq ((h9.1) _ _ _ ((rtf_ne hne).symm.trans e)),
      fun _ _ e => wtm_octs_ext hq ((h9.2.1) _ _ ((rtf_ne hne).symm.trans e)),
      fun _ _ e => wtm_ints_ext hq ((h9.2.2.1) _ _ ((rtf_ne hne).symm.trans e)),
      fun _ _ _ => trivial,
      fun _ _ _ _ => trivial,
      fun _ _ _ => trivial,
      fun _ _ _ _ => trivial,
      fun _ _ _ _ => trivial,
      fun _ _ _ _ _ _ e => wtm_hash_ext hq ((h9.2.2.2.2.2.2.2.2.1) _ _ _ _ _ _ ((rtf_ne hne).symm.trans e)),
      fun _ _ _ => trivial,
      fun _ _ _ _ _ _ _ e => wtm_tags_ext hq ((h9.2.2.2.2.2.2.2.2.2.2.1) _ _ _ _ _ _ _ ((rtf_ne hne).symm.trans e)),
      fun _ _ _ _ _ _ _ _ _ _ _ _ _ _ _ _ _ _ _ _ _ _ _ _ _ _ _ _ _ _ _ _ _ _ _ _ _ _ _ _ _ _ _ _ _ _ _ _ _ _ _ _ _ _ _ e => wtm_mod_ext hq ((h9.2.2.2.2.2.2.2.2.2.2.2) _ _ _ _ _ _ _ _ _ _ _ _ _ _ _ _ _ _ _ _ _ _ _ _ _ _ _ _ _ _ _ _ _ _ _ _ _ _ _ _ _ _ _ _ _ _ _ _ _ _ _ _ _ _ _ ((rtf_ne hne).symm.trans e))⟩
  · rw [List.mem_singleton] at hl
    subst hl
    exact ⟨fun _ _ _ e => absurd (rtf_self.symm.trans e) (by simp),
      fun _ _ e => absurd (rtf_self.symm.trans e) (by simp),
      fun _ _ e => absurd (rtf_self.symm.trans e) (by simp),
      fun _ _ _ => trivial,
      fun _ _ _ _ => trivial,
      fun _ _ _ => trivial,
      fun _ _ _ _ => trivial,
      fun _ _ _ _ => trivial,
      fun _ _ _ _ _ _ e => absurd (rtf_self.symm.trans e) (by simp),
      fun _ _ _ => trivial,
      fun _ _ _ _ _ _ _ e => absurd (rtf_self.symm.trans e) (by simp),
      fun _ _ _ _ _ _ _ _ _ _ _ _ _ _ _ _ _ _ _ _ _ _ _ _ _ _ _ _ _ _ _ _ _ _ _ _ _ _ _ _ _ _ _ _ _ _ _ _ _ _ _ _ _ _ _ e => absurd (rtf_self.symm.trans e) (by simp)⟩
theorem rtf_comm {ty : TyM} {a b : Nat} {x y : TyE} (h : a ≠ b) : rtf (rtf ty a x) b y = rtf (rtf ty b y) a x := by
  funext k
  by_cases ca : k = a
  · subst ca
    rw [rtf_ne h, rtf_self, rtf_self]
  · by_cases cb : k = b
    · subst cb
      rw [rtf_self, rtf_ne ca, rtf_self]
    · rw [rtf_ne cb, rtf_ne ca, rtf_ne ca, rtf_ne cb]
theorem FR.cut {ty : TyM} {q : Nat} {e0 : TyE} {S : List Nat} {F G : Nat → va_E} (hR : FR (rtf ty q e0) S F G) : FR ty S F (va_up G q (F q)) := by
  intro a ha
  by_cases c : a = q
  · subst c
    exact up_self
  · rw [up_ne c]
    exact hR a (by rw [rtf_ne c]; exact ha)
theorem pl_sub {L : List Nat} {G : Nat → va_E} {q : Nat} {y : va_E} (hq : q ∉ L) : ∀ (k : Nat) (z : Nat × va_E), (va_pl L (va_up G q y))[k]? = some z → (va_pl (L ++ [q]) G)[k]? = some z := by
  intro k z h
  have e1 : va_pl L (va_up G q y) = va_pl L G := List.map_congr_left (fun a ha => by rw [up_ne (ne_in hq ha)])
  rw [e1] at h
  have e2 : va_pl (L ++ [q]) G = va_pl L G ++ va_pl [q] G := List.map_append
  rw [e2, List.getElem?_append_left (List.getElem?_eq_some_iff.mp h).1]
  exact h
theorem cid_int {D : va_G} {cl : List vw_C} {cs : Nat → ClassId} {cA : ClassId} {s : State} (h : va_K D cl (TYS cs) s) (h2 : va_K D cl (TYS cs ++ [(cA, .int)]) s) : cA = cs 16 := by
  have a : s.vm.findClass ("[" ++ FieldType.int.toString) = some (cs 16) := (h.2 0 (cs 16, .int) rfl).2
  have b : s.vm.findClass ("[" ++ FieldType.int.toString) = some cA := (h2.2 8 (cA, .int) rfl).2
  exact Option.some.inj (b.symm.trans a)
theorem OKm.cut {cs : Nat → ClassId} {ty : TyM} {gm : Nat → Nat → Nat} {L : List Nat} {F : Nat → va_E} {q : Nat} {e0 : TyE} {x : va_E} (hq : q ∉ L) (he : e0.1 ≠ 14) (hO : OKm cs (rtf ty q e0) gm (L ++ [q]) F) : OKm cs ty gm L (va_up F q x) := by
  intro a ha
  have c : a ≠ q := fun w => hq (w ▸ ha)
  rw [up_ne c]
  have h := hO a (List.mem_append_left _ ha)
  exact ⟨fun _ _ _ e => (h.1) _ _ _ ((rtf_ne c).trans e),
   fun _ _ e => (h.2.1) _ _ ((rtf_ne c).trans e),
   fun _ _ e => (h.2.2.1) _ _ ((rtf_ne c).trans e),
   fun _ _ e => (h.2.2.2.1) _ _ ((rtf_ne c).trans e),
   fun _ _ _ e => (h.2.2.2.2.1) _ _ _ ((rtf_ne c).trans e),
   fun _ _ e => (h.2.2.2.2.2.1) _ _ ((rtf_ne c).trans e),
   fun ρ n rm e => by
      obtain ⟨f, h1, h2⟩ := (h.2.2.2.2.2.2.1) ρ n rm ((rtf_ne c).trans e)
      refine ⟨f, h1, fun j hj => ?_⟩
      obtain ⟨b, r, x1, x2, x3⟩ := h2 j hj
      have cb : b ≠ q := fun w => he (by rw [w, rtf_self] at x3; rw [x3])
      refine ⟨b, r, x1, ?_, (rtf_ne cb).symm.trans x3⟩
      rcases List.mem_append.mp x2 with y | y
      · exact y
      · exact absurd (List.mem_singleton.mp y) cb,
   fun ρ n rm e => by
      obtain ⟨f, h1, h2⟩ := (h.2.2.2.2.2.2.2.1) ρ n rm ((rtf_ne c).trans e)
      refine ⟨f, h1, fun j hj => ?_⟩
      obtain ⟨b, r, x1, x2, x3⟩ := h2 j hj
      have cb : b ≠ q := fun w => he (by rw [w, rtf_self] at x3; rw [x3])
      refine ⟨b, r, x1, ?_, (rtf_ne cb).symm.trans x3⟩
      rcases List.mem_append.mp x2 with y | y
      · exact y
      · exact absurd (List.mem_singleton.mp y) cb,
   fun _ _ _ _ _ _ e => (h.2.2.2.2.2.2.2.2.1) _ _ _ _ _ _ ((rtf_ne c).trans e),
   fun _ _ e => (h.2.2.2.2.2.2.2.2.2.1) _ _ ((rtf_ne c).trans e),
   fun _ _ _ _ _ _ _ e => (h.2.2.2.2.2.2.2.2.2.2.1) _ _ _ _ _ _ _ ((rtf_ne c).trans e),
   fun _ _ _ _ _ _ _ _ _ _ _ _ _ _ _ _ _ _ _ _ _ _ _ _ _ _ _ _ _ _ _ _ _ _ _ _ _ _ _ _ _ _ _ _ _ _ _ _ _ _ _ _ _ _ _ e => (h.2.2.2.2.2.2.2.2.2.2.2) _ _ _ _ _ _ _ _ _ _ _ _ _ _ _ _ _ _ _ _ _ _ _ _ _ _ _ _ _ _ _ _ _ _ _ _ _ _ _ _ _ _ _ _ _ _ _ _ _ _ _ _ _ _ _ ((rtf_ne c).trans e)⟩
