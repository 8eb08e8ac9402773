def tb : List Cond := lw_tbl.filter goodWord
theorem tb_at {i : Nat} {w : Cond} (h : lw_tbl[i]? = some w) (hg : goodWord w = true) : w ∈ tb := List.mem_filter.mpr ⟨List.mem_of_getElem? h, hg⟩
theorem tb_in {w : Cond} (h : w ∈ tb) : w ∈ lw_tbl := (List.mem_filter.mp h).1
theorem gi {c : Cond} (h : c ∈ tb) : GoodIn tb (c :: tb) := fun w hw => (List.mem_cons.mp hw).elim (fun e => e ▸ ⟨h, good_of_word (List.mem_filter.mp h).2⟩) (fun hw => ⟨hw, good_of_word (List.mem_filter.mp hw).2⟩)
def isNest : Cond → Bool
  | .fieldLinkNest .. => true
  | .methodLinkNest .. => true
  | _ => false
def nw : List Cond := tables_1.filter isNest
theorem nw_at {i : Nat} {w : Cond} (h : tables_1[i]? = some w) (hg : isNest w = true) : w ∈ nw := List.mem_filter.mpr ⟨List.mem_of_getElem? h, hg⟩
def ENV (U : State) : Prop := (∀ w ∈ nw, va_Nw w U) ∧ (va_AO RX3 U ∧ va_AO RX0 U ∧ va_AO RX10 U ∧ va_AO RX14 U) ∧ ∃ a, vk_R RX11 112 "dkim-signature" a U
theorem isNest_on {w : Cond} (h : isNest w = true) : w.onTables = true := by
  cases w <;> first | rfl | (simp [isNest] at h)
theorem nest_warm {w : Cond} (h : isNest w = true) {s U : State} (hW : s.WarmedH U.vm) (hZ : va_Nw w s) : va_Nw w U := by
  cases w <;> first | exact va_Nw.warmF hW hZ | exact va_Nw.warmM hW hZ | (simp [isNest] at h)
theorem ENV.warm {s U : State} (hW : s.WarmedH U.vm) (h : ENV s) : ENV U := by
  obtain ⟨h1, ⟨a1, a2, a3, a4⟩, q, h3⟩ := h
  exact ⟨fun w hw => nest_warm (List.mem_filter.mp hw).2 hW (h1 w hw), ⟨a1.moved hW.alike, a2.moved hW.alike, a3.moved hW.alike, a4.moved hW.alike⟩, q, h3.warm hW⟩
theorem ENV.same {u U : State} (hv : u.vm = U.vm) (h : ENV u) : ENV U := by
  obtain ⟨h1, ⟨a1, a2, a3, a4⟩, q, h3⟩ := h
  have hal : u.vm.Alike U.vm := hv ▸ Vm.Alike.refl u.vm
  exact ⟨fun w hw => va_Nw.same (isNest_on (List.mem_filter.mp hw).2) hv (h1 w hw), ⟨a1.moved hal, a2.moved hal, a3.moved hal, a4.moved hal⟩, q, h3.same hv.symm⟩
theorem ENV.nest {s : State} (h : ENV s) {w : Cond} (hw : w ∈ nw) {args : Array Value} : w.before args s = true := va_Nw.use (isNest_on (List.mem_filter.mp hw).2) (h.1 w hw)
theorem ENV.nestw {s : State} (h : ENV s) {w : Cond} (hw : w ∈ nw) : va_Nw w s := h.1 w hw
theorem ENV.ao3 {s : State} (h : ENV s) : va_AO RX3 s := h.2.1.1
theorem ENV.ao0 {s : State} (h : ENV s) : va_AO RX0 s := h.2.1.2.1
theorem ENV.ao10 {s : State} (h : ENV s) : va_AO RX10 s := h.2.1.2.2.1
theorem ENV.ao14 {s : State} (h : ENV s) : va_AO RX14 s := h.2.1.2.2.2
theorem ENV.str {s : State} (h : ENV s) : ∃ a, vk_R RX11 112 "dkim-signature" a s := h.2.2
def PW (D : va_G) (sz : Nat) (ws : va_W) (tys : List (ClassId × FieldType)) (U : State) : Prop := U.heap.size = sz ∧ va_P D vwCl ws U.heap ∧ va_K D vwCl tys U ∧ va_D (fun _ => True) ws ∧ ENV U
theorem PW.calling {D : va_G} {sz : Nat} {ws : va_W} {tys : List (ClassId × FieldType)} {U : State} {g : JFrame} {mk : MethodId} {a : Array Value} (h : PW D sz ws tys U) : PW D sz ws tys (U.calling g mk a) :=
  ⟨h.1, h.2.1, va_K.moved (u := U) (U := U.calling g mk a) (Vm.Alike.refl U.vm) h.2.2.1, h.2.2.2.1, ENV.same (u := U) (U := U.calling g mk a) rfl h.2.2.2.2⟩
theorem PW.mk {D : va_G} {ws : va_W} {tys : List (ClassId × FieldType)} {s U : State} {H : Heap} {A : Nat → Prop} (hU : U.heap = H) (hW : s.WarmedH U.vm) (hP : va_P D vwCl ws H) (hK : va_K D vwCl tys s) (hD : va_D A ws) (hE : ENV s) : PW D H.size ws tys U :=
  ⟨by rw [hU], by rw [hU]; exact hP, va_K.moved hW.alike hK, hD.weaken (fun _ _ _ _ => trivial), hE.warm hW⟩
def QW (D : va_G) (A : Nat → Prop) (ws : va_W) (tys : List (ClassId × FieldType)) (t : State) : Prop := va_P D vwCl ws t.heap ∧ va_K D vwCl tys t ∧ va_D A ws
theorem QW.mk {D : va_G} {A : Nat → Prop} {ws : va_W} {tys : List (ClassId × FieldType)} {s t : State} {H : Heap} (ht : t.heap = H) (hW : s.WarmedH t.vm) (hP : va_P D vwCl ws H) (hK : va_K D vwCl tys s) (hD : va_D A ws) : QW D A ws tys t :=
  ⟨by rw [ht]; exact hP, va_K.moved hW.alike hK, hD⟩
theorem QW.join {A0 : Nat → Prop} {D : va_G} {ws wc wr w1 : va_W} {tys ty1 : List (ClassId × FieldType)} {s t : State} {H H1 : Heap} (hP : va_P D vwCl ws H) (hD : va_D A0 ws) (hK : va_K D vwCl tys s) (isC isR : List Nat) (hC : isC.map (fun i => ws[i]?) = wc.map some) (hR : isR.map (fun i => ws[i]?) = wr.map some) (hn : va_nd isR = true) (hdis : ∀ i ∈ isR, i ∉ isC) (hk : ∀ q : Nat, q < H.size → ¬ va_A wc H.size q → H1[q]? = H[q]?) (hF : ∀ q, va_A wc H.size q → A0 q) (ht : t.heap = H1) (hvm : s.vm.Alike t.vm) (hB : QW D (va_A wc H.size) w1 ty1 t) : va_P D vwCl (wr ++ w1) H1 ∧ va_D A0 (wr ++ w1) ∧ va_K D vwCl (tys ++ ty1) s := by
  obtain ⟨b1, b2, b3⟩ := hB
  rw [ht] at b1
  obtain ⟨h1, h2⟩ := va_join hP hD isC isR hC hR hn hdis hk hF b1 b3
  exact ⟨h1, h2, hK.app (va_K.moved hvm.symm b2)⟩
theorem wl_loop {σ : Type} {p : Program} {l : Launch} {e : Env} {R : Room} {s : State} {m : MethodId} {args : Array Value} {below : List Frame} {meth : Method} {c : Code} {Q : State → Prop} (A : Nat → Prop) (D : va_G) (pc mL : Nat) (wsf : σ → va_W) (lvf : σ → List (Nat × Value)) (stf : σ → List Value) (cf sf : σ → Nat) (inv : σ → Prop) (μ : σ → Nat)
    (body : ∀ x : σ, inv x → (∀ y : σ, inv y → μ y < μ x → ∀ (H : Heap) (locs : List Loc), va_P D vwCl (wsf y) H → va_D A (wsf y) → va_S A s.heap H locs → ∀ ls : Array Slot, lv_has ls mL (lvf y) → W p l e R s m args below meth c H locs (cf y) (sf y) Q (F0 m pc ls (stf y))) →
      ∀ (H : Heap) (locs : List Loc), va_P D vwCl (wsf x) H → va_D A (wsf x) → va_S A s.heap H locs → ∀ ls : Array Slot, lv_has ls mL (lvf x) → W p l e R s m args below meth c H locs (cf x) (sf x) Q (F0 m pc ls (stf x)))
    (x : σ) (hx : inv x) : ∀ (H : Heap) (locs : List Loc), va_P D vwCl (wsf x) H → va_D A (wsf x) → va_S A s.heap H locs → ∀ ls : Array Slot, lv_has ls mL (lvf x) → W p l e R s m args below meth c H locs (cf x) (sf x) Q (F0 m pc ls (stf x)) := by
  suffices h : ∀ (k : Nat) (x : σ), μ x < k → inv x → ∀ (H : Heap) (locs : List Loc), va_P D vwCl (wsf x) H → va_D A (wsf x) → va_S A s.heap H locs → ∀ ls : Array Slot, lv_has ls mL (lvf x) → W p l e R s m args below meth c H locs (cf x) (sf x) Q (F0 m pc ls (stf x)) from h (μ x + 1) x (Nat.lt_succ_self _) hx
  intro k
  induction k with
  | zero => intro x h; exact absurd h (Nat.not_lt_zero _)
  | succ k ih => exact fun x h hi => body x hi (fun y hy hm => ih y (Nat.lt_of_lt_of_le hm (Nat.le_of_lt_succ h)) hy)
def shBl : List Int32 := [1779033703, -1150833019, 1013904242, -1521486534, 1359893119, -1694144372, 528734635, 1541459225]
def shFl : List Int32 := [1116352408, 1899447441, -1245643825, -373957723, 961987163, 1508970993, -1841331548, -1424204075, -670586216, 310598401, 607225278, 1426881987, 1925078388, -2132889090, -1680079193, -1046744716, -459576895, -272742522, 264347078, 604807628, 770255983, 1249150122, 1555081692, 1996064986, -1740746414, -1473132947, -1341970488, -1084653625, -958395405, -710438585, 113926993, 338241895, 666307205, 773529912, 1294757372, 1396182291, 1695183700, 1986661051, -2117940946, -1838011259, -1564481375, -1474664885, -1035236496, -949202525, -778901479, -694614492, -200395387, 275423344, 430227734, 506948616, 659060556, 883997877, 958139571, 1322822218, 1537002063, 1747873779, 1955562222, 2024104815, -2067236844, -1933114872, -1866530822, -1538233109, -1090935817, -965641998]
def shB (j : Nat) : Int32 := shBl.getD j 0
def shF (j : Nat) : Int32 := shFl.getD j 0
def SHV (A : Nat → Prop) (U : State) (H : Heap) : Prop := ∃ (aB aF : Nat) (fB fF : Nat → Int32), (fB = shB ∧ fF = shF) ∧ va_Z RX8 "BEGINNING" "[I" (.ref aB) A U H ∧ va_T .int aB 8 (fun j => .int (fB j)) A U H ∧ va_Z RX8 "FACTORS" "[I" (.ref aF) A U H ∧ va_T .int aF 64 (fun j => .int (fF j)) A U H
theorem SHV.moved {A : Nat → Prop} {u U : State} {H : Heap} (hvm : u.vm.Alike U.vm) (h : SHV A u H) : SHV A U H := by
  obtain ⟨aB, aF, fB, fF, hsh, zB, tB, zF, tF⟩ := h
  exact ⟨aB, aF, fB, fF, hsh, zB.moved hvm, tB.moved hvm, zF.moved hvm, tF.moved hvm⟩
theorem SHV.pass {A B : Nat → Prop} {s U : State} {H : Heap} {locs : List Loc} (h : SHV A s s.heap) (hS : va_S A s.heap H locs) (hF : ∀ q, B q → A q) (hU : U.heap = H) (hvm : s.vm.Alike U.vm) : SHV B U U.heap := by
  obtain ⟨aB, aF, fB, fF, hsh, zB, tB, zF, tF⟩ := h
  rw [hU]
  exact ⟨aB, aF, fB, fF, hsh, ((zB.kept hS.2.1).narrow hF).moved hvm, ((tB.kept hS.2.1).narrow hF).moved hvm, ((zF.kept hS.2.1).narrow hF).moved hvm, ((tF.kept hS.2.1).narrow hF).moved hvm⟩
def PWS (D : va_G) (sz : Nat) (ws : va_W) (tys : List (ClassId × FieldType)) (U : State) : Prop := PW D sz ws tys U ∧ SHV (va_A ws sz) U U.heap
theorem PWS.calling {D : va_G} {sz : Nat} {ws : va_W} {tys : List (ClassId × FieldType)} {U : State} {g : JFrame} {mk : MethodId} {a : Array Value} (h : PWS D sz ws tys U) : PWS D sz ws tys (U.calling g mk a) :=
  ⟨h.1.calling, SHV.moved (u := U) (U := U.calling g mk a) (Vm.Alike.refl U.vm) h.2⟩
theorem PWS.mk {D : va_G} {ws : va_W} {tys : List (ClassId × FieldType)} {s U : State} {H : Heap} {A A0 : Nat → Prop} {locs : List Loc} (hU : U.heap = H) (hW : s.WarmedH U.vm) (hP : va_P D vwCl ws H) (hK : va_K D vwCl tys s) (hD : va_D A ws) (hE : ENV s) (hZ : SHV A0 s s.heap) (hS : va_S A0 s.heap H locs) (hF : ∀ q, va_A ws H.size q → A0 q) : PWS D H.size ws tys U :=
  ⟨PW.mk hU hW hP hK hD hE, hZ.pass hS hF hU hW.alike⟩
theorem ltN {i N : Nat} {M : Int32} (c : ¬ M ≤ nI i) (hM : M = nI N := by rfl) (hi : i < 2 ^ 31 := by omega) (hN : N < 2 ^ 31 := by omega) : i < N := by
  rcases Nat.lt_or_ge i N with q | q
  · exact q
  · exact absurd (by rw [hM]; exact nI_le q hi) c
theorem leN {i N : Nat} {M : Int32} (c : M ≤ nI i) (hM : M = nI N := by rfl) (hi : i < 2 ^ 31 := by omega) (hN : N < 2 ^ 31 := by omega) : N ≤ i := by
  rw [hM] at c
  exact (nI_leI hN hi).mp c
theorem df_0 : ∀ j, j < 3 → defaultValue (tyX0 j) = vp_V [.null, .int 0, .int 0] j := by decide +kernel
theorem it_0 : ∀ w ∈ wsX00, w ∈ tb := by
  have h : ∀ w ∈ wsX00, w ∈ lw_tbl ∧ goodWord w = true := by decide +kernel
  exact fun w hw => List.mem_filter.mpr (h w hw)
theorem df_1 : ∀ j, j < 11 → defaultValue (tyX1 j) = vp_V [.null, .null, .null, .null, .null, .null, .null, .int 0, .int 0, .int 0, .int 0] j := by decide +kernel
theorem it_1 : ∀ w ∈ wsX10, w ∈ tb := by
  have h : ∀ w ∈ wsX10, w ∈ lw_tbl ∧ goodWord w = true := by decide +kernel
  exact fun w hw => List.mem_filter.mpr (h w hw)
theorem df_2 : ∀ j, j < 2 → defaultValue (tyX2 j) = vp_V [.null, .int 0] j := by decide +kernel
theorem it_2 : ∀ w ∈ wsX20, w ∈ tb := by
  have h : ∀ w ∈ wsX20, w ∈ lw_tbl ∧ goodWord w = true := by decide +kernel
  exact fun w hw => List.mem_filter.mpr (h w hw)
theorem df_3 : ∀ j, j < 4 → defaultValue (tyX3 j) = vp_V [.null, .null, .int 0, .int 0] j := by decide +kernel
theorem it_3 : ∀ w ∈ wsX30, w ∈ tb := by
  have h : ∀ w ∈ wsX30, w ∈ lw_tbl ∧ goodWord w = true := by decide +kernel
  exact fun w hw => List.mem_filter.mpr (h w hw)
theorem df_4 : ∀ j, j < 6 → defaultValue (tyX4 j) = vp_V [.null, .null, .null, .null, .int 0, .int 0] j := by decide +kernel
theorem it_4 : ∀ w ∈ wsX40, w ∈ tb := by
  have h : ∀ w ∈ wsX40, w ∈ lw_tbl ∧ goodWord w = true := by decide +kernel
  exact fun w hw => List.mem_filter.mpr (h w hw)
theorem df_5 : ∀ j, j < 7 → defaultValue (tyX5 j) = vp_V [.null, .null, .null, .null, .int 0, .int 0, .int 0] j := by decide +kernel
theorem it_5 : ∀ w ∈ wsX50, w ∈ tb := by
  have h : ∀ w ∈ wsX50, w ∈ lw_tbl ∧ goodWord w = true := by decide +kernel
  exact fun w hw => List.mem_filter.mpr (h w hw)
theorem df_6 : ∀ j, j < 5 → defaultValue (tyX6 j) = vp_V [.null, .null, .null, .null, .long 0] j := by decide +kernel
theorem it_6 : ∀ w ∈ wsX60, w ∈ tb := by
  have h : ∀ w ∈ wsX60, w ∈ lw_tbl ∧ goodWord w = true := by decide +kernel
  exact fun w hw => List.mem_filter.mpr (h w hw)
theorem df_7 : ∀ j, j < 17 → defaultValue (tyX7 j) = vp_V [.null, .null, .null, .null, .null, .null, .null, .null, .null, .null, .null, .null, .null, .null, .null, .int 0, .int 0] j := by decide +kernel
theorem it_7 : ∀ w ∈ wsX70, w ∈ tb := by
  have h : ∀ w ∈ wsX70, w ∈ lw_tbl ∧ goodWord w = true := by decide +kernel
  exact fun w hw => List.mem_filter.mpr (h w hw)
theorem df_8 : ∀ j, j < 3 → defaultValue (tyX8 j) = vp_V [.null, .null, .null] j := by decide +kernel
theorem it_8 : ∀ w ∈ wsX80, w ∈ tb := by
  have h : ∀ w ∈ wsX80, w ∈ lw_tbl ∧ goodWord w = true := by decide +kernel
  exact fun w hw => List.mem_filter.mpr (h w hw)
theorem df_9 : ∀ j, j < 5 → defaultValue (tyX9 j) = vp_V [.null, .null, .null, .null, .int 0] j := by decide +kernel
theorem it_9 : ∀ w ∈ wsX90, w ∈ tb := by
  have h : ∀ w ∈ wsX90, w ∈ lw_tbl ∧ goodWord w = true := by decide +kernel
  exact fun w hw => List.mem_filter.mpr (h w hw)
theorem df_10 : ∀ j, j < 6 → defaultValue (tyX10 j) = vp_V [.int 0, .int 0, .int 0, .int 0, .int 0, .int 0] j := by decide +kernel
theorem it_10 : ∀ w ∈ wsX100, w ∈ tb := by
  have h : ∀ w ∈ wsX100, w ∈ lw_tbl ∧ goodWord w = true := by decide +kernel
  exact fun w hw => List.mem_filter.mpr (h w hw)
theorem df_11 : ∀ j, j < 9 → defaultValue (tyX11 j) = vp_V [.null, .null, .null, .null, .null, .null, .null, .null, .null] j := by decide +kernel
theorem it_11 : ∀ w ∈ wsX110, w ∈ tb := by
  have h : ∀ w ∈ wsX110, w ∈ lw_tbl ∧ goodWord w = true := by decide +kernel
  exact fun w hw => List.mem_filter.mpr (h w hw)
theorem df_12 : ∀ j, j < 7 → defaultValue (tyX12 j) = vp_V [.null, .null, .null, .null, .null, .int 0, .long 0] j := by decide +kernel
theorem it_12 : ∀ w ∈ wsX120, w ∈ tb := by
  have h : ∀ w ∈ wsX120, w ∈ lw_tbl ∧ goodWord w = true := by decide +kernel
  exact fun w hw => List.mem_filter.mpr (h w hw)
theorem df_13 : ∀ j, j < 5 → defaultValue (tyX13 j) = vp_V [.null, .null, .null, .null, .int 0] j := by decide +kernel
theorem it_13 : ∀ w ∈ wsX130, w ∈ tb := by
  have h : ∀ w ∈ wsX130, w ∈ lw_tbl ∧ goodWord w = true := by decide +kernel
  exact fun w hw => List.mem_filter.mpr (h w hw)
theorem df_14 : ∀ j, j < 2 → defaultValue (tyX14 j) = vp_V [.null, .int 0] j := by decide +kernel
theorem it_14 : ∀ w ∈ wsX140, w ∈ tb := by
  have h : ∀ w ∈ wsX140, w ∈ lw_tbl ∧ goodWord w = true := by decide +kernel
  exact fun w hw => List.mem_filter.mpr (h w hw)
theorem df_15 : ∀ j, j < 59 → defaultValue (tyX15 j) = vp_V [.null, .int 0, .int 0, .int 0, .null, .null, .null, .null, .null, .null, .null, .int 0, .int 0, .null, .int 0, .int 0, .null, .int 0, .int 0, .int 0, .int 0, .int 0, .int 0, .null, .null, .null, .null, .null, .null, .null, .int 0, .int 0, .int 0, .int 0, .null, .null, .null, .null, .null, .null, .null, .null, .null, .null, .null, .null, .null, .null, .null, .null, .null, .null, .int 0, .int 0, .int 0, .null, .null, .null, .null] j := by decide +kernel
theorem it_15 : ∀ w ∈ wsX150, w ∈ tb := by
  have h : ∀ w ∈ wsX150, w ∈ lw_tbl ∧ goodWord w = true := by decide +kernel
  exact fun w hw => List.mem_filter.mpr (h w hw)
