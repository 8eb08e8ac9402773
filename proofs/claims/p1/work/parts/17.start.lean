theorem kt_544 : Cond.classLink RL 7 RX11 ∈ tb := tb_at (i := 105) (by decide +kernel) (by decide +kernel)
theorem kt_545 : Cond.instantiable RX11 9 ∈ tb := tb_at (i := 106) (by decide +kernel) (by decide +kernel)
theorem kt_546 : Cond.code yX11_init cX11_init 1 none ∈ tb := tb_at (i := 109) (by decide +kernel) (by decide +kernel)
theorem kt_547 : Cond.methodLink RL 9 yX11_init ∈ tb := tb_at (i := 107) (by decide +kernel) (by decide +kernel)
theorem kt_548 : Cond.instanceMethod yX11_init ∈ tb := tb_at (i := 108) (by decide +kernel) (by decide +kernel)
theorem kt_549 : Cond.classLink RL 10 RX15 ∈ tb := tb_at (i := 1195) (by decide +kernel) (by decide +kernel)
theorem kt_550 : Cond.instantiable RX15 59 ∈ tb := tb_at (i := 1196) (by decide +kernel) (by decide +kernel)
theorem kt_551 : Cond.code yX15_init cX15_init 2 none ∈ tb := tb_at (i := 1199) (by decide +kernel) (by decide +kernel)
theorem kt_552 : Cond.methodLink RL 12 yX15_init ∈ tb := tb_at (i := 1197) (by decide +kernel) (by decide +kernel)
theorem kt_553 : Cond.instanceMethod yX15_init ∈ tb := tb_at (i := 1198) (by decide +kernel) (by decide +kernel)
def tB : List Int32 := [1779033703, -1150833019, 1013904242, -1521486534, 1359893119, -1694144372, 528734635, 1541459225]
def tF : List Int32 := [1116352408, 1899447441, -1245643825, -373957723, 961987163, 1508970993, -1841331548, -1424204075, -670586216, 310598401, 607225278, 1426881987, 1925078388, -2132889090, -1680079193, -1046744716, -459576895, -272742522, 264347078, 604807628, 770255983, 1249150122, 1555081692, 1996064986, -1740746414, -1473132947, -1341970488, -1084653625, -958395405, -710438585, 113926993, 338241895, 666307205, 773529912, 1294757372, 1396182291, 1695183700, 1986661051, -2117940946, -1838011259, -1564481375, -1474664885, -1035236496, -949202525, -778901479, -694614492, -200395387, 275423344, 430227734, 506948616, 659060556, 883997877, 958139571, 1322822218, 1537002063, 1747873779, 1955562222, 2024104815, -2067236844, -1933114872, -1866530822, -1538233109, -1090935817, -965641998]
theorem nm_len_8 : Cond.eq (.length (.static "PostGate$Sha" "BEGINNING" "[I")) (.int 8) ∈ flatC (Jvm.Cond.and given_1 narrow_1) := by decide +kernel
theorem nm_arr_8 : Cond.arrayOf (.static "PostGate$Sha" "BEGINNING" "[I") .int ∈ flatC (Jvm.Cond.and given_1 narrow_1) := by decide +kernel
theorem nm_el_8 : ∀ j, j < 8 → Cond.eq (.elem (.static "PostGate$Sha" "BEGINNING" "[I") (.int (Int32.ofNat j))) (.int (tB.getD j 0)) ∈ flatC (Jvm.Cond.and given_1 narrow_1) := by decide +kernel
theorem nm_len_64 : Cond.eq (.length (.static "PostGate$Sha" "FACTORS" "[I")) (.int 64) ∈ flatC (Jvm.Cond.and given_1 narrow_1) := by decide +kernel
theorem nm_arr_64 : Cond.arrayOf (.static "PostGate$Sha" "FACTORS" "[I") .int ∈ flatC (Jvm.Cond.and given_1 narrow_1) := by decide +kernel
theorem nm_el_64 : ∀ j, j < 64 → Cond.eq (.elem (.static "PostGate$Sha" "FACTORS" "[I") (.int (Int32.ofNat j))) (.int (tF.getD j 0)) ∈ flatC (Jvm.Cond.and given_1 narrow_1) := by decide +kernel
theorem nm_str : Cond.exactly (.string "PostGate" 112) "java/lang/String" ∈ flatC (Jvm.Cond.and given_1 narrow_1) := by decide +kernel
theorem wd_ao3 : Cond.arrayOver (.object RX3) ∈ lw_tbl := List.mem_of_getElem? (i := 144) (by decide +kernel)
theorem wd_ao0 : Cond.arrayOver (.object RX0) ∈ lw_tbl := List.mem_of_getElem? (i := 188) (by decide +kernel)
theorem wd_ao10 : Cond.arrayOver (.object RX10) ∈ lw_tbl := List.mem_of_getElem? (i := 190) (by decide +kernel)
theorem wd_ao14 : Cond.arrayOver (.object RX14) ∈ lw_tbl := List.mem_of_getElem? (i := 1202) (by decide +kernel)
theorem wd_str : Cond.stringRef RX11 112 "dkim-signature" ∈ lw_tbl := List.mem_of_getElem? (i := 822) (by decide +kernel)
theorem wd_BEGINNING : Cond.laysStatic RX8 "BEGINNING" "[I" ∈ lw_tbl := List.mem_of_getElem? (i := 994) (by decide +kernel)
theorem wd_FACTORS : Cond.laysStatic RX8 "FACTORS" "[I" ∈ lw_tbl := List.mem_of_getElem? (i := 1009) (by decide +kernel)
theorem wd_i8 : Cond.initialized RX8 ∈ lw_tbl := List.mem_of_getElem? (i := 89) (by decide +kernel)
theorem env_of {s : State} {args : Array Value} (hts : ∀ w ∈ lw_tbl, w.before args s = true) (hg : (Jvm.Cond.and given_1 narrow_1).before args s = true) : ENV s := by
  have hs := flat_of_before _ hg
  obtain ⟨a, c, cell, k, h1, -⟩ := Cond.exactly_spec (hs _ nm_str)
  exact ⟨fun w hw => va_Nw.of (isNest_on (List.mem_filter.mp hw).2) (hts w (List.mem_append_right _ (List.mem_filter.mp hw).1)), ⟨va_AO.of (hts _ wd_ao3), va_AO.of (hts _ wd_ao0), va_AO.of (hts _ wd_ao10), va_AO.of (hts _ wd_ao14)⟩, a, vk_R.of (hts _ wd_str) h1⟩
theorem shv_of {s : State} {args : Array Value} (hts : ∀ w ∈ lw_tbl, w.before args s = true) (hg : (Jvm.Cond.and given_1 narrow_1).before args s = true) : SHV (fun q : Nat => s.heap.size ≤ q) s s.heap := by
  have hs := flat_of_before _ hg
  have hA : ∀ a : Nat, a < s.heap.size → ¬ (fun q : Nat => s.heap.size ≤ q) a := fun a h => Nat.not_le.mpr h
  obtain ⟨t1, e1, T1⟩ := va_Tof (A := fun q : Nat => s.heap.size ≤ q) (N := 8) (f := fun j => .int (tB.getD j 0)) (by decide) (hs _ nm_arr_8) (va_eqt (hs _ nm_len_8)) (fun j hj => va_eqt (hs _ (nm_el_8 j hj))) hA
  obtain ⟨t2, e2, T2⟩ := va_Tof (A := fun q : Nat => s.heap.size ≤ q) (N := 64) (f := fun j => .int (tF.getD j 0)) (by decide) (hs _ nm_arr_64) (va_eqt (hs _ nm_len_64)) (fun j hj => va_eqt (hs _ (nm_el_64 j hj))) hA
  exact ⟨t1, t2, fun j => tB.getD j 0, fun j => tF.getD j 0, va_Zref (hts _ wd_BEGINNING) (hts _ wd_i8) e1 hA, T1, va_Zref (hts _ wd_FACTORS) (hts _ wd_i8) e2 hA, T2⟩
