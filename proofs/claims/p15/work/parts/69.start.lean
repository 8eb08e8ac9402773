def tB : List Int32 := [1779033703, -1150833019, 1013904242, -1521486534, 1359893119, -1694144372, 528734635, 1541459225]
theorem nm_len_tB : Cond.eq (.length (.static "PostGate$Sha" "BEGINNING" "[I")) (.int 8) ∈ flatC (Jvm.Cond.and given_1 narrow_1) := by decide +kernel
theorem nm_arr_tB : Cond.arrayOf (.static "PostGate$Sha" "BEGINNING" "[I") .int ∈ flatC (Jvm.Cond.and given_1 narrow_1) := by decide +kernel
theorem nm_el_tB : ∀ j, j < 8 → Cond.eq (.elem (.static "PostGate$Sha" "BEGINNING" "[I") (.int (Int32.ofNat j))) (.int (tB.getD j 0)) ∈ flatC (Jvm.Cond.and given_1 narrow_1) := by decide +kernel
theorem wd_tB : Cond.laysStatic RX8 "BEGINNING" "[I" ∈ lw_tbl := List.mem_of_getElem? (i := 994) (by decide +kernel)
def tF : List Int32 := [1116352408, 1899447441, -1245643825, -373957723, 961987163, 1508970993, -1841331548, -1424204075, -670586216, 310598401, 607225278, 1426881987, 1925078388, -2132889090, -1680079193, -1046744716, -459576895, -272742522, 264347078, 604807628, 770255983, 1249150122, 1555081692, 1996064986, -1740746414, -1473132947, -1341970488, -1084653625, -958395405, -710438585, 113926993, 338241895, 666307205, 773529912, 1294757372, 1396182291, 1695183700, 1986661051, -2117940946, -1838011259, -1564481375, -1474664885, -1035236496, -949202525, -778901479, -694614492, -200395387, 275423344, 430227734, 506948616, 659060556, 883997877, 958139571, 1322822218, 1537002063, 1747873779, 1955562222, 2024104815, -2067236844, -1933114872, -1866530822, -1538233109, -1090935817, -965641998]
theorem nm_len_tF : Cond.eq (.length (.static "PostGate$Sha" "FACTORS" "[I")) (.int 64) ∈ flatC (Jvm.Cond.and given_1 narrow_1) := by decide +kernel
theorem nm_arr_tF : Cond.arrayOf (.static "PostGate$Sha" "FACTORS" "[I") .int ∈ flatC (Jvm.Cond.and given_1 narrow_1) := by decide +kernel
theorem nm_el_tF : ∀ j, j < 64 → Cond.eq (.elem (.static "PostGate$Sha" "FACTORS" "[I") (.int (Int32.ofNat j))) (.int (tF.getD j 0)) ∈ flatC (Jvm.Cond.and given_1 narrow_1) := by decide +kernel
theorem wd_tF : Cond.laysStatic RX8 "FACTORS" "[I" ∈ lw_tbl := List.mem_of_getElem? (i := 1009) (by decide +kernel)
def tD : List Int32 := [48, 49, 48, 13, 6, 9, 96, 134, 72, 1, 101, 3, 4, 2, 1, 5, 0, 4, 32]
theorem nm_len_tD : Cond.eq (.length (.static "PostGate$Sealer" "DIGEST_INFO" "[I")) (.int 19) ∈ flatC (Jvm.Cond.and given_1 narrow_1) := by decide +kernel
theorem nm_arr_tD : Cond.arrayOf (.static "PostGate$Sealer" "DIGEST_INFO" "[I") .int ∈ flatC (Jvm.Cond.and given_1 narrow_1) := by decide +kernel
theorem nm_el_tD : ∀ j, j < 19 → Cond.eq (.elem (.static "PostGate$Sealer" "DIGEST_INFO" "[I") (.int (Int32.ofNat j))) (.int (tD.getD j 0)) ∈ flatC (Jvm.Cond.and given_1 narrow_1) := by decide +kernel
theorem wd_tD : Cond.laysStatic RX7 "DIGEST_INFO" "[I" ∈ lw_tbl := List.mem_of_getElem? (i := 1051) (by decide +kernel)
theorem nm_str : Cond.exactly (.string "PostGate" 112) "java/lang/String" ∈ flatC (Jvm.Cond.and given_1 narrow_1) := by decide +kernel
theorem nm_cs : Cond.eq (.static "java/lang/String" "COMPACT_STRINGS" "Z") (.int 1) ∈ flatC (Jvm.Cond.and given_1 narrow_1) := by decide +kernel
theorem nm_sf : Cond.isRef (.static "jdk/internal/util/Preconditions" "SIOOBE_FORMATTER" "Ljava/util/function/BiFunction;") ∈ flatC (Jvm.Cond.and given_1 narrow_1) := by decide +kernel
theorem wd_cs : Cond.laysStatic "java/lang/String" "COMPACT_STRINGS" "Z" ∈ lw_tbl := List.mem_of_getElem? (i := 627) (by decide +kernel)
theorem wd_sf : Cond.laysStatic "jdk/internal/util/Preconditions" "SIOOBE_FORMATTER" "Ljava/util/function/BiFunction;" ∈ lw_tbl := List.mem_of_getElem? (i := 647) (by decide +kernel)
theorem wd_ao3 : Cond.arrayOver (.object RX3) ∈ lw_tbl := List.mem_of_getElem? (i := 144) (by decide +kernel)
theorem wd_ao0 : Cond.arrayOver (.object RX0) ∈ lw_tbl := List.mem_of_getElem? (i := 188) (by decide +kernel)
theorem wd_ao10 : Cond.arrayOver (.object RX10) ∈ lw_tbl := List.mem_of_getElem? (i := 190) (by decide +kernel)
theorem wd_ao14 : Cond.arrayOver (.object RX14) ∈ lw_tbl := List.mem_of_getElem? (i := 1202) (by decide +kernel)
theorem wd_str : Cond.stringRef RX11 112 "dkim-signature" ∈ lw_tbl := List.mem_of_getElem? (i := 822) (by decide +kernel)
theorem wd_i7 : Cond.initialized RX7 ∈ lw_tbl := List.mem_of_getElem? (i := 87) (by decide +kernel)
theorem wd_i8 : Cond.initialized RX8 ∈ lw_tbl := List.mem_of_getElem? (i := 89) (by decide +kernel)
theorem wd_ist : Cond.initialized "java/lang/String" ∈ lw_tbl := List.mem_of_getElem? (i := 99) (by decide +kernel)
theorem wd_ipr : Cond.initialized "jdk/internal/util/Preconditions" ∈ lw_tbl := List.mem_of_getElem? (i := 101) (by decide +kernel)
theorem wd_aci : Cond.arrayClass .int ∈ lw_tbl := List.mem_of_getElem? (i := 136) (by decide +kernel)
theorem wd_acb : Cond.arrayClass .byte ∈ lw_tbl := List.mem_of_getElem? (i := 786) (by decide +kernel)
theorem wd_acz : Cond.arrayClass .boolean ∈ lw_tbl := List.mem_of_getElem? (i := 308) (by decide +kernel)
theorem wd_acl : Cond.arrayClass .long ∈ lw_tbl := List.mem_of_getElem? (i := 331) (by decide +kernel)
def strC (own : String) (i : Nat) (l : List Int32) : List Cond := Cond.exactly (.string own i) "java/lang/String" :: Cond.eq (.field (.string own i) "java/lang/String" "coder" "B") (.int 0) :: Cond.arrayOf (.field (.string own i) "java/lang/String" "value" "[B") .byte :: Cond.eq (.length (.field (.string own i) "java/lang/String" "value" "[B")) (.int (Int32.ofNat l.length)) :: (List.range l.length).map (fun j => Cond.eq (.elem (.field (.string own i) "java/lang/String" "value" "[B") (.int (Int32.ofNat j))) (.int (l.getD j 0)))
theorem str_of {args : Array Value} {s : State} {own tx : String} {i : Nat} {l : List Int32} {A : Nat → Prop} (hin : ∀ w ∈ strC own i l, w.before args s = true) (href : (Cond.stringRef own i tx).before args s = true) (hn : l.length ≤ 10000) (hA : ∀ a : Nat, a < s.heap.size → ¬ A a) : ∃ q v, vk_R own i tx q s ∧ SXc q v l.length (cct l) A s s.heap := by
  have h1 := hin _ List.mem_cons_self
  have h2 := hin _ (List.mem_cons_of_mem _ List.mem_cons_self)
  have h3 := hin _ (List.mem_cons_of_mem _ (List.mem_cons_of_mem _ List.mem_cons_self))
  have h4 := hin _ (List.mem_cons_of_mem _ (List.mem_cons_of_mem _ (List.mem_cons_of_mem _ List.mem_cons_self)))
  have h5 : ∀ j : Nat, j < l.length → (Term.elem (.field (.string own i) "java/lang/String" "value" "[B") (.int (Int32.ofNat j))).eval args s none [] s = some (.int (cct l j)) := fun j hj => va_eqt (hin _ (List.mem_cons_of_mem _ (List.mem_cons_of_mem _ (List.mem_cons_of_mem _ (List.mem_cons_of_mem _ (List.mem_map.mpr ⟨j, List.mem_range.mpr hj, rfl⟩))))))
  obtain ⟨q, c, cell, k, e1, -⟩ := Cond.exactly_spec h1
  obtain ⟨v, e2, hT⟩ := va_Tof (A := A) (N := l.length) (f := fun j => .int (cct l j)) (by omega) h3 (va_eqt h4) h5 hA
  exact ⟨q, v, vk_R.of href e1, va_Oof h1 e1 hA, vk_OFof e1 (va_eqt h2) hA, vk_OFof e1 e2 hA, hT, hn⟩
def STB : List ((String × Nat × String × Nat) × Nat × Nat × List Int32) := [(("PostGate", 112, "dkim-signature", 14), 201, 822, [100, 107, 105, 109, 45, 115, 105, 103, 110, 97, 116, 117, 114, 101]),
  (("PostGate$Checker", 110, "v=spf1", 6), 109, 609, [118, 61, 115, 112, 102, 49]),
  (("PostGate$Checker", 218, "%20", 3), 194, 747, [37, 50, 48]),
  (("PostGate$Policy", 45, "from", 4), 384, 1124, [102, 114, 111, 109]),
  (("PostGate$Policy", 70, "v=DMARC1", 8), 404, 1146, [118, 61, 68, 77, 65, 82, 67, 49]),
  (("PostGate$Policy", 126, "_dmarc.", 7), 393, 1142, [95, 100, 109, 97, 114, 99, 46]),
  (("PostGate$Policy", 140, "p", 1), 416, 1155, [112]),
  (("PostGate$Policy", 145, "sp", 2), 454, 1164, [115, 112]),
  (("PostGate$Policy", 150, "aspf", 4), 460, 1166, [97, 115, 112, 102]),
  (("PostGate$Policy", 152, "s", 1), 468, 1167, [115]),
  (("PostGate$Policy", 158, "adkim", 5), 474, 1168, [97, 100, 107, 105, 109]),
  (("PostGate$Policy", 160, "none", 4), 422, 1160, [110, 111, 110, 101]),
  (("PostGate$Policy", 162, "quarantine", 10), 430, 1162, [113, 117, 97, 114, 97, 110, 116, 105, 110, 101]),
  (("PostGate$Policy", 164, "reject", 6), 444, 1163, [114, 101, 106, 101, 99, 116]),
  (("PostGate$Sealer", 89, "from", 4), 275, 923, [102, 114, 111, 109]),
  (("PostGate$Sealer", 101, "d", 1), 249, 881, [100]),
  (("PostGate$Sealer", 113, "x", 1), 337, 950, [120]),
  (("PostGate$Sealer", 154, "v", 1), 219, 868, [118]),
  (("PostGate$Sealer", 156, "1", 1), 224, 869, [49]),
  (("PostGate$Sealer", 162, "a", 1), 229, 879, [97]),
  (("PostGate$Sealer", 164, "rsa-sha256", 10), 235, 880, [114, 115, 97, 45, 115, 104, 97, 50, 53, 54]),
  (("PostGate$Sealer", 169, "s", 1), 254, 895, [115]),
  (("PostGate$Sealer", 171, "bh", 2), 259, 896, [98, 104]),
  (("PostGate$Sealer", 177, "b", 1), 265, 908, [98]),
  (("PostGate$Sealer", 185, "l", 1), 332, 940, [108]),
  (("PostGate$Sealer", 190, "c", 1), 283, 929, [99]),
  (("PostGate$Sealer", 196, "relaxed", 7), 288, 935, [114, 101, 108, 97, 120, 101, 100]),
  (("PostGate$Sealer", 201, "/relaxed", 8), 299, 937, [47, 114, 101, 108, 97, 120, 101, 100]),
  (("PostGate$Sealer", 203, "simple", 6), 311, 938, [115, 105, 109, 112, 108, 101]),
  (("PostGate$Sealer", 205, "/simple", 7), 321, 939, [47, 115, 105, 109, 112, 108, 101]),
  (("PostGate$Sealer", 207, "h", 1), 270, 913, [104]),
  (("PostGate$Sealer", 229, "._domainkey.", 12), 342, 958, [46, 95, 100, 111, 109, 97, 105, 110, 107, 101, 121, 46]),
  (("PostGate$Sealer", 252, "p", 1), 358, 966, [112]),
  (("PostGate$Sealer", 254, "DKIM1", 5), 363, 967, [68, 75, 73, 77, 49]),
  (("PostGate$Sealer", 259, "k", 1), 372, 972, [107]),
  (("PostGate$Sealer", 261, "rsa", 3), 377, 973, [114, 115, 97]),
  (("PostGate$Term", 53, "redirect=", 9), 119, 691, [114, 101, 100, 105, 114, 101, 99, 116, 61]),
  (("PostGate$Term", 66, "all", 3), 132, 704, [97, 108, 108]),
  (("PostGate$Term", 71, "include:", 8), 139, 706, [105, 110, 99, 108, 117, 100, 101, 58]),
  (("PostGate$Term", 73, "exists:", 7), 151, 707, [101, 120, 105, 115, 116, 115, 58]),
  (("PostGate$Term", 75, "ip4:", 4), 162, 708, [105, 112, 52, 58]),
  (("PostGate$Term", 77, "mx", 2), 170, 709, [109, 120]),
  (("PostGate$Term", 79, "mx:", 3), 176, 710, [109, 120, 58]),
  (("PostGate$Term", 81, "a", 1), 183, 711, [97]),
  (("PostGate$Term", 83, "a:", 2), 188, 712, [97, 58]),
  (("PostGateModel", 250, "all", 3), 505, 1566, [97, 108, 108]),
  (("PostGateModel", 252, "include:", 8), 513, 1567, [105, 110, 99, 108, 117, 100, 101, 58]),
  (("PostGateModel", 261, "exists:", 7), 526, 1576, [101, 120, 105, 115, 116, 115, 58]),
  (("PostGateModel", 263, "ip4:", 4), 538, 1577, [105, 112, 52, 58]),
  (("PostGateModel", 274, "a", 1), 547, 1589, [97]),
  (("PostGateModel", 280, "mx", 2), 554, 1594, [109, 120]),
  (("PostGateModel", 282, "redirect=", 9), 561, 1595, [114, 101, 100, 105, 114, 101, 99, 116, 61]),
  (("PostGateModel", 304, "v=spf1", 6), 483, 1546, [118, 61, 115, 112, 102, 49]),
  (("PostGateModel", 306, "v=spf1 ", 7), 494, 1552, [118, 61, 115, 112, 102, 49, 32]),
  (("PostGateModel", 376, "dkim-signature", 14), 575, 1652, [100, 107, 105, 109, 45, 115, 105, 103, 110, 97, 116, 117, 114, 101]),
  (("PostGateModel", 444, "v", 1), 594, 1716, [118]),
  (("PostGateModel", 446, "1", 1), 600, 1717, [49]),
  (("PostGateModel", 452, "rsa-sha256", 10), 606, 1727, [114, 115, 97, 45, 115, 104, 97, 50, 53, 54]),
  (("PostGateModel", 454, "d", 1), 621, 1728, [100]),
  (("PostGateModel", 460, "s", 1), 627, 1734, [115]),
  (("PostGateModel", 462, "bh", 2), 634, 1735, [98, 104]),
  (("PostGateModel", 468, "b", 1), 641, 1742, [98]),
  (("PostGateModel", 476, "l", 1), 692, 1756, [108]),
  (("PostGateModel", 481, "x", 1), 698, 1761, [120]),
  (("PostGateModel", 486, "h", 1), 647, 1747, [104]),
  (("PostGateModel", 488, "from", 4), 653, 1748, [102, 114, 111, 109]),
  (("PostGateModel", 489, "c", 1), 663, 1753, [99]),
  (("PostGateModel", 497, "relaxed", 7), 669, 1754, [114, 101, 108, 97, 120, 101, 100]),
  (("PostGateModel", 499, "simple", 6), 681, 1755, [115, 105, 109, 112, 108, 101]),
  (("PostGateModel", 514, "._domainkey.", 12), 704, 1762, [46, 95, 100, 111, 109, 97, 105, 110, 107, 101, 121, 46]),
  (("PostGateModel", 533, "p", 1), 721, 1767, [112]),
  (("PostGateModel", 535, "DKIM1", 5), 728, 1768, [68, 75, 73, 77, 49]),
  (("PostGateModel", 537, "k", 1), 738, 1769, [107]),
  (("PostGateModel", 539, "rsa", 3), 744, 1770, [114, 115, 97]),
  (("PostGateModel", 569, "_dmarc.", 7), 752, 1878, [95, 100, 109, 97, 114, 99, 46]),
  (("PostGateModel", 571, "v=DMARC1", 8), 764, 1879, [118, 61, 68, 77, 65, 82, 67, 49]),
  (("PostGateModel", 573, "none", 4), 777, 1883, [110, 111, 110, 101]),
  (("PostGateModel", 575, "quarantine", 10), 786, 1884, [113, 117, 97, 114, 97, 110, 116, 105, 110, 101]),
  (("PostGateModel", 577, "reject", 6), 801, 1885, [114, 101, 106, 101, 99, 116]),
  (("PostGateModel", 590, "sp", 2), 812, 1886, [115, 112]),
  (("PostGateModel", 595, "aspf", 4), 819, 1888, [97, 115, 112, 102]),
  (("PostGateModel", 601, "adkim", 5), 828, 1893, [97, 100, 107, 105, 109])]
theorem stb_ok : STB.all (fun x => decide (((flatC (Jvm.Cond.and given_1 narrow_1)).drop x.2.1).take (4 + x.2.2.2.length) = strC x.1.1 x.1.2.1 x.2.2.2)) = true := by decide +kernel
theorem stb_ref : STB.all (fun x => decide (lw_tbl[x.2.2.1]? = some (Cond.stringRef x.1.1 x.1.2.1 x.1.2.2.1))) = true := by decide +kernel
theorem stb_len : STB.all (fun x => decide (x.2.2.2.length = x.1.2.2.2 ∧ x.2.2.2.length ≤ 10000)) = true := by decide +kernel
theorem stb_s : SITES = STB.map (fun x => (x.1.1, x.1.2.1, x.1.2.2.1, x.2.2.2)) := by decide +kernel
theorem stb_c : SITEC = (STB.drop 45).map (fun x => (x.1.1, x.1.2.1, x.1.2.2.1, x.2.2.2)) := by decide +kernel
theorem stb_of {s : State} {args : Array Value} (hts : ∀ w ∈ lw_tbl, w.before args s = true) (hs : ∀ w ∈ flatC (Jvm.Cond.and given_1 narrow_1), w.before args s = true) {A : Nat → Prop} (hA : ∀ a : Nat, a < s.heap.size → ¬ A a) {x : (String × Nat × String × Nat) × Nat × Nat × List Int32} (hx : x ∈ STB) : ∃ q v, vk_R x.1.1 x.1.2.1 x.1.2.2.1 q s ∧ SXc q v x.2.2.2.length (cct x.2.2.2) A s s.heap := by
  have h1 := of_decide_eq_true (List.all_eq_true.mp stb_ok x hx)
  have h2 := of_decide_eq_true (List.all_eq_true.mp stb_ref x hx)
  have h3 := of_decide_eq_true (List.all_eq_true.mp stb_len x hx)
  refine str_of (fun w hw => ?_) (hts _ (List.mem_of_getElem? h2)) h3.2 hA
  rw [← h1] at hw
  exact hs w (List.mem_of_mem_drop (List.mem_of_mem_take hw))
theorem gv_c {s : State} {args : Array Value} (hts : ∀ w ∈ lw_tbl, w.before args s = true) (hs : ∀ w ∈ flatC (Jvm.Cond.and given_1 narrow_1), w.before args s = true) {A : Nat → Prop} (hA : ∀ a : Nat, a < s.heap.size → ¬ A a) : ∀ x ∈ SITES, ∃ q v, vk_R x.1 x.2.1 x.2.2.1 q s ∧ SXc q v x.2.2.2.length (cct x.2.2.2) A s s.heap := by
  rw [stb_s]
  intro x hx
  obtain ⟨y, hy, rfl⟩ := List.mem_map.mp hx
  exact stb_of hts hs hA hy
theorem gv_m {s : State} {args : Array Value} (hts : ∀ w ∈ lw_tbl, w.before args s = true) (hs : ∀ w ∈ flatC (Jvm.Cond.and given_1 narrow_1), w.before args s = true) {A : Nat → Prop} (hA : ∀ a : Nat, a < s.heap.size → ¬ A a) : ∀ x ∈ SITEC, ∃ q v, vk_R x.1 x.2.1 x.2.2.1 q s ∧ SXc q v x.2.2.2.length (cct x.2.2.2) A s s.heap := by
  rw [stb_c]
  intro x hx
  obtain ⟨y, hy, rfl⟩ := List.mem_map.mp hx
  exact stb_of hts hs hA (List.mem_of_mem_drop hy)
theorem env_of {s : State} {args : Array Value} (hts : ∀ w ∈ lw_tbl, w.before args s = true) (hs : ∀ w ∈ flatC (Jvm.Cond.and given_1 narrow_1), w.before args s = true) : ENV s := by
  obtain ⟨a, c, cell, k, h1, -⟩ := Cond.exactly_spec (hs _ nm_str)
  exact ⟨fun w hw => va_Nw.of (isNest_on (List.mem_filter.mp hw).2) (hts w (List.mem_append_right _ (List.mem_filter.mp hw).1)), ⟨va_AO.of (hts _ wd_ao3), va_AO.of (hts _ wd_ao0), va_AO.of (hts _ wd_ao10), va_AO.of (hts _ wd_ao14)⟩, a, vk_R.of (hts _ wd_str) h1⟩
theorem shv_of {s : State} {args : Array Value} (hts : ∀ w ∈ lw_tbl, w.before args s = true) (hs : ∀ w ∈ flatC (Jvm.Cond.and given_1 narrow_1), w.before args s = true) {A : Nat → Prop} (hA : ∀ a : Nat, a < s.heap.size → ¬ A a) : SHV A s s.heap := by
  obtain ⟨t1, e1, T1⟩ := va_Tof (A := A) (N := 8) (f := fun j => .int (tB.getD j 0)) (by decide) (hs _ nm_arr_tB) (va_eqt (hs _ nm_len_tB)) (fun j hj => va_eqt (hs _ (nm_el_tB j hj))) hA
  obtain ⟨t2, e2, T2⟩ := va_Tof (A := A) (N := 64) (f := fun j => .int (tF.getD j 0)) (by decide) (hs _ nm_arr_tF) (va_eqt (hs _ nm_len_tF)) (fun j hj => va_eqt (hs _ (nm_el_tF j hj))) hA
  exact ⟨t1, t2, shB, shF, ⟨rfl, rfl⟩, va_Zref (hts _ wd_tB) (hts _ wd_i8) e1 hA, T1, va_Zref (hts _ wd_tF) (hts _ wd_i8) e2 hA, T2⟩
theorem div_of {s : State} {args : Array Value} (hts : ∀ w ∈ lw_tbl, w.before args s = true) (hs : ∀ w ∈ flatC (Jvm.Cond.and given_1 narrow_1), w.before args s = true) {A : Nat → Prop} (hA : ∀ a : Nat, a < s.heap.size → ¬ A a) : DIV A s s.heap := by
  obtain ⟨t1, e1, T1⟩ := va_Tof (A := A) (N := 19) (f := fun j => .int (tD.getD j 0)) (by decide) (hs _ nm_arr_tD) (va_eqt (hs _ nm_len_tD)) (fun j hj => va_eqt (hs _ (nm_el_tD j hj))) hA
  exact ⟨t1, dgI, rfl, va_Zref (hts _ wd_tD) (hts _ wd_i7) e1 hA, T1⟩
theorem gv_of {s : State} {args : Array Value} (hts : ∀ w ∈ lw_tbl, w.before args s = true) (hs : ∀ w ∈ flatC (Jvm.Cond.and given_1 narrow_1), w.before args s = true) {A : Nat → Prop} (hA : ∀ a : Nat, a < s.heap.size → ¬ A a) : GV A s s.heap ∧ GVm A s s.heap := by
  have h1 := va_Zof (hts _ wd_cs) (hts _ wd_ist) (va_eqt (hs _ nm_cs)) hA
  have h2 := va_Zqof (hts _ wd_sf) (hts _ wd_ipr) (hs _ nm_sf) hA
  exact ⟨⟨h1, h2, shv_of hts hs hA, div_of hts hs hA, gv_c hts hs hA⟩, h1, h2, gv_m hts hs hA⟩
theorem ty_prim {s : State} {args : Array Value} {ty : FieldType} (h : (Cond.arrayClass ty).before args s = true) : ∃ (cA : ClassId) (kA : Class) (comp : ClassId), s.vm.findClass ("[" ++ ty.toString) = some cA ∧ s.vm.classes[cA]? = some kA ∧ kA.kind = .array comp ty := by
  first
  | exact Cond.arrayClass_spec h
  | (obtain ⟨a, b, c, h1, h2, h3⟩ := Cond.arrayClass_spec h; exact ⟨a, b, c, by assumption, by assumption, by assumption⟩)
  | (obtain ⟨a, b, h1, h2, c, h3⟩ := Cond.arrayClass_spec h; exact ⟨a, b, c, by assumption, by assumption, by assumption⟩)
  | (obtain ⟨a, h1, b, h2, c, h3⟩ := Cond.arrayClass_spec h; exact ⟨a, b, c, by assumption, by assumption, by assumption⟩)
  | (obtain ⟨c, a, b, h1, h2, h3⟩ := Cond.arrayClass_spec h; exact ⟨a, b, c, by assumption, by assumption, by assumption⟩)
  | (obtain ⟨a, b, c, h1, h2, h3, h4⟩ := Cond.arrayClass_spec h; exact ⟨a, b, c, by assumption, by assumption, by assumption⟩)
  | (obtain ⟨c, a, b, h1, h2, h3, h4⟩ := Cond.arrayClass_spec h; exact ⟨a, b, c, by assumption, by assumption, by assumption⟩)
  | (obtain ⟨c, a, b, h1, h2, h3, h4, h5⟩ := Cond.arrayClass_spec h; exact ⟨a, b, c, by assumption, by assumption, by assumption⟩)
  | (obtain ⟨a, b, h1, h2, h3⟩ := Cond.arrayClass_spec h; exact ⟨a, b, _, by assumption, by assumption, by assumption⟩)
  | exact Cond.arrayClass_spec h
theorem ty_ref {s : State} {args : Array Value} {C : String} (h : (Cond.arrayOver (.object C)).before args s = true) : ∃ cA : ClassId, ArrOfT s cA (.object C) ∧ va_RA s cA (.object C) := by
  obtain ⟨comp, cA, kA, hcomp, hidx, hkA, hkindA, hnameA⟩ := Cond.arrayOver_spec h
  exact ⟨cA, fun n z => ⟨fun k h => (by cases h), kA, hkA, comp, hkindA⟩, kA, comp, hkA, hkindA, hcomp, hnameA⟩
theorem tys_of {s : State} {args : Array Value} (hts : ∀ w ∈ lw_tbl, w.before args s = true) : ∃ cs : Nat → ClassId, ∀ (k : Nat) (q : ClassId × FieldType), (TYS cs)[k]? = some q → ArrOfT s q.1 q.2 ∧ va_RA s q.1 q.2 := by
  obtain ⟨a16, k16, m16, x1, x2, x3⟩ := ty_prim (hts _ wd_aci)
  obtain ⟨a17, k17, m17, y1, y2, y3⟩ := ty_prim (hts _ wd_acb)
  obtain ⟨a18, k18, m18, z1, z2, z3⟩ := ty_prim (hts _ wd_acz)
  obtain ⟨a19, k19, m19, w1, w2, w3⟩ := ty_prim (hts _ wd_acl)
  obtain ⟨a20, h20⟩ := ty_ref (hts _ wd_ao0)
  obtain ⟨a21, h21⟩ := ty_ref (hts _ wd_ao3)
  obtain ⟨a22, h22⟩ := ty_ref (hts _ wd_ao10)
  obtain ⟨a23, h23⟩ := ty_ref (hts _ wd_ao14)
  refine ⟨fun k => if k = 16 then a16 else if k = 17 then a17 else if k = 18 then a18 else if k = 19 then a19 else if k = 20 then a20 else if k = 21 then a21 else if k = 22 then a22 else a23, fun k q hq => ?_⟩
  match k, hq with
  | 0, hq => cases hq; exact ⟨fun n z => ⟨fun k h => (by cases h), k16, x2, m16, x3⟩, x1⟩
  | 1, hq => cases hq; exact ⟨fun n z => ⟨fun k h => (by cases h), k17, y2, m17, y3⟩, y1⟩
  | 2, hq => cases hq; exact ⟨fun n z => ⟨fun k h => (by cases h), k18, z2, m18, z3⟩, z1⟩
  | 3, hq => cases hq; exact ⟨fun n z => ⟨fun k h => (by cases h), k19, w2, m19, w3⟩, w1⟩
  | 4, hq => cases hq; exact h20
  | 5, hq => cases hq; exact h21
  | 6, hq => cases hq; exact h22
  | 7, hq => cases hq; exact h23
  | k + 8, hq => simp [TYS] at hq
