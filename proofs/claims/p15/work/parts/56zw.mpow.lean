theorem u32_or (x y : Int32) : u32 (x ||| y) = u32 x ||| u32 y := by
  show (x ||| y).toBitVec.toNat = _
  rw [Int32.toBitVec_or, BitVec.toNat_or]
  rfl
theorem u32_and (x y : Int32) : u32 (x &&& y) = u32 x &&& u32 y := by
  show (x &&& y).toBitVec.toNat = _
  rw [Int32.toBitVec_and, BitVec.toNat_and]
  rfl
theorem u32_a16 (x : Int32) : u32 (x &&& 65535) = u32 x % 65536 := by
  rw [u32_and, show u32 65535 = 2 ^ 16 - 1 by decide, Nat.and_two_pow_sub_one_eq_mod]
theorem u32_a1 (x : Int32) : u32 (x &&& 1) = u32 x % 2 := by
  rw [u32_and, show u32 1 = 2 ^ 1 - 1 by decide, Nat.and_two_pow_sub_one_eq_mod]
theorem sh_k : ∀ s, s < 32 → ((nI s &&& 31).toBitVec.smod 32).toNat = s := by decide +kernel
theorem u32_sl {x k : Int32} {j : Nat} (hk : ((k &&& 31).toBitVec.smod 32).toNat = j) : u32 (shl x k) = u32 x * 2 ^ j % 4294967296 := by
  have a4 : (shl x k).toBitVec.toNat = (x.toBitVec <<< j).toNat := by
    rw [← hk]
    rfl
  show (shl x k).toBitVec.toNat = _
  rw [a4, BitVec.toNat_shiftLeft, Nat.shiftLeft_eq]
  rfl
theorem u32_sr {x k : Int32} {j : Nat} (hk : ((k &&& 31).toBitVec.smod 32).toNat = j) (hx : u32 x < 2147483648) : u32 (shr x k) = u32 x / 2 ^ j := by
  have a4 : (shr x k).toBitVec.toNat = (x.toBitVec.sshiftRight j).toNat := by
    rw [← hk]
    rfl
  have a5 : x.toBitVec.msb = false := BitVec.msb_eq_false_iff_two_mul_lt.mpr (show 2 * u32 x < 2 ^ 32 by omega)
  show (shr x k).toBitVec.toNat = _
  rw [a4, BitVec.toNat_sshiftRight_of_msb_false a5, Nat.shiftRight_eq_div_pow]
  rfl
theorem rm_bit {w s : Nat} (hw : w < 65536) (hs : s < 16) : shr (nI w) (nI s) &&& 1 = nI (w / 2 ^ s % 2) := by
  have h9 : w / 2 ^ s % 2 < 2 := Nat.mod_lt _ (by decide)
  refine u32_inj ?_
  rw [u32_a1, u32_sr (sh_k s (by omega)) (by rw [u32_nI (by omega)]; omega), u32_nI (by omega), u32_nI (by omega)]
theorem rm_sl {g c : Nat} (hg : g < 65536) (hc : c < 2) : shl (nI g) 1 ||| nI c = nI (2 * g + c) := by
  refine u32_inj ?_
  rw [u32_or, u32_sl (j := 1) (by decide), u32_nI (by omega), u32_nI (by omega), u32_nI (by omega), Nat.mod_eq_of_lt (by omega), or_ad (k := 1) (by omega)]
  omega
theorem rm_lo {v : Nat} (hv : v < 4294967296) : nI v &&& 65535 = nI (v % 65536) := by
  refine u32_inj ?_
  rw [u32_a16, u32_nI hv, u32_nI (by omega)]
theorem rm_hi {v : Nat} (hv : v < 2147483648) : shr (nI v) 16 = nI (v / 65536) := by
  refine u32_inj ?_
  rw [u32_sr (j := 16) (by decide) (by rw [u32_nI (by omega)]; exact hv), u32_nI (by omega), u32_nI (by omega)]
theorem rm_sub {a m b : Nat} (ha : a < 65536) (hm : m < 65536) (hb : b < 2) : (nI a - nI m - nI b) &&& 65535 = nI ((a + 65536 - m - b) % 65536) := by
  refine u32_inj ?_
  rw [u32_a16, u32_sub, u32_sub, u32_nI (by omega), u32_nI (by omega), u32_nI (by omega), u32_nI (by omega)]
  omega
theorem rm_neg {a m b : Nat} (ha : a < 65536) (hm : m < 65536) (hb : b < 2) : 0 ≤ nI a - nI m - nI b ↔ m + b ≤ a := by
  rw [Int32.le_iff_toInt_le, Int32.toInt_sub, Int32.toInt_sub, nI_toInt (by omega), nI_toInt (by omega), nI_toInt (by omega), show (0 : Int32).toInt = 0 by decide, Int.bmod_def, Int.bmod_def]
  omega
theorem uN_inj {x y : Int64} (h : uN x = uN y) : x = y := Int64.toBitVec_inj.mp (BitVec.eq_of_toNat_eq h)
theorem uN_lI {k : Nat} (h : k < 18446744073709551616) : uN (lI k) = k := by
  show (Int64.ofNat k).toBitVec.toNat = k
  rw [Int64.toBitVec_ofNat', BitVec.toNat_ofNat]
  exact Nat.mod_eq_of_lt h
theorem tm_i2l {x : Nat} (h : x < 2147483648) : (nI x).toInt64 = lI x := by
  refine Int64.toInt_inj.mp ?_
  rw [Int32.toInt_toInt64, nI_toInt (by omega), uN_toInt (by rw [uN_lI (by omega)]; omega), uN_lI (by omega)]
theorem tm_mul {a b : Nat} (h : a * b < 18446744073709551616) (ha : a < 18446744073709551616) (hb : b < 18446744073709551616) : lI a * lI b = lI (a * b) := by
  refine uN_inj ?_
  rw [uN_mul, uN_lI ha, uN_lI hb, uN_lI h, Nat.mod_eq_of_lt h]
theorem tm_add {a b : Nat} (h : a + b < 18446744073709551616) : lI a + lI b = lI (a + b) := by
  refine uN_inj ?_
  rw [uN_add, uN_lI (by omega), uN_lI (by omega), uN_lI h, Nat.mod_eq_of_lt h]
theorem tm_lo {s : Nat} (h : s < 18446744073709551616) : lI s &&& 65535 = lI (s % 65536) := by
  refine uN_inj ?_
  rw [uN_and, show uN 65535 = 2 ^ 16 - 1 by decide, Nat.and_two_pow_sub_one_eq_mod, uN_lI h, uN_lI (by omega)]
theorem tm_l2i {x : Nat} (h : x < 4294967296) : (lI x).toInt32 = nI x := by
  refine u32_inj ?_
  rw [uN_l2i, uN_lI (by omega), u32_nI h, Nat.mod_eq_of_lt h]
theorem tm_hi {s : Nat} (h : s < 9223372036854775808) : lsr (lI s) 16 = lI (s / 65536) := by
  have a4 : (lsr (lI s) 16).toBitVec.toNat = ((lI s).toBitVec.sshiftRight 16).toNat := by
    rw [show 16 = (((16 : Int32).toInt64 &&& 63 : Int64).toBitVec.smod 64).toNat by decide]
    rfl
  have a6 : (lI s).toBitVec.toNat = s := uN_lI (by omega)
  have a5 : (lI s).toBitVec.msb = false := BitVec.msb_eq_false_iff_two_mul_lt.mpr (by rw [a6]; show 2 * s < 18446744073709551616; omega)
  refine uN_inj ?_
  show (lsr (lI s) 16).toBitVec.toNat = _
  rw [a4, BitVec.toNat_sshiftRight_of_msb_false a5, Nat.shiftRight_eq_div_pow, a6, uN_lI (by omega)]
def LMq (n : Nat) (g : Nat → Nat) (f : Nat → Int32) : Prop := ∀ i, i < n → g i < 65536 ∧ f i = nI (g i)
def upN (g : Nat → Nat) (j x : Nat) : Nat → Nat := fun i => if i = j then x else g i
theorem upN_at {g : Nat → Nat} {j x : Nat} : upN g j x j = x := if_pos rfl
theorem upN_ne {g : Nat → Nat} {i j x : Nat} (h : i ≠ j) : upN g j x i = g i := if_neg h
theorem LMq.up {n : Nat} {g : Nat → Nat} {f : Nat → Int32} {j x : Nat} (h : LMq n g f) (hx : x < 65536) : LMq n (upN g j x) (upd f j (nI x)) := by
  intro i hi
  by_cases e : i = j
  · rw [e, upN_at, updc_at]
    exact ⟨hx, rfl⟩
  · rw [upN_ne e, updc_ne e]
    exact h i hi
theorem LMq.cg {n : Nat} {g : Nat → Nat} {f f2 : Nat → Int32} (h : LMq n g f) (he : ∀ i, i < n → f2 i = f i) : LMq n g f2 := fun i hi => ⟨(h i hi).1, (he i hi).trans (h i hi).2⟩
theorem LMq.lo {n m : Nat} {g : Nat → Nat} {f : Nat → Int32} (h : LMq n g f) (hm : m ≤ n) : LMq m g f := fun i hi => h i (by omega)
theorem lm_0 {n : Nat} {f : Nat → Int32} (h : ∀ i, i < n → f i = 0) : LMq n (fun _ => 0) f := fun i hi => ⟨by show (0 : Nat) < 65536; decide, h i hi⟩
theorem lvb_z {b : Nat} : ∀ n, lvb b (fun _ => 0) n = 0 := by
  intro n
  induction n with
  | zero => rfl
  | succ n ih => rw [lvb_s, ih, Nat.zero_mul]
theorem lvb_u0 {b : Nat} {g : Nat → Nat} {j x : Nat} : lvb b (upN g j x) j = lvb b g j := lvb_ext j (fun k hk => upN_ne (by omega))
theorem lvb_u1 {b : Nat} {g : Nat → Nat} {j x : Nat} : lvb b (upN g j x) (j + 1) = lvb b g j + x * b ^ j := by
  rw [lvb_s, lvb_u0, upN_at]
theorem lvb_sp {b : Nat} (f : Nat → Nat) (q : Nat) : ∀ r, lvb b f (q + r) = lvb b f q + b ^ q * lvb b (fun k => f (q + k)) r := by
  intro r
  induction r with
  | zero => rw [Nat.add_zero, lvb_0, Nat.mul_zero, Nat.add_zero]
  | succ r ih => rw [← Nat.add_assoc, lvb_s, ih, lvb_s, Nat.mul_add, Nat.pow_add, Nat.add_assoc, show f (q + r) * (b ^ q * b ^ r) = b ^ q * (f (q + r) * b ^ r) by ac_rfl]
theorem lvb_top {b : Nat} {f : Nat → Nat} {n m : Nat} (hb : 0 < b) (h : lvb b f (n + m) < b ^ n) : lvb b f n = lvb b f (n + m) := by
  rw [lvb_sp] at h ⊢
  have h9 : lvb b (fun k => f (n + k)) m = 0 := Nat.eq_zero_of_not_pos (fun q => by
    have h8 : b ^ n * 1 ≤ b ^ n * lvb b (fun k => f (n + k)) m := Nat.mul_le_mul_left _ q
    omega)
  rw [h9, Nat.mul_zero, Nat.add_zero]
theorem lvb_cmp {b : Nat} {f g : Nat → Nat} {k : Nat} (hf : ∀ i, i < k → f i < b) (hk : f k < g k) : ∀ n, k < n → (∀ i, k < i → i < n → f i = g i) → lvb b f n < lvb b g n := by
  intro n
  induction n with
  | zero => intro h; exact absurd h (Nat.not_lt_zero _)
  | succ n ih =>
    intro h1 h2
    rw [lvb_s, lvb_s]
    rcases Nat.lt_or_ge k n with q | q
    · have h9 := ih q (fun i a b => h2 i a (by omega))
      rw [h2 n q (by omega)]
      omega
    · obtain rfl : k = n := by omega
      have h8 := lvb_lt k hf
      have h7 : (f k + 1) * b ^ k ≤ g k * b ^ k := Nat.mul_le_mul_right _ hk
      rw [Nat.add_mul, Nat.one_mul] at h7
      omega
theorem lvb_bit {g : Nat → Nat} {n m : Nat} (hg : ∀ i, i < n → g i < 65536) (hm : m < 16 * n) : lvb 65536 g n / 2 ^ m % 2 = g (m / 16) / 2 ^ (m % 16) % 2 := by
  have hq : m / 16 < n := by omega
  obtain ⟨r, hr⟩ : ∃ r, n = m / 16 + (r + 1) := ⟨n - m / 16 - 1, by omega⟩
  have e1 : lvb 65536 g n = lvb 65536 g (m / 16) + 65536 ^ (m / 16) * (g (m / 16) + 65536 * lvb 65536 (fun k => g (m / 16 + (k + 1))) r) := by
    rw [hr]
    rw [lvb_sp g (m / 16) (r + 1), lvb_sh]
    rfl
  have hlt := lvb_lt (m / 16) (fun k hk => hg k (by omega))
  have e2 : (2 : Nat) ^ m = 65536 ^ (m / 16) * 2 ^ (m % 16) := by
    rw [show (65536 : Nat) = 2 ^ 16 by decide, ← Nat.pow_mul, ← Nat.pow_add]
    congr 1
    omega
  generalize lvb 65536 (fun k => g (m / 16 + (k + 1))) r = Z at e1
  have hp : 0 < 65536 ^ (m / 16) := Nat.pow_pos (by decide)
  have e3 : lvb 65536 g n / 65536 ^ (m / 16) = g (m / 16) + 65536 * Z := by
    rw [e1, Nat.add_mul_div_left _ _ hp, Nat.div_eq_of_lt hlt, Nat.zero_add]
  have e4 : (65536 : Nat) = 2 ^ (m % 16) * (2 * 2 ^ (15 - m % 16)) := by
    rw [← Nat.pow_succ', ← Nat.pow_add, show m % 16 + (15 - m % 16).succ = 16 by omega]
  rw [e2, ← Nat.div_div_eq_div_mul, e3]
  have e5 : g (m / 16) + 65536 * Z = g (m / 16) + 2 ^ (m % 16) * (2 * (2 ^ (15 - m % 16) * Z)) := by
    rw [show 65536 * Z = 2 ^ (m % 16) * (2 * 2 ^ (15 - m % 16)) * Z from congrArg (· * Z) e4]
    congr 1
    ac_rfl
  rw [e5, Nat.add_mul_div_left _ _ (Nat.pow_pos (by decide)), Nat.add_mul_mod_self_left]
theorem sl_st {lf lg v P gj c bt : Nat} (h : lf + c * P = 2 * lg + bt) (hv : v = 2 * gj + c) : (lf + v % 65536 * P) + v / 65536 * (P * 65536) = 2 * (lg + gj * P) + bt := by
  have e1 : v % 65536 * P + v / 65536 * (P * 65536) = v * P := by
    rw [show v / 65536 * (P * 65536) = 65536 * (v / 65536) * P by ac_rfl, ← Nat.add_mul, Nat.mod_add_div]
  have e2 : v * P = 2 * (gj * P) + c * P := by
    rw [hv, Nat.add_mul, Nat.mul_assoc]
  rw [Nat.mul_add]
  omega
theorem sb_st {lx lm ly P a m b x b2 : Nat} (h : lx + lm = ly + b * P) (hx : x + m + b = a + b2 * 65536) : (lx + x * P) + (lm + m * P) = (ly + a * P) + b2 * (P * 65536) := by
  have e1 : (x + m + b) * P = (a + b2 * 65536) * P := by rw [hx]
  rw [Nat.add_mul, Nat.add_mul, Nat.add_mul] at e1
  rw [show b2 * (P * 65536) = b2 * 65536 * P by ac_rfl]
  omega
theorem rm_2 {X k N bt : Nat} (hk : 1 ≤ k) (hb : X / 2 ^ (k - 1) % 2 = bt) : (X / 2 ^ (k - 1)) % N = (2 * (X / 2 ^ k % N) + bt) % N := by
  have e1 : X / 2 ^ k = X / 2 ^ (k - 1) / 2 := by
    rw [Nat.div_div_eq_div_mul]
    congr 1
    rw [← Nat.pow_succ]
    congr 1
    omega
  have e2 : X / 2 ^ (k - 1) = 2 * (X / 2 ^ k) + bt := by
    rw [e1, ← hb]
    omega
  rw [e2, Nat.add_mod (2 * (X / 2 ^ k % N)) bt N, Nat.mul_mod 2 (X / 2 ^ k % N) N, Nat.mod_mod, ← Nat.mul_mod, ← Nat.add_mod]
theorem rm_sb {V N : Nat} (h1 : N ≤ V) (h2 : V < 2 * N) : V % N = V - N := by
  rw [Nat.mod_eq_sub_mod h1, Nat.mod_eq_of_lt (by omega)]
theorem p33 : (65536 : Nat) ^ 33 = 65536 ^ 32 * 65536 := rfl
def dgt (b : Nat → Nat) (i : Nat) : Nat := if i < 32 then wd2 b (62 - 2 * i) else 0
def dgw (b : Nat → Nat) (j i : Nat) : Nat := (if i < 32 ∧ 62 - 2 * i < j then b (62 - 2 * i) * 256 else 0) + (if i < 32 ∧ 63 - 2 * i < j then b (63 - 2 * i) else 0)
theorem dgw_0 {b : Nat → Nat} : dgw b 0 = fun _ => 0 := by
  funext i
  unfold dgw
  rw [if_neg (by omega), if_neg (by omega)]
theorem dgw_lt {b : Nat → Nat} (hb : ∀ k, k < 64 → b k < 256) (j i : Nat) : dgw b j i < 65536 := by
  unfold dgw
  have h1 : (if i < 32 ∧ 62 - 2 * i < j then b (62 - 2 * i) * 256 else 0) ≤ 65280 := by
    split
    · have h9 := hb (62 - 2 * i) (by omega)
      omega
    · omega
  have h2 : (if i < 32 ∧ 63 - 2 * i < j then b (63 - 2 * i) else 0) ≤ 255 := by
    split
    · have h9 := hb (63 - 2 * i) (by omega)
      omega
    · omega
  omega
theorem dgw_n {b : Nat → Nat} {j i : Nat} (hj : j < 64) (hi : i ≠ (63 - j) / 2) : dgw b (j + 1) i = dgw b j i := by
  unfold dgw
  have e1 : (i < 32 ∧ 62 - 2 * i < j + 1) ↔ (i < 32 ∧ 62 - 2 * i < j) := by omega
  have e2 : (i < 32 ∧ 63 - 2 * i < j + 1) ↔ (i < 32 ∧ 63 - 2 * i < j) := by omega
  by_cases c : i < 32 ∧ 62 - 2 * i < j
  · rw [if_pos c, if_pos (e1.mpr c)]
    by_cases d : i < 32 ∧ 63 - 2 * i < j
    · rw [if_pos d, if_pos (e2.mpr d)]
    · rw [if_neg d, if_neg (fun q => d (e2.mp q))]
  · rw [if_neg c, if_neg (fun q => c (e1.mp q))]
    by_cases d : i < 32 ∧ 63 - 2 * i < j
    · rw [if_pos d, if_pos (e2.mpr d)]
    · rw [if_neg d, if_neg (fun q => d (e2.mp q))]
theorem dg_s1 : ∀ c, c < 256 → shl (nI c) (nI 8) = nI (c * 256) := by decide +kernel
theorem dg_s0 : ∀ c, c < 256 → shl (nI c) (nI 0) = nI c := by decide +kernel
theorem dgw_y {b : Nat → Nat} (hb : ∀ k, k < 64 → b k < 256) {j : Nat} (hj : j < 64) : nI (dgw b j ((63 - j) / 2)) ||| shl (nI (b j)) (nI (8 * ((63 - j) % 2))) = nI (dgw b (j + 1) ((63 - j) / 2)) := by
  have hbj := hb j hj
  rcases Nat.mod_two_eq_zero_or_one j with q | q
  · have e0 : dgw b j ((63 - j) / 2) = 0 := by
      unfold dgw
      rw [if_neg (by omega), if_neg (by omega)]
    have e1 : dgw b (j + 1) ((63 - j) / 2) = b j * 256 := by
      unfold dgw
      rw [if_pos (by omega), if_neg (by omega), show 62 - 2 * ((63 - j) / 2) = j by omega, Nat.add_zero]
    rw [e0, e1, show 8 * ((63 - j) % 2) = 8 by omega, dg_s1 _ hbj]
    refine u32_inj ?_
    rw [u32_or, show u32 (nI 0) = 0 by decide, Nat.zero_or]
  · have e0 : dgw b j ((63 - j) / 2) = b (j - 1) * 256 := by
      unfold dgw
      rw [if_pos (by omega), if_neg (by omega), show 62 - 2 * ((63 - j) / 2) = j - 1 by omega, Nat.add_zero]
    have e1 : dgw b (j + 1) ((63 - j) / 2) = b (j - 1) * 256 + b j := by
      unfold dgw
      rw [if_pos (by omega), if_pos (by omega), show 62 - 2 * ((63 - j) / 2) = j - 1 by omega, show 63 - 2 * ((63 - j) / 2) = j by omega]
    have hb1 := hb (j - 1) (by omega)
    rw [e0, e1, show 8 * ((63 - j) % 2) = 0 by omega, dg_s0 _ hbj]
    refine u32_inj ?_
    rw [u32_or, u32_nI (by omega), u32_nI (by omega), u32_nI (by omega)]
    exact or_ad (k := 8) hbj
theorem dgw_e {b : Nat → Nat} {i : Nat} : dgw b 64 i = dgt b i := by
  unfold dgw dgt wd2
  by_cases c : i < 32
  · rw [if_pos ⟨c, by omega⟩, if_pos ⟨c, by omega⟩, if_pos c, show 62 - 2 * i + 1 = 63 - 2 * i by omega]
  · rw [if_neg (fun q => c q.1), if_neg (fun q => c q.1), if_neg c]
theorem dgt_32 {b : Nat → Nat} : lvb 65536 (dgt b) 32 = be b 64 := by
  refine be_l2 b 32 (dgt b) (fun i hi => ?_)
  rw [show 2 * (32 - 1 - i) = 62 - 2 * i by omega]
  exact if_pos hi
theorem dgt_33 {b : Nat → Nat} : lvb 65536 (dgt b) 33 = be b 64 := by
  rw [show 33 = 32 + 1 from rfl, lvb_s, dgt_32, show dgt b 32 = 0 from if_neg (by decide), Nat.zero_mul, Nat.add_zero]
theorem be_top {b : Nat → Nat} (hb : ∀ k, k < 64 → b k < 256) : be b 64 < 65536 ^ 32 := by
  have h9 := be_lt 64 hb
  rwa [show (256 : Nat) ^ 64 = 65536 ^ 32 by decide +kernel] at h9
theorem be_geq {b : Nat → Nat} (h0 : 128 ≤ b 0) : ∀ n, 128 * 256 ^ n ≤ be b (n + 1) := by
  intro n
  induction n with
  | zero =>
    rw [be_s]
    show 128 * 1 ≤ 0 * 256 + b 0
    omega
  | succ n ih =>
    rw [be_s, Nat.pow_succ]
    omega
theorem be_pos {b : Nat → Nat} (h0 : 128 ≤ b 0) : 0 < be b 64 := Nat.lt_of_lt_of_le (Nat.mul_pos (by decide) (Nat.pow_pos (by decide))) (be_geq h0 63)
theorem tm_g {X P Y V W z : Nat} : X + P * (Y + V + W) = X + P * (Y + 0 * z + W) + V * P := by
  rw [Nat.zero_mul, Nat.add_zero, show Y + V + W = Y + W + V by omega, Nat.mul_add P (Y + W), Nat.mul_comm V P]
  omega
theorem tm_row {g0 g1 : Nat → Nat} {i c A t : Nat} (hi : i < 32) (hu : ∀ k, k < 66 → (k < i ∨ i + 33 < k) → g1 k = g0 k) (hz : g0 (i + 33) = 0) (hc : g1 (i + 33) = c) (h : lvb 65536 (fun k => g1 (i + k)) 33 + c * 65536 ^ 33 = lvb 65536 (fun k => g0 (i + k)) 33 + A * t) : lvb 65536 g1 66 = lvb 65536 g0 66 + A * t * 65536 ^ i := by
  have sp : ∀ f : Nat → Nat, lvb 65536 f 66 = lvb 65536 f i + 65536 ^ i * (lvb 65536 (fun k => f (i + k)) 33 + f (i + 33) * 65536 ^ 33 + 65536 ^ 34 * lvb 65536 (fun k => f (i + (34 + k))) (32 - i)) := fun f => by
    rw [show 66 = i + (34 + (32 - i)) by omega, lvb_sp f i, lvb_sp (fun k => f (i + k)) 34, show 34 = 33 + 1 from rfl, lvb_s]
  rw [sp g1, sp g0, hz, hc, h, lvb_ext (g := g0) i (fun k hk => hu k (by omega) (Or.inl hk)), lvb_ext (g := fun k => g0 (i + (34 + k))) (32 - i) (fun k hk => hu _ (by omega) (Or.inr (by omega)))]
  exact tm_g
theorem by_du {fe fh : Nat → Int32} {h : Nat → Nat} (h1 : ∀ j, j < 32 → fe j = vp_nar .byte (nI (duL.getD j 0))) (h2 : ∀ j, j < 32 → fe (32 + j) = fh j) (hh : BYM h 32 fh) : BYM (duW h) 64 fe := by
  intro j hj
  unfold duW
  rcases Nat.lt_or_ge j 32 with q | q
  · rw [if_pos q]
    exact ⟨du_lt j q, h1 j q⟩
  · rw [if_neg (by omega)]
    have h9 := h2 (j - 32) (by omega)
    rw [show 32 + (j - 32) = j by omega] at h9
    exact ⟨(hh (j - 32) (by omega)).1, h9.trans (hh (j - 32) (by omega)).2⟩
theorem sgo_m {g : Nat → Nat} {bs bm h : Nat → Nat} (hl : ∀ i, i < 33 → g i < 65536) (hd : ∀ k, k < 64 → duW h k < 256) (hv : lvb 65536 g 33 = pwm (be bs 64) (be bm 64)) : (∀ i, i < 33 → dgt (duW h) i = g i) ↔ SGO bs bm h := by
  have hlt : ∀ i, i < 33 → dgt (duW h) i < 65536 := fun i _ => by
    rw [← dgw_e]
    exact dgw_lt hd 64 i
  unfold SGO
  rw [← hv, ← dgt_33 (b := duW h)]
  constructor
  · intro q
    exact lvb_ext 33 (fun k hk => (q k hk).symm)
  · intro q
    exact lvb_uniq 33 hlt hl q.symm
set_option maxHeartbeats 4000000 in
set_option maxRecDepth 100000 in
theorem m_J7_fill_53178_x (l : Launch) (dC : Nat → ClassId) (dI : Nat → Nat → Nat) (cs : Nat → ClassId) (ty : TyM) (gm : Nat → Nat → Nat) (L : List Nat) (sz : Nat) (F : Nat → va_E) (gf : Nat) (τ : Nat) (nq : Nat) (x1 : Int32) (hW : WTm ty gm L) (hL_gf : gf ∈ L) (hT_gf : ty gf = (16, τ, [nq])) (hnq : nq ≤ 10000) : Met l yJ7_fill_53178 (.code yJ7_fill_53178 cJ7_fill_53178 4 none :: tb) ({ frames := 0, cells := 0, slots := 0, locals := 0 }) (va_Pc [.ref gf, .int x1] (PTm (dC, dI) cs ty gm L F sz)) (va_Qv (fun _ : Unit => True) (fun _ T9 => ∃ F2 : Nat → va_E, ∃ f2 : Nat → Int32, QTm (dC, dI) cs ty gm L [τ] F F2 (va_A (va_pl L F) sz) T9 ∧ F2 gf = .inl (cs 16, nq, .inl f2) ∧ (∀ i, i < nq → f2 i = x1)) (va_A (va_pl L F) sz)) 0 0 (va_A (va_pl L F) sz) := by
  refine Met.ofW (cc := cJ7_fill_53178) (maxL := 4) (ret := none) (by decide) rfl ?_
  intro p e s m args below meth c s₁ B hml hv
  obtain ⟨rfl, hsz, hP, hK, hD0, hE, hO⟩ := hv
  have hx := B.exec
  have hb := B.bytes
  have hr := B.returns
  have hts : ∀ w ∈ tb, w.before _ s = true := fun w h => atoms_spec (ws := .code yJ7_fill_53178 cJ7_fill_53178 4 none :: tb) B.pre w (List.mem_cons_of_mem _ h)
  have hown : s.vm.findClass RJ7 = some m.cls := findClass_of_methodNamed B.named
  have hlocks := B.notSynchronized
  subst hsz
  have hD := hD0.self (sz := s.heap.size)
  generalize hAe : va_A (va_pl L F) s.heap.size = A at hD ⊢
  have hA : ∀ q : Nat, s.heap.size ≤ q → A q := fun q h => by rw [← hAe]; exact Or.inr h
  have hS : va_S A s.heap s.heap [] := va_S.rf
  have hR : FR ty [τ] F F := FR.refl
  have hl := lv_entry ([.ref gf, .int x1]) (n := 4) (Nat.le_of_ble_eq_true rfl)
  rw [lg_entry_eq]
  generalize (lg_sl ([.ref gf, .int x1]) ++ List.replicate (4 - (lg_sl ([.ref gf, .int x1])).length) Slot.unset).toArray = ls at hl ⊢
  have hl : lv_has ls 4 [(0, .ref gf), (1, .int x1)] := hl
  obtain ⟨hq_1, hq_2⟩ := hW.ints hL_gf hT_gf
  obtain ⟨f_3, hF_4⟩ := hO.ints hL_gf hT_gf
  refine lv_iconst (v := 0) hx hb dJ7_fill_53178_0 (by decide) ?_
  refine lv_istore_n (lv' := [(2, .int 0), (0, .ref gf), (1, .int x1)]) hx hb dJ7_fill_53178_1 rfl hl (by decide) rfl (fun ls hl => ?_)
  refine lv_aload_n hx hb dJ7_fill_53178_2 rfl (lv_at hl 1 rfl) ?_
  refine pg_alen (v := (nI nq)) hx hb hK hP hL_gf 0 hF_4 rfl rfl dJ7_fill_53178_3 ?_
  refine lv_istore_n (lv' := [(3, .int (nI nq)), (2, .int 0), (0, .ref gf), (1, .int x1)]) hx hb dJ7_fill_53178_4 rfl hl (by decide) rfl (fun ls hl => ?_)
  refine W.widen (k := 0) (n := 0) (by omega) (by omega) ?_
  refine pl_loopm (σ := Nat × (Nat → Int32)) A (dC, dI) cs ty gm L [τ] F 5 4 (fun (j, ff) => [(3, .int (nI nq)), (2, .int (nI j)), (0, .ref gf), (1, .int x1)]) (fun (j, ff) => []) (fun (j, ff) FF => j ≤ nq ∧ (∀ i, i < j → ff i = x1) ∧ FF gf = .inl (cs 16, nq, .inl ff)) (fun (j, ff) => nq - j) ?_ (0, f_3) F (⟨by omega, fun i hi => absurd hi (Nat.not_lt_zero _), hF_4⟩) hO hR _ _ hP hD hS ls (lv_sub hl [0, 1, 2, 3] rfl)
  rintro ⟨j, ff⟩ F_5 hv_6 hO hR ih_7 H locs hP hD hS ls hl
  have hl : lv_has ls 4 [(3, .int (nI nq)), (2, .int (nI j)), (0, .ref gf), (1, .int x1)] := hl
  have hv_6 : j ≤ nq ∧ (∀ i, i < j → ff i = x1) ∧ F_5 gf = .inl (cs 16, nq, .inl ff) := hv_6
  refine W.eq (g2 := F0 m 5 ls []) rfl ?_
  obtain ⟨hv1, hv2, hv3⟩ := id hv_6
  refine lv_iload_n hx hb dJ7_fill_53178_5 rfl (lv_at hl 1 rfl) ?_
  refine lv_iload_n hx hb dJ7_fill_53178_6 rfl (lv_at hl 0 rfl) ?_
  refine lv_icmp_ge (tgt := 20) hx hb dJ7_fill_53178_7 (by decide) (fun c_8 => ?_) (fun c_8 => ?_)
  ·
    have hi_9 : nq ≤ j := leN (N := nq) c_8
    refine W.widen (k := 0) (n := 0) (by omega) (by omega) ?_
    exact W.vret hx hb hr (fun t ht hWm => ⟨⟨(), rfl, trivial, ⟨F_5, ff, QTm.mk ht hP hD hO hR, hv3, (fun i hi => hv2 i (by omega))⟩⟩, hS.F ht⟩) hS.2.2 dJ7_fill_53178_20
  ·
    have hi_10 : j < nq := ltN (N := nq) c_8
    refine lv_aload_n hx hb dJ7_fill_53178_10 rfl (lv_at hl 2 rfl) ?_
    refine lv_iload_n hx hb dJ7_fill_53178_11 rfl (lv_at hl 1 rfl) ?_
    refine lv_iload_n hx hb dJ7_fill_53178_12 rfl (lv_at hl 3 rfl) ?_
    refine pg_iast hx hb hK hP hD hS hL_gf 0 hv3 rfl (vp_in_nI (by omega) (by omega)) dJ7_fill_53178_13 (fun H locs hP hD hS => ?_)
    obtain ⟨F_11, he_12, hP, hD, hO, hR⟩ : ∃ G, G = va_up F_5 gf (.inl (cs 16, nq, .inl (upd ff ((nI j)).toNatClampNeg (x1)))) ∧ va_P (dC, dI) vwCl (va_pl L G) H ∧ va_D A (va_pl L G) ∧ OKm cs ty gm L G ∧ FR ty [τ] F G := ⟨_, rfl, hP, hD, hO.up (shm.ints hT_gf ⟨_, rfl⟩), hR.up hT_gf (by simp)⟩
    have hF_13 : F_11 gf = .inl (cs 16, nq, .inl (upd ff ((nI j)).toNatClampNeg (x1))) := by rw [he_12]; exact up_self
    have hF_14 : F_11 gf = .inl (cs 16, nq, .inl (upd ff j x1)) := by have h9 := hF_13; rwa [nI_clamp (by omega)] at h9
    refine lv_iinc (v := (nI (j + 1))) (lv' := [(2, .int (nI (j + 1))), (3, .int (nI nq)), (0, .ref gf), (1, .int x1)]) hx hb dJ7_fill_53178_14 hl (k := 1) rfl (nI_1 _) (by decide) rfl (fun ls hl => ?_)
    refine lv_goto (tgt := 5) hx hb dJ7_fill_53178_17 (by decide) ?_
    refine W.widen (k := 0) (n := 0) (by omega) (by omega) ?_
    exact ih_7 ((j + 1), (upd ff j x1)) F_11 (⟨by omega, fun i hi => by by_cases c9 : i = j; rw [c9, updc_at]; rw [updc_ne c9]; exact hv2 i (by omega), hF_14⟩) (by show nq - (j + 1) < nq - j; omega) hO hR _ _ hP hD hS ls (lv_sub hl [1, 0, 2, 3] rfl)
set_option maxHeartbeats 4000000 in
set_option maxRecDepth 100000 in
theorem m_J7_fill_031fb_x (l : Launch) (dC : Nat → ClassId) (dI : Nat → Nat → Nat) (cs : Nat → ClassId) (ty : TyM) (gm : Nat → Nat → Nat) (L : List Nat) (sz : Nat) (F : Nat → va_E) (gf : Nat) (τ : Nat) (nq : Nat) (x1 : Int32) (hW : WTm ty gm L) (hL_gf : gf ∈ L) (hT_gf : ty gf = (17, τ, [nq])) (hnq : nq ≤ 10000) : Met l yJ7_fill_031fb (.code yJ7_fill_031fb cJ7_fill_031fb 4 none :: tb) ({ frames := 0, cells := 0, slots := 0, locals := 0 }) (va_Pc [.ref gf, .int x1] (PTm (dC, dI) cs ty gm L F sz)) (va_Qv (fun _ : Unit => True) (fun _ T9 => ∃ F2 : Nat → va_E, ∃ f2 : Nat → Int32, QTm (dC, dI) cs ty gm L [τ] F F2 (va_A (va_pl L F) sz) T9 ∧ F2 gf = .inl (cs 17, nq, .inl f2) ∧ (∀ i, i < nq → f2 i = vp_nar .byte x1)) (va_A (va_pl L F) sz)) 0 0 (va_A (va_pl L F) sz) := by
  refine Met.ofW (cc := cJ7_fill_031fb) (maxL := 4) (ret := none) (by decide) rfl ?_
  intro p e s m args below meth c s₁ B hml hv
  obtain ⟨rfl, hsz, hP, hK, hD0, hE, hO⟩ := hv
  have hx := B.exec
  have hb := B.bytes
  have hr := B.returns
  have hts : ∀ w ∈ tb, w.before _ s = true := fun w h => atoms_spec (ws := .code yJ7_fill_031fb cJ7_fill_031fb 4 none :: tb) B.pre w (List.mem_cons_of_mem _ h)
  have hown : s.vm.findClass RJ7 = some m.cls := findClass_of_methodNamed B.named
  have hlocks := B.notSynchronized
  subst hsz
  have hD := hD0.self (sz := s.heap.size)
  generalize hAe : va_A (va_pl L F) s.heap.size = A at hD ⊢
  have hA : ∀ q : Nat, s.heap.size ≤ q → A q := fun q h => by rw [← hAe]; exact Or.inr h
  have hS : va_S A s.heap s.heap [] := va_S.rf
  have hR : FR ty [τ] F F := FR.refl
  have hl := lv_entry ([.ref gf, .int x1]) (n := 4) (Nat.le_of_ble_eq_true rfl)
  rw [lg_entry_eq]
  generalize (lg_sl ([.ref gf, .int x1]) ++ List.replicate (4 - (lg_sl ([.ref gf, .int x1])).length) Slot.unset).toArray = ls at hl ⊢
  have hl : lv_has ls 4 [(0, .ref gf), (1, .int x1)] := hl
  obtain ⟨hq_1, hq_2⟩ := hW.octs hL_gf hT_gf
  obtain ⟨f_3, hF_4, hq_5⟩ := hO.octs hL_gf hT_gf
  refine lv_iconst (v := 0) hx hb dJ7_fill_031fb_0 (by decide) ?_
  refine lv_istore_n (lv' := [(2, .int 0), (0, .ref gf), (1, .int x1)]) hx hb dJ7_fill_031fb_1 rfl hl (by decide) rfl (fun ls hl => ?_)
  refine lv_aload_n hx hb dJ7_fill_031fb_2 rfl (lv_at hl 1 rfl) ?_
  refine pg_alen (v := (nI nq)) hx hb hK hP hL_gf 1 hF_4 rfl rfl dJ7_fill_031fb_3 ?_
  refine lv_istore_n (lv' := [(3, .int (nI nq)), (2, .int 0), (0, .ref gf), (1, .int x1)]) hx hb dJ7_fill_031fb_4 rfl hl (by decide) rfl (fun ls hl => ?_)
  refine W.widen (k := 0) (n := 0) (by omega) (by omega) ?_
  refine pl_loopm (σ := Nat × (Nat → Int32)) A (dC, dI) cs ty gm L [τ] F 5 4 (fun (j, ff) => [(3, .int (nI nq)), (2, .int (nI j)), (0, .ref gf), (1, .int x1)]) (fun (j, ff) => []) (fun (j, ff) FF => j ≤ nq ∧ (∀ i, i < j → ff i = vp_nar .byte x1) ∧ FF gf = .inl (cs 17, nq, .inl ff)) (fun (j, ff) => nq - j) ?_ (0, f_3) F (⟨by omega, fun i hi => absurd hi (Nat.not_lt_zero _), hF_4⟩) hO hR _ _ hP hD hS ls (lv_sub hl [0, 1, 2, 3] rfl)
  rintro ⟨j, ff⟩ F_6 hv_7 hO hR ih_8 H locs hP hD hS ls hl
  have hl : lv_has ls 4 [(3, .int (nI nq)), (2, .int (nI j)), (0, .ref gf), (1, .int x1)] := hl
  have hv_7 : j ≤ nq ∧ (∀ i, i < j → ff i = vp_nar .byte x1) ∧ F_6 gf = .inl (cs 17, nq, .inl ff) := hv_7
  refine W.eq (g2 := F0 m 5 ls []) rfl ?_
  obtain ⟨hv1, hv2, hv3⟩ := id hv_7
  have hBG := bfmo hv3 (hO.octs hL_gf hT_gf)
  refine lv_iload_n hx hb dJ7_fill_031fb_5 rfl (lv_at hl 1 rfl) ?_
  refine lv_iload_n hx hb dJ7_fill_031fb_6 rfl (lv_at hl 0 rfl) ?_
  refine lv_icmp_ge (tgt := 20) hx hb dJ7_fill_031fb_7 (by decide) (fun c_9 => ?_) (fun c_9 => ?_)
  ·
    have hi_10 : nq ≤ j := leN (N := nq) c_9
    refine W.widen (k := 0) (n := 0) (by omega) (by omega) ?_
    exact W.vret hx hb hr (fun t ht hWm => ⟨⟨(), rfl, trivial, ⟨F_6, ff, QTm.mk ht hP hD hO hR, hv3, (fun i hi => hv2 i (by omega))⟩⟩, hS.F ht⟩) hS.2.2 dJ7_fill_031fb_20
  ·
    have hi_11 : j < nq := ltN (N := nq) c_9
    refine lv_aload_n hx hb dJ7_fill_031fb_10 rfl (lv_at hl 2 rfl) ?_
    refine lv_iload_n hx hb dJ7_fill_031fb_11 rfl (lv_at hl 1 rfl) ?_
    refine lv_iload_n hx hb dJ7_fill_031fb_12 rfl (lv_at hl 3 rfl) ?_
    refine pg_bast hx hb hK hP hD hS hL_gf 1 hv3 rfl (vp_in_nI (by omega) (by omega)) dJ7_fill_031fb_13 (fun H locs hP hD hS => ?_)
    obtain ⟨F_12, he_13, hP, hD, hO, hR⟩ : ∃ G, G = va_up F_6 gf (.inl (cs 17, nq, .inl (upd ff ((nI j)).toNatClampNeg (vp_nar .byte (x1))))) ∧ va_P (dC, dI) vwCl (va_pl L G) H ∧ va_D A (va_pl L G) ∧ OKm cs ty gm L G ∧ FR ty [τ] F G := ⟨_, rfl, hP, hD, hO.up (shm.octs hT_gf ⟨_, rfl, bfm_upd hBG _ _⟩), hR.up hT_gf (by simp)⟩
    have hF_14 : F_12 gf = .inl (cs 17, nq, .inl (upd ff ((nI j)).toNatClampNeg (vp_nar .byte (x1)))) := by rw [he_13]; exact up_self
    obtain ⟨f_15, hF_14, hq_16, hfe_17⟩ : ∃ f : Nat → Int32, F_12 gf = .inl (cs 17, nq, .inl f) ∧ BFm f ∧ f = upd ff ((nI j)).toNatClampNeg (vp_nar .byte (x1)) := ⟨_, hF_14, bfm_upd hBG _ _, rfl⟩
    refine lv_iinc (v := (nI (j + 1))) (lv' := [(2, .int (nI (j + 1))), (3, .int (nI nq)), (0, .ref gf), (1, .int x1)]) hx hb dJ7_fill_031fb_14 hl (k := 1) rfl (nI_1 _) (by decide) rfl (fun ls hl => ?_)
    refine lv_goto (tgt := 5) hx hb dJ7_fill_031fb_17 (by decide) ?_
    refine W.widen (k := 0) (n := 0) (by omega) (by omega) ?_
    exact ih_8 ((j + 1), f_15) F_12 (⟨by omega, fun i hi => by rw [hfe_17, nI_clamp (by omega)]; by_cases c9 : i = j; rw [c9, updc_at]; rw [updc_ne c9]; exact hv2 i (by omega), hF_14⟩) (by show nq - (j + 1) < nq - j; omega) hO hR _ _ hP hD hS ls (lv_sub hl [1, 0, 2, 3] rfl)
theorem nar_255 : ∀ n, n < 256 → (vp_nar .byte (nI n)) &&& 255 = nI n := by decide +kernel
set_option maxHeartbeats 4000000 in
set_option maxRecDepth 100000 in
theorem s_X15_digits_x (l : Launch) (dC : Nat → ClassId) (dI : Nat → Nat → Nat) (cs : Nat → ClassId) (ty : TyM) (gm : Nat → Nat → Nat) (L : List Nat) (sz : Nat) (F : Nat → va_E) (g1 : Nat) (σ : Nat) (gq : Nat) (τ : Nat) (fs9 : Nat → Int32) (bb : Nat → Nat) (hW : WTm ty gm L) (hL_g1 : g1 ∈ L) (hT_g1 : ty g1 = (17, σ, [64])) (hL_gq : gq ∈ L) (hT_gq : ty gq = (16, τ, [33])) (hFg : F g1 = .inl (cs 17, 64, .inl fs9)) (hBY : BYM bb 64 fs9) (hst : σ ≠ τ) : Met l yX15_digits (.code yX15_digits cX15_digits 3 none :: tb) ({ frames := 1, cells := 0, slots := 0, locals := 23 }) (va_Pc [.ref g1, .ref gq] (PTm (dC, dI) cs ty gm L F sz)) (va_Qv (fun _ : Unit => True) (fun _ T9 => ∃ F2 : Nat → va_E, ∃ f2 : Nat → Int32, QTm (dC, dI) cs ty gm L [τ] F F2 (va_A (va_pl L F) sz) T9 ∧ F2 gq = .inl (cs 16, 33, .inl f2) ∧ LMq 33 (dgt bb) f2) (va_A (va_pl L F) sz)) 0 0 (va_A (va_pl L F) sz) := by
  refine Met.ofW (cc := cX15_digits) (maxL := 3) (ret := none) (by decide) rfl ?_
  intro p e s m args below meth c s₁ B hml hv
  obtain ⟨rfl, hsz, hP, hK, hD0, hE, hO⟩ := hv
  have hx := B.exec
  have hb := B.bytes
  have hr := B.returns
  have hts : ∀ w ∈ tb, w.before _ s = true := fun w h => atoms_spec (ws := .code yX15_digits cX15_digits 3 none :: tb) B.pre w (List.mem_cons_of_mem _ h)
  have hown : s.vm.findClass RX15 = some m.cls := findClass_of_methodNamed B.named
  have hlocks := B.notSynchronized
  subst hsz
  have hD := hD0.self (sz := s.heap.size)
  generalize hAe : va_A (va_pl L F) s.heap.size = A at hD ⊢
  have hA : ∀ q : Nat, s.heap.size ≤ q → A q := fun q h => by rw [← hAe]; exact Or.inr h
  have hS : va_S A s.heap s.heap [] := va_S.rf
  have hR : FR ty [τ] F F := FR.refl
  have hl := lv_entry ([.ref g1, .ref gq]) (n := 3) (Nat.le_of_ble_eq_true rfl)
  rw [lg_entry_eq]
  generalize (lg_sl ([.ref g1, .ref gq]) ++ List.replicate (3 - (lg_sl ([.ref g1, .ref gq])).length) Slot.unset).toArray = ls at hl ⊢
  have hl : lv_has ls 3 [(0, .ref g1), (1, .ref gq)] := hl
  obtain ⟨hq_1, hq_2⟩ := hW.ints hL_gq hT_gq
  obtain ⟨f_3, hF_4⟩ := hO.ints hL_gq hT_gq
  have hb8 : ∀ k, k < 64 → bb k < 256 := fun k hk => (hBY k hk).1
  refine lv_aload_n hx hb dX15_digits_0 rfl (lv_at hl 1 rfl) ?_
  refine lv_iconst (v := 0) hx hb dX15_digits_1 (by decide) ?_
  have hFc := pg_free hD hS hA
  refine va_callv (va_runS (As := [.ref gq, .int 0]) (rest := []) ⟨hx, hb, hml, hown, hts⟩ (m_J7_fill_53178_x l dC dI cs ty gm L s.heap.size F gq τ 33 0 hW hL_gq hT_gq (by first | omega | assumption | exact Or.inl rfl)) ⟨callB_of 2 hts (gi kt_807) rfl rfl rfl (hts _ kt_808) (hts _ kt_809) (by decide +kernel) ⟨Nat.le_of_ble_eq_true rfl, Nat.le_of_ble_eq_true rfl⟩, (hts _ kt_810)⟩ ⟨fun a U g mk q => ⟨q.1, PTm.calling q.2⟩, fun U hU hWm => ⟨rfl, PTm.mk hU hWm hP hK hD hE hO⟩⟩ rfl rfl hl.1 rfl (lv_room (Nat.le_of_ble_eq_true rfl)) dX15_digits_2 ⟨by show _ + 0 ≤ 0; omega, by show _ + 0 ≤ 0; omega⟩) hS (fun q _ h => hFc q h) hFc (fun u t H1 locs ht hvm hw hB hz1 hk1 hS => ?_)
  obtain ⟨F_6, f2_7, hB1, hq_8, hq_9⟩ := hB
  obtain ⟨hP, hD, hO, hR⟩ := QTm.back hB1 ht hFc hR (fun q h => by simp only [List.mem_cons, List.not_mem_nil, or_false] at h ⊢; omega)
  have hF_10 : F_6 g1 = .inl (cs 17, 64, .inl fs9) := (hB1.2.2.2 g1 (by rw [hT_g1]; simp only [List.mem_cons, List.not_mem_nil, or_false]; omega)).trans hFg
  generalize H1 = H at hP hS ⊢
  have hz9 := hq_9
  refine lv_iconst (v := 0) hx hb dX15_digits_5 (by decide) ?_
  refine lv_istore_n (lv' := [(2, .int 0), (0, .ref g1), (1, .ref gq)]) hx hb dX15_digits_6 rfl hl (by decide) rfl (fun ls hl => ?_)
  refine W.widen (k := 0) (n := 0) (by omega) (by omega) ?_
  have hF_12 : F g1 = .inl (cs 17, 64, .inl fs9) := (hR g1 (by rw [hT_g1]; simp only [List.mem_cons, List.not_mem_nil, or_false]; omega)).symm.trans hF_10
  refine pl_loopm (σ := Nat × (Nat → Int32)) A (dC, dI) cs ty gm L [τ] F 7 3 (fun (j, fq) => [(2, .int (nI j)), (0, .ref g1), (1, .ref gq)]) (fun (j, fq) => []) (fun (j, fq) FF => j ≤ 64 ∧ FF gq = .inl (cs 16, 33, .inl fq) ∧ LMq 33 (dgw bb j) fq) (fun (j, fq) => 64 - j) ?_ (0, f2_7) F_6 (⟨by omega, hq_8, by rw [dgw_0]; exact lm_0 hz9⟩) hO hR _ _ hP hD hS ls (lv_sub hl [0, 1, 2] rfl)
  rintro ⟨j, fq⟩ F_11 hv_13 hO hR ih_14 H locs hP hD hS ls hl
  have hl : lv_has ls 3 [(2, .int (nI j)), (0, .ref g1), (1, .ref gq)] := hl
  have hv_13 : j ≤ 64 ∧ F_11 gq = .inl (cs 16, 33, .inl fq) ∧ LMq 33 (dgw bb j) fq := hv_13
  refine W.eq (g2 := F0 m 7 ls []) rfl ?_
  have hF_15 : F_11 g1 = .inl (cs 17, 64, .inl fs9) := (hR g1 (by rw [hT_g1]; simp only [List.mem_cons, List.not_mem_nil, or_false]; omega)).trans hF_12
  obtain ⟨hv1, hv2, hv3⟩ := id hv_13
  refine lv_iload_n hx hb dX15_digits_7 rfl (lv_at hl 0 rfl) ?_
  refine lv_bipush (v := 64) hx hb dX15_digits_8 (by decide) ?_
  refine lv_icmp_ge (tgt := 47) hx hb dX15_digits_10 (by decide) (fun c_16 => ?_) (fun c_16 => ?_)
  ·
    have hi_17 : 64 ≤ j := leN (N := 64) c_16
    have hj64 : 64 ≤ j := (nI_leI (by omega) (by omega)).mp c_16
    refine W.widen (k := 0) (n := 0) (by omega) (by omega) ?_
    exact W.vret hx hb hr (fun t ht hWm => ⟨⟨(), rfl, trivial, ⟨F_11, fq, QTm.mk ht hP hD hO hR, hv2, (fun i hi => by have h9 := hv3 i hi; rw [show j = 64 by omega, dgw_e] at h9; exact h9)⟩⟩, hS.F ht⟩) hS.2.2 dX15_digits_47
  ·
    have hi_18 : j < 64 := ltN (N := 64) c_16
    have hj64 : j < 64 := Nat.not_le.mp (fun q => c_16 ((nI_leI (by omega) (by omega)).mpr q))
    refine lv_aload_n hx hb dX15_digits_13 rfl (lv_at hl 2 rfl) ?_
    refine lv_bipush (v := 63) hx hb dX15_digits_14 (by decide) ?_
    refine lv_iload_n hx hb dX15_digits_16 rfl (lv_at hl 0 rfl) ?_
    refine lv_isub hx hb dX15_digits_17 ?_
    refine lv_topi (fun x_19 ex_19 => ?_)
    obtain rfl : x_19 = (nI (63 - j)) := ex_19.trans (pk_sub (a := 63) (b := j) (by omega))
    refine lv_iconst (v := 2) hx hb dX15_digits_18 (by decide) ?_
    refine lv_idiv hx hb dX15_digits_19 (by decide) ?_
    refine lv_topi (fun x_20 ex_20 => ?_)
    obtain rfl : x_20 = (nI ((63 - j) / 2)) := ex_20.trans (pk_div (d := 2) (by omega) (by omega) (by omega))
    refine lv_dup2_11 hx hb dX15_digits_20 rfl rfl ?_
    refine pg_iald hx hb hK hP hL_gq 0 hv2 rfl (vp_in_nI (by omega) (by omega)) dX15_digits_21 ?_
    refine lv_topi (fun x_21 ex_21 => ?_)
    obtain rfl : x_21 = (nI (dgw bb j ((63 - j) / 2))) := ex_21.trans ((congrArg fq (nI_clamp (by omega))).trans (hv3 ((63 - j) / 2) (by omega)).2)
    refine lv_aload_n hx hb dX15_digits_22 rfl (lv_at hl 1 rfl) ?_
    refine lv_iload_n hx hb dX15_digits_23 rfl (lv_at hl 0 rfl) ?_
    obtain ⟨hq_22, hq_23⟩ := hW.octs hL_g1 hT_g1
    refine pg_bald hx hb hK hP hL_g1 1 hF_15 rfl (vp_in_nI (by omega) (by omega)) dX15_digits_24 ?_
    refine lv_topi (fun x_24 ex_24 => ?_)
    obtain rfl : x_24 = (vp_nar .byte (nI (bb j))) := ex_24.trans ((congrArg fs9 (nI_clamp (by omega))).trans (hBY j (by omega)).2)
    refine lv_sipush (v := 255) hx hb dX15_digits_25 (by decide) ?_
    refine lv_iand hx hb dX15_digits_28 ?_
    refine lv_topi (fun x_25 ex_25 => ?_)
    obtain rfl : x_25 = (nI (bb j)) := ex_25.trans (nar_255 _ (hb8 j (by omega)))
    refine lv_bipush (v := 8) hx hb dX15_digits_29 (by decide) ?_
    refine lv_bipush (v := 63) hx hb dX15_digits_31 (by decide) ?_
    refine lv_iload_n hx hb dX15_digits_33 rfl (lv_at hl 0 rfl) ?_
    refine lv_isub hx hb dX15_digits_34 ?_
    refine lv_topi (fun x_26 ex_26 => ?_)
    obtain rfl : x_26 = (nI (63 - j)) := ex_26.trans (pk_sub (a := 63) (b := j) (by omega))
    refine lv_iconst (v := 2) hx hb dX15_digits_35 (by decide) ?_
    refine lv_irem hx hb dX15_digits_36 (by decide) ?_
    refine lv_topi (fun x_27 ex_27 => ?_)
    obtain rfl : x_27 = (nI ((63 - j) % 2)) := ex_27.trans (pk_remL (d := 2) (by omega) (by omega) (by omega))
    refine lv_imul hx hb dX15_digits_37 ?_
    refine lv_topi (fun x_28 ex_28 => ?_)
    obtain rfl : x_28 = (nI (8 * ((63 - j) % 2))) := ex_28.trans (pk_mul 8 _)
    refine lv_ishl hx hb dX15_digits_38 ?_
    refine lv_topi (fun x_29 ex_29 => ?_)
    obtain rfl : x_29 = (shl (nI (bb j)) (nI (8 * ((63 - j) % 2)))) := ex_29.trans (rfl)
    refine lv_ior hx hb dX15_digits_39 ?_
    refine lv_topi (fun x_30 ex_30 => ?_)
    obtain rfl : x_30 = (nI (dgw bb (j + 1) ((63 - j) / 2))) := ex_30.trans (dgw_y hb8 (by omega))
    refine pg_iast hx hb hK hP hD hS hL_gq 0 hv2 rfl (vp_in_nI (by omega) (by omega)) dX15_digits_40 (fun H locs hP hD hS => ?_)
    obtain ⟨F_31, he_32, hP, hD, hO, hR⟩ : ∃ G, G = va_up F_11 gq (.inl (cs 16, 33, .inl (upd fq ((nI ((63 - j) / 2))).toNatClampNeg ((nI (dgw bb (j + 1) ((63 - j) / 2))))))) ∧ va_P (dC, dI) vwCl (va_pl L G) H ∧ va_D A (va_pl L G) ∧ OKm cs ty gm L G ∧ FR ty [τ] F G := ⟨_, rfl, hP, hD, hO.up (shm.ints hT_gq ⟨_, rfl⟩), hR.up hT_gq (by simp)⟩
    have hF_33 : F_31 gq = .inl (cs 16, 33, .inl (upd fq ((nI ((63 - j) / 2))).toNatClampNeg ((nI (dgw bb (j + 1) ((63 - j) / 2)))))) := by rw [he_32]; exact up_self
    have hF_34 : F_31 g1 = .inl (cs 17, 64, .inl fs9) := by rw [he_32, up_ne (ne_ty hT_g1 hT_gq (by simp))]; exact hF_15
    have hF_35 : F_31 gq = .inl (cs 16, 33, .inl (upd fq ((63 - j) / 2) (nI (dgw bb (j + 1) ((63 - j) / 2))))) := by have h9 := hF_33; rwa [nI_clamp (by omega)] at h9
    refine lv_iinc (v := (nI (j + 1))) (lv' := [(2, .int (nI (j + 1))), (0, .ref g1), (1, .ref gq)]) hx hb dX15_digits_41 hl (k := 0) rfl (nI_1 _) (by decide) rfl (fun ls hl => ?_)
    refine lv_goto (tgt := 7) hx hb dX15_digits_44 (by decide) ?_
    refine W.widen (k := 0) (n := 0) (by omega) (by omega) ?_
    exact ih_14 ((j + 1), (upd fq ((63 - j) / 2) (nI (dgw bb (j + 1) ((63 - j) / 2))))) F_31 (⟨by omega, hF_35, fun i hi => by by_cases c9 : i = ((63 - j) / 2); rw [c9, updc_at]; exact ⟨dgw_lt hb8 _ _, rfl⟩; rw [updc_ne c9, dgw_n hj64 c9]; exact hv3 i hi⟩) (by show 64 - (j + 1) < 64 - j; omega) hO hR _ _ hP hD hS ls (lv_sub hl [0, 1, 2] rfl)
set_option maxHeartbeats 4000000 in
set_option maxRecDepth 100000 in
theorem s_X15_isBelow_x (l : Launch) (dC : Nat → ClassId) (dI : Nat → Nat → Nat) (cs : Nat → ClassId) (ty : TyM) (gm : Nat → Nat → Nat) (L : List Nat) (sz : Nat) (F : Nat → va_E) (g1 : Nat) (σ : Nat) (g2 : Nat) (τ : Nat) (fa9 : Nat → Int32) (fb9 : Nat → Int32) (ga : Nat → Nat) (gb : Nat → Nat) (hW : WTm ty gm L) (hL_g1 : g1 ∈ L) (hT_g1 : ty g1 = (16, σ, [33])) (hL_g2 : g2 ∈ L) (hT_g2 : ty g2 = (16, τ, [33])) (hFa : F g1 = .inl (cs 16, 33, .inl fa9)) (hFb : F g2 = .inl (cs 16, 33, .inl fb9)) (hLa : LMq 33 ga fa9) (hLb : LMq 33 gb fb9) : Met l yX15_isBelow (.code yX15_isBelow cX15_isBelow 3 (some .boolean) :: tb) ({ frames := 0, cells := 0, slots := 0, locals := 0 }) (va_Pc [.ref g1, .ref g2] (PTm (dC, dI) cs ty gm L F sz)) (va_Qi (fun (r : Int32) (_ : Unit) => ((r = 1 ∧ lvb 65536 ga 33 < lvb 65536 gb 33) ∨ (r = 0 ∧ ¬ lvb 65536 ga 33 < lvb 65536 gb 33))) (fun _ T9 => ∃ F2 : Nat → va_E, QTm (dC, dI) cs ty gm L [] F F2 (va_A (va_pl L F) sz) T9) (va_A (va_pl L F) sz)) 0 0 (va_A (va_pl L F) sz) := by
  refine Met.ofW (cc := cX15_isBelow) (maxL := 3) (ret := (some .boolean)) (by decide) rfl ?_
  intro p e s m args below meth c s₁ B hml hv
  obtain ⟨rfl, hsz, hP, hK, hD0, hE, hO⟩ := hv
  have hx := B.exec
  have hb := B.bytes
  have hr := B.returns
  have hts : ∀ w ∈ tb, w.before _ s = true := fun w h => atoms_spec (ws := .code yX15_isBelow cX15_isBelow 3 (some .boolean) :: tb) B.pre w (List.mem_cons_of_mem _ h)
  have hown : s.vm.findClass RX15 = some m.cls := findClass_of_methodNamed B.named
  have hlocks := B.notSynchronized
  subst hsz
  have hD := hD0.self (sz := s.heap.size)
  generalize hAe : va_A (va_pl L F) s.heap.size = A at hD ⊢
  have hA : ∀ q : Nat, s.heap.size ≤ q → A q := fun q h => by rw [← hAe]; exact Or.inr h
  have hS : va_S A s.heap s.heap [] := va_S.rf
  have hR : FR ty [] F F := FR.refl
  have hl := lv_entry ([.ref g1, .ref g2]) (n := 3) (Nat.le_of_ble_eq_true rfl)
  rw [lg_entry_eq]
  generalize (lg_sl ([.ref g1, .ref g2]) ++ List.replicate (3 - (lg_sl ([.ref g1, .ref g2])).length) Slot.unset).toArray = ls at hl ⊢
  have hl : lv_has ls 3 [(0, .ref g1), (1, .ref g2)] := hl
  refine lv_bipush (v := 32) hx hb dX15_isBelow_0 (by decide) ?_
  refine lv_istore_n (lv' := [(2, .int 32), (0, .ref g1), (1, .ref g2)]) hx hb dX15_isBelow_2 rfl hl (by decide) rfl (fun ls hl => ?_)
  refine W.widen (k := 0) (n := 0) (by omega) (by omega) ?_
  refine pl_loopm (σ := Int32 × Nat) A (dC, dI) cs ty gm L [] F 3 3 (fun (i1, k) => [(2, .int i1), (0, .ref g1), (1, .ref g2)]) (fun (i1, k) => []) (fun (i1, k) _ => k ≤ 33 ∧ i1 = dnk k ∧ (∀ i, k ≤ i → i < 33 → ga i = gb i)) (fun (i1, k) => k) ?_ (32, 33) F (⟨Nat.le_refl _, by decide, fun i h1 h2 => absurd h2 (by omega)⟩) hO hR _ _ hP hD hS ls (lv_sub hl [0, 1, 2] rfl)
  rintro ⟨i1, k⟩ F_1 hv_2 hO hR ih_3 H locs hP hD hS ls hl
  have hl : lv_has ls 3 [(2, .int i1), (0, .ref g1), (1, .ref g2)] := hl
  have hv_2 : k ≤ 33 ∧ i1 = dnk k ∧ (∀ i, k ≤ i → i < 33 → ga i = gb i) := hv_2
  refine W.eq (g2 := F0 m 3 ls []) rfl ?_
  obtain rfl : F = F_1 := (funext (fun a => hR a List.not_mem_nil)).symm
  obtain ⟨hv1, hv2, hv3⟩ := id hv_2
  refine lv_iload_n hx hb dX15_isBelow_3 rfl (lv_at hl 0 rfl) ?_
  refine lv_if_lt (tgt := 37) hx hb dX15_isBelow_4 (by decide) (fun c_4 => ?_) (fun c_4 => ?_)
  ·
    have hk0 : k = 0 := by rw [hv2] at c_4; exact dnk_neg (by omega) c_4
    refine lv_iconst (v := 0) hx hb dX15_isBelow_37 (by decide) ?_
    refine W.widen (k := 0) (n := 0) (by omega) (by omega) ?_
    exact W.zret (v := 0) (ty := .boolean) hx hb hr (by decide) (fun t ht hWm => ⟨⟨0, (), rfl, (Or.inr ⟨rfl, by rw [lvb_ext 33 (fun i hi => hv3 i (by omega) hi)]; exact Nat.lt_irrefl _⟩), ⟨F, QTm.mk ht hP hD hO hR⟩⟩, hS.F ht⟩) hS.2.2 dX15_isBelow_38
  ·
    have hk1_ : 1 ≤ k := by rw [hv2] at c_4; exact dnk_pos c_4
    have hie : i1 = nI (k - 1) := by rw [hv2, dnk_s hk1_]
    clear hv2
    subst hie
    have hl1 := (hLa (k - 1) (by omega)).1
    have hl2 := (hLb (k - 1) (by omega)).1
    refine lv_aload_n hx hb dX15_isBelow_7 rfl (lv_at hl 1 rfl) ?_
    refine lv_iload_n hx hb dX15_isBelow_8 rfl (lv_at hl 0 rfl) ?_
    obtain ⟨hq_5, hq_6⟩ := hW.ints hL_g1 hT_g1
    refine pg_iald hx hb hK hP hL_g1 0 hFa rfl (vp_in_nI (by omega) (by omega)) dX15_isBelow_9 ?_
    refine lv_topi (fun x_7 ex_7 => ?_)
    obtain rfl : x_7 = (nI (ga (k - 1))) := ex_7.trans ((congrArg fa9 (nI_clamp (by omega))).trans (hLa (k - 1) (by omega)).2)
    refine lv_aload_n hx hb dX15_isBelow_10 rfl (lv_at hl 2 rfl) ?_
    refine lv_iload_n hx hb dX15_isBelow_11 rfl (lv_at hl 0 rfl) ?_
    obtain ⟨hq_8, hq_9⟩ := hW.ints hL_g2 hT_g2
    refine pg_iald hx hb hK hP hL_g2 0 hFb rfl (vp_in_nI (by omega) (by omega)) dX15_isBelow_12 ?_
    refine lv_topi (fun x_10 ex_10 => ?_)
    obtain rfl : x_10 = (nI (gb (k - 1))) := ex_10.trans ((congrArg fb9 (nI_clamp (by omega))).trans (hLb (k - 1) (by omega)).2)
    refine lv_icmp_eq (tgt := 31) hx hb dX15_isBelow_13 (by decide) (fun c_11 => ?_) (fun c_11 => ?_)
    ·
      have hi_12 : (ga (k - 1)) = (gb (k - 1)) := (nI_eq (a := (ga (k - 1))) (b := (gb (k - 1))) (by omega) (by omega)).mp c_11
      have heq : ga (k - 1) = gb (k - 1) := (nI_eq (by omega) (by omega)).mp c_11
      refine lv_iinc (v := (dnk (k - 1))) (lv' := [(2, .int (dnk (k - 1))), (0, .ref g1), (1, .ref g2)]) hx hb dX15_isBelow_31 hl (k := 0) rfl (rfl) (by decide) rfl (fun ls hl => ?_)
      refine lv_goto (tgt := 3) hx hb dX15_isBelow_34 (by decide) ?_
      refine W.widen (k := 0) (n := 0) (by omega) (by omega) ?_
      exact ih_3 ((dnk (k - 1)), (k - 1)) F (⟨by omega, rfl, fun i h1 h2 => by rcases Nat.lt_or_ge i k with w9 | w9; rw [show i = k - 1 by omega]; exact heq; exact hv3 i w9 h2⟩) (by show (k - 1) < k; omega) hO hR _ _ hP hD hS ls (lv_sub hl [0, 1, 2] rfl)
    ·
      have hi_13 : (ga (k - 1)) ≠ (gb (k - 1)) := fun q => c_11 (by rw [q])
      have heq : ¬ ga (k - 1) = gb (k - 1) := fun q => c_11 (by rw [q])
      refine lv_aload_n hx hb dX15_isBelow_16 rfl (lv_at hl 1 rfl) ?_
      refine lv_iload_n hx hb dX15_isBelow_17 rfl (lv_at hl 0 rfl) ?_
      refine pg_iald hx hb hK hP hL_g1 0 hFa rfl (vp_in_nI (by omega) (by omega)) dX15_isBelow_18 ?_
      refine lv_topi (fun x_14 ex_14 => ?_)
      obtain rfl : x_14 = (nI (ga (k - 1))) := ex_14.trans ((congrArg fa9 (nI_clamp (by omega))).trans (hLa (k - 1) (by omega)).2)
      refine lv_aload_n hx hb dX15_isBelow_19 rfl (lv_at hl 2 rfl) ?_
      refine lv_iload_n hx hb dX15_isBelow_20 rfl (lv_at hl 0 rfl) ?_
      refine pg_iald hx hb hK hP hL_g2 0 hFb rfl (vp_in_nI (by omega) (by omega)) dX15_isBelow_21 ?_
      refine lv_topi (fun x_15 ex_15 => ?_)
      obtain rfl : x_15 = (nI (gb (k - 1))) := ex_15.trans ((congrArg fb9 (nI_clamp (by omega))).trans (hLb (k - 1) (by omega)).2)
      refine lv_icmp_ge (tgt := 29) hx hb dX15_isBelow_22 (by decide) (fun c_16 => ?_) (fun c_16 => ?_)
      ·
        have hi_17 : (gb (k - 1)) ≤ (ga (k - 1)) := leN (N := (gb (k - 1))) c_16
        have hcm : gb (k - 1) < ga (k - 1) := by have h9 : gb (k - 1) ≤ ga (k - 1) := (nI_leI (by omega) (by omega)).mp c_16; omega
        refine lv_iconst (v := 0) hx hb dX15_isBelow_29 (by decide) ?_
        refine W.widen (k := 0) (n := 0) (by omega) (by omega) ?_
        exact W.zret (v := 0) (ty := .boolean) hx hb hr (by decide) (fun t ht hWm => ⟨⟨0, (), rfl, (Or.inr ⟨rfl, fun q => Nat.lt_irrefl _ (Nat.lt_trans q (lvb_cmp (fun i hi => (hLb i (by omega)).1) hcm 33 (by omega) (fun i h1 h2 => (hv3 i (by omega) h2).symm)))⟩), ⟨F, QTm.mk ht hP hD hO hR⟩⟩, hS.F ht⟩) hS.2.2 dX15_isBelow_30
      ·
        have hi_18 : (ga (k - 1)) < (gb (k - 1)) := ltN (N := (gb (k - 1))) c_16
        have hcm : ga (k - 1) < gb (k - 1) := Nat.not_le.mp (fun q => c_16 ((nI_leI (by omega) (by omega)).mpr q))
        refine lv_iconst (v := 1) hx hb dX15_isBelow_25 (by decide) ?_
        refine lv_goto (tgt := 30) hx hb dX15_isBelow_26 (by decide) ?_
        refine W.widen (k := 0) (n := 0) (by omega) (by omega) ?_
        exact W.zret (v := 1) (ty := .boolean) hx hb hr (by decide) (fun t ht hWm => ⟨⟨1, (), rfl, (Or.inl ⟨rfl, lvb_cmp (fun i hi => (hLa i (by omega)).1) hcm 33 (by omega) (fun i h1 h2 => hv3 i (by omega) h2)⟩), ⟨F, QTm.mk ht hP hD hO hR⟩⟩, hS.F ht⟩) hS.2.2 dX15_isBelow_30
set_option maxHeartbeats 4000000 in
set_option maxRecDepth 100000 in
theorem s_X15_remainder_32x (l : Launch) (dC : Nat → ClassId) (dI : Nat → Nat → Nat) (cs : Nat → ClassId) (ty : TyM) (gm : Nat → Nat → Nat) (L : List Nat) (sz : Nat) (F : Nat → va_E) (h0 : Nat) (ρ : Nat) (ta : Nat) (ou : Nat) (so : Nat) (ad : Nat) (na : Nat) (va : Nat) (lc : Nat) (dm : Nat) (tg : Nat) (pe : Nat) (ml : Nat) (bg : Nat) (co : Nat) (sp : Nat) (nb0 : Nat) (nb1 : Nat) (nb2 : Nat) (pl : Nat) (se : Nat) (ke : Nat) (wi : Nat) (hs : Nat) (mo : Nat) (po : Nat) (nu : Nat) (pr : Nat) (sq : Nat) (xa : Nat) (sa : Nat) (n64 : Nat) (m64 : Nat) (ex : Nat) (wh : Nat) (sd : Nat) (tk : Nat) (hd : Nat) (ak : Nat) (ho : Nat) (ot : Nat) (sx : Nat) (s0 : Nat) (s1 : Nat) (s2 : Nat) (nf : Nat) (bd : Nat) (mm : Nat) (zo : Nat) (fm : Nat) (sn : Nat) (hg : Nat) (gc : Nat) (gv : Nat) (ze : Nat) (zt : Nat) (g1 : Nat) (σ : Nat) (gq : Nat) (τ : Nat) (ff1 : Nat → Int32) (ff2 : Nat → Int32) (go : Nat → Nat) (gN : Nat → Nat) (hW : WTm ty gm L) (hL_h0 : h0 ∈ L) (hT_h0 : ty h0 = (15, ρ, [ta, ou, so, ad, na, va, lc, dm, tg, pe, ml, bg, co, sp, nb0, nb1, nb2, pl, se, ke, wi, hs, mo, po, nu, pr, sq, xa, sa, n64, m64, ex, wh, sd, tk, hd, ak, ho, ot, sx, s0, s1, s2, nf, bd, mm, zo, fm, sn, hg, gc, gv, ze, zt])) (hL_g1 : g1 ∈ L) (hT_g1 : ty g1 = (16, σ, [33])) (hL_gq : gq ∈ L) (hT_gq : ty gq = (16, τ, [33])) (hFo : F g1 = .inl (cs 16, 33, .inl ff1)) (hLo : LMq 32 go ff1) (hFm : F mo = .inl (cs 16, 33, .inl ff2)) (hLm : LMq 33 gN ff2) (hN0 : 0 < (lvb 65536 gN 33)) (hNt : (lvb 65536 gN 33) < 65536 ^ 32) (htsq : τ ≠ σ) (htm : τ ≠ ρ ∧ τ ≠ ρ + 18) : Met l yX15_remainder (.code yX15_remainder cX15_remainder 9 none :: tb) ({ frames := 1, cells := 0, slots := 0, locals := 23 }) (va_Pc [.ref h0, .ref g1, .int 32, .ref gq] (PTm (dC, dI) cs ty gm L F sz)) (va_Qv (fun _ : Unit => True) (fun _ T9 => ∃ F2 : Nat → va_E, ∃ f2 : Nat → Int32, ∃ g2 : Nat → Nat, QTm (dC, dI) cs ty gm L [τ] F F2 (va_A (va_pl L F) sz) T9 ∧ F2 gq = .inl (cs 16, 33, .inl f2) ∧ LMq 33 g2 f2 ∧ lvb 65536 g2 33 = (lvb 65536 go 32) % (lvb 65536 gN 33)) (va_A (va_pl L F) sz)) 0 0 (va_A (va_pl L F) sz) := by
  refine Met.ofW (cc := cX15_remainder) (maxL := 9) (ret := none) (by decide) rfl ?_
  intro p e s m args below meth c s₁ B hml hv
  obtain ⟨rfl, hsz, hP, hK, hD0, hE, hO⟩ := hv
  have hx := B.exec
  have hb := B.bytes
  have hr := B.returns
  have hts : ∀ w ∈ tb, w.before _ s = true := fun w h => atoms_spec (ws := .code yX15_remainder cX15_remainder 9 none :: tb) B.pre w (List.mem_cons_of_mem _ h)
  have hown : s.vm.findClass RX15 = some m.cls := findClass_of_methodNamed B.named
  have hlocks := B.notSynchronized
  subst hsz
  have hD := hD0.self (sz := s.heap.size)
  generalize hAe : va_A (va_pl L F) s.heap.size = A at hD ⊢
  have hA : ∀ q : Nat, s.heap.size ≤ q → A q := fun q h => by rw [← hAe]; exact Or.inr h
  have hS : va_S A s.heap s.heap [] := va_S.rf
  have hR : FR ty [τ] F F := FR.refl
  have hl := lv_entry ([.ref h0, .ref g1, .int 32, .ref gq]) (n := 9) (Nat.le_of_ble_eq_true rfl)
  rw [lg_entry_eq]
  generalize (lg_sl ([.ref h0, .ref g1, .int 32, .ref gq]) ++ List.replicate (9 - (lg_sl ([.ref h0, .ref g1, .int 32, .ref gq])).length) Slot.unset).toArray = ls at hl ⊢
  have hl : lv_has ls 9 [(0, .ref h0), (1, .ref g1), (2, .int 32), (3, .ref gq)] := hl
  obtain ⟨hq_23, hq_24, hq_25, hq_26, hq_27, hgO, hgA, hgB, hq_28⟩ := hW.sc hL_h0 hT_h0
  obtain ⟨v14_29, v15_30, v17_31, v18_32, v19_33, v20_34, v21_35, v22_36, v33_37, v52_38, v53_39, v54_40, hF_41, hq_42, hq_43, hq_44, hq_45, hq_46⟩ := hO.mod hL_h0 hT_h0
  obtain ⟨hi_47, ht_48⟩ := hW.f_mo hL_h0 hT_h0
  obtain ⟨hq_49, hq_50⟩ := hW.ints hi_47 ht_48
  obtain ⟨hq_51, hq_52⟩ := hW.ints hL_gq hT_gq
  obtain ⟨f_53, hF_54⟩ := hO.ints hL_gq hT_gq
  have hXt : (lvb 65536 go 32) < 2 ^ 512 := by have h9 := lvb_lt 32 (fun k hk => (hLo k hk).1); rwa [show (65536 : Nat) ^ 32 = 2 ^ 512 by decide +kernel] at h9
  have hP33 : 2 * (lvb 65536 gN 33) ≤ 65536 ^ 33 := by rw [p33]; omega
  refine lv_aload_n hx hb dX15_remainder_0 rfl (lv_at hl 3 rfl) ?_
  refine lv_iconst (v := 0) hx hb dX15_remainder_1 (by decide) ?_
  have hFc := pg_free hD hS hA
  refine va_callv (va_runS (As := [.ref gq, .int 0]) (rest := []) ⟨hx, hb, hml, hown, hts⟩ (m_J7_fill_53178_x l dC dI cs ty gm L s.heap.size F gq τ 33 0 hW hL_gq hT_gq (by first | omega | assumption | exact Or.inl rfl)) ⟨callB_of 2 hts (gi kt_807) rfl rfl rfl (hts _ kt_808) (hts _ kt_809) (by decide +kernel) ⟨Nat.le_of_ble_eq_true rfl, Nat.le_of_ble_eq_true rfl⟩, (hts _ kt_810)⟩ ⟨fun a U g mk q => ⟨q.1, PTm.calling q.2⟩, fun U hU hWm => ⟨rfl, PTm.mk hU hWm hP hK hD hE hO⟩⟩ rfl rfl hl.1 rfl (lv_room (Nat.le_of_ble_eq_true rfl)) dX15_remainder_2 ⟨by show _ + 0 ≤ 0; omega, by show _ + 0 ≤ 0; omega⟩) hS (fun q _ h => hFc q h) hFc (fun u t H1 locs ht hvm hw hB hz1 hk1 hS => ?_)
  obtain ⟨F_56, f2_57, hB1, hq_58, hq_59⟩ := hB
  obtain ⟨hP, hD, hO, hR⟩ := QTm.back hB1 ht hFc hR (fun q h => by simp only [List.mem_cons, List.not_mem_nil, or_false] at h ⊢; omega)
  have hF_60 : F_56 g1 = .inl (cs 16, 33, .inl ff1) := (hB1.2.2.2 g1 (by rw [hT_g1]; simp only [List.mem_cons, List.not_mem_nil, or_false]; omega)).trans hFo
  have hF_61 : F_56 mo = .inl (cs 16, 33, .inl ff2) := (hB1.2.2.2 mo (by rw [ht_48]; simp only [List.mem_cons, List.not_mem_nil, or_false]; omega)).trans hFm
  have hF_62 : F_56 h0 = .inr (15, (.ref ta) :: (.int (nI zt)) :: (.int (nI zo)) :: (.int (nI ze)) :: (.ref ou) :: (.ref so) :: (.ref ad) :: (.ref na) :: (.ref va) :: (.ref lc) :: (.ref dm) :: (.int (nI fm)) :: (.int (nI sn)) :: (.ref tg) :: (.int v14_29) :: (.int v15_30) :: (.ref pe) :: (.int v17_31) :: (.int v18_32) :: (.int v19_33) :: (.int v20_34) :: (.int v21_35) :: (.int v22_36) :: (.ref ml) :: (.ref bg) :: (.ref co) :: (.ref sp) :: (.ref nb0) :: (.ref nb1) :: (.ref nb2) :: (.int (nI nf)) :: (.int (nI bd)) :: (.int (nI mm)) :: (.int v33_37) :: (.ref pl) :: (.ref se) :: (.ref ke) :: (.ref wi) :: (.ref hs) :: (.ref mo) :: (.ref po) :: (.ref nu) :: (.ref pr) :: (.ref sq) :: (.ref xa) :: (.ref sa) :: (.ref n64) :: (.ref m64) :: (.ref ex) :: (.ref wh) :: (.ref sd) :: (.ref tk) :: (.int v52_38) :: (.int v53_39) :: (.int v54_40) :: (.ref hd) :: (.ref ak) :: (.ref ho) :: (.ref ot) :: []) := (hB1.2.2.2 h0 (by rw [hT_h0]; simp only [List.mem_cons, List.not_mem_nil, or_false]; omega)).trans hF_41
  generalize H1 = H at hP hS ⊢
  have hz9 := hq_59
  refine lv_bipush (v := 16) hx hb dX15_remainder_5 (by decide) ?_
  refine lv_iload_n hx hb dX15_remainder_7 rfl (lv_at hl 2 rfl) ?_
  refine lv_imul hx hb dX15_remainder_8 ?_
  refine lv_topi (fun x_63 ex_63 => ?_)
  obtain rfl : x_63 = 512 := ex_63.trans (by decide)
  refine lv_iconst (v := 1) hx hb dX15_remainder_9 (by decide) ?_
  refine lv_isub hx hb dX15_remainder_10 ?_
  refine lv_topi (fun x_64 ex_64 => ?_)
  obtain rfl : x_64 = 511 := ex_64.trans (by decide)
  refine lv_istore (lv' := [(4, .int 511), (0, .ref h0), (1, .ref g1), (2, .int 32), (3, .ref gq)]) hx hb dX15_remainder_11 hl (by decide) rfl (fun ls hl => ?_)
  refine W.widen (k := 0) (n := 0) (by omega) (by omega) ?_
  have hF_66 : F g1 = .inl (cs 16, 33, .inl ff1) := (hR g1 (by rw [hT_g1]; simp only [List.mem_cons, List.not_mem_nil, or_false]; omega)).symm.trans hF_60
  have hF_67 : F mo = .inl (cs 16, 33, .inl ff2) := (hR mo (by rw [ht_48]; simp only [List.mem_cons, List.not_mem_nil, or_false]; omega)).symm.trans hF_61
  have hF_68 : F h0 = .inr (15, (.ref ta) :: (.int (nI zt)) :: (.int (nI zo)) :: (.int (nI ze)) :: (.ref ou) :: (.ref so) :: (.ref ad) :: (.ref na) :: (.ref va) :: (.ref lc) :: (.ref dm) :: (.int (nI fm)) :: (.int (nI sn)) :: (.ref tg) :: (.int v14_29) :: (.int v15_30) :: (.ref pe) :: (.int v17_31) :: (.int v18_32) :: (.int v19_33) :: (.int v20_34) :: (.int v21_35) :: (.int v22_36) :: (.ref ml) :: (.ref bg) :: (.ref co) :: (.ref sp) :: (.ref nb0) :: (.ref nb1) :: (.ref nb2) :: (.int (nI nf)) :: (.int (nI bd)) :: (.int (nI mm)) :: (.int v33_37) :: (.ref pl) :: (.ref se) :: (.ref ke) :: (.ref wi) :: (.ref hs) :: (.ref mo) :: (.ref po) :: (.ref nu) :: (.ref pr) :: (.ref sq) :: (.ref xa) :: (.ref sa) :: (.ref n64) :: (.ref m64) :: (.ref ex) :: (.ref wh) :: (.ref sd) :: (.ref tk) :: (.int v52_38) :: (.int v53_39) :: (.int v54_40) :: (.ref hd) :: (.ref ak) :: (.ref ho) :: (.ref ot) :: []) := (hR h0 (by rw [hT_h0]; simp only [List.mem_cons, List.not_mem_nil, or_false]; omega)).symm.trans hF_62
  refine pl_loopm (σ := Int32 × Nat × (Nat → Int32) × (Nat → Nat)) A (dC, dI) cs ty gm L [τ] F 13 9 (fun (i1, k, fq, gz) => [(4, .int i1), (0, .ref h0), (1, .ref g1), (2, .int 32), (3, .ref gq)]) (fun (i1, k, fq, gz) => []) (fun (i1, k, fq, gz) FF => k ≤ 512 ∧ i1 = dnk k ∧ FF gq = .inl (cs 16, 33, .inl fq) ∧ LMq 33 gz fq ∧ lvb 65536 gz 33 = (lvb 65536 go 32) / 2 ^ k % (lvb 65536 gN 33)) (fun (i1, k, fq, gz) => k) ?_ (511, 512, f2_57, (fun _ => 0)) F_56 (⟨Nat.le_refl _, by decide, hq_58, (lm_0 hz9), (by rw [lvb_z, Nat.div_eq_of_lt hXt]; exact (Nat.zero_mod _).symm)⟩) hO hR _ _ hP hD hS ls (lv_sub hl [0, 1, 2, 3, 4] rfl)
  rintro ⟨i1, k, fq, gz⟩ F_65 hv_69 hO hR ih_70 H locs hP hD hS ls hl
  have hl : lv_has ls 9 [(4, .int i1), (0, .ref h0), (1, .ref g1), (2, .int 32), (3, .ref gq)] := hl
  have hv_69 : k ≤ 512 ∧ i1 = dnk k ∧ F_65 gq = .inl (cs 16, 33, .inl fq) ∧ LMq 33 gz fq ∧ lvb 65536 gz 33 = (lvb 65536 go 32) / 2 ^ k % (lvb 65536 gN 33) := hv_69
  refine W.eq (g2 := F0 m 13 ls []) rfl ?_
  have hF_71 : F_65 g1 = .inl (cs 16, 33, .inl ff1) := (hR g1 (by rw [hT_g1]; simp only [List.mem_cons, List.not_mem_nil, or_false]; omega)).trans hF_66
  have hF_72 : F_65 mo = .inl (cs 16, 33, .inl ff2) := (hR mo (by rw [ht_48]; simp only [List.mem_cons, List.not_mem_nil, or_false]; omega)).trans hF_67
  have hF_73 : F_65 h0 = .inr (15, (.ref ta) :: (.int (nI zt)) :: (.int (nI zo)) :: (.int (nI ze)) :: (.ref ou) :: (.ref so) :: (.ref ad) :: (.ref na) :: (.ref va) :: (.ref lc) :: (.ref dm) :: (.int (nI fm)) :: (.int (nI sn)) :: (.ref tg) :: (.int v14_29) :: (.int v15_30) :: (.ref pe) :: (.int v17_31) :: (.int v18_32) :: (.int v19_33) :: (.int v20_34) :: (.int v21_35) :: (.int v22_36) :: (.ref ml) :: (.ref bg) :: (.ref co) :: (.ref sp) :: (.ref nb0) :: (.ref nb1) :: (.ref nb2) :: (.int (nI nf)) :: (.int (nI bd)) :: (.int (nI mm)) :: (.int v33_37) :: (.ref pl) :: (.ref se) :: (.ref ke) :: (.ref wi) :: (.ref hs) :: (.ref mo) :: (.ref po) :: (.ref nu) :: (.ref pr) :: (.ref sq) :: (.ref xa) :: (.ref sa) :: (.ref n64) :: (.ref m64) :: (.ref ex) :: (.ref wh) :: (.ref sd) :: (.ref tk) :: (.int v52_38) :: (.int v53_39) :: (.int v54_40) :: (.ref hd) :: (.ref ak) :: (.ref ho) :: (.ref ot) :: []) := (hR h0 (by rw [hT_h0]; simp only [List.mem_cons, List.not_mem_nil, or_false]; omega)).trans hF_68
  obtain ⟨hv1, hv2, hv3, hv4, hv5⟩ := id hv_69
  refine lv_iload hx hb dX15_remainder_13 (lv_at hl 0 rfl) ?_
  refine lv_if_lt (tgt := 157) hx hb dX15_remainder_15 (by decide) (fun c_74 => ?_) (fun c_74 => ?_)
  ·
    have hk0 : k = 0 := by rw [hv2] at c_74; exact dnk_neg (by omega) c_74
    refine W.widen (k := 0) (n := 0) (by omega) (by omega) ?_
    exact W.vret hx hb hr (fun t ht hWm => ⟨⟨(), rfl, trivial, ⟨F_65, fq, gz, QTm.mk ht hP hD hO hR, hv3, hv4, (by rw [hv5, hk0, Nat.pow_zero, Nat.div_one])⟩⟩, hS.F ht⟩) hS.2.2 dX15_remainder_157
  ·
    have hk1_ : 1 ≤ k := by rw [hv2] at c_74; exact dnk_pos c_74
    have hie : i1 = nI (k - 1) := by rw [hv2, dnk_s hk1_]
    clear hv2
    subst hie
    have hg16 := (hLo ((k - 1) / 16) (by omega)).1
    have hbt : (go ((k - 1) / 16) / 2 ^ ((k - 1) % 16) % 2) < 2 := Nat.mod_lt _ (by decide)
    have hbX : (lvb 65536 go 32) / 2 ^ (k - 1) % 2 = (go ((k - 1) / 16) / 2 ^ ((k - 1) % 16) % 2) := lvb_bit (fun i hi => (hLo i hi).1) (by omega)
    have hVN : lvb 65536 gz 33 < (lvb 65536 gN 33) := by rw [hv5]; exact Nat.mod_lt _ hN0
    refine lv_aload_n hx hb dX15_remainder_18 rfl (lv_at hl 2 rfl) ?_
    refine lv_iload hx hb dX15_remainder_19 (lv_at hl 0 rfl) ?_
    refine lv_bipush (v := 16) hx hb dX15_remainder_21 (by decide) ?_
    refine lv_idiv hx hb dX15_remainder_23 (by decide) ?_
    refine lv_topi (fun x_75 ex_75 => ?_)
    obtain rfl : x_75 = (nI ((k - 1) / 16)) := ex_75.trans (pk_div (d := 16) (by omega) (by omega) (by omega))
    obtain ⟨hq_76, hq_77⟩ := hW.ints hL_g1 hT_g1
    refine pg_iald hx hb hK hP hL_g1 0 hF_71 rfl (vp_in_nI (by omega) (by omega)) dX15_remainder_24 ?_
    refine lv_topi (fun x_78 ex_78 => ?_)
    obtain rfl : x_78 = (nI (go ((k - 1) / 16))) := ex_78.trans ((congrArg ff1 (nI_clamp (by omega))).trans (hLo _ (by omega)).2)
    refine lv_iload hx hb dX15_remainder_25 (lv_at hl 0 rfl) ?_
    refine lv_bipush (v := 16) hx hb dX15_remainder_27 (by decide) ?_
    refine lv_irem hx hb dX15_remainder_29 (by decide) ?_
    refine lv_topi (fun x_79 ex_79 => ?_)
    obtain rfl : x_79 = (nI ((k - 1) % 16)) := ex_79.trans (pk_remL (d := 16) (by omega) (by omega) (by omega))
    refine lv_ishr hx hb dX15_remainder_30 ?_
    refine lv_topi (fun x_80 ex_80 => ?_)
    obtain rfl : x_80 = (shr (nI (go ((k - 1) / 16))) (nI ((k - 1) % 16))) := ex_80.trans (rfl)
    refine lv_iconst (v := 1) hx hb dX15_remainder_31 (by decide) ?_
    refine lv_iand hx hb dX15_remainder_32 ?_
    refine lv_topi (fun x_81 ex_81 => ?_)
    obtain rfl : x_81 = (nI (go ((k - 1) / 16) / 2 ^ ((k - 1) % 16) % 2)) := ex_81.trans (rm_bit hg16 (by omega))
    refine lv_istore (lv' := [(5, .int (nI (go ((k - 1) / 16) / 2 ^ ((k - 1) % 16) % 2))), (4, .int (nI (k - 1))), (0, .ref h0), (1, .ref g1), (2, .int 32), (3, .ref gq)]) hx hb dX15_remainder_33 hl (by decide) rfl (fun ls hl => ?_)
    refine lv_iconst (v := 0) hx hb dX15_remainder_35 (by decide) ?_
    refine lv_istore (lv' := [(6, .int 0), (5, .int (nI (go ((k - 1) / 16) / 2 ^ ((k - 1) % 16) % 2))), (4, .int (nI (k - 1))), (0, .ref h0), (1, .ref g1), (2, .int 32), (3, .ref gq)]) hx hb dX15_remainder_36 hl (by decide) rfl (fun ls hl => ?_)
    refine W.widen (k := 0) (n := 0) (by omega) (by omega) ?_
    have hF_83 : F g1 = .inl (cs 16, 33, .inl ff1) := (hR g1 (by rw [hT_g1]; simp only [List.mem_cons, List.not_mem_nil, or_false]; omega)).symm.trans hF_71
    have hF_84 : F mo = .inl (cs 16, 33, .inl ff2) := (hR mo (by rw [ht_48]; simp only [List.mem_cons, List.not_mem_nil, or_false]; omega)).symm.trans hF_72
    have hF_85 : F h0 = .inr (15, (.ref ta) :: (.int (nI zt)) :: (.int (nI zo)) :: (.int (nI ze)) :: (.ref ou) :: (.ref so) :: (.ref ad) :: (.ref na) :: (.ref va) :: (.ref lc) :: (.ref dm) :: (.int (nI fm)) :: (.int (nI sn)) :: (.ref tg) :: (.int v14_29) :: (.int v15_30) :: (.ref pe) :: (.int v17_31) :: (.int v18_32) :: (.int v19_33) :: (.int v20_34) :: (.int v21_35) :: (.int v22_36) :: (.ref ml) :: (.ref bg) :: (.ref co) :: (.ref sp) :: (.ref nb0) :: (.ref nb1) :: (.ref nb2) :: (.int (nI nf)) :: (.int (nI bd)) :: (.int (nI mm)) :: (.int v33_37) :: (.ref pl) :: (.ref se) :: (.ref ke) :: (.ref wi) :: (.ref hs) :: (.ref mo) :: (.ref po) :: (.ref nu) :: (.ref pr) :: (.ref sq) :: (.ref xa) :: (.ref sa) :: (.ref n64) :: (.ref m64) :: (.ref ex) :: (.ref wh) :: (.ref sd) :: (.ref tk) :: (.int v52_38) :: (.int v53_39) :: (.int v54_40) :: (.ref hd) :: (.ref ak) :: (.ref ho) :: (.ref ot) :: []) := (hR h0 (by rw [hT_h0]; simp only [List.mem_cons, List.not_mem_nil, or_false]; omega)).symm.trans hF_73
    refine pl_loopm (σ := Nat × Nat × (Nat → Int32) × (Nat → Nat)) A (dC, dI) cs ty gm L [τ] F 38 9 (fun (j, cc, fy, gy) => [(6, .int (nI j)), (5, .int (nI cc)), (4, .int (nI (k - 1))), (0, .ref h0), (1, .ref g1), (2, .int 32), (3, .ref gq)]) (fun (j, cc, fy, gy) => []) (fun (j, cc, fy, gy) FF => j ≤ 33 ∧ cc < 2 ∧ FF gq = .inl (cs 16, 33, .inl fy) ∧ LMq 33 gy fy ∧ (∀ i, j ≤ i → i < 33 → gy i = gz i) ∧ lvb 65536 gy j + cc * 65536 ^ j = 2 * lvb 65536 gz j + (go ((k - 1) / 16) / 2 ^ ((k - 1) % 16) % 2)) (fun (j, cc, fy, gy) => 33 - j) ?_ (0, (go ((k - 1) / 16) / 2 ^ ((k - 1) % 16) % 2), fq, gz) F_65 (⟨by omega, hbt, hv3, hv4, fun i h1 h2 => rfl, by rw [lvb_0, Nat.pow_zero, Nat.mul_one]⟩) hO hR _ _ hP hD hS ls (lv_sub hl [0, 1, 2, 3, 4, 5, 6] rfl)
    rintro ⟨j, cc, fy, gy⟩ F_82 hv_86 hO hR ih_87 H locs hP hD hS ls hl
    have hl : lv_has ls 9 [(6, .int (nI j)), (5, .int (nI cc)), (4, .int (nI (k - 1))), (0, .ref h0), (1, .ref g1), (2, .int 32), (3, .ref gq)] := hl
    have hv_86 : j ≤ 33 ∧ cc < 2 ∧ F_82 gq = .inl (cs 16, 33, .inl fy) ∧ LMq 33 gy fy ∧ (∀ i, j ≤ i → i < 33 → gy i = gz i) ∧ lvb 65536 gy j + cc * 65536 ^ j = 2 * lvb 65536 gz j + (go ((k - 1) / 16) / 2 ^ ((k - 1) % 16) % 2) := hv_86
    refine W.eq (g2 := F0 m 38 ls []) rfl ?_
    have hF_88 : F_82 g1 = .inl (cs 16, 33, .inl ff1) := (hR g1 (by rw [hT_g1]; simp only [List.mem_cons, List.not_mem_nil, or_false]; omega)).trans hF_83
    have hF_89 : F_82 mo = .inl (cs 16, 33, .inl ff2) := (hR mo (by rw [ht_48]; simp only [List.mem_cons, List.not_mem_nil, or_false]; omega)).trans hF_84
    have hF_90 : F_82 h0 = .inr (15, (.ref ta) :: (.int (nI zt)) :: (.int (nI zo)) :: (.int (nI ze)) :: (.ref ou) :: (.ref so) :: (.ref ad) :: (.ref na) :: (.ref va) :: (.ref lc) :: (.ref dm) :: (.int (nI fm)) :: (.int (nI sn)) :: (.ref tg) :: (.int v14_29) :: (.int v15_30) :: (.ref pe) :: (.int v17_31) :: (.int v18_32) :: (.int v19_33) :: (.int v20_34) :: (.int v21_35) :: (.int v22_36) :: (.ref ml) :: (.ref bg) :: (.ref co) :: (.ref sp) :: (.ref nb0) :: (.ref nb1) :: (.ref nb2) :: (.int (nI nf)) :: (.int (nI bd)) :: (.int (nI mm)) :: (.int v33_37) :: (.ref pl) :: (.ref se) :: (.ref ke) :: (.ref wi) :: (.ref hs) :: (.ref mo) :: (.ref po) :: (.ref nu) :: (.ref pr) :: (.ref sq) :: (.ref xa) :: (.ref sa) :: (.ref n64) :: (.ref m64) :: (.ref ex) :: (.ref wh) :: (.ref sd) :: (.ref tk) :: (.int v52_38) :: (.int v53_39) :: (.int v54_40) :: (.ref hd) :: (.ref ak) :: (.ref ho) :: (.ref ot) :: []) := (hR h0 (by rw [hT_h0]; simp only [List.mem_cons, List.not_mem_nil, or_false]; omega)).trans hF_85
    obtain ⟨hw1, hw2, hw3, hw4, hw5, hw6⟩ := id hv_86
    refine lv_iload hx hb dX15_remainder_38 (lv_at hl 0 rfl) ?_
    refine lv_bipush (v := 33) hx hb dX15_remainder_40 (by decide) ?_
    refine lv_icmp_ge (tgt := 79) hx hb dX15_remainder_42 (by decide) (fun c_91 => ?_) (fun c_91 => ?_)
    ·
      have hi_92 : 33 ≤ j := leN (N := 33) c_91
      have hj33 : j = 33 := by have h9 : 33 ≤ j := (nI_leI (a := 33) (by omega) (by omega)).mp c_91; omega
      subst hj33
      have hVy : lvb 65536 gy 33 = 2 * lvb 65536 gz 33 + (go ((k - 1) / 16) / 2 ^ ((k - 1) % 16) % 2) := by rcases (show cc = 0 ∨ cc = 1 by omega) with q | q; rw [q, Nat.zero_mul, Nat.add_zero] at hw6; exact hw6; rw [q, Nat.one_mul] at hw6; omega
      refine lv_aload_n hx hb dX15_remainder_79 rfl (lv_at hl 6 rfl) ?_
      refine lv_aload_n hx hb dX15_remainder_80 rfl (lv_at hl 3 rfl) ?_
      refine pg_get (ci := 15) (v := .ref mo) (C := RX15) (T := TX15) (N := 59) hx hb hts it_15 hown hK hP hL_h0 hF_90 rfl 39 (by decide) (hts _ kt_811) (fun _ h9 => h9) rfl dX15_remainder_81 ?_
      have hFc := pg_free hD hS hA
      refine va_calli (va_runS (As := [.ref gq, .ref mo]) (rest := []) ⟨hx, hb, hml, hown, hts⟩ (s_X15_isBelow_x l dC dI cs ty gm L H.size F_82 gq τ mo (ρ + 18) fy ff2 gy gN hW hL_gq hT_gq hi_47 ht_48 hw3 hF_89 (hw4) (hLm)) ⟨callB_of 2 hts (gi kt_812) rfl rfl rfl (hts _ kt_669) (hts _ kt_813) (by decide +kernel) ⟨Nat.le_of_ble_eq_true rfl, Nat.le_of_ble_eq_true rfl⟩, (hts _ kt_814)⟩ ⟨fun a U g mk q => ⟨q.1, PTm.calling q.2⟩, fun U hU hWm => ⟨rfl, PTm.mk hU hWm hP hK hD hE hO⟩⟩ rfl rfl hl.1 rfl (lv_room (Nat.le_of_ble_eq_true rfl)) dX15_remainder_84 ⟨by show _ + 0 ≤ 0; omega, by show _ + 0 ≤ 0; omega⟩) hS (fun q _ h => hFc q h) hFc (fun r_93 u t H1 locs ht hvm hw hB hz1 hk1 hS => ?_)
      obtain ⟨F_94, hB1⟩ := hB
      obtain rfl : F_82 = F_94 := (funext (fun a => hB1.2.2.2 a List.not_mem_nil)).symm
      obtain ⟨hP, hD, hO, hR⟩ := QTm.back hB1 ht hFc hR (fun q h => absurd h List.not_mem_nil)
      generalize H1 = H at hP hS ⊢
      have hw : ((r_93 = 1 ∧ lvb 65536 gy 33 < lvb 65536 gN 33) ∨ (r_93 = 0 ∧ ¬ lvb 65536 gy 33 < lvb 65536 gN 33)) := hw
      have hw_95 := hw
      refine lv_if_eq (tgt := 93) hx hb dX15_remainder_87 (by decide) (fun c_96 => ?_) (fun c_96 => ?_)
      ·
        have hge9 : (lvb 65536 gN 33) ≤ lvb 65536 gy 33 := Nat.not_lt.mp (orp0 hw_95 c_96)
        refine lv_iconst (v := 0) hx hb dX15_remainder_93 (by decide) ?_
        refine lv_istore (lv' := [(6, .int 0), (5, .int (nI cc)), (4, .int (nI (k - 1))), (0, .ref h0), (1, .ref g1), (2, .int 32), (3, .ref gq)]) hx hb dX15_remainder_94 hl (by decide) rfl (fun ls hl => ?_)
        refine lv_iconst (v := 0) hx hb dX15_remainder_96 (by decide) ?_
        refine lv_istore (lv' := [(7, .int 0), (6, .int 0), (5, .int (nI cc)), (4, .int (nI (k - 1))), (0, .ref h0), (1, .ref g1), (2, .int 32), (3, .ref gq)]) hx hb dX15_remainder_97 hl (by decide) rfl (fun ls hl => ?_)
        refine W.widen (k := 0) (n := 0) (by omega) (by omega) ?_
        have hF_98 : F g1 = .inl (cs 16, 33, .inl ff1) := (hR g1 (by rw [hT_g1]; simp only [List.mem_cons, List.not_mem_nil, or_false]; omega)).symm.trans hF_88
        have hF_99 : F mo = .inl (cs 16, 33, .inl ff2) := (hR mo (by rw [ht_48]; simp only [List.mem_cons, List.not_mem_nil, or_false]; omega)).symm.trans hF_89
        have hF_100 : F h0 = .inr (15, (.ref ta) :: (.int (nI zt)) :: (.int (nI zo)) :: (.int (nI ze)) :: (.ref ou) :: (.ref so) :: (.ref ad) :: (.ref na) :: (.ref va) :: (.ref lc) :: (.ref dm) :: (.int (nI fm)) :: (.int (nI sn)) :: (.ref tg) :: (.int v14_29) :: (.int v15_30) :: (.ref pe) :: (.int v17_31) :: (.int v18_32) :: (.int v19_33) :: (.int v20_34) :: (.int v21_35) :: (.int v22_36) :: (.ref ml) :: (.ref bg) :: (.ref co) :: (.ref sp) :: (.ref nb0) :: (.ref nb1) :: (.ref nb2) :: (.int (nI nf)) :: (.int (nI bd)) :: (.int (nI mm)) :: (.int v33_37) :: (.ref pl) :: (.ref se) :: (.ref ke) :: (.ref wi) :: (.ref hs) :: (.ref mo) :: (.ref po) :: (.ref nu) :: (.ref pr) :: (.ref sq) :: (.ref xa) :: (.ref sa) :: (.ref n64) :: (.ref m64) :: (.ref ex) :: (.ref wh) :: (.ref sd) :: (.ref tk) :: (.int v52_38) :: (.int v53_39) :: (.int v54_40) :: (.ref hd) :: (.ref ak) :: (.ref ho) :: (.ref ot) :: []) := (hR h0 (by rw [hT_h0]; simp only [List.mem_cons, List.not_mem_nil, or_false]; omega)).symm.trans hF_90
        refine pl_loopm (σ := Nat × Nat × (Nat → Int32) × (Nat → Nat)) A (dC, dI) cs ty gm L [τ] F 99 9 (fun (j2, bw, fx, gx) => [(7, .int (nI j2)), (6, .int (nI bw)), (4, .int (nI (k - 1))), (0, .ref h0), (1, .ref g1), (2, .int 32), (3, .ref gq)]) (fun (j2, bw, fx, gx) => []) (fun (j2, bw, fx, gx) FF => j2 ≤ 33 ∧ bw < 2 ∧ FF gq = .inl (cs 16, 33, .inl fx) ∧ LMq 33 gx fx ∧ (∀ i, j2 ≤ i → i < 33 → gx i = gy i) ∧ lvb 65536 gx j2 + lvb 65536 gN j2 = lvb 65536 gy j2 + bw * 65536 ^ j2) (fun (j2, bw, fx, gx) => 33 - j2) ?_ (0, 0, fy, gy) F_82 (⟨by omega, by decide, hw3, hw4, fun i h1 h2 => rfl, by rw [lvb_0, lvb_0, Nat.zero_mul]⟩) hO hR _ _ hP hD hS ls (lv_sub hl [0, 1, 3, 4, 5, 6, 7] rfl)
        rintro ⟨j2, bw, fx, gx⟩ F_97 hv_101 hO hR ih_102 H locs hP hD hS ls hl
        have hl : lv_has ls 9 [(7, .int (nI j2)), (6, .int (nI bw)), (4, .int (nI (k - 1))), (0, .ref h0), (1, .ref g1), (2, .int 32), (3, .ref gq)] := hl
        have hv_101 : j2 ≤ 33 ∧ bw < 2 ∧ F_97 gq = .inl (cs 16, 33, .inl fx) ∧ LMq 33 gx fx ∧ (∀ i, j2 ≤ i → i < 33 → gx i = gy i) ∧ lvb 65536 gx j2 + lvb 65536 gN j2 = lvb 65536 gy j2 + bw * 65536 ^ j2 := hv_101
        refine W.eq (g2 := F0 m 99 ls []) rfl ?_
        have hF_103 : F_97 g1 = .inl (cs 16, 33, .inl ff1) := (hR g1 (by rw [hT_g1]; simp only [List.mem_cons, List.not_mem_nil, or_false]; omega)).trans hF_98
        have hF_104 : F_97 mo = .inl (cs 16, 33, .inl ff2) := (hR mo (by rw [ht_48]; simp only [List.mem_cons, List.not_mem_nil, or_false]; omega)).trans hF_99
        have hF_105 : F_97 h0 = .inr (15, (.ref ta) :: (.int (nI zt)) :: (.int (nI zo)) :: (.int (nI ze)) :: (.ref ou) :: (.ref so) :: (.ref ad) :: (.ref na) :: (.ref va) :: (.ref lc) :: (.ref dm) :: (.int (nI fm)) :: (.int (nI sn)) :: (.ref tg) :: (.int v14_29) :: (.int v15_30) :: (.ref pe) :: (.int v17_31) :: (.int v18_32) :: (.int v19_33) :: (.int v20_34) :: (.int v21_35) :: (.int v22_36) :: (.ref ml) :: (.ref bg) :: (.ref co) :: (.ref sp) :: (.ref nb0) :: (.ref nb1) :: (.ref nb2) :: (.int (nI nf)) :: (.int (nI bd)) :: (.int (nI mm)) :: (.int v33_37) :: (.ref pl) :: (.ref se) :: (.ref ke) :: (.ref wi) :: (.ref hs) :: (.ref mo) :: (.ref po) :: (.ref nu) :: (.ref pr) :: (.ref sq) :: (.ref xa) :: (.ref sa) :: (.ref n64) :: (.ref m64) :: (.ref ex) :: (.ref wh) :: (.ref sd) :: (.ref tk) :: (.int v52_38) :: (.int v53_39) :: (.int v54_40) :: (.ref hd) :: (.ref ak) :: (.ref ho) :: (.ref ot) :: []) := (hR h0 (by rw [hT_h0]; simp only [List.mem_cons, List.not_mem_nil, or_false]; omega)).trans hF_100
        obtain ⟨hx1, hx2, hx3, hx4, hx5, hx6⟩ := id hv_101
        refine lv_iload hx hb dX15_remainder_99 (lv_at hl 0 rfl) ?_
        refine lv_bipush (v := 33) hx hb dX15_remainder_101 (by decide) ?_
        refine lv_icmp_ge (tgt := 151) hx hb dX15_remainder_103 (by decide) (fun c_106 => ?_) (fun c_106 => ?_)
        ·
          have hi_107 : 33 ≤ j2 := leN (N := 33) c_106
          have hj233 : j2 = 33 := by have h9 : 33 ≤ j2 := (nI_leI (a := 33) (by omega) (by omega)).mp c_106; omega
          subst hj233
          have hlx := lvb_lt 33 (fun i hi => (hx4 i hi).1)
          have hVx : lvb 65536 gx 33 = lvb 65536 gy 33 - (lvb 65536 gN 33) := by rcases (show bw = 0 ∨ bw = 1 by omega) with q | q; rw [q, Nat.zero_mul, Nat.add_zero] at hx6; omega; rw [q, Nat.one_mul] at hx6; omega
          refine lv_iinc (v := (dnk (k - 1))) (lv' := [(4, .int (dnk (k - 1))), (7, .int (nI 33)), (6, .int (nI bw)), (0, .ref h0), (1, .ref g1), (2, .int 32), (3, .ref gq)]) hx hb dX15_remainder_151 hl (k := 2) rfl (rfl) (by decide) rfl (fun ls hl => ?_)
          refine lv_goto (tgt := 13) hx hb dX15_remainder_154 (by decide) ?_
          refine W.widen (k := 0) (n := 0) (by omega) (by omega) ?_
          exact ih_70 ((dnk (k - 1)), (k - 1), fx, gx) F_97 (⟨by omega, rfl, hx3, hx4, (by rw [rm_2 hk1_ hbX, ← hv5, ← hVy, rm_sb hge9 (by omega)]; exact hVx)⟩) (by show (k - 1) < k; omega) hO hR _ _ hP hD hS ls (lv_sub hl [0, 3, 4, 5, 6] rfl)
        ·
          have hi_108 : j2 < 33 := ltN (N := 33) c_106
          have hj233 : j2 < 33 := by have h9 : ¬ 33 ≤ j2 := fun q => c_106 ((nI_leI (a := 33) (by omega) (by omega)).mpr q); omega
          have hgx := (hx4 j2 hj233).1
          have hgn := (hLm j2 hj233).1
          refine lv_aload_n hx hb dX15_remainder_106 rfl (lv_at hl 6 rfl) ?_
          refine lv_iload hx hb dX15_remainder_107 (lv_at hl 0 rfl) ?_
          refine pg_iald hx hb hK hP hL_gq 0 hx3 rfl (vp_in_nI (by omega) (by omega)) dX15_remainder_109 ?_
          refine lv_topi (fun x_109 ex_109 => ?_)
          obtain rfl : x_109 = (nI (gx j2)) := ex_109.trans ((congrArg fx (nI_clamp (by omega))).trans (hx4 j2 hj233).2)
          refine lv_aload_n hx hb dX15_remainder_110 rfl (lv_at hl 3 rfl) ?_
          refine pg_get (ci := 15) (v := .ref mo) (C := RX15) (T := TX15) (N := 59) hx hb hts it_15 hown hK hP hL_h0 hF_105 rfl 39 (by decide) (hts _ kt_811) (fun _ h9 => h9) rfl dX15_remainder_111 ?_
          refine lv_iload hx hb dX15_remainder_114 (lv_at hl 0 rfl) ?_
          refine pg_iald hx hb hK hP hi_47 0 hF_104 rfl (vp_in_nI (by omega) (by omega)) dX15_remainder_116 ?_
          refine lv_topi (fun x_110 ex_110 => ?_)
          obtain rfl : x_110 = (nI (gN j2)) := ex_110.trans ((congrArg ff2 (nI_clamp (by omega))).trans (hLm j2 hj233).2)
          refine lv_isub hx hb dX15_remainder_117 ?_
          refine lv_topi (fun x_111 ex_111 => ?_)
          obtain rfl : x_111 = (nI (gx j2) - nI (gN j2)) := ex_111.trans (rfl)
          refine lv_iload hx hb dX15_remainder_118 (lv_at hl 1 rfl) ?_
          refine lv_isub hx hb dX15_remainder_120 ?_
          refine lv_topi (fun x_112 ex_112 => ?_)
          obtain rfl : x_112 = ((nI (gx j2) - nI (gN j2)) - nI bw) := ex_112.trans (rfl)
          refine lv_istore (lv' := [(8, .int ((nI (gx j2) - nI (gN j2)) - nI bw)), (7, .int (nI j2)), (6, .int (nI bw)), (4, .int (nI (k - 1))), (0, .ref h0), (1, .ref g1), (2, .int 32), (3, .ref gq)]) hx hb dX15_remainder_121 hl (by decide) rfl (fun ls hl => ?_)
          refine lv_aload_n hx hb dX15_remainder_123 rfl (lv_at hl 7 rfl) ?_
          refine lv_iload hx hb dX15_remainder_124 (lv_at hl 1 rfl) ?_
          refine lv_iload hx hb dX15_remainder_126 (lv_at hl 0 rfl) ?_
          refine lv_ldcw (v := 65535) hx hb hown (hts _ kt_815) dX15_remainder_128 ?_
          refine lv_iand hx hb dX15_remainder_131 ?_
          refine lv_topi (fun x_113 ex_113 => ?_)
          obtain rfl : x_113 = (nI ((gx j2 + 65536 - gN j2 - bw) % 65536)) := ex_113.trans (rm_sub hgx hgn hx2)
          refine pg_iast hx hb hK hP hD hS hL_gq 0 hx3 rfl (vp_in_nI (by omega) (by omega)) dX15_remainder_132 (fun H locs hP hD hS => ?_)
          obtain ⟨F_114, he_115, hP, hD, hO, hR⟩ : ∃ G, G = va_up F_97 gq (.inl (cs 16, 33, .inl (upd fx ((nI j2)).toNatClampNeg ((nI ((gx j2 + 65536 - gN j2 - bw) % 65536)))))) ∧ va_P (dC, dI) vwCl (va_pl L G) H ∧ va_D A (va_pl L G) ∧ OKm cs ty gm L G ∧ FR ty [τ] F G := ⟨_, rfl, hP, hD, hO.up (shm.ints hT_gq ⟨_, rfl⟩), hR.up hT_gq (by simp)⟩
          have hF_116 : F_114 gq = .inl (cs 16, 33, .inl (upd fx ((nI j2)).toNatClampNeg ((nI ((gx j2 + 65536 - gN j2 - bw) % 65536))))) := by rw [he_115]; exact up_self
          have hF_117 : F_114 h0 = .inr (15, (.ref ta) :: (.int (nI zt)) :: (.int (nI zo)) :: (.int (nI ze)) :: (.ref ou) :: (.ref so) :: (.ref ad) :: (.ref na) :: (.ref va) :: (.ref lc) :: (.ref dm) :: (.int (nI fm)) :: (.int (nI sn)) :: (.ref tg) :: (.int v14_29) :: (.int v15_30) :: (.ref pe) :: (.int v17_31) :: (.int v18_32) :: (.int v19_33) :: (.int v20_34) :: (.int v21_35) :: (.int v22_36) :: (.ref ml) :: (.ref bg) :: (.ref co) :: (.ref sp) :: (.ref nb0) :: (.ref nb1) :: (.ref nb2) :: (.int (nI nf)) :: (.int (nI bd)) :: (.int (nI mm)) :: (.int v33_37) :: (.ref pl) :: (.ref se) :: (.ref ke) :: (.ref wi) :: (.ref hs) :: (.ref mo) :: (.ref po) :: (.ref nu) :: (.ref pr) :: (.ref sq) :: (.ref xa) :: (.ref sa) :: (.ref n64) :: (.ref m64) :: (.ref ex) :: (.ref wh) :: (.ref sd) :: (.ref tk) :: (.int v52_38) :: (.int v53_39) :: (.int v54_40) :: (.ref hd) :: (.ref ak) :: (.ref ho) :: (.ref ot) :: []) := by rw [he_115, up_ne (ne_ty hT_h0 hT_gq (by simp))]; exact hF_105
          have hF_118 : F_114 gq = .inl (cs 16, 33, .inl (upd fx j2 (nI ((gx j2 + 65536 - gN j2 - bw) % 65536)))) := by have h9 := hF_116; rwa [nI_clamp (by omega)] at h9
          refine lv_iload hx hb dX15_remainder_133 (lv_at hl 0 rfl) ?_
          refine lv_if_ge (tgt := 142) hx hb dX15_remainder_135 (by decide) (fun c_119 => ?_) (fun c_119 => ?_)
          ·
            have hbo : gN j2 + bw ≤ gx j2 := (rm_neg hgx hgn hx2).mp c_119
            refine lv_iconst (v := 0) hx hb dX15_remainder_142 (by decide) ?_
            refine lv_istore (lv' := [(6, .int 0), (8, .int ((nI (gx j2) - nI (gN j2)) - nI bw)), (7, .int (nI j2)), (4, .int (nI (k - 1))), (0, .ref h0), (1, .ref g1), (2, .int 32), (3, .ref gq)]) hx hb dX15_remainder_143 hl (by decide) rfl (fun ls hl => ?_)
            refine lv_iinc (v := (nI (j2 + 1))) (lv' := [(7, .int (nI (j2 + 1))), (6, .int 0), (8, .int ((nI (gx j2) - nI (gN j2)) - nI bw)), (4, .int (nI (k - 1))), (0, .ref h0), (1, .ref g1), (2, .int 32), (3, .ref gq)]) hx hb dX15_remainder_145 hl (k := 2) rfl (nI_1 _) (by decide) rfl (fun ls hl => ?_)
            refine lv_goto (tgt := 99) hx hb dX15_remainder_148 (by decide) ?_
            refine W.widen (k := 0) (n := 0) (by omega) (by omega) ?_
            exact ih_102 ((j2 + 1), 0, (upd fx j2 (nI ((gx j2 + 65536 - gN j2 - bw) % 65536))), (upN gx j2 ((gx j2 + 65536 - gN j2 - bw) % 65536))) F_114 (⟨by omega, by omega, hF_118, hx4.up (Nat.mod_lt _ (by decide)), fun i h1 h2 => by rw [upN_ne (show i ≠ j2 by omega)]; exact hx5 i (by omega) h2, by rw [lvb_u1, lvb_s, lvb_s, Nat.pow_succ]; exact sb_st hx6 (show ((gx j2 + 65536 - gN j2 - bw) % 65536) + gN j2 + bw = gy j2 + 0 * 65536 by rw [← hx5 j2 (Nat.le_refl _) hj233]; omega)⟩) (by show 33 - (j2 + 1) < 33 - j2; omega) hO hR _ _ hP hD hS ls (lv_sub hl [0, 1, 3, 4, 5, 6, 7] rfl)
          ·
            have hbo : gx j2 < gN j2 + bw := Nat.not_le.mp (fun q => c_119 ((rm_neg hgx hgn hx2).mpr q))
            refine lv_iconst (v := 1) hx hb dX15_remainder_138 (by decide) ?_
            refine lv_goto (tgt := 143) hx hb dX15_remainder_139 (by decide) ?_
            refine lv_istore (lv' := [(6, .int 1), (8, .int ((nI (gx j2) - nI (gN j2)) - nI bw)), (7, .int (nI j2)), (4, .int (nI (k - 1))), (0, .ref h0), (1, .ref g1), (2, .int 32), (3, .ref gq)]) hx hb dX15_remainder_143 hl (by decide) rfl (fun ls hl => ?_)
            refine lv_iinc (v := (nI (j2 + 1))) (lv' := [(7, .int (nI (j2 + 1))), (6, .int 1), (8, .int ((nI (gx j2) - nI (gN j2)) - nI bw)), (4, .int (nI (k - 1))), (0, .ref h0), (1, .ref g1), (2, .int 32), (3, .ref gq)]) hx hb dX15_remainder_145 hl (k := 2) rfl (nI_1 _) (by decide) rfl (fun ls hl => ?_)
            refine lv_goto (tgt := 99) hx hb dX15_remainder_148 (by decide) ?_
            refine W.widen (k := 0) (n := 0) (by omega) (by omega) ?_
            exact ih_102 ((j2 + 1), 1, (upd fx j2 (nI ((gx j2 + 65536 - gN j2 - bw) % 65536))), (upN gx j2 ((gx j2 + 65536 - gN j2 - bw) % 65536))) F_114 (⟨by omega, by omega, hF_118, hx4.up (Nat.mod_lt _ (by decide)), fun i h1 h2 => by rw [upN_ne (show i ≠ j2 by omega)]; exact hx5 i (by omega) h2, by rw [lvb_u1, lvb_s, lvb_s, Nat.pow_succ]; exact sb_st hx6 (show ((gx j2 + 65536 - gN j2 - bw) % 65536) + gN j2 + bw = gy j2 + 1 * 65536 by rw [← hx5 j2 (Nat.le_refl _) hj233]; omega)⟩) (by show 33 - (j2 + 1) < 33 - j2; omega) hO hR _ _ hP hD hS ls (lv_sub hl [0, 1, 3, 4, 5, 6, 7] rfl)
      ·
        have hlt9 := orp1 hw_95 c_96
        refine lv_goto (tgt := 151) hx hb dX15_remainder_90 (by decide) ?_
        refine lv_iinc (v := (dnk (k - 1))) (lv' := [(4, .int (dnk (k - 1))), (6, .int (nI 33)), (5, .int (nI cc)), (0, .ref h0), (1, .ref g1), (2, .int 32), (3, .ref gq)]) hx hb dX15_remainder_151 hl (k := 2) rfl (rfl) (by decide) rfl (fun ls hl => ?_)
        refine lv_goto (tgt := 13) hx hb dX15_remainder_154 (by decide) ?_
        refine W.widen (k := 0) (n := 0) (by omega) (by omega) ?_
        exact ih_70 ((dnk (k - 1)), (k - 1), fy, gy) F_82 (⟨by omega, rfl, hw3, hw4, (by rw [rm_2 hk1_ hbX, ← hv5, ← hVy]; exact (Nat.mod_eq_of_lt hlt9).symm)⟩) (by show (k - 1) < k; omega) hO hR _ _ hP hD hS ls (lv_sub hl [0, 3, 4, 5, 6] rfl)
    ·
      have hi_120 : j < 33 := ltN (N := 33) c_91
      have hj33 : j < 33 := by have h9 : ¬ 33 ≤ j := fun q => c_91 ((nI_leI (a := 33) (by omega) (by omega)).mpr q); omega
      have hgj := (hw4 j hj33).1
      refine lv_aload_n hx hb dX15_remainder_45 rfl (lv_at hl 6 rfl) ?_
      refine lv_iload hx hb dX15_remainder_46 (lv_at hl 0 rfl) ?_
      refine pg_iald hx hb hK hP hL_gq 0 hw3 rfl (vp_in_nI (by omega) (by omega)) dX15_remainder_48 ?_
      refine lv_topi (fun x_121 ex_121 => ?_)
      obtain rfl : x_121 = (nI (gy j)) := ex_121.trans ((congrArg fy (nI_clamp (by omega))).trans (hw4 j hj33).2)
      refine lv_iconst (v := 1) hx hb dX15_remainder_49 (by decide) ?_
      refine lv_ishl hx hb dX15_remainder_50 ?_
      refine lv_topi (fun x_122 ex_122 => ?_)
      obtain rfl : x_122 = (shl (nI (gy j)) 1) := ex_122.trans (rfl)
      refine lv_iload hx hb dX15_remainder_51 (lv_at hl 1 rfl) ?_
      refine lv_ior hx hb dX15_remainder_53 ?_
      refine lv_topi (fun x_123 ex_123 => ?_)
      obtain rfl : x_123 = (nI (2 * gy j + cc)) := ex_123.trans (rm_sl hgj hw2)
      refine lv_istore (lv' := [(7, .int (nI (2 * gy j + cc))), (6, .int (nI j)), (5, .int (nI cc)), (4, .int (nI (k - 1))), (0, .ref h0), (1, .ref g1), (2, .int 32), (3, .ref gq)]) hx hb dX15_remainder_54 hl (by decide) rfl (fun ls hl => ?_)
      refine lv_aload_n hx hb dX15_remainder_56 rfl (lv_at hl 7 rfl) ?_
      refine lv_iload hx hb dX15_remainder_57 (lv_at hl 1 rfl) ?_
      refine lv_iload hx hb dX15_remainder_59 (lv_at hl 0 rfl) ?_
      refine lv_ldcw (v := 65535) hx hb hown (hts _ kt_815) dX15_remainder_61 ?_
      refine lv_iand hx hb dX15_remainder_64 ?_
      refine lv_topi (fun x_124 ex_124 => ?_)
      obtain rfl : x_124 = (nI ((2 * gy j + cc) % 65536)) := ex_124.trans (rm_lo (by omega))
      refine pg_iast hx hb hK hP hD hS hL_gq 0 hw3 rfl (vp_in_nI (by omega) (by omega)) dX15_remainder_65 (fun H locs hP hD hS => ?_)
      obtain ⟨F_125, he_126, hP, hD, hO, hR⟩ : ∃ G, G = va_up F_82 gq (.inl (cs 16, 33, .inl (upd fy ((nI j)).toNatClampNeg ((nI ((2 * gy j + cc) % 65536)))))) ∧ va_P (dC, dI) vwCl (va_pl L G) H ∧ va_D A (va_pl L G) ∧ OKm cs ty gm L G ∧ FR ty [τ] F G := ⟨_, rfl, hP, hD, hO.up (shm.ints hT_gq ⟨_, rfl⟩), hR.up hT_gq (by simp)⟩
      have hF_127 : F_125 gq = .inl (cs 16, 33, .inl (upd fy ((nI j)).toNatClampNeg ((nI ((2 * gy j + cc) % 65536))))) := by rw [he_126]; exact up_self
      have hF_128 : F_125 h0 = .inr (15, (.ref ta) :: (.int (nI zt)) :: (.int (nI zo)) :: (.int (nI ze)) :: (.ref ou) :: (.ref so) :: (.ref ad) :: (.ref na) :: (.ref va) :: (.ref lc) :: (.ref dm) :: (.int (nI fm)) :: (.int (nI sn)) :: (.ref tg) :: (.int v14_29) :: (.int v15_30) :: (.ref pe) :: (.int v17_31) :: (.int v18_32) :: (.int v19_33) :: (.int v20_34) :: (.int v21_35) :: (.int v22_36) :: (.ref ml) :: (.ref bg) :: (.ref co) :: (.ref sp) :: (.ref nb0) :: (.ref nb1) :: (.ref nb2) :: (.int (nI nf)) :: (.int (nI bd)) :: (.int (nI mm)) :: (.int v33_37) :: (.ref pl) :: (.ref se) :: (.ref ke) :: (.ref wi) :: (.ref hs) :: (.ref mo) :: (.ref po) :: (.ref nu) :: (.ref pr) :: (.ref sq) :: (.ref xa) :: (.ref sa) :: (.ref n64) :: (.ref m64) :: (.ref ex) :: (.ref wh) :: (.ref sd) :: (.ref tk) :: (.int v52_38) :: (.int v53_39) :: (.int v54_40) :: (.ref hd) :: (.ref ak) :: (.ref ho) :: (.ref ot) :: []) := by rw [he_126, up_ne (ne_ty hT_h0 hT_gq (by simp))]; exact hF_90
      have hF_129 : F_125 gq = .inl (cs 16, 33, .inl (upd fy j (nI ((2 * gy j + cc) % 65536)))) := by have h9 := hF_127; rwa [nI_clamp (by omega)] at h9
      refine lv_iload hx hb dX15_remainder_66 (lv_at hl 0 rfl) ?_
      refine lv_bipush (v := 16) hx hb dX15_remainder_68 (by decide) ?_
      refine lv_ishr hx hb dX15_remainder_70 ?_
      refine lv_topi (fun x_130 ex_130 => ?_)
      obtain rfl : x_130 = (nI ((2 * gy j + cc) / 65536)) := ex_130.trans (rm_hi (by omega))
      refine lv_istore (lv' := [(5, .int (nI ((2 * gy j + cc) / 65536))), (7, .int (nI (2 * gy j + cc))), (6, .int (nI j)), (4, .int (nI (k - 1))), (0, .ref h0), (1, .ref g1), (2, .int 32), (3, .ref gq)]) hx hb dX15_remainder_71 hl (by decide) rfl (fun ls hl => ?_)
      refine lv_iinc (v := (nI (j + 1))) (lv' := [(6, .int (nI (j + 1))), (5, .int (nI ((2 * gy j + cc) / 65536))), (7, .int (nI (2 * gy j + cc))), (4, .int (nI (k - 1))), (0, .ref h0), (1, .ref g1), (2, .int 32), (3, .ref gq)]) hx hb dX15_remainder_73 hl (k := 2) rfl (nI_1 _) (by decide) rfl (fun ls hl => ?_)
      refine lv_goto (tgt := 38) hx hb dX15_remainder_76 (by decide) ?_
      refine W.widen (k := 0) (n := 0) (by omega) (by omega) ?_
      exact ih_87 ((j + 1), ((2 * gy j + cc) / 65536), (upd fy j (nI ((2 * gy j + cc) % 65536))), (upN gy j ((2 * gy j + cc) % 65536))) F_125 (⟨by omega, by omega, hF_129, hw4.up (Nat.mod_lt _ (by decide)), fun i h1 h2 => by rw [upN_ne (show i ≠ j by omega)]; exact hw5 i (by omega) h2, by rw [lvb_u1, lvb_s, Nat.pow_succ, hw5 j (Nat.le_refl _) hj33]; exact sl_st hw6 rfl⟩) (by show 33 - (j + 1) < 33 - j; omega) hO hR _ _ hP hD hS ls (lv_sub hl [0, 1, 3, 4, 5, 6, 7] rfl)
set_option maxHeartbeats 4000000 in
set_option maxRecDepth 100000 in
theorem s_X15_remainder_64x (l : Launch) (dC : Nat → ClassId) (dI : Nat → Nat → Nat) (cs : Nat → ClassId) (ty : TyM) (gm : Nat → Nat → Nat) (L : List Nat) (sz : Nat) (F : Nat → va_E) (h0 : Nat) (ρ : Nat) (ta : Nat) (ou : Nat) (so : Nat) (ad : Nat) (na : Nat) (va : Nat) (lc : Nat) (dm : Nat) (tg : Nat) (pe : Nat) (ml : Nat) (bg : Nat) (co : Nat) (sp : Nat) (nb0 : Nat) (nb1 : Nat) (nb2 : Nat) (pl : Nat) (se : Nat) (ke : Nat) (wi : Nat) (hs : Nat) (mo : Nat) (po : Nat) (nu : Nat) (pr : Nat) (sq : Nat) (xa : Nat) (sa : Nat) (n64 : Nat) (m64 : Nat) (ex : Nat) (wh : Nat) (sd : Nat) (tk : Nat) (hd : Nat) (ak : Nat) (ho : Nat) (ot : Nat) (sx : Nat) (s0 : Nat) (s1 : Nat) (s2 : Nat) (nf : Nat) (bd : Nat) (mm : Nat) (zo : Nat) (fm : Nat) (sn : Nat) (hg : Nat) (gc : Nat) (gv : Nat) (ze : Nat) (zt : Nat) (g1 : Nat) (σ : Nat) (gq : Nat) (τ : Nat) (ff1 : Nat → Int32) (ff2 : Nat → Int32) (go : Nat → Nat) (gN : Nat → Nat) (hW : WTm ty gm L) (hL_h0 : h0 ∈ L) (hT_h0 : ty h0 = (15, ρ, [ta, ou, so, ad, na, va, lc, dm, tg, pe, ml, bg, co, sp, nb0, nb1, nb2, pl, se, ke, wi, hs, mo, po, nu, pr, sq, xa, sa, n64, m64, ex, wh, sd, tk, hd, ak, ho, ot, sx, s0, s1, s2, nf, bd, mm, zo, fm, sn, hg, gc, gv, ze, zt])) (hL_g1 : g1 ∈ L) (hT_g1 : ty g1 = (16, σ, [66])) (hL_gq : gq ∈ L) (hT_gq : ty gq = (16, τ, [33])) (hFo : F g1 = .inl (cs 16, 66, .inl ff1)) (hLo : LMq 64 go ff1) (hFm : F mo = .inl (cs 16, 33, .inl ff2)) (hLm : LMq 33 gN ff2) (hN0 : 0 < (lvb 65536 gN 33)) (hNt : (lvb 65536 gN 33) < 65536 ^ 32) (htsq : τ ≠ σ) (htm : τ ≠ ρ ∧ τ ≠ ρ + 18) : Met l yX15_remainder (.code yX15_remainder cX15_remainder 9 none :: tb) ({ frames := 1, cells := 0, slots := 0, locals := 23 }) (va_Pc [.ref h0, .ref g1, .int 64, .ref gq] (PTm (dC, dI) cs ty gm L F sz)) (va_Qv (fun _ : Unit => True) (fun _ T9 => ∃ F2 : Nat → va_E, ∃ f2 : Nat → Int32, ∃ g2 : Nat → Nat, QTm (dC, dI) cs ty gm L [τ] F F2 (va_A (va_pl L F) sz) T9 ∧ F2 gq = .inl (cs 16, 33, .inl f2) ∧ LMq 33 g2 f2 ∧ lvb 65536 g2 33 = (lvb 65536 go 64) % (lvb 65536 gN 33)) (va_A (va_pl L F) sz)) 0 0 (va_A (va_pl L F) sz) := by
  refine Met.ofW (cc := cX15_remainder) (maxL := 9) (ret := none) (by decide) rfl ?_
  intro p e s m args below meth c s₁ B hml hv
  obtain ⟨rfl, hsz, hP, hK, hD0, hE, hO⟩ := hv
  have hx := B.exec
  have hb := B.bytes
  have hr := B.returns
  have hts : ∀ w ∈ tb, w.before _ s = true := fun w h => atoms_spec (ws := .code yX15_remainder cX15_remainder 9 none :: tb) B.pre w (List.mem_cons_of_mem _ h)
  have hown : s.vm.findClass RX15 = some m.cls := findClass_of_methodNamed B.named
  have hlocks := B.notSynchronized
  subst hsz
  have hD := hD0.self (sz := s.heap.size)
  generalize hAe : va_A (va_pl L F) s.heap.size = A at hD ⊢
  have hA : ∀ q : Nat, s.heap.size ≤ q → A q := fun q h => by rw [← hAe]; exact Or.inr h
  have hS : va_S A s.heap s.heap [] := va_S.rf
  have hR : FR ty [τ] F F := FR.refl
  have hl := lv_entry ([.ref h0, .ref g1, .int 64, .ref gq]) (n := 9) (Nat.le_of_ble_eq_true rfl)
  rw [lg_entry_eq]
  generalize (lg_sl ([.ref h0, .ref g1, .int 64, .ref gq]) ++ List.replicate (9 - (lg_sl ([.ref h0, .ref g1, .int 64, .ref gq])).length) Slot.unset).toArray = ls at hl ⊢
  have hl : lv_has ls 9 [(0, .ref h0), (1, .ref g1), (2, .int 64), (3, .ref gq)] := hl
  obtain ⟨hq_23, hq_24, hq_25, hq_26, hq_27, hgO, hgA, hgB, hq_28⟩ := hW.sc hL_h0 hT_h0
  obtain ⟨v14_29, v15_30, v17_31, v18_32, v19_33, v20_34, v21_35, v22_36, v33_37, v52_38, v53_39, v54_40, hF_41, hq_42, hq_43, hq_44, hq_45, hq_46⟩ := hO.mod hL_h0 hT_h0
  obtain ⟨hi_47, ht_48⟩ := hW.f_mo hL_h0 hT_h0
  obtain ⟨hq_49, hq_50⟩ := hW.ints hi_47 ht_48
  obtain ⟨hq_51, hq_52⟩ := hW.ints hL_gq hT_gq
  obtain ⟨f_53, hF_54⟩ := hO.ints hL_gq hT_gq
  have hXt : (lvb 65536 go 64) < 2 ^ 1024 := by have h9 := lvb_lt 64 (fun k hk => (hLo k hk).1); rwa [show (65536 : Nat) ^ 64 = 2 ^ 1024 by decide +kernel] at h9
  have hP33 : 2 * (lvb 65536 gN 33) ≤ 65536 ^ 33 := by rw [p33]; omega
  refine lv_aload_n hx hb dX15_remainder_0 rfl (lv_at hl 3 rfl) ?_
  refine lv_iconst (v := 0) hx hb dX15_remainder_1 (by decide) ?_
  have hFc := pg_free hD hS hA
  refine va_callv (va_runS (As := [.ref gq, .int 0]) (rest := []) ⟨hx, hb, hml, hown, hts⟩ (m_J7_fill_53178_x l dC dI cs ty gm L s.heap.size F gq τ 33 0 hW hL_gq hT_gq (by first | omega | assumption | exact Or.inl rfl)) ⟨callB_of 2 hts (gi kt_807) rfl rfl rfl (hts _ kt_808) (hts _ kt_809) (by decide +kernel) ⟨Nat.le_of_ble_eq_true rfl, Nat.le_of_ble_eq_true rfl⟩, (hts _ kt_810)⟩ ⟨fun a U g mk q => ⟨q.1, PTm.calling q.2⟩, fun U hU hWm => ⟨rfl, PTm.mk hU hWm hP hK hD hE hO⟩⟩ rfl rfl hl.1 rfl (lv_room (Nat.le_of_ble_eq_true rfl)) dX15_remainder_2 ⟨by show _ + 0 ≤ 0; omega, by show _ + 0 ≤ 0; omega⟩) hS (fun q _ h => hFc q h) hFc (fun u t H1 locs ht hvm hw hB hz1 hk1 hS => ?_)
  obtain ⟨F_56, f2_57, hB1, hq_58, hq_59⟩ := hB
  obtain ⟨hP, hD, hO, hR⟩ := QTm.back hB1 ht hFc hR (fun q h => by simp only [List.mem_cons, List.not_mem_nil, or_false] at h ⊢; omega)
  have hF_60 : F_56 g1 = .inl (cs 16, 66, .inl ff1) := (hB1.2.2.2 g1 (by rw [hT_g1]; simp only [List.mem_cons, List.not_mem_nil, or_false]; omega)).trans hFo
  have hF_61 : F_56 mo = .inl (cs 16, 33, .inl ff2) := (hB1.2.2.2 mo (by rw [ht_48]; simp only [List.mem_cons, List.not_mem_nil, or_false]; omega)).trans hFm
  have hF_62 : F_56 h0 = .inr (15, (.ref ta) :: (.int (nI zt)) :: (.int (nI zo)) :: (.int (nI ze)) :: (.ref ou) :: (.ref so) :: (.ref ad) :: (.ref na) :: (.ref va) :: (.ref lc) :: (.ref dm) :: (.int (nI fm)) :: (.int (nI sn)) :: (.ref tg) :: (.int v14_29) :: (.int v15_30) :: (.ref pe) :: (.int v17_31) :: (.int v18_32) :: (.int v19_33) :: (.int v20_34) :: (.int v21_35) :: (.int v22_36) :: (.ref ml) :: (.ref bg) :: (.ref co) :: (.ref sp) :: (.ref nb0) :: (.ref nb1) :: (.ref nb2) :: (.int (nI nf)) :: (.int (nI bd)) :: (.int (nI mm)) :: (.int v33_37) :: (.ref pl) :: (.ref se) :: (.ref ke) :: (.ref wi) :: (.ref hs) :: (.ref mo) :: (.ref po) :: (.ref nu) :: (.ref pr) :: (.ref sq) :: (.ref xa) :: (.ref sa) :: (.ref n64) :: (.ref m64) :: (.ref ex) :: (.ref wh) :: (.ref sd) :: (.ref tk) :: (.int v52_38) :: (.int v53_39) :: (.int v54_40) :: (.ref hd) :: (.ref ak) :: (.ref ho) :: (.ref ot) :: []) := (hB1.2.2.2 h0 (by rw [hT_h0]; simp only [List.mem_cons, List.not_mem_nil, or_false]; omega)).trans hF_41
  generalize H1 = H at hP hS ⊢
  have hz9 := hq_59
  refine lv_bipush (v := 16) hx hb dX15_remainder_5 (by decide) ?_
  refine lv_iload_n hx hb dX15_remainder_7 rfl (lv_at hl 2 rfl) ?_
  refine lv_imul hx hb dX15_remainder_8 ?_
  refine lv_topi (fun x_63 ex_63 => ?_)
  obtain rfl : x_63 = 1024 := ex_63.trans (by decide)
  refine lv_iconst (v := 1) hx hb dX15_remainder_9 (by decide) ?_
  refine lv_isub hx hb dX15_remainder_10 ?_
  refine lv_topi (fun x_64 ex_64 => ?_)
  obtain rfl : x_64 = 1023 := ex_64.trans (by decide)
  refine lv_istore (lv' := [(4, .int 1023), (0, .ref h0), (1, .ref g1), (2, .int 64), (3, .ref gq)]) hx hb dX15_remainder_11 hl (by decide) rfl (fun ls hl => ?_)
  refine W.widen (k := 0) (n := 0) (by omega) (by omega) ?_
  have hF_66 : F g1 = .inl (cs 16, 66, .inl ff1) := (hR g1 (by rw [hT_g1]; simp only [List.mem_cons, List.not_mem_nil, or_false]; omega)).symm.trans hF_60
  have hF_67 : F mo = .inl (cs 16, 33, .inl ff2) := (hR mo (by rw [ht_48]; simp only [List.mem_cons, List.not_mem_nil, or_false]; omega)).symm.trans hF_61
  have hF_68 : F h0 = .inr (15, (.ref ta) :: (.int (nI zt)) :: (.int (nI zo)) :: (.int (nI ze)) :: (.ref ou) :: (.ref so) :: (.ref ad) :: (.ref na) :: (.ref va) :: (.ref lc) :: (.ref dm) :: (.int (nI fm)) :: (.int (nI sn)) :: (.ref tg) :: (.int v14_29) :: (.int v15_30) :: (.ref pe) :: (.int v17_31) :: (.int v18_32) :: (.int v19_33) :: (.int v20_34) :: (.int v21_35) :: (.int v22_36) :: (.ref ml) :: (.ref bg) :: (.ref co) :: (.ref sp) :: (.ref nb0) :: (.ref nb1) :: (.ref nb2) :: (.int (nI nf)) :: (.int (nI bd)) :: (.int (nI mm)) :: (.int v33_37) :: (.ref pl) :: (.ref se) :: (.ref ke) :: (.ref wi) :: (.ref hs) :: (.ref mo) :: (.ref po) :: (.ref nu) :: (.ref pr) :: (.ref sq) :: (.ref xa) :: (.ref sa) :: (.ref n64) :: (.ref m64) :: (.ref ex) :: (.ref wh) :: (.ref sd) :: (.ref tk) :: (.int v52_38) :: (.int v53_39) :: (.int v54_40) :: (.ref hd) :: (.ref ak) :: (.ref ho) :: (.ref ot) :: []) := (hR h0 (by rw [hT_h0]; simp only [List.mem_cons, List.not_mem_nil, or_false]; omega)).symm.trans hF_62
  refine pl_loopm (σ := Int32 × Nat × (Nat → Int32) × (Nat → Nat)) A (dC, dI) cs ty gm L [τ] F 13 9 (fun (i1, k, fq, gz) => [(4, .int i1), (0, .ref h0), (1, .ref g1), (2, .int 64), (3, .ref gq)]) (fun (i1, k, fq, gz) => []) (fun (i1, k, fq, gz) FF => k ≤ 1024 ∧ i1 = dnk k ∧ FF gq = .inl (cs 16, 33, .inl fq) ∧ LMq 33 gz fq ∧ lvb 65536 gz 33 = (lvb 65536 go 64) / 2 ^ k % (lvb 65536 gN 33)) (fun (i1, k, fq, gz) => k) ?_ (1023, 1024, f2_57, (fun _ => 0)) F_56 (⟨Nat.le_refl _, by decide, hq_58, (lm_0 hz9), (by rw [lvb_z, Nat.div_eq_of_lt hXt]; exact (Nat.zero_mod _).symm)⟩) hO hR _ _ hP hD hS ls (lv_sub hl [0, 1, 2, 3, 4] rfl)
  rintro ⟨i1, k, fq, gz⟩ F_65 hv_69 hO hR ih_70 H locs hP hD hS ls hl
  have hl : lv_has ls 9 [(4, .int i1), (0, .ref h0), (1, .ref g1), (2, .int 64), (3, .ref gq)] := hl
  have hv_69 : k ≤ 1024 ∧ i1 = dnk k ∧ F_65 gq = .inl (cs 16, 33, .inl fq) ∧ LMq 33 gz fq ∧ lvb 65536 gz 33 = (lvb 65536 go 64) / 2 ^ k % (lvb 65536 gN 33) := hv_69
  refine W.eq (g2 := F0 m 13 ls []) rfl ?_
  have hF_71 : F_65 g1 = .inl (cs 16, 66, .inl ff1) := (hR g1 (by rw [hT_g1]; simp only [List.mem_cons, List.not_mem_nil, or_false]; omega)).trans hF_66
  have hF_72 : F_65 mo = .inl (cs 16, 33, .inl ff2) := (hR mo (by rw [ht_48]; simp only [List.mem_cons, List.not_mem_nil, or_false]; omega)).trans hF_67
  have hF_73 : F_65 h0 = .inr (15, (.ref ta) :: (.int (nI zt)) :: (.int (nI zo)) :: (.int (nI ze)) :: (.ref ou) :: (.ref so) :: (.ref ad) :: (.ref na) :: (.ref va) :: (.ref lc) :: (.ref dm) :: (.int (nI fm)) :: (.int (nI sn)) :: (.ref tg) :: (.int v14_29) :: (.int v15_30) :: (.ref pe) :: (.int v17_31) :: (.int v18_32) :: (.int v19_33) :: (.int v20_34) :: (.int v21_35) :: (.int v22_36) :: (.ref ml) :: (.ref bg) :: (.ref co) :: (.ref sp) :: (.ref nb0) :: (.ref nb1) :: (.ref nb2) :: (.int (nI nf)) :: (.int (nI bd)) :: (.int (nI mm)) :: (.int v33_37) :: (.ref pl) :: (.ref se) :: (.ref ke) :: (.ref wi) :: (.ref hs) :: (.ref mo) :: (.ref po) :: (.ref nu) :: (.ref pr) :: (.ref sq) :: (.ref xa) :: (.ref sa) :: (.ref n64) :: (.ref m64) :: (.ref ex) :: (.ref wh) :: (.ref sd) :: (.ref tk) :: (.int v52_38) :: (.int v53_39) :: (.int v54_40) :: (.ref hd) :: (.ref ak) :: (.ref ho) :: (.ref ot) :: []) := (hR h0 (by rw [hT_h0]; simp only [List.mem_cons, List.not_mem_nil, or_false]; omega)).trans hF_68
  obtain ⟨hv1, hv2, hv3, hv4, hv5⟩ := id hv_69
  refine lv_iload hx hb dX15_remainder_13 (lv_at hl 0 rfl) ?_
  refine lv_if_lt (tgt := 157) hx hb dX15_remainder_15 (by decide) (fun c_74 => ?_) (fun c_74 => ?_)
  ·
    have hk0 : k = 0 := by rw [hv2] at c_74; exact dnk_neg (by omega) c_74
    refine W.widen (k := 0) (n := 0) (by omega) (by omega) ?_
    exact W.vret hx hb hr (fun t ht hWm => ⟨⟨(), rfl, trivial, ⟨F_65, fq, gz, QTm.mk ht hP hD hO hR, hv3, hv4, (by rw [hv5, hk0, Nat.pow_zero, Nat.div_one])⟩⟩, hS.F ht⟩) hS.2.2 dX15_remainder_157
  ·
    have hk1_ : 1 ≤ k := by rw [hv2] at c_74; exact dnk_pos c_74
    have hie : i1 = nI (k - 1) := by rw [hv2, dnk_s hk1_]
    clear hv2
    subst hie
    have hg16 := (hLo ((k - 1) / 16) (by omega)).1
    have hbt : (go ((k - 1) / 16) / 2 ^ ((k - 1) % 16) % 2) < 2 := Nat.mod_lt _ (by decide)
    have hbX : (lvb 65536 go 64) / 2 ^ (k - 1) % 2 = (go ((k - 1) / 16) / 2 ^ ((k - 1) % 16) % 2) := lvb_bit (fun i hi => (hLo i hi).1) (by omega)
    have hVN : lvb 65536 gz 33 < (lvb 65536 gN 33) := by rw [hv5]; exact Nat.mod_lt _ hN0
    refine lv_aload_n hx hb dX15_remainder_18 rfl (lv_at hl 2 rfl) ?_
    refine lv_iload hx hb dX15_remainder_19 (lv_at hl 0 rfl) ?_
    refine lv_bipush (v := 16) hx hb dX15_remainder_21 (by decide) ?_
    refine lv_idiv hx hb dX15_remainder_23 (by decide) ?_
    refine lv_topi (fun x_75 ex_75 => ?_)
    obtain rfl : x_75 = (nI ((k - 1) / 16)) := ex_75.trans (pk_div (d := 16) (by omega) (by omega) (by omega))
    obtain ⟨hq_76, hq_77⟩ := hW.ints hL_g1 hT_g1
    refine pg_iald hx hb hK hP hL_g1 0 hF_71 rfl (vp_in_nI (by omega) (by omega)) dX15_remainder_24 ?_
    refine lv_topi (fun x_78 ex_78 => ?_)
    obtain rfl : x_78 = (nI (go ((k - 1) / 16))) := ex_78.trans ((congrArg ff1 (nI_clamp (by omega))).trans (hLo _ (by omega)).2)
    refine lv_iload hx hb dX15_remainder_25 (lv_at hl 0 rfl) ?_
    refine lv_bipush (v := 16) hx hb dX15_remainder_27 (by decide) ?_
    refine lv_irem hx hb dX15_remainder_29 (by decide) ?_
    refine lv_topi (fun x_79 ex_79 => ?_)
    obtain rfl : x_79 = (nI ((k - 1) % 16)) := ex_79.trans (pk_remL (d := 16) (by omega) (by omega) (by omega))
    refine lv_ishr hx hb dX15_remainder_30 ?_
    refine lv_topi (fun x_80 ex_80 => ?_)
    obtain rfl : x_80 = (shr (nI (go ((k - 1) / 16))) (nI ((k - 1) % 16))) := ex_80.trans (rfl)
    refine lv_iconst (v := 1) hx hb dX15_remainder_31 (by decide) ?_
    refine lv_iand hx hb dX15_remainder_32 ?_
    refine lv_topi (fun x_81 ex_81 => ?_)
    obtain rfl : x_81 = (nI (go ((k - 1) / 16) / 2 ^ ((k - 1) % 16) % 2)) := ex_81.trans (rm_bit hg16 (by omega))
    refine lv_istore (lv' := [(5, .int (nI (go ((k - 1) / 16) / 2 ^ ((k - 1) % 16) % 2))), (4, .int (nI (k - 1))), (0, .ref h0), (1, .ref g1), (2, .int 64), (3, .ref gq)]) hx hb dX15_remainder_33 hl (by decide) rfl (fun ls hl => ?_)
    refine lv_iconst (v := 0) hx hb dX15_remainder_35 (by decide) ?_
    refine lv_istore (lv' := [(6, .int 0), (5, .int (nI (go ((k - 1) / 16) / 2 ^ ((k - 1) % 16) % 2))), (4, .int (nI (k - 1))), (0, .ref h0), (1, .ref g1), (2, .int 64), (3, .ref gq)]) hx hb dX15_remainder_36 hl (by decide) rfl (fun ls hl => ?_)
    refine W.widen (k := 0) (n := 0) (by omega) (by omega) ?_
    have hF_83 : F g1 = .inl (cs 16, 66, .inl ff1) := (hR g1 (by rw [hT_g1]; simp only [List.mem_cons, List.not_mem_nil, or_false]; omega)).symm.trans hF_71
    have hF_84 : F mo = .inl (cs 16, 33, .inl ff2) := (hR mo (by rw [ht_48]; simp only [List.mem_cons, List.not_mem_nil, or_false]; omega)).symm.trans hF_72
    have hF_85 : F h0 = .inr (15, (.ref ta) :: (.int (nI zt)) :: (.int (nI zo)) :: (.int (nI ze)) :: (.ref ou) :: (.ref so) :: (.ref ad) :: (.ref na) :: (.ref va) :: (.ref lc) :: (.ref dm) :: (.int (nI fm)) :: (.int (nI sn)) :: (.ref tg) :: (.int v14_29) :: (.int v15_30) :: (.ref pe) :: (.int v17_31) :: (.int v18_32) :: (.int v19_33) :: (.int v20_34) :: (.int v21_35) :: (.int v22_36) :: (.ref ml) :: (.ref bg) :: (.ref co) :: (.ref sp) :: (.ref nb0) :: (.ref nb1) :: (.ref nb2) :: (.int (nI nf)) :: (.int (nI bd)) :: (.int (nI mm)) :: (.int v33_37) :: (.ref pl) :: (.ref se) :: (.ref ke) :: (.ref wi) :: (.ref hs) :: (.ref mo) :: (.ref po) :: (.ref nu) :: (.ref pr) :: (.ref sq) :: (.ref xa) :: (.ref sa) :: (.ref n64) :: (.ref m64) :: (.ref ex) :: (.ref wh) :: (.ref sd) :: (.ref tk) :: (.int v52_38) :: (.int v53_39) :: (.int v54_40) :: (.ref hd) :: (.ref ak) :: (.ref ho) :: (.ref ot) :: []) := (hR h0 (by rw [hT_h0]; simp only [List.mem_cons, List.not_mem_nil, or_false]; omega)).symm.trans hF_73
    refine pl_loopm (σ := Nat × Nat × (Nat → Int32) × (Nat → Nat)) A (dC, dI) cs ty gm L [τ] F 38 9 (fun (j, cc, fy, gy) => [(6, .int (nI j)), (5, .int (nI cc)), (4, .int (nI (k - 1))), (0, .ref h0), (1, .ref g1), (2, .int 64), (3, .ref gq)]) (fun (j, cc, fy, gy) => []) (fun (j, cc, fy, gy) FF => j ≤ 33 ∧ cc < 2 ∧ FF gq = .inl (cs 16, 33, .inl fy) ∧ LMq 33 gy fy ∧ (∀ i, j ≤ i → i < 33 → gy i = gz i) ∧ lvb 65536 gy j + cc * 65536 ^ j = 2 * lvb 65536 gz j + (go ((k - 1) / 16) / 2 ^ ((k - 1) % 16) % 2)) (fun (j, cc, fy, gy) => 33 - j) ?_ (0, (go ((k - 1) / 16) / 2 ^ ((k - 1) % 16) % 2), fq, gz) F_65 (⟨by omega, hbt, hv3, hv4, fun i h1 h2 => rfl, by rw [lvb_0, Nat.pow_zero, Nat.mul_one]⟩) hO hR _ _ hP hD hS ls (lv_sub hl [0, 1, 2, 3, 4, 5, 6] rfl)
    rintro ⟨j, cc, fy, gy⟩ F_82 hv_86 hO hR ih_87 H locs hP hD hS ls hl
    have hl : lv_has ls 9 [(6, .int (nI j)), (5, .int (nI cc)), (4, .int (nI (k - 1))), (0, .ref h0), (1, .ref g1), (2, .int 64), (3, .ref gq)] := hl
    have hv_86 : j ≤ 33 ∧ cc < 2 ∧ F_82 gq = .inl (cs 16, 33, .inl fy) ∧ LMq 33 gy fy ∧ (∀ i, j ≤ i → i < 33 → gy i = gz i) ∧ lvb 65536 gy j + cc * 65536 ^ j = 2 * lvb 65536 gz j + (go ((k - 1) / 16) / 2 ^ ((k - 1) % 16) % 2) := hv_86
    refine W.eq (g2 := F0 m 38 ls []) rfl ?_
    have hF_88 : F_82 g1 = .inl (cs 16, 66, .inl ff1) := (hR g1 (by rw [hT_g1]; simp only [List.mem_cons, List.not_mem_nil, or_false]; omega)).trans hF_83
    have hF_89 : F_82 mo = .inl (cs 16, 33, .inl ff2) := (hR mo (by rw [ht_48]; simp only [List.mem_cons, List.not_mem_nil, or_false]; omega)).trans hF_84
    have hF_90 : F_82 h0 = .inr (15, (.ref ta) :: (.int (nI zt)) :: (.int (nI zo)) :: (.int (nI ze)) :: (.ref ou) :: (.ref so) :: (.ref ad) :: (.ref na) :: (.ref va) :: (.ref lc) :: (.ref dm) :: (.int (nI fm)) :: (.int (nI sn)) :: (.ref tg) :: (.int v14_29) :: (.int v15_30) :: (.ref pe) :: (.int v17_31) :: (.int v18_32) :: (.int v19_33) :: (.int v20_34) :: (.int v21_35) :: (.int v22_36) :: (.ref ml) :: (.ref bg) :: (.ref co) :: (.ref sp) :: (.ref nb0) :: (.ref nb1) :: (.ref nb2) :: (.int (nI nf)) :: (.int (nI bd)) :: (.int (nI mm)) :: (.int v33_37) :: (.ref pl) :: (.ref se) :: (.ref ke) :: (.ref wi) :: (.ref hs) :: (.ref mo) :: (.ref po) :: (.ref nu) :: (.ref pr) :: (.ref sq) :: (.ref xa) :: (.ref sa) :: (.ref n64) :: (.ref m64) :: (.ref ex) :: (.ref wh) :: (.ref sd) :: (.ref tk) :: (.int v52_38) :: (.int v53_39) :: (.int v54_40) :: (.ref hd) :: (.ref ak) :: (.ref ho) :: (.ref ot) :: []) := (hR h0 (by rw [hT_h0]; simp only [List.mem_cons, List.not_mem_nil, or_false]; omega)).trans hF_85
    obtain ⟨hw1, hw2, hw3, hw4, hw5, hw6⟩ := id hv_86
    refine lv_iload hx hb dX15_remainder_38 (lv_at hl 0 rfl) ?_
    refine lv_bipush (v := 33) hx hb dX15_remainder_40 (by decide) ?_
    refine lv_icmp_ge (tgt := 79) hx hb dX15_remainder_42 (by decide) (fun c_91 => ?_) (fun c_91 => ?_)
    ·
      have hi_92 : 33 ≤ j := leN (N := 33) c_91
      have hj33 : j = 33 := by have h9 : 33 ≤ j := (nI_leI (a := 33) (by omega) (by omega)).mp c_91; omega
      subst hj33
      have hVy : lvb 65536 gy 33 = 2 * lvb 65536 gz 33 + (go ((k - 1) / 16) / 2 ^ ((k - 1) % 16) % 2) := by rcases (show cc = 0 ∨ cc = 1 by omega) with q | q; rw [q, Nat.zero_mul, Nat.add_zero] at hw6; exact hw6; rw [q, Nat.one_mul] at hw6; omega
      refine lv_aload_n hx hb dX15_remainder_79 rfl (lv_at hl 6 rfl) ?_
      refine lv_aload_n hx hb dX15_remainder_80 rfl (lv_at hl 3 rfl) ?_
      refine pg_get (ci := 15) (v := .ref mo) (C := RX15) (T := TX15) (N := 59) hx hb hts it_15 hown hK hP hL_h0 hF_90 rfl 39 (by decide) (hts _ kt_811) (fun _ h9 => h9) rfl dX15_remainder_81 ?_
      have hFc := pg_free hD hS hA
      refine va_calli (va_runS (As := [.ref gq, .ref mo]) (rest := []) ⟨hx, hb, hml, hown, hts⟩ (s_X15_isBelow_x l dC dI cs ty gm L H.size F_82 gq τ mo (ρ + 18) fy ff2 gy gN hW hL_gq hT_gq hi_47 ht_48 hw3 hF_89 (hw4) (hLm)) ⟨callB_of 2 hts (gi kt_812) rfl rfl rfl (hts _ kt_669) (hts _ kt_813) (by decide +kernel) ⟨Nat.le_of_ble_eq_true rfl, Nat.le_of_ble_eq_true rfl⟩, (hts _ kt_814)⟩ ⟨fun a U g mk q => ⟨q.1, PTm.calling q.2⟩, fun U hU hWm => ⟨rfl, PTm.mk hU hWm hP hK hD hE hO⟩⟩ rfl rfl hl.1 rfl (lv_room (Nat.le_of_ble_eq_true rfl)) dX15_remainder_84 ⟨by show _ + 0 ≤ 0; omega, by show _ + 0 ≤ 0; omega⟩) hS (fun q _ h => hFc q h) hFc (fun r_93 u t H1 locs ht hvm hw hB hz1 hk1 hS => ?_)
      obtain ⟨F_94, hB1⟩ := hB
      obtain rfl : F_82 = F_94 := (funext (fun a => hB1.2.2.2 a List.not_mem_nil)).symm
      obtain ⟨hP, hD, hO, hR⟩ := QTm.back hB1 ht hFc hR (fun q h => absurd h List.not_mem_nil)
      generalize H1 = H at hP hS ⊢
      have hw : ((r_93 = 1 ∧ lvb 65536 gy 33 < lvb 65536 gN 33) ∨ (r_93 = 0 ∧ ¬ lvb 65536 gy 33 < lvb 65536 gN 33)) := hw
      have hw_95 := hw
      refine lv_if_eq (tgt := 93) hx hb dX15_remainder_87 (by decide) (fun c_96 => ?_) (fun c_96 => ?_)
      ·
        have hge9 : (lvb 65536 gN 33) ≤ lvb 65536 gy 33 := Nat.not_lt.mp (orp0 hw_95 c_96)
        refine lv_iconst (v := 0) hx hb dX15_remainder_93 (by decide) ?_
        refine lv_istore (lv' := [(6, .int 0), (5, .int (nI cc)), (4, .int (nI (k - 1))), (0, .ref h0), (1, .ref g1), (2, .int 64), (3, .ref gq)]) hx hb dX15_remainder_94 hl (by decide) rfl (fun ls hl => ?_)
        refine lv_iconst (v := 0) hx hb dX15_remainder_96 (by decide) ?_
        refine lv_istore (lv' := [(7, .int 0), (6, .int 0), (5, .int (nI cc)), (4, .int (nI (k - 1))), (0, .ref h0), (1, .ref g1), (2, .int 64), (3, .ref gq)]) hx hb dX15_remainder_97 hl (by decide) rfl (fun ls hl => ?_)
        refine W.widen (k := 0) (n := 0) (by omega) (by omega) ?_
        have hF_98 : F g1 = .inl (cs 16, 66, .inl ff1) := (hR g1 (by rw [hT_g1]; simp only [List.mem_cons, List.not_mem_nil, or_false]; omega)).symm.trans hF_88
        have hF_99 : F mo = .inl (cs 16, 33, .inl ff2) := (hR mo (by rw [ht_48]; simp only [List.mem_cons, List.not_mem_nil, or_false]; omega)).symm.trans hF_89
        have hF_100 : F h0 = .inr (15, (.ref ta) :: (.int (nI zt)) :: (.int (nI zo)) :: (.int (nI ze)) :: (.ref ou) :: (.ref so) :: (.ref ad) :: (.ref na) :: (.ref va) :: (.ref lc) :: (.ref dm) :: (.int (nI fm)) :: (.int (nI sn)) :: (.ref tg) :: (.int v14_29) :: (.int v15_30) :: (.ref pe) :: (.int v17_31) :: (.int v18_32) :: (.int v19_33) :: (.int v20_34) :: (.int v21_35) :: (.int v22_36) :: (.ref ml) :: (.ref bg) :: (.ref co) :: (.ref sp) :: (.ref nb0) :: (.ref nb1) :: (.ref nb2) :: (.int (nI nf)) :: (.int (nI bd)) :: (.int (nI mm)) :: (.int v33_37) :: (.ref pl) :: (.ref se) :: (.ref ke) :: (.ref wi) :: (.ref hs) :: (.ref mo) :: (.ref po) :: (.ref nu) :: (.ref pr) :: (.ref sq) :: (.ref xa) :: (.ref sa) :: (.ref n64) :: (.ref m64) :: (.ref ex) :: (.ref wh) :: (.ref sd) :: (.ref tk) :: (.int v52_38) :: (.int v53_39) :: (.int v54_40) :: (.ref hd) :: (.ref ak) :: (.ref ho) :: (.ref ot) :: []) := (hR h0 (by rw [hT_h0]; simp only [List.mem_cons, List.not_mem_nil, or_false]; omega)).symm.trans hF_90
        refine pl_loopm (σ := Nat × Nat × (Nat → Int32) × (Nat → Nat)) A (dC, dI) cs ty gm L [τ] F 99 9 (fun (j2, bw, fx, gx) => [(7, .int (nI j2)), (6, .int (nI bw)), (4, .int (nI (k - 1))), (0, .ref h0), (1, .ref g1), (2, .int 64), (3, .ref gq)]) (fun (j2, bw, fx, gx) => []) (fun (j2, bw, fx, gx) FF => j2 ≤ 33 ∧ bw < 2 ∧ FF gq = .inl (cs 16, 33, .inl fx) ∧ LMq 33 gx fx ∧ (∀ i, j2 ≤ i → i < 33 → gx i = gy i) ∧ lvb 65536 gx j2 + lvb 65536 gN j2 = lvb 65536 gy j2 + bw * 65536 ^ j2) (fun (j2, bw, fx, gx) => 33 - j2) ?_ (0, 0, fy, gy) F_82 (⟨by omega, by decide, hw3, hw4, fun i h1 h2 => rfl, by rw [lvb_0, lvb_0, Nat.zero_mul]⟩) hO hR _ _ hP hD hS ls (lv_sub hl [0, 1, 3, 4, 5, 6, 7] rfl)
        rintro ⟨j2, bw, fx, gx⟩ F_97 hv_101 hO hR ih_102 H locs hP hD hS ls hl
        have hl : lv_has ls 9 [(7, .int (nI j2)), (6, .int (nI bw)), (4, .int (nI (k - 1))), (0, .ref h0), (1, .ref g1), (2, .int 64), (3, .ref gq)] := hl
        have hv_101 : j2 ≤ 33 ∧ bw < 2 ∧ F_97 gq = .inl (cs 16, 33, .inl fx) ∧ LMq 33 gx fx ∧ (∀ i, j2 ≤ i → i < 33 → gx i = gy i) ∧ lvb 65536 gx j2 + lvb 65536 gN j2 = lvb 65536 gy j2 + bw * 65536 ^ j2 := hv_101
        refine W.eq (g2 := F0 m 99 ls []) rfl ?_
        have hF_103 : F_97 g1 = .inl (cs 16, 66, .inl ff1) := (hR g1 (by rw [hT_g1]; simp only [List.mem_cons, List.not_mem_nil, or_false]; omega)).trans hF_98
        have hF_104 : F_97 mo = .inl (cs 16, 33, .inl ff2) := (hR mo (by rw [ht_48]; simp only [List.mem_cons, List.not_mem_nil, or_false]; omega)).trans hF_99
        have hF_105 : F_97 h0 = .inr (15, (.ref ta) :: (.int (nI zt)) :: (.int (nI zo)) :: (.int (nI ze)) :: (.ref ou) :: (.ref so) :: (.ref ad) :: (.ref na) :: (.ref va) :: (.ref lc) :: (.ref dm) :: (.int (nI fm)) :: (.int (nI sn)) :: (.ref tg) :: (.int v14_29) :: (.int v15_30) :: (.ref pe) :: (.int v17_31) :: (.int v18_32) :: (.int v19_33) :: (.int v20_34) :: (.int v21_35) :: (.int v22_36) :: (.ref ml) :: (.ref bg) :: (.ref co) :: (.ref sp) :: (.ref nb0) :: (.ref nb1) :: (.ref nb2) :: (.int (nI nf)) :: (.int (nI bd)) :: (.int (nI mm)) :: (.int v33_37) :: (.ref pl) :: (.ref se) :: (.ref ke) :: (.ref wi) :: (.ref hs) :: (.ref mo) :: (.ref po) :: (.ref nu) :: (.ref pr) :: (.ref sq) :: (.ref xa) :: (.ref sa) :: (.ref n64) :: (.ref m64) :: (.ref ex) :: (.ref wh) :: (.ref sd) :: (.ref tk) :: (.int v52_38) :: (.int v53_39) :: (.int v54_40) :: (.ref hd) :: (.ref ak) :: (.ref ho) :: (.ref ot) :: []) := (hR h0 (by rw [hT_h0]; simp only [List.mem_cons, List.not_mem_nil, or_false]; omega)).trans hF_100
        obtain ⟨hx1, hx2, hx3, hx4, hx5, hx6⟩ := id hv_101
        refine lv_iload hx hb dX15_remainder_99 (lv_at hl 0 rfl) ?_
        refine lv_bipush (v := 33) hx hb dX15_remainder_101 (by decide) ?_
        refine lv_icmp_ge (tgt := 151) hx hb dX15_remainder_103 (by decide) (fun c_106 => ?_) (fun c_106 => ?_)
        ·
          have hi_107 : 33 ≤ j2 := leN (N := 33) c_106
          have hj233 : j2 = 33 := by have h9 : 33 ≤ j2 := (nI_leI (a := 33) (by omega) (by omega)).mp c_106; omega
          subst hj233
          have hlx := lvb_lt 33 (fun i hi => (hx4 i hi).1)
          have hVx : lvb 65536 gx 33 = lvb 65536 gy 33 - (lvb 65536 gN 33) := by rcases (show bw = 0 ∨ bw = 1 by omega) with q | q; rw [q, Nat.zero_mul, Nat.add_zero] at hx6; omega; rw [q, Nat.one_mul] at hx6; omega
          refine lv_iinc (v := (dnk (k - 1))) (lv' := [(4, .int (dnk (k - 1))), (7, .int (nI 33)), (6, .int (nI bw)), (0, .ref h0), (1, .ref g1), (2, .int 64), (3, .ref gq)]) hx hb dX15_remainder_151 hl (k := 2) rfl (rfl) (by decide) rfl (fun ls hl => ?_)
          refine lv_goto (tgt := 13) hx hb dX15_remainder_154 (by decide) ?_
          refine W.widen (k := 0) (n := 0) (by omega) (by omega) ?_
          exact ih_70 ((dnk (k - 1)), (k - 1), fx, gx) F_97 (⟨by omega, rfl, hx3, hx4, (by rw [rm_2 hk1_ hbX, ← hv5, ← hVy, rm_sb hge9 (by omega)]; exact hVx)⟩) (by show (k - 1) < k; omega) hO hR _ _ hP hD hS ls (lv_sub hl [0, 3, 4, 5, 6] rfl)
        ·
          have hi_108 : j2 < 33 := ltN (N := 33) c_106
          have hj233 : j2 < 33 := by have h9 : ¬ 33 ≤ j2 := fun q => c_106 ((nI_leI (a := 33) (by omega) (by omega)).mpr q); omega
          have hgx := (hx4 j2 hj233).1
          have hgn := (hLm j2 hj233).1
          refine lv_aload_n hx hb dX15_remainder_106 rfl (lv_at hl 6 rfl) ?_
          refine lv_iload hx hb dX15_remainder_107 (lv_at hl 0 rfl) ?_
          refine pg_iald hx hb hK hP hL_gq 0 hx3 rfl (vp_in_nI (by omega) (by omega)) dX15_remainder_109 ?_
          refine lv_topi (fun x_109 ex_109 => ?_)
          obtain rfl : x_109 = (nI (gx j2)) := ex_109.trans ((congrArg fx (nI_clamp (by omega))).trans (hx4 j2 hj233).2)
          refine lv_aload_n hx hb dX15_remainder_110 rfl (lv_at hl 3 rfl) ?_
          refine pg_get (ci := 15) (v := .ref mo) (C := RX15) (T := TX15) (N := 59) hx hb hts it_15 hown hK hP hL_h0 hF_105 rfl 39 (by decide) (hts _ kt_811) (fun _ h9 => h9) rfl dX15_remainder_111 ?_
          refine lv_iload hx hb dX15_remainder_114 (lv_at hl 0 rfl) ?_
          refine pg_iald hx hb hK hP hi_47 0 hF_104 rfl (vp_in_nI (by omega) (by omega)) dX15_remainder_116 ?_
          refine lv_topi (fun x_110 ex_110 => ?_)
          obtain rfl : x_110 = (nI (gN j2)) := ex_110.trans ((congrArg ff2 (nI_clamp (by omega))).trans (hLm j2 hj233).2)
          refine lv_isub hx hb dX15_remainder_117 ?_
          refine lv_topi (fun x_111 ex_111 => ?_)
          obtain rfl : x_111 = (nI (gx j2) - nI (gN j2)) := ex_111.trans (rfl)
          refine lv_iload hx hb dX15_remainder_118 (lv_at hl 1 rfl) ?_
          refine lv_isub hx hb dX15_remainder_120 ?_
          refine lv_topi (fun x_112 ex_112 => ?_)
          obtain rfl : x_112 = ((nI (gx j2) - nI (gN j2)) - nI bw) := ex_112.trans (rfl)
          refine lv_istore (lv' := [(8, .int ((nI (gx j2) - nI (gN j2)) - nI bw)), (7, .int (nI j2)), (6, .int (nI bw)), (4, .int (nI (k - 1))), (0, .ref h0), (1, .ref g1), (2, .int 64), (3, .ref gq)]) hx hb dX15_remainder_121 hl (by decide) rfl (fun ls hl => ?_)
          refine lv_aload_n hx hb dX15_remainder_123 rfl (lv_at hl 7 rfl) ?_
          refine lv_iload hx hb dX15_remainder_124 (lv_at hl 1 rfl) ?_
          refine lv_iload hx hb dX15_remainder_126 (lv_at hl 0 rfl) ?_
          refine lv_ldcw (v := 65535) hx hb hown (hts _ kt_815) dX15_remainder_128 ?_
          refine lv_iand hx hb dX15_remainder_131 ?_
          refine lv_topi (fun x_113 ex_113 => ?_)
          obtain rfl : x_113 = (nI ((gx j2 + 65536 - gN j2 - bw) % 65536)) := ex_113.trans (rm_sub hgx hgn hx2)
          refine pg_iast hx hb hK hP hD hS hL_gq 0 hx3 rfl (vp_in_nI (by omega) (by omega)) dX15_remainder_132 (fun H locs hP hD hS => ?_)
          obtain ⟨F_114, he_115, hP, hD, hO, hR⟩ : ∃ G, G = va_up F_97 gq (.inl (cs 16, 33, .inl (upd fx ((nI j2)).toNatClampNeg ((nI ((gx j2 + 65536 - gN j2 - bw) % 65536)))))) ∧ va_P (dC, dI) vwCl (va_pl L G) H ∧ va_D A (va_pl L G) ∧ OKm cs ty gm L G ∧ FR ty [τ] F G := ⟨_, rfl, hP, hD, hO.up (shm.ints hT_gq ⟨_, rfl⟩), hR.up hT_gq (by simp)⟩
          have hF_116 : F_114 gq = .inl (cs 16, 33, .inl (upd fx ((nI j2)).toNatClampNeg ((nI ((gx j2 + 65536 - gN j2 - bw) % 65536))))) := by rw [he_115]; exact up_self
          have hF_117 : F_114 g1 = .inl (cs 16, 66, .inl ff1) := by rw [he_115, up_ne (ne_ty2 hT_g1 hT_gq (by simp))]; exact hF_103
          have hF_118 : F_114 h0 = .inr (15, (.ref ta) :: (.int (nI zt)) :: (.int (nI zo)) :: (.int (nI ze)) :: (.ref ou) :: (.ref so) :: (.ref ad) :: (.ref na) :: (.ref va) :: (.ref lc) :: (.ref dm) :: (.int (nI fm)) :: (.int (nI sn)) :: (.ref tg) :: (.int v14_29) :: (.int v15_30) :: (.ref pe) :: (.int v17_31) :: (.int v18_32) :: (.int v19_33) :: (.int v20_34) :: (.int v21_35) :: (.int v22_36) :: (.ref ml) :: (.ref bg) :: (.ref co) :: (.ref sp) :: (.ref nb0) :: (.ref nb1) :: (.ref nb2) :: (.int (nI nf)) :: (.int (nI bd)) :: (.int (nI mm)) :: (.int v33_37) :: (.ref pl) :: (.ref se) :: (.ref ke) :: (.ref wi) :: (.ref hs) :: (.ref mo) :: (.ref po) :: (.ref nu) :: (.ref pr) :: (.ref sq) :: (.ref xa) :: (.ref sa) :: (.ref n64) :: (.ref m64) :: (.ref ex) :: (.ref wh) :: (.ref sd) :: (.ref tk) :: (.int v52_38) :: (.int v53_39) :: (.int v54_40) :: (.ref hd) :: (.ref ak) :: (.ref ho) :: (.ref ot) :: []) := by rw [he_115, up_ne (ne_ty hT_h0 hT_gq (by simp))]; exact hF_105
          have hF_119 : F_114 gq = .inl (cs 16, 33, .inl (upd fx j2 (nI ((gx j2 + 65536 - gN j2 - bw) % 65536)))) := by have h9 := hF_116; rwa [nI_clamp (by omega)] at h9
          refine lv_iload hx hb dX15_remainder_133 (lv_at hl 0 rfl) ?_
          refine lv_if_ge (tgt := 142) hx hb dX15_remainder_135 (by decide) (fun c_120 => ?_) (fun c_120 => ?_)
          ·
            have hbo : gN j2 + bw ≤ gx j2 := (rm_neg hgx hgn hx2).mp c_120
            refine lv_iconst (v := 0) hx hb dX15_remainder_142 (by decide) ?_
            refine lv_istore (lv' := [(6, .int 0), (8, .int ((nI (gx j2) - nI (gN j2)) - nI bw)), (7, .int (nI j2)), (4, .int (nI (k - 1))), (0, .ref h0), (1, .ref g1), (2, .int 64), (3, .ref gq)]) hx hb dX15_remainder_143 hl (by decide) rfl (fun ls hl => ?_)
            refine lv_iinc (v := (nI (j2 + 1))) (lv' := [(7, .int (nI (j2 + 1))), (6, .int 0), (8, .int ((nI (gx j2) - nI (gN j2)) - nI bw)), (4, .int (nI (k - 1))), (0, .ref h0), (1, .ref g1), (2, .int 64), (3, .ref gq)]) hx hb dX15_remainder_145 hl (k := 2) rfl (nI_1 _) (by decide) rfl (fun ls hl => ?_)
            refine lv_goto (tgt := 99) hx hb dX15_remainder_148 (by decide) ?_
            refine W.widen (k := 0) (n := 0) (by omega) (by omega) ?_
            exact ih_102 ((j2 + 1), 0, (upd fx j2 (nI ((gx j2 + 65536 - gN j2 - bw) % 65536))), (upN gx j2 ((gx j2 + 65536 - gN j2 - bw) % 65536))) F_114 (⟨by omega, by omega, hF_119, hx4.up (Nat.mod_lt _ (by decide)), fun i h1 h2 => by rw [upN_ne (show i ≠ j2 by omega)]; exact hx5 i (by omega) h2, by rw [lvb_u1, lvb_s, lvb_s, Nat.pow_succ]; exact sb_st hx6 (show ((gx j2 + 65536 - gN j2 - bw) % 65536) + gN j2 + bw = gy j2 + 0 * 65536 by rw [← hx5 j2 (Nat.le_refl _) hj233]; omega)⟩) (by show 33 - (j2 + 1) < 33 - j2; omega) hO hR _ _ hP hD hS ls (lv_sub hl [0, 1, 3, 4, 5, 6, 7] rfl)
          ·
            have hbo : gx j2 < gN j2 + bw := Nat.not_le.mp (fun q => c_120 ((rm_neg hgx hgn hx2).mpr q))
            refine lv_iconst (v := 1) hx hb dX15_remainder_138 (by decide) ?_
            refine lv_goto (tgt := 143) hx hb dX15_remainder_139 (by decide) ?_
            refine lv_istore (lv' := [(6, .int 1), (8, .int ((nI (gx j2) - nI (gN j2)) - nI bw)), (7, .int (nI j2)), (4, .int (nI (k - 1))), (0, .ref h0), (1, .ref g1), (2, .int 64), (3, .ref gq)]) hx hb dX15_remainder_143 hl (by decide) rfl (fun ls hl => ?_)
            refine lv_iinc (v := (nI (j2 + 1))) (lv' := [(7, .int (nI (j2 + 1))), (6, .int 1), (8, .int ((nI (gx j2) - nI (gN j2)) - nI bw)), (4, .int (nI (k - 1))), (0, .ref h0), (1, .ref g1), (2, .int 64), (3, .ref gq)]) hx hb dX15_remainder_145 hl (k := 2) rfl (nI_1 _) (by decide) rfl (fun ls hl => ?_)
            refine lv_goto (tgt := 99) hx hb dX15_remainder_148 (by decide) ?_
            refine W.widen (k := 0) (n := 0) (by omega) (by omega) ?_
            exact ih_102 ((j2 + 1), 1, (upd fx j2 (nI ((gx j2 + 65536 - gN j2 - bw) % 65536))), (upN gx j2 ((gx j2 + 65536 - gN j2 - bw) % 65536))) F_114 (⟨by omega, by omega, hF_119, hx4.up (Nat.mod_lt _ (by decide)), fun i h1 h2 => by rw [upN_ne (show i ≠ j2 by omega)]; exact hx5 i (by omega) h2, by rw [lvb_u1, lvb_s, lvb_s, Nat.pow_succ]; exact sb_st hx6 (show ((gx j2 + 65536 - gN j2 - bw) % 65536) + gN j2 + bw = gy j2 + 1 * 65536 by rw [← hx5 j2 (Nat.le_refl _) hj233]; omega)⟩) (by show 33 - (j2 + 1) < 33 - j2; omega) hO hR _ _ hP hD hS ls (lv_sub hl [0, 1, 3, 4, 5, 6, 7] rfl)
      ·
        have hlt9 := orp1 hw_95 c_96
        refine lv_goto (tgt := 151) hx hb dX15_remainder_90 (by decide) ?_
        refine lv_iinc (v := (dnk (k - 1))) (lv' := [(4, .int (dnk (k - 1))), (6, .int (nI 33)), (5, .int (nI cc)), (0, .ref h0), (1, .ref g1), (2, .int 64), (3, .ref gq)]) hx hb dX15_remainder_151 hl (k := 2) rfl (rfl) (by decide) rfl (fun ls hl => ?_)
        refine lv_goto (tgt := 13) hx hb dX15_remainder_154 (by decide) ?_
        refine W.widen (k := 0) (n := 0) (by omega) (by omega) ?_
        exact ih_70 ((dnk (k - 1)), (k - 1), fy, gy) F_82 (⟨by omega, rfl, hw3, hw4, (by rw [rm_2 hk1_ hbX, ← hv5, ← hVy]; exact (Nat.mod_eq_of_lt hlt9).symm)⟩) (by show (k - 1) < k; omega) hO hR _ _ hP hD hS ls (lv_sub hl [0, 3, 4, 5, 6] rfl)
    ·
      have hi_121 : j < 33 := ltN (N := 33) c_91
      have hj33 : j < 33 := by have h9 : ¬ 33 ≤ j := fun q => c_91 ((nI_leI (a := 33) (by omega) (by omega)).mpr q); omega
      have hgj := (hw4 j hj33).1
      refine lv_aload_n hx hb dX15_remainder_45 rfl (lv_at hl 6 rfl) ?_
      refine lv_iload hx hb dX15_remainder_46 (lv_at hl 0 rfl) ?_
      refine pg_iald hx hb hK hP hL_gq 0 hw3 rfl (vp_in_nI (by omega) (by omega)) dX15_remainder_48 ?_
      refine lv_topi (fun x_122 ex_122 => ?_)
      obtain rfl : x_122 = (nI (gy j)) := ex_122.trans ((congrArg fy (nI_clamp (by omega))).trans (hw4 j hj33).2)
      refine lv_iconst (v := 1) hx hb dX15_remainder_49 (by decide) ?_
      refine lv_ishl hx hb dX15_remainder_50 ?_
      refine lv_topi (fun x_123 ex_123 => ?_)
      obtain rfl : x_123 = (shl (nI (gy j)) 1) := ex_123.trans (rfl)
      refine lv_iload hx hb dX15_remainder_51 (lv_at hl 1 rfl) ?_
      refine lv_ior hx hb dX15_remainder_53 ?_
      refine lv_topi (fun x_124 ex_124 => ?_)
      obtain rfl : x_124 = (nI (2 * gy j + cc)) := ex_124.trans (rm_sl hgj hw2)
      refine lv_istore (lv' := [(7, .int (nI (2 * gy j + cc))), (6, .int (nI j)), (5, .int (nI cc)), (4, .int (nI (k - 1))), (0, .ref h0), (1, .ref g1), (2, .int 64), (3, .ref gq)]) hx hb dX15_remainder_54 hl (by decide) rfl (fun ls hl => ?_)
      refine lv_aload_n hx hb dX15_remainder_56 rfl (lv_at hl 7 rfl) ?_
      refine lv_iload hx hb dX15_remainder_57 (lv_at hl 1 rfl) ?_
      refine lv_iload hx hb dX15_remainder_59 (lv_at hl 0 rfl) ?_
      refine lv_ldcw (v := 65535) hx hb hown (hts _ kt_815) dX15_remainder_61 ?_
      refine lv_iand hx hb dX15_remainder_64 ?_
      refine lv_topi (fun x_125 ex_125 => ?_)
      obtain rfl : x_125 = (nI ((2 * gy j + cc) % 65536)) := ex_125.trans (rm_lo (by omega))
      refine pg_iast hx hb hK hP hD hS hL_gq 0 hw3 rfl (vp_in_nI (by omega) (by omega)) dX15_remainder_65 (fun H locs hP hD hS => ?_)
      obtain ⟨F_126, he_127, hP, hD, hO, hR⟩ : ∃ G, G = va_up F_82 gq (.inl (cs 16, 33, .inl (upd fy ((nI j)).toNatClampNeg ((nI ((2 * gy j + cc) % 65536)))))) ∧ va_P (dC, dI) vwCl (va_pl L G) H ∧ va_D A (va_pl L G) ∧ OKm cs ty gm L G ∧ FR ty [τ] F G := ⟨_, rfl, hP, hD, hO.up (shm.ints hT_gq ⟨_, rfl⟩), hR.up hT_gq (by simp)⟩
      have hF_128 : F_126 gq = .inl (cs 16, 33, .inl (upd fy ((nI j)).toNatClampNeg ((nI ((2 * gy j + cc) % 65536))))) := by rw [he_127]; exact up_self
      have hF_129 : F_126 g1 = .inl (cs 16, 66, .inl ff1) := by rw [he_127, up_ne (ne_ty2 hT_g1 hT_gq (by simp))]; exact hF_88
      have hF_130 : F_126 h0 = .inr (15, (.ref ta) :: (.int (nI zt)) :: (.int (nI zo)) :: (.int (nI ze)) :: (.ref ou) :: (.ref so) :: (.ref ad) :: (.ref na) :: (.ref va) :: (.ref lc) :: (.ref dm) :: (.int (nI fm)) :: (.int (nI sn)) :: (.ref tg) :: (.int v14_29) :: (.int v15_30) :: (.ref pe) :: (.int v17_31) :: (.int v18_32) :: (.int v19_33) :: (.int v20_34) :: (.int v21_35) :: (.int v22_36) :: (.ref ml) :: (.ref bg) :: (.ref co) :: (.ref sp) :: (.ref nb0) :: (.ref nb1) :: (.ref nb2) :: (.int (nI nf)) :: (.int (nI bd)) :: (.int (nI mm)) :: (.int v33_37) :: (.ref pl) :: (.ref se) :: (.ref ke) :: (.ref wi) :: (.ref hs) :: (.ref mo) :: (.ref po) :: (.ref nu) :: (.ref pr) :: (.ref sq) :: (.ref xa) :: (.ref sa) :: (.ref n64) :: (.ref m64) :: (.ref ex) :: (.ref wh) :: (.ref sd) :: (.ref tk) :: (.int v52_38) :: (.int v53_39) :: (.int v54_40) :: (.ref hd) :: (.ref ak) :: (.ref ho) :: (.ref ot) :: []) := by rw [he_127, up_ne (ne_ty hT_h0 hT_gq (by simp))]; exact hF_90
      have hF_131 : F_126 gq = .inl (cs 16, 33, .inl (upd fy j (nI ((2 * gy j + cc) % 65536)))) := by have h9 := hF_128; rwa [nI_clamp (by omega)] at h9
      refine lv_iload hx hb dX15_remainder_66 (lv_at hl 0 rfl) ?_
      refine lv_bipush (v := 16) hx hb dX15_remainder_68 (by decide) ?_
      refine lv_ishr hx hb dX15_remainder_70 ?_
      refine lv_topi (fun x_132 ex_132 => ?_)
      obtain rfl : x_132 = (nI ((2 * gy j + cc) / 65536)) := ex_132.trans (rm_hi (by omega))
      refine lv_istore (lv' := [(5, .int (nI ((2 * gy j + cc) / 65536))), (7, .int (nI (2 * gy j + cc))), (6, .int (nI j)), (4, .int (nI (k - 1))), (0, .ref h0), (1, .ref g1), (2, .int 64), (3, .ref gq)]) hx hb dX15_remainder_71 hl (by decide) rfl (fun ls hl => ?_)
      refine lv_iinc (v := (nI (j + 1))) (lv' := [(6, .int (nI (j + 1))), (5, .int (nI ((2 * gy j + cc) / 65536))), (7, .int (nI (2 * gy j + cc))), (4, .int (nI (k - 1))), (0, .ref h0), (1, .ref g1), (2, .int 64), (3, .ref gq)]) hx hb dX15_remainder_73 hl (k := 2) rfl (nI_1 _) (by decide) rfl (fun ls hl => ?_)
      refine lv_goto (tgt := 38) hx hb dX15_remainder_76 (by decide) ?_
      refine W.widen (k := 0) (n := 0) (by omega) (by omega) ?_
      exact ih_87 ((j + 1), ((2 * gy j + cc) / 65536), (upd fy j (nI ((2 * gy j + cc) % 65536))), (upN gy j ((2 * gy j + cc) % 65536))) F_126 (⟨by omega, by omega, hF_131, hw4.up (Nat.mod_lt _ (by decide)), fun i h1 h2 => by rw [upN_ne (show i ≠ j by omega)]; exact hw5 i (by omega) h2, by rw [lvb_u1, lvb_s, Nat.pow_succ, hw5 j (Nat.le_refl _) hj33]; exact sl_st hw6 rfl⟩) (by show 33 - (j + 1) < 33 - j; omega) hO hR _ _ hP hD hS ls (lv_sub hl [0, 1, 3, 4, 5, 6, 7] rfl)
theorem lm_mul {a b : Nat} (ha : a < 65536) (hb : b < 65536) : a * b ≤ 4294836225 := Nat.mul_le_mul (show a ≤ 65535 by omega) (show b ≤ 65535 by omega)
theorem pr_top {a b : Nat} (ha : a < 65536 ^ 32) (hb : b < 65536 ^ 32) : a * b < 65536 ^ 64 := by
  rw [show (65536 : Nat) ^ 64 = 65536 ^ 32 * 65536 ^ 32 by decide +kernel]
  exact Nat.mul_lt_mul'' ha hb
theorem tm_st {s s0 g0 t0 c0 : Nat} (h : s = c0 + (s0 + t0 * g0)) : s % 65536 + s / 65536 * 65536 = s0 + g0 * t0 + c0 := by
  rw [Nat.mul_comm g0 t0, h]
  omega
theorem lvb_sc {g : Nat → Nat} {i j x : Nat} : lvb 65536 (fun k => upN g (i + j) x (i + k)) (j + 1) = lvb 65536 (fun k => g (i + k)) j + x * 65536 ^ j := by
  rw [lvb_s]
  show lvb 65536 (fun k => upN g (i + j) x (i + k)) j + upN g (i + j) x (i + j) * 65536 ^ j = _
  rw [upN_at, lvb_ext j (fun k hk => upN_ne (show i + k ≠ i + j by omega))]
set_option maxHeartbeats 4000000 in
set_option maxRecDepth 100000 in
theorem s_X15_times_x (l : Launch) (dC : Nat → ClassId) (dI : Nat → Nat → Nat) (cs : Nat → ClassId) (ty : TyM) (gm : Nat → Nat → Nat) (L : List Nat) (sz : Nat) (F : Nat → va_E) (h0 : Nat) (ρ : Nat) (ta : Nat) (ou : Nat) (so : Nat) (ad : Nat) (na : Nat) (va : Nat) (lc : Nat) (dm : Nat) (tg : Nat) (pe : Nat) (ml : Nat) (bg : Nat) (co : Nat) (sp : Nat) (nb0 : Nat) (nb1 : Nat) (nb2 : Nat) (pl : Nat) (se : Nat) (ke : Nat) (wi : Nat) (hs : Nat) (mo : Nat) (po : Nat) (nu : Nat) (pr : Nat) (sq : Nat) (xa : Nat) (sa : Nat) (n64 : Nat) (m64 : Nat) (ex : Nat) (wh : Nat) (sd : Nat) (tk : Nat) (hd : Nat) (ak : Nat) (ho : Nat) (ot : Nat) (sx : Nat) (s0 : Nat) (s1 : Nat) (s2 : Nat) (nf : Nat) (bd : Nat) (mm : Nat) (zo : Nat) (fm : Nat) (sn : Nat) (hg : Nat) (gc : Nat) (gv : Nat) (ze : Nat) (zt : Nat) (g1 : Nat) (σ : Nat) (ff1 : Nat → Int32) (ff2 : Nat → Int32) (ff3 : Nat → Int32) (gp : Nat → Nat) (gN : Nat → Nat) (ga : Nat → Nat) (hW : WTm ty gm L) (hL_h0 : h0 ∈ L) (hT_h0 : ty h0 = (15, ρ, [ta, ou, so, ad, na, va, lc, dm, tg, pe, ml, bg, co, sp, nb0, nb1, nb2, pl, se, ke, wi, hs, mo, po, nu, pr, sq, xa, sa, n64, m64, ex, wh, sd, tk, hd, ak, ho, ot, sx, s0, s1, s2, nf, bd, mm, zo, fm, sn, hg, gc, gv, ze, zt])) (hL_g1 : g1 ∈ L) (hT_g1 : ty g1 = (16, σ, [33])) (hFp : F po = .inl (cs 16, 33, .inl ff1)) (hLp : LMq 33 gp ff1) (hFm : F mo = .inl (cs 16, 33, .inl ff2)) (hLm : LMq 33 gN ff2) (hN0 : 0 < (lvb 65536 gN 33)) (hNt : (lvb 65536 gN 33) < 65536 ^ 32) (hFa : F g1 = .inl (cs 16, 33, .inl ff3)) (hLa : LMq 33 ga ff3) (hpt : lvb 65536 gp 33 < 65536 ^ 32) (hat : lvb 65536 ga 33 < 65536 ^ 32) (hsg : σ = ρ + 88 ∨ σ = ρ + 90) : Met l yX15_times (.code yX15_times cX15_times 6 none :: tb) ({ frames := 2, cells := 0, slots := 0, locals := 51 }) (va_Pc [.ref h0, .ref g1] (PTm (dC, dI) cs ty gm L F sz)) (va_Qv (fun _ : Unit => True) (fun _ T9 => ∃ F2 : Nat → va_E, ∃ f2 : Nat → Int32, ∃ g2 : Nat → Nat, QTm (dC, dI) cs ty gm L [ρ + 87, ρ + 89] F F2 (va_A (va_pl L F) sz) T9 ∧ F2 po = .inl (cs 16, 33, .inl f2) ∧ LMq 33 g2 f2 ∧ lvb 65536 g2 33 = lvb 65536 gp 33 * lvb 65536 ga 33 % (lvb 65536 gN 33)) (va_A (va_pl L F) sz)) 0 0 (va_A (va_pl L F) sz) := by
  refine Met.ofW (cc := cX15_times) (maxL := 6) (ret := none) (by decide) rfl ?_
  intro p e s m args below meth c s₁ B hml hv
  obtain ⟨rfl, hsz, hP, hK, hD0, hE, hO⟩ := hv
  have hx := B.exec
  have hb := B.bytes
  have hr := B.returns
  have hts : ∀ w ∈ tb, w.before _ s = true := fun w h => atoms_spec (ws := .code yX15_times cX15_times 6 none :: tb) B.pre w (List.mem_cons_of_mem _ h)
  have hown : s.vm.findClass RX15 = some m.cls := findClass_of_methodNamed B.named
  have hlocks := B.notSynchronized
  subst hsz
  have hD := hD0.self (sz := s.heap.size)
  generalize hAe : va_A (va_pl L F) s.heap.size = A at hD ⊢
  have hA : ∀ q : Nat, s.heap.size ≤ q → A q := fun q h => by rw [← hAe]; exact Or.inr h
  have hS : va_S A s.heap s.heap [] := va_S.rf
  have hR : FR ty [ρ + 87, ρ + 89] F F := FR.refl
  have hl := lv_entry ([.ref h0, .ref g1]) (n := 6) (Nat.le_of_ble_eq_true rfl)
  rw [lg_entry_eq]
  generalize (lg_sl ([.ref h0, .ref g1]) ++ List.replicate (6 - (lg_sl ([.ref h0, .ref g1])).length) Slot.unset).toArray = ls at hl ⊢
  have hl : lv_has ls 6 [(0, .ref h0), (1, .ref g1)] := hl
  obtain ⟨hq_23, hq_24, hq_25, hq_26, hq_27, hgO, hgA, hgB, hq_28⟩ := hW.sc hL_h0 hT_h0
  obtain ⟨v14_29, v15_30, v17_31, v18_32, v19_33, v20_34, v21_35, v22_36, v33_37, v52_38, v53_39, v54_40, hF_41, hq_42, hq_43, hq_44, hq_45, hq_46⟩ := hO.mod hL_h0 hT_h0
  obtain ⟨hi_47, ht_48⟩ := hW.f_mo hL_h0 hT_h0
  obtain ⟨hq_49, hq_50⟩ := hW.ints hi_47 ht_48
  obtain ⟨hi_51, ht_52⟩ := hW.f_po hL_h0 hT_h0
  obtain ⟨hq_53, hq_54⟩ := hW.ints hi_51 ht_52
  obtain ⟨hi_55, ht_56⟩ := hW.f_pr hL_h0 hT_h0
  obtain ⟨hq_57, hq_58⟩ := hW.ints hi_55 ht_56
  obtain ⟨f_59, hF_60⟩ := hO.ints hi_55 ht_56
  have hp32 : lvb 65536 gp 32 = lvb 65536 gp 33 := lvb_top (n := 32) (m := 1) (by decide) hpt
  refine lv_aload_n hx hb dX15_times_0 rfl (lv_at hl 0 rfl) ?_
  refine pg_get (ci := 15) (v := .ref pr) (C := RX15) (T := TX15) (N := 59) hx hb hts it_15 hown hK hP hL_h0 hF_41 rfl 42 (by decide) (hts _ kt_816) (fun _ h9 => h9) rfl dX15_times_1 ?_
  refine lv_iconst (v := 0) hx hb dX15_times_4 (by decide) ?_
  have hFc := pg_free hD hS hA
  refine va_callv (va_runS (As := [.ref pr, .int 0]) (rest := []) ⟨hx, hb, hml, hown, hts⟩ (m_J7_fill_53178_x l dC dI cs ty gm L s.heap.size F pr (ρ + 89) 66 0 hW hi_55 ht_56 (by first | omega | assumption | exact Or.inl rfl)) ⟨callB_of 2 hts (gi kt_807) rfl rfl rfl (hts _ kt_808) (hts _ kt_809) (by decide +kernel) ⟨Nat.le_of_ble_eq_true rfl, Nat.le_of_ble_eq_true rfl⟩, (hts _ kt_810)⟩ ⟨fun a U g mk q => ⟨q.1, PTm.calling q.2⟩, fun U hU hWm => ⟨rfl, PTm.mk hU hWm hP hK hD hE hO⟩⟩ rfl rfl hl.1 rfl (lv_room (Nat.le_of_ble_eq_true rfl)) dX15_times_5 ⟨by show _ + 0 ≤ 0; omega, by show _ + 0 ≤ 0; omega⟩) hS (fun q _ h => hFc q h) hFc (fun u t H1 locs ht hvm hw hB hz1 hk1 hS => ?_)
  obtain ⟨F_62, f2_63, hB1, hq_64, hq_65⟩ := hB
  obtain ⟨hP, hD, hO, hR⟩ := QTm.back hB1 ht hFc hR (fun q h => by simp only [List.mem_cons, List.not_mem_nil, or_false] at h ⊢; omega)
  have hF_66 : F_62 po = .inl (cs 16, 33, .inl ff1) := (hB1.2.2.2 po (by rw [ht_52]; simp)).trans hFp
  have hF_67 : F_62 mo = .inl (cs 16, 33, .inl ff2) := (hB1.2.2.2 mo (by rw [ht_48]; simp)).trans hFm
  have hF_68 : F_62 g1 = .inl (cs 16, 33, .inl ff3) := (hB1.2.2.2 g1 (by rw [hT_g1]; simp only [List.mem_cons, List.not_mem_nil, or_false]; omega)).trans hFa
  have hF_69 : F_62 h0 = .inr (15, (.ref ta) :: (.int (nI zt)) :: (.int (nI zo)) :: (.int (nI ze)) :: (.ref ou) :: (.ref so) :: (.ref ad) :: (.ref na) :: (.ref va) :: (.ref lc) :: (.ref dm) :: (.int (nI fm)) :: (.int (nI sn)) :: (.ref tg) :: (.int v14_29) :: (.int v15_30) :: (.ref pe) :: (.int v17_31) :: (.int v18_32) :: (.int v19_33) :: (.int v20_34) :: (.int v21_35) :: (.int v22_36) :: (.ref ml) :: (.ref bg) :: (.ref co) :: (.ref sp) :: (.ref nb0) :: (.ref nb1) :: (.ref nb2) :: (.int (nI nf)) :: (.int (nI bd)) :: (.int (nI mm)) :: (.int v33_37) :: (.ref pl) :: (.ref se) :: (.ref ke) :: (.ref wi) :: (.ref hs) :: (.ref mo) :: (.ref po) :: (.ref nu) :: (.ref pr) :: (.ref sq) :: (.ref xa) :: (.ref sa) :: (.ref n64) :: (.ref m64) :: (.ref ex) :: (.ref wh) :: (.ref sd) :: (.ref tk) :: (.int v52_38) :: (.int v53_39) :: (.int v54_40) :: (.ref hd) :: (.ref ak) :: (.ref ho) :: (.ref ot) :: []) := (hB1.2.2.2 h0 (by rw [hT_h0]; simp)).trans hF_41
  generalize H1 = H at hP hS ⊢
  have hz9 := hq_65
  refine lv_iconst (v := 0) hx hb dX15_times_8 (by decide) ?_
  refine lv_istore_n (lv' := [(2, .int 0), (0, .ref h0), (1, .ref g1)]) hx hb dX15_times_9 rfl hl (by decide) rfl (fun ls hl => ?_)
  refine W.widen (k := 0) (n := 0) (by omega) (by omega) ?_
  have hF_71 : F mo = .inl (cs 16, 33, .inl ff2) := (hR mo (by rw [ht_48]; simp)).symm.trans hF_67
  have hF_72 : F g1 = .inl (cs 16, 33, .inl ff3) := (hR g1 (by rw [hT_g1]; simp only [List.mem_cons, List.not_mem_nil, or_false]; omega)).symm.trans hF_68
  have hF_73 : F h0 = .inr (15, (.ref ta) :: (.int (nI zt)) :: (.int (nI zo)) :: (.int (nI ze)) :: (.ref ou) :: (.ref so) :: (.ref ad) :: (.ref na) :: (.ref va) :: (.ref lc) :: (.ref dm) :: (.int (nI fm)) :: (.int (nI sn)) :: (.ref tg) :: (.int v14_29) :: (.int v15_30) :: (.ref pe) :: (.int v17_31) :: (.int v18_32) :: (.int v19_33) :: (.int v20_34) :: (.int v21_35) :: (.int v22_36) :: (.ref ml) :: (.ref bg) :: (.ref co) :: (.ref sp) :: (.ref nb0) :: (.ref nb1) :: (.ref nb2) :: (.int (nI nf)) :: (.int (nI bd)) :: (.int (nI mm)) :: (.int v33_37) :: (.ref pl) :: (.ref se) :: (.ref ke) :: (.ref wi) :: (.ref hs) :: (.ref mo) :: (.ref po) :: (.ref nu) :: (.ref pr) :: (.ref sq) :: (.ref xa) :: (.ref sa) :: (.ref n64) :: (.ref m64) :: (.ref ex) :: (.ref wh) :: (.ref sd) :: (.ref tk) :: (.int v52_38) :: (.int v53_39) :: (.int v54_40) :: (.ref hd) :: (.ref ak) :: (.ref ho) :: (.ref ot) :: []) := (hR h0 (by rw [hT_h0]; simp)).symm.trans hF_69
  refine pl_loopm (σ := Nat × (Nat → Int32) × (Nat → Nat)) A (dC, dI) cs ty gm L [ρ + 87, ρ + 89] F 10 6 (fun (i, fq, gz) => [(2, .int (nI i)), (0, .ref h0), (1, .ref g1)]) (fun (i, fq, gz) => []) (fun (i, fq, gz) FF => i ≤ 32 ∧ FF pr = .inl (cs 16, 66, .inl fq) ∧ FF po = .inl (cs 16, 33, .inl ff1) ∧ LMq 66 gz fq ∧ (∀ k, i + 33 ≤ k → k < 66 → gz k = 0) ∧ lvb 65536 gz 66 = lvb 65536 gp i * lvb 65536 ga 33) (fun (i, fq, gz) => 32 - i) ?_ (0, f2_63, (fun _ => 0)) F_62 (⟨by omega, hq_64, hF_66, (lm_0 hz9), fun k h1 h2 => rfl, by rw [lvb_z, lvb_0, Nat.zero_mul]⟩) hO hR _ _ hP hD hS ls (lv_sub hl [0, 1, 2] rfl)
  rintro ⟨i, fq, gz⟩ F_70 hv_74 hO hR ih_75 H locs hP hD hS ls hl
  have hl : lv_has ls 6 [(2, .int (nI i)), (0, .ref h0), (1, .ref g1)] := hl
  have hv_74 : i ≤ 32 ∧ F_70 pr = .inl (cs 16, 66, .inl fq) ∧ F_70 po = .inl (cs 16, 33, .inl ff1) ∧ LMq 66 gz fq ∧ (∀ k, i + 33 ≤ k → k < 66 → gz k = 0) ∧ lvb 65536 gz 66 = lvb 65536 gp i * lvb 65536 ga 33 := hv_74
  refine W.eq (g2 := F0 m 10 ls []) rfl ?_
  have hF_76 : F_70 mo = .inl (cs 16, 33, .inl ff2) := (hR mo (by rw [ht_48]; simp)).trans hF_71
  have hF_77 : F_70 g1 = .inl (cs 16, 33, .inl ff3) := (hR g1 (by rw [hT_g1]; simp only [List.mem_cons, List.not_mem_nil, or_false]; omega)).trans hF_72
  have hF_78 : F_70 h0 = .inr (15, (.ref ta) :: (.int (nI zt)) :: (.int (nI zo)) :: (.int (nI ze)) :: (.ref ou) :: (.ref so) :: (.ref ad) :: (.ref na) :: (.ref va) :: (.ref lc) :: (.ref dm) :: (.int (nI fm)) :: (.int (nI sn)) :: (.ref tg) :: (.int v14_29) :: (.int v15_30) :: (.ref pe) :: (.int v17_31) :: (.int v18_32) :: (.int v19_33) :: (.int v20_34) :: (.int v21_35) :: (.int v22_36) :: (.ref ml) :: (.ref bg) :: (.ref co) :: (.ref sp) :: (.ref nb0) :: (.ref nb1) :: (.ref nb2) :: (.int (nI nf)) :: (.int (nI bd)) :: (.int (nI mm)) :: (.int v33_37) :: (.ref pl) :: (.ref se) :: (.ref ke) :: (.ref wi) :: (.ref hs) :: (.ref mo) :: (.ref po) :: (.ref nu) :: (.ref pr) :: (.ref sq) :: (.ref xa) :: (.ref sa) :: (.ref n64) :: (.ref m64) :: (.ref ex) :: (.ref wh) :: (.ref sd) :: (.ref tk) :: (.int v52_38) :: (.int v53_39) :: (.int v54_40) :: (.ref hd) :: (.ref ak) :: (.ref ho) :: (.ref ot) :: []) := (hR h0 (by rw [hT_h0]; simp)).trans hF_73
  obtain ⟨hv1, hv2, hv3, hv4, hv5, hv6⟩ := id hv_74
  refine lv_iload_n hx hb dX15_times_10 rfl (lv_at hl 0 rfl) ?_
  refine lv_bipush (v := 32) hx hb dX15_times_11 (by decide) ?_
  refine lv_icmp_ge (tgt := 101) hx hb dX15_times_13 (by decide) (fun c_79 => ?_) (fun c_79 => ?_)
  ·
    have hi_80 : 32 ≤ i := leN (N := 32) c_79
    have hi32 : 32 ≤ i := (nI_leI (by omega) (by omega)).mp c_79
    have hi32e : i = 32 := by omega
    have hX : lvb 65536 gz 64 = lvb 65536 gp 33 * lvb 65536 ga 33 := by rw [lvb_top (n := 64) (m := 2) (by decide) (by rw [hv6, hi32e, hp32]; exact pr_top hpt hat), hv6, hi32e, hp32]
    refine lv_aload_n hx hb dX15_times_101 rfl (lv_at hl 1 rfl) ?_
    refine lv_aload_n hx hb dX15_times_102 rfl (lv_at hl 1 rfl) ?_
    refine pg_get (ci := 15) (v := .ref pr) (C := RX15) (T := TX15) (N := 59) hx hb hts it_15 hown hK hP hL_h0 hF_78 rfl 42 (by decide) (hts _ kt_816) (fun _ h9 => h9) rfl dX15_times_103 ?_
    refine lv_bipush (v := 64) hx hb dX15_times_106 (by decide) ?_
    refine lv_aload_n hx hb dX15_times_108 rfl (lv_at hl 1 rfl) ?_
    refine pg_get (ci := 15) (v := .ref po) (C := RX15) (T := TX15) (N := 59) hx hb hts it_15 hown hK hP hL_h0 hF_78 rfl 40 (by decide) (hts _ kt_817) (fun _ h9 => h9) rfl dX15_times_109 ?_
    have hFc := pg_free hD hS hA
    refine va_callv (va_runV (As := [.ref pr, .int 64, .ref po]) (rest := []) ⟨hx, hb, hml, hown, hts⟩ (s_X15_remainder_64x l dC dI cs ty gm L H.size F_70 h0 ρ ta ou so ad na va lc dm tg pe ml bg co sp nb0 nb1 nb2 pl se ke wi hs mo po nu pr sq xa sa n64 m64 ex wh sd tk hd ak ho ot sx s0 s1 s2 nf bd mm zo fm sn hg gc gv ze zt pr (ρ + 89) po (ρ + 87) fq ff2 gz gN hW hL_h0 hT_h0 hi_55 ht_56 hi_51 ht_52 hv2 (hv4.lo (by decide)) hF_76 (hLm) (hN0) (hNt) (by omega) (by omega)) ⟨callB_of 3 hts (gi kt_818) rfl rfl rfl (hts _ kt_669) (hts _ kt_819) (by decide +kernel) ⟨Nat.le_of_ble_eq_true rfl, Nat.le_of_ble_eq_true rfl⟩, (hts _ kt_820), (hts _ kt_821)⟩ ⟨fun a U g mk q => ⟨q.1, PTm.calling q.2⟩, pg_recv hK hP hL_h0 hF_78 (q := (RX15, TX15, 59)) rfl, fun U hU hWm => ⟨rfl, PTm.mk hU hWm hP hK hD hE hO⟩⟩ rfl rfl hl.1 rfl (lv_room (Nat.le_of_ble_eq_true rfl)) dX15_times_112 ⟨by show _ + 0 ≤ 0; omega, by show _ + 0 ≤ 0; omega⟩) hS (fun q _ h => hFc q h) hFc (fun u t H1 locs ht hvm hw hB hz1 hk1 hS => ?_)
    obtain ⟨F_82, f2_83, g2_84, hB1, hq_85, hq_86, hq_87⟩ := hB
    obtain ⟨hP, hD, hO, hR⟩ := QTm.back hB1 ht hFc hR (fun q h => by simp only [List.mem_cons, List.not_mem_nil, or_false] at h ⊢; omega)
    have hF_88 : F_82 mo = .inl (cs 16, 33, .inl ff2) := (hB1.2.2.2 mo (by rw [ht_48]; simp)).trans hF_76
    have hF_89 : F_82 g1 = .inl (cs 16, 33, .inl ff3) := (hB1.2.2.2 g1 (by rw [hT_g1]; simp only [List.mem_cons, List.not_mem_nil, or_false]; omega)).trans hF_77
    have hF_90 : F_82 h0 = .inr (15, (.ref ta) :: (.int (nI zt)) :: (.int (nI zo)) :: (.int (nI ze)) :: (.ref ou) :: (.ref so) :: (.ref ad) :: (.ref na) :: (.ref va) :: (.ref lc) :: (.ref dm) :: (.int (nI fm)) :: (.int (nI sn)) :: (.ref tg) :: (.int v14_29) :: (.int v15_30) :: (.ref pe) :: (.int v17_31) :: (.int v18_32) :: (.int v19_33) :: (.int v20_34) :: (.int v21_35) :: (.int v22_36) :: (.ref ml) :: (.ref bg) :: (.ref co) :: (.ref sp) :: (.ref nb0) :: (.ref nb1) :: (.ref nb2) :: (.int (nI nf)) :: (.int (nI bd)) :: (.int (nI mm)) :: (.int v33_37) :: (.ref pl) :: (.ref se) :: (.ref ke) :: (.ref wi) :: (.ref hs) :: (.ref mo) :: (.ref po) :: (.ref nu) :: (.ref pr) :: (.ref sq) :: (.ref xa) :: (.ref sa) :: (.ref n64) :: (.ref m64) :: (.ref ex) :: (.ref wh) :: (.ref sd) :: (.ref tk) :: (.int v52_38) :: (.int v53_39) :: (.int v54_40) :: (.ref hd) :: (.ref ak) :: (.ref ho) :: (.ref ot) :: []) := (hB1.2.2.2 h0 (by rw [hT_h0]; simp)).trans hF_78
    have hF_91 : F_82 pr = .inl (cs 16, 66, .inl fq) := (hB1.2.2.2 pr (by rw [ht_56]; simp)).trans hv2
    generalize H1 = H at hP hS ⊢
    refine W.widen (k := 0) (n := 0) (by omega) (by omega) ?_
    exact W.vret hx hb hr (fun t ht hWm => ⟨⟨(), rfl, trivial, ⟨F_82, f2_83, g2_84, QTm.mk ht hP hD hO hR, hq_85, hq_86, (by rw [hq_87, hX])⟩⟩, hS.F ht⟩) hS.2.2 dX15_times_115
  ·
    have hi_92 : i < 32 := ltN (N := 32) c_79
    have hi32 : i < 32 := Nat.not_le.mp (fun q => c_79 ((nI_leI (by omega) (by omega)).mpr q))
    refine lv_lconst (v := 0) hx hb dX15_times_16 (by decide) ?_
    refine lv_lstore_n (lv' := [(3, .long 0), (2, .int (nI i)), (0, .ref h0), (1, .ref g1)]) hx hb dX15_times_17 rfl hl (by decide) rfl (fun ls hl => ?_)
    refine lv_iconst (v := 0) hx hb dX15_times_18 (by decide) ?_
    refine lv_istore (lv' := [(5, .int 0), (3, .long 0), (2, .int (nI i)), (0, .ref h0), (1, .ref g1)]) hx hb dX15_times_19 hl (by decide) rfl (fun ls hl => ?_)
    have hl0 : (0 : Int64) = lI 0 := by decide
    refine W.widen (k := 0) (n := 0) (by omega) (by omega) ?_
    have hF_94 : F mo = .inl (cs 16, 33, .inl ff2) := (hR mo (by rw [ht_48]; simp)).symm.trans hF_76
    have hF_95 : F g1 = .inl (cs 16, 33, .inl ff3) := (hR g1 (by rw [hT_g1]; simp only [List.mem_cons, List.not_mem_nil, or_false]; omega)).symm.trans hF_77
    have hF_96 : F h0 = .inr (15, (.ref ta) :: (.int (nI zt)) :: (.int (nI zo)) :: (.int (nI ze)) :: (.ref ou) :: (.ref so) :: (.ref ad) :: (.ref na) :: (.ref va) :: (.ref lc) :: (.ref dm) :: (.int (nI fm)) :: (.int (nI sn)) :: (.ref tg) :: (.int v14_29) :: (.int v15_30) :: (.ref pe) :: (.int v17_31) :: (.int v18_32) :: (.int v19_33) :: (.int v20_34) :: (.int v21_35) :: (.int v22_36) :: (.ref ml) :: (.ref bg) :: (.ref co) :: (.ref sp) :: (.ref nb0) :: (.ref nb1) :: (.ref nb2) :: (.int (nI nf)) :: (.int (nI bd)) :: (.int (nI mm)) :: (.int v33_37) :: (.ref pl) :: (.ref se) :: (.ref ke) :: (.ref wi) :: (.ref hs) :: (.ref mo) :: (.ref po) :: (.ref nu) :: (.ref pr) :: (.ref sq) :: (.ref xa) :: (.ref sa) :: (.ref n64) :: (.ref m64) :: (.ref ex) :: (.ref wh) :: (.ref sd) :: (.ref tk) :: (.int v52_38) :: (.int v53_39) :: (.int v54_40) :: (.ref hd) :: (.ref ak) :: (.ref ho) :: (.ref ot) :: []) := (hR h0 (by rw [hT_h0]; simp)).symm.trans hF_78
    refine pl_loopm (σ := Nat × Int64 × Nat × (Nat → Int32) × (Nat → Nat)) A (dC, dI) cs ty gm L [ρ + 87, ρ + 89] F 21 6 (fun (j, wl, cc, fy, gy) => [(5, .int (nI j)), (3, .long wl), (2, .int (nI i)), (0, .ref h0), (1, .ref g1)]) (fun (j, wl, cc, fy, gy) => []) (fun (j, wl, cc, fy, gy) FF => j ≤ 33 ∧ wl = lI cc ∧ cc < 65536 ∧ FF pr = .inl (cs 16, 66, .inl fy) ∧ FF po = .inl (cs 16, 33, .inl ff1) ∧ LMq 66 gy fy ∧ (∀ k, k < 66 → (k < i ∨ i + j ≤ k) → gy k = gz k) ∧ lvb 65536 (fun k => gy (i + k)) j + cc * 65536 ^ j = lvb 65536 (fun k => gz (i + k)) j + lvb 65536 ga j * gp i) (fun (j, wl, cc, fy, gy) => 33 - j) ?_ (0, 0, 0, fq, gz) F_70 (⟨by omega, hl0, by decide, hv2, hv3, hv4, fun k h1 h2 => rfl, by rw [lvb_0, lvb_0, Nat.zero_mul, Nat.zero_mul]⟩) hO hR _ _ hP hD hS ls (lv_sub hl [0, 1, 2, 3, 4] rfl)
    rintro ⟨j, wl, cc, fy, gy⟩ F_93 hv_97 hO hR ih_98 H locs hP hD hS ls hl
    have hl : lv_has ls 6 [(5, .int (nI j)), (3, .long wl), (2, .int (nI i)), (0, .ref h0), (1, .ref g1)] := hl
    have hv_97 : j ≤ 33 ∧ wl = lI cc ∧ cc < 65536 ∧ F_93 pr = .inl (cs 16, 66, .inl fy) ∧ F_93 po = .inl (cs 16, 33, .inl ff1) ∧ LMq 66 gy fy ∧ (∀ k, k < 66 → (k < i ∨ i + j ≤ k) → gy k = gz k) ∧ lvb 65536 (fun k => gy (i + k)) j + cc * 65536 ^ j = lvb 65536 (fun k => gz (i + k)) j + lvb 65536 ga j * gp i := hv_97
    refine W.eq (g2 := F0 m 21 ls []) rfl ?_
    have hF_99 : F_93 mo = .inl (cs 16, 33, .inl ff2) := (hR mo (by rw [ht_48]; simp)).trans hF_94
    have hF_100 : F_93 g1 = .inl (cs 16, 33, .inl ff3) := (hR g1 (by rw [hT_g1]; simp only [List.mem_cons, List.not_mem_nil, or_false]; omega)).trans hF_95
    have hF_101 : F_93 h0 = .inr (15, (.ref ta) :: (.int (nI zt)) :: (.int (nI zo)) :: (.int (nI ze)) :: (.ref ou) :: (.ref so) :: (.ref ad) :: (.ref na) :: (.ref va) :: (.ref lc) :: (.ref dm) :: (.int (nI fm)) :: (.int (nI sn)) :: (.ref tg) :: (.int v14_29) :: (.int v15_30) :: (.ref pe) :: (.int v17_31) :: (.int v18_32) :: (.int v19_33) :: (.int v20_34) :: (.int v21_35) :: (.int v22_36) :: (.ref ml) :: (.ref bg) :: (.ref co) :: (.ref sp) :: (.ref nb0) :: (.ref nb1) :: (.ref nb2) :: (.int (nI nf)) :: (.int (nI bd)) :: (.int (nI mm)) :: (.int v33_37) :: (.ref pl) :: (.ref se) :: (.ref ke) :: (.ref wi) :: (.ref hs) :: (.ref mo) :: (.ref po) :: (.ref nu) :: (.ref pr) :: (.ref sq) :: (.ref xa) :: (.ref sa) :: (.ref n64) :: (.ref m64) :: (.ref ex) :: (.ref wh) :: (.ref sd) :: (.ref tk) :: (.int v52_38) :: (.int v53_39) :: (.int v54_40) :: (.ref hd) :: (.ref ak) :: (.ref ho) :: (.ref ot) :: []) := (hR h0 (by rw [hT_h0]; simp)).trans hF_96
    obtain ⟨hy1, hy2, hy3, hy4, hy5, hy6, hy7, hy8⟩ := id hv_97
    subst hy2
    refine lv_iload hx hb dX15_times_21 (lv_at hl 0 rfl) ?_
    refine lv_bipush (v := 33) hx hb dX15_times_23 (by decide) ?_
    refine lv_icmp_ge (tgt := 81) hx hb dX15_times_25 (by decide) (fun c_102 => ?_) (fun c_102 => ?_)
    ·
      have hi_103 : 33 ≤ j := leN (N := 33) c_102
      have hj33 : j = 33 := by have h9 : 33 ≤ j := (nI_leI (a := 33) (by omega) (by omega)).mp c_102; omega
      subst hj33
      refine lv_aload_n hx hb dX15_times_81 rfl (lv_at hl 3 rfl) ?_
      refine pg_get (ci := 15) (v := .ref pr) (C := RX15) (T := TX15) (N := 59) hx hb hts it_15 hown hK hP hL_h0 hF_101 rfl 42 (by decide) (hts _ kt_816) (fun _ h9 => h9) rfl dX15_times_82 ?_
      refine lv_iload_n hx hb dX15_times_85 rfl (lv_at hl 2 rfl) ?_
      refine lv_bipush (v := 33) hx hb dX15_times_86 (by decide) ?_
      refine lv_iadd hx hb dX15_times_88 ?_
      refine lv_topi (fun x_104 ex_104 => ?_)
      obtain rfl : x_104 = (nI (i + 33)) := ex_104.trans (nI_add i 33)
      refine lv_dup2_11 hx hb dX15_times_89 rfl rfl ?_
      refine pg_iald hx hb hK hP hi_55 0 hy4 rfl (vp_in_nI (by omega) (by omega)) dX15_times_90 ?_
      refine lv_topi (fun x_105 ex_105 => ?_)
      obtain rfl : x_105 = (nI 0) := ex_105.trans ((congrArg fy (nI_clamp (by omega))).trans ((hy6 (i + 33) (by omega)).2.trans (by rw [hy7 (i + 33) (by omega) (Or.inr (Nat.le_refl _)), hv5 (i + 33) (by omega) (by omega)])))
      refine lv_lload_n hx hb dX15_times_91 rfl (lv_at hl 1 rfl) ?_
      refine lv_l2i hx hb dX15_times_92 rfl ?_
      refine lv_topi (fun x_106 ex_106 => ?_)
      obtain rfl : x_106 = (nI cc) := ex_106.trans (tm_l2i (by omega))
      refine lv_iadd hx hb dX15_times_93 ?_
      refine lv_topi (fun x_107 ex_107 => ?_)
      obtain rfl : x_107 = (nI cc) := ex_107.trans ((nI_add 0 cc).trans (by rw [Nat.zero_add]))
      refine pg_iast hx hb hK hP hD hS hi_55 0 hy4 rfl (vp_in_nI (by omega) (by omega)) dX15_times_94 (fun H locs hP hD hS => ?_)
      obtain ⟨F_108, he_109, hP, hD, hO, hR⟩ : ∃ G, G = va_up F_93 pr (.inl (cs 16, 66, .inl (upd fy ((nI (i + 33))).toNatClampNeg ((nI cc))))) ∧ va_P (dC, dI) vwCl (va_pl L G) H ∧ va_D A (va_pl L G) ∧ OKm cs ty gm L G ∧ FR ty [ρ + 87, ρ + 89] F G := ⟨_, rfl, hP, hD, hO.up (shm.ints ht_56 ⟨_, rfl⟩), hR.up ht_56 (by simp)⟩
      have hF_110 : F_108 pr = .inl (cs 16, 66, .inl (upd fy ((nI (i + 33))).toNatClampNeg ((nI cc)))) := by rw [he_109]; exact up_self
      have hF_111 : F_108 mo = .inl (cs 16, 33, .inl ff2) := by rw [he_109, up_ne (ne_ty2 ht_48 ht_56 (by simp))]; exact hF_99
      have hF_112 : F_108 g1 = .inl (cs 16, 33, .inl ff3) := by rw [he_109, up_ne (ne_ty2 hT_g1 ht_56 (by simp))]; exact hF_100
      have hF_113 : F_108 h0 = .inr (15, (.ref ta) :: (.int (nI zt)) :: (.int (nI zo)) :: (.int (nI ze)) :: (.ref ou) :: (.ref so) :: (.ref ad) :: (.ref na) :: (.ref va) :: (.ref lc) :: (.ref dm) :: (.int (nI fm)) :: (.int (nI sn)) :: (.ref tg) :: (.int v14_29) :: (.int v15_30) :: (.ref pe) :: (.int v17_31) :: (.int v18_32) :: (.int v19_33) :: (.int v20_34) :: (.int v21_35) :: (.int v22_36) :: (.ref ml) :: (.ref bg) :: (.ref co) :: (.ref sp) :: (.ref nb0) :: (.ref nb1) :: (.ref nb2) :: (.int (nI nf)) :: (.int (nI bd)) :: (.int (nI mm)) :: (.int v33_37) :: (.ref pl) :: (.ref se) :: (.ref ke) :: (.ref wi) :: (.ref hs) :: (.ref mo) :: (.ref po) :: (.ref nu) :: (.ref pr) :: (.ref sq) :: (.ref xa) :: (.ref sa) :: (.ref n64) :: (.ref m64) :: (.ref ex) :: (.ref wh) :: (.ref sd) :: (.ref tk) :: (.int v52_38) :: (.int v53_39) :: (.int v54_40) :: (.ref hd) :: (.ref ak) :: (.ref ho) :: (.ref ot) :: []) := by rw [he_109, up_ne (ne_ty hT_h0 ht_56 (by simp))]; exact hF_101
      have hF_114 : F_108 po = .inl (cs 16, 33, .inl ff1) := by rw [he_109, up_ne (ne_ty2 ht_52 ht_56 (by simp))]; exact hy5
      have hF_115 : F_108 pr = .inl (cs 16, 66, .inl (upd fy (i + 33) (nI cc))) := by have h9 := hF_110; rwa [nI_clamp (by omega)] at h9
      refine lv_iinc (v := (nI (i + 1))) (lv' := [(2, .int (nI (i + 1))), (5, .int (nI 33)), (3, .long (lI cc)), (0, .ref h0), (1, .ref g1)]) hx hb dX15_times_95 hl (k := 2) rfl (nI_1 _) (by decide) rfl (fun ls hl => ?_)
      refine lv_goto (tgt := 10) hx hb dX15_times_98 (by decide) ?_
      refine W.widen (k := 0) (n := 0) (by omega) (by omega) ?_
      exact ih_75 ((i + 1), (upd fy (i + 33) (nI cc)), (upN gy (i + 33) cc)) F_108 (⟨by omega, hF_115, hF_114, hy6.up hy3, fun k h1 h2 => by rw [upN_ne (show k ≠ i + 33 by omega), hy7 k h2 (Or.inr (by omega))]; exact hv5 k (by omega) h2, by rw [tm_row (A := lvb 65536 ga 33) (t := gp i) hi32 (fun k h1 h2 => by rw [upN_ne (show k ≠ i + 33 by omega)]; exact hy7 k h1 (by omega)) (hv5 (i + 33) (by omega) (by omega)) upN_at (by rw [lvb_ext 33 (fun k hk => upN_ne (show i + k ≠ i + 33 by omega))]; exact hy8), hv6, lvb_s 65536 gp i, Nat.add_mul]; congr 1; ac_rfl⟩) (by show 32 - (i + 1) < 32 - i; omega) hO hR _ _ hP hD hS ls (lv_sub hl [0, 3, 4] rfl)
    ·
      have hi_116 : j < 33 := ltN (N := 33) c_102
      have hj33 : j < 33 := by have h9 : ¬ 33 ≤ j := fun q => c_102 ((nI_leI (a := 33) (by omega) (by omega)).mpr q); omega
      have hb1 := (hy6 (i + j) (by omega)).1
      have hb2 := (hLp i (by omega)).1
      have hb3 := (hLa j hj33).1
      have hb4 := lm_mul hb2 hb3
      refine lv_lload_n hx hb dX15_times_28 rfl (lv_at hl 1 rfl) ?_
      refine lv_aload_n hx hb dX15_times_29 rfl (lv_at hl 3 rfl) ?_
      refine pg_get (ci := 15) (v := .ref pr) (C := RX15) (T := TX15) (N := 59) hx hb hts it_15 hown hK hP hL_h0 hF_101 rfl 42 (by decide) (hts _ kt_816) (fun _ h9 => h9) rfl dX15_times_30 ?_
      refine lv_iload_n hx hb dX15_times_33 rfl (lv_at hl 2 rfl) ?_
      refine lv_iload hx hb dX15_times_34 (lv_at hl 0 rfl) ?_
      refine lv_iadd hx hb dX15_times_36 ?_
      refine lv_topi (fun x_117 ex_117 => ?_)
      obtain rfl : x_117 = (nI (i + j)) := ex_117.trans (nI_add i j)
      refine pg_iald hx hb hK hP hi_55 0 hy4 rfl (vp_in_nI (by omega) (by omega)) dX15_times_37 ?_
      refine lv_topi (fun x_118 ex_118 => ?_)
      obtain rfl : x_118 = (nI (gy (i + j))) := ex_118.trans ((congrArg fy (nI_clamp (by omega))).trans (hy6 (i + j) (by omega)).2)
      refine lv_i2l hx hb dX15_times_38 rfl ?_
      refine lv_topl (fun x_119 ex_119 => ?_)
      obtain rfl : x_119 = (lI (gy (i + j))) := ex_119.trans (tm_i2l (by omega))
      refine lv_aload_n hx hb dX15_times_39 rfl (lv_at hl 3 rfl) ?_
      refine pg_get (ci := 15) (v := .ref po) (C := RX15) (T := TX15) (N := 59) hx hb hts it_15 hown hK hP hL_h0 hF_101 rfl 40 (by decide) (hts _ kt_817) (fun _ h9 => h9) rfl dX15_times_40 ?_
      refine lv_iload_n hx hb dX15_times_43 rfl (lv_at hl 2 rfl) ?_
      refine pg_iald hx hb hK hP hi_51 0 hy5 rfl (vp_in_nI (by omega) (by omega)) dX15_times_44 ?_
      refine lv_topi (fun x_120 ex_120 => ?_)
      obtain rfl : x_120 = (nI (gp i)) := ex_120.trans ((congrArg ff1 (nI_clamp (by omega))).trans (hLp i (by omega)).2)
      refine lv_i2l hx hb dX15_times_45 rfl ?_
      refine lv_topl (fun x_121 ex_121 => ?_)
      obtain rfl : x_121 = (lI (gp i)) := ex_121.trans (tm_i2l (by omega))
      refine lv_aload_n hx hb dX15_times_46 rfl (lv_at hl 4 rfl) ?_
      refine lv_iload hx hb dX15_times_47 (lv_at hl 0 rfl) ?_
      obtain ⟨hq_122, hq_123⟩ := hW.ints hL_g1 hT_g1
      refine pg_iald hx hb hK hP hL_g1 0 hF_100 rfl (vp_in_nI (by omega) (by omega)) dX15_times_49 ?_
      refine lv_topi (fun x_124 ex_124 => ?_)
      obtain rfl : x_124 = (nI (ga j)) := ex_124.trans ((congrArg ff3 (nI_clamp (by omega))).trans (hLa j hj33).2)
      refine lv_i2l hx hb dX15_times_50 rfl ?_
      refine lv_topl (fun x_125 ex_125 => ?_)
      obtain rfl : x_125 = (lI (ga j)) := ex_125.trans (tm_i2l (by omega))
      refine lv_lmul hx hb dX15_times_51 ?_
      refine lv_topl (fun x_126 ex_126 => ?_)
      obtain rfl : x_126 = (lI (gp i * ga j)) := ex_126.trans (tm_mul (by omega) (by omega) (by omega))
      refine lv_ladd hx hb dX15_times_52 ?_
      refine lv_topl (fun x_127 ex_127 => ?_)
      obtain rfl : x_127 = (lI (gy (i + j) + gp i * ga j)) := ex_127.trans (tm_add (by omega))
      refine lv_ladd hx hb dX15_times_53 ?_
      refine lv_topl (fun x_128 ex_128 => ?_)
      obtain rfl : x_128 = (lI (cc + (gy (i + j) + gp i * ga j))) := ex_128.trans (tm_add (by omega))
      refine lv_lstore_n (lv' := [(3, .long (lI (cc + (gy (i + j) + gp i * ga j)))), (5, .int (nI j)), (2, .int (nI i)), (0, .ref h0), (1, .ref g1)]) hx hb dX15_times_54 rfl hl (by decide) rfl (fun ls hl => ?_)
      refine lv_aload_n hx hb dX15_times_55 rfl (lv_at hl 3 rfl) ?_
      refine pg_get (ci := 15) (v := .ref pr) (C := RX15) (T := TX15) (N := 59) hx hb hts it_15 hown hK hP hL_h0 hF_101 rfl 42 (by decide) (hts _ kt_816) (fun _ h9 => h9) rfl dX15_times_56 ?_
      refine lv_iload_n hx hb dX15_times_59 rfl (lv_at hl 2 rfl) ?_
      refine lv_iload hx hb dX15_times_60 (lv_at hl 1 rfl) ?_
      refine lv_iadd hx hb dX15_times_62 ?_
      refine lv_topi (fun x_129 ex_129 => ?_)
      obtain rfl : x_129 = (nI (i + j)) := ex_129.trans (nI_add i j)
      refine lv_lload_n hx hb dX15_times_63 rfl (lv_at hl 0 rfl) ?_
      refine lv_ldc2 (v := 65535) hx hb hown (hts _ kt_822) dX15_times_64 ?_
      refine lv_land hx hb dX15_times_67 ?_
      refine lv_topl (fun x_130 ex_130 => ?_)
      obtain rfl : x_130 = (lI ((cc + (gy (i + j) + gp i * ga j)) % 65536)) := ex_130.trans (tm_lo (by omega))
      refine lv_l2i hx hb dX15_times_68 rfl ?_
      refine lv_topi (fun x_131 ex_131 => ?_)
      obtain rfl : x_131 = (nI ((cc + (gy (i + j) + gp i * ga j)) % 65536)) := ex_131.trans (tm_l2i (by omega))
      refine pg_iast hx hb hK hP hD hS hi_55 0 hy4 rfl (vp_in_nI (by omega) (by omega)) dX15_times_69 (fun H locs hP hD hS => ?_)
      obtain ⟨F_132, he_133, hP, hD, hO, hR⟩ : ∃ G, G = va_up F_93 pr (.inl (cs 16, 66, .inl (upd fy ((nI (i + j))).toNatClampNeg ((nI ((cc + (gy (i + j) + gp i * ga j)) % 65536)))))) ∧ va_P (dC, dI) vwCl (va_pl L G) H ∧ va_D A (va_pl L G) ∧ OKm cs ty gm L G ∧ FR ty [ρ + 87, ρ + 89] F G := ⟨_, rfl, hP, hD, hO.up (shm.ints ht_56 ⟨_, rfl⟩), hR.up ht_56 (by simp)⟩
      have hF_134 : F_132 pr = .inl (cs 16, 66, .inl (upd fy ((nI (i + j))).toNatClampNeg ((nI ((cc + (gy (i + j) + gp i * ga j)) % 65536))))) := by rw [he_133]; exact up_self
      have hF_135 : F_132 mo = .inl (cs 16, 33, .inl ff2) := by rw [he_133, up_ne (ne_ty2 ht_48 ht_56 (by simp))]; exact hF_99
      have hF_136 : F_132 g1 = .inl (cs 16, 33, .inl ff3) := by rw [he_133, up_ne (ne_ty2 hT_g1 ht_56 (by simp))]; exact hF_100
      have hF_137 : F_132 h0 = .inr (15, (.ref ta) :: (.int (nI zt)) :: (.int (nI zo)) :: (.int (nI ze)) :: (.ref ou) :: (.ref so) :: (.ref ad) :: (.ref na) :: (.ref va) :: (.ref lc) :: (.ref dm) :: (.int (nI fm)) :: (.int (nI sn)) :: (.ref tg) :: (.int v14_29) :: (.int v15_30) :: (.ref pe) :: (.int v17_31) :: (.int v18_32) :: (.int v19_33) :: (.int v20_34) :: (.int v21_35) :: (.int v22_36) :: (.ref ml) :: (.ref bg) :: (.ref co) :: (.ref sp) :: (.ref nb0) :: (.ref nb1) :: (.ref nb2) :: (.int (nI nf)) :: (.int (nI bd)) :: (.int (nI mm)) :: (.int v33_37) :: (.ref pl) :: (.ref se) :: (.ref ke) :: (.ref wi) :: (.ref hs) :: (.ref mo) :: (.ref po) :: (.ref nu) :: (.ref pr) :: (.ref sq) :: (.ref xa) :: (.ref sa) :: (.ref n64) :: (.ref m64) :: (.ref ex) :: (.ref wh) :: (.ref sd) :: (.ref tk) :: (.int v52_38) :: (.int v53_39) :: (.int v54_40) :: (.ref hd) :: (.ref ak) :: (.ref ho) :: (.ref ot) :: []) := by rw [he_133, up_ne (ne_ty hT_h0 ht_56 (by simp))]; exact hF_101
      have hF_138 : F_132 po = .inl (cs 16, 33, .inl ff1) := by rw [he_133, up_ne (ne_ty2 ht_52 ht_56 (by simp))]; exact hy5
      have hF_139 : F_132 pr = .inl (cs 16, 66, .inl (upd fy (i + j) (nI ((cc + (gy (i + j) + gp i * ga j)) % 65536)))) := by have h9 := hF_134; rwa [nI_clamp (by omega)] at h9
      refine lv_lload_n hx hb dX15_times_70 rfl (lv_at hl 0 rfl) ?_
      refine lv_bipush (v := 16) hx hb dX15_times_71 (by decide) ?_
      refine lv_lshr hx hb dX15_times_73 rfl ?_
      refine lv_topl (fun x_141 ex_141 => ?_)
      obtain rfl : x_141 = (lI ((cc + (gy (i + j) + gp i * ga j)) / 65536)) := ex_141.trans (tm_hi (by omega))
      refine lv_lstore_n (lv' := [(3, .long (lI ((cc + (gy (i + j) + gp i * ga j)) / 65536))), (5, .int (nI j)), (2, .int (nI i)), (0, .ref h0), (1, .ref g1)]) hx hb dX15_times_74 rfl hl (by decide) rfl (fun ls hl => ?_)
      refine lv_iinc (v := (nI (j + 1))) (lv' := [(5, .int (nI (j + 1))), (3, .long (lI ((cc + (gy (i + j) + gp i * ga j)) / 65536))), (2, .int (nI i)), (0, .ref h0), (1, .ref g1)]) hx hb dX15_times_75 hl (k := 1) rfl (nI_1 _) (by decide) rfl (fun ls hl => ?_)
      refine lv_goto (tgt := 21) hx hb dX15_times_78 (by decide) ?_
      refine W.widen (k := 0) (n := 0) (by omega) (by omega) ?_
      exact ih_98 ((j + 1), (lI ((cc + (gy (i + j) + gp i * ga j)) / 65536)), ((cc + (gy (i + j) + gp i * ga j)) / 65536), (upd fy (i + j) (nI ((cc + (gy (i + j) + gp i * ga j)) % 65536))), (upN gy (i + j) ((cc + (gy (i + j) + gp i * ga j)) % 65536))) F_132 (⟨by omega, rfl, by omega, hF_139, hF_138, hy6.up (Nat.mod_lt _ (by decide)), fun k h1 h2 => by rw [upN_ne (show k ≠ i + j by omega)]; exact hy7 k h1 (by omega), by rw [lvb_sc, lvb_s, lvb_s]; exact at_step hy8 (tm_st (by rw [hy7 (i + j) (by omega) (Or.inr (Nat.le_refl _))]))⟩) (by show 33 - (j + 1) < 33 - j; omega) hO hR _ _ hP hD hS ls (lv_sub hl [0, 1, 2, 3, 4] rfl)
theorem cpy33 {f g : Nat → Int32} : ∀ j, j < 33 → va_cpy f g (0 : Int32).toNatClampNeg (0 : Int32).toNatClampNeg (33 : Int32).toNatClampNeg j = f j := by
  intro j hj
  rw [show (0 : Int32).toNatClampNeg = 0 by decide, show (33 : Int32).toNatClampNeg = 33 by decide]
  show (if 0 ≤ j ∧ j < 0 + 33 then f (0 + (j - 0)) else g j) = _
  rw [if_pos ⟨Nat.zero_le _, by omega⟩, Nat.sub_zero, Nat.zero_add]
theorem cp32a {f g : Nat → Int32} : ∀ j, j < 32 → va_cpy f g (0 : Int32).toNatClampNeg (32 : Int32).toNatClampNeg (32 : Int32).toNatClampNeg j = g j := by
  intro j hj
  rw [show (0 : Int32).toNatClampNeg = 0 by decide, show (32 : Int32).toNatClampNeg = 32 by decide]
  show (if 32 ≤ j ∧ j < 32 + 32 then f (0 + (j - 32)) else g j) = _
  rw [if_neg (by omega)]
theorem cp32b {f g : Nat → Int32} : ∀ j, j < 32 → va_cpy f g (0 : Int32).toNatClampNeg (32 : Int32).toNatClampNeg (32 : Int32).toNatClampNeg (32 + j) = f j := by
  intro j hj
  rw [show (0 : Int32).toNatClampNeg = 0 by decide, show (32 : Int32).toNatClampNeg = 32 by decide]
  show (if 32 ≤ 32 + j ∧ 32 + j < 32 + 32 then f (0 + (32 + j - 32)) else g (32 + j)) = _
  rw [if_pos ⟨by omega, by omega⟩, show 0 + (32 + j - 32) = j by omega]
theorem ex_13 {f0 f1 f2 f3 : Nat → Int32} (h0 : ∀ i, i < 64 → f0 i = vp_nar .byte (-1)) (h1 : f1 = upd f0 (0 : Int32).toNatClampNeg (vp_nar .byte 0)) (h2 : f2 = upd f1 (1 : Int32).toNatClampNeg (vp_nar .byte 1)) (h3 : f3 = upd f2 (12 : Int32).toNatClampNeg (vp_nar .byte 0)) : ∀ j, j < 13 + 0 → f3 j = vp_nar .byte (nI (duL.getD j 0)) := by
  intro j hj
  have e9 : ∀ j, j < 13 → ¬ j = 0 → ¬ j = 1 → ¬ j = 12 → vp_nar .byte (-1) = vp_nar .byte (nI (duL.getD j 0)) := by decide +kernel
  rw [h3, h2, h1, show (12 : Int32).toNatClampNeg = 12 by decide, show (1 : Int32).toNatClampNeg = 1 by decide, show (0 : Int32).toNatClampNeg = 0 by decide]
  by_cases c12 : j = 12
  · rw [c12, updc_at]
    decide +kernel
  · rw [updc_ne c12]
    by_cases c1 : j = 1
    · rw [c1, updc_at]
      decide +kernel
    · rw [updc_ne c1]
      by_cases c0 : j = 0
      · rw [c0, updc_at]
        decide +kernel
      · rw [updc_ne c0, h0 j (by omega)]
        exact e9 j (by omega) c0 c1 c12
theorem hd_b : ∀ j, j < 19 → vp_nar .byte ((shK 19 j).toInt8.toInt32) = vp_nar .byte (nI (duL.getD (13 + j) 0)) := by decide +kernel
theorem ex_st {f f2 : Nat → Int32} {k : Nat} {x : Int32} (h : ∀ j, j < 13 + k → f j = vp_nar .byte (nI (duL.getD j 0))) (hf : f2 = upd f (13 + k) x) (hx : x = vp_nar .byte (nI (duL.getD (13 + k) 0))) : ∀ j, j < 13 + (k + 1) → f2 j = vp_nar .byte (nI (duL.getD j 0)) := by
  intro j hj
  rw [hf]
  by_cases e : j = 13 + k
  · rw [e, updc_at]
    exact hx
  · rw [updc_ne e]
    exact h j (by omega)
theorem pw_top {x n : Nat} (h0 : 0 < n) (ht : n < 65536 ^ 32) : x % n < 65536 ^ 32 := Nat.lt_trans (Nat.mod_lt _ h0) ht
set_option maxHeartbeats 4000000 in
set_option maxRecDepth 100000 in
theorem s_X15_isPower_x (l : Launch) (dC : Nat → ClassId) (dI : Nat → Nat → Nat) (cs : Nat → ClassId) (ty : TyM) (gm : Nat → Nat → Nat) (L : List Nat) (sz : Nat) (F : Nat → va_E) (h0 : Nat) (ρ : Nat) (ta : Nat) (ou : Nat) (so : Nat) (ad : Nat) (na : Nat) (va : Nat) (lc : Nat) (dm : Nat) (tg : Nat) (pe : Nat) (ml : Nat) (bg : Nat) (co : Nat) (sp : Nat) (nb0 : Nat) (nb1 : Nat) (nb2 : Nat) (pl : Nat) (se : Nat) (ke : Nat) (wi : Nat) (hs : Nat) (mo : Nat) (po : Nat) (nu : Nat) (pr : Nat) (sq : Nat) (xa : Nat) (sa : Nat) (n64 : Nat) (m64 : Nat) (ex : Nat) (wh : Nat) (sd : Nat) (tk : Nat) (hd : Nat) (ak : Nat) (ho : Nat) (ot : Nat) (sx : Nat) (s0 : Nat) (s1 : Nat) (s2 : Nat) (nf : Nat) (bd : Nat) (mm : Nat) (zo : Nat) (fm : Nat) (sn : Nat) (hg : Nat) (gc : Nat) (gv : Nat) (ze : Nat) (zt : Nat) (fM : Nat → Int32) (fS : Nat → Int32) (fH : Nat → Int32) (bm : Nat → Nat) (bs : Nat → Nat) (hh : Nat → Nat) (hW : WTm ty gm L) (hL_h0 : h0 ∈ L) (hT_h0 : ty h0 = (15, ρ, [ta, ou, so, ad, na, va, lc, dm, tg, pe, ml, bg, co, sp, nb0, nb1, nb2, pl, se, ke, wi, hs, mo, po, nu, pr, sq, xa, sa, n64, m64, ex, wh, sd, tk, hd, ak, ho, ot, sx, s0, s1, s2, nf, bd, mm, zo, fm, sn, hg, gc, gv, ze, zt])) (hFM : F m64 = .inl (cs 17, 64, .inl fM)) (hBM : BYM bm 64 fM) (hFS : F n64 = .inl (cs 17, 64, .inl fS)) (hBS : BYM bs 64 fS) (hFH : F xa = .inl (cs 17, 32, .inl fH)) (hBH : BYM hh 32 fH) (h128 : 128 ≤ bm 0) : Met l yX15_isPower (.code yX15_isPower cX15_isPower 3 (some .boolean) :: tb) ({ frames := 3, cells := 0, slots := 0, locals := 76 }) (va_Pc [.ref h0] (PTm (dC, dI) cs ty gm L F sz)) (va_Qi (fun (r : Int32) (_ : Unit) => ((r = 1 ∧ SGO bs bm hh) ∨ (r = 0 ∧ ¬ SGO bs bm hh))) (fun _ T9 => ∃ F2 : Nat → va_E, QTm (dC, dI) cs ty gm L [ρ + 18, ρ + 87, ρ + 88, ρ + 89, ρ + 90, ρ + 23] F F2 (va_A (va_pl L F) sz) T9) (va_A (va_pl L F) sz)) 0 0 (va_A (va_pl L F) sz) := by
  refine Met.ofW (cc := cX15_isPower) (maxL := 3) (ret := (some .boolean)) (by decide) rfl ?_
  intro p e s m args below meth c s₁ B hml hv
  obtain ⟨rfl, hsz, hP, hK, hD0, hE, hO⟩ := hv
  have hx := B.exec
  have hb := B.bytes
  have hr := B.returns
  have hts : ∀ w ∈ tb, w.before _ s = true := fun w h => atoms_spec (ws := .code yX15_isPower cX15_isPower 3 (some .boolean) :: tb) B.pre w (List.mem_cons_of_mem _ h)
  have hown : s.vm.findClass RX15 = some m.cls := findClass_of_methodNamed B.named
  have hlocks := B.notSynchronized
  subst hsz
  have hD := hD0.self (sz := s.heap.size)
  generalize hAe : va_A (va_pl L F) s.heap.size = A at hD ⊢
  have hA : ∀ q : Nat, s.heap.size ≤ q → A q := fun q h => by rw [← hAe]; exact Or.inr h
  have hS : va_S A s.heap s.heap [] := va_S.rf
  have hR : FR ty [ρ + 18, ρ + 87, ρ + 88, ρ + 89, ρ + 90, ρ + 23] F F := FR.refl
  have hl := lv_entry ([.ref h0]) (n := 3) (Nat.le_of_ble_eq_true rfl)
  rw [lg_entry_eq]
  generalize (lg_sl ([.ref h0]) ++ List.replicate (3 - (lg_sl ([.ref h0])).length) Slot.unset).toArray = ls at hl ⊢
  have hl : lv_has ls 3 [(0, .ref h0)] := hl
  obtain ⟨hq_23, hq_24, hq_25, hq_26, hq_27, hgO, hgA, hgB, hq_28⟩ := hW.sc hL_h0 hT_h0
  obtain ⟨v14_29, v15_30, v17_31, v18_32, v19_33, v20_34, v21_35, v22_36, v33_37, v52_38, v53_39, v54_40, hF_41, hq_42, hq_43, hq_44, hq_45, hq_46⟩ := hO.mod hL_h0 hT_h0
  obtain ⟨hi_47, ht_48⟩ := hW.f_mo hL_h0 hT_h0
  obtain ⟨hq_49, hq_50⟩ := hW.ints hi_47 ht_48
  obtain ⟨hi_51, ht_52⟩ := hW.f_po hL_h0 hT_h0
  obtain ⟨hq_53, hq_54⟩ := hW.ints hi_51 ht_52
  obtain ⟨hi_55, ht_56⟩ := hW.f_nu hL_h0 hT_h0
  obtain ⟨hq_57, hq_58⟩ := hW.ints hi_55 ht_56
  obtain ⟨hi_59, ht_60⟩ := hW.f_pr hL_h0 hT_h0
  obtain ⟨hq_61, hq_62⟩ := hW.ints hi_59 ht_60
  obtain ⟨hi_63, ht_64⟩ := hW.f_sq hL_h0 hT_h0
  obtain ⟨hq_65, hq_66⟩ := hW.ints hi_63 ht_64
  obtain ⟨hi_67, ht_68⟩ := hW.f_xa hL_h0 hT_h0
  obtain ⟨hq_69, hq_70⟩ := hW.octs hi_67 ht_68
  obtain ⟨hi_71, ht_72⟩ := hW.f_n64 hL_h0 hT_h0
  obtain ⟨hq_73, hq_74⟩ := hW.octs hi_71 ht_72
  obtain ⟨hi_75, ht_76⟩ := hW.f_m64 hL_h0 hT_h0
  obtain ⟨hq_77, hq_78⟩ := hW.octs hi_75 ht_76
  obtain ⟨hi_79, ht_80⟩ := hW.f_ex hL_h0 hT_h0
  obtain ⟨hq_81, hq_82⟩ := hW.octs hi_79 ht_80
  obtain ⟨hi_83, ht_84⟩ := hW.f_hd hL_h0 hT_h0
  obtain ⟨f_85, hF_86⟩ := hO.ints hi_47 ht_48
  obtain ⟨f_87, hF_88⟩ := hO.ints hi_51 ht_52
  obtain ⟨f_89, hF_90⟩ := hO.ints hi_55 ht_56
  obtain ⟨f_91, hF_92⟩ := hO.ints hi_59 ht_60
  obtain ⟨f_93, hF_94⟩ := hO.ints hi_63 ht_64
  obtain ⟨f_95, hF_96, hq_97⟩ := hO.octs hi_79 ht_80
  obtain ⟨f_98, hF_99, hq_100⟩ := hO.kst hi_83 ht_84
  have hN0 : 0 < (lvb 65536 (dgt bm) 33) := by rw [dgt_33]; exact be_pos h128
  have hNt : (lvb 65536 (dgt bm) 33) < 65536 ^ 32 := by rw [dgt_33]; exact be_top (fun k hk => (hBM k hk).1)
  refine lv_aload_n hx hb dX15_isPower_0 rfl (lv_at hl 0 rfl) ?_
  refine pg_get (ci := 15) (v := .ref m64) (C := RX15) (T := TX15) (N := 59) hx hb hts it_15 hown hK hP hL_h0 hF_41 rfl 47 (by decide) (hts _ kt_907) (fun _ h9 => h9) rfl dX15_isPower_1 ?_
  refine lv_aload_n hx hb dX15_isPower_4 rfl (lv_at hl 0 rfl) ?_
  refine pg_get (ci := 15) (v := .ref mo) (C := RX15) (T := TX15) (N := 59) hx hb hts it_15 hown hK hP hL_h0 hF_41 rfl 39 (by decide) (hts _ kt_811) (fun _ h9 => h9) rfl dX15_isPower_5 ?_
  have hFc := pg_free hD hS hA
  refine va_callv (va_runS (As := [.ref m64, .ref mo]) (rest := []) ⟨hx, hb, hml, hown, hts⟩ (s_X15_digits_x l dC dI cs ty gm L s.heap.size F m64 (ρ + 22) mo (ρ + 18) fM bm hW hi_75 ht_76 hi_47 ht_48 hFM (hBM) (by omega)) ⟨callB_of 2 hts (gi kt_908) rfl rfl rfl (hts _ kt_669) (hts _ kt_909) (by decide +kernel) ⟨Nat.le_of_ble_eq_true rfl, Nat.le_of_ble_eq_true rfl⟩, (hts _ kt_910)⟩ ⟨fun a U g mk q => ⟨q.1, PTm.calling q.2⟩, fun U hU hWm => ⟨rfl, PTm.mk hU hWm hP hK hD hE hO⟩⟩ rfl rfl hl.1 rfl (lv_room (Nat.le_of_ble_eq_true rfl)) dX15_isPower_8 ⟨by show _ + 0 ≤ 0; omega, by show _ + 0 ≤ 0; omega⟩) hS (fun q _ h => hFc q h) hFc (fun u t H1 locs ht hvm hw hB hz1 hk1 hS => ?_)
  obtain ⟨F_102, f2_103, hB1, hq_104, hq_105⟩ := hB
  obtain ⟨hP, hD, hO, hR⟩ := QTm.back hB1 ht hFc hR (fun q h => by simp only [List.mem_cons, List.not_mem_nil, or_false] at h ⊢; omega)
  have hF_106 : F_102 m64 = .inl (cs 17, 64, .inl fM) := (hB1.2.2.2 m64 (by rw [ht_76]; simp)).trans hFM
  have hF_107 : F_102 n64 = .inl (cs 17, 64, .inl fS) := (hB1.2.2.2 n64 (by rw [ht_72]; simp)).trans hFS
  have hF_108 : F_102 xa = .inl (cs 17, 32, .inl fH) := (hB1.2.2.2 xa (by rw [ht_68]; simp)).trans hFH
  have hF_109 : F_102 h0 = .inr (15, (.ref ta) :: (.int (nI zt)) :: (.int (nI zo)) :: (.int (nI ze)) :: (.ref ou) :: (.ref so) :: (.ref ad) :: (.ref na) :: (.ref va) :: (.ref lc) :: (.ref dm) :: (.int (nI fm)) :: (.int (nI sn)) :: (.ref tg) :: (.int v14_29) :: (.int v15_30) :: (.ref pe) :: (.int v17_31) :: (.int v18_32) :: (.int v19_33) :: (.int v20_34) :: (.int v21_35) :: (.int v22_36) :: (.ref ml) :: (.ref bg) :: (.ref co) :: (.ref sp) :: (.ref nb0) :: (.ref nb1) :: (.ref nb2) :: (.int (nI nf)) :: (.int (nI bd)) :: (.int (nI mm)) :: (.int v33_37) :: (.ref pl) :: (.ref se) :: (.ref ke) :: (.ref wi) :: (.ref hs) :: (.ref mo) :: (.ref po) :: (.ref nu) :: (.ref pr) :: (.ref sq) :: (.ref xa) :: (.ref sa) :: (.ref n64) :: (.ref m64) :: (.ref ex) :: (.ref wh) :: (.ref sd) :: (.ref tk) :: (.int v52_38) :: (.int v53_39) :: (.int v54_40) :: (.ref hd) :: (.ref ak) :: (.ref ho) :: (.ref ot) :: []) := (hB1.2.2.2 h0 (by rw [hT_h0]; simp)).trans hF_41
  have hF_110 : F_102 po = .inl (cs 16, 33, .inl f_87) := (hB1.2.2.2 po (by rw [ht_52]; simp)).trans hF_88
  have hF_111 : F_102 nu = .inl (cs 16, 33, .inl f_89) := (hB1.2.2.2 nu (by rw [ht_56]; simp)).trans hF_90
  have hF_112 : F_102 pr = .inl (cs 16, 66, .inl f_91) := (hB1.2.2.2 pr (by rw [ht_60]; simp)).trans hF_92
  have hF_113 : F_102 sq = .inl (cs 16, 33, .inl f_93) := (hB1.2.2.2 sq (by rw [ht_64]; simp)).trans hF_94
  have hF_114 : F_102 ex = .inl (cs 17, 64, .inl f_95) := (hB1.2.2.2 ex (by rw [ht_80]; simp)).trans hF_96
  have hF_115 : F_102 hd = .inl (cs 16, 19, .inl f_98) := (hB1.2.2.2 hd (by rw [ht_84]; simp)).trans hF_99
  generalize H1 = H at hP hS ⊢
  have hLm := hq_105
  refine lv_aload_n hx hb dX15_isPower_11 rfl (lv_at hl 0 rfl) ?_
  refine pg_get (ci := 15) (v := .ref n64) (C := RX15) (T := TX15) (N := 59) hx hb hts it_15 hown hK hP hL_h0 hF_109 rfl 46 (by decide) (hts _ kt_875) (fun _ h9 => h9) rfl dX15_isPower_12 ?_
  refine lv_aload_n hx hb dX15_isPower_15 rfl (lv_at hl 0 rfl) ?_
  refine pg_get (ci := 15) (v := .ref nu) (C := RX15) (T := TX15) (N := 59) hx hb hts it_15 hown hK hP hL_h0 hF_109 rfl 41 (by decide) (hts _ kt_911) (fun _ h9 => h9) rfl dX15_isPower_16 ?_
  have hFc := pg_free hD hS hA
  refine va_callv (va_runS (As := [.ref n64, .ref nu]) (rest := []) ⟨hx, hb, hml, hown, hts⟩ (s_X15_digits_x l dC dI cs ty gm L H.size F_102 n64 (ρ + 21) nu (ρ + 88) fS bs hW hi_71 ht_72 hi_55 ht_56 hF_107 (hBS) (by omega)) ⟨callB_of 2 hts (gi kt_908) rfl rfl rfl (hts _ kt_669) (hts _ kt_909) (by decide +kernel) ⟨Nat.le_of_ble_eq_true rfl, Nat.le_of_ble_eq_true rfl⟩, (hts _ kt_910)⟩ ⟨fun a U g mk q => ⟨q.1, PTm.calling q.2⟩, fun U hU hWm => ⟨rfl, PTm.mk hU hWm hP hK hD hE hO⟩⟩ rfl rfl hl.1 rfl (lv_room (Nat.le_of_ble_eq_true rfl)) dX15_isPower_19 ⟨by show _ + 0 ≤ 0; omega, by show _ + 0 ≤ 0; omega⟩) hS (fun q _ h => hFc q h) hFc (fun u t H1 locs ht hvm hw hB hz1 hk1 hS => ?_)
  obtain ⟨F_117, f2_118, hB1, hq_119, hq_120⟩ := hB
  obtain ⟨hP, hD, hO, hR⟩ := QTm.back hB1 ht hFc hR (fun q h => by simp only [List.mem_cons, List.not_mem_nil, or_false] at h ⊢; omega)
  have hF_121 : F_117 m64 = .inl (cs 17, 64, .inl fM) := (hB1.2.2.2 m64 (by rw [ht_76]; simp)).trans hF_106
  have hF_122 : F_117 n64 = .inl (cs 17, 64, .inl fS) := (hB1.2.2.2 n64 (by rw [ht_72]; simp)).trans hF_107
  have hF_123 : F_117 xa = .inl (cs 17, 32, .inl fH) := (hB1.2.2.2 xa (by rw [ht_68]; simp)).trans hF_108
  have hF_124 : F_117 h0 = .inr (15, (.ref ta) :: (.int (nI zt)) :: (.int (nI zo)) :: (.int (nI ze)) :: (.ref ou) :: (.ref so) :: (.ref ad) :: (.ref na) :: (.ref va) :: (.ref lc) :: (.ref dm) :: (.int (nI fm)) :: (.int (nI sn)) :: (.ref tg) :: (.int v14_29) :: (.int v15_30) :: (.ref pe) :: (.int v17_31) :: (.int v18_32) :: (.int v19_33) :: (.int v20_34) :: (.int v21_35) :: (.int v22_36) :: (.ref ml) :: (.ref bg) :: (.ref co) :: (.ref sp) :: (.ref nb0) :: (.ref nb1) :: (.ref nb2) :: (.int (nI nf)) :: (.int (nI bd)) :: (.int (nI mm)) :: (.int v33_37) :: (.ref pl) :: (.ref se) :: (.ref ke) :: (.ref wi) :: (.ref hs) :: (.ref mo) :: (.ref po) :: (.ref nu) :: (.ref pr) :: (.ref sq) :: (.ref xa) :: (.ref sa) :: (.ref n64) :: (.ref m64) :: (.ref ex) :: (.ref wh) :: (.ref sd) :: (.ref tk) :: (.int v52_38) :: (.int v53_39) :: (.int v54_40) :: (.ref hd) :: (.ref ak) :: (.ref ho) :: (.ref ot) :: []) := (hB1.2.2.2 h0 (by rw [hT_h0]; simp)).trans hF_109
  have hF_125 : F_117 po = .inl (cs 16, 33, .inl f_87) := (hB1.2.2.2 po (by rw [ht_52]; simp)).trans hF_110
  have hF_126 : F_117 pr = .inl (cs 16, 66, .inl f_91) := (hB1.2.2.2 pr (by rw [ht_60]; simp)).trans hF_112
  have hF_127 : F_117 sq = .inl (cs 16, 33, .inl f_93) := (hB1.2.2.2 sq (by rw [ht_64]; simp)).trans hF_113
  have hF_128 : F_117 ex = .inl (cs 17, 64, .inl f_95) := (hB1.2.2.2 ex (by rw [ht_80]; simp)).trans hF_114
  have hF_129 : F_117 hd = .inl (cs 16, 19, .inl f_98) := (hB1.2.2.2 hd (by rw [ht_84]; simp)).trans hF_115
  have hF_130 : F_117 mo = .inl (cs 16, 33, .inl f2_103) := (hB1.2.2.2 mo (by rw [ht_48]; simp)).trans hq_104
  generalize H1 = H at hP hS ⊢
  have hLs := hq_120
  refine lv_aload_n hx hb dX15_isPower_22 rfl (lv_at hl 0 rfl) ?_
  refine lv_aload_n hx hb dX15_isPower_23 rfl (lv_at hl 0 rfl) ?_
  refine pg_get (ci := 15) (v := .ref nu) (C := RX15) (T := TX15) (N := 59) hx hb hts it_15 hown hK hP hL_h0 hF_124 rfl 41 (by decide) (hts _ kt_911) (fun _ h9 => h9) rfl dX15_isPower_24 ?_
  refine lv_bipush (v := 32) hx hb dX15_isPower_27 (by decide) ?_
  refine lv_aload_n hx hb dX15_isPower_29 rfl (lv_at hl 0 rfl) ?_
  refine pg_get (ci := 15) (v := .ref po) (C := RX15) (T := TX15) (N := 59) hx hb hts it_15 hown hK hP hL_h0 hF_124 rfl 40 (by decide) (hts _ kt_817) (fun _ h9 => h9) rfl dX15_isPower_30 ?_
  have hFc := pg_free hD hS hA
  refine va_callv (va_runV (As := [.ref nu, .int 32, .ref po]) (rest := []) ⟨hx, hb, hml, hown, hts⟩ (s_X15_remainder_32x l dC dI cs ty gm L H.size F_117 h0 ρ ta ou so ad na va lc dm tg pe ml bg co sp nb0 nb1 nb2 pl se ke wi hs mo po nu pr sq xa sa n64 m64 ex wh sd tk hd ak ho ot sx s0 s1 s2 nf bd mm zo fm sn hg gc gv ze zt nu (ρ + 88) po (ρ + 87) f2_118 f2_103 (dgt bs) (dgt bm) hW hL_h0 hT_h0 hi_55 ht_56 hi_51 ht_52 hq_119 (hLs.lo (by decide)) hF_130 (hLm) (hN0) (hNt) (by omega) (by omega)) ⟨callB_of 3 hts (gi kt_818) rfl rfl rfl (hts _ kt_669) (hts _ kt_819) (by decide +kernel) ⟨Nat.le_of_ble_eq_true rfl, Nat.le_of_ble_eq_true rfl⟩, (hts _ kt_820), (hts _ kt_821)⟩ ⟨fun a U g mk q => ⟨q.1, PTm.calling q.2⟩, pg_recv hK hP hL_h0 hF_124 (q := (RX15, TX15, 59)) rfl, fun U hU hWm => ⟨rfl, PTm.mk hU hWm hP hK hD hE hO⟩⟩ rfl rfl hl.1 rfl (lv_room (Nat.le_of_ble_eq_true rfl)) dX15_isPower_33 ⟨by show _ + 0 ≤ 0; omega, by show _ + 0 ≤ 0; omega⟩) hS (fun q _ h => hFc q h) hFc (fun u t H1 locs ht hvm hw hB hz1 hk1 hS => ?_)
  obtain ⟨F_132, f2_133, g2_134, hB1, hq_135, hq_136, hq_137⟩ := hB
  obtain ⟨hP, hD, hO, hR⟩ := QTm.back hB1 ht hFc hR (fun q h => by simp only [List.mem_cons, List.not_mem_nil, or_false] at h ⊢; omega)
  have hF_138 : F_132 m64 = .inl (cs 17, 64, .inl fM) := (hB1.2.2.2 m64 (by rw [ht_76]; simp)).trans hF_121
  have hF_139 : F_132 n64 = .inl (cs 17, 64, .inl fS) := (hB1.2.2.2 n64 (by rw [ht_72]; simp)).trans hF_122
  have hF_140 : F_132 xa = .inl (cs 17, 32, .inl fH) := (hB1.2.2.2 xa (by rw [ht_68]; simp)).trans hF_123
  have hF_141 : F_132 h0 = .inr (15, (.ref ta) :: (.int (nI zt)) :: (.int (nI zo)) :: (.int (nI ze)) :: (.ref ou) :: (.ref so) :: (.ref ad) :: (.ref na) :: (.ref va) :: (.ref lc) :: (.ref dm) :: (.int (nI fm)) :: (.int (nI sn)) :: (.ref tg) :: (.int v14_29) :: (.int v15_30) :: (.ref pe) :: (.int v17_31) :: (.int v18_32) :: (.int v19_33) :: (.int v20_34) :: (.int v21_35) :: (.int v22_36) :: (.ref ml) :: (.ref bg) :: (.ref co) :: (.ref sp) :: (.ref nb0) :: (.ref nb1) :: (.ref nb2) :: (.int (nI nf)) :: (.int (nI bd)) :: (.int (nI mm)) :: (.int v33_37) :: (.ref pl) :: (.ref se) :: (.ref ke) :: (.ref wi) :: (.ref hs) :: (.ref mo) :: (.ref po) :: (.ref nu) :: (.ref pr) :: (.ref sq) :: (.ref xa) :: (.ref sa) :: (.ref n64) :: (.ref m64) :: (.ref ex) :: (.ref wh) :: (.ref sd) :: (.ref tk) :: (.int v52_38) :: (.int v53_39) :: (.int v54_40) :: (.ref hd) :: (.ref ak) :: (.ref ho) :: (.ref ot) :: []) := (hB1.2.2.2 h0 (by rw [hT_h0]; simp)).trans hF_124
  have hF_142 : F_132 pr = .inl (cs 16, 66, .inl f_91) := (hB1.2.2.2 pr (by rw [ht_60]; simp)).trans hF_126
  have hF_143 : F_132 sq = .inl (cs 16, 33, .inl f_93) := (hB1.2.2.2 sq (by rw [ht_64]; simp)).trans hF_127
  have hF_144 : F_132 ex = .inl (cs 17, 64, .inl f_95) := (hB1.2.2.2 ex (by rw [ht_80]; simp)).trans hF_128
  have hF_145 : F_132 hd = .inl (cs 16, 19, .inl f_98) := (hB1.2.2.2 hd (by rw [ht_84]; simp)).trans hF_129
  have hF_146 : F_132 mo = .inl (cs 16, 33, .inl f2_103) := (hB1.2.2.2 mo (by rw [ht_48]; simp)).trans hF_130
  have hF_147 : F_132 nu = .inl (cs 16, 33, .inl f2_118) := (hB1.2.2.2 nu (by rw [ht_56]; simp)).trans hq_119
  generalize H1 = H at hP hS ⊢
  have hL2 := hq_136
  have hV2 : lvb 65536 g2_134 33 = (be bs 64) % (lvb 65536 (dgt bm) 33) := by have h9 := hq_137; rw [dgt_32] at h9; exact h9
  refine lv_aload_n hx hb dX15_isPower_36 rfl (lv_at hl 0 rfl) ?_
  refine pg_get (ci := 15) (v := .ref po) (C := RX15) (T := TX15) (N := 59) hx hb hts it_15 hown hK hP hL_h0 hF_141 rfl 40 (by decide) (hts _ kt_817) (fun _ h9 => h9) rfl dX15_isPower_37 ?_
  refine lv_iconst (v := 0) hx hb dX15_isPower_40 (by decide) ?_
  refine lv_aload_n hx hb dX15_isPower_41 rfl (lv_at hl 0 rfl) ?_
  refine pg_get (ci := 15) (v := .ref nu) (C := RX15) (T := TX15) (N := 59) hx hb hts it_15 hown hK hP hL_h0 hF_141 rfl 41 (by decide) (hts _ kt_911) (fun _ h9 => h9) rfl dX15_isPower_42 ?_
  refine lv_iconst (v := 0) hx hb dX15_isPower_45 (by decide) ?_
  refine lv_bipush (v := 33) hx hb dX15_isPower_46 (by decide) ?_
  refine pg_copyi hx hb (by rw [hml]; exact hl.1.symm) hown (hts _ kt_912) (hts _ kt_29) (hts _ kt_30) (hts _ kt_31) hK hP hD hS hi_51 hi_55 0 0 hq_135 hF_147 rfl rfl rfl (by decide) (by decide) (by decide) (by decide) (by decide) (fun _ _ => rfl) (Nat.le_of_ble_eq_true rfl) (by decide) dX15_isPower_48 (fun H locs hP hD hS => ?_)
  obtain ⟨F_148, he_149, hP, hD, hO, hR⟩ : ∃ G, G = va_up F_132 nu (.inl (cs 16, 33, .inl (va_cpy f2_133 f2_118 (0 : Int32).toNatClampNeg (0 : Int32).toNatClampNeg (33 : Int32).toNatClampNeg))) ∧ va_P (dC, dI) vwCl (va_pl L G) H ∧ va_D A (va_pl L G) ∧ OKm cs ty gm L G ∧ FR ty [ρ + 18, ρ + 87, ρ + 88, ρ + 89, ρ + 90, ρ + 23] F G := ⟨_, rfl, hP, hD, hO.up (shm.ints ht_56 ⟨_, rfl⟩), hR.up ht_56 (by simp)⟩
  have hF_150 : F_148 nu = .inl (cs 16, 33, .inl (va_cpy f2_133 f2_118 (0 : Int32).toNatClampNeg (0 : Int32).toNatClampNeg (33 : Int32).toNatClampNeg)) := by rw [he_149]; exact up_self
  have hF_151 : F_148 m64 = .inl (cs 17, 64, .inl fM) := by rw [he_149, up_ne (ne_ty ht_76 ht_56 (by simp))]; exact hF_138
  have hF_152 : F_148 n64 = .inl (cs 17, 64, .inl fS) := by rw [he_149, up_ne (ne_ty ht_72 ht_56 (by simp))]; exact hF_139
  have hF_153 : F_148 xa = .inl (cs 17, 32, .inl fH) := by rw [he_149, up_ne (ne_ty ht_68 ht_56 (by simp))]; exact hF_140
  have hF_154 : F_148 h0 = .inr (15, (.ref ta) :: (.int (nI zt)) :: (.int (nI zo)) :: (.int (nI ze)) :: (.ref ou) :: (.ref so) :: (.ref ad) :: (.ref na) :: (.ref va) :: (.ref lc) :: (.ref dm) :: (.int (nI fm)) :: (.int (nI sn)) :: (.ref tg) :: (.int v14_29) :: (.int v15_30) :: (.ref pe) :: (.int v17_31) :: (.int v18_32) :: (.int v19_33) :: (.int v20_34) :: (.int v21_35) :: (.int v22_36) :: (.ref ml) :: (.ref bg) :: (.ref co) :: (.ref sp) :: (.ref nb0) :: (.ref nb1) :: (.ref nb2) :: (.int (nI nf)) :: (.int (nI bd)) :: (.int (nI mm)) :: (.int v33_37) :: (.ref pl) :: (.ref se) :: (.ref ke) :: (.ref wi) :: (.ref hs) :: (.ref mo) :: (.ref po) :: (.ref nu) :: (.ref pr) :: (.ref sq) :: (.ref xa) :: (.ref sa) :: (.ref n64) :: (.ref m64) :: (.ref ex) :: (.ref wh) :: (.ref sd) :: (.ref tk) :: (.int v52_38) :: (.int v53_39) :: (.int v54_40) :: (.ref hd) :: (.ref ak) :: (.ref ho) :: (.ref ot) :: []) := by rw [he_149, up_ne (ne_ty hT_h0 ht_56 (by simp))]; exact hF_141
  have hF_155 : F_148 pr = .inl (cs 16, 66, .inl f_91) := by rw [he_149, up_ne (ne_ty2 ht_60 ht_56 (by simp))]; exact hF_142
  have hF_156 : F_148 sq = .inl (cs 16, 33, .inl f_93) := by rw [he_149, up_ne (ne_ty2 ht_64 ht_56 (by simp))]; exact hF_143
  have hF_157 : F_148 ex = .inl (cs 17, 64, .inl f_95) := by rw [he_149, up_ne (ne_ty ht_80 ht_56 (by simp))]; exact hF_144
  have hF_158 : F_148 hd = .inl (cs 16, 19, .inl f_98) := by rw [he_149, up_ne (ne_ty ht_84 ht_56 (by simp))]; exact hF_145
  have hF_159 : F_148 mo = .inl (cs 16, 33, .inl f2_103) := by rw [he_149, up_ne (ne_ty2 ht_48 ht_56 (by simp))]; exact hF_146
  have hF_160 : F_148 po = .inl (cs 16, 33, .inl f2_133) := by rw [he_149, up_ne (ne_ty2 ht_52 ht_56 (by simp))]; exact hq_135
  obtain ⟨fn9, hFn9, hLn9⟩ : ∃ f : Nat → Int32, F_148 nu = .inl (cs 16, 33, .inl f) ∧ LMq 33 g2_134 f := ⟨_, hF_150, hL2.cg cpy33⟩
  refine lv_iconst (v := 0) hx hb dX15_isPower_51 (by decide) ?_
  refine lv_istore_n (lv' := [(1, .int 0), (0, .ref h0)]) hx hb dX15_isPower_52 rfl hl (by decide) rfl (fun ls hl => ?_)
  refine W.widen (k := 0) (n := 0) (by omega) (by omega) ?_
  have hF_162 : F m64 = .inl (cs 17, 64, .inl fM) := (hR m64 (by rw [ht_76]; simp)).symm.trans hF_151
  have hF_163 : F n64 = .inl (cs 17, 64, .inl fS) := (hR n64 (by rw [ht_72]; simp)).symm.trans hF_152
  have hF_164 : F xa = .inl (cs 17, 32, .inl fH) := (hR xa (by rw [ht_68]; simp)).symm.trans hF_153
  have hF_165 : F h0 = .inr (15, (.ref ta) :: (.int (nI zt)) :: (.int (nI zo)) :: (.int (nI ze)) :: (.ref ou) :: (.ref so) :: (.ref ad) :: (.ref na) :: (.ref va) :: (.ref lc) :: (.ref dm) :: (.int (nI fm)) :: (.int (nI sn)) :: (.ref tg) :: (.int v14_29) :: (.int v15_30) :: (.ref pe) :: (.int v17_31) :: (.int v18_32) :: (.int v19_33) :: (.int v20_34) :: (.int v21_35) :: (.int v22_36) :: (.ref ml) :: (.ref bg) :: (.ref co) :: (.ref sp) :: (.ref nb0) :: (.ref nb1) :: (.ref nb2) :: (.int (nI nf)) :: (.int (nI bd)) :: (.int (nI mm)) :: (.int v33_37) :: (.ref pl) :: (.ref se) :: (.ref ke) :: (.ref wi) :: (.ref hs) :: (.ref mo) :: (.ref po) :: (.ref nu) :: (.ref pr) :: (.ref sq) :: (.ref xa) :: (.ref sa) :: (.ref n64) :: (.ref m64) :: (.ref ex) :: (.ref wh) :: (.ref sd) :: (.ref tk) :: (.int v52_38) :: (.int v53_39) :: (.int v54_40) :: (.ref hd) :: (.ref ak) :: (.ref ho) :: (.ref ot) :: []) := (hR h0 (by rw [hT_h0]; simp)).symm.trans hF_154
  have hF_166 : F hd = .inl (cs 16, 19, .inl f_98) := (hR hd (by rw [ht_84]; simp)).symm.trans hF_158
  refine pl_loopm (σ := Nat × (Nat → Int32) × (Nat → Nat)) A (dC, dI) cs ty gm L [ρ + 18, ρ + 87, ρ + 88, ρ + 89, ρ + 90, ρ + 23] F 53 3 (fun (j, fq, gz) => [(1, .int (nI j)), (0, .ref h0)]) (fun (j, fq, gz) => []) (fun (j, fq, gz) FF => j ≤ 16 ∧ FF mo = .inl (cs 16, 33, .inl f2_103) ∧ FF nu = .inl (cs 16, 33, .inl fn9) ∧ FF po = .inl (cs 16, 33, .inl fq) ∧ LMq 33 gz fq ∧ lvb 65536 gz 33 = sqk (be bs 64) j % (lvb 65536 (dgt bm) 33)) (fun (j, fq, gz) => 16 - j) ?_ (0, f2_133, g2_134) F_148 (⟨by omega, hF_159, hFn9, hF_160, hL2, (by rw [hV2]; rfl)⟩) hO hR _ _ hP hD hS ls (lv_sub hl [0, 1] rfl)
  rintro ⟨j, fq, gz⟩ F_161 hv_167 hO hR ih_168 H locs hP hD hS ls hl
  have hl : lv_has ls 3 [(1, .int (nI j)), (0, .ref h0)] := hl
  have hv_167 : j ≤ 16 ∧ F_161 mo = .inl (cs 16, 33, .inl f2_103) ∧ F_161 nu = .inl (cs 16, 33, .inl fn9) ∧ F_161 po = .inl (cs 16, 33, .inl fq) ∧ LMq 33 gz fq ∧ lvb 65536 gz 33 = sqk (be bs 64) j % (lvb 65536 (dgt bm) 33) := hv_167
  refine W.eq (g2 := F0 m 53 ls []) rfl ?_
  have hF_169 : F_161 m64 = .inl (cs 17, 64, .inl fM) := (hR m64 (by rw [ht_76]; simp)).trans hF_162
  have hF_170 : F_161 n64 = .inl (cs 17, 64, .inl fS) := (hR n64 (by rw [ht_72]; simp)).trans hF_163
  have hF_171 : F_161 xa = .inl (cs 17, 32, .inl fH) := (hR xa (by rw [ht_68]; simp)).trans hF_164
  have hF_172 : F_161 h0 = .inr (15, (.ref ta) :: (.int (nI zt)) :: (.int (nI zo)) :: (.int (nI ze)) :: (.ref ou) :: (.ref so) :: (.ref ad) :: (.ref na) :: (.ref va) :: (.ref lc) :: (.ref dm) :: (.int (nI fm)) :: (.int (nI sn)) :: (.ref tg) :: (.int v14_29) :: (.int v15_30) :: (.ref pe) :: (.int v17_31) :: (.int v18_32) :: (.int v19_33) :: (.int v20_34) :: (.int v21_35) :: (.int v22_36) :: (.ref ml) :: (.ref bg) :: (.ref co) :: (.ref sp) :: (.ref nb0) :: (.ref nb1) :: (.ref nb2) :: (.int (nI nf)) :: (.int (nI bd)) :: (.int (nI mm)) :: (.int v33_37) :: (.ref pl) :: (.ref se) :: (.ref ke) :: (.ref wi) :: (.ref hs) :: (.ref mo) :: (.ref po) :: (.ref nu) :: (.ref pr) :: (.ref sq) :: (.ref xa) :: (.ref sa) :: (.ref n64) :: (.ref m64) :: (.ref ex) :: (.ref wh) :: (.ref sd) :: (.ref tk) :: (.int v52_38) :: (.int v53_39) :: (.int v54_40) :: (.ref hd) :: (.ref ak) :: (.ref ho) :: (.ref ot) :: []) := (hR h0 (by rw [hT_h0]; simp)).trans hF_165
  have hF_173 : F_161 hd = .inl (cs 16, 19, .inl f_98) := (hR hd (by rw [ht_84]; simp)).trans hF_166
  obtain ⟨hv1, hv2, hv3, hv4, hv5, hv6⟩ := id hv_167
  have hpt : lvb 65536 gz 33 < 65536 ^ 32 := by rw [hv6]; exact pw_top hN0 hNt
  have hmm9 : lvb 65536 gz 33 % (lvb 65536 (dgt bm) 33) = sqk (be bs 64) j % (lvb 65536 (dgt bm) 33) := by rw [hv6, Nat.mod_mod]
  refine lv_iload_n hx hb dX15_isPower_53 rfl (lv_at hl 0 rfl) ?_
  refine lv_bipush (v := 16) hx hb dX15_isPower_54 (by decide) ?_
  refine lv_icmp_ge (tgt := 88) hx hb dX15_isPower_56 (by decide) (fun c_174 => ?_) (fun c_174 => ?_)
  ·
    have hi_175 : 16 ≤ j := leN (N := 16) c_174
    have hj16 : 16 ≤ j := (nI_leI (by omega) (by omega)).mp c_174
    refine lv_aload_n hx hb dX15_isPower_88 rfl (lv_at hl 1 rfl) ?_
    refine lv_aload_n hx hb dX15_isPower_89 rfl (lv_at hl 1 rfl) ?_
    refine pg_get (ci := 15) (v := .ref nu) (C := RX15) (T := TX15) (N := 59) hx hb hts it_15 hown hK hP hL_h0 hF_172 rfl 41 (by decide) (hts _ kt_911) (fun _ h9 => h9) rfl dX15_isPower_90 ?_
    have hFc := pg_free hD hS hA
    refine va_callv (va_runV (As := [.ref nu]) (rest := []) ⟨hx, hb, hml, hown, hts⟩ (s_X15_times_x l dC dI cs ty gm L H.size F_161 h0 ρ ta ou so ad na va lc dm tg pe ml bg co sp nb0 nb1 nb2 pl se ke wi hs mo po nu pr sq xa sa n64 m64 ex wh sd tk hd ak ho ot sx s0 s1 s2 nf bd mm zo fm sn hg gc gv ze zt nu (ρ + 88) fq f2_103 fn9 gz (dgt bm) g2_134 hW hL_h0 hT_h0 hi_55 ht_56 hv4 (hv5) hv2 (hLm) (hN0) (hNt) hv3 (hLn9) (hpt) (by rw [hV2]; exact pw_top hN0 hNt) (Or.inl rfl)) ⟨callB_of 1 hts (gi kt_913) rfl rfl rfl (hts _ kt_669) (hts _ kt_914) (by decide +kernel) ⟨Nat.le_of_ble_eq_true rfl, Nat.le_of_ble_eq_true rfl⟩, (hts _ kt_915), (hts _ kt_916)⟩ ⟨fun a U g mk q => ⟨q.1, PTm.calling q.2⟩, pg_recv hK hP hL_h0 hF_172 (q := (RX15, TX15, 59)) rfl, fun U hU hWm => ⟨rfl, PTm.mk hU hWm hP hK hD hE hO⟩⟩ rfl rfl hl.1 rfl (lv_room (Nat.le_of_ble_eq_true rfl)) dX15_isPower_93 ⟨by show _ + 0 ≤ 0; omega, by show _ + 0 ≤ 0; omega⟩) hS (fun q _ h => hFc q h) hFc (fun u t H1 locs ht hvm hw hB hz1 hk1 hS => ?_)
    obtain ⟨F_177, f2_178, g2_179, hB1, hq_180, hq_181, hq_182⟩ := hB
    obtain ⟨hP, hD, hO, hR⟩ := QTm.back hB1 ht hFc hR (fun q h => by simp only [List.mem_cons, List.not_mem_nil, or_false] at h ⊢; omega)
    have hF_183 : F_177 m64 = .inl (cs 17, 64, .inl fM) := (hB1.2.2.2 m64 (by rw [ht_76]; simp)).trans hF_169
    have hF_184 : F_177 n64 = .inl (cs 17, 64, .inl fS) := (hB1.2.2.2 n64 (by rw [ht_72]; simp)).trans hF_170
    have hF_185 : F_177 xa = .inl (cs 17, 32, .inl fH) := (hB1.2.2.2 xa (by rw [ht_68]; simp)).trans hF_171
    have hF_186 : F_177 h0 = .inr (15, (.ref ta) :: (.int (nI zt)) :: (.int (nI zo)) :: (.int (nI ze)) :: (.ref ou) :: (.ref so) :: (.ref ad) :: (.ref na) :: (.ref va) :: (.ref lc) :: (.ref dm) :: (.int (nI fm)) :: (.int (nI sn)) :: (.ref tg) :: (.int v14_29) :: (.int v15_30) :: (.ref pe) :: (.int v17_31) :: (.int v18_32) :: (.int v19_33) :: (.int v20_34) :: (.int v21_35) :: (.int v22_36) :: (.ref ml) :: (.ref bg) :: (.ref co) :: (.ref sp) :: (.ref nb0) :: (.ref nb1) :: (.ref nb2) :: (.int (nI nf)) :: (.int (nI bd)) :: (.int (nI mm)) :: (.int v33_37) :: (.ref pl) :: (.ref se) :: (.ref ke) :: (.ref wi) :: (.ref hs) :: (.ref mo) :: (.ref po) :: (.ref nu) :: (.ref pr) :: (.ref sq) :: (.ref xa) :: (.ref sa) :: (.ref n64) :: (.ref m64) :: (.ref ex) :: (.ref wh) :: (.ref sd) :: (.ref tk) :: (.int v52_38) :: (.int v53_39) :: (.int v54_40) :: (.ref hd) :: (.ref ak) :: (.ref ho) :: (.ref ot) :: []) := (hB1.2.2.2 h0 (by rw [hT_h0]; simp)).trans hF_172
    have hF_187 : F_177 hd = .inl (cs 16, 19, .inl f_98) := (hB1.2.2.2 hd (by rw [ht_84]; simp)).trans hF_173
    have hF_188 : F_177 mo = .inl (cs 16, 33, .inl f2_103) := (hB1.2.2.2 mo (by rw [ht_48]; simp)).trans hv2
    have hF_189 : F_177 nu = .inl (cs 16, 33, .inl fn9) := (hB1.2.2.2 nu (by rw [ht_56]; simp)).trans hv3
    generalize H1 = H at hP hS ⊢
    have hL3 := hq_181
    have hV3 : lvb 65536 g2_179 33 = pwm (be bs 64) (be bm 64) := by have h9 := hq_182; rw [pw_mod (b := (be bs 64)) (by rw [hmm9, show j = 16 by omega]) (by rw [hV2, Nat.mod_mod]), dgt_33] at h9; exact h9
    obtain ⟨f_190, hF_191, hq_192⟩ := hO.octs hi_79 ht_80
    refine lv_aload_n hx hb dX15_isPower_96 rfl (lv_at hl 1 rfl) ?_
    refine pg_get (ci := 15) (v := .ref ex) (C := RX15) (T := TX15) (N := 59) hx hb hts it_15 hown hK hP hL_h0 hF_186 rfl 48 (by decide) (hts _ kt_917) (fun _ h9 => h9) rfl dX15_isPower_97 ?_
    refine lv_iconst (v := (-1)) hx hb dX15_isPower_100 (by decide) ?_
    have hFc := pg_free hD hS hA
    refine va_callv (va_runS (As := [.ref ex, .int (-1)]) (rest := []) ⟨hx, hb, hml, hown, hts⟩ (m_J7_fill_031fb_x l dC dI cs ty gm L H.size F_177 ex (ρ + 23) 64 (-1) hW hi_79 ht_80 (by first | omega | assumption | exact Or.inl rfl)) ⟨callB_of 2 hts (gi kt_918) rfl rfl rfl (hts _ kt_808) (hts _ kt_919) (by decide +kernel) ⟨Nat.le_of_ble_eq_true rfl, Nat.le_of_ble_eq_true rfl⟩, (hts _ kt_920)⟩ ⟨fun a U g mk q => ⟨q.1, PTm.calling q.2⟩, fun U hU hWm => ⟨rfl, PTm.mk hU hWm hP hK hD hE hO⟩⟩ rfl rfl hl.1 rfl (lv_room (Nat.le_of_ble_eq_true rfl)) dX15_isPower_101 ⟨by show _ + 0 ≤ 0; omega, by show _ + 0 ≤ 0; omega⟩) hS (fun q _ h => hFc q h) hFc (fun u t H1 locs ht hvm hw hB hz1 hk1 hS => ?_)
    obtain ⟨F_194, f2_195, hB1, hq_196, hq_197⟩ := hB
    obtain ⟨hP, hD, hO, hR⟩ := QTm.back hB1 ht hFc hR (fun q h => by simp only [List.mem_cons, List.not_mem_nil, or_false] at h ⊢; omega)
    have hF_198 : F_194 m64 = .inl (cs 17, 64, .inl fM) := (hB1.2.2.2 m64 (by rw [ht_76]; simp)).trans hF_183
    have hF_199 : F_194 n64 = .inl (cs 17, 64, .inl fS) := (hB1.2.2.2 n64 (by rw [ht_72]; simp)).trans hF_184
    have hF_200 : F_194 xa = .inl (cs 17, 32, .inl fH) := (hB1.2.2.2 xa (by rw [ht_68]; simp)).trans hF_185
    have hF_201 : F_194 h0 = .inr (15, (.ref ta) :: (.int (nI zt)) :: (.int (nI zo)) :: (.int (nI ze)) :: (.ref ou) :: (.ref so) :: (.ref ad) :: (.ref na) :: (.ref va) :: (.ref lc) :: (.ref dm) :: (.int (nI fm)) :: (.int (nI sn)) :: (.ref tg) :: (.int v14_29) :: (.int v15_30) :: (.ref pe) :: (.int v17_31) :: (.int v18_32) :: (.int v19_33) :: (.int v20_34) :: (.int v21_35) :: (.int v22_36) :: (.ref ml) :: (.ref bg) :: (.ref co) :: (.ref sp) :: (.ref nb0) :: (.ref nb1) :: (.ref nb2) :: (.int (nI nf)) :: (.int (nI bd)) :: (.int (nI mm)) :: (.int v33_37) :: (.ref pl) :: (.ref se) :: (.ref ke) :: (.ref wi) :: (.ref hs) :: (.ref mo) :: (.ref po) :: (.ref nu) :: (.ref pr) :: (.ref sq) :: (.ref xa) :: (.ref sa) :: (.ref n64) :: (.ref m64) :: (.ref ex) :: (.ref wh) :: (.ref sd) :: (.ref tk) :: (.int v52_38) :: (.int v53_39) :: (.int v54_40) :: (.ref hd) :: (.ref ak) :: (.ref ho) :: (.ref ot) :: []) := (hB1.2.2.2 h0 (by rw [hT_h0]; simp)).trans hF_186
    have hF_202 : F_194 hd = .inl (cs 16, 19, .inl f_98) := (hB1.2.2.2 hd (by rw [ht_84]; simp)).trans hF_187
    have hF_203 : F_194 mo = .inl (cs 16, 33, .inl f2_103) := (hB1.2.2.2 mo (by rw [ht_48]; simp)).trans hF_188
    have hF_204 : F_194 nu = .inl (cs 16, 33, .inl fn9) := (hB1.2.2.2 nu (by rw [ht_56]; simp)).trans hF_189
    have hF_205 : F_194 po = .inl (cs 16, 33, .inl f2_178) := (hB1.2.2.2 po (by rw [ht_52]; simp)).trans hq_180
    generalize H1 = H at hP hS ⊢
    have hf0 := hq_197
    have hBE0 := bfmo hq_196 (hO.octs hi_79 ht_80)
    refine lv_aload_n hx hb dX15_isPower_104 rfl (lv_at hl 1 rfl) ?_
    refine pg_get (ci := 15) (v := .ref ex) (C := RX15) (T := TX15) (N := 59) hx hb hts it_15 hown hK hP hL_h0 hF_201 rfl 48 (by decide) (hts _ kt_917) (fun _ h9 => h9) rfl dX15_isPower_105 ?_
    refine lv_iconst (v := 0) hx hb dX15_isPower_108 (by decide) ?_
    refine lv_iconst (v := 0) hx hb dX15_isPower_109 (by decide) ?_
    refine pg_bast hx hb hK hP hD hS hi_79 1 hq_196 rfl (show vp_in (0 : Int32) 64 from (show vp_in (nI 0) 64 from vp_in_nI (by omega) (by omega))) dX15_isPower_110 (fun H locs hP hD hS => ?_)
    obtain ⟨F_206, he_207, hP, hD, hO, hR⟩ : ∃ G, G = va_up F_194 ex (.inl (cs 17, 64, .inl (upd f2_195 (0 : Int32).toNatClampNeg (vp_nar .byte (0))))) ∧ va_P (dC, dI) vwCl (va_pl L G) H ∧ va_D A (va_pl L G) ∧ OKm cs ty gm L G ∧ FR ty [ρ + 18, ρ + 87, ρ + 88, ρ + 89, ρ + 90, ρ + 23] F G := ⟨_, rfl, hP, hD, hO.up (shm.octs ht_80 ⟨_, rfl, bfm_upd hBE0 _ _⟩), hR.up ht_80 (by simp)⟩
    have hF_208 : F_206 ex = .inl (cs 17, 64, .inl (upd f2_195 (0 : Int32).toNatClampNeg (vp_nar .byte (0)))) := by rw [he_207]; exact up_self
    have hF_209 : F_206 m64 = .inl (cs 17, 64, .inl fM) := by rw [he_207, up_ne (ne_ty2 ht_76 ht_80 (by simp))]; exact hF_198
    have hF_210 : F_206 n64 = .inl (cs 17, 64, .inl fS) := by rw [he_207, up_ne (ne_ty2 ht_72 ht_80 (by simp))]; exact hF_199
    have hF_211 : F_206 xa = .inl (cs 17, 32, .inl fH) := by rw [he_207, up_ne (ne_ty2 ht_68 ht_80 (by simp))]; exact hF_200
    have hF_212 : F_206 h0 = .inr (15, (.ref ta) :: (.int (nI zt)) :: (.int (nI zo)) :: (.int (nI ze)) :: (.ref ou) :: (.ref so) :: (.ref ad) :: (.ref na) :: (.ref va) :: (.ref lc) :: (.ref dm) :: (.int (nI fm)) :: (.int (nI sn)) :: (.ref tg) :: (.int v14_29) :: (.int v15_30) :: (.ref pe) :: (.int v17_31) :: (.int v18_32) :: (.int v19_33) :: (.int v20_34) :: (.int v21_35) :: (.int v22_36) :: (.ref ml) :: (.ref bg) :: (.ref co) :: (.ref sp) :: (.ref nb0) :: (.ref nb1) :: (.ref nb2) :: (.int (nI nf)) :: (.int (nI bd)) :: (.int (nI mm)) :: (.int v33_37) :: (.ref pl) :: (.ref se) :: (.ref ke) :: (.ref wi) :: (.ref hs) :: (.ref mo) :: (.ref po) :: (.ref nu) :: (.ref pr) :: (.ref sq) :: (.ref xa) :: (.ref sa) :: (.ref n64) :: (.ref m64) :: (.ref ex) :: (.ref wh) :: (.ref sd) :: (.ref tk) :: (.int v52_38) :: (.int v53_39) :: (.int v54_40) :: (.ref hd) :: (.ref ak) :: (.ref ho) :: (.ref ot) :: []) := by rw [he_207, up_ne (ne_ty hT_h0 ht_80 (by simp))]; exact hF_201
    have hF_213 : F_206 hd = .inl (cs 16, 19, .inl f_98) := by rw [he_207, up_ne (ne_ty ht_84 ht_80 (by simp))]; exact hF_202
    have hF_214 : F_206 mo = .inl (cs 16, 33, .inl f2_103) := by rw [he_207, up_ne (ne_ty ht_48 ht_80 (by simp))]; exact hF_203
    have hF_215 : F_206 nu = .inl (cs 16, 33, .inl fn9) := by rw [he_207, up_ne (ne_ty ht_56 ht_80 (by simp))]; exact hF_204
    have hF_216 : F_206 po = .inl (cs 16, 33, .inl f2_178) := by rw [he_207, up_ne (ne_ty ht_52 ht_80 (by simp))]; exact hF_205
    obtain ⟨f_217, hF_208, hq_218, hfe_219⟩ : ∃ f : Nat → Int32, F_206 ex = .inl (cs 17, 64, .inl f) ∧ BFm f ∧ f = upd f2_195 (0 : Int32).toNatClampNeg (vp_nar .byte (0)) := ⟨_, hF_208, bfm_upd hBE0 _ _, rfl⟩
    refine lv_aload_n hx hb dX15_isPower_111 rfl (lv_at hl 1 rfl) ?_
    refine pg_get (ci := 15) (v := .ref ex) (C := RX15) (T := TX15) (N := 59) hx hb hts it_15 hown hK hP hL_h0 hF_212 rfl 48 (by decide) (hts _ kt_917) (fun _ h9 => h9) rfl dX15_isPower_112 ?_
    refine lv_iconst (v := 1) hx hb dX15_isPower_115 (by decide) ?_
    refine lv_iconst (v := 1) hx hb dX15_isPower_116 (by decide) ?_
    refine pg_bast hx hb hK hP hD hS hi_79 1 hF_208 rfl (show vp_in (1 : Int32) 64 from (show vp_in (nI 1) 64 from vp_in_nI (by omega) (by omega))) dX15_isPower_117 (fun H locs hP hD hS => ?_)
    obtain ⟨F_220, he_221, hP, hD, hO, hR⟩ : ∃ G, G = va_up F_206 ex (.inl (cs 17, 64, .inl (upd f_217 (1 : Int32).toNatClampNeg (vp_nar .byte (1))))) ∧ va_P (dC, dI) vwCl (va_pl L G) H ∧ va_D A (va_pl L G) ∧ OKm cs ty gm L G ∧ FR ty [ρ + 18, ρ + 87, ρ + 88, ρ + 89, ρ + 90, ρ + 23] F G := ⟨_, rfl, hP, hD, hO.up (shm.octs ht_80 ⟨_, rfl, bfm_upd hq_218 _ _⟩), hR.up ht_80 (by simp)⟩
    have hF_222 : F_220 ex = .inl (cs 17, 64, .inl (upd f_217 (1 : Int32).toNatClampNeg (vp_nar .byte (1)))) := by rw [he_221]; exact up_self
    have hF_223 : F_220 m64 = .inl (cs 17, 64, .inl fM) := by rw [he_221, up_ne (ne_ty2 ht_76 ht_80 (by simp))]; exact hF_209
    have hF_224 : F_220 n64 = .inl (cs 17, 64, .inl fS) := by rw [he_221, up_ne (ne_ty2 ht_72 ht_80 (by simp))]; exact hF_210
    have hF_225 : F_220 xa = .inl (cs 17, 32, .inl fH) := by rw [he_221, up_ne (ne_ty2 ht_68 ht_80 (by simp))]; exact hF_211
    have hF_226 : F_220 h0 = .inr (15, (.ref ta) :: (.int (nI zt)) :: (.int (nI zo)) :: (.int (nI ze)) :: (.ref ou) :: (.ref so) :: (.ref ad) :: (.ref na) :: (.ref va) :: (.ref lc) :: (.ref dm) :: (.int (nI fm)) :: (.int (nI sn)) :: (.ref tg) :: (.int v14_29) :: (.int v15_30) :: (.ref pe) :: (.int v17_31) :: (.int v18_32) :: (.int v19_33) :: (.int v20_34) :: (.int v21_35) :: (.int v22_36) :: (.ref ml) :: (.ref bg) :: (.ref co) :: (.ref sp) :: (.ref nb0) :: (.ref nb1) :: (.ref nb2) :: (.int (nI nf)) :: (.int (nI bd)) :: (.int (nI mm)) :: (.int v33_37) :: (.ref pl) :: (.ref se) :: (.ref ke) :: (.ref wi) :: (.ref hs) :: (.ref mo) :: (.ref po) :: (.ref nu) :: (.ref pr) :: (.ref sq) :: (.ref xa) :: (.ref sa) :: (.ref n64) :: (.ref m64) :: (.ref ex) :: (.ref wh) :: (.ref sd) :: (.ref tk) :: (.int v52_38) :: (.int v53_39) :: (.int v54_40) :: (.ref hd) :: (.ref ak) :: (.ref ho) :: (.ref ot) :: []) := by rw [he_221, up_ne (ne_ty hT_h0 ht_80 (by simp))]; exact hF_212
    have hF_227 : F_220 hd = .inl (cs 16, 19, .inl f_98) := by rw [he_221, up_ne (ne_ty ht_84 ht_80 (by simp))]; exact hF_213
    have hF_228 : F_220 mo = .inl (cs 16, 33, .inl f2_103) := by rw [he_221, up_ne (ne_ty ht_48 ht_80 (by simp))]; exact hF_214
    have hF_229 : F_220 nu = .inl (cs 16, 33, .inl fn9) := by rw [he_221, up_ne (ne_ty ht_56 ht_80 (by simp))]; exact hF_215
    have hF_230 : F_220 po = .inl (cs 16, 33, .inl f2_178) := by rw [he_221, up_ne (ne_ty ht_52 ht_80 (by simp))]; exact hF_216
    obtain ⟨f_231, hF_222, hq_232, hfe_233⟩ : ∃ f : Nat → Int32, F_220 ex = .inl (cs 17, 64, .inl f) ∧ BFm f ∧ f = upd f_217 (1 : Int32).toNatClampNeg (vp_nar .byte (1)) := ⟨_, hF_222, bfm_upd hq_218 _ _, rfl⟩
    refine lv_aload_n hx hb dX15_isPower_118 rfl (lv_at hl 1 rfl) ?_
    refine pg_get (ci := 15) (v := .ref ex) (C := RX15) (T := TX15) (N := 59) hx hb hts it_15 hown hK hP hL_h0 hF_226 rfl 48 (by decide) (hts _ kt_917) (fun _ h9 => h9) rfl dX15_isPower_119 ?_
    refine lv_bipush (v := 12) hx hb dX15_isPower_122 (by decide) ?_
    refine lv_iconst (v := 0) hx hb dX15_isPower_124 (by decide) ?_
    refine pg_bast hx hb hK hP hD hS hi_79 1 hF_222 rfl (show vp_in (12 : Int32) 64 from (show vp_in (nI 12) 64 from vp_in_nI (by omega) (by omega))) dX15_isPower_125 (fun H locs hP hD hS => ?_)
    obtain ⟨F_234, he_235, hP, hD, hO, hR⟩ : ∃ G, G = va_up F_220 ex (.inl (cs 17, 64, .inl (upd f_231 (12 : Int32).toNatClampNeg (vp_nar .byte (0))))) ∧ va_P (dC, dI) vwCl (va_pl L G) H ∧ va_D A (va_pl L G) ∧ OKm cs ty gm L G ∧ FR ty [ρ + 18, ρ + 87, ρ + 88, ρ + 89, ρ + 90, ρ + 23] F G := ⟨_, rfl, hP, hD, hO.up (shm.octs ht_80 ⟨_, rfl, bfm_upd hq_232 _ _⟩), hR.up ht_80 (by simp)⟩
    have hF_236 : F_234 ex = .inl (cs 17, 64, .inl (upd f_231 (12 : Int32).toNatClampNeg (vp_nar .byte (0)))) := by rw [he_235]; exact up_self
    have hF_237 : F_234 m64 = .inl (cs 17, 64, .inl fM) := by rw [he_235, up_ne (ne_ty2 ht_76 ht_80 (by simp))]; exact hF_223
    have hF_238 : F_234 n64 = .inl (cs 17, 64, .inl fS) := by rw [he_235, up_ne (ne_ty2 ht_72 ht_80 (by simp))]; exact hF_224
    have hF_239 : F_234 xa = .inl (cs 17, 32, .inl fH) := by rw [he_235, up_ne (ne_ty2 ht_68 ht_80 (by simp))]; exact hF_225
    have hF_240 : F_234 h0 = .inr (15, (.ref ta) :: (.int (nI zt)) :: (.int (nI zo)) :: (.int (nI ze)) :: (.ref ou) :: (.ref so) :: (.ref ad) :: (.ref na) :: (.ref va) :: (.ref lc) :: (.ref dm) :: (.int (nI fm)) :: (.int (nI sn)) :: (.ref tg) :: (.int v14_29) :: (.int v15_30) :: (.ref pe) :: (.int v17_31) :: (.int v18_32) :: (.int v19_33) :: (.int v20_34) :: (.int v21_35) :: (.int v22_36) :: (.ref ml) :: (.ref bg) :: (.ref co) :: (.ref sp) :: (.ref nb0) :: (.ref nb1) :: (.ref nb2) :: (.int (nI nf)) :: (.int (nI bd)) :: (.int (nI mm)) :: (.int v33_37) :: (.ref pl) :: (.ref se) :: (.ref ke) :: (.ref wi) :: (.ref hs) :: (.ref mo) :: (.ref po) :: (.ref nu) :: (.ref pr) :: (.ref sq) :: (.ref xa) :: (.ref sa) :: (.ref n64) :: (.ref m64) :: (.ref ex) :: (.ref wh) :: (.ref sd) :: (.ref tk) :: (.int v52_38) :: (.int v53_39) :: (.int v54_40) :: (.ref hd) :: (.ref ak) :: (.ref ho) :: (.ref ot) :: []) := by rw [he_235, up_ne (ne_ty hT_h0 ht_80 (by simp))]; exact hF_226
    have hF_241 : F_234 hd = .inl (cs 16, 19, .inl f_98) := by rw [he_235, up_ne (ne_ty ht_84 ht_80 (by simp))]; exact hF_227
    have hF_242 : F_234 mo = .inl (cs 16, 33, .inl f2_103) := by rw [he_235, up_ne (ne_ty ht_48 ht_80 (by simp))]; exact hF_228
    have hF_243 : F_234 nu = .inl (cs 16, 33, .inl fn9) := by rw [he_235, up_ne (ne_ty ht_56 ht_80 (by simp))]; exact hF_229
    have hF_244 : F_234 po = .inl (cs 16, 33, .inl f2_178) := by rw [he_235, up_ne (ne_ty ht_52 ht_80 (by simp))]; exact hF_230
    obtain ⟨f_245, hF_236, hq_246, hfe_247⟩ : ∃ f : Nat → Int32, F_234 ex = .inl (cs 17, 64, .inl f) ∧ BFm f ∧ f = upd f_231 (12 : Int32).toNatClampNeg (vp_nar .byte (0)) := ⟨_, hF_236, bfm_upd hq_232 _ _, rfl⟩
    have hE13 := ex_13 hf0 hfe_219 hfe_233 hfe_247
    refine lv_iconst (v := 0) hx hb dX15_isPower_126 (by decide) ?_
    refine lv_istore_n (lv' := [(1, .int 0), (0, .ref h0)]) hx hb dX15_isPower_127 rfl hl (by decide) rfl (fun ls hl => ?_)
    refine W.widen (k := 0) (n := 0) (by omega) (by omega) ?_
    have hF_249 : F m64 = .inl (cs 17, 64, .inl fM) := (hR m64 (by rw [ht_76]; simp)).symm.trans hF_237
    have hF_250 : F n64 = .inl (cs 17, 64, .inl fS) := (hR n64 (by rw [ht_72]; simp)).symm.trans hF_238
    have hF_251 : F xa = .inl (cs 17, 32, .inl fH) := (hR xa (by rw [ht_68]; simp)).symm.trans hF_239
    have hF_252 : F h0 = .inr (15, (.ref ta) :: (.int (nI zt)) :: (.int (nI zo)) :: (.int (nI ze)) :: (.ref ou) :: (.ref so) :: (.ref ad) :: (.ref na) :: (.ref va) :: (.ref lc) :: (.ref dm) :: (.int (nI fm)) :: (.int (nI sn)) :: (.ref tg) :: (.int v14_29) :: (.int v15_30) :: (.ref pe) :: (.int v17_31) :: (.int v18_32) :: (.int v19_33) :: (.int v20_34) :: (.int v21_35) :: (.int v22_36) :: (.ref ml) :: (.ref bg) :: (.ref co) :: (.ref sp) :: (.ref nb0) :: (.ref nb1) :: (.ref nb2) :: (.int (nI nf)) :: (.int (nI bd)) :: (.int (nI mm)) :: (.int v33_37) :: (.ref pl) :: (.ref se) :: (.ref ke) :: (.ref wi) :: (.ref hs) :: (.ref mo) :: (.ref po) :: (.ref nu) :: (.ref pr) :: (.ref sq) :: (.ref xa) :: (.ref sa) :: (.ref n64) :: (.ref m64) :: (.ref ex) :: (.ref wh) :: (.ref sd) :: (.ref tk) :: (.int v52_38) :: (.int v53_39) :: (.int v54_40) :: (.ref hd) :: (.ref ak) :: (.ref ho) :: (.ref ot) :: []) := (hR h0 (by rw [hT_h0]; simp)).symm.trans hF_240
    have hF_253 : F hd = .inl (cs 16, 19, .inl f_98) := (hR hd (by rw [ht_84]; simp)).symm.trans hF_241
    refine pl_loopm (σ := Nat × (Nat → Int32)) A (dC, dI) cs ty gm L [ρ + 18, ρ + 87, ρ + 88, ρ + 89, ρ + 90, ρ + 23] F 128 3 (fun (j2, fe) => [(1, .int (nI j2)), (0, .ref h0)]) (fun (j2, fe) => []) (fun (j2, fe) FF => j2 ≤ 19 ∧ FF ex = .inl (cs 17, 64, .inl fe) ∧ (∀ j, j < 13 + j2 → fe j = vp_nar .byte (nI (duL.getD j 0))) ∧ FF po = .inl (cs 16, 33, .inl f2_178)) (fun (j2, fe) => 19 - j2) ?_ (0, f_245) F_234 (⟨by omega, hF_236, hE13, hF_244⟩) hO hR _ _ hP hD hS ls (lv_sub hl [0, 1] rfl)
    rintro ⟨j2, fe⟩ F_248 hv_254 hO hR ih_255 H locs hP hD hS ls hl
    have hl : lv_has ls 3 [(1, .int (nI j2)), (0, .ref h0)] := hl
    have hv_254 : j2 ≤ 19 ∧ F_248 ex = .inl (cs 17, 64, .inl fe) ∧ (∀ j, j < 13 + j2 → fe j = vp_nar .byte (nI (duL.getD j 0))) ∧ F_248 po = .inl (cs 16, 33, .inl f2_178) := hv_254
    refine W.eq (g2 := F0 m 128 ls []) rfl ?_
    have hF_256 : F_248 m64 = .inl (cs 17, 64, .inl fM) := (hR m64 (by rw [ht_76]; simp)).trans hF_249
    have hF_257 : F_248 n64 = .inl (cs 17, 64, .inl fS) := (hR n64 (by rw [ht_72]; simp)).trans hF_250
    have hF_258 : F_248 xa = .inl (cs 17, 32, .inl fH) := (hR xa (by rw [ht_68]; simp)).trans hF_251
    have hF_259 : F_248 h0 = .inr (15, (.ref ta) :: (.int (nI zt)) :: (.int (nI zo)) :: (.int (nI ze)) :: (.ref ou) :: (.ref so) :: (.ref ad) :: (.ref na) :: (.ref va) :: (.ref lc) :: (.ref dm) :: (.int (nI fm)) :: (.int (nI sn)) :: (.ref tg) :: (.int v14_29) :: (.int v15_30) :: (.ref pe) :: (.int v17_31) :: (.int v18_32) :: (.int v19_33) :: (.int v20_34) :: (.int v21_35) :: (.int v22_36) :: (.ref ml) :: (.ref bg) :: (.ref co) :: (.ref sp) :: (.ref nb0) :: (.ref nb1) :: (.ref nb2) :: (.int (nI nf)) :: (.int (nI bd)) :: (.int (nI mm)) :: (.int v33_37) :: (.ref pl) :: (.ref se) :: (.ref ke) :: (.ref wi) :: (.ref hs) :: (.ref mo) :: (.ref po) :: (.ref nu) :: (.ref pr) :: (.ref sq) :: (.ref xa) :: (.ref sa) :: (.ref n64) :: (.ref m64) :: (.ref ex) :: (.ref wh) :: (.ref sd) :: (.ref tk) :: (.int v52_38) :: (.int v53_39) :: (.int v54_40) :: (.ref hd) :: (.ref ak) :: (.ref ho) :: (.ref ot) :: []) := (hR h0 (by rw [hT_h0]; simp)).trans hF_252
    have hF_260 : F_248 hd = .inl (cs 16, 19, .inl f_98) := (hR hd (by rw [ht_84]; simp)).trans hF_253
    obtain ⟨hz1_, hz2_, hz3_, hz4_⟩ := id hv_254
    have hBE := bfmo hz2_ (hO.octs hi_79 ht_80)
    refine lv_iload_n hx hb dX15_isPower_128 rfl (lv_at hl 0 rfl) ?_
    refine lv_bipush (v := 19) hx hb dX15_isPower_129 (by decide) ?_
    refine lv_icmp_ge (tgt := 156) hx hb dX15_isPower_131 (by decide) (fun c_261 => ?_) (fun c_261 => ?_)
    ·
      have hi_262 : 19 ≤ j2 := leN (N := 19) c_261
      have hj19 : 19 ≤ j2 := (nI_leI (by omega) (by omega)).mp c_261
      obtain ⟨f_263, hF_264⟩ := hO.ints hi_63 ht_64
      have hBX := bfmo hF_258 (hO.octs hi_67 ht_68)
      refine lv_aload_n hx hb dX15_isPower_156 rfl (lv_at hl 1 rfl) ?_
      refine pg_get (ci := 15) (v := .ref xa) (C := RX15) (T := TX15) (N := 59) hx hb hts it_15 hown hK hP hL_h0 hF_259 rfl 44 (by decide) (hts _ kt_921) (fun _ h9 => h9) rfl dX15_isPower_157 ?_
      refine lv_iconst (v := 0) hx hb dX15_isPower_160 (by decide) ?_
      refine lv_aload_n hx hb dX15_isPower_161 rfl (lv_at hl 1 rfl) ?_
      refine pg_get (ci := 15) (v := .ref ex) (C := RX15) (T := TX15) (N := 59) hx hb hts it_15 hown hK hP hL_h0 hF_259 rfl 48 (by decide) (hts _ kt_917) (fun _ h9 => h9) rfl dX15_isPower_162 ?_
      refine lv_bipush (v := 32) hx hb dX15_isPower_165 (by decide) ?_
      refine lv_bipush (v := 32) hx hb dX15_isPower_167 (by decide) ?_
      refine pg_copyi hx hb (by rw [hml]; exact hl.1.symm) hown (hts _ kt_912) (hts _ kt_29) (hts _ kt_30) (hts _ kt_31) hK hP hD hS hi_67 hi_79 1 1 hF_258 hz2_ rfl rfl rfl (by decide) (by decide) (by decide) (by decide) (by decide) (fun _ _ => hBX _) (Nat.le_of_ble_eq_true rfl) (by decide) dX15_isPower_169 (fun H locs hP hD hS => ?_)
      obtain ⟨F_265, he_266, hP, hD, hO, hR⟩ : ∃ G, G = va_up F_248 ex (.inl (cs 17, 64, .inl (va_cpy fH fe (0 : Int32).toNatClampNeg (32 : Int32).toNatClampNeg (32 : Int32).toNatClampNeg))) ∧ va_P (dC, dI) vwCl (va_pl L G) H ∧ va_D A (va_pl L G) ∧ OKm cs ty gm L G ∧ FR ty [ρ + 18, ρ + 87, ρ + 88, ρ + 89, ρ + 90, ρ + 23] F G := ⟨_, rfl, hP, hD, hO.up (shm.octs ht_80 ⟨_, rfl, bfm_cpy hBX hBE _ _ _⟩), hR.up ht_80 (by simp)⟩
      have hF_267 : F_265 ex = .inl (cs 17, 64, .inl (va_cpy fH fe (0 : Int32).toNatClampNeg (32 : Int32).toNatClampNeg (32 : Int32).toNatClampNeg)) := by rw [he_266]; exact up_self
      have hF_268 : F_265 m64 = .inl (cs 17, 64, .inl fM) := by rw [he_266, up_ne (ne_ty2 ht_76 ht_80 (by simp))]; exact hF_256
      have hF_269 : F_265 n64 = .inl (cs 17, 64, .inl fS) := by rw [he_266, up_ne (ne_ty2 ht_72 ht_80 (by simp))]; exact hF_257
      have hF_270 : F_265 xa = .inl (cs 17, 32, .inl fH) := by rw [he_266, up_ne (ne_ty2 ht_68 ht_80 (by simp))]; exact hF_258
      have hF_271 : F_265 h0 = .inr (15, (.ref ta) :: (.int (nI zt)) :: (.int (nI zo)) :: (.int (nI ze)) :: (.ref ou) :: (.ref so) :: (.ref ad) :: (.ref na) :: (.ref va) :: (.ref lc) :: (.ref dm) :: (.int (nI fm)) :: (.int (nI sn)) :: (.ref tg) :: (.int v14_29) :: (.int v15_30) :: (.ref pe) :: (.int v17_31) :: (.int v18_32) :: (.int v19_33) :: (.int v20_34) :: (.int v21_35) :: (.int v22_36) :: (.ref ml) :: (.ref bg) :: (.ref co) :: (.ref sp) :: (.ref nb0) :: (.ref nb1) :: (.ref nb2) :: (.int (nI nf)) :: (.int (nI bd)) :: (.int (nI mm)) :: (.int v33_37) :: (.ref pl) :: (.ref se) :: (.ref ke) :: (.ref wi) :: (.ref hs) :: (.ref mo) :: (.ref po) :: (.ref nu) :: (.ref pr) :: (.ref sq) :: (.ref xa) :: (.ref sa) :: (.ref n64) :: (.ref m64) :: (.ref ex) :: (.ref wh) :: (.ref sd) :: (.ref tk) :: (.int v52_38) :: (.int v53_39) :: (.int v54_40) :: (.ref hd) :: (.ref ak) :: (.ref ho) :: (.ref ot) :: []) := by rw [he_266, up_ne (ne_ty hT_h0 ht_80 (by simp))]; exact hF_259
      have hF_272 : F_265 hd = .inl (cs 16, 19, .inl f_98) := by rw [he_266, up_ne (ne_ty ht_84 ht_80 (by simp))]; exact hF_260
      have hF_273 : F_265 po = .inl (cs 16, 33, .inl f2_178) := by rw [he_266, up_ne (ne_ty ht_52 ht_80 (by simp))]; exact hz4_
      have hF_274 : F_265 sq = .inl (cs 16, 33, .inl f_263) := by rw [he_266, up_ne (ne_ty ht_64 ht_80 (by simp))]; exact hF_264
      obtain ⟨f_275, hF_267, hq_276, hfe_277⟩ : ∃ f : Nat → Int32, F_265 ex = .inl (cs 17, 64, .inl f) ∧ BFm f ∧ f = va_cpy fH fe (0 : Int32).toNatClampNeg (32 : Int32).toNatClampNeg (32 : Int32).toNatClampNeg := ⟨_, hF_267, bfm_cpy hBX hBE _ _ _, rfl⟩
      have hBD : BYM (duW hh) 64 f_275 := by rw [hfe_277]; exact by_du (fun j hj => (cp32a j hj).trans (hz3_ j (by omega))) cp32b hBH
      refine lv_aload_n hx hb dX15_isPower_172 rfl (lv_at hl 1 rfl) ?_
      refine pg_get (ci := 15) (v := .ref ex) (C := RX15) (T := TX15) (N := 59) hx hb hts it_15 hown hK hP hL_h0 hF_271 rfl 48 (by decide) (hts _ kt_917) (fun _ h9 => h9) rfl dX15_isPower_173 ?_
      refine lv_aload_n hx hb dX15_isPower_176 rfl (lv_at hl 1 rfl) ?_
      refine pg_get (ci := 15) (v := .ref sq) (C := RX15) (T := TX15) (N := 59) hx hb hts it_15 hown hK hP hL_h0 hF_271 rfl 43 (by decide) (hts _ kt_922) (fun _ h9 => h9) rfl dX15_isPower_177 ?_
      have hFc := pg_free hD hS hA
      refine va_callv (va_runS (As := [.ref ex, .ref sq]) (rest := []) ⟨hx, hb, hml, hown, hts⟩ (s_X15_digits_x l dC dI cs ty gm L H.size F_265 ex (ρ + 23) sq (ρ + 90) f_275 (duW hh) hW hi_79 ht_80 hi_63 ht_64 hF_267 (hBD) (by omega)) ⟨callB_of 2 hts (gi kt_908) rfl rfl rfl (hts _ kt_669) (hts _ kt_909) (by decide +kernel) ⟨Nat.le_of_ble_eq_true rfl, Nat.le_of_ble_eq_true rfl⟩, (hts _ kt_910)⟩ ⟨fun a U g mk q => ⟨q.1, PTm.calling q.2⟩, fun U hU hWm => ⟨rfl, PTm.mk hU hWm hP hK hD hE hO⟩⟩ rfl rfl hl.1 rfl (lv_room (Nat.le_of_ble_eq_true rfl)) dX15_isPower_180 ⟨by show _ + 0 ≤ 0; omega, by show _ + 0 ≤ 0; omega⟩) hS (fun q _ h => hFc q h) hFc (fun u t H1 locs ht hvm hw hB hz1 hk1 hS => ?_)
      obtain ⟨F_279, f2_280, hB1, hq_281, hq_282⟩ := hB
      obtain ⟨hP, hD, hO, hR⟩ := QTm.back hB1 ht hFc hR (fun q h => by simp only [List.mem_cons, List.not_mem_nil, or_false] at h ⊢; omega)
      have hF_283 : F_279 ex = .inl (cs 17, 64, .inl f_275) := (hB1.2.2.2 ex (by rw [ht_80]; simp)).trans hF_267
      have hF_284 : F_279 m64 = .inl (cs 17, 64, .inl fM) := (hB1.2.2.2 m64 (by rw [ht_76]; simp)).trans hF_268
      have hF_285 : F_279 n64 = .inl (cs 17, 64, .inl fS) := (hB1.2.2.2 n64 (by rw [ht_72]; simp)).trans hF_269
      have hF_286 : F_279 xa = .inl (cs 17, 32, .inl fH) := (hB1.2.2.2 xa (by rw [ht_68]; simp)).trans hF_270
      have hF_287 : F_279 h0 = .inr (15, (.ref ta) :: (.int (nI zt)) :: (.int (nI zo)) :: (.int (nI ze)) :: (.ref ou) :: (.ref so) :: (.ref ad) :: (.ref na) :: (.ref va) :: (.ref lc) :: (.ref dm) :: (.int (nI fm)) :: (.int (nI sn)) :: (.ref tg) :: (.int v14_29) :: (.int v15_30) :: (.ref pe) :: (.int v17_31) :: (.int v18_32) :: (.int v19_33) :: (.int v20_34) :: (.int v21_35) :: (.int v22_36) :: (.ref ml) :: (.ref bg) :: (.ref co) :: (.ref sp) :: (.ref nb0) :: (.ref nb1) :: (.ref nb2) :: (.int (nI nf)) :: (.int (nI bd)) :: (.int (nI mm)) :: (.int v33_37) :: (.ref pl) :: (.ref se) :: (.ref ke) :: (.ref wi) :: (.ref hs) :: (.ref mo) :: (.ref po) :: (.ref nu) :: (.ref pr) :: (.ref sq) :: (.ref xa) :: (.ref sa) :: (.ref n64) :: (.ref m64) :: (.ref ex) :: (.ref wh) :: (.ref sd) :: (.ref tk) :: (.int v52_38) :: (.int v53_39) :: (.int v54_40) :: (.ref hd) :: (.ref ak) :: (.ref ho) :: (.ref ot) :: []) := (hB1.2.2.2 h0 (by rw [hT_h0]; simp)).trans hF_271
      have hF_288 : F_279 hd = .inl (cs 16, 19, .inl f_98) := (hB1.2.2.2 hd (by rw [ht_84]; simp)).trans hF_272
      have hF_289 : F_279 po = .inl (cs 16, 33, .inl f2_178) := (hB1.2.2.2 po (by rw [ht_52]; simp)).trans hF_273
      generalize H1 = H at hP hS ⊢
      have hLd := hq_282
      refine lv_iconst (v := 1) hx hb dX15_isPower_183 (by decide) ?_
      refine lv_istore_n (lv' := [(1, .int 1), (0, .ref h0)]) hx hb dX15_isPower_184 rfl hl (by decide) rfl (fun ls hl => ?_)
      refine lv_iconst (v := 0) hx hb dX15_isPower_185 (by decide) ?_
      refine lv_istore_n (lv' := [(2, .int 0), (1, .int 1), (0, .ref h0)]) hx hb dX15_isPower_186 rfl hl (by decide) rfl (fun ls hl => ?_)
      refine W.widen (k := 0) (n := 0) (by omega) (by omega) ?_
      have hF_291 : F m64 = .inl (cs 17, 64, .inl fM) := (hR m64 (by rw [ht_76]; simp)).symm.trans hF_284
      have hF_292 : F n64 = .inl (cs 17, 64, .inl fS) := (hR n64 (by rw [ht_72]; simp)).symm.trans hF_285
      have hF_293 : F xa = .inl (cs 17, 32, .inl fH) := (hR xa (by rw [ht_68]; simp)).symm.trans hF_286
      have hF_294 : F h0 = .inr (15, (.ref ta) :: (.int (nI zt)) :: (.int (nI zo)) :: (.int (nI ze)) :: (.ref ou) :: (.ref so) :: (.ref ad) :: (.ref na) :: (.ref va) :: (.ref lc) :: (.ref dm) :: (.int (nI fm)) :: (.int (nI sn)) :: (.ref tg) :: (.int v14_29) :: (.int v15_30) :: (.ref pe) :: (.int v17_31) :: (.int v18_32) :: (.int v19_33) :: (.int v20_34) :: (.int v21_35) :: (.int v22_36) :: (.ref ml) :: (.ref bg) :: (.ref co) :: (.ref sp) :: (.ref nb0) :: (.ref nb1) :: (.ref nb2) :: (.int (nI nf)) :: (.int (nI bd)) :: (.int (nI mm)) :: (.int v33_37) :: (.ref pl) :: (.ref se) :: (.ref ke) :: (.ref wi) :: (.ref hs) :: (.ref mo) :: (.ref po) :: (.ref nu) :: (.ref pr) :: (.ref sq) :: (.ref xa) :: (.ref sa) :: (.ref n64) :: (.ref m64) :: (.ref ex) :: (.ref wh) :: (.ref sd) :: (.ref tk) :: (.int v52_38) :: (.int v53_39) :: (.int v54_40) :: (.ref hd) :: (.ref ak) :: (.ref ho) :: (.ref ot) :: []) := (hR h0 (by rw [hT_h0]; simp)).symm.trans hF_287
      have hF_295 : F hd = .inl (cs 16, 19, .inl f_98) := (hR hd (by rw [ht_84]; simp)).symm.trans hF_288
      refine pl_loopm (σ := Nat × Int32) A (dC, dI) cs ty gm L [ρ + 18, ρ + 87, ρ + 88, ρ + 89, ρ + 90, ρ + 23] F 187 3 (fun (j3, w1) => [(2, .int (nI j3)), (1, .int w1), (0, .ref h0)]) (fun (j3, w1) => []) (fun (j3, w1) FF => j3 ≤ 33 ∧ FF sq = .inl (cs 16, 33, .inl f2_280) ∧ FF po = .inl (cs 16, 33, .inl f2_178) ∧ ((w1 = 1 ∧ ∀ i, i < j3 → dgt (duW hh) i = g2_179 i) ∨ (w1 = 0 ∧ ∃ i, i < 33 ∧ ¬ dgt (duW hh) i = g2_179 i))) (fun (j3, w1) => 33 - j3) ?_ (0, 1) F_279 (⟨by omega, hq_281, hF_289, Or.inl ⟨rfl, fun i hi => absurd hi (Nat.not_lt_zero _)⟩⟩) hO hR _ _ hP hD hS ls (lv_sub hl [0, 1, 2] rfl)
      rintro ⟨j3, w1⟩ F_290 hv_296 hO hR ih_297 H locs hP hD hS ls hl
      have hl : lv_has ls 3 [(2, .int (nI j3)), (1, .int w1), (0, .ref h0)] := hl
      have hv_296 : j3 ≤ 33 ∧ F_290 sq = .inl (cs 16, 33, .inl f2_280) ∧ F_290 po = .inl (cs 16, 33, .inl f2_178) ∧ ((w1 = 1 ∧ ∀ i, i < j3 → dgt (duW hh) i = g2_179 i) ∨ (w1 = 0 ∧ ∃ i, i < 33 ∧ ¬ dgt (duW hh) i = g2_179 i)) := hv_296
      refine W.eq (g2 := F0 m 187 ls []) rfl ?_
      have hF_298 : F_290 m64 = .inl (cs 17, 64, .inl fM) := (hR m64 (by rw [ht_76]; simp)).trans hF_291
      have hF_299 : F_290 n64 = .inl (cs 17, 64, .inl fS) := (hR n64 (by rw [ht_72]; simp)).trans hF_292
      have hF_300 : F_290 xa = .inl (cs 17, 32, .inl fH) := (hR xa (by rw [ht_68]; simp)).trans hF_293
      have hF_301 : F_290 h0 = .inr (15, (.ref ta) :: (.int (nI zt)) :: (.int (nI zo)) :: (.int (nI ze)) :: (.ref ou) :: (.ref so) :: (.ref ad) :: (.ref na) :: (.ref va) :: (.ref lc) :: (.ref dm) :: (.int (nI fm)) :: (.int (nI sn)) :: (.ref tg) :: (.int v14_29) :: (.int v15_30) :: (.ref pe) :: (.int v17_31) :: (.int v18_32) :: (.int v19_33) :: (.int v20_34) :: (.int v21_35) :: (.int v22_36) :: (.ref ml) :: (.ref bg) :: (.ref co) :: (.ref sp) :: (.ref nb0) :: (.ref nb1) :: (.ref nb2) :: (.int (nI nf)) :: (.int (nI bd)) :: (.int (nI mm)) :: (.int v33_37) :: (.ref pl) :: (.ref se) :: (.ref ke) :: (.ref wi) :: (.ref hs) :: (.ref mo) :: (.ref po) :: (.ref nu) :: (.ref pr) :: (.ref sq) :: (.ref xa) :: (.ref sa) :: (.ref n64) :: (.ref m64) :: (.ref ex) :: (.ref wh) :: (.ref sd) :: (.ref tk) :: (.int v52_38) :: (.int v53_39) :: (.int v54_40) :: (.ref hd) :: (.ref ak) :: (.ref ho) :: (.ref ot) :: []) := (hR h0 (by rw [hT_h0]; simp)).trans hF_294
      have hF_302 : F_290 hd = .inl (cs 16, 19, .inl f_98) := (hR hd (by rw [ht_84]; simp)).trans hF_295
      obtain ⟨hy1, hy2, hy3, hy4⟩ := id hv_296
      refine lv_iload_n hx hb dX15_isPower_187 rfl (lv_at hl 0 rfl) ?_
      refine lv_bipush (v := 33) hx hb dX15_isPower_188 (by decide) ?_
      refine lv_icmp_ge (tgt := 222) hx hb dX15_isPower_190 (by decide) (fun c_303 => ?_) (fun c_303 => ?_)
      ·
        have hi_304 : 33 ≤ j3 := leN (N := 33) c_303
        have hj33 : 33 ≤ j3 := (nI_leI (by omega) (by omega)).mp c_303
        refine lv_iload_n hx hb dX15_isPower_222 rfl (lv_at hl 1 rfl) ?_
        refine W.widen (k := 0) (n := 0) (by omega) (by omega) ?_
        exact W.zret (v := w1) (ty := .boolean) hx hb hr (bitN (hy4.elim (fun q => Or.inr q.1) (fun q => Or.inl q.1))) (fun t ht hWm => ⟨⟨w1, (), rfl, (by have hiff := sgo_m (bs := bs) (bm := bm) (h := hh) (fun i hi => (hL3 i hi).1) (fun k hk => (hBD k hk).1) hV3; rcases hy4 with q | q; exact Or.inl ⟨q.1, hiff.mp (fun i hi => q.2 i (by omega))⟩; exact Or.inr ⟨q.1, fun w => by obtain ⟨i9, k1, k2⟩ := q.2; exact k2 (hiff.mpr w i9 k1)⟩), ⟨F_290, QTm.mk ht hP hD hO hR⟩⟩, hS.F ht⟩) hS.2.2 dX15_isPower_223
      ·
        have hi_305 : j3 < 33 := ltN (N := 33) c_303
        have hj33 : j3 < 33 := Nat.not_le.mp (fun q => c_303 ((nI_leI (by omega) (by omega)).mpr q))
        refine lv_iload_n hx hb dX15_isPower_193 rfl (lv_at hl 1 rfl) ?_
        refine lv_aload_n hx hb dX15_isPower_194 rfl (lv_at hl 2 rfl) ?_
        refine pg_get (ci := 15) (v := .ref sq) (C := RX15) (T := TX15) (N := 59) hx hb hts it_15 hown hK hP hL_h0 hF_301 rfl 43 (by decide) (hts _ kt_922) (fun _ h9 => h9) rfl dX15_isPower_195 ?_
        refine lv_iload_n hx hb dX15_isPower_198 rfl (lv_at hl 0 rfl) ?_
        have hLd9 := (hLd j3 hj33).1
        have hL39 := (hL3 j3 hj33).1
        refine pg_iald hx hb hK hP hi_63 0 hy2 rfl (vp_in_nI (by omega) (by omega)) dX15_isPower_199 ?_
        refine lv_topi (fun x_306 ex_306 => ?_)
        obtain rfl : x_306 = (nI (dgt (duW hh) j3)) := ex_306.trans ((congrArg f2_280 (nI_clamp (by omega))).trans (hLd j3 hj33).2)
        refine lv_aload_n hx hb dX15_isPower_200 rfl (lv_at hl 2 rfl) ?_
        refine pg_get (ci := 15) (v := .ref po) (C := RX15) (T := TX15) (N := 59) hx hb hts it_15 hown hK hP hL_h0 hF_301 rfl 40 (by decide) (hts _ kt_817) (fun _ h9 => h9) rfl dX15_isPower_201 ?_
        refine lv_iload_n hx hb dX15_isPower_204 rfl (lv_at hl 0 rfl) ?_
        refine pg_iald hx hb hK hP hi_51 0 hy3 rfl (vp_in_nI (by omega) (by omega)) dX15_isPower_205 ?_
        refine lv_topi (fun x_307 ex_307 => ?_)
        obtain rfl : x_307 = (nI (g2_179 j3)) := ex_307.trans ((congrArg f2_178 (nI_clamp (by omega))).trans (hL3 j3 hj33).2)
        refine lv_icmp_ne (tgt := 213) hx hb dX15_isPower_206 (by decide) (fun c_308 => ?_) (fun c_308 => ?_)
        ·
          have hi_309 : (dgt (duW hh) j3) ≠ (g2_179 j3) := fun q => c_308 (by rw [q])
          have hde : ¬ dgt (duW hh) j3 = g2_179 j3 := fun q => c_308 (by rw [q])
          refine lv_iconst (v := 0) hx hb dX15_isPower_213 (by decide) ?_
          refine lv_iand hx hb dX15_isPower_214 ?_
          refine lv_topi (fun x_310 ex_310 => ?_)
          obtain rfl : x_310 = (w1 &&& 0) := ex_310.trans (rfl)
          refine lv_istore_n (lv' := [(1, .int (w1 &&& 0)), (2, .int (nI j3)), (0, .ref h0)]) hx hb dX15_isPower_215 rfl hl (by decide) rfl (fun ls hl => ?_)
          refine lv_iinc (v := (nI (j3 + 1))) (lv' := [(2, .int (nI (j3 + 1))), (1, .int (w1 &&& 0)), (0, .ref h0)]) hx hb dX15_isPower_216 hl (k := 1) rfl (nI_1 _) (by decide) rfl (fun ls hl => ?_)
          refine lv_goto (tgt := 187) hx hb dX15_isPower_219 (by decide) ?_
          refine W.widen (k := 0) (n := 0) (by omega) (by omega) ?_
          exact ih_297 ((j3 + 1), (w1 &&& 0)) F_290 (⟨by omega, hy2, hy3, (Or.inr ⟨by rcases hy4 with q | q <;> rw [q.1] <;> decide, j3, hj33, hde⟩)⟩) (by show 33 - (j3 + 1) < 33 - j3; omega) hO hR _ _ hP hD hS ls (lv_sub hl [0, 1, 2] rfl)
        ·
          have hi_311 : (dgt (duW hh) j3) = (g2_179 j3) := (nI_eq (a := (dgt (duW hh) j3)) (b := (g2_179 j3)) (by omega) (by omega)).mp c_308
          have hde : dgt (duW hh) j3 = g2_179 j3 := (nI_eq (by have h9 := (hLd j3 hj33).1; omega) (by have h9 := (hL3 j3 hj33).1; omega)).mp c_308
          refine lv_iconst (v := 1) hx hb dX15_isPower_209 (by decide) ?_
          refine lv_goto (tgt := 214) hx hb dX15_isPower_210 (by decide) ?_
          refine lv_iand hx hb dX15_isPower_214 ?_
          refine lv_topi (fun x_312 ex_312 => ?_)
          obtain rfl : x_312 = (w1 &&& 1) := ex_312.trans (rfl)
          refine lv_istore_n (lv' := [(1, .int (w1 &&& 1)), (2, .int (nI j3)), (0, .ref h0)]) hx hb dX15_isPower_215 rfl hl (by decide) rfl (fun ls hl => ?_)
          refine lv_iinc (v := (nI (j3 + 1))) (lv' := [(2, .int (nI (j3 + 1))), (1, .int (w1 &&& 1)), (0, .ref h0)]) hx hb dX15_isPower_216 hl (k := 1) rfl (nI_1 _) (by decide) rfl (fun ls hl => ?_)
          refine lv_goto (tgt := 187) hx hb dX15_isPower_219 (by decide) ?_
          refine W.widen (k := 0) (n := 0) (by omega) (by omega) ?_
          exact ih_297 ((j3 + 1), (w1 &&& 1)) F_290 (⟨by omega, hy2, hy3, (by rcases hy4 with q | q; exact Or.inl ⟨by rw [q.1]; decide, all_step q.2 hde⟩; exact Or.inr ⟨by rw [q.1]; decide, q.2⟩)⟩) (by show 33 - (j3 + 1) < 33 - j3; omega) hO hR _ _ hP hD hS ls (lv_sub hl [0, 1, 2] rfl)
    ·
      have hi_313 : j2 < 19 := ltN (N := 19) c_261
      have hj19 : j2 < 19 := Nat.not_le.mp (fun q => c_261 ((nI_leI (by omega) (by omega)).mpr q))
      refine lv_aload_n hx hb dX15_isPower_134 rfl (lv_at hl 1 rfl) ?_
      refine pg_get (ci := 15) (v := .ref ex) (C := RX15) (T := TX15) (N := 59) hx hb hts it_15 hown hK hP hL_h0 hF_259 rfl 48 (by decide) (hts _ kt_917) (fun _ h9 => h9) rfl dX15_isPower_135 ?_
      refine lv_bipush (v := 13) hx hb dX15_isPower_138 (by decide) ?_
      refine lv_iload_n hx hb dX15_isPower_140 rfl (lv_at hl 0 rfl) ?_
      refine lv_iadd hx hb dX15_isPower_141 ?_
      refine lv_topi (fun x_314 ex_314 => ?_)
      obtain rfl : x_314 = (nI (13 + j2)) := ex_314.trans (nI_add 13 j2)
      refine lv_aload_n hx hb dX15_isPower_142 rfl (lv_at hl 1 rfl) ?_
      refine pg_get (ci := 15) (v := .ref hd) (C := RX15) (T := TX15) (N := 59) hx hb hts it_15 hown hK hP hL_h0 hF_259 rfl 55 (by decide) (hts _ kt_923) (fun _ h9 => h9) rfl dX15_isPower_143 ?_
      refine lv_iload_n hx hb dX15_isPower_146 rfl (lv_at hl 0 rfl) ?_
      refine pg_iald hx hb hK hP hi_83 0 hF_260 rfl (vp_in_nI (by omega) (by omega)) dX15_isPower_147 ?_
      refine lv_topi (fun x_315 ex_315 => ?_)
      obtain rfl : x_315 = (shK 19 j2) := ex_315.trans ((congrArg f_98 (nI_clamp (by omega))).trans (hq_100 j2 hj19))
      refine lv_i2b hx hb dX15_isPower_148 rfl ?_
      refine lv_topi (fun x_316 ex_316 => ?_)
      obtain rfl : x_316 = ((shK 19 j2).toInt8.toInt32) := ex_316.trans (rfl)
      refine pg_bast hx hb hK hP hD hS hi_79 1 hz2_ rfl (vp_in_nI (by omega) (by omega)) dX15_isPower_149 (fun H locs hP hD hS => ?_)
      obtain ⟨F_317, he_318, hP, hD, hO, hR⟩ : ∃ G, G = va_up F_248 ex (.inl (cs 17, 64, .inl (upd fe ((nI (13 + j2))).toNatClampNeg (vp_nar .byte (((shK 19 j2).toInt8.toInt32)))))) ∧ va_P (dC, dI) vwCl (va_pl L G) H ∧ va_D A (va_pl L G) ∧ OKm cs ty gm L G ∧ FR ty [ρ + 18, ρ + 87, ρ + 88, ρ + 89, ρ + 90, ρ + 23] F G := ⟨_, rfl, hP, hD, hO.up (shm.octs ht_80 ⟨_, rfl, bfm_upd hBE _ _⟩), hR.up ht_80 (by simp)⟩
      have hF_319 : F_317 ex = .inl (cs 17, 64, .inl (upd fe ((nI (13 + j2))).toNatClampNeg (vp_nar .byte (((shK 19 j2).toInt8.toInt32))))) := by rw [he_318]; exact up_self
      have hF_320 : F_317 m64 = .inl (cs 17, 64, .inl fM) := by rw [he_318, up_ne (ne_ty2 ht_76 ht_80 (by simp))]; exact hF_256
      have hF_321 : F_317 n64 = .inl (cs 17, 64, .inl fS) := by rw [he_318, up_ne (ne_ty2 ht_72 ht_80 (by simp))]; exact hF_257
      have hF_322 : F_317 xa = .inl (cs 17, 32, .inl fH) := by rw [he_318, up_ne (ne_ty2 ht_68 ht_80 (by simp))]; exact hF_258
      have hF_323 : F_317 h0 = .inr (15, (.ref ta) :: (.int (nI zt)) :: (.int (nI zo)) :: (.int (nI ze)) :: (.ref ou) :: (.ref so) :: (.ref ad) :: (.ref na) :: (.ref va) :: (.ref lc) :: (.ref dm) :: (.int (nI fm)) :: (.int (nI sn)) :: (.ref tg) :: (.int v14_29) :: (.int v15_30) :: (.ref pe) :: (.int v17_31) :: (.int v18_32) :: (.int v19_33) :: (.int v20_34) :: (.int v21_35) :: (.int v22_36) :: (.ref ml) :: (.ref bg) :: (.ref co) :: (.ref sp) :: (.ref nb0) :: (.ref nb1) :: (.ref nb2) :: (.int (nI nf)) :: (.int (nI bd)) :: (.int (nI mm)) :: (.int v33_37) :: (.ref pl) :: (.ref se) :: (.ref ke) :: (.ref wi) :: (.ref hs) :: (.ref mo) :: (.ref po) :: (.ref nu) :: (.ref pr) :: (.ref sq) :: (.ref xa) :: (.ref sa) :: (.ref n64) :: (.ref m64) :: (.ref ex) :: (.ref wh) :: (.ref sd) :: (.ref tk) :: (.int v52_38) :: (.int v53_39) :: (.int v54_40) :: (.ref hd) :: (.ref ak) :: (.ref ho) :: (.ref ot) :: []) := by rw [he_318, up_ne (ne_ty hT_h0 ht_80 (by simp))]; exact hF_259
      have hF_324 : F_317 hd = .inl (cs 16, 19, .inl f_98) := by rw [he_318, up_ne (ne_ty ht_84 ht_80 (by simp))]; exact hF_260
      have hF_325 : F_317 po = .inl (cs 16, 33, .inl f2_178) := by rw [he_318, up_ne (ne_ty ht_52 ht_80 (by simp))]; exact hz4_
      obtain ⟨f_326, hF_319, hq_327, hfe_328⟩ : ∃ f : Nat → Int32, F_317 ex = .inl (cs 17, 64, .inl f) ∧ BFm f ∧ f = upd fe ((nI (13 + j2))).toNatClampNeg (vp_nar .byte (((shK 19 j2).toInt8.toInt32))) := ⟨_, hF_319, bfm_upd hBE _ _, rfl⟩
      refine lv_iinc (v := (nI (j2 + 1))) (lv' := [(1, .int (nI (j2 + 1))), (0, .ref h0)]) hx hb dX15_isPower_150 hl (k := 0) rfl (nI_1 _) (by decide) rfl (fun ls hl => ?_)
      refine lv_goto (tgt := 128) hx hb dX15_isPower_153 (by decide) ?_
      refine W.widen (k := 0) (n := 0) (by omega) (by omega) ?_
      exact ih_255 ((j2 + 1), f_326) F_317 (⟨by omega, hF_319, ex_st hz3_ (hfe_328.trans (by rw [nI_clamp (by omega)])) (hd_b j2 hj19), hF_325⟩) (by show 19 - (j2 + 1) < 19 - j2; omega) hO hR _ _ hP hD hS ls (lv_sub hl [0, 1] rfl)
  ·
    have hi_329 : j < 16 := ltN (N := 16) c_174
    have hj16 : j < 16 := Nat.not_le.mp (fun q => c_174 ((nI_leI (by omega) (by omega)).mpr q))
    obtain ⟨f_330, hF_331⟩ := hO.ints hi_63 ht_64
    refine lv_aload_n hx hb dX15_isPower_59 rfl (lv_at hl 1 rfl) ?_
    refine pg_get (ci := 15) (v := .ref po) (C := RX15) (T := TX15) (N := 59) hx hb hts it_15 hown hK hP hL_h0 hF_172 rfl 40 (by decide) (hts _ kt_817) (fun _ h9 => h9) rfl dX15_isPower_60 ?_
    refine lv_iconst (v := 0) hx hb dX15_isPower_63 (by decide) ?_
    refine lv_aload_n hx hb dX15_isPower_64 rfl (lv_at hl 1 rfl) ?_
    refine pg_get (ci := 15) (v := .ref sq) (C := RX15) (T := TX15) (N := 59) hx hb hts it_15 hown hK hP hL_h0 hF_172 rfl 43 (by decide) (hts _ kt_922) (fun _ h9 => h9) rfl dX15_isPower_65 ?_
    refine lv_iconst (v := 0) hx hb dX15_isPower_68 (by decide) ?_
    refine lv_bipush (v := 33) hx hb dX15_isPower_69 (by decide) ?_
    refine pg_copyi hx hb (by rw [hml]; exact hl.1.symm) hown (hts _ kt_912) (hts _ kt_29) (hts _ kt_30) (hts _ kt_31) hK hP hD hS hi_51 hi_63 0 0 hv4 hF_331 rfl rfl rfl (by decide) (by decide) (by decide) (by decide) (by decide) (fun _ _ => rfl) (Nat.le_of_ble_eq_true rfl) (by decide) dX15_isPower_71 (fun H locs hP hD hS => ?_)
    obtain ⟨F_332, he_333, hP, hD, hO, hR⟩ : ∃ G, G = va_up F_161 sq (.inl (cs 16, 33, .inl (va_cpy fq f_330 (0 : Int32).toNatClampNeg (0 : Int32).toNatClampNeg (33 : Int32).toNatClampNeg))) ∧ va_P (dC, dI) vwCl (va_pl L G) H ∧ va_D A (va_pl L G) ∧ OKm cs ty gm L G ∧ FR ty [ρ + 18, ρ + 87, ρ + 88, ρ + 89, ρ + 90, ρ + 23] F G := ⟨_, rfl, hP, hD, hO.up (shm.ints ht_64 ⟨_, rfl⟩), hR.up ht_64 (by simp)⟩
    have hF_334 : F_332 sq = .inl (cs 16, 33, .inl (va_cpy fq f_330 (0 : Int32).toNatClampNeg (0 : Int32).toNatClampNeg (33 : Int32).toNatClampNeg)) := by rw [he_333]; exact up_self
    have hF_335 : F_332 m64 = .inl (cs 17, 64, .inl fM) := by rw [he_333, up_ne (ne_ty ht_76 ht_64 (by simp))]; exact hF_169
    have hF_336 : F_332 n64 = .inl (cs 17, 64, .inl fS) := by rw [he_333, up_ne (ne_ty ht_72 ht_64 (by simp))]; exact hF_170
    have hF_337 : F_332 xa = .inl (cs 17, 32, .inl fH) := by rw [he_333, up_ne (ne_ty ht_68 ht_64 (by simp))]; exact hF_171
    have hF_338 : F_332 h0 = .inr (15, (.ref ta) :: (.int (nI zt)) :: (.int (nI zo)) :: (.int (nI ze)) :: (.ref ou) :: (.ref so) :: (.ref ad) :: (.ref na) :: (.ref va) :: (.ref lc) :: (.ref dm) :: (.int (nI fm)) :: (.int (nI sn)) :: (.ref tg) :: (.int v14_29) :: (.int v15_30) :: (.ref pe) :: (.int v17_31) :: (.int v18_32) :: (.int v19_33) :: (.int v20_34) :: (.int v21_35) :: (.int v22_36) :: (.ref ml) :: (.ref bg) :: (.ref co) :: (.ref sp) :: (.ref nb0) :: (.ref nb1) :: (.ref nb2) :: (.int (nI nf)) :: (.int (nI bd)) :: (.int (nI mm)) :: (.int v33_37) :: (.ref pl) :: (.ref se) :: (.ref ke) :: (.ref wi) :: (.ref hs) :: (.ref mo) :: (.ref po) :: (.ref nu) :: (.ref pr) :: (.ref sq) :: (.ref xa) :: (.ref sa) :: (.ref n64) :: (.ref m64) :: (.ref ex) :: (.ref wh) :: (.ref sd) :: (.ref tk) :: (.int v52_38) :: (.int v53_39) :: (.int v54_40) :: (.ref hd) :: (.ref ak) :: (.ref ho) :: (.ref ot) :: []) := by rw [he_333, up_ne (ne_ty hT_h0 ht_64 (by simp))]; exact hF_172
    have hF_339 : F_332 hd = .inl (cs 16, 19, .inl f_98) := by rw [he_333, up_ne (ne_ty ht_84 ht_64 (by simp))]; exact hF_173
    have hF_340 : F_332 mo = .inl (cs 16, 33, .inl f2_103) := by rw [he_333, up_ne (ne_ty2 ht_48 ht_64 (by simp))]; exact hv2
    have hF_341 : F_332 nu = .inl (cs 16, 33, .inl fn9) := by rw [he_333, up_ne (ne_ty2 ht_56 ht_64 (by simp))]; exact hv3
    have hF_342 : F_332 po = .inl (cs 16, 33, .inl fq) := by rw [he_333, up_ne (ne_ty2 ht_52 ht_64 (by simp))]; exact hv4
    obtain ⟨fs9, hFs9, hLs9⟩ : ∃ f : Nat → Int32, F_332 sq = .inl (cs 16, 33, .inl f) ∧ LMq 33 gz f := ⟨_, hF_334, hv5.cg cpy33⟩
    refine lv_aload_n hx hb dX15_isPower_74 rfl (lv_at hl 1 rfl) ?_
    refine lv_aload_n hx hb dX15_isPower_75 rfl (lv_at hl 1 rfl) ?_
    refine pg_get (ci := 15) (v := .ref sq) (C := RX15) (T := TX15) (N := 59) hx hb hts it_15 hown hK hP hL_h0 hF_338 rfl 43 (by decide) (hts _ kt_922) (fun _ h9 => h9) rfl dX15_isPower_76 ?_
    have hFc := pg_free hD hS hA
    refine va_callv (va_runV (As := [.ref sq]) (rest := []) ⟨hx, hb, hml, hown, hts⟩ (s_X15_times_x l dC dI cs ty gm L H.size F_332 h0 ρ ta ou so ad na va lc dm tg pe ml bg co sp nb0 nb1 nb2 pl se ke wi hs mo po nu pr sq xa sa n64 m64 ex wh sd tk hd ak ho ot sx s0 s1 s2 nf bd mm zo fm sn hg gc gv ze zt sq (ρ + 90) fq f2_103 fs9 gz (dgt bm) gz hW hL_h0 hT_h0 hi_63 ht_64 hF_342 (hv5) hF_340 (hLm) (hN0) (hNt) hFs9 (hLs9) (hpt) (hpt) (Or.inr rfl)) ⟨callB_of 1 hts (gi kt_913) rfl rfl rfl (hts _ kt_669) (hts _ kt_914) (by decide +kernel) ⟨Nat.le_of_ble_eq_true rfl, Nat.le_of_ble_eq_true rfl⟩, (hts _ kt_915), (hts _ kt_916)⟩ ⟨fun a U g mk q => ⟨q.1, PTm.calling q.2⟩, pg_recv hK hP hL_h0 hF_338 (q := (RX15, TX15, 59)) rfl, fun U hU hWm => ⟨rfl, PTm.mk hU hWm hP hK hD hE hO⟩⟩ rfl rfl hl.1 rfl (lv_room (Nat.le_of_ble_eq_true rfl)) dX15_isPower_79 ⟨by show _ + 0 ≤ 0; omega, by show _ + 0 ≤ 0; omega⟩) hS (fun q _ h => hFc q h) hFc (fun u t H1 locs ht hvm hw hB hz1 hk1 hS => ?_)
    obtain ⟨F_344, f2_345, g2_346, hB1, hq_347, hq_348, hq_349⟩ := hB
    obtain ⟨hP, hD, hO, hR⟩ := QTm.back hB1 ht hFc hR (fun q h => by simp only [List.mem_cons, List.not_mem_nil, or_false] at h ⊢; omega)
    have hF_350 : F_344 sq = .inl (cs 16, 33, .inl fs9) := (hB1.2.2.2 sq (by rw [ht_64]; simp)).trans hFs9
    have hF_351 : F_344 m64 = .inl (cs 17, 64, .inl fM) := (hB1.2.2.2 m64 (by rw [ht_76]; simp)).trans hF_335
    have hF_352 : F_344 n64 = .inl (cs 17, 64, .inl fS) := (hB1.2.2.2 n64 (by rw [ht_72]; simp)).trans hF_336
    have hF_353 : F_344 xa = .inl (cs 17, 32, .inl fH) := (hB1.2.2.2 xa (by rw [ht_68]; simp)).trans hF_337
    have hF_354 : F_344 h0 = .inr (15, (.ref ta) :: (.int (nI zt)) :: (.int (nI zo)) :: (.int (nI ze)) :: (.ref ou) :: (.ref so) :: (.ref ad) :: (.ref na) :: (.ref va) :: (.ref lc) :: (.ref dm) :: (.int (nI fm)) :: (.int (nI sn)) :: (.ref tg) :: (.int v14_29) :: (.int v15_30) :: (.ref pe) :: (.int v17_31) :: (.int v18_32) :: (.int v19_33) :: (.int v20_34) :: (.int v21_35) :: (.int v22_36) :: (.ref ml) :: (.ref bg) :: (.ref co) :: (.ref sp) :: (.ref nb0) :: (.ref nb1) :: (.ref nb2) :: (.int (nI nf)) :: (.int (nI bd)) :: (.int (nI mm)) :: (.int v33_37) :: (.ref pl) :: (.ref se) :: (.ref ke) :: (.ref wi) :: (.ref hs) :: (.ref mo) :: (.ref po) :: (.ref nu) :: (.ref pr) :: (.ref sq) :: (.ref xa) :: (.ref sa) :: (.ref n64) :: (.ref m64) :: (.ref ex) :: (.ref wh) :: (.ref sd) :: (.ref tk) :: (.int v52_38) :: (.int v53_39) :: (.int v54_40) :: (.ref hd) :: (.ref ak) :: (.ref ho) :: (.ref ot) :: []) := (hB1.2.2.2 h0 (by rw [hT_h0]; simp)).trans hF_338
    have hF_355 : F_344 hd = .inl (cs 16, 19, .inl f_98) := (hB1.2.2.2 hd (by rw [ht_84]; simp)).trans hF_339
    have hF_356 : F_344 mo = .inl (cs 16, 33, .inl f2_103) := (hB1.2.2.2 mo (by rw [ht_48]; simp)).trans hF_340
    have hF_357 : F_344 nu = .inl (cs 16, 33, .inl fn9) := (hB1.2.2.2 nu (by rw [ht_56]; simp)).trans hF_341
    generalize H1 = H at hP hS ⊢
    have hL7 := hq_348
    refine lv_iinc (v := (nI (j + 1))) (lv' := [(1, .int (nI (j + 1))), (0, .ref h0)]) hx hb dX15_isPower_82 hl (k := 0) rfl (nI_1 _) (by decide) rfl (fun ls hl => ?_)
    refine lv_goto (tgt := 53) hx hb dX15_isPower_85 (by decide) ?_
    refine W.widen (k := 0) (n := 0) (by omega) (by omega) ?_
    exact ih_168 ((j + 1), f2_345, g2_346) F_344 (⟨by omega, hF_356, hF_357, hq_347, hL7, (by rw [hq_349]; exact sq_mod hmm9)⟩) (by show 16 - (j + 1) < 16 - j; omega) hO hR _ _ hP hD hS ls (lv_sub hl [0, 1] rfl)
