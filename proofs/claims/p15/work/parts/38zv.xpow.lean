def lus (x : Int64) (k : Int32) : Int64 := (x.toUInt64 >>> (k.toInt64.toUInt64 &&& Int64.toUInt64 63)).toInt64
def lsl (x : Int64) (k : Int32) : Int64 := x <<< (k.toInt64 &&& 63)
def lsr (x : Int64) (k : Int32) : Int64 := x >>> (k.toInt64 &&& 63)
def uN (x : Int64) : Nat := x.toBitVec.toNat
theorem uN_lt (x : Int64) : uN x < 18446744073709551616 := x.toBitVec.isLt
theorem uN_add (x y : Int64) : uN (x + y) = (uN x + uN y) % 18446744073709551616 := rfl
theorem uN_mul (x y : Int64) : uN (x * y) = (uN x * uN y) % 18446744073709551616 := rfl
theorem uN_sub (x y : Int64) : uN (x - y) = ((18446744073709551616 - uN y) + uN x) % 18446744073709551616 := rfl
theorem uN_and (x y : Int64) : uN (x &&& y) = uN x &&& uN y := by
  show (x &&& y).toBitVec.toNat = _
  rw [Int64.toBitVec_and, BitVec.toNat_and]
  rfl
theorem uN_or (x y : Int64) : uN (x ||| y) = uN x ||| uN y := by
  show (x ||| y).toBitVec.toNat = _
  rw [Int64.toBitVec_or, BitVec.toNat_or]
  rfl
theorem uN_xor (x y : Int64) : uN (x ^^^ y) = uN x ^^^ uN y := by
  show (x ^^^ y).toBitVec.toNat = _
  rw [Int64.toBitVec_xor, BitVec.toNat_xor]
  rfl
theorem uN_mask (x : Int64) : uN (x &&& 4294967295) = uN x % 4294967296 := by
  rw [uN_and, show uN 4294967295 = 2 ^ 32 - 1 by decide, Nat.and_two_pow_sub_one_eq_mod]
theorem uN_not (x : Int64) (h : uN x < 4294967296) : uN (x ^^^ 4294967295) = 4294967295 - uN x := by
  rw [uN_xor, show uN 4294967295 = 2 ^ 32 - 1 by decide, show 4294967295 - uN x = 2 ^ 32 - (uN x + 1) by omega]
  refine Nat.eq_of_testBit_eq (fun i => ?_)
  rw [Nat.testBit_xor, Nat.testBit_two_pow_sub_one, Nat.testBit_two_pow_sub_succ (show uN x < 2 ^ 32 from h)]
  rcases Nat.lt_or_ge i 32 with q | q
  · rw [decide_eq_true q]
    cases Nat.testBit (uN x) i <;> rfl
  · rw [decide_eq_false (Nat.not_lt.mpr q), Nat.testBit_lt_two_pow (Nat.lt_of_lt_of_le (show uN x < 2 ^ 32 from h) (Nat.pow_le_pow_right (by decide) q))]
    rfl
theorem uN_s32 (x : Int64) : uN (lus x 32) = uN x / 4294967296 := by
  show (x.toUInt64 >>> ((32 : Int32).toInt64.toUInt64 &&& Int64.toUInt64 63)).toNat = _
  rw [UInt64.toNat_shiftRight, show ((32 : Int32).toInt64.toUInt64 &&& Int64.toUInt64 63).toNat % 64 = 32 by decide, Nat.shiftRight_eq_div_pow]
  rfl
theorem uN_s63 (x : Int64) : uN (lus x 63) = uN x / 9223372036854775808 := by
  show (x.toUInt64 >>> ((63 : Int32).toInt64.toUInt64 &&& Int64.toUInt64 63)).toNat = _
  rw [UInt64.toNat_shiftRight, show ((63 : Int32).toInt64.toUInt64 &&& Int64.toUInt64 63).toNat % 64 = 63 by decide, Nat.shiftRight_eq_div_pow]
  rfl
theorem uN_l8 (x : Int64) : uN (lsl x 8) = uN x * 256 % 18446744073709551616 := by
  show (x <<< ((8 : Int32).toInt64 &&& 63)).toBitVec.toNat = _
  rw [Int64.toBitVec_shiftLeft, show ((8 : Int32).toInt64 &&& 63 : Int64).toBitVec.smod (64 : BitVec 64) = (8 : BitVec 64) by decide, BitVec.shiftLeft_eq', BitVec.toNat_shiftLeft, Nat.shiftLeft_eq]
  rfl
theorem uN_l1 (x : Int64) : uN (lsl x 1) = uN x * 2 % 18446744073709551616 := by
  show (x <<< ((1 : Int32).toInt64 &&& 63)).toBitVec.toNat = _
  rw [Int64.toBitVec_shiftLeft, show ((1 : Int32).toInt64 &&& 63 : Int64).toBitVec.smod (64 : BitVec 64) = (1 : BitVec 64) by decide, BitVec.shiftLeft_eq', BitVec.toNat_shiftLeft, Nat.shiftLeft_eq]
  rfl
theorem or_ad {a b k : Nat} (h : b < 2 ^ k) : a * 2 ^ k ||| b = a * 2 ^ k + b := by
  rw [← Nat.shiftLeft_eq, Nat.shiftLeft_add_eq_or_of_lt h]
theorem uN_o8 {x y : Int64} (hx : uN x < 72057594037927936) (hy : uN y < 256) : uN (lsl x 8 ||| y) = uN x * 256 + uN y := by
  rw [uN_or, uN_l8, Nat.mod_eq_of_lt (by omega)]
  exact or_ad (k := 8) hy
theorem uN_o1 {x y : Int64} (hx : uN x < 9223372036854775808) (hy : uN y < 2) : uN (lsl x 1 ||| y) = uN x * 2 + uN y := by
  rw [uN_or, uN_l1, Nat.mod_eq_of_lt (by omega)]
  exact or_ad (k := 1) hy
theorem uN_toInt {x : Int64} (h : uN x < 9223372036854775808) : x.toInt = (uN x : Int) := by
  show x.toBitVec.toInt = _
  exact BitVec.toInt_eq_toNat_of_lt (show 2 * uN x < 18446744073709551616 by omega)
theorem uN_lts {x y : Int64} (hx : uN x < 9223372036854775808) (hy : uN y < 9223372036854775808) : x < y ↔ uN x < uN y := by
  rw [Int64.lt_iff_toInt_lt, uN_toInt hx, uN_toInt hy]
  omega
def lvb (b : Nat) (f : Nat → Nat) : Nat → Nat
  | 0 => 0
  | n + 1 => lvb b f n + f n * b ^ n
theorem lvb_0 (b : Nat) (f : Nat → Nat) : lvb b f 0 = 0 := rfl
theorem lvb_s (b : Nat) (f : Nat → Nat) (n : Nat) : lvb b f (n + 1) = lvb b f n + f n * b ^ n := rfl
theorem lvb_ext {b : Nat} {f g : Nat → Nat} : ∀ n, (∀ k, k < n → f k = g k) → lvb b f n = lvb b g n := by
  intro n
  induction n with
  | zero => intro _; rfl
  | succ n ih =>
    intro h
    rw [lvb_s, lvb_s, ih (fun k hk => h k (by omega)), h n (by omega)]
theorem lvb_lt {b : Nat} {f : Nat → Nat} : ∀ n, (∀ k, k < n → f k < b) → lvb b f n < b ^ n := by
  intro n
  induction n with
  | zero => intro _; exact Nat.lt_of_lt_of_eq Nat.zero_lt_one (Nat.pow_zero b).symm
  | succ n ih =>
    intro h
    have h1 := ih (fun k hk => h k (by omega))
    have h2 : (f n + 1) * b ^ n ≤ b * b ^ n := Nat.mul_le_mul_right _ (h n (by omega))
    rw [lvb_s, Nat.pow_succ, Nat.mul_comm (b ^ n) b]
    rw [Nat.add_mul, Nat.one_mul] at h2
    omega
theorem lvb_sh {b : Nat} : ∀ (n : Nat) (f : Nat → Nat), lvb b f (n + 1) = f 0 + b * lvb b (fun k => f (k + 1)) n := by
  intro n f
  induction n with
  | zero => rw [lvb_s, lvb_0, lvb_0, Nat.pow_zero, Nat.mul_one, Nat.mul_zero, Nat.zero_add, Nat.add_zero]
  | succ n ih =>
    rw [lvb_s, ih, lvb_s, Nat.mul_add, Nat.pow_succ, Nat.add_assoc, show f (n + 1) * (b ^ n * b) = b * (f (n + 1) * b ^ n) by ac_rfl]
theorem lvb_uniq {b : Nat} {f g : Nat → Nat} : ∀ n, (∀ k, k < n → f k < b) → (∀ k, k < n → g k < b) → lvb b f n = lvb b g n → ∀ k, k < n → f k = g k := by
  intro n
  induction n with
  | zero => intro _ _ _ k hk; exact absurd hk (Nat.not_lt_zero _)
  | succ n ih =>
    intro hf hg he k hk
    have h1 := lvb_lt n (fun k hk => hf k (by omega))
    have h2 := lvb_lt n (fun k hk => hg k (by omega))
    rw [lvb_s, lvb_s] at he
    have h3 : lvb b f n = lvb b g n := by
      have h4 : (lvb b f n + f n * b ^ n) % b ^ n = (lvb b g n + g n * b ^ n) % b ^ n := by rw [he]
      rwa [Nat.add_mul_mod_self_right, Nat.add_mul_mod_self_right, Nat.mod_eq_of_lt h1, Nat.mod_eq_of_lt h2] at h4
    rcases Nat.lt_or_ge k n with q | q
    · exact ih (fun k hk => hf k (by omega)) (fun k hk => hg k (by omega)) h3 k q
    · have h5 : k = n := by omega
      have h6 : f n * b ^ n = g n * b ^ n := by omega
      rw [h5]
      exact Nat.eq_of_mul_eq_mul_right (by omega) h6
theorem at_step {B j lf lf0 lg t0 s0 g0 c0 s1 c1 : Nat} (h : lf + c0 * B ^ j = lf0 + lg * t0) (h' : s1 + c1 * B = s0 + g0 * t0 + c0) : (lf + s1 * B ^ j) + c1 * B ^ (j + 1) = (lf0 + s0 * B ^ j) + (lg + g0 * B ^ j) * t0 := by
  rw [Nat.pow_succ]
  generalize B ^ j = P at h ⊢
  have e2 : (s1 + c1 * B) * P = (s0 + g0 * t0 + c0) * P := by rw [h']
  rw [Nat.add_mul, Nat.add_mul, Nat.add_mul] at e2
  rw [Nat.add_mul, show c1 * (P * B) = c1 * B * P by ac_rfl, show g0 * P * t0 = g0 * t0 * P by ac_rfl]
  omega
theorem mg_step {B i S S1 a b0 lb n q Q : Nat} (h : S * B ^ i = a * lb + n * Q) (h1 : S1 * B = S + a * b0 + n * q) : S1 * B ^ (i + 1) = a * (lb + b0 * B ^ i) + n * (Q + q * B ^ i) := by
  rw [Nat.pow_succ]
  generalize B ^ i = P at h ⊢
  have e2 : (S1 * B) * P = (S + a * b0 + n * q) * P := by rw [h1]
  rw [Nat.add_mul, Nat.add_mul, h] at e2
  rw [show S1 * (P * B) = S1 * B * P by ac_rfl, e2, Nat.mul_add, Nat.mul_add, show a * b0 * P = a * (b0 * P) by ac_rfl, show n * q * P = n * (q * P) by ac_rfl]
  omega
theorem mg_lt {B S S1 a b0 n q : Nat} (h1 : S1 * B = S + a * b0 + n * q) (hS : S < 2 * n) (ha : a < n) (hb : b0 < B) (hq : q < B) : S1 < 2 * n := by
  have e1 : a * b0 ≤ n * (B - 1) := Nat.mul_le_mul (Nat.le_of_lt ha) (by omega)
  have e2 : n * q ≤ n * (B - 1) := Nat.mul_le_mul (Nat.le_refl _) (by omega)
  have e3 : n * (B - 1) + n = n * B := by
    rw [← Nat.mul_succ]
    exact congrArg (n * ·) (by omega)
  have e4 : S1 * B < (2 * n) * B := by
    rw [h1, Nat.mul_assoc]
    omega
  exact Nat.lt_of_mul_lt_mul_right e4
theorem md_2 {n x y : Nat} (ho : n % 2 = 1) (h : (x * 2) % n = (y * 2) % n) : x % n = y % n := by
  have key : ∀ z, z % n = ((z * 2) % n * ((n / 2 + 1) % n)) % n := fun z => by
    rw [← Nat.mul_mod, Nat.mul_assoc, show 2 * (n / 2 + 1) = n + 1 by omega, Nat.mul_add, Nat.mul_one, Nat.mul_comm z n, Nat.mul_add_mod]
  rw [key x, key y, h]
def CN (n b : Nat) : Prop := ∀ x y, (x * b) % n = (y * b) % n → x % n = y % n
theorem cn_mul {n a b : Nat} (ha : CN n a) (hb : CN n b) : CN n (a * b) := fun x y h => ha x y (hb (x * a) (y * a) (by rw [Nat.mul_assoc, Nat.mul_assoc]; exact h))
theorem cn_pow {n a : Nat} (ha : CN n a) : ∀ k, CN n (a ^ k) := by
  intro k
  induction k with
  | zero => intro x y h; rwa [Nat.pow_zero, Nat.mul_one, Nat.mul_one] at h
  | succ k ih => rw [Nat.pow_succ]; exact cn_mul ih ha
def BR : Nat := 4294967296 ^ 16
theorem cn_R {n : Nat} (ho : n % 2 = 1) : CN n BR := by
  have h2 : CN n 2 := fun x y h => md_2 ho h
  have h32 : CN n 4294967296 := by
    have h9 := cn_pow h2 32
    rwa [show (2 : Nat) ^ 32 = 4294967296 by decide] at h9
  exact cn_pow h32 16
def sqk (x : Nat) : Nat → Nat
  | 0 => x
  | k + 1 => sqk x k * sqk x k
theorem sqk_s (x k : Nat) : sqk x (k + 1) = sqk x k * sqk x k := rfl
theorem sqk_29 : sqk 2 9 = BR := by decide +kernel
def pwm (b n : Nat) : Nat := (sqk b 16 * b) % n
theorem mg_sq {n V V1 x : Nat} (ho : n % 2 = 1) (h : V % n = (x * BR) % n) (h1 : (V1 * BR) % n = (V * V) % n) : V1 % n = (x * x * BR) % n := by
  refine cn_R ho _ _ ?_
  rw [h1, Nat.mul_mod, h, ← Nat.mul_mod, show x * BR * (x * BR) = x * x * BR * BR by ac_rfl]
theorem mg_by {n V V1 x b : Nat} (ho : n % 2 = 1) (h : V % n = (x * BR) % n) (h1 : (V1 * BR) % n = (V * b) % n) : V1 % n = (x * b) % n := by
  refine cn_R ho _ _ ?_
  rw [h1, Nat.mul_mod, h, ← Nat.mul_mod, show x * BR * b = x * b * BR by ac_rfl]
theorem sq_mod {n b p0 : Nat} {k : Nat} (h : p0 % n = sqk b k % n) : (p0 * p0) % n = sqk b (k + 1) % n := by
  rw [sqk_s, Nat.mul_mod, h, ← Nat.mul_mod]
theorem pw_mod {n b p0 q0 : Nat} (h : p0 % n = sqk b 16 % n) (hq : q0 % n = b % n) : (p0 * q0) % n = pwm b n := by
  unfold pwm
  rw [Nat.mul_mod, h, hq, ← Nat.mul_mod]
theorem mg_red {n S a b Q : Nat} (h : S * BR = a * b + n * Q) : ((S % n) * BR) % n = (a * b) % n := by
  rw [Nat.mul_mod, Nat.mod_mod, ← Nat.mul_mod, h, Nat.add_mul_mod_self_left]
def be (f : Nat → Nat) : Nat → Nat
  | 0 => 0
  | n + 1 => be f n * 256 + f n
theorem be_s (f : Nat → Nat) (n : Nat) : be f (n + 1) = be f n * 256 + f n := rfl
theorem be_ext {f g : Nat → Nat} : ∀ n, (∀ k, k < n → f k = g k) → be f n = be g n := by
  intro n
  induction n with
  | zero => intro _; rfl
  | succ n ih =>
    intro h
    rw [be_s, be_s, ih (fun k hk => h k (by omega)), h n (by omega)]
def wd4 (f : Nat → Nat) (k : Nat) : Nat := ((f k * 256 + f (k + 1)) * 256 + f (k + 2)) * 256 + f (k + 3)
theorem be_4 (f : Nat → Nat) (n : Nat) : be f (n + 4) = be f n * 4294967296 + wd4 f n := by
  rw [show n + 4 = n + 3 + 1 from rfl, be_s, be_s, be_s, be_s]
  unfold wd4
  omega
theorem be_l4 (f : Nat → Nat) : ∀ n (g : Nat → Nat), (∀ i, i < n → g i = wd4 f (4 * (n - 1 - i))) → lvb 4294967296 g n = be f (4 * n) := by
  intro n
  induction n with
  | zero => intro g _; rfl
  | succ n ih =>
    intro g h
    rw [lvb_sh, ih (fun k => g (k + 1)) (fun i hi => by rw [h (i + 1) (by omega)]; exact congrArg (wd4 f) (by omega)), h 0 (by omega), show 4 * (n + 1) = 4 * n + 4 by omega, be_4, show 4 * (n + 1 - 1 - 0) = 4 * n by omega]
    omega
def wd2 (f : Nat → Nat) (k : Nat) : Nat := f k * 256 + f (k + 1)
theorem be_2 (f : Nat → Nat) (n : Nat) : be f (n + 2) = be f n * 65536 + wd2 f n := by
  rw [show n + 2 = n + 1 + 1 from rfl, be_s, be_s]
  unfold wd2
  omega
theorem be_l2 (f : Nat → Nat) : ∀ n (g : Nat → Nat), (∀ i, i < n → g i = wd2 f (2 * (n - 1 - i))) → lvb 65536 g n = be f (2 * n) := by
  intro n
  induction n with
  | zero => intro g _; rfl
  | succ n ih =>
    intro g h
    rw [lvb_sh, ih (fun k => g (k + 1)) (fun i hi => by rw [h (i + 1) (by omega)]; exact congrArg (wd2 f) (by omega)), h 0 (by omega), show 2 * (n + 1) = 2 * n + 2 by omega, be_2, show 2 * (n + 1 - 1 - 0) = 2 * n by omega]
    omega
theorem be_uniq {f g : Nat → Nat} : ∀ n, (∀ k, k < n → f k < 256) → (∀ k, k < n → g k < 256) → be f n = be g n → ∀ k, k < n → f k = g k := by
  intro n
  induction n with
  | zero => intro _ _ _ k hk; exact absurd hk (Nat.not_lt_zero _)
  | succ n ih =>
    intro hf hg he k hk
    have h1 := hf n (by omega)
    have h2 := hg n (by omega)
    rw [be_s, be_s] at he
    rcases Nat.lt_or_ge k n with q | q
    · exact ih (fun k hk => hf k (by omega)) (fun k hk => hg k (by omega)) (by omega) k q
    · have h5 : k = n := by omega
      rw [h5]
      omega
theorem be_lt {f : Nat → Nat} : ∀ n, (∀ k, k < n → f k < 256) → be f n < 256 ^ n := by
  intro n
  induction n with
  | zero => intro _; exact Nat.lt_of_lt_of_eq Nat.zero_lt_one (Nat.pow_zero 256).symm
  | succ n ih =>
    intro h
    have h1 := ih (fun k hk => h k (by omega))
    have h2 := h n (by omega)
    rw [be_s, Nat.pow_succ]
    omega
def u32 (x : Int32) : Nat := x.toBitVec.toNat
theorem u32_lt (x : Int32) : u32 x < 4294967296 := x.toBitVec.isLt
theorem u32_mul (x y : Int32) : u32 (x * y) = (u32 x * u32 y) % 4294967296 := rfl
theorem u32_sub (x y : Int32) : u32 (x - y) = ((4294967296 - u32 y) + u32 x) % 4294967296 := rfl
theorem u32_0 {x : Int32} (h : u32 x = 0) : x = 0 := by
  have h9 : x.toBitVec = (0 : Int32).toBitVec := BitVec.eq_of_toNat_eq h
  exact Int32.toBitVec_inj.mp h9
theorem u32_inj {x y : Int32} (h : u32 x = u32 y) : x = y := Int32.toBitVec_inj.mp (BitVec.eq_of_toNat_eq h)
def fiv (o : Int32) : Nat → Int32
  | 0 => o
  | k + 1 => fiv o k * (2 - o * fiv o k)
theorem fiv_s (o : Int32) (k : Nat) : fiv o (k + 1) = fiv o k * (2 - o * fiv o k) := rfl
theorem fiv_e (o y : Int32) : 1 - o * (y * (2 - o * y)) = (1 - o * y) * (1 - o * y) := by
  rw [show o * (y * (2 - o * y)) = o * y * (2 - o * y) by rw [Int32.mul_assoc]]
  generalize o * y = q
  refine Int32.toInt_inj.mp ?_
  rw [Int32.toInt_sub, Int32.toInt_mul, Int32.toInt_sub, Int32.toInt_mul, Int32.toInt_sub]
  generalize q.toInt = z
  rw [show (1 : Int32).toInt = 1 by decide, show (2 : Int32).toInt = 2 by decide]
  rw [Int.mul_bmod_bmod, Int.sub_bmod_bmod, Int.mul_bmod_bmod, Int.bmod_mul_bmod]
  refine congrArg (fun q9 : Int => q9.bmod (2 ^ 32)) ?_
  rw [Int.mul_sub, Int.mul_sub, Int.sub_mul, Int.sub_mul]
  omega
theorem dv_mul {a b : Int32} {k k' : Nat} (ha : 2 ^ k ∣ u32 a) (hb : 2 ^ k' ∣ u32 b) (h : k + k' ≤ 32) : 2 ^ (k + k') ∣ u32 (a * b) := by
  have h1 : 2 ^ (k + k') ∣ u32 a * u32 b := by
    rw [Nat.pow_add]
    exact Nat.mul_dvd_mul ha hb
  have h2 : 2 ^ (k + k') ∣ 4294967296 := Nat.pow_dvd_pow 2 h
  rw [u32_mul]
  exact (Nat.dvd_mod_iff h2).mpr h1
theorem dv_lo {x k k' : Nat} (h : 2 ^ k ∣ x) (hk : k' ≤ k) : 2 ^ k' ∣ x := Nat.dvd_trans (Nat.pow_dvd_pow 2 hk) h
theorem fiv_1 {o : Int32} (ho : u32 o % 2 = 1) : o * fiv o 5 = 1 := by
  have e0 : 2 ^ 3 ∣ u32 (1 - o * fiv o 0) := by
    show 2 ^ 3 ∣ u32 (1 - o * o)
    rw [u32_sub, u32_mul, show u32 1 = 1 by decide]
    obtain ⟨m, hm⟩ : ∃ m, u32 o = 2 * m + 1 := ⟨u32 o / 2, by omega⟩
    have h2 : u32 o * u32 o = 4 * (m * (m + 1)) + 1 := by
      rw [hm, Nat.mul_add, Nat.add_mul, Nat.mul_add, Nat.mul_one, Nat.mul_one, Nat.one_mul, show 2 * m * (2 * m) = 4 * (m * m) by rw [show 2 * m * (2 * m) = 2 * 2 * (m * m) by ac_rfl]]
      omega
    have h3 : m * (m + 1) % 2 = 0 := by
      rw [Nat.mul_mod]
      rcases Nat.mod_two_eq_zero_or_one m with q | q
      · rw [q, Nat.zero_mul]
      · rw [show (m + 1) % 2 = 0 by omega, Nat.mul_zero]
    generalize m * (m + 1) = w at h2 h3
    rw [h2]
    omega
  have st : ∀ k, 1 - o * fiv o (k + 1) = (1 - o * fiv o k) * (1 - o * fiv o k) := fun k => by rw [fiv_s, fiv_e]
  have e1 : 2 ^ 6 ∣ u32 (1 - o * fiv o 1) := by rw [st 0]; exact dv_mul e0 e0 (by decide)
  have e2 : 2 ^ 12 ∣ u32 (1 - o * fiv o 2) := by rw [st 1]; exact dv_mul e1 e1 (by decide)
  have e3 : 2 ^ 24 ∣ u32 (1 - o * fiv o 3) := by rw [st 2]; exact dv_mul e2 e2 (by decide)
  have e4 : 2 ^ 32 ∣ u32 (1 - o * fiv o 4) := by rw [st 3]; exact dv_mul (k := 16) (k' := 16) (dv_lo e3 (by decide)) (dv_lo e3 (by decide)) (by decide)
  have e5 : 2 ^ 32 ∣ u32 (1 - o * fiv o 5) := by rw [st 4]; exact dv_mul (k := 16) (k' := 16) (dv_lo e4 (by decide)) (dv_lo e4 (by decide)) (by decide)
  have e6 : u32 (1 - o * fiv o 5) = 0 := Nat.eq_zero_of_dvd_of_lt e5 (u32_lt _)
  have e7 := u32_0 e6
  generalize o * fiv o 5 = q at e7
  refine Int32.toInt_inj.mp ?_
  have e8 := congrArg Int32.toInt e7
  rw [Int32.toInt_sub, show (1 : Int32).toInt = 1 by decide, show (0 : Int32).toInt = 0 by decide] at e8
  rw [show (1 : Int32).toInt = 1 by decide]
  have h1 := q.toInt_lt
  have h2 := q.le_toInt
  rw [Int.bmod_def] at e8
  omega
theorem fac_1 {o y : Int32} (h : o * y = 1) : (u32 o * u32 (-y)) % 4294967296 = 4294967295 := by
  have h1 : (u32 o * u32 y) % 4294967296 = 1 := by
    rw [← u32_mul, h]
    decide
  have h2 : u32 (-y) = (4294967296 - u32 y) % 4294967296 := rfl
  have h3 := u32_lt y
  have h4 : u32 y ≠ 0 := fun q => by rw [q, Nat.mul_zero] at h1; omega
  have h5 : u32 o * u32 (-y) + u32 o * u32 y = 4294967296 * u32 o := by
    rw [← Nat.mul_add, h2, Nat.mod_eq_of_lt (by omega), show 4294967296 - u32 y + u32 y = 4294967296 by omega, Nat.mul_comm]
  omega
theorem mq_0 {s0 n0 fc : Nat} (h : (n0 * fc) % 4294967296 = 4294967295) : (s0 + n0 * ((s0 * fc) % 4294967296)) % 4294967296 = 0 := by
  have h1 : (n0 * ((s0 * fc) % 4294967296)) % 4294967296 = (s0 * 4294967295) % 4294967296 := by
    rw [Nat.mul_mod, Nat.mod_mod, ← Nat.mul_mod, show n0 * (s0 * fc) = s0 * (n0 * fc) by ac_rfl, Nat.mul_mod, h]
    omega
  omega
def lQN (f : Nat → Int64) (n : Nat) : Nat := lvb 4294967296 (fun k => uN (f k)) n
def LM (f : Nat → Int64) (n : Nat) : Prop := ∀ k, k < n → uN (f k) < 4294967296
theorem lQN_0 (f : Nat → Int64) : lQN f 0 = 0 := rfl
theorem lQN_s (f : Nat → Int64) (n : Nat) : lQN f (n + 1) = lQN f n + uN (f n) * 4294967296 ^ n := rfl
theorem lQN_ext {f g : Nat → Int64} {n : Nat} (h : ∀ k, k < n → f k = g k) : lQN f n = lQN g n := lvb_ext n (fun k hk => by show uN (f k) = uN (g k); rw [h k hk])
theorem lQN_lt {f : Nat → Int64} {n : Nat} (h : LM f n) : lQN f n < 4294967296 ^ n := lvb_lt n h
theorem LM.le {f : Nat → Int64} {n m : Nat} (h : LM f n) (hm : m ≤ n) : LM f m := fun k hk => h k (by omega)
theorem lQN_upd {f : Nat → Int64} {n k : Nat} {x : Int64} (h : n ≤ k) : lQN (vp_updL f k x) n = lQN f n := lQN_ext (fun j hj => pk_uLn (by omega))
theorem lQN_up1 {f : Nat → Int64} {n : Nat} {x : Int64} : lQN (vp_updL f n x) (n + 1) = lQN f n + uN x * 4294967296 ^ n := by
  rw [lQN_s, lQN_upd (Nat.le_refl _), pk_uLs]
theorem LM.up {f : Nat → Int64} {n : Nat} {x : Int64} (h : LM f n) (hx : uN x < 4294967296) : LM (vp_updL f n x) (n + 1) := by
  intro k hk
  by_cases c : k = n
  · rw [c, pk_uLs]
    exact hx
  · rw [pk_uLn c]
    exact h k (by omega)
theorem nb_u : ∀ c, c < 256 → uN ((nI c &&& 255).toInt64) = c := by decide +kernel
theorem ld_st {w : Int64} {b : Nat → Nat} {s i : Nat} {x : Int32} (h : uN w = be (fun m => b (s + m)) i) (hi : i < 4) (hb : ∀ m, m < 4 → b (s + m) < 256) (hx : x = nI (b (s + i))) : uN (lsl w 8 ||| (x &&& 255).toInt64) = be (fun m => b (s + m)) (i + 1) := by
  have h1 : uN ((x &&& 255).toInt64) = b (s + i) := by
    rw [hx]
    exact nb_u _ (hb i hi)
  have h2 : be (fun m => b (s + m)) i < 256 ^ i := be_lt i (fun k hk => hb k (by omega))
  have h3 : 256 ^ i ≤ 16777216 := Nat.le_trans (Nat.pow_le_pow_right (by decide) (show i ≤ 3 by omega)) (by decide)
  rw [uN_o8 (by rw [h]; omega) (by rw [h1]; exact hb i hi), h, h1]
  rfl
theorem wd_be (b : Nat → Nat) (s : Nat) : be (fun m => b (s + m)) 4 = wd4 b s := by
  show (((0 * 256 + b (s + 0)) * 256 + b (s + 1)) * 256 + b (s + 2)) * 256 + b (s + 3) = _
  unfold wd4
  rw [Nat.add_zero]
  omega
theorem wd_lt {b : Nat → Nat} {s : Nat} (h : ∀ m, m < 4 → b (s + m) < 256) : wd4 b s < 4294967296 := by
  have h0 : b s < 256 := h 0 (by decide)
  have h1 := h 1 (by decide)
  have h2 := h 2 (by decide)
  have h3 := h 3 (by decide)
  unfold wd4
  omega
def BYT (b : Nat → Nat) (n : Nat) (f : Nat → Int32) : Prop := ∀ i, i < n → b i < 256 ∧ f i = nI (b i)
def LDW (b : Nat → Nat) (q : Nat → Int64) (j : Nat) : Prop := ∀ k, k < j → uN (q k) = wd4 b ((15 - k) * 4)
theorem ldw_s {b : Nat → Nat} {q : Nat → Int64} {j : Nat} {w : Int64} (h : LDW b q j) (hw : uN w = be (fun m => b ((15 - j) * 4 + m)) 4) : LDW b (vp_updL q j w) (j + 1) := by
  intro k hk
  by_cases c : k = j
  · rw [c, pk_uLs, hw, wd_be]
  · rw [pk_uLn c]
    exact h k (by omega)
theorem ldw_m {b : Nat → Nat} {q : Nat → Int64} {f : Nat → Int32} (h : LDW b q 16) (hb : BYT b 64 f) : LM q 16 := fun k hk => by
  rw [h k hk]
  exact wd_lt (fun m hm => (hb ((15 - k) * 4 + m) (by omega)).1)
theorem ldw_n {b : Nat → Nat} {q : Nat → Int64} (h : LDW b q 16) : lQN q 16 = be b 64 := be_l4 b 16 (fun k => uN (q k)) (fun i hi => by
  show uN (q i) = _
  rw [h i hi, show 4 * (16 - 1 - i) = (15 - i) * 4 by omega])
theorem uN_m32 (y : Int32) : uN (y.toInt64 &&& 4294967295) = u32 y := by
  rw [uN_mask]
  show (y.toInt64).toBitVec.toNat % 4294967296 = y.toBitVec.toNat
  rw [Int32.toBitVec_toInt64, BitVec.toNat_signExtend, BitVec.toNat_setWidth]
  have h := y.toBitVec.isLt
  split <;> omega
theorem uN_l2i (x : Int64) : u32 (x.toInt32) = uN x % 4294967296 := by
  show (x.toInt32).toBitVec.toNat = _
  rw [Int64.toBitVec_toInt32, BitVec.signExtend_eq_setWidth_of_le _ (by decide), BitVec.toNat_setWidth]
  rfl
theorem at_lm {x y z w : Int64} (hx : uN x < 4294967296) (hy : uN y < 4294967296) (hz : uN z < 4294967296) (hw : uN w < 4294967296) : uN (((x + y * z) + w) &&& 4294967295) + uN (lus ((x + y * z) + w) 32) * 4294967296 = uN x + uN y * uN z + uN w ∧ uN (((x + y * z) + w) &&& 4294967295) < 4294967296 ∧ uN (lus ((x + y * z) + w) 32) < 4294967296 := by
  have h1 : uN y * uN z ≤ 4294967295 * 4294967295 := Nat.mul_le_mul (by omega) (by omega)
  have h2 : uN ((x + y * z) + w) = uN x + uN y * uN z + uN w := by
    rw [uN_add, uN_add, uN_mul]
    generalize uN y * uN z = p at h1 ⊢
    omega
  rw [uN_mask, uN_s32, h2]
  generalize uN y * uN z = p at h1 ⊢
  omega
def ATI (fs fa fq : Nat → Int64) (t c j : Nat) : Prop := (∀ k, j ≤ k → fq k = fs k) ∧ LM fq j ∧ c < 4294967296 ∧ lQN fq j + c * 4294967296 ^ j = lQN fs j + lQN fa j * t
theorem ati_0 {fs fa : Nat → Int64} {t : Nat} : ATI fs fa fs t (uN 0) 0 := ⟨fun _ _ => rfl, fun k hk => absurd hk (Nat.not_lt_zero _), by decide, by rw [lQN_0, lQN_0, show uN 0 = 0 by decide, Nat.zero_mul, Nat.zero_mul]⟩
theorem ati_s {fs fa fq : Nat → Int64} {x w : Int64} {j : Nat} (h : ATI fs fa fq (uN x) (uN w) j) (hs : LM fs 17) (ha : LM fa 16) (hx : uN x < 4294967296) (hj : j < 16) : ATI fs fa (vp_updL fq j (((fq j + fa j * x) + w) &&& 4294967295)) (uN x) (uN (lus ((fq j + fa j * x) + w) 32)) (j + 1) := by
  obtain ⟨h1, h2, h3, h4⟩ := h
  have e1 : fq j = fs j := h1 j (Nat.le_refl _)
  have e2 := hs j (by omega)
  have e3 := ha j hj
  obtain ⟨k1, k2, k3⟩ := at_lm (x := fq j) (y := fa j) (z := x) (w := w) (by rw [e1]; exact e2) e3 hx h3
  refine ⟨fun k hk => by rw [pk_uLn (by omega)]; exact h1 k (by omega), h2.up k2, k3, ?_⟩
  rw [lQN_up1, lQN_s, lQN_s]
  refine at_step h4 ?_
  rw [k1, e1]
theorem ati_e {fs fa fq : Nat → Int64} {x w : Int64} (h : ATI fs fa fq (uN x) (uN w) 16) (hs : LM fs 17) (h17 : uN (fs 17) ≤ 5) : LM (vp_updL (vp_updL fq 16 ((w + fq 16) &&& 4294967295)) 17 ((vp_updL fq 16 ((w + fq 16) &&& 4294967295)) 17 + lus (w + fq 16) 32)) 17 ∧ lQN (vp_updL (vp_updL fq 16 ((w + fq 16) &&& 4294967295)) 17 ((vp_updL fq 16 ((w + fq 16) &&& 4294967295)) 17 + lus (w + fq 16) 32)) 18 = lQN fs 18 + lQN fa 16 * uN x ∧ uN ((vp_updL (vp_updL fq 16 ((w + fq 16) &&& 4294967295)) 17 ((vp_updL fq 16 ((w + fq 16) &&& 4294967295)) 17 + lus (w + fq 16) 32)) 17) ≤ uN (fs 17) + 1 := by
  obtain ⟨h1, h2, h3, h4⟩ := h
  have e1 : fq 16 = fs 16 := h1 16 (Nat.le_refl _)
  have e2 := hs 16 (by decide)
  have e3 : uN (w + fq 16) = uN w + uN (fs 16) := by
    rw [uN_add, e1]
    omega
  have e4 : uN ((w + fq 16) &&& 4294967295) = (uN w + uN (fs 16)) % 4294967296 := by rw [uN_mask, e3]
  have e5 : uN (lus (w + fq 16) 32) = (uN w + uN (fs 16)) / 4294967296 := by rw [uN_s32, e3]
  generalize (w + fq 16) &&& 4294967295 = y at e4 ⊢
  generalize lus (w + fq 16) 32 = v at e5 ⊢
  have e6 : (vp_updL fq 16 y) 17 = fs 17 := by
    rw [pk_uLn (by decide)]
    exact h1 17 (by decide)
  rw [e6]
  have e7 : uN (fs 17 + v) = uN (fs 17) + uN v := by
    rw [uN_add]
    omega
  refine ⟨?_, ?_, ?_⟩
  · intro k hk
    rw [pk_uLn (by omega)]
    exact (h2.up (x := y) (by omega)) k hk
  · rw [show (18 : Nat) = 17 + 1 from rfl, lQN_up1, e7, show (17 : Nat) = 16 + 1 from rfl, lQN_up1, lQN_s fs, lQN_s fs, show (4294967296 : Nat) ^ (16 + 1) = 4294967296 ^ 16 * 4294967296 from Nat.pow_succ _ _]
    generalize (4294967296 : Nat) ^ 16 = p at h4 ⊢
    have e8 : (uN y + uN v * 4294967296) * p = (uN w + uN (fs 16)) * p := by
      congr 1
      omega
    rw [Nat.add_mul, Nat.add_mul] at e8
    rw [Nat.add_mul, show uN v * (p * 4294967296) = uN v * 4294967296 * p by ac_rfl]
    omega
  · rw [pk_uLs, e7]
    omega
theorem rd_lm {x y w : Int64} (hx : uN x < 4294967296) (hy : uN y < 4294967296) (hw : uN w ≤ 1) : uN (((x - y) - w) &&& 4294967295) + uN y + uN w = uN x + uN (lus ((x - y) - w) 63) * 4294967296 ∧ uN (((x - y) - w) &&& 4294967295) < 4294967296 ∧ uN (lus ((x - y) - w) 63) ≤ 1 := by
  have h1 : uN ((x - y) - w) = ((18446744073709551616 - uN w) + ((18446744073709551616 - uN y) + uN x) % 18446744073709551616) % 18446744073709551616 := by rw [uN_sub, uN_sub]
  rw [uN_mask, uN_s63, h1]
  omega
def RDI (fs fm fq : Nat → Int64) (c j : Nat) : Prop := LM fq j ∧ c ≤ 1 ∧ lQN fq j + lQN fm j = lQN fs j + c * 4294967296 ^ j
theorem rdi_0 {fs fm fq : Nat → Int64} : RDI fs fm fq (uN 0) 0 := ⟨fun k hk => absurd hk (Nat.not_lt_zero _), by decide, by rw [lQN_0, lQN_0, lQN_0, show uN 0 = 0 by decide, Nat.zero_mul]⟩
theorem rdi_s {fs fm fq : Nat → Int64} {w : Int64} {j : Nat} (h : RDI fs fm fq (uN w) j) (hs : LM fs 17) (hm : LM fm 16) (hj : j < 16) : RDI fs fm (vp_updL fq j (((fs j - fm j) - w) &&& 4294967295)) (uN (lus ((fs j - fm j) - w) 63)) (j + 1) := by
  obtain ⟨h1, h2, h3⟩ := h
  obtain ⟨k1, k2, k3⟩ := rd_lm (x := fs j) (y := fm j) (w := w) (hs j (by omega)) (hm j hj) h2
  refine ⟨h1.up k2, k3, ?_⟩
  rw [lQN_up1, lQN_s, lQN_s, Nat.pow_succ]
  generalize uN (((fs j - fm j) - w) &&& 4294967295) = d at k1 ⊢
  generalize uN (lus ((fs j - fm j) - w) 63) = b at k1 ⊢
  generalize (4294967296 : Nat) ^ j = p at h3 ⊢
  have e8 : (d + uN (fm j) + uN w) * p = (uN (fs j) + b * 4294967296) * p := by rw [k1]
  rw [Nat.add_mul, Nat.add_mul, Nat.add_mul] at e8
  rw [show b * (p * 4294967296) = b * 4294967296 * p by ac_rfl]
  omega
theorem rdi_y {fs fm fq : Nat → Int64} {w : Int64} {n : Nat} (h : RDI fs fm fq (uN w) 16) (hs : LM fs 17) (hm : LM fm 16) (hn : lQN fm 16 = n) (h2 : lQN fs 17 < 2 * n) (c : fs 16 < w) : lQN fs 16 = lQN fs 17 % n := by
  obtain ⟨h3, h4, h5⟩ := h
  have e1 := hs 16 (by decide)
  have e2 : uN (fs 16) < uN w := (uN_lts (by omega) (by omega)).mp c
  have e3 : uN (fs 16) = 0 := by omega
  have e4 : lQN fs 17 = lQN fs 16 := by
    rw [show (17 : Nat) = 16 + 1 from rfl, lQN_s, e3, Nat.zero_mul, Nat.add_zero]
  have e5 := lQN_lt h3
  rw [show uN w = 1 by omega, Nat.one_mul] at h5
  rw [e4, Nat.mod_eq_of_lt]
  omega
theorem rdi_n {fs fm fq : Nat → Int64} {w : Int64} {n : Nat} (h : RDI fs fm fq (uN w) 16) (hs : LM fs 17) (hm : LM fm 16) (hn : lQN fm 16 = n) (h2 : lQN fs 17 < 2 * n) (c : ¬ fs 16 < w) : lQN fq 16 = lQN fs 17 % n := by
  obtain ⟨h3, h4, h5⟩ := h
  have e1 := hs 16 (by decide)
  have e2 : ¬ uN (fs 16) < uN w := fun q => c ((uN_lts (by omega) (by omega)).mpr q)
  have e4 : lQN fs 17 = lQN fs 16 + uN (fs 16) * 4294967296 ^ 16 := lQN_s fs 16
  have e5 := lQN_lt h3
  have e6 := lQN_lt hm
  rw [hn] at h5 e6
  have e7 : uN w * 4294967296 ^ 16 ≤ uN (fs 16) * 4294967296 ^ 16 := Nat.mul_le_mul_right _ (by omega)
  have e9 : uN (fs 16) * 4294967296 ^ 16 = uN w * 4294967296 ^ 16 := by
    rcases Nat.lt_or_ge (uN w) (uN (fs 16)) with q | q
    · have e8 : (uN w + 1) * 4294967296 ^ 16 ≤ uN (fs 16) * 4294967296 ^ 16 := Nat.mul_le_mul_right _ q
      rw [Nat.add_mul, Nat.one_mul] at e8
      omega
    · rw [show uN (fs 16) = uN w by omega]
  rw [e4, e9, show lQN fs 16 + uN w * 4294967296 ^ 16 = lQN fq 16 + n by omega, Nat.add_mod_right, Nat.mod_eq_of_lt]
  omega
theorem st_lm {m w : Int64} (hm : uN m < 4294967296) (hw : uN w ≤ 1) : uN (((m ^^^ 4294967295) + w) &&& 4294967295) + uN (lus ((m ^^^ 4294967295) + w) 32) * 4294967296 + uN m = 4294967295 + uN w ∧ uN (((m ^^^ 4294967295) + w) &&& 4294967295) < 4294967296 ∧ uN (lus ((m ^^^ 4294967295) + w) 32) ≤ 1 := by
  rw [uN_mask, uN_s32, uN_add, uN_not _ hm]
  omega
def STI (fm fq : Nat → Int64) (c j : Nat) : Prop := LM fq j ∧ c ≤ 1 ∧ lQN fq j + c * 4294967296 ^ j + lQN fm j = 4294967296 ^ j
theorem sti_0 {fm fq : Nat → Int64} : STI fm fq (uN 1) 0 := ⟨fun k hk => absurd hk (Nat.not_lt_zero _), by decide, by rw [lQN_0, lQN_0, show uN 1 = 1 by decide]⟩
theorem sti_s {fm fq : Nat → Int64} {w : Int64} {j : Nat} (h : STI fm fq (uN w) j) (hm : LM fm 16) (hj : j < 16) : STI fm (vp_updL fq j (((fm j ^^^ 4294967295) + w) &&& 4294967295)) (uN (lus ((fm j ^^^ 4294967295) + w) 32)) (j + 1) := by
  obtain ⟨h1, h2, h3⟩ := h
  obtain ⟨k1, k2, k3⟩ := st_lm (m := fm j) (w := w) (hm j hj) h2
  refine ⟨h1.up k2, k3, ?_⟩
  rw [lQN_up1, lQN_s, Nat.pow_succ]
  generalize uN (((fm j ^^^ 4294967295) + w) &&& 4294967295) = d at k1 ⊢
  generalize uN (lus ((fm j ^^^ 4294967295) + w) 32) = b at k1 ⊢
  generalize (4294967296 : Nat) ^ j = p at h3 ⊢
  have e8 : (d + b * 4294967296 + uN (fm j)) * p = (4294967295 + uN w) * p := by rw [k1]
  rw [Nat.add_mul, Nat.add_mul, Nat.add_mul] at e8
  rw [show b * (p * 4294967296) = b * 4294967296 * p by ac_rfl]
  omega
theorem sti_g {A c p n : Nat} (h3 : A + c * p + n = p) (h2 : c ≤ 1) (h0 : 0 < n) : A + n = p := by
  rcases Nat.lt_or_ge 0 c with q | q
  · rw [show c = 1 by omega, Nat.one_mul] at h3
    omega
  · rw [show c = 0 by omega, Nat.zero_mul] at h3
    omega
theorem BR_e : BR = 4294967296 ^ 16 := rfl
theorem sti_e {fm fq : Nat → Int64} {w : Int64} {n : Nat} (h : STI fm fq (uN w) 16) (hn : lQN fm 16 = n) (h0 : 0 < n) : lQN fq 16 + n = BR := by
  obtain ⟨h1, h2, h3⟩ := h
  rw [hn] at h3
  rw [BR_e]
  exact sti_g h3 h2 h0
theorem db_lm {x w : Int64} (hx : uN x < 4294967296) (hw : uN w ≤ 1) : uN ((lsl x 1 ||| w) &&& 4294967295) + uN (lus (lsl x 1 ||| w) 32) * 4294967296 = 2 * uN x + uN w ∧ uN ((lsl x 1 ||| w) &&& 4294967295) < 4294967296 ∧ uN (lus (lsl x 1 ||| w) 32) ≤ 1 := by
  rw [uN_mask, uN_s32, uN_o1 (by omega) (by omega)]
  omega
def DBI (fs fq : Nat → Int64) (c j : Nat) : Prop := (∀ k, j ≤ k → fq k = fs k) ∧ LM fq j ∧ c ≤ 1 ∧ lQN fq j + c * 4294967296 ^ j = 2 * lQN fs j
theorem dbi_0 {fs : Nat → Int64} : DBI fs fs (uN 0) 0 := ⟨fun _ _ => rfl, fun k hk => absurd hk (Nat.not_lt_zero _), by decide, by rw [lQN_0, show uN 0 = 0 by decide, Nat.zero_mul]⟩
theorem dbi_s {fs fq : Nat → Int64} {w : Int64} {j : Nat} (h : DBI fs fq (uN w) j) (hs : LM fs 16) (hj : j < 16) : DBI fs (vp_updL fq j ((lsl (fq j) 1 ||| w) &&& 4294967295)) (uN (lus (lsl (fq j) 1 ||| w) 32)) (j + 1) := by
  obtain ⟨h1, h2, h3, h4⟩ := h
  have e1 : fq j = fs j := h1 j (Nat.le_refl _)
  obtain ⟨k1, k2, k3⟩ := db_lm (x := fq j) (w := w) (by rw [e1]; exact hs j hj) h3
  refine ⟨fun k hk => by rw [pk_uLn (by omega)]; exact h1 k (by omega), h2.up k2, k3, ?_⟩
  rw [lQN_up1, lQN_s, Nat.pow_succ]
  rw [e1] at k1 ⊢
  generalize uN ((lsl (fs j) 1 ||| w) &&& 4294967295) = d at k1 ⊢
  generalize uN (lus (lsl (fs j) 1 ||| w) 32) = b at k1 ⊢
  generalize (4294967296 : Nat) ^ j = p at h4 ⊢
  have e8 : (d + b * 4294967296) * p = (2 * uN (fs j) + uN w) * p := by rw [k1]
  rw [Nat.add_mul, Nat.add_mul, Nat.mul_assoc 2] at e8
  rw [show b * (p * 4294967296) = b * 4294967296 * p by ac_rfl]
  omega
theorem dbi_e {fs fq : Nat → Int64} {w : Int64} {n : Nat} (h : DBI fs fq (uN w) 16) (hn : lQN fs 16 + n = BR) (h2 : BR < 2 * n) : LM (vp_updL fq 16 w) 17 ∧ lQN (vp_updL fq 16 w) 17 < 2 * n ∧ lQN (vp_updL fq 16 w) 17 % n = (2 * BR) % n := by
  obtain ⟨h3, h4, h5, h6⟩ := h
  have e1 : lQN (vp_updL fq 16 w) 17 = 2 * lQN fs 16 := by
    rw [show (17 : Nat) = 16 + 1 from rfl, lQN_up1, h6]
  refine ⟨h4.up (by omega), by rw [e1]; omega, ?_⟩
  rw [e1, show 2 * BR = 2 * lQN fs 16 + n * 2 by omega, Nat.add_mul_mod_self_left]
theorem z18_s {fq : Nat → Int64} {j : Nat} (h : ∀ k, k < j → fq k = 0) : ∀ k, k < j + 1 → vp_updL fq j 0 k = 0 := by
  intro k hk
  by_cases c : k = j
  · rw [c, pk_uLs]
  · rw [pk_uLn c]
    exact h k (by omega)
theorem lQN_z {fq : Nat → Int64} : ∀ n, (∀ k, k < n → fq k = 0) → lQN fq n = 0 := by
  intro n
  induction n with
  | zero => intro _; rfl
  | succ n ih =>
    intro h
    rw [lQN_s, ih (fun k hk => h k (by omega)), h n (by omega), show uN 0 = 0 by decide, Nat.zero_mul]
theorem LM_z {fq : Nat → Int64} {n : Nat} (h : ∀ k, k < n → fq k = 0) : LM fq n := fun k hk => by
  rw [h k hk]
  decide
def SHI (fp fq : Nat → Int64) (j : Nat) : Prop := (∀ k, k < j → fq k = fp (k + 1)) ∧ ∀ k, j ≤ k → fq k = fp k
theorem shi_0 {fp : Nat → Int64} : SHI fp fp 0 := ⟨fun k hk => absurd hk (Nat.not_lt_zero _), fun _ _ => rfl⟩
theorem shi_s {fp fq : Nat → Int64} {j : Nat} (h : SHI fp fq j) : SHI fp (vp_updL fq j (fq (j + 1))) (j + 1) := by
  refine ⟨fun k hk => ?_, fun k hk => by rw [pk_uLn (by omega)]; exact h.2 k (by omega)⟩
  by_cases c : k = j
  · rw [c, pk_uLs]
    exact h.2 (j + 1) (by omega)
  · rw [pk_uLn c]
    exact h.1 k (by omega)
def MLI (fa fb fm fq : Nat → Int64) (i : Nat) : Prop := LM fq 17 ∧ uN (fq 17) = 0 ∧ lQN fq 17 < 2 * lQN fm 16 ∧ ∃ Q, lQN fq 17 * 4294967296 ^ i = lQN fa 16 * lQN fb i + lQN fm 16 * Q
theorem mli_0 {fa fb fm fq : Nat → Int64} (h : ∀ k, k < 18 → fq k = 0) (h0 : 0 < lQN fm 16) : MLI fa fb fm fq 0 := by
  have e1 : lQN fq 17 = 0 := lQN_z 17 (fun k hk => h k (by omega))
  refine ⟨LM_z (fun k hk => h k (by omega)), by rw [h 17 (by decide)]; decide, by rw [e1]; omega, 0, ?_⟩
  rw [e1, lQN_0, Nat.zero_mul, Nat.mul_zero, Nat.mul_zero]
theorem lQN_md {f : Nat → Int64} {n : Nat} (h : LM f 1) : lQN f (n + 1) % 4294967296 = uN (f 0) := by
  have e : lQN f (n + 1) = uN (f 0) + 4294967296 * lvb 4294967296 (fun k => uN (f (k + 1))) n := lvb_sh n (fun k => uN (f k))
  have h9 := h 0 (by decide)
  rw [e]
  omega
theorem lQN_tl {f g : Nat → Int64} {n : Nat} (h0 : uN (f 0) = 0) (h : ∀ k, k < n → g k = f (k + 1)) : lQN f (n + 1) = lQN g n * 4294967296 := by
  have e : lQN f (n + 1) = uN (f 0) + 4294967296 * lvb 4294967296 (fun k => uN (f (k + 1))) n := lvb_sh n (fun k => uN (f k))
  have e2 : lQN g n = lvb 4294967296 (fun k => uN (f (k + 1))) n := lvb_ext n (fun k hk => by show uN (g k) = uN (f (k + 1)); rw [h k hk])
  rw [e, e2, h0, Nat.zero_add, Nat.mul_comm]
theorem mli_s {fa fb fm fq f1 f2 f3 : Nat → Int64} {v x : Int64} {i : Nat} (h : MLI fa fb fm fq i) (ha : lQN fa 16 < lQN fm 16) (hb : LM fb 16) (hm : LM fm 16) (hi : i < 16) (hv : (uN (fm 0) * uN v) % 4294967296 = 4294967295) (h1 : LM f1 17) (e1 : lQN f1 18 = lQN fq 18 + lQN fa 16 * uN (fb i)) (hx : x = (f1 0 * v) &&& 4294967295) (h2 : LM f2 17) (e2 : lQN f2 18 = lQN f1 18 + lQN fm 16 * uN x) (h3 : SHI f2 f3 17) (t1 : uN (f2 17) ≤ uN (f1 17) + 1) (t0 : uN (f1 17) ≤ uN (fq 17) + 1) : MLI fa fb fm (vp_updL f3 17 0) (i + 1) := by
  obtain ⟨a1, a2, a3, Q, a4⟩ := h
  have s0 : lQN fq 18 = lQN fq 17 := by
    rw [show (18 : Nat) = 17 + 1 from rfl, lQN_s, a2, Nat.zero_mul, Nat.add_zero]
  rw [s0] at e1
  have x1 : uN x = (uN (f1 0) * uN v) % 4294967296 := by
    rw [hx, uN_mask, uN_mul, Nat.mod_mod_of_dvd _ (by decide)]
  have x2 : uN x < 4294967296 := by
    rw [x1]
    exact Nat.mod_lt _ (by decide)
  have m1 : lQN f1 18 % 4294967296 = uN (f1 0) := lQN_md (h1.le (by decide))
  have m2 : lQN fm 16 % 4294967296 = uN (fm 0) := lQN_md (hm.le (by decide))
  have m3 : lQN f2 18 % 4294967296 = uN (f2 0) := lQN_md (h2.le (by decide))
  have z0 : uN (f2 0) = 0 := by
    have q := mq_0 (s0 := uN (f1 0)) hv
    rw [← x1, ← m1, ← m2, Nat.mod_add_mod, ← Nat.add_mod_mod, Nat.mod_mul_mod, Nat.add_mod_mod] at q
    rw [← m3, e2]
    exact q
  have g1 : ∀ k, k < 17 → (vp_updL f3 17 0) k = f2 (k + 1) := fun k hk => by
    rw [pk_uLn (by omega)]
    exact h3.1 k hk
  have t2 : lQN f2 18 = lQN (vp_updL f3 17 0) 17 * 4294967296 := lQN_tl z0 g1
  have lm : LM (vp_updL f3 17 0) 17 := fun k hk => by
    rw [g1 k hk]
    rcases Nat.lt_or_ge k 16 with q | q
    · exact h2 (k + 1) (by omega)
    · rw [show k + 1 = 17 by omega]
      omega
  have st : lQN (vp_updL f3 17 0) 17 * 4294967296 = lQN fq 17 + lQN fa 16 * uN (fb i) + lQN fm 16 * uN x := by rw [← t2, e2, e1]
  refine ⟨lm, by rw [pk_uLs]; decide, mg_lt st a3 ha (hb i hi) x2, Q + uN x * 4294967296 ^ i, ?_⟩
  rw [lQN_s]
  exact mg_step a4 st
theorem mli_e {fa fb fm fq : Nat → Int64} {q : Nat} (h : MLI fa fb fm fq 16) (hq : q = lQN fq 17 % lQN fm 16) : (q * BR) % lQN fm 16 = (lQN fa 16 * lQN fb 16) % lQN fm 16 := by
  obtain ⟨-, -, -, Q, a4⟩ := h
  rw [hq]
  exact mg_red a4
theorem cpl_16 {fs fv : Nat → Int64} : ∀ j, j < 16 → va_cpy fs fv (0 : Int32).toNatClampNeg (0 : Int32).toNatClampNeg (16 : Int32).toNatClampNeg j = fs j := by
  intro j hj
  rw [show (0 : Int32).toNatClampNeg = 0 by decide, show (16 : Int32).toNatClampNeg = 16 by decide]
  show (if 0 ≤ j ∧ j < 0 + 16 then fs (0 + (j - 0)) else fv j) = fs j
  rw [if_pos (by omega), Nat.zero_add, Nat.sub_zero]
set_option maxHeartbeats 4000000 in
set_option maxRecDepth 100000 in
theorem s_X6_load_e (l : Launch) (dC : Nat → ClassId) (dI : Nat → Nat → Nat) (cs : Nat → ClassId) (ty : TyM) (L : List Nat) (sz : Nat) (F : Nat → va_E) (g1 : Nat) (σ : Nat) (r1 : Nat) (n1 : Nat) (la : Nat) (τ : Nat) (f : Nat → Int32) (b : Nat → Nat) (hW : WT ty L) (hL_g1 : g1 ∈ L) (hT_g1 : ty g1 = (0, σ, [r1, n1])) (hL_la : la ∈ L) (hT_la : ty la = (19, τ, [16])) (hFg : F g1 = .inr (0, [.ref r1, .int (nI 64), .int 0])) (hFr : F r1 = .inl (cs 16, n1, .inl f)) (hzn : 64 ≤ n1) (hn9 : n1 ≤ 10000) (hBq : BYT b 64 f) (hst : σ ≠ τ) : Met l yX6_load (.code yX6_load cX6_load 6 none :: tb) ({ frames := 1, cells := 0, slots := 0, locals := 21 }) (va_Pc [.ref g1, .ref la] (PT (dC, dI) cs ty L F sz)) (va_Qv (fun _ : Unit => True) (fun _ T9 => ∃ F2 : Nat → va_E, ∃ q2 : Nat → Int64, QT (dC, dI) cs ty L [τ] F F2 (va_A (va_pl L F) sz) T9 ∧ F2 la = .inl (cs 19, 16, .inr (.inl q2)) ∧ LM q2 16 ∧ lQN q2 16 = be b 64) (va_A (va_pl L F) sz)) 0 0 (va_A (va_pl L F) sz) := by
  refine Met.ofW (cc := cX6_load) (maxL := 6) (ret := none) (by decide) rfl ?_
  intro p e s m args below meth c s₁ B hml hv
  obtain ⟨rfl, hsz, hP, hK, hD0, hE, hO⟩ := hv
  have hx := B.exec
  have hb := B.bytes
  have hr := B.returns
  have hts : ∀ w ∈ tb, w.before _ s = true := fun w h => atoms_spec (ws := .code yX6_load cX6_load 6 none :: tb) B.pre w (List.mem_cons_of_mem _ h)
  have hown : s.vm.findClass RX6 = some m.cls := findClass_of_methodNamed B.named
  have hlocks := B.notSynchronized
  subst hsz
  have hD := hD0.self (sz := s.heap.size)
  generalize hAe : va_A (va_pl L F) s.heap.size = A at hD ⊢
  have hA : ∀ q : Nat, s.heap.size ≤ q → A q := fun q h => by rw [← hAe]; exact Or.inr h
  have hS : va_S A s.heap s.heap [] := va_S.rf
  have hR : FR ty [τ] F F := FR.refl
  have hl := lv_entry ([.ref g1, .ref la]) (n := 6) (Nat.le_of_ble_eq_true rfl)
  rw [lg_entry_eq]
  generalize (lg_sl ([.ref g1, .ref la]) ++ List.replicate (6 - (lg_sl ([.ref g1, .ref la])).length) Slot.unset).toArray = ls at hl ⊢
  have hl : lv_has ls 6 [(0, .ref g1), (1, .ref la)] := hl
  obtain ⟨hi_1, ht_2, hq_3⟩ := hW.bytes hL_g1 hT_g1
  obtain ⟨f_4, hF_5⟩ := hO.longs hL_la hT_la
  refine lv_iconst (v := 0) hx hb dX6_load_0 (by decide) ?_
  refine lv_istore_n (lv' := [(2, .int 0), (0, .ref g1), (1, .ref la)]) hx hb dX6_load_1 rfl hl (by decide) rfl (fun ls hl => ?_)
  refine W.widen (k := 0) (n := 0) (by omega) (by omega) ?_
  have hF_7 : F g1 = .inr (0, [.ref r1, .int (nI 64), .int 0]) := (hR g1 (by rw [hT_g1]; simp only [List.mem_cons, List.not_mem_nil, or_false]; omega)).symm.trans hFg
  have hF_8 : F r1 = .inl (cs 16, n1, .inl f) := (hR r1 (by rw [ht_2]; simp only [List.mem_cons, List.not_mem_nil, or_false]; omega)).symm.trans hFr
  refine pl_loop (σ := Nat × (Nat → Int64)) A (dC, dI) cs ty L [τ] F 2 6 (fun (j, fq) => [(2, .int (nI j)), (0, .ref g1), (1, .ref la)]) (fun (j, fq) => []) (fun (j, fq) FF => j ≤ 16 ∧ FF la = .inl (cs 19, 16, .inr (.inl fq)) ∧ LDW b fq j) (fun (j, fq) => 16 - j) ?_ (0, f_4) F (⟨by omega, hF_5, fun k hk => absurd hk (Nat.not_lt_zero _)⟩) hO hR _ _ hP hD hS ls (lv_sub hl [0, 1, 2] rfl)
  rintro ⟨j, fq⟩ F_6 hv_9 hO hR ih_10 H locs hP hD hS ls hl
  have hl : lv_has ls 6 [(2, .int (nI j)), (0, .ref g1), (1, .ref la)] := hl
  have hv_9 : j ≤ 16 ∧ F_6 la = .inl (cs 19, 16, .inr (.inl fq)) ∧ LDW b fq j := hv_9
  refine W.eq (g2 := F0 m 2 ls []) rfl ?_
  have hF_11 : F_6 g1 = .inr (0, [.ref r1, .int (nI 64), .int 0]) := (hR g1 (by rw [hT_g1]; simp only [List.mem_cons, List.not_mem_nil, or_false]; omega)).trans hF_7
  have hF_12 : F_6 r1 = .inl (cs 16, n1, .inl f) := (hR r1 (by rw [ht_2]; simp only [List.mem_cons, List.not_mem_nil, or_false]; omega)).trans hF_8
  obtain ⟨hv1, hv2, hv3⟩ := id hv_9
  refine lv_iload_n hx hb dX6_load_2 rfl (lv_at hl 0 rfl) ?_
  refine lv_bipush (v := 16) hx hb dX6_load_3 (by decide) ?_
  refine lv_icmp_ge (tgt := 59) hx hb dX6_load_5 (by decide) (fun c_13 => ?_) (fun c_13 => ?_)
  ·
    have hi_14 : 16 ≤ j := leN (N := 16) c_13
    have hj6 : 16 ≤ j := (nI_leI (by omega) (by omega)).mp c_13
    refine W.widen (k := 0) (n := 0) (by omega) (by omega) ?_
    exact W.vret hx hb hr (fun t ht hWm => ⟨⟨(), rfl, trivial, ⟨F_6, fq, QT.mk ht hP hD hO hR, hv2, (ldw_m (by rw [show j = 16 by omega] at hv3; exact hv3) hBq), (ldw_n (by rw [show j = 16 by omega] at hv3; exact hv3))⟩⟩, hS.F ht⟩) hS.2.2 dX6_load_59
  ·
    have hi_15 : j < 16 := ltN (N := 16) c_13
    have hj6 : j < 16 := Nat.not_le.mp (fun q => c_13 ((nI_leI (by omega) (by omega)).mpr q))
    refine lv_lconst (v := 0) hx hb dX6_load_8 (by decide) ?_
    refine lv_lstore_n (lv' := [(3, .long 0), (2, .int (nI j)), (0, .ref g1), (1, .ref la)]) hx hb dX6_load_9 rfl hl (by decide) rfl (fun ls hl => ?_)
    refine lv_iconst (v := 0) hx hb dX6_load_10 (by decide) ?_
    refine lv_istore (lv' := [(5, .int 0), (3, .long 0), (2, .int (nI j)), (0, .ref g1), (1, .ref la)]) hx hb dX6_load_11 hl (by decide) rfl (fun ls hl => ?_)
    refine W.widen (k := 0) (n := 0) (by omega) (by omega) ?_
    have hF_17 : F g1 = .inr (0, [.ref r1, .int (nI 64), .int 0]) := (hR g1 (by rw [hT_g1]; simp only [List.mem_cons, List.not_mem_nil, or_false]; omega)).symm.trans hF_11
    have hF_18 : F r1 = .inl (cs 16, n1, .inl f) := (hR r1 (by rw [ht_2]; simp only [List.mem_cons, List.not_mem_nil, or_false]; omega)).symm.trans hF_12
    refine pl_loop (σ := Nat × Int64) A (dC, dI) cs ty L [τ] F 13 6 (fun (i, wv) => [(5, .int (nI i)), (3, .long wv), (2, .int (nI j)), (0, .ref g1), (1, .ref la)]) (fun (i, wv) => []) (fun (i, wv) FF => i ≤ 4 ∧ FF la = .inl (cs 19, 16, .inr (.inl fq)) ∧ uN wv = be (fun m => b ((15 - j) * 4 + m)) i) (fun (i, wv) => 4 - i) ?_ (0, 0) F_6 (⟨by omega, hv2, rfl⟩) hO hR _ _ hP hD hS ls (lv_sub hl [0, 1, 2, 3, 4] rfl)
    rintro ⟨i, wv⟩ F_16 hv_19 hO hR ih_20 H locs hP hD hS ls hl
    have hl : lv_has ls 6 [(5, .int (nI i)), (3, .long wv), (2, .int (nI j)), (0, .ref g1), (1, .ref la)] := hl
    have hv_19 : i ≤ 4 ∧ F_16 la = .inl (cs 19, 16, .inr (.inl fq)) ∧ uN wv = be (fun m => b ((15 - j) * 4 + m)) i := hv_19
    refine W.eq (g2 := F0 m 13 ls []) rfl ?_
    have hF_21 : F_16 g1 = .inr (0, [.ref r1, .int (nI 64), .int 0]) := (hR g1 (by rw [hT_g1]; simp only [List.mem_cons, List.not_mem_nil, or_false]; omega)).trans hF_17
    have hF_22 : F_16 r1 = .inl (cs 16, n1, .inl f) := (hR r1 (by rw [ht_2]; simp only [List.mem_cons, List.not_mem_nil, or_false]; omega)).trans hF_18
    obtain ⟨hw1, hw0, hw2⟩ := id hv_19
    refine lv_iload hx hb dX6_load_13 (lv_at hl 0 rfl) ?_
    refine lv_iconst (v := 4) hx hb dX6_load_15 (by decide) ?_
    refine lv_icmp_ge (tgt := 49) hx hb dX6_load_16 (by decide) (fun c_23 => ?_) (fun c_23 => ?_)
    ·
      have hi_24 : 4 ≤ i := leN (N := 4) c_23
      have hi4 : 4 ≤ i := (nI_leI (by omega) (by omega)).mp c_23
      refine lv_aload_n hx hb dX6_load_49 rfl (lv_at hl 4 rfl) ?_
      refine lv_iload_n hx hb dX6_load_50 rfl (lv_at hl 2 rfl) ?_
      refine lv_lload_n hx hb dX6_load_51 rfl (lv_at hl 1 rfl) ?_
      refine pg_last hx hb hK hP hD hS hL_la 3 hw0 rfl (vp_in_nI (by omega) (by omega)) dX6_load_52 (fun H locs hP hD hS => ?_)
      obtain ⟨F_25, he_26, hP, hD, hO, hR⟩ : ∃ G, G = va_up F_16 la (.inl (cs 19, 16, .inr (.inl (vp_updL fq ((nI j)).toNatClampNeg (wv))))) ∧ va_P (dC, dI) vwCl (va_pl L G) H ∧ va_D A (va_pl L G) ∧ OK cs ty L G ∧ FR ty [τ] F G := ⟨_, rfl, hP, hD, hO.up (sh.longs hT_la ⟨_, rfl⟩), hR.up hT_la (by simp)⟩
      have hF_27 : F_25 la = .inl (cs 19, 16, .inr (.inl (vp_updL fq ((nI j)).toNatClampNeg (wv)))) := by rw [he_26]; exact up_self
      have hF_28 : F_25 g1 = .inr (0, [.ref r1, .int (nI 64), .int 0]) := by rw [he_26, up_ne (ne_ty hT_g1 hT_la (by simp))]; exact hF_21
      have hF_29 : F_25 r1 = .inl (cs 16, n1, .inl f) := by rw [he_26, up_ne (ne_ty ht_2 hT_la (by simp))]; exact hF_22
      have hF_30 : F_25 la = .inl (cs 19, 16, .inr (.inl (vp_updL fq j wv))) := by have h9 := hF_27; rwa [nI_clamp (by omega)] at h9
      refine lv_iinc (v := (nI (j + 1))) (lv' := [(2, .int (nI (j + 1))), (5, .int (nI i)), (3, .long wv), (0, .ref g1), (1, .ref la)]) hx hb dX6_load_53 hl (k := 2) rfl (nI_1 _) (by decide) rfl (fun ls hl => ?_)
      refine lv_goto (tgt := 2) hx hb dX6_load_56 (by decide) ?_
      refine W.widen (k := 0) (n := 0) (by omega) (by omega) ?_
      exact ih_10 ((j + 1), (vp_updL fq j wv)) F_25 (⟨by omega, hF_30, ldw_s hv3 (by rw [hw2, show i = 4 by omega])⟩) (by show 16 - (j + 1) < 16 - j; omega) hO hR _ _ hP hD hS ls (lv_sub hl [0, 3, 4] rfl)
    ·
      have hi_31 : i < 4 := ltN (N := 4) c_23
      have hi4 : i < 4 := Nat.not_le.mp (fun q => c_23 ((nI_leI (by omega) (by omega)).mpr q))
      refine lv_lload_n hx hb dX6_load_19 rfl (lv_at hl 1 rfl) ?_
      refine lv_bipush (v := 8) hx hb dX6_load_20 (by decide) ?_
      refine lv_lshl hx hb dX6_load_22 rfl ?_
      refine lv_topl (fun x_33 ex_33 => ?_)
      obtain rfl : x_33 = (lsl wv 8) := ex_33.trans (rfl)
      refine lv_aload_n hx hb dX6_load_23 rfl (lv_at hl 3 rfl) ?_
      refine lv_bipush (v := 15) hx hb dX6_load_24 (by decide) ?_
      refine lv_iload_n hx hb dX6_load_26 rfl (lv_at hl 2 rfl) ?_
      refine lv_isub hx hb dX6_load_27 ?_
      refine lv_topi (fun x_34 ex_34 => ?_)
      obtain rfl : x_34 = (nI (15 - j)) := ex_34.trans (pk_sub (a := 15) (by omega))
      refine lv_iconst (v := 4) hx hb dX6_load_28 (by decide) ?_
      refine lv_imul hx hb dX6_load_29 ?_
      refine lv_topi (fun x_35 ex_35 => ?_)
      obtain rfl : x_35 = (nI ((15 - j) * 4)) := ex_35.trans (pk_mul (15 - j) 4)
      refine lv_iload hx hb dX6_load_30 (lv_at hl 0 rfl) ?_
      refine lv_iadd hx hb dX6_load_32 ?_
      refine lv_topi (fun x_36 ex_36 => ?_)
      obtain rfl : x_36 = (nI ((15 - j) * 4 + i)) := ex_36.trans (nI_add ((15 - j) * 4) i)
      have hFc := pg_free hD hS hA
      refine va_calli (va_runV (As := [.int (nI ((15 - j) * 4 + i))]) (rest := [.long (lsl wv 8)]) ⟨hx, hb, hml, hown, hts⟩ (s_X0_at_e l dC dI cs ty L H.size F_16 g1 σ r1 n1 64 ((15 - j) * 4 + i) f hW hL_g1 hT_g1 hF_21 hF_22 (by omega) (by omega) (by omega)) ⟨callB_of 1 hts (gi kt_21) rfl rfl rfl (hts _ kt_1) (hts _ kt_268) (by decide +kernel) ⟨Nat.le_of_ble_eq_true rfl, Nat.le_of_ble_eq_true rfl⟩, (hts _ kt_23), (hts _ kt_24)⟩ ⟨fun a U g mk q => ⟨q.1, PT.calling q.2⟩, pg_recv hK hP hL_g1 hF_21 (q := (RX0, TX0, 3)) rfl, fun U hU hWm => ⟨rfl, PT.mk hU hWm hP hK hD hE hO⟩⟩ rfl rfl hl.1 rfl (lv_room (Nat.le_of_ble_eq_true rfl)) dX6_load_33 ⟨by show _ + 0 ≤ 0; omega, by show _ + 0 ≤ 0; omega⟩) hS (fun q _ h => hFc q h) hFc (fun r_37 u t H1 locs ht hvm hw hB hz1 hk1 hS => ?_)
      obtain ⟨F_38, hB1⟩ := hB
      obtain rfl : F_16 = F_38 := (funext (fun a => hB1.2.2.2 a List.not_mem_nil)).symm
      obtain ⟨hP, hD, hO, hR⟩ := QT.back hB1 ht hFc hR (fun q h => absurd h List.not_mem_nil)
      generalize H1 = H at hP hS ⊢
      have hw : r_37 = f ((15 - j) * 4 + i) := hw
      have hw_39 := hw
      subst hw_39
      refine lv_sipush (v := 255) hx hb dX6_load_36 (by decide) ?_
      refine lv_iand hx hb dX6_load_39 ?_
      refine lv_topi (fun x_40 ex_40 => ?_)
      obtain rfl : x_40 = ((f ((15 - j) * 4 + i)) &&& 255) := ex_40.trans (rfl)
      refine lv_i2l (v := ((f ((15 - j) * 4 + i)) &&& 255).toInt64) hx hb dX6_load_40 rfl ?_
      refine lv_lor hx hb dX6_load_41 ?_
      refine lv_topl (fun x_41 ex_41 => ?_)
      obtain rfl : x_41 = ((lsl wv 8) ||| (((f ((15 - j) * 4 + i)) &&& 255).toInt64)) := ex_41.trans (rfl)
      refine lv_lstore_n (lv' := [(3, .long ((lsl wv 8) ||| (((f ((15 - j) * 4 + i)) &&& 255).toInt64))), (5, .int (nI i)), (2, .int (nI j)), (0, .ref g1), (1, .ref la)]) hx hb dX6_load_42 rfl hl (by decide) rfl (fun ls hl => ?_)
      refine lv_iinc (v := (nI (i + 1))) (lv' := [(5, .int (nI (i + 1))), (3, .long ((lsl wv 8) ||| (((f ((15 - j) * 4 + i)) &&& 255).toInt64))), (2, .int (nI j)), (0, .ref g1), (1, .ref la)]) hx hb dX6_load_43 hl (k := 1) rfl (nI_1 _) (by decide) rfl (fun ls hl => ?_)
      refine lv_goto (tgt := 13) hx hb dX6_load_46 (by decide) ?_
      refine W.widen (k := 0) (n := 0) (by omega) (by omega) ?_
      exact ih_20 ((i + 1), ((lsl wv 8) ||| (((f ((15 - j) * 4 + i)) &&& 255).toInt64))) F_16 (⟨by omega, hw0, ld_st hw2 hi4 (fun m hm => (hBq _ (by omega)).1) (hBq _ (by omega)).2⟩) (by show 4 - (i + 1) < 4 - i; omega) hO hR _ _ hP hD hS ls (lv_sub hl [0, 1, 2, 3, 4] rfl)
set_option maxHeartbeats 4000000 in
set_option maxRecDepth 100000 in
theorem s_X6_factorOf_e (l : Launch) (dC : Nat → ClassId) (dI : Nat → Nat → Nat) (cs : Nat → ClassId) (ty : TyM) (L : List Nat) (sz : Nat) (F : Nat → va_E) (x1 : Int32) (hW : WT ty L) : Met l yX6_factorOf (.code yX6_factorOf cX6_factorOf 3 (some .long) :: tb) ({ frames := 0, cells := 0, slots := 0, locals := 0 }) (va_Pc [.int x1] (PT (dC, dI) cs ty L F sz)) (va_Ql (fun (r : Int64) (_ : Unit) => uN r = u32 (-(fiv x1 5))) (fun _ T9 => ∃ F2 : Nat → va_E, QT (dC, dI) cs ty L [] F F2 (va_A (va_pl L F) sz) T9) (va_A (va_pl L F) sz)) 0 0 (va_A (va_pl L F) sz) := by
  refine Met.ofW (cc := cX6_factorOf) (maxL := 3) (ret := (some .long)) (by decide) rfl ?_
  intro p e s m args below meth c s₁ B hml hv
  obtain ⟨rfl, hsz, hP, hK, hD0, hE, hO⟩ := hv
  have hx := B.exec
  have hb := B.bytes
  have hr := B.returns
  have hts : ∀ w ∈ tb, w.before _ s = true := fun w h => atoms_spec (ws := .code yX6_factorOf cX6_factorOf 3 (some .long) :: tb) B.pre w (List.mem_cons_of_mem _ h)
  have hown : s.vm.findClass RX6 = some m.cls := findClass_of_methodNamed B.named
  have hlocks := B.notSynchronized
  subst hsz
  have hD := hD0.self (sz := s.heap.size)
  generalize hAe : va_A (va_pl L F) s.heap.size = A at hD ⊢
  have hA : ∀ q : Nat, s.heap.size ≤ q → A q := fun q h => by rw [← hAe]; exact Or.inr h
  have hS : va_S A s.heap s.heap [] := va_S.rf
  have hR : FR ty [] F F := FR.refl
  have hl := lv_entry ([.int x1]) (n := 3) (Nat.le_of_ble_eq_true rfl)
  rw [lg_entry_eq]
  generalize (lg_sl ([.int x1]) ++ List.replicate (3 - (lg_sl ([.int x1])).length) Slot.unset).toArray = ls at hl ⊢
  have hl : lv_has ls 3 [(0, .int x1)] := hl
  refine lv_iload_n hx hb dX6_factorOf_0 rfl (lv_at hl 0 rfl) ?_
  refine lv_istore_n (lv' := [(1, .int x1), (0, .int x1)]) hx hb dX6_factorOf_1 rfl hl (by decide) rfl (fun ls hl => ?_)
  refine lv_iconst (v := 0) hx hb dX6_factorOf_2 (by decide) ?_
  refine lv_istore_n (lv' := [(2, .int 0), (1, .int x1), (0, .int x1)]) hx hb dX6_factorOf_3 rfl hl (by decide) rfl (fun ls hl => ?_)
  refine W.widen (k := 0) (n := 0) (by omega) (by omega) ?_
  refine pl_loop (σ := Nat × Int32) A (dC, dI) cs ty L [] F 4 3 (fun (j, w1) => [(2, .int (nI j)), (1, .int w1), (0, .int x1)]) (fun (j, w1) => []) (fun (j, w1) _ => j ≤ 5 ∧ w1 = fiv x1 j) (fun (j, w1) => 5 - j) ?_ (0, x1) F (⟨by omega, rfl⟩) hO hR _ _ hP hD hS ls (lv_sub hl [0, 1, 2] rfl)
  rintro ⟨j, w1⟩ F_1 hv_2 hO hR ih_3 H locs hP hD hS ls hl
  have hl : lv_has ls 3 [(2, .int (nI j)), (1, .int w1), (0, .int x1)] := hl
  have hv_2 : j ≤ 5 ∧ w1 = fiv x1 j := hv_2
  refine W.eq (g2 := F0 m 4 ls []) rfl ?_
  obtain rfl : F = F_1 := (funext (fun a => hR a List.not_mem_nil)).symm
  obtain ⟨hv1, hv2⟩ := id hv_2
  refine lv_iload_n hx hb dX6_factorOf_4 rfl (lv_at hl 0 rfl) ?_
  refine lv_iconst (v := 5) hx hb dX6_factorOf_5 (by decide) ?_
  refine lv_icmp_ge (tgt := 23) hx hb dX6_factorOf_6 (by decide) (fun c_4 => ?_) (fun c_4 => ?_)
  ·
    have hi_5 : 5 ≤ j := leN (N := 5) c_4
    have hj5 : 5 ≤ j := (nI_leI (by omega) (by omega)).mp c_4
    refine lv_iload_n hx hb dX6_factorOf_23 rfl (lv_at hl 1 rfl) ?_
    refine lv_ineg hx hb dX6_factorOf_24 ?_
    refine lv_topi (fun x_6 ex_6 => ?_)
    obtain rfl : x_6 = (-w1) := ex_6.trans (rfl)
    refine lv_i2l (v := (-w1).toInt64) hx hb dX6_factorOf_25 rfl ?_
    refine lv_ldc2 (v := 4294967295) hx hb hown (hts _ kt_269) dX6_factorOf_26 ?_
    refine lv_land hx hb dX6_factorOf_29 ?_
    refine lv_topl (fun x_7 ex_7 => ?_)
    obtain rfl : x_7 = (((-w1).toInt64) &&& 4294967295) := ex_7.trans (rfl)
    refine W.widen (k := 0) (n := 0) (by omega) (by omega) ?_
    exact W.lret (v := (((-w1).toInt64) &&& 4294967295)) hx hb hr (fun t ht hWm => ⟨⟨(((-w1).toInt64) &&& 4294967295), (), rfl, (by rw [hv2, show j = 5 by omega]; exact uN_m32 _), ⟨F, QT.mk ht hP hD hO hR⟩⟩, hS.F ht⟩) hS.2.2 dX6_factorOf_30
  ·
    have hi_8 : j < 5 := ltN (N := 5) c_4
    have hj5 : j < 5 := Nat.not_le.mp (fun q => c_4 ((nI_leI (by omega) (by omega)).mpr q))
    refine lv_iload_n hx hb dX6_factorOf_9 rfl (lv_at hl 1 rfl) ?_
    refine lv_iconst (v := 2) hx hb dX6_factorOf_10 (by decide) ?_
    refine lv_iload_n hx hb dX6_factorOf_11 rfl (lv_at hl 2 rfl) ?_
    refine lv_iload_n hx hb dX6_factorOf_12 rfl (lv_at hl 1 rfl) ?_
    refine lv_imul hx hb dX6_factorOf_13 ?_
    refine lv_topi (fun x_9 ex_9 => ?_)
    obtain rfl : x_9 = (x1 * w1) := ex_9.trans (rfl)
    refine lv_isub hx hb dX6_factorOf_14 ?_
    refine lv_topi (fun x_10 ex_10 => ?_)
    obtain rfl : x_10 = (2 - (x1 * w1)) := ex_10.trans (rfl)
    refine lv_imul hx hb dX6_factorOf_15 ?_
    refine lv_topi (fun x_11 ex_11 => ?_)
    obtain rfl : x_11 = (w1 * (2 - (x1 * w1))) := ex_11.trans (rfl)
    refine lv_istore_n (lv' := [(1, .int (w1 * (2 - (x1 * w1)))), (2, .int (nI j)), (0, .int x1)]) hx hb dX6_factorOf_16 rfl hl (by decide) rfl (fun ls hl => ?_)
    refine lv_iinc (v := (nI (j + 1))) (lv' := [(2, .int (nI (j + 1))), (1, .int (w1 * (2 - (x1 * w1)))), (0, .int x1)]) hx hb dX6_factorOf_17 hl (k := 1) rfl (nI_1 _) (by decide) rfl (fun ls hl => ?_)
    refine lv_goto (tgt := 4) hx hb dX6_factorOf_20 (by decide) ?_
    refine W.widen (k := 0) (n := 0) (by omega) (by omega) ?_
    exact ih_3 ((j + 1), (w1 * (2 - (x1 * w1)))) F (⟨by omega, by rw [hv2]; exact (fiv_s x1 j).symm⟩) (by show 5 - (j + 1) < 5 - j; omega) hO hR _ _ hP hD hS ls (lv_sub hl [0, 1, 2] rfl)
set_option maxHeartbeats 4000000 in
set_option maxRecDepth 100000 in
theorem s_X6_addTimes_e (l : Launch) (dC : Nat → ClassId) (dI : Nat → Nat → Nat) (cs : Nat → ClassId) (ty : TyM) (L : List Nat) (sz : Nat) (F : Nat → va_E) (h0 : Nat) (ρ : Nat) (pm : Nat) (pb : Nat) (pv : Nat) (pu : Nat) (la : Nat) (τ : Nat) (fs : Nat → Int64) (fa : Nat → Int64) (x2 : Int64) (v6 : Int64) (hW : WT ty L) (hL_h0 : h0 ∈ L) (hT_h0 : ty h0 = (6, ρ, [pm, pb, pv, pu])) (hL_la : la ∈ L) (hT_la : ty la = (19, τ, [16])) (hF0 : F h0 = .inr (6, [.ref pm, .ref pb, .ref pv, .ref pu, .long v6])) (hFu : F pu = .inl (cs 19, 18, .inr (.inl fs))) (hFa : F la = .inl (cs 19, 16, .inr (.inl fa))) (hs : LM fs 17) (h17 : uN (fs 17) ≤ 5) (ha : LM fa 16) (hx2 : uN x2 < 4294967296) (hta : τ ≠ ρ + 88) : Met l yX6_addTimes (.code yX6_addTimes cX6_addTimes 9 none :: tb) ({ frames := 0, cells := 0, slots := 0, locals := 0 }) (va_Pc [.ref h0, .ref la, .long x2] (PT (dC, dI) cs ty L F sz)) (va_Qv (fun _ : Unit => True) (fun _ T9 => ∃ F2 : Nat → va_E, ∃ f2 : Nat → Int64, QT (dC, dI) cs ty L [ρ + 88] F F2 (va_A (va_pl L F) sz) T9 ∧ F2 pu = .inl (cs 19, 18, .inr (.inl f2)) ∧ LM f2 17 ∧ lQN f2 18 = lQN fs 18 + lQN fa 16 * uN x2 ∧ uN (f2 17) ≤ uN (fs 17) + 1) (va_A (va_pl L F) sz)) 0 0 (va_A (va_pl L F) sz) := by
  refine Met.ofW (cc := cX6_addTimes) (maxL := 9) (ret := none) (by decide) rfl ?_
  intro p e s m args below meth c s₁ B hml hv
  obtain ⟨rfl, hsz, hP, hK, hD0, hE, hO⟩ := hv
  have hx := B.exec
  have hb := B.bytes
  have hr := B.returns
  have hts : ∀ w ∈ tb, w.before _ s = true := fun w h => atoms_spec (ws := .code yX6_addTimes cX6_addTimes 9 none :: tb) B.pre w (List.mem_cons_of_mem _ h)
  have hown : s.vm.findClass RX6 = some m.cls := findClass_of_methodNamed B.named
  have hlocks := B.notSynchronized
  subst hsz
  have hD := hD0.self (sz := s.heap.size)
  generalize hAe : va_A (va_pl L F) s.heap.size = A at hD ⊢
  have hA : ∀ q : Nat, s.heap.size ≤ q → A q := fun q h => by rw [← hAe]; exact Or.inr h
  have hS : va_S A s.heap s.heap [] := va_S.rf
  have hR : FR ty [ρ + 88] F F := FR.refl
  have hl := lv_entry ([.ref h0, .ref la, .long x2]) (n := 9) (Nat.le_of_ble_eq_true rfl)
  rw [lg_entry_eq]
  generalize (lg_sl ([.ref h0, .ref la, .long x2]) ++ List.replicate (9 - (lg_sl ([.ref h0, .ref la, .long x2])).length) Slot.unset).toArray = ls at hl ⊢
  have hl : lv_has ls 9 [(0, .ref h0), (1, .ref la), (2, .long x2)] := hl
  obtain ⟨hi_1, hi_2, hi_3, hi_4, ht_5, ht_6, ht_7, ht_8⟩ := hW.power hL_h0 hT_h0
  refine lv_lconst (v := 0) hx hb dX6_addTimes_0 (by decide) ?_
  refine lv_lstore (lv' := [(4, .long 0), (0, .ref h0), (1, .ref la), (2, .long x2)]) hx hb dX6_addTimes_1 hl (by decide) rfl (fun ls hl => ?_)
  refine lv_iconst (v := 0) hx hb dX6_addTimes_3 (by decide) ?_
  refine lv_istore (lv' := [(6, .int 0), (4, .long 0), (0, .ref h0), (1, .ref la), (2, .long x2)]) hx hb dX6_addTimes_4 hl (by decide) rfl (fun ls hl => ?_)
  refine W.widen (k := 0) (n := 0) (by omega) (by omega) ?_
  have hF_10 : F h0 = .inr (6, [.ref pm, .ref pb, .ref pv, .ref pu, .long v6]) := (hR h0 (by rw [hT_h0]; simp)).symm.trans hF0
  have hF_11 : F la = .inl (cs 19, 16, .inr (.inl fa)) := (hR la (by rw [hT_la]; simp only [List.mem_cons, List.not_mem_nil, or_false]; omega)).symm.trans hFa
  refine pl_loop (σ := Nat × Int64 × (Nat → Int64)) A (dC, dI) cs ty L [ρ + 88] F 6 9 (fun (j, w4, fq) => [(6, .int (nI j)), (4, .long w4), (0, .ref h0), (1, .ref la), (2, .long x2)]) (fun (j, w4, fq) => []) (fun (j, w4, fq) FF => j ≤ 16 ∧ FF pu = .inl (cs 19, 18, .inr (.inl fq)) ∧ ATI fs fa fq (uN x2) (uN w4) j) (fun (j, w4, fq) => 16 - j) ?_ (0, 0, fs) F (⟨by omega, hFu, ati_0⟩) hO hR _ _ hP hD hS ls (lv_sub hl [0, 1, 2, 3, 4] rfl)
  rintro ⟨j, w4, fq⟩ F_9 hv_12 hO hR ih_13 H locs hP hD hS ls hl
  have hl : lv_has ls 9 [(6, .int (nI j)), (4, .long w4), (0, .ref h0), (1, .ref la), (2, .long x2)] := hl
  have hv_12 : j ≤ 16 ∧ F_9 pu = .inl (cs 19, 18, .inr (.inl fq)) ∧ ATI fs fa fq (uN x2) (uN w4) j := hv_12
  refine W.eq (g2 := F0 m 6 ls []) rfl ?_
  have hF_14 : F_9 h0 = .inr (6, [.ref pm, .ref pb, .ref pv, .ref pu, .long v6]) := (hR h0 (by rw [hT_h0]; simp)).trans hF_10
  have hF_15 : F_9 la = .inl (cs 19, 16, .inr (.inl fa)) := (hR la (by rw [hT_la]; simp only [List.mem_cons, List.not_mem_nil, or_false]; omega)).trans hF_11
  obtain ⟨hv1, hv2, hv3⟩ := id hv_12
  refine lv_iload hx hb dX6_addTimes_6 (lv_at hl 0 rfl) ?_
  refine lv_bipush (v := 16) hx hb dX6_addTimes_8 (by decide) ?_
  refine lv_icmp_ge (tgt := 58) hx hb dX6_addTimes_10 (by decide) (fun c_16 => ?_) (fun c_16 => ?_)
  ·
    have hi_17 : 16 ≤ j := leN (N := 16) c_16
    have hj6 : 16 ≤ j := (nI_leI (by omega) (by omega)).mp c_16
    have hj9 : j = 16 := by omega
    rw [hj9] at hv3
    obtain ⟨hy1, hy2, hy3⟩ := ati_e hv3 hs h17
    refine lv_lload hx hb dX6_addTimes_58 (lv_at hl 1 rfl) ?_
    refine lv_aload_n hx hb dX6_addTimes_60 rfl (lv_at hl 2 rfl) ?_
    refine pg_get (ci := 6) (v := .ref pu) (C := RX6) (T := TX6) (N := 5) hx hb hts it_6 hown hK hP hL_h0 hF_14 rfl 3 (by decide) (hts _ kt_270) (fun _ h9 => h9) rfl dX6_addTimes_61 ?_
    refine lv_bipush (v := 16) hx hb dX6_addTimes_64 (by decide) ?_
    refine pg_lald hx hb hK hP hi_4 3 hv2 rfl (show vp_in (16 : Int32) 18 from (show vp_in (nI 16) 18 from vp_in_nI (by omega) (by omega))) dX6_addTimes_66 ?_
    refine lv_topl (fun x_18 ex_18 => ?_)
    obtain rfl : x_18 = (fq 16) := ex_18.trans (congrArg fq (show (16 : Int32).toNatClampNeg = 16 by decide))
    refine lv_ladd hx hb dX6_addTimes_67 ?_
    refine lv_topl (fun x_19 ex_19 => ?_)
    obtain rfl : x_19 = (w4 + (fq 16)) := ex_19.trans (rfl)
    refine lv_lstore (lv' := [(4, .long (w4 + (fq 16))), (6, .int (nI j)), (0, .ref h0), (1, .ref la), (2, .long x2)]) hx hb dX6_addTimes_68 hl (by decide) rfl (fun ls hl => ?_)
    refine lv_aload_n hx hb dX6_addTimes_70 rfl (lv_at hl 2 rfl) ?_
    refine pg_get (ci := 6) (v := .ref pu) (C := RX6) (T := TX6) (N := 5) hx hb hts it_6 hown hK hP hL_h0 hF_14 rfl 3 (by decide) (hts _ kt_270) (fun _ h9 => h9) rfl dX6_addTimes_71 ?_
    refine lv_bipush (v := 16) hx hb dX6_addTimes_74 (by decide) ?_
    refine lv_lload hx hb dX6_addTimes_76 (lv_at hl 0 rfl) ?_
    refine lv_ldc2 (v := 4294967295) hx hb hown (hts _ kt_269) dX6_addTimes_78 ?_
    refine lv_land hx hb dX6_addTimes_81 ?_
    refine lv_topl (fun x_20 ex_20 => ?_)
    obtain rfl : x_20 = ((w4 + (fq 16)) &&& 4294967295) := ex_20.trans (rfl)
    refine pg_last hx hb hK hP hD hS hi_4 3 hv2 rfl (show vp_in (16 : Int32) 18 from (show vp_in (nI 16) 18 from vp_in_nI (by omega) (by omega))) dX6_addTimes_82 (fun H locs hP hD hS => ?_)
    obtain ⟨F_21, he_22, hP, hD, hO, hR⟩ : ∃ G, G = va_up F_9 pu (.inl (cs 19, 18, .inr (.inl (vp_updL fq (16 : Int32).toNatClampNeg (((w4 + (fq 16)) &&& 4294967295)))))) ∧ va_P (dC, dI) vwCl (va_pl L G) H ∧ va_D A (va_pl L G) ∧ OK cs ty L G ∧ FR ty [ρ + 88] F G := ⟨_, rfl, hP, hD, hO.up (sh.longs ht_8 ⟨_, rfl⟩), hR.up ht_8 (by simp)⟩
    have hF_23 : F_21 pu = .inl (cs 19, 18, .inr (.inl (vp_updL fq (16 : Int32).toNatClampNeg (((w4 + (fq 16)) &&& 4294967295))))) := by rw [he_22]; exact up_self
    have hF_24 : F_21 h0 = .inr (6, [.ref pm, .ref pb, .ref pv, .ref pu, .long v6]) := by rw [he_22, up_ne (ne_ty hT_h0 ht_8 (by simp))]; exact hF_14
    have hF_25 : F_21 la = .inl (cs 19, 16, .inr (.inl fa)) := by rw [he_22, up_ne (ne_ty3 hT_la ht_8 (by show τ ≠ ρ + 88; omega))]; exact hF_15
    have hF_26 : F_21 pu = .inl (cs 19, 18, .inr (.inl (vp_updL fq 16 ((w4 + (fq 16)) &&& 4294967295)))) := by have h9 := hF_23; rwa [show (16 : Int32).toNatClampNeg = 16 by decide] at h9
    refine lv_aload_n hx hb dX6_addTimes_83 rfl (lv_at hl 2 rfl) ?_
    refine pg_get (ci := 6) (v := .ref pu) (C := RX6) (T := TX6) (N := 5) hx hb hts it_6 hown hK hP hL_h0 hF_24 rfl 3 (by decide) (hts _ kt_270) (fun _ h9 => h9) rfl dX6_addTimes_84 ?_
    refine lv_bipush (v := 17) hx hb dX6_addTimes_87 (by decide) ?_
    refine lv_dup2_11 hx hb dX6_addTimes_89 rfl rfl ?_
    refine pg_lald hx hb hK hP hi_4 3 hF_26 rfl (show vp_in (17 : Int32) 18 from (show vp_in (nI 17) 18 from vp_in_nI (by omega) (by omega))) dX6_addTimes_90 ?_
    refine lv_topl (fun x_27 ex_27 => ?_)
    obtain rfl : x_27 = ((vp_updL fq 16 ((w4 + (fq 16)) &&& 4294967295)) 17) := ex_27.trans (congrArg (vp_updL fq 16 ((w4 + (fq 16)) &&& 4294967295)) (show (17 : Int32).toNatClampNeg = 17 by decide))
    refine lv_lload hx hb dX6_addTimes_91 (lv_at hl 0 rfl) ?_
    refine lv_bipush (v := 32) hx hb dX6_addTimes_93 (by decide) ?_
    refine lv_lushr hx hb dX6_addTimes_95 rfl ?_
    refine lv_topl (fun x_29 ex_29 => ?_)
    obtain rfl : x_29 = (lus (w4 + (fq 16)) 32) := ex_29.trans (rfl)
    refine lv_ladd hx hb dX6_addTimes_96 ?_
    refine lv_topl (fun x_30 ex_30 => ?_)
    obtain rfl : x_30 = (((vp_updL fq 16 ((w4 + (fq 16)) &&& 4294967295)) 17) + (lus (w4 + (fq 16)) 32)) := ex_30.trans (rfl)
    refine pg_last hx hb hK hP hD hS hi_4 3 hF_26 rfl (show vp_in (17 : Int32) 18 from (show vp_in (nI 17) 18 from vp_in_nI (by omega) (by omega))) dX6_addTimes_97 (fun H locs hP hD hS => ?_)
    obtain ⟨F_31, he_32, hP, hD, hO, hR⟩ : ∃ G, G = va_up F_21 pu (.inl (cs 19, 18, .inr (.inl (vp_updL (vp_updL fq 16 ((w4 + (fq 16)) &&& 4294967295)) (17 : Int32).toNatClampNeg ((((vp_updL fq 16 ((w4 + (fq 16)) &&& 4294967295)) 17) + (lus (w4 + (fq 16)) 32))))))) ∧ va_P (dC, dI) vwCl (va_pl L G) H ∧ va_D A (va_pl L G) ∧ OK cs ty L G ∧ FR ty [ρ + 88] F G := ⟨_, rfl, hP, hD, hO.up (sh.longs ht_8 ⟨_, rfl⟩), hR.up ht_8 (by simp)⟩
    have hF_33 : F_31 pu = .inl (cs 19, 18, .inr (.inl (vp_updL (vp_updL fq 16 ((w4 + (fq 16)) &&& 4294967295)) (17 : Int32).toNatClampNeg ((((vp_updL fq 16 ((w4 + (fq 16)) &&& 4294967295)) 17) + (lus (w4 + (fq 16)) 32)))))) := by rw [he_32]; exact up_self
    have hF_34 : F_31 h0 = .inr (6, [.ref pm, .ref pb, .ref pv, .ref pu, .long v6]) := by rw [he_32, up_ne (ne_ty hT_h0 ht_8 (by simp))]; exact hF_24
    have hF_35 : F_31 la = .inl (cs 19, 16, .inr (.inl fa)) := by rw [he_32, up_ne (ne_ty3 hT_la ht_8 (by show τ ≠ ρ + 88; omega))]; exact hF_25
    have hF_36 : F_31 pu = .inl (cs 19, 18, .inr (.inl (vp_updL (vp_updL fq 16 ((w4 + (fq 16)) &&& 4294967295)) 17 (((vp_updL fq 16 ((w4 + (fq 16)) &&& 4294967295)) 17) + (lus (w4 + (fq 16)) 32))))) := by have h9 := hF_33; rwa [show (17 : Int32).toNatClampNeg = 17 by decide] at h9
    refine W.widen (k := 0) (n := 0) (by omega) (by omega) ?_
    exact W.vret hx hb hr (fun t ht hWm => ⟨⟨(), rfl, trivial, ⟨F_31, (vp_updL (vp_updL fq 16 ((w4 + (fq 16)) &&& 4294967295)) 17 (((vp_updL fq 16 ((w4 + (fq 16)) &&& 4294967295)) 17) + (lus (w4 + (fq 16)) 32))), QT.mk ht hP hD hO hR, hF_36, hy1, hy2, hy3⟩⟩, hS.F ht⟩) hS.2.2 dX6_addTimes_98
  ·
    have hi_37 : j < 16 := ltN (N := 16) c_16
    have hj6 : j < 16 := Nat.not_le.mp (fun q => c_16 ((nI_leI (by omega) (by omega)).mpr q))
    refine lv_aload_n hx hb dX6_addTimes_13 rfl (lv_at hl 2 rfl) ?_
    refine pg_get (ci := 6) (v := .ref pu) (C := RX6) (T := TX6) (N := 5) hx hb hts it_6 hown hK hP hL_h0 hF_14 rfl 3 (by decide) (hts _ kt_270) (fun _ h9 => h9) rfl dX6_addTimes_14 ?_
    refine lv_iload hx hb dX6_addTimes_17 (lv_at hl 0 rfl) ?_
    refine pg_lald hx hb hK hP hi_4 3 hv2 rfl (vp_in_nI (by omega) (by omega)) dX6_addTimes_19 ?_
    refine lv_topl (fun x_38 ex_38 => ?_)
    obtain rfl : x_38 = (fq j) := ex_38.trans (congrArg fq (nI_clamp (by omega)))
    refine lv_aload_n hx hb dX6_addTimes_20 rfl (lv_at hl 3 rfl) ?_
    refine lv_iload hx hb dX6_addTimes_21 (lv_at hl 0 rfl) ?_
    refine pg_lald hx hb hK hP hL_la 3 hF_15 rfl (vp_in_nI (by omega) (by omega)) dX6_addTimes_23 ?_
    refine lv_topl (fun x_39 ex_39 => ?_)
    obtain rfl : x_39 = (fa j) := ex_39.trans (congrArg fa (nI_clamp (by omega)))
    refine lv_lload_n hx hb dX6_addTimes_24 rfl (lv_at hl 4 rfl) ?_
    refine lv_lmul hx hb dX6_addTimes_25 ?_
    refine lv_topl (fun x_40 ex_40 => ?_)
    obtain rfl : x_40 = ((fa j) * x2) := ex_40.trans (rfl)
    refine lv_ladd hx hb dX6_addTimes_26 ?_
    refine lv_topl (fun x_41 ex_41 => ?_)
    obtain rfl : x_41 = ((fq j) + ((fa j) * x2)) := ex_41.trans (rfl)
    refine lv_lload hx hb dX6_addTimes_27 (lv_at hl 1 rfl) ?_
    refine lv_ladd hx hb dX6_addTimes_29 ?_
    refine lv_topl (fun x_42 ex_42 => ?_)
    obtain rfl : x_42 = (((fq j) + ((fa j) * x2)) + w4) := ex_42.trans (rfl)
    refine lv_lstore (lv' := [(7, .long (((fq j) + ((fa j) * x2)) + w4)), (6, .int (nI j)), (4, .long w4), (0, .ref h0), (1, .ref la), (2, .long x2)]) hx hb dX6_addTimes_30 hl (by decide) rfl (fun ls hl => ?_)
    refine lv_aload_n hx hb dX6_addTimes_32 rfl (lv_at hl 3 rfl) ?_
    refine pg_get (ci := 6) (v := .ref pu) (C := RX6) (T := TX6) (N := 5) hx hb hts it_6 hown hK hP hL_h0 hF_14 rfl 3 (by decide) (hts _ kt_270) (fun _ h9 => h9) rfl dX6_addTimes_33 ?_
    refine lv_iload hx hb dX6_addTimes_36 (lv_at hl 1 rfl) ?_
    refine lv_lload hx hb dX6_addTimes_38 (lv_at hl 0 rfl) ?_
    refine lv_ldc2 (v := 4294967295) hx hb hown (hts _ kt_269) dX6_addTimes_40 ?_
    refine lv_land hx hb dX6_addTimes_43 ?_
    refine lv_topl (fun x_43 ex_43 => ?_)
    obtain rfl : x_43 = ((((fq j) + ((fa j) * x2)) + w4) &&& 4294967295) := ex_43.trans (rfl)
    refine pg_last hx hb hK hP hD hS hi_4 3 hv2 rfl (vp_in_nI (by omega) (by omega)) dX6_addTimes_44 (fun H locs hP hD hS => ?_)
    obtain ⟨F_44, he_45, hP, hD, hO, hR⟩ : ∃ G, G = va_up F_9 pu (.inl (cs 19, 18, .inr (.inl (vp_updL fq ((nI j)).toNatClampNeg (((((fq j) + ((fa j) * x2)) + w4) &&& 4294967295)))))) ∧ va_P (dC, dI) vwCl (va_pl L G) H ∧ va_D A (va_pl L G) ∧ OK cs ty L G ∧ FR ty [ρ + 88] F G := ⟨_, rfl, hP, hD, hO.up (sh.longs ht_8 ⟨_, rfl⟩), hR.up ht_8 (by simp)⟩
    have hF_46 : F_44 pu = .inl (cs 19, 18, .inr (.inl (vp_updL fq ((nI j)).toNatClampNeg (((((fq j) + ((fa j) * x2)) + w4) &&& 4294967295))))) := by rw [he_45]; exact up_self
    have hF_47 : F_44 h0 = .inr (6, [.ref pm, .ref pb, .ref pv, .ref pu, .long v6]) := by rw [he_45, up_ne (ne_ty hT_h0 ht_8 (by simp))]; exact hF_14
    have hF_48 : F_44 la = .inl (cs 19, 16, .inr (.inl fa)) := by rw [he_45, up_ne (ne_ty3 hT_la ht_8 (by show τ ≠ ρ + 88; omega))]; exact hF_15
    have hF_49 : F_44 pu = .inl (cs 19, 18, .inr (.inl (vp_updL fq j ((((fq j) + ((fa j) * x2)) + w4) &&& 4294967295)))) := by have h9 := hF_46; rwa [nI_clamp (by omega)] at h9
    refine lv_lload hx hb dX6_addTimes_45 (lv_at hl 0 rfl) ?_
    refine lv_bipush (v := 32) hx hb dX6_addTimes_47 (by decide) ?_
    refine lv_lushr hx hb dX6_addTimes_49 rfl ?_
    refine lv_topl (fun x_51 ex_51 => ?_)
    obtain rfl : x_51 = (lus (((fq j) + ((fa j) * x2)) + w4) 32) := ex_51.trans (rfl)
    refine lv_lstore (lv' := [(4, .long (lus (((fq j) + ((fa j) * x2)) + w4) 32)), (7, .long (((fq j) + ((fa j) * x2)) + w4)), (6, .int (nI j)), (0, .ref h0), (1, .ref la), (2, .long x2)]) hx hb dX6_addTimes_50 hl (by decide) rfl (fun ls hl => ?_)
    refine lv_iinc (v := (nI (j + 1))) (lv' := [(6, .int (nI (j + 1))), (4, .long (lus (((fq j) + ((fa j) * x2)) + w4) 32)), (7, .long (((fq j) + ((fa j) * x2)) + w4)), (0, .ref h0), (1, .ref la), (2, .long x2)]) hx hb dX6_addTimes_52 hl (k := 2) rfl (nI_1 _) (by decide) rfl (fun ls hl => ?_)
    refine lv_goto (tgt := 6) hx hb dX6_addTimes_55 (by decide) ?_
    refine W.widen (k := 0) (n := 0) (by omega) (by omega) ?_
    exact ih_13 ((j + 1), (lus (((fq j) + ((fa j) * x2)) + w4) 32), (vp_updL fq j ((((fq j) + ((fa j) * x2)) + w4) &&& 4294967295))) F_44 (⟨by omega, hF_49, ati_s hv3 hs ha hx2 hj6⟩) (by show 16 - (j + 1) < 16 - j; omega) hO hR _ _ hP hD hS ls (lv_sub hl [0, 1, 3, 4, 5] rfl)
set_option maxHeartbeats 4000000 in
set_option maxRecDepth 100000 in
theorem s_X6_reduce_e (l : Launch) (dC : Nat → ClassId) (dI : Nat → Nat → Nat) (cs : Nat → ClassId) (ty : TyM) (L : List Nat) (sz : Nat) (F : Nat → va_E) (h0 : Nat) (ρ : Nat) (pm : Nat) (pb : Nat) (pv : Nat) (pu : Nat) (fs : Nat → Int64) (fm : Nat → Int64) (v6 : Int64) (nn : Nat) (hW : WT ty L) (hL_h0 : h0 ∈ L) (hT_h0 : ty h0 = (6, ρ, [pm, pb, pv, pu])) (hF0 : F h0 = .inr (6, [.ref pm, .ref pb, .ref pv, .ref pu, .long v6])) (hFu : F pu = .inl (cs 19, 18, .inr (.inl fs))) (hFm : F pm = .inl (cs 19, 16, .inr (.inl fm))) (hs : LM fs 17) (hm : LM fm 16) (hn : lQN fm 16 = nn) (h2n : lQN fs 17 < 2 * nn) : Met l yX6_reduce (.code yX6_reduce cX6_reduce 6 none :: tb) ({ frames := 1, cells := 0, slots := 0, locals := 48 }) (va_Pc [.ref h0] (PT (dC, dI) cs ty L F sz)) (va_Qv (fun _ : Unit => True) (fun _ T9 => ∃ F2 : Nat → va_E, ∃ f2 : Nat → Int64, QT (dC, dI) cs ty L [ρ + 87] F F2 (va_A (va_pl L F) sz) T9 ∧ F2 pv = .inl (cs 19, 16, .inr (.inl f2)) ∧ LM f2 16 ∧ lQN f2 16 = lQN fs 17 % nn) (va_A (va_pl L F) sz)) 0 0 (va_A (va_pl L F) sz) := by
  refine Met.ofW (cc := cX6_reduce) (maxL := 6) (ret := none) (by decide) rfl ?_
  intro p e s m args below meth c s₁ B hml hv
  obtain ⟨rfl, hsz, hP, hK, hD0, hE, hO⟩ := hv
  have hx := B.exec
  have hb := B.bytes
  have hr := B.returns
  have hts : ∀ w ∈ tb, w.before _ s = true := fun w h => atoms_spec (ws := .code yX6_reduce cX6_reduce 6 none :: tb) B.pre w (List.mem_cons_of_mem _ h)
  have hown : s.vm.findClass RX6 = some m.cls := findClass_of_methodNamed B.named
  have hlocks := B.notSynchronized
  subst hsz
  have hD := hD0.self (sz := s.heap.size)
  generalize hAe : va_A (va_pl L F) s.heap.size = A at hD ⊢
  have hA : ∀ q : Nat, s.heap.size ≤ q → A q := fun q h => by rw [← hAe]; exact Or.inr h
  have hS : va_S A s.heap s.heap [] := va_S.rf
  have hR : FR ty [ρ + 87] F F := FR.refl
  have hl := lv_entry ([.ref h0]) (n := 6) (Nat.le_of_ble_eq_true rfl)
  rw [lg_entry_eq]
  generalize (lg_sl ([.ref h0]) ++ List.replicate (6 - (lg_sl ([.ref h0])).length) Slot.unset).toArray = ls at hl ⊢
  have hl : lv_has ls 6 [(0, .ref h0)] := hl
  obtain ⟨hi_1, hi_2, hi_3, hi_4, ht_5, ht_6, ht_7, ht_8⟩ := hW.power hL_h0 hT_h0
  obtain ⟨f_9, hF_10⟩ := hO.longs hi_3 ht_7
  refine lv_lconst (v := 0) hx hb dX6_reduce_0 (by decide) ?_
  refine lv_lstore_n (lv' := [(1, .long 0), (0, .ref h0)]) hx hb dX6_reduce_1 rfl hl (by decide) rfl (fun ls hl => ?_)
  refine lv_iconst (v := 0) hx hb dX6_reduce_2 (by decide) ?_
  refine lv_istore_n (lv' := [(3, .int 0), (1, .long 0), (0, .ref h0)]) hx hb dX6_reduce_3 rfl hl (by decide) rfl (fun ls hl => ?_)
  refine W.widen (k := 0) (n := 0) (by omega) (by omega) ?_
  have hF_12 : F h0 = .inr (6, [.ref pm, .ref pb, .ref pv, .ref pu, .long v6]) := (hR h0 (by rw [hT_h0]; simp)).symm.trans hF0
  have hF_13 : F pu = .inl (cs 19, 18, .inr (.inl fs)) := (hR pu (by rw [ht_8]; simp)).symm.trans hFu
  have hF_14 : F pm = .inl (cs 19, 16, .inr (.inl fm)) := (hR pm (by rw [ht_5]; simp)).symm.trans hFm
  refine pl_loop (σ := Nat × Int64 × (Nat → Int64)) A (dC, dI) cs ty L [ρ + 87] F 4 6 (fun (j, w1, fq) => [(3, .int (nI j)), (1, .long w1), (0, .ref h0)]) (fun (j, w1, fq) => []) (fun (j, w1, fq) FF => j ≤ 16 ∧ FF pv = .inl (cs 19, 16, .inr (.inl fq)) ∧ RDI fs fm fq (uN w1) j) (fun (j, w1, fq) => 16 - j) ?_ (0, 0, f_9) F (⟨by omega, hF_10, rdi_0⟩) hO hR _ _ hP hD hS ls (lv_sub hl [0, 1, 2] rfl)
  rintro ⟨j, w1, fq⟩ F_11 hv_15 hO hR ih_16 H locs hP hD hS ls hl
  have hl : lv_has ls 6 [(3, .int (nI j)), (1, .long w1), (0, .ref h0)] := hl
  have hv_15 : j ≤ 16 ∧ F_11 pv = .inl (cs 19, 16, .inr (.inl fq)) ∧ RDI fs fm fq (uN w1) j := hv_15
  refine W.eq (g2 := F0 m 4 ls []) rfl ?_
  have hF_17 : F_11 h0 = .inr (6, [.ref pm, .ref pb, .ref pv, .ref pu, .long v6]) := (hR h0 (by rw [hT_h0]; simp)).trans hF_12
  have hF_18 : F_11 pu = .inl (cs 19, 18, .inr (.inl fs)) := (hR pu (by rw [ht_8]; simp)).trans hF_13
  have hF_19 : F_11 pm = .inl (cs 19, 16, .inr (.inl fm)) := (hR pm (by rw [ht_5]; simp)).trans hF_14
  obtain ⟨hv1, hv2, hv3⟩ := id hv_15
  refine lv_iload_n hx hb dX6_reduce_4 rfl (lv_at hl 0 rfl) ?_
  refine lv_bipush (v := 16) hx hb dX6_reduce_5 (by decide) ?_
  refine lv_icmp_ge (tgt := 51) hx hb dX6_reduce_7 (by decide) (fun c_20 => ?_) (fun c_20 => ?_)
  ·
    have hi_21 : 16 ≤ j := leN (N := 16) c_20
    have hj6 : 16 ≤ j := (nI_leI (by omega) (by omega)).mp c_20
    have hj9 : j = 16 := by omega
    rw [hj9] at hv3
    refine lv_aload_n hx hb dX6_reduce_51 rfl (lv_at hl 2 rfl) ?_
    refine pg_get (ci := 6) (v := .ref pu) (C := RX6) (T := TX6) (N := 5) hx hb hts it_6 hown hK hP hL_h0 hF_17 rfl 3 (by decide) (hts _ kt_270) (fun _ h9 => h9) rfl dX6_reduce_52 ?_
    refine lv_bipush (v := 16) hx hb dX6_reduce_55 (by decide) ?_
    refine pg_lald hx hb hK hP hi_4 3 hF_18 rfl (show vp_in (16 : Int32) 18 from (show vp_in (nI 16) 18 from vp_in_nI (by omega) (by omega))) dX6_reduce_57 ?_
    refine lv_topl (fun x_22 ex_22 => ?_)
    obtain rfl : x_22 = (fs 16) := ex_22.trans (congrArg fs (show (16 : Int32).toNatClampNeg = 16 by decide))
    refine lv_lload_n hx hb dX6_reduce_58 rfl (lv_at hl 1 rfl) ?_
    refine W.lcmp hx hb dX6_reduce_59 ?_
    refine lv_topi (fun x_23 ex_23 => ?_)
    obtain rfl : x_23 = (lg_cmp (fs 16) w1) := ex_23.trans (rfl)
    refine lv_if_ge (tgt := 78) hx hb dX6_reduce_60 (by decide) (fun c_24 => ?_) (fun c_24 => ?_)
    ·
      refine W.widen (k := 0) (n := 0) (by omega) (by omega) ?_
      exact W.vret hx hb hr (fun t ht hWm => ⟨⟨(), rfl, trivial, ⟨F_11, fq, QT.mk ht hP hD hO hR, hv2, hv3.1, (rdi_n hv3 hs hm hn h2n (fun q => absurd ((lg_cmp_lt _ _).mpr q) (Int32.not_lt.mpr c_24)))⟩⟩, hS.F ht⟩) hS.2.2 dX6_reduce_78
    ·
      refine lv_aload_n hx hb dX6_reduce_63 rfl (lv_at hl 2 rfl) ?_
      refine pg_get (ci := 6) (v := .ref pu) (C := RX6) (T := TX6) (N := 5) hx hb hts it_6 hown hK hP hL_h0 hF_17 rfl 3 (by decide) (hts _ kt_270) (fun _ h9 => h9) rfl dX6_reduce_64 ?_
      refine lv_iconst (v := 0) hx hb dX6_reduce_67 (by decide) ?_
      refine lv_aload_n hx hb dX6_reduce_68 rfl (lv_at hl 2 rfl) ?_
      refine pg_get (ci := 6) (v := .ref pv) (C := RX6) (T := TX6) (N := 5) hx hb hts it_6 hown hK hP hL_h0 hF_17 rfl 2 (by decide) (hts _ kt_271) (fun _ h9 => h9) rfl dX6_reduce_69 ?_
      refine lv_iconst (v := 0) hx hb dX6_reduce_72 (by decide) ?_
      refine lv_bipush (v := 16) hx hb dX6_reduce_73 (by decide) ?_
      refine pg_copyl hx hb (by rw [hml]; exact hl.1.symm) hown (hts _ kt_272) (hts _ kt_29) (hts _ kt_30) (hts _ kt_31) hK hP hD hS hi_4 hi_3 3 3 hF_18 hv2 rfl rfl rfl (by decide) (by decide) (by decide) (by decide) (by decide) (fun _ _ => rfl) (Nat.le_of_ble_eq_true rfl) (by decide) dX6_reduce_75 (fun H locs hP hD hS => ?_)
      obtain ⟨F_25, he_26, hP, hD, hO, hR⟩ : ∃ G, G = va_up F_11 pv (.inl (cs 19, 16, .inr (.inl (va_cpy fs fq (0 : Int32).toNatClampNeg (0 : Int32).toNatClampNeg (16 : Int32).toNatClampNeg)))) ∧ va_P (dC, dI) vwCl (va_pl L G) H ∧ va_D A (va_pl L G) ∧ OK cs ty L G ∧ FR ty [ρ + 87] F G := ⟨_, rfl, hP, hD, hO.up (sh.longs ht_7 ⟨_, rfl⟩), hR.up ht_7 (by simp)⟩
      have hF_27 : F_25 pv = .inl (cs 19, 16, .inr (.inl (va_cpy fs fq (0 : Int32).toNatClampNeg (0 : Int32).toNatClampNeg (16 : Int32).toNatClampNeg))) := by rw [he_26]; exact up_self
      have hF_28 : F_25 h0 = .inr (6, [.ref pm, .ref pb, .ref pv, .ref pu, .long v6]) := by rw [he_26, up_ne (ne_ty hT_h0 ht_7 (by simp))]; exact hF_17
      have hF_29 : F_25 pu = .inl (cs 19, 18, .inr (.inl fs)) := by rw [he_26, up_ne (ne_ty3 ht_8 ht_7 (by show ρ + 88 ≠ ρ + 87; omega))]; exact hF_18
      have hF_30 : F_25 pm = .inl (cs 19, 16, .inr (.inl fm)) := by rw [he_26, up_ne (ne_ty3 ht_5 ht_7 (by show ρ + 85 ≠ ρ + 87; omega))]; exact hF_19
      refine W.widen (k := 0) (n := 0) (by omega) (by omega) ?_
      exact W.vret hx hb hr (fun t ht hWm => ⟨⟨(), rfl, trivial, ⟨F_25, (va_cpy fs fq (0 : Int32).toNatClampNeg (0 : Int32).toNatClampNeg (16 : Int32).toNatClampNeg), QT.mk ht hP hD hO hR, hF_27, (fun k hk => by rw [cpl_16 k hk]; exact hs k (by omega)), ((lQN_ext cpl_16).trans (rdi_y hv3 hs hm hn h2n ((lg_cmp_lt _ _).mp (Int32.not_le.mp c_24))))⟩⟩, hS.F ht⟩) hS.2.2 dX6_reduce_78
  ·
    have hi_31 : j < 16 := ltN (N := 16) c_20
    have hj6 : j < 16 := Nat.not_le.mp (fun q => c_20 ((nI_leI (by omega) (by omega)).mpr q))
    refine lv_aload_n hx hb dX6_reduce_10 rfl (lv_at hl 2 rfl) ?_
    refine pg_get (ci := 6) (v := .ref pu) (C := RX6) (T := TX6) (N := 5) hx hb hts it_6 hown hK hP hL_h0 hF_17 rfl 3 (by decide) (hts _ kt_270) (fun _ h9 => h9) rfl dX6_reduce_11 ?_
    refine lv_iload_n hx hb dX6_reduce_14 rfl (lv_at hl 0 rfl) ?_
    refine pg_lald hx hb hK hP hi_4 3 hF_18 rfl (vp_in_nI (by omega) (by omega)) dX6_reduce_15 ?_
    refine lv_topl (fun x_32 ex_32 => ?_)
    obtain rfl : x_32 = (fs j) := ex_32.trans (congrArg fs (nI_clamp (by omega)))
    refine lv_aload_n hx hb dX6_reduce_16 rfl (lv_at hl 2 rfl) ?_
    refine pg_get (ci := 6) (v := .ref pm) (C := RX6) (T := TX6) (N := 5) hx hb hts it_6 hown hK hP hL_h0 hF_17 rfl 0 (by decide) (hts _ kt_273) (fun _ h9 => h9) rfl dX6_reduce_17 ?_
    refine lv_iload_n hx hb dX6_reduce_20 rfl (lv_at hl 0 rfl) ?_
    refine pg_lald hx hb hK hP hi_1 3 hF_19 rfl (vp_in_nI (by omega) (by omega)) dX6_reduce_21 ?_
    refine lv_topl (fun x_33 ex_33 => ?_)
    obtain rfl : x_33 = (fm j) := ex_33.trans (congrArg fm (nI_clamp (by omega)))
    refine lv_lsub hx hb dX6_reduce_22 ?_
    refine lv_topl (fun x_34 ex_34 => ?_)
    obtain rfl : x_34 = ((fs j) - (fm j)) := ex_34.trans (rfl)
    refine lv_lload_n hx hb dX6_reduce_23 rfl (lv_at hl 1 rfl) ?_
    refine lv_lsub hx hb dX6_reduce_24 ?_
    refine lv_topl (fun x_35 ex_35 => ?_)
    obtain rfl : x_35 = (((fs j) - (fm j)) - w1) := ex_35.trans (rfl)
    refine lv_lstore (lv' := [(4, .long (((fs j) - (fm j)) - w1)), (3, .int (nI j)), (1, .long w1), (0, .ref h0)]) hx hb dX6_reduce_25 hl (by decide) rfl (fun ls hl => ?_)
    refine lv_aload_n hx hb dX6_reduce_27 rfl (lv_at hl 3 rfl) ?_
    refine pg_get (ci := 6) (v := .ref pv) (C := RX6) (T := TX6) (N := 5) hx hb hts it_6 hown hK hP hL_h0 hF_17 rfl 2 (by decide) (hts _ kt_271) (fun _ h9 => h9) rfl dX6_reduce_28 ?_
    refine lv_iload_n hx hb dX6_reduce_31 rfl (lv_at hl 1 rfl) ?_
    refine lv_lload hx hb dX6_reduce_32 (lv_at hl 0 rfl) ?_
    refine lv_ldc2 (v := 4294967295) hx hb hown (hts _ kt_269) dX6_reduce_34 ?_
    refine lv_land hx hb dX6_reduce_37 ?_
    refine lv_topl (fun x_36 ex_36 => ?_)
    obtain rfl : x_36 = ((((fs j) - (fm j)) - w1) &&& 4294967295) := ex_36.trans (rfl)
    refine pg_last hx hb hK hP hD hS hi_3 3 hv2 rfl (vp_in_nI (by omega) (by omega)) dX6_reduce_38 (fun H locs hP hD hS => ?_)
    obtain ⟨F_37, he_38, hP, hD, hO, hR⟩ : ∃ G, G = va_up F_11 pv (.inl (cs 19, 16, .inr (.inl (vp_updL fq ((nI j)).toNatClampNeg (((((fs j) - (fm j)) - w1) &&& 4294967295)))))) ∧ va_P (dC, dI) vwCl (va_pl L G) H ∧ va_D A (va_pl L G) ∧ OK cs ty L G ∧ FR ty [ρ + 87] F G := ⟨_, rfl, hP, hD, hO.up (sh.longs ht_7 ⟨_, rfl⟩), hR.up ht_7 (by simp)⟩
    have hF_39 : F_37 pv = .inl (cs 19, 16, .inr (.inl (vp_updL fq ((nI j)).toNatClampNeg (((((fs j) - (fm j)) - w1) &&& 4294967295))))) := by rw [he_38]; exact up_self
    have hF_40 : F_37 h0 = .inr (6, [.ref pm, .ref pb, .ref pv, .ref pu, .long v6]) := by rw [he_38, up_ne (ne_ty hT_h0 ht_7 (by simp))]; exact hF_17
    have hF_41 : F_37 pu = .inl (cs 19, 18, .inr (.inl fs)) := by rw [he_38, up_ne (ne_ty3 ht_8 ht_7 (by show ρ + 88 ≠ ρ + 87; omega))]; exact hF_18
    have hF_42 : F_37 pm = .inl (cs 19, 16, .inr (.inl fm)) := by rw [he_38, up_ne (ne_ty3 ht_5 ht_7 (by show ρ + 85 ≠ ρ + 87; omega))]; exact hF_19
    have hF_43 : F_37 pv = .inl (cs 19, 16, .inr (.inl (vp_updL fq j ((((fs j) - (fm j)) - w1) &&& 4294967295)))) := by have h9 := hF_39; rwa [nI_clamp (by omega)] at h9
    refine lv_lload hx hb dX6_reduce_39 (lv_at hl 0 rfl) ?_
    refine lv_bipush (v := 63) hx hb dX6_reduce_41 (by decide) ?_
    refine lv_lushr hx hb dX6_reduce_43 rfl ?_
    refine lv_topl (fun x_45 ex_45 => ?_)
    obtain rfl : x_45 = (lus (((fs j) - (fm j)) - w1) 63) := ex_45.trans (rfl)
    refine lv_lstore_n (lv' := [(1, .long (lus (((fs j) - (fm j)) - w1) 63)), (4, .long (((fs j) - (fm j)) - w1)), (3, .int (nI j)), (0, .ref h0)]) hx hb dX6_reduce_44 rfl hl (by decide) rfl (fun ls hl => ?_)
    refine lv_iinc (v := (nI (j + 1))) (lv' := [(3, .int (nI (j + 1))), (1, .long (lus (((fs j) - (fm j)) - w1) 63)), (4, .long (((fs j) - (fm j)) - w1)), (0, .ref h0)]) hx hb dX6_reduce_45 hl (k := 2) rfl (nI_1 _) (by decide) rfl (fun ls hl => ?_)
    refine lv_goto (tgt := 4) hx hb dX6_reduce_48 (by decide) ?_
    refine W.widen (k := 0) (n := 0) (by omega) (by omega) ?_
    exact ih_16 ((j + 1), (lus (((fs j) - (fm j)) - w1) 63), (vp_updL fq j ((((fs j) - (fm j)) - w1) &&& 4294967295))) F_37 (⟨by omega, hF_43, rdi_s hv3 hs hm hj6⟩) (by show 16 - (j + 1) < 16 - j; omega) hO hR _ _ hP hD hS ls (lv_sub hl [0, 1, 3] rfl)
set_option maxHeartbeats 4000000 in
set_option maxRecDepth 100000 in
theorem s_X6_setTwo_e (l : Launch) (dC : Nat → ClassId) (dI : Nat → Nat → Nat) (cs : Nat → ClassId) (ty : TyM) (L : List Nat) (sz : Nat) (F : Nat → va_E) (h0 : Nat) (ρ : Nat) (pm : Nat) (pb : Nat) (pv : Nat) (pu : Nat) (fm : Nat → Int64) (v6 : Int64) (nn : Nat) (hW : WT ty L) (hL_h0 : h0 ∈ L) (hT_h0 : ty h0 = (6, ρ, [pm, pb, pv, pu])) (hF0 : F h0 = .inr (6, [.ref pm, .ref pb, .ref pv, .ref pu, .long v6])) (hFm : F pm = .inl (cs 19, 16, .inr (.inl fm))) (hm : LM fm 16) (hn : lQN fm 16 = nn) (hbr : BR < 2 * nn) : Met l yX6_setTwo (.code yX6_setTwo cX6_setTwo 6 none :: tb) ({ frames := 2, cells := 0, slots := 0, locals := 73 }) (va_Pc [.ref h0] (PT (dC, dI) cs ty L F sz)) (va_Qv (fun _ : Unit => True) (fun _ T9 => ∃ F2 : Nat → va_E, ∃ f2 : Nat → Int64, QT (dC, dI) cs ty L [ρ + 87, ρ + 88] F F2 (va_A (va_pl L F) sz) T9 ∧ F2 pv = .inl (cs 19, 16, .inr (.inl f2)) ∧ LM f2 16 ∧ lQN f2 16 = (2 * BR) % nn) (va_A (va_pl L F) sz)) 0 0 (va_A (va_pl L F) sz) := by
  refine Met.ofW (cc := cX6_setTwo) (maxL := 6) (ret := none) (by decide) rfl ?_
  intro p e s m args below meth c s₁ B hml hv
  obtain ⟨rfl, hsz, hP, hK, hD0, hE, hO⟩ := hv
  have hx := B.exec
  have hb := B.bytes
  have hr := B.returns
  have hts : ∀ w ∈ tb, w.before _ s = true := fun w h => atoms_spec (ws := .code yX6_setTwo cX6_setTwo 6 none :: tb) B.pre w (List.mem_cons_of_mem _ h)
  have hown : s.vm.findClass RX6 = some m.cls := findClass_of_methodNamed B.named
  have hlocks := B.notSynchronized
  subst hsz
  have hD := hD0.self (sz := s.heap.size)
  generalize hAe : va_A (va_pl L F) s.heap.size = A at hD ⊢
  have hA : ∀ q : Nat, s.heap.size ≤ q → A q := fun q h => by rw [← hAe]; exact Or.inr h
  have hS : va_S A s.heap s.heap [] := va_S.rf
  have hR : FR ty [ρ + 87, ρ + 88] F F := FR.refl
  have hl := lv_entry ([.ref h0]) (n := 6) (Nat.le_of_ble_eq_true rfl)
  rw [lg_entry_eq]
  generalize (lg_sl ([.ref h0]) ++ List.replicate (6 - (lg_sl ([.ref h0])).length) Slot.unset).toArray = ls at hl ⊢
  have hl : lv_has ls 6 [(0, .ref h0)] := hl
  obtain ⟨hi_1, hi_2, hi_3, hi_4, ht_5, ht_6, ht_7, ht_8⟩ := hW.power hL_h0 hT_h0
  obtain ⟨f_9, hF_10⟩ := hO.longs hi_4 ht_8
  refine lv_lconst (v := 1) hx hb dX6_setTwo_0 (by decide) ?_
  refine lv_lstore_n (lv' := [(1, .long 1), (0, .ref h0)]) hx hb dX6_setTwo_1 rfl hl (by decide) rfl (fun ls hl => ?_)
  refine lv_iconst (v := 0) hx hb dX6_setTwo_2 (by decide) ?_
  refine lv_istore_n (lv' := [(3, .int 0), (1, .long 1), (0, .ref h0)]) hx hb dX6_setTwo_3 rfl hl (by decide) rfl (fun ls hl => ?_)
  refine W.widen (k := 0) (n := 0) (by omega) (by omega) ?_
  have hF_12 : F h0 = .inr (6, [.ref pm, .ref pb, .ref pv, .ref pu, .long v6]) := (hR h0 (by rw [hT_h0]; simp)).symm.trans hF0
  have hF_13 : F pm = .inl (cs 19, 16, .inr (.inl fm)) := (hR pm (by rw [ht_5]; simp)).symm.trans hFm
  refine pl_loop (σ := Nat × Int64 × (Nat → Int64)) A (dC, dI) cs ty L [ρ + 87, ρ + 88] F 4 6 (fun (j, w1, fq) => [(3, .int (nI j)), (1, .long w1), (0, .ref h0)]) (fun (j, w1, fq) => []) (fun (j, w1, fq) FF => j ≤ 16 ∧ FF pu = .inl (cs 19, 18, .inr (.inl fq)) ∧ STI fm fq (uN w1) j) (fun (j, w1, fq) => 16 - j) ?_ (0, 1, f_9) F (⟨by omega, hF_10, sti_0⟩) hO hR _ _ hP hD hS ls (lv_sub hl [0, 1, 2] rfl)
  rintro ⟨j, w1, fq⟩ F_11 hv_14 hO hR ih_15 H locs hP hD hS ls hl
  have hl : lv_has ls 6 [(3, .int (nI j)), (1, .long w1), (0, .ref h0)] := hl
  have hv_14 : j ≤ 16 ∧ F_11 pu = .inl (cs 19, 18, .inr (.inl fq)) ∧ STI fm fq (uN w1) j := hv_14
  refine W.eq (g2 := F0 m 4 ls []) rfl ?_
  have hF_16 : F_11 h0 = .inr (6, [.ref pm, .ref pb, .ref pv, .ref pu, .long v6]) := (hR h0 (by rw [hT_h0]; simp)).trans hF_12
  have hF_17 : F_11 pm = .inl (cs 19, 16, .inr (.inl fm)) := (hR pm (by rw [ht_5]; simp)).trans hF_13
  obtain ⟨hv1, hv2, hv3⟩ := id hv_14
  refine lv_iload_n hx hb dX6_setTwo_4 rfl (lv_at hl 0 rfl) ?_
  refine lv_bipush (v := 16) hx hb dX6_setTwo_5 (by decide) ?_
  refine lv_icmp_ge (tgt := 48) hx hb dX6_setTwo_7 (by decide) (fun c_18 => ?_) (fun c_18 => ?_)
  ·
    have hi_19 : 16 ≤ j := leN (N := 16) c_18
    have hj6 : 16 ≤ j := (nI_leI (by omega) (by omega)).mp c_18
    have hj9 : j = 16 := by omega
    rw [hj9] at hv3
    have hBR := sti_e hv3 hn (by have h9 : 0 < BR := (by decide +kernel); omega)
    refine lv_lconst (v := 0) hx hb dX6_setTwo_48 (by decide) ?_
    refine lv_lstore_n (lv' := [(1, .long 0), (3, .int (nI j)), (0, .ref h0)]) hx hb dX6_setTwo_49 rfl hl (by decide) rfl (fun ls hl => ?_)
    refine lv_iconst (v := 0) hx hb dX6_setTwo_50 (by decide) ?_
    refine lv_istore_n (lv' := [(3, .int 0), (1, .long 0), (0, .ref h0)]) hx hb dX6_setTwo_51 rfl hl (by decide) rfl (fun ls hl => ?_)
    refine W.widen (k := 0) (n := 0) (by omega) (by omega) ?_
    have hF_21 : F h0 = .inr (6, [.ref pm, .ref pb, .ref pv, .ref pu, .long v6]) := (hR h0 (by rw [hT_h0]; simp)).symm.trans hF_16
    have hF_22 : F pm = .inl (cs 19, 16, .inr (.inl fm)) := (hR pm (by rw [ht_5]; simp)).symm.trans hF_17
    refine pl_loop (σ := Nat × Int64 × (Nat → Int64)) A (dC, dI) cs ty L [ρ + 87, ρ + 88] F 52 6 (fun (j2, u1, fr) => [(3, .int (nI j2)), (1, .long u1), (0, .ref h0)]) (fun (j2, u1, fr) => []) (fun (j2, u1, fr) FF => j2 ≤ 16 ∧ FF pu = .inl (cs 19, 18, .inr (.inl fr)) ∧ DBI fq fr (uN u1) j2) (fun (j2, u1, fr) => 16 - j2) ?_ (0, 0, fq) F_11 (⟨by omega, hv2, dbi_0⟩) hO hR _ _ hP hD hS ls (lv_sub hl [0, 1, 2] rfl)
    rintro ⟨j2, u1, fr⟩ F_20 hv_23 hO hR ih_24 H locs hP hD hS ls hl
    have hl : lv_has ls 6 [(3, .int (nI j2)), (1, .long u1), (0, .ref h0)] := hl
    have hv_23 : j2 ≤ 16 ∧ F_20 pu = .inl (cs 19, 18, .inr (.inl fr)) ∧ DBI fq fr (uN u1) j2 := hv_23
    refine W.eq (g2 := F0 m 52 ls []) rfl ?_
    have hF_25 : F_20 h0 = .inr (6, [.ref pm, .ref pb, .ref pv, .ref pu, .long v6]) := (hR h0 (by rw [hT_h0]; simp)).trans hF_21
    have hF_26 : F_20 pm = .inl (cs 19, 16, .inr (.inl fm)) := (hR pm (by rw [ht_5]; simp)).trans hF_22
    obtain ⟨hu1, hu2, hu3⟩ := id hv_23
    refine lv_iload_n hx hb dX6_setTwo_52 rfl (lv_at hl 0 rfl) ?_
    refine lv_bipush (v := 16) hx hb dX6_setTwo_53 (by decide) ?_
    refine lv_icmp_ge (tgt := 94) hx hb dX6_setTwo_55 (by decide) (fun c_27 => ?_) (fun c_27 => ?_)
    ·
      have hi_28 : 16 ≤ j2 := leN (N := 16) c_27
      have hj7 : 16 ≤ j2 := (nI_leI (by omega) (by omega)).mp c_27
      have hj8 : j2 = 16 := by omega
      rw [hj8] at hu3
      obtain ⟨hy1, hy2, hy3⟩ := dbi_e hu3 hBR hbr
      refine lv_aload_n hx hb dX6_setTwo_94 rfl (lv_at hl 2 rfl) ?_
      refine pg_get (ci := 6) (v := .ref pu) (C := RX6) (T := TX6) (N := 5) hx hb hts it_6 hown hK hP hL_h0 hF_25 rfl 3 (by decide) (hts _ kt_270) (fun _ h9 => h9) rfl dX6_setTwo_95 ?_
      refine lv_bipush (v := 16) hx hb dX6_setTwo_98 (by decide) ?_
      refine lv_lload_n hx hb dX6_setTwo_100 rfl (lv_at hl 1 rfl) ?_
      refine pg_last hx hb hK hP hD hS hi_4 3 hu2 rfl (show vp_in (16 : Int32) 18 from (show vp_in (nI 16) 18 from vp_in_nI (by omega) (by omega))) dX6_setTwo_101 (fun H locs hP hD hS => ?_)
      obtain ⟨F_29, he_30, hP, hD, hO, hR⟩ : ∃ G, G = va_up F_20 pu (.inl (cs 19, 18, .inr (.inl (vp_updL fr (16 : Int32).toNatClampNeg (u1))))) ∧ va_P (dC, dI) vwCl (va_pl L G) H ∧ va_D A (va_pl L G) ∧ OK cs ty L G ∧ FR ty [ρ + 87, ρ + 88] F G := ⟨_, rfl, hP, hD, hO.up (sh.longs ht_8 ⟨_, rfl⟩), hR.up ht_8 (by simp)⟩
      have hF_31 : F_29 pu = .inl (cs 19, 18, .inr (.inl (vp_updL fr (16 : Int32).toNatClampNeg (u1)))) := by rw [he_30]; exact up_self
      have hF_32 : F_29 h0 = .inr (6, [.ref pm, .ref pb, .ref pv, .ref pu, .long v6]) := by rw [he_30, up_ne (ne_ty hT_h0 ht_8 (by simp))]; exact hF_25
      have hF_33 : F_29 pm = .inl (cs 19, 16, .inr (.inl fm)) := by rw [he_30, up_ne (ne_ty3 ht_5 ht_8 (by show ρ + 85 ≠ ρ + 88; omega))]; exact hF_26
      have hF_34 : F_29 pu = .inl (cs 19, 18, .inr (.inl (vp_updL fr 16 u1))) := by have h9 := hF_31; rwa [show (16 : Int32).toNatClampNeg = 16 by decide] at h9
      refine lv_aload_n hx hb dX6_setTwo_102 rfl (lv_at hl 2 rfl) ?_
      have hFc := pg_free hD hS hA
      refine va_callv (va_runV (As := []) (rest := []) ⟨hx, hb, hml, hown, hts⟩ (s_X6_reduce_e l dC dI cs ty L H.size F_29 h0 ρ pm pb pv pu (vp_updL fr 16 u1) fm v6 nn hW hL_h0 hT_h0 hF_32 hF_34 hF_33 (hy1) (hm) (hn) (hy2)) ⟨callB_of 0 hts (gi kt_274) rfl rfl rfl (hts _ kt_275) (hts _ kt_276) (by decide +kernel) ⟨Nat.le_of_ble_eq_true rfl, Nat.le_of_ble_eq_true rfl⟩, (hts _ kt_277), (hts _ kt_278)⟩ ⟨fun a U g mk q => ⟨q.1, PT.calling q.2⟩, pg_recv hK hP hL_h0 hF_32 (q := (RX6, TX6, 5)) rfl, fun U hU hWm => ⟨rfl, PT.mk hU hWm hP hK hD hE hO⟩⟩ rfl rfl hl.1 rfl (lv_room (Nat.le_of_ble_eq_true rfl)) dX6_setTwo_103 ⟨by show _ + 0 ≤ 0; omega, by show _ + 0 ≤ 0; omega⟩) hS (fun q _ h => hFc q h) hFc (fun u t H1 locs ht hvm hw hB hz1 hk1 hS => ?_)
      obtain ⟨F_36, f2_37, hB1, hq_38, hq_39, hq_40⟩ := hB
      obtain ⟨hP, hD, hO, hR⟩ := QT.back hB1 ht hFc hR (fun q h => by simp only [List.mem_cons, List.not_mem_nil, or_false] at h ⊢; omega)
      have hF_41 : F_36 pu = .inl (cs 19, 18, .inr (.inl (vp_updL fr 16 u1))) := (hB1.2.2.2 pu (by rw [ht_8]; simp)).trans hF_34
      have hF_42 : F_36 h0 = .inr (6, [.ref pm, .ref pb, .ref pv, .ref pu, .long v6]) := (hB1.2.2.2 h0 (by rw [hT_h0]; simp)).trans hF_32
      have hF_43 : F_36 pm = .inl (cs 19, 16, .inr (.inl fm)) := (hB1.2.2.2 pm (by rw [ht_5]; simp)).trans hF_33
      generalize H1 = H at hP hS ⊢
      refine W.widen (k := 0) (n := 0) (by omega) (by omega) ?_
      exact W.vret hx hb hr (fun t ht hWm => ⟨⟨(), rfl, trivial, ⟨F_36, f2_37, QT.mk ht hP hD hO hR, hq_38, hq_39, (hq_40.trans hy3)⟩⟩, hS.F ht⟩) hS.2.2 dX6_setTwo_106
    ·
      have hi_44 : j2 < 16 := ltN (N := 16) c_27
      have hj7 : j2 < 16 := Nat.not_le.mp (fun q => c_27 ((nI_leI (by omega) (by omega)).mpr q))
      refine lv_aload_n hx hb dX6_setTwo_58 rfl (lv_at hl 2 rfl) ?_
      refine pg_get (ci := 6) (v := .ref pu) (C := RX6) (T := TX6) (N := 5) hx hb hts it_6 hown hK hP hL_h0 hF_25 rfl 3 (by decide) (hts _ kt_270) (fun _ h9 => h9) rfl dX6_setTwo_59 ?_
      refine lv_iload_n hx hb dX6_setTwo_62 rfl (lv_at hl 0 rfl) ?_
      refine pg_lald hx hb hK hP hi_4 3 hu2 rfl (vp_in_nI (by omega) (by omega)) dX6_setTwo_63 ?_
      refine lv_topl (fun x_45 ex_45 => ?_)
      obtain rfl : x_45 = (fr j2) := ex_45.trans (congrArg fr (nI_clamp (by omega)))
      refine lv_iconst (v := 1) hx hb dX6_setTwo_64 (by decide) ?_
      refine lv_lshl hx hb dX6_setTwo_65 rfl ?_
      refine lv_topl (fun x_47 ex_47 => ?_)
      obtain rfl : x_47 = (lsl (fr j2) 1) := ex_47.trans (rfl)
      refine lv_lload_n hx hb dX6_setTwo_66 rfl (lv_at hl 1 rfl) ?_
      refine lv_lor hx hb dX6_setTwo_67 ?_
      refine lv_topl (fun x_48 ex_48 => ?_)
      obtain rfl : x_48 = ((lsl (fr j2) 1) ||| u1) := ex_48.trans (rfl)
      refine lv_lstore (lv' := [(4, .long ((lsl (fr j2) 1) ||| u1)), (3, .int (nI j2)), (1, .long u1), (0, .ref h0)]) hx hb dX6_setTwo_68 hl (by decide) rfl (fun ls hl => ?_)
      refine lv_aload_n hx hb dX6_setTwo_70 rfl (lv_at hl 3 rfl) ?_
      refine pg_get (ci := 6) (v := .ref pu) (C := RX6) (T := TX6) (N := 5) hx hb hts it_6 hown hK hP hL_h0 hF_25 rfl 3 (by decide) (hts _ kt_270) (fun _ h9 => h9) rfl dX6_setTwo_71 ?_
      refine lv_iload_n hx hb dX6_setTwo_74 rfl (lv_at hl 1 rfl) ?_
      refine lv_lload hx hb dX6_setTwo_75 (lv_at hl 0 rfl) ?_
      refine lv_ldc2 (v := 4294967295) hx hb hown (hts _ kt_269) dX6_setTwo_77 ?_
      refine lv_land hx hb dX6_setTwo_80 ?_
      refine lv_topl (fun x_49 ex_49 => ?_)
      obtain rfl : x_49 = (((lsl (fr j2) 1) ||| u1) &&& 4294967295) := ex_49.trans (rfl)
      refine pg_last hx hb hK hP hD hS hi_4 3 hu2 rfl (vp_in_nI (by omega) (by omega)) dX6_setTwo_81 (fun H locs hP hD hS => ?_)
      obtain ⟨F_50, he_51, hP, hD, hO, hR⟩ : ∃ G, G = va_up F_20 pu (.inl (cs 19, 18, .inr (.inl (vp_updL fr ((nI j2)).toNatClampNeg ((((lsl (fr j2) 1) ||| u1) &&& 4294967295)))))) ∧ va_P (dC, dI) vwCl (va_pl L G) H ∧ va_D A (va_pl L G) ∧ OK cs ty L G ∧ FR ty [ρ + 87, ρ + 88] F G := ⟨_, rfl, hP, hD, hO.up (sh.longs ht_8 ⟨_, rfl⟩), hR.up ht_8 (by simp)⟩
      have hF_52 : F_50 pu = .inl (cs 19, 18, .inr (.inl (vp_updL fr ((nI j2)).toNatClampNeg ((((lsl (fr j2) 1) ||| u1) &&& 4294967295))))) := by rw [he_51]; exact up_self
      have hF_53 : F_50 h0 = .inr (6, [.ref pm, .ref pb, .ref pv, .ref pu, .long v6]) := by rw [he_51, up_ne (ne_ty hT_h0 ht_8 (by simp))]; exact hF_25
      have hF_54 : F_50 pm = .inl (cs 19, 16, .inr (.inl fm)) := by rw [he_51, up_ne (ne_ty3 ht_5 ht_8 (by show ρ + 85 ≠ ρ + 88; omega))]; exact hF_26
      have hF_55 : F_50 pu = .inl (cs 19, 18, .inr (.inl (vp_updL fr j2 (((lsl (fr j2) 1) ||| u1) &&& 4294967295)))) := by have h9 := hF_52; rwa [nI_clamp (by omega)] at h9
      refine lv_lload hx hb dX6_setTwo_82 (lv_at hl 0 rfl) ?_
      refine lv_bipush (v := 32) hx hb dX6_setTwo_84 (by decide) ?_
      refine lv_lushr hx hb dX6_setTwo_86 rfl ?_
      refine lv_topl (fun x_57 ex_57 => ?_)
      obtain rfl : x_57 = (lus ((lsl (fr j2) 1) ||| u1) 32) := ex_57.trans (rfl)
      refine lv_lstore_n (lv' := [(1, .long (lus ((lsl (fr j2) 1) ||| u1) 32)), (4, .long ((lsl (fr j2) 1) ||| u1)), (3, .int (nI j2)), (0, .ref h0)]) hx hb dX6_setTwo_87 rfl hl (by decide) rfl (fun ls hl => ?_)
      refine lv_iinc (v := (nI (j2 + 1))) (lv' := [(3, .int (nI (j2 + 1))), (1, .long (lus ((lsl (fr j2) 1) ||| u1) 32)), (4, .long ((lsl (fr j2) 1) ||| u1)), (0, .ref h0)]) hx hb dX6_setTwo_88 hl (k := 2) rfl (nI_1 _) (by decide) rfl (fun ls hl => ?_)
      refine lv_goto (tgt := 52) hx hb dX6_setTwo_91 (by decide) ?_
      refine W.widen (k := 0) (n := 0) (by omega) (by omega) ?_
      exact ih_24 ((j2 + 1), (lus ((lsl (fr j2) 1) ||| u1) 32), (vp_updL fr j2 (((lsl (fr j2) 1) ||| u1) &&& 4294967295))) F_50 (⟨by omega, hF_55, dbi_s hu3 hv3.1 hj7⟩) (by show 16 - (j2 + 1) < 16 - j2; omega) hO hR _ _ hP hD hS ls (lv_sub hl [0, 1, 3] rfl)
  ·
    have hi_58 : j < 16 := ltN (N := 16) c_18
    have hj6 : j < 16 := Nat.not_le.mp (fun q => c_18 ((nI_leI (by omega) (by omega)).mpr q))
    refine lv_aload_n hx hb dX6_setTwo_10 rfl (lv_at hl 2 rfl) ?_
    refine pg_get (ci := 6) (v := .ref pm) (C := RX6) (T := TX6) (N := 5) hx hb hts it_6 hown hK hP hL_h0 hF_16 rfl 0 (by decide) (hts _ kt_273) (fun _ h9 => h9) rfl dX6_setTwo_11 ?_
    refine lv_iload_n hx hb dX6_setTwo_14 rfl (lv_at hl 0 rfl) ?_
    refine pg_lald hx hb hK hP hi_1 3 hF_17 rfl (vp_in_nI (by omega) (by omega)) dX6_setTwo_15 ?_
    refine lv_topl (fun x_59 ex_59 => ?_)
    obtain rfl : x_59 = (fm j) := ex_59.trans (congrArg fm (nI_clamp (by omega)))
    refine lv_ldc2 (v := 4294967295) hx hb hown (hts _ kt_269) dX6_setTwo_16 ?_
    refine lv_lxor hx hb dX6_setTwo_19 ?_
    refine lv_topl (fun x_60 ex_60 => ?_)
    obtain rfl : x_60 = ((fm j) ^^^ 4294967295) := ex_60.trans (rfl)
    refine lv_lload_n hx hb dX6_setTwo_20 rfl (lv_at hl 1 rfl) ?_
    refine lv_ladd hx hb dX6_setTwo_21 ?_
    refine lv_topl (fun x_61 ex_61 => ?_)
    obtain rfl : x_61 = (((fm j) ^^^ 4294967295) + w1) := ex_61.trans (rfl)
    refine lv_lstore (lv' := [(4, .long (((fm j) ^^^ 4294967295) + w1)), (3, .int (nI j)), (1, .long w1), (0, .ref h0)]) hx hb dX6_setTwo_22 hl (by decide) rfl (fun ls hl => ?_)
    refine lv_aload_n hx hb dX6_setTwo_24 rfl (lv_at hl 3 rfl) ?_
    refine pg_get (ci := 6) (v := .ref pu) (C := RX6) (T := TX6) (N := 5) hx hb hts it_6 hown hK hP hL_h0 hF_16 rfl 3 (by decide) (hts _ kt_270) (fun _ h9 => h9) rfl dX6_setTwo_25 ?_
    refine lv_iload_n hx hb dX6_setTwo_28 rfl (lv_at hl 1 rfl) ?_
    refine lv_lload hx hb dX6_setTwo_29 (lv_at hl 0 rfl) ?_
    refine lv_ldc2 (v := 4294967295) hx hb hown (hts _ kt_269) dX6_setTwo_31 ?_
    refine lv_land hx hb dX6_setTwo_34 ?_
    refine lv_topl (fun x_62 ex_62 => ?_)
    obtain rfl : x_62 = ((((fm j) ^^^ 4294967295) + w1) &&& 4294967295) := ex_62.trans (rfl)
    refine pg_last hx hb hK hP hD hS hi_4 3 hv2 rfl (vp_in_nI (by omega) (by omega)) dX6_setTwo_35 (fun H locs hP hD hS => ?_)
    obtain ⟨F_63, he_64, hP, hD, hO, hR⟩ : ∃ G, G = va_up F_11 pu (.inl (cs 19, 18, .inr (.inl (vp_updL fq ((nI j)).toNatClampNeg (((((fm j) ^^^ 4294967295) + w1) &&& 4294967295)))))) ∧ va_P (dC, dI) vwCl (va_pl L G) H ∧ va_D A (va_pl L G) ∧ OK cs ty L G ∧ FR ty [ρ + 87, ρ + 88] F G := ⟨_, rfl, hP, hD, hO.up (sh.longs ht_8 ⟨_, rfl⟩), hR.up ht_8 (by simp)⟩
    have hF_65 : F_63 pu = .inl (cs 19, 18, .inr (.inl (vp_updL fq ((nI j)).toNatClampNeg (((((fm j) ^^^ 4294967295) + w1) &&& 4294967295))))) := by rw [he_64]; exact up_self
    have hF_66 : F_63 h0 = .inr (6, [.ref pm, .ref pb, .ref pv, .ref pu, .long v6]) := by rw [he_64, up_ne (ne_ty hT_h0 ht_8 (by simp))]; exact hF_16
    have hF_67 : F_63 pm = .inl (cs 19, 16, .inr (.inl fm)) := by rw [he_64, up_ne (ne_ty3 ht_5 ht_8 (by show ρ + 85 ≠ ρ + 88; omega))]; exact hF_17
    have hF_68 : F_63 pu = .inl (cs 19, 18, .inr (.inl (vp_updL fq j ((((fm j) ^^^ 4294967295) + w1) &&& 4294967295)))) := by have h9 := hF_65; rwa [nI_clamp (by omega)] at h9
    refine lv_lload hx hb dX6_setTwo_36 (lv_at hl 0 rfl) ?_
    refine lv_bipush (v := 32) hx hb dX6_setTwo_38 (by decide) ?_
    refine lv_lushr hx hb dX6_setTwo_40 rfl ?_
    refine lv_topl (fun x_70 ex_70 => ?_)
    obtain rfl : x_70 = (lus (((fm j) ^^^ 4294967295) + w1) 32) := ex_70.trans (rfl)
    refine lv_lstore_n (lv' := [(1, .long (lus (((fm j) ^^^ 4294967295) + w1) 32)), (4, .long (((fm j) ^^^ 4294967295) + w1)), (3, .int (nI j)), (0, .ref h0)]) hx hb dX6_setTwo_41 rfl hl (by decide) rfl (fun ls hl => ?_)
    refine lv_iinc (v := (nI (j + 1))) (lv' := [(3, .int (nI (j + 1))), (1, .long (lus (((fm j) ^^^ 4294967295) + w1) 32)), (4, .long (((fm j) ^^^ 4294967295) + w1)), (0, .ref h0)]) hx hb dX6_setTwo_42 hl (k := 2) rfl (nI_1 _) (by decide) rfl (fun ls hl => ?_)
    refine lv_goto (tgt := 4) hx hb dX6_setTwo_45 (by decide) ?_
    refine W.widen (k := 0) (n := 0) (by omega) (by omega) ?_
    exact ih_15 ((j + 1), (lus (((fm j) ^^^ 4294967295) + w1) 32), (vp_updL fq j ((((fm j) ^^^ 4294967295) + w1) &&& 4294967295))) F_63 (⟨by omega, hF_68, sti_s hv3 hm hj6⟩) (by show 16 - (j + 1) < 16 - j; omega) hO hR _ _ hP hD hS ls (lv_sub hl [0, 1, 3] rfl)
set_option maxHeartbeats 4000000 in
set_option maxRecDepth 100000 in
theorem s_X6_multiply_e (l : Launch) (dC : Nat → ClassId) (dI : Nat → Nat → Nat) (cs : Nat → ClassId) (ty : TyM) (L : List Nat) (sz : Nat) (F : Nat → va_E) (h0 : Nat) (ρ : Nat) (pm : Nat) (pb : Nat) (pv : Nat) (pu : Nat) (la : Nat) (τ : Nat) (lb : Nat) (υ : Nat) (fa : Nat → Int64) (fb : Nat → Int64) (fm : Nat → Int64) (v6 : Int64) (nn : Nat) (hW : WT ty L) (hL_h0 : h0 ∈ L) (hT_h0 : ty h0 = (6, ρ, [pm, pb, pv, pu])) (hL_la : la ∈ L) (hT_la : ty la = (19, τ, [16])) (hL_lb : lb ∈ L) (hT_lb : ty lb = (19, υ, [16])) (hF0 : F h0 = .inr (6, [.ref pm, .ref pb, .ref pv, .ref pu, .long v6])) (hFa : F la = .inl (cs 19, 16, .inr (.inl fa))) (hFb : F lb = .inl (cs 19, 16, .inr (.inl fb))) (hFm : F pm = .inl (cs 19, 16, .inr (.inl fm))) (ha : LM fa 16) (hbb : LM fb 16) (hm : LM fm 16) (hn : lQN fm 16 = nn) (han : lQN fa 16 < nn) (hv6 : uN v6 < 4294967296) (hvf : (uN (fm 0) * uN v6) % 4294967296 = 4294967295) (hta : τ ≠ ρ + 88) (hub : υ ≠ ρ + 88) : Met l yX6_multiply (.code yX6_multiply cX6_multiply 5 none :: tb) ({ frames := 2, cells := 0, slots := 0, locals := 73 }) (va_Pc [.ref h0, .ref la, .ref lb] (PT (dC, dI) cs ty L F sz)) (va_Qv (fun _ : Unit => True) (fun _ T9 => ∃ F2 : Nat → va_E, ∃ f2 : Nat → Int64, QT (dC, dI) cs ty L [ρ + 87, ρ + 88] F F2 (va_A (va_pl L F) sz) T9 ∧ F2 pv = .inl (cs 19, 16, .inr (.inl f2)) ∧ LM f2 16 ∧ lQN f2 16 < nn ∧ (lQN f2 16 * BR) % nn = (lQN fa 16 * lQN fb 16) % nn) (va_A (va_pl L F) sz)) 0 0 (va_A (va_pl L F) sz) := by
  refine Met.ofW (cc := cX6_multiply) (maxL := 5) (ret := none) (by decide) rfl ?_
  intro p e s m args below meth c s₁ B hml hv
  obtain ⟨rfl, hsz, hP, hK, hD0, hE, hO⟩ := hv
  have hx := B.exec
  have hb := B.bytes
  have hr := B.returns
  have hts : ∀ w ∈ tb, w.before _ s = true := fun w h => atoms_spec (ws := .code yX6_multiply cX6_multiply 5 none :: tb) B.pre w (List.mem_cons_of_mem _ h)
  have hown : s.vm.findClass RX6 = some m.cls := findClass_of_methodNamed B.named
  have hlocks := B.notSynchronized
  subst hsz
  have hD := hD0.self (sz := s.heap.size)
  generalize hAe : va_A (va_pl L F) s.heap.size = A at hD ⊢
  have hA : ∀ q : Nat, s.heap.size ≤ q → A q := fun q h => by rw [← hAe]; exact Or.inr h
  have hS : va_S A s.heap s.heap [] := va_S.rf
  have hR : FR ty [ρ + 87, ρ + 88] F F := FR.refl
  have hl := lv_entry ([.ref h0, .ref la, .ref lb]) (n := 5) (Nat.le_of_ble_eq_true rfl)
  rw [lg_entry_eq]
  generalize (lg_sl ([.ref h0, .ref la, .ref lb]) ++ List.replicate (5 - (lg_sl ([.ref h0, .ref la, .ref lb])).length) Slot.unset).toArray = ls at hl ⊢
  have hl : lv_has ls 5 [(0, .ref h0), (1, .ref la), (2, .ref lb)] := hl
  obtain ⟨hi_1, hi_2, hi_3, hi_4, ht_5, ht_6, ht_7, ht_8⟩ := hW.power hL_h0 hT_h0
  obtain ⟨f_9, hF_10⟩ := hO.longs hi_4 ht_8
  subst hn
  refine lv_iconst (v := 0) hx hb dX6_multiply_0 (by decide) ?_
  refine lv_istore_n (lv' := [(3, .int 0), (0, .ref h0), (1, .ref la), (2, .ref lb)]) hx hb dX6_multiply_1 rfl hl (by decide) rfl (fun ls hl => ?_)
  refine W.widen (k := 0) (n := 0) (by omega) (by omega) ?_
  have hF_12 : F h0 = .inr (6, [.ref pm, .ref pb, .ref pv, .ref pu, .long v6]) := (hR h0 (by rw [hT_h0]; simp)).symm.trans hF0
  have hF_13 : F pm = .inl (cs 19, 16, .inr (.inl fm)) := (hR pm (by rw [ht_5]; simp)).symm.trans hFm
  refine pl_loop (σ := Nat × (Nat → Int64)) A (dC, dI) cs ty L [ρ + 87, ρ + 88] F 2 5 (fun (j, fz) => [(3, .int (nI j)), (0, .ref h0), (1, .ref la), (2, .ref lb)]) (fun (j, fz) => []) (fun (j, fz) FF => j ≤ 18 ∧ FF pu = .inl (cs 19, 18, .inr (.inl fz)) ∧ (∀ k, k < j → fz k = 0) ∧ FF h0 = .inr (6, [.ref pm, .ref pb, .ref pv, .ref pu, .long v6]) ∧ FF la = .inl (cs 19, 16, .inr (.inl fa)) ∧ FF lb = .inl (cs 19, 16, .inr (.inl fb)) ∧ FF pm = .inl (cs 19, 16, .inr (.inl fm))) (fun (j, fz) => 18 - j) ?_ (0, f_9) F (⟨by omega, hF_10, fun k hk => absurd hk (Nat.not_lt_zero _), hF0, hFa, hFb, hFm⟩) hO hR _ _ hP hD hS ls (lv_sub hl [0, 1, 2, 3] rfl)
  rintro ⟨j, fz⟩ F_11 hv_14 hO hR ih_15 H locs hP hD hS ls hl
  have hl : lv_has ls 5 [(3, .int (nI j)), (0, .ref h0), (1, .ref la), (2, .ref lb)] := hl
  have hv_14 : j ≤ 18 ∧ F_11 pu = .inl (cs 19, 18, .inr (.inl fz)) ∧ (∀ k, k < j → fz k = 0) ∧ F_11 h0 = .inr (6, [.ref pm, .ref pb, .ref pv, .ref pu, .long v6]) ∧ F_11 la = .inl (cs 19, 16, .inr (.inl fa)) ∧ F_11 lb = .inl (cs 19, 16, .inr (.inl fb)) ∧ F_11 pm = .inl (cs 19, 16, .inr (.inl fm)) := hv_14
  refine W.eq (g2 := F0 m 2 ls []) rfl ?_
  have hF_16 : F_11 h0 = .inr (6, [.ref pm, .ref pb, .ref pv, .ref pu, .long v6]) := (hR h0 (by rw [hT_h0]; simp)).trans hF_12
  have hF_17 : F_11 pm = .inl (cs 19, 16, .inr (.inl fm)) := (hR pm (by rw [ht_5]; simp)).trans hF_13
  obtain ⟨hv1, hv2, hv3, hk1_, hk2_, hk3_, hk4_⟩ := id hv_14
  refine lv_iload_n hx hb dX6_multiply_2 rfl (lv_at hl 0 rfl) ?_
  refine lv_bipush (v := 18) hx hb dX6_multiply_3 (by decide) ?_
  refine lv_icmp_ge (tgt := 21) hx hb dX6_multiply_5 (by decide) (fun c_18 => ?_) (fun c_18 => ?_)
  ·
    have hi_19 : 18 ≤ j := leN (N := 18) c_18
    have hj8 : 18 ≤ j := (nI_leI (by omega) (by omega)).mp c_18
    refine lv_iconst (v := 0) hx hb dX6_multiply_21 (by decide) ?_
    refine lv_istore_n (lv' := [(3, .int 0), (0, .ref h0), (1, .ref la), (2, .ref lb)]) hx hb dX6_multiply_22 rfl hl (by decide) rfl (fun ls hl => ?_)
    refine W.widen (k := 0) (n := 0) (by omega) (by omega) ?_
    have hF_21 : F h0 = .inr (6, [.ref pm, .ref pb, .ref pv, .ref pu, .long v6]) := (hR h0 (by rw [hT_h0]; simp)).symm.trans hk1_
    have hF_22 : F pm = .inl (cs 19, 16, .inr (.inl fm)) := (hR pm (by rw [ht_5]; simp)).symm.trans hk4_
    refine pl_loop (σ := Nat × (Nat → Int64)) A (dC, dI) cs ty L [ρ + 87, ρ + 88] F 23 5 (fun (i, fq) => [(3, .int (nI i)), (0, .ref h0), (1, .ref la), (2, .ref lb)]) (fun (i, fq) => []) (fun (i, fq) FF => i ≤ 16 ∧ FF pu = .inl (cs 19, 18, .inr (.inl fq)) ∧ MLI fa fb fm fq i ∧ FF h0 = .inr (6, [.ref pm, .ref pb, .ref pv, .ref pu, .long v6]) ∧ FF la = .inl (cs 19, 16, .inr (.inl fa)) ∧ FF lb = .inl (cs 19, 16, .inr (.inl fb)) ∧ FF pm = .inl (cs 19, 16, .inr (.inl fm))) (fun (i, fq) => 16 - i) ?_ (0, fz) F_11 (⟨by omega, hv2, mli_0 (by rw [show j = 18 by omega] at hv3; exact hv3) (by omega), hk1_, hk2_, hk3_, hk4_⟩) hO hR _ _ hP hD hS ls (lv_sub hl [0, 1, 2, 3] rfl)
    rintro ⟨i, fq⟩ F_20 hv_23 hO hR ih_24 H locs hP hD hS ls hl
    have hl : lv_has ls 5 [(3, .int (nI i)), (0, .ref h0), (1, .ref la), (2, .ref lb)] := hl
    have hv_23 : i ≤ 16 ∧ F_20 pu = .inl (cs 19, 18, .inr (.inl fq)) ∧ MLI fa fb fm fq i ∧ F_20 h0 = .inr (6, [.ref pm, .ref pb, .ref pv, .ref pu, .long v6]) ∧ F_20 la = .inl (cs 19, 16, .inr (.inl fa)) ∧ F_20 lb = .inl (cs 19, 16, .inr (.inl fb)) ∧ F_20 pm = .inl (cs 19, 16, .inr (.inl fm)) := hv_23
    refine W.eq (g2 := F0 m 23 ls []) rfl ?_
    have hF_25 : F_20 h0 = .inr (6, [.ref pm, .ref pb, .ref pv, .ref pu, .long v6]) := (hR h0 (by rw [hT_h0]; simp)).trans hF_21
    have hF_26 : F_20 pm = .inl (cs 19, 16, .inr (.inl fm)) := (hR pm (by rw [ht_5]; simp)).trans hF_22
    obtain ⟨hu1, hu2, hu3, hm1_, hm2_, hm3_, hm4_⟩ := id hv_23
    refine lv_iload_n hx hb dX6_multiply_23 rfl (lv_at hl 0 rfl) ?_
    refine lv_bipush (v := 16) hx hb dX6_multiply_24 (by decide) ?_
    refine lv_icmp_ge (tgt := 106) hx hb dX6_multiply_26 (by decide) (fun c_27 => ?_) (fun c_27 => ?_)
    ·
      have hi_28 : 16 ≤ i := leN (N := 16) c_27
      have hi6 : 16 ≤ i := (nI_leI (by omega) (by omega)).mp c_27
      have hi9 : i = 16 := by omega
      rw [hi9] at hu3
      refine lv_aload_n hx hb dX6_multiply_106 rfl (lv_at hl 1 rfl) ?_
      have hFc := pg_free hD hS hA
      refine va_callv (va_runV (As := []) (rest := []) ⟨hx, hb, hml, hown, hts⟩ (s_X6_reduce_e l dC dI cs ty L H.size F_20 h0 ρ pm pb pv pu fq fm v6 (lQN fm 16) hW hL_h0 hT_h0 hm1_ hu2 hm4_ (hu3.1) (hm) (rfl) (hu3.2.2.1)) ⟨callB_of 0 hts (gi kt_274) rfl rfl rfl (hts _ kt_275) (hts _ kt_276) (by decide +kernel) ⟨Nat.le_of_ble_eq_true rfl, Nat.le_of_ble_eq_true rfl⟩, (hts _ kt_277), (hts _ kt_278)⟩ ⟨fun a U g mk q => ⟨q.1, PT.calling q.2⟩, pg_recv hK hP hL_h0 hm1_ (q := (RX6, TX6, 5)) rfl, fun U hU hWm => ⟨rfl, PT.mk hU hWm hP hK hD hE hO⟩⟩ rfl rfl hl.1 rfl (lv_room (Nat.le_of_ble_eq_true rfl)) dX6_multiply_107 ⟨by show _ + 0 ≤ 0; omega, by show _ + 0 ≤ 0; omega⟩) hS (fun q _ h => hFc q h) hFc (fun u t H1 locs ht hvm hw hB hz1 hk1 hS => ?_)
      obtain ⟨F_30, f2_31, hB1, hq_32, hq_33, hq_34⟩ := hB
      obtain ⟨hP, hD, hO, hR⟩ := QT.back hB1 ht hFc hR (fun q h => by simp only [List.mem_cons, List.not_mem_nil, or_false] at h ⊢; omega)
      have hF_35 : F_30 h0 = .inr (6, [.ref pm, .ref pb, .ref pv, .ref pu, .long v6]) := (hB1.2.2.2 h0 (by rw [hT_h0]; simp)).trans hm1_
      have hF_36 : F_30 pm = .inl (cs 19, 16, .inr (.inl fm)) := (hB1.2.2.2 pm (by rw [ht_5]; simp)).trans hm4_
      have hF_37 : F_30 pu = .inl (cs 19, 18, .inr (.inl fq)) := (hB1.2.2.2 pu (by rw [ht_8]; simp)).trans hu2
      generalize H1 = H at hP hS ⊢
      refine W.widen (k := 0) (n := 0) (by omega) (by omega) ?_
      exact W.vret hx hb hr (fun t ht hWm => ⟨⟨(), rfl, trivial, ⟨F_30, f2_31, QT.mk ht hP hD hO hR, hq_32, hq_33, (by rw [hq_34]; exact Nat.mod_lt _ (by omega)), (mli_e hu3 hq_34)⟩⟩, hS.F ht⟩) hS.2.2 dX6_multiply_110
    ·
      have hi_38 : i < 16 := ltN (N := 16) c_27
      have hi6 : i < 16 := Nat.not_le.mp (fun q => c_27 ((nI_leI (by omega) (by omega)).mpr q))
      refine lv_aload_n hx hb dX6_multiply_29 rfl (lv_at hl 1 rfl) ?_
      refine lv_aload_n hx hb dX6_multiply_30 rfl (lv_at hl 2 rfl) ?_
      refine lv_aload_n hx hb dX6_multiply_31 rfl (lv_at hl 3 rfl) ?_
      refine lv_iload_n hx hb dX6_multiply_32 rfl (lv_at hl 0 rfl) ?_
      refine pg_lald hx hb hK hP hL_lb 3 hm3_ rfl (vp_in_nI (by omega) (by omega)) dX6_multiply_33 ?_
      refine lv_topl (fun x_39 ex_39 => ?_)
      obtain rfl : x_39 = (fb i) := ex_39.trans (congrArg fb (nI_clamp (by omega)))
      have hFc := pg_free hD hS hA
      refine va_callv (va_runV (As := [.ref la, .long (fb i)]) (rest := []) ⟨hx, hb, hml, hown, hts⟩ (s_X6_addTimes_e l dC dI cs ty L H.size F_20 h0 ρ pm pb pv pu la τ fq fa (fb i) v6 hW hL_h0 hT_h0 hL_la hT_la hm1_ hu2 hm2_ (hu3.1) (by rw [hu3.2.1]; decide) (ha) (hbb i hi6) (hta)) ⟨callB_of 2 hts (gi kt_279) rfl rfl rfl (hts _ kt_275) (hts _ kt_280) (by decide +kernel) ⟨Nat.le_of_ble_eq_true rfl, Nat.le_of_ble_eq_true rfl⟩, (hts _ kt_281), (hts _ kt_282)⟩ ⟨fun a U g mk q => ⟨q.1, PT.calling q.2⟩, pg_recv hK hP hL_h0 hm1_ (q := (RX6, TX6, 5)) rfl, fun U hU hWm => ⟨rfl, PT.mk hU hWm hP hK hD hE hO⟩⟩ rfl rfl hl.1 rfl (lv_room (Nat.le_of_ble_eq_true rfl)) dX6_multiply_34 ⟨by show _ + 0 ≤ 0; omega, by show _ + 0 ≤ 0; omega⟩) hS (fun q _ h => hFc q h) hFc (fun u t H1 locs ht hvm hw hB hz1 hk1 hS => ?_)
      obtain ⟨F_41, f2_42, hB1, hq_43, hq_44, hq_45, hq_46⟩ := hB
      obtain ⟨hP, hD, hO, hR⟩ := QT.back hB1 ht hFc hR (fun q h => by simp only [List.mem_cons, List.not_mem_nil, or_false] at h ⊢; omega)
      have hF_47 : F_41 h0 = .inr (6, [.ref pm, .ref pb, .ref pv, .ref pu, .long v6]) := (hB1.2.2.2 h0 (by rw [hT_h0]; simp)).trans hm1_
      have hF_48 : F_41 pm = .inl (cs 19, 16, .inr (.inl fm)) := (hB1.2.2.2 pm (by rw [ht_5]; simp)).trans hm4_
      have hF_49 : F_41 la = .inl (cs 19, 16, .inr (.inl fa)) := (hB1.2.2.2 la (by rw [hT_la]; simp only [List.mem_cons, List.not_mem_nil, or_false]; omega)).trans hm2_
      have hF_50 : F_41 lb = .inl (cs 19, 16, .inr (.inl fb)) := (hB1.2.2.2 lb (by rw [hT_lb]; simp only [List.mem_cons, List.not_mem_nil, or_false]; omega)).trans hm3_
      generalize H1 = H at hP hS ⊢
      have ht1 := hq_44
      have ht2 := hq_45
      have ht3 := hq_46
      refine lv_aload_n hx hb dX6_multiply_37 rfl (lv_at hl 1 rfl) ?_
      refine lv_aload_n hx hb dX6_multiply_38 rfl (lv_at hl 1 rfl) ?_
      refine pg_get (ci := 6) (v := .ref pm) (C := RX6) (T := TX6) (N := 5) hx hb hts it_6 hown hK hP hL_h0 hF_47 rfl 0 (by decide) (hts _ kt_273) (fun _ h9 => h9) rfl dX6_multiply_39 ?_
      refine lv_aload_n hx hb dX6_multiply_42 rfl (lv_at hl 1 rfl) ?_
      refine pg_get (ci := 6) (v := .ref pu) (C := RX6) (T := TX6) (N := 5) hx hb hts it_6 hown hK hP hL_h0 hF_47 rfl 3 (by decide) (hts _ kt_270) (fun _ h9 => h9) rfl dX6_multiply_43 ?_
      refine lv_iconst (v := 0) hx hb dX6_multiply_46 (by decide) ?_
      refine pg_lald hx hb hK hP hi_4 3 hq_43 rfl (show vp_in (0 : Int32) 18 from (show vp_in (nI 0) 18 from vp_in_nI (by omega) (by omega))) dX6_multiply_47 ?_
      refine lv_topl (fun x_51 ex_51 => ?_)
      obtain rfl : x_51 = (f2_42 0) := ex_51.trans (congrArg f2_42 (show (0 : Int32).toNatClampNeg = 0 by decide))
      refine lv_aload_n hx hb dX6_multiply_48 rfl (lv_at hl 1 rfl) ?_
      refine pg_get (ci := 6) (v := .long v6) (C := RX6) (T := TX6) (N := 5) hx hb hts it_6 hown hK hP hL_h0 hF_47 rfl 4 (by decide) (hts _ kt_283) (fun _ h9 => h9) rfl dX6_multiply_49 ?_
      refine lv_lmul hx hb dX6_multiply_52 ?_
      refine lv_topl (fun x_52 ex_52 => ?_)
      obtain rfl : x_52 = ((f2_42 0) * v6) := ex_52.trans (rfl)
      refine lv_ldc2 (v := 4294967295) hx hb hown (hts _ kt_269) dX6_multiply_53 ?_
      refine lv_land hx hb dX6_multiply_56 ?_
      refine lv_topl (fun x_53 ex_53 => ?_)
      obtain rfl : x_53 = (((f2_42 0) * v6) &&& 4294967295) := ex_53.trans (rfl)
      have hFc := pg_free hD hS hA
      refine va_callv (va_runV (As := [.ref pm, .long (((f2_42 0) * v6) &&& 4294967295)]) (rest := []) ⟨hx, hb, hml, hown, hts⟩ (s_X6_addTimes_e l dC dI cs ty L H.size F_41 h0 ρ pm pb pv pu pm (ρ + 85) f2_42 fm (((f2_42 0) * v6) &&& 4294967295) v6 hW hL_h0 hT_h0 hi_1 ht_5 hF_47 hq_43 hF_48 (ht1) (by have h9 := hu3.2.1; omega) (hm) (by rw [uN_mask]; exact Nat.mod_lt _ (by decide)) (by omega)) ⟨callB_of 2 hts (gi kt_279) rfl rfl rfl (hts _ kt_275) (hts _ kt_280) (by decide +kernel) ⟨Nat.le_of_ble_eq_true rfl, Nat.le_of_ble_eq_true rfl⟩, (hts _ kt_281), (hts _ kt_282)⟩ ⟨fun a U g mk q => ⟨q.1, PT.calling q.2⟩, pg_recv hK hP hL_h0 hF_47 (q := (RX6, TX6, 5)) rfl, fun U hU hWm => ⟨rfl, PT.mk hU hWm hP hK hD hE hO⟩⟩ rfl rfl hl.1 rfl (lv_room (Nat.le_of_ble_eq_true rfl)) dX6_multiply_57 ⟨by show _ + 0 ≤ 0; omega, by show _ + 0 ≤ 0; omega⟩) hS (fun q _ h => hFc q h) hFc (fun u t H1 locs ht hvm hw hB hz1 hk1 hS => ?_)
      obtain ⟨F_55, f2_56, hB1, hq_57, hq_58, hq_59, hq_60⟩ := hB
      obtain ⟨hP, hD, hO, hR⟩ := QT.back hB1 ht hFc hR (fun q h => by simp only [List.mem_cons, List.not_mem_nil, or_false] at h ⊢; omega)
      have hF_61 : F_55 h0 = .inr (6, [.ref pm, .ref pb, .ref pv, .ref pu, .long v6]) := (hB1.2.2.2 h0 (by rw [hT_h0]; simp)).trans hF_47
      have hF_62 : F_55 pm = .inl (cs 19, 16, .inr (.inl fm)) := (hB1.2.2.2 pm (by rw [ht_5]; simp)).trans hF_48
      have hF_63 : F_55 la = .inl (cs 19, 16, .inr (.inl fa)) := (hB1.2.2.2 la (by rw [hT_la]; simp only [List.mem_cons, List.not_mem_nil, or_false]; omega)).trans hF_49
      have hF_64 : F_55 lb = .inl (cs 19, 16, .inr (.inl fb)) := (hB1.2.2.2 lb (by rw [hT_lb]; simp only [List.mem_cons, List.not_mem_nil, or_false]; omega)).trans hF_50
      generalize H1 = H at hP hS ⊢
      have ht5 := hq_58
      have ht6 := hq_59
      have ht7 := hq_60
      refine lv_iconst (v := 0) hx hb dX6_multiply_60 (by decide) ?_
      refine lv_istore (lv' := [(4, .int 0), (3, .int (nI i)), (0, .ref h0), (1, .ref la), (2, .ref lb)]) hx hb dX6_multiply_61 hl (by decide) rfl (fun ls hl => ?_)
      refine W.widen (k := 0) (n := 0) (by omega) (by omega) ?_
      have hF_66 : F h0 = .inr (6, [.ref pm, .ref pb, .ref pv, .ref pu, .long v6]) := (hR h0 (by rw [hT_h0]; simp)).symm.trans hF_61
      have hF_67 : F pm = .inl (cs 19, 16, .inr (.inl fm)) := (hR pm (by rw [ht_5]; simp)).symm.trans hF_62
      refine pl_loop (σ := Nat × (Nat → Int64)) A (dC, dI) cs ty L [ρ + 87, ρ + 88] F 63 5 (fun (j3, fr) => [(4, .int (nI j3)), (3, .int (nI i)), (0, .ref h0), (1, .ref la), (2, .ref lb)]) (fun (j3, fr) => []) (fun (j3, fr) FF => j3 ≤ 17 ∧ FF pu = .inl (cs 19, 18, .inr (.inl fr)) ∧ SHI f2_56 fr j3 ∧ FF h0 = .inr (6, [.ref pm, .ref pb, .ref pv, .ref pu, .long v6]) ∧ FF la = .inl (cs 19, 16, .inr (.inl fa)) ∧ FF lb = .inl (cs 19, 16, .inr (.inl fb)) ∧ FF pm = .inl (cs 19, 16, .inr (.inl fm))) (fun (j3, fr) => 17 - j3) ?_ (0, f2_56) F_55 (⟨by omega, hq_57, shi_0, hF_61, hF_63, hF_64, hF_62⟩) hO hR _ _ hP hD hS ls (lv_sub hl [0, 1, 2, 3, 4] rfl)
      rintro ⟨j3, fr⟩ F_65 hv_68 hO hR ih_69 H locs hP hD hS ls hl
      have hl : lv_has ls 5 [(4, .int (nI j3)), (3, .int (nI i)), (0, .ref h0), (1, .ref la), (2, .ref lb)] := hl
      have hv_68 : j3 ≤ 17 ∧ F_65 pu = .inl (cs 19, 18, .inr (.inl fr)) ∧ SHI f2_56 fr j3 ∧ F_65 h0 = .inr (6, [.ref pm, .ref pb, .ref pv, .ref pu, .long v6]) ∧ F_65 la = .inl (cs 19, 16, .inr (.inl fa)) ∧ F_65 lb = .inl (cs 19, 16, .inr (.inl fb)) ∧ F_65 pm = .inl (cs 19, 16, .inr (.inl fm)) := hv_68
      refine W.eq (g2 := F0 m 63 ls []) rfl ?_
      have hF_70 : F_65 h0 = .inr (6, [.ref pm, .ref pb, .ref pv, .ref pu, .long v6]) := (hR h0 (by rw [hT_h0]; simp)).trans hF_66
      have hF_71 : F_65 pm = .inl (cs 19, 16, .inr (.inl fm)) := (hR pm (by rw [ht_5]; simp)).trans hF_67
      obtain ⟨hs1, hs2, hsh, hn1_, hn2_, hn3_, hn4_⟩ := id hv_68
      refine lv_iload hx hb dX6_multiply_63 (lv_at hl 0 rfl) ?_
      refine lv_bipush (v := 16) hx hb dX6_multiply_65 (by decide) ?_
      refine lv_icmp_gt (tgt := 92) hx hb dX6_multiply_67 (by decide) (fun c_72 => ?_) (fun c_72 => ?_)
      ·
        have hi_73 : 16 < j3 := (nI_ltI (a := 16) (b := j3) (by omega) (by omega)).mp c_72
        have hj3 : 16 < j3 := (nI_ltI (a := 16) (by omega) (by omega)).mp c_72
        rw [show j3 = 17 by omega] at hsh
        refine lv_aload_n hx hb dX6_multiply_92 rfl (lv_at hl 2 rfl) ?_
        refine pg_get (ci := 6) (v := .ref pu) (C := RX6) (T := TX6) (N := 5) hx hb hts it_6 hown hK hP hL_h0 hn1_ rfl 3 (by decide) (hts _ kt_270) (fun _ h9 => h9) rfl dX6_multiply_93 ?_
        refine lv_bipush (v := 17) hx hb dX6_multiply_96 (by decide) ?_
        refine lv_lconst (v := 0) hx hb dX6_multiply_98 (by decide) ?_
        refine pg_last hx hb hK hP hD hS hi_4 3 hs2 rfl (show vp_in (17 : Int32) 18 from (show vp_in (nI 17) 18 from vp_in_nI (by omega) (by omega))) dX6_multiply_99 (fun H locs hP hD hS => ?_)
        obtain ⟨F_74, he_75, hP, hD, hO, hR⟩ : ∃ G, G = va_up F_65 pu (.inl (cs 19, 18, .inr (.inl (vp_updL fr (17 : Int32).toNatClampNeg (0))))) ∧ va_P (dC, dI) vwCl (va_pl L G) H ∧ va_D A (va_pl L G) ∧ OK cs ty L G ∧ FR ty [ρ + 87, ρ + 88] F G := ⟨_, rfl, hP, hD, hO.up (sh.longs ht_8 ⟨_, rfl⟩), hR.up ht_8 (by simp)⟩
        have hF_76 : F_74 pu = .inl (cs 19, 18, .inr (.inl (vp_updL fr (17 : Int32).toNatClampNeg (0)))) := by rw [he_75]; exact up_self
        have hF_77 : F_74 h0 = .inr (6, [.ref pm, .ref pb, .ref pv, .ref pu, .long v6]) := by rw [he_75, up_ne (ne_ty hT_h0 ht_8 (by simp))]; exact hn1_
        have hF_78 : F_74 pm = .inl (cs 19, 16, .inr (.inl fm)) := by rw [he_75, up_ne (ne_ty3 ht_5 ht_8 (by show ρ + 85 ≠ ρ + 88; omega))]; exact hn4_
        have hF_79 : F_74 la = .inl (cs 19, 16, .inr (.inl fa)) := by rw [he_75, up_ne (ne_ty3 hT_la ht_8 (by show τ ≠ ρ + 88; omega))]; exact hn2_
        have hF_80 : F_74 lb = .inl (cs 19, 16, .inr (.inl fb)) := by rw [he_75, up_ne (ne_ty3 hT_lb ht_8 (by show υ ≠ ρ + 88; omega))]; exact hn3_
        have hF_81 : F_74 pu = .inl (cs 19, 18, .inr (.inl (vp_updL fr 17 0))) := by have h9 := hF_76; rwa [show (17 : Int32).toNatClampNeg = 17 by decide] at h9
        refine lv_iinc (v := (nI (i + 1))) (lv' := [(3, .int (nI (i + 1))), (4, .int (nI j3)), (0, .ref h0), (1, .ref la), (2, .ref lb)]) hx hb dX6_multiply_100 hl (k := 1) rfl (nI_1 _) (by decide) rfl (fun ls hl => ?_)
        refine lv_goto (tgt := 23) hx hb dX6_multiply_103 (by decide) ?_
        refine W.widen (k := 0) (n := 0) (by omega) (by omega) ?_
        exact ih_24 ((i + 1), (vp_updL fr 17 0)) F_74 (⟨by omega, hF_81, mli_s hu3 han hbb hm hi6 hvf ht1 ht2 rfl ht5 ht6 hsh ht7 ht3, hF_77, hF_79, hF_80, hF_78⟩) (by show 16 - (i + 1) < 16 - i; omega) hO hR _ _ hP hD hS ls (lv_sub hl [0, 2, 3, 4] rfl)
      ·
        have hi_82 : j3 ≤ 16 := Nat.not_lt.mp (fun q => c_72 ((nI_ltI (a := 16) (b := j3) (by omega) (by omega)).mpr q))
        have hj3 : j3 ≤ 16 := Nat.not_lt.mp (fun q => c_72 ((nI_ltI (a := 16) (by omega) (by omega)).mpr q))
        refine lv_aload_n hx hb dX6_multiply_70 rfl (lv_at hl 2 rfl) ?_
        refine pg_get (ci := 6) (v := .ref pu) (C := RX6) (T := TX6) (N := 5) hx hb hts it_6 hown hK hP hL_h0 hn1_ rfl 3 (by decide) (hts _ kt_270) (fun _ h9 => h9) rfl dX6_multiply_71 ?_
        refine lv_iload hx hb dX6_multiply_74 (lv_at hl 0 rfl) ?_
        refine lv_aload_n hx hb dX6_multiply_76 rfl (lv_at hl 2 rfl) ?_
        refine pg_get (ci := 6) (v := .ref pu) (C := RX6) (T := TX6) (N := 5) hx hb hts it_6 hown hK hP hL_h0 hn1_ rfl 3 (by decide) (hts _ kt_270) (fun _ h9 => h9) rfl dX6_multiply_77 ?_
        refine lv_iload hx hb dX6_multiply_80 (lv_at hl 0 rfl) ?_
        refine lv_iconst (v := 1) hx hb dX6_multiply_82 (by decide) ?_
        refine lv_iadd hx hb dX6_multiply_83 ?_
        refine lv_topi (fun x_83 ex_83 => ?_)
        obtain rfl : x_83 = (nI (j3 + 1)) := ex_83.trans (nI_1 j3)
        refine pg_lald hx hb hK hP hi_4 3 hs2 rfl (vp_in_nI (by omega) (by omega)) dX6_multiply_84 ?_
        refine lv_topl (fun x_84 ex_84 => ?_)
        obtain rfl : x_84 = (fr (j3 + 1)) := ex_84.trans (congrArg fr (nI_clamp (by omega)))
        refine pg_last hx hb hK hP hD hS hi_4 3 hs2 rfl (vp_in_nI (by omega) (by omega)) dX6_multiply_85 (fun H locs hP hD hS => ?_)
        obtain ⟨F_85, he_86, hP, hD, hO, hR⟩ : ∃ G, G = va_up F_65 pu (.inl (cs 19, 18, .inr (.inl (vp_updL fr ((nI j3)).toNatClampNeg ((fr (j3 + 1))))))) ∧ va_P (dC, dI) vwCl (va_pl L G) H ∧ va_D A (va_pl L G) ∧ OK cs ty L G ∧ FR ty [ρ + 87, ρ + 88] F G := ⟨_, rfl, hP, hD, hO.up (sh.longs ht_8 ⟨_, rfl⟩), hR.up ht_8 (by simp)⟩
        have hF_87 : F_85 pu = .inl (cs 19, 18, .inr (.inl (vp_updL fr ((nI j3)).toNatClampNeg ((fr (j3 + 1)))))) := by rw [he_86]; exact up_self
        have hF_88 : F_85 h0 = .inr (6, [.ref pm, .ref pb, .ref pv, .ref pu, .long v6]) := by rw [he_86, up_ne (ne_ty hT_h0 ht_8 (by simp))]; exact hn1_
        have hF_89 : F_85 pm = .inl (cs 19, 16, .inr (.inl fm)) := by rw [he_86, up_ne (ne_ty3 ht_5 ht_8 (by show ρ + 85 ≠ ρ + 88; omega))]; exact hn4_
        have hF_90 : F_85 la = .inl (cs 19, 16, .inr (.inl fa)) := by rw [he_86, up_ne (ne_ty3 hT_la ht_8 (by show τ ≠ ρ + 88; omega))]; exact hn2_
        have hF_91 : F_85 lb = .inl (cs 19, 16, .inr (.inl fb)) := by rw [he_86, up_ne (ne_ty3 hT_lb ht_8 (by show υ ≠ ρ + 88; omega))]; exact hn3_
        have hF_92 : F_85 pu = .inl (cs 19, 18, .inr (.inl (vp_updL fr j3 (fr (j3 + 1))))) := by have h9 := hF_87; rwa [nI_clamp (by omega)] at h9
        refine lv_iinc (v := (nI (j3 + 1))) (lv' := [(4, .int (nI (j3 + 1))), (3, .int (nI i)), (0, .ref h0), (1, .ref la), (2, .ref lb)]) hx hb dX6_multiply_86 hl (k := 0) rfl (nI_1 _) (by decide) rfl (fun ls hl => ?_)
        refine lv_goto (tgt := 63) hx hb dX6_multiply_89 (by decide) ?_
        refine W.widen (k := 0) (n := 0) (by omega) (by omega) ?_
        exact ih_69 ((j3 + 1), (vp_updL fr j3 (fr (j3 + 1)))) F_85 (⟨by omega, hF_92, shi_s hsh, hF_88, hF_90, hF_91, hF_89⟩) (by show 17 - (j3 + 1) < 17 - j3; omega) hO hR _ _ hP hD hS ls (lv_sub hl [0, 1, 2, 3, 4] rfl)
  ·
    have hi_93 : j < 18 := ltN (N := 18) c_18
    have hj8 : j < 18 := Nat.not_le.mp (fun q => c_18 ((nI_leI (by omega) (by omega)).mpr q))
    refine lv_aload_n hx hb dX6_multiply_8 rfl (lv_at hl 1 rfl) ?_
    refine pg_get (ci := 6) (v := .ref pu) (C := RX6) (T := TX6) (N := 5) hx hb hts it_6 hown hK hP hL_h0 hk1_ rfl 3 (by decide) (hts _ kt_270) (fun _ h9 => h9) rfl dX6_multiply_9 ?_
    refine lv_iload_n hx hb dX6_multiply_12 rfl (lv_at hl 0 rfl) ?_
    refine lv_lconst (v := 0) hx hb dX6_multiply_13 (by decide) ?_
    refine pg_last hx hb hK hP hD hS hi_4 3 hv2 rfl (vp_in_nI (by omega) (by omega)) dX6_multiply_14 (fun H locs hP hD hS => ?_)
    obtain ⟨F_94, he_95, hP, hD, hO, hR⟩ : ∃ G, G = va_up F_11 pu (.inl (cs 19, 18, .inr (.inl (vp_updL fz ((nI j)).toNatClampNeg (0))))) ∧ va_P (dC, dI) vwCl (va_pl L G) H ∧ va_D A (va_pl L G) ∧ OK cs ty L G ∧ FR ty [ρ + 87, ρ + 88] F G := ⟨_, rfl, hP, hD, hO.up (sh.longs ht_8 ⟨_, rfl⟩), hR.up ht_8 (by simp)⟩
    have hF_96 : F_94 pu = .inl (cs 19, 18, .inr (.inl (vp_updL fz ((nI j)).toNatClampNeg (0)))) := by rw [he_95]; exact up_self
    have hF_97 : F_94 h0 = .inr (6, [.ref pm, .ref pb, .ref pv, .ref pu, .long v6]) := by rw [he_95, up_ne (ne_ty hT_h0 ht_8 (by simp))]; exact hk1_
    have hF_98 : F_94 pm = .inl (cs 19, 16, .inr (.inl fm)) := by rw [he_95, up_ne (ne_ty3 ht_5 ht_8 (by show ρ + 85 ≠ ρ + 88; omega))]; exact hk4_
    have hF_99 : F_94 la = .inl (cs 19, 16, .inr (.inl fa)) := by rw [he_95, up_ne (ne_ty3 hT_la ht_8 (by show τ ≠ ρ + 88; omega))]; exact hk2_
    have hF_100 : F_94 lb = .inl (cs 19, 16, .inr (.inl fb)) := by rw [he_95, up_ne (ne_ty3 hT_lb ht_8 (by show υ ≠ ρ + 88; omega))]; exact hk3_
    have hF_101 : F_94 pu = .inl (cs 19, 18, .inr (.inl (vp_updL fz j 0))) := by have h9 := hF_96; rwa [nI_clamp (by omega)] at h9
    refine lv_iinc (v := (nI (j + 1))) (lv' := [(3, .int (nI (j + 1))), (0, .ref h0), (1, .ref la), (2, .ref lb)]) hx hb dX6_multiply_15 hl (k := 0) rfl (nI_1 _) (by decide) rfl (fun ls hl => ?_)
    refine lv_goto (tgt := 2) hx hb dX6_multiply_18 (by decide) ?_
    refine W.widen (k := 0) (n := 0) (by omega) (by omega) ?_
    exact ih_15 ((j + 1), (vp_updL fz j 0)) F_94 (⟨by omega, hF_101, z18_s hv3, hF_97, hF_99, hF_100, hF_98⟩) (by show 18 - (j + 1) < 18 - j; omega) hO hR _ _ hP hD hS ls (lv_sub hl [0, 1, 2, 3] rfl)
def dnk (k : Nat) : Int32 := nI k + Int32.ofInt (-1)
theorem dnk_s {k : Nat} (h : 1 ≤ k) : dnk k = nI (k - 1) := decI h
theorem dnk_neg {k : Nat} (h : k ≤ 10001) (c : dnk k < 0) : k = 0 := by
  rcases Nat.eq_zero_or_pos k with q | q
  · exact q
  · rw [dnk_s q] at c
    exact absurd c (nI_pos (by omega))
theorem dnk_pos {k : Nat} (c : ¬ dnk k < 0) : 1 ≤ k := by
  rcases Nat.eq_zero_or_pos k with q | q
  · subst q
    exact absurd (by decide) c
  · exact q
theorem u32_nI {c : Nat} (h : c < 4294967296) : u32 (nI c) = c := by
  show (Int32.ofNat c).toBitVec.toNat = c
  rw [Int32.toBitVec_ofNat', BitVec.toNat_ofNat]
  exact Nat.mod_eq_of_lt h
theorem oc_a (y : UInt32) : u32 (y.toInt32 &&& 255) = y.toNat % 256 := by
  show (y.toInt32 &&& 255).toBitVec.toNat = _
  rw [Int32.toBitVec_and, BitVec.toNat_and]
  show y.toNat &&& (2 ^ 8 - 1) = _
  rw [Nat.and_two_pow_sub_one_eq_mod]
theorem oc_24 (x : Int32) : u32 (ocT x 24) = u32 x / 16777216 % 256 := by
  show u32 ((x.toUInt32 >>> ((24 : Int32).toUInt32 &&& (31 : Int32).toUInt32)).toInt32 &&& 255) = _
  rw [oc_a, UInt32.toNat_shiftRight, show ((24 : Int32).toUInt32 &&& (31 : Int32).toUInt32).toNat % 32 = 24 by decide, Nat.shiftRight_eq_div_pow]
  rfl
theorem oc_16 (x : Int32) : u32 (ocT x 16) = u32 x / 65536 % 256 := by
  show u32 ((x.toUInt32 >>> ((16 : Int32).toUInt32 &&& (31 : Int32).toUInt32)).toInt32 &&& 255) = _
  rw [oc_a, UInt32.toNat_shiftRight, show ((16 : Int32).toUInt32 &&& (31 : Int32).toUInt32).toNat % 32 = 16 by decide, Nat.shiftRight_eq_div_pow]
  rfl
theorem oc_8 (x : Int32) : u32 (ocT x 8) = u32 x / 256 % 256 := by
  show u32 ((x.toUInt32 >>> ((8 : Int32).toUInt32 &&& (31 : Int32).toUInt32)).toInt32 &&& 255) = _
  rw [oc_a, UInt32.toNat_shiftRight, show ((8 : Int32).toUInt32 &&& (31 : Int32).toUInt32).toNat % 32 = 8 by decide, Nat.shiftRight_eq_div_pow]
  rfl
theorem oc_0 (x : Int32) : u32 (ocT x 0) = u32 x % 256 := by
  show u32 ((x.toUInt32 >>> ((0 : Int32).toUInt32 &&& (31 : Int32).toUInt32)).toInt32 &&& 255) = _
  rw [oc_a, UInt32.toNat_shiftRight, show ((0 : Int32).toUInt32 &&& (31 : Int32).toUInt32).toNat % 32 = 0 by decide, Nat.shiftRight_eq_div_pow]
  show u32 x / 1 % 256 = _
  rw [Nat.div_one]
theorem u32_by {x : Int32} (h : u32 x < 256) : x = nI (u32 x) := u32_inj (u32_nI (by omega)).symm
def dgN (S : Nat → Int32) (j : Nat) : Nat := u32 (dgb S j)
theorem dgN_0 (S : Nat → Int32) (k : Nat) : dgN S (4 * k) = u32 (S k) / 16777216 % 256 := by
  unfold dgN dgb
  rw [show 4 * k / 4 = k by omega, show 24 - 8 * (4 * k % 4) = 24 by omega]
  exact oc_24 _
theorem dgN_1 (S : Nat → Int32) (k : Nat) : dgN S (4 * k + 1) = u32 (S k) / 65536 % 256 := by
  unfold dgN dgb
  rw [show (4 * k + 1) / 4 = k by omega, show 24 - 8 * ((4 * k + 1) % 4) = 16 by omega]
  exact oc_16 _
theorem dgN_2 (S : Nat → Int32) (k : Nat) : dgN S (4 * k + 2) = u32 (S k) / 256 % 256 := by
  unfold dgN dgb
  rw [show (4 * k + 2) / 4 = k by omega, show 24 - 8 * ((4 * k + 2) % 4) = 8 by omega]
  exact oc_8 _
theorem dgN_3 (S : Nat → Int32) (k : Nat) : dgN S (4 * k + 3) = u32 (S k) % 256 := by
  unfold dgN dgb
  rw [show (4 * k + 3) / 4 = k by omega, show 24 - 8 * ((4 * k + 3) % 4) = 0 by omega]
  exact oc_0 _
theorem dgN_lt (S : Nat → Int32) (j : Nat) : dgN S j < 256 := by
  have e : j = 4 * (j / 4) ∨ j = 4 * (j / 4) + 1 ∨ j = 4 * (j / 4) + 2 ∨ j = 4 * (j / 4) + 3 := by omega
  rcases e with e | e | e | e
  · rw [e, dgN_0]
    exact Nat.mod_lt _ (by decide)
  · rw [e, dgN_1]
    exact Nat.mod_lt _ (by decide)
  · rw [e, dgN_2]
    exact Nat.mod_lt _ (by decide)
  · rw [e, dgN_3]
    exact Nat.mod_lt _ (by decide)
theorem dgb_N (S : Nat → Int32) (j : Nat) : dgb S j = nI (dgN S j) := u32_by (dgN_lt S j)
theorem dg_wd (S : Nat → Int32) (k : Nat) : wd4 (dgN S) (4 * k) = u32 (S k) := by
  unfold wd4
  rw [dgN_0, dgN_1, dgN_2, dgN_3]
  have h := u32_lt (S k)
  omega
def vS (fv : Nat → Int64) (i : Nat) : Int32 := (fv (15 - i)).toInt32
theorem vS_be {fv : Nat → Int64} (h : LM fv 16) : be (dgN (vS fv)) 64 = lQN fv 16 := by
  refine (be_l4 (dgN (vS fv)) 16 (fun k => uN (fv k)) (fun i hi => ?_)).symm
  rw [dg_wd]
  show uN (fv i) = u32 ((fv (15 - (16 - 1 - i))).toInt32)
  rw [uN_l2i, show 15 - (16 - 1 - i) = i by omega, Nat.mod_eq_of_lt (h i hi)]
def VALq (fv : Nat → Int64) (n x : Nat) : Prop := LM fv 16 ∧ lQN fv 16 < n ∧ lQN fv 16 % n = (x * BR) % n
theorem val_0 {fv : Nat → Int64} {n : Nat} (h1 : LM fv 16) (h2 : lQN fv 16 = (2 * BR) % n) (hn : 0 < n) : VALq fv n (sqk 2 0) := ⟨h1, by rw [h2]; exact Nat.mod_lt _ hn, by rw [h2, Nat.mod_mod]; rfl⟩
theorem val_s {fv f1 : Nat → Int64} {n x k : Nat} (ho : n % 2 = 1) (h : VALq fv n (sqk x k)) (h1 : LM f1 16) (h2 : lQN f1 16 < n) (h3 : (lQN f1 16 * BR) % n = (lQN fv 16 * lQN fv 16) % n) : VALq f1 n (sqk x (k + 1)) := ⟨h1, h2, by rw [sqk_s]; exact mg_sq ho h.2.2 h3⟩
theorem val_b {fv f1 fb : Nat → Int64} {n : Nat} (ho : n % 2 = 1) (h : VALq fv n (sqk 2 9)) (h1 : LM f1 16) (h2 : lQN f1 16 < n) (h3 : (lQN f1 16 * BR) % n = (lQN fv 16 * lQN fb 16) % n) : VALq f1 n (sqk (lQN fb 16) 0) := by
  refine ⟨h1, h2, ?_⟩
  have h4 := h.2.2
  rw [sqk_29] at h4
  rw [mg_by ho h4 h3, Nat.mul_comm]
  rfl
theorem val_e {fv f1 fb : Nat → Int64} {n : Nat} (ho : n % 2 = 1) (h : VALq fv n (sqk (lQN fb 16) 16)) (h2 : lQN f1 16 < n) (h3 : (lQN f1 16 * BR) % n = (lQN fv 16 * lQN fb 16) % n) : lQN f1 16 = pwm (lQN fb 16) n := by
  have h4 := mg_by ho h.2.2 h3
  rw [Nat.mod_eq_of_lt h2] at h4
  exact h4
theorem od_of {b : Nat → Nat} (h : b 63 % 2 = 1) : be b 64 % 2 = 1 := by
  rw [show (64 : Nat) = 63 + 1 from rfl, be_s]
  omega
theorem be_ge {f : Nat → Nat} : ∀ n, f 0 * 256 ^ n ≤ be f (n + 1) := by
  intro n
  induction n with
  | zero =>
    show f 0 * 1 ≤ 0 * 256 + f 0
    omega
  | succ n ih =>
    rw [be_s, Nat.pow_succ, ← Nat.mul_assoc]
    omega
theorem br_g {w B x y : Nat} (h2 : w ≤ y) (h1 : y ≤ x) (h3 : B = 2 * w) (h4 : w % 2 = 0) (ho : x % 2 = 1) : B < 2 * x := by omega
theorem br_of {b : Nat → Nat} (h : 128 ≤ b 0) (ho : be b 64 % 2 = 1) : BR < 2 * be b 64 := br_g (Nat.mul_le_mul_right (256 ^ 63) h) (be_ge (f := b) 63) (by decide +kernel) (by decide +kernel) ho
theorem fc_of {fm : Nat → Int64} {v : Int64} {n : Nat} (hm : LM fm 16) (hn : lQN fm 16 = n) (ho : n % 2 = 1) (hv : uN v = u32 (-(fiv ((fm 0).toInt32) 5))) : (uN (fm 0) * uN v) % 4294967296 = 4294967295 ∧ uN v < 4294967296 := by
  have h1 : lQN fm 16 % 4294967296 = uN (fm 0) := lQN_md (hm.le (by decide))
  have h2 : u32 ((fm 0).toInt32) = uN (fm 0) := by
    rw [uN_l2i, Nat.mod_eq_of_lt (hm 0 (by decide))]
  have h3 := fiv_1 (o := (fm 0).toInt32) (by rw [h2, ← h1, hn]; omega)
  have h4 := fac_1 h3
  rw [h2] at h4
  rw [hv]
  exact ⟨h4, u32_lt _⟩
set_option maxHeartbeats 4000000 in
set_option maxRecDepth 100000 in
theorem s_X6_of_e (l : Launch) (dC : Nat → ClassId) (dI : Nat → Nat → Nat) (cs : Nat → ClassId) (ty : TyM) (L : List Nat) (sz : Nat) (F : Nat → va_E) (h0 : Nat) (ρ : Nat) (pm : Nat) (pb : Nat) (pv : Nat) (pu : Nat) (g1 : Nat) (σ : Nat) (r1 : Nat) (n1 : Nat) (g2 : Nat) (τ : Nat) (r2 : Nat) (n2 : Nat) (g3 : Nat) (υ : Nat) (r3 : Nat) (n3 : Nat) (f : Nat → Int32) (b : Nat → Nat) (fm : Nat → Int32) (bm : Nat → Nat) (hW : WT ty L) (hL_h0 : h0 ∈ L) (hT_h0 : ty h0 = (6, ρ, [pm, pb, pv, pu])) (hL_g1 : g1 ∈ L) (hT_g1 : ty g1 = (0, σ, [r1, n1])) (hL_g2 : g2 ∈ L) (hT_g2 : ty g2 = (0, τ, [r2, n2])) (hL_g3 : g3 ∈ L) (hT_g3 : ty g3 = (0, υ, [r3, n3])) (hFg : F g1 = .inr (0, [.ref r1, .int (nI 64), .int 0])) (hFr : F r1 = .inl (cs 16, n1, .inl f)) (hzn : 64 ≤ n1) (hn9 : n1 ≤ 10000) (hBq : BYT b 64 f) (hFg2 : F g2 = .inr (0, [.ref r2, .int (nI 64), .int 0])) (hFr2 : F r2 = .inl (cs 16, n2, .inl fm)) (hzn2 : 64 ≤ n2) (hm9 : n2 ≤ 10000) (hB2 : BYT bm 64 fm) (hlo : bm 63 % 2 = 1) (hto : 128 ≤ bm 0) (h3n : 64 ≤ n3) (h39 : n3 ≤ 10000) (hrs0 : σ ≠ ρ) (hrs85 : σ ≠ ρ + 85) (hrs86 : σ ≠ ρ + 86) (hrs87 : σ ≠ ρ + 87) (hrs88 : σ ≠ ρ + 88) (hrt0 : τ ≠ ρ) (hrt85 : τ ≠ ρ + 85) (hrt86 : τ ≠ ρ + 86) (hrt87 : τ ≠ ρ + 87) (hrt88 : τ ≠ ρ + 88) (hru0 : υ ≠ ρ) (hru85 : υ ≠ ρ + 85) (hru86 : υ ≠ ρ + 86) (hru87 : υ ≠ ρ + 87) (hru88 : υ ≠ ρ + 88) : Met l yX6_of (.code yX6_of cX6_of 5 none :: tb) ({ frames := 3, cells := 0, slots := 0, locals := 98 }) (va_Pc [.ref h0, .ref g1, .ref g2, .ref g3] (PT (dC, dI) cs ty L F sz)) (va_Qv (fun _ : Unit => True) (fun _ T9 => ∃ F2 : Nat → va_E, ∃ f3 : Nat → Int32, ∃ c3 : Nat → Nat, QT (dC, dI) cs ty L [ρ, ρ + 85, ρ + 86, ρ + 87, ρ + 88, υ] F F2 (va_A (va_pl L F) sz) T9 ∧ F2 g3 = .inr (0, [.ref r3, .int (nI 64), .int 0]) ∧ F2 r3 = .inl (cs 16, n3, .inl f3) ∧ BYT c3 64 f3 ∧ be c3 64 = pwm (be b 64) (be bm 64)) (va_A (va_pl L F) sz)) 0 0 (va_A (va_pl L F) sz) := by
  refine Met.ofW (cc := cX6_of) (maxL := 5) (ret := none) (by decide) rfl ?_
  intro p e s m args below meth c s₁ B hml hv
  obtain ⟨rfl, hsz, hP, hK, hD0, hE, hO⟩ := hv
  have hx := B.exec
  have hb := B.bytes
  have hr := B.returns
  have hts : ∀ w ∈ tb, w.before _ s = true := fun w h => atoms_spec (ws := .code yX6_of cX6_of 5 none :: tb) B.pre w (List.mem_cons_of_mem _ h)
  have hown : s.vm.findClass RX6 = some m.cls := findClass_of_methodNamed B.named
  have hlocks := B.notSynchronized
  subst hsz
  have hD := hD0.self (sz := s.heap.size)
  generalize hAe : va_A (va_pl L F) s.heap.size = A at hD ⊢
  have hA : ∀ q : Nat, s.heap.size ≤ q → A q := fun q h => by rw [← hAe]; exact Or.inr h
  have hS : va_S A s.heap s.heap [] := va_S.rf
  have hR : FR ty [ρ, ρ + 85, ρ + 86, ρ + 87, ρ + 88, υ] F F := FR.refl
  have hl := lv_entry ([.ref h0, .ref g1, .ref g2, .ref g3]) (n := 5) (Nat.le_of_ble_eq_true rfl)
  rw [lg_entry_eq]
  generalize (lg_sl ([.ref h0, .ref g1, .ref g2, .ref g3]) ++ List.replicate (5 - (lg_sl ([.ref h0, .ref g1, .ref g2, .ref g3])).length) Slot.unset).toArray = ls at hl ⊢
  have hl : lv_has ls 5 [(0, .ref h0), (1, .ref g1), (2, .ref g2), (3, .ref g3)] := hl
  obtain ⟨hi_1, hi_2, hi_3, hi_4, ht_5, ht_6, ht_7, ht_8⟩ := hW.power hL_h0 hT_h0
  obtain ⟨v_9, hF_10⟩ := hO.power hL_h0 hT_h0
  obtain ⟨hi_11, ht_12, hq_13⟩ := hW.bytes hL_g1 hT_g1
  obtain ⟨hi_14, ht_15, hq_16⟩ := hW.bytes hL_g2 hT_g2
  obtain ⟨hi_17, ht_18, hq_19⟩ := hW.bytes hL_g3 hT_g3
  refine lv_aload_n hx hb dX6_of_0 rfl (lv_at hl 2 rfl) ?_
  refine lv_aload_n hx hb dX6_of_1 rfl (lv_at hl 0 rfl) ?_
  refine pg_get (ci := 6) (v := .ref pm) (C := RX6) (T := TX6) (N := 5) hx hb hts it_6 hown hK hP hL_h0 hF_10 rfl 0 (by decide) (hts _ kt_273) (fun _ h9 => h9) rfl dX6_of_2 ?_
  have hFc := pg_free hD hS hA
  refine va_callv (va_runS (As := [.ref g2, .ref pm]) (rest := []) ⟨hx, hb, hml, hown, hts⟩ (s_X6_load_e l dC dI cs ty L s.heap.size F g2 τ r2 n2 pm (ρ + 85) fm bm hW hL_g2 hT_g2 hi_1 ht_5 hFg2 hFr2 (by omega) (by omega) (hB2) (by omega)) ⟨callB_of 2 hts (gi kt_284) rfl rfl rfl (hts _ kt_275) (hts _ kt_285) (by decide +kernel) ⟨Nat.le_of_ble_eq_true rfl, Nat.le_of_ble_eq_true rfl⟩, (hts _ kt_286)⟩ ⟨fun a U g mk q => ⟨q.1, PT.calling q.2⟩, fun U hU hWm => ⟨rfl, PT.mk hU hWm hP hK hD hE hO⟩⟩ rfl rfl hl.1 rfl (lv_room (Nat.le_of_ble_eq_true rfl)) dX6_of_5 ⟨by show _ + 0 ≤ 0; omega, by show _ + 0 ≤ 0; omega⟩) hS (fun q _ h => hFc q h) hFc (fun u t H1 locs ht hvm hw hB hz1 hk1 hS => ?_)
  obtain ⟨F_21, q2_22, hB1, hq_23, hq_24, hq_25⟩ := hB
  obtain ⟨hP, hD, hO, hR⟩ := QT.back hB1 ht hFc hR (fun q h => by simp only [List.mem_cons, List.not_mem_nil, or_false] at h ⊢; omega)
  have hF_26 : F_21 g1 = .inr (0, [.ref r1, .int (nI 64), .int 0]) := (hB1.2.2.2 g1 (by rw [hT_g1]; simp only [List.mem_cons, List.not_mem_nil, or_false]; omega)).trans hFg
  have hF_27 : F_21 r1 = .inl (cs 16, n1, .inl f) := (hB1.2.2.2 r1 (by rw [ht_12]; simp only [List.mem_cons, List.not_mem_nil, or_false]; omega)).trans hFr
  have hF_28 : F_21 g2 = .inr (0, [.ref r2, .int (nI 64), .int 0]) := (hB1.2.2.2 g2 (by rw [hT_g2]; simp only [List.mem_cons, List.not_mem_nil, or_false]; omega)).trans hFg2
  have hF_29 : F_21 r2 = .inl (cs 16, n2, .inl fm) := (hB1.2.2.2 r2 (by rw [ht_15]; simp only [List.mem_cons, List.not_mem_nil, or_false]; omega)).trans hFr2
  have hF_30 : F_21 h0 = .inr (6, [.ref pm, .ref pb, .ref pv, .ref pu, .long v_9]) := (hB1.2.2.2 h0 (by rw [hT_h0]; simp)).trans hF_10
  generalize H1 = H at hP hS ⊢
  have hm1 := hq_24
  have hm2 := hq_25
  refine lv_aload_n hx hb dX6_of_8 rfl (lv_at hl 1 rfl) ?_
  refine lv_aload_n hx hb dX6_of_9 rfl (lv_at hl 0 rfl) ?_
  refine pg_get (ci := 6) (v := .ref pb) (C := RX6) (T := TX6) (N := 5) hx hb hts it_6 hown hK hP hL_h0 hF_30 rfl 1 (by decide) (hts _ kt_287) (fun _ h9 => h9) rfl dX6_of_10 ?_
  have hFc := pg_free hD hS hA
  refine va_callv (va_runS (As := [.ref g1, .ref pb]) (rest := []) ⟨hx, hb, hml, hown, hts⟩ (s_X6_load_e l dC dI cs ty L H.size F_21 g1 σ r1 n1 pb (ρ + 86) f b hW hL_g1 hT_g1 hi_2 ht_6 hF_26 hF_27 (by omega) (by omega) (hBq) (by omega)) ⟨callB_of 2 hts (gi kt_284) rfl rfl rfl (hts _ kt_275) (hts _ kt_285) (by decide +kernel) ⟨Nat.le_of_ble_eq_true rfl, Nat.le_of_ble_eq_true rfl⟩, (hts _ kt_286)⟩ ⟨fun a U g mk q => ⟨q.1, PT.calling q.2⟩, fun U hU hWm => ⟨rfl, PT.mk hU hWm hP hK hD hE hO⟩⟩ rfl rfl hl.1 rfl (lv_room (Nat.le_of_ble_eq_true rfl)) dX6_of_13 ⟨by show _ + 0 ≤ 0; omega, by show _ + 0 ≤ 0; omega⟩) hS (fun q _ h => hFc q h) hFc (fun u t H1 locs ht hvm hw hB hz1 hk1 hS => ?_)
  obtain ⟨F_32, q2_33, hB1, hq_34, hq_35, hq_36⟩ := hB
  obtain ⟨hP, hD, hO, hR⟩ := QT.back hB1 ht hFc hR (fun q h => by simp only [List.mem_cons, List.not_mem_nil, or_false] at h ⊢; omega)
  have hF_37 : F_32 g1 = .inr (0, [.ref r1, .int (nI 64), .int 0]) := (hB1.2.2.2 g1 (by rw [hT_g1]; simp only [List.mem_cons, List.not_mem_nil, or_false]; omega)).trans hF_26
  have hF_38 : F_32 r1 = .inl (cs 16, n1, .inl f) := (hB1.2.2.2 r1 (by rw [ht_12]; simp only [List.mem_cons, List.not_mem_nil, or_false]; omega)).trans hF_27
  have hF_39 : F_32 g2 = .inr (0, [.ref r2, .int (nI 64), .int 0]) := (hB1.2.2.2 g2 (by rw [hT_g2]; simp only [List.mem_cons, List.not_mem_nil, or_false]; omega)).trans hF_28
  have hF_40 : F_32 r2 = .inl (cs 16, n2, .inl fm) := (hB1.2.2.2 r2 (by rw [ht_15]; simp only [List.mem_cons, List.not_mem_nil, or_false]; omega)).trans hF_29
  have hF_41 : F_32 h0 = .inr (6, [.ref pm, .ref pb, .ref pv, .ref pu, .long v_9]) := (hB1.2.2.2 h0 (by rw [hT_h0]; simp)).trans hF_30
  have hF_42 : F_32 pm = .inl (cs 19, 16, .inr (.inl q2_22)) := (hB1.2.2.2 pm (by rw [ht_5]; simp)).trans hq_23
  generalize H1 = H at hP hS ⊢
  have hb1_ := hq_35
  have hb2_ := hq_36
  have hod := od_of hlo
  have hbr := br_of hto hod
  refine lv_aload_n hx hb dX6_of_16 rfl (lv_at hl 0 rfl) ?_
  refine lv_aload_n hx hb dX6_of_17 rfl (lv_at hl 0 rfl) ?_
  refine pg_get (ci := 6) (v := .ref pm) (C := RX6) (T := TX6) (N := 5) hx hb hts it_6 hown hK hP hL_h0 hF_41 rfl 0 (by decide) (hts _ kt_273) (fun _ h9 => h9) rfl dX6_of_18 ?_
  refine lv_iconst (v := 0) hx hb dX6_of_21 (by decide) ?_
  refine pg_lald hx hb hK hP hi_1 3 hF_42 rfl (show vp_in (0 : Int32) 16 from (show vp_in (nI 0) 16 from vp_in_nI (by omega) (by omega))) dX6_of_22 ?_
  refine lv_topl (fun x_43 ex_43 => ?_)
  obtain rfl : x_43 = (q2_22 0) := ex_43.trans (congrArg q2_22 (show (0 : Int32).toNatClampNeg = 0 by decide))
  refine lv_l2i (v := (q2_22 0).toInt32) hx hb dX6_of_23 rfl ?_
  have hFc := pg_free hD hS hA
  refine va_calll (va_runS (As := [.int ((q2_22 0).toInt32)]) (rest := [.ref h0]) ⟨hx, hb, hml, hown, hts⟩ (s_X6_factorOf_e l dC dI cs ty L H.size F_32 ((q2_22 0).toInt32) hW ) ⟨callB_of 1 hts (gi kt_288) rfl rfl rfl (hts _ kt_275) (hts _ kt_289) (by decide +kernel) ⟨Nat.le_of_ble_eq_true rfl, Nat.le_of_ble_eq_true rfl⟩, (hts _ kt_290)⟩ ⟨fun a U g mk q => ⟨q.1, PT.calling q.2⟩, fun U hU hWm => ⟨rfl, PT.mk hU hWm hP hK hD hE hO⟩⟩ rfl rfl hl.1 rfl (lv_room (Nat.le_of_ble_eq_true rfl)) dX6_of_24 ⟨by show _ + 0 ≤ 0; omega, by show _ + 0 ≤ 0; omega⟩) hS (fun q _ h => hFc q h) hFc (fun r_44 u t H1 locs ht hvm hw hB hz1 hk1 hS => ?_)
  obtain ⟨F_45, hB1⟩ := hB
  obtain rfl : F_32 = F_45 := (funext (fun a => hB1.2.2.2 a List.not_mem_nil)).symm
  obtain ⟨hP, hD, hO, hR⟩ := QT.back hB1 ht hFc hR (fun q h => absurd h List.not_mem_nil)
  generalize H1 = H at hP hS ⊢
  have hw : uN r_44 = u32 (-(fiv (q2_22 0).toInt32 5)) := hw
  have hw_46 := hw
  obtain ⟨hvf, hv6⟩ := fc_of hm1 hm2 hod hw_46
  refine pg_put (ci := 6) (v := .long r_44) (ty := .long) (C := RX6) (T := TX6) (N := 5) hx hb hts it_6 tyX6 tyX6_ok nmX6 hown hK hP hD hS hL_h0 hF_41 rfl 4 (by decide) (hts _ kt_283) (fun _ h9 => h9) rfl (by decide +kernel) (rfl) (rfl) (Nat.le_of_ble_eq_true rfl) dX6_of_27 (fun H locs hP hD hS => ?_)
  obtain ⟨F_47, he_48, hP, hD, hO, hR⟩ : ∃ G, G = va_up F_32 h0 (.inr (6, [.ref pm, .ref pb, .ref pv, .ref pu, .long r_44])) ∧ va_P (dC, dI) vwCl (va_pl L G) H ∧ va_D A (va_pl L G) ∧ OK cs ty L G ∧ FR ty [ρ, ρ + 85, ρ + 86, ρ + 87, ρ + 88, υ] F G := ⟨_, rfl, hP, hD, hO.up (sh.power hT_h0 ⟨r_44, rfl⟩), hR.up hT_h0 (by simp)⟩
  have hF_49 : F_47 h0 = .inr (6, [.ref pm, .ref pb, .ref pv, .ref pu, .long r_44]) := by rw [he_48]; exact up_self
  have hF_50 : F_47 g1 = .inr (0, [.ref r1, .int (nI 64), .int 0]) := by rw [he_48, up_ne (ne_ty hT_g1 hT_h0 (by simp))]; exact hF_37
  have hF_51 : F_47 r1 = .inl (cs 16, n1, .inl f) := by rw [he_48, up_ne (ne_ty ht_12 hT_h0 (by simp))]; exact hF_38
  have hF_52 : F_47 g2 = .inr (0, [.ref r2, .int (nI 64), .int 0]) := by rw [he_48, up_ne (ne_ty hT_g2 hT_h0 (by simp))]; exact hF_39
  have hF_53 : F_47 r2 = .inl (cs 16, n2, .inl fm) := by rw [he_48, up_ne (ne_ty ht_15 hT_h0 (by simp))]; exact hF_40
  have hF_54 : F_47 pm = .inl (cs 19, 16, .inr (.inl q2_22)) := by rw [he_48, up_ne (ne_ty ht_5 hT_h0 (by simp))]; exact hF_42
  have hF_55 : F_47 pb = .inl (cs 19, 16, .inr (.inl q2_33)) := by rw [he_48, up_ne (ne_ty ht_6 hT_h0 (by simp))]; exact hq_34
  refine lv_aload_n hx hb dX6_of_30 rfl (lv_at hl 0 rfl) ?_
  have hFc := pg_free hD hS hA
  refine va_callv (va_runV (As := []) (rest := []) ⟨hx, hb, hml, hown, hts⟩ (s_X6_setTwo_e l dC dI cs ty L H.size F_47 h0 ρ pm pb pv pu q2_22 r_44 (be bm 64) hW hL_h0 hT_h0 hF_49 hF_54 (hm1) (hm2) (hbr)) ⟨callB_of 0 hts (gi kt_291) rfl rfl rfl (hts _ kt_275) (hts _ kt_292) (by decide +kernel) ⟨Nat.le_of_ble_eq_true rfl, Nat.le_of_ble_eq_true rfl⟩, (hts _ kt_293), (hts _ kt_294)⟩ ⟨fun a U g mk q => ⟨q.1, PT.calling q.2⟩, pg_recv hK hP hL_h0 hF_49 (q := (RX6, TX6, 5)) rfl, fun U hU hWm => ⟨rfl, PT.mk hU hWm hP hK hD hE hO⟩⟩ rfl rfl hl.1 rfl (lv_room (Nat.le_of_ble_eq_true rfl)) dX6_of_31 ⟨by show _ + 0 ≤ 0; omega, by show _ + 0 ≤ 0; omega⟩) hS (fun q _ h => hFc q h) hFc (fun u t H1 locs ht hvm hw hB hz1 hk1 hS => ?_)
  obtain ⟨F_57, f2_58, hB1, hq_59, hq_60, hq_61⟩ := hB
  obtain ⟨hP, hD, hO, hR⟩ := QT.back hB1 ht hFc hR (fun q h => by simp only [List.mem_cons, List.not_mem_nil, or_false] at h ⊢; omega)
  have hF_62 : F_57 h0 = .inr (6, [.ref pm, .ref pb, .ref pv, .ref pu, .long r_44]) := (hB1.2.2.2 h0 (by rw [hT_h0]; simp)).trans hF_49
  have hF_63 : F_57 g1 = .inr (0, [.ref r1, .int (nI 64), .int 0]) := (hB1.2.2.2 g1 (by rw [hT_g1]; simp only [List.mem_cons, List.not_mem_nil, or_false]; omega)).trans hF_50
  have hF_64 : F_57 r1 = .inl (cs 16, n1, .inl f) := (hB1.2.2.2 r1 (by rw [ht_12]; simp only [List.mem_cons, List.not_mem_nil, or_false]; omega)).trans hF_51
  have hF_65 : F_57 g2 = .inr (0, [.ref r2, .int (nI 64), .int 0]) := (hB1.2.2.2 g2 (by rw [hT_g2]; simp only [List.mem_cons, List.not_mem_nil, or_false]; omega)).trans hF_52
  have hF_66 : F_57 r2 = .inl (cs 16, n2, .inl fm) := (hB1.2.2.2 r2 (by rw [ht_15]; simp only [List.mem_cons, List.not_mem_nil, or_false]; omega)).trans hF_53
  have hF_67 : F_57 pm = .inl (cs 19, 16, .inr (.inl q2_22)) := (hB1.2.2.2 pm (by rw [ht_5]; simp)).trans hF_54
  have hF_68 : F_57 pb = .inl (cs 19, 16, .inr (.inl q2_33)) := (hB1.2.2.2 pb (by rw [ht_6]; simp)).trans hF_55
  generalize H1 = H at hP hS ⊢
  refine lv_iconst (v := 0) hx hb dX6_of_34 (by decide) ?_
  refine lv_istore (lv' := [(4, .int 0), (0, .ref h0), (1, .ref g1), (2, .ref g2), (3, .ref g3)]) hx hb dX6_of_35 hl (by decide) rfl (fun ls hl => ?_)
  refine W.widen (k := 0) (n := 0) (by omega) (by omega) ?_
  refine pl_loop (σ := Nat × (Nat → Int64)) A (dC, dI) cs ty L [ρ, ρ + 85, ρ + 86, ρ + 87, ρ + 88, υ] F 37 5 (fun (j, fj) => [(4, .int (nI j)), (0, .ref h0), (1, .ref g1), (2, .ref g2), (3, .ref g3)]) (fun (j, fj) => []) (fun (j, fj) FF => j ≤ 9 ∧ VALq fj (be bm 64) (sqk 2 j) ∧ FF h0 = .inr (6, [.ref pm, .ref pb, .ref pv, .ref pu, .long r_44]) ∧ FF pm = .inl (cs 19, 16, .inr (.inl q2_22)) ∧ FF pb = .inl (cs 19, 16, .inr (.inl q2_33)) ∧ FF pv = .inl (cs 19, 16, .inr (.inl fj))) (fun (j, fj) => 9 - j) ?_ (0, f2_58) F_57 (⟨by omega, val_0 hq_60 hq_61 (by omega), hF_62, hF_67, hF_68, hq_59⟩) hO hR _ _ hP hD hS ls (lv_sub hl [0, 1, 2, 3, 4] rfl)
  rintro ⟨j, fj⟩ F_69 hv_70 hO hR ih_71 H locs hP hD hS ls hl
  have hl : lv_has ls 5 [(4, .int (nI j)), (0, .ref h0), (1, .ref g1), (2, .ref g2), (3, .ref g3)] := hl
  have hv_70 : j ≤ 9 ∧ VALq fj (be bm 64) (sqk 2 j) ∧ F_69 h0 = .inr (6, [.ref pm, .ref pb, .ref pv, .ref pu, .long r_44]) ∧ F_69 pm = .inl (cs 19, 16, .inr (.inl q2_22)) ∧ F_69 pb = .inl (cs 19, 16, .inr (.inl q2_33)) ∧ F_69 pv = .inl (cs 19, 16, .inr (.inl fj)) := hv_70
  refine W.eq (g2 := F0 m 37 ls []) rfl ?_
  obtain ⟨hj0, hj1, hj2, hj3, hj4, hj5⟩ := id hv_70
  refine lv_iload hx hb dX6_of_37 (lv_at hl 0 rfl) ?_
  refine lv_bipush (v := 9) hx hb dX6_of_39 (by decide) ?_
  refine lv_icmp_ge (tgt := 62) hx hb dX6_of_41 (by decide) (fun c_72 => ?_) (fun c_72 => ?_)
  ·
    have hi_73 : 9 ≤ j := leN (N := 9) c_72
    have hcj : 9 ≤ j := (nI_leI (by omega) (by omega)).mp c_72
    refine lv_aload_n hx hb dX6_of_62 rfl (lv_at hl 1 rfl) ?_
    refine lv_aload_n hx hb dX6_of_63 rfl (lv_at hl 1 rfl) ?_
    refine pg_get (ci := 6) (v := .ref pv) (C := RX6) (T := TX6) (N := 5) hx hb hts it_6 hown hK hP hL_h0 hj2 rfl 2 (by decide) (hts _ kt_271) (fun _ h9 => h9) rfl dX6_of_64 ?_
    refine lv_aload_n hx hb dX6_of_67 rfl (lv_at hl 1 rfl) ?_
    refine pg_get (ci := 6) (v := .ref pb) (C := RX6) (T := TX6) (N := 5) hx hb hts it_6 hown hK hP hL_h0 hj2 rfl 1 (by decide) (hts _ kt_287) (fun _ h9 => h9) rfl dX6_of_68 ?_
    have hFc := pg_free hD hS hA
    refine va_callv (va_runV (As := [.ref pv, .ref pb]) (rest := []) ⟨hx, hb, hml, hown, hts⟩ (s_X6_multiply_e l dC dI cs ty L H.size F_69 h0 ρ pm pb pv pu pv (ρ + 87) pb (ρ + 86) fj q2_33 q2_22 r_44 (be bm 64) hW hL_h0 hT_h0 hi_3 ht_7 hi_2 ht_6 hj2 hj5 hj4 hj3 (hj1.1) (hb1_) (hm1) (hm2) (hj1.2.1) (hv6) (hvf) (by omega) (by omega)) ⟨callB_of 2 hts (gi kt_295) rfl rfl rfl (hts _ kt_275) (hts _ kt_296) (by decide +kernel) ⟨Nat.le_of_ble_eq_true rfl, Nat.le_of_ble_eq_true rfl⟩, (hts _ kt_297), (hts _ kt_298)⟩ ⟨fun a U g mk q => ⟨q.1, PT.calling q.2⟩, pg_recv hK hP hL_h0 hj2 (q := (RX6, TX6, 5)) rfl, fun U hU hWm => ⟨rfl, PT.mk hU hWm hP hK hD hE hO⟩⟩ rfl rfl hl.1 rfl (lv_room (Nat.le_of_ble_eq_true rfl)) dX6_of_71 ⟨by show _ + 0 ≤ 0; omega, by show _ + 0 ≤ 0; omega⟩) hS (fun q _ h => hFc q h) hFc (fun u t H1 locs ht hvm hw hB hz1 hk1 hS => ?_)
    obtain ⟨F_75, f2_76, hB1, hq_77, hq_78, hq_79, hq_80⟩ := hB
    obtain ⟨hP, hD, hO, hR⟩ := QT.back hB1 ht hFc hR (fun q h => by simp only [List.mem_cons, List.not_mem_nil, or_false] at h ⊢; omega)
    have hF_81 : F_75 h0 = .inr (6, [.ref pm, .ref pb, .ref pv, .ref pu, .long r_44]) := (hB1.2.2.2 h0 (by rw [hT_h0]; simp)).trans hj2
    have hF_82 : F_75 pm = .inl (cs 19, 16, .inr (.inl q2_22)) := (hB1.2.2.2 pm (by rw [ht_5]; simp)).trans hj3
    have hF_83 : F_75 pb = .inl (cs 19, 16, .inr (.inl q2_33)) := (hB1.2.2.2 pb (by rw [ht_6]; simp)).trans hj4
    generalize H1 = H at hP hS ⊢
    refine lv_iconst (v := 0) hx hb dX6_of_74 (by decide) ?_
    refine lv_istore (lv' := [(4, .int 0), (0, .ref h0), (1, .ref g1), (2, .ref g2), (3, .ref g3)]) hx hb dX6_of_75 hl (by decide) rfl (fun ls hl => ?_)
    refine W.widen (k := 0) (n := 0) (by omega) (by omega) ?_
    refine pl_loop (σ := Nat × (Nat → Int64)) A (dC, dI) cs ty L [ρ, ρ + 85, ρ + 86, ρ + 87, ρ + 88, υ] F 77 5 (fun (k7, fk7) => [(4, .int (nI k7)), (0, .ref h0), (1, .ref g1), (2, .ref g2), (3, .ref g3)]) (fun (k7, fk7) => []) (fun (k7, fk7) FF => k7 ≤ 16 ∧ VALq fk7 (be bm 64) (sqk (lQN q2_33 16) k7) ∧ FF h0 = .inr (6, [.ref pm, .ref pb, .ref pv, .ref pu, .long r_44]) ∧ FF pm = .inl (cs 19, 16, .inr (.inl q2_22)) ∧ FF pb = .inl (cs 19, 16, .inr (.inl q2_33)) ∧ FF pv = .inl (cs 19, 16, .inr (.inl fk7))) (fun (k7, fk7) => 16 - k7) ?_ (0, f2_76) F_75 (⟨by omega, val_b hod (by rw [show j = 9 by omega] at hj1; exact hj1) hq_78 hq_79 hq_80, hF_81, hF_82, hF_83, hq_77⟩) hO hR _ _ hP hD hS ls (lv_sub hl [0, 1, 2, 3, 4] rfl)
    rintro ⟨k7, fk7⟩ F_84 hv_85 hO hR ih_86 H locs hP hD hS ls hl
    have hl : lv_has ls 5 [(4, .int (nI k7)), (0, .ref h0), (1, .ref g1), (2, .ref g2), (3, .ref g3)] := hl
    have hv_85 : k7 ≤ 16 ∧ VALq fk7 (be bm 64) (sqk (lQN q2_33 16) k7) ∧ F_84 h0 = .inr (6, [.ref pm, .ref pb, .ref pv, .ref pu, .long r_44]) ∧ F_84 pm = .inl (cs 19, 16, .inr (.inl q2_22)) ∧ F_84 pb = .inl (cs 19, 16, .inr (.inl q2_33)) ∧ F_84 pv = .inl (cs 19, 16, .inr (.inl fk7)) := hv_85
    refine W.eq (g2 := F0 m 77 ls []) rfl ?_
    obtain ⟨hk70, hk71, hk72, hk73, hk74, hk75⟩ := id hv_85
    refine lv_iload hx hb dX6_of_77 (lv_at hl 0 rfl) ?_
    refine lv_bipush (v := 16) hx hb dX6_of_79 (by decide) ?_
    refine lv_icmp_ge (tgt := 102) hx hb dX6_of_81 (by decide) (fun c_87 => ?_) (fun c_87 => ?_)
    ·
      have hi_88 : 16 ≤ k7 := leN (N := 16) c_87
      have hck7 : 16 ≤ k7 := (nI_leI (by omega) (by omega)).mp c_87
      refine lv_aload_n hx hb dX6_of_102 rfl (lv_at hl 1 rfl) ?_
      refine lv_aload_n hx hb dX6_of_103 rfl (lv_at hl 1 rfl) ?_
      refine pg_get (ci := 6) (v := .ref pv) (C := RX6) (T := TX6) (N := 5) hx hb hts it_6 hown hK hP hL_h0 hk72 rfl 2 (by decide) (hts _ kt_271) (fun _ h9 => h9) rfl dX6_of_104 ?_
      refine lv_aload_n hx hb dX6_of_107 rfl (lv_at hl 1 rfl) ?_
      refine pg_get (ci := 6) (v := .ref pb) (C := RX6) (T := TX6) (N := 5) hx hb hts it_6 hown hK hP hL_h0 hk72 rfl 1 (by decide) (hts _ kt_287) (fun _ h9 => h9) rfl dX6_of_108 ?_
      have hFc := pg_free hD hS hA
      refine va_callv (va_runV (As := [.ref pv, .ref pb]) (rest := []) ⟨hx, hb, hml, hown, hts⟩ (s_X6_multiply_e l dC dI cs ty L H.size F_84 h0 ρ pm pb pv pu pv (ρ + 87) pb (ρ + 86) fk7 q2_33 q2_22 r_44 (be bm 64) hW hL_h0 hT_h0 hi_3 ht_7 hi_2 ht_6 hk72 hk75 hk74 hk73 (hk71.1) (hb1_) (hm1) (hm2) (hk71.2.1) (hv6) (hvf) (by omega) (by omega)) ⟨callB_of 2 hts (gi kt_295) rfl rfl rfl (hts _ kt_275) (hts _ kt_296) (by decide +kernel) ⟨Nat.le_of_ble_eq_true rfl, Nat.le_of_ble_eq_true rfl⟩, (hts _ kt_297), (hts _ kt_298)⟩ ⟨fun a U g mk q => ⟨q.1, PT.calling q.2⟩, pg_recv hK hP hL_h0 hk72 (q := (RX6, TX6, 5)) rfl, fun U hU hWm => ⟨rfl, PT.mk hU hWm hP hK hD hE hO⟩⟩ rfl rfl hl.1 rfl (lv_room (Nat.le_of_ble_eq_true rfl)) dX6_of_111 ⟨by show _ + 0 ≤ 0; omega, by show _ + 0 ≤ 0; omega⟩) hS (fun q _ h => hFc q h) hFc (fun u t H1 locs ht hvm hw hB hz1 hk1 hS => ?_)
      obtain ⟨F_90, f2_91, hB1, hq_92, hq_93, hq_94, hq_95⟩ := hB
      obtain ⟨hP, hD, hO, hR⟩ := QT.back hB1 ht hFc hR (fun q h => by simp only [List.mem_cons, List.not_mem_nil, or_false] at h ⊢; omega)
      have hF_96 : F_90 h0 = .inr (6, [.ref pm, .ref pb, .ref pv, .ref pu, .long r_44]) := (hB1.2.2.2 h0 (by rw [hT_h0]; simp)).trans hk72
      have hF_97 : F_90 pm = .inl (cs 19, 16, .inr (.inl q2_22)) := (hB1.2.2.2 pm (by rw [ht_5]; simp)).trans hk73
      have hF_98 : F_90 pb = .inl (cs 19, 16, .inr (.inl q2_33)) := (hB1.2.2.2 pb (by rw [ht_6]; simp)).trans hk74
      generalize H1 = H at hP hS ⊢
      have hpw := val_e hod (by rw [show k7 = 16 by omega] at hk71; exact hk71) hq_94 hq_95
      rw [hb2_] at hpw
      have hLv := hq_93
      refine lv_aload_n hx hb dX6_of_114 rfl (lv_at hl 4 rfl) ?_
      have hFc := pg_free hD hS hA
      obtain ⟨z_99, o_100, hF_101, hq_102, hq_103⟩ := hO.bytes hL_g3 hT_g3
      refine va_callv (va_runV (As := []) (rest := []) ⟨hx, hb, hml, hown, hts⟩ (s_X0_clear l dC dI cs ty L H.size F_90 g3 υ r3 n3 hW hL_g3 hT_g3) ⟨callB_of 0 hts (gi kt_32) rfl rfl rfl (hts _ kt_1) (hts _ kt_299) (by decide +kernel) ⟨Nat.le_of_ble_eq_true rfl, Nat.le_of_ble_eq_true rfl⟩, (hts _ kt_34), (hts _ kt_35)⟩ ⟨fun a U g mk q => ⟨q.1, PT.calling q.2⟩, pg_recv hK hP hL_g3 hF_101 (q := (RX0, TX0, 3)) rfl, fun U hU hWm => ⟨rfl, PT.mk hU hWm hP hK hD hE hO⟩⟩ rfl rfl hl.1 rfl (lv_room (Nat.le_of_ble_eq_true rfl)) dX6_of_115 ⟨by show _ + 0 ≤ 0; omega, by show _ + 0 ≤ 0; omega⟩) hS (fun q _ h => hFc q h) hFc (fun u t H1 locs ht hvm hw hB hz1 hk1 hS => ?_)
      obtain ⟨F_105, hB1, hq_106⟩ := hB
      obtain ⟨hP, hD, hO, hR⟩ := QT.back hB1 ht hFc hR (fun q h => by simp only [List.mem_cons, List.not_mem_nil, or_false] at h ⊢; omega)
      have hF_107 : F_105 h0 = .inr (6, [.ref pm, .ref pb, .ref pv, .ref pu, .long r_44]) := (hB1.2.2.2 h0 (by rw [hT_h0]; simp only [List.mem_cons, List.not_mem_nil, or_false]; omega)).trans hF_96
      have hF_108 : F_105 pm = .inl (cs 19, 16, .inr (.inl q2_22)) := (hB1.2.2.2 pm (by rw [ht_5]; simp only [List.mem_cons, List.not_mem_nil, or_false]; omega)).trans hF_97
      have hF_109 : F_105 pb = .inl (cs 19, 16, .inr (.inl q2_33)) := (hB1.2.2.2 pb (by rw [ht_6]; simp only [List.mem_cons, List.not_mem_nil, or_false]; omega)).trans hF_98
      have hF_110 : F_105 pv = .inl (cs 19, 16, .inr (.inl f2_91)) := (hB1.2.2.2 pv (by rw [ht_7]; simp only [List.mem_cons, List.not_mem_nil, or_false]; omega)).trans hq_92
      generalize H1 = H at hP hS ⊢
      refine lv_bipush (v := 15) hx hb dX6_of_118 (by decide) ?_
      refine lv_istore (lv' := [(4, .int 15), (0, .ref h0), (1, .ref g1), (2, .ref g2), (3, .ref g3)]) hx hb dX6_of_120 hl (by decide) rfl (fun ls hl => ?_)
      obtain ⟨f_111, hF_112⟩ := hO.ints hi_17 ht_18
      refine W.widen (k := 0) (n := 0) (by omega) (by omega) ?_
      refine pl_loop (σ := Int32 × Nat) A (dC, dI) cs ty L [ρ, ρ + 85, ρ + 86, ρ + 87, ρ + 88, υ] F 122 5 (fun (i1, tt) => [(4, .int i1), (0, .ref h0), (1, .ref g1), (2, .ref g2), (3, .ref g3)]) (fun (i1, tt) => []) (fun (i1, tt) FF => tt ≤ 16 ∧ i1 = dnk (16 - tt) ∧ FF h0 = .inr (6, [.ref pm, .ref pb, .ref pv, .ref pu, .long r_44]) ∧ FF pv = .inl (cs 19, 16, .inr (.inl f2_91)) ∧ FF g3 = .inr (0, [.ref r3, .int (nI (4 * tt)), .int 0]) ∧ ∃ fo : Nat → Int32, FF r3 = .inl (cs 16, n3, .inl fo) ∧ ∀ j, j < 4 * tt → fo j = dgb (vS f2_91) j) (fun (i1, tt) => 16 - tt) ?_ (15, 0) F_105 (⟨by omega, by decide, hF_107, hF_110, hq_106, _, hF_112, fun j hj => absurd hj (by omega)⟩) hO hR _ _ hP hD hS ls (lv_sub hl [0, 1, 2, 3, 4] rfl)
      rintro ⟨i1, tt⟩ F_113 hv_114 hO hR ih_115 H locs hP hD hS ls hl
      have hl : lv_has ls 5 [(4, .int i1), (0, .ref h0), (1, .ref g1), (2, .ref g2), (3, .ref g3)] := hl
      have hv_114 : tt ≤ 16 ∧ i1 = dnk (16 - tt) ∧ F_113 h0 = .inr (6, [.ref pm, .ref pb, .ref pv, .ref pu, .long r_44]) ∧ F_113 pv = .inl (cs 19, 16, .inr (.inl f2_91)) ∧ F_113 g3 = .inr (0, [.ref r3, .int (nI (4 * tt)), .int 0]) ∧ ∃ fo : Nat → Int32, F_113 r3 = .inl (cs 16, n3, .inl fo) ∧ ∀ j, j < 4 * tt → fo j = dgb (vS f2_91) j := hv_114
      refine W.eq (g2 := F0 m 122 ls []) rfl ?_
      obtain ⟨ht1, ht2, ht3, ht4, ht5, fo, ht6, ht7⟩ := id hv_114
      refine lv_iload hx hb dX6_of_122 (lv_at hl 0 rfl) ?_
      refine lv_if_lt (tgt := 145) hx hb dX6_of_124 (by decide) (fun c_116 => ?_) (fun c_116 => ?_)
      ·
        have htt : tt = 16 := by rw [ht2] at c_116; have h9 := dnk_neg (by omega) c_116; omega
        refine W.widen (k := 0) (n := 0) (by omega) (by omega) ?_
        exact W.vret hx hb hr (fun t ht hWm => ⟨⟨(), rfl, trivial, ⟨F_113, fo, (dgN (vS f2_91)), QT.mk ht hP hD hO hR, (by rw [ht5, show 4 * tt = 64 by omega]), ht6, (fun j hj => ⟨dgN_lt _ _, by rw [ht7 j (by omega)]; exact dgb_N _ _⟩), ((vS_be hLv).trans hpw)⟩⟩, hS.F ht⟩) hS.2.2 dX6_of_145
      ·
        have htt : tt < 16 := by rw [ht2] at c_116; have h9 := dnk_pos c_116; omega
        have hie : i1 = nI (15 - tt) := by rw [ht2, dnk_s (by omega), show 16 - tt - 1 = 15 - tt by omega]
        clear ht2
        subst hie
        refine lv_aload_n hx hb dX6_of_127 rfl (lv_at hl 4 rfl) ?_
        refine lv_aload_n hx hb dX6_of_128 rfl (lv_at hl 1 rfl) ?_
        refine pg_get (ci := 6) (v := .ref pv) (C := RX6) (T := TX6) (N := 5) hx hb hts it_6 hown hK hP hL_h0 ht3 rfl 2 (by decide) (hts _ kt_271) (fun _ h9 => h9) rfl dX6_of_129 ?_
        refine lv_iload hx hb dX6_of_132 (lv_at hl 0 rfl) ?_
        refine pg_lald hx hb hK hP hi_3 3 ht4 rfl (vp_in_nI (by omega) (by omega)) dX6_of_134 ?_
        refine lv_topl (fun x_117 ex_117 => ?_)
        obtain rfl : x_117 = (f2_91 (15 - tt)) := ex_117.trans (congrArg f2_91 (nI_clamp (by omega)))
        refine lv_l2i (v := (f2_91 (15 - tt)).toInt32) hx hb dX6_of_135 rfl ?_
        have hS9 : (f2_91 (15 - tt)).toInt32 = vS f2_91 tt := rfl
        have hFc := pg_free hD hS hA
        refine va_callv (va_runV (As := [.int ((f2_91 (15 - tt)).toInt32)]) (rest := []) ⟨hx, hb, hml, hown, hts⟩ (s_X0_addFour_e l dC dI cs ty L H.size F_113 g3 υ r3 n3 (4 * tt) fo ((f2_91 (15 - tt)).toInt32) hW hL_g3 hT_g3 ht5 ht6 (by omega) (h39)) ⟨callB_of 1 hts (gi kt_257) rfl rfl rfl (hts _ kt_1) (hts _ kt_300) (by decide +kernel) ⟨Nat.le_of_ble_eq_true rfl, Nat.le_of_ble_eq_true rfl⟩, (hts _ kt_259), (hts _ kt_260)⟩ ⟨fun a U g mk q => ⟨q.1, PT.calling q.2⟩, pg_recv hK hP hL_g3 ht5 (q := (RX0, TX0, 3)) rfl, fun U hU hWm => ⟨rfl, PT.mk hU hWm hP hK hD hE hO⟩⟩ rfl rfl hl.1 rfl (lv_room (Nat.le_of_ble_eq_true rfl)) dX6_of_136 ⟨by show _ + 0 ≤ 0; omega, by show _ + 0 ≤ 0; omega⟩) hS (fun q _ h => hFc q h) hFc (fun u t H1 locs ht hvm hw hB hz1 hk1 hS => ?_)
        obtain ⟨F_119, hB1, hq_120, hq_121⟩ := hB
        obtain ⟨hP, hD, hO, hR⟩ := QT.back hB1 ht hFc hR (fun q h => by simp only [List.mem_cons, List.not_mem_nil, or_false] at h ⊢; omega)
        have hF_122 : F_119 h0 = .inr (6, [.ref pm, .ref pb, .ref pv, .ref pu, .long r_44]) := (hB1.2.2.2 h0 (by rw [hT_h0]; simp only [List.mem_cons, List.not_mem_nil, or_false]; omega)).trans ht3
        have hF_123 : F_119 pv = .inl (cs 19, 16, .inr (.inl f2_91)) := (hB1.2.2.2 pv (by rw [ht_7]; simp only [List.mem_cons, List.not_mem_nil, or_false]; omega)).trans ht4
        generalize H1 = H at hP hS ⊢
        refine lv_iinc (v := (dnk (16 - (tt + 1)))) (lv' := [(4, .int (dnk (16 - (tt + 1)))), (0, .ref h0), (1, .ref g1), (2, .ref g2), (3, .ref g3)]) hx hb dX6_of_139 hl (k := 0) rfl (by rw [show 16 - (tt + 1) = 15 - tt by omega]; rfl) (by decide) rfl (fun ls hl => ?_)
        refine lv_goto (tgt := 122) hx hb dX6_of_142 (by decide) ?_
        refine W.widen (k := 0) (n := 0) (by omega) (by omega) ?_
        exact ih_115 ((dnk (16 - (tt + 1))), (tt + 1)) F_119 (⟨by omega, rfl, hF_122, hF_123, by rw [show 4 * (tt + 1) = 4 * tt + 4 by omega]; exact hq_120, _, hq_121, dg_up ht7 hS9⟩) (by show 16 - (tt + 1) < 16 - tt; omega) hO hR _ _ hP hD hS ls (lv_sub hl [0, 1, 2, 3, 4] rfl)
    ·
      have hi_124 : k7 < 16 := ltN (N := 16) c_87
      have hck7 : k7 < 16 := Nat.not_le.mp (fun q => c_87 ((nI_leI (by omega) (by omega)).mpr q))
      refine lv_aload_n hx hb dX6_of_84 rfl (lv_at hl 1 rfl) ?_
      refine lv_aload_n hx hb dX6_of_85 rfl (lv_at hl 1 rfl) ?_
      refine pg_get (ci := 6) (v := .ref pv) (C := RX6) (T := TX6) (N := 5) hx hb hts it_6 hown hK hP hL_h0 hk72 rfl 2 (by decide) (hts _ kt_271) (fun _ h9 => h9) rfl dX6_of_86 ?_
      refine lv_aload_n hx hb dX6_of_89 rfl (lv_at hl 1 rfl) ?_
      refine pg_get (ci := 6) (v := .ref pv) (C := RX6) (T := TX6) (N := 5) hx hb hts it_6 hown hK hP hL_h0 hk72 rfl 2 (by decide) (hts _ kt_271) (fun _ h9 => h9) rfl dX6_of_90 ?_
      have hFc := pg_free hD hS hA
      refine va_callv (va_runV (As := [.ref pv, .ref pv]) (rest := []) ⟨hx, hb, hml, hown, hts⟩ (s_X6_multiply_e l dC dI cs ty L H.size F_84 h0 ρ pm pb pv pu pv (ρ + 87) pv (ρ + 87) fk7 fk7 q2_22 r_44 (be bm 64) hW hL_h0 hT_h0 hi_3 ht_7 hi_3 ht_7 hk72 hk75 hk75 hk73 (hk71.1) (hk71.1) (hm1) (hm2) (hk71.2.1) (hv6) (hvf) (by omega) (by omega)) ⟨callB_of 2 hts (gi kt_295) rfl rfl rfl (hts _ kt_275) (hts _ kt_296) (by decide +kernel) ⟨Nat.le_of_ble_eq_true rfl, Nat.le_of_ble_eq_true rfl⟩, (hts _ kt_297), (hts _ kt_298)⟩ ⟨fun a U g mk q => ⟨q.1, PT.calling q.2⟩, pg_recv hK hP hL_h0 hk72 (q := (RX6, TX6, 5)) rfl, fun U hU hWm => ⟨rfl, PT.mk hU hWm hP hK hD hE hO⟩⟩ rfl rfl hl.1 rfl (lv_room (Nat.le_of_ble_eq_true rfl)) dX6_of_93 ⟨by show _ + 0 ≤ 0; omega, by show _ + 0 ≤ 0; omega⟩) hS (fun q _ h => hFc q h) hFc (fun u t H1 locs ht hvm hw hB hz1 hk1 hS => ?_)
      obtain ⟨F_126, f2_127, hB1, hq_128, hq_129, hq_130, hq_131⟩ := hB
      obtain ⟨hP, hD, hO, hR⟩ := QT.back hB1 ht hFc hR (fun q h => by simp only [List.mem_cons, List.not_mem_nil, or_false] at h ⊢; omega)
      have hF_132 : F_126 h0 = .inr (6, [.ref pm, .ref pb, .ref pv, .ref pu, .long r_44]) := (hB1.2.2.2 h0 (by rw [hT_h0]; simp)).trans hk72
      have hF_133 : F_126 pm = .inl (cs 19, 16, .inr (.inl q2_22)) := (hB1.2.2.2 pm (by rw [ht_5]; simp)).trans hk73
      have hF_134 : F_126 pb = .inl (cs 19, 16, .inr (.inl q2_33)) := (hB1.2.2.2 pb (by rw [ht_6]; simp)).trans hk74
      generalize H1 = H at hP hS ⊢
      refine lv_iinc (v := (nI (k7 + 1))) (lv' := [(4, .int (nI (k7 + 1))), (0, .ref h0), (1, .ref g1), (2, .ref g2), (3, .ref g3)]) hx hb dX6_of_96 hl (k := 0) rfl (nI_1 _) (by decide) rfl (fun ls hl => ?_)
      refine lv_goto (tgt := 77) hx hb dX6_of_99 (by decide) ?_
      refine W.widen (k := 0) (n := 0) (by omega) (by omega) ?_
      exact ih_86 ((k7 + 1), f2_127) F_126 (⟨by omega, val_s hod hk71 hq_129 hq_130 hq_131, hF_132, hF_133, hF_134, hq_128⟩) (by show 16 - (k7 + 1) < 16 - k7; omega) hO hR _ _ hP hD hS ls (lv_sub hl [0, 1, 2, 3, 4] rfl)
  ·
    have hi_135 : j < 9 := ltN (N := 9) c_72
    have hcj : j < 9 := Nat.not_le.mp (fun q => c_72 ((nI_leI (by omega) (by omega)).mpr q))
    refine lv_aload_n hx hb dX6_of_44 rfl (lv_at hl 1 rfl) ?_
    refine lv_aload_n hx hb dX6_of_45 rfl (lv_at hl 1 rfl) ?_
    refine pg_get (ci := 6) (v := .ref pv) (C := RX6) (T := TX6) (N := 5) hx hb hts it_6 hown hK hP hL_h0 hj2 rfl 2 (by decide) (hts _ kt_271) (fun _ h9 => h9) rfl dX6_of_46 ?_
    refine lv_aload_n hx hb dX6_of_49 rfl (lv_at hl 1 rfl) ?_
    refine pg_get (ci := 6) (v := .ref pv) (C := RX6) (T := TX6) (N := 5) hx hb hts it_6 hown hK hP hL_h0 hj2 rfl 2 (by decide) (hts _ kt_271) (fun _ h9 => h9) rfl dX6_of_50 ?_
    have hFc := pg_free hD hS hA
    refine va_callv (va_runV (As := [.ref pv, .ref pv]) (rest := []) ⟨hx, hb, hml, hown, hts⟩ (s_X6_multiply_e l dC dI cs ty L H.size F_69 h0 ρ pm pb pv pu pv (ρ + 87) pv (ρ + 87) fj fj q2_22 r_44 (be bm 64) hW hL_h0 hT_h0 hi_3 ht_7 hi_3 ht_7 hj2 hj5 hj5 hj3 (hj1.1) (hj1.1) (hm1) (hm2) (hj1.2.1) (hv6) (hvf) (by omega) (by omega)) ⟨callB_of 2 hts (gi kt_295) rfl rfl rfl (hts _ kt_275) (hts _ kt_296) (by decide +kernel) ⟨Nat.le_of_ble_eq_true rfl, Nat.le_of_ble_eq_true rfl⟩, (hts _ kt_297), (hts _ kt_298)⟩ ⟨fun a U g mk q => ⟨q.1, PT.calling q.2⟩, pg_recv hK hP hL_h0 hj2 (q := (RX6, TX6, 5)) rfl, fun U hU hWm => ⟨rfl, PT.mk hU hWm hP hK hD hE hO⟩⟩ rfl rfl hl.1 rfl (lv_room (Nat.le_of_ble_eq_true rfl)) dX6_of_53 ⟨by show _ + 0 ≤ 0; omega, by show _ + 0 ≤ 0; omega⟩) hS (fun q _ h => hFc q h) hFc (fun u t H1 locs ht hvm hw hB hz1 hk1 hS => ?_)
    obtain ⟨F_137, f2_138, hB1, hq_139, hq_140, hq_141, hq_142⟩ := hB
    obtain ⟨hP, hD, hO, hR⟩ := QT.back hB1 ht hFc hR (fun q h => by simp only [List.mem_cons, List.not_mem_nil, or_false] at h ⊢; omega)
    have hF_143 : F_137 h0 = .inr (6, [.ref pm, .ref pb, .ref pv, .ref pu, .long r_44]) := (hB1.2.2.2 h0 (by rw [hT_h0]; simp)).trans hj2
    have hF_144 : F_137 pm = .inl (cs 19, 16, .inr (.inl q2_22)) := (hB1.2.2.2 pm (by rw [ht_5]; simp)).trans hj3
    have hF_145 : F_137 pb = .inl (cs 19, 16, .inr (.inl q2_33)) := (hB1.2.2.2 pb (by rw [ht_6]; simp)).trans hj4
    generalize H1 = H at hP hS ⊢
    refine lv_iinc (v := (nI (j + 1))) (lv' := [(4, .int (nI (j + 1))), (0, .ref h0), (1, .ref g1), (2, .ref g2), (3, .ref g3)]) hx hb dX6_of_56 hl (k := 0) rfl (nI_1 _) (by decide) rfl (fun ls hl => ?_)
    refine lv_goto (tgt := 37) hx hb dX6_of_59 (by decide) ?_
    refine W.widen (k := 0) (n := 0) (by omega) (by omega) ?_
    exact ih_71 ((j + 1), f2_138) F_137 (⟨by omega, val_s hod hj1 hq_140 hq_141 hq_142, hF_143, hF_144, hF_145, hq_139⟩) (by show 9 - (j + 1) < 9 - j; omega) hO hR _ _ hP hD hS ls (lv_sub hl [0, 1, 2, 3, 4] rfl)
