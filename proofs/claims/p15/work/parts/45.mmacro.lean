def sv (m : Nat) : Int32 := nI (8 * (4 - m)) - 8
theorem sv_n : ∀ m, m < 4 → sv m + Int32.ofInt (-8) = sv (m + 1) := by decide +kernel
theorem sv_p : ∀ m, m < 4 → ¬ sv m < 0 := by decide +kernel
theorem sv_4 : sv 4 < 0 := by decide +kernel
theorem sv_lt {m : Nat} (h : m ≤ 4) (c : ¬ sv m < 0) : m < 4 := by
  rcases Nat.lt_or_ge m 4 with q | q
  · exact q
  · rw [show m = 4 from by omega] at c
    exact absurd sv_4 c
