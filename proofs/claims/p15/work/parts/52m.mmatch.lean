theorem rtp_dok {f : Nat → Int32} {a tt : Nat} {w u v : Int32} (h : RTP f a tt w u v) (cn : w < 6) (ht : tt ≤ 700) : DOK f 700 u v := by
  rcases h.1 with q | q | q | q
  · rw [q] at cn; exact absurd cn (by decide)
  · rw [q] at cn; exact absurd cn (by decide)
  · rw [q] at cn; exact absurd cn (by decide)
  · rcases q with q | ⟨b, c9, h1, h2, h3, h4, h5⟩
    · exact Or.inl q
    · exact Or.inr ⟨b, c9, h1, h2, h3, by omega, h5⟩
def TRN (f : Nat → Int32) (z : Nat) (w : Int32) : Prop := w = (-1) ∨ ∃ tu te, w = nI tu ∧ tu < z ∧ tu ≤ te ∧ te ≤ z ∧ WE f z tu te ∧ RDP f tu te
theorem le1_6 {r : Int32} {cu : Nat} (h : cu = 11 → r = 6) (cn : r ≤ 1) (hc : cu ≤ 11) : cu ≤ 10 := by
  rcases Nat.lt_or_ge cu 11 with q | q
  · omega
  · rw [h (by omega)] at cn
    exact absurd cn (by decide)
theorem rec0 {r : Int32} (h : r = (-1) ∨ r = (-2) ∨ ∃ j : Nat, j < 40 ∧ r = nI j) (cn : 0 ≤ r) : ∃ j : Nat, j < 40 ∧ r = nI j := by
  rcases h with h | h | h
  · rw [h] at cn; exact absurd cn (by decide)
  · rw [h] at cn; exact absurd cn (by decide)
  · exact h
