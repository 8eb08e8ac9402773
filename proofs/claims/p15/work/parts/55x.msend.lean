theorem nm_no {f : Nat → Int32} {a b : Nat} (h : b ≤ a) : ¬ NM f a b = true := fun q => by
  unfold NM at q
  rw [Bool.and_eq_true] at q
  have h9 := of_decide_eq_true q.1
  omega
