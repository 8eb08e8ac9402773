theorem lk3 {x : Int32} (a b c df k1 k2 k3 : Int) (h1 : ¬ x.toInt = k1) (h2 : ¬ x.toInt = k2) (h3 : ¬ x.toInt = k3) : Op.lookupswitch.offset [(k1, a), (k2, b), (k3, c)] df x.toInt = df := by
  simp [Op.lookupswitch.offset, h1, h2, h3, Ne.symm, eq_comm]
  <;> omega
theorem lk4 {x : Int32} (a b c d df k1 k2 k3 k4 : Int) (h1 : ¬ x.toInt = k1) (h2 : ¬ x.toInt = k2) (h3 : ¬ x.toInt = k3) (h4 : ¬ x.toInt = k4) : Op.lookupswitch.offset [(k1, a), (k2, b), (k3, c), (k4, d)] df x.toInt = df := by
  simp [Op.lookupswitch.offset, h1, h2, h3, h4, Ne.symm, eq_comm]
  <;> omega
