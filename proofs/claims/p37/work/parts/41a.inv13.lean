theorem isIn_t {v a b : Nat} (h1 : a ≤ v) (h2 : v ≤ b) (hb : b < 2 ^ 31) : zb (isInB (nI v) (nI a) (nI b)) = 1 := by
  unfold isInB
  rw [decide_eq_false (nI_nlt h1 (by omega)), decide_eq_false (nI_nlt h2 hb)]
  rfl

