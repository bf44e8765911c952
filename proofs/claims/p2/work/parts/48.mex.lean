theorem ex_le (x : Nat) : ex x ≤ 3 := by
  unfold ex
  split <;> omega
