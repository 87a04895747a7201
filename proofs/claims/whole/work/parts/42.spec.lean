
theorem lt_no {tx : Nat → Nat} {n k : Nat} (h : n ≤ k) : (-1 : Int32) = oJ (letO tx n k) := by rw [letO, if_neg (by omega)]; rfl
theorem lt_yes {tx : Nat → Nat} {n k : Nat} (h : ¬ n ≤ k) : nI (tx k) = oJ (letO tx n k) := by rw [letO, if_pos (by omega)]; rfl

