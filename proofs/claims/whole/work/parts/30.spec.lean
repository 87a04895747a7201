
theorem sh9 {k : Nat} (h : k ≤ 9) : 1 <<< k ≤ 512 := by
  rw [Nat.one_shiftLeft]; exact Nat.pow_le_pow_right (n := 2) (by decide) h
theorem co_p {C : FC} (h9 : cN C ≤ 9) {i : Nat} (hi : i < 512) (hz : andn i (stM C) = 0) : coreP C i = !coB C i := by
  rw [coreP, decide_eq_true hz, Bool.true_and, co_and h9 hi hz]
theorem cut_z {C : FC} (h9 : cN C ≤ 9) (i : Nat) : andn (andn (stM C) i) (stM C) = 0 := by
  have hst := stM_lt h9
  have h1 : andn (stM C) i < 512 := andn_lt (n := 9) _ hst (by decide)
  apply Nat.eq_of_testBit_eq
  intro j
  rw [andn_bit _ (by omega), andn_bit _ (by omega), Nat.zero_testBit]
  cases (stM C).testBit j <;> simp
theorem cu_p {C : FC} (h9 : cN C ≤ 9) {i : Nat} (hz : andn i (stM C) = 0) : cutP C i = coB C (andn (stM C) i) := by
  rw [cutP, decide_eq_true hz, Bool.true_and, co_and h9 (andn_lt (n := 9) _ (stM_lt h9) (by decide)) (cut_z h9 i)]
theorem mn_get {p : Nat → Bool} {j : Nat} {v : Int32} (hj : j ≤ 512) (e : v = bI1 p j) (h : ¬ v < 0) : ∃ s, (minN none p j).1 = some s ∧ s < 512 ∧ v = nI s := by
  rw [e, mn_neg hj] at h
  cases q : (minN none p j).1 with
  | none => exact absurd q h
  | some s => exact ⟨s, rfl, by have := minN_lt p j s q; omega, by rw [e, bI1, q]; rfl⟩
def trW (C : FC) : Nat → Nat
  | 0 => 0
  | k + 1 => if pop (soM C (trW C k)) < pop (soM C k) then k else trW C k
theorem trW_lt (C : FC) : ∀ k, k ≤ 64 → trW C k < 64
  | 0, _ => by rw [trW]; decide
  | k + 1, h => by
    have := trW_lt C k (by omega)
    rw [trW]; split <;> omega

