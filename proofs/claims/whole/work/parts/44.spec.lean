
theorem oJ_c {o : Option Nat} (h : dig o = true) : oJ o = nI (chr o) ∧ 48 ≤ chr o ∧ chr o ≤ 57 := by
  obtain ⟨c, rfl, h1, h2⟩ := dig_some h
  exact ⟨rfl, h1, h2⟩
theorem letB {tx : Nat → Nat} {n k : Nat} (hX : ∀ i, tx i < 128) : ∀ c, letO tx n k = some c → c < 2 ^ 31 := fun c h => by
  have := (letO_some h).2; have := hX k; omega
theorem fg_0 {tx : Nat → Nat} {n p : Nat} (h : dig (letO tx n p) = false) : figs tx n p = 0 := by rw [figs, h]; rfl
theorem fg_1 {tx : Nat → Nat} {n p : Nat} (h : dig (letO tx n p) = true) (h2 : dig (letO tx n (p + 1)) = false) : figs tx n p = 1 ∧ numAt tx n p = chr (letO tx n p) - 48 := by
  have e : figs tx n p = 1 := by rw [figs, h, h2]; rfl
  exact ⟨e, by rw [numAt, if_pos e]⟩
theorem fg_2 {tx : Nat → Nat} {n p : Nat} (h : dig (letO tx n p) = true) (h2 : dig (letO tx n (p + 1)) = true) : figs tx n p = 2 ∧ numAt tx n p = 10 * (chr (letO tx n p) - 48) + (chr (letO tx n (p + 1)) - 48) := by
  have e : figs tx n p = 2 := by rw [figs, h, h2]; rfl
  exact ⟨e, by rw [numAt, if_neg (by omega)]⟩
theorem rl_no {tx : Nat → Nat} {n due i k p : Nat} {q : Nat → Nat} (hi : i < due) (hk : k = due - i) (h : figs tx n p = 0 ∨ ¬ letO tx n (p + figs tx n p) = some (if i + 1 < due then 44 else 59)) : (rdL tx n due k i p q).1 = none := by
  obtain ⟨j, rfl⟩ : ∃ j, k = j + 1 := ⟨k - 1, by omega⟩
  rw [rdL]
  by_cases c : figs tx n p = 0
  · rw [if_pos c]
  · rw [if_neg c, if_neg (h.resolve_left c)]
theorem rl_yes {tx : Nat → Nat} {n due i p v : Nat} {q : Nat → Nat} (hi : i < due) (h0 : ¬ figs tx n p = 0) (h : letO tx n (p + figs tx n p) = some (if i + 1 < due then 44 else 59)) (hv : v = numAt tx n p) : rdL tx n due (due - i) i p q = rdL tx n due (due - (i + 1)) (i + 1) (p + figs tx n p + 1) (va_up q i v) := by
  rw [show due - i = (due - (i + 1)) + 1 by omega, rdL, if_neg h0, if_pos h, hv]

