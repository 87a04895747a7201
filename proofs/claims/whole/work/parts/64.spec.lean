
theorem wn_y {n lo hi : Nat} (h1 : lo ≤ n) (h2 : n ≤ hi) (h3 : hi < 2 ^ 31) : win (nI n) (nI lo) (nI hi) = true := win_y h1 h2 h3
/-- LieForce's own way to the liars -/
def lxX (C : FC) (W : Nat) : Nat → Nat × Option Nat
  | 0 => (7, none)
  | k + 1 => if W.testBit k && decide (pop (liM C k (cN C)) < (lxX C W k).1) then (pop (liM C k (cN C)), some k) else lxX C W k
theorem lx_lt {C : FC} {W : Nat} : ∀ k t, (lxX C W k).2 = some t → t < k
  | 0, _, h => by cases h
  | k + 1, t, h => by
    rw [lxX] at h
    by_cases q : (W.testBit k && decide (pop (liM C k (cN C)) < (lxX C W k).1)) = true
    · rw [if_pos q] at h; cases h; exact Nat.lt_succ_self _
    · rw [if_neg q] at h; exact Nat.lt_succ_of_lt (lx_lt k t h)
theorem lx_7 {C : FC} {W : Nat} : ∀ k, (lxX C W k).1 ≤ 7
  | 0 => Nat.le_refl _
  | k + 1 => by
    have h := lx_7 (C := C) (W := W) k
    rw [lxX]
    by_cases q : (W.testBit k && decide (pop (liM C k (cN C)) < (lxX C W k).1)) = true
    · rw [if_pos q]
      have h2 := q
      simp only [Bool.and_eq_true, decide_eq_true_eq] at h2
      show pop (liM C k (cN C)) ≤ 7
      omega
    · rw [if_neg q]; exact h
theorem lx_y {C : FC} {W k : Nat} (h1 : W.testBit k = true) (h2 : pop (liM C k (cN C)) < (lxX C W k).1) : lxX C W (k + 1) = (pop (liM C k (cN C)), some k) := by
  rw [lxX, h1, decide_eq_true h2]; rfl
theorem lx_n {C : FC} {W k : Nat} (h : W.testBit k = false ∨ ¬ pop (liM C k (cN C)) < (lxX C W k).1) : lxX C W (k + 1) = lxX C W k := by
  rw [lxX]
  rcases h with h | h
  · rw [h]; rfl
  · rw [decide_eq_false h, Bool.and_false]; rfl
def mustX (W k : Nat) : Int32 := if W = 0 then -4 else if W &&& wol k = W then nI 1 else if W &&& wol k = 0 then nI 0 else nI 2
theorem euc_k : ∀ k n a b, 2 * k + 1 ≤ n → b < 2 ^ k → euc n a b = Nat.gcd a b
  | 0, n, a, b, hn, hb => by
    obtain ⟨m, rfl⟩ : ∃ m, n = m + 1 := ⟨n - 1, by omega⟩
    obtain rfl : b = 0 := by omega
    rw [euc, if_pos rfl, Nat.gcd_zero_right]
  | k + 1, n, a, b, hn, hb => by
    obtain ⟨m, rfl⟩ : ∃ m, n = m + 2 := ⟨n - 2, by omega⟩
    by_cases h0 : b = 0
    · subst h0; rw [euc, if_pos rfl, Nat.gcd_zero_right]
    · have hr : a % b < b := Nat.mod_lt _ (Nat.pos_of_ne_zero h0)
      have e1 : Nat.gcd a b = Nat.gcd b (a % b) := by rw [Nat.gcd_comm a b, Nat.gcd_rec b a, Nat.gcd_comm]
      rw [euc, if_neg h0]
      by_cases h1 : a % b = 0
      · rw [h1, euc, if_pos rfl, e1, h1, Nat.gcd_zero_right]
      · have e2 : Nat.gcd b (a % b) = Nat.gcd (a % b) (b % (a % b)) := by rw [Nat.gcd_comm b (a % b), Nat.gcd_rec (a % b) b, Nat.gcd_comm]
        have hs : b % (a % b) < a % b := Nat.mod_lt _ (Nat.pos_of_ne_zero h1)
        have hd : a % b + b % (a % b) ≤ b := by
          have h3 := Nat.div_add_mod b (a % b)
          have h4 : 1 ≤ b / (a % b) := Nat.div_pos (Nat.le_of_lt hr) (Nat.pos_of_ne_zero h1)
          have h5 : a % b * 1 ≤ a % b * (b / (a % b)) := Nat.mul_le_mul_left _ h4
          omega
        have hp : 2 ^ (k + 1) = 2 * 2 ^ k := by rw [Nat.pow_succ, Nat.mul_comm]
        rw [euc, if_neg h1, e1, e2]
        exact euc_k k m (a % b) (b % (a % b)) (by omega) (by omega)
theorem euc_g (a : Nat) : euc 100 a 1000000 = Nat.gcd a 1000000 := euc_k 20 100 a 1000000 (by decide) (by decide)
theorem gcd_m (a : Nat) : 0 < Nat.gcd a 1000000 ∧ Nat.gcd a 1000000 ≤ 1000000 := ⟨Nat.gcd_pos_of_pos_right _ (by decide), Nat.gcd_le_right _ (by decide)⟩

