
def prB (x y t : Nat) : Nat → Nat
  | 0 => 1
  | k + 1 => prB x y t k * (if t.testBit k then x else y)
theorem prB_eq (x y t : Nat) : ∀ k, prB x y t k = x ^ cnt t.testBit k * y ^ (k - cnt t.testBit k)
  | 0 => rfl
  | k + 1 => by
    have h := cnt_le t.testBit k
    rw [prB, prB_eq x y t k, cnt]
    cases q : t.testBit k with
    | true =>
      rw [if_pos rfl, show cnt t.testBit k + true.toNat = cnt t.testBit k + 1 from rfl, Nat.pow_succ, show k + 1 - (cnt t.testBit k + 1) = k - cnt t.testBit k by omega]
      rw [Nat.mul_assoc, Nat.mul_comm (y ^ _) x, ← Nat.mul_assoc]
    | false =>
      rw [if_neg (by decide), show cnt t.testBit k + false.toNat = cnt t.testBit k from rfl, show k + 1 - cnt t.testBit k = (k - cnt t.testBit k) + 1 by omega, Nat.pow_succ, Nat.mul_assoc]
theorem cnt6 : ∀ t, t < 64 → cnt t.testBit 6 = pop t := by decide +kernel
def wtW (x t : Nat) : Nat := x ^ pop t * (10 - x) ^ (6 - pop t)
theorem wt_eq {x t : Nat} (ht : t < 64) : prB x (10 - x) t 6 = wtW x t := by rw [prB_eq, cnt6 t ht]; rfl
theorem prB_le {x t : Nat} (hx : x ≤ 10) : ∀ k, prB x (10 - x) t k ≤ 10 ^ k
  | 0 => Nat.le_refl _
  | k + 1 => by
    rw [prB, Nat.pow_succ]
    exact Nat.mul_le_mul (prB_le hx k) (by split <;> omega)
def chS (C : FC) (k x : Nat) : Nat → Nat
  | 0 => 0
  | j + 1 => chS C k x j + (if k ≤ pop (lieM C (cF C ^^^ j)) then wtW x j else 0)
theorem wtW_le {x t : Nat} (hx : x ≤ 10) (ht : t < 64) : wtW x t ≤ 1000000 := by rw [← wt_eq ht]; exact prB_le hx 6
theorem chS_le {C : FC} {k x : Nat} (hx : x ≤ 10) : ∀ j, j ≤ 64 → chS C k x j ≤ j * 1000000
  | 0, _ => Nat.zero_le _
  | j + 1, h => by
    have h1 := chS_le (C := C) (k := k) hx j (by omega)
    have h2 := wtW_le (t := j) hx (by omega)
    rw [chS, Nat.succ_mul]
    exact Nat.add_le_add h1 (ite_P (P := fun v => v ≤ 1000000) (fun _ => h2) (fun _ => Nat.zero_le _))
def chaV (C : FC) (k x p : Nat) : Nat := (if p = 0 then chS C k x 64 else 1000000) / Nat.gcd (chS C k x 64) 1000000
theorem gcd_st {y z g : Nat} (h : Nat.gcd y z = g) : Nat.gcd z (y % z) = g := by
  rw [← h, Nat.gcd_comm y z, Nat.gcd_rec z y, Nat.gcd_comm]
theorem x64 {a b : Nat} (ha : a < 64) (hb : b < 64) : a ^^^ b < 64 := Nat.xor_lt_two_pow (n := 6) ha hb

