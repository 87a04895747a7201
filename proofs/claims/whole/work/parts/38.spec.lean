
def PB (C : FC) (all : Nat) (k : Nat) (f : Nat → Nat) : Prop := ∀ x, k ≤ x → x < 512 → andn x all = 0 → f x = mpF C (cN C) (andn all x) 0
theorem pb_a {C : FC} {all k v : Nat} {f : Nat → Nat} (h0 : ¬ k = 0) (h : PB C all k f) : PA C all (k - 1) (va_up f (k - 1) v) := fun x h1 h2 h3 => by
  rw [va_up_ne _ _ (by omega)]; exact h x (by omega) h2 h3
theorem pb_s {C : FC} {all k v : Nat} {f : Nat → Nat} (h0 : ¬ k = 0) (h : PB C all k f) (hv : andn (k - 1) all = 0 → v = mpF C (cN C) (andn all (k - 1)) 0) : PB C all (k - 1) (va_up f (k - 1) v) := fun x h1 h2 h3 => by
  by_cases q : x = k - 1
  · subst q; rw [va_up_self]; exact hv h3
  · rw [va_up_ne _ _ q]; exact h x (by omega) h2 h3
theorem pb_2 {f : Nat → Nat} {i v w : Nat} : va_up (va_up f i v) i w = va_up f i w := by
  funext j
  by_cases q : j = i
  · subst q; rw [va_up_self, va_up_self]
  · rw [va_up_ne _ _ q, va_up_ne _ _ q, va_up_ne _ _ q]
theorem mp_none {C : FC} {f : Nat} (h : ∀ i, i < cN C → f.testBit i = false) : mpF C (cN C) f 0 = 0 := by
  rw [mpF_low C (cN C) (Nat.le_refl _) h, Nat.sub_self]; rfl
theorem andn_0 {a : Nat} (h : a < 2 ^ 31) : andn a 0 = a := by
  apply Nat.eq_of_testBit_eq
  intro i
  rw [andn_bit _ h, Nat.zero_testBit]; cases a.testBit i <;> rfl

