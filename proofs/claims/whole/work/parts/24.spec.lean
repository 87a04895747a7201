
theorem fal_eq {C : FC} {k : Nat} (h1 : 1 ≤ k) (hn : ∀ j, 1 ≤ j → j < k → firO (serN C j) = none) : serC (dayC C (k - 1)) = serN C k ∧ cN (dayC C (k - 1)) = cN (serN C k) := by
  have e := day_ser (C := C) (k - 1) fun j a b => hn j a (by omega)
  have e2 : serN C k = serC (serN C (k - 1)) := by rw [show k = (k - 1) + 1 by omega]; rfl
  rw [e, e2]; exact ⟨rfl, (serC_N _).symm⟩
theorem fal_lt {C : FC} {k : Nat} (h9 : cN C ≤ 9) (h1 : 1 ≤ k) (hn : ∀ j, 1 ≤ j → j < k → firO (serN C j) = none) (c : ffV (serC (dayC C (k - 1))) (cN (dayC C (k - 1))) < 0) : firO (serN C k) = none := by
  obtain ⟨a, b⟩ := fal_eq h1 hn
  have hb := day_N C (k - 1)
  rw [a, b] at c
  rw [b] at hb
  cases h : firO (serN C k) with
  | none => rfl
  | some s =>
    obtain ⟨p, q⟩ := fir_some (by omega) h
    rw [p] at c
    exact absurd q (Int32.not_le.mpr c)
theorem fal_ge {C : FC} {k : Nat} (h9 : cN C ≤ 9) (h1 : 1 ≤ k) (hn : ∀ j, 1 ≤ j → j < k → firO (serN C j) = none) (c : ¬ ffV (serC (dayC C (k - 1))) (cN (dayC C (k - 1))) < 0) : (firO (serN C k)).isSome = true ∧ ffV (serC (dayC C (k - 1))) (cN (dayC C (k - 1))) = faV (serN C k) := by
  obtain ⟨a, b⟩ := fal_eq h1 hn
  have hb := day_N C (k - 1)
  rw [a, b] at c ⊢
  rw [b] at hb
  cases h : firO (serN C k) with
  | none => rw [(fir_none h).2] at c; exact absurd (by decide) c
  | some s => exact ⟨rfl, (fir_some (by omega) h).1⟩
def cntV (C : FC) (e a k t : Nat) (x : Int32) : Int32 := if x = nI 0 then nI (cN C) else if x = nI 1 then nI (pop (cG C)) else if x = nI 2 then nI (pop (lieM C (cF C))) else if x = nI 3 then nI (cnt (hsB C) (cN C)) else if x = nI 4 then nI (cY C) else if x = nI 5 then nI (pop (cF C)) else if x = nI 6 then nI e else if x = nI 7 then nI a else if x = nI 8 then nI k else if x = nI 9 then nI t else -1

