
theorem mxF_congr {q q2 : Nat → Bool} {g g2 : Nat → Nat} : ∀ k t a, (∀ i, t ≤ i → i < t + k → q i = q2 i ∧ g i = g2 i) → mxF q g a t k = mxF q2 g2 a t k
  | 0, _, _, _ => rfl
  | k + 1, t, a, h => by
    obtain ⟨e1, e2⟩ := h t (Nat.le_refl _) (by omega)
    rw [mxF, mxF, e1, e2]
    exact mxF_congr k (t + 1) _ fun i h1 h2 => h i (by omega) (by omega)
theorem mpF_congr (C : FC) : ∀ k f f2 s, f < 2 ^ 31 → f2 < 2 ^ 31 → (∀ i, s ≤ i → f.testBit i = f2.testBit i) → mpF C k f s = mpF C k f2 s
  | 0, _, _, _, _, _, _ => rfl
  | k + 1, f, f2, s, hf, hf2, h => by
    have ih := mpF_congr C k
    rw [mpF, mpF, h s (Nat.le_refl _), ih f f2 (s + 1) hf hf2 fun i hi => h i (by omega)]
    congr 1
    refine mxF_congr _ _ _ fun i h1 h2 => ?_
    rw [h i (by omega), ih (andn f (1 <<< i)) (andn f2 (1 <<< i)) (s + 1) (andn_lt _ hf (Nat.le_refl _)) (andn_lt _ hf2 (Nat.le_refl _)) fun j hj => by rw [andn_bit _ hf, andn_bit _ hf2, h j (by omega)]]
    exact ⟨rfl, rfl⟩
theorem mpF_low (C : FC) {f : Nat} : ∀ s, s ≤ cN C → (∀ i, i < s → f.testBit i = false) → mpF C (cN C) f 0 = mpF C (cN C - s) f s
  | 0, _, _ => rfl
  | s + 1, hs, h => by
    rw [mpF_low C s (by omega) fun i hi => h i (by omega), show cN C - s = (cN C - (s + 1)) + 1 by omega, mpF, if_neg (by rw [h s (by omega)]; decide)]
/-- the pairs of the sets above set are right -/
def PA (C : FC) (all : Nat) (set : Nat) (f : Nat → Nat) : Prop := ∀ x, set < x → x < 512 → andn x all = 0 → f x = mpF C (cN C) (andn all x) 0
theorem or_gt {set s : Nat} (h : set.testBit s = false) : set < set ||| 1 <<< s := by
  have h1 : set ≤ set ||| 1 <<< s := Nat.left_le_or
  have h2 : set ≠ set ||| 1 <<< s := fun e => by
    have := congrArg (fun n => n.testBit s) e
    simp only [Nat.testBit_or, Nat.one_shiftLeft, Nat.testBit_two_pow_self, Bool.or_true, h] at this
    cases this
  omega
theorem andn_z {a b : Nat} (ha : a < 2 ^ 31) (h : ∀ i, a.testBit i = true → b.testBit i = true) : andn a b = 0 := by
  apply Nat.eq_of_testBit_eq
  intro i
  rw [andn_bit _ ha, Nat.zero_testBit]
  cases q : a.testBit i with
  | false => rfl
  | true => rw [h i q]; rfl
theorem sh_bit (s i : Nat) : (1 <<< s).testBit i = decide (s = i) := by rw [Nat.one_shiftLeft, Nat.testBit_two_pow]
theorem pa_1 {C : FC} {all set s : Nat} {f : Nat → Nat} (h : PA C all set f) (hall : all < 512) (hset : set < 512) (h9 : cN C ≤ 9) (hs : s < cN C) (hsub : andn set all = 0) (hb : (andn all set).testBit s = true) (hlow : ∀ i, i < s → (andn all set).testBit i = false) : f (set ||| 1 <<< s) = mpF C (cN C - (s + 1)) (andn all set) (s + 1) := by
  rw [andn_bit _ (by omega)] at hb
  simp only [Bool.and_eq_true, Bool.not_eq_true'] at hb
  have hx : set ||| 1 <<< s < 512 := or_bit_lt (m := 9) hset (by omega)
  have hz : andn (set ||| 1 <<< s) all = 0 := andn_z (by omega) fun i hi => by
    rw [Nat.testBit_or, sh_bit, Bool.or_eq_true] at hi
    rcases hi with hi | hi
    · exact sub_bit hsub (by omega) hi
    · rw [← of_decide_eq_true hi]; exact hb.1
  have hbit : ∀ i, (andn all (set ||| 1 <<< s)).testBit i = ((andn all set).testBit i && !decide (s = i)) := fun i => by
    rw [andn_bit _ (by omega), andn_bit _ (by omega), Nat.testBit_or, sh_bit]
    cases all.testBit i <;> cases set.testBit i <;> cases decide (s = i) <;> rfl
  rw [h _ (or_gt hb.2) hx hz, mpF_low C (s + 1) (by omega) fun i hi => by
    rw [hbit]
    by_cases q : s = i
    · rw [decide_eq_true q]; simp
    · rw [hlow i (by omega)]; rfl]
  exact mpF_congr C _ _ _ _ (andn_lt _ (show all < 2 ^ 31 by omega) (Nat.le_refl _)) (andn_lt _ (show all < 2 ^ 31 by omega) (Nat.le_refl _)) fun i hi => by
    rw [hbit, decide_eq_false (by omega)]; simp
theorem pa_2 {C : FC} {all set s t : Nat} {f : Nat → Nat} (h : PA C all set f) (hall : all < 512) (hset : set < 512) (h9 : cN C ≤ 9) (hs : s < cN C) (hst : s < t) (ht : t < cN C) (hsub : andn set all = 0) (hb : (andn all set).testBit s = true) (hbt : (andn all set).testBit t = true) (hlow : ∀ i, i < s → (andn all set).testBit i = false) : f (set ||| 1 <<< s ||| 1 <<< t) = mpF C (cN C - (s + 1)) (andn (andn all set) (1 <<< t)) (s + 1) := by
  have hfr : andn all set < 2 ^ 31 := andn_lt _ (show all < 2 ^ 31 by omega) (Nat.le_refl _)
  rw [andn_bit _ (by omega)] at hb hbt
  simp only [Bool.and_eq_true, Bool.not_eq_true'] at hb hbt
  have hx1 : set ||| 1 <<< s < 512 := or_bit_lt (m := 9) hset (by omega)
  have hx : set ||| 1 <<< s ||| 1 <<< t < 512 := or_bit_lt (m := 9) hx1 (by omega)
  have hz : andn (set ||| 1 <<< s ||| 1 <<< t) all = 0 := andn_z (by omega) fun i hi => by
    rw [Nat.testBit_or, Nat.testBit_or, sh_bit, sh_bit, Bool.or_eq_true, Bool.or_eq_true] at hi
    rcases hi with (hi | hi) | hi
    · exact sub_bit hsub (by omega) hi
    · rw [← of_decide_eq_true hi]; exact hb.1
    · rw [← of_decide_eq_true hi]; exact hbt.1
  have hgt : set < set ||| 1 <<< s ||| 1 <<< t := Nat.lt_of_lt_of_le (or_gt hb.2) Nat.left_le_or
  have hbit : ∀ i, (andn all (set ||| 1 <<< s ||| 1 <<< t)).testBit i = ((andn all set).testBit i && !decide (s = i) && !decide (t = i)) := fun i => by
    rw [andn_bit _ (by omega), andn_bit _ (by omega), Nat.testBit_or, Nat.testBit_or, sh_bit, sh_bit]
    cases all.testBit i <;> cases set.testBit i <;> cases decide (s = i) <;> cases decide (t = i) <;> rfl
  rw [h _ hgt hx hz, mpF_low C (s + 1) (by omega) fun i hi => by
    rw [hbit]
    by_cases q : s = i
    · rw [decide_eq_true q]; simp
    · rw [hlow i (by omega)]; rfl]
  exact mpF_congr C _ _ _ _ (andn_lt _ (show all < 2 ^ 31 by omega) (Nat.le_refl _)) (andn_lt _ hfr (Nat.le_refl _)) fun i hi => by
    rw [hbit, andn_bit _ hfr, sh_bit, decide_eq_false (show ¬ s = i by omega)]
    cases (andn all set).testBit i <;> cases decide (t = i) <;> rfl
theorem mp_0 {C : FC} {f s : Nat} (hs : s < cN C) (hb : f.testBit s = true) (hlow : ∀ i, i < s → f.testBit i = false) : mpF C (cN C) f 0 = mxF (fun t => f.testBit t && mmB C s t) (fun t => 1 + mpF C (cN C - (s + 1)) (andn f (1 <<< t)) (s + 1)) (mpF C (cN C - (s + 1)) f (s + 1)) (s + 1) (cN C - (s + 1)) := by
  rw [mpF_low C s (by omega) hlow, show cN C - s = (cN C - (s + 1)) + 1 by omega, mpF, if_pos hb]

