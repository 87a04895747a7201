
def SoA (C : FC) (f : Nat → Nat) : Prop := ∀ w, w < 64 → f w = soM C w
def coB (C : FC) (set : Nat) : Bool := anyB (fun w => decide (soM C w &&& set = set)) 64
theorem any_t {p : Nat → Bool} {k j : Nat} (hj : j < k) (h : p j = true) : anyB p k = true := by
  induction k with
  | zero => omega
  | succ k ih =>
    rw [anyB]
    by_cases q : j = k
    · subst q; rw [h, Bool.or_true]
    · rw [ih (by omega), Bool.true_or]
theorem any_f {p : Nat → Bool} : ∀ {k}, (∀ j, j < k → p j = false) → anyB p k = false
  | 0, _ => rfl
  | k + 1, h => by rw [anyB, any_f fun j hj => h j (by omega), h k (by omega)]; rfl
theorem any_ex {p : Nat → Bool} {k : Nat} (h : anyB p k = true) : ∃ j, j < k ∧ p j = true := by
  cases hx : decide (∃ j, j < k ∧ p j = true) with
  | true => exact of_decide_eq_true hx
  | false =>
    have hn := of_decide_eq_false hx
    rw [any_f fun j hj => by cases hq : p j with | false => rfl | true => exact absurd ⟨j, hj, hq⟩ hn] at h
    cases h
theorem so_lt {C : FC} (h9 : cN C ≤ 9) {f : Nat → Nat} (h : SoA C f) {w : Nat} (hw : w < 64) : f w < 512 := by rw [h w hw]; exact soM_lt h9 w
theorem soM_bit {C : FC} (h9 : cN C ≤ 9) (w s : Nat) : (soM C w).testBit s = (decide (s < cN C) && !(cG C).testBit s && (cW C s).testBit w) := by
  rw [soM, andn_bit _ (Nat.lt_trans (stM_lt h9) (by decide)), stM_bit h9, lieM_bit, liB]
  cases decide (s < cN C) <;> cases (cG C).testBit s <;> cases (cW C s).testBit w <;> rfl
theorem andW_bit (C : FC) (set w : Nat) (hw : w < 64) : ∀ k, (andW C set k).testBit w = true ↔ ∀ s, s < k → set.testBit s = true → (cW C s).testBit w = true
  | 0 => by
    constructor
    · intro _ s hs; omega
    · intro _
      show (18446744073709551615 : Nat).testBit w = true
      rw [show (18446744073709551615 : Nat) = 2 ^ 64 - 1 by decide, Nat.testBit_two_pow_sub_one]
      exact decide_eq_true hw
  | k + 1 => by
    have ih := andW_bit C set w hw k
    rw [andW]
    by_cases q : set.testBit k = true
    · rw [if_pos q, Nat.testBit_and, Bool.and_eq_true, ih]
      constructor
      · rintro ⟨a, b⟩ s hs hq
        by_cases e : s = k
        · subst e; exact b
        · exact a s (by omega) hq
      · intro h
        exact ⟨fun s hs hq => h s (by omega) hq, h k (by omega) q⟩
    · rw [if_neg q, ih]
      constructor
      · intro h s hs hq
        by_cases e : s = k
        · subst e; exact absurd hq q
        · exact h s (by omega) hq
      · intro h s hs hq
        exact h s (by omega) hq
theorem sub_bit {set st : Nat} (h : andn set st = 0) (hs : set < 2 ^ 31) {i : Nat} (hi : set.testBit i = true) : st.testBit i = true := by
  have e := andn_bit st hs i
  rw [h, Nat.zero_testBit, hi, Bool.true_and] at e
  cases q : st.testBit i with
  | true => rfl
  | false => rw [q] at e; cases e
/-- all of a standing set could be so -/
theorem co_and {C : FC} (h9 : cN C ≤ 9) {set : Nat} (hs : set < 512) (hz : andn set (stM C) = 0) : coB C set = andB C set := by
  have hs31 : set < 2 ^ 31 := by omega
  cases hb : andB C set with
  | true =>
    unfold andB at hb
    have hne : andW C set (cN C) ≠ 0 := fun e => by rw [e] at hb; cases hb
    obtain ⟨w, hw⟩ := Nat.exists_testBit_of_ne_zero hne
    have hw64 : w < 64 := by
      by_cases q : w < 64
      · exact q
      · rw [tb_hi (andW_lt C set _) (by omega)] at hw; cases hw
    have ha := (andW_bit C set w hw64 _).mp hw
    refine any_t hw64 (decide_eq_true ?_)
    apply Nat.eq_of_testBit_eq
    intro i
    rw [Nat.testBit_and]
    cases q : set.testBit i with
    | false => rw [Bool.and_false]
    | true =>
      have hst := sub_bit hz hs31 q
      rw [stM_bit h9, Bool.and_eq_true] at hst
      rw [soM_bit h9, hst.1, hst.2, ha i (of_decide_eq_true hst.1) q]; rfl
  | false =>
    refine any_f fun w hw => decide_eq_false fun e => ?_
    unfold andB at hb
    have h0 : andW C set (cN C) = 0 := by
      cases q : decide (andW C set (cN C) = 0) with
      | true => exact of_decide_eq_true q
      | false => rw [q] at hb; cases hb
    have h1 := (andW_bit C set w hw (cN C)).mpr fun s hs hq => by
      have := congrArg (fun n => n.testBit s) e
      simp only [Nat.testBit_and, hq, Bool.and_true] at this
      rw [soM_bit h9, Bool.and_eq_true] at this
      exact this.2
    rw [h0, Nat.zero_testBit] at h1; cases h1
theorem minN_m (p : Nat → Bool) : ∀ j, (minN none p j).2 = (match (minN none p j).1 with | none => 10 | some s => pop s)
  | 0 => rfl
  | j + 1 => by
    have ih := minN_m p j
    rw [minN]
    by_cases q : (p j && decide (pop j < (minN none p j).2)) = true
    · rw [if_pos q]
    · rw [if_neg q]; exact ih
theorem minN_lt (p : Nat → Bool) : ∀ j s, (minN none p j).1 = some s → s < j
  | 0, s, h => by cases h
  | j + 1, s, h => by
    rw [minN] at h
    by_cases q : (p j && decide (pop j < (minN none p j).2)) = true
    · rw [if_pos q] at h; cases h; omega
    · rw [if_neg q] at h; have := minN_lt p j s h; omega
def bI1 (p : Nat → Bool) (j : Nat) : Int32 := oI (minN none p j).1
theorem mn_neg {p : Nat → Bool} {j : Nat} (hj : j ≤ 512) : bI1 p j < 0 ↔ (minN none p j).1 = none := by
  unfold bI1
  cases h : (minN none p j).1 with
  | none => exact ⟨fun _ => rfl, fun _ => by decide⟩
  | some s => exact ⟨fun e => absurd e (nI_pos (by have := minN_lt p j s h; omega)), fun e => by cases e⟩
theorem mn_step {p : Nat → Bool} {j : Nat} (hj : j < 512) (hp : p j = true) (h : (minN none p j).1 = none ∨ ∃ s, (minN none p j).1 = some s ∧ pop j < pop s) : bI1 p (j + 1) = nI j := by
  have hm := minN_m p j
  have h9 := pop9 j hj
  have e : pop j < (minN none p j).2 := by
    rcases h with h | ⟨s, h, h2⟩
    · rw [hm, h]; show pop j < 10; omega
    · rw [hm, h]; exact h2
  unfold bI1
  rw [minN, hp, decide_eq_true e]; rfl
theorem mn_no {p : Nat → Bool} {j : Nat} (h : p j = false ∨ ∃ s, (minN none p j).1 = some s ∧ ¬ pop j < pop s) : bI1 p (j + 1) = bI1 p j := by
  unfold bI1
  rcases h with h | ⟨s, h, h2⟩
  · rw [minN, h, Bool.false_and, if_neg (by decide)]
  · rw [minN, minN_m, h, decide_eq_false h2, Bool.and_false, if_neg (by decide), h]

