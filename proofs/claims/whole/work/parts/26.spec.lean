
def isWo (C : FC) (S : SC) (w : Nat) : Nat → Bool
  | 0 => true
  | k + 1 => isWo C S w k && ((lieM C w).testBit (hS S k) == hH S k)
def woB (C : FC) (S : SC) (w : Nat) : Bool := isWo C S w (hN S)
/-- what the model has seen is S -/
def ES (M : MV) (S : SC) : Prop := mE M = hN S ∧ hN S ≤ 6 ∧ ∀ i, i < hN S → mN M (2 * i) = hS S i ∧ mN M (2 * i + 1) = (hH S i).toNat ∧ hS S i < 9
theorem tn_t {v : Nat} {h : Bool} (e : v = h.toNat) (c : v = 1) : h = true := by subst e; cases h <;> simp_all
theorem tn_f {v : Nat} {h : Bool} (e : v = h.toNat) (c : ¬ v = 1) : h = false := by subst e; cases h <;> simp_all
theorem tn_lt {v : Nat} {h : Bool} (e : v = h.toNat) : v < 2 := by subst e; cases h <;> decide
def anyB (p : Nat → Bool) : Nat → Bool
  | 0 => false
  | k + 1 => anyB p k || p k
def mustV (C : FC) (S : SC) (f : Nat) : Int32 := if anyB (fun w => woB C S w && w.testBit f) 64 then (if anyB (fun w => woB C S w && !w.testBit f) 64 then nI 2 else nI 1) else if anyB (fun w => woB C S w && !w.testBit f) 64 then nI 0 else -4
def liaN (C : FC) (S : SC) : Nat → Option (Nat × Nat)
  | 0 => none
  | k + 1 => if woB C S k && (match liaN C S k with | none => true | some q => decide (pop (liM C k (cN C)) < q.1)) then some (pop (liM C k (cN C)), k) else liaN C S k
def liF (C : FC) (S : SC) (k : Nat) : Int32 := match liaN C S k with
  | none => -4
  | some q => nI q.1
def liW (C : FC) (S : SC) (k : Nat) : Int32 := match liaN C S k with
  | none => -4
  | some q => nI q.2
theorem liaN_lt {C : FC} {S : SC} (hP : ∀ i, i < cN C → cP C i < 6) : ∀ {k q}, liaN C S k = some q → q.1 ≤ 6
  | 0, q, h => by cases h
  | k + 1, q, h => by
    revert h; rw [liaN]
    refine ite_P (P := fun o => o = some q → q.1 ≤ 6) (fun _ h => ?_) (fun _ h => liaN_lt hP h)
    cases h; exact pop6 _ (liM_lt (C := C) k (k := cN C) hP)
theorem li_neg {C : FC} {S : SC} (hP : ∀ i, i < cN C → cP C i < 6) {k : Nat} : liF C S k < 0 ↔ liaN C S k = none := by
  unfold liF
  cases h : liaN C S k with
  | none => exact ⟨fun _ => rfl, fun _ => by decide⟩
  | some q => exact ⟨fun e => absurd e (nI_pos (by have := liaN_lt hP h; omega)), fun e => by cases e⟩
theorem li_le {C : FC} {S : SC} (hP : ∀ i, i < cN C → cP C i < 6) {k n : Nat} {q : Nat × Nat} (h : liaN C S k = some q) (hn : n ≤ 6) : liF C S k ≤ nI n ↔ q.1 ≤ n := by
  unfold liF
  rw [h]
  exact nI_leI (by have := liaN_lt hP h; omega) (by omega)
theorem li_no1 {C : FC} {S : SC} {k : Nat} (h : woB C S k = false) : liF C S (k + 1) = liF C S k ∧ liW C S (k + 1) = liW C S k := by
  rw [liF, liW, liF, liW, liaN, h, Bool.false_and, if_neg (by decide)]; exact ⟨rfl, rfl⟩
theorem li_no2 {C : FC} {S : SC} (hP : ∀ i, i < cN C → cP C i < 6) {k : Nat} (c1 : ¬ liF C S k < 0) (c2 : liF C S k ≤ nI (pop (liM C k (cN C)))) : liF C S (k + 1) = liF C S k ∧ liW C S (k + 1) = liW C S k := by
  have h6 := pop6 _ (liM_lt (C := C) k (k := cN C) hP)
  cases hq : liaN C S k with
  | none => exact absurd ((li_neg hP).mpr hq) c1
  | some q =>
    have := (li_le hP hq h6).mp c2
    have e : liaN C S (k + 1) = liaN C S k := by
      rw [liaN, hq]
      show (if woB C S k && decide (pop (liM C k (cN C)) < q.1) then _ else _) = _
      rw [decide_eq_false (by omega), Bool.and_false, if_neg (by decide)]
    rw [liF, liW, liF, liW, e]; exact ⟨rfl, rfl⟩
theorem li_yes {C : FC} {S : SC} (hP : ∀ i, i < cN C → cP C i < 6) {k : Nat} (h : woB C S k = true) (c : liF C S k < 0 ∨ ¬ liF C S k ≤ nI (pop (liM C k (cN C)))) : liF C S (k + 1) = nI (pop (liM C k (cN C))) ∧ liW C S (k + 1) = nI k := by
  have h6 := pop6 _ (liM_lt (C := C) k (k := cN C) hP)
  have e : liaN C S (k + 1) = some (pop (liM C k (cN C)), k) := by
    cases hq : liaN C S k with
    | none => rw [liaN, hq, h]; rfl
    | some q =>
      have c1 : ¬ liF C S k < 0 := fun z => by have := (li_neg hP).mp z; rw [hq] at this; cases this
      have c2 := (c.resolve_left c1)
      rw [li_le hP hq h6] at c2
      rw [liaN, hq]
      show (if woB C S k && decide (pop (liM C k (cN C)) < q.1) then _ else _) = _
      rw [h, decide_eq_true (by omega)]; rfl
  rw [liF, liW, e]; exact ⟨rfl, rfl⟩
def liaV (C : FC) (S : SC) (w : Nat) : Int32 := match liaN C S 64 with
  | none => -4
  | some q => if w = 0 then nI q.1 else nI q.2
theorem dn_lt {k : Nat} (h : k < 2 ^ 31) : nI k + (-1) < 0 ↔ k = 0 := by
  constructor
  · intro e
    by_cases q : k = 0
    · exact q
    · rw [show nI k + (-1) = nI (k - 1) from iinc_d (by omega)] at e
      exact absurd e (nI_pos (by omega))
  · intro e; subst e; decide
theorem dn_n {k : Nat} (h : ¬ k = 0) : nI k + (-1) = nI (k - 1) := iinc_d (by omega)
theorem fst_dn {p : Nat → Bool} {k m : Nat} (h0 : ¬ k = 0) (h : k ≤ m) : fst p (k - 1) (m - (k - 1)) = if p (k - 1) then some (k - 1) else fst p k (m - k) := by
  rw [show m - (k - 1) = (m - k) + 1 by omega, fst, show k - 1 + 1 = k by omega]
theorem cnt_dn {p : Nat → Bool} {k : Nat} (h0 : ¬ k = 0) : cnt p k = cnt p (k - 1) + (p (k - 1)).toNat := by
  obtain ⟨j, rfl⟩ : ∃ j, k = j + 1 := ⟨k - 1, by omega⟩
  rfl

