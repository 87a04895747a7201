
/-- a text's letters: a row of chars, cap long -/
def tw (E : EV) (a : Nat → Nat) (cap : Nat) (tx : Nat → Nat) : va_W := [(a 0, .inl (E.2.1 2, cap, .inl (fun j => nI (tx j))))]


abbrev RC : Type := Nat → Nat
def rw_ (E : EV) (a : Nat → Nat) (R : RC) : va_W := [(a 0, .inr (3, [.ref (a 1)])), (a 1, .inl (E.2.1 0, 4, .inl (fun j => nI (R j))))]


/-- the letter at a place, within the first n -/
def letO (tx : Nat → Nat) (n at_ : Nat) : Option Nat := if at_ < n then some (tx at_) else none
def dig (o : Option Nat) : Bool := match o with
  | none => false
  | some c => decide (48 ≤ c) && decide (c ≤ 57)
def figB (x : Int32) : Bool := !decide (x < nI 48) && !decide (nI 57 < x)
theorem figB_dig {o : Option Nat} (h : ∀ c, o = some c → c < 2 ^ 31) : figB (oI o) = dig o := by
  cases o with
  | none => decide
  | some c =>
    have hc := h c rfl
    have h1 : decide (nI c < nI 48) = decide (c < 48) := decide_eq_decide.mpr (nI_ltI hc (by decide))
    have h2 : decide (nI 57 < nI c) = decide (57 < c) := decide_eq_decide.mpr (nI_ltI (by decide) hc)
    show (!decide (nI c < nI 48) && !decide (nI 57 < nI c)) = (decide (48 ≤ c) && decide (c ≤ 57))
    rw [h1, h2]
    by_cases a : c < 48 <;> by_cases b : 57 < c <;> simp [a, b] <;> omega
def figs (tx : Nat → Nat) (n at_ : Nat) : Nat := if dig (letO tx n at_) then (if dig (letO tx n (at_ + 1)) then 2 else 1) else 0
theorem figs_le (tx : Nat → Nat) (n at_ : Nat) : figs tx n at_ ≤ 2 := by unfold figs; by_cases a : dig (letO tx n at_) = true <;> by_cases b : dig (letO tx n (at_ + 1)) = true <;> simp [a, b]


theorem dig_some {o : Option Nat} (h : dig o = true) : ∃ c, o = some c ∧ 48 ≤ c ∧ c ≤ 57 := by
  cases o with
  | none => cases h
  | some c => simp [dig] at h; exact ⟨c, rfl, h.1, h.2⟩
theorem letO_some {tx : Nat → Nat} {n at_ c : Nat} (h : letO tx n at_ = some c) : at_ < n ∧ tx at_ = c := by
  unfold letO at h
  by_cases q : at_ < n
  · rw [if_pos q] at h; cases h; exact ⟨q, rfl⟩
  · rw [if_neg q] at h; cases h
def chr (o : Option Nat) : Nat := o.getD 0
def numAt (tx : Nat → Nat) (n at_ : Nat) : Nat := if figs tx n at_ = 1 then chr (letO tx n at_) - 48 else 10 * (chr (letO tx n at_) - 48) + (chr (letO tx n (at_ + 1)) - 48)
def nof (x : Int32) : Nat := if x = nI 115 then 4 else if x = nI 102 then 1 else if x = nI 114 then 1 else 0
/-- numbers from the i-th on, k of due are left -/
def rdL (tx : Nat → Nat) (n due : Nat) : Nat → Nat → Nat → (Nat → Nat) → Option Nat × (Nat → Nat)
  | 0, _, at_, q => (some at_, q)
  | k + 1, i, at_, q => if figs tx n at_ = 0 then (none, q) else
      if letO tx n (at_ + figs tx n at_) = some (if i + 1 < due then 44 else 59) then rdL tx n due k (i + 1) (at_ + figs tx n at_ + 1) (va_up q i (numAt tx n at_)) else (none, va_up q i (numAt tx n at_))
def rdN (tx : Nat → Nat) (n due at_ : Nat) (q : Nat → Nat) : Option Nat × (Nat → Nat) := if due = 0 then (none, q) else rdL tx n due due 0 at_ q


theorem oI_s {o : Option Nat} {v : Nat} (h : ∀ t, o = some t → t < 2 ^ 31) (hv : v < 2 ^ 31) : oI o = nI v ↔ o = some v := by
  cases o with
  | none =>
    constructor
    · intro e
      have h1 := nI_pos hv
      have e2 : nI v = -4 := e.symm
      rw [e2] at h1
      exact absurd (by decide) h1
    · intro e; cases e
  | some t => exact (nI_eq (h t rfl) hv).trans ⟨fun e => by rw [e], fun e => by cases e; rfl⟩
theorem nI_nn {n : Nat} (h : n < 2 ^ 31) {z : Int32} (hz : z < 0) : ¬ nI n = z := fun e => nI_pos h (by rw [e]; exact hz)
theorem numAt_lt {tx : Nat → Nat} {n q : Nat} (h : ¬ figs tx n q = 0) : numAt tx n q < 100 := by
  unfold figs at h
  by_cases a : dig (letO tx n q) = true
  · obtain ⟨c, e1, l1, l2⟩ := dig_some a
    unfold numAt figs
    by_cases b : dig (letO tx n (q + 1)) = true
    · obtain ⟨c2, e2, l3, l4⟩ := dig_some b
      rw [if_pos a, if_pos b, if_neg (by decide), e1, e2]
      show 10 * (c - 48) + (c2 - 48) < 100
      omega
    · rw [if_pos a, if_neg b, if_pos rfl, e1]
      show c - 48 < 100
      omega
  · rw [if_neg a] at h; exact absurd rfl h
theorem rdL_ok {tx : Nat → Nat} {n due : Nat} : ∀ k i at_ q, (∀ z, q z < 100) → (∀ z, (rdL tx n due k i at_ q).2 z < 100) ∧ ∀ p, (rdL tx n due k i at_ q).1 = some p → (at_ ≤ n ∨ 0 < k) → p ≤ n ∧ at_ + 2 * k ≤ p
  | 0, i, at_, q, hq => ⟨hq, fun p h h2 => by cases h; exact ⟨by omega, by omega⟩⟩
  | k + 1, i, at_, q, hq => by
    rw [rdL]
    by_cases a : figs tx n at_ = 0
    · rw [if_pos a]; exact ⟨hq, fun p h => by cases h⟩
    · rw [if_neg a]
      have hq2 : ∀ z, va_up q i (numAt tx n at_) z < 100 := fun z => by
        by_cases e : z = i
        · subst e; rw [va_up_self]; exact numAt_lt a
        · rw [va_up_ne _ _ e]; exact hq z
      by_cases b : letO tx n (at_ + figs tx n at_) = some (if i + 1 < due then 44 else 59)
      · rw [if_pos b]
        obtain ⟨h1, h2⟩ := rdL_ok k (i + 1) (at_ + figs tx n at_ + 1) (va_up q i (numAt tx n at_)) hq2
        refine ⟨h1, fun p h _ => ?_⟩
        have h3 := (letO_some b).1
        obtain ⟨g1, g2⟩ := h2 p h (Or.inl (by omega))
        exact ⟨g1, by omega⟩
      · rw [if_neg b]; exact ⟨hq2, fun p h => by cases h⟩
theorem rdN_ok {tx : Nat → Nat} {n due at_ : Nat} {q : Nat → Nat} (hq : ∀ z, q z < 100) : (∀ z, (rdN tx n due at_ q).2 z < 100) ∧ ∀ p, (rdN tx n due at_ q).1 = some p → p ≤ n ∧ at_ + 2 * due ≤ p ∧ 0 < due := by
  unfold rdN
  by_cases d : due = 0
  · rw [if_pos d]; exact ⟨hq, fun p h => by cases h⟩
  · rw [if_neg d]
    obtain ⟨h1, h2⟩ := rdL_ok (tx := tx) (n := n) (due := due) due 0 at_ q hq
    refine ⟨h1, fun p h => ?_⟩
    obtain ⟨g1, g2⟩ := h2 p h (Or.inr (by omega))
    exact ⟨g1, g2, by omega⟩
def sayB (q : Nat → Nat) : Bool := win (nI (q 0)) (nI 0) (nI 4) && win (nI (q 1)) (nI 0) (nI 11) && win (nI (q 2)) (nI 0) (nI 11) && win (nI (q 3)) (nI 0) (nI 5)
theorem sayB_ok {q : Nat → Nat} (hq : ∀ z, q z < 100) : sayB q = (decide (q 0 < 5) && decide (q 1 < 12) && decide (q 2 < 12) && decide (q 3 < 6)) := by
  have h0 := hq 0; have h1 := hq 1; have h2 := hq 2; have h3 := hq 3
  unfold sayB
  rw [win_n (by omega) (by decide) (by decide), win_n (by omega) (by decide) (by decide), win_n (by omega) (by decide) (by decide), win_n (by omega) (by decide) (by decide)]
  by_cases a : q 0 < 5 <;> by_cases b : q 1 < 12 <;> by_cases c : q 2 < 12 <;> by_cases d : q 3 < 6 <;> simp [a, b, c, d] <;> omega
def putO (x : Int32) (q : Nat → Nat) (C : FC) : Bool × FC :=
  if x = nI 102 then (decide (q 0 < 6), turnF C (q 0))
  else if x = nI 114 then (win (nI (q 0)) (nI 1) (nI 20), sT C (q 0))
  else if sayB q = true ∧ cN C < 9 then (true, addC C (q 0) (q 1) (q 2) (q 3)) else (false, C)
theorem FO_addC {C : FC} {k a b p : Nat} (h : FO C) (hn : cN C < 9) (ha : a < 12) (hb : b < 12) (hp : p < 6) : FO (addC C k a b p) := by
  obtain ⟨h9, h64, h512, hT, hI⟩ := h
  refine ⟨hn, h64, h512, hT, fun i hi => ?_⟩
  have hi2 : i < cN C + 1 := hi
  show va_up (cP C) (cN C) p i < 6 ∧ va_up (cW C) (cN C) (wos k a b) i < 2 ^ 64
  by_cases e : i = cN C
  · subst e; rw [va_up_self, va_up_self]; exact ⟨hp, wos_lt ha hb⟩
  · rw [va_up_ne _ _ e, va_up_ne _ _ e]; exact hI i (by omega)
theorem FO_putO {x : Int32} {q : Nat → Nat} {C : FC} (h : FO C) (hq : ∀ z, q z < 100) : FO (putO x q C).2 := by
  unfold putO
  by_cases a : x = nI 102
  · rw [if_pos a]; exact FO_turnF h
  · rw [if_neg a]
    by_cases b : x = nI 114
    · rw [if_pos b]
      have h0 := hq 0
      exact ⟨h.1, h.2.1, h.2.2.1, (by show q 0 < 2 ^ 20; omega), h.2.2.2.2⟩
    · rw [if_neg b]
      by_cases c : sayB q = true ∧ cN C < 9
      · rw [if_pos c]
        have h2 := c.1
        rw [sayB_ok hq] at h2
        simp only [Bool.and_eq_true, decide_eq_true_eq] at h2
        exact FO_addC h c.2 h2.1.1.2 h2.1.2 h2.2
      · rw [if_neg c]; exact h
theorem FO_emC (C : FC) : FO (emC C) := ⟨Nat.zero_le _, (show 0 < 64 by decide), (show 0 < 512 by decide), (show 5 < 2 ^ 20 by decide), fun i hi => absurd hi (Nat.not_lt_zero _)⟩
/-- reads a text: the fault, the numbers, the force -/
def rdA (tx : Nat → Nat) (n : Nat) : Nat → Nat → (Nat → Nat) → FC → Option Nat × (Nat → Nat) × FC
  | 0, _, q, D => (none, q, D)
  | k + 1, p, q, D => if p < n then
      (match (rdN tx n (nof (oI (letO tx n p))) (p + 1) q).1 with
        | none => (some p, (rdN tx n (nof (oI (letO tx n p))) (p + 1) q).2, D)
        | some p' => if (putO (oI (letO tx n p)) (rdN tx n (nof (oI (letO tx n p))) (p + 1) q).2 D).1 = true
            then rdA tx n k p' (rdN tx n (nof (oI (letO tx n p))) (p + 1) q).2 (putO (oI (letO tx n p)) (rdN tx n (nof (oI (letO tx n p))) (p + 1) q).2 D).2
            else (some p, (rdN tx n (nof (oI (letO tx n p))) (p + 1) q).2, (putO (oI (letO tx n p)) (rdN tx n (nof (oI (letO tx n p))) (p + 1) q).2 D).2))
      else (none, q, D)


theorem rdA_none {tx : Nat → Nat} {n k p : Nat} {q : Nat → Nat} {D : FC} (h : p < n) (h1 : (rdN tx n (nof (oI (letO tx n p))) (p + 1) q).1 = none) : rdA tx n (k + 1) p q D = (some p, (rdN tx n (nof (oI (letO tx n p))) (p + 1) q).2, D) := by rw [rdA, if_pos h, h1]
theorem rdA_bad {tx : Nat → Nat} {n k p p2 : Nat} {q : Nat → Nat} {D : FC} (h : p < n) (h1 : (rdN tx n (nof (oI (letO tx n p))) (p + 1) q).1 = some p2) (h2 : (putO (oI (letO tx n p)) (rdN tx n (nof (oI (letO tx n p))) (p + 1) q).2 D).1 = false) : rdA tx n (k + 1) p q D = (some p, (rdN tx n (nof (oI (letO tx n p))) (p + 1) q).2, (putO (oI (letO tx n p)) (rdN tx n (nof (oI (letO tx n p))) (p + 1) q).2 D).2) := by
  rw [rdA, if_pos h, h1]; exact if_neg (by rw [h2]; decide)
theorem rdA_ok {tx : Nat → Nat} {n k p p2 : Nat} {q : Nat → Nat} {D : FC} (h : p < n) (h1 : (rdN tx n (nof (oI (letO tx n p))) (p + 1) q).1 = some p2) (h2 : (putO (oI (letO tx n p)) (rdN tx n (nof (oI (letO tx n p))) (p + 1) q).2 D).1 = true) : rdA tx n (k + 1) p q D = rdA tx n k p2 (rdN tx n (nof (oI (letO tx n p))) (p + 1) q).2 (putO (oI (letO tx n p)) (rdN tx n (nof (oI (letO tx n p))) (p + 1) q).2 D).2 := by
  rw [rdA, if_pos h, h1]; exact if_pos h2
theorem rdA_end {tx : Nat → Nat} {n k p : Nat} {q : Nat → Nat} {D : FC} (h : ¬ p < n) : rdA tx n k p q D = (none, q, D) := by
  cases k with
  | zero => rfl
  | succ k => rw [rdA, if_neg h]
theorem sV_id (C : FC) : mkFC (cF C) (cN C) (cG C) (cY C) (cT C) (cK C) (cA C) (cB C) (cP C) (cV C) (cW C) = C := rfl

