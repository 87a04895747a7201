
def Z0 : Nat → Nat := fun _ => 0
theorem rdL_q {tx : Nat → Nat} {n due : Nat} : ∀ k i p q q2, (rdL tx n due k i p q).1 = (rdL tx n due k i p q2).1 ∧ ∀ p2, (rdL tx n due k i p q).1 = some p2 → ∀ j, ((i ≤ j ∧ j < i + k) ∨ q j = q2 j) → (rdL tx n due k i p q).2 j = (rdL tx n due k i p q2).2 j
  | 0, i, p, q, q2 => ⟨rfl, fun p2 _ j hj => by
      rcases hj with hj | hj
      · omega
      · exact hj⟩
  | k + 1, i, p, q, q2 => by
    rw [rdL, rdL]
    by_cases c : figs tx n p = 0
    · rw [if_pos c, if_pos c]; exact ⟨rfl, fun p2 h => by cases h⟩
    · rw [if_neg c, if_neg c]
      by_cases c2 : letO tx n (p + figs tx n p) = some (if i + 1 < due then 44 else 59)
      · rw [if_pos c2, if_pos c2]
        obtain ⟨a, b⟩ := rdL_q k (i + 1) (p + figs tx n p + 1) (va_up q i (numAt tx n p)) (va_up q2 i (numAt tx n p))
        refine ⟨a, fun p2 h j hj => b p2 h j ?_⟩
        by_cases e : j = i
        · subst e; exact Or.inr (by rw [va_up_self, va_up_self])
        · rcases hj with hj | hj
          · exact Or.inl (by omega)
          · exact Or.inr (by rw [va_up_ne _ _ e, va_up_ne _ _ e]; exact hj)
      · rw [if_neg c2, if_neg c2]; exact ⟨rfl, fun p2 h => by cases h⟩
theorem nq_ok {tx : Nat → Nat} {n due p : Nat} {q : Nat → Nat} {u : Nat × (Nat → Nat)} (hu : ∀ p2, (rdL tx n due due 0 p q).1 = some p2 → u.1 = p2 ∧ u.2 = (rdL tx n due due 0 p q).2) (c : (rdL tx n due due 0 p q).1.isSome = true) : (rdL tx n due due 0 p Z0).1 = some u.1 ∧ ∀ j, j < due → u.2 j = (rdL tx n due due 0 p Z0).2 j ∧ u.2 j < 100 := by
  obtain ⟨p2, hp2⟩ := Option.isSome_iff_exists.mp c
  obtain ⟨h1, h2⟩ := hu p2 hp2
  obtain ⟨a, b⟩ := rdL_q (tx := tx) (n := n) (due := due) due 0 p q Z0
  refine ⟨by rw [← a, hp2, h1], fun j hj => ?_⟩
  have e := b p2 hp2 j (Or.inl ⟨Nat.zero_le _, by omega⟩)
  have l := (rdL_ok (tx := tx) (n := n) (due := due) due 0 p Z0 (fun _ => (by show 0 < 100; decide))).1 j
  rw [h2, e]; exact ⟨rfl, l⟩
theorem nq_no {tx : Nat → Nat} {n due p : Nat} {q : Nat → Nat} (c : (rdL tx n due due 0 p q).1.isSome = false) : (rdL tx n due due 0 p Z0).1 = none := by
  rw [← (rdL_q (tx := tx) (n := n) (due := due) due 0 p q Z0).1]
  cases h : (rdL tx n due due 0 p q).1 with
  | none => rfl
  | some v => rw [h] at c; cases c
/-- the row that is read tells D; none has served -/
def RR (D : FC) (z : Nat → Int32) : Prop := RB D z ∧ ∀ s, s < cN D → z (40 + s) = -1
theorem RR_turn {D : FC} {z : Nat → Int32} {f : Nat} (h : RR D z) (hf : f < 6) : RR (turnF D f) (va_up z 0 (nI (cF D ^^^ 1 <<< f))) := by
  rw [turnF, if_pos hf]
  refine ⟨RB_sV (RB_tu h.1), fun s hs => ?_⟩
  rw [va_up_ne _ _ (by omega)]
  exact h.2 s hs
theorem RR_add {D : FC} {z : Nat → Int32} {k a b p : Nat} (h : RR D z) (h9 : cN D < 9) : RR (addC D k a b p) (putR z (cN D) k a b p) := by
  refine ⟨RB_put h9 h.1, fun s hs => ?_⟩
  rw [add_N] at hs
  by_cases q : s = cN D
  · subst q; unfold putR; rw [va_up_ne _ _ (by omega), va_up_self]
  · rw [putR_o (by omega) (by omega) (by omega) (by omega) (by omega) (by omega)]; exact h.2 s (by omega)
theorem RR_sT {D : FC} {z : Nat → Int32} {t : Nat} (h : RR D z) : RR (sT D t) z := by
  obtain ⟨⟨a, b, c, d, g⟩, e⟩ := h
  have e0 : cF (sT D t) = cF D := rfl
  have e1 : cY (sT D t) = cY D := rfl
  have e2 : cN (sT D t) = cN D := rfl
  have e3 : cG (sT D t) = cG D := rfl
  have e4 : cK (sT D t) = cK D := rfl
  have e5 : cA (sT D t) = cA D := rfl
  have e6 : cB (sT D t) = cB D := rfl
  have e7 : cP (sT D t) = cP D := rfl
  unfold RR RB
  rw [e0, e1, e2, e3, e4, e5, e6, e7]
  exact ⟨⟨a, b, c, d, g⟩, e⟩
def NQ (M : MV) (due : Nat) : Option Nat × (Nat → Nat) := rdL (mX M) (mL M) due due 0 (mI M) Z0

