
theorem sy_no1 {x0 x1 x2 x3 : Int32} (hx : (win x0 (nI 0) (nI 4) && win x1 (nI 0) (nI 11) && (decide (x0 = 0) || win x2 (nI 0) (nI 11)) && win x3 (nI 0) (nI 5)) = false) (h : x0 = 0) : (win x0 (nI 0) (nI 4) && win x1 (nI 0) (nI 11) && win (nI 0) (nI 0) (nI 11) && win x3 (nI 0) (nI 5)) = false := by
  rw [decide_eq_true h, Bool.true_or, Bool.and_true] at hx
  rw [show win (nI 0) (nI 0) (nI 11) = true from by decide, Bool.and_true]
  exact hx
theorem sy_no2 {x0 x1 x2 x3 : Int32} (hx : (win x0 (nI 0) (nI 4) && win x1 (nI 0) (nI 11) && (decide (x0 = 0) || win x2 (nI 0) (nI 11)) && win x3 (nI 0) (nI 5)) = false) (h : ¬ x0 = 0) : (win x0 (nI 0) (nI 4) && win x1 (nI 0) (nI 11) && win x2 (nI 0) (nI 11) && win x3 (nI 0) (nI 5)) = false := by
  rw [decide_eq_false h, Bool.false_or] at hx
  exact hx
theorem sy_yes {k q q2 p : Nat} (hk : k < 5) (hq : q < 12) (hq2 : q2 < 12) (hp : p < 6) : (win (nI k) (nI 0) (nI 4) && win (nI q) (nI 0) (nI 11) && win (nI q2) (nI 0) (nI 11) && win (nI p) (nI 0) (nI 5)) = true := by
  rw [win_y (by omega) (by omega) (by decide), win_y (by omega) (by omega) (by decide), win_y (by omega) (by omega) (by decide), win_y (by omega) (by omega) (by decide)]; rfl
theorem c_X5_mostPairs_m (l : Launch) (E : EV) (a : Nat → Nat) (C : FC) (free : Nat) (hC : FO C) (hfr : free < 512) : KI l yX5_mostPairs wsX5_mostPairs (rmN (cN C + 3)) E (σ := Unit) [.ref (a 0), .int (nI free), .int (nI 0)] (fw E a C) (fun _ => True) (fun _ => nI (mpF C (cN C) free 0)) (fun _ => fw E a C) 0 0 := c_X5_mostPairs l E a C hC (cN C) 0 free (by omega) hfr
theorem fir_n {D : FC} (h9 : cN D ≤ 9) {t : Nat} (h : firO D = some t) : t < 2 ^ 31 := by
  have := (fst_some h).2.1; omega
theorem fir_m {D : FC} (h9 : cN D ≤ 9) {s : Nat} (h : firO D = some s) : ∃ t, mateO D s = some t ∧ t < 9 ∧ s < cN D ∧ faV D = nI (10 * s + t) := by
  obtain ⟨-, h2, h3, h4⟩ := fst_some h
  obtain ⟨t, ht⟩ := Option.isSome_iff_exists.mp h3
  have ht9 := (mate_lt ht).2.1
  refine ⟨t, ht, by omega, by omega, ?_⟩
  rw [faV, h]; show (match mateO D s with | none => _ | some t => _) = _; rw [ht]
theorem SO_serN {C : FC} (h : SO C) : ∀ k, SO (serN C k)
  | 0 => h
  | k + 1 => ⟨FO_serC (SO_serN h k).1, (SO_serN h k).2⟩
theorem serN_N (C : FC) : ∀ k, cN (serN C k) = cN C
  | 0 => rfl
  | k + 1 => by rw [serN, serC_N, serN_N C k]
theorem serN_DI {C : FC} {m : Nat} (h : DI C m) : ∀ k, SO (serN C k) ∧ VY (serN C k) ∧ cY (serN C k) ≤ m + k
  | 0 => ⟨h.1, h.2.1, h.2.2.2⟩
  | k + 1 => by
    obtain ⟨a, b, c⟩ := serN_DI h k
    exact ⟨⟨FO_serC a.1, a.2⟩, VY_ser b, by rw [serN, serC_Y]; omega⟩
/-- LieForce's own way to the truest -/
def trX (C : FC) : Nat → Int32 × Nat
  | 0 => (-1, 0)
  | k + 1 => if (trX C k).1 < nI (pop (soM C k)) then (nI (pop (soM C k)), k) else trX C k
theorem trX_lt (C : FC) : ∀ k, k ≤ 64 → (trX C k).2 < 64
  | 0, _ => (by show 0 < 64; decide)
  | k + 1, h => by
    have := trX_lt C k (by omega)
    rw [trX]; split
    · exact h
    · exact this

