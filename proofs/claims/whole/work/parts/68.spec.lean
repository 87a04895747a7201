
/-! the class and the reference answer the same -/
theorem sub_le {j m : Nat} (hj : j < 2 ^ 31) (h : andn j m = 0) : j ≤ m := by
  have e : j &&& m = j := by
    apply Nat.eq_of_testBit_eq
    intro i
    rw [Nat.testBit_and]
    have h2 := andn_bit m hj i
    rw [h, Nat.zero_testBit] at h2
    cases q : j.testBit i with
    | false => rfl
    | true => rw [q] at h2; cases q2 : m.testBit i with
      | true => rfl
      | false => rw [q2] at h2; cases h2
  rw [← e]; exact Nat.and_le_right
theorem minN_ext {i : Option Nat} {p : Nat → Bool} {a : Nat} : ∀ d, (∀ j, a ≤ j → j < a + d → p j = false) → minN i p (a + d) = minN i p a
  | 0, _ => rfl
  | d + 1, h => by
    rw [← Nat.add_assoc, minN, h (a + d) (by omega) (by omega)]
    exact minN_ext d fun j h1 h2 => h j h1 (by omega)
theorem sh_pw (k : Nat) : 1 <<< k = 2 ^ k := Nat.one_shiftLeft k
theorem st_pw {C : FC} (h9 : cN C ≤ 9) : stM C + 1 ≤ 1 <<< cN C ∧ 1 <<< cN C ≤ 512 := by
  have h := andn_lt (n := cN C) (cG C) (full_lt (Nat.le_refl (cN C))) (by omega)
  have h2 : 2 ^ cN C ≤ 2 ^ 9 := Nat.pow_le_pow_right (by decide) h9
  rw [sh_pw]
  exact ⟨by unfold stM; rw [sh_pw] at h ⊢; omega, h2⟩
theorem mn_all {C : FC} (h9 : cN C ≤ 9) {i : Option Nat} {p : Nat → Bool} (hp : ∀ j, j < 512 → ¬ andn j (stM C) = 0 → p j = false) : minN i p (1 <<< cN C) = minN i p (stM C + 1) := by
  obtain ⟨h1, h2⟩ := st_pw h9
  obtain ⟨d, hd⟩ : ∃ d, 1 <<< cN C = (stM C + 1) + d := ⟨1 <<< cN C - (stM C + 1), by omega⟩
  rw [hd]
  exact minN_ext d fun j h3 h4 => hp j (by omega) fun e => by
    have := sub_le (m := stM C) (show j < 2 ^ 31 by omega) e
    omega
theorem E_core {C : FC} (h9 : cN C ≤ 9) : oI (minN none (coreP C) (stM C + 1)).1 = bI1 (coreP C) (1 <<< cN C) := by
  rw [bI1, mn_all h9 (fun j _ h => by rw [coreP, decide_eq_false h]; rfl)]
theorem mn_two {i1 i2 : Option Nat} {p : Nat → Bool} : ∀ k, (minN i1 p k).2 = (minN i2 p k).2 ∧ ((minN i1 p k).1 = (minN i2 p k).1 ∨ (minN i1 p k).2 = 10)
  | 0 => ⟨rfl, Or.inr rfl⟩
  | k + 1 => by
    obtain ⟨a, b⟩ := mn_two (i1 := i1) (i2 := i2) (p := p) k
    rw [minN, minN, ← a]
    by_cases c : (p k && decide (pop k < (minN i1 p k).2)) = true
    · rw [if_pos c, if_pos c]; exact ⟨rfl, Or.inl rfl⟩
    · rw [if_neg c, if_neg c]; exact ⟨a, b⟩
theorem mn_le {i : Option Nat} {p : Nat → Bool} {j : Nat} (hp : p j = true) : ∀ d, (minN i p (j + 1 + d)).2 ≤ pop j
  | 0 => by
    show (minN i p (j + 1)).2 ≤ pop j
    rw [minN, hp]
    by_cases c : pop j < (minN i p j).2
    · rw [decide_eq_true c]; exact Nat.le_refl _
    · rw [decide_eq_false c]; exact Nat.le_of_not_lt c
  | d + 1 => by
    have h := mn_le (i := i) hp d
    rw [← Nat.add_assoc, minN]
    by_cases c : (p (j + 1 + d) && decide (pop (j + 1 + d) < (minN i p (j + 1 + d)).2)) = true
    · rw [if_pos c]
      simp only [Bool.and_eq_true, decide_eq_true_eq] at c
      exact Nat.le_trans (Nat.le_of_lt c.2) h
    · rw [if_neg c]; exact h
theorem andn_self (m : Nat) : andn m m = 0 := by
  apply Nat.eq_of_testBit_eq
  intro i
  rw [andn, bitsOf_bit, Nat.zero_testBit]
  cases m.testBit i <;> simp
theorem andB_0 (C : FC) : andB C 0 = true := by
  have h : ∀ k, andW C 0 k = 18446744073709551615 := fun k => by
    induction k with
    | zero => rfl
    | succ k ih => rw [andW, if_neg (by rw [Nat.zero_testBit]; decide), ih]
  rw [andB, h]; rfl
theorem E_cut {C : FC} (h9 : cN C ≤ 9) : oI (minN (some (stM C)) (cutP C) (stM C + 1)).1 = bI1 (cutP C) (1 <<< cN C) := by
  rw [bI1, mn_all h9 (fun j _ h => by rw [cutP, decide_eq_false h]; rfl)]
  congr 1
  rcases (mn_two (i1 := some (stM C)) (i2 := none) (p := cutP C) (stM C + 1)).2 with h | h
  · exact h
  · exfalso
    have hc : cutP C (stM C) = true := by rw [cutP, andn_self, andB_0]; rfl
    have h2 := mn_le (i := some (stM C)) hc 0
    have h3 := pop9 _ (stM_lt h9)
    rw [show stM C + 1 + 0 = stM C + 1 from rfl, h] at h2
    omega
theorem tr_k {C : FC} (h9 : cN C ≤ 9) : ∀ k, trX C (k + 1) = (nI (pop (soM C (trW C (k + 1)))), trW C (k + 1))
  | 0 => by
    have h0 := pop9 _ (soM_lt h9 0)
    have e : trW C 1 = 0 := by rw [trW]; split <;> rfl
    rw [e, trX]
    exact if_pos (show (trX C 0).1 < nI (pop (soM C 0)) from neg1_lt (by omega))
  | k + 1 => by
    have h1 := pop9 _ (soM_lt h9 (trW C (k + 1)))
    have h2 := pop9 _ (soM_lt h9 (k + 1))
    have e1 : trX C (k + 1 + 1) = if (trX C (k + 1)).1 < nI (pop (soM C (k + 1))) then (nI (pop (soM C (k + 1))), k + 1) else trX C (k + 1) := rfl
    have e2 : trW C (k + 1 + 1) = if pop (soM C (trW C (k + 1))) < pop (soM C (k + 1)) then k + 1 else trW C (k + 1) := rfl
    rw [e1, tr_k h9 k]
    by_cases c : pop (soM C (trW C (k + 1))) < pop (soM C (k + 1))
    · rw [e2, if_pos c]; exact if_pos ((nI_ltI (by omega) (by omega)).mpr c)
    · rw [e2, if_neg c]; exact if_neg (fun z => c ((nI_ltI (by omega) (by omega)).mp z))
theorem E_truest {C : FC} (h9 : cN C ≤ 9) (q : Nat) : (if q = 0 then (trX C 64).1 else nI (trX C 64).2) = nI (if q = 0 then pop (soM C (trW C 64)) else trW C 64) := by
  rw [tr_k h9 63]
  by_cases c : q = 0
  · rw [if_pos c, if_pos c]
  · rw [if_neg c, if_neg c]
theorem fst_is {p : Nat → Bool} {k j : Nat} (hj : j < k) (hp : p j = true) (hno : ∀ i, i < j → p i = false) : fst p 0 k = some j := by
  cases h : fst p 0 k with
  | none => have := fst_none h j (Nat.zero_le _) (by omega); rw [hp] at this; cases this
  | some t =>
    obtain ⟨-, h2, h3, h4⟩ := fst_some h
    by_cases q : t < j
    · rw [hno t q] at h3; cases h3
    · by_cases q2 : j < t
      · have := h4 j (Nat.zero_le _) q2; rw [hp] at this; cases this
      · rw [show t = j by omega]
theorem fst_up {p : Nat → Bool} {k j : Nat} (h : fst p 0 k = some j) : fst p 0 (k + 1) = some j := by
  obtain ⟨-, h2, h3, h4⟩ := fst_some h
  exact fst_is (by omega) h3 fun i hi => h4 i (Nat.zero_le _) hi
theorem bs_up {h : Nat → Nat} {w : Nat} : ∀ k, h w ≤ bsF true h w k ∧ ∀ j, j < k → h (w ^^^ 1 <<< j) ≤ bsF true h w k
  | 0 => ⟨Nat.le_refl _, fun j hj => absurd hj (Nat.not_lt_zero _)⟩
  | k + 1 => by
    obtain ⟨a, b⟩ := bs_up (h := h) (w := w) k
    rw [bsF, if_pos rfl]
    refine ⟨Nat.le_trans a (Nat.le_max_left _ _), fun j hj => ?_⟩
    by_cases q : j = k
    · subst q; exact Nat.le_max_right _ _
    · exact Nat.le_trans (b j (by omega)) (Nat.le_max_left _ _)
theorem tr_fst {h : Nat → Nat} {w : Nat} : ∀ k, (bsF true h w k = h w → trF h w k = none) ∧ (¬ bsF true h w k = h w → (trF h w k).isSome = true ∧ trF h w k = fst (fun f => decide (h (w ^^^ 1 <<< f) = bsF true h w k)) 0 k)
  | 0 => ⟨fun _ => rfl, fun e => absurd rfl e⟩
  | k + 1 => by
    obtain ⟨a, b⟩ := tr_fst (h := h) (w := w) k
    obtain ⟨u1, u2⟩ := bs_up (h := h) (w := w) k
    by_cases c : bsF true h w k < h (w ^^^ 1 <<< k)
    · have e : bsF true h w (k + 1) = h (w ^^^ 1 <<< k) := by rw [bsF, if_pos rfl, Nat.max_eq_right (Nat.le_of_lt c)]
      have t : trF h w (k + 1) = some k := by rw [trF, if_pos c]
      rw [e, t]
      refine ⟨fun q => absurd q (by omega), fun _ => ⟨rfl, (fst_is (Nat.lt_succ_self k) (decide_eq_true rfl) fun i hi => decide_eq_false ?_).symm⟩⟩
      have := u2 i hi; omega
    · have e : bsF true h w (k + 1) = bsF true h w k := by rw [bsF, if_pos rfl, Nat.max_eq_left (Nat.le_of_not_lt c)]
      have t : trF h w (k + 1) = trF h w k := by rw [trF, if_neg c]
      rw [e, t]
      refine ⟨a, fun q => ?_⟩
      obtain ⟨b1, b2⟩ := b q
      obtain ⟨j, hj⟩ := Option.isSome_iff_exists.mp b1
      exact ⟨b1, by rw [hj] at b2 ⊢; exact (fst_up b2.symm).symm⟩
theorem E_trial {C : FC} {n p w : Nat} (hn : 1 ≤ n) : (if p = 0 then nI (lvF C n n w) else oI (fmO (mkGC (lvF C n (n - 1)) (lvF C n n)) w)) = (if p = 0 then nI (lvF C n n w) else oI (trF (lvF C n (n - 1)) w 6)) := by
  by_cases c : p = 0
  · rw [if_pos c, if_pos c]
  · rw [if_neg c, if_neg c]
    congr 1
    have e : lvF C n n w = bsF true (lvF C n (n - 1)) w 6 := by
      obtain ⟨m, rfl⟩ : ∃ m, n = m + 1 := ⟨n - 1, by omega⟩
      rw [lvF, Nat.sub_self]; rfl
    obtain ⟨a, b⟩ := tr_fst (h := lvF C n (n - 1)) (w := w) 6
    unfold fmO
    show (if lvF C n (n - 1) w = lvF C n n w then none else fst (fun f => decide (lvF C n (n - 1) (w ^^^ 1 <<< f) = lvF C n n w)) 0 6) = _
    rw [e]
    by_cases q : lvF C n (n - 1) w = bsF true (lvF C n (n - 1)) w 6
    · rw [if_pos q, a q.symm]
    · rw [if_neg q, (b (fun z => q z.symm)).2]
/-! worlds as they were seen -/
theorem not_bit {v w : Nat} (hv : v < 2 ^ 64) (hw : w < 64) : (2 ^ 64 - (v + 1)).testBit w = !v.testBit w := by
  rw [Nat.testBit_two_pow_sub_succ hv, decide_eq_true hw, Bool.true_and]
theorem pl_bit {C : FC} (hC : FO C) {s w : Nat} (hw : w < 64) : (plW C s).testBit w = (lieM C w).testBit s := by
  rw [lieM_bit, plW]
  by_cases c : s < cN C
  · have hW := (hC.2.2.2.2 s c).2
    rw [decide_eq_true c, Bool.true_and, Bool.true_and, liB]
    cases (cG C).testBit s with
    | true => simp
    | false => simp only [Bool.not_false, if_true, Bool.true_and]; exact not_bit hW hw
  · rw [decide_eq_false c]; simp
theorem as_bit {C : FC} {S : SC} (hC : FO C) {w : Nat} (hw : w < 64) : ∀ k, (asW C S k).testBit w = isWo C S w k
  | 0 => by
    rw [asW, isWo, show (18446744073709551615 : Nat) = 2 ^ 64 - (0 + 1) from rfl, not_bit (by decide) hw, Nat.zero_testBit]; rfl
  | k + 1 => by
    rw [asW, isWo, Nat.testBit_and, as_bit hC hw k]
    congr 1
    have hp := plW_lt C (hS S k) hC.2.2.2.2
    cases q : hH S k with
    | true => rw [if_pos rfl, pl_bit hC hw]; simp
    | false => rw [if_neg (by decide), not_bit hp hw, pl_bit hC hw]; simp
theorem as_wo {C : FC} {S : SC} (hC : FO C) : ∀ w, w < 64 → (asW C S (hN S)).testBit w = woB C S w := fun w hw => as_bit hC hw _
theorem fst_congr {p q : Nat → Bool} : ∀ k i, (∀ j, i ≤ j → j < i + k → p j = q j) → fst p i k = fst q i k
  | 0, _, _ => rfl
  | k + 1, i, h => by
    rw [fst, fst, h i (Nat.le_refl _) (by omega), fst_congr k (i + 1) fun j h1 h2 => h j (by omega) (by omega)]
theorem E_worlds {C : FC} {S : SC} (hC : FO C) (q : Nat) : (if q = 0 then nI (cnt (asW C S (hN S)).testBit 64) else oI (fst (asW C S (hN S)).testBit 0 64)) = (if q = 0 then nI (cnt (woB C S) 64) else oI (fst (woB C S) 0 64)) := by
  rw [cnt_congr (as_wo hC), fst_congr 64 0 (fun j _ hj => as_wo hC j (by omega))]
theorem z_bits {v : Nat} (hv : v < 2 ^ 64) : v = 0 ↔ ∀ w, w < 64 → v.testBit w = false := by
  constructor
  · intro h w _; subst h; exact Nat.zero_testBit w
  · intro h
    apply Nat.eq_of_testBit_eq
    intro i
    rw [Nat.zero_testBit]
    by_cases q : i < 64
    · exact h i q
    · exact tb_hi hv (by omega)
theorem any_n {p : Nat → Bool} {k : Nat} (h : anyB p k = false) : ∀ j, j < k → p j = false := fun j hj => by
  cases q : p j with
  | false => rfl
  | true => rw [any_t hj q] at h; cases h
theorem any_y {p : Nat → Bool} {k : Nat} (h : anyB p k = true) : ∃ j, j < k ∧ p j = true := by
  by_cases q : ∃ j, j < k ∧ p j = true
  · exact q
  · have := any_f (p := p) (k := k) fun j hj => by
      cases r : p j with
      | false => rfl
      | true => exact absurd ⟨j, hj, r⟩ q
    rw [h] at this; cases this
theorem E_must {C : FC} {S : SC} (hC : FO C) {f : Nat} (hf : f < 6) : mustX (asW C S (hN S)) f = mustV C S f := by
  have hw := asW_lt C S (hN S)
  have hb := as_wo (C := C) (S := S) hC
  generalize asW C S (hN S) = W at hw hb
  have hlb : ∀ w, w < 64 → (wol f).testBit w = w.testBit f := fun w h => by rw [wol_bit f (by omega) w h, if_pos hf]
  have ha : W &&& wol f < 2 ^ 64 := Nat.lt_of_le_of_lt Nat.and_le_left hw
  rw [mustX, mustV]
  cases h1 : anyB (fun w => woB C S w && w.testBit f) 64 with
  | false =>
    have n1 := any_n h1
    have e0 : W &&& wol f = 0 := (z_bits ha).mpr fun w h => by
      have := n1 w h
      rw [Nat.testBit_and, hb w h, hlb w h]; exact this
    rw [if_neg (show ¬ (false = true) by decide), e0]
    cases h2 : anyB (fun w => woB C S w && !w.testBit f) 64 with
    | false =>
      have n2 := any_n h2
      have ez : W = 0 := (z_bits hw).mpr fun w h => by
        have a1 := n1 w h
        have a2 := n2 w h
        rw [hb w h]
        cases q : woB C S w with
        | false => rfl
        | true => simp only [q, Bool.true_and] at a1 a2; rw [a1] at a2; cases a2
      rw [if_pos ez, if_neg (show ¬ (false = true) by decide)]
    | true =>
      obtain ⟨w, hw1, hw2⟩ := any_y h2
      have ez : ¬ W = 0 := fun e => by
        have := (z_bits hw).mp e w hw1
        rw [hb w hw1] at this
        simp [this] at hw2
      rw [if_neg ez, if_neg (fun e => ez e.symm), if_pos rfl, if_pos rfl]
  | true =>
    obtain ⟨w1, hw1, hw2⟩ := any_y h1
    simp only [Bool.and_eq_true] at hw2
    have ez : ¬ W = 0 := fun e => by
      have := (z_bits hw).mp e w1 hw1
      rw [hb w1 hw1, hw2.1] at this; cases this
    have en : ¬ W &&& wol f = 0 := fun e => by
      have := (z_bits ha).mp e w1 hw1
      rw [Nat.testBit_and, hb w1 hw1, hlb w1 hw1, hw2.1, hw2.2] at this; cases this
    rw [if_neg ez, if_neg en, if_pos rfl]
    cases h2 : anyB (fun w => woB C S w && !w.testBit f) 64 with
    | false =>
      have n2 := any_n h2
      have ew : W &&& wol f = W := by
        apply Nat.eq_of_testBit_eq
        intro i
        rw [Nat.testBit_and]
        by_cases q : i < 64
        · have := n2 i q
          rw [hb i q, hlb i q]
          cases r : woB C S i with
          | false => rfl
          | true => simp only [r, Bool.true_and] at this; cases r2 : i.testBit f with
            | true => rfl
            | false => rw [r2] at this; cases this
        · rw [tb_hi hw (by omega)]; rfl
      rw [if_pos ew, if_neg (show ¬ (false = true) by decide)]
    | true =>
      obtain ⟨w, hw3, hw4⟩ := any_y h2
      simp only [Bool.and_eq_true, Bool.not_eq_true'] at hw4
      have ew : ¬ W &&& wol f = W := fun e => by
        have := congrArg (fun z => z.testBit w) e
        simp only [Nat.testBit_and] at this
        rw [hb w hw3, hlb w hw3, hw4.1, hw4.2] at this; cases this
      rw [if_neg ew, if_pos rfl]
def lxP (o : Option (Nat × Nat)) : Nat × Option Nat := match o with
  | none => (7, none)
  | some q => (q.1, some q.2)
theorem lx_li {C : FC} {S : SC} (hC : FO C) : ∀ k, k ≤ 64 → lxX C (asW C S (hN S)) k = lxP (liaN C S k)
  | 0, _ => rfl
  | k + 1, h => by
    have ih := lx_li (C := C) (S := S) hC k (by omega)
    have hp := pop6 _ (liM_lt (C := C) k (k := cN C) (fun i hi => (hC.2.2.2.2 i hi).1))
    rw [lxX, liaN, ih, as_wo hC k (by omega)]
    cases q : liaN C S k with
    | none =>
      have e : decide (pop (liM C k (cN C)) < (lxP none).1) = true := decide_eq_true (show _ < 7 by omega)
      rw [e]
      cases woB C S k <;> rfl
    | some z =>
      show (if woB C S k && decide (pop (liM C k (cN C)) < z.1) then _ else _) = lxP (if woB C S k && decide (pop (liM C k (cN C)) < z.1) then _ else _)
      cases (woB C S k && decide (pop (liM C k (cN C)) < z.1)) <;> rfl
theorem E_liars {C : FC} {S : SC} (hC : FO C) (q : Nat) : (if (lxX C (asW C S (hN S)) 64).2 = none then -4 else if q = 0 then nI (lxX C (asW C S (hN S)) 64).1 else oI (lxX C (asW C S (hN S)) 64).2) = (if q = 0 then liF C S 64 else liW C S 64) := by
  rw [lx_li hC 64 (Nat.le_refl _), liF, liW]
  cases liaN C S 64 with
  | none => simp [lxP]
  | some z => simp [lxP, oI]
theorem sy_y {C : FC} {s w : Nat} (hw : w < 7) : syV C s (nI w) = sayV C s w := by
  have e : ∀ a b, a < 7 → b < 7 → (nI a = nI b ↔ a = b) := fun a b h1 h2 => nI_eq (by omega) (by omega)
  have c : w = 0 ∨ w = 1 ∨ w = 2 ∨ w = 3 ∨ w = 4 ∨ w = 5 ∨ w = 6 := by omega
  rcases c with rfl | rfl | rfl | rfl | rfl | rfl | rfl <;> rfl
theorem sy_n {C : FC} {s : Nat} {x : Int32} (h : win x (nI 0) (nI 6) = false) : syV C s x = -1 := by
  have e : ∀ v, v < 7 → ¬ x = nI v := fun v hv q => by
    rw [q, win_y (Nat.zero_le _) (by omega) (by decide)] at h; cases h
  rw [syV, if_neg (e 0 (by decide)), if_neg (e 1 (by decide)), if_neg (e 2 (by decide)), if_neg (e 3 (by decide)), if_neg (e 4 (by decide)), if_neg (e 5 (by decide)), if_neg (e 6 (by decide))]

