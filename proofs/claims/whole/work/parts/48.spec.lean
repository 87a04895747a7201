
theorem ni_ne {x : Int32} {v : Nat} (hv : v < 2 ^ 31) (h : ¬ x = nI v) : ¬ (v : Int) = x.toInt := fun e => h (Int32.toInt_inj.mp (by rw [nI_toInt hv]; exact e.symm))
theorem lk_out {x : Int32} {o1 o2 o3 d : Int} (h1 : ¬ x = nI 102) (h2 : ¬ x = nI 114) (h3 : ¬ x = nI 115) : Op.lookupswitch.offset [(102, o1), (114, o2), (115, o3)] d x.toInt = d := by
  refine (if_neg (show ¬ (102 : Int) = x.toInt from ni_ne (v := 102) (by decide) h1)).trans ((if_neg (show ¬ (114 : Int) = x.toInt from ni_ne (v := 114) (by decide) h2)).trans (if_neg (show ¬ (115 : Int) = x.toInt from ni_ne (v := 115) (by decide) h3)))
/-- the item at p: where the next one begins, and the force -/
def itO (tx : Nat → Nat) (n p : Nat) (D : FC) : Option (Nat × FC) :=
  match (rdN tx n (nof (oI (letO tx n p))) (p + 1) Z0).1 with
  | none => none
  | some p2 => if (putO (oI (letO tx n p)) (rdN tx n (nof (oI (letO tx n p))) (p + 1) Z0).2 D).1 = true then some (p2, (putO (oI (letO tx n p)) (rdN tx n (nof (oI (letO tx n p))) (p + 1) Z0).2 D).2) else none
def txA (tx : Nat → Nat) (n : Nat) : Nat → Nat → FC → Option Nat × FC
  | 0, _, D => (none, D)
  | k + 1, p, D => if p < n then (match itO tx n p D with
      | none => (some p, D)
      | some r => txA tx n k r.1 r.2) else (none, D)
theorem tx_end {tx : Nat → Nat} {n k p : Nat} {D : FC} (h : n ≤ p) : txA tx n k p D = (none, D) := by
  cases k with
  | zero => rfl
  | succ k => rw [txA, if_neg (by omega)]
theorem tx_bad {tx : Nat → Nat} {n k p : Nat} {D : FC} (h : p < n) (hk : 0 < k) (hi : itO tx n p D = none) : txA tx n k p D = (some p, D) := by
  obtain ⟨j, rfl⟩ : ∃ j, k = j + 1 := ⟨k - 1, by omega⟩
  rw [txA, if_pos h, hi]
theorem tx_ok {tx : Nat → Nat} {n k p : Nat} {D : FC} {r : Nat × FC} (h : p < n) (hk : 0 < k) (hi : itO tx n p D = some r) : txA tx n k p D = txA tx n (k - 1) r.1 r.2 := by
  obtain ⟨j, rfl⟩ : ∃ j, k = j + 1 := ⟨k - 1, by omega⟩
  rw [txA, if_pos h, hi]; rfl
theorem Z0_100 : ∀ z, Z0 z < 100 := fun _ => (by show 0 < 100; decide)
theorem it_some {tx : Nat → Nat} {n p : Nat} {D : FC} {r : Nat × FC} (h : itO tx n p D = some r) : (rdN tx n (nof (oI (letO tx n p))) (p + 1) Z0).1 = some r.1 ∧ (putO (oI (letO tx n p)) (rdN tx n (nof (oI (letO tx n p))) (p + 1) Z0).2 D).1 = true ∧ (putO (oI (letO tx n p)) (rdN tx n (nof (oI (letO tx n p))) (p + 1) Z0).2 D).2 = r.2 := by
  unfold itO at h
  cases e : (rdN tx n (nof (oI (letO tx n p))) (p + 1) Z0).1 with
  | none => rw [e] at h; cases h
  | some p2 =>
    rw [e] at h
    by_cases c : (putO (oI (letO tx n p)) (rdN tx n (nof (oI (letO tx n p))) (p + 1) Z0).2 D).1 = true
    · simp only [if_pos c] at h; cases h; exact ⟨rfl, c, rfl⟩
    · simp only [if_neg c] at h; cases h
theorem it_lt {tx : Nat → Nat} {n p : Nat} {D : FC} {r : Nat × FC} (h : itO tx n p D = some r) : p < r.1 ∧ r.1 ≤ n := by
  obtain ⟨h1, -, -⟩ := it_some h
  obtain ⟨a, b, c⟩ := (rdN_ok Z0_100).2 _ h1
  exact ⟨by omega, a⟩
theorem tx_lt {tx : Nat → Nat} {n : Nat} : ∀ k p D t, (txA tx n k p D).1 = some t → t < n
  | 0, _, _, _, h => by cases h
  | k + 1, p, D, t, h => by
    by_cases q : p < n
    · cases e : itO tx n p D with
      | none => rw [tx_bad q (by omega) e] at h; cases h; exact q
      | some r => rw [tx_ok q (by omega) e] at h; exact tx_lt k _ _ t h
    · rw [tx_end (by omega)] at h; cases h
/-- the force that is read -/
def RI (D : FC) : Prop := SO D ∧ cG D = 0 ∧ cY D = 0 ∧ ∀ s, s < cN D → cV D s = 0
theorem RI_em (C : FC) : RI (emC C) := ⟨⟨FO_emC C, fun s hs => absurd hs (Nat.not_lt_zero _)⟩, rfl, rfl, fun s hs => absurd hs (Nat.not_lt_zero _)⟩
theorem RI_tu {D : FC} {f : Nat} (h : RI D) : RI (turnF D f) := by
  obtain ⟨h1, h2, h3, h4⟩ := h
  by_cases q : f < 6
  · rw [turnF, if_pos q]
    refine ⟨⟨FO_tuC h1.1 q, h1.2⟩, h2, h3, fun s hs => ?_⟩
    rw [tuC_N] at hs
    rw [tuC_V, h4 s hs]; split <;> rfl
  · rw [turnF, if_neg q]; exact ⟨h1, h2, h3, h4⟩
theorem RI_sT {D : FC} {t : Nat} (h : RI D) (ht : t < 2 ^ 20) : RI (sT D t) := ⟨⟨⟨h.1.1.1, h.1.1.2.1, h.1.1.2.2.1, ht, h.1.1.2.2.2.2⟩, h.1.2⟩, h.2.1, h.2.2.1, h.2.2.2⟩
theorem RI_add {D : FC} {k a b p : Nat} (h : RI D) (hN : cN D < 9) (hk : k < 5) (ha : a < 12) (hb : b < 12) (hp : p < 6) : RI (addC D k a b p) := by
  refine ⟨SO_add h.1 hN hk ha hb hp, h.2.1, h.2.2.1, fun s hs => ?_⟩
  rw [add_N] at hs
  rw [add_V]
  by_cases q : s = cN D
  · subst q; rw [va_up_self]
  · rw [va_up_ne _ _ q]; exact h.2.2.2 s (by omega)
theorem RI_put {x : Int32} {q : Nat → Nat} {D : FC} (hq : ∀ z, q z < 100) (h : RI D) (ok : (putO x q D).1 = true) : RI (putO x q D).2 := by
  unfold putO at ok ⊢
  by_cases a : x = nI 102
  · rw [if_pos a] at ok ⊢; exact RI_tu h
  · rw [if_neg a] at ok ⊢
    by_cases b : x = nI 114
    · rw [if_pos b] at ok ⊢; exact RI_sT h (by have := hq 0; omega)
    · rw [if_neg b] at ok ⊢
      by_cases c : sayB q = true ∧ cN D < 9
      · rw [if_pos c]
        have h2 := c.1
        rw [sayB_ok hq] at h2
        simp only [Bool.and_eq_true, decide_eq_true_eq] at h2
        exact RI_add h c.2 h2.1.1.1 h2.1.1.2 h2.1.2 h2.2
      · rw [if_neg c]; exact h
theorem RI_it {tx : Nat → Nat} {n p : Nat} {D : FC} {r : Nat × FC} (hD : RI D) (h : itO tx n p D = some r) : RI r.2 := by
  obtain ⟨-, h2, h3⟩ := it_some h
  rw [← h3]; exact RI_put (rdN_ok Z0_100).1 hD h2
theorem RI_tx {tx : Nat → Nat} {n : Nat} : ∀ k p D, RI D → RI (txA tx n k p D).2
  | 0, _, _, h => h
  | k + 1, p, D, h => by
    by_cases q : p < n
    · cases e : itO tx n p D with
      | none => rw [tx_bad q (by omega) e]; exact h
      | some r => rw [tx_ok q (by omega) e]; exact RI_tx k _ _ (RI_it h e)
    · rw [tx_end (by omega)]; exact h
theorem rd1 {tx : Nat → Nat} {n p : Nat} {q : Nat → Nat} {k : Nat} (hk : 0 < k) : rdN tx n k p q = rdL tx n k k 0 p q := by rw [rdN, if_neg (by omega)]
theorem it_f {tx : Nat → Nat} {n p : Nat} {D : FC} (hl : letO tx n p = some 102) : (itO tx n p D).isSome = ((rdL tx n 1 1 0 (p + 1) Z0).1.isSome && decide ((rdL tx n 1 1 0 (p + 1) Z0).2 0 < 6)) ∧ ∀ u : MV, mM u = cT D → ((rdL tx n 1 1 0 (p + 1) Z0).1.isSome = true → (rdL tx n 1 1 0 (p + 1) Z0).2 0 < 6 → (rdL tx n 1 1 0 (p + 1) Z0).1 = some (mI u) ∧ RR (turnF D ((rdL tx n 1 1 0 (p + 1) Z0).2 0)) (mR u)) → ∀ r, itO tx n p D = some r → mI u = r.1 ∧ RR r.2 (mR u) ∧ mM u = cT r.2 := by
  have e1 : nof (oI (some 102)) = 1 := by decide
  have e2 : oI (some 102) = nI 102 := rfl
  constructor
  · unfold itO
    rw [hl, e1, rd1 (by decide), putO, if_pos e2]
    cases (rdL tx n 1 1 0 (p + 1) Z0).1 with
    | none => rfl
    | some p2 =>
      by_cases c : (rdL tx n 1 1 0 (p + 1) Z0).2 0 < 6
      · simp [c]
      · simp [c]
  · intro u hM hu r hr
    obtain ⟨h1, h2, h3⟩ := it_some hr
    rw [hl, e1, rd1 (by decide)] at h1 h2 h3
    rw [putO, if_pos e2] at h2 h3
    obtain ⟨g1, g2⟩ := hu (by rw [h1]; rfl) (of_decide_eq_true h2)
    refine ⟨Option.some.inj (g1.symm.trans h1), by rw [← h3]; exact g2, by rw [← h3]; exact hM.trans (turnF_T _ _).symm⟩
theorem it_r {tx : Nat → Nat} {n p : Nat} {D : FC} (hl : letO tx n p = some 114) : (itO tx n p D).isSome = ((rdL tx n 1 1 0 (p + 1) Z0).1.isSome && win (nI ((rdL tx n 1 1 0 (p + 1) Z0).2 0)) (nI 1) (nI 20)) ∧ ∀ u : MV, RR D (mR u) → ((rdL tx n 1 1 0 (p + 1) Z0).1.isSome = true → win (nI ((rdL tx n 1 1 0 (p + 1) Z0).2 0)) (nI 1) (nI 20) = true → (rdL tx n 1 1 0 (p + 1) Z0).1 = some (mI u) ∧ mM u = (rdL tx n 1 1 0 (p + 1) Z0).2 0) → ∀ r, itO tx n p D = some r → mI u = r.1 ∧ RR r.2 (mR u) ∧ mM u = cT r.2 := by
  have e1 : nof (oI (some 114)) = 1 := by decide
  have e3 : ¬ oI (some 114) = nI 102 := by decide
  have e2 : oI (some 114) = nI 114 := rfl
  constructor
  · unfold itO
    rw [hl, e1, rd1 (by decide), putO, if_neg e3, if_pos e2]
    cases (rdL tx n 1 1 0 (p + 1) Z0).1 with
    | none => rfl
    | some p2 =>
      cases c : win (nI ((rdL tx n 1 1 0 (p + 1) Z0).2 0)) (nI 1) (nI 20) with
      | true => simp
      | false => simp
  · intro u hR hu r hr
    obtain ⟨h1, h2, h3⟩ := it_some hr
    rw [hl, e1, rd1 (by decide)] at h1 h2 h3
    rw [putO, if_neg e3, if_pos e2] at h2 h3
    obtain ⟨g1, g2⟩ := hu (by rw [h1]; rfl) h2
    refine ⟨Option.some.inj (g1.symm.trans h1), by rw [← h3]; exact RR_sT hR, by rw [← h3]; exact g2⟩
theorem it_s {tx : Nat → Nat} {n p : Nat} {D : FC} (hl : letO tx n p = some 115) : (itO tx n p D).isSome = (decide (cN D < 9) && (rdL tx n 4 4 0 (p + 1) Z0).1.isSome && sayB (rdL tx n 4 4 0 (p + 1) Z0).2) ∧ ∀ u : MV, mM u = cT D → (cN D < 9 → (rdL tx n 4 4 0 (p + 1) Z0).1.isSome = true → sayB (rdL tx n 4 4 0 (p + 1) Z0).2 = true → (rdL tx n 4 4 0 (p + 1) Z0).1 = some (mI u) ∧ RR (addC D ((rdL tx n 4 4 0 (p + 1) Z0).2 0) ((rdL tx n 4 4 0 (p + 1) Z0).2 1) ((rdL tx n 4 4 0 (p + 1) Z0).2 2) ((rdL tx n 4 4 0 (p + 1) Z0).2 3)) (mR u)) → ∀ r, itO tx n p D = some r → mI u = r.1 ∧ RR r.2 (mR u) ∧ mM u = cT r.2 := by
  have e1 : nof (oI (some 115)) = 4 := by decide
  have e3 : ¬ oI (some 115) = nI 102 := by decide
  have e4 : ¬ oI (some 115) = nI 114 := by decide
  constructor
  · unfold itO
    rw [hl, e1, rd1 (by decide), putO, if_neg e3, if_neg e4]
    cases (rdL tx n 4 4 0 (p + 1) Z0).1 with
    | none => simp
    | some p2 =>
      cases c : sayB (rdL tx n 4 4 0 (p + 1) Z0).2 with
      | true =>
        by_cases d : cN D < 9
        · simp [d]
        · simp [d]
      | false => simp
  · intro u hM hu r hr
    obtain ⟨h1, h2, h3⟩ := it_some hr
    rw [hl, e1, rd1 (by decide)] at h1 h2 h3
    rw [putO, if_neg e3, if_neg e4] at h2 h3
    by_cases c : sayB (rdL tx n 4 4 0 (p + 1) Z0).2 = true ∧ cN D < 9
    · rw [if_pos c] at h2 h3
      obtain ⟨g1, g2⟩ := hu c.2 (by rw [h1]; rfl) c.1
      refine ⟨Option.some.inj (g1.symm.trans h1), by rw [← h3]; exact g2, by rw [← h3]; exact hM⟩
    · rw [if_neg c] at h2; cases h2
theorem it_x {tx : Nat → Nat} {n p : Nat} {D : FC} (h1 : ¬ letO tx n p = some 102) (h2 : ¬ letO tx n p = some 114) (h3 : ¬ letO tx n p = some 115) (hX : ∀ i, tx i < 128) : itO tx n p D = none := by
  have hb : ∀ t, letO tx n p = some t → t < 2 ^ 31 := letB hX
  have e : nof (oI (letO tx n p)) = 0 := by
    rw [nof, if_neg (mt (oI_s hb (by decide)).mp h3), if_neg (mt (oI_s hb (by decide)).mp h1), if_neg (mt (oI_s hb (by decide)).mp h2)]
  unfold itO
  rw [e, rdN, if_pos rfl]
theorem putO_q {x : Int32} {q q2 : Nat → Nat} {D : FC} (hx : 0 < nof x) (h : ∀ j, j < nof x → q j = q2 j) : putO x q D = putO x q2 D := by
  have h0 := h 0 hx
  unfold putO
  by_cases a : x = nI 102
  · rw [if_pos a, if_pos a, h0]
  · rw [if_neg a, if_neg a]
    by_cases b : x = nI 114
    · rw [if_pos b, if_pos b, h0]
    · rw [if_neg b, if_neg b]
      have e : nof x = 4 := by
        unfold nof at hx ⊢
        by_cases c : x = nI 115
        · rw [if_pos c]
        · rw [if_neg c, if_neg a, if_neg b] at hx; omega
      rw [e] at h
      have h1 := h 1 (by decide)
      have h2 := h 2 (by decide)
      have h3 := h 3 (by decide)
      rw [sayB, sayB, h0, h1, h2, h3]
theorem rdN_q {tx : Nat → Nat} {n due p : Nat} {q : Nat → Nat} : (rdN tx n due p q).1 = (rdN tx n due p Z0).1 ∧ ∀ p2, (rdN tx n due p Z0).1 = some p2 → ∀ j, j < due → (rdN tx n due p q).2 j = (rdN tx n due p Z0).2 j := by
  unfold rdN
  by_cases c : due = 0
  · rw [if_pos c, if_pos c]; exact ⟨rfl, fun p2 h => by cases h⟩
  · rw [if_neg c, if_neg c]
    obtain ⟨a, b⟩ := rdL_q (tx := tx) (n := n) (due := due) due 0 p q Z0
    exact ⟨a, fun p2 h j hj => b p2 (a.trans h) j (Or.inl ⟨Nat.zero_le _, by omega⟩)⟩
/-- the component's reader and the model's tell the same -/
theorem rd_tx {tx : Nat → Nat} {n : Nat} : ∀ k p q D, (rdA tx n k p q D).1 = (txA tx n k p D).1 ∧ ((txA tx n k p D).1 = none → (rdA tx n k p q D).2.2 = (txA tx n k p D).2)
  | 0, _, _, _ => ⟨rfl, fun _ => rfl⟩
  | k + 1, p, q, D => by
    by_cases c : p < n
    · obtain ⟨e1, e2⟩ := rdN_q (tx := tx) (n := n) (due := nof (oI (letO tx n p))) (p := p + 1) (q := q)
      cases h1 : (rdN tx n (nof (oI (letO tx n p))) (p + 1) q).1 with
      | none =>
        have hi : itO tx n p D = none := by unfold itO; rw [← e1, h1]
        rw [rdA_none c h1, tx_bad c (by omega) hi]
        exact ⟨rfl, fun h => by cases h⟩
      | some p2 =>
        have h1z := e1.symm.trans h1
        have hpos := ((rdN_ok Z0_100).2 _ h1z).2.2
        have hp := putO_q (D := D) hpos (e2 p2 h1z)
        cases h2 : (putO (oI (letO tx n p)) (rdN tx n (nof (oI (letO tx n p))) (p + 1) q).2 D).1 with
        | false =>
          have hi : itO tx n p D = none := by unfold itO; rw [h1z]; simp only [← hp, h2, if_neg (show ¬ (false = true) by decide)]
          rw [rdA_bad c h1 h2, tx_bad c (by omega) hi]
          exact ⟨rfl, fun h => by cases h⟩
        | true =>
          have hi : itO tx n p D = some (p2, (putO (oI (letO tx n p)) (rdN tx n (nof (oI (letO tx n p))) (p + 1) q).2 D).2) := by unfold itO; rw [h1z]; simp only [← hp, h2, if_pos]
          rw [rdA_ok c h1 h2, tx_ok c (by omega) hi]
          exact rd_tx k p2 _ _
    · rw [rdA_end c, tx_end (by omega)]; exact ⟨rfl, fun _ => rfl⟩
theorem KS_tr {M N u : MV} (h : KS M N) (g : KS N u) : KS M u := by
  obtain ⟨⟨a1, a2, a3, a4, a5, a6, a7⟩, ⟨b1, b2⟩, c⟩ := h
  obtain ⟨⟨e1, e2, e3, e4, e5, e6, e7⟩, ⟨f1, f2⟩, d⟩ := g
  exact ⟨⟨e1.trans a1, e2.trans a2, e3.trans a3, e4.trans a4, e5.trans a5, e6.trans a6, e7.trans a7⟩, ⟨f1.trans b1, f2.trans b2⟩, d.trans c⟩
theorem RR_em {C : FC} {z : Nat → Int32} (h : ∀ i, i < 49 → z i = 0) : RR (emC C) z := ⟨⟨h 0 (by decide), h 1 (by decide), h 2 (by decide), h 3 (by decide), fun s hs => absurd hs (Nat.not_lt_zero _)⟩, fun s hs => absurd hs (Nat.not_lt_zero _)⟩
theorem RW_ap {D : FC} {f z u : Nat → Int32} (h9 : cN D ≤ 9) (hD : RI D) (hz : RR D z) (hu : ∀ s, s < cN D → u (40 + s) = apV D (cpR f z 0 0) s) : RS D u := fun s hs => by
  rw [hu s hs, apV, rsV, cpR_lt (by omega), hz.2 s hs, hD.2.2.2 s hs]
  cases pmB D s with
  | false => rfl
  | true => rfl

