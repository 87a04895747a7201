
theorem cpR_lt {f g : Nat → Int32} {i : Nat} (h : i < 49) : cpR f g 0 0 i = g i := by
  simp only [cpR]; rw [if_pos (by omega), Nat.sub_zero, Nat.zero_add]
theorem RW_cp {C : FC} {f g : Nat → Int32} (h9 : cN C ≤ 9) (h : RW C g) : RW C (cpR f g 0 0) :=
  ⟨RB_eq h9 h.1 fun i hi => cpR_lt (by omega), fun s hs => (cpR_lt (by omega)).trans (h.2 s hs)⟩
theorem RB_cp {C : FC} {f g : Nat → Int32} (h9 : cN C ≤ 9) (h : RB C g) : RB C (cpR f g 0 0) := RB_eq h9 h fun i hi => cpR_lt (by omega)
def putR (f : Nat → Int32) (N : Nat) (k a b p : Nat) : Nat → Int32 := va_up (va_up (va_up (va_up (va_up (va_up f (4 + 4 * N) (nI k)) (4 + 4 * N + 1) (nI a)) (4 + 4 * N + 2) (if k = 0 then -4 else nI b)) (4 + 4 * N + 3) (nI p)) (40 + N) (-1)) 2 (nI (N + 1))
theorem putR_o {f : Nat → Int32} {N k a b p i : Nat} (h : i ≠ 4 + 4 * N) (h1 : i ≠ 4 + 4 * N + 1) (h2 : i ≠ 4 + 4 * N + 2) (h3 : i ≠ 4 + 4 * N + 3) (h4 : i ≠ 40 + N) (h5 : i ≠ 2) : putR f N k a b p i = f i := by
  unfold putR
  rw [va_up_ne _ _ h5, va_up_ne _ _ h4, va_up_ne _ _ h3, va_up_ne _ _ h2, va_up_ne _ _ h1, va_up_ne _ _ h]
theorem RB_put {C : FC} {f : Nat → Int32} {k a b p : Nat} (h9 : cN C < 9) (h : RB C f) : RB (addC C k a b p) (putR f (cN C) k a b p) := by
  obtain ⟨h0, h1, h2, h3, h4⟩ := h
  refine ⟨?_, ?_, ?_, ?_, fun s hs => ?_⟩
  · rw [putR_o (by omega) (by omega) (by omega) (by omega) (by omega) (by omega)]; exact h0
  · rw [putR_o (by omega) (by omega) (by omega) (by omega) (by omega) (by omega)]; exact h1
  · unfold putR; rw [va_up_self]; rfl
  · rw [putR_o (by omega) (by omega) (by omega) (by omega) (by omega) (by omega)]; exact h3
  · replace hs : s < cN C + 1 := hs
    show _ = nI (va_up (cK C) (cN C) k s) ∧ _ = nI (va_up (cA C) (cN C) a s) ∧ _ = (if va_up (cK C) (cN C) k s = 0 then -4 else nI (va_up (cB C) (cN C) b s)) ∧ _ = nI (va_up (cP C) (cN C) p s)
    by_cases q : s = cN C
    · subst q
      simp only [va_up_self]
      unfold putR
      refine ⟨?_, ?_, ?_, ?_⟩
      · rw [va_up_ne _ _ (by omega), va_up_ne _ _ (by omega), va_up_ne _ _ (by omega), va_up_ne _ _ (by omega), va_up_ne _ _ (by omega), va_up_self]
      · rw [va_up_ne _ _ (by omega), va_up_ne _ _ (by omega), va_up_ne _ _ (by omega), va_up_ne _ _ (by omega), va_up_self]
      · rw [va_up_ne _ _ (by omega), va_up_ne _ _ (by omega), va_up_ne _ _ (by omega), va_up_self]
      · rw [va_up_ne _ _ (by omega), va_up_ne _ _ (by omega), va_up_self]
    · obtain ⟨p0, p1, p2, p3⟩ := h4 s (by omega)
      rw [va_up_ne _ _ q, va_up_ne _ _ q, va_up_ne _ _ q, va_up_ne _ _ q]
      refine ⟨?_, ?_, ?_, ?_⟩
      · rw [putR_o (by omega) (by omega) (by omega) (by omega) (by omega) (by omega)]; exact p0
      · rw [putR_o (by omega) (by omega) (by omega) (by omega) (by omega) (by omega)]; exact p1
      · rw [putR_o (by omega) (by omega) (by omega) (by omega) (by omega) (by omega)]; exact p2
      · rw [putR_o (by omega) (by omega) (by omega) (by omega) (by omega) (by omega)]; exact p3
/-- none has served who has no policeman -/
def ZB (C : FC) : Prop := ∀ s, s < cN C → pmB C s = false → cV C s = 0
/-- the days go by: the model's way -/
theorem sv_yes {C : FC} {v : Int32} {s : Nat} (hs : s < cN C) (e : v = rsV C s) (c : 0 ≤ v) : v + nI 1 = rsV (serC C) s := by
  subst e
  have p : pmB C s = true := by
    cases h : pmB C s with
    | true => rfl
    | false => rw [rsV, h, if_neg (by decide)] at c; exact absurd c (by decide)
  have q : cV (serC C) s = cV C s + 1 := by show upTo (cN C) (pmB C) (cV C) (fun s => cV C s + 1) s = _; simp [upTo, hs, p]
  rw [rsV, rsV, show pmB (serC C) s = pmB C s from rfl, p, if_pos rfl, if_pos rfl, q, nI_add]
theorem sv_no {C : FC} {v : Int32} {s : Nat} (hs : s < cN C) (hV : VB C) (e : v = rsV C s) (c : ¬ 0 ≤ v) : v + nI 0 = rsV (serC C) s := by
  subst e
  have p : pmB C s = false := by
    cases h : pmB C s with
    | false => rfl
    | true => rw [rsV, h, if_pos rfl] at c; exact absurd (nI_pos' (hV s hs)) c
  rw [rsV, rsV, show pmB (serC C) s = pmB C s from rfl, p, if_neg (by decide), if_neg (by decide)]; decide
theorem RB_sV {C : FC} {f : Nat → Nat} {z : Nat → Int32} (h : RB C z) : RB (sV C f) z := by
  obtain ⟨a, b, c, d, g⟩ := h
  have e0 : cF (sV C f) = cF C := rfl
  have e1 : cY (sV C f) = cY C := rfl
  have e2 : cN (sV C f) = cN C := rfl
  have e3 : cG (sV C f) = cG C := rfl
  have e4 : cK (sV C f) = cK C := rfl
  have e5 : cA (sV C f) = cA C := rfl
  have e6 : cB (sV C f) = cB C := rfl
  have e7 : cP (sV C f) = cP C := rfl
  unfold RB
  rw [e0, e1, e2, e3, e4, e5, e6, e7]
  exact ⟨a, b, c, d, g⟩
theorem RB_ser {C : FC} {z : Nat → Int32} (h : RB (sY C (cY C + 1)) z) : RB (serC C) z := RB_sV h
theorem fall_0 {C : FC} {z : Nat → Int32} {i : Nat} (h : RB (sY C (cY C + 1)) z) (hi : cN C ≤ i) (hb : ∀ s, s < i → z (40 + s) = rsV (serC C) s) : RW (fallN (serC C) 0).1 z := by
  have e : (fallN (serC C) 0).1 = serC C := rfl
  have e2 : cN (serC C) = cN C := by rw [serC]; rfl
  rw [e]
  exact ⟨RB_ser h, fun s hs => hb s (by rw [e2] at hs; omega)⟩
theorem fall_u {C : FC} {m : Nat} : m = m + (fallN C 0).2 := rfl
def ffV (C : FC) : Nat → Int32
  | 0 => -4
  | j + 1 => if 0 ≤ ffV C j then ffV C j else match mateO (fallN C j).1 j with
    | none => ffV C j
    | some t => nI (10 * j + t)
theorem fall_f {C : FC} : (-4 : Int32) = ffV C 0 := rfl
def hitB (C : FC) (s t : Nat) : Bool := match mateO (fallN C s).1 s with
  | none => false
  | some m => decide (m < t)
def gD (C : FC) (s t : Nat) : FC := if hitB C s t then (fallN C (s + 1)).1 else (fallN C s).1
def gU (C : FC) (s t : Nat) : Nat := if hitB C s t then (fallN C (s + 1)).2 else (fallN C s).2
def gF (C : FC) (s t : Nat) : Int32 := if hitB C s t then ffV C (s + 1) else ffV C s
theorem hit_0 {C : FC} {s : Nat} : hitB C s (s + 1) = false := by
  unfold hitB
  cases h : mateO (fallN C s).1 s with
  | none => rfl
  | some m => have := (mate_lt h).1; exact decide_eq_false (by omega)
theorem fallN_T (C : FC) : ∀ j, cT (fallN C j).1 = cT C
  | 0 => rfl
  | j + 1 => by
    have h := fallN_T C j
    rw [fallN, fallStep]
    split
    · exact h
    · exact h
theorem fallN_S {C : FC} (h : SO C) : ∀ j, SO (fallN C j).1
  | 0 => h
  | j + 1 => by
    have h1 := fallN_S h j
    rw [fallN, fallStep]
    split
    · exact h1
    · next t ht =>
      obtain ⟨a, b, -⟩ := mate_lt ht
      exact SO_toC (SO_toC h1 (by omega)) b
theorem gD_P {P : FC → Prop} {C : FC} (h : ∀ j, P (fallN C j).1) (s t : Nat) : P (gD C s t) := by
  unfold gD; split
  · exact h _
  · exact h _
theorem toC_pm (C : FC) (s : Nat) : pmB (toC C s) s = false := by
  show (!(cG C ||| 1 <<< s).testBit s && _) = false
  rw [Nat.testBit_or, Nat.one_shiftLeft, Nat.testBit_two_pow_self]; simp
theorem toC_pm2 (C : FC) (s t : Nat) : pmB (toC (toC C s) t) s = false := by
  show (!(cG (toC C s) ||| 1 <<< t).testBit s && _) = false
  rw [show cG (toC C s) = cG C ||| 1 <<< s from rfl, Nat.testBit_or, Nat.testBit_or, Nat.one_shiftLeft, Nat.testBit_two_pow_self]; simp
theorem fall_s {C : FC} {s m : Nat} (h : mateO (fallN C s).1 s = some m) : fallN C (s + 1) = (toC (toC (fallN C s).1 s) m, (fallN C s).2 + 2) := by rw [fallN, fallStep, h]
theorem fall_n {C : FC} {s : Nat} (h : mateO (fallN C s).1 s = none) : fallN C (s + 1) = fallN C s := by rw [fallN, fallStep, h]
theorem hs_pm {C : FC} {s : Nat} (h : hsB C s = true) : pmB C s = true := by
  unfold hsB at h; simp only [Bool.and_eq_true] at h; exact h.1
theorem go_yes {C : FC} {i j : Nat} (hi : i < j) (hj : j < cN C) (h1 : hsB (gD C i j) i = true) (h2 : hsB (gD C i j) j = true) (h3 : clB (gD C i j) i j = true) : mateO (fallN C i).1 i = some j ∧ hitB C i j = false := by
  cases hh : hitB C i j with
  | true =>
    exfalso
    have hd : gD C i j = (fallN C (i + 1)).1 := by rw [gD, hh]; rfl
    unfold hitB at hh
    cases hm : mateO (fallN C i).1 i with
    | none => rw [hm] at hh; cases hh
    | some m =>
      rw [hd, fall_s hm] at h1
      have := hs_pm h1
      rw [toC_pm2] at this; cases this
  | false =>
    refine ⟨?_, rfl⟩
    have hd : gD C i j = (fallN C i).1 := by rw [gD, hh]; rfl
    rw [hd] at h1 h2 h3
    have hn := fallN_n C i
    cases hm : mateO (fallN C i).1 i with
    | none =>
      exfalso
      unfold mateO at hm
      rw [if_pos h1] at hm
      have := fst_none hm j (by omega) (by omega)
      simp [h2, h3] at this
    | some m =>
      unfold hitB at hh
      rw [hm] at hh
      have hge : ¬ m < j := of_decide_eq_false hh
      unfold mateO at hm
      rw [if_pos h1] at hm
      obtain ⟨-, -, -, d⟩ := fst_some hm
      by_cases q : j < m
      · have := d j (by omega) q
        simp [h2, h3] at this
      · rw [show m = j by omega]
theorem go_no {C : FC} {i j : Nat} (hn : ¬ (hsB (gD C i j) i = true ∧ hsB (gD C i j) j = true ∧ clB (gD C i j) i j = true)) : hitB C i (j + 1) = hitB C i j := by
  cases hm : mateO (fallN C i).1 i with
  | none => unfold hitB; rw [hm]
  | some m =>
    have e : ∀ t, hitB C i t = decide (m < t) := fun t => by unfold hitB; rw [hm]
    rw [e, e]
    by_cases q : m = j
    · exfalso
      subst q
      apply hn
      have hd : gD C i m = (fallN C i).1 := by rw [gD, e, decide_eq_false (by omega)]; rfl
      rw [hd]
      obtain ⟨-, -, a, b, c⟩ := mate_lt hm
      exact ⟨a, b, c⟩
    · apply decide_eq_decide.mpr; omega
theorem go_end {C : FC} {i j : Nat} (hj : cN C ≤ j) : gD C i j = (fallN C (i + 1)).1 ∧ gU C i j = (fallN C (i + 1)).2 ∧ gF C i j = ffV C (i + 1) := by
  cases hm : mateO (fallN C i).1 i with
  | none =>
    have e : hitB C i j = false := by unfold hitB; rw [hm]
    rw [gD, gU, gF, e, fall_n hm, ffV, hm]
    refine ⟨rfl, rfl, ?_⟩
    show ffV C i = _
    split <;> rfl
  | some m =>
    have h1 := (mate_lt hm).2.1
    rw [fallN_n] at h1
    have e : hitB C i j = true := by unfold hitB; rw [hm]; exact decide_eq_true (by omega)
    rw [gD, gU, gF, e]
    exact ⟨rfl, rfl, rfl⟩
theorem go_st {C : FC} {i j : Nat} (hm : mateO (fallN C i).1 i = some j) (hh : hitB C i j = false) : gD C i (j + 1) = toC (toC (gD C i j) i) j ∧ gU C i (j + 1) = gU C i j + 2 ∧ gF C i (j + 1) = (if 0 ≤ gF C i j then gF C i j else nI (10 * i + j)) := by
  have e : hitB C i (j + 1) = true := by unfold hitB; rw [hm]; exact decide_eq_true (by omega)
  rw [gD, gU, gF, gD, gU, gF, e, hh, fall_s hm, ffV, hm]
  exact ⟨rfl, rfl, rfl⟩
theorem go_eq {C : FC} {i j : Nat} (h : hitB C i (j + 1) = hitB C i j) : gD C i (j + 1) = gD C i j ∧ gU C i (j + 1) = gU C i j ∧ gF C i (j + 1) = gF C i j := by
  rw [gD, gU, gF, gD, gU, gF, h]; exact ⟨rfl, rfl, rfl⟩
theorem go_0 (C : FC) (i : Nat) : gD C i (i + 1) = (fallN C i).1 ∧ gU C i (i + 1) = (fallN C i).2 ∧ gF C i (i + 1) = ffV C i := by
  rw [gD, gU, gF, hit_0]; exact ⟨rfl, rfl, rfl⟩
theorem RW_to2 {C : FC} {z : Nat → Int32} {s t : Nat} {g : Int32} (h9 : cN C ≤ 9) (h : RW C z) (hs : s < cN C) (ht : t < cN C) (hg : g = nI (cG C ||| (1 <<< s ||| 1 <<< t))) : RW (toC (toC C s) t) (va_up (va_up (va_up z 3 g) (40 + s) (-1)) (40 + t) (-1)) := by
  have h1 := RW_to h9 h hs rfl
  have h2 := RW_to (C := toC C s) (g := g) h9 h1 ht (by rw [hg, ← Nat.or_assoc]; rfl)
  have e : va_up (va_up (va_up (va_up z 3 (nI (cG C ||| 1 <<< s))) (40 + s) (-1)) 3 g) (40 + t) (-1) = va_up (va_up (va_up z 3 g) (40 + s) (-1)) (40 + t) (-1) := by
    congr 1
    funext i
    by_cases q : i = 3
    · subst q; rw [va_up_self, va_up_ne _ _ (by omega), va_up_self]
    · rw [va_up_ne _ _ q]
      by_cases q2 : i = 40 + s
      · subst q2; rw [va_up_self, va_up_self]
      · rw [va_up_ne _ _ q2, va_up_ne _ _ q2, va_up_ne _ _ q, va_up_ne _ _ q]
  rw [← e]; exact h2

