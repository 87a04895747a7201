
def serN (C : FC) : Nat → FC
  | 0 => C
  | k + 1 => serC (serN C k)
def faV (D : FC) : Int32 := match firO D with
  | none => -4
  | some s => match mateO D s with
    | none => -4
    | some t => nI (10 * s + t)
def falO (C : FC) : Option Nat := fst (fun k => (firO (serN C k)).isSome) 1 60
def falV (C : FC) (w : Nat) : Int32 := match falO C with
  | none => -4
  | some d => if w = 0 then faV (serN C d) else nI d
theorem no_fall {D : FC} : ∀ j, (∀ i, i < j → mateO D i = none) → fallN D j = (D, 0) ∧ ffV D j = -4
  | 0, _ => ⟨rfl, rfl⟩
  | j + 1, h => by
    obtain ⟨a, b⟩ := no_fall j fun i hi => h i (by omega)
    have hj := h j (by omega)
    have hm : mateO (fallN D j).1 j = none := by rw [a]; exact hj
    refine ⟨by rw [fall_n hm, a], ?_⟩
    rw [ffV, b, hm]
    rfl
theorem ff_keep {D : FC} {j : Nat} (h : 0 ≤ ffV D j) : ∀ k, ffV D (j + k) = ffV D j
  | 0 => rfl
  | k + 1 => by
    have e := ff_keep h k
    rw [show j + (k + 1) = (j + k) + 1 by omega, ffV, e, if_pos h]
theorem fir_none {D : FC} (h : firO D = none) : (fallN D (cN D)).1 = D ∧ ffV D (cN D) = -4 := by
  have h1 : ∀ i, i < cN D → mateO D i = none := fun i hi => by
    have := fst_none h i (Nat.zero_le _) (by omega)
    simpa using this
  obtain ⟨a, b⟩ := no_fall (cN D) h1
  exact ⟨by rw [a], b⟩
theorem fir_some {D : FC} (h9 : cN D ≤ 9) {s : Nat} (h : firO D = some s) : ffV D (cN D) = faV D ∧ 0 ≤ faV D := by
  obtain ⟨-, h2, h3, h4⟩ := fst_some h
  obtain ⟨t, ht⟩ := Option.isSome_iff_exists.mp h3
  obtain ⟨a, b⟩ := no_fall s fun i hi => by
    have := h4 i (Nat.zero_le _) hi
    simpa using this
  have ht9 := (mate_lt ht).2.1
  have e : faV D = nI (10 * s + t) := by rw [faV, h]; show (match mateO D s with | none => _ | some t => _) = _; rw [ht]
  have p : 0 ≤ nI (10 * s + t) := nI_pos' (by omega)
  have e1 : ffV D (s + 1) = nI (10 * s + t) := by
    rw [ffV, b, a, if_neg (by decide)]
    show (match mateO D s with | none => _ | some t => _) = _
    rw [ht]
  have e2 := ff_keep (D := D) (j := s + 1) (by rw [e1]; exact p) (cN D - (s + 1))
  rw [show s + 1 + (cN D - (s + 1)) = cN D by omega] at e2
  exact ⟨by rw [e2, e1, e], by rw [e]; exact p⟩
theorem day_ser {C : FC} : ∀ k, (∀ j, 1 ≤ j → j ≤ k → firO (serN C j) = none) → dayC C k = serN C k
  | 0, _ => rfl
  | k + 1, h => by
    have e := day_ser k fun j h1 h2 => h j h1 (by omega)
    have hk := h (k + 1) (by omega) (Nat.le_refl _)
    rw [dayC, e, passC, serN]
    rw [serN] at hk
    have := (fir_none hk).1
    rw [serC_N] at this
    exact this
theorem fal_some {C : FC} {k w : Nat} (h1 : 1 ≤ k) (h2 : k ≤ 60) (hn : ∀ j, 1 ≤ j → j < k → firO (serN C j) = none) (hk : (firO (serN C k)).isSome = true) : falV C w = if w = 0 then faV (serN C k) else nI k := by
  have e : falO C = some k := by
    unfold falO
    cases h : fst (fun k => (firO (serN C k)).isSome) 1 60 with
    | none => have := fst_none h k h1 (by omega); rw [hk] at this; cases this
    | some d =>
      obtain ⟨a, b, c, d2⟩ := fst_some h
      by_cases q : d < k
      · rw [hn d a q] at c; cases c
      · by_cases q2 : k < d
        · have := d2 k h1 q2; rw [hk] at this; cases this
        · rw [show d = k by omega]
  rw [falV, e]
theorem fal_none {C : FC} {w : Nat} (hn : ∀ j, 1 ≤ j → j < 61 → firO (serN C j) = none) : falV C w = -4 := by
  have e : falO C = none := by
    unfold falO
    cases h : fst (fun k => (firO (serN C k)).isSome) 1 60 with
    | none => rfl
    | some d =>
      obtain ⟨a, b, c, -⟩ := fst_some h
      rw [hn d a (by omega)] at c; cases c
  rw [falV, e]
theorem SO_add {C : FC} {k a b p : Nat} (h : SO C) (hN : cN C < 9) (hk : k < 5) (ha : a < 12) (hb : b < 12) (hp : p < 6) : SO (addC C k a b p) := by
  obtain ⟨⟨h9, h64, h512, hT, hI⟩, hK⟩ := h
  refine ⟨⟨?_, h64, h512, hT, fun i hi => ?_⟩, fun s hs => ?_⟩
  · show cN C + 1 ≤ 9; omega
  · replace hi : i < cN C + 1 := hi
    show va_up (cP C) (cN C) p i < 6 ∧ va_up (cW C) (cN C) (wos k a b) i < 2 ^ 64
    by_cases q : i = cN C
    · subst q; rw [va_up_self, va_up_self]; exact ⟨hp, wos_lt ha hb⟩
    · rw [va_up_ne _ _ q, va_up_ne _ _ q]; exact hI i (by omega)
  · replace hs : s < cN C + 1 := hs
    show va_up (cK C) (cN C) k s < 5 ∧ va_up (cA C) (cN C) a s < 12 ∧ va_up (cB C) (cN C) b s < 12 ∧ va_up (cW C) (cN C) (wos k a b) s = wos (va_up (cK C) (cN C) k s) (va_up (cA C) (cN C) a s) (va_up (cB C) (cN C) b s)
    by_cases q : s = cN C
    · subst q; simp only [va_up_self]; exact ⟨hk, ha, hb, trivial⟩
    · rw [va_up_ne _ _ q, va_up_ne _ _ q, va_up_ne _ _ q, va_up_ne _ _ q]; exact hK s (by omega)
theorem add_pm {C : FC} {k a b p s : Nat} (hs : s ≠ cN C) : pmB (addC C k a b p) s = pmB C s := by
  show (!(cG C).testBit s && !(va_up (cW C) (cN C) (wos k a b) s).testBit (cF C)) = _
  rw [va_up_ne _ _ hs]; rfl
theorem add_V {C : FC} {k a b p : Nat} (s : Nat) : cV (addC C k a b p) s = va_up (cV C) (cN C) 0 s := rfl
theorem add_N {C : FC} {k a b p : Nat} : cN (addC C k a b p) = cN C + 1 := rfl
theorem DI_add {C : FC} {m k a b p : Nat} (h : DI C m) (hN : cN C < 9) (hk : k < 5) (ha : a < 12) (hb : b < 12) (hp : p < 6) : DI (addC C k a b p) m := by
  obtain ⟨h1, h2, h3, h4⟩ := h
  refine ⟨SO_add h1 hN hk ha hb hp, fun s hs => ?_, fun s hs hq => ?_, h4⟩
  · rw [add_N] at hs
    rw [add_V]
    show _ ≤ cY C
    by_cases q : s = cN C
    · subst q; rw [va_up_self]; exact Nat.zero_le _
    · rw [va_up_ne _ _ q]; exact h2 s (by omega)
  · rw [add_N] at hs
    rw [add_V]
    by_cases q : s = cN C
    · subst q; rw [va_up_self]
    · rw [va_up_ne _ _ q]; rw [add_pm q] at hq; exact h3 s (by omega) hq
theorem putR_0 {f : Nat → Int32} {N k a b p : Nat} : putR f N k a b p = putR f N k a (if k = 0 then 0 else b) p := by
  unfold putR
  by_cases q : k = 0
  · rw [if_pos q, if_pos q]
  · rw [if_neg q, if_neg q, if_neg q]
theorem RW_add {C : FC} {f u : Nat → Int32} {k a b p : Nat} (hV : VB C) (h : RW C f) (h9 : cN C < 9) (hu : RB (addC C k a b p) u ∧ ∀ s, s < cN (addC C k a b p) → u (40 + s) = apV (addC C k a b p) (putR f (cN C) k a b p) s) : RW (addC C k a b p) u := by
  refine ⟨hu.1, fun s hs => ?_⟩
  rw [hu.2 s hs, apV, rsV]
  rw [add_N] at hs
  by_cases q : s = cN C
  · subst q
    have e : putR f (cN C) k a b p (40 + cN C) = -1 := by unfold putR; rw [va_up_ne _ _ (by omega), va_up_self]
    rw [e, add_V, va_up_self, if_pos (show (-1 : Int32) < 0 by decide)]; rfl
  · rw [putR_o (by omega) (by omega) (by omega) (by omega) (by omega) (by omega), add_pm q, h.2 s (by omega), add_V, va_up_ne _ _ q, rsV]
    cases pmB C s with
    | false => rfl
    | true => rw [if_pos rfl, if_pos rfl, if_neg (nI_pos (hV s (by omega)))]
theorem RB_tu {C : FC} {z : Nat → Int32} {g : Nat} (h : RB C z) : RB (sF C g) (va_up z 0 (nI g)) := by
  obtain ⟨a, b, c, d, f⟩ := h
  refine ⟨va_up_self _ _ _, (va_up_ne _ _ (by decide)).trans b, (va_up_ne _ _ (by decide)).trans c, (va_up_ne _ _ (by decide)).trans d, fun s hs => ?_⟩
  obtain ⟨p, q, r, t⟩ := f s hs
  exact ⟨(va_up_ne _ _ (by omega)).trans p, (va_up_ne _ _ (by omega)).trans q, (va_up_ne _ _ (by omega)).trans r, (va_up_ne _ _ (by omega)).trans t⟩
theorem pm_sV (C : FC) (g : Nat → Nat) (s : Nat) : pmB (sV C g) s = pmB C s := rfl
theorem tuC_pm (C : FC) (f s : Nat) : pmB (tuC C f) s = pmB (sF C (cF C ^^^ 1 <<< f)) s := by rw [tuC]; exact pm_sV _ _ _
theorem tuC_V (C : FC) (f s : Nat) : cV (tuC C f) s = if decide (s < cN C) && !pmB (sF C (cF C ^^^ 1 <<< f)) s then 0 else cV C s := rfl
theorem tuC_N (C : FC) (f : Nat) : cN (tuC C f) = cN C := rfl
theorem RW_tu {C : FC} {z u : Nat → Int32} {f : Nat} (hV : VB C) (hZ : ZB C) (h : RS C z) (hu : RB (sF C (cF C ^^^ 1 <<< f)) u ∧ ∀ s, s < cN (sF C (cF C ^^^ 1 <<< f)) → u (40 + s) = apV (sF C (cF C ^^^ 1 <<< f)) (va_up z 0 (nI (cF C ^^^ 1 <<< f))) s) : RW (tuC C f) u := by
  refine ⟨RB_sV hu.1, fun s hs => ?_⟩
  rw [tuC_N] at hs
  rw [hu.2 s hs, apV, rsV, tuC_pm, tuC_V, va_up_ne _ _ (by omega), h s hs, rsV, decide_eq_true hs]
  cases hp : pmB (sF C (cF C ^^^ 1 <<< f)) s with
  | false => rfl
  | true =>
    rw [if_pos rfl, if_pos rfl]
    show _ = nI (cV C s)
    cases hq : pmB C s with
    | false => rw [hZ s hs hq]; rfl
    | true => rw [if_pos rfl, if_neg (nI_pos (hV s hs))]
theorem DI_tu {C : FC} {m f : Nat} (h : DI C m) (hf : f < 6) : DI (tuC C f) m := by
  obtain ⟨h1, h2, h3, h4⟩ := h
  refine ⟨⟨FO_tuC h1.1 hf, h1.2⟩, fun s hs => ?_, fun s hs hq => ?_, h4⟩
  · rw [tuC_N] at hs
    rw [tuC_V]
    show _ ≤ cY C
    have := h2 s hs
    split <;> omega
  · rw [tuC_N] at hs
    rw [tuC_pm] at hq
    rw [tuC_V, hq, decide_eq_true hs]; rfl
theorem DI_to {C : FC} {m s : Nat} (h : DI C m) (hs : s < cN C) : DI (toC C s) m := ⟨SO_toC h.1 hs, VY_toC h.2.1, ZB_toC h.2.2.1, h.2.2.2⟩


theorem cpN_r {C : FC} {f z : Nat → Int32} (h : RB C z) : cpR f z 0 0 2 = nI (cN C) := (cpR_lt (by decide)).trans (RB_N h)
theorem cpF_r {C : FC} {f z : Nat → Int32} (h : RB C z) : cpR f z 0 0 0 = nI (cF C) := (cpR_lt (by decide)).trans (RB_F h)

