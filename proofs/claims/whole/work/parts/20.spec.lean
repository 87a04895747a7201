
theorem win_y {n lo hi : Nat} (h1 : lo ≤ n) (h2 : n ≤ hi) (h3 : hi < 2 ^ 31) : win (nI n) (nI lo) (nI hi) = true := by
  rw [win_n (by omega) (by omega) h3]; simp [h1, h2]
theorem win_ex {x : Int32} {lo hi : Nat} (hl : lo < 2 ^ 31) (hh : hi < 2 ^ 31) (h : win x (nI lo) (nI hi) = true) : ∃ n, x = nI n ∧ lo ≤ n ∧ n ≤ hi := by
  obtain ⟨n, hn, rfl⟩ := wb_of32 x
  unfold win at h
  simp only [Bool.and_eq_true, Bool.not_eq_true', decide_eq_false_iff_not] at h
  have h31 : n < 2 ^ 31 := by
    have a := Int32.not_lt.mp h.1
    have b := Int32.not_lt.mp h.2
    rw [Int32.le_iff_toInt_le, nI_toInt hl] at a
    have e : (nI n).toInt = Int.bmod n (2 ^ 32) := by
      show (BitVec.ofNat 32 n).toInt = _
      rw [BitVec.toInt_eq_toNat_bmod, BitVec.toNat_ofNat, Nat.mod_eq_of_lt hn]
    rw [e, Int.bmod] at a
    omega
  exact ⟨n, rfl, Nat.le_of_not_lt fun q => h.1 ((nI_ltI h31 hl).mpr q), Nat.le_of_not_lt fun q => h.2 ((nI_ltI hh h31).mpr q)⟩
def VY (C : FC) : Prop := ∀ s, s < cN C → cV C s ≤ cY C
theorem VB_of {C : FC} (h : VY C) (hY : cY C < 2 ^ 31) : VB C := fun s hs => Nat.lt_of_le_of_lt (h s hs) hY
theorem serC_N (C : FC) : cN (serC C) = cN C := rfl
theorem serC_Y (C : FC) : cY (serC C) = cY C + 1 := rfl
theorem serC_V (C : FC) (s : Nat) : cV (serC C) s = if decide (s < cN C) && pmB C s then cV C s + 1 else cV C s := rfl
theorem VY_ser {C : FC} (h : VY C) : VY (serC C) := fun s hs => by
  rw [serC_N] at hs
  have := h s hs
  rw [serC_V, serC_Y]
  split <;> omega
theorem toC_V (C : FC) (t s : Nat) : cV (toC C t) s = va_up (cV C) t 0 s := rfl
theorem VY_toC {C : FC} {t : Nat} (h : VY C) : VY (toC C t) := fun s hs => by
  have := h s hs
  rw [toC_V]
  show _ ≤ cY C
  by_cases q : s = t
  · subst q; rw [va_up_self]; omega
  · rw [va_up_ne _ _ q]; exact this
theorem toC_pmo (C : FC) {s r : Nat} (h : r ≠ s) : pmB (toC C s) r = pmB C r := by
  show (!(cG C ||| 1 <<< s).testBit r && _) = _
  rw [Nat.testBit_or, Nat.one_shiftLeft, Nat.testBit_two_pow_of_ne (Ne.symm h), Bool.or_false]; rfl
theorem ZB_toC {C : FC} {t : Nat} (h : ZB C) : ZB (toC C t) := fun s hs hp => by
  rw [toC_V]
  by_cases q : s = t
  · subst q; rw [va_up_self]
  · rw [va_up_ne _ _ q]; rw [toC_pmo C q] at hp; exact h s hs hp
theorem ZB_ser {C : FC} (h : ZB C) : ZB (serC C) := fun s hs hp => by
  rw [serC_N] at hs
  have hp2 : pmB C s = false := hp
  rw [serC_V, hp2, Bool.and_false, if_neg (by decide)]
  exact h s hs hp2
theorem fall_all {P : FC → Prop} (hP : ∀ C t, P C → P (toC C t)) {C : FC} (h : P C) : ∀ j, P (fallN C j).1
  | 0 => h
  | j + 1 => by
    have h1 := fall_all hP h j
    rw [fallN, fallStep]
    split
    · exact h1
    · exact hP _ _ (hP _ _ h1)
theorem fallN_Y (C : FC) (j : Nat) : cY (fallN C j).1 = cY C := fall_all (P := fun D => cY D = cY C) (fun _ _ h => h) rfl j
/-- all that holds of a force in a run, its days at most m -/
def DI (C : FC) (m : Nat) : Prop := SO C ∧ VY C ∧ ZB C ∧ cY C ≤ m
theorem DI_pass {C : FC} {m : Nat} (h : DI C m) : DI (passC C).1 (m + 1) := by
  obtain ⟨a, b, c, d⟩ := h
  refine ⟨fallN_S ⟨FO_serC a.1, a.2⟩ _, fall_all (fun _ _ h => VY_toC h) (VY_ser b) _, fall_all (fun _ _ h => ZB_toC h) (ZB_ser c) _, ?_⟩
  rw [passC, fallN_Y, serC_Y]; omega
theorem pass_T (C : FC) : cT (passC C).1 = cT C := by rw [passC, fallN_T]; rfl
theorem pass_N (C : FC) : cN (passC C).1 = cN C := by rw [passC, fallN_n]; rfl
theorem pass_Y (C : FC) : cY (passC C).1 = cY C + 1 := by rw [passC, fallN_Y]; rfl
def dayC (C : FC) : Nat → FC
  | 0 => C
  | k + 1 => (passC (dayC C k)).1
theorem DI_day {C : FC} {m : Nat} (h : DI C m) : ∀ k, DI (dayC C k) (m + k)
  | 0 => h
  | k + 1 => DI_pass (DI_day h k)
theorem day_T (C : FC) : ∀ k, cT (dayC C k) = cT C
  | 0 => rfl
  | k + 1 => by rw [dayC, pass_T, day_T C k]
theorem day_N (C : FC) : ∀ k, cN (dayC C k) = cN C
  | 0 => rfl
  | k + 1 => by rw [dayC, pass_N, day_N C k]
theorem day_Y (C : FC) : ∀ k, cY (dayC C k) = cY C + k
  | 0 => rfl
  | k + 1 => by rw [dayC, pass_Y, day_Y C k]; omega
theorem DI_VB {C : FC} {m : Nat} (h : DI C m) (hm : m < 2 ^ 30) : VB C := VB_of h.2.1 (by have := h.2.2.2; omega)
theorem DI_VB1 {C : FC} {m : Nat} (h : DI C m) (hm : m < 2 ^ 30) : VB (serC C) := VB_of (VY_ser h.2.1) (by have := h.2.2.2; rw [serC_Y]; omega)
/-- what a call leaves as it was -/
def KP (M u : MV) : Prop := mX u = mX M ∧ mL u = mL M ∧ mE u = mE M ∧ mN u = mN M ∧ mK u = mK M ∧ mP u = mP M ∧ mT u = mT M
def KA (M u : MV) : Prop := mA u = mA M ∧ mW u = mW M
def KS (M u : MV) : Prop := KP M u ∧ KA M u ∧ mS u = mS M
/-- the rows that were: the oldest goes where there is no room -/
def shK (f : Nat → Int32) (k : Nat) : Nat → Int32 := fun i => if i < k then f (i + 49) else f i
theorem shK_0 {f : Nat → Int32} : f = shK f 0 := by funext i; simp [shK]
theorem shK_r {f : Nat → Int32} {k : Nat} : shK f k (k + 49) = f (k + 49) := by simp only [shK]; rw [if_neg (by omega)]
theorem shK_s {f : Nat → Int32} {k : Nat} : va_up (shK f k) k (f (k + 49)) = shK f (k + 1) := by
  funext i
  by_cases e : i = k
  · subst e; rw [va_up_self]; simp only [shK]; rw [if_pos (by omega)]
  · rw [va_up_ne _ _ e]; simp only [shK]
    by_cases c : i < k
    · rw [if_pos c, if_pos (by omega)]
    · rw [if_neg c, if_neg (by omega)]
def rwO (f : Nat → Int32) (k : Nat) : Nat → Int32 := fun i => f (49 * k + i)
/-- was, once st has been put on it -/
def wasR (n : Nat) (f g : Nat → Int32) : Nat → Int32 := if n = 8 then cpR (shK f 343) g (49 * 7) 0 else cpR f g (49 * n) 0
theorem RW_rw {C : FC} {f g : Nat → Int32} {k : Nat} (h9 : cN C ≤ 9) (h : RW C (rwO g k)) : RW C (cpR f g 0 (49 * k)) := by
  have e : ∀ i, i < 49 → cpR f g 0 (49 * k) i = rwO g k i := fun i hi => by
    simp only [cpR, rwO]; rw [if_pos (by omega), Nat.sub_zero]
  exact ⟨RB_eq h9 h.1 fun i hi => e i (by omega), fun s hs => (e _ (by omega)).trans (h.2 s hs)⟩
theorem RW_new {C : FC} {f g : Nat → Int32} {k : Nat} (h9 : cN C ≤ 9) (h : RW C g) : RW C (rwO (cpR f g (49 * k) 0) k) := by
  have e : ∀ i, i < 49 → rwO (cpR f g (49 * k) 0) k i = g i := fun i hi => by
    simp only [cpR, rwO]; rw [if_pos (by omega)]; congr 1; omega
  exact ⟨RB_eq h9 h.1 fun i hi => e i (by omega), fun s hs => (e _ (by omega)).trans (h.2 s hs)⟩
theorem RW_old {C : FC} {f g : Nat → Int32} {k j : Nat} (h9 : cN C ≤ 9) (hj : j < k) (h : RW C (rwO f j)) : RW C (rwO (cpR f g (49 * k) 0) j) := by
  have e : ∀ i, i < 49 → rwO (cpR f g (49 * k) 0) j i = rwO f j i := fun i hi => by
    simp only [cpR, rwO]; rw [if_neg (by omega)]
  exact ⟨RB_eq h9 h.1 fun i hi => e i (by omega), fun s hs => (e _ (by omega)).trans (h.2 s hs)⟩
theorem RW_sh {C : FC} {f : Nat → Int32} {j : Nat} (h9 : cN C ≤ 9) (hj : j < 7) (h : RW C (rwO f (j + 1))) : RW C (rwO (shK f 343) j) := by
  have e : ∀ i, i < 49 → rwO (shK f 343) j i = rwO f (j + 1) i := fun i hi => by
    simp only [shK, rwO]; rw [if_pos (by omega)]; congr 1; omega
  exact ⟨RB_eq h9 h.1 fun i hi => e i (by omega), fun s hs => (e _ (by omega)).trans (h.2 s hs)⟩


def sayV (C : FC) (s w : Nat) : Int32 := if w = 0 then nI (cK C s) else if w = 1 then nI (cA C s) else if w = 2 then (if cK C s = 0 then -4 else nI (cB C s)) else if w = 3 then nI (cP C s) else if w = 4 then bI ((cW C s).testBit (cF C)) else if w = 5 then bI ((cG C).testBit s) else if pmB C s then nI (cV C s) else -4
theorem say_lo {C : FC} {z : Nat → Int32} {s w : Nat} (h : RB C z) (hs : s < cN C) (hw : w < 4) : z (4 + 4 * s + w) = sayV C s w := by
  unfold sayV
  by_cases q0 : w = 0
  · subst q0; rw [if_pos rfl]; exact RB_K h hs
  by_cases q1 : w = 1
  · subst q1; rw [if_neg (by omega), if_pos rfl]; exact RB_A h hs
  by_cases q2 : w = 2
  · subst q2; rw [if_neg (by omega), if_neg (by omega), if_pos rfl]; exact RB_B h hs
  · have q3 : w = 3 := by omega
    subst q3; rw [if_neg (by omega), if_neg (by omega), if_neg (by omega), if_pos rfl]; exact RB_P h hs
theorem say_4 {C : FC} {s w : Nat} (h : w = 4) : sayV C s w = bI ((cW C s).testBit (cF C)) := by subst h; rfl
theorem say_5 {C : FC} {s w : Nat} (h : w = 5) : sayV C s w = bI ((cG C).testBit s) := by subst h; rfl
theorem say_6 {C : FC} {s w : Nat} (h : 4 ≤ w) (h4 : ¬ w = 4) (h5 : ¬ w = 5) : sayV C s w = if pmB C s then nI (cV C s) else -4 := by
  unfold sayV
  rw [if_neg (by omega), if_neg (by omega), if_neg (by omega), if_neg (by omega), if_neg h4, if_neg h5]
theorem KS_r (M u : MV) (h : u = mkMV (mT M) (mS M) (mA M) (mW M) (mK M) (mP M) (mE M) (mN M) (mX M) (mL M) (mI u) (mD u) (mR u) (mM u) (mO u) (mF u) (mU u) (mQ u) (mZ u) (mG u) (mH u)) : KS M u := by
  rw [h]; exact ⟨⟨rfl, rfl, rfl, rfl, rfl, rfl, rfl⟩, ⟨rfl, rfl⟩, rfl⟩

