
theorem thB_win {C : FC} {x : Int32} (h1 : 1 ≤ cN C) (h9 : cN C ≤ 9) : thB C x = win x (nI 0) (nI (cN C - 1)) := by
  unfold thB win
  by_cases q : x < 0
  · have e : decide (x < nI 0) = true := decide_eq_true q
    rw [decide_eq_true q, e]; rfl
  · have e : decide (x < nI 0) = false := decide_eq_false q
    obtain ⟨n, hn, rfl⟩ := nI_of q
    have h2 : decide (nI (cN C) ≤ nI n) = decide (cN C ≤ n) := decide_eq_decide.mpr (nI_leI (by omega) hn)
    have h3 : decide (nI 9 ≤ nI n) = decide (9 ≤ n) := decide_eq_decide.mpr (nI_leI (by omega) hn)
    have h4 : decide (nI (cN C - 1) < nI n) = decide (cN C - 1 < n) := decide_eq_decide.mpr (nI_ltI (by omega) hn)
    rw [decide_eq_false q, e, h2, h3, h4]
    by_cases c : cN C ≤ n
    · rw [decide_eq_true c, decide_eq_true (show cN C - 1 < n by omega)]; rfl
    · rw [decide_eq_false c, decide_eq_false (show ¬ 9 ≤ n by omega), decide_eq_false (show ¬ cN C - 1 < n by omega)]; rfl
def syV (C : FC) (s : Nat) (x : Int32) : Int32 := if x = nI 0 then nI (cK C s) else if x = nI 1 then nI (cA C s) else if x = nI 2 then (if cK C s = 0 then -4 else nI (cB C s)) else if x = nI 3 then nI (cP C s) else if x = nI 4 then bI ((cW C s).testBit (cF C)) else if x = nI 5 then bI ((cG C).testBit s) else if x = nI 6 then (if pmB C s then nI (cV C s) else -4) else -1
theorem rd_lt {tx : Nat → Nat} {z k p : Nat} {q : Nat → Nat} {D : FC} {t : Nat} (hz : z ≤ 200) (h : (rdA tx z k p q D).1 = some t) : t < 2 ^ 31 := by
  rw [(rd_tx _ _ _ _).1] at h
  have := tx_lt _ _ _ _ h; omega
theorem rd_RI {tx : Nat → Nat} {z : Nat} {q : Nat → Nat} {D : FC} (h : (rdA tx z 200 0 q (emC D)).1 = none) : RI (rdA tx z 200 0 q (emC D)).2.2 := by
  have h2 := rd_tx (tx := tx) (n := z) 200 0 q (emC D)
  rw [h2.2 (h2.1.symm.trans h)]
  exact RI_tx 200 0 _ (RI_em D)

