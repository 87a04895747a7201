section LAWS
variable {x : GX} {l : Launch} {E : EV} {b L : Nat} {xs : Nat → Int32} {kk nn t i : Nat} {ae ab ar an af ah ak ax ag a : Nat → Nat}
variable {z : Nat} {tx : Nat → Nat} {R : RC} {C : FC} {D : FC} {V : PV} {U : PV} {S : SC} {G : GC} {M : MV}
theorem dc_0 (hc : LCX x l E b L xs kk nn t i) (hI : INV t z tx R C V U S M) (nx : NX x E ae ab ar an af ah ak ax ag a b kk nn t i) : GG x kk nn (LWM E ae ab ar an af ah ak ax ag a z tx R C D V U S G M) 164 [(0, .ref b), (1, .ref (ae 0)), (2, .ref (a 0)), (3, .int (nI i))] [] := by
  have hz := hI.1.1
  cases h1 : win (xs (i + 1)) (nI 32) (nI 126) with
  | false => exact lc_write_n hc hI nx h1
  | true =>
    obtain ⟨n, e1, g1, g2⟩ := win_ex (by decide) (by decide) h1
    by_cases q : z < 200
    · exact lc_write_y n hc hI nx e1 g1 g2 q
    · exact lc_write_f n hc hI nx e1 g1 g2 (by omega)
theorem dc_1 (hc : LCX x l E b L xs kk nn t i) (hI : INV t z tx R C V U S M) (nx : NX x E ae ab ar an af ah ak ax ag a b kk nn t i) : GG x kk nn (LWM E ae ab ar an af ah ak ax ag a z tx R C D V U S G M) 187 [(0, .ref b), (1, .ref (ae 0)), (2, .ref (a 0)), (3, .int (nI i))] [] := by
  exact lc_wipe hc hI nx
theorem dc_2 (hc : LCX x l E b L xs kk nn t i) (hI : INV t z tx R C V U S M) (nx : NX x E ae ab ar an af ah ak ax ag a b kk nn t i) : GG x kk nn (LWM E ae ab ar an af ah ak ax ag a z tx R C D V U S G M) 200 [(0, .ref b), (1, .ref (ae 0)), (2, .ref (a 0)), (3, .int (nI i))] [] := by
  exact lc_fault hc hI nx
theorem dc_3 (hc : LCX x l E b L xs kk nn t i) (hI : INV t z tx R C V U S M) (nx : NX x E ae ab ar an af ah ak ax ag a b kk nn t i) : GG x kk nn (LWM E ae ab ar an af ah ak ax ag a z tx R C D V U S G M) 213 [(0, .ref b), (1, .ref (ae 0)), (2, .ref (a 0)), (3, .int (nI i))] [] := by
  by_cases q : (txA tx z 200 0 (emC D)).1 = none ∧ 0 < cN (txA tx z 200 0 (emC D)).2
  · exact lc_lay_y hc hI nx q.1 q.2
  · exact lc_lay_n hc hI nx (fun e => Nat.eq_zero_of_not_pos (fun g => q ⟨e, g⟩))
theorem dc_4 (hc : LCX x l E b L xs kk nn t i) (hI : INV t z tx R C V U S M) (nx : NX x E ae ab ar an af ah ak ax ag a b kk nn t i) : GG x kk nn (LWM E ae ab ar an af ah ak ax ag a z tx R C D V U S G M) 226 [(0, .ref b), (1, .ref (ae 0)), (2, .ref (a 0)), (3, .int (nI i))] [] := by
  have hN1 := hI.2.1.1
  have h9 := hI.2.1.2.1.1.1.1
  cases h1 : win (xs (i + 1)) (nI 0) (nI (cN C - 1)) with
  | false => exact lc_saying_n1 hc hI nx h1
  | true =>
    obtain ⟨s, e1, -, g1⟩ := win_ex (by decide) (show cN C - 1 < 2 ^ 31 by omega) h1
    have hs1 : s < cN C := by omega
    cases h2 : win (xs (i + 2)) (nI 0) (nI 6) with
    | false => exact lc_saying_n2 s hc hI nx e1 hs1 h2
    | true =>
      obtain ⟨w, e2, -, g2⟩ := win_ex (by decide) (by decide) h2
      exact lc_saying_y s w hc hI nx e1 e2 hs1 (by omega)
theorem dc_5 (hc : LCX x l E b L xs kk nn t i) (hI : INV t z tx R C V U S M) (nx : NX x E ae ab ar an af ah ak ax ag a b kk nn t i) : GG x kk nn (LWM E ae ab ar an af ah ak ax ag a z tx R C D V U S G M) 259 [(0, .ref b), (1, .ref (ae 0)), (2, .ref (a 0)), (3, .int (nI i))] [] := by
  cases h1 : win (xs (i + 1)) (nI 0) (nI 5) with
  | false => exact lc_fact_n hc hI nx h1
  | true =>
    obtain ⟨k, e1, g1, g2⟩ := win_ex (by decide) (by decide) h1
    exact lc_fact_y k hc hI nx e1 (by omega)
theorem dc_6 (hc : LCX x l E b L xs kk nn t i) (hI : INV t z tx R C V U S M) (nx : NX x E ae ab ar an af ah ak ax ag a b kk nn t i) : GG x kk nn (LWM E ae ab ar an af ah ak ax ag a z tx R C D V U S G M) 282 [(0, .ref b), (1, .ref (ae 0)), (2, .ref (a 0)), (3, .int (nI i))] [] := by
  have hN1 := hI.2.1.1
  have h9 := hI.2.1.2.1.1.1.1
  cases h1 : win (xs (i + 1)) (nI 0) (nI (cN C - 1)) with
  | false => exact lc_clash_n1 hc hI nx h1
  | true =>
    obtain ⟨s, e1, -, g1⟩ := win_ex (by decide) (show cN C - 1 < 2 ^ 31 by omega) h1
    have hs1 : s < cN C := by omega
    cases h2 : win (xs (i + 2)) (nI 0) (nI (cN C - 1)) with
    | false => exact lc_clash_n2 s hc hI nx e1 hs1 h2
    | true =>
      obtain ⟨w, e2, -, g2⟩ := win_ex (by decide) (show cN C - 1 < 2 ^ 31 by omega) h2
      have hs2 : w < cN C := by omega
      by_cases q : s = w
      · exact lc_clash_n3 s w hc hI nx e1 e2 hs1 hs2 q
      · exact lc_clash_y s w hc hI nx e1 e2 hs1 hs2 q
theorem dc_7 (hc : LCX x l E b L xs kk nn t i) (hI : INV t z tx R C V U S M) (nx : NX x E ae ab ar an af ah ak ax ag a b kk nn t i) : GG x kk nn (LWM E ae ab ar an af ah ak ax ag a z tx R C D V U S G M) 315 [(0, .ref b), (1, .ref (ae 0)), (2, .ref (a 0)), (3, .int (nI i))] [] := by
  cases h1 : win (xs (i + 1)) (nI 1) (nI 30) with
  | false => exact lc_pass_n hc hI nx h1
  | true =>
    obtain ⟨n, e1, g1, g2⟩ := win_ex (by decide) (by decide) h1
    exact lc_pass_y n hc hI nx e1 g1 g2
theorem dc_8 (hc : LCX x l E b L xs kk nn t i) (hI : INV t z tx R C V U S M) (nx : NX x E ae ab ar an af ah ak ax ag a b kk nn t i) : GG x kk nn (LWM E ae ab ar an af ah ak ax ag a z tx R C D V U S G M) 338 [(0, .ref b), (1, .ref (ae 0)), (2, .ref (a 0)), (3, .int (nI i))] [] := by
  have hN1 := hI.2.1.1
  have h9 := hI.2.1.2.1.1.1.1
  cases h : ((win (xs (i + 1)) (nI 0) (nI 4) && win (xs (i + 2)) (nI 0) (nI 11) && (decide (xs (i + 1) = 0) || win (xs (i + 3)) (nI 0) (nI 11)) && win (xs (i + 4)) (nI 0) (nI 5))) with
  | false => exact lc_say_n hc hI nx h
  | true =>
    simp only [Bool.and_eq_true, Bool.or_eq_true, decide_eq_true_eq] at h
    obtain ⟨⟨⟨q1, q2⟩, q3⟩, q4⟩ := h
    obtain ⟨k, e1, -, g1⟩ := win_ex (by decide) (by decide) q1
    obtain ⟨q, e2, -, g2⟩ := win_ex (by decide) (by decide) q2
    obtain ⟨p, e4, -, g4⟩ := win_ex (by decide) (by decide) q4
    have q5 : ∃ y, xs (i + 3) = nI y ∧ (k = 0 ∨ y < 12) := by
      rcases q3 with c | c
      · obtain ⟨y, -, hy⟩ := wb_of32 (xs (i + 3))
        exact ⟨y, hy, Or.inl ((nz_eq (by omega)).mp (e1.symm.trans c))⟩
      · obtain ⟨y, hy, -, g3⟩ := win_ex (by decide) (by decide) c
        exact ⟨y, hy, Or.inr (by omega)⟩
    obtain ⟨y, e3, g3⟩ := q5
    by_cases c : cN C < 9
    · exact lc_say_y k q y p hc hI nx e1 e2 e3 e4 (by omega) (by omega) g3 (by omega) c
    · exact lc_say_f k q y p hc hI nx e1 e2 e3 e4 (by omega) (by omega) g3 (by omega) (by omega)
theorem dc_9 (hc : LCX x l E b L xs kk nn t i) (hI : INV t z tx R C V U S M) (nx : NX x E ae ab ar an af ah ak ax ag a b kk nn t i) : GG x kk nn (LWM E ae ab ar an af ah ak ax ag a z tx R C D V U S G M) 391 [(0, .ref b), (1, .ref (ae 0)), (2, .ref (a 0)), (3, .int (nI i))] [] := by
  have hN1 := hI.2.1.1
  have h9 := hI.2.1.2.1.1.1.1
  cases h1 : win (xs (i + 1)) (nI 0) (nI (cN C - 1)) with
  | false => exact lc_withdraw_n hc hI nx h1
  | true =>
    obtain ⟨s, e1, -, g1⟩ := win_ex (by decide) (show cN C - 1 < 2 ^ 31 by omega) h1
    have hs1 : s < cN C := by omega
    cases h2 : cwB C s with
    | false => exact lc_withdraw_no s hc hI nx e1 hs1 h2
    | true => exact lc_withdraw_y s hc hI nx e1 hs1 h2
theorem dc_10 (hc : LCX x l E b L xs kk nn t i) (hI : INV t z tx R C V U S M) (nx : NX x E ae ab ar an af ah ak ax ag a b kk nn t i) : GG x kk nn (LWM E ae ab ar an af ah ak ax ag a z tx R C D V U S G M) 414 [(0, .ref b), (1, .ref (ae 0)), (2, .ref (a 0)), (3, .int (nI i))] [] := by
  cases h1 : win (xs (i + 1)) (nI 0) (nI 5) with
  | false => exact lc_turn_n hc hI nx h1
  | true =>
    obtain ⟨k, e1, g1, g2⟩ := win_ex (by decide) (by decide) h1
    exact lc_turn_y k hc hI nx e1 (by omega)
theorem dc_11 (hc : LCX x l E b L xs kk nn t i) (hI : INV t z tx R C V U S M) (nx : NX x E ae ab ar an af ah ak ax ag a b kk nn t i) : GG x kk nn (LWM E ae ab ar an af ah ak ax ag a z tx R C D V U S G M) 437 [(0, .ref b), (1, .ref (ae 0)), (2, .ref (a 0)), (3, .int (nI i))] [] := by
  by_cases q : mA M = 0
  · exact lc_undo_n hc hI nx q
  · exact lc_undo_y hc hI nx (by omega)
theorem dc_12 (hc : LCX x l E b L xs kk nn t i) (hI : INV t z tx R C V U S M) (nx : NX x E ae ab ar an af ah ak ax ag a b kk nn t i) : GG x kk nn (LWM E ae ab ar an af ah ak ax ag a z tx R C D V U S G M) 450 [(0, .ref b), (1, .ref (ae 0)), (2, .ref (a 0)), (3, .int (nI i))] [] := by
  cases h1 : win (xs (i + 1)) (nI 0) (nI 60) with
  | false => exact lc_behind_n hc hI nx h1
  | true =>
    obtain ⟨n, e1, g1, g2⟩ := win_ex (by decide) (by decide) h1
    exact lc_behind_y n hc hI nx e1 g2
theorem dc_13 (hc : LCX x l E b L xs kk nn t i) (hI : INV t z tx R C V U S M) (nx : NX x E ae ab ar an af ah ak ax ag a b kk nn t i) : GG x kk nn (LWM E ae ab ar an af ah ak ax ag a z tx R C D V U S G M) 473 [(0, .ref b), (1, .ref (ae 0)), (2, .ref (a 0)), (3, .int (nI i))] [] := by
  cases h1 : win (xs (i + 1)) (nI 0) (nI 1) with
  | false => exact lc_fall_n hc hI nx h1
  | true =>
    obtain ⟨w, e1, g1, g2⟩ := win_ex (by decide) (by decide) h1
    exact lc_fall_y w hc hI nx e1 g2
theorem dc_14 (hc : LCX x l E b L xs kk nn t i) (hI : INV t z tx R C V U S M) (nx : NX x E ae ab ar an af ah ak ax ag a b kk nn t i) : GG x kk nn (LWM E ae ab ar an af ah ak ax ag a z tx R C D V U S G M) 496 [(0, .ref b), (1, .ref (ae 0)), (2, .ref (a 0)), (3, .int (nI i))] [] := by
  exact lc_core hc hI nx
theorem dc_15 (hc : LCX x l E b L xs kk nn t i) (hI : INV t z tx R C V U S M) (nx : NX x E ae ab ar an af ah ak ax ag a b kk nn t i) : GG x kk nn (LWM E ae ab ar an af ah ak ax ag a z tx R C D V U S G M) 509 [(0, .ref b), (1, .ref (ae 0)), (2, .ref (a 0)), (3, .int (nI i))] [] := by
  exact lc_cut hc hI nx
theorem dc_16 (hc : LCX x l E b L xs kk nn t i) (hI : INV t z tx R C V U S M) (nx : NX x E ae ab ar an af ah ak ax ag a b kk nn t i) : GG x kk nn (LWM E ae ab ar an af ah ak ax ag a z tx R C D V U S G M) 522 [(0, .ref b), (1, .ref (ae 0)), (2, .ref (a 0)), (3, .int (nI i))] [] := by
  cases h1 : win (xs (i + 1)) (nI 0) (nI 1) with
  | false => exact lc_truest_n hc hI nx h1
  | true =>
    obtain ⟨q, e1, g1, g2⟩ := win_ex (by decide) (by decide) h1
    exact lc_truest_y q hc hI nx e1 g2
theorem dc_17 (hc : LCX x l E b L xs kk nn t i) (hI : INV t z tx R C V U S M) (nx : NX x E ae ab ar an af ah ak ax ag a b kk nn t i) : GG x kk nn (LWM E ae ab ar an af ah ak ax ag a z tx R C D V U S G M) 545 [(0, .ref b), (1, .ref (ae 0)), (2, .ref (a 0)), (3, .int (nI i))] [] := by
  exact lc_married hc hI nx
theorem dc_18 (hc : LCX x l E b L xs kk nn t i) (hI : INV t z tx R C V U S M) (nx : NX x E ae ab ar an af ah ak ax ag a b kk nn t i) : GG x kk nn (LWM E ae ab ar an af ah ak ax ag a z tx R C D V U S G M) 558 [(0, .ref b), (1, .ref (ae 0)), (2, .ref (a 0)), (3, .int (nI i))] [] := by
  cases h : (win (xs (i + 1)) (nI 1) (nI 4) && win (xs (i + 2)) (nI 0) (nI 1)) with
  | false => exact lc_trial_n hc hI nx h
  | true =>
    simp only [Bool.and_eq_true] at h
    obtain ⟨q1, q2⟩ := h
    obtain ⟨n, e1, g1, k1⟩ := win_ex (by decide) (by decide) q1
    obtain ⟨p, e2, g2, k2⟩ := win_ex (by decide) (by decide) q2
    exact lc_trial_y n p hc hI nx e1 e2 g1 k1 k2
theorem dc_19 (hc : LCX x l E b L xs kk nn t i) (hI : INV t z tx R C V U S M) (nx : NX x E ae ab ar an af ah ak ax ag a b kk nn t i) : GG x kk nn (LWM E ae ab ar an af ah ak ax ag a z tx R C D V U S G M) 591 [(0, .ref b), (1, .ref (ae 0)), (2, .ref (a 0)), (3, .int (nI i))] [] := by
  have hN1 := hI.2.1.1
  have h9 := hI.2.1.2.1.1.1.1
  have h6 := hI.2.2.1.2.1
  by_cases e9 : xs (i + 2) = 0
  · cases h1 : win (xs (i + 1)) (nI 0) (nI (cN C - 1)) with
    | false => exact lc_see_n0 hc hI nx e9 h1
    | true =>
      obtain ⟨s, e1, -, g1⟩ := win_ex (by decide) (show cN C - 1 < 2 ^ 31 by omega) h1
      have hs1 : s < cN C := by omega
      by_cases q : hN S < 6
      · exact lc_see_y0 s hc hI nx e9 e1 hs1 q
      · exact lc_see_f0 s hc hI nx e9 e1 hs1 (by omega)
  · cases h1 : win (xs (i + 1)) (nI 0) (nI (cN C - 1)) with
    | false => exact lc_see_n1 hc hI nx e9 h1
    | true =>
      obtain ⟨s, e1, -, g1⟩ := win_ex (by decide) (show cN C - 1 < 2 ^ 31 by omega) h1
      have hs1 : s < cN C := by omega
      by_cases q : hN S < 6
      · exact lc_see_y1 s hc hI nx e9 e1 hs1 q
      · exact lc_see_f1 s hc hI nx e9 e1 hs1 (by omega)
theorem dc_20 (hc : LCX x l E b L xs kk nn t i) (hI : INV t z tx R C V U S M) (nx : NX x E ae ab ar an af ah ak ax ag a b kk nn t i) : GG x kk nn (LWM E ae ab ar an af ah ak ax ag a z tx R C D V U S G M) 640 [(0, .ref b), (1, .ref (ae 0)), (2, .ref (a 0)), (3, .int (nI i))] [] := by
  exact lc_forget hc hI nx
theorem dc_21 (hc : LCX x l E b L xs kk nn t i) (hI : INV t z tx R C V U S M) (nx : NX x E ae ab ar an af ah ak ax ag a b kk nn t i) : GG x kk nn (LWM E ae ab ar an af ah ak ax ag a z tx R C D V U S G M) 653 [(0, .ref b), (1, .ref (ae 0)), (2, .ref (a 0)), (3, .int (nI i))] [] := by
  cases h1 : win (xs (i + 1)) (nI 0) (nI 1) with
  | false => exact lc_worlds_n hc hI nx h1
  | true =>
    obtain ⟨q, e1, g1, g2⟩ := win_ex (by decide) (by decide) h1
    exact lc_worlds_y q hc hI nx e1 g2
theorem dc_22 (hc : LCX x l E b L xs kk nn t i) (hI : INV t z tx R C V U S M) (nx : NX x E ae ab ar an af ah ak ax ag a b kk nn t i) : GG x kk nn (LWM E ae ab ar an af ah ak ax ag a z tx R C D V U S G M) 676 [(0, .ref b), (1, .ref (ae 0)), (2, .ref (a 0)), (3, .int (nI i))] [] := by
  cases h1 : win (xs (i + 1)) (nI 0) (nI 5) with
  | false => exact lc_must_n hc hI nx h1
  | true =>
    obtain ⟨k, e1, g1, g2⟩ := win_ex (by decide) (by decide) h1
    exact lc_must_y k hc hI nx e1 (by omega)
theorem dc_23 (hc : LCX x l E b L xs kk nn t i) (hI : INV t z tx R C V U S M) (nx : NX x E ae ab ar an af ah ak ax ag a b kk nn t i) : GG x kk nn (LWM E ae ab ar an af ah ak ax ag a z tx R C D V U S G M) 699 [(0, .ref b), (1, .ref (ae 0)), (2, .ref (a 0)), (3, .int (nI i))] [] := by
  cases h1 : win (xs (i + 1)) (nI 0) (nI 1) with
  | false => exact lc_liars_n hc hI nx h1
  | true =>
    obtain ⟨q, e1, g1, g2⟩ := win_ex (by decide) (by decide) h1
    exact lc_liars_y q hc hI nx e1 g2
theorem dc_24 (hc : LCX x l E b L xs kk nn t i) (hI : INV t z tx R C V U S M) (nx : NX x E ae ab ar an af ah ak ax ag a b kk nn t i) : GG x kk nn (LWM E ae ab ar an af ah ak ax ag a z tx R C D V U S G M) 722 [(0, .ref b), (1, .ref (ae 0)), (2, .ref (a 0)), (3, .int (nI i))] [] := by
  cases h : (win (xs (i + 1)) (nI 0) (nI 9) && win (xs (i + 2)) (nI 0) (nI 10) && win (xs (i + 3)) (nI 0) (nI 1)) with
  | false => exact lc_chance_n hc hI nx h
  | true =>
    simp only [Bool.and_eq_true] at h
    obtain ⟨⟨q1, q2⟩, q3⟩ := h
    obtain ⟨k, e1, g1, k1⟩ := win_ex (by decide) (by decide) q1
    obtain ⟨w, e2, g2, k2⟩ := win_ex (by decide) (by decide) q2
    obtain ⟨p, e3, g3, k3⟩ := win_ex (by decide) (by decide) q3
    exact lc_chance_y k w p hc hI nx e1 e2 e3 k1 k2 k3
theorem dc_25 (hc : LCX x l E b L xs kk nn t i) (hI : INV t z tx R C V U S M) (nx : NX x E ae ab ar an af ah ak ax ag a b kk nn t i) : GG x kk nn (LWM E ae ab ar an af ah ak ax ag a z tx R C D V U S G M) 765 [(0, .ref b), (1, .ref (ae 0)), (2, .ref (a 0)), (3, .int (nI i))] [] := by
  cases h : (win (xs (i + 1)) (nI 0) (nI 9999) && win (xs (i + 2)) (nI 1) (nI 60) && win (xs (i + 3)) (nI 0) (nI 1)) with
  | false => exact lc_year_n hc hI nx h
  | true =>
    simp only [Bool.and_eq_true] at h
    obtain ⟨⟨q1, q2⟩, q3⟩ := h
    obtain ⟨y, e1, g1, k1⟩ := win_ex (by decide) (by decide) q1
    obtain ⟨n, e2, g2, k2⟩ := win_ex (by decide) (by decide) q2
    obtain ⟨p, e3, g3, k3⟩ := win_ex (by decide) (by decide) q3
    exact lc_year_y y n p hc hI nx e1 e2 e3 k1 g2 k2 k3
theorem dc_26 (hc : LCX x l E b L xs kk nn t i) (hI : INV t z tx R C V U S M) (nx : NX x E ae ab ar an af ah ak ax ag a b kk nn t i) : GG x kk nn (LWM E ae ab ar an af ah ak ax ag a z tx R C D V U S G M) 808 [(0, .ref b), (1, .ref (ae 0)), (2, .ref (a 0)), (3, .int (nI i))] [] := by
  have h2 := hI.2.2.2.2.2.1
  by_cases q : mK M = 2
  · exact lc_keep_f hc hI nx q
  · exact lc_keep_y hc hI nx (by omega)
theorem dc_27 (hc : LCX x l E b L xs kk nn t i) (hI : INV t z tx R C V U S M) (nx : NX x E ae ab ar an af ah ak ax ag a b kk nn t i) : GG x kk nn (LWM E ae ab ar an af ah ak ax ag a z tx R C D V U S G M) 821 [(0, .ref b), (1, .ref (ae 0)), (2, .ref (a 0)), (3, .int (nI i))] [] := by
  by_cases q : mK M = 0
  · exact lc_back_n hc hI nx q
  · exact lc_back_y hc hI nx (by omega)
theorem dc_28 (hc : LCX x l E b L xs kk nn t i) (hI : INV t z tx R C V U S M) (nx : NX x E ae ab ar an af ah ak ax ag a b kk nn t i) : GG x kk nn (LWM E ae ab ar an af ah ak ax ag a z tx R C D V U S G M) 834 [(0, .ref b), (1, .ref (ae 0)), (2, .ref (a 0)), (3, .int (nI i))] [] := by
  exact lc_count hc hI nx
theorem lt5 {L i : Nat} (hL : L ≤ 320) (hi : i ≤ 400) : nI L - nI 5 < nI i ↔ L < i + 5 := by
  by_cases h : 5 ≤ L
  · rw [pk_sub h, nI_ltI (by omega) (by omega)]; omega
  · have c : L = 0 ∨ L = 1 ∨ L = 2 ∨ L = 3 ∨ L = 4 := by omega
    have hn : nI L - nI 5 < 0 := by rcases c with rfl | rfl | rfl | rfl | rfl <;> decide
    exact ⟨fun _ => by omega, fun _ => Int32.lt_of_lt_of_le hn (nI_pos' (by omega))⟩
set_option maxHeartbeats 4000000 in
set_option maxRecDepth 100000 in
theorem law_loop (hX : CX x l cL_law RL wsL_law E room_1) (hSX : SX x b L xs) (hkk : kk ≤ room_1.cells) (hnn : nn ≤ room_1.slots) (hL3 : L ≤ 320) (hnL : c_nL x = 4) (hend : ∀ (ws : va_W) (lv : List (Nat × Value)), GG x kk nn ws 864 lv [.int (nI 1)]) : ∀ (fuel t : Nat), L + 5 ≤ 5 * t + 5 * fuel → 5 * t ≤ L + 4 → ∀ (z : Nat) (tx : Nat → Nat) (R : RC) (C : FC) (D : FC) (V : PV) (U : PV) (S : SC) (G : GC) (M : MV), INV t z tx R C V U S M → GG x kk nn (LWM E ae ab ar an af ah ak ax ag a z tx R C D V U S G M) 18 [(0, .ref b), (1, .ref (ae 0)), (2, .ref (a 0)), (3, .int (nI (5 * t)))] [] := by
  intro fuel
  induction fuel with
  | zero => intro t h1 h2; exact absurd h1 (by omega)
  | succ fuel ih =>
    intro t h1 h2 z tx R C D V U S G M hI
    refine g_iload_n hX dL_law_18 3 rfl ?_
    refine g_aload_n hX dL_law_19 0 rfl ?_
    refine g_slenL hX hSX dL_law_20 ?_
    refine g_iconst hX (nI 5) dL_law_21 rfl ?_
    refine g_isub hX (nI L - nI 5) dL_law_22 rfl ?_
    refine g_icmp_gt hX 863 dL_law_23 (by decide) (fun c => ?_) (fun c => ?_)
    · refine g_iconst hX (nI 1) dL_law_863 rfl ?_
      exact hend _ _
    · have hi5 : 5 * t + 5 ≤ L := Nat.le_of_not_lt fun q => c ((lt5 hL3 (by omega)).mpr q)
      have hc : LCX x l E b L xs kk nn t (5 * t) := ⟨hX, hSX, hkk, hnn, rfl, hi5, hL3⟩
      have nx : NX x E ae ab ar an af ah ak ax ag a b kk nn t (5 * t) := by
        intro z2 tx2 R2 C2 D2 V2 U2 S2 G2 M2 hI2
        refine g_iinc hX (j := 3) (nI (5 * (t + 1))) [(3, .int (nI (5 * (t + 1)))), (0, .ref b), (1, .ref (ae 0)), (2, .ref (a 0))] dL_law_857 3 rfl (iinc_n _ _) (by rw [hnL]; rfl) rfl ?_
        refine g_goto hX 18 dL_law_860 (by decide) ?_
        exact g_lv _ [1, 2, 3, 0] rfl (ih (t + 1) (by omega) (by omega) z2 tx2 R2 C2 D2 V2 U2 S2 G2 M2 hI2)
      refine g_aload_n hX dL_law_26 0 rfl ?_
      refine g_iload_n hX dL_law_27 3 rfl ?_
      refine g_sld hX hSX (i := 5 * t) (xs (5 * t)) (by omega) (by omega) rfl dL_law_28 ?_
      refine g_bipush hX (nI 31) dL_law_29 rfl ?_
      obtain ⟨w, hw⟩ : ∃ w : Int32, xs (5 * t) &&& nI 31 = w := ⟨_, rfl⟩
      refine g_iand hX w dL_law_31 hw ?_
      by_cases c0 : w = nI 0
      · refine g_tin hX 164 dL_law_32 (by rw [c0]; decide) (by rw [c0]; decide) (by rw [c0]; rfl) (by decide) ?_
        exact dc_0 hc hI nx
      by_cases c1 : w = nI 1
      · refine g_tin hX 187 dL_law_32 (by rw [c1]; decide) (by rw [c1]; decide) (by rw [c1]; rfl) (by decide) ?_
        exact dc_1 hc hI nx
      by_cases c2 : w = nI 2
      · refine g_tin hX 200 dL_law_32 (by rw [c2]; decide) (by rw [c2]; decide) (by rw [c2]; rfl) (by decide) ?_
        exact dc_2 hc hI nx
      by_cases c3 : w = nI 3
      · refine g_tin hX 213 dL_law_32 (by rw [c3]; decide) (by rw [c3]; decide) (by rw [c3]; rfl) (by decide) ?_
        exact dc_3 hc hI nx
      by_cases c4 : w = nI 4
      · refine g_tin hX 226 dL_law_32 (by rw [c4]; decide) (by rw [c4]; decide) (by rw [c4]; rfl) (by decide) ?_
        exact dc_4 hc hI nx
      by_cases c5 : w = nI 5
      · refine g_tin hX 259 dL_law_32 (by rw [c5]; decide) (by rw [c5]; decide) (by rw [c5]; rfl) (by decide) ?_
        exact dc_5 hc hI nx
      by_cases c6 : w = nI 6
      · refine g_tin hX 282 dL_law_32 (by rw [c6]; decide) (by rw [c6]; decide) (by rw [c6]; rfl) (by decide) ?_
        exact dc_6 hc hI nx
      by_cases c7 : w = nI 7
      · refine g_tin hX 315 dL_law_32 (by rw [c7]; decide) (by rw [c7]; decide) (by rw [c7]; rfl) (by decide) ?_
        exact dc_7 hc hI nx
      by_cases c8 : w = nI 8
      · refine g_tin hX 338 dL_law_32 (by rw [c8]; decide) (by rw [c8]; decide) (by rw [c8]; rfl) (by decide) ?_
        exact dc_8 hc hI nx
      by_cases c9 : w = nI 9
      · refine g_tin hX 391 dL_law_32 (by rw [c9]; decide) (by rw [c9]; decide) (by rw [c9]; rfl) (by decide) ?_
        exact dc_9 hc hI nx
      by_cases c10 : w = nI 10
      · refine g_tin hX 414 dL_law_32 (by rw [c10]; decide) (by rw [c10]; decide) (by rw [c10]; rfl) (by decide) ?_
        exact dc_10 hc hI nx
      by_cases c11 : w = nI 11
      · refine g_tin hX 437 dL_law_32 (by rw [c11]; decide) (by rw [c11]; decide) (by rw [c11]; rfl) (by decide) ?_
        exact dc_11 hc hI nx
      by_cases c12 : w = nI 12
      · refine g_tin hX 450 dL_law_32 (by rw [c12]; decide) (by rw [c12]; decide) (by rw [c12]; rfl) (by decide) ?_
        exact dc_12 hc hI nx
      by_cases c13 : w = nI 13
      · refine g_tin hX 473 dL_law_32 (by rw [c13]; decide) (by rw [c13]; decide) (by rw [c13]; rfl) (by decide) ?_
        exact dc_13 hc hI nx
      by_cases c14 : w = nI 14
      · refine g_tin hX 496 dL_law_32 (by rw [c14]; decide) (by rw [c14]; decide) (by rw [c14]; rfl) (by decide) ?_
        exact dc_14 hc hI nx
      by_cases c15 : w = nI 15
      · refine g_tin hX 509 dL_law_32 (by rw [c15]; decide) (by rw [c15]; decide) (by rw [c15]; rfl) (by decide) ?_
        exact dc_15 hc hI nx
      by_cases c16 : w = nI 16
      · refine g_tin hX 522 dL_law_32 (by rw [c16]; decide) (by rw [c16]; decide) (by rw [c16]; rfl) (by decide) ?_
        exact dc_16 hc hI nx
      by_cases c17 : w = nI 17
      · refine g_tin hX 545 dL_law_32 (by rw [c17]; decide) (by rw [c17]; decide) (by rw [c17]; rfl) (by decide) ?_
        exact dc_17 hc hI nx
      by_cases c18 : w = nI 18
      · refine g_tin hX 558 dL_law_32 (by rw [c18]; decide) (by rw [c18]; decide) (by rw [c18]; rfl) (by decide) ?_
        exact dc_18 hc hI nx
      by_cases c19 : w = nI 19
      · refine g_tin hX 591 dL_law_32 (by rw [c19]; decide) (by rw [c19]; decide) (by rw [c19]; rfl) (by decide) ?_
        exact dc_19 hc hI nx
      by_cases c20 : w = nI 20
      · refine g_tin hX 640 dL_law_32 (by rw [c20]; decide) (by rw [c20]; decide) (by rw [c20]; rfl) (by decide) ?_
        exact dc_20 hc hI nx
      by_cases c21 : w = nI 21
      · refine g_tin hX 653 dL_law_32 (by rw [c21]; decide) (by rw [c21]; decide) (by rw [c21]; rfl) (by decide) ?_
        exact dc_21 hc hI nx
      by_cases c22 : w = nI 22
      · refine g_tin hX 676 dL_law_32 (by rw [c22]; decide) (by rw [c22]; decide) (by rw [c22]; rfl) (by decide) ?_
        exact dc_22 hc hI nx
      by_cases c23 : w = nI 23
      · refine g_tin hX 699 dL_law_32 (by rw [c23]; decide) (by rw [c23]; decide) (by rw [c23]; rfl) (by decide) ?_
        exact dc_23 hc hI nx
      by_cases c24 : w = nI 24
      · refine g_tin hX 722 dL_law_32 (by rw [c24]; decide) (by rw [c24]; decide) (by rw [c24]; rfl) (by decide) ?_
        exact dc_24 hc hI nx
      by_cases c25 : w = nI 25
      · refine g_tin hX 765 dL_law_32 (by rw [c25]; decide) (by rw [c25]; decide) (by rw [c25]; rfl) (by decide) ?_
        exact dc_25 hc hI nx
      by_cases c26 : w = nI 26
      · refine g_tin hX 808 dL_law_32 (by rw [c26]; decide) (by rw [c26]; decide) (by rw [c26]; rfl) (by decide) ?_
        exact dc_26 hc hI nx
      by_cases c27 : w = nI 27
      · refine g_tin hX 821 dL_law_32 (by rw [c27]; decide) (by rw [c27]; decide) (by rw [c27]; rfl) (by decide) ?_
        exact dc_27 hc hI nx
      by_cases c28 : w = nI 28
      · refine g_tin hX 834 dL_law_32 (by rw [c28]; decide) (by rw [c28]; decide) (by rw [c28]; rfl) (by decide) ?_
        exact dc_28 hc hI nx
      refine g_tout hX 857 dL_law_32 (tsw_out (hi := 28) (by decide) (fun v hv => match v, hv with | 0, _ => c0 | 1, _ => c1 | 2, _ => c2 | 3, _ => c3 | 4, _ => c4 | 5, _ => c5 | 6, _ => c6 | 7, _ => c7 | 8, _ => c8 | 9, _ => c9 | 10, _ => c10 | 11, _ => c11 | 12, _ => c12 | 13, _ => c13 | 14, _ => c14 | 15, _ => c15 | 16, _ => c16 | 17, _ => c17 | 18, _ => c18 | 19, _ => c19 | 20, _ => c20 | 21, _ => c21 | 22, _ => c22 | 23, _ => c23 | 24, _ => c24 | 25, _ => c25 | 26, _ => c26 | 27, _ => c27 | 28, _ => c28 | v + 29, hv => absurd hv (by omega))) (by decide) ?_
      exact nx z tx R C D V U S G M (INV_up hI)
end LAWS
