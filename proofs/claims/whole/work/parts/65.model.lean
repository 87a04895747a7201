set_option maxHeartbeats 4000000 in
set_option maxRecDepth 100000 in
theorem c_X5_isWithin_y (l : Launch) (E : EV) (n : Nat) (lo : Nat) (hi : Nat) (h1 : lo ≤ n) (h2 : n ≤ hi) (h3 : hi < 2 ^ 31) : KI l yX5_isWithin wsX5_isWithin (rmN 0) E (σ := Unit) [.int (nI n), .int (nI lo), .int (nI hi)] (([] : va_W)) (fun _ => True) (fun _ => (bI true)) (fun _ => ([] : va_W)) 0 0 := by
  have h := c_X5_isWithin l E (nI n) (nI lo) (nI hi)
  rw [win_y h1 h2 h3] at h
  exact h
set_option maxHeartbeats 4000000 in
set_option maxRecDepth 100000 in
theorem c_X5_truest_n (l : Launch) (E : EV) (ae : Nat → Nat) (ab : Nat → Nat) (ar : Nat → Nat) (an : Nat → Nat) (af : Nat → Nat) (ah : Nat → Nat) (ak : Nat → Nat) (ax : Nat → Nat) (ag : Nat → Nat) (z : Nat) (x0 : Int32) (hx : win x0 (nI 0) (nI 1) = false) : KI l yX5_truest wsX5_truest (rmN 6) E (σ := Unit) [.ref (ae 0), .int x0] (lfo E ae ab ar an af ah ak ax ag z) (fun _ => True) (fun _ => (-1)) (fun _ => lfo E ae ab ar an af ah ak ax ag z) 0 0 := by
  refine KI.of (cc := cX5_truest) (maxL := 6) (ty := .int) (hnar := fun _ _ => rfl) rfl rfl rfl (fun x hX hin hret hnL => ?_)
  replace hX : CX x l cX5_truest RX5 wsX5_truest E (rmN 6) := hX
  show GG x 0 0 (lfo E ae ab ar an af ah ak ax ag z) 0 [(0, .ref (ae 0)), (1, .int x0)] []
  refine g_iload_n hX dX5_truest_0 1 rfl ?_
  refine g_iconst hX (nI 0) dX5_truest_1 rfl ?_
  refine g_iconst hX (nI 1) dX5_truest_2 rfl ?_
  have hc3 : CUT (lfo E ae ab ar an af ah ak ax ag z) (([] : va_W)) (lfo E ae ab ar an af ah ak ax ag z) [] [0] := ⟨rfl, rfl, rfl, rfl, rfl⟩
  refine g_TI hX hc3 [.int x0, .int (nI 0), .int (nI 1)] [] (c_X5_isWithin l E x0 (nI 0) (nI 1)) gX5_truest_X5_isWithin calX5_isWithin rfl rfl rfl rfl dX5_truest_3 rfl ⟨Nat.zero_le _, Nat.zero_le _⟩ (fun _ => lfo E ae ab ar an af ah ak ax ag z) [0] rfl (fun _ => rfl) (fun _ hu3 => ?_)
  refine g_if_ne hX 11 dX5_truest_6 (by decide) (fun c6 => ?_) (fun c6 => ?_)
  · replace c6 := mt bI_0.mpr c6
    replace c6 := bNf c6
    rw [hx] at c6; cases c6
  · replace c6 := bI_0.mp c6
    refine g_iconst hX ((-1)) dX5_truest_9 rfl ?_
    exact g_eq rfl rfl rfl (hret () _ _ trivial dX5_truest_10)
set_option maxHeartbeats 4000000 in
set_option maxRecDepth 100000 in
theorem c_X5_truest_y (l : Launch) (E : EV) (ae : Nat → Nat) (ab : Nat → Nat) (ar : Nat → Nat) (an : Nat → Nat) (af : Nat → Nat) (ah : Nat → Nat) (ak : Nat → Nat) (ax : Nat → Nat) (ag : Nat → Nat) (z : Nat) (C : FC) (q : Nat) (hC : FO C) (hq : q ≤ 1) : KI l yX5_truest wsX5_truest (rmN 6) E (σ := Unit) [.ref (ae 0), .int (nI q)] ((lfo E ae ab ar an af ah ak ax ag z) ++ (fw E an C)) (fun _ => True) (fun _ => (if q = 0 then (trX C 64).1 else nI (trX C 64).2)) (fun _ => (lfo E ae ab ar an af ah ak ax ag z) ++ (fw E an C)) 0 0 := by
  refine KI.of (cc := cX5_truest) (maxL := 6) (ty := .int) (hnar := fun _ _ => rfl) rfl rfl rfl (fun x hX hin hret hnL => ?_)
  replace hX : CX x l cX5_truest RX5 wsX5_truest E (rmN 6) := hX
  show GG x 0 0 ((lfo E ae ab ar an af ah ak ax ag z) ++ (fw E an C)) 0 [(0, .ref (ae 0)), (1, .int (nI q))] []
  have inRX5 : ∀ w ∈ wsX50, w ∈ wsX5_truest := by decide +kernel
  have fl24 : Cond.fieldLink RX5 24 "LieForce" "now" "LLieForce$Force;" ∈ wsX5_truest := by decide +kernel
  obtain ⟨h9, h64, h512, hT, hI⟩ := id hC
  refine g_iload_n hX dX5_truest_0 1 rfl ?_
  refine g_iconst hX (nI 0) dX5_truest_1 rfl ?_
  refine g_iconst hX (nI 1) dX5_truest_2 rfl ?_
  have hc3 : CUT ((lfo E ae ab ar an af ah ak ax ag z) ++ (fw E an C)) (([] : va_W)) ((lfo E ae ab ar an af ah ak ax ag z) ++ (fw E an C)) [] [0, 1, 2, 3, 4, 5, 6, 7] := ⟨rfl, rfl, rfl, rfl, rfl⟩
  refine g_TI hX hc3 [.int (nI q), .int (nI 0), .int (nI 1)] [] (c_X5_isWithin_y l E q 0 1 (by omega) (by omega) (by omega)) gX5_truest_X5_isWithin calX5_isWithin rfl rfl rfl rfl dX5_truest_3 rfl ⟨Nat.zero_le _, Nat.zero_le _⟩ (fun _ => (lfo E ae ab ar an af ah ak ax ag z) ++ (fw E an C)) [0, 1, 2, 3, 4, 5, 6, 7] rfl (fun _ => rfl) (fun _ hu3 => ?_)
  refine g_if_ne hX 11 dX5_truest_6 (by decide) (fun c6 => ?_) (fun c6 => ?_)
  · replace c6 := mt bI_0.mpr c6
    replace c6 := bNf c6
    refine g_iconst hX ((-1)) dX5_truest_11 rfl ?_
    refine g_istore_n hX (j := 2) [(2, .int (-1)), (0, .ref (ae 0)), (1, .int (nI q))] dX5_truest_12 rfl (by rw [hnL]; rfl) rfl ?_
    refine g_iconst hX (nI 0) dX5_truest_13 rfl ?_
    refine g_istore_n hX (j := 3) [(3, .int (nI 0)), (2, .int (-1)), (0, .ref (ae 0)), (1, .int (nI q))] dX5_truest_14 rfl (by rw [hnL]; rfl) rfl ?_
    refine g_iconst hX (nI 0) dX5_truest_15 rfl ?_
    refine g_istore hX (j := 4) [(4, .int (nI 0)), (3, .int (nI 0)), (2, .int (-1)), (0, .ref (ae 0)), (1, .int (nI q))] dX5_truest_16 (by rw [hnL]; rfl) rfl ?_
    have lp18 : ∀ (fuel : Nat) (i : Nat), 64 - i < fuel → (i ≤ 64) → GG x 0 0 ((lfo E ae ab ar an af ah ak ax ag z) ++ (fw E an C)) 18 [(0, .ref (ae 0)), (1, .int (nI q)), (2, .int ((trX C i).1)), (3, .int (nI ((trX C i).2))), (4, .int (nI i))] [] := by
      intro fuel
      induction fuel with
      | zero => intro i hm; exact absurd hm (Nat.not_lt_zero _)
      | succ fuel ih18 =>
        intro i hm18 hi
        have htl := trX_lt C i hi
        refine g_iload hX dX5_truest_18 4 rfl ?_
        refine g_bipush hX (nI 64) dX5_truest_20 rfl ?_
        refine g_icmp_ge hX 54 dX5_truest_22 (by decide) (fun c22 => ?_) (fun c22 => ?_)
        · replace c22 := (nI_leI (by omega) (by omega)).mp c22
          refine g_iload_n hX dX5_truest_54 1 rfl ?_
          refine g_if_ne hX 62 dX5_truest_55 (by decide) (fun c55 => ?_) (fun c55 => ?_)
          · replace c55 := mt (nz_eq (by omega)).mpr c55
            refine g_iload_n hX dX5_truest_62 3 rfl ?_
            exact g_eq rfl rfl (congrArg (fun z => [Value.int z]) (by show _ = (if q = 0 then (trX C 64).1 else nI (trX C 64).2); rw [show 64 = i by omega]; first | rw [if_pos c55] | rw [if_neg c55])) (hret () _ _ trivial dX5_truest_63)
          · replace c55 := (nz_eq (by omega)).mp c55
            refine g_iload_n hX dX5_truest_58 2 rfl ?_
            refine g_goto hX 63 dX5_truest_59 (by decide) ?_
            exact g_eq rfl rfl (congrArg (fun z => [Value.int z]) (by show _ = (if q = 0 then (trX C 64).1 else nI (trX C 64).2); rw [show 64 = i by omega]; first | rw [if_pos c55] | rw [if_neg c55])) (hret () _ _ trivial dX5_truest_63)
        · replace c22 := mt (nI_leI (by omega) (by omega)).mpr c22
          refine g_aload_n hX dX5_truest_25 0 rfl ?_
          refine g_get hX (v := .ref (an 0)) 0 inRX5 rfl rfl 3 rfl fl24 rfl rfl dX5_truest_26 ?_
          refine g_iload hX dX5_truest_29 4 rfl ?_
          have hc31 : CUT ((lfo E ae ab ar an af ah ak ax ag z) ++ (fw E an C)) (fw E an C) (lfo E ae ab ar an af ah ak ax ag z) [1, 2, 3, 4, 5, 6, 7] [0] := ⟨rfl, rfl, rfl, rfl, rfl⟩
          refine g_VI hX hc31 [.int (nI i)] [] (c_X0_soAtOnce l E an C i (by first | assumption | omega) (by omega)) gX5_truest_X0_soAtOnce calX0_soAtOnce rfl rfl rfl rfl 1 rfl rfl rfl rfl dX5_truest_31 rfl ⟨Nat.zero_le _, Nat.zero_le _⟩ (fun _ => (lfo E ae ab ar an af ah ak ax ag z) ++ (fw E an C)) [0, 1, 2, 3, 4, 5, 6, 7] rfl (fun _ => rfl) (fun _ hu31 => ?_)
          refine g_istore hX (j := 5) [(5, .int (nI (pop (soM C i)))), (0, .ref (ae 0)), (1, .int (nI q)), (2, .int ((trX C i).1)), (3, .int (nI ((trX C i).2))), (4, .int (nI i))] dX5_truest_34 (by rw [hnL]; rfl) rfl ?_
          refine g_iload hX dX5_truest_36 0 rfl ?_
          refine g_iload_n hX dX5_truest_38 3 rfl ?_
          refine g_icmp_le hX 48 dX5_truest_39 (by decide) (fun c39 => ?_) (fun c39 => ?_)
          · skip
            refine g_iinc hX (j := 4) (nI (i + 1)) [(4, .int (nI (i + 1))), (5, .int (nI (pop (soM C i)))), (0, .ref (ae 0)), (1, .int (nI q)), (2, .int ((trX C i).1)), (3, .int (nI ((trX C i).2)))] dX5_truest_48 5 rfl (iinc_n _ _) (by rw [hnL]; rfl) rfl ?_
            refine g_goto hX 18 dX5_truest_51 (by decide) ?_
            exact g_lv [(0, .ref (ae 0)), (1, .int (nI q)), (2, .int ((trX C i).1)), (3, .int (nI ((trX C i).2))), (4, .int (nI (i + 1)))] [2, 3, 4, 5, 0] rfl (g_eq rfl (by first | rw [show trX C (i + 1) = trX C i from by rw [trX, if_neg (Int32.not_lt.mpr c39)]] | rw [show trX C (i + 1) = (nI (pop (soM C i)), i) from by rw [trX, if_pos (Int32.not_le.mp c39)]]) rfl (ih18 (i + 1) (by omega) (by omega)))
          · skip
            refine g_iload hX dX5_truest_42 0 rfl ?_
            refine g_istore_n hX (j := 2) [(2, .int (nI (pop (soM C i)))), (5, .int (nI (pop (soM C i)))), (0, .ref (ae 0)), (1, .int (nI q)), (3, .int (nI ((trX C i).2))), (4, .int (nI i))] dX5_truest_44 rfl (by rw [hnL]; rfl) rfl ?_
            refine g_iload hX dX5_truest_45 5 rfl ?_
            refine g_istore_n hX (j := 3) [(3, .int (nI i)), (2, .int (nI (pop (soM C i)))), (5, .int (nI (pop (soM C i)))), (0, .ref (ae 0)), (1, .int (nI q)), (4, .int (nI i))] dX5_truest_47 rfl (by rw [hnL]; rfl) rfl ?_
            refine g_iinc hX (j := 4) (nI (i + 1)) [(4, .int (nI (i + 1))), (3, .int (nI i)), (2, .int (nI (pop (soM C i)))), (5, .int (nI (pop (soM C i)))), (0, .ref (ae 0)), (1, .int (nI q))] dX5_truest_48 5 rfl (iinc_n _ _) (by rw [hnL]; rfl) rfl ?_
            refine g_goto hX 18 dX5_truest_51 (by decide) ?_
            exact g_lv [(0, .ref (ae 0)), (1, .int (nI q)), (2, .int (nI (pop (soM C i)))), (3, .int (nI i)), (4, .int (nI (i + 1)))] [4, 5, 2, 1, 0] rfl (g_eq rfl (by first | rw [show trX C (i + 1) = trX C i from by rw [trX, if_neg (Int32.not_lt.mpr c39)]] | rw [show trX C (i + 1) = (nI (pop (soM C i)), i) from by rw [trX, if_pos (Int32.not_le.mp c39)]]) rfl (ih18 (i + 1) (by omega) (by omega)))
    exact g_lv _ [3, 4, 2, 1, 0] rfl (lp18 _ 0 (Nat.lt_succ_self _) (Nat.zero_le _))
  · replace c6 := bI_0.mp c6
    exact absurd c6 (by simp)
set_option maxHeartbeats 4000000 in
set_option maxRecDepth 100000 in
theorem c_X5_trial_n (l : Launch) (E : EV) (ae : Nat → Nat) (ab : Nat → Nat) (ar : Nat → Nat) (an : Nat → Nat) (af : Nat → Nat) (ah : Nat → Nat) (ak : Nat → Nat) (ax : Nat → Nat) (ag : Nat → Nat) (z : Nat) (x0 : Int32) (x1 : Int32) (hx : (win x0 (nI 1) (nI 4) && win x1 (nI 0) (nI 1)) = false) : KI l yX5_trial wsX5_trial (rmN 6) E (σ := Unit) [.ref (ae 0), .int x0, .int x1] (lfo E ae ab ar an af ah ak ax ag z) (fun _ => True) (fun _ => (-1)) (fun _ => lfo E ae ab ar an af ah ak ax ag z) 0 0 := by
  refine KI.of (cc := cX5_trial) (maxL := 3) (ty := .int) (hnar := fun _ _ => rfl) rfl rfl rfl (fun x hX hin hret hnL => ?_)
  replace hX : CX x l cX5_trial RX5 wsX5_trial E (rmN 6) := hX
  show GG x 0 0 (lfo E ae ab ar an af ah ak ax ag z) 0 [(0, .ref (ae 0)), (1, .int x0), (2, .int x1)] []
  refine g_iload_n hX dX5_trial_0 1 rfl ?_
  refine g_iconst hX (nI 1) dX5_trial_1 rfl ?_
  refine g_iconst hX (nI 4) dX5_trial_2 rfl ?_
  have hc3 : CUT (lfo E ae ab ar an af ah ak ax ag z) (([] : va_W)) (lfo E ae ab ar an af ah ak ax ag z) [] [0] := ⟨rfl, rfl, rfl, rfl, rfl⟩
  refine g_TI hX hc3 [.int x0, .int (nI 1), .int (nI 4)] [] (c_X5_isWithin l E x0 (nI 1) (nI 4)) gX5_trial_X5_isWithin calX5_isWithin rfl rfl rfl rfl dX5_trial_3 rfl ⟨Nat.zero_le _, Nat.zero_le _⟩ (fun _ => lfo E ae ab ar an af ah ak ax ag z) [0] rfl (fun _ => rfl) (fun _ hu3 => ?_)
  refine g_if_eq hX 18 dX5_trial_6 (by decide) (fun c6 => ?_) (fun c6 => ?_)
  · replace c6 := bI_0.mp c6
    refine g_iconst hX ((-1)) dX5_trial_18 rfl ?_
    exact g_eq rfl rfl rfl (hret () _ _ trivial dX5_trial_19)
  · replace c6 := mt bI_0.mpr c6
    replace c6 := bNf c6
    refine g_iload_n hX dX5_trial_9 2 rfl ?_
    refine g_iconst hX (nI 0) dX5_trial_10 rfl ?_
    refine g_iconst hX (nI 1) dX5_trial_11 rfl ?_
    have hc12 : CUT (lfo E ae ab ar an af ah ak ax ag z) (([] : va_W)) (lfo E ae ab ar an af ah ak ax ag z) [] [0] := ⟨rfl, rfl, rfl, rfl, rfl⟩
    refine g_TI hX hc12 [.int x1, .int (nI 0), .int (nI 1)] [] (c_X5_isWithin l E x1 (nI 0) (nI 1)) gX5_trial_X5_isWithin calX5_isWithin rfl rfl rfl rfl dX5_trial_12 rfl ⟨Nat.zero_le _, Nat.zero_le _⟩ (fun _ => lfo E ae ab ar an af ah ak ax ag z) [0] rfl (fun _ => rfl) (fun _ hu12 => ?_)
    refine g_if_ne hX 20 dX5_trial_15 (by decide) (fun c15 => ?_) (fun c15 => ?_)
    · replace c15 := mt bI_0.mpr c15
      replace c15 := bNf c15
      rw [c6, c15] at hx; cases hx
    · replace c15 := bI_0.mp c15
      refine g_iconst hX ((-1)) dX5_trial_18 rfl ?_
      exact g_eq rfl rfl rfl (hret () _ _ trivial dX5_trial_19)
set_option maxHeartbeats 4000000 in
set_option maxRecDepth 100000 in
theorem c_X5_trial_y (l : Launch) (E : EV) (ae : Nat → Nat) (ab : Nat → Nat) (ar : Nat → Nat) (an : Nat → Nat) (af : Nat → Nat) (ah : Nat → Nat) (ak : Nat → Nat) (ax : Nat → Nat) (ag : Nat → Nat) (z : Nat) (C : FC) (G : GC) (n : Nat) (p : Nat) (hC : FO C) (hn1 : 1 ≤ n) (hn4 : n ≤ 4) (hp : p ≤ 1) : KI l yX5_trial wsX5_trial (rmN 6) E (σ := Unit) [.ref (ae 0), .int (nI n), .int (nI p)] ((lfo E ae ab ar an af ah ak ax ag z ++ (fw E an C ++ (gw E ag G)))) (fun _ => True) (fun _ => (if p = 0 then nI (lvF C n n (cF C)) else oI (fmO (mkGC (lvF C n (n - 1)) (lvF C n n)) (cF C)))) (fun _ => (lfo E ae ab ar an af ah ak ax ag z ++ (fw E an C ++ (gw E ag (mkGC (lvF C n (n - 1)) (lvF C n n)))))) 0 0 := by
  refine KI.of (cc := cX5_trial) (maxL := 3) (ty := .int) (hnar := fun _ _ => rfl) rfl rfl rfl (fun x hX hin hret hnL => ?_)
  replace hX : CX x l cX5_trial RX5 wsX5_trial E (rmN 6) := hX
  show GG x 0 0 ((lfo E ae ab ar an af ah ak ax ag z ++ (fw E an C ++ (gw E ag G)))) 0 [(0, .ref (ae 0)), (1, .int (nI n)), (2, .int (nI p))] []
  have inRX0 : ∀ w ∈ wsX00, w ∈ wsX5_trial := by decide +kernel
  have inRX5 : ∀ w ∈ wsX50, w ∈ wsX5_trial := by decide +kernel
  have fl108 : Cond.fieldLink RX5 108 "LieForce$Force" "facts" "I" ∈ wsX5_trial := by decide +kernel
  have fl24 : Cond.fieldLink RX5 24 "LieForce" "now" "LLieForce$Force;" ∈ wsX5_trial := by decide +kernel
  have fl56 : Cond.fieldLink RX5 56 "LieForce" "game" "LLieForce$Game;" ∈ wsX5_trial := by decide +kernel
  obtain ⟨h9, h64, h512, hT, hI⟩ := id hC
  refine g_iload_n hX dX5_trial_0 1 rfl ?_
  refine g_iconst hX (nI 1) dX5_trial_1 rfl ?_
  refine g_iconst hX (nI 4) dX5_trial_2 rfl ?_
  have hc3 : CUT ((lfo E ae ab ar an af ah ak ax ag z ++ (fw E an C ++ (gw E ag G)))) (([] : va_W)) ((lfo E ae ab ar an af ah ak ax ag z ++ (fw E an C ++ (gw E ag G)))) [] [0, 1, 2, 3, 4, 5, 6, 7, 8, 9, 10] := ⟨rfl, rfl, rfl, rfl, rfl⟩
  refine g_TI hX hc3 [.int (nI n), .int (nI 1), .int (nI 4)] [] (c_X5_isWithin_y l E n 1 4 (by omega) (by omega) (by omega)) gX5_trial_X5_isWithin calX5_isWithin rfl rfl rfl rfl dX5_trial_3 rfl ⟨Nat.zero_le _, Nat.zero_le _⟩ (fun _ => (lfo E ae ab ar an af ah ak ax ag z ++ (fw E an C ++ (gw E ag G)))) [0, 1, 2, 3, 4, 5, 6, 7, 8, 9, 10] rfl (fun _ => rfl) (fun _ hu3 => ?_)
  refine g_if_eq hX 18 dX5_trial_6 (by decide) (fun c6 => ?_) (fun c6 => ?_)
  · replace c6 := bI_0.mp c6
    exact absurd c6 (by simp)
  · replace c6 := mt bI_0.mpr c6
    replace c6 := bNf c6
    refine g_iload_n hX dX5_trial_9 2 rfl ?_
    refine g_iconst hX (nI 0) dX5_trial_10 rfl ?_
    refine g_iconst hX (nI 1) dX5_trial_11 rfl ?_
    have hc12 : CUT ((lfo E ae ab ar an af ah ak ax ag z ++ (fw E an C ++ (gw E ag G)))) (([] : va_W)) ((lfo E ae ab ar an af ah ak ax ag z ++ (fw E an C ++ (gw E ag G)))) [] [0, 1, 2, 3, 4, 5, 6, 7, 8, 9, 10] := ⟨rfl, rfl, rfl, rfl, rfl⟩
    refine g_TI hX hc12 [.int (nI p), .int (nI 0), .int (nI 1)] [] (c_X5_isWithin_y l E p 0 1 (by omega) (by omega) (by omega)) gX5_trial_X5_isWithin calX5_isWithin rfl rfl rfl rfl dX5_trial_12 rfl ⟨Nat.zero_le _, Nat.zero_le _⟩ (fun _ => (lfo E ae ab ar an af ah ak ax ag z ++ (fw E an C ++ (gw E ag G)))) [0, 1, 2, 3, 4, 5, 6, 7, 8, 9, 10] rfl (fun _ => rfl) (fun _ hu12 => ?_)
    refine g_if_ne hX 20 dX5_trial_15 (by decide) (fun c15 => ?_) (fun c15 => ?_)
    · replace c15 := mt bI_0.mpr c15
      replace c15 := bNf c15
      refine g_aload_n hX dX5_trial_20 0 rfl ?_
      refine g_get hX (v := .ref (ag 0)) 0 inRX5 rfl rfl 8 rfl fl56 rfl rfl dX5_trial_21 ?_
      refine g_aload_n hX dX5_trial_24 0 rfl ?_
      refine g_get hX (v := .ref (an 0)) 0 inRX5 rfl rfl 3 rfl fl24 rfl rfl dX5_trial_25 ?_
      refine g_iload_n hX dX5_trial_28 1 rfl ?_
      have hc29 : CUT ((lfo E ae ab ar an af ah ak ax ag z ++ (fw E an C ++ (gw E ag G)))) ((gw E ag G) ++ (fw E an C)) (lfo E ae ab ar an af ah ak ax ag z) [8, 9, 10, 1, 2, 3, 4, 5, 6, 7] [0] := ⟨rfl, rfl, rfl, rfl, rfl⟩
      refine g_VV hX hc29 [.ref (an 0), .int (nI n)] [] (c_X1_lookAhead l E ag G an C n hC hn1 hn4) gX5_trial_X1_lookAhead calX1_lookAhead rfl rfl rfl rfl 8 rfl rfl rfl rfl dX5_trial_29 rfl ⟨Nat.zero_le _, Nat.zero_le _⟩ (fun _ => (lfo E ae ab ar an af ah ak ax ag z ++ (fw E an C ++ (gw E ag (mkGC (lvF C n (n - 1)) (lvF C n n)))))) [0, 4, 5, 6, 7, 8, 9, 10, 1, 2, 3] rfl (fun _ => rfl) (fun _ hu29 => ?_)
      refine g_iload_n hX dX5_trial_32 2 rfl ?_
      refine g_if_ne hX 53 dX5_trial_33 (by decide) (fun c33 => ?_) (fun c33 => ?_)
      · replace c33 := mt (nz_eq (by omega)).mpr c33
        refine g_aload_n hX dX5_trial_53 0 rfl ?_
        refine g_get hX (v := .ref (ag 0)) 0 inRX5 rfl rfl 8 rfl fl56 rfl rfl dX5_trial_54 ?_
        refine g_aload_n hX dX5_trial_57 0 rfl ?_
        refine g_get hX (v := .ref (an 0)) 0 inRX5 rfl rfl 3 rfl fl24 rfl rfl dX5_trial_58 ?_
        refine g_get hX (v := .int (nI (cF C))) 1 inRX0 rfl rfl 0 rfl fl108 rfl rfl dX5_trial_61 ?_
        have hc64 : CUT ((lfo E ae ab ar an af ah ak ax ag z ++ (fw E an C ++ (gw E ag (mkGC (lvF C n (n - 1)) (lvF C n n)))))) (gw E ag (mkGC (lvF C n (n - 1)) (lvF C n n))) ((lfo E ae ab ar an af ah ak ax ag z) ++ (fw E an C)) [8, 9, 10] [0, 1, 2, 3, 4, 5, 6, 7] := ⟨rfl, rfl, rfl, rfl, rfl⟩
        refine g_VI hX hc64 [.int (nI (cF C))] [] (c_X1_firstMove l E ag (mkGC (lvF C n (n - 1)) (lvF C n n)) (cF C) h64 (fun w hw => lvF_le h9 n _ w hw) (fun w hw => lvF_le h9 n _ w hw)) gX5_trial_X1_firstMove calX1_firstMove rfl rfl rfl rfl 8 rfl rfl rfl rfl dX5_trial_64 rfl ⟨Nat.zero_le _, Nat.zero_le _⟩ (fun _ => (lfo E ae ab ar an af ah ak ax ag z ++ (fw E an C ++ (gw E ag (mkGC (lvF C n (n - 1)) (lvF C n n)))))) [0, 1, 2, 3, 4, 5, 6, 7, 8, 9, 10] rfl (fun _ => rfl) (fun _ hu64 => ?_)
        exact g_eq rfl rfl (congrArg (fun z => [Value.int z]) (by show _ = (if p = 0 then nI (lvF C n n (cF C)) else oI (fmO (mkGC (lvF C n (n - 1)) (lvF C n n)) (cF C))); first | (rw [if_pos c33]; rfl) | (rw [if_neg c33]))) (hret () _ _ trivial dX5_trial_67)
      · replace c33 := (nz_eq (by omega)).mp c33
        refine g_aload_n hX dX5_trial_36 0 rfl ?_
        refine g_get hX (v := .ref (ag 0)) 0 inRX5 rfl rfl 8 rfl fl56 rfl rfl dX5_trial_37 ?_
        refine g_aload_n hX dX5_trial_40 0 rfl ?_
        refine g_get hX (v := .ref (an 0)) 0 inRX5 rfl rfl 3 rfl fl24 rfl rfl dX5_trial_41 ?_
        refine g_get hX (v := .int (nI (cF C))) 1 inRX0 rfl rfl 0 rfl fl108 rfl rfl dX5_trial_44 ?_
        have hc47 : CUT ((lfo E ae ab ar an af ah ak ax ag z ++ (fw E an C ++ (gw E ag (mkGC (lvF C n (n - 1)) (lvF C n n)))))) (gw E ag (mkGC (lvF C n (n - 1)) (lvF C n n))) ((lfo E ae ab ar an af ah ak ax ag z) ++ (fw E an C)) [8, 9, 10] [0, 1, 2, 3, 4, 5, 6, 7] := ⟨rfl, rfl, rfl, rfl, rfl⟩
        refine g_VI hX hc47 [.int (nI (cF C))] [] (c_X1_outcome l E ag (mkGC (lvF C n (n - 1)) (lvF C n n)) (cF C) h64) gX5_trial_X1_outcome calX1_outcome rfl rfl rfl rfl 8 rfl rfl rfl rfl dX5_trial_47 rfl ⟨Nat.zero_le _, Nat.zero_le _⟩ (fun _ => (lfo E ae ab ar an af ah ak ax ag z ++ (fw E an C ++ (gw E ag (mkGC (lvF C n (n - 1)) (lvF C n n)))))) [0, 1, 2, 3, 4, 5, 6, 7, 8, 9, 10] rfl (fun _ => rfl) (fun _ hu47 => ?_)
        refine g_goto hX 67 dX5_trial_50 (by decide) ?_
        exact g_eq rfl rfl (congrArg (fun z => [Value.int z]) (by show _ = (if p = 0 then nI (lvF C n n (cF C)) else oI (fmO (mkGC (lvF C n (n - 1)) (lvF C n n)) (cF C))); first | (rw [if_pos c33]; rfl) | (rw [if_neg c33]))) (hret () _ _ trivial dX5_trial_67)
    · replace c15 := bI_0.mp c15
      exact absurd c15 (by simp)
set_option maxHeartbeats 4000000 in
set_option maxRecDepth 100000 in
theorem c_X5_must_n (l : Launch) (E : EV) (ae : Nat → Nat) (ab : Nat → Nat) (ar : Nat → Nat) (an : Nat → Nat) (af : Nat → Nat) (ah : Nat → Nat) (ak : Nat → Nat) (ax : Nat → Nat) (ag : Nat → Nat) (z : Nat) (x0 : Int32) (hx : win x0 (nI 0) (nI 5) = false) : KI l yX5_must wsX5_must (rmN 6) E (σ := Unit) [.ref (ae 0), .int x0] (lfo E ae ab ar an af ah ak ax ag z) (fun _ => True) (fun _ => (-1)) (fun _ => lfo E ae ab ar an af ah ak ax ag z) 0 0 := by
  refine KI.of (cc := cX5_must) (maxL := 6) (ty := .int) (hnar := fun _ _ => rfl) rfl rfl rfl (fun x hX hin hret hnL => ?_)
  replace hX : CX x l cX5_must RX5 wsX5_must E (rmN 6) := hX
  show GG x 0 0 (lfo E ae ab ar an af ah ak ax ag z) 0 [(0, .ref (ae 0)), (1, .int x0)] []
  refine g_iload_n hX dX5_must_0 1 rfl ?_
  have hc1 : CUT (lfo E ae ab ar an af ah ak ax ag z) (([] : va_W)) (lfo E ae ab ar an af ah ak ax ag z) [] [0] := ⟨rfl, rfl, rfl, rfl, rfl⟩
  refine g_TI hX hc1 [.int x0] [] (c_X5_isFact l E x0) gX5_must_X5_isFact calX5_isFact rfl rfl rfl rfl dX5_must_1 rfl ⟨Nat.zero_le _, Nat.zero_le _⟩ (fun _ => lfo E ae ab ar an af ah ak ax ag z) [0] rfl (fun _ => rfl) (fun _ hu1 => ?_)
  refine g_if_ne hX 9 dX5_must_4 (by decide) (fun c4 => ?_) (fun c4 => ?_)
  · replace c4 := mt bI_0.mpr c4
    replace c4 := bNf c4
    rw [hx] at c4; cases c4
  · replace c4 := bI_0.mp c4
    refine g_iconst hX ((-1)) dX5_must_7 rfl ?_
    exact g_eq rfl rfl rfl (hret () _ _ trivial dX5_must_8)
set_option maxHeartbeats 4000000 in
set_option maxRecDepth 100000 in
theorem c_X5_must_y (l : Launch) (E : EV) (ae : Nat → Nat) (ab : Nat → Nat) (ar : Nat → Nat) (an : Nat → Nat) (af : Nat → Nat) (ah : Nat → Nat) (ak : Nat → Nat) (ax : Nat → Nat) (ag : Nat → Nat) (z : Nat) (C : FC) (S : SC) (k : Nat) (hC : FO C) (h6 : hN S ≤ 6) (hs9 : ∀ i, i < hN S → hS S i < 9) (hk : k < 6) : KI l yX5_must wsX5_must (rmN 6) E (σ := Unit) [.ref (ae 0), .int (nI k)] ((lfo E ae ab ar an af ah ak ax ag z ++ (fw E an C ++ (sw E ax S)))) (fun _ => True) (fun _ => (mustX (asW C S (hN S)) k)) (fun _ => (lfo E ae ab ar an af ah ak ax ag z ++ (fw E an C ++ (sw E ax S)))) 0 0 := by
  refine KI.of (cc := cX5_must) (maxL := 6) (ty := .int) (hnar := fun _ _ => rfl) rfl rfl rfl (fun x hX hin hret hnL => ?_)
  replace hX : CX x l cX5_must RX5 wsX5_must E (rmN 6) := hX
  show GG x 0 0 ((lfo E ae ab ar an af ah ak ax ag z ++ (fw E an C ++ (sw E ax S)))) 0 [(0, .ref (ae 0)), (1, .int (nI k))] []
  have inRX5 : ∀ w ∈ wsX50, w ∈ wsX5_must := by decide +kernel
  have fl24 : Cond.fieldLink RX5 24 "LieForce" "now" "LLieForce$Force;" ∈ wsX5_must := by decide +kernel
  have fl49 : Cond.fieldLink RX5 49 "LieForce" "sight" "LLieForce$Sight;" ∈ wsX5_must := by decide +kernel
  have hw64 := asW_lt C S (hN S)
  have hwa : (asW C S (hN S)) &&& wol k < 2 ^ 64 := and_lt (wol_lt12 k (by omega))
  refine g_iload_n hX dX5_must_0 1 rfl ?_
  have hc1 : CUT ((lfo E ae ab ar an af ah ak ax ag z ++ (fw E an C ++ (sw E ax S)))) (([] : va_W)) ((lfo E ae ab ar an af ah ak ax ag z ++ (fw E an C ++ (sw E ax S)))) [] [0, 1, 2, 3, 4, 5, 6, 7, 8, 9, 10] := ⟨rfl, rfl, rfl, rfl, rfl⟩
  refine g_TI hX hc1 [.int (nI k)] [] (c_X5_isFact_n l E k (by omega)) gX5_must_X5_isFact calX5_isFact rfl rfl rfl rfl dX5_must_1 rfl ⟨Nat.zero_le _, Nat.zero_le _⟩ (fun _ => (lfo E ae ab ar an af ah ak ax ag z ++ (fw E an C ++ (sw E ax S)))) [0, 1, 2, 3, 4, 5, 6, 7, 8, 9, 10] rfl (fun _ => rfl) (fun _ hu1 => ?_)
  refine g_if_ne hX 9 dX5_must_4 (by decide) (fun c4 => ?_) (fun c4 => ?_)
  · replace c4 := mt bI_0.mpr c4
    replace c4 := bNf c4
    refine g_aload_n hX dX5_must_9 0 rfl ?_
    refine g_get hX (v := .ref (ax 0)) 0 inRX5 rfl rfl 7 rfl fl49 rfl rfl dX5_must_10 ?_
    refine g_aload_n hX dX5_must_13 0 rfl ?_
    refine g_get hX (v := .ref (an 0)) 0 inRX5 rfl rfl 3 rfl fl24 rfl rfl dX5_must_14 ?_
    have hc17 : CUT ((lfo E ae ab ar an af ah ak ax ag z ++ (fw E an C ++ (sw E ax S)))) ((sw E ax S) ++ (fw E an C)) (lfo E ae ab ar an af ah ak ax ag z) [8, 9, 10, 1, 2, 3, 4, 5, 6, 7] [0] := ⟨rfl, rfl, rfl, rfl, rfl⟩
    refine g_VL hX hc17 [.ref (an 0)] [] (c_X4_worldsAsSeen l E ax S an C (by first | assumption | omega) (by omega) (by assumption)) gX5_must_X4_worldsAsSeen calX4_worldsAsSeen rfl rfl rfl rfl 8 rfl rfl rfl rfl dX5_must_17 rfl ⟨Nat.zero_le _, Nat.zero_le _⟩ (fun _ => (lfo E ae ab ar an af ah ak ax ag z ++ (fw E an C ++ (sw E ax S)))) [0, 4, 5, 6, 7, 8, 9, 10, 1, 2, 3] rfl (fun _ => rfl) (fun _ hu17 => ?_)
    refine g_lstore_n hX (j := 2) [(2, .long (lN (asW C S ((hN S))))), (0, .ref (ae 0)), (1, .int (nI k))] dX5_must_20 rfl (by rw [hnL]; rfl) rfl ?_
    refine g_lload_n hX dX5_must_21 0 rfl ?_
    refine g_lconst hX (lN 0) dX5_must_22 rfl ?_
    refine g_lcmp hX (lg_cmp (lN (asW C S ((hN S)))) (lN 0)) dX5_must_23 rfl ?_
    refine g_if_ne hX 30 dX5_must_24 (by decide) (fun c24 => ?_) (fun c24 => ?_)
    · replace c24 := mt (lcmp_l (by omega) (by omega)).mpr c24
      refine g_lload_n hX dX5_must_30 0 rfl ?_
      refine g_iload_n hX dX5_must_31 2 rfl ?_
      have hc32 : CUT ((lfo E ae ab ar an af ah ak ax ag z ++ (fw E an C ++ (sw E ax S)))) (([] : va_W)) ((lfo E ae ab ar an af ah ak ax ag z ++ (fw E an C ++ (sw E ax S)))) [] [0, 1, 2, 3, 4, 5, 6, 7, 8, 9, 10] := ⟨rfl, rfl, rfl, rfl, rfl⟩
      refine g_TL hX hc32 [.int (nI k)] [.long (lN (asW C S ((hN S))))] (c_X5_worldsOfLiteral l E k (by omega)) gX5_must_X5_worldsOfLiteral calX5_worldsOfLiteral rfl rfl rfl rfl dX5_must_32 rfl ⟨Nat.zero_le _, Nat.zero_le _⟩ (fun _ => (lfo E ae ab ar an af ah ak ax ag z ++ (fw E an C ++ (sw E ax S)))) [0, 1, 2, 3, 4, 5, 6, 7, 8, 9, 10] rfl (fun _ => rfl) (fun _ hu32 => ?_)
      refine g_land hX (lN ((asW C S ((hN S))) &&& (wol k))) dX5_must_35 (fb_andL _ _) ?_
      refine g_lstore hX (j := 4) [(4, .long (lN ((asW C S ((hN S))) &&& (wol k)))), (2, .long (lN (asW C S ((hN S))))), (0, .ref (ae 0)), (1, .int (nI k))] dX5_must_36 (by rw [hnL]; rfl) rfl ?_
      refine g_lload hX dX5_must_38 0 rfl ?_
      refine g_lload_n hX dX5_must_40 1 rfl ?_
      refine g_lcmp hX (lg_cmp (lN ((asW C S ((hN S))) &&& (wol k))) (lN (asW C S ((hN S))))) dX5_must_41 rfl ?_
      refine g_if_ne hX 47 dX5_must_42 (by decide) (fun c42 => ?_) (fun c42 => ?_)
      · replace c42 := mt (lcmp_l (by omega) (by omega)).mpr c42
        refine g_lload hX dX5_must_47 0 rfl ?_
        refine g_lconst hX (lN 0) dX5_must_49 rfl ?_
        refine g_lcmp hX (lg_cmp (lN ((asW C S ((hN S))) &&& (wol k))) (lN 0)) dX5_must_50 rfl ?_
        refine g_if_ne hX 58 dX5_must_51 (by decide) (fun c51 => ?_) (fun c51 => ?_)
        · replace c51 := mt (lcmp_l (by omega) (by omega)).mpr c51
          refine g_iconst hX (nI 2) dX5_must_58 rfl ?_
          exact g_eq rfl rfl (congrArg (fun z => [Value.int z]) (by show _ = mustX (asW C S (hN S)) k; rw [mustX, if_neg c24, if_neg c42]; first | rw [if_pos c51] | rw [if_neg c51])) (hret () _ _ trivial dX5_must_59)
        · replace c51 := (lcmp_l (by omega) (by omega)).mp c51
          refine g_iconst hX (nI 0) dX5_must_54 rfl ?_
          refine g_goto hX 59 dX5_must_55 (by decide) ?_
          exact g_eq rfl rfl (congrArg (fun z => [Value.int z]) (by show _ = mustX (asW C S (hN S)) k; rw [mustX, if_neg c24, if_neg c42]; first | rw [if_pos c51] | rw [if_neg c51])) (hret () _ _ trivial dX5_must_59)
      · replace c42 := (lcmp_l (by omega) (by omega)).mp c42
        refine g_iconst hX (nI 1) dX5_must_45 rfl ?_
        exact g_eq rfl rfl (congrArg (fun z => [Value.int z]) (by show _ = mustX (asW C S (hN S)) k; rw [mustX, if_neg c24, if_pos c42])) (hret () _ _ trivial dX5_must_46)
    · replace c24 := (lcmp_l (by omega) (by omega)).mp c24
      refine g_bipush hX ((-4)) dX5_must_27 rfl ?_
      exact g_eq rfl rfl (congrArg (fun z => [Value.int z]) (by show _ = mustX (asW C S (hN S)) k; rw [mustX, if_pos c24])) (hret () _ _ trivial dX5_must_29)
  · replace c4 := bI_0.mp c4
    rw [decide_eq_true hk] at c4; cases c4
set_option maxHeartbeats 4000000 in
set_option maxRecDepth 100000 in
theorem c_X5_liars_n (l : Launch) (E : EV) (ae : Nat → Nat) (ab : Nat → Nat) (ar : Nat → Nat) (an : Nat → Nat) (af : Nat → Nat) (ah : Nat → Nat) (ak : Nat → Nat) (ax : Nat → Nat) (ag : Nat → Nat) (z : Nat) (x0 : Int32) (hx : win x0 (nI 0) (nI 1) = false) : KI l yX5_liars wsX5_liars (rmN 6) E (σ := Unit) [.ref (ae 0), .int x0] (lfo E ae ab ar an af ah ak ax ag z) (fun _ => True) (fun _ => (-1)) (fun _ => lfo E ae ab ar an af ah ak ax ag z) 0 0 := by
  refine KI.of (cc := cX5_liars) (maxL := 8) (ty := .int) (hnar := fun _ _ => rfl) rfl rfl rfl (fun x hX hin hret hnL => ?_)
  replace hX : CX x l cX5_liars RX5 wsX5_liars E (rmN 6) := hX
  show GG x 0 0 (lfo E ae ab ar an af ah ak ax ag z) 0 [(0, .ref (ae 0)), (1, .int x0)] []
  refine g_iload_n hX dX5_liars_0 1 rfl ?_
  refine g_iconst hX (nI 0) dX5_liars_1 rfl ?_
  refine g_iconst hX (nI 1) dX5_liars_2 rfl ?_
  have hc3 : CUT (lfo E ae ab ar an af ah ak ax ag z) (([] : va_W)) (lfo E ae ab ar an af ah ak ax ag z) [] [0] := ⟨rfl, rfl, rfl, rfl, rfl⟩
  refine g_TI hX hc3 [.int x0, .int (nI 0), .int (nI 1)] [] (c_X5_isWithin l E x0 (nI 0) (nI 1)) gX5_liars_X5_isWithin calX5_isWithin rfl rfl rfl rfl dX5_liars_3 rfl ⟨Nat.zero_le _, Nat.zero_le _⟩ (fun _ => lfo E ae ab ar an af ah ak ax ag z) [0] rfl (fun _ => rfl) (fun _ hu3 => ?_)
  refine g_if_ne hX 11 dX5_liars_6 (by decide) (fun c6 => ?_) (fun c6 => ?_)
  · replace c6 := mt bI_0.mpr c6
    replace c6 := bNf c6
    rw [hx] at c6; cases c6
  · replace c6 := bI_0.mp c6
    refine g_iconst hX ((-1)) dX5_liars_9 rfl ?_
    exact g_eq rfl rfl rfl (hret () _ _ trivial dX5_liars_10)
set_option maxHeartbeats 4000000 in
set_option maxRecDepth 100000 in
theorem c_X5_liars_y (l : Launch) (E : EV) (ae : Nat → Nat) (ab : Nat → Nat) (ar : Nat → Nat) (an : Nat → Nat) (af : Nat → Nat) (ah : Nat → Nat) (ak : Nat → Nat) (ax : Nat → Nat) (ag : Nat → Nat) (z : Nat) (C : FC) (S : SC) (q : Nat) (hC : FO C) (h6 : hN S ≤ 6) (hs9 : ∀ i, i < hN S → hS S i < 9) (hq : q ≤ 1) : KI l yX5_liars wsX5_liars (rmN 6) E (σ := Unit) [.ref (ae 0), .int (nI q)] ((lfo E ae ab ar an af ah ak ax ag z ++ (fw E an C ++ (sw E ax S)))) (fun _ => True) (fun _ => (if (lxX C (asW C S (hN S)) 64).2 = none then -4 else if q = 0 then nI (lxX C (asW C S (hN S)) 64).1 else oI (lxX C (asW C S (hN S)) 64).2)) (fun _ => (lfo E ae ab ar an af ah ak ax ag z ++ (fw E an C ++ (sw E ax S)))) 0 0 := by
  refine KI.of (cc := cX5_liars) (maxL := 8) (ty := .int) (hnar := fun _ _ => rfl) rfl rfl rfl (fun x hX hin hret hnL => ?_)
  replace hX : CX x l cX5_liars RX5 wsX5_liars E (rmN 6) := hX
  show GG x 0 0 ((lfo E ae ab ar an af ah ak ax ag z ++ (fw E an C ++ (sw E ax S)))) 0 [(0, .ref (ae 0)), (1, .int (nI q))] []
  have inRX5 : ∀ w ∈ wsX50, w ∈ wsX5_liars := by decide +kernel
  have fl24 : Cond.fieldLink RX5 24 "LieForce" "now" "LLieForce$Force;" ∈ wsX5_liars := by decide +kernel
  have fl49 : Cond.fieldLink RX5 49 "LieForce" "sight" "LLieForce$Sight;" ∈ wsX5_liars := by decide +kernel
  have hw64 := asW_lt C S (hN S)
  obtain ⟨h9, h64, h512, hT, hI⟩ := id hC
  refine g_iload_n hX dX5_liars_0 1 rfl ?_
  refine g_iconst hX (nI 0) dX5_liars_1 rfl ?_
  refine g_iconst hX (nI 1) dX5_liars_2 rfl ?_
  have hc3 : CUT ((lfo E ae ab ar an af ah ak ax ag z ++ (fw E an C ++ (sw E ax S)))) (([] : va_W)) ((lfo E ae ab ar an af ah ak ax ag z ++ (fw E an C ++ (sw E ax S)))) [] [0, 1, 2, 3, 4, 5, 6, 7, 8, 9, 10] := ⟨rfl, rfl, rfl, rfl, rfl⟩
  refine g_TI hX hc3 [.int (nI q), .int (nI 0), .int (nI 1)] [] (c_X5_isWithin_y l E q 0 1 (by omega) (by omega) (by omega)) gX5_liars_X5_isWithin calX5_isWithin rfl rfl rfl rfl dX5_liars_3 rfl ⟨Nat.zero_le _, Nat.zero_le _⟩ (fun _ => (lfo E ae ab ar an af ah ak ax ag z ++ (fw E an C ++ (sw E ax S)))) [0, 1, 2, 3, 4, 5, 6, 7, 8, 9, 10] rfl (fun _ => rfl) (fun _ hu3 => ?_)
  refine g_if_ne hX 11 dX5_liars_6 (by decide) (fun c6 => ?_) (fun c6 => ?_)
  · replace c6 := mt bI_0.mpr c6
    replace c6 := bNf c6
    refine g_aload_n hX dX5_liars_11 0 rfl ?_
    refine g_get hX (v := .ref (ax 0)) 0 inRX5 rfl rfl 7 rfl fl49 rfl rfl dX5_liars_12 ?_
    refine g_aload_n hX dX5_liars_15 0 rfl ?_
    refine g_get hX (v := .ref (an 0)) 0 inRX5 rfl rfl 3 rfl fl24 rfl rfl dX5_liars_16 ?_
    have hc19 : CUT ((lfo E ae ab ar an af ah ak ax ag z ++ (fw E an C ++ (sw E ax S)))) ((sw E ax S) ++ (fw E an C)) (lfo E ae ab ar an af ah ak ax ag z) [8, 9, 10, 1, 2, 3, 4, 5, 6, 7] [0] := ⟨rfl, rfl, rfl, rfl, rfl⟩
    refine g_VL hX hc19 [.ref (an 0)] [] (c_X4_worldsAsSeen l E ax S an C (by first | assumption | omega) (by omega) (by assumption)) gX5_liars_X4_worldsAsSeen calX4_worldsAsSeen rfl rfl rfl rfl 8 rfl rfl rfl rfl dX5_liars_19 rfl ⟨Nat.zero_le _, Nat.zero_le _⟩ (fun _ => (lfo E ae ab ar an af ah ak ax ag z ++ (fw E an C ++ (sw E ax S)))) [0, 4, 5, 6, 7, 8, 9, 10, 1, 2, 3] rfl (fun _ => rfl) (fun _ hu19 => ?_)
    refine g_lstore_n hX (j := 2) [(2, .long (lN (asW C S ((hN S))))), (0, .ref (ae 0)), (1, .int (nI q))] dX5_liars_22 rfl (by rw [hnL]; rfl) rfl ?_
    refine g_bipush hX (nI 7) dX5_liars_23 rfl ?_
    refine g_istore hX (j := 4) [(4, .int (nI 7)), (2, .long (lN (asW C S ((hN S))))), (0, .ref (ae 0)), (1, .int (nI q))] dX5_liars_25 (by rw [hnL]; rfl) rfl ?_
    refine g_bipush hX ((-4)) dX5_liars_27 rfl ?_
    refine g_istore hX (j := 5) [(5, .int (-4)), (4, .int (nI 7)), (2, .long (lN (asW C S ((hN S))))), (0, .ref (ae 0)), (1, .int (nI q))] dX5_liars_29 (by rw [hnL]; rfl) rfl ?_
    refine g_iconst hX (nI 0) dX5_liars_31 rfl ?_
    refine g_istore hX (j := 6) [(6, .int (nI 0)), (5, .int (-4)), (4, .int (nI 7)), (2, .long (lN (asW C S ((hN S))))), (0, .ref (ae 0)), (1, .int (nI q))] dX5_liars_32 (by rw [hnL]; rfl) rfl ?_
    have lp34 : ∀ (fuel : Nat) (i : Nat), 64 - i < fuel → (i ≤ 64) → GG x 0 0 ((lfo E ae ab ar an af ah ak ax ag z ++ (fw E an C ++ (sw E ax S)))) 34 [(0, .ref (ae 0)), (1, .int (nI q)), (2, .long (lN (asW C S ((hN S))))), (4, .int (nI ((lxX C (asW C S (hN S)) i).1))), (5, .int (oI (lxX C (asW C S (hN S)) i).2)), (6, .int (nI i))] [] := by
      intro fuel
      induction fuel with
      | zero => intro i hm; exact absurd hm (Nat.not_lt_zero _)
      | succ fuel ih34 =>
        intro i hm34 hi
        have h7 := lx_7 (C := C) (W := (asW C S (hN S))) i
        have hpl := pop6 _ (liM_lt (C := C) i (k := cN C) (fun j hj => (hI j hj).1))
        have hlt : ∀ t, (lxX C (asW C S (hN S)) i).2 = some t → t < 2 ^ 31 := fun t ht => by have := lx_lt i t ht; omega
        refine g_iload hX dX5_liars_34 5 rfl ?_
        refine g_bipush hX (nI 64) dX5_liars_36 rfl ?_
        refine g_icmp_ge hX 82 dX5_liars_38 (by decide) (fun c38 => ?_) (fun c38 => ?_)
        · replace c38 := (nI_leI (by omega) (by omega)).mp c38
          refine g_iload hX dX5_liars_82 4 rfl ?_
          refine g_bipush hX ((-4)) dX5_liars_84 rfl ?_
          refine g_icmp_ne hX 92 dX5_liars_86 (by decide) (fun c86 => ?_) (fun c86 => ?_)
          · replace c86 := mt (oI_n hlt).mpr c86
            refine g_iload_n hX dX5_liars_92 1 rfl ?_
            refine g_if_ne hX 101 dX5_liars_93 (by decide) (fun c93 => ?_) (fun c93 => ?_)
            · replace c93 := mt (nz_eq (by omega)).mpr c93
              refine g_iload hX dX5_liars_101 4 rfl ?_
              exact g_eq rfl rfl (congrArg (fun z => [Value.int z]) (by show _ = (if (lxX C (asW C S (hN S)) 64).2 = none then -4 else if q = 0 then nI (lxX C (asW C S (hN S)) 64).1 else oI (lxX C (asW C S (hN S)) 64).2); rw [show 64 = i by omega, if_neg c86]; first | rw [if_pos c93] | rw [if_neg c93])) (hret () _ _ trivial dX5_liars_103)
            · replace c93 := (nz_eq (by omega)).mp c93
              refine g_iload hX dX5_liars_96 3 rfl ?_
              refine g_goto hX 103 dX5_liars_98 (by decide) ?_
              exact g_eq rfl rfl (congrArg (fun z => [Value.int z]) (by show _ = (if (lxX C (asW C S (hN S)) 64).2 = none then -4 else if q = 0 then nI (lxX C (asW C S (hN S)) 64).1 else oI (lxX C (asW C S (hN S)) 64).2); rw [show 64 = i by omega, if_neg c86]; first | rw [if_pos c93] | rw [if_neg c93])) (hret () _ _ trivial dX5_liars_103)
          · replace c86 := (oI_n hlt).mp c86
            refine g_bipush hX ((-4)) dX5_liars_89 rfl ?_
            exact g_eq rfl rfl (congrArg (fun z => [Value.int z]) (by show _ = (if (lxX C (asW C S (hN S)) 64).2 = none then -4 else if q = 0 then nI (lxX C (asW C S (hN S)) 64).1 else oI (lxX C (asW C S (hN S)) 64).2); rw [show 64 = i by omega, if_pos c86])) (hret () _ _ trivial dX5_liars_91)
        · replace c38 := mt (nI_leI (by omega) (by omega)).mpr c38
          refine g_aload_n hX dX5_liars_41 0 rfl ?_
          refine g_get hX (v := .ref (an 0)) 0 inRX5 rfl rfl 3 rfl fl24 rfl rfl dX5_liars_42 ?_
          refine g_iload hX dX5_liars_45 5 rfl ?_
          have hc47 : CUT ((lfo E ae ab ar an af ah ak ax ag z ++ (fw E an C ++ (sw E ax S)))) (fw E an C) ((lfo E ae ab ar an af ah ak ax ag z) ++ (sw E ax S)) [1, 2, 3, 4, 5, 6, 7] [0, 8, 9, 10] := ⟨rfl, rfl, rfl, rfl, rfl⟩
          refine g_VI hX hc47 [.int (nI i)] [] (c_X0_liarsIn l E an C i (by first | assumption | omega) (by omega)) gX5_liars_X0_liarsIn calX0_liarsIn rfl rfl rfl rfl 1 rfl rfl rfl rfl dX5_liars_47 rfl ⟨Nat.zero_le _, Nat.zero_le _⟩ (fun _ => (lfo E ae ab ar an af ah ak ax ag z ++ (fw E an C ++ (sw E ax S)))) [0, 4, 5, 6, 7, 8, 9, 10, 1, 2, 3] rfl (fun _ => rfl) (fun _ hu47 => ?_)
          refine g_istore hX (j := 7) [(7, .int (nI (pop (liM C i ((cN C)))))), (0, .ref (ae 0)), (1, .int (nI q)), (2, .long (lN (asW C S ((hN S))))), (4, .int (nI ((lxX C (asW C S (hN S)) i).1))), (5, .int (oI (lxX C (asW C S (hN S)) i).2)), (6, .int (nI i))] dX5_liars_50 (by rw [hnL]; rfl) rfl ?_
          refine g_lload_n hX dX5_liars_52 3 rfl ?_
          refine g_iload hX dX5_liars_53 6 rfl ?_
          have hc55 : CUT ((lfo E ae ab ar an af ah ak ax ag z ++ (fw E an C ++ (sw E ax S)))) (([] : va_W)) ((lfo E ae ab ar an af ah ak ax ag z ++ (fw E an C ++ (sw E ax S)))) [] [0, 1, 2, 3, 4, 5, 6, 7, 8, 9, 10] := ⟨rfl, rfl, rfl, rfl, rfl⟩
          refine g_TI hX hc55 [.long (lN (asW C S ((hN S)))), .int (nI i)] [] (c_X5_isAmong l E (asW C S ((hN S))) i (by first | assumption | omega) (by first | assumption | omega)) gX5_liars_X5_isAmong calX5_isAmong rfl rfl rfl rfl dX5_liars_55 rfl ⟨Nat.zero_le _, Nat.zero_le _⟩ (fun _ => (lfo E ae ab ar an af ah ak ax ag z ++ (fw E an C ++ (sw E ax S)))) [0, 1, 2, 3, 4, 5, 6, 7, 8, 9, 10] rfl (fun _ => rfl) (fun _ hu55 => ?_)
          refine g_if_eq hX 76 dX5_liars_58 (by decide) (fun c58 => ?_) (fun c58 => ?_)
          · replace c58 := bI_0.mp c58
            refine g_iinc hX (j := 6) (nI (i + 1)) [(6, .int (nI (i + 1))), (7, .int (nI (pop (liM C i ((cN C)))))), (0, .ref (ae 0)), (1, .int (nI q)), (2, .long (lN (asW C S ((hN S))))), (4, .int (nI ((lxX C (asW C S (hN S)) i).1))), (5, .int (oI (lxX C (asW C S (hN S)) i).2))] dX5_liars_76 6 rfl (iinc_n _ _) (by rw [hnL]; rfl) rfl ?_
            refine g_goto hX 34 dX5_liars_79 (by decide) ?_
            exact g_lv [(0, .ref (ae 0)), (1, .int (nI q)), (2, .long (lN (asW C S ((hN S))))), (4, .int (nI ((lxX C (asW C S (hN S)) i).1))), (5, .int (oI (lxX C (asW C S (hN S)) i).2)), (6, .int (nI (i + 1)))] [2, 3, 4, 5, 6, 0] rfl (g_eq rfl (by first | (rw [lx_y c58 c65]; rfl) | rw [lx_n (Or.inr c65)] | rw [lx_n (Or.inl c58)]) rfl (ih34 (i + 1) (by omega) (by omega)))
          · replace c58 := mt bI_0.mpr c58
            replace c58 := bNf c58
            refine g_iload hX dX5_liars_61 0 rfl ?_
            refine g_iload hX dX5_liars_63 4 rfl ?_
            refine g_icmp_ge hX 76 dX5_liars_65 (by decide) (fun c65 => ?_) (fun c65 => ?_)
            · replace c65 := (nI_leI (by omega) (by omega)).mp c65
              replace c65 := Nat.not_lt.mpr c65
              refine g_iinc hX (j := 6) (nI (i + 1)) [(6, .int (nI (i + 1))), (7, .int (nI (pop (liM C i ((cN C)))))), (0, .ref (ae 0)), (1, .int (nI q)), (2, .long (lN (asW C S ((hN S))))), (4, .int (nI ((lxX C (asW C S (hN S)) i).1))), (5, .int (oI (lxX C (asW C S (hN S)) i).2))] dX5_liars_76 6 rfl (iinc_n _ _) (by rw [hnL]; rfl) rfl ?_
              refine g_goto hX 34 dX5_liars_79 (by decide) ?_
              exact g_lv [(0, .ref (ae 0)), (1, .int (nI q)), (2, .long (lN (asW C S ((hN S))))), (4, .int (nI ((lxX C (asW C S (hN S)) i).1))), (5, .int (oI (lxX C (asW C S (hN S)) i).2)), (6, .int (nI (i + 1)))] [2, 3, 4, 5, 6, 0] rfl (g_eq rfl (by first | (rw [lx_y c58 c65]; rfl) | rw [lx_n (Or.inr c65)] | rw [lx_n (Or.inl c58)]) rfl (ih34 (i + 1) (by omega) (by omega)))
            · replace c65 := mt (nI_leI (by omega) (by omega)).mpr c65
              replace c65 := Nat.lt_of_not_le c65
              refine g_iload hX dX5_liars_68 0 rfl ?_
              refine g_istore hX (j := 4) [(4, .int (nI (pop (liM C i ((cN C)))))), (7, .int (nI (pop (liM C i ((cN C)))))), (0, .ref (ae 0)), (1, .int (nI q)), (2, .long (lN (asW C S ((hN S))))), (5, .int (oI (lxX C (asW C S (hN S)) i).2)), (6, .int (nI i))] dX5_liars_70 (by rw [hnL]; rfl) rfl ?_
              refine g_iload hX dX5_liars_72 6 rfl ?_
              refine g_istore hX (j := 5) [(5, .int (nI i)), (4, .int (nI (pop (liM C i ((cN C)))))), (7, .int (nI (pop (liM C i ((cN C)))))), (0, .ref (ae 0)), (1, .int (nI q)), (2, .long (lN (asW C S ((hN S))))), (6, .int (nI i))] dX5_liars_74 (by rw [hnL]; rfl) rfl ?_
              refine g_iinc hX (j := 6) (nI (i + 1)) [(6, .int (nI (i + 1))), (5, .int (nI i)), (4, .int (nI (pop (liM C i ((cN C)))))), (7, .int (nI (pop (liM C i ((cN C)))))), (0, .ref (ae 0)), (1, .int (nI q)), (2, .long (lN (asW C S ((hN S)))))] dX5_liars_76 6 rfl (iinc_n _ _) (by rw [hnL]; rfl) rfl ?_
              refine g_goto hX 34 dX5_liars_79 (by decide) ?_
              exact g_lv [(0, .ref (ae 0)), (1, .int (nI q)), (2, .long (lN (asW C S ((hN S))))), (4, .int (nI (pop (liM C i ((cN C)))))), (5, .int (nI i)), (6, .int (nI (i + 1)))] [4, 5, 6, 2, 1, 0] rfl (g_eq rfl (by first | (rw [lx_y c58 c65]; rfl) | rw [lx_n (Or.inr c65)] | rw [lx_n (Or.inl c58)]) rfl (ih34 (i + 1) (by omega) (by omega)))
    exact g_lv _ [4, 5, 3, 2, 1, 0] rfl (lp34 _ 0 (Nat.lt_succ_self _) (Nat.zero_le _))
  · replace c6 := bI_0.mp c6
    exact absurd c6 (by simp)
set_option maxHeartbeats 4000000 in
set_option maxRecDepth 100000 in
theorem c_X5_chance_n (l : Launch) (E : EV) (ae : Nat → Nat) (ab : Nat → Nat) (ar : Nat → Nat) (an : Nat → Nat) (af : Nat → Nat) (ah : Nat → Nat) (ak : Nat → Nat) (ax : Nat → Nat) (ag : Nat → Nat) (z : Nat) (x0 : Int32) (x1 : Int32) (x2 : Int32) (hx : (win x0 (nI 0) (nI 9) && win x1 (nI 0) (nI 10) && win x2 (nI 0) (nI 1)) = false) : KI l yX5_chance wsX5_chance (rmN 6) E (σ := Unit) [.ref (ae 0), .int x0, .int x1, .int x2] (lfo E ae ab ar an af ah ak ax ag z) (fun _ => True) (fun _ => (-1)) (fun _ => lfo E ae ab ar an af ah ak ax ag z) 0 0 := by
  refine KI.of (cc := cX5_chance) (maxL := 7) (ty := .int) (hnar := fun _ _ => rfl) rfl rfl rfl (fun x hX hin hret hnL => ?_)
  replace hX : CX x l cX5_chance RX5 wsX5_chance E (rmN 6) := hX
  show GG x 0 0 (lfo E ae ab ar an af ah ak ax ag z) 0 [(0, .ref (ae 0)), (1, .int x0), (2, .int x1), (3, .int x2)] []
  refine g_iload_n hX dX5_chance_0 1 rfl ?_
  refine g_iconst hX (nI 0) dX5_chance_1 rfl ?_
  refine g_bipush hX (nI 9) dX5_chance_2 rfl ?_
  have hc4 : CUT (lfo E ae ab ar an af ah ak ax ag z) (([] : va_W)) (lfo E ae ab ar an af ah ak ax ag z) [] [0] := ⟨rfl, rfl, rfl, rfl, rfl⟩
  refine g_TI hX hc4 [.int x0, .int (nI 0), .int (nI 9)] [] (c_X5_isWithin l E x0 (nI 0) (nI 9)) gX5_chance_X5_isWithin calX5_isWithin rfl rfl rfl rfl dX5_chance_4 rfl ⟨Nat.zero_le _, Nat.zero_le _⟩ (fun _ => lfo E ae ab ar an af ah ak ax ag z) [0] rfl (fun _ => rfl) (fun _ hu4 => ?_)
  refine g_if_eq hX 29 dX5_chance_7 (by decide) (fun c7 => ?_) (fun c7 => ?_)
  · replace c7 := bI_0.mp c7
    refine g_iconst hX ((-1)) dX5_chance_29 rfl ?_
    exact g_eq rfl rfl rfl (hret () _ _ trivial dX5_chance_30)
  · replace c7 := mt bI_0.mpr c7
    replace c7 := bNf c7
    refine g_iload_n hX dX5_chance_10 2 rfl ?_
    refine g_iconst hX (nI 0) dX5_chance_11 rfl ?_
    refine g_bipush hX (nI 10) dX5_chance_12 rfl ?_
    have hc14 : CUT (lfo E ae ab ar an af ah ak ax ag z) (([] : va_W)) (lfo E ae ab ar an af ah ak ax ag z) [] [0] := ⟨rfl, rfl, rfl, rfl, rfl⟩
    refine g_TI hX hc14 [.int x1, .int (nI 0), .int (nI 10)] [] (c_X5_isWithin l E x1 (nI 0) (nI 10)) gX5_chance_X5_isWithin calX5_isWithin rfl rfl rfl rfl dX5_chance_14 rfl ⟨Nat.zero_le _, Nat.zero_le _⟩ (fun _ => lfo E ae ab ar an af ah ak ax ag z) [0] rfl (fun _ => rfl) (fun _ hu14 => ?_)
    refine g_if_eq hX 29 dX5_chance_17 (by decide) (fun c17 => ?_) (fun c17 => ?_)
    · replace c17 := bI_0.mp c17
      refine g_iconst hX ((-1)) dX5_chance_29 rfl ?_
      exact g_eq rfl rfl rfl (hret () _ _ trivial dX5_chance_30)
    · replace c17 := mt bI_0.mpr c17
      replace c17 := bNf c17
      refine g_iload_n hX dX5_chance_20 3 rfl ?_
      refine g_iconst hX (nI 0) dX5_chance_21 rfl ?_
      refine g_iconst hX (nI 1) dX5_chance_22 rfl ?_
      have hc23 : CUT (lfo E ae ab ar an af ah ak ax ag z) (([] : va_W)) (lfo E ae ab ar an af ah ak ax ag z) [] [0] := ⟨rfl, rfl, rfl, rfl, rfl⟩
      refine g_TI hX hc23 [.int x2, .int (nI 0), .int (nI 1)] [] (c_X5_isWithin l E x2 (nI 0) (nI 1)) gX5_chance_X5_isWithin calX5_isWithin rfl rfl rfl rfl dX5_chance_23 rfl ⟨Nat.zero_le _, Nat.zero_le _⟩ (fun _ => lfo E ae ab ar an af ah ak ax ag z) [0] rfl (fun _ => rfl) (fun _ hu23 => ?_)
      refine g_if_ne hX 31 dX5_chance_26 (by decide) (fun c26 => ?_) (fun c26 => ?_)
      · replace c26 := mt bI_0.mpr c26
        replace c26 := bNf c26
        rw [c7, c17, c26] at hx; cases hx
      · replace c26 := bI_0.mp c26
        refine g_iconst hX ((-1)) dX5_chance_29 rfl ?_
        exact g_eq rfl rfl rfl (hret () _ _ trivial dX5_chance_30)
set_option maxHeartbeats 4000000 in
set_option maxRecDepth 100000 in
theorem c_X5_chance_y (l : Launch) (E : EV) (ae : Nat → Nat) (ab : Nat → Nat) (ar : Nat → Nat) (an : Nat → Nat) (af : Nat → Nat) (ah : Nat → Nat) (ak : Nat → Nat) (ax : Nat → Nat) (ag : Nat → Nat) (z : Nat) (C : FC) (k : Nat) (xx : Nat) (p : Nat) (hC : FO C) (hk : k ≤ 9) (hxx : xx ≤ 10) (hp : p ≤ 1) : KI l yX5_chance wsX5_chance (rmN 6) E (σ := Unit) [.ref (ae 0), .int (nI k), .int (nI xx), .int (nI p)] ((lfo E ae ab ar an af ah ak ax ag z) ++ (fw E an C)) (fun _ => True) (fun _ => (nI (chaV C k xx p))) (fun _ => (lfo E ae ab ar an af ah ak ax ag z) ++ (fw E an C)) 0 0 := by
  refine KI.of (cc := cX5_chance) (maxL := 7) (ty := .int) (hnar := fun _ _ => rfl) rfl rfl rfl (fun x hX hin hret hnL => ?_)
  replace hX : CX x l cX5_chance RX5 wsX5_chance E (rmN 6) := hX
  show GG x 0 0 ((lfo E ae ab ar an af ah ak ax ag z) ++ (fw E an C)) 0 [(0, .ref (ae 0)), (1, .int (nI k)), (2, .int (nI xx)), (3, .int (nI p))] []
  have inRX0 : ∀ w ∈ wsX00, w ∈ wsX5_chance := by decide +kernel
  have inRX5 : ∀ w ∈ wsX50, w ∈ wsX5_chance := by decide +kernel
  have fl108 : Cond.fieldLink RX5 108 "LieForce$Force" "facts" "I" ∈ wsX5_chance := by decide +kernel
  have fl24 : Cond.fieldLink RX5 24 "LieForce" "now" "LLieForce$Force;" ∈ wsX5_chance := by decide +kernel
  obtain ⟨h9, h64, h512, hT, hI⟩ := id hC
  refine g_iload_n hX dX5_chance_0 1 rfl ?_
  refine g_iconst hX (nI 0) dX5_chance_1 rfl ?_
  refine g_bipush hX (nI 9) dX5_chance_2 rfl ?_
  have hc4 : CUT ((lfo E ae ab ar an af ah ak ax ag z) ++ (fw E an C)) (([] : va_W)) ((lfo E ae ab ar an af ah ak ax ag z) ++ (fw E an C)) [] [0, 1, 2, 3, 4, 5, 6, 7] := ⟨rfl, rfl, rfl, rfl, rfl⟩
  refine g_TI hX hc4 [.int (nI k), .int (nI 0), .int (nI 9)] [] (c_X5_isWithin_y l E k 0 9 (by omega) (by omega) (by omega)) gX5_chance_X5_isWithin calX5_isWithin rfl rfl rfl rfl dX5_chance_4 rfl ⟨Nat.zero_le _, Nat.zero_le _⟩ (fun _ => (lfo E ae ab ar an af ah ak ax ag z) ++ (fw E an C)) [0, 1, 2, 3, 4, 5, 6, 7] rfl (fun _ => rfl) (fun _ hu4 => ?_)
  refine g_if_eq hX 29 dX5_chance_7 (by decide) (fun c7 => ?_) (fun c7 => ?_)
  · replace c7 := bI_0.mp c7
    exact absurd c7 (by simp)
  · replace c7 := mt bI_0.mpr c7
    replace c7 := bNf c7
    refine g_iload_n hX dX5_chance_10 2 rfl ?_
    refine g_iconst hX (nI 0) dX5_chance_11 rfl ?_
    refine g_bipush hX (nI 10) dX5_chance_12 rfl ?_
    have hc14 : CUT ((lfo E ae ab ar an af ah ak ax ag z) ++ (fw E an C)) (([] : va_W)) ((lfo E ae ab ar an af ah ak ax ag z) ++ (fw E an C)) [] [0, 1, 2, 3, 4, 5, 6, 7] := ⟨rfl, rfl, rfl, rfl, rfl⟩
    refine g_TI hX hc14 [.int (nI xx), .int (nI 0), .int (nI 10)] [] (c_X5_isWithin_y l E xx 0 10 (by omega) (by omega) (by omega)) gX5_chance_X5_isWithin calX5_isWithin rfl rfl rfl rfl dX5_chance_14 rfl ⟨Nat.zero_le _, Nat.zero_le _⟩ (fun _ => (lfo E ae ab ar an af ah ak ax ag z) ++ (fw E an C)) [0, 1, 2, 3, 4, 5, 6, 7] rfl (fun _ => rfl) (fun _ hu14 => ?_)
    refine g_if_eq hX 29 dX5_chance_17 (by decide) (fun c17 => ?_) (fun c17 => ?_)
    · replace c17 := bI_0.mp c17
      exact absurd c17 (by simp)
    · replace c17 := mt bI_0.mpr c17
      replace c17 := bNf c17
      refine g_iload_n hX dX5_chance_20 3 rfl ?_
      refine g_iconst hX (nI 0) dX5_chance_21 rfl ?_
      refine g_iconst hX (nI 1) dX5_chance_22 rfl ?_
      have hc23 : CUT ((lfo E ae ab ar an af ah ak ax ag z) ++ (fw E an C)) (([] : va_W)) ((lfo E ae ab ar an af ah ak ax ag z) ++ (fw E an C)) [] [0, 1, 2, 3, 4, 5, 6, 7] := ⟨rfl, rfl, rfl, rfl, rfl⟩
      refine g_TI hX hc23 [.int (nI p), .int (nI 0), .int (nI 1)] [] (c_X5_isWithin_y l E p 0 1 (by omega) (by omega) (by omega)) gX5_chance_X5_isWithin calX5_isWithin rfl rfl rfl rfl dX5_chance_23 rfl ⟨Nat.zero_le _, Nat.zero_le _⟩ (fun _ => (lfo E ae ab ar an af ah ak ax ag z) ++ (fw E an C)) [0, 1, 2, 3, 4, 5, 6, 7] rfl (fun _ => rfl) (fun _ hu23 => ?_)
      refine g_if_ne hX 31 dX5_chance_26 (by decide) (fun c26 => ?_) (fun c26 => ?_)
      · replace c26 := mt bI_0.mpr c26
        replace c26 := bNf c26
        refine g_iconst hX (nI 0) dX5_chance_31 rfl ?_
        refine g_istore hX (j := 4) [(4, .int (nI 0)), (0, .ref (ae 0)), (1, .int (nI k)), (2, .int (nI xx)), (3, .int (nI p))] dX5_chance_32 (by rw [hnL]; rfl) rfl ?_
        refine g_iconst hX (nI 0) dX5_chance_34 rfl ?_
        refine g_istore hX (j := 5) [(5, .int (nI 0)), (4, .int (nI 0)), (0, .ref (ae 0)), (1, .int (nI k)), (2, .int (nI xx)), (3, .int (nI p))] dX5_chance_35 (by rw [hnL]; rfl) rfl ?_
        have lp37 : ∀ (fuel : Nat) (i : Nat), 64 - i < fuel → (i ≤ 64) → GG x 0 0 ((lfo E ae ab ar an af ah ak ax ag z) ++ (fw E an C)) 37 [(0, .ref (ae 0)), (1, .int (nI k)), (2, .int (nI xx)), (3, .int (nI p)), (4, .int (nI (chS C k xx i))), (5, .int (nI i))] [] := by
          intro fuel
          induction fuel with
          | zero => intro i hm; exact absurd hm (Nat.not_lt_zero _)
          | succ fuel ih37 =>
            intro i hm37 hi
            have hal := chS_le (C := C) (k := k) hxx i hi
            refine g_iload hX dX5_chance_37 5 rfl ?_
            refine g_bipush hX (nI 64) dX5_chance_39 rfl ?_
            refine g_icmp_ge hX 85 dX5_chance_41 (by decide) (fun c41 => ?_) (fun c41 => ?_)
            · replace c41 := (nI_leI (by omega) (by omega)).mp c41
              refine g_bipush hX (nI 10) dX5_chance_85 rfl ?_
              refine g_bipush hX (nI 6) dX5_chance_87 rfl ?_
              have hc89 : CUT ((lfo E ae ab ar an af ah ak ax ag z) ++ (fw E an C)) (([] : va_W)) ((lfo E ae ab ar an af ah ak ax ag z) ++ (fw E an C)) [] [0, 1, 2, 3, 4, 5, 6, 7] := ⟨rfl, rfl, rfl, rfl, rfl⟩
              refine g_TI hX hc89 [.int (nI 10), .int (nI 6)] [] (c_X5_power l E 10 6 (by omega)) gX5_chance_X5_power calX5_power rfl rfl rfl rfl dX5_chance_89 rfl ⟨Nat.zero_le _, Nat.zero_le _⟩ (fun _ => (lfo E ae ab ar an af ah ak ax ag z) ++ (fw E an C)) [0, 1, 2, 3, 4, 5, 6, 7] rfl (fun _ => rfl) (fun _ hu89 => ?_)
              refine g_istore hX (j := 5) [(5, .int (nI (10 ^ 6))), (0, .ref (ae 0)), (1, .int (nI k)), (2, .int (nI xx)), (3, .int (nI p)), (4, .int (nI (chS C k xx i)))] dX5_chance_92 (by rw [hnL]; rfl) rfl ?_
              refine g_iload hX dX5_chance_94 5 rfl ?_
              refine g_iload hX dX5_chance_96 0 rfl ?_
              have hc98 : CUT ((lfo E ae ab ar an af ah ak ax ag z) ++ (fw E an C)) (([] : va_W)) ((lfo E ae ab ar an af ah ak ax ag z) ++ (fw E an C)) [] [0, 1, 2, 3, 4, 5, 6, 7] := ⟨rfl, rfl, rfl, rfl, rfl⟩
              refine g_TI hX hc98 [.int (nI (chS C k xx i)), .int (nI (10 ^ 6))] [] (c_X5_commonDivisor l E (chS C k xx i) (10 ^ 6) (by omega) (by decide)) gX5_chance_X5_commonDivisor calX5_commonDivisor rfl rfl rfl rfl dX5_chance_98 rfl ⟨Nat.zero_le _, Nat.zero_le _⟩ (fun _ => (lfo E ae ab ar an af ah ak ax ag z) ++ (fw E an C)) [0, 1, 2, 3, 4, 5, 6, 7] rfl (fun _ => rfl) (fun _ hu98 => ?_)
              refine g_istore hX (j := 6) [(6, .int (nI (euc 100 (chS C k xx i) (10 ^ 6)))), (5, .int (nI (10 ^ 6))), (0, .ref (ae 0)), (1, .int (nI k)), (2, .int (nI xx)), (3, .int (nI p)), (4, .int (nI (chS C k xx i)))] dX5_chance_101 (by rw [hnL]; rfl) rfl ?_
              have hgm := gcd_m (chS C k xx i)
              rw [show euc 100 (chS C k xx i) (10 ^ 6) = Nat.gcd (chS C k xx i) 1000000 from euc_g _]
              refine g_iload hX dX5_chance_103 0 rfl ?_
              refine g_if_ne hX 111 dX5_chance_105 (by decide) (fun c105 => ?_) (fun c105 => ?_)
              · replace c105 := mt (nz_eq (by omega)).mpr c105
                refine g_iload_n hX dX5_chance_111 5 rfl ?_
                refine g_if_ne hX 123 dX5_chance_112 (by decide) (fun c112 => ?_) (fun c112 => ?_)
                · replace c112 := mt (nz_eq (by omega)).mpr c112
                  refine g_iload hX dX5_chance_123 1 rfl ?_
                  refine g_iload hX dX5_chance_125 0 rfl ?_
                  refine g_idiv hX (nI ((10 ^ 6) / (Nat.gcd (chS C k xx i) 1000000))) dX5_chance_127 (nI_ne0 (by omega) (by omega)) (pk_div (by omega) (by omega) (by omega)) ?_
                  exact g_eq rfl rfl (congrArg (fun z => [Value.int z]) (congrArg nI (by rw [chaV, show 64 = i by omega]; first | rw [if_pos c112] | rw [if_neg c112]))) (hret () _ _ trivial dX5_chance_128)
                · replace c112 := (nz_eq (by omega)).mp c112
                  refine g_iload hX dX5_chance_115 6 rfl ?_
                  refine g_iload hX dX5_chance_117 0 rfl ?_
                  refine g_idiv hX (nI ((chS C k xx i) / (Nat.gcd (chS C k xx i) 1000000))) dX5_chance_119 (nI_ne0 (by omega) (by omega)) (pk_div (by omega) (by omega) (by omega)) ?_
                  refine g_goto hX 128 dX5_chance_120 (by decide) ?_
                  exact g_eq rfl rfl (congrArg (fun z => [Value.int z]) (congrArg nI (by rw [chaV, show 64 = i by omega]; first | rw [if_pos c112] | rw [if_neg c112]))) (hret () _ _ trivial dX5_chance_128)
              · replace c105 := (nz_eq (by omega)).mp c105
                omega
            · replace c41 := mt (nI_leI (by omega) (by omega)).mpr c41
              have hxw := x64 h64 (show i < 64 by omega)
              have hll := lieM_lt h9 (cF C ^^^ i)
              have hpl := pop9 _ hll
              have hww := wtW_le (t := i) hxx (by omega)
              refine g_aload_n hX dX5_chance_44 0 rfl ?_
              refine g_get hX (v := .ref (an 0)) 0 inRX5 rfl rfl 3 rfl fl24 rfl rfl dX5_chance_45 ?_
              refine g_aload_n hX dX5_chance_48 0 rfl ?_
              refine g_get hX (v := .ref (an 0)) 0 inRX5 rfl rfl 3 rfl fl24 rfl rfl dX5_chance_49 ?_
              refine g_get hX (v := .int (nI (cF C))) 1 inRX0 rfl rfl 0 rfl fl108 rfl rfl dX5_chance_52 ?_
              refine g_iload hX dX5_chance_55 5 rfl ?_
              refine g_ixor hX (nI ((cF C) ^^^ i)) dX5_chance_57 (fb_xorI _ _) ?_
              have hc58 : CUT ((lfo E ae ab ar an af ah ak ax ag z) ++ (fw E an C)) (fw E an C) (lfo E ae ab ar an af ah ak ax ag z) [1, 2, 3, 4, 5, 6, 7] [0] := ⟨rfl, rfl, rfl, rfl, rfl⟩
              refine g_VI hX hc58 [.int (nI ((cF C) ^^^ i))] [] (c_X0_liesIn l E an C ((cF C) ^^^ i) (by first | assumption | omega) hxw) gX5_chance_X0_liesIn calX0_liesIn rfl rfl rfl rfl 1 rfl rfl rfl rfl dX5_chance_58 rfl ⟨Nat.zero_le _, Nat.zero_le _⟩ (fun _ => (lfo E ae ab ar an af ah ak ax ag z) ++ (fw E an C)) [0, 1, 2, 3, 4, 5, 6, 7] rfl (fun _ => rfl) (fun _ hu58 => ?_)
              have hc61 : CUT ((lfo E ae ab ar an af ah ak ax ag z) ++ (fw E an C)) (([] : va_W)) ((lfo E ae ab ar an af ah ak ax ag z) ++ (fw E an C)) [] [0, 1, 2, 3, 4, 5, 6, 7] := ⟨rfl, rfl, rfl, rfl, rfl⟩
              refine g_TI hX hc61 [.int (nI (lieM C ((cF C) ^^^ i)))] [] (c_J6_bitCount_0f7a4 l E (lieM C ((cF C) ^^^ i)) (by omega)) gX5_chance_J6_bitCount_0f7a4 calJ6_bitCount_0f7a4 rfl rfl rfl rfl dX5_chance_61 rfl ⟨Nat.zero_le _, Nat.zero_le _⟩ (fun _ => (lfo E ae ab ar an af ah ak ax ag z) ++ (fw E an C)) [0, 1, 2, 3, 4, 5, 6, 7] rfl (fun _ => rfl) (fun _ hu61 => ?_)
              refine g_iload_n hX dX5_chance_64 1 rfl ?_
              refine g_icmp_lt hX 79 dX5_chance_65 (by decide) (fun c65 => ?_) (fun c65 => ?_)
              · replace c65 := (nI_ltI (by omega) (by omega)).mp c65
                replace c65 := Nat.not_le.mpr c65
                refine g_iinc hX (j := 5) (nI (i + 1)) [(5, .int (nI (i + 1))), (0, .ref (ae 0)), (1, .int (nI k)), (2, .int (nI xx)), (3, .int (nI p)), (4, .int (nI (chS C k xx i)))] dX5_chance_79 5 rfl (iinc_n _ _) (by rw [hnL]; rfl) rfl ?_
                refine g_goto hX 37 dX5_chance_82 (by decide) ?_
                exact g_lv [(0, .ref (ae 0)), (1, .int (nI k)), (2, .int (nI xx)), (3, .int (nI p)), (4, .int (nI (chS C k xx i))), (5, .int (nI (i + 1)))] [1, 2, 3, 4, 5, 0] rfl (g_eq rfl (by first | (rw [show chS C k xx (i + 1) = chS C k xx i + wtW xx i from by rw [chS, if_pos c65]]; rfl) | (rw [show chS C k xx (i + 1) = chS C k xx i from by rw [chS, if_neg c65, Nat.add_zero]])) rfl (ih37 (i + 1) (by omega) (by omega)))
              · replace c65 := mt (nI_ltI (by omega) (by omega)).mpr c65
                replace c65 := Nat.le_of_not_lt c65
                refine g_iload hX dX5_chance_68 4 rfl ?_
                refine g_iload hX dX5_chance_70 5 rfl ?_
                refine g_iload_n hX dX5_chance_72 2 rfl ?_
                have hc73 : CUT ((lfo E ae ab ar an af ah ak ax ag z) ++ (fw E an C)) (([] : va_W)) ((lfo E ae ab ar an af ah ak ax ag z) ++ (fw E an C)) [] [0, 1, 2, 3, 4, 5, 6, 7] := ⟨rfl, rfl, rfl, rfl, rfl⟩
                refine g_TI hX hc73 [.int (nI i), .int (nI xx)] [.int (nI (chS C k xx i))] (c_X5_waysToTurn l E i xx (by omega) (by omega)) gX5_chance_X5_waysToTurn calX5_waysToTurn rfl rfl rfl rfl dX5_chance_73 rfl ⟨Nat.zero_le _, Nat.zero_le _⟩ (fun _ => (lfo E ae ab ar an af ah ak ax ag z) ++ (fw E an C)) [0, 1, 2, 3, 4, 5, 6, 7] rfl (fun _ => rfl) (fun _ hu73 => ?_)
                refine g_iadd hX (nI ((chS C k xx i) + (xx ^ pop i * (10 - xx) ^ (6 - pop i)))) dX5_chance_76 (nI_add _ _) ?_
                refine g_istore hX (j := 4) [(4, .int (nI ((chS C k xx i) + (xx ^ pop i * (10 - xx) ^ (6 - pop i))))), (0, .ref (ae 0)), (1, .int (nI k)), (2, .int (nI xx)), (3, .int (nI p)), (5, .int (nI i))] dX5_chance_77 (by rw [hnL]; rfl) rfl ?_
                refine g_iinc hX (j := 5) (nI (i + 1)) [(5, .int (nI (i + 1))), (4, .int (nI ((chS C k xx i) + (xx ^ pop i * (10 - xx) ^ (6 - pop i))))), (0, .ref (ae 0)), (1, .int (nI k)), (2, .int (nI xx)), (3, .int (nI p))] dX5_chance_79 5 rfl (iinc_n _ _) (by rw [hnL]; rfl) rfl ?_
                refine g_goto hX 37 dX5_chance_82 (by decide) ?_
                exact g_lv [(0, .ref (ae 0)), (1, .int (nI k)), (2, .int (nI xx)), (3, .int (nI p)), (4, .int (nI ((chS C k xx i) + (xx ^ pop i * (10 - xx) ^ (6 - pop i))))), (5, .int (nI (i + 1)))] [2, 3, 4, 5, 1, 0] rfl (g_eq rfl (by first | (rw [show chS C k xx (i + 1) = chS C k xx i + wtW xx i from by rw [chS, if_pos c65]]; rfl) | (rw [show chS C k xx (i + 1) = chS C k xx i from by rw [chS, if_neg c65, Nat.add_zero]])) rfl (ih37 (i + 1) (by omega) (by omega)))
        exact g_lv _ [2, 3, 4, 5, 1, 0] rfl (lp37 _ 0 (Nat.lt_succ_self _) (Nat.zero_le _))
      · replace c26 := bI_0.mp c26
        exact absurd c26 (by simp)
set_option maxHeartbeats 4000000 in
set_option maxRecDepth 100000 in
theorem c_X5_year_n (l : Launch) (E : EV) (ae : Nat → Nat) (ab : Nat → Nat) (ar : Nat → Nat) (an : Nat → Nat) (af : Nat → Nat) (ah : Nat → Nat) (ak : Nat → Nat) (ax : Nat → Nat) (ag : Nat → Nat) (z : Nat) (x0 : Int32) (x1 : Int32) (x2 : Int32) (hx : (win x0 (nI 0) (nI 9999) && win x1 (nI 1) (nI 60) && win x2 (nI 0) (nI 1)) = false) : KI l yX5_year wsX5_year (rmN 6) E (σ := Unit) [.ref (ae 0), .int x0, .int x1, .int x2] (lfo E ae ab ar an af ah ak ax ag z) (fun _ => True) (fun _ => (-1)) (fun _ => lfo E ae ab ar an af ah ak ax ag z) 0 0 := by
  refine KI.of (cc := cX5_year) (maxL := 6) (ty := .int) (hnar := fun _ _ => rfl) rfl rfl rfl (fun x hX hin hret hnL => ?_)
  replace hX : CX x l cX5_year RX5 wsX5_year E (rmN 6) := hX
  show GG x 0 0 (lfo E ae ab ar an af ah ak ax ag z) 0 [(0, .ref (ae 0)), (1, .int x0), (2, .int x1), (3, .int x2)] []
  refine g_iload_n hX dX5_year_0 1 rfl ?_
  refine g_iconst hX (nI 0) dX5_year_1 rfl ?_
  refine g_sipush hX (nI 9999) dX5_year_2 rfl ?_
  have hc5 : CUT (lfo E ae ab ar an af ah ak ax ag z) (([] : va_W)) (lfo E ae ab ar an af ah ak ax ag z) [] [0] := ⟨rfl, rfl, rfl, rfl, rfl⟩
  refine g_TI hX hc5 [.int x0, .int (nI 0), .int (nI 9999)] [] (c_X5_isWithin l E x0 (nI 0) (nI 9999)) gX5_year_X5_isWithin calX5_isWithin rfl rfl rfl rfl dX5_year_5 rfl ⟨Nat.zero_le _, Nat.zero_le _⟩ (fun _ => lfo E ae ab ar an af ah ak ax ag z) [0] rfl (fun _ => rfl) (fun _ hu5 => ?_)
  refine g_if_eq hX 30 dX5_year_8 (by decide) (fun c8 => ?_) (fun c8 => ?_)
  · replace c8 := bI_0.mp c8
    refine g_iconst hX ((-1)) dX5_year_30 rfl ?_
    exact g_eq rfl rfl rfl (hret () _ _ trivial dX5_year_31)
  · replace c8 := mt bI_0.mpr c8
    replace c8 := bNf c8
    refine g_iload_n hX dX5_year_11 2 rfl ?_
    refine g_iconst hX (nI 1) dX5_year_12 rfl ?_
    refine g_bipush hX (nI 60) dX5_year_13 rfl ?_
    have hc15 : CUT (lfo E ae ab ar an af ah ak ax ag z) (([] : va_W)) (lfo E ae ab ar an af ah ak ax ag z) [] [0] := ⟨rfl, rfl, rfl, rfl, rfl⟩
    refine g_TI hX hc15 [.int x1, .int (nI 1), .int (nI 60)] [] (c_X5_isWithin l E x1 (nI 1) (nI 60)) gX5_year_X5_isWithin calX5_isWithin rfl rfl rfl rfl dX5_year_15 rfl ⟨Nat.zero_le _, Nat.zero_le _⟩ (fun _ => lfo E ae ab ar an af ah ak ax ag z) [0] rfl (fun _ => rfl) (fun _ hu15 => ?_)
    refine g_if_eq hX 30 dX5_year_18 (by decide) (fun c18 => ?_) (fun c18 => ?_)
    · replace c18 := bI_0.mp c18
      refine g_iconst hX ((-1)) dX5_year_30 rfl ?_
      exact g_eq rfl rfl rfl (hret () _ _ trivial dX5_year_31)
    · replace c18 := mt bI_0.mpr c18
      replace c18 := bNf c18
      refine g_iload_n hX dX5_year_21 3 rfl ?_
      refine g_iconst hX (nI 0) dX5_year_22 rfl ?_
      refine g_iconst hX (nI 1) dX5_year_23 rfl ?_
      have hc24 : CUT (lfo E ae ab ar an af ah ak ax ag z) (([] : va_W)) (lfo E ae ab ar an af ah ak ax ag z) [] [0] := ⟨rfl, rfl, rfl, rfl, rfl⟩
      refine g_TI hX hc24 [.int x2, .int (nI 0), .int (nI 1)] [] (c_X5_isWithin l E x2 (nI 0) (nI 1)) gX5_year_X5_isWithin calX5_isWithin rfl rfl rfl rfl dX5_year_24 rfl ⟨Nat.zero_le _, Nat.zero_le _⟩ (fun _ => lfo E ae ab ar an af ah ak ax ag z) [0] rfl (fun _ => rfl) (fun _ hu24 => ?_)
      refine g_if_ne hX 32 dX5_year_27 (by decide) (fun c27 => ?_) (fun c27 => ?_)
      · replace c27 := mt bI_0.mpr c27
        replace c27 := bNf c27
        rw [c8, c18, c27] at hx; cases hx
      · replace c27 := bI_0.mp c27
        refine g_iconst hX ((-1)) dX5_year_30 rfl ?_
        exact g_eq rfl rfl rfl (hret () _ _ trivial dX5_year_31)
set_option maxHeartbeats 4000000 in
set_option maxRecDepth 100000 in
theorem c_X5_year_y (l : Launch) (E : EV) (ae : Nat → Nat) (ab : Nat → Nat) (ar : Nat → Nat) (an : Nat → Nat) (af : Nat → Nat) (ah : Nat → Nat) (ak : Nat → Nat) (ax : Nat → Nat) (ag : Nat → Nat) (z : Nat) (C : FC) (D : FC) (m : Nat) (ye : Nat) (n : Nat) (p : Nat) (hD : DI C m) (hm : m < 2 ^ 29) (hN1 : 1 ≤ cN C) (hye : ye ≤ 9999) (hn1 : 1 ≤ n) (hn2 : n ≤ 60) (hp : p ≤ 1) : KI l yX5_year wsX5_year (rmN 6) E (σ := Unit) [.ref (ae 0), .int (nI ye), .int (nI n), .int (nI p)] ((lfo E ae ab ar an af ah ak ax ag z ++ (fw E an C ++ (fw E af D)))) (fun _ => True) (fun _ => (nI (if p = 0 then pop (lieM (yeN C ye n).1 (cF (yeN C ye n).1)) else (yeN C ye n).2))) (fun _ => (lfo E ae ab ar an af ah ak ax ag z ++ (fw E an C ++ (fw E af ((yeN C ye n).1))))) 0 0 := by
  refine KI.of (cc := cX5_year) (maxL := 6) (ty := .int) (hnar := fun _ _ => rfl) rfl rfl rfl (fun x hX hin hret hnL => ?_)
  replace hX : CX x l cX5_year RX5 wsX5_year E (rmN 6) := hX
  show GG x 0 0 ((lfo E ae ab ar an af ah ak ax ag z ++ (fw E an C ++ (fw E af D)))) 0 [(0, .ref (ae 0)), (1, .int (nI ye)), (2, .int (nI n)), (3, .int (nI p))] []
  have inRX5 : ∀ w ∈ wsX50, w ∈ wsX5_year := by decide +kernel
  have fl24 : Cond.fieldLink RX5 24 "LieForce" "now" "LLieForce$Force;" ∈ wsX5_year := by decide +kernel
  have fl31 : Cond.fieldLink RX5 31 "LieForce" "ahead" "LLieForce$Force;" ∈ wsX5_year := by decide +kernel
  obtain ⟨hC, hVY, hZ, hYm⟩ := id hD
  obtain ⟨⟨h9, h64, h512, hT, hI⟩, hK⟩ := id hC
  have hV := DI_VB hD (by omega)
  refine g_iload_n hX dX5_year_0 1 rfl ?_
  refine g_iconst hX (nI 0) dX5_year_1 rfl ?_
  refine g_sipush hX (nI 9999) dX5_year_2 rfl ?_
  have hc5 : CUT ((lfo E ae ab ar an af ah ak ax ag z ++ (fw E an C ++ (fw E af D)))) (([] : va_W)) ((lfo E ae ab ar an af ah ak ax ag z ++ (fw E an C ++ (fw E af D)))) [] [0, 1, 2, 3, 4, 5, 6, 7, 8, 9, 10, 11, 12, 13, 14] := ⟨rfl, rfl, rfl, rfl, rfl⟩
  refine g_TI hX hc5 [.int (nI ye), .int (nI 0), .int (nI 9999)] [] (c_X5_isWithin_y l E ye 0 9999 (by omega) (by omega) (by omega)) gX5_year_X5_isWithin calX5_isWithin rfl rfl rfl rfl dX5_year_5 rfl ⟨Nat.zero_le _, Nat.zero_le _⟩ (fun _ => (lfo E ae ab ar an af ah ak ax ag z ++ (fw E an C ++ (fw E af D)))) [0, 1, 2, 3, 4, 5, 6, 7, 8, 9, 10, 11, 12, 13, 14] rfl (fun _ => rfl) (fun _ hu5 => ?_)
  refine g_if_eq hX 30 dX5_year_8 (by decide) (fun c8 => ?_) (fun c8 => ?_)
  · replace c8 := bI_0.mp c8
    exact absurd c8 (by simp)
  · replace c8 := mt bI_0.mpr c8
    replace c8 := bNf c8
    refine g_iload_n hX dX5_year_11 2 rfl ?_
    refine g_iconst hX (nI 1) dX5_year_12 rfl ?_
    refine g_bipush hX (nI 60) dX5_year_13 rfl ?_
    have hc15 : CUT ((lfo E ae ab ar an af ah ak ax ag z ++ (fw E an C ++ (fw E af D)))) (([] : va_W)) ((lfo E ae ab ar an af ah ak ax ag z ++ (fw E an C ++ (fw E af D)))) [] [0, 1, 2, 3, 4, 5, 6, 7, 8, 9, 10, 11, 12, 13, 14] := ⟨rfl, rfl, rfl, rfl, rfl⟩
    refine g_TI hX hc15 [.int (nI n), .int (nI 1), .int (nI 60)] [] (c_X5_isWithin_y l E n 1 60 (by omega) (by omega) (by omega)) gX5_year_X5_isWithin calX5_isWithin rfl rfl rfl rfl dX5_year_15 rfl ⟨Nat.zero_le _, Nat.zero_le _⟩ (fun _ => (lfo E ae ab ar an af ah ak ax ag z ++ (fw E an C ++ (fw E af D)))) [0, 1, 2, 3, 4, 5, 6, 7, 8, 9, 10, 11, 12, 13, 14] rfl (fun _ => rfl) (fun _ hu15 => ?_)
    refine g_if_eq hX 30 dX5_year_18 (by decide) (fun c18 => ?_) (fun c18 => ?_)
    · replace c18 := bI_0.mp c18
      exact absurd c18 (by simp)
    · replace c18 := mt bI_0.mpr c18
      replace c18 := bNf c18
      refine g_iload_n hX dX5_year_21 3 rfl ?_
      refine g_iconst hX (nI 0) dX5_year_22 rfl ?_
      refine g_iconst hX (nI 1) dX5_year_23 rfl ?_
      have hc24 : CUT ((lfo E ae ab ar an af ah ak ax ag z ++ (fw E an C ++ (fw E af D)))) (([] : va_W)) ((lfo E ae ab ar an af ah ak ax ag z ++ (fw E an C ++ (fw E af D)))) [] [0, 1, 2, 3, 4, 5, 6, 7, 8, 9, 10, 11, 12, 13, 14] := ⟨rfl, rfl, rfl, rfl, rfl⟩
      refine g_TI hX hc24 [.int (nI p), .int (nI 0), .int (nI 1)] [] (c_X5_isWithin_y l E p 0 1 (by omega) (by omega) (by omega)) gX5_year_X5_isWithin calX5_isWithin rfl rfl rfl rfl dX5_year_24 rfl ⟨Nat.zero_le _, Nat.zero_le _⟩ (fun _ => (lfo E ae ab ar an af ah ak ax ag z ++ (fw E an C ++ (fw E af D)))) [0, 1, 2, 3, 4, 5, 6, 7, 8, 9, 10, 11, 12, 13, 14] rfl (fun _ => rfl) (fun _ hu24 => ?_)
      refine g_if_ne hX 32 dX5_year_27 (by decide) (fun c27 => ?_) (fun c27 => ?_)
      · replace c27 := mt bI_0.mpr c27
        replace c27 := bNf c27
        refine g_aload_n hX dX5_year_32 0 rfl ?_
        refine g_get hX (v := .ref (af 0)) 0 inRX5 rfl rfl 4 rfl fl31 rfl rfl dX5_year_33 ?_
        refine g_aload_n hX dX5_year_36 0 rfl ?_
        refine g_get hX (v := .ref (an 0)) 0 inRX5 rfl rfl 3 rfl fl24 rfl rfl dX5_year_37 ?_
        have hc40 : CUT ((lfo E ae ab ar an af ah ak ax ag z ++ (fw E an C ++ (fw E af D)))) ((fw E af D) ++ (fw E an C)) (lfo E ae ab ar an af ah ak ax ag z) [8, 9, 10, 11, 12, 13, 14, 1, 2, 3, 4, 5, 6, 7] [0] := ⟨rfl, rfl, rfl, rfl, rfl⟩
        refine g_VV hX hc40 [.ref (an 0)] [] (c_X0_copy l E af D an C) gX5_year_X0_copy calX0_copy rfl rfl rfl rfl 8 rfl rfl rfl rfl dX5_year_40 rfl ⟨Nat.zero_le _, Nat.zero_le _⟩ (fun _ => (lfo E ae ab ar an af ah ak ax ag z ++ (fw E an C ++ (fw E af C)))) [0, 8, 9, 10, 11, 12, 13, 14, 1, 2, 3, 4, 5, 6, 7] rfl (fun _ => rfl) (fun _ hu40 => ?_)
        refine g_iconst hX (nI 0) dX5_year_43 rfl ?_
        refine g_istore hX (j := 4) [(4, .int (nI 0)), (0, .ref (ae 0)), (1, .int (nI ye)), (2, .int (nI n)), (3, .int (nI p))] dX5_year_44 (by rw [hnL]; rfl) rfl ?_
        refine g_iconst hX (nI 0) dX5_year_46 rfl ?_
        refine g_istore hX (j := 5) [(5, .int (nI 0)), (4, .int (nI 0)), (0, .ref (ae 0)), (1, .int (nI ye)), (2, .int (nI n)), (3, .int (nI p))] dX5_year_47 (by rw [hnL]; rfl) rfl ?_
        have lp49 : ∀ (fuel : Nat) (k : Nat), n - k < fuel → (k ≤ n) → GG x 0 0 ((lfo E ae ab ar an af ah ak ax ag z ++ (fw E an C ++ (fw E af ((yeN C ye k).1))))) 49 [(0, .ref (ae 0)), (1, .int (nI ye)), (2, .int (nI n)), (3, .int (nI p)), (4, .int (nI ((yeN C ye k).2))), (5, .int (nI k))] [] := by
          intro fuel
          induction fuel with
          | zero => intro k hm; exact absurd hm (Nat.not_lt_zero _)
          | succ fuel ih49 =>
            intro k hm49 hk
            obtain ⟨hDk, hNk, hTk⟩ := ye_all (z := ye) hN1 hD k
            have hdl := drw_lt ye k
            have hDd := DI_draw (d := drw ye k) (by omega) hDk
            refine g_iload hX dX5_year_49 5 rfl ?_
            refine g_iload_n hX dX5_year_51 2 rfl ?_
            refine g_icmp_ge hX 86 dX5_year_52 (by decide) (fun c52 => ?_) (fun c52 => ?_)
            · replace c52 := (nI_leI (by omega) (by omega)).mp c52
              refine g_iload_n hX dX5_year_86 3 rfl ?_
              refine g_if_ne hX 100 dX5_year_87 (by decide) (fun c87 => ?_) (fun c87 => ?_)
              · replace c87 := mt (nz_eq (by omega)).mpr c87
                refine g_iload hX dX5_year_100 4 rfl ?_
                exact g_eq (by rw [show n = k by omega]) rfl (congrArg (fun z => [Value.int z]) (congrArg nI (by rw [show n = k by omega]; first | (rw [if_pos c87]) | (rw [if_neg c87])))) (hret () _ _ trivial dX5_year_102)
              · replace c87 := (nz_eq (by omega)).mp c87
                refine g_aload_n hX dX5_year_90 0 rfl ?_
                refine g_get hX (v := .ref (af 0)) 0 inRX5 rfl rfl 4 rfl fl31 rfl rfl dX5_year_91 ?_
                have hc94 : CUT ((lfo E ae ab ar an af ah ak ax ag z ++ (fw E an C ++ (fw E af ((yeN C ye k).1))))) (fw E af ((yeN C ye k).1)) ((lfo E ae ab ar an af ah ak ax ag z) ++ (fw E an C)) [8, 9, 10, 11, 12, 13, 14] [0, 1, 2, 3, 4, 5, 6, 7] := ⟨rfl, rfl, rfl, rfl, rfl⟩
                refine g_VI hX hc94 [] [] (c_X0_policemen l E af ((yeN C ye k).1) hDk.1.1) gX5_year_X0_policemen calX0_policemen rfl rfl rfl rfl 8 rfl rfl rfl rfl dX5_year_94 rfl ⟨Nat.zero_le _, Nat.zero_le _⟩ (fun _ => (lfo E ae ab ar an af ah ak ax ag z ++ (fw E an C ++ (fw E af ((yeN C ye k).1))))) [0, 1, 2, 3, 4, 5, 6, 7, 8, 9, 10, 11, 12, 13, 14] rfl (fun _ => rfl) (fun _ hu94 => ?_)
                refine g_goto hX 102 dX5_year_97 (by decide) ?_
                exact g_eq (by rw [show n = k by omega]) rfl (congrArg (fun z => [Value.int z]) (congrArg nI (by rw [show n = k by omega]; first | (rw [if_pos c87]) | (rw [if_neg c87])))) (hret () _ _ trivial dX5_year_102)
            · replace c52 := mt (nI_leI (by omega) (by omega)).mpr c52
              refine g_aload_n hX dX5_year_55 0 rfl ?_
              refine g_get hX (v := .ref (af 0)) 0 inRX5 rfl rfl 4 rfl fl31 rfl rfl dX5_year_56 ?_
              refine g_iload_n hX dX5_year_59 1 rfl ?_
              refine g_iload hX dX5_year_60 5 rfl ?_
              have hc62 : CUT ((lfo E ae ab ar an af ah ak ax ag z ++ (fw E an C ++ (fw E af ((yeN C ye k).1))))) (([] : va_W)) ((lfo E ae ab ar an af ah ak ax ag z ++ (fw E an C ++ (fw E af ((yeN C ye k).1))))) [] [0, 1, 2, 3, 4, 5, 6, 7, 8, 9, 10, 11, 12, 13, 14] := ⟨rfl, rfl, rfl, rfl, rfl⟩
              refine g_TI hX hc62 [.int (nI ye), .int (nI k)] [.ref (af 0)] (c_X5_draw l E ye k (by omega) (by omega)) gX5_year_X5_draw calX5_draw rfl rfl rfl rfl dX5_year_62 rfl ⟨Nat.zero_le _, Nat.zero_le _⟩ (fun _ => (lfo E ae ab ar an af ah ak ax ag z ++ (fw E an C ++ (fw E af ((yeN C ye k).1))))) [0, 1, 2, 3, 4, 5, 6, 7, 8, 9, 10, 11, 12, 13, 14] rfl (fun _ => rfl) (fun _ hu62 => ?_)
              have hc65 : CUT ((lfo E ae ab ar an af ah ak ax ag z ++ (fw E an C ++ (fw E af ((yeN C ye k).1))))) (fw E af ((yeN C ye k).1)) ((lfo E ae ab ar an af ah ak ax ag z) ++ (fw E an C)) [8, 9, 10, 11, 12, 13, 14] [0, 1, 2, 3, 4, 5, 6, 7] := ⟨rfl, rfl, rfl, rfl, rfl⟩
              refine g_VV hX hc65 [.int (nI (drw ye k))] [] (c_X0_takeDraw l E af ((yeN C ye k).1) (drw ye k) hDk.1.1 (by omega) (by omega) (ite_P (P := fun D => VB D) (fun _ => DI_VB (DI_turnF hDk) (by omega)) (fun _ => DI_VB hDk (by omega)))) gX5_year_X0_takeDraw calX0_takeDraw rfl rfl rfl rfl 8 rfl rfl rfl rfl dX5_year_65 rfl ⟨Nat.zero_le _, Nat.zero_le _⟩ (fun _ => (lfo E ae ab ar an af ah ak ax ag z ++ (fw E an C ++ (fw E af (drawC ((yeN C ye k).1) (drw ye k)))))) [0, 1, 2, 3, 4, 5, 6, 7, 8, 9, 10, 11, 12, 13, 14] rfl (fun _ => rfl) (fun _ hu65 => ?_)
              refine g_iload hX dX5_year_68 4 rfl ?_
              refine g_aload_n hX dX5_year_70 0 rfl ?_
              refine g_get hX (v := .ref (af 0)) 0 inRX5 rfl rfl 4 rfl fl31 rfl rfl dX5_year_71 ?_
              have hc74 : CUT ((lfo E ae ab ar an af ah ak ax ag z ++ (fw E an C ++ (fw E af (drawC ((yeN C ye k).1) (drw ye k)))))) (fw E af (drawC ((yeN C ye k).1) (drw ye k))) ((lfo E ae ab ar an af ah ak ax ag z) ++ (fw E an C)) [8, 9, 10, 11, 12, 13, 14] [0, 1, 2, 3, 4, 5, 6, 7] := ⟨rfl, rfl, rfl, rfl, rfl⟩
              refine g_VI hX hc74 [] [.int (nI ((yeN C ye k).2))] (c_X0_passDay l E af (drawC ((yeN C ye k).1) (drw ye k)) hDd.1.1 (DI_VB1 hDd (by omega))) gX5_year_X0_passDay calX0_passDay rfl rfl rfl rfl 8 rfl rfl rfl rfl dX5_year_74 rfl ⟨Nat.zero_le _, Nat.zero_le _⟩ (fun _ => (lfo E ae ab ar an af ah ak ax ag z ++ (fw E an C ++ (fw E af ((passC (drawC ((yeN C ye k).1) (drw ye k))).1))))) [0, 1, 2, 3, 4, 5, 6, 7, 8, 9, 10, 11, 12, 13, 14] rfl (fun _ => rfl) (fun _ hu74 => ?_)
              refine g_iadd hX (nI (((yeN C ye k).2) + ((passC (drawC ((yeN C ye k).1) (drw ye k))).2))) dX5_year_77 (nI_add _ _) ?_
              refine g_istore hX (j := 4) [(4, .int (nI (((yeN C ye k).2) + ((passC (drawC ((yeN C ye k).1) (drw ye k))).2)))), (0, .ref (ae 0)), (1, .int (nI ye)), (2, .int (nI n)), (3, .int (nI p)), (5, .int (nI k))] dX5_year_78 (by rw [hnL]; rfl) rfl ?_
              refine g_iinc hX (j := 5) (nI (k + 1)) [(5, .int (nI (k + 1))), (4, .int (nI (((yeN C ye k).2) + ((passC (drawC ((yeN C ye k).1) (drw ye k))).2)))), (0, .ref (ae 0)), (1, .int (nI ye)), (2, .int (nI n)), (3, .int (nI p))] dX5_year_80 5 rfl (iinc_n _ _) (by rw [hnL]; rfl) rfl ?_
              refine g_goto hX 49 dX5_year_83 (by decide) ?_
              exact g_lv [(0, .ref (ae 0)), (1, .int (nI ye)), (2, .int (nI n)), (3, .int (nI p)), (4, .int (nI (((yeN C ye k).2) + ((passC (drawC ((yeN C ye k).1) (drw ye k))).2)))), (5, .int (nI (k + 1)))] [2, 3, 4, 5, 1, 0] rfl (g_eq rfl rfl rfl (ih49 (k + 1) (by omega) (by omega)))
        exact g_lv _ [2, 3, 4, 5, 1, 0] rfl (lp49 _ 0 (Nat.lt_succ_self _) (Nat.zero_le _))
      · replace c27 := bI_0.mp c27
        exact absurd c27 (by simp)
