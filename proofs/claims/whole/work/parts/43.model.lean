set_option maxHeartbeats 4000000 in
set_option maxRecDepth 100000 in
theorem c_X6_letterAt (l : Launch) (E : EV) (a : Nat → Nat) (M : MV) (k : Nat) (hL : mL M ≤ 200) (hk : k < 2 ^ 20) : KI l yX6_letterAt wsX6_letterAt (rmN 0) E (σ := Unit) [.ref (a 0), .int (nI k)] (mw E a M) (fun _ => True) (fun _ => (oJ (letO (mX M) (mL M) k))) (fun _ => mw E a M) 0 0 := by
  refine KI.of (cc := cX6_letterAt) (maxL := 2) (ty := .int) (hnar := fun _ _ => rfl) rfl rfl rfl (fun x hX hin hret hnL => ?_)
  replace hX : CX x l cX6_letterAt RX6 wsX6_letterAt E (rmN 0) := hX
  show GG x 0 0 (mw E a M) 0 [(0, .ref (a 0)), (1, .int (nI k))] []
  have inRX6 : ∀ w ∈ wsX60, w ∈ wsX6_letterAt := by decide +kernel
  have fl22 : Cond.fieldLink RX6 22 "LieForceModel" "text" "[I" ∈ wsX6_letterAt := by decide +kernel
  have fl68 : Cond.fieldLink RX6 68 "LieForceModel" "texted" "I" ∈ wsX6_letterAt := by decide +kernel
  refine g_iload_n hX dX6_letterAt_0 1 rfl ?_
  refine g_aload_n hX dX6_letterAt_1 0 rfl ?_
  refine g_get hX (v := .int (nI (mL M))) 0 inRX6 rfl rfl 9 rfl fl68 rfl rfl dX6_letterAt_2 ?_
  refine g_icmp_ge hX 17 dX6_letterAt_5 (by decide) (fun c5 => ?_) (fun c5 => ?_)
  · replace c5 := (nI_leI (by omega) (by omega)).mp c5
    refine g_iconst hX ((-1)) dX6_letterAt_17 rfl ?_
    exact g_eq rfl rfl (congrArg (fun z => [Value.int z]) (by first | exact lt_no c5 | exact lt_yes c5)) (hret () _ _ trivial dX6_letterAt_18)
  · replace c5 := mt (nI_leI (by omega) (by omega)).mpr c5
    refine g_aload_n hX dX6_letterAt_8 0 rfl ?_
    refine g_get hX (v := .ref (a 5)) 0 inRX6 rfl rfl 8 rfl fl22 rfl rfl dX6_letterAt_9 ?_
    refine g_iload_n hX dX6_letterAt_12 1 rfl ?_
    refine g_iald hX (nI (mX M k)) 5 0 rfl rfl (vp_in_nI (by omega) (by omega)) (ald_n (g := fun zz => nI (mX M zz)) (i := k) (by omega)) dX6_letterAt_13 ?_
    refine g_goto hX 18 dX6_letterAt_14 (by decide) ?_
    exact g_eq rfl rfl (congrArg (fun z => [Value.int z]) (by first | exact lt_no c5 | exact lt_yes c5)) (hret () _ _ trivial dX6_letterAt_18)
set_option maxHeartbeats 4000000 in
set_option maxRecDepth 100000 in
theorem c_X6_isTold (l : Launch) (E : EV) (a : Nat → Nat) (M : MV) (k : Nat) (lo : Int32) (hi : Int32) (hk : k < 4) : KI l yX6_isTold wsX6_isTold (rmN 1) E (σ := Unit) [.ref (a 0), .int (nI k), .int lo, .int hi] (mw E a M) (fun _ => True) (fun _ => (bI (win (nI (mD M k)) lo hi))) (fun _ => mw E a M) 0 0 := by
  refine KI.of (cc := cX6_isTold) (maxL := 4) (ty := .boolean) (hnar := fun _ _ => nar_b _) rfl rfl rfl (fun x hX hin hret hnL => ?_)
  replace hX : CX x l cX6_isTold RX6 wsX6_isTold E (rmN 1) := hX
  show GG x 0 0 (mw E a M) 0 [(0, .ref (a 0)), (1, .int (nI k)), (2, .int lo), (3, .int hi)] []
  have inRX6 : ∀ w ∈ wsX60, w ∈ wsX6_isTold := by decide +kernel
  have fl25 : Cond.fieldLink RX6 25 "LieForceModel" "told" "[I" ∈ wsX6_isTold := by decide +kernel
  refine g_aload_n hX dX6_isTold_0 0 rfl ?_
  refine g_get hX (v := .ref (a 6)) 0 inRX6 rfl rfl 11 rfl fl25 rfl rfl dX6_isTold_1 ?_
  refine g_iload_n hX dX6_isTold_4 1 rfl ?_
  refine g_iald hX (nI (mD M k)) 6 0 rfl rfl (vp_in_nI (by omega) (by omega)) (ald_n (g := fun zz => nI (mD M zz)) (i := k) (by omega)) dX6_isTold_5 ?_
  refine g_iload_n hX dX6_isTold_6 2 rfl ?_
  refine g_iload_n hX dX6_isTold_7 3 rfl ?_
  have hc8 : CUT (mw E a M) (([] : va_W)) (mw E a M) [] [0, 1, 2, 3, 4, 5, 6, 7, 8, 9, 10, 11, 12] := ⟨rfl, rfl, rfl, rfl, rfl⟩
  refine g_TI hX hc8 [.int (nI (mD M k)), .int lo, .int hi] [] (c_X6_in l E (nI (mD M k)) lo hi) gX6_isTold_X6_in calX6_in rfl rfl rfl rfl dX6_isTold_8 rfl ⟨Nat.zero_le _, Nat.zero_le _⟩ (fun _ => mw E a M) [0, 1, 2, 3, 4, 5, 6, 7, 8, 9, 10, 11, 12] rfl (fun _ => rfl) (fun _ hu8 => ?_)
  exact g_eq rfl rfl rfl (hret () _ _ trivial dX6_isTold_11)
set_option maxHeartbeats 4000000 in
set_option maxRecDepth 100000 in
theorem c_X6_clearTold (l : Launch) (E : EV) (a : Nat → Nat) (M : MV)  : KV l yX6_clearTold wsX6_clearTold (rmN 0) E (σ := Nat → Int32) [.ref (a 0)] (mw E a M) (fun u => ∀ i, i < 49 → u i = 0) (fun u => mw E a (mkMV (mT M) (mS M) (mA M) (mW M) (mK M) (mP M) (mE M) (mN M) (mX M) (mL M) (mI M) (mD M) u 5 (mO M) (mF M) (mU M) (mQ M) (mZ M) (mG M) (mH M))) 0 0 := by
  refine KV.of (cc := cX6_clearTold) (maxL := 2) rfl rfl rfl (fun x hX hin hret hnL => ?_)
  replace hX : CX x l cX6_clearTold RX6 wsX6_clearTold E (rmN 0) := hX
  show GG x 0 0 (mw E a M) 0 [(0, .ref (a 0))] []
  have inRX6 : ∀ w ∈ wsX60, w ∈ wsX6_clearTold := by decide +kernel
  have fl28 : Cond.fieldLink RX6 28 "LieForceModel" "read" "[I" ∈ wsX6_clearTold := by decide +kernel
  have fl53 : Cond.fieldLink RX6 53 "LieForceModel" "readTerm" "I" ∈ wsX6_clearTold := by decide +kernel
  refine g_iconst hX (nI 0) dX6_clearTold_0 rfl ?_
  refine g_istore_n hX (j := 1) [(1, .int (nI 0)), (0, .ref (a 0))] dX6_clearTold_1 rfl (by rw [hnL]; rfl) rfl ?_
  have lp2 : ∀ (fuel : Nat) (i : Nat) (z : Nat → Int32), 49 - i < fuel → (i ≤ 49) → (∀ j, j < i → z j = 0) → GG x 0 0 (mw E a (mkMV (mT M) (mS M) (mA M) (mW M) (mK M) (mP M) (mE M) (mN M) (mX M) (mL M) (mI M) (mD M) z (mM M) (mO M) (mF M) (mU M) (mQ M) (mZ M) (mG M) (mH M))) 2 [(0, .ref (a 0)), (1, .int (nI i))] [] := by
    intro fuel
    induction fuel with
    | zero => intro i z hm; exact absurd hm (Nat.not_lt_zero _)
    | succ fuel ih2 =>
      intro i z hm2 hi hz
      refine g_iload_n hX dX6_clearTold_2 1 rfl ?_
      refine g_bipush hX (nI 49) dX6_clearTold_3 rfl ?_
      refine g_icmp_ge hX 21 dX6_clearTold_5 (by decide) (fun c5 => ?_) (fun c5 => ?_)
      · replace c5 := (nI_leI (by omega) (by omega)).mp c5
        refine g_aload_n hX dX6_clearTold_21 0 rfl ?_
        refine g_iconst hX (nI 5) dX6_clearTold_22 rfl ?_
        refine g_put hX (mw E a (mkMV (mT M) (mS M) (mA M) (mW M) (mK M) (mP M) (mE M) (mN M) (mX M) (mL M) (mI M) (mD M) z 5 (mO M) (mF M) (mU M) (mQ M) (mZ M) (mG M) (mH M))) 0 inRX6 tyX6_ok nmX6 (atModel_0 _ _ _ _ _ _ _ _ _ _ _ _ _ _ _ _ _ _ _ _ _ _ _) rfl 13 rfl fl53 rfl rfl rfl rfl rfl dX6_clearTold_23 (stModel_0_13 _ _ _ _ _ _ _ _ _ _ _ _ _ _ _ _ _ _ _ _ _ _ _ _) ?_
        exact g_eq rfl rfl rfl (hret z _ _ (fun j hj => hz j (by omega)) dX6_clearTold_26)
      · replace c5 := mt (nI_leI (by omega) (by omega)).mpr c5
        refine g_aload_n hX dX6_clearTold_8 0 rfl ?_
        refine g_get hX (v := .ref (a 7)) 0 inRX6 (atModel_0 _ _ _ _ _ _ _ _ _ _ _ _ _ _ _ _ _ _ _ _ _ _ _) rfl 12 rfl fl28 rfl rfl dX6_clearTold_9 ?_
        refine g_iload_n hX dX6_clearTold_12 1 rfl ?_
        refine g_iconst hX (nI 0) dX6_clearTold_13 rfl ?_
        refine g_iast hX (va_up (z) i (nI 0)) (mw E a (mkMV (mT M) (mS M) (mA M) (mW M) (mK M) (mP M) (mE M) (mN M) (mX M) (mL M) (mI M) (mD M) (va_up (z) i (nI 0)) (mM M) (mO M) (mF M) (mU M) (mQ M) (mZ M) (mG M) (mH M))) 7 0 (atModel_7 _ _ _ _ _ _ _ _ _ _ _ _ _ _ _ _ _ _ _ _ _ _ _) rfl (vp_in_nI (by omega) (by omega)) (ast_r (by omega)) dX6_clearTold_14 (stModel_7 _ _ _ _ _ _ _ _ _ _ _ _ _ _ _ _ _ _ _ _ _ _ _ _) ?_
        refine g_iinc hX (j := 1) (nI (i + 1)) [(1, .int (nI (i + 1))), (0, .ref (a 0))] dX6_clearTold_15 1 rfl (iinc_n _ _) (by rw [hnL]; rfl) rfl ?_
        refine g_goto hX 2 dX6_clearTold_18 (by decide) ?_
        exact g_lv _ [1, 0] rfl (ih2 (i + 1) (va_up (z) i (nI 0)) (by omega) (by omega) (fun j hj => (Nat.lt_or_ge j i).elim (fun q => (va_up_ne _ _ (by omega)).trans (hz j q)) (fun q => by rw [show j = i by omega, va_up_self]; rfl)))
  exact g_lv _ [1, 0] rfl (lp2 _ 0 (mR M) (Nat.lt_succ_self _) (Nat.zero_le _) (fun j hj => absurd hj (Nat.not_lt_zero _)))
