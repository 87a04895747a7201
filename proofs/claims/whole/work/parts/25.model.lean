set_option maxHeartbeats 4000000 in
set_option maxRecDepth 100000 in
theorem c_X6_fall_n (l : Launch) (E : EV) (a : Nat → Nat) (M : MV) (C : FC) (m : Nat) (x0 : Int32) (hD : DI C m) (hm : m < 2 ^ 29) (hN1 : 1 ≤ cN C) (hS : RW C (mS M)) (hTm : cT C = mT M) (hx : win x0 (nI 0) (nI 1) = false) : KI l yX6_fall wsX6_fall (rmN 5) E (σ := MV) [.ref (a 0), .int x0] (mw E a M) (fun u => KS M u) (fun u => (-1)) (fun u => mw E a u) 0 0 := by
  refine KI.of (cc := cX6_fall) (maxL := 3) (ty := .int) (hnar := fun _ _ => rfl) rfl rfl rfl (fun x hX hin hret hnL => ?_)
  replace hX : CX x l cX6_fall RX6 wsX6_fall E (rmN 5) := hX
  show GG x 0 0 (mw E a M) 0 [(0, .ref (a 0)), (1, .int x0)] []
  obtain ⟨hC, hVY, hZ, hYm⟩ := id hD
  obtain ⟨⟨h9, h64, h512, hT, hI⟩, hK⟩ := id hC
  have hV := DI_VB hD (by omega)
  refine g_iload_n hX dX6_fall_0 1 rfl ?_
  refine g_iconst hX (nI 0) dX6_fall_1 rfl ?_
  refine g_iconst hX (nI 1) dX6_fall_2 rfl ?_
  have hc3 : CUT (mw E a M) (([] : va_W)) (mw E a M) [] [0, 1, 2, 3, 4, 5, 6, 7, 8, 9, 10, 11, 12] := ⟨rfl, rfl, rfl, rfl, rfl⟩
  refine g_TI hX hc3 [.int x0, .int (nI 0), .int (nI 1)] [] (c_X6_in_n l E x0 (nI 0) (nI 1) (by first | assumption | omega)) gX6_fall_X6_in calX6_in rfl rfl rfl rfl dX6_fall_3 rfl ⟨Nat.zero_le _, Nat.zero_le _⟩ (fun _ => mw E a M) [0, 1, 2, 3, 4, 5, 6, 7, 8, 9, 10, 11, 12] rfl (fun _ => rfl) (fun _ hu3 => ?_)
  refine g_if_ne hX 11 dX6_fall_6 (by decide) (fun c6 => ?_) (fun c6 => ?_)
  · replace c6 := mt bI_0.mpr c6
    replace c6 := bNf c6
    exact absurd c6 (by simp)
  · replace c6 := bI_0.mp c6
    refine g_iconst hX ((-1)) dX6_fall_9 rfl ?_
    exact g_eq rfl rfl rfl (hret M _ _ (⟨⟨rfl, rfl, rfl, rfl, rfl, rfl, rfl⟩, ⟨rfl, rfl⟩, rfl⟩) dX6_fall_10)
set_option maxHeartbeats 4000000 in
set_option maxRecDepth 100000 in
theorem c_X6_fall_y (l : Launch) (E : EV) (a : Nat → Nat) (M : MV) (C : FC) (m : Nat) (w : Nat) (hD : DI C m) (hm : m < 2 ^ 29) (hN1 : 1 ≤ cN C) (hS : RW C (mS M)) (hTm : cT C = mT M) (hw : w ≤ 1) : KI l yX6_fall wsX6_fall (rmN 5) E (σ := MV) [.ref (a 0), .int (nI w)] (mw E a M) (fun u => KS M u) (fun u => (falV C w)) (fun u => mw E a u) 0 0 := by
  refine KI.of (cc := cX6_fall) (maxL := 3) (ty := .int) (hnar := fun _ _ => rfl) rfl rfl rfl (fun x hX hin hret hnL => ?_)
  replace hX : CX x l cX6_fall RX6 wsX6_fall E (rmN 5) := hX
  show GG x 0 0 (mw E a M) 0 [(0, .ref (a 0)), (1, .int (nI w))] []
  have inRX6 : ∀ w ∈ wsX60, w ∈ wsX6_fall := by decide +kernel
  have fl137 : Cond.fieldLink RX6 137 "LieForceModel" "firstFallen" "I" ∈ wsX6_fall := by decide +kernel
  obtain ⟨hC, hVY, hZ, hYm⟩ := id hD
  obtain ⟨⟨h9, h64, h512, hT, hI⟩, hK⟩ := id hC
  have hV := DI_VB hD (by omega)
  refine g_iload_n hX dX6_fall_0 1 rfl ?_
  refine g_iconst hX (nI 0) dX6_fall_1 rfl ?_
  refine g_iconst hX (nI 1) dX6_fall_2 rfl ?_
  have hc3 : CUT (mw E a M) (([] : va_W)) (mw E a M) [] [0, 1, 2, 3, 4, 5, 6, 7, 8, 9, 10, 11, 12] := ⟨rfl, rfl, rfl, rfl, rfl⟩
  refine g_TI hX hc3 [.int (nI w), .int (nI 0), .int (nI 1)] [] (c_X6_in_y l E w 0 1 (by omega) (by omega) (by omega)) gX6_fall_X6_in calX6_in rfl rfl rfl rfl dX6_fall_3 rfl ⟨Nat.zero_le _, Nat.zero_le _⟩ (fun _ => mw E a M) [0, 1, 2, 3, 4, 5, 6, 7, 8, 9, 10, 11, 12] rfl (fun _ => rfl) (fun _ hu3 => ?_)
  refine g_if_ne hX 11 dX6_fall_6 (by decide) (fun c6 => ?_) (fun c6 => ?_)
  · replace c6 := mt bI_0.mpr c6
    replace c6 := bNf c6
    refine g_aload_n hX dX6_fall_11 0 rfl ?_
    have hc12 : CUT (mw E a M) (mw E a M) (([] : va_W)) [0, 1, 2, 3, 4, 5, 6, 7, 8, 9, 10, 11, 12] [] := ⟨rfl, rfl, rfl, rfl, rfl⟩
    refine g_VV hX hc12 [] [] (c_X6_asItIs l E a M) gX6_fall_X6_asItIs calX6_asItIs rfl rfl rfl rfl 0 rfl rfl rfl rfl dX6_fall_12 rfl ⟨Nat.zero_le _, Nat.zero_le _⟩ (fun _ => mw E a (mkMV (mT M) (mS M) (mA M) (mW M) (mK M) (mP M) (mE M) (mN M) (mX M) (mL M) (mI M) (mD M) (mR M) (mM M) (cpR ((mO M)) ((mS M)) 0 0) (mF M) (mU M) (mQ M) (mZ M) (mG M) (mH M))) [0, 1, 2, 3, 4, 5, 6, 7, 8, 9, 10, 11, 12] rfl (fun _ => rfl) (fun _ hu12 => ?_)
    refine g_iconst hX (nI 1) dX6_fall_15 rfl ?_
    refine g_istore_n hX (j := 2) [(2, .int (nI 1)), (0, .ref (a 0)), (1, .int (nI w))] dX6_fall_16 rfl (by rw [hnL]; rfl) rfl ?_
    have lp17 : ∀ (fuel : Nat) (k : Nat) (z : Nat → Int32) (f : Int32) (fu : Nat), 61 - k < fuel → (1 ≤ k) → (k ≤ 61) → (RW (dayC C (k - 1)) z) → (∀ j, 1 ≤ j → j < k → firO (serN C j) = none) → GG x 0 0 (mw E a (mkMV (mT M) (mS M) (mA M) (mW M) (mK M) (mP M) (mE M) (mN M) (mX M) (mL M) (mI M) (mD M) (mR M) (mM M) z f fu (mQ M) (mZ M) (mG M) (mH M))) 17 [(0, .ref (a 0)), (1, .int (nI w)), (2, .int (nI k))] [] := by
      intro fuel
      induction fuel with
      | zero => intro k z f fu hm; exact absurd hm (Nat.not_lt_zero _)
      | succ fuel ih17 =>
        intro k z f fu hm17 hk1 hk hz hn
        have hdk : cN (dayC C (k - 1)) = cN C := day_N C _
        have hDk := DI_day hD (k - 1)
        refine g_iload_n hX dX6_fall_17 2 rfl ?_
        refine g_bipush hX (nI 60) dX6_fall_18 rfl ?_
        refine g_icmp_gt hX 53 dX6_fall_20 (by decide) (fun c20 => ?_) (fun c20 => ?_)
        · replace c20 := (nI_ltI (by omega) (by omega)).mp c20
          refine g_bipush hX ((-4)) dX6_fall_53 rfl ?_
          exact g_eq rfl rfl (congrArg (fun z => [Value.int z]) (by show _ = falV C w; rw [fal_none (fun j a b => hn j a (by omega))])) (hret (mkMV (mT M) (mS M) (mA M) (mW M) (mK M) (mP M) (mE M) (mN M) (mX M) (mL M) (mI M) (mD M) (mR M) (mM M) z f fu (mQ M) (mZ M) (mG M) (mH M)) _ _ (⟨⟨rfl, rfl, rfl, rfl, rfl, rfl, rfl⟩, ⟨rfl, rfl⟩, rfl⟩) dX6_fall_55)
        · replace c20 := mt (nI_ltI (by omega) (by omega)).mpr c20
          refine g_aload_n hX dX6_fall_23 0 rfl ?_
          have hc24 : CUT (mw E a (mkMV (mT M) (mS M) (mA M) (mW M) (mK M) (mP M) (mE M) (mN M) (mX M) (mL M) (mI M) (mD M) (mR M) (mM M) z f fu (mQ M) (mZ M) (mG M) (mH M))) (mw E a (mkMV (mT M) (mS M) (mA M) (mW M) (mK M) (mP M) (mE M) (mN M) (mX M) (mL M) (mI M) (mD M) (mR M) (mM M) z f fu (mQ M) (mZ M) (mG M) (mH M))) (([] : va_W)) [0, 1, 2, 3, 4, 5, 6, 7, 8, 9, 10, 11, 12] [] := ⟨rfl, rfl, rfl, rfl, rfl⟩
          refine g_VV hX hc24 [] [] (c_X6_goes l E a (mkMV (mT M) (mS M) (mA M) (mW M) (mK M) (mP M) (mE M) (mN M) (mX M) (mL M) (mI M) (mD M) (mR M) (mM M) z f fu (mQ M) (mZ M) (mG M) (mH M)) (dayC C (k - 1)) hDk.1 hz (DI_VB hDk (by omega)) (DI_VB1 hDk (by omega)) ((day_T C _).trans hTm)) gX6_fall_X6_goes calX6_goes rfl rfl rfl rfl 0 rfl rfl rfl rfl dX6_fall_24 rfl ⟨Nat.zero_le _, Nat.zero_le _⟩ (fun u24 => mw E a (mkMV (mT M) (mS M) (mA M) (mW M) (mK M) (mP M) (mE M) (mN M) (mX M) (mL M) (mI M) (mD M) (mR M) (mM M) u24 (ffV (serC (dayC C (k - 1))) (cN (dayC C (k - 1)))) (fu + (passC (dayC C (k - 1))).2) (mQ M) (mZ M) (mG M) (mH M))) [0, 1, 2, 3, 4, 5, 6, 7, 8, 9, 10, 11, 12] rfl (fun _ => rfl) (fun u24 hu24 => ?_)
          refine g_aload_n hX dX6_fall_27 0 rfl ?_
          refine g_get hX (v := .int (ffV (serC (dayC C (k - 1))) (cN (dayC C (k - 1))))) 0 inRX6 (atModel_0 _ _ _ _ _ _ _ _ _ _ _ _ _ _ _ _ _ _ _ _ _ _ _) rfl 15 rfl fl137 rfl rfl dX6_fall_28 ?_
          refine g_if_lt hX 47 dX6_fall_31 (by decide) (fun c31 => ?_) (fun c31 => ?_)
          · skip
            have hno := fal_lt h9 hk1 hn c31
            refine g_iinc hX (j := 2) (nI (k + 1)) [(2, .int (nI (k + 1))), (0, .ref (a 0)), (1, .int (nI w))] dX6_fall_47 2 rfl (iinc_n _ _) (by rw [hnL]; rfl) rfl ?_
            refine g_goto hX 17 dX6_fall_50 (by decide) ?_
            exact g_lv _ [1, 2, 0] rfl (ih17 (k + 1) u24 (ffV (serC (dayC C (k - 1))) (cN (dayC C (k - 1)))) (fu + (passC (dayC C (k - 1))).2) (by omega) (by omega) (by omega) (by rw [show k + 1 - 1 = (k - 1) + 1 by omega]; exact hu24) (fun j a b => (Nat.lt_or_ge j k).elim (fun q => hn j a q) (fun q => by rw [show j = k by omega]; exact hno)))
          · skip
            have hye := fal_ge h9 hk1 hn c31
            refine g_iload_n hX dX6_fall_34 1 rfl ?_
            refine g_if_ne hX 45 dX6_fall_35 (by decide) (fun c35 => ?_) (fun c35 => ?_)
            · replace c35 := mt (nz_eq (by omega)).mpr c35
              refine g_iload_n hX dX6_fall_45 2 rfl ?_
              exact g_eq rfl rfl (congrArg (fun z => [Value.int z]) (by show _ = falV C w; rw [fal_some hk1 (by omega) hn hye.1]; first | (rw [if_pos c35, hye.2]) | (rw [if_neg c35]))) (hret (mkMV (mT M) (mS M) (mA M) (mW M) (mK M) (mP M) (mE M) (mN M) (mX M) (mL M) (mI M) (mD M) (mR M) (mM M) u24 (ffV (serC (dayC C (k - 1))) (cN (dayC C (k - 1)))) (fu + (passC (dayC C (k - 1))).2) (mQ M) (mZ M) (mG M) (mH M)) _ _ (⟨⟨rfl, rfl, rfl, rfl, rfl, rfl, rfl⟩, ⟨rfl, rfl⟩, rfl⟩) dX6_fall_46)
            · replace c35 := (nz_eq (by omega)).mp c35
              refine g_aload_n hX dX6_fall_38 0 rfl ?_
              refine g_get hX (v := .int (ffV (serC (dayC C (k - 1))) (cN (dayC C (k - 1))))) 0 inRX6 (atModel_0 _ _ _ _ _ _ _ _ _ _ _ _ _ _ _ _ _ _ _ _ _ _ _) rfl 15 rfl fl137 rfl rfl dX6_fall_39 ?_
              refine g_goto hX 46 dX6_fall_42 (by decide) ?_
              exact g_eq rfl rfl (congrArg (fun z => [Value.int z]) (by show _ = falV C w; rw [fal_some hk1 (by omega) hn hye.1]; first | (rw [if_pos c35, hye.2]) | (rw [if_neg c35]))) (hret (mkMV (mT M) (mS M) (mA M) (mW M) (mK M) (mP M) (mE M) (mN M) (mX M) (mL M) (mI M) (mD M) (mR M) (mM M) u24 (ffV (serC (dayC C (k - 1))) (cN (dayC C (k - 1)))) (fu + (passC (dayC C (k - 1))).2) (mQ M) (mZ M) (mG M) (mH M)) _ _ (⟨⟨rfl, rfl, rfl, rfl, rfl, rfl, rfl⟩, ⟨rfl, rfl⟩, rfl⟩) dX6_fall_46)
    exact g_lv _ [1, 2, 0] rfl (lp17 _ 1 (cpR ((mO M)) ((mS M)) 0 0) (mF M) (mU M) (Nat.lt_succ_self _) (Nat.le_refl _) (by omega) (RW_cp h9 hS) (fun j a b => absurd a (by omega)))
  · replace c6 := bI_0.mp c6
    exact absurd c6 (by simp)
set_option maxHeartbeats 4000000 in
set_option maxRecDepth 100000 in
theorem c_X6_undo_n (l : Launch) (E : EV) (a : Nat → Nat) (M : MV) (h0 : mA M = 0) : KI l yX6_undo wsX6_undo (rmN 1) E (σ := MV) [.ref (a 0)] (mw E a M) (fun u => KS M u) (fun u => (-2)) (fun u => mw E a u) 0 0 := by
  refine KI.of (cc := cX6_undo) (maxL := 1) (ty := .int) (hnar := fun _ _ => rfl) rfl rfl rfl (fun x hX hin hret hnL => ?_)
  replace hX : CX x l cX6_undo RX6 wsX6_undo E (rmN 1) := hX
  show GG x 0 0 (mw E a M) 0 [(0, .ref (a 0))] []
  have inRX6 : ∀ w ∈ wsX60, w ∈ wsX6_undo := by decide +kernel
  have fl115 : Cond.fieldLink RX6 115 "LieForceModel" "acts" "I" ∈ wsX6_undo := by decide +kernel
  refine g_aload_n hX dX6_undo_0 0 rfl ?_
  refine g_get hX (v := .int (nI (mA M))) 0 inRX6 rfl rfl 2 rfl fl115 rfl rfl dX6_undo_1 ?_
  refine g_if_ne hX 10 dX6_undo_4 (by decide) (fun c4 => ?_) (fun c4 => ?_)
  · replace c4 := mt (nz_eq (by omega)).mpr c4
    omega
  · replace c4 := (nz_eq (by omega)).mp c4
    refine g_bipush hX ((-2)) dX6_undo_7 rfl ?_
    exact g_eq rfl rfl rfl (hret M _ _ (⟨⟨rfl, rfl, rfl, rfl, rfl, rfl, rfl⟩, ⟨rfl, rfl⟩, rfl⟩) dX6_undo_9)
set_option maxHeartbeats 4000000 in
set_option maxRecDepth 100000 in
theorem c_X6_undo_y (l : Launch) (E : EV) (a : Nat → Nat) (M : MV) (D : FC) (h0 : 0 < mA M) (hA : mA M ≤ 8) (h9 : cN D ≤ 9) (hQ : RW D (rwO (mW M) (mA M - 1))) : KI l yX6_undo wsX6_undo (rmN 1) E (σ := MV) [.ref (a 0)] (mw E a M) (fun u => KP M u ∧ RW D (mS u) ∧ mA u = mA M - 1 ∧ mW u = mW M) (fun u => (nI (mA M - 1))) (fun u => mw E a u) 0 0 := by
  refine KI.of (cc := cX6_undo) (maxL := 1) (ty := .int) (hnar := fun _ _ => rfl) rfl rfl rfl (fun x hX hin hret hnL => ?_)
  replace hX : CX x l cX6_undo RX6 wsX6_undo E (rmN 1) := hX
  show GG x 0 0 (mw E a M) 0 [(0, .ref (a 0))] []
  have inRX6 : ∀ w ∈ wsX60, w ∈ wsX6_undo := by decide +kernel
  have fl115 : Cond.fieldLink RX6 115 "LieForceModel" "acts" "I" ∈ wsX6_undo := by decide +kernel
  have fl13 : Cond.fieldLink RX6 13 "LieForceModel" "was" "[I" ∈ wsX6_undo := by decide +kernel
  have fl7 : Cond.fieldLink RX6 7 "LieForceModel" "st" "[I" ∈ wsX6_undo := by decide +kernel
  refine g_aload_n hX dX6_undo_0 0 rfl ?_
  refine g_get hX (v := .int (nI (mA M))) 0 inRX6 rfl rfl 2 rfl fl115 rfl rfl dX6_undo_1 ?_
  refine g_if_ne hX 10 dX6_undo_4 (by decide) (fun c4 => ?_) (fun c4 => ?_)
  · replace c4 := mt (nz_eq (by omega)).mpr c4
    refine g_aload_n hX dX6_undo_10 0 rfl ?_
    refine g_dup hX dX6_undo_11 rfl ?_
    refine g_get hX (v := .int (nI (mA M))) 0 inRX6 rfl rfl 2 rfl fl115 rfl rfl dX6_undo_12 ?_
    refine g_iconst hX (nI 1) dX6_undo_15 rfl ?_
    refine g_isub hX (nI ((mA M) - 1)) dX6_undo_16 (pk_sub (by omega)) ?_
    refine g_eq (show (mw E a M : va_W) = mw E a (mkMV (mT M) (mS M) (mA M) (mW M) (mK M) (mP M) (mE M) (mN M) (mX M) (mL M) (mI M) (mD M) (mR M) (mM M) (mO M) (mF M) (mU M) (mQ M) (mZ M) (mG M) (mH M)) from rfl) rfl rfl ?_
    refine g_put hX (mw E a (mkMV (mT M) (mS M) ((mA M) - 1) (mW M) (mK M) (mP M) (mE M) (mN M) (mX M) (mL M) (mI M) (mD M) (mR M) (mM M) (mO M) (mF M) (mU M) (mQ M) (mZ M) (mG M) (mH M))) 0 inRX6 tyX6_ok nmX6 (atModel_0 _ _ _ _ _ _ _ _ _ _ _ _ _ _ _ _ _ _ _ _ _ _ _) rfl 2 rfl fl115 rfl rfl rfl rfl rfl dX6_undo_17 (stModel_0_2 _ _ _ _ _ _ _ _ _ _ _ _ _ _ _ _ _ _ _ _ _ _ _ _) ?_
    refine g_aload_n hX dX6_undo_20 0 rfl ?_
    refine g_get hX (v := .ref (a 1)) 0 inRX6 (atModel_0 _ _ _ _ _ _ _ _ _ _ _ _ _ _ _ _ _ _ _ _ _ _ _) rfl 1 rfl fl7 rfl rfl dX6_undo_21 ?_
    refine g_iconst hX (nI 0) dX6_undo_24 rfl ?_
    refine g_aload_n hX dX6_undo_25 0 rfl ?_
    refine g_get hX (v := .ref (a 2)) 0 inRX6 (atModel_0 _ _ _ _ _ _ _ _ _ _ _ _ _ _ _ _ _ _ _ _ _ _ _) rfl 3 rfl fl13 rfl rfl dX6_undo_26 ?_
    refine g_bipush hX (nI 49) dX6_undo_29 rfl ?_
    refine g_aload_n hX dX6_undo_31 0 rfl ?_
    refine g_get hX (v := .int (nI ((mA M) - 1))) 0 inRX6 (atModel_0 _ _ _ _ _ _ _ _ _ _ _ _ _ _ _ _ _ _ _ _ _ _ _) rfl 2 rfl fl115 rfl rfl dX6_undo_32 ?_
    refine g_imul hX (nI (49 * ((mA M) - 1))) dX6_undo_35 (pk_mul _ _) ?_
    have hc36 : CUT (mw E a (mkMV (mT M) (mS M) ((mA M) - 1) (mW M) (mK M) (mP M) (mE M) (mN M) (mX M) (mL M) (mI M) (mD M) (mR M) (mM M) (mO M) (mF M) (mU M) (mQ M) (mZ M) (mG M) (mH M))) ((aw E (a 1) 49 (mS M)) ++ (aw E (a 2) 392 (mW M))) ((List.eraseIdx (List.eraseIdx (mw E a (mkMV (mT M) (mS M) ((mA M) - 1) (mW M) (mK M) (mP M) (mE M) (mN M) (mX M) (mL M) (mI M) (mD M) (mR M) (mM M) (mO M) (mF M) (mU M) (mQ M) (mZ M) (mG M) (mH M))) 2) 1)) [1, 2] [0, 3, 4, 5, 6, 7, 8, 9, 10, 11, 12] := ⟨rfl, rfl, rfl, rfl, rfl⟩
    refine g_TV hX hc36 [.ref (a 1), .int (nI 0), .ref (a 2), .int (nI (49 * ((mA M) - 1)))] [] (c_X6_copies l E (a 1) 49 (mS M) 0 (a 2) 392 (mW M) (49 * ((mA M) - 1)) (by omega) (by omega) (by omega) (by omega)) gX6_undo_X6_copies calX6_copies rfl rfl rfl rfl dX6_undo_36 rfl ⟨Nat.zero_le _, Nat.zero_le _⟩ (fun _ => mw E a (mkMV (mT M) (cpR (mS M) (mW M) 0 (49 * ((mA M) - 1))) ((mA M) - 1) (mW M) (mK M) (mP M) (mE M) (mN M) (mX M) (mL M) (mI M) (mD M) (mR M) (mM M) (mO M) (mF M) (mU M) (mQ M) (mZ M) (mG M) (mH M))) [0, 11, 12, 1, 2, 3, 4, 5, 6, 7, 8, 9, 10] rfl (fun _ => rfl) (fun _ hu36 => ?_)
    refine g_aload_n hX dX6_undo_39 0 rfl ?_
    refine g_get hX (v := .int (nI ((mA M) - 1))) 0 inRX6 (atModel_0 _ _ _ _ _ _ _ _ _ _ _ _ _ _ _ _ _ _ _ _ _ _ _) rfl 2 rfl fl115 rfl rfl dX6_undo_40 ?_
    exact g_eq rfl rfl rfl (hret (mkMV (mT M) (cpR (mS M) (mW M) 0 (49 * ((mA M) - 1))) ((mA M) - 1) (mW M) (mK M) (mP M) (mE M) (mN M) (mX M) (mL M) (mI M) (mD M) (mR M) (mM M) (mO M) (mF M) (mU M) (mQ M) (mZ M) (mG M) (mH M)) _ _ (⟨⟨rfl, rfl, rfl, rfl, rfl, rfl, rfl⟩, RW_rw h9 hQ, rfl, rfl⟩) dX6_undo_43)
  · replace c4 := (nz_eq (by omega)).mp c4
    omega
set_option maxHeartbeats 4000000 in
set_option maxRecDepth 100000 in
theorem c_X6_keep_f (l : Launch) (E : EV) (a : Nat → Nat) (M : MV) (h0 : mK M = 2) : KI l yX6_keep wsX6_keep (rmN 1) E (σ := MV) [.ref (a 0)] (mw E a M) (fun u => KS M u) (fun u => (-3)) (fun u => mw E a u) 0 0 := by
  refine KI.of (cc := cX6_keep) (maxL := 1) (ty := .int) (hnar := fun _ _ => rfl) rfl rfl rfl (fun x hX hin hret hnL => ?_)
  replace hX : CX x l cX6_keep RX6 wsX6_keep E (rmN 1) := hX
  show GG x 0 0 (mw E a M) 0 [(0, .ref (a 0))] []
  have inRX6 : ∀ w ∈ wsX60, w ∈ wsX6_keep := by decide +kernel
  have fl118 : Cond.fieldLink RX6 118 "LieForceModel" "keeps" "I" ∈ wsX6_keep := by decide +kernel
  refine g_aload_n hX dX6_keep_0 0 rfl ?_
  refine g_get hX (v := .int (nI (mK M))) 0 inRX6 rfl rfl 4 rfl fl118 rfl rfl dX6_keep_1 ?_
  refine g_iconst hX (nI 2) dX6_keep_4 rfl ?_
  refine g_icmp_ne hX 11 dX6_keep_5 (by decide) (fun c5 => ?_) (fun c5 => ?_)
  · replace c5 := mt (nI_eq (by omega) (by omega)).mpr c5
    omega
  · replace c5 := (nI_eq (by omega) (by omega)).mp c5
    refine g_bipush hX ((-3)) dX6_keep_8 rfl ?_
    exact g_eq rfl rfl rfl (hret M _ _ (⟨⟨rfl, rfl, rfl, rfl, rfl, rfl, rfl⟩, ⟨rfl, rfl⟩, rfl⟩) dX6_keep_10)
set_option maxHeartbeats 4000000 in
set_option maxRecDepth 100000 in
theorem c_X6_keep_y (l : Launch) (E : EV) (a : Nat → Nat) (M : MV) (h0 : mK M < 2) : KI l yX6_keep wsX6_keep (rmN 1) E (σ := MV) [.ref (a 0)] (mw E a M) (fun u => (mX u = mX M ∧ mL u = mL M ∧ mE u = mE M ∧ mN u = mN M ∧ mT u = mT M) ∧ KA M u ∧ mS u = mS M ∧ mK u = mK M + 1 ∧ mP u = cpR (mP M) (mS M) (49 * mK M) 0) (fun u => (nI (mK M + 1))) (fun u => mw E a u) 0 0 := by
  refine KI.of (cc := cX6_keep) (maxL := 1) (ty := .int) (hnar := fun _ _ => rfl) rfl rfl rfl (fun x hX hin hret hnL => ?_)
  replace hX : CX x l cX6_keep RX6 wsX6_keep E (rmN 1) := hX
  show GG x 0 0 (mw E a M) 0 [(0, .ref (a 0))] []
  have inRX6 : ∀ w ∈ wsX60, w ∈ wsX6_keep := by decide +kernel
  have fl118 : Cond.fieldLink RX6 118 "LieForceModel" "keeps" "I" ∈ wsX6_keep := by decide +kernel
  have fl16 : Cond.fieldLink RX6 16 "LieForceModel" "kept" "[I" ∈ wsX6_keep := by decide +kernel
  have fl7 : Cond.fieldLink RX6 7 "LieForceModel" "st" "[I" ∈ wsX6_keep := by decide +kernel
  refine g_aload_n hX dX6_keep_0 0 rfl ?_
  refine g_get hX (v := .int (nI (mK M))) 0 inRX6 rfl rfl 4 rfl fl118 rfl rfl dX6_keep_1 ?_
  refine g_iconst hX (nI 2) dX6_keep_4 rfl ?_
  refine g_icmp_ne hX 11 dX6_keep_5 (by decide) (fun c5 => ?_) (fun c5 => ?_)
  · replace c5 := mt (nI_eq (by omega) (by omega)).mpr c5
    refine g_aload_n hX dX6_keep_11 0 rfl ?_
    refine g_get hX (v := .ref (a 3)) 0 inRX6 rfl rfl 5 rfl fl16 rfl rfl dX6_keep_12 ?_
    refine g_bipush hX (nI 49) dX6_keep_15 rfl ?_
    refine g_aload_n hX dX6_keep_17 0 rfl ?_
    refine g_get hX (v := .int (nI (mK M))) 0 inRX6 rfl rfl 4 rfl fl118 rfl rfl dX6_keep_18 ?_
    refine g_imul hX (nI (49 * (mK M))) dX6_keep_21 (pk_mul _ _) ?_
    refine g_aload_n hX dX6_keep_22 0 rfl ?_
    refine g_get hX (v := .ref (a 1)) 0 inRX6 rfl rfl 1 rfl fl7 rfl rfl dX6_keep_23 ?_
    refine g_iconst hX (nI 0) dX6_keep_26 rfl ?_
    refine g_eq (show (mw E a M : va_W) = mw E a (mkMV (mT M) (mS M) (mA M) (mW M) (mK M) (mP M) (mE M) (mN M) (mX M) (mL M) (mI M) (mD M) (mR M) (mM M) (mO M) (mF M) (mU M) (mQ M) (mZ M) (mG M) (mH M)) from rfl) rfl rfl ?_
    have hc27 : CUT (mw E a (mkMV (mT M) (mS M) (mA M) (mW M) (mK M) (mP M) (mE M) (mN M) (mX M) (mL M) (mI M) (mD M) (mR M) (mM M) (mO M) (mF M) (mU M) (mQ M) (mZ M) (mG M) (mH M))) ((aw E (a 3) 98 (mP M)) ++ (aw E (a 1) 49 (mS M))) ((List.eraseIdx (List.eraseIdx (mw E a (mkMV (mT M) (mS M) (mA M) (mW M) (mK M) (mP M) (mE M) (mN M) (mX M) (mL M) (mI M) (mD M) (mR M) (mM M) (mO M) (mF M) (mU M) (mQ M) (mZ M) (mG M) (mH M))) 3) 1)) [3, 1] [0, 2, 4, 5, 6, 7, 8, 9, 10, 11, 12] := ⟨rfl, rfl, rfl, rfl, rfl⟩
    refine g_TV hX hc27 [.ref (a 3), .int (nI (49 * (mK M))), .ref (a 1), .int (nI 0)] [] (c_X6_copies l E (a 3) 98 (mP M) (49 * (mK M)) (a 1) 49 (mS M) 0 (by omega) (by omega) (by omega) (by omega)) gX6_keep_X6_copies calX6_copies rfl rfl rfl rfl dX6_keep_27 rfl ⟨Nat.zero_le _, Nat.zero_le _⟩ (fun _ => mw E a (mkMV (mT M) (mS M) (mA M) (mW M) (mK M) (cpR (mP M) (mS M) (49 * (mK M)) 0) (mE M) (mN M) (mX M) (mL M) (mI M) (mD M) (mR M) (mM M) (mO M) (mF M) (mU M) (mQ M) (mZ M) (mG M) (mH M))) [0, 12, 1, 11, 2, 3, 4, 5, 6, 7, 8, 9, 10] rfl (fun _ => rfl) (fun _ hu27 => ?_)
    refine g_aload_n hX dX6_keep_30 0 rfl ?_
    refine g_dup hX dX6_keep_31 rfl ?_
    refine g_get hX (v := .int (nI (mK M))) 0 inRX6 (atModel_0 _ _ _ _ _ _ _ _ _ _ _ _ _ _ _ _ _ _ _ _ _ _ _) rfl 4 rfl fl118 rfl rfl dX6_keep_32 ?_
    refine g_iconst hX (nI 1) dX6_keep_35 rfl ?_
    refine g_iadd hX (nI ((mK M) + 1)) dX6_keep_36 (nI_add _ _) ?_
    refine g_put hX (mw E a (mkMV (mT M) (mS M) (mA M) (mW M) ((mK M) + 1) (cpR (mP M) (mS M) (49 * (mK M)) 0) (mE M) (mN M) (mX M) (mL M) (mI M) (mD M) (mR M) (mM M) (mO M) (mF M) (mU M) (mQ M) (mZ M) (mG M) (mH M))) 0 inRX6 tyX6_ok nmX6 (atModel_0 _ _ _ _ _ _ _ _ _ _ _ _ _ _ _ _ _ _ _ _ _ _ _) rfl 4 rfl fl118 rfl rfl rfl rfl rfl dX6_keep_37 (stModel_0_4 _ _ _ _ _ _ _ _ _ _ _ _ _ _ _ _ _ _ _ _ _ _ _ _) ?_
    refine g_aload_n hX dX6_keep_40 0 rfl ?_
    refine g_get hX (v := .int (nI ((mK M) + 1))) 0 inRX6 (atModel_0 _ _ _ _ _ _ _ _ _ _ _ _ _ _ _ _ _ _ _ _ _ _ _) rfl 4 rfl fl118 rfl rfl dX6_keep_41 ?_
    exact g_eq rfl rfl rfl (hret (mkMV (mT M) (mS M) (mA M) (mW M) ((mK M) + 1) (cpR (mP M) (mS M) (49 * (mK M)) 0) (mE M) (mN M) (mX M) (mL M) (mI M) (mD M) (mR M) (mM M) (mO M) (mF M) (mU M) (mQ M) (mZ M) (mG M) (mH M)) _ _ (⟨⟨rfl, rfl, rfl, rfl, rfl⟩, ⟨rfl, rfl⟩, rfl, rfl, rfl⟩) dX6_keep_44)
  · replace c5 := (nI_eq (by omega) (by omega)).mp c5
    omega
set_option maxHeartbeats 4000000 in
set_option maxRecDepth 100000 in
theorem c_X6_back_n (l : Launch) (E : EV) (a : Nat → Nat) (M : MV) (h0 : mK M = 0) : KI l yX6_back wsX6_back (rmN 1) E (σ := MV) [.ref (a 0)] (mw E a M) (fun u => KS M u) (fun u => (-2)) (fun u => mw E a u) 0 0 := by
  refine KI.of (cc := cX6_back) (maxL := 1) (ty := .int) (hnar := fun _ _ => rfl) rfl rfl rfl (fun x hX hin hret hnL => ?_)
  replace hX : CX x l cX6_back RX6 wsX6_back E (rmN 1) := hX
  show GG x 0 0 (mw E a M) 0 [(0, .ref (a 0))] []
  have inRX6 : ∀ w ∈ wsX60, w ∈ wsX6_back := by decide +kernel
  have fl118 : Cond.fieldLink RX6 118 "LieForceModel" "keeps" "I" ∈ wsX6_back := by decide +kernel
  refine g_aload_n hX dX6_back_0 0 rfl ?_
  refine g_get hX (v := .int (nI (mK M))) 0 inRX6 rfl rfl 4 rfl fl118 rfl rfl dX6_back_1 ?_
  refine g_if_ne hX 10 dX6_back_4 (by decide) (fun c4 => ?_) (fun c4 => ?_)
  · replace c4 := mt (nz_eq (by omega)).mpr c4
    omega
  · replace c4 := (nz_eq (by omega)).mp c4
    refine g_bipush hX ((-2)) dX6_back_7 rfl ?_
    exact g_eq rfl rfl rfl (hret M _ _ (⟨⟨rfl, rfl, rfl, rfl, rfl, rfl, rfl⟩, ⟨rfl, rfl⟩, rfl⟩) dX6_back_9)
set_option maxHeartbeats 4000000 in
set_option maxRecDepth 100000 in
theorem c_X6_back_y (l : Launch) (E : EV) (a : Nat → Nat) (M : MV) (D : FC) (h0 : 0 < mK M) (hA : mK M ≤ 2) (h9 : cN D ≤ 9) (hQ : RW D (rwO (mP M) (mK M - 1))) : KI l yX6_back wsX6_back (rmN 1) E (σ := MV) [.ref (a 0)] (mw E a M) (fun u => (mX u = mX M ∧ mL u = mL M ∧ mE u = mE M ∧ mN u = mN M ∧ mT u = mT M) ∧ RW D (mS u) ∧ mA u = 0 ∧ mK u = mK M - 1 ∧ mP u = mP M) (fun u => (nI (mK M - 1))) (fun u => mw E a u) 0 0 := by
  refine KI.of (cc := cX6_back) (maxL := 1) (ty := .int) (hnar := fun _ _ => rfl) rfl rfl rfl (fun x hX hin hret hnL => ?_)
  replace hX : CX x l cX6_back RX6 wsX6_back E (rmN 1) := hX
  show GG x 0 0 (mw E a M) 0 [(0, .ref (a 0))] []
  have inRX6 : ∀ w ∈ wsX60, w ∈ wsX6_back := by decide +kernel
  have fl115 : Cond.fieldLink RX6 115 "LieForceModel" "acts" "I" ∈ wsX6_back := by decide +kernel
  have fl118 : Cond.fieldLink RX6 118 "LieForceModel" "keeps" "I" ∈ wsX6_back := by decide +kernel
  have fl16 : Cond.fieldLink RX6 16 "LieForceModel" "kept" "[I" ∈ wsX6_back := by decide +kernel
  have fl7 : Cond.fieldLink RX6 7 "LieForceModel" "st" "[I" ∈ wsX6_back := by decide +kernel
  refine g_aload_n hX dX6_back_0 0 rfl ?_
  refine g_get hX (v := .int (nI (mK M))) 0 inRX6 rfl rfl 4 rfl fl118 rfl rfl dX6_back_1 ?_
  refine g_if_ne hX 10 dX6_back_4 (by decide) (fun c4 => ?_) (fun c4 => ?_)
  · replace c4 := mt (nz_eq (by omega)).mpr c4
    refine g_aload_n hX dX6_back_10 0 rfl ?_
    refine g_dup hX dX6_back_11 rfl ?_
    refine g_get hX (v := .int (nI (mK M))) 0 inRX6 rfl rfl 4 rfl fl118 rfl rfl dX6_back_12 ?_
    refine g_iconst hX (nI 1) dX6_back_15 rfl ?_
    refine g_isub hX (nI ((mK M) - 1)) dX6_back_16 (pk_sub (by omega)) ?_
    refine g_eq (show (mw E a M : va_W) = mw E a (mkMV (mT M) (mS M) (mA M) (mW M) (mK M) (mP M) (mE M) (mN M) (mX M) (mL M) (mI M) (mD M) (mR M) (mM M) (mO M) (mF M) (mU M) (mQ M) (mZ M) (mG M) (mH M)) from rfl) rfl rfl ?_
    refine g_put hX (mw E a (mkMV (mT M) (mS M) (mA M) (mW M) ((mK M) - 1) (mP M) (mE M) (mN M) (mX M) (mL M) (mI M) (mD M) (mR M) (mM M) (mO M) (mF M) (mU M) (mQ M) (mZ M) (mG M) (mH M))) 0 inRX6 tyX6_ok nmX6 (atModel_0 _ _ _ _ _ _ _ _ _ _ _ _ _ _ _ _ _ _ _ _ _ _ _) rfl 4 rfl fl118 rfl rfl rfl rfl rfl dX6_back_17 (stModel_0_4 _ _ _ _ _ _ _ _ _ _ _ _ _ _ _ _ _ _ _ _ _ _ _ _) ?_
    refine g_aload_n hX dX6_back_20 0 rfl ?_
    refine g_get hX (v := .ref (a 1)) 0 inRX6 (atModel_0 _ _ _ _ _ _ _ _ _ _ _ _ _ _ _ _ _ _ _ _ _ _ _) rfl 1 rfl fl7 rfl rfl dX6_back_21 ?_
    refine g_iconst hX (nI 0) dX6_back_24 rfl ?_
    refine g_aload_n hX dX6_back_25 0 rfl ?_
    refine g_get hX (v := .ref (a 3)) 0 inRX6 (atModel_0 _ _ _ _ _ _ _ _ _ _ _ _ _ _ _ _ _ _ _ _ _ _ _) rfl 5 rfl fl16 rfl rfl dX6_back_26 ?_
    refine g_bipush hX (nI 49) dX6_back_29 rfl ?_
    refine g_aload_n hX dX6_back_31 0 rfl ?_
    refine g_get hX (v := .int (nI ((mK M) - 1))) 0 inRX6 (atModel_0 _ _ _ _ _ _ _ _ _ _ _ _ _ _ _ _ _ _ _ _ _ _ _) rfl 4 rfl fl118 rfl rfl dX6_back_32 ?_
    refine g_imul hX (nI (49 * ((mK M) - 1))) dX6_back_35 (pk_mul _ _) ?_
    have hc36 : CUT (mw E a (mkMV (mT M) (mS M) (mA M) (mW M) ((mK M) - 1) (mP M) (mE M) (mN M) (mX M) (mL M) (mI M) (mD M) (mR M) (mM M) (mO M) (mF M) (mU M) (mQ M) (mZ M) (mG M) (mH M))) ((aw E (a 1) 49 (mS M)) ++ (aw E (a 3) 98 (mP M))) ((List.eraseIdx (List.eraseIdx (mw E a (mkMV (mT M) (mS M) (mA M) (mW M) ((mK M) - 1) (mP M) (mE M) (mN M) (mX M) (mL M) (mI M) (mD M) (mR M) (mM M) (mO M) (mF M) (mU M) (mQ M) (mZ M) (mG M) (mH M))) 3) 1)) [1, 3] [0, 2, 4, 5, 6, 7, 8, 9, 10, 11, 12] := ⟨rfl, rfl, rfl, rfl, rfl⟩
    refine g_TV hX hc36 [.ref (a 1), .int (nI 0), .ref (a 3), .int (nI (49 * ((mK M) - 1)))] [] (c_X6_copies l E (a 1) 49 (mS M) 0 (a 3) 98 (mP M) (49 * ((mK M) - 1)) (by omega) (by omega) (by omega) (by omega)) gX6_back_X6_copies calX6_copies rfl rfl rfl rfl dX6_back_36 rfl ⟨Nat.zero_le _, Nat.zero_le _⟩ (fun _ => mw E a (mkMV (mT M) (cpR (mS M) (mP M) 0 (49 * ((mK M) - 1))) (mA M) (mW M) ((mK M) - 1) (mP M) (mE M) (mN M) (mX M) (mL M) (mI M) (mD M) (mR M) (mM M) (mO M) (mF M) (mU M) (mQ M) (mZ M) (mG M) (mH M))) [0, 11, 1, 12, 2, 3, 4, 5, 6, 7, 8, 9, 10] rfl (fun _ => rfl) (fun _ hu36 => ?_)
    refine g_aload_n hX dX6_back_39 0 rfl ?_
    refine g_iconst hX (nI 0) dX6_back_40 rfl ?_
    refine g_put hX (mw E a (mkMV (mT M) (cpR (mS M) (mP M) 0 (49 * ((mK M) - 1))) 0 (mW M) ((mK M) - 1) (mP M) (mE M) (mN M) (mX M) (mL M) (mI M) (mD M) (mR M) (mM M) (mO M) (mF M) (mU M) (mQ M) (mZ M) (mG M) (mH M))) 0 inRX6 tyX6_ok nmX6 (atModel_0 _ _ _ _ _ _ _ _ _ _ _ _ _ _ _ _ _ _ _ _ _ _ _) rfl 2 rfl fl115 rfl rfl rfl rfl rfl dX6_back_41 (stModel_0_2 _ _ _ _ _ _ _ _ _ _ _ _ _ _ _ _ _ _ _ _ _ _ _ _) ?_
    refine g_aload_n hX dX6_back_44 0 rfl ?_
    refine g_get hX (v := .int (nI ((mK M) - 1))) 0 inRX6 (atModel_0 _ _ _ _ _ _ _ _ _ _ _ _ _ _ _ _ _ _ _ _ _ _ _) rfl 4 rfl fl118 rfl rfl dX6_back_45 ?_
    exact g_eq rfl rfl rfl (hret (mkMV (mT M) (cpR (mS M) (mP M) 0 (49 * ((mK M) - 1))) 0 (mW M) ((mK M) - 1) (mP M) (mE M) (mN M) (mX M) (mL M) (mI M) (mD M) (mR M) (mM M) (mO M) (mF M) (mU M) (mQ M) (mZ M) (mG M) (mH M)) _ _ (⟨⟨rfl, rfl, rfl, rfl, rfl⟩, RW_rw h9 hQ, rfl, rfl, rfl⟩) dX6_back_48)
  · replace c4 := (nz_eq (by omega)).mp c4
    omega
set_option maxHeartbeats 4000000 in
set_option maxRecDepth 100000 in
theorem c_X6_count (l : Launch) (E : EV) (a : Nat → Nat) (M : MV) (C : FC) (m : Nat) (x0 : Int32) (hD : DI C m) (hm : m < 2 ^ 29) (hN1 : 1 ≤ cN C) (hS : RW C (mS M)) (hTm : cT C = mT M) : KI l yX6_count wsX6_count (rmN 5) E (σ := MV) [.ref (a 0), .int x0] (mw E a M) (fun u => KS M u) (fun u => (cntV C (mE M) (mA M) (mK M) (mL M) x0)) (fun u => mw E a u) 0 0 := by
  refine KI.of (cc := cX6_count) (maxL := 2) (ty := .int) (hnar := fun _ _ => rfl) rfl rfl rfl (fun x hX hin hret hnL => ?_)
  replace hX : CX x l cX6_count RX6 wsX6_count E (rmN 5) := hX
  show GG x 0 0 (mw E a M) 0 [(0, .ref (a 0)), (1, .int x0)] []
  have inRX6 : ∀ w ∈ wsX60, w ∈ wsX6_count := by decide +kernel
  have fl115 : Cond.fieldLink RX6 115 "LieForceModel" "acts" "I" ∈ wsX6_count := by decide +kernel
  have fl118 : Cond.fieldLink RX6 118 "LieForceModel" "keeps" "I" ∈ wsX6_count := by decide +kernel
  have fl121 : Cond.fieldLink RX6 121 "LieForceModel" "sees" "I" ∈ wsX6_count := by decide +kernel
  have fl68 : Cond.fieldLink RX6 68 "LieForceModel" "texted" "I" ∈ wsX6_count := by decide +kernel
  have fl7 : Cond.fieldLink RX6 7 "LieForceModel" "st" "[I" ∈ wsX6_count := by decide +kernel
  obtain ⟨hC, hVY, hZ, hYm⟩ := id hD
  obtain ⟨⟨h9, h64, h512, hT, hI⟩, hK⟩ := id hC
  have hV := DI_VB hD (by omega)
  have hl := lieM_lt (C := C) h9 (cF C)
  refine g_aload_n hX dX6_count_0 0 rfl ?_
  have hc1 : CUT (mw E a M) (mw E a M) (([] : va_W)) [0, 1, 2, 3, 4, 5, 6, 7, 8, 9, 10, 11, 12] [] := ⟨rfl, rfl, rfl, rfl, rfl⟩
  refine g_VV hX hc1 [] [] (c_X6_asItIs l E a M) gX6_count_X6_asItIs calX6_asItIs rfl rfl rfl rfl 0 rfl rfl rfl rfl dX6_count_1 rfl ⟨Nat.zero_le _, Nat.zero_le _⟩ (fun _ => mw E a (mkMV (mT M) (mS M) (mA M) (mW M) (mK M) (mP M) (mE M) (mN M) (mX M) (mL M) (mI M) (mD M) (mR M) (mM M) (cpR ((mO M)) ((mS M)) 0 0) (mF M) (mU M) (mQ M) (mZ M) (mG M) (mH M))) [0, 1, 2, 3, 4, 5, 6, 7, 8, 9, 10, 11, 12] rfl (fun _ => rfl) (fun _ hu1 => ?_)
  refine g_iload_n hX dX6_count_4 1 rfl ?_
  by_cases sw5_0 : x0 = nI 0
  · refine g_tin hX 60 dX6_count_5 (by rw [sw5_0]; decide) (by rw [sw5_0]; decide) (by rw [sw5_0]; rfl) (by decide) ?_
    refine g_aload_n hX dX6_count_60 0 rfl ?_
    refine g_get hX (v := .ref (a 1)) 0 inRX6 (atModel_0 _ _ _ _ _ _ _ _ _ _ _ _ _ _ _ _ _ _ _ _ _ _ _) rfl 1 rfl fl7 rfl rfl dX6_count_61 ?_
    refine g_iconst hX (nI 2) dX6_count_64 rfl ?_
    refine g_iald hX (nI (cN C)) 1 0 (atModel_1 _ _ _ _ _ _ _ _ _ _ _ _ _ _ _ _ _ _ _ _ _ _ _) rfl (vp_in_nI (by omega) (by omega)) ((ald_n (g := fun zz => (mS M) zz) (i := 2) (by omega)).trans (RB_N hS.1)) dX6_count_65 ?_
    exact g_eq rfl rfl (congrArg (fun z => [Value.int z]) (by show _ = cntV C (mE M) (mA M) (mK M) (mL M) x0; rw [cntV, if_pos sw5_0])) (hret (mkMV (mT M) (mS M) (mA M) (mW M) (mK M) (mP M) (mE M) (mN M) (mX M) (mL M) (mI M) (mD M) (mR M) (mM M) (cpR ((mO M)) ((mS M)) 0 0) (mF M) (mU M) (mQ M) (mZ M) (mG M) (mH M)) _ _ (⟨⟨rfl, rfl, rfl, rfl, rfl, rfl, rfl⟩, ⟨rfl, rfl⟩, rfl⟩) dX6_count_66)
  by_cases sw5_1 : x0 = nI 1
  · refine g_tin hX 67 dX6_count_5 (by rw [sw5_1]; decide) (by rw [sw5_1]; decide) (by rw [sw5_1]; rfl) (by decide) ?_
    refine g_aload_n hX dX6_count_67 0 rfl ?_
    refine g_get hX (v := .ref (a 1)) 0 inRX6 (atModel_0 _ _ _ _ _ _ _ _ _ _ _ _ _ _ _ _ _ _ _ _ _ _ _) rfl 1 rfl fl7 rfl rfl dX6_count_68 ?_
    refine g_iconst hX (nI 3) dX6_count_71 rfl ?_
    refine g_iald hX (nI (cG C)) 1 0 (atModel_1 _ _ _ _ _ _ _ _ _ _ _ _ _ _ _ _ _ _ _ _ _ _ _) rfl (vp_in_nI (by omega) (by omega)) ((ald_n (g := fun zz => (mS M) zz) (i := 3) (by omega)).trans (RB_G hS.1)) dX6_count_72 ?_
    have hc73 : CUT (mw E a (mkMV (mT M) (mS M) (mA M) (mW M) (mK M) (mP M) (mE M) (mN M) (mX M) (mL M) (mI M) (mD M) (mR M) (mM M) (cpR ((mO M)) ((mS M)) 0 0) (mF M) (mU M) (mQ M) (mZ M) (mG M) (mH M))) (([] : va_W)) (mw E a (mkMV (mT M) (mS M) (mA M) (mW M) (mK M) (mP M) (mE M) (mN M) (mX M) (mL M) (mI M) (mD M) (mR M) (mM M) (cpR ((mO M)) ((mS M)) 0 0) (mF M) (mU M) (mQ M) (mZ M) (mG M) (mH M))) [] [0, 1, 2, 3, 4, 5, 6, 7, 8, 9, 10, 11, 12] := ⟨rfl, rfl, rfl, rfl, rfl⟩
    refine g_TI hX hc73 [.int (nI (cG C))] [] (c_X6_bits l E (cG C) (by first | assumption | omega)) gX6_count_X6_bits calX6_bits rfl rfl rfl rfl dX6_count_73 rfl ⟨Nat.zero_le _, Nat.zero_le _⟩ (fun _ => mw E a (mkMV (mT M) (mS M) (mA M) (mW M) (mK M) (mP M) (mE M) (mN M) (mX M) (mL M) (mI M) (mD M) (mR M) (mM M) (cpR ((mO M)) ((mS M)) 0 0) (mF M) (mU M) (mQ M) (mZ M) (mG M) (mH M))) [0, 1, 2, 3, 4, 5, 6, 7, 8, 9, 10, 11, 12] rfl (fun _ => rfl) (fun _ hu73 => ?_)
    exact g_eq rfl rfl (congrArg (fun z => [Value.int z]) (by show _ = cntV C (mE M) (mA M) (mK M) (mL M) x0; rw [cntV, if_neg sw5_0, if_pos sw5_1])) (hret (mkMV (mT M) (mS M) (mA M) (mW M) (mK M) (mP M) (mE M) (mN M) (mX M) (mL M) (mI M) (mD M) (mR M) (mM M) (cpR ((mO M)) ((mS M)) 0 0) (mF M) (mU M) (mQ M) (mZ M) (mG M) (mH M)) _ _ (⟨⟨rfl, rfl, rfl, rfl, rfl, rfl, rfl⟩, ⟨rfl, rfl⟩, rfl⟩) dX6_count_76)
  by_cases sw5_2 : x0 = nI 2
  · refine g_tin hX 77 dX6_count_5 (by rw [sw5_2]; decide) (by rw [sw5_2]; decide) (by rw [sw5_2]; rfl) (by decide) ?_
    refine g_aload_n hX dX6_count_77 0 rfl ?_
    have hc78 : CUT (mw E a (mkMV (mT M) (mS M) (mA M) (mW M) (mK M) (mP M) (mE M) (mN M) (mX M) (mL M) (mI M) (mD M) (mR M) (mM M) (cpR ((mO M)) ((mS M)) 0 0) (mF M) (mU M) (mQ M) (mZ M) (mG M) (mH M))) (mw E a (mkMV (mT M) (mS M) (mA M) (mW M) (mK M) (mP M) (mE M) (mN M) (mX M) (mL M) (mI M) (mD M) (mR M) (mM M) (cpR ((mO M)) ((mS M)) 0 0) (mF M) (mU M) (mQ M) (mZ M) (mG M) (mH M))) (([] : va_W)) [0, 1, 2, 3, 4, 5, 6, 7, 8, 9, 10, 11, 12] [] := ⟨rfl, rfl, rfl, rfl, rfl⟩
    refine g_VI hX hc78 [] [] (c_X6_police l E a (mkMV (mT M) (mS M) (mA M) (mW M) (mK M) (mP M) (mE M) (mN M) (mX M) (mL M) (mI M) (mD M) (mR M) (mM M) (cpR ((mO M)) ((mS M)) 0 0) (mF M) (mU M) (mQ M) (mZ M) (mG M) (mH M)) C (by first | assumption | omega) (RW_cp h9 hS) (by first | assumption | omega)) gX6_count_X6_police calX6_police rfl rfl rfl rfl 0 rfl rfl rfl rfl dX6_count_78 rfl ⟨Nat.zero_le _, Nat.zero_le _⟩ (fun _ => mw E a (mkMV (mT M) (mS M) (mA M) (mW M) (mK M) (mP M) (mE M) (mN M) (mX M) (mL M) (mI M) (mD M) (mR M) (mM M) (cpR ((mO M)) ((mS M)) 0 0) (mF M) (mU M) (mQ M) (mZ M) (mG M) (mH M))) [0, 1, 2, 3, 4, 5, 6, 7, 8, 9, 10, 11, 12] rfl (fun _ => rfl) (fun _ hu78 => ?_)
    have hc81 : CUT (mw E a (mkMV (mT M) (mS M) (mA M) (mW M) (mK M) (mP M) (mE M) (mN M) (mX M) (mL M) (mI M) (mD M) (mR M) (mM M) (cpR ((mO M)) ((mS M)) 0 0) (mF M) (mU M) (mQ M) (mZ M) (mG M) (mH M))) (([] : va_W)) (mw E a (mkMV (mT M) (mS M) (mA M) (mW M) (mK M) (mP M) (mE M) (mN M) (mX M) (mL M) (mI M) (mD M) (mR M) (mM M) (cpR ((mO M)) ((mS M)) 0 0) (mF M) (mU M) (mQ M) (mZ M) (mG M) (mH M))) [] [0, 1, 2, 3, 4, 5, 6, 7, 8, 9, 10, 11, 12] := ⟨rfl, rfl, rfl, rfl, rfl⟩
    refine g_TI hX hc81 [.int (nI (lieM C (cF C)))] [] (c_X6_bits l E (lieM C (cF C)) (by first | assumption | omega)) gX6_count_X6_bits calX6_bits rfl rfl rfl rfl dX6_count_81 rfl ⟨Nat.zero_le _, Nat.zero_le _⟩ (fun _ => mw E a (mkMV (mT M) (mS M) (mA M) (mW M) (mK M) (mP M) (mE M) (mN M) (mX M) (mL M) (mI M) (mD M) (mR M) (mM M) (cpR ((mO M)) ((mS M)) 0 0) (mF M) (mU M) (mQ M) (mZ M) (mG M) (mH M))) [0, 1, 2, 3, 4, 5, 6, 7, 8, 9, 10, 11, 12] rfl (fun _ => rfl) (fun _ hu81 => ?_)
    exact g_eq rfl rfl (congrArg (fun z => [Value.int z]) (by show _ = cntV C (mE M) (mA M) (mK M) (mL M) x0; rw [cntV, if_neg sw5_0, if_neg sw5_1, if_pos sw5_2])) (hret (mkMV (mT M) (mS M) (mA M) (mW M) (mK M) (mP M) (mE M) (mN M) (mX M) (mL M) (mI M) (mD M) (mR M) (mM M) (cpR ((mO M)) ((mS M)) 0 0) (mF M) (mU M) (mQ M) (mZ M) (mG M) (mH M)) _ _ (⟨⟨rfl, rfl, rfl, rfl, rfl, rfl, rfl⟩, ⟨rfl, rfl⟩, rfl⟩) dX6_count_84)
  by_cases sw5_3 : x0 = nI 3
  · refine g_tin hX 85 dX6_count_5 (by rw [sw5_3]; decide) (by rw [sw5_3]; decide) (by rw [sw5_3]; rfl) (by decide) ?_
    refine g_aload_n hX dX6_count_85 0 rfl ?_
    have hc86 : CUT (mw E a (mkMV (mT M) (mS M) (mA M) (mW M) (mK M) (mP M) (mE M) (mN M) (mX M) (mL M) (mI M) (mD M) (mR M) (mM M) (cpR ((mO M)) ((mS M)) 0 0) (mF M) (mU M) (mQ M) (mZ M) (mG M) (mH M))) (mw E a (mkMV (mT M) (mS M) (mA M) (mW M) (mK M) (mP M) (mE M) (mN M) (mX M) (mL M) (mI M) (mD M) (mR M) (mM M) (cpR ((mO M)) ((mS M)) 0 0) (mF M) (mU M) (mQ M) (mZ M) (mG M) (mH M))) (([] : va_W)) [0, 1, 2, 3, 4, 5, 6, 7, 8, 9, 10, 11, 12] [] := ⟨rfl, rfl, rfl, rfl, rfl⟩
    refine g_VI hX hc86 [] [] (c_X6_longServed l E a (mkMV (mT M) (mS M) (mA M) (mW M) (mK M) (mP M) (mE M) (mN M) (mX M) (mL M) (mI M) (mD M) (mR M) (mM M) (cpR ((mO M)) ((mS M)) 0 0) (mF M) (mU M) (mQ M) (mZ M) (mG M) (mH M)) C (by first | assumption | omega) (by first | assumption | omega) (by first | assumption | omega) (by first | assumption | omega)) gX6_count_X6_longServed calX6_longServed rfl rfl rfl rfl 0 rfl rfl rfl rfl dX6_count_86 rfl ⟨Nat.zero_le _, Nat.zero_le _⟩ (fun _ => mw E a (mkMV (mT M) (mS M) (mA M) (mW M) (mK M) (mP M) (mE M) (mN M) (mX M) (mL M) (mI M) (mD M) (mR M) (mM M) (cpR ((mO M)) ((mS M)) 0 0) (mF M) (mU M) (mQ M) (mZ M) (mG M) (mH M))) [0, 1, 2, 3, 4, 5, 6, 7, 8, 9, 10, 11, 12] rfl (fun _ => rfl) (fun _ hu86 => ?_)
    exact g_eq rfl rfl (congrArg (fun z => [Value.int z]) (by show _ = cntV C (mE M) (mA M) (mK M) (mL M) x0; rw [cntV, if_neg sw5_0, if_neg sw5_1, if_neg sw5_2, if_pos sw5_3])) (hret (mkMV (mT M) (mS M) (mA M) (mW M) (mK M) (mP M) (mE M) (mN M) (mX M) (mL M) (mI M) (mD M) (mR M) (mM M) (cpR ((mO M)) ((mS M)) 0 0) (mF M) (mU M) (mQ M) (mZ M) (mG M) (mH M)) _ _ (⟨⟨rfl, rfl, rfl, rfl, rfl, rfl, rfl⟩, ⟨rfl, rfl⟩, rfl⟩) dX6_count_89)
  by_cases sw5_4 : x0 = nI 4
  · refine g_tin hX 90 dX6_count_5 (by rw [sw5_4]; decide) (by rw [sw5_4]; decide) (by rw [sw5_4]; rfl) (by decide) ?_
    refine g_aload_n hX dX6_count_90 0 rfl ?_
    refine g_get hX (v := .ref (a 1)) 0 inRX6 (atModel_0 _ _ _ _ _ _ _ _ _ _ _ _ _ _ _ _ _ _ _ _ _ _ _) rfl 1 rfl fl7 rfl rfl dX6_count_91 ?_
    refine g_iconst hX (nI 1) dX6_count_94 rfl ?_
    refine g_iald hX (nI (cY C)) 1 0 (atModel_1 _ _ _ _ _ _ _ _ _ _ _ _ _ _ _ _ _ _ _ _ _ _ _) rfl (vp_in_nI (by omega) (by omega)) ((ald_n (g := fun zz => (mS M) zz) (i := 1) (by omega)).trans (RB_Y hS.1)) dX6_count_95 ?_
    exact g_eq rfl rfl (congrArg (fun z => [Value.int z]) (by show _ = cntV C (mE M) (mA M) (mK M) (mL M) x0; rw [cntV, if_neg sw5_0, if_neg sw5_1, if_neg sw5_2, if_neg sw5_3, if_pos sw5_4])) (hret (mkMV (mT M) (mS M) (mA M) (mW M) (mK M) (mP M) (mE M) (mN M) (mX M) (mL M) (mI M) (mD M) (mR M) (mM M) (cpR ((mO M)) ((mS M)) 0 0) (mF M) (mU M) (mQ M) (mZ M) (mG M) (mH M)) _ _ (⟨⟨rfl, rfl, rfl, rfl, rfl, rfl, rfl⟩, ⟨rfl, rfl⟩, rfl⟩) dX6_count_96)
  by_cases sw5_5 : x0 = nI 5
  · refine g_tin hX 97 dX6_count_5 (by rw [sw5_5]; decide) (by rw [sw5_5]; decide) (by rw [sw5_5]; rfl) (by decide) ?_
    refine g_aload_n hX dX6_count_97 0 rfl ?_
    refine g_get hX (v := .ref (a 1)) 0 inRX6 (atModel_0 _ _ _ _ _ _ _ _ _ _ _ _ _ _ _ _ _ _ _ _ _ _ _) rfl 1 rfl fl7 rfl rfl dX6_count_98 ?_
    refine g_iconst hX (nI 0) dX6_count_101 rfl ?_
    refine g_iald hX (nI (cF C)) 1 0 (atModel_1 _ _ _ _ _ _ _ _ _ _ _ _ _ _ _ _ _ _ _ _ _ _ _) rfl (vp_in_nI (by omega) (by omega)) ((ald_n (g := fun zz => (mS M) zz) (i := 0) (by omega)).trans (RB_F hS.1)) dX6_count_102 ?_
    have hc103 : CUT (mw E a (mkMV (mT M) (mS M) (mA M) (mW M) (mK M) (mP M) (mE M) (mN M) (mX M) (mL M) (mI M) (mD M) (mR M) (mM M) (cpR ((mO M)) ((mS M)) 0 0) (mF M) (mU M) (mQ M) (mZ M) (mG M) (mH M))) (([] : va_W)) (mw E a (mkMV (mT M) (mS M) (mA M) (mW M) (mK M) (mP M) (mE M) (mN M) (mX M) (mL M) (mI M) (mD M) (mR M) (mM M) (cpR ((mO M)) ((mS M)) 0 0) (mF M) (mU M) (mQ M) (mZ M) (mG M) (mH M))) [] [0, 1, 2, 3, 4, 5, 6, 7, 8, 9, 10, 11, 12] := ⟨rfl, rfl, rfl, rfl, rfl⟩
    refine g_TI hX hc103 [.int (nI (cF C))] [] (c_X6_bits l E (cF C) (by first | assumption | omega)) gX6_count_X6_bits calX6_bits rfl rfl rfl rfl dX6_count_103 rfl ⟨Nat.zero_le _, Nat.zero_le _⟩ (fun _ => mw E a (mkMV (mT M) (mS M) (mA M) (mW M) (mK M) (mP M) (mE M) (mN M) (mX M) (mL M) (mI M) (mD M) (mR M) (mM M) (cpR ((mO M)) ((mS M)) 0 0) (mF M) (mU M) (mQ M) (mZ M) (mG M) (mH M))) [0, 1, 2, 3, 4, 5, 6, 7, 8, 9, 10, 11, 12] rfl (fun _ => rfl) (fun _ hu103 => ?_)
    exact g_eq rfl rfl (congrArg (fun z => [Value.int z]) (by show _ = cntV C (mE M) (mA M) (mK M) (mL M) x0; rw [cntV, if_neg sw5_0, if_neg sw5_1, if_neg sw5_2, if_neg sw5_3, if_neg sw5_4, if_pos sw5_5])) (hret (mkMV (mT M) (mS M) (mA M) (mW M) (mK M) (mP M) (mE M) (mN M) (mX M) (mL M) (mI M) (mD M) (mR M) (mM M) (cpR ((mO M)) ((mS M)) 0 0) (mF M) (mU M) (mQ M) (mZ M) (mG M) (mH M)) _ _ (⟨⟨rfl, rfl, rfl, rfl, rfl, rfl, rfl⟩, ⟨rfl, rfl⟩, rfl⟩) dX6_count_106)
  by_cases sw5_6 : x0 = nI 6
  · refine g_tin hX 107 dX6_count_5 (by rw [sw5_6]; decide) (by rw [sw5_6]; decide) (by rw [sw5_6]; rfl) (by decide) ?_
    refine g_aload_n hX dX6_count_107 0 rfl ?_
    refine g_get hX (v := .int (nI (mE M))) 0 inRX6 (atModel_0 _ _ _ _ _ _ _ _ _ _ _ _ _ _ _ _ _ _ _ _ _ _ _) rfl 6 rfl fl121 rfl rfl dX6_count_108 ?_
    exact g_eq rfl rfl (congrArg (fun z => [Value.int z]) (by show _ = cntV C (mE M) (mA M) (mK M) (mL M) x0; rw [cntV, if_neg sw5_0, if_neg sw5_1, if_neg sw5_2, if_neg sw5_3, if_neg sw5_4, if_neg sw5_5, if_pos sw5_6])) (hret (mkMV (mT M) (mS M) (mA M) (mW M) (mK M) (mP M) (mE M) (mN M) (mX M) (mL M) (mI M) (mD M) (mR M) (mM M) (cpR ((mO M)) ((mS M)) 0 0) (mF M) (mU M) (mQ M) (mZ M) (mG M) (mH M)) _ _ (⟨⟨rfl, rfl, rfl, rfl, rfl, rfl, rfl⟩, ⟨rfl, rfl⟩, rfl⟩) dX6_count_111)
  by_cases sw5_7 : x0 = nI 7
  · refine g_tin hX 112 dX6_count_5 (by rw [sw5_7]; decide) (by rw [sw5_7]; decide) (by rw [sw5_7]; rfl) (by decide) ?_
    refine g_aload_n hX dX6_count_112 0 rfl ?_
    refine g_get hX (v := .int (nI (mA M))) 0 inRX6 (atModel_0 _ _ _ _ _ _ _ _ _ _ _ _ _ _ _ _ _ _ _ _ _ _ _) rfl 2 rfl fl115 rfl rfl dX6_count_113 ?_
    exact g_eq rfl rfl (congrArg (fun z => [Value.int z]) (by show _ = cntV C (mE M) (mA M) (mK M) (mL M) x0; rw [cntV, if_neg sw5_0, if_neg sw5_1, if_neg sw5_2, if_neg sw5_3, if_neg sw5_4, if_neg sw5_5, if_neg sw5_6, if_pos sw5_7])) (hret (mkMV (mT M) (mS M) (mA M) (mW M) (mK M) (mP M) (mE M) (mN M) (mX M) (mL M) (mI M) (mD M) (mR M) (mM M) (cpR ((mO M)) ((mS M)) 0 0) (mF M) (mU M) (mQ M) (mZ M) (mG M) (mH M)) _ _ (⟨⟨rfl, rfl, rfl, rfl, rfl, rfl, rfl⟩, ⟨rfl, rfl⟩, rfl⟩) dX6_count_116)
  by_cases sw5_8 : x0 = nI 8
  · refine g_tin hX 117 dX6_count_5 (by rw [sw5_8]; decide) (by rw [sw5_8]; decide) (by rw [sw5_8]; rfl) (by decide) ?_
    refine g_aload_n hX dX6_count_117 0 rfl ?_
    refine g_get hX (v := .int (nI (mK M))) 0 inRX6 (atModel_0 _ _ _ _ _ _ _ _ _ _ _ _ _ _ _ _ _ _ _ _ _ _ _) rfl 4 rfl fl118 rfl rfl dX6_count_118 ?_
    exact g_eq rfl rfl (congrArg (fun z => [Value.int z]) (by show _ = cntV C (mE M) (mA M) (mK M) (mL M) x0; rw [cntV, if_neg sw5_0, if_neg sw5_1, if_neg sw5_2, if_neg sw5_3, if_neg sw5_4, if_neg sw5_5, if_neg sw5_6, if_neg sw5_7, if_pos sw5_8])) (hret (mkMV (mT M) (mS M) (mA M) (mW M) (mK M) (mP M) (mE M) (mN M) (mX M) (mL M) (mI M) (mD M) (mR M) (mM M) (cpR ((mO M)) ((mS M)) 0 0) (mF M) (mU M) (mQ M) (mZ M) (mG M) (mH M)) _ _ (⟨⟨rfl, rfl, rfl, rfl, rfl, rfl, rfl⟩, ⟨rfl, rfl⟩, rfl⟩) dX6_count_121)
  by_cases sw5_9 : x0 = nI 9
  · refine g_tin hX 122 dX6_count_5 (by rw [sw5_9]; decide) (by rw [sw5_9]; decide) (by rw [sw5_9]; rfl) (by decide) ?_
    refine g_aload_n hX dX6_count_122 0 rfl ?_
    refine g_get hX (v := .int (nI (mL M))) 0 inRX6 (atModel_0 _ _ _ _ _ _ _ _ _ _ _ _ _ _ _ _ _ _ _ _ _ _ _) rfl 9 rfl fl68 rfl rfl dX6_count_123 ?_
    exact g_eq rfl rfl (congrArg (fun z => [Value.int z]) (by show _ = cntV C (mE M) (mA M) (mK M) (mL M) x0; rw [cntV, if_neg sw5_0, if_neg sw5_1, if_neg sw5_2, if_neg sw5_3, if_neg sw5_4, if_neg sw5_5, if_neg sw5_6, if_neg sw5_7, if_neg sw5_8, if_pos sw5_9])) (hret (mkMV (mT M) (mS M) (mA M) (mW M) (mK M) (mP M) (mE M) (mN M) (mX M) (mL M) (mI M) (mD M) (mR M) (mM M) (cpR ((mO M)) ((mS M)) 0 0) (mF M) (mU M) (mQ M) (mZ M) (mG M) (mH M)) _ _ (⟨⟨rfl, rfl, rfl, rfl, rfl, rfl, rfl⟩, ⟨rfl, rfl⟩, rfl⟩) dX6_count_126)
  refine g_tout hX 127 dX6_count_5 (tsw_out (hi := 9) (by decide) (fun v hv => match v, hv with | 0, _ => sw5_0 | 1, _ => sw5_1 | 2, _ => sw5_2 | 3, _ => sw5_3 | 4, _ => sw5_4 | 5, _ => sw5_5 | 6, _ => sw5_6 | 7, _ => sw5_7 | 8, _ => sw5_8 | 9, _ => sw5_9 | v + 10, hv => absurd hv (by omega))) (by decide) ?_
  refine g_iconst hX ((-1)) dX6_count_127 rfl ?_
  exact g_eq rfl rfl (congrArg (fun z => [Value.int z]) (by show _ = cntV C (mE M) (mA M) (mK M) (mL M) x0; rw [cntV, if_neg sw5_0, if_neg sw5_1, if_neg sw5_2, if_neg sw5_3, if_neg sw5_4, if_neg sw5_5, if_neg sw5_6, if_neg sw5_7, if_neg sw5_8, if_neg sw5_9])) (hret (mkMV (mT M) (mS M) (mA M) (mW M) (mK M) (mP M) (mE M) (mN M) (mX M) (mL M) (mI M) (mD M) (mR M) (mM M) (cpR ((mO M)) ((mS M)) 0 0) (mF M) (mU M) (mQ M) (mZ M) (mG M) (mH M)) _ _ (⟨⟨rfl, rfl, rfl, rfl, rfl, rfl, rfl⟩, ⟨rfl, rfl⟩, rfl⟩) dX6_count_128)
set_option maxHeartbeats 4000000 in
set_option maxRecDepth 100000 in
theorem c_X6_see_n (l : Launch) (E : EV) (a : Nat → Nat) (M : MV) (C : FC) (m : Nat) (x0 : Int32) (q : Bool) (hD : DI C m) (hm : m < 2 ^ 29) (hN1 : 1 ≤ cN C) (hS : RW C (mS M)) (hTm : cT C = mT M) (hx : win x0 (nI 0) (nI (cN C - 1)) = false) : KI l yX6_see wsX6_see (rmN 4) E (σ := MV) [.ref (a 0), .int x0, .int (bI q)] (mw E a M) (fun u => KS M u) (fun u => (-1)) (fun u => mw E a u) 0 0 := by
  refine KI.of (cc := cX6_see) (maxL := 3) (ty := .int) (hnar := fun _ _ => rfl) rfl rfl rfl (fun x hX hin hret hnL => ?_)
  replace hX : CX x l cX6_see RX6 wsX6_see E (rmN 4) := hX
  show GG x 0 0 (mw E a M) 0 [(0, .ref (a 0)), (1, .int x0), (2, .int (bI q))] []
  obtain ⟨hC, hVY, hZ, hYm⟩ := id hD
  obtain ⟨⟨h9, h64, h512, hT, hI⟩, hK⟩ := id hC
  have hV := DI_VB hD (by omega)
  refine g_aload_n hX dX6_see_0 0 rfl ?_
  refine g_iload_n hX dX6_see_1 1 rfl ?_
  have hc2 : CUT (mw E a M) (mw E a M) (([] : va_W)) [0, 1, 2, 3, 4, 5, 6, 7, 8, 9, 10, 11, 12] [] := ⟨rfl, rfl, rfl, rfl, rfl⟩
  refine g_VI hX hc2 [.int x0] [] (c_X6_isSaying_n l E a M C x0 (by first | assumption | omega) (by assumption) hS.1 (by assumption)) gX6_see_X6_isSaying calX6_isSaying rfl rfl rfl rfl 0 rfl rfl rfl rfl dX6_see_2 rfl ⟨Nat.zero_le _, Nat.zero_le _⟩ (fun _ => mw E a M) [0, 1, 2, 3, 4, 5, 6, 7, 8, 9, 10, 11, 12] rfl (fun _ => rfl) (fun _ hu2 => ?_)
  refine g_if_ne hX 10 dX6_see_5 (by decide) (fun c5 => ?_) (fun c5 => ?_)
  · replace c5 := mt bI_0.mpr c5
    replace c5 := bNf c5
    exact absurd c5 (by simp)
  · replace c5 := bI_0.mp c5
    refine g_iconst hX ((-1)) dX6_see_8 rfl ?_
    exact g_eq rfl rfl rfl (hret M _ _ (⟨⟨rfl, rfl, rfl, rfl, rfl, rfl, rfl⟩, ⟨rfl, rfl⟩, rfl⟩) dX6_see_9)
set_option maxHeartbeats 4000000 in
set_option maxRecDepth 100000 in
theorem c_X6_see_f (l : Launch) (E : EV) (a : Nat → Nat) (M : MV) (C : FC) (m : Nat) (s : Nat) (q : Bool) (hD : DI C m) (hm : m < 2 ^ 29) (hN1 : 1 ≤ cN C) (hS : RW C (mS M)) (hTm : cT C = mT M) (hs : s < cN C) (hE : mE M = 6) : KI l yX6_see wsX6_see (rmN 4) E (σ := MV) [.ref (a 0), .int (nI s), .int (bI q)] (mw E a M) (fun u => KS M u) (fun u => (-3)) (fun u => mw E a u) 0 0 := by
  refine KI.of (cc := cX6_see) (maxL := 3) (ty := .int) (hnar := fun _ _ => rfl) rfl rfl rfl (fun x hX hin hret hnL => ?_)
  replace hX : CX x l cX6_see RX6 wsX6_see E (rmN 4) := hX
  show GG x 0 0 (mw E a M) 0 [(0, .ref (a 0)), (1, .int (nI s)), (2, .int (bI q))] []
  have inRX6 : ∀ w ∈ wsX60, w ∈ wsX6_see := by decide +kernel
  have fl121 : Cond.fieldLink RX6 121 "LieForceModel" "sees" "I" ∈ wsX6_see := by decide +kernel
  obtain ⟨hC, hVY, hZ, hYm⟩ := id hD
  obtain ⟨⟨h9, h64, h512, hT, hI⟩, hK⟩ := id hC
  have hV := DI_VB hD (by omega)
  refine g_aload_n hX dX6_see_0 0 rfl ?_
  refine g_iload_n hX dX6_see_1 1 rfl ?_
  have hc2 : CUT (mw E a M) (mw E a M) (([] : va_W)) [0, 1, 2, 3, 4, 5, 6, 7, 8, 9, 10, 11, 12] [] := ⟨rfl, rfl, rfl, rfl, rfl⟩
  refine g_VI hX hc2 [.int (nI s)] [] (c_X6_isSaying_y l E a M C s (by first | assumption | omega) hS.1 (by omega)) gX6_see_X6_isSaying calX6_isSaying rfl rfl rfl rfl 0 rfl rfl rfl rfl dX6_see_2 rfl ⟨Nat.zero_le _, Nat.zero_le _⟩ (fun _ => mw E a M) [0, 1, 2, 3, 4, 5, 6, 7, 8, 9, 10, 11, 12] rfl (fun _ => rfl) (fun _ hu2 => ?_)
  refine g_if_ne hX 10 dX6_see_5 (by decide) (fun c5 => ?_) (fun c5 => ?_)
  · replace c5 := mt bI_0.mpr c5
    replace c5 := bNf c5
    refine g_aload_n hX dX6_see_10 0 rfl ?_
    refine g_get hX (v := .int (nI (mE M))) 0 inRX6 rfl rfl 6 rfl fl121 rfl rfl dX6_see_11 ?_
    refine g_bipush hX (nI 6) dX6_see_14 rfl ?_
    refine g_icmp_ne hX 22 dX6_see_16 (by decide) (fun c16 => ?_) (fun c16 => ?_)
    · replace c16 := mt (nI_eq (by omega) (by omega)).mpr c16
      omega
    · replace c16 := (nI_eq (by omega) (by omega)).mp c16
      refine g_bipush hX ((-3)) dX6_see_19 rfl ?_
      exact g_eq rfl rfl rfl (hret M _ _ (⟨⟨rfl, rfl, rfl, rfl, rfl, rfl, rfl⟩, ⟨rfl, rfl⟩, rfl⟩) dX6_see_21)
  · replace c5 := bI_0.mp c5
    exact absurd c5 (by simp)
set_option maxHeartbeats 4000000 in
set_option maxRecDepth 100000 in
theorem c_X6_see_y (l : Launch) (E : EV) (a : Nat → Nat) (M : MV) (C : FC) (s : Nat) (q : Bool) (hN9 : cN C ≤ 9) (hS : RB C (mS M)) (hs : s < cN C) (hE : mE M < 6) : KI l yX6_see wsX6_see (rmN 4) E (σ := Unit) [.ref (a 0), .int (nI s), .int (bI q)] (mw E a M) (fun _ => True) (fun _ => (nI (mE M + 1))) (fun _ => mw E a (mkMV (mT M) (mS M) (mA M) (mW M) (mK M) (mP M) (mE M + 1) (va_up (va_up (mN M) (2 * mE M) s) (2 * mE M + 1) q.toNat) (mX M) (mL M) (mI M) (mD M) (mR M) (mM M) (mO M) (mF M) (mU M) (mQ M) (mZ M) (mG M) (mH M))) 0 0 := by
  refine KI.of (cc := cX6_see) (maxL := 3) (ty := .int) (hnar := fun _ _ => rfl) rfl rfl rfl (fun x hX hin hret hnL => ?_)
  replace hX : CX x l cX6_see RX6 wsX6_see E (rmN 4) := hX
  show GG x 0 0 (mw E a M) 0 [(0, .ref (a 0)), (1, .int (nI s)), (2, .int (bI q))] []
  have inRX6 : ∀ w ∈ wsX60, w ∈ wsX6_see := by decide +kernel
  have fl121 : Cond.fieldLink RX6 121 "LieForceModel" "sees" "I" ∈ wsX6_see := by decide +kernel
  have fl19 : Cond.fieldLink RX6 19 "LieForceModel" "seen" "[I" ∈ wsX6_see := by decide +kernel
  refine g_aload_n hX dX6_see_0 0 rfl ?_
  refine g_iload_n hX dX6_see_1 1 rfl ?_
  have hc2 : CUT (mw E a M) (mw E a M) (([] : va_W)) [0, 1, 2, 3, 4, 5, 6, 7, 8, 9, 10, 11, 12] [] := ⟨rfl, rfl, rfl, rfl, rfl⟩
  refine g_VI hX hc2 [.int (nI s)] [] (c_X6_isSaying_y l E a M C s (by first | assumption | omega) (by first | assumption | omega) (by omega)) gX6_see_X6_isSaying calX6_isSaying rfl rfl rfl rfl 0 rfl rfl rfl rfl dX6_see_2 rfl ⟨Nat.zero_le _, Nat.zero_le _⟩ (fun _ => mw E a M) [0, 1, 2, 3, 4, 5, 6, 7, 8, 9, 10, 11, 12] rfl (fun _ => rfl) (fun _ hu2 => ?_)
  refine g_if_ne hX 10 dX6_see_5 (by decide) (fun c5 => ?_) (fun c5 => ?_)
  · replace c5 := mt bI_0.mpr c5
    replace c5 := bNf c5
    refine g_aload_n hX dX6_see_10 0 rfl ?_
    refine g_get hX (v := .int (nI (mE M))) 0 inRX6 rfl rfl 6 rfl fl121 rfl rfl dX6_see_11 ?_
    refine g_bipush hX (nI 6) dX6_see_14 rfl ?_
    refine g_icmp_ne hX 22 dX6_see_16 (by decide) (fun c16 => ?_) (fun c16 => ?_)
    · replace c16 := mt (nI_eq (by omega) (by omega)).mpr c16
      refine g_aload_n hX dX6_see_22 0 rfl ?_
      refine g_get hX (v := .ref (a 4)) 0 inRX6 rfl rfl 7 rfl fl19 rfl rfl dX6_see_23 ?_
      refine g_iconst hX (nI 2) dX6_see_26 rfl ?_
      refine g_aload_n hX dX6_see_27 0 rfl ?_
      refine g_get hX (v := .int (nI (mE M))) 0 inRX6 rfl rfl 6 rfl fl121 rfl rfl dX6_see_28 ?_
      refine g_imul hX (nI (2 * (mE M))) dX6_see_31 (pk_mul _ _) ?_
      refine g_iload_n hX dX6_see_32 1 rfl ?_
      refine g_eq (show (mw E a M : va_W) = mw E a (mkMV (mT M) (mS M) (mA M) (mW M) (mK M) (mP M) (mE M) (mN M) (mX M) (mL M) (mI M) (mD M) (mR M) (mM M) (mO M) (mF M) (mU M) (mQ M) (mZ M) (mG M) (mH M)) from rfl) rfl rfl ?_
      refine g_iast hX (fun zz => nI ((va_up (mN M) (2 * (mE M)) s) zz)) (mw E a (mkMV (mT M) (mS M) (mA M) (mW M) (mK M) (mP M) (mE M) (va_up (mN M) (2 * (mE M)) s) (mX M) (mL M) (mI M) (mD M) (mR M) (mM M) (mO M) (mF M) (mU M) (mQ M) (mZ M) (mG M) (mH M))) 4 0 (atModel_4 _ _ _ _ _ _ _ _ _ _ _ _ _ _ _ _ _ _ _ _ _ _ _) rfl (vp_in_nI (by omega) (by omega)) (ast_n (by omega)) dX6_see_33 (stModel_4 _ _ _ _ _ _ _ _ _ _ _ _ _ _ _ _ _ _ _ _ _ _ _ _) ?_
      refine g_aload_n hX dX6_see_34 0 rfl ?_
      refine g_get hX (v := .ref (a 4)) 0 inRX6 (atModel_0 _ _ _ _ _ _ _ _ _ _ _ _ _ _ _ _ _ _ _ _ _ _ _) rfl 7 rfl fl19 rfl rfl dX6_see_35 ?_
      refine g_iconst hX (nI 2) dX6_see_38 rfl ?_
      refine g_aload_n hX dX6_see_39 0 rfl ?_
      refine g_get hX (v := .int (nI (mE M))) 0 inRX6 (atModel_0 _ _ _ _ _ _ _ _ _ _ _ _ _ _ _ _ _ _ _ _ _ _ _) rfl 6 rfl fl121 rfl rfl dX6_see_40 ?_
      refine g_imul hX (nI (2 * (mE M))) dX6_see_43 (pk_mul _ _) ?_
      refine g_iconst hX (nI 1) dX6_see_44 rfl ?_
      refine g_iadd hX (nI ((2 * (mE M)) + 1)) dX6_see_45 (nI_add _ _) ?_
      refine g_iload_n hX dX6_see_46 2 rfl ?_
      refine g_if_eq hX 54 dX6_see_47 (by decide) (fun c47 => ?_) (fun c47 => ?_)
      · replace c47 := bI_0.mp c47
        refine g_iconst hX (nI 0) dX6_see_54 rfl ?_
        refine g_iast hX (fun zz => nI ((va_up (va_up (mN M) (2 * (mE M)) s) ((2 * (mE M)) + 1) 0) zz)) (mw E a (mkMV (mT M) (mS M) (mA M) (mW M) (mK M) (mP M) (mE M) (va_up (va_up (mN M) (2 * (mE M)) s) ((2 * (mE M)) + 1) 0) (mX M) (mL M) (mI M) (mD M) (mR M) (mM M) (mO M) (mF M) (mU M) (mQ M) (mZ M) (mG M) (mH M))) 4 0 (atModel_4 _ _ _ _ _ _ _ _ _ _ _ _ _ _ _ _ _ _ _ _ _ _ _) rfl (vp_in_nI (by omega) (by omega)) (ast_n (by omega)) dX6_see_55 (stModel_4 _ _ _ _ _ _ _ _ _ _ _ _ _ _ _ _ _ _ _ _ _ _ _ _) ?_
        refine g_aload_n hX dX6_see_56 0 rfl ?_
        refine g_dup hX dX6_see_57 rfl ?_
        refine g_get hX (v := .int (nI (mE M))) 0 inRX6 (atModel_0 _ _ _ _ _ _ _ _ _ _ _ _ _ _ _ _ _ _ _ _ _ _ _) rfl 6 rfl fl121 rfl rfl dX6_see_58 ?_
        refine g_iconst hX (nI 1) dX6_see_61 rfl ?_
        refine g_iadd hX (nI ((mE M) + 1)) dX6_see_62 (nI_add _ _) ?_
        refine g_put hX (mw E a (mkMV (mT M) (mS M) (mA M) (mW M) (mK M) (mP M) ((mE M) + 1) (va_up (va_up (mN M) (2 * (mE M)) s) ((2 * (mE M)) + 1) 0) (mX M) (mL M) (mI M) (mD M) (mR M) (mM M) (mO M) (mF M) (mU M) (mQ M) (mZ M) (mG M) (mH M))) 0 inRX6 tyX6_ok nmX6 (atModel_0 _ _ _ _ _ _ _ _ _ _ _ _ _ _ _ _ _ _ _ _ _ _ _) rfl 6 rfl fl121 rfl rfl rfl rfl rfl dX6_see_63 (stModel_0_6 _ _ _ _ _ _ _ _ _ _ _ _ _ _ _ _ _ _ _ _ _ _ _ _) ?_
        refine g_aload_n hX dX6_see_66 0 rfl ?_
        refine g_get hX (v := .int (nI ((mE M) + 1))) 0 inRX6 (atModel_0 _ _ _ _ _ _ _ _ _ _ _ _ _ _ _ _ _ _ _ _ _ _ _) rfl 6 rfl fl121 rfl rfl dX6_see_67 ?_
        exact g_eq (by simp [c16, c47]) rfl rfl (hret () _ _ trivial dX6_see_70)
      · replace c47 := mt bI_0.mpr c47
        replace c47 := bNf c47
        refine g_iconst hX (nI 1) dX6_see_50 rfl ?_
        refine g_goto hX 55 dX6_see_51 (by decide) ?_
        refine g_iast hX (fun zz => nI ((va_up (va_up (mN M) (2 * (mE M)) s) ((2 * (mE M)) + 1) 1) zz)) (mw E a (mkMV (mT M) (mS M) (mA M) (mW M) (mK M) (mP M) (mE M) (va_up (va_up (mN M) (2 * (mE M)) s) ((2 * (mE M)) + 1) 1) (mX M) (mL M) (mI M) (mD M) (mR M) (mM M) (mO M) (mF M) (mU M) (mQ M) (mZ M) (mG M) (mH M))) 4 0 (atModel_4 _ _ _ _ _ _ _ _ _ _ _ _ _ _ _ _ _ _ _ _ _ _ _) rfl (vp_in_nI (by omega) (by omega)) (ast_n (by omega)) dX6_see_55 (stModel_4 _ _ _ _ _ _ _ _ _ _ _ _ _ _ _ _ _ _ _ _ _ _ _ _) ?_
        refine g_aload_n hX dX6_see_56 0 rfl ?_
        refine g_dup hX dX6_see_57 rfl ?_
        refine g_get hX (v := .int (nI (mE M))) 0 inRX6 (atModel_0 _ _ _ _ _ _ _ _ _ _ _ _ _ _ _ _ _ _ _ _ _ _ _) rfl 6 rfl fl121 rfl rfl dX6_see_58 ?_
        refine g_iconst hX (nI 1) dX6_see_61 rfl ?_
        refine g_iadd hX (nI ((mE M) + 1)) dX6_see_62 (nI_add _ _) ?_
        refine g_put hX (mw E a (mkMV (mT M) (mS M) (mA M) (mW M) (mK M) (mP M) ((mE M) + 1) (va_up (va_up (mN M) (2 * (mE M)) s) ((2 * (mE M)) + 1) 1) (mX M) (mL M) (mI M) (mD M) (mR M) (mM M) (mO M) (mF M) (mU M) (mQ M) (mZ M) (mG M) (mH M))) 0 inRX6 tyX6_ok nmX6 (atModel_0 _ _ _ _ _ _ _ _ _ _ _ _ _ _ _ _ _ _ _ _ _ _ _) rfl 6 rfl fl121 rfl rfl rfl rfl rfl dX6_see_63 (stModel_0_6 _ _ _ _ _ _ _ _ _ _ _ _ _ _ _ _ _ _ _ _ _ _ _ _) ?_
        refine g_aload_n hX dX6_see_66 0 rfl ?_
        refine g_get hX (v := .int (nI ((mE M) + 1))) 0 inRX6 (atModel_0 _ _ _ _ _ _ _ _ _ _ _ _ _ _ _ _ _ _ _ _ _ _ _) rfl 6 rfl fl121 rfl rfl dX6_see_67 ?_
        exact g_eq (by simp [c16, c47]) rfl rfl (hret () _ _ trivial dX6_see_70)
    · replace c16 := (nI_eq (by omega) (by omega)).mp c16
      omega
  · replace c5 := bI_0.mp c5
    exact absurd c5 (by simp)
set_option maxHeartbeats 4000000 in
set_option maxRecDepth 100000 in
theorem c_X6_forget (l : Launch) (E : EV) (a : Nat → Nat) (M : MV)  : KI l yX6_forget wsX6_forget (rmN 0) E (σ := Unit) [.ref (a 0)] (mw E a M) (fun _ => True) (fun _ => (nI (mE M))) (fun _ => mw E a (mkMV (mT M) (mS M) (mA M) (mW M) (mK M) (mP M) 0 (mN M) (mX M) (mL M) (mI M) (mD M) (mR M) (mM M) (mO M) (mF M) (mU M) (mQ M) (mZ M) (mG M) (mH M))) 0 0 := by
  refine KI.of (cc := cX6_forget) (maxL := 2) (ty := .int) (hnar := fun _ _ => rfl) rfl rfl rfl (fun x hX hin hret hnL => ?_)
  replace hX : CX x l cX6_forget RX6 wsX6_forget E (rmN 0) := hX
  show GG x 0 0 (mw E a M) 0 [(0, .ref (a 0))] []
  have inRX6 : ∀ w ∈ wsX60, w ∈ wsX6_forget := by decide +kernel
  have fl121 : Cond.fieldLink RX6 121 "LieForceModel" "sees" "I" ∈ wsX6_forget := by decide +kernel
  refine g_aload_n hX dX6_forget_0 0 rfl ?_
  refine g_get hX (v := .int (nI (mE M))) 0 inRX6 rfl rfl 6 rfl fl121 rfl rfl dX6_forget_1 ?_
  refine g_istore_n hX (j := 1) [(1, .int (nI (mE M))), (0, .ref (a 0))] dX6_forget_4 rfl (by rw [hnL]; rfl) rfl ?_
  refine g_aload_n hX dX6_forget_5 1 rfl ?_
  refine g_iconst hX (nI 0) dX6_forget_6 rfl ?_
  refine g_eq (show (mw E a M : va_W) = mw E a (mkMV (mT M) (mS M) (mA M) (mW M) (mK M) (mP M) (mE M) (mN M) (mX M) (mL M) (mI M) (mD M) (mR M) (mM M) (mO M) (mF M) (mU M) (mQ M) (mZ M) (mG M) (mH M)) from rfl) rfl rfl ?_
  refine g_put hX (mw E a (mkMV (mT M) (mS M) (mA M) (mW M) (mK M) (mP M) 0 (mN M) (mX M) (mL M) (mI M) (mD M) (mR M) (mM M) (mO M) (mF M) (mU M) (mQ M) (mZ M) (mG M) (mH M))) 0 inRX6 tyX6_ok nmX6 (atModel_0 _ _ _ _ _ _ _ _ _ _ _ _ _ _ _ _ _ _ _ _ _ _ _) rfl 6 rfl fl121 rfl rfl rfl rfl rfl dX6_forget_7 (stModel_0_6 _ _ _ _ _ _ _ _ _ _ _ _ _ _ _ _ _ _ _ _ _ _ _ _) ?_
  refine g_iload_n hX dX6_forget_10 0 rfl ?_
  exact g_eq rfl rfl rfl (hret () _ _ trivial dX6_forget_11)
