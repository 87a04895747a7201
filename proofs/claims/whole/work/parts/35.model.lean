set_option maxHeartbeats 4000000 in
set_option maxRecDepth 100000 in
theorem c_X6_year_n (l : Launch) (E : EV) (a : Nat → Nat) (M : MV) (C : FC) (m : Nat) (x0 : Int32) (x1 : Int32) (x2 : Int32) (hD : DI C m) (hm : m < 2 ^ 29) (hN1 : 1 ≤ cN C) (hS : RW C (mS M)) (hTm : cT C = mT M) (hx : (win x0 (nI 0) (nI 9999) && win x1 (nI 1) (nI 60) && win x2 (nI 0) (nI 1)) = false) : KI l yX6_year wsX6_year (rmN 6) E (σ := MV) [.ref (a 0), .int x0, .int x1, .int x2] (mw E a M) (fun u => KS M u) (fun u => (-1)) (fun u => mw E a u) 0 0 := by
  refine KI.of (cc := cX6_year) (maxL := 9) (ty := .int) (hnar := fun _ _ => rfl) rfl rfl rfl (fun x hX hin hret hnL => ?_)
  replace hX : CX x l cX6_year RX6 wsX6_year E (rmN 6) := hX
  show GG x 0 0 (mw E a M) 0 [(0, .ref (a 0)), (1, .int x0), (2, .int x1), (3, .int x2)] []
  obtain ⟨hC, hVY, hZ, hYm⟩ := id hD
  obtain ⟨⟨h9, h64, h512, hT, hI⟩, hK⟩ := id hC
  have hV := DI_VB hD (by omega)
  refine g_iload_n hX dX6_year_0 1 rfl ?_
  refine g_iconst hX (nI 0) dX6_year_1 rfl ?_
  refine g_sipush hX (nI 9999) dX6_year_2 rfl ?_
  have hc5 : CUT (mw E a M) (([] : va_W)) (mw E a M) [] [0, 1, 2, 3, 4, 5, 6, 7, 8, 9, 10, 11, 12] := ⟨rfl, rfl, rfl, rfl, rfl⟩
  refine g_TI hX hc5 [.int x0, .int (nI 0), .int (nI 9999)] [] (c_X6_in l E x0 (nI 0) (nI 9999)) gX6_year_X6_in calX6_in rfl rfl rfl rfl dX6_year_5 rfl ⟨Nat.zero_le _, Nat.zero_le _⟩ (fun _ => mw E a M) [0, 1, 2, 3, 4, 5, 6, 7, 8, 9, 10, 11, 12] rfl (fun _ => rfl) (fun _ hu5 => ?_)
  refine g_if_eq hX 30 dX6_year_8 (by decide) (fun c8 => ?_) (fun c8 => ?_)
  · replace c8 := bI_0.mp c8
    refine g_iconst hX ((-1)) dX6_year_30 rfl ?_
    exact g_eq rfl rfl rfl (hret M _ _ (⟨⟨rfl, rfl, rfl, rfl, rfl, rfl, rfl⟩, ⟨rfl, rfl⟩, rfl⟩) dX6_year_31)
  · replace c8 := mt bI_0.mpr c8
    replace c8 := bNf c8
    refine g_iload_n hX dX6_year_11 2 rfl ?_
    refine g_iconst hX (nI 1) dX6_year_12 rfl ?_
    refine g_bipush hX (nI 60) dX6_year_13 rfl ?_
    have hc15 : CUT (mw E a M) (([] : va_W)) (mw E a M) [] [0, 1, 2, 3, 4, 5, 6, 7, 8, 9, 10, 11, 12] := ⟨rfl, rfl, rfl, rfl, rfl⟩
    refine g_TI hX hc15 [.int x1, .int (nI 1), .int (nI 60)] [] (c_X6_in l E x1 (nI 1) (nI 60)) gX6_year_X6_in calX6_in rfl rfl rfl rfl dX6_year_15 rfl ⟨Nat.zero_le _, Nat.zero_le _⟩ (fun _ => mw E a M) [0, 1, 2, 3, 4, 5, 6, 7, 8, 9, 10, 11, 12] rfl (fun _ => rfl) (fun _ hu15 => ?_)
    refine g_if_eq hX 30 dX6_year_18 (by decide) (fun c18 => ?_) (fun c18 => ?_)
    · replace c18 := bI_0.mp c18
      refine g_iconst hX ((-1)) dX6_year_30 rfl ?_
      exact g_eq rfl rfl rfl (hret M _ _ (⟨⟨rfl, rfl, rfl, rfl, rfl, rfl, rfl⟩, ⟨rfl, rfl⟩, rfl⟩) dX6_year_31)
    · replace c18 := mt bI_0.mpr c18
      replace c18 := bNf c18
      refine g_iload_n hX dX6_year_21 3 rfl ?_
      refine g_iconst hX (nI 0) dX6_year_22 rfl ?_
      refine g_iconst hX (nI 1) dX6_year_23 rfl ?_
      have hc24 : CUT (mw E a M) (([] : va_W)) (mw E a M) [] [0, 1, 2, 3, 4, 5, 6, 7, 8, 9, 10, 11, 12] := ⟨rfl, rfl, rfl, rfl, rfl⟩
      refine g_TI hX hc24 [.int x2, .int (nI 0), .int (nI 1)] [] (c_X6_in l E x2 (nI 0) (nI 1)) gX6_year_X6_in calX6_in rfl rfl rfl rfl dX6_year_24 rfl ⟨Nat.zero_le _, Nat.zero_le _⟩ (fun _ => mw E a M) [0, 1, 2, 3, 4, 5, 6, 7, 8, 9, 10, 11, 12] rfl (fun _ => rfl) (fun _ hu24 => ?_)
      refine g_if_ne hX 32 dX6_year_27 (by decide) (fun c27 => ?_) (fun c27 => ?_)
      · replace c27 := mt bI_0.mpr c27
        replace c27 := bNf c27
        rw [c8, c18, c27] at hx; cases hx
      · replace c27 := bI_0.mp c27
        refine g_iconst hX ((-1)) dX6_year_30 rfl ?_
        exact g_eq rfl rfl rfl (hret M _ _ (⟨⟨rfl, rfl, rfl, rfl, rfl, rfl, rfl⟩, ⟨rfl, rfl⟩, rfl⟩) dX6_year_31)
set_option maxHeartbeats 4000000 in
set_option maxRecDepth 100000 in
theorem c_X6_year_y (l : Launch) (E : EV) (a : Nat → Nat) (M : MV) (C : FC) (m : Nat) (ye : Nat) (n : Nat) (p : Nat) (hD : DI C m) (hm : m < 2 ^ 29) (hN1 : 1 ≤ cN C) (hS : RW C (mS M)) (hTm : cT C = mT M) (hye : ye ≤ 9999) (hn1 : 1 ≤ n) (hn2 : n ≤ 60) (hp : p ≤ 1) : KI l yX6_year wsX6_year (rmN 6) E (σ := MV) [.ref (a 0), .int (nI ye), .int (nI n), .int (nI p)] (mw E a M) (fun u => KS M u) (fun u => (nI (if p = 0 then pop (lieM (yeN C ye n).1 (cF (yeN C ye n).1)) else (yeN C ye n).2))) (fun u => mw E a u) 0 0 := by
  refine KI.of (cc := cX6_year) (maxL := 9) (ty := .int) (hnar := fun _ _ => rfl) rfl rfl rfl (fun x hX hin hret hnL => ?_)
  replace hX : CX x l cX6_year RX6 wsX6_year E (rmN 6) := hX
  show GG x 0 0 (mw E a M) 0 [(0, .ref (a 0)), (1, .int (nI ye)), (2, .int (nI n)), (3, .int (nI p))] []
  have inRX6 : ∀ w ∈ wsX60, w ∈ wsX6_year := by decide +kernel
  have fl143 : Cond.fieldLink RX6 143 "LieForceModel" "fallen" "I" ∈ wsX6_year := by decide +kernel
  have fl31 : Cond.fieldLink RX6 31 "LieForceModel" "now" "[I" ∈ wsX6_year := by decide +kernel
  obtain ⟨hC, hVY, hZ, hYm⟩ := id hD
  obtain ⟨⟨h9, h64, h512, hT, hI⟩, hK⟩ := id hC
  have hV := DI_VB hD (by omega)
  refine g_iload_n hX dX6_year_0 1 rfl ?_
  refine g_iconst hX (nI 0) dX6_year_1 rfl ?_
  refine g_sipush hX (nI 9999) dX6_year_2 rfl ?_
  have hc5 : CUT (mw E a M) (([] : va_W)) (mw E a M) [] [0, 1, 2, 3, 4, 5, 6, 7, 8, 9, 10, 11, 12] := ⟨rfl, rfl, rfl, rfl, rfl⟩
  refine g_TI hX hc5 [.int (nI ye), .int (nI 0), .int (nI 9999)] [] (c_X6_in_y l E ye 0 9999 (by omega) (by omega) (by omega)) gX6_year_X6_in calX6_in rfl rfl rfl rfl dX6_year_5 rfl ⟨Nat.zero_le _, Nat.zero_le _⟩ (fun _ => mw E a M) [0, 1, 2, 3, 4, 5, 6, 7, 8, 9, 10, 11, 12] rfl (fun _ => rfl) (fun _ hu5 => ?_)
  refine g_if_eq hX 30 dX6_year_8 (by decide) (fun c8 => ?_) (fun c8 => ?_)
  · replace c8 := bI_0.mp c8
    exact absurd c8 (by simp)
  · replace c8 := mt bI_0.mpr c8
    replace c8 := bNf c8
    refine g_iload_n hX dX6_year_11 2 rfl ?_
    refine g_iconst hX (nI 1) dX6_year_12 rfl ?_
    refine g_bipush hX (nI 60) dX6_year_13 rfl ?_
    have hc15 : CUT (mw E a M) (([] : va_W)) (mw E a M) [] [0, 1, 2, 3, 4, 5, 6, 7, 8, 9, 10, 11, 12] := ⟨rfl, rfl, rfl, rfl, rfl⟩
    refine g_TI hX hc15 [.int (nI n), .int (nI 1), .int (nI 60)] [] (c_X6_in_y l E n 1 60 (by omega) (by omega) (by omega)) gX6_year_X6_in calX6_in rfl rfl rfl rfl dX6_year_15 rfl ⟨Nat.zero_le _, Nat.zero_le _⟩ (fun _ => mw E a M) [0, 1, 2, 3, 4, 5, 6, 7, 8, 9, 10, 11, 12] rfl (fun _ => rfl) (fun _ hu15 => ?_)
    refine g_if_eq hX 30 dX6_year_18 (by decide) (fun c18 => ?_) (fun c18 => ?_)
    · replace c18 := bI_0.mp c18
      exact absurd c18 (by simp)
    · replace c18 := mt bI_0.mpr c18
      replace c18 := bNf c18
      refine g_iload_n hX dX6_year_21 3 rfl ?_
      refine g_iconst hX (nI 0) dX6_year_22 rfl ?_
      refine g_iconst hX (nI 1) dX6_year_23 rfl ?_
      have hc24 : CUT (mw E a M) (([] : va_W)) (mw E a M) [] [0, 1, 2, 3, 4, 5, 6, 7, 8, 9, 10, 11, 12] := ⟨rfl, rfl, rfl, rfl, rfl⟩
      refine g_TI hX hc24 [.int (nI p), .int (nI 0), .int (nI 1)] [] (c_X6_in_y l E p 0 1 (by omega) (by omega) (by omega)) gX6_year_X6_in calX6_in rfl rfl rfl rfl dX6_year_24 rfl ⟨Nat.zero_le _, Nat.zero_le _⟩ (fun _ => mw E a M) [0, 1, 2, 3, 4, 5, 6, 7, 8, 9, 10, 11, 12] rfl (fun _ => rfl) (fun _ hu24 => ?_)
      refine g_if_ne hX 32 dX6_year_27 (by decide) (fun c27 => ?_) (fun c27 => ?_)
      · replace c27 := mt bI_0.mpr c27
        replace c27 := bNf c27
        refine g_aload_n hX dX6_year_32 0 rfl ?_
        have hc33 : CUT (mw E a M) (mw E a M) (([] : va_W)) [0, 1, 2, 3, 4, 5, 6, 7, 8, 9, 10, 11, 12] [] := ⟨rfl, rfl, rfl, rfl, rfl⟩
        refine g_VV hX hc33 [] [] (c_X6_asItIs l E a M) gX6_year_X6_asItIs calX6_asItIs rfl rfl rfl rfl 0 rfl rfl rfl rfl dX6_year_33 rfl ⟨Nat.zero_le _, Nat.zero_le _⟩ (fun _ => mw E a (mkMV (mT M) (mS M) (mA M) (mW M) (mK M) (mP M) (mE M) (mN M) (mX M) (mL M) (mI M) (mD M) (mR M) (mM M) (cpR ((mO M)) ((mS M)) 0 0) (mF M) (mU M) (mQ M) (mZ M) (mG M) (mH M))) [0, 1, 2, 3, 4, 5, 6, 7, 8, 9, 10, 11, 12] rfl (fun _ => rfl) (fun _ hu33 => ?_)
        refine g_aload_n hX dX6_year_36 0 rfl ?_
        refine g_iconst hX (nI 0) dX6_year_37 rfl ?_
        refine g_put hX (mw E a (mkMV (mT M) (mS M) (mA M) (mW M) (mK M) (mP M) (mE M) (mN M) (mX M) (mL M) (mI M) (mD M) (mR M) (mM M) (cpR ((mO M)) ((mS M)) 0 0) (mF M) 0 (mQ M) (mZ M) (mG M) (mH M))) 0 inRX6 tyX6_ok nmX6 (atModel_0 _ _ _ _ _ _ _ _ _ _ _ _ _ _ _ _ _ _ _ _ _ _ _) rfl 16 rfl fl143 rfl rfl rfl rfl rfl dX6_year_38 (stModel_0_16 _ _ _ _ _ _ _ _ _ _ _ _ _ _ _ _ _ _ _ _ _ _ _ _) ?_
        refine g_iconst hX (nI 0) dX6_year_41 rfl ?_
        refine g_istore hX (j := 4) [(4, .int (nI 0)), (0, .ref (a 0)), (1, .int (nI ye)), (2, .int (nI n)), (3, .int (nI p))] dX6_year_42 (by rw [hnL]; rfl) rfl ?_
        have lp44 : ∀ (fuel : Nat) (k : Nat) (z : Nat → Int32) (f : Int32) (fu : Nat), n - k < fuel → (k ≤ n) → (RW (yeN C ye k).1 z) → (fu = (yeN C ye k).2) → GG x 0 0 (mw E a (mkMV (mT M) (mS M) (mA M) (mW M) (mK M) (mP M) (mE M) (mN M) (mX M) (mL M) (mI M) (mD M) (mR M) (mM M) z f fu (mQ M) (mZ M) (mG M) (mH M))) 44 [(0, .ref (a 0)), (1, .int (nI ye)), (2, .int (nI n)), (3, .int (nI p)), (4, .int (nI k))] [] := by
          intro fuel
          induction fuel with
          | zero => intro k z f fu hm; exact absurd hm (Nat.not_lt_zero _)
          | succ fuel ih44 =>
            intro k z f fu hm44 hk hz hfu
            obtain ⟨hDk, hNk, hTk⟩ := ye_all (z := ye) hN1 hD k
            have hdl := drw_lt ye k
            refine g_iload hX dX6_year_44 4 rfl ?_
            refine g_iload_n hX dX6_year_46 2 rfl ?_
            refine g_icmp_ge hX 160 dX6_year_47 (by decide) (fun c47 => ?_) (fun c47 => ?_)
            · replace c47 := (nI_leI (by omega) (by omega)).mp c47
              refine g_iload_n hX dX6_year_160 3 rfl ?_
              refine g_if_ne hX 174 dX6_year_161 (by decide) (fun c161 => ?_) (fun c161 => ?_)
              · replace c161 := mt (nz_eq (by omega)).mpr c161
                refine g_aload_n hX dX6_year_174 0 rfl ?_
                refine g_get hX (v := .int (nI fu)) 0 inRX6 (atModel_0 _ _ _ _ _ _ _ _ _ _ _ _ _ _ _ _ _ _ _ _ _ _ _) rfl 16 rfl fl143 rfl rfl dX6_year_175 ?_
                exact g_eq rfl rfl (congrArg (fun z => [Value.int z]) (congrArg nI (by rw [show n = k by omega]; first | (rw [if_pos c161]) | (rw [if_neg c161, hfu])))) (hret (mkMV (mT M) (mS M) (mA M) (mW M) (mK M) (mP M) (mE M) (mN M) (mX M) (mL M) (mI M) (mD M) (mR M) (mM M) z f fu (mQ M) (mZ M) (mG M) (mH M)) _ _ (⟨⟨rfl, rfl, rfl, rfl, rfl, rfl, rfl⟩, ⟨rfl, rfl⟩, rfl⟩) dX6_year_178)
              · replace c161 := (nz_eq (by omega)).mp c161
                refine g_aload_n hX dX6_year_164 0 rfl ?_
                have hc165 : CUT (mw E a (mkMV (mT M) (mS M) (mA M) (mW M) (mK M) (mP M) (mE M) (mN M) (mX M) (mL M) (mI M) (mD M) (mR M) (mM M) z f fu (mQ M) (mZ M) (mG M) (mH M))) (mw E a (mkMV (mT M) (mS M) (mA M) (mW M) (mK M) (mP M) (mE M) (mN M) (mX M) (mL M) (mI M) (mD M) (mR M) (mM M) z f fu (mQ M) (mZ M) (mG M) (mH M))) (([] : va_W)) [0, 1, 2, 3, 4, 5, 6, 7, 8, 9, 10, 11, 12] [] := ⟨rfl, rfl, rfl, rfl, rfl⟩
                refine g_VI hX hc165 [] [] (c_X6_police l E a (mkMV (mT M) (mS M) (mA M) (mW M) (mK M) (mP M) (mE M) (mN M) (mX M) (mL M) (mI M) (mD M) (mR M) (mM M) z f fu (mQ M) (mZ M) (mG M) (mH M)) ((yeN C ye k).1) hDk.1 hz (DI_VB hDk (by omega))) gX6_year_X6_police calX6_police rfl rfl rfl rfl 0 rfl rfl rfl rfl dX6_year_165 rfl ⟨Nat.zero_le _, Nat.zero_le _⟩ (fun _ => mw E a (mkMV (mT M) (mS M) (mA M) (mW M) (mK M) (mP M) (mE M) (mN M) (mX M) (mL M) (mI M) (mD M) (mR M) (mM M) z f fu (mQ M) (mZ M) (mG M) (mH M))) [0, 1, 2, 3, 4, 5, 6, 7, 8, 9, 10, 11, 12] rfl (fun _ => rfl) (fun _ hu165 => ?_)
                have hc168 : CUT (mw E a (mkMV (mT M) (mS M) (mA M) (mW M) (mK M) (mP M) (mE M) (mN M) (mX M) (mL M) (mI M) (mD M) (mR M) (mM M) z f fu (mQ M) (mZ M) (mG M) (mH M))) (([] : va_W)) (mw E a (mkMV (mT M) (mS M) (mA M) (mW M) (mK M) (mP M) (mE M) (mN M) (mX M) (mL M) (mI M) (mD M) (mR M) (mM M) z f fu (mQ M) (mZ M) (mG M) (mH M))) [] [0, 1, 2, 3, 4, 5, 6, 7, 8, 9, 10, 11, 12] := ⟨rfl, rfl, rfl, rfl, rfl⟩
                refine g_TI hX hc168 [.int (nI (lieM ((yeN C ye k).1) (cF ((yeN C ye k).1))))] [] (c_X6_bits l E (lieM ((yeN C ye k).1) (cF ((yeN C ye k).1))) (lieM_lt (by omega) _)) gX6_year_X6_bits calX6_bits rfl rfl rfl rfl dX6_year_168 rfl ⟨Nat.zero_le _, Nat.zero_le _⟩ (fun _ => mw E a (mkMV (mT M) (mS M) (mA M) (mW M) (mK M) (mP M) (mE M) (mN M) (mX M) (mL M) (mI M) (mD M) (mR M) (mM M) z f fu (mQ M) (mZ M) (mG M) (mH M))) [0, 1, 2, 3, 4, 5, 6, 7, 8, 9, 10, 11, 12] rfl (fun _ => rfl) (fun _ hu168 => ?_)
                refine g_goto hX 178 dX6_year_171 (by decide) ?_
                exact g_eq rfl rfl (congrArg (fun z => [Value.int z]) (congrArg nI (by rw [show n = k by omega]; first | (rw [if_pos c161]) | (rw [if_neg c161, hfu])))) (hret (mkMV (mT M) (mS M) (mA M) (mW M) (mK M) (mP M) (mE M) (mN M) (mX M) (mL M) (mI M) (mD M) (mR M) (mM M) z f fu (mQ M) (mZ M) (mG M) (mH M)) _ _ (⟨⟨rfl, rfl, rfl, rfl, rfl, rfl, rfl⟩, ⟨rfl, rfl⟩, rfl⟩) dX6_year_178)
            · replace c47 := mt (nI_leI (by omega) (by omega)).mpr c47
              refine g_ldc2 hX (v := lN 7919) dX6_year_50 (by decide +kernel) ?_
              refine g_iload_n hX dX6_year_53 1 rfl ?_
              refine g_i2l hX (lN ye) dX6_year_54 (nI_l (by omega)) ?_
              refine g_lmul hX (lN (7919 * ye)) dX6_year_55 (lN_mul _ _) ?_
              refine g_ldc2 hX (v := lN 6151) dX6_year_56 (by decide +kernel) ?_
              refine g_iload hX dX6_year_59 4 rfl ?_
              refine g_i2l hX (lN k) dX6_year_61 (nI_l (by omega)) ?_
              refine g_lmul hX (lN (6151 * k)) dX6_year_62 (lN_mul _ _) ?_
              refine g_ladd hX (lN ((7919 * ye) + (6151 * k))) dX6_year_63 (lN_add _ _) ?_
              refine g_lconst hX (lN 1) dX6_year_64 rfl ?_
              refine g_ladd hX (lN (((7919 * ye) + (6151 * k)) + 1)) dX6_year_65 (lN_add _ _) ?_
              refine g_lstore hX (j := 5) [(5, .long (lN (((7919 * ye) + (6151 * k)) + 1))), (0, .ref (a 0)), (1, .int (nI ye)), (2, .int (nI n)), (3, .int (nI p)), (4, .int (nI k))] dX6_year_66 (by rw [hnL]; rfl) rfl ?_
              refine g_lload hX dX6_year_68 0 rfl ?_
              refine g_lload hX dX6_year_70 0 rfl ?_
              refine g_lmul hX (lN ((((7919 * ye) + (6151 * k)) + 1) * (((7919 * ye) + (6151 * k)) + 1))) dX6_year_72 (lN_mul _ _) ?_
              refine g_ldc2 hX (v := lN 65521) dX6_year_73 (by decide +kernel) ?_
              have hx2 : (7919 * ye + 6151 * k + 1) * (7919 * ye + 6151 * k + 1) < 2 ^ 63 := by have h : 7919 * ye + 6151 * k + 1 < 2 ^ 30 := (by omega); exact Nat.lt_of_lt_of_le (Nat.mul_lt_mul'' h h) (by decide)
              refine g_lrem hX (lN (((((7919 * ye) + (6151 * k)) + 1) * (((7919 * ye) + (6151 * k)) + 1)) % 65521)) dX6_year_76 (by decide) (pk_lRem (by first | exact hx2 | decide) (by first | exact hx2 | decide) (by first | exact hx2 | decide)) ?_
              refine g_l2i hX (nI (((((7919 * ye) + (6151 * k)) + 1) * (((7919 * ye) + (6151 * k)) + 1)) % 65521)) dX6_year_77 (lN_i _) ?_
              refine g_eq (st' := [.int (nI (drw ye k))]) rfl rfl (congrArg (fun z => Value.int z :: ([] : List Value)) (rfl : nI (drw ye k) = _)) ?_
              refine g_istore hX (j := 7) [(7, .int (nI (drw ye k))), (5, .long (lN (((7919 * ye) + (6151 * k)) + 1))), (0, .ref (a 0)), (1, .int (nI ye)), (2, .int (nI n)), (3, .int (nI p)), (4, .int (nI k))] dX6_year_78 (by rw [hnL]; rfl) rfl ?_
              refine g_iload hX dX6_year_80 0 rfl ?_
              refine g_bipush hX (nI 8) dX6_year_82 rfl ?_
              refine g_idiv hX (nI ((drw ye k) / 8)) dX6_year_84 (nI_ne0 (by omega) (by omega)) (pk_div (by omega) (by omega) (by omega)) ?_
              refine g_iconst hX (nI 3) dX6_year_85 rfl ?_
              refine g_irem hX (nI (((drw ye k) / 8) % 3)) dX6_year_86 (nI_ne0 (by omega) (by omega)) (pk_rem (by omega) (by omega) (by omega)) ?_
              refine g_if_ne hX 110 dX6_year_87 (by decide) (fun c87 => ?_) (fun c87 => ?_)
              · replace c87 := mt (nz_eq (by omega)).mpr c87
                have lp110 : ∀  (D : FC) (w : Nat → Int32), (RW D w) → (DI D (m + k)) → (cN D = cN C) → (cT D = cT C) → (drawC (yeN C ye k).1 (drw ye k) = (if (drw ye k) / 1024 % 5 = 0 ∧ cwB D ((drw ye k) / 64 % cN D) = true then toC D ((drw ye k) / 64 % cN D) else D)) → GG x 0 0 (mw E a (mkMV (mT M) (mS M) (mA M) (mW M) (mK M) (mP M) (mE M) (mN M) (mX M) (mL M) (mI M) (mD M) (mR M) (mM M) w f fu (mQ M) (mZ M) (mG M) (mH M))) 110 [(0, .ref (a 0)), (1, .int (nI ye)), (2, .int (nI n)), (3, .int (nI p)), (4, .int (nI k)), (7, .int (nI (drw ye k)))] [] := by
                  intro D w hw hDD hDN hDT hdr
                  have hDC := hDD.1
                  have hD9 := hDC.1.1
                  have hDV := DI_VB hDD (by omega)
                  have hix : ((drw ye k) / 64 % cN D) < cN D := Nat.mod_lt _ (by omega)
                  refine g_iload hX dX6_year_110 5 rfl ?_
                  refine g_bipush hX (nI 64) dX6_year_112 rfl ?_
                  refine g_idiv hX (nI ((drw ye k) / 64)) dX6_year_114 (nI_ne0 (by omega) (by omega)) (pk_div (by omega) (by omega) (by omega)) ?_
                  refine g_aload_n hX dX6_year_115 0 rfl ?_
                  refine g_get hX (v := .ref (a 8)) 0 inRX6 (atModel_0 _ _ _ _ _ _ _ _ _ _ _ _ _ _ _ _ _ _ _ _ _ _ _) rfl 14 rfl fl31 rfl rfl dX6_year_116 ?_
                  refine g_iconst hX (nI 2) dX6_year_119 rfl ?_
                  refine g_iald hX (nI (cN D)) 8 0 (atModel_8 _ _ _ _ _ _ _ _ _ _ _ _ _ _ _ _ _ _ _ _ _ _ _) rfl (vp_in_nI (by omega) (by omega)) ((ald_n (g := fun zz => (w) zz) (i := 2) (by omega)).trans (RB_N hw.1)) dX6_year_120 ?_
                  refine g_irem hX (nI (((drw ye k) / 64) % (cN D))) dX6_year_121 (nI_ne0 (by omega) (by omega)) (pk_rem (by omega) (by omega) (by omega)) ?_
                  refine g_istore hX (j := 8) [(8, .int (nI (((drw ye k) / 64) % (cN D)))), (0, .ref (a 0)), (1, .int (nI ye)), (2, .int (nI n)), (3, .int (nI p)), (4, .int (nI k)), (7, .int (nI (drw ye k)))] dX6_year_122 (by rw [hnL]; rfl) rfl ?_
                  refine g_iload hX dX6_year_124 6 rfl ?_
                  refine g_sipush hX (nI 1024) dX6_year_126 rfl ?_
                  refine g_idiv hX (nI ((drw ye k) / 1024)) dX6_year_129 (nI_ne0 (by omega) (by omega)) (pk_div (by omega) (by omega) (by omega)) ?_
                  refine g_iconst hX (nI 5) dX6_year_130 rfl ?_
                  refine g_irem hX (nI (((drw ye k) / 1024) % 5)) dX6_year_131 (nI_ne0 (by omega) (by omega)) (pk_rem (by omega) (by omega) (by omega)) ?_
                  refine g_if_ne hX 150 dX6_year_132 (by decide) (fun c132 => ?_) (fun c132 => ?_)
                  · replace c132 := mt (nz_eq (by omega)).mpr c132
                    have lp150 : ∀  (D2 : FC) (w2 : Nat → Int32), (RW D2 w2) → (DI D2 (m + k)) → (cT D2 = cT C) → (drawC (yeN C ye k).1 (drw ye k) = D2) → GG x 0 0 (mw E a (mkMV (mT M) (mS M) (mA M) (mW M) (mK M) (mP M) (mE M) (mN M) (mX M) (mL M) (mI M) (mD M) (mR M) (mM M) w2 f fu (mQ M) (mZ M) (mG M) (mH M))) 150 [(0, .ref (a 0)), (1, .int (nI ye)), (2, .int (nI n)), (3, .int (nI p)), (4, .int (nI k))] [] := by
                      intro D2 w2 hw2 hDD2 hDT2 hd2
                      refine g_aload_n hX dX6_year_150 0 rfl ?_
                      have hc151 : CUT (mw E a (mkMV (mT M) (mS M) (mA M) (mW M) (mK M) (mP M) (mE M) (mN M) (mX M) (mL M) (mI M) (mD M) (mR M) (mM M) w2 f fu (mQ M) (mZ M) (mG M) (mH M))) (mw E a (mkMV (mT M) (mS M) (mA M) (mW M) (mK M) (mP M) (mE M) (mN M) (mX M) (mL M) (mI M) (mD M) (mR M) (mM M) w2 f fu (mQ M) (mZ M) (mG M) (mH M))) (([] : va_W)) [0, 1, 2, 3, 4, 5, 6, 7, 8, 9, 10, 11, 12] [] := ⟨rfl, rfl, rfl, rfl, rfl⟩
                      refine g_VV hX hc151 [] [] (c_X6_goes l E a (mkMV (mT M) (mS M) (mA M) (mW M) (mK M) (mP M) (mE M) (mN M) (mX M) (mL M) (mI M) (mD M) (mR M) (mM M) w2 f fu (mQ M) (mZ M) (mG M) (mH M)) D2 hDD2.1 hw2 (DI_VB hDD2 (by omega)) (DI_VB1 hDD2 (by omega)) (hDT2.trans hTm)) gX6_year_X6_goes calX6_goes rfl rfl rfl rfl 0 rfl rfl rfl rfl dX6_year_151 rfl ⟨Nat.zero_le _, Nat.zero_le _⟩ (fun u151 => mw E a (mkMV (mT M) (mS M) (mA M) (mW M) (mK M) (mP M) (mE M) (mN M) (mX M) (mL M) (mI M) (mD M) (mR M) (mM M) u151 (ffV (serC D2) (cN D2)) (fu + (passC D2).2) (mQ M) (mZ M) (mG M) (mH M))) [0, 1, 2, 3, 4, 5, 6, 7, 8, 9, 10, 11, 12] rfl (fun _ => rfl) (fun u151 hu151 => ?_)
                      refine g_iinc hX (j := 4) (nI (k + 1)) [(4, .int (nI (k + 1))), (0, .ref (a 0)), (1, .int (nI ye)), (2, .int (nI n)), (3, .int (nI p))] dX6_year_154 4 rfl (iinc_n _ _) (by rw [hnL]; rfl) rfl ?_
                      refine g_goto hX 44 dX6_year_157 (by decide) ?_
                      exact g_lv _ [1, 2, 3, 4, 0] rfl (ih44 (k + 1) u151 (ffV (serC D2) (cN D2)) (fu + (passC D2).2) (by omega) (by omega) (by rw [yeN, hd2]; exact hu151) (by rw [yeN, hd2, hfu]))
                    exact g_lv _ [1, 2, 3, 4, 5] rfl (lp150 D w  hw hDD hDT (hdr.trans (if_neg fun q => c132 q.1)))
                  · replace c132 := (nz_eq (by omega)).mp c132
                    refine g_aload_n hX dX6_year_135 1 rfl ?_
                    refine g_iload hX dX6_year_136 0 rfl ?_
                    have hc138 : CUT (mw E a (mkMV (mT M) (mS M) (mA M) (mW M) (mK M) (mP M) (mE M) (mN M) (mX M) (mL M) (mI M) (mD M) (mR M) (mM M) w f fu (mQ M) (mZ M) (mG M) (mH M))) (mw E a (mkMV (mT M) (mS M) (mA M) (mW M) (mK M) (mP M) (mE M) (mN M) (mX M) (mL M) (mI M) (mD M) (mR M) (mM M) w f fu (mQ M) (mZ M) (mG M) (mH M))) (([] : va_W)) [0, 1, 2, 3, 4, 5, 6, 7, 8, 9, 10, 11, 12] [] := ⟨rfl, rfl, rfl, rfl, rfl⟩
                    refine g_VI hX hc138 [.int (nI (((drw ye k) / 64) % (cN D)))] [] (c_X6_canBeWithdrawn l E a (mkMV (mT M) (mS M) (mA M) (mW M) (mK M) (mP M) (mE M) (mN M) (mX M) (mL M) (mI M) (mD M) (mR M) (mM M) w f fu (mQ M) (mZ M) (mG M) (mH M)) D (((drw ye k) / 64) % (cN D)) hDC hw hDV (hDT.trans hTm) hix) gX6_year_X6_canBeWithdrawn calX6_canBeWithdrawn rfl rfl rfl rfl 0 rfl rfl rfl rfl dX6_year_138 rfl ⟨Nat.zero_le _, Nat.zero_le _⟩ (fun _ => mw E a (mkMV (mT M) (mS M) (mA M) (mW M) (mK M) (mP M) (mE M) (mN M) (mX M) (mL M) (mI M) (mD M) (mR M) (mM M) w f fu (mQ M) (mZ M) (mG M) (mH M))) [0, 1, 2, 3, 4, 5, 6, 7, 8, 9, 10, 11, 12] rfl (fun _ => rfl) (fun _ hu138 => ?_)
                    refine g_if_eq hX 150 dX6_year_141 (by decide) (fun c141 => ?_) (fun c141 => ?_)
                    · replace c141 := bI_0.mp c141
                      have lp150 : ∀  (D2 : FC) (w2 : Nat → Int32), (RW D2 w2) → (DI D2 (m + k)) → (cT D2 = cT C) → (drawC (yeN C ye k).1 (drw ye k) = D2) → GG x 0 0 (mw E a (mkMV (mT M) (mS M) (mA M) (mW M) (mK M) (mP M) (mE M) (mN M) (mX M) (mL M) (mI M) (mD M) (mR M) (mM M) w2 f fu (mQ M) (mZ M) (mG M) (mH M))) 150 [(0, .ref (a 0)), (1, .int (nI ye)), (2, .int (nI n)), (3, .int (nI p)), (4, .int (nI k))] [] := by
                        intro D2 w2 hw2 hDD2 hDT2 hd2
                        refine g_aload_n hX dX6_year_150 0 rfl ?_
                        have hc151 : CUT (mw E a (mkMV (mT M) (mS M) (mA M) (mW M) (mK M) (mP M) (mE M) (mN M) (mX M) (mL M) (mI M) (mD M) (mR M) (mM M) w2 f fu (mQ M) (mZ M) (mG M) (mH M))) (mw E a (mkMV (mT M) (mS M) (mA M) (mW M) (mK M) (mP M) (mE M) (mN M) (mX M) (mL M) (mI M) (mD M) (mR M) (mM M) w2 f fu (mQ M) (mZ M) (mG M) (mH M))) (([] : va_W)) [0, 1, 2, 3, 4, 5, 6, 7, 8, 9, 10, 11, 12] [] := ⟨rfl, rfl, rfl, rfl, rfl⟩
                        refine g_VV hX hc151 [] [] (c_X6_goes l E a (mkMV (mT M) (mS M) (mA M) (mW M) (mK M) (mP M) (mE M) (mN M) (mX M) (mL M) (mI M) (mD M) (mR M) (mM M) w2 f fu (mQ M) (mZ M) (mG M) (mH M)) D2 hDD2.1 hw2 (DI_VB hDD2 (by omega)) (DI_VB1 hDD2 (by omega)) (hDT2.trans hTm)) gX6_year_X6_goes calX6_goes rfl rfl rfl rfl 0 rfl rfl rfl rfl dX6_year_151 rfl ⟨Nat.zero_le _, Nat.zero_le _⟩ (fun u151 => mw E a (mkMV (mT M) (mS M) (mA M) (mW M) (mK M) (mP M) (mE M) (mN M) (mX M) (mL M) (mI M) (mD M) (mR M) (mM M) u151 (ffV (serC D2) (cN D2)) (fu + (passC D2).2) (mQ M) (mZ M) (mG M) (mH M))) [0, 1, 2, 3, 4, 5, 6, 7, 8, 9, 10, 11, 12] rfl (fun _ => rfl) (fun u151 hu151 => ?_)
                        refine g_iinc hX (j := 4) (nI (k + 1)) [(4, .int (nI (k + 1))), (0, .ref (a 0)), (1, .int (nI ye)), (2, .int (nI n)), (3, .int (nI p))] dX6_year_154 4 rfl (iinc_n _ _) (by rw [hnL]; rfl) rfl ?_
                        refine g_goto hX 44 dX6_year_157 (by decide) ?_
                        exact g_lv _ [1, 2, 3, 4, 0] rfl (ih44 (k + 1) u151 (ffV (serC D2) (cN D2)) (fu + (passC D2).2) (by omega) (by omega) (by rw [yeN, hd2]; exact hu151) (by rw [yeN, hd2, hfu]))
                      exact g_lv _ [1, 2, 3, 4, 5] rfl (lp150 D w  hw hDD hDT (hdr.trans (if_neg fun q => by rw [c141] at q; cases q.2)))
                    · replace c141 := mt bI_0.mpr c141
                      replace c141 := bNf c141
                      refine g_aload_n hX dX6_year_144 1 rfl ?_
                      refine g_iload hX dX6_year_145 0 rfl ?_
                      have hc147 : CUT (mw E a (mkMV (mT M) (mS M) (mA M) (mW M) (mK M) (mP M) (mE M) (mN M) (mX M) (mL M) (mI M) (mD M) (mR M) (mM M) w f fu (mQ M) (mZ M) (mG M) (mH M))) (mw E a (mkMV (mT M) (mS M) (mA M) (mW M) (mK M) (mP M) (mE M) (mN M) (mX M) (mL M) (mI M) (mD M) (mR M) (mM M) w f fu (mQ M) (mZ M) (mG M) (mH M))) (([] : va_W)) [0, 1, 2, 3, 4, 5, 6, 7, 8, 9, 10, 11, 12] [] := ⟨rfl, rfl, rfl, rfl, rfl⟩
                      refine g_VV hX hc147 [.int (nI (((drw ye k) / 64) % (cN D)))] [] (c_X6_withdraws l E a (mkMV (mT M) (mS M) (mA M) (mW M) (mK M) (mP M) (mE M) (mN M) (mX M) (mL M) (mI M) (mD M) (mR M) (mM M) w f fu (mQ M) (mZ M) (mG M) (mH M)) D (((drw ye k) / 64) % (cN D)) hDC hw hix) gX6_year_X6_withdraws calX6_withdraws rfl rfl rfl rfl 0 rfl rfl rfl rfl dX6_year_147 rfl ⟨Nat.zero_le _, Nat.zero_le _⟩ (fun u147 => mw E a (mkMV (mT M) (mS M) (mA M) (mW M) (mK M) (mP M) (mE M) (mN M) (mX M) (mL M) (mI M) (mD M) (mR M) (mM M) u147 f fu (mQ M) (mZ M) (mG M) (mH M))) [0, 1, 2, 3, 4, 5, 6, 7, 8, 9, 10, 11, 12] rfl (fun _ => rfl) (fun u147 hu147 => ?_)
                      have lp150 : ∀  (D2 : FC) (w2 : Nat → Int32), (RW D2 w2) → (DI D2 (m + k)) → (cT D2 = cT C) → (drawC (yeN C ye k).1 (drw ye k) = D2) → GG x 0 0 (mw E a (mkMV (mT M) (mS M) (mA M) (mW M) (mK M) (mP M) (mE M) (mN M) (mX M) (mL M) (mI M) (mD M) (mR M) (mM M) w2 f fu (mQ M) (mZ M) (mG M) (mH M))) 150 [(0, .ref (a 0)), (1, .int (nI ye)), (2, .int (nI n)), (3, .int (nI p)), (4, .int (nI k))] [] := by
                        intro D2 w2 hw2 hDD2 hDT2 hd2
                        refine g_aload_n hX dX6_year_150 0 rfl ?_
                        have hc151 : CUT (mw E a (mkMV (mT M) (mS M) (mA M) (mW M) (mK M) (mP M) (mE M) (mN M) (mX M) (mL M) (mI M) (mD M) (mR M) (mM M) w2 f fu (mQ M) (mZ M) (mG M) (mH M))) (mw E a (mkMV (mT M) (mS M) (mA M) (mW M) (mK M) (mP M) (mE M) (mN M) (mX M) (mL M) (mI M) (mD M) (mR M) (mM M) w2 f fu (mQ M) (mZ M) (mG M) (mH M))) (([] : va_W)) [0, 1, 2, 3, 4, 5, 6, 7, 8, 9, 10, 11, 12] [] := ⟨rfl, rfl, rfl, rfl, rfl⟩
                        refine g_VV hX hc151 [] [] (c_X6_goes l E a (mkMV (mT M) (mS M) (mA M) (mW M) (mK M) (mP M) (mE M) (mN M) (mX M) (mL M) (mI M) (mD M) (mR M) (mM M) w2 f fu (mQ M) (mZ M) (mG M) (mH M)) D2 hDD2.1 hw2 (DI_VB hDD2 (by omega)) (DI_VB1 hDD2 (by omega)) (hDT2.trans hTm)) gX6_year_X6_goes calX6_goes rfl rfl rfl rfl 0 rfl rfl rfl rfl dX6_year_151 rfl ⟨Nat.zero_le _, Nat.zero_le _⟩ (fun u151 => mw E a (mkMV (mT M) (mS M) (mA M) (mW M) (mK M) (mP M) (mE M) (mN M) (mX M) (mL M) (mI M) (mD M) (mR M) (mM M) u151 (ffV (serC D2) (cN D2)) (fu + (passC D2).2) (mQ M) (mZ M) (mG M) (mH M))) [0, 1, 2, 3, 4, 5, 6, 7, 8, 9, 10, 11, 12] rfl (fun _ => rfl) (fun u151 hu151 => ?_)
                        refine g_iinc hX (j := 4) (nI (k + 1)) [(4, .int (nI (k + 1))), (0, .ref (a 0)), (1, .int (nI ye)), (2, .int (nI n)), (3, .int (nI p))] dX6_year_154 4 rfl (iinc_n _ _) (by rw [hnL]; rfl) rfl ?_
                        refine g_goto hX 44 dX6_year_157 (by decide) ?_
                        exact g_lv _ [1, 2, 3, 4, 0] rfl (ih44 (k + 1) u151 (ffV (serC D2) (cN D2)) (fu + (passC D2).2) (by omega) (by omega) (by rw [yeN, hd2]; exact hu151) (by rw [yeN, hd2, hfu]))
                      exact g_lv _ [1, 2, 3, 4, 5] rfl (lp150 (toC D ((drw ye k) / 64 % cN D)) u147  hu147 (DI_to hDD hix) hDT (hdr.trans (if_pos ⟨c132, c141⟩)))
                exact g_lv _ [2, 3, 4, 5, 6, 0] rfl (lp110 ((yeN C ye k).1) z  hz hDk hNk hTk (dr_2 c87))
              · replace c87 := (nz_eq (by omega)).mp c87
                refine g_aload_n hX dX6_year_90 2 rfl ?_
                refine g_get hX (v := .ref (a 8)) 0 inRX6 (atModel_0 _ _ _ _ _ _ _ _ _ _ _ _ _ _ _ _ _ _ _ _ _ _ _) rfl 14 rfl fl31 rfl rfl dX6_year_91 ?_
                refine g_iconst hX (nI 0) dX6_year_94 rfl ?_
                refine g_dup2 hX dX6_year_95 rfl rfl ?_
                refine g_iald hX (nI (cF (yeN C ye k).1)) 8 0 (atModel_8 _ _ _ _ _ _ _ _ _ _ _ _ _ _ _ _ _ _ _ _ _ _ _) rfl (vp_in_nI (by omega) (by omega)) ((ald_n (by omega)).trans (RB_F hz.1)) dX6_year_96 ?_
                refine g_iconst hX (nI 1) dX6_year_97 rfl ?_
                refine g_iload hX dX6_year_98 0 rfl ?_
                refine g_bipush hX (nI 6) dX6_year_100 rfl ?_
                refine g_irem hX (nI ((drw ye k) % 6)) dX6_year_102 (nI_ne0 (by omega) (by omega)) (pk_rem (by omega) (by omega) (by omega)) ?_
                refine g_ishl hX (nI (1 <<< ((drw ye k) % 6))) dX6_year_103 (sh_l _ (by omega)) ?_
                refine g_ixor hX (nI ((cF (yeN C ye k).1) ^^^ (1 <<< ((drw ye k) % 6)))) dX6_year_104 (fb_xorI _ _) ?_
                refine g_iast hX (va_up (z) 0 (nI ((cF (yeN C ye k).1) ^^^ (1 <<< ((drw ye k) % 6))))) (mw E a (mkMV (mT M) (mS M) (mA M) (mW M) (mK M) (mP M) (mE M) (mN M) (mX M) (mL M) (mI M) (mD M) (mR M) (mM M) (va_up (z) 0 (nI ((cF (yeN C ye k).1) ^^^ (1 <<< ((drw ye k) % 6))))) f fu (mQ M) (mZ M) (mG M) (mH M))) 8 0 (atModel_8 _ _ _ _ _ _ _ _ _ _ _ _ _ _ _ _ _ _ _ _ _ _ _) rfl (vp_in_nI (by omega) (by omega)) (ast_r (by omega)) dX6_year_105 (stModel_8 _ _ _ _ _ _ _ _ _ _ _ _ _ _ _ _ _ _ _ _ _ _ _ _) ?_
                refine g_aload_n hX dX6_year_106 2 rfl ?_
                have hc107 : CUT (mw E a (mkMV (mT M) (mS M) (mA M) (mW M) (mK M) (mP M) (mE M) (mN M) (mX M) (mL M) (mI M) (mD M) (mR M) (mM M) (va_up (z) 0 (nI ((cF (yeN C ye k).1) ^^^ (1 <<< ((drw ye k) % 6))))) f fu (mQ M) (mZ M) (mG M) (mH M))) (mw E a (mkMV (mT M) (mS M) (mA M) (mW M) (mK M) (mP M) (mE M) (mN M) (mX M) (mL M) (mI M) (mD M) (mR M) (mM M) (va_up (z) 0 (nI ((cF (yeN C ye k).1) ^^^ (1 <<< ((drw ye k) % 6))))) f fu (mQ M) (mZ M) (mG M) (mH M))) (([] : va_W)) [0, 1, 2, 3, 4, 5, 6, 7, 8, 9, 10, 11, 12] [] := ⟨rfl, rfl, rfl, rfl, rfl⟩
                refine g_VV hX hc107 [] [] (c_X6_appoints l E a (mkMV (mT M) (mS M) (mA M) (mW M) (mK M) (mP M) (mE M) (mN M) (mX M) (mL M) (mI M) (mD M) (mR M) (mM M) (va_up (z) 0 (nI ((cF (yeN C ye k).1) ^^^ (1 <<< ((drw ye k) % 6))))) f fu (mQ M) (mZ M) (mG M) (mH M)) (sF (yeN C ye k).1 (cF (yeN C ye k).1 ^^^ 1 <<< ((drw ye k) % 6))) (⟨FO_sF hDk.1.1 (xor_bit_lt (m := 6) hDk.1.1.2.1 (Nat.mod_lt _ (by decide))), hDk.1.2⟩) (RB_tu hz.1)) gX6_year_X6_appoints calX6_appoints rfl rfl rfl rfl 0 rfl rfl rfl rfl dX6_year_107 rfl ⟨Nat.zero_le _, Nat.zero_le _⟩ (fun u107 => mw E a (mkMV (mT M) (mS M) (mA M) (mW M) (mK M) (mP M) (mE M) (mN M) (mX M) (mL M) (mI M) (mD M) (mR M) (mM M) u107 f fu (mQ M) (mZ M) (mG M) (mH M))) [0, 1, 2, 3, 4, 5, 6, 7, 8, 9, 10, 11, 12] rfl (fun _ => rfl) (fun u107 hu107 => ?_)
                have hW106 : RW (tuC (yeN C ye k).1 ((drw ye k) % 6)) u107 := RW_tu (DI_VB hDk (by omega)) hDk.2.2.1 hz.2 hu107
                have lp110 : ∀  (D : FC) (w : Nat → Int32), (RW D w) → (DI D (m + k)) → (cN D = cN C) → (cT D = cT C) → (drawC (yeN C ye k).1 (drw ye k) = (if (drw ye k) / 1024 % 5 = 0 ∧ cwB D ((drw ye k) / 64 % cN D) = true then toC D ((drw ye k) / 64 % cN D) else D)) → GG x 0 0 (mw E a (mkMV (mT M) (mS M) (mA M) (mW M) (mK M) (mP M) (mE M) (mN M) (mX M) (mL M) (mI M) (mD M) (mR M) (mM M) w f fu (mQ M) (mZ M) (mG M) (mH M))) 110 [(0, .ref (a 0)), (1, .int (nI ye)), (2, .int (nI n)), (3, .int (nI p)), (4, .int (nI k)), (7, .int (nI (drw ye k)))] [] := by
                  intro D w hw hDD hDN hDT hdr
                  have hDC := hDD.1
                  have hD9 := hDC.1.1
                  have hDV := DI_VB hDD (by omega)
                  have hix : ((drw ye k) / 64 % cN D) < cN D := Nat.mod_lt _ (by omega)
                  refine g_iload hX dX6_year_110 5 rfl ?_
                  refine g_bipush hX (nI 64) dX6_year_112 rfl ?_
                  refine g_idiv hX (nI ((drw ye k) / 64)) dX6_year_114 (nI_ne0 (by omega) (by omega)) (pk_div (by omega) (by omega) (by omega)) ?_
                  refine g_aload_n hX dX6_year_115 0 rfl ?_
                  refine g_get hX (v := .ref (a 8)) 0 inRX6 (atModel_0 _ _ _ _ _ _ _ _ _ _ _ _ _ _ _ _ _ _ _ _ _ _ _) rfl 14 rfl fl31 rfl rfl dX6_year_116 ?_
                  refine g_iconst hX (nI 2) dX6_year_119 rfl ?_
                  refine g_iald hX (nI (cN D)) 8 0 (atModel_8 _ _ _ _ _ _ _ _ _ _ _ _ _ _ _ _ _ _ _ _ _ _ _) rfl (vp_in_nI (by omega) (by omega)) ((ald_n (g := fun zz => (w) zz) (i := 2) (by omega)).trans (RB_N hw.1)) dX6_year_120 ?_
                  refine g_irem hX (nI (((drw ye k) / 64) % (cN D))) dX6_year_121 (nI_ne0 (by omega) (by omega)) (pk_rem (by omega) (by omega) (by omega)) ?_
                  refine g_istore hX (j := 8) [(8, .int (nI (((drw ye k) / 64) % (cN D)))), (0, .ref (a 0)), (1, .int (nI ye)), (2, .int (nI n)), (3, .int (nI p)), (4, .int (nI k)), (7, .int (nI (drw ye k)))] dX6_year_122 (by rw [hnL]; rfl) rfl ?_
                  refine g_iload hX dX6_year_124 6 rfl ?_
                  refine g_sipush hX (nI 1024) dX6_year_126 rfl ?_
                  refine g_idiv hX (nI ((drw ye k) / 1024)) dX6_year_129 (nI_ne0 (by omega) (by omega)) (pk_div (by omega) (by omega) (by omega)) ?_
                  refine g_iconst hX (nI 5) dX6_year_130 rfl ?_
                  refine g_irem hX (nI (((drw ye k) / 1024) % 5)) dX6_year_131 (nI_ne0 (by omega) (by omega)) (pk_rem (by omega) (by omega) (by omega)) ?_
                  refine g_if_ne hX 150 dX6_year_132 (by decide) (fun c132 => ?_) (fun c132 => ?_)
                  · replace c132 := mt (nz_eq (by omega)).mpr c132
                    have lp150 : ∀  (D2 : FC) (w2 : Nat → Int32), (RW D2 w2) → (DI D2 (m + k)) → (cT D2 = cT C) → (drawC (yeN C ye k).1 (drw ye k) = D2) → GG x 0 0 (mw E a (mkMV (mT M) (mS M) (mA M) (mW M) (mK M) (mP M) (mE M) (mN M) (mX M) (mL M) (mI M) (mD M) (mR M) (mM M) w2 f fu (mQ M) (mZ M) (mG M) (mH M))) 150 [(0, .ref (a 0)), (1, .int (nI ye)), (2, .int (nI n)), (3, .int (nI p)), (4, .int (nI k))] [] := by
                      intro D2 w2 hw2 hDD2 hDT2 hd2
                      refine g_aload_n hX dX6_year_150 0 rfl ?_
                      have hc151 : CUT (mw E a (mkMV (mT M) (mS M) (mA M) (mW M) (mK M) (mP M) (mE M) (mN M) (mX M) (mL M) (mI M) (mD M) (mR M) (mM M) w2 f fu (mQ M) (mZ M) (mG M) (mH M))) (mw E a (mkMV (mT M) (mS M) (mA M) (mW M) (mK M) (mP M) (mE M) (mN M) (mX M) (mL M) (mI M) (mD M) (mR M) (mM M) w2 f fu (mQ M) (mZ M) (mG M) (mH M))) (([] : va_W)) [0, 1, 2, 3, 4, 5, 6, 7, 8, 9, 10, 11, 12] [] := ⟨rfl, rfl, rfl, rfl, rfl⟩
                      refine g_VV hX hc151 [] [] (c_X6_goes l E a (mkMV (mT M) (mS M) (mA M) (mW M) (mK M) (mP M) (mE M) (mN M) (mX M) (mL M) (mI M) (mD M) (mR M) (mM M) w2 f fu (mQ M) (mZ M) (mG M) (mH M)) D2 hDD2.1 hw2 (DI_VB hDD2 (by omega)) (DI_VB1 hDD2 (by omega)) (hDT2.trans hTm)) gX6_year_X6_goes calX6_goes rfl rfl rfl rfl 0 rfl rfl rfl rfl dX6_year_151 rfl ⟨Nat.zero_le _, Nat.zero_le _⟩ (fun u151 => mw E a (mkMV (mT M) (mS M) (mA M) (mW M) (mK M) (mP M) (mE M) (mN M) (mX M) (mL M) (mI M) (mD M) (mR M) (mM M) u151 (ffV (serC D2) (cN D2)) (fu + (passC D2).2) (mQ M) (mZ M) (mG M) (mH M))) [0, 1, 2, 3, 4, 5, 6, 7, 8, 9, 10, 11, 12] rfl (fun _ => rfl) (fun u151 hu151 => ?_)
                      refine g_iinc hX (j := 4) (nI (k + 1)) [(4, .int (nI (k + 1))), (0, .ref (a 0)), (1, .int (nI ye)), (2, .int (nI n)), (3, .int (nI p))] dX6_year_154 4 rfl (iinc_n _ _) (by rw [hnL]; rfl) rfl ?_
                      refine g_goto hX 44 dX6_year_157 (by decide) ?_
                      exact g_lv _ [1, 2, 3, 4, 0] rfl (ih44 (k + 1) u151 (ffV (serC D2) (cN D2)) (fu + (passC D2).2) (by omega) (by omega) (by rw [yeN, hd2]; exact hu151) (by rw [yeN, hd2, hfu]))
                    exact g_lv _ [1, 2, 3, 4, 5] rfl (lp150 D w  hw hDD hDT (hdr.trans (if_neg fun q => c132 q.1)))
                  · replace c132 := (nz_eq (by omega)).mp c132
                    refine g_aload_n hX dX6_year_135 1 rfl ?_
                    refine g_iload hX dX6_year_136 0 rfl ?_
                    have hc138 : CUT (mw E a (mkMV (mT M) (mS M) (mA M) (mW M) (mK M) (mP M) (mE M) (mN M) (mX M) (mL M) (mI M) (mD M) (mR M) (mM M) w f fu (mQ M) (mZ M) (mG M) (mH M))) (mw E a (mkMV (mT M) (mS M) (mA M) (mW M) (mK M) (mP M) (mE M) (mN M) (mX M) (mL M) (mI M) (mD M) (mR M) (mM M) w f fu (mQ M) (mZ M) (mG M) (mH M))) (([] : va_W)) [0, 1, 2, 3, 4, 5, 6, 7, 8, 9, 10, 11, 12] [] := ⟨rfl, rfl, rfl, rfl, rfl⟩
                    refine g_VI hX hc138 [.int (nI (((drw ye k) / 64) % (cN D)))] [] (c_X6_canBeWithdrawn l E a (mkMV (mT M) (mS M) (mA M) (mW M) (mK M) (mP M) (mE M) (mN M) (mX M) (mL M) (mI M) (mD M) (mR M) (mM M) w f fu (mQ M) (mZ M) (mG M) (mH M)) D (((drw ye k) / 64) % (cN D)) hDC hw hDV (hDT.trans hTm) hix) gX6_year_X6_canBeWithdrawn calX6_canBeWithdrawn rfl rfl rfl rfl 0 rfl rfl rfl rfl dX6_year_138 rfl ⟨Nat.zero_le _, Nat.zero_le _⟩ (fun _ => mw E a (mkMV (mT M) (mS M) (mA M) (mW M) (mK M) (mP M) (mE M) (mN M) (mX M) (mL M) (mI M) (mD M) (mR M) (mM M) w f fu (mQ M) (mZ M) (mG M) (mH M))) [0, 1, 2, 3, 4, 5, 6, 7, 8, 9, 10, 11, 12] rfl (fun _ => rfl) (fun _ hu138 => ?_)
                    refine g_if_eq hX 150 dX6_year_141 (by decide) (fun c141 => ?_) (fun c141 => ?_)
                    · replace c141 := bI_0.mp c141
                      have lp150 : ∀  (D2 : FC) (w2 : Nat → Int32), (RW D2 w2) → (DI D2 (m + k)) → (cT D2 = cT C) → (drawC (yeN C ye k).1 (drw ye k) = D2) → GG x 0 0 (mw E a (mkMV (mT M) (mS M) (mA M) (mW M) (mK M) (mP M) (mE M) (mN M) (mX M) (mL M) (mI M) (mD M) (mR M) (mM M) w2 f fu (mQ M) (mZ M) (mG M) (mH M))) 150 [(0, .ref (a 0)), (1, .int (nI ye)), (2, .int (nI n)), (3, .int (nI p)), (4, .int (nI k))] [] := by
                        intro D2 w2 hw2 hDD2 hDT2 hd2
                        refine g_aload_n hX dX6_year_150 0 rfl ?_
                        have hc151 : CUT (mw E a (mkMV (mT M) (mS M) (mA M) (mW M) (mK M) (mP M) (mE M) (mN M) (mX M) (mL M) (mI M) (mD M) (mR M) (mM M) w2 f fu (mQ M) (mZ M) (mG M) (mH M))) (mw E a (mkMV (mT M) (mS M) (mA M) (mW M) (mK M) (mP M) (mE M) (mN M) (mX M) (mL M) (mI M) (mD M) (mR M) (mM M) w2 f fu (mQ M) (mZ M) (mG M) (mH M))) (([] : va_W)) [0, 1, 2, 3, 4, 5, 6, 7, 8, 9, 10, 11, 12] [] := ⟨rfl, rfl, rfl, rfl, rfl⟩
                        refine g_VV hX hc151 [] [] (c_X6_goes l E a (mkMV (mT M) (mS M) (mA M) (mW M) (mK M) (mP M) (mE M) (mN M) (mX M) (mL M) (mI M) (mD M) (mR M) (mM M) w2 f fu (mQ M) (mZ M) (mG M) (mH M)) D2 hDD2.1 hw2 (DI_VB hDD2 (by omega)) (DI_VB1 hDD2 (by omega)) (hDT2.trans hTm)) gX6_year_X6_goes calX6_goes rfl rfl rfl rfl 0 rfl rfl rfl rfl dX6_year_151 rfl ⟨Nat.zero_le _, Nat.zero_le _⟩ (fun u151 => mw E a (mkMV (mT M) (mS M) (mA M) (mW M) (mK M) (mP M) (mE M) (mN M) (mX M) (mL M) (mI M) (mD M) (mR M) (mM M) u151 (ffV (serC D2) (cN D2)) (fu + (passC D2).2) (mQ M) (mZ M) (mG M) (mH M))) [0, 1, 2, 3, 4, 5, 6, 7, 8, 9, 10, 11, 12] rfl (fun _ => rfl) (fun u151 hu151 => ?_)
                        refine g_iinc hX (j := 4) (nI (k + 1)) [(4, .int (nI (k + 1))), (0, .ref (a 0)), (1, .int (nI ye)), (2, .int (nI n)), (3, .int (nI p))] dX6_year_154 4 rfl (iinc_n _ _) (by rw [hnL]; rfl) rfl ?_
                        refine g_goto hX 44 dX6_year_157 (by decide) ?_
                        exact g_lv _ [1, 2, 3, 4, 0] rfl (ih44 (k + 1) u151 (ffV (serC D2) (cN D2)) (fu + (passC D2).2) (by omega) (by omega) (by rw [yeN, hd2]; exact hu151) (by rw [yeN, hd2, hfu]))
                      exact g_lv _ [1, 2, 3, 4, 5] rfl (lp150 D w  hw hDD hDT (hdr.trans (if_neg fun q => by rw [c141] at q; cases q.2)))
                    · replace c141 := mt bI_0.mpr c141
                      replace c141 := bNf c141
                      refine g_aload_n hX dX6_year_144 1 rfl ?_
                      refine g_iload hX dX6_year_145 0 rfl ?_
                      have hc147 : CUT (mw E a (mkMV (mT M) (mS M) (mA M) (mW M) (mK M) (mP M) (mE M) (mN M) (mX M) (mL M) (mI M) (mD M) (mR M) (mM M) w f fu (mQ M) (mZ M) (mG M) (mH M))) (mw E a (mkMV (mT M) (mS M) (mA M) (mW M) (mK M) (mP M) (mE M) (mN M) (mX M) (mL M) (mI M) (mD M) (mR M) (mM M) w f fu (mQ M) (mZ M) (mG M) (mH M))) (([] : va_W)) [0, 1, 2, 3, 4, 5, 6, 7, 8, 9, 10, 11, 12] [] := ⟨rfl, rfl, rfl, rfl, rfl⟩
                      refine g_VV hX hc147 [.int (nI (((drw ye k) / 64) % (cN D)))] [] (c_X6_withdraws l E a (mkMV (mT M) (mS M) (mA M) (mW M) (mK M) (mP M) (mE M) (mN M) (mX M) (mL M) (mI M) (mD M) (mR M) (mM M) w f fu (mQ M) (mZ M) (mG M) (mH M)) D (((drw ye k) / 64) % (cN D)) hDC hw hix) gX6_year_X6_withdraws calX6_withdraws rfl rfl rfl rfl 0 rfl rfl rfl rfl dX6_year_147 rfl ⟨Nat.zero_le _, Nat.zero_le _⟩ (fun u147 => mw E a (mkMV (mT M) (mS M) (mA M) (mW M) (mK M) (mP M) (mE M) (mN M) (mX M) (mL M) (mI M) (mD M) (mR M) (mM M) u147 f fu (mQ M) (mZ M) (mG M) (mH M))) [0, 1, 2, 3, 4, 5, 6, 7, 8, 9, 10, 11, 12] rfl (fun _ => rfl) (fun u147 hu147 => ?_)
                      have lp150 : ∀  (D2 : FC) (w2 : Nat → Int32), (RW D2 w2) → (DI D2 (m + k)) → (cT D2 = cT C) → (drawC (yeN C ye k).1 (drw ye k) = D2) → GG x 0 0 (mw E a (mkMV (mT M) (mS M) (mA M) (mW M) (mK M) (mP M) (mE M) (mN M) (mX M) (mL M) (mI M) (mD M) (mR M) (mM M) w2 f fu (mQ M) (mZ M) (mG M) (mH M))) 150 [(0, .ref (a 0)), (1, .int (nI ye)), (2, .int (nI n)), (3, .int (nI p)), (4, .int (nI k))] [] := by
                        intro D2 w2 hw2 hDD2 hDT2 hd2
                        refine g_aload_n hX dX6_year_150 0 rfl ?_
                        have hc151 : CUT (mw E a (mkMV (mT M) (mS M) (mA M) (mW M) (mK M) (mP M) (mE M) (mN M) (mX M) (mL M) (mI M) (mD M) (mR M) (mM M) w2 f fu (mQ M) (mZ M) (mG M) (mH M))) (mw E a (mkMV (mT M) (mS M) (mA M) (mW M) (mK M) (mP M) (mE M) (mN M) (mX M) (mL M) (mI M) (mD M) (mR M) (mM M) w2 f fu (mQ M) (mZ M) (mG M) (mH M))) (([] : va_W)) [0, 1, 2, 3, 4, 5, 6, 7, 8, 9, 10, 11, 12] [] := ⟨rfl, rfl, rfl, rfl, rfl⟩
                        refine g_VV hX hc151 [] [] (c_X6_goes l E a (mkMV (mT M) (mS M) (mA M) (mW M) (mK M) (mP M) (mE M) (mN M) (mX M) (mL M) (mI M) (mD M) (mR M) (mM M) w2 f fu (mQ M) (mZ M) (mG M) (mH M)) D2 hDD2.1 hw2 (DI_VB hDD2 (by omega)) (DI_VB1 hDD2 (by omega)) (hDT2.trans hTm)) gX6_year_X6_goes calX6_goes rfl rfl rfl rfl 0 rfl rfl rfl rfl dX6_year_151 rfl ⟨Nat.zero_le _, Nat.zero_le _⟩ (fun u151 => mw E a (mkMV (mT M) (mS M) (mA M) (mW M) (mK M) (mP M) (mE M) (mN M) (mX M) (mL M) (mI M) (mD M) (mR M) (mM M) u151 (ffV (serC D2) (cN D2)) (fu + (passC D2).2) (mQ M) (mZ M) (mG M) (mH M))) [0, 1, 2, 3, 4, 5, 6, 7, 8, 9, 10, 11, 12] rfl (fun _ => rfl) (fun u151 hu151 => ?_)
                        refine g_iinc hX (j := 4) (nI (k + 1)) [(4, .int (nI (k + 1))), (0, .ref (a 0)), (1, .int (nI ye)), (2, .int (nI n)), (3, .int (nI p))] dX6_year_154 4 rfl (iinc_n _ _) (by rw [hnL]; rfl) rfl ?_
                        refine g_goto hX 44 dX6_year_157 (by decide) ?_
                        exact g_lv _ [1, 2, 3, 4, 0] rfl (ih44 (k + 1) u151 (ffV (serC D2) (cN D2)) (fu + (passC D2).2) (by omega) (by omega) (by rw [yeN, hd2]; exact hu151) (by rw [yeN, hd2, hfu]))
                      exact g_lv _ [1, 2, 3, 4, 5] rfl (lp150 (toC D ((drw ye k) / 64 % cN D)) u147  hu147 (DI_to hDD hix) hDT (hdr.trans (if_pos ⟨c132, c141⟩)))
                exact g_lv _ [2, 3, 4, 5, 6, 0] rfl (lp110 (tuC (yeN C ye k).1 ((drw ye k) % 6)) u107  hW106 (DI_tu hDk (Nat.mod_lt _ (by decide))) ((tuC_N _ _).trans hNk) hTk (dr_1 c87))
        exact g_lv _ [1, 2, 3, 4, 0] rfl (lp44 _ 0 (cpR ((mO M)) ((mS M)) 0 0) (mF M) 0 (Nat.lt_succ_self _) (Nat.zero_le _) (RW_cp h9 hS) rfl)
      · replace c27 := bI_0.mp c27
        exact absurd c27 (by simp)
