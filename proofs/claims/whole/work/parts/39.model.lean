set_option maxHeartbeats 4000000 in
set_option maxRecDepth 100000 in
theorem c_X6_married (l : Launch) (E : EV) (a : Nat → Nat) (M : MV) (C : FC) (m : Nat) (hD : DI C m) (hm : m < 2 ^ 29) (hN1 : 1 ≤ cN C) (hS : RW C (mS M)) (hTm : cT C = mT M) : KI l yX6_married wsX6_married (rmN 5) E (σ := MV) [.ref (a 0)] (mw E a M) (fun u => KS M u) (fun u => (nI (mpF C (cN C) (lieM C (cF C)) 0))) (fun u => mw E a u) 0 0 := by
  refine KI.of (cc := cX6_married) (maxL := 4) (ty := .int) (hnar := fun _ _ => rfl) rfl rfl rfl (fun x hX hin hret hnL => ?_)
  replace hX : CX x l cX6_married RX6 wsX6_married E (rmN 5) := hX
  show GG x 0 0 (mw E a M) 0 [(0, .ref (a 0))] []
  have inRX6 : ∀ w ∈ wsX60, w ∈ wsX6_married := by decide +kernel
  have fl37 : Cond.fieldLink RX6 37 "LieForceModel" "pairs" "[I" ∈ wsX6_married := by decide +kernel
  obtain ⟨hC, hVY, hZ, hYm⟩ := id hD
  obtain ⟨⟨h9, h64, h512, hT, hI⟩, hK⟩ := id hC
  have hV := DI_VB hD (by omega)
  have hWO := RW_cp (f := mO M) h9 hS
  have hal := lieM_lt h9 (cF C)
  refine g_aload_n hX dX6_married_0 0 rfl ?_
  have hc1 : CUT (mw E a M) (mw E a M) (([] : va_W)) [0, 1, 2, 3, 4, 5, 6, 7, 8, 9, 10, 11, 12] [] := ⟨rfl, rfl, rfl, rfl, rfl⟩
  refine g_VV hX hc1 [] [] (c_X6_asItIs l E a M) gX6_married_X6_asItIs calX6_asItIs rfl rfl rfl rfl 0 rfl rfl rfl rfl dX6_married_1 rfl ⟨Nat.zero_le _, Nat.zero_le _⟩ (fun _ => mw E a (mkMV (mT M) (mS M) (mA M) (mW M) (mK M) (mP M) (mE M) (mN M) (mX M) (mL M) (mI M) (mD M) (mR M) (mM M) (cpR ((mO M)) ((mS M)) 0 0) (mF M) (mU M) (mQ M) (mZ M) (mG M) (mH M))) [0, 1, 2, 3, 4, 5, 6, 7, 8, 9, 10, 11, 12] rfl (fun _ => rfl) (fun _ hu1 => ?_)
  refine g_aload_n hX dX6_married_4 0 rfl ?_
  have hc5 : CUT (mw E a (mkMV (mT M) (mS M) (mA M) (mW M) (mK M) (mP M) (mE M) (mN M) (mX M) (mL M) (mI M) (mD M) (mR M) (mM M) (cpR ((mO M)) ((mS M)) 0 0) (mF M) (mU M) (mQ M) (mZ M) (mG M) (mH M))) (mw E a (mkMV (mT M) (mS M) (mA M) (mW M) (mK M) (mP M) (mE M) (mN M) (mX M) (mL M) (mI M) (mD M) (mR M) (mM M) (cpR ((mO M)) ((mS M)) 0 0) (mF M) (mU M) (mQ M) (mZ M) (mG M) (mH M))) (([] : va_W)) [0, 1, 2, 3, 4, 5, 6, 7, 8, 9, 10, 11, 12] [] := ⟨rfl, rfl, rfl, rfl, rfl⟩
  refine g_VI hX hc5 [] [] (c_X6_police l E a (mkMV (mT M) (mS M) (mA M) (mW M) (mK M) (mP M) (mE M) (mN M) (mX M) (mL M) (mI M) (mD M) (mR M) (mM M) (cpR ((mO M)) ((mS M)) 0 0) (mF M) (mU M) (mQ M) (mZ M) (mG M) (mH M)) C (by first | assumption | omega) hWO (by first | assumption | omega)) gX6_married_X6_police calX6_police rfl rfl rfl rfl 0 rfl rfl rfl rfl dX6_married_5 rfl ⟨Nat.zero_le _, Nat.zero_le _⟩ (fun _ => mw E a (mkMV (mT M) (mS M) (mA M) (mW M) (mK M) (mP M) (mE M) (mN M) (mX M) (mL M) (mI M) (mD M) (mR M) (mM M) (cpR ((mO M)) ((mS M)) 0 0) (mF M) (mU M) (mQ M) (mZ M) (mG M) (mH M))) [0, 1, 2, 3, 4, 5, 6, 7, 8, 9, 10, 11, 12] rfl (fun _ => rfl) (fun _ hu5 => ?_)
  refine g_istore_n hX (j := 1) [(1, .int (nI (lieM C (cF C)))), (0, .ref (a 0))] dX6_married_8 rfl (by rw [hnL]; rfl) rfl ?_
  refine g_sipush hX (nI 511) dX6_married_9 rfl ?_
  refine g_istore_n hX (j := 2) [(2, .int (nI 511)), (1, .int (nI (lieM C (cF C)))), (0, .ref (a 0))] dX6_married_12 rfl (by rw [hnL]; rfl) rfl ?_
  have lp13 : ∀ (fuel : Nat) (k : Nat) (z : Nat → Nat), k < fuel → (k ≤ 512) → (PB C (lieM C (cF C)) k z) → GG x 0 0 (mw E a (mkMV (mT M) (mS M) (mA M) (mW M) (mK M) (mP M) (mE M) (mN M) (mX M) (mL M) (mI M) (mD M) (mR M) (mM M) (cpR (mO M) (mS M) 0 0) (mF M) (mU M) (mQ M) z (mG M) (mH M))) 13 [(0, .ref (a 0)), (1, .int (nI (lieM C (cF C)))), (2, .int (nI k + (-1)))] [] := by
    intro fuel
    induction fuel with
    | zero => intro k z hm; exact absurd hm (Nat.not_lt_zero _)
    | succ fuel ih13 =>
      intro k z hm13 hk hz
      refine g_iload_n hX dX6_married_13 2 rfl ?_
      refine g_if_lt hX 87 dX6_married_14 (by decide) (fun c14 => ?_) (fun c14 => ?_)
      · replace c14 := (dn_lt (by omega)).mp c14
        subst c14
        refine g_aload_n hX dX6_married_87 0 rfl ?_
        refine g_get hX (v := .ref (a 10)) 0 inRX6 (atModel_0 _ _ _ _ _ _ _ _ _ _ _ _ _ _ _ _ _ _ _ _ _ _ _) rfl 18 rfl fl37 rfl rfl dX6_married_88 ?_
        refine g_iconst hX (nI 0) dX6_married_91 rfl ?_
        refine g_iald hX (nI (z 0)) 10 0 (atModel_10 _ _ _ _ _ _ _ _ _ _ _ _ _ _ _ _ _ _ _ _ _ _ _) rfl (vp_in_nI (by omega) (by omega)) (ald_n (g := fun zz => nI (z zz)) (i := 0) (by omega)) dX6_married_92 ?_
        exact g_eq rfl rfl (congrArg (fun z => [Value.int z]) (congrArg nI (by rw [hz 0 (Nat.le_refl _) (by decide) (andn_z (by decide) (fun i hi => by rw [Nat.zero_testBit] at hi; cases hi)), andn_0 (by omega)]))) (hret (mkMV (mT M) (mS M) (mA M) (mW M) (mK M) (mP M) (mE M) (mN M) (mX M) (mL M) (mI M) (mD M) (mR M) (mM M) (cpR (mO M) (mS M) 0 0) (mF M) (mU M) (mQ M) z (mG M) (mH M)) _ _ (⟨⟨rfl, rfl, rfl, rfl, rfl, rfl, rfl⟩, ⟨rfl, rfl⟩, rfl⟩) dX6_married_93)
      · replace c14 := mt (dn_lt (by omega)).mpr c14
        rw [dn_n c14]
        have hk1 : k - 1 < 512 := by omega
        have hfr : andn (lieM C (cF C)) (k - 1) < 512 := andn_lt (n := 9) _ hal (by decide)
        have hsz : andn (k - 1) (lieM C (cF C)) < 512 := andn_lt (n := 9) _ hk1 (by decide)
        refine g_aload_n hX dX6_married_17 0 rfl ?_
        refine g_get hX (v := .ref (a 10)) 0 inRX6 (atModel_0 _ _ _ _ _ _ _ _ _ _ _ _ _ _ _ _ _ _ _ _ _ _ _) rfl 18 rfl fl37 rfl rfl dX6_married_18 ?_
        refine g_iload_n hX dX6_married_21 2 rfl ?_
        refine g_iconst hX (nI 0) dX6_married_22 rfl ?_
        refine g_iast hX (fun zz => nI ((va_up (z) (k - 1) 0) zz)) (mw E a (mkMV (mT M) (mS M) (mA M) (mW M) (mK M) (mP M) (mE M) (mN M) (mX M) (mL M) (mI M) (mD M) (mR M) (mM M) (cpR (mO M) (mS M) 0 0) (mF M) (mU M) (mQ M) (va_up (z) (k - 1) 0) (mG M) (mH M))) 10 0 (atModel_10 _ _ _ _ _ _ _ _ _ _ _ _ _ _ _ _ _ _ _ _ _ _ _) rfl (vp_in_nI (by omega) (by omega)) (ast_n (by omega)) dX6_married_23 (stModel_10 _ _ _ _ _ _ _ _ _ _ _ _ _ _ _ _ _ _ _ _ _ _ _ _) ?_
        refine g_iload_n hX dX6_married_24 2 rfl ?_
        refine g_iload_n hX dX6_married_25 1 rfl ?_
        refine g_iconst hX ((-1)) dX6_married_26 rfl ?_
        refine g_ixor hX (nI (lieM C (cF C)) ^^^ (-1)) dX6_married_27 rfl ?_
        refine g_iand hX (nI (andn (k - 1) (lieM C (cF C)))) dX6_married_28 (and_not (by omega)) ?_
        refine g_if_ne hX 81 dX6_married_29 (by decide) (fun c29 => ?_) (fun c29 => ?_)
        · replace c29 := mt (nz_eq (by omega)).mpr c29
          refine g_iinc hX (j := 2) (nI (k - 1) + (-1)) [(2, .int (nI (k - 1) + (-1))), (0, .ref (a 0)), (1, .int (nI (lieM C (cF C))))] dX6_married_81 2 rfl rfl (by rw [hnL]; rfl) rfl ?_
          refine g_goto hX 13 dX6_married_84 (by decide) ?_
          exact g_lv _ [1, 2, 0] rfl (ih13 (k - 1) (va_up (z) (k - 1) 0) (by omega) (by omega) (by first | exact pb_s c14 hz (fun q => absurd q c29) | (rw [pb_2]; exact pb_s c14 hz (fun _ => (mp_none (fun i hi => hlo i (by omega))).symm)) | (rw [pb_2]; exact pb_s c14 hz (fun _ => rfl))))
        · replace c29 := (nz_eq (by omega)).mp c29
          refine g_iconst hX (nI 0) dX6_married_32 rfl ?_
          refine g_istore_n hX (j := 3) [(3, .int (nI 0)), (0, .ref (a 0)), (1, .int (nI (lieM C (cF C)))), (2, .int (nI (k - 1)))] dX6_married_33 rfl (by rw [hnL]; rfl) rfl ?_
          have lp34 : ∀ (fuel : Nat) (s : Nat), 9 - s < fuel → (s ≤ 9) → (∀ i, i < s → (andn (lieM C (cF C)) (k - 1)).testBit i = false) → GG x 0 0 (mw E a (mkMV (mT M) (mS M) (mA M) (mW M) (mK M) (mP M) (mE M) (mN M) (mX M) (mL M) (mI M) (mD M) (mR M) (mM M) (cpR (mO M) (mS M) 0 0) (mF M) (mU M) (mQ M) (va_up (z) (k - 1) 0) (mG M) (mH M))) 34 [(0, .ref (a 0)), (1, .int (nI (lieM C (cF C)))), (2, .int (nI (k - 1))), (3, .int (nI s))] [] := by
            intro fuel
            induction fuel with
            | zero => intro s hm; exact absurd hm (Nat.not_lt_zero _)
            | succ fuel ih34 =>
              intro s hm34 hs9 hlo
              refine g_iload_n hX dX6_married_34 3 rfl ?_
              refine g_bipush hX (nI 9) dX6_married_35 rfl ?_
              refine g_icmp_ge hX 58 dX6_married_37 (by decide) (fun c37 => ?_) (fun c37 => ?_)
              · replace c37 := (nI_leI (by omega) (by omega)).mp c37
                refine g_aload_n hX dX6_married_58 0 rfl ?_
                refine g_get hX (v := .ref (a 10)) 0 inRX6 (atModel_0 _ _ _ _ _ _ _ _ _ _ _ _ _ _ _ _ _ _ _ _ _ _ _) rfl 18 rfl fl37 rfl rfl dX6_married_59 ?_
                refine g_iload_n hX dX6_married_62 2 rfl ?_
                refine g_iload_n hX dX6_married_63 3 rfl ?_
                refine g_bipush hX (nI 9) dX6_married_64 rfl ?_
                refine g_icmp_ne hX 73 dX6_married_66 (by decide) (fun c66 => ?_) (fun c66 => ?_)
                · replace c66 := mt (nI_eq (by omega) (by omega)).mpr c66
                  exact absurd (show s = 9 by omega) c66
                · replace c66 := (nI_eq (by omega) (by omega)).mp c66
                  refine g_iconst hX (nI 0) dX6_married_69 rfl ?_
                  refine g_goto hX 80 dX6_married_70 (by decide) ?_
                  refine g_iast hX (fun zz => nI ((va_up (va_up (z) (k - 1) 0) (k - 1) 0) zz)) (mw E a (mkMV (mT M) (mS M) (mA M) (mW M) (mK M) (mP M) (mE M) (mN M) (mX M) (mL M) (mI M) (mD M) (mR M) (mM M) (cpR (mO M) (mS M) 0 0) (mF M) (mU M) (mQ M) (va_up (va_up (z) (k - 1) 0) (k - 1) 0) (mG M) (mH M))) 10 0 (atModel_10 _ _ _ _ _ _ _ _ _ _ _ _ _ _ _ _ _ _ _ _ _ _ _) rfl (vp_in_nI (by omega) (by omega)) (ast_n (by omega)) dX6_married_80 (stModel_10 _ _ _ _ _ _ _ _ _ _ _ _ _ _ _ _ _ _ _ _ _ _ _ _) ?_
                  refine g_iinc hX (j := 2) (nI (k - 1) + (-1)) [(2, .int (nI (k - 1) + (-1))), (0, .ref (a 0)), (1, .int (nI (lieM C (cF C)))), (3, .int (nI s))] dX6_married_81 2 rfl rfl (by rw [hnL]; rfl) rfl ?_
                  refine g_goto hX 13 dX6_married_84 (by decide) ?_
                  exact g_lv _ [1, 2, 0] rfl (ih13 (k - 1) (va_up (va_up (z) (k - 1) 0) (k - 1) 0) (by omega) (by omega) (by first | exact pb_s c14 hz (fun q => absurd q c29) | (rw [pb_2]; exact pb_s c14 hz (fun _ => (mp_none (fun i hi => hlo i (by omega))).symm)) | (rw [pb_2]; exact pb_s c14 hz (fun _ => rfl))))
              · replace c37 := mt (nI_leI (by omega) (by omega)).mpr c37
                refine g_iload_n hX dX6_married_40 1 rfl ?_
                refine g_iload_n hX dX6_married_41 2 rfl ?_
                refine g_iconst hX ((-1)) dX6_married_42 rfl ?_
                refine g_ixor hX (nI (k - 1) ^^^ (-1)) dX6_married_43 rfl ?_
                refine g_iand hX (nI (andn (lieM C (cF C)) (k - 1))) dX6_married_44 (and_not (by omega)) ?_
                refine g_iload_n hX dX6_married_45 3 rfl ?_
                have hc46 : CUT (mw E a (mkMV (mT M) (mS M) (mA M) (mW M) (mK M) (mP M) (mE M) (mN M) (mX M) (mL M) (mI M) (mD M) (mR M) (mM M) (cpR (mO M) (mS M) 0 0) (mF M) (mU M) (mQ M) (va_up (z) (k - 1) 0) (mG M) (mH M))) (([] : va_W)) (mw E a (mkMV (mT M) (mS M) (mA M) (mW M) (mK M) (mP M) (mE M) (mN M) (mX M) (mL M) (mI M) (mD M) (mR M) (mM M) (cpR (mO M) (mS M) 0 0) (mF M) (mU M) (mQ M) (va_up (z) (k - 1) 0) (mG M) (mH M))) [] [0, 1, 2, 3, 4, 5, 6, 7, 8, 9, 10, 11, 12] := ⟨rfl, rfl, rfl, rfl, rfl⟩
                refine g_TI hX hc46 [.int (nI (andn (lieM C (cF C)) (k - 1))), .int (nI s)] [] (c_X6_has l E (andn (lieM C (cF C)) (k - 1)) s (by first | assumption | omega) (by first | assumption | omega)) gX6_married_X6_has calX6_has rfl rfl rfl rfl dX6_married_46 rfl ⟨Nat.zero_le _, Nat.zero_le _⟩ (fun _ => mw E a (mkMV (mT M) (mS M) (mA M) (mW M) (mK M) (mP M) (mE M) (mN M) (mX M) (mL M) (mI M) (mD M) (mR M) (mM M) (cpR (mO M) (mS M) 0 0) (mF M) (mU M) (mQ M) (va_up (z) (k - 1) 0) (mG M) (mH M))) [0, 1, 2, 3, 4, 5, 6, 7, 8, 9, 10, 11, 12] rfl (fun _ => rfl) (fun _ hu46 => ?_)
                refine g_if_ne hX 58 dX6_married_49 (by decide) (fun c49 => ?_) (fun c49 => ?_)
                · replace c49 := mt bI_0.mpr c49
                  replace c49 := bNf c49
                  refine g_aload_n hX dX6_married_58 0 rfl ?_
                  refine g_get hX (v := .ref (a 10)) 0 inRX6 (atModel_0 _ _ _ _ _ _ _ _ _ _ _ _ _ _ _ _ _ _ _ _ _ _ _) rfl 18 rfl fl37 rfl rfl dX6_married_59 ?_
                  refine g_iload_n hX dX6_married_62 2 rfl ?_
                  refine g_iload_n hX dX6_married_63 3 rfl ?_
                  refine g_bipush hX (nI 9) dX6_married_64 rfl ?_
                  refine g_icmp_ne hX 73 dX6_married_66 (by decide) (fun c66 => ?_) (fun c66 => ?_)
                  · replace c66 := mt (nI_eq (by omega) (by omega)).mpr c66
                    refine g_aload_n hX dX6_married_73 0 rfl ?_
                    refine g_iload_n hX dX6_married_74 1 rfl ?_
                    refine g_iload_n hX dX6_married_75 2 rfl ?_
                    refine g_iload_n hX dX6_married_76 3 rfl ?_
                    have hc77 : CUT (mw E a (mkMV (mT M) (mS M) (mA M) (mW M) (mK M) (mP M) (mE M) (mN M) (mX M) (mL M) (mI M) (mD M) (mR M) (mM M) (cpR (mO M) (mS M) 0 0) (mF M) (mU M) (mQ M) (va_up (z) (k - 1) 0) (mG M) (mH M))) (mw E a (mkMV (mT M) (mS M) (mA M) (mW M) (mK M) (mP M) (mE M) (mN M) (mX M) (mL M) (mI M) (mD M) (mR M) (mM M) (cpR (mO M) (mS M) 0 0) (mF M) (mU M) (mQ M) (va_up (z) (k - 1) 0) (mG M) (mH M))) (([] : va_W)) [0, 1, 2, 3, 4, 5, 6, 7, 8, 9, 10, 11, 12] [] := ⟨rfl, rfl, rfl, rfl, rfl⟩
                    refine g_VI hX hc77 [.int (nI (lieM C (cF C))), .int (nI (k - 1)), .int (nI s)] [.int (nI (k - 1)), .ref (a 10)] (c_X6_pairsFrom l E a (mkMV (mT M) (mS M) (mA M) (mW M) (mK M) (mP M) (mE M) (mN M) (mX M) (mL M) (mI M) (mD M) (mR M) (mM M) (cpR (mO M) (mS M) 0 0) (mF M) (mU M) (mQ M) (va_up (z) (k - 1) 0) (mG M) (mH M)) C (lieM C (cF C)) (k - 1) s (by first | assumption | omega) hWO.1 hS.1 hal hk1 (by rw [andn_bit _ (by omega), lieM_bit] at c49; simp at c49; exact c49.1.1) c29 c49 hlo (pb_a c14 hz)) gX6_married_X6_pairsFrom calX6_pairsFrom rfl rfl rfl rfl 0 rfl rfl rfl rfl dX6_married_77 rfl ⟨Nat.zero_le _, Nat.zero_le _⟩ (fun _ => mw E a (mkMV (mT M) (mS M) (mA M) (mW M) (mK M) (mP M) (mE M) (mN M) (mX M) (mL M) (mI M) (mD M) (mR M) (mM M) (cpR (mO M) (mS M) 0 0) (mF M) (mU M) (mQ M) (va_up (z) (k - 1) 0) (mG M) (mH M))) [0, 1, 2, 3, 4, 5, 6, 7, 8, 9, 10, 11, 12] rfl (fun _ => rfl) (fun _ hu77 => ?_)
                    refine g_iast hX (fun zz => nI ((va_up (va_up (z) (k - 1) 0) (k - 1) (mpF C (cN C) (andn (lieM C (cF C)) (k - 1)) 0)) zz)) (mw E a (mkMV (mT M) (mS M) (mA M) (mW M) (mK M) (mP M) (mE M) (mN M) (mX M) (mL M) (mI M) (mD M) (mR M) (mM M) (cpR (mO M) (mS M) 0 0) (mF M) (mU M) (mQ M) (va_up (va_up (z) (k - 1) 0) (k - 1) (mpF C (cN C) (andn (lieM C (cF C)) (k - 1)) 0)) (mG M) (mH M))) 10 0 (atModel_10 _ _ _ _ _ _ _ _ _ _ _ _ _ _ _ _ _ _ _ _ _ _ _) rfl (vp_in_nI (by omega) (by omega)) (ast_n (by omega)) dX6_married_80 (stModel_10 _ _ _ _ _ _ _ _ _ _ _ _ _ _ _ _ _ _ _ _ _ _ _ _) ?_
                    refine g_iinc hX (j := 2) (nI (k - 1) + (-1)) [(2, .int (nI (k - 1) + (-1))), (0, .ref (a 0)), (1, .int (nI (lieM C (cF C)))), (3, .int (nI s))] dX6_married_81 2 rfl rfl (by rw [hnL]; rfl) rfl ?_
                    refine g_goto hX 13 dX6_married_84 (by decide) ?_
                    exact g_lv _ [1, 2, 0] rfl (ih13 (k - 1) (va_up (va_up (z) (k - 1) 0) (k - 1) (mpF C (cN C) (andn (lieM C (cF C)) (k - 1)) 0)) (by omega) (by omega) (by first | exact pb_s c14 hz (fun q => absurd q c29) | (rw [pb_2]; exact pb_s c14 hz (fun _ => (mp_none (fun i hi => hlo i (by omega))).symm)) | (rw [pb_2]; exact pb_s c14 hz (fun _ => rfl))))
                  · replace c66 := (nI_eq (by omega) (by omega)).mp c66
                    exact absurd c66 (by omega)
                · replace c49 := bI_0.mp c49
                  refine g_iinc hX (j := 3) (nI (s + 1)) [(3, .int (nI (s + 1))), (0, .ref (a 0)), (1, .int (nI (lieM C (cF C)))), (2, .int (nI (k - 1)))] dX6_married_52 3 rfl (iinc_n _ _) (by rw [hnL]; rfl) rfl ?_
                  refine g_goto hX 34 dX6_married_55 (by decide) ?_
                  exact g_lv _ [1, 2, 3, 0] rfl (ih34 (s + 1) (by omega) (by omega) (fun i hi => (Nat.lt_or_ge i s).elim (fun q => hlo i q) (fun q => by rw [show i = s by omega]; exact c49)))
          exact g_lv _ [1, 2, 3, 0] rfl (lp34 _ 0 (Nat.lt_succ_self _) (Nat.zero_le _) (fun i hi => absurd hi (Nat.not_lt_zero _)))
  exact g_lv _ [2, 1, 0] rfl (lp13 _ 512 (mZ M) (Nat.lt_succ_self _) (Nat.le_refl _) (fun x h1 h2 => absurd h2 (by omega)))
