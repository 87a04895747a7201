set_option maxHeartbeats 4000000 in
set_option maxRecDepth 100000 in
theorem c_X6_findWorlds (l : Launch) (E : EV) (a : Nat → Nat) (M : MV) (C : FC) (hC : SO C) (hS : RB C (mS M)) : KV l yX6_findWorlds wsX6_findWorlds (rmN 4) E (σ := Nat → Nat) [.ref (a 0)] (mw E a M) (fun u => SoA C u) (fun u => mw E a (mkMV (mT M) (mS M) (mA M) (mW M) (mK M) (mP M) (mE M) (mN M) (mX M) (mL M) (mI M) (mD M) (mR M) (mM M) (cpR (mO M) (mS M) 0 0) (mF M) (mU M) u (mZ M) (mG M) (mH M))) 0 0 := by
  refine KV.of (cc := cX6_findWorlds) (maxL := 2) rfl rfl rfl (fun x hX hin hret hnL => ?_)
  replace hX : CX x l cX6_findWorlds RX6 wsX6_findWorlds E (rmN 4) := hX
  show GG x 0 0 (mw E a M) 0 [(0, .ref (a 0))] []
  have inRX6 : ∀ w ∈ wsX60, w ∈ wsX6_findWorlds := by decide +kernel
  have fl34 : Cond.fieldLink RX6 34 "LieForceModel" "so" "[I" ∈ wsX6_findWorlds := by decide +kernel
  obtain ⟨⟨h9, h64, h512, hT, hI⟩, hK⟩ := id hC
  have hNO := RB_cp (f := mO M) h9 hS
  have hst := stM_lt h9
  refine g_aload_n hX dX6_findWorlds_0 0 rfl ?_
  have hc1 : CUT (mw E a M) (mw E a M) (([] : va_W)) [0, 1, 2, 3, 4, 5, 6, 7, 8, 9, 10, 11, 12] [] := ⟨rfl, rfl, rfl, rfl, rfl⟩
  refine g_VV hX hc1 [] [] (c_X6_asItIs l E a M) gX6_findWorlds_X6_asItIs calX6_asItIs rfl rfl rfl rfl 0 rfl rfl rfl rfl dX6_findWorlds_1 rfl ⟨Nat.zero_le _, Nat.zero_le _⟩ (fun _ => mw E a (mkMV (mT M) (mS M) (mA M) (mW M) (mK M) (mP M) (mE M) (mN M) (mX M) (mL M) (mI M) (mD M) (mR M) (mM M) (cpR ((mO M)) ((mS M)) 0 0) (mF M) (mU M) (mQ M) (mZ M) (mG M) (mH M))) [0, 1, 2, 3, 4, 5, 6, 7, 8, 9, 10, 11, 12] rfl (fun _ => rfl) (fun _ hu1 => ?_)
  refine g_iconst hX (nI 0) dX6_findWorlds_4 rfl ?_
  refine g_istore_n hX (j := 1) [(1, .int (nI 0)), (0, .ref (a 0))] dX6_findWorlds_5 rfl (by rw [hnL]; rfl) rfl ?_
  have lp6 : ∀ (fuel : Nat) (i : Nat) (z : Nat → Nat), 64 - i < fuel → (i ≤ 64) → (∀ w, w < i → z w = soM C w) → GG x 0 0 (mw E a (mkMV (mT M) (mS M) (mA M) (mW M) (mK M) (mP M) (mE M) (mN M) (mX M) (mL M) (mI M) (mD M) (mR M) (mM M) (cpR (mO M) (mS M) 0 0) (mF M) (mU M) z (mZ M) (mG M) (mH M))) 6 [(0, .ref (a 0)), (1, .int (nI i))] [] := by
    intro fuel
    induction fuel with
    | zero => intro i z hm; exact absurd hm (Nat.not_lt_zero _)
    | succ fuel ih6 =>
      intro i z hm6 hi hz
      refine g_iload_n hX dX6_findWorlds_6 1 rfl ?_
      refine g_bipush hX (nI 64) dX6_findWorlds_7 rfl ?_
      refine g_icmp_ge hX 36 dX6_findWorlds_9 (by decide) (fun c9 => ?_) (fun c9 => ?_)
      · replace c9 := (nI_leI (by omega) (by omega)).mp c9
        exact g_eq rfl rfl rfl (hret z _ _ (fun w hw => hz w (by omega)) dX6_findWorlds_36)
      · replace c9 := mt (nI_leI (by omega) (by omega)).mpr c9
        refine g_aload_n hX dX6_findWorlds_12 0 rfl ?_
        refine g_get hX (v := .ref (a 9)) 0 inRX6 (atModel_0 _ _ _ _ _ _ _ _ _ _ _ _ _ _ _ _ _ _ _ _ _ _ _) rfl 17 rfl fl34 rfl rfl dX6_findWorlds_13 ?_
        refine g_iload_n hX dX6_findWorlds_16 1 rfl ?_
        refine g_aload_n hX dX6_findWorlds_17 0 rfl ?_
        have hc18 : CUT (mw E a (mkMV (mT M) (mS M) (mA M) (mW M) (mK M) (mP M) (mE M) (mN M) (mX M) (mL M) (mI M) (mD M) (mR M) (mM M) (cpR (mO M) (mS M) 0 0) (mF M) (mU M) z (mZ M) (mG M) (mH M))) (mw E a (mkMV (mT M) (mS M) (mA M) (mW M) (mK M) (mP M) (mE M) (mN M) (mX M) (mL M) (mI M) (mD M) (mR M) (mM M) (cpR (mO M) (mS M) 0 0) (mF M) (mU M) z (mZ M) (mG M) (mH M))) (([] : va_W)) [0, 1, 2, 3, 4, 5, 6, 7, 8, 9, 10, 11, 12] [] := ⟨rfl, rfl, rfl, rfl, rfl⟩
        refine g_VI hX hc18 [] [.int (nI i), .ref (a 9)] (c_X6_standing l E a (mkMV (mT M) (mS M) (mA M) (mW M) (mK M) (mP M) (mE M) (mN M) (mX M) (mL M) (mI M) (mD M) (mR M) (mM M) (cpR (mO M) (mS M) 0 0) (mF M) (mU M) z (mZ M) (mG M) (mH M)) C (by first | assumption | omega) hNO) gX6_findWorlds_X6_standing calX6_standing rfl rfl rfl rfl 0 rfl rfl rfl rfl dX6_findWorlds_18 rfl ⟨Nat.zero_le _, Nat.zero_le _⟩ (fun _ => mw E a (mkMV (mT M) (mS M) (mA M) (mW M) (mK M) (mP M) (mE M) (mN M) (mX M) (mL M) (mI M) (mD M) (mR M) (mM M) (cpR (mO M) (mS M) 0 0) (mF M) (mU M) z (mZ M) (mG M) (mH M))) [0, 1, 2, 3, 4, 5, 6, 7, 8, 9, 10, 11, 12] rfl (fun _ => rfl) (fun _ hu18 => ?_)
        refine g_aload_n hX dX6_findWorlds_21 0 rfl ?_
        refine g_iload_n hX dX6_findWorlds_22 1 rfl ?_
        have hc23 : CUT (mw E a (mkMV (mT M) (mS M) (mA M) (mW M) (mK M) (mP M) (mE M) (mN M) (mX M) (mL M) (mI M) (mD M) (mR M) (mM M) (cpR (mO M) (mS M) 0 0) (mF M) (mU M) z (mZ M) (mG M) (mH M))) (mw E a (mkMV (mT M) (mS M) (mA M) (mW M) (mK M) (mP M) (mE M) (mN M) (mX M) (mL M) (mI M) (mD M) (mR M) (mM M) (cpR (mO M) (mS M) 0 0) (mF M) (mU M) z (mZ M) (mG M) (mH M))) (([] : va_W)) [0, 1, 2, 3, 4, 5, 6, 7, 8, 9, 10, 11, 12] [] := ⟨rfl, rfl, rfl, rfl, rfl⟩
        refine g_VI hX hc23 [.int (nI i)] [.int (nI (stM C)), .int (nI i), .ref (a 9)] (c_X6_policeIn l E a (mkMV (mT M) (mS M) (mA M) (mW M) (mK M) (mP M) (mE M) (mN M) (mX M) (mL M) (mI M) (mD M) (mR M) (mM M) (cpR (mO M) (mS M) 0 0) (mF M) (mU M) z (mZ M) (mG M) (mH M)) C i (by first | assumption | omega) hNO (by omega)) gX6_findWorlds_X6_policeIn calX6_policeIn rfl rfl rfl rfl 0 rfl rfl rfl rfl dX6_findWorlds_23 rfl ⟨Nat.zero_le _, Nat.zero_le _⟩ (fun _ => mw E a (mkMV (mT M) (mS M) (mA M) (mW M) (mK M) (mP M) (mE M) (mN M) (mX M) (mL M) (mI M) (mD M) (mR M) (mM M) (cpR (mO M) (mS M) 0 0) (mF M) (mU M) z (mZ M) (mG M) (mH M))) [0, 1, 2, 3, 4, 5, 6, 7, 8, 9, 10, 11, 12] rfl (fun _ => rfl) (fun _ hu23 => ?_)
        refine g_iconst hX ((-1)) dX6_findWorlds_26 rfl ?_
        refine g_ixor hX (nI (lieM C i) ^^^ (-1)) dX6_findWorlds_27 rfl ?_
        refine g_iand hX (nI (andn (stM C) (lieM C i))) dX6_findWorlds_28 (and_not (by omega)) ?_
        refine g_iast hX (fun zz => nI ((va_up (z) i (andn (stM C) (lieM C i))) zz)) (mw E a (mkMV (mT M) (mS M) (mA M) (mW M) (mK M) (mP M) (mE M) (mN M) (mX M) (mL M) (mI M) (mD M) (mR M) (mM M) (cpR (mO M) (mS M) 0 0) (mF M) (mU M) (va_up (z) i (andn (stM C) (lieM C i))) (mZ M) (mG M) (mH M))) 9 0 (atModel_9 _ _ _ _ _ _ _ _ _ _ _ _ _ _ _ _ _ _ _ _ _ _ _) rfl (vp_in_nI (by omega) (by omega)) (ast_n (by omega)) dX6_findWorlds_29 (stModel_9 _ _ _ _ _ _ _ _ _ _ _ _ _ _ _ _ _ _ _ _ _ _ _ _) ?_
        refine g_iinc hX (j := 1) (nI (i + 1)) [(1, .int (nI (i + 1))), (0, .ref (a 0))] dX6_findWorlds_30 1 rfl (iinc_n _ _) (by rw [hnL]; rfl) rfl ?_
        refine g_goto hX 6 dX6_findWorlds_33 (by decide) ?_
        exact g_lv _ [1, 0] rfl (ih6 (i + 1) (va_up (z) i (andn (stM C) (lieM C i))) (by omega) (by omega) (fun w hw => (Nat.lt_or_ge w i).elim (fun q => (va_up_ne _ _ (by omega)).trans (hz w q)) (fun q => by rw [show w = i by omega, va_up_self]; rfl)))
  exact g_lv _ [1, 0] rfl (lp6 _ 0 (mQ M) (Nat.lt_succ_self _) (Nat.zero_le _) (fun w hw => absurd hw (Nat.not_lt_zero _)))
set_option maxHeartbeats 4000000 in
set_option maxRecDepth 100000 in
theorem c_X6_couldAll (l : Launch) (E : EV) (a : Nat → Nat) (M : MV) (C : FC) (set : Nat) (hN9 : cN C ≤ 9) (hQ : SoA C (mQ M)) (hs : set < 512) : KI l yX6_couldAll wsX6_couldAll (rmN 0) E (σ := Unit) [.ref (a 0), .int (nI set)] (mw E a M) (fun _ => True) (fun _ => (bI (coB C set))) (fun _ => mw E a M) 0 0 := by
  refine KI.of (cc := cX6_couldAll) (maxL := 3) (ty := .boolean) (hnar := fun _ _ => nar_b _) rfl rfl rfl (fun x hX hin hret hnL => ?_)
  replace hX : CX x l cX6_couldAll RX6 wsX6_couldAll E (rmN 0) := hX
  show GG x 0 0 (mw E a M) 0 [(0, .ref (a 0)), (1, .int (nI set))] []
  have inRX6 : ∀ w ∈ wsX60, w ∈ wsX6_couldAll := by decide +kernel
  have fl34 : Cond.fieldLink RX6 34 "LieForceModel" "so" "[I" ∈ wsX6_couldAll := by decide +kernel
  refine g_iconst hX (nI 0) dX6_couldAll_0 rfl ?_
  refine g_istore_n hX (j := 2) [(2, .int (nI 0)), (0, .ref (a 0)), (1, .int (nI set))] dX6_couldAll_1 rfl (by rw [hnL]; rfl) rfl ?_
  have lp2 : ∀ (fuel : Nat) (i : Nat), 64 - i < fuel → (i ≤ 64) → (∀ w, w < i → decide (soM C w &&& set = set) = false) → GG x 0 0 (mw E a M) 2 [(0, .ref (a 0)), (1, .int (nI set)), (2, .int (nI i))] [] := by
    intro fuel
    induction fuel with
    | zero => intro i hm; exact absurd hm (Nat.not_lt_zero _)
    | succ fuel ih2 =>
      intro i hm2 hi he
      refine g_iload_n hX dX6_couldAll_2 2 rfl ?_
      refine g_bipush hX (nI 64) dX6_couldAll_3 rfl ?_
      refine g_icmp_ge hX 28 dX6_couldAll_5 (by decide) (fun c5 => ?_) (fun c5 => ?_)
      · replace c5 := (nI_leI (by omega) (by omega)).mp c5
        refine g_iconst hX (nI 0) dX6_couldAll_28 rfl ?_
        exact g_eq rfl rfl (congrArg (fun z => [Value.int z]) (bret_f (by first | exact any_t (j := i) (by omega) (by rw [← hQi]; exact decide_eq_true c17) | exact any_f (fun w hw => he w (by omega))))) (hret () _ _ trivial dX6_couldAll_29)
      · replace c5 := mt (nI_leI (by omega) (by omega)).mpr c5
        have hQi := hQ i (by omega)
        have hQl := so_lt hN9 hQ (w := i) (by omega)
        have hal := and_lt (a := mQ M i) hs
        refine g_aload_n hX dX6_couldAll_8 0 rfl ?_
        refine g_get hX (v := .ref (a 9)) 0 inRX6 rfl rfl 17 rfl fl34 rfl rfl dX6_couldAll_9 ?_
        refine g_iload_n hX dX6_couldAll_12 2 rfl ?_
        refine g_iald hX (nI (mQ M i)) 9 0 rfl rfl (vp_in_nI (by omega) (by omega)) (ald_n (g := fun zz => nI (mQ M zz)) (i := i) (by omega)) dX6_couldAll_13 ?_
        refine g_iload_n hX dX6_couldAll_14 1 rfl ?_
        refine g_iand hX (nI ((mQ M i) &&& set)) dX6_couldAll_15 (fa_and _ _) ?_
        refine g_iload_n hX dX6_couldAll_16 1 rfl ?_
        refine g_icmp_ne hX 22 dX6_couldAll_17 (by decide) (fun c17 => ?_) (fun c17 => ?_)
        · replace c17 := mt (nI_eq (by omega) (by omega)).mpr c17
          refine g_iinc hX (j := 2) (nI (i + 1)) [(2, .int (nI (i + 1))), (0, .ref (a 0)), (1, .int (nI set))] dX6_couldAll_22 2 rfl (iinc_n _ _) (by rw [hnL]; rfl) rfl ?_
          refine g_goto hX 2 dX6_couldAll_25 (by decide) ?_
          exact g_lv _ [1, 2, 0] rfl (ih2 (i + 1) (by omega) (by omega) (fun w hw => (Nat.lt_or_ge w i).elim (fun q => he w q) (fun q => by rw [show w = i by omega, ← hQi]; exact decide_eq_false c17)))
        · replace c17 := (nI_eq (by omega) (by omega)).mp c17
          refine g_iconst hX (nI 1) dX6_couldAll_20 rfl ?_
          exact g_eq rfl rfl (congrArg (fun z => [Value.int z]) (bret_t (by exact any_t (j := i) (by omega) (by rw [← hQi]; exact decide_eq_true c17)))) (hret () _ _ trivial dX6_couldAll_21)
  exact g_lv _ [1, 2, 0] rfl (lp2 _ 0 (Nat.lt_succ_self _) (Nat.zero_le _) (fun w hw => absurd hw (Nat.not_lt_zero _)))
