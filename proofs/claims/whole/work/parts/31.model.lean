set_option maxHeartbeats 4000000 in
set_option maxRecDepth 100000 in
theorem c_X6_core (l : Launch) (E : EV) (a : Nat → Nat) (M : MV) (C : FC) (m : Nat) (hD : DI C m) (hm : m < 2 ^ 29) (hN1 : 1 ≤ cN C) (hS : RW C (mS M)) (hTm : cT C = mT M) : KI l yX6_core wsX6_core (rmN 5) E (σ := MV) [.ref (a 0)] (mw E a M) (fun u => KS M u) (fun u => (bI1 (coreP C) (1 <<< cN C))) (fun u => mw E a u) 0 0 := by
  refine KI.of (cc := cX6_core) (maxL := 4) (ty := .int) (hnar := fun _ _ => rfl) rfl rfl rfl (fun x hX hin hret hnL => ?_)
  replace hX : CX x l cX6_core RX6 wsX6_core E (rmN 5) := hX
  show GG x 0 0 (mw E a M) 0 [(0, .ref (a 0))] []
  have inRX6 : ∀ w ∈ wsX60, w ∈ wsX6_core := by decide +kernel
  have fl7 : Cond.fieldLink RX6 7 "LieForceModel" "st" "[I" ∈ wsX6_core := by decide +kernel
  obtain ⟨hC, hVY, hZ, hYm⟩ := id hD
  obtain ⟨⟨h9, h64, h512, hT, hI⟩, hK⟩ := id hC
  have hV := DI_VB hD (by omega)
  have hs9 := sh9 h9
  have hst := stM_lt h9
  have hNO := RB_cp (f := mO M) h9 hS.1
  refine g_aload_n hX dX6_core_0 0 rfl ?_
  have hc1 : CUT (mw E a M) (mw E a M) (([] : va_W)) [0, 1, 2, 3, 4, 5, 6, 7, 8, 9, 10, 11, 12] [] := ⟨rfl, rfl, rfl, rfl, rfl⟩
  refine g_VV hX hc1 [] [] (c_X6_findWorlds l E a M C (by first | assumption | omega) hS.1) gX6_core_X6_findWorlds calX6_findWorlds rfl rfl rfl rfl 0 rfl rfl rfl rfl dX6_core_1 rfl ⟨Nat.zero_le _, Nat.zero_le _⟩ (fun u1 => mw E a (mkMV (mT M) (mS M) (mA M) (mW M) (mK M) (mP M) (mE M) (mN M) (mX M) (mL M) (mI M) (mD M) (mR M) (mM M) (cpR ((mO M)) ((mS M)) 0 0) (mF M) (mU M) u1 (mZ M) (mG M) (mH M))) [0, 1, 2, 3, 4, 5, 6, 7, 8, 9, 10, 11, 12] rfl (fun _ => rfl) (fun u1 hu1 => ?_)
  refine g_bipush hX ((-4)) dX6_core_4 rfl ?_
  refine g_istore_n hX (j := 1) [(1, .int (-4)), (0, .ref (a 0))] dX6_core_6 rfl (by rw [hnL]; rfl) rfl ?_
  refine g_iconst hX (nI 0) dX6_core_7 rfl ?_
  refine g_istore_n hX (j := 2) [(2, .int (nI 0)), (1, .int (-4)), (0, .ref (a 0))] dX6_core_8 rfl (by rw [hnL]; rfl) rfl ?_
  have lp9 : ∀ (fuel : Nat) (i : Nat) (best : Int32), 1 <<< cN C - i < fuel → (i ≤ 1 <<< cN C) → (best = bI1 (coreP C) i) → GG x 0 0 (mw E a (mkMV (mT M) (mS M) (mA M) (mW M) (mK M) (mP M) (mE M) (mN M) (mX M) (mL M) (mI M) (mD M) (mR M) (mM M) (cpR ((mO M)) ((mS M)) 0 0) (mF M) (mU M) u1 (mZ M) (mG M) (mH M))) 9 [(0, .ref (a 0)), (1, .int best), (2, .int (nI i))] [] := by
    intro fuel
    induction fuel with
    | zero => intro i best hm; exact absurd hm (Nat.not_lt_zero _)
    | succ fuel ih9 =>
      intro i best hm9 hi hbest
      refine g_iload_n hX dX6_core_9 2 rfl ?_
      refine g_iconst hX (nI 1) dX6_core_10 rfl ?_
      refine g_aload_n hX dX6_core_11 0 rfl ?_
      refine g_get hX (v := .ref (a 1)) 0 inRX6 (atModel_0 _ _ _ _ _ _ _ _ _ _ _ _ _ _ _ _ _ _ _ _ _ _ _) rfl 1 rfl fl7 rfl rfl dX6_core_12 ?_
      refine g_iconst hX (nI 2) dX6_core_15 rfl ?_
      refine g_iald hX (nI (cN C)) 1 0 (atModel_1 _ _ _ _ _ _ _ _ _ _ _ _ _ _ _ _ _ _ _ _ _ _ _) rfl (vp_in_nI (by omega) (by omega)) ((ald_n (g := fun zz => (mS M) zz) (i := 2) (by omega)).trans (RB_N hS.1)) dX6_core_16 ?_
      refine g_ishl hX (nI (1 <<< (cN C))) dX6_core_17 (sh_l _ (by omega)) ?_
      refine g_icmp_ge hX 77 dX6_core_18 (by decide) (fun c18 => ?_) (fun c18 => ?_)
      · replace c18 := (nI_leI (by omega) (by omega)).mp c18
        refine g_iload_n hX dX6_core_77 1 rfl ?_
        exact g_eq rfl rfl (congrArg (fun z => [Value.int z]) (by show _ = bI1 _ _; rw [hbest, show i = 1 <<< cN C by omega])) (hret (mkMV (mT M) (mS M) (mA M) (mW M) (mK M) (mP M) (mE M) (mN M) (mX M) (mL M) (mI M) (mD M) (mR M) (mM M) (cpR ((mO M)) ((mS M)) 0 0) (mF M) (mU M) u1 (mZ M) (mG M) (mH M)) _ _ (⟨⟨rfl, rfl, rfl, rfl, rfl, rfl, rfl⟩, ⟨rfl, rfl⟩, rfl⟩) dX6_core_78)
      · replace c18 := mt (nI_leI (by omega) (by omega)).mpr c18
        refine g_iload_n hX dX6_core_21 2 rfl ?_
        refine g_aload_n hX dX6_core_22 0 rfl ?_
        have hc23 : CUT (mw E a (mkMV (mT M) (mS M) (mA M) (mW M) (mK M) (mP M) (mE M) (mN M) (mX M) (mL M) (mI M) (mD M) (mR M) (mM M) (cpR ((mO M)) ((mS M)) 0 0) (mF M) (mU M) u1 (mZ M) (mG M) (mH M))) (mw E a (mkMV (mT M) (mS M) (mA M) (mW M) (mK M) (mP M) (mE M) (mN M) (mX M) (mL M) (mI M) (mD M) (mR M) (mM M) (cpR ((mO M)) ((mS M)) 0 0) (mF M) (mU M) u1 (mZ M) (mG M) (mH M))) (([] : va_W)) [0, 1, 2, 3, 4, 5, 6, 7, 8, 9, 10, 11, 12] [] := ⟨rfl, rfl, rfl, rfl, rfl⟩
        refine g_VI hX hc23 [] [.int (nI i)] (c_X6_standing l E a (mkMV (mT M) (mS M) (mA M) (mW M) (mK M) (mP M) (mE M) (mN M) (mX M) (mL M) (mI M) (mD M) (mR M) (mM M) (cpR ((mO M)) ((mS M)) 0 0) (mF M) (mU M) u1 (mZ M) (mG M) (mH M)) C (by first | assumption | omega) hNO) gX6_core_X6_standing calX6_standing rfl rfl rfl rfl 0 rfl rfl rfl rfl dX6_core_23 rfl ⟨Nat.zero_le _, Nat.zero_le _⟩ (fun _ => mw E a (mkMV (mT M) (mS M) (mA M) (mW M) (mK M) (mP M) (mE M) (mN M) (mX M) (mL M) (mI M) (mD M) (mR M) (mM M) (cpR ((mO M)) ((mS M)) 0 0) (mF M) (mU M) u1 (mZ M) (mG M) (mH M))) [0, 1, 2, 3, 4, 5, 6, 7, 8, 9, 10, 11, 12] rfl (fun _ => rfl) (fun _ hu23 => ?_)
        refine g_iconst hX ((-1)) dX6_core_26 rfl ?_
        refine g_ixor hX (nI (stM C) ^^^ (-1)) dX6_core_27 rfl ?_
        refine g_iand hX (nI (andn i (stM C))) dX6_core_28 (and_not (by omega)) ?_
        refine g_if_ne hX 51 dX6_core_29 (by decide) (fun c29 => ?_) (fun c29 => ?_)
        · replace c29 := mt (nz_eq (by exact Nat.lt_of_le_of_lt (Nat.le_of_lt_succ (Nat.lt_succ_of_lt (andn_lt (n := 9) _ (by omega) (by decide)))) (by decide))).mpr c29
          refine g_iconst hX (nI 0) dX6_core_51 rfl ?_
          refine g_istore_n hX (j := 3) [(3, .int (nI 0)), (0, .ref (a 0)), (1, .int best), (2, .int (nI i))] dX6_core_52 rfl (by rw [hnL]; rfl) rfl ?_
          refine g_iload_n hX dX6_core_53 0 rfl ?_
          refine g_if_eq hX 71 dX6_core_54 (by decide) (fun c54 => ?_) (fun c54 => ?_)
          · replace c54 := (nz_eq (by omega)).mp c54
            refine g_iinc hX (j := 2) (nI (i + 1)) [(2, .int (nI (i + 1))), (3, .int (nI 0)), (0, .ref (a 0)), (1, .int best)] dX6_core_71 3 rfl (iinc_n _ _) (by rw [hnL]; rfl) rfl ?_
            refine g_goto hX 9 dX6_core_74 (by decide) ?_
            exact g_lv _ [2, 3, 0] rfl (ih9 (i + 1) best (by omega) (by omega) (by first | exact hbest.trans (mn_no (Or.inl (by rw [coreP, decide_eq_false c29]; rfl))).symm | exact hbest.trans (mn_no (Or.inr ⟨s, hms, by omega⟩)).symm | exact hbest.trans (mn_no (Or.inl (by rw [co_p h9 (by omega) c29, c62]; rfl))).symm | exact (mn_step (by omega) (by rw [co_p h9 (by omega) c29, c62]; rfl) (Or.inr ⟨s, hms, by omega⟩)).symm | exact (mn_step (by omega) (by rw [co_p h9 (by omega) c29, c62]; rfl) (Or.inl ((mn_neg (by omega)).mp (hbest ▸ c33)))).symm))
          · replace c54 := mt (nz_eq (by omega)).mpr c54
            exact absurd c54 (by simp)
        · replace c29 := (nz_eq (by exact Nat.lt_of_le_of_lt (Nat.le_of_lt_succ (Nat.lt_succ_of_lt (andn_lt (n := 9) _ (by omega) (by decide)))) (by decide))).mp c29
          refine g_iload_n hX dX6_core_32 1 rfl ?_
          refine g_if_lt hX 47 dX6_core_33 (by decide) (fun c33 => ?_) (fun c33 => ?_)
          · skip
            refine g_iconst hX (nI 1) dX6_core_47 rfl ?_
            refine g_goto hX 52 dX6_core_48 (by decide) ?_
            refine g_istore_n hX (j := 3) [(3, .int (nI 1)), (0, .ref (a 0)), (1, .int best), (2, .int (nI i))] dX6_core_52 rfl (by rw [hnL]; rfl) rfl ?_
            refine g_iload_n hX dX6_core_53 0 rfl ?_
            refine g_if_eq hX 71 dX6_core_54 (by decide) (fun c54 => ?_) (fun c54 => ?_)
            · replace c54 := (nz_eq (by omega)).mp c54
              exact absurd c54 (by simp)
            · replace c54 := mt (nz_eq (by omega)).mpr c54
              have hcs : andn (stM C) i < 512 := andn_lt (n := 9) _ hst (by decide)
              refine g_aload_n hX dX6_core_57 1 rfl ?_
              refine g_iload_n hX dX6_core_58 3 rfl ?_
              have hc59 : CUT (mw E a (mkMV (mT M) (mS M) (mA M) (mW M) (mK M) (mP M) (mE M) (mN M) (mX M) (mL M) (mI M) (mD M) (mR M) (mM M) (cpR ((mO M)) ((mS M)) 0 0) (mF M) (mU M) u1 (mZ M) (mG M) (mH M))) (mw E a (mkMV (mT M) (mS M) (mA M) (mW M) (mK M) (mP M) (mE M) (mN M) (mX M) (mL M) (mI M) (mD M) (mR M) (mM M) (cpR ((mO M)) ((mS M)) 0 0) (mF M) (mU M) u1 (mZ M) (mG M) (mH M))) (([] : va_W)) [0, 1, 2, 3, 4, 5, 6, 7, 8, 9, 10, 11, 12] [] := ⟨rfl, rfl, rfl, rfl, rfl⟩
              refine g_VI hX hc59 [.int (nI i)] [] (c_X6_couldAll l E a (mkMV (mT M) (mS M) (mA M) (mW M) (mK M) (mP M) (mE M) (mN M) (mX M) (mL M) (mI M) (mD M) (mR M) (mM M) (cpR ((mO M)) ((mS M)) 0 0) (mF M) (mU M) u1 (mZ M) (mG M) (mH M)) C i h9 hu1 (by omega)) gX6_core_X6_couldAll calX6_couldAll rfl rfl rfl rfl 0 rfl rfl rfl rfl dX6_core_59 rfl ⟨Nat.zero_le _, Nat.zero_le _⟩ (fun _ => mw E a (mkMV (mT M) (mS M) (mA M) (mW M) (mK M) (mP M) (mE M) (mN M) (mX M) (mL M) (mI M) (mD M) (mR M) (mM M) (cpR ((mO M)) ((mS M)) 0 0) (mF M) (mU M) u1 (mZ M) (mG M) (mH M))) [0, 1, 2, 3, 4, 5, 6, 7, 8, 9, 10, 11, 12] rfl (fun _ => rfl) (fun _ hu59 => ?_)
              refine g_if_eq hX 69 dX6_core_62 (by decide) (fun c62 => ?_) (fun c62 => ?_)
              · replace c62 := bI_0.mp c62
                refine g_iload_n hX dX6_core_69 3 rfl ?_
                refine g_istore_n hX (j := 1) [(1, .int (nI i)), (3, .int (nI 1)), (0, .ref (a 0)), (2, .int (nI i))] dX6_core_70 rfl (by rw [hnL]; rfl) rfl ?_
                refine g_iinc hX (j := 2) (nI (i + 1)) [(2, .int (nI (i + 1))), (1, .int (nI i)), (3, .int (nI 1)), (0, .ref (a 0))] dX6_core_71 3 rfl (iinc_n _ _) (by rw [hnL]; rfl) rfl ?_
                refine g_goto hX 9 dX6_core_74 (by decide) ?_
                exact g_lv _ [3, 1, 0] rfl (ih9 (i + 1) (nI i) (by omega) (by omega) (by first | exact hbest.trans (mn_no (Or.inl (by rw [coreP, decide_eq_false c29]; rfl))).symm | exact hbest.trans (mn_no (Or.inr ⟨s, hms, by omega⟩)).symm | exact hbest.trans (mn_no (Or.inl (by rw [co_p h9 (by omega) c29, c62]; rfl))).symm | exact (mn_step (by omega) (by rw [co_p h9 (by omega) c29, c62]; rfl) (Or.inr ⟨s, hms, by omega⟩)).symm | exact (mn_step (by omega) (by rw [co_p h9 (by omega) c29, c62]; rfl) (Or.inl ((mn_neg (by omega)).mp (hbest ▸ c33)))).symm))
              · replace c62 := mt bI_0.mpr c62
                replace c62 := bNf c62
                refine g_iload_n hX dX6_core_65 2 rfl ?_
                refine g_goto hX 70 dX6_core_66 (by decide) ?_
                refine g_istore_n hX (j := 1) [(1, .int best), (3, .int (nI 1)), (0, .ref (a 0)), (2, .int (nI i))] dX6_core_70 rfl (by rw [hnL]; rfl) rfl ?_
                refine g_iinc hX (j := 2) (nI (i + 1)) [(2, .int (nI (i + 1))), (1, .int best), (3, .int (nI 1)), (0, .ref (a 0))] dX6_core_71 3 rfl (iinc_n _ _) (by rw [hnL]; rfl) rfl ?_
                refine g_goto hX 9 dX6_core_74 (by decide) ?_
                exact g_lv _ [3, 1, 0] rfl (ih9 (i + 1) best (by omega) (by omega) (by first | exact hbest.trans (mn_no (Or.inl (by rw [coreP, decide_eq_false c29]; rfl))).symm | exact hbest.trans (mn_no (Or.inr ⟨s, hms, by omega⟩)).symm | exact hbest.trans (mn_no (Or.inl (by rw [co_p h9 (by omega) c29, c62]; rfl))).symm | exact (mn_step (by omega) (by rw [co_p h9 (by omega) c29, c62]; rfl) (Or.inr ⟨s, hms, by omega⟩)).symm | exact (mn_step (by omega) (by rw [co_p h9 (by omega) c29, c62]; rfl) (Or.inl ((mn_neg (by omega)).mp (hbest ▸ c33)))).symm))
          · skip
            obtain ⟨s, hms, hsl, hbs⟩ := mn_get (by omega) hbest c33
            subst hbs
            refine g_iload_n hX dX6_core_36 2 rfl ?_
            have hc37 : CUT (mw E a (mkMV (mT M) (mS M) (mA M) (mW M) (mK M) (mP M) (mE M) (mN M) (mX M) (mL M) (mI M) (mD M) (mR M) (mM M) (cpR ((mO M)) ((mS M)) 0 0) (mF M) (mU M) u1 (mZ M) (mG M) (mH M))) (([] : va_W)) (mw E a (mkMV (mT M) (mS M) (mA M) (mW M) (mK M) (mP M) (mE M) (mN M) (mX M) (mL M) (mI M) (mD M) (mR M) (mM M) (cpR ((mO M)) ((mS M)) 0 0) (mF M) (mU M) u1 (mZ M) (mG M) (mH M))) [] [0, 1, 2, 3, 4, 5, 6, 7, 8, 9, 10, 11, 12] := ⟨rfl, rfl, rfl, rfl, rfl⟩
            refine g_TI hX hc37 [.int (nI i)] [] (c_X6_bits l E i (by omega)) gX6_core_X6_bits calX6_bits rfl rfl rfl rfl dX6_core_37 rfl ⟨Nat.zero_le _, Nat.zero_le _⟩ (fun _ => mw E a (mkMV (mT M) (mS M) (mA M) (mW M) (mK M) (mP M) (mE M) (mN M) (mX M) (mL M) (mI M) (mD M) (mR M) (mM M) (cpR ((mO M)) ((mS M)) 0 0) (mF M) (mU M) u1 (mZ M) (mG M) (mH M))) [0, 1, 2, 3, 4, 5, 6, 7, 8, 9, 10, 11, 12] rfl (fun _ => rfl) (fun _ hu37 => ?_)
            refine g_iload_n hX dX6_core_40 1 rfl ?_
            have hc41 : CUT (mw E a (mkMV (mT M) (mS M) (mA M) (mW M) (mK M) (mP M) (mE M) (mN M) (mX M) (mL M) (mI M) (mD M) (mR M) (mM M) (cpR ((mO M)) ((mS M)) 0 0) (mF M) (mU M) u1 (mZ M) (mG M) (mH M))) (([] : va_W)) (mw E a (mkMV (mT M) (mS M) (mA M) (mW M) (mK M) (mP M) (mE M) (mN M) (mX M) (mL M) (mI M) (mD M) (mR M) (mM M) (cpR ((mO M)) ((mS M)) 0 0) (mF M) (mU M) u1 (mZ M) (mG M) (mH M))) [] [0, 1, 2, 3, 4, 5, 6, 7, 8, 9, 10, 11, 12] := ⟨rfl, rfl, rfl, rfl, rfl⟩
            refine g_TI hX hc41 [.int (nI s)] [.int (nI (pop i))] (c_X6_bits l E s hsl) gX6_core_X6_bits calX6_bits rfl rfl rfl rfl dX6_core_41 rfl ⟨Nat.zero_le _, Nat.zero_le _⟩ (fun _ => mw E a (mkMV (mT M) (mS M) (mA M) (mW M) (mK M) (mP M) (mE M) (mN M) (mX M) (mL M) (mI M) (mD M) (mR M) (mM M) (cpR ((mO M)) ((mS M)) 0 0) (mF M) (mU M) u1 (mZ M) (mG M) (mH M))) [0, 1, 2, 3, 4, 5, 6, 7, 8, 9, 10, 11, 12] rfl (fun _ => rfl) (fun _ hu41 => ?_)
            have hp1 := pop9 i (by omega)
            have hp2 := pop9 s hsl
            refine g_icmp_ge hX 51 dX6_core_44 (by decide) (fun c44 => ?_) (fun c44 => ?_)
            · replace c44 := (nI_leI (by omega) (by omega)).mp c44
              refine g_iconst hX (nI 0) dX6_core_51 rfl ?_
              refine g_istore_n hX (j := 3) [(3, .int (nI 0)), (0, .ref (a 0)), (1, .int (nI s)), (2, .int (nI i))] dX6_core_52 rfl (by rw [hnL]; rfl) rfl ?_
              refine g_iload_n hX dX6_core_53 0 rfl ?_
              refine g_if_eq hX 71 dX6_core_54 (by decide) (fun c54 => ?_) (fun c54 => ?_)
              · replace c54 := (nz_eq (by omega)).mp c54
                refine g_iinc hX (j := 2) (nI (i + 1)) [(2, .int (nI (i + 1))), (3, .int (nI 0)), (0, .ref (a 0)), (1, .int (nI s))] dX6_core_71 3 rfl (iinc_n _ _) (by rw [hnL]; rfl) rfl ?_
                refine g_goto hX 9 dX6_core_74 (by decide) ?_
                exact g_lv _ [2, 3, 0] rfl (ih9 (i + 1) (nI s) (by omega) (by omega) (by first | exact hbest.trans (mn_no (Or.inl (by rw [coreP, decide_eq_false c29]; rfl))).symm | exact hbest.trans (mn_no (Or.inr ⟨s, hms, by omega⟩)).symm | exact hbest.trans (mn_no (Or.inl (by rw [co_p h9 (by omega) c29, c62]; rfl))).symm | exact (mn_step (by omega) (by rw [co_p h9 (by omega) c29, c62]; rfl) (Or.inr ⟨s, hms, by omega⟩)).symm | exact (mn_step (by omega) (by rw [co_p h9 (by omega) c29, c62]; rfl) (Or.inl ((mn_neg (by omega)).mp (hbest ▸ c33)))).symm))
              · replace c54 := mt (nz_eq (by omega)).mpr c54
                exact absurd c54 (by simp)
            · replace c44 := mt (nI_leI (by omega) (by omega)).mpr c44
              refine g_iconst hX (nI 1) dX6_core_47 rfl ?_
              refine g_goto hX 52 dX6_core_48 (by decide) ?_
              refine g_istore_n hX (j := 3) [(3, .int (nI 1)), (0, .ref (a 0)), (1, .int (nI s)), (2, .int (nI i))] dX6_core_52 rfl (by rw [hnL]; rfl) rfl ?_
              refine g_iload_n hX dX6_core_53 0 rfl ?_
              refine g_if_eq hX 71 dX6_core_54 (by decide) (fun c54 => ?_) (fun c54 => ?_)
              · replace c54 := (nz_eq (by omega)).mp c54
                exact absurd c54 (by simp)
              · replace c54 := mt (nz_eq (by omega)).mpr c54
                have hcs : andn (stM C) i < 512 := andn_lt (n := 9) _ hst (by decide)
                refine g_aload_n hX dX6_core_57 1 rfl ?_
                refine g_iload_n hX dX6_core_58 3 rfl ?_
                have hc59 : CUT (mw E a (mkMV (mT M) (mS M) (mA M) (mW M) (mK M) (mP M) (mE M) (mN M) (mX M) (mL M) (mI M) (mD M) (mR M) (mM M) (cpR ((mO M)) ((mS M)) 0 0) (mF M) (mU M) u1 (mZ M) (mG M) (mH M))) (mw E a (mkMV (mT M) (mS M) (mA M) (mW M) (mK M) (mP M) (mE M) (mN M) (mX M) (mL M) (mI M) (mD M) (mR M) (mM M) (cpR ((mO M)) ((mS M)) 0 0) (mF M) (mU M) u1 (mZ M) (mG M) (mH M))) (([] : va_W)) [0, 1, 2, 3, 4, 5, 6, 7, 8, 9, 10, 11, 12] [] := ⟨rfl, rfl, rfl, rfl, rfl⟩
                refine g_VI hX hc59 [.int (nI i)] [] (c_X6_couldAll l E a (mkMV (mT M) (mS M) (mA M) (mW M) (mK M) (mP M) (mE M) (mN M) (mX M) (mL M) (mI M) (mD M) (mR M) (mM M) (cpR ((mO M)) ((mS M)) 0 0) (mF M) (mU M) u1 (mZ M) (mG M) (mH M)) C i h9 hu1 (by omega)) gX6_core_X6_couldAll calX6_couldAll rfl rfl rfl rfl 0 rfl rfl rfl rfl dX6_core_59 rfl ⟨Nat.zero_le _, Nat.zero_le _⟩ (fun _ => mw E a (mkMV (mT M) (mS M) (mA M) (mW M) (mK M) (mP M) (mE M) (mN M) (mX M) (mL M) (mI M) (mD M) (mR M) (mM M) (cpR ((mO M)) ((mS M)) 0 0) (mF M) (mU M) u1 (mZ M) (mG M) (mH M))) [0, 1, 2, 3, 4, 5, 6, 7, 8, 9, 10, 11, 12] rfl (fun _ => rfl) (fun _ hu59 => ?_)
                refine g_if_eq hX 69 dX6_core_62 (by decide) (fun c62 => ?_) (fun c62 => ?_)
                · replace c62 := bI_0.mp c62
                  refine g_iload_n hX dX6_core_69 3 rfl ?_
                  refine g_istore_n hX (j := 1) [(1, .int (nI i)), (3, .int (nI 1)), (0, .ref (a 0)), (2, .int (nI i))] dX6_core_70 rfl (by rw [hnL]; rfl) rfl ?_
                  refine g_iinc hX (j := 2) (nI (i + 1)) [(2, .int (nI (i + 1))), (1, .int (nI i)), (3, .int (nI 1)), (0, .ref (a 0))] dX6_core_71 3 rfl (iinc_n _ _) (by rw [hnL]; rfl) rfl ?_
                  refine g_goto hX 9 dX6_core_74 (by decide) ?_
                  exact g_lv _ [3, 1, 0] rfl (ih9 (i + 1) (nI i) (by omega) (by omega) (by first | exact hbest.trans (mn_no (Or.inl (by rw [coreP, decide_eq_false c29]; rfl))).symm | exact hbest.trans (mn_no (Or.inr ⟨s, hms, by omega⟩)).symm | exact hbest.trans (mn_no (Or.inl (by rw [co_p h9 (by omega) c29, c62]; rfl))).symm | exact (mn_step (by omega) (by rw [co_p h9 (by omega) c29, c62]; rfl) (Or.inr ⟨s, hms, by omega⟩)).symm | exact (mn_step (by omega) (by rw [co_p h9 (by omega) c29, c62]; rfl) (Or.inl ((mn_neg (by omega)).mp (hbest ▸ c33)))).symm))
                · replace c62 := mt bI_0.mpr c62
                  replace c62 := bNf c62
                  refine g_iload_n hX dX6_core_65 2 rfl ?_
                  refine g_goto hX 70 dX6_core_66 (by decide) ?_
                  refine g_istore_n hX (j := 1) [(1, .int (nI s)), (3, .int (nI 1)), (0, .ref (a 0)), (2, .int (nI i))] dX6_core_70 rfl (by rw [hnL]; rfl) rfl ?_
                  refine g_iinc hX (j := 2) (nI (i + 1)) [(2, .int (nI (i + 1))), (1, .int (nI s)), (3, .int (nI 1)), (0, .ref (a 0))] dX6_core_71 3 rfl (iinc_n _ _) (by rw [hnL]; rfl) rfl ?_
                  refine g_goto hX 9 dX6_core_74 (by decide) ?_
                  exact g_lv _ [3, 1, 0] rfl (ih9 (i + 1) (nI s) (by omega) (by omega) (by first | exact hbest.trans (mn_no (Or.inl (by rw [coreP, decide_eq_false c29]; rfl))).symm | exact hbest.trans (mn_no (Or.inr ⟨s, hms, by omega⟩)).symm | exact hbest.trans (mn_no (Or.inl (by rw [co_p h9 (by omega) c29, c62]; rfl))).symm | exact (mn_step (by omega) (by rw [co_p h9 (by omega) c29, c62]; rfl) (Or.inr ⟨s, hms, by omega⟩)).symm | exact (mn_step (by omega) (by rw [co_p h9 (by omega) c29, c62]; rfl) (Or.inl ((mn_neg (by omega)).mp (hbest ▸ c33)))).symm))
  exact g_lv _ [2, 1, 0] rfl (lp9 _ 0 (-4) (Nat.lt_succ_self _) (Nat.zero_le _) rfl)
set_option maxHeartbeats 4000000 in
set_option maxRecDepth 100000 in
theorem c_X6_cut (l : Launch) (E : EV) (a : Nat → Nat) (M : MV) (C : FC) (m : Nat) (hD : DI C m) (hm : m < 2 ^ 29) (hN1 : 1 ≤ cN C) (hS : RW C (mS M)) (hTm : cT C = mT M) : KI l yX6_cut wsX6_cut (rmN 5) E (σ := MV) [.ref (a 0)] (mw E a M) (fun u => KS M u) (fun u => (bI1 (cutP C) (1 <<< cN C))) (fun u => mw E a u) 0 0 := by
  refine KI.of (cc := cX6_cut) (maxL := 4) (ty := .int) (hnar := fun _ _ => rfl) rfl rfl rfl (fun x hX hin hret hnL => ?_)
  replace hX : CX x l cX6_cut RX6 wsX6_cut E (rmN 5) := hX
  show GG x 0 0 (mw E a M) 0 [(0, .ref (a 0))] []
  have inRX6 : ∀ w ∈ wsX60, w ∈ wsX6_cut := by decide +kernel
  have fl7 : Cond.fieldLink RX6 7 "LieForceModel" "st" "[I" ∈ wsX6_cut := by decide +kernel
  obtain ⟨hC, hVY, hZ, hYm⟩ := id hD
  obtain ⟨⟨h9, h64, h512, hT, hI⟩, hK⟩ := id hC
  have hV := DI_VB hD (by omega)
  have hs9 := sh9 h9
  have hst := stM_lt h9
  have hNO := RB_cp (f := mO M) h9 hS.1
  refine g_aload_n hX dX6_cut_0 0 rfl ?_
  have hc1 : CUT (mw E a M) (mw E a M) (([] : va_W)) [0, 1, 2, 3, 4, 5, 6, 7, 8, 9, 10, 11, 12] [] := ⟨rfl, rfl, rfl, rfl, rfl⟩
  refine g_VV hX hc1 [] [] (c_X6_findWorlds l E a M C (by first | assumption | omega) hS.1) gX6_cut_X6_findWorlds calX6_findWorlds rfl rfl rfl rfl 0 rfl rfl rfl rfl dX6_cut_1 rfl ⟨Nat.zero_le _, Nat.zero_le _⟩ (fun u1 => mw E a (mkMV (mT M) (mS M) (mA M) (mW M) (mK M) (mP M) (mE M) (mN M) (mX M) (mL M) (mI M) (mD M) (mR M) (mM M) (cpR ((mO M)) ((mS M)) 0 0) (mF M) (mU M) u1 (mZ M) (mG M) (mH M))) [0, 1, 2, 3, 4, 5, 6, 7, 8, 9, 10, 11, 12] rfl (fun _ => rfl) (fun u1 hu1 => ?_)
  refine g_bipush hX ((-4)) dX6_cut_4 rfl ?_
  refine g_istore_n hX (j := 1) [(1, .int (-4)), (0, .ref (a 0))] dX6_cut_6 rfl (by rw [hnL]; rfl) rfl ?_
  refine g_iconst hX (nI 0) dX6_cut_7 rfl ?_
  refine g_istore_n hX (j := 2) [(2, .int (nI 0)), (1, .int (-4)), (0, .ref (a 0))] dX6_cut_8 rfl (by rw [hnL]; rfl) rfl ?_
  have lp9 : ∀ (fuel : Nat) (i : Nat) (best : Int32), 1 <<< cN C - i < fuel → (i ≤ 1 <<< cN C) → (best = bI1 (cutP C) i) → GG x 0 0 (mw E a (mkMV (mT M) (mS M) (mA M) (mW M) (mK M) (mP M) (mE M) (mN M) (mX M) (mL M) (mI M) (mD M) (mR M) (mM M) (cpR ((mO M)) ((mS M)) 0 0) (mF M) (mU M) u1 (mZ M) (mG M) (mH M))) 9 [(0, .ref (a 0)), (1, .int best), (2, .int (nI i))] [] := by
    intro fuel
    induction fuel with
    | zero => intro i best hm; exact absurd hm (Nat.not_lt_zero _)
    | succ fuel ih9 =>
      intro i best hm9 hi hbest
      refine g_iload_n hX dX6_cut_9 2 rfl ?_
      refine g_iconst hX (nI 1) dX6_cut_10 rfl ?_
      refine g_aload_n hX dX6_cut_11 0 rfl ?_
      refine g_get hX (v := .ref (a 1)) 0 inRX6 (atModel_0 _ _ _ _ _ _ _ _ _ _ _ _ _ _ _ _ _ _ _ _ _ _ _) rfl 1 rfl fl7 rfl rfl dX6_cut_12 ?_
      refine g_iconst hX (nI 2) dX6_cut_15 rfl ?_
      refine g_iald hX (nI (cN C)) 1 0 (atModel_1 _ _ _ _ _ _ _ _ _ _ _ _ _ _ _ _ _ _ _ _ _ _ _) rfl (vp_in_nI (by omega) (by omega)) ((ald_n (g := fun zz => (mS M) zz) (i := 2) (by omega)).trans (RB_N hS.1)) dX6_cut_16 ?_
      refine g_ishl hX (nI (1 <<< (cN C))) dX6_cut_17 (sh_l _ (by omega)) ?_
      refine g_icmp_ge hX 84 dX6_cut_18 (by decide) (fun c18 => ?_) (fun c18 => ?_)
      · replace c18 := (nI_leI (by omega) (by omega)).mp c18
        refine g_iload_n hX dX6_cut_84 1 rfl ?_
        exact g_eq rfl rfl (congrArg (fun z => [Value.int z]) (by show _ = bI1 _ _; rw [hbest, show i = 1 <<< cN C by omega])) (hret (mkMV (mT M) (mS M) (mA M) (mW M) (mK M) (mP M) (mE M) (mN M) (mX M) (mL M) (mI M) (mD M) (mR M) (mM M) (cpR ((mO M)) ((mS M)) 0 0) (mF M) (mU M) u1 (mZ M) (mG M) (mH M)) _ _ (⟨⟨rfl, rfl, rfl, rfl, rfl, rfl, rfl⟩, ⟨rfl, rfl⟩, rfl⟩) dX6_cut_85)
      · replace c18 := mt (nI_leI (by omega) (by omega)).mpr c18
        refine g_iload_n hX dX6_cut_21 2 rfl ?_
        refine g_aload_n hX dX6_cut_22 0 rfl ?_
        have hc23 : CUT (mw E a (mkMV (mT M) (mS M) (mA M) (mW M) (mK M) (mP M) (mE M) (mN M) (mX M) (mL M) (mI M) (mD M) (mR M) (mM M) (cpR ((mO M)) ((mS M)) 0 0) (mF M) (mU M) u1 (mZ M) (mG M) (mH M))) (mw E a (mkMV (mT M) (mS M) (mA M) (mW M) (mK M) (mP M) (mE M) (mN M) (mX M) (mL M) (mI M) (mD M) (mR M) (mM M) (cpR ((mO M)) ((mS M)) 0 0) (mF M) (mU M) u1 (mZ M) (mG M) (mH M))) (([] : va_W)) [0, 1, 2, 3, 4, 5, 6, 7, 8, 9, 10, 11, 12] [] := ⟨rfl, rfl, rfl, rfl, rfl⟩
        refine g_VI hX hc23 [] [.int (nI i)] (c_X6_standing l E a (mkMV (mT M) (mS M) (mA M) (mW M) (mK M) (mP M) (mE M) (mN M) (mX M) (mL M) (mI M) (mD M) (mR M) (mM M) (cpR ((mO M)) ((mS M)) 0 0) (mF M) (mU M) u1 (mZ M) (mG M) (mH M)) C (by first | assumption | omega) hNO) gX6_cut_X6_standing calX6_standing rfl rfl rfl rfl 0 rfl rfl rfl rfl dX6_cut_23 rfl ⟨Nat.zero_le _, Nat.zero_le _⟩ (fun _ => mw E a (mkMV (mT M) (mS M) (mA M) (mW M) (mK M) (mP M) (mE M) (mN M) (mX M) (mL M) (mI M) (mD M) (mR M) (mM M) (cpR ((mO M)) ((mS M)) 0 0) (mF M) (mU M) u1 (mZ M) (mG M) (mH M))) [0, 1, 2, 3, 4, 5, 6, 7, 8, 9, 10, 11, 12] rfl (fun _ => rfl) (fun _ hu23 => ?_)
        refine g_iconst hX ((-1)) dX6_cut_26 rfl ?_
        refine g_ixor hX (nI (stM C) ^^^ (-1)) dX6_cut_27 rfl ?_
        refine g_iand hX (nI (andn i (stM C))) dX6_cut_28 (and_not (by omega)) ?_
        refine g_if_ne hX 51 dX6_cut_29 (by decide) (fun c29 => ?_) (fun c29 => ?_)
        · replace c29 := mt (nz_eq (by exact Nat.lt_of_le_of_lt (Nat.le_of_lt_succ (Nat.lt_succ_of_lt (andn_lt (n := 9) _ (by omega) (by decide)))) (by decide))).mpr c29
          refine g_iconst hX (nI 0) dX6_cut_51 rfl ?_
          refine g_istore_n hX (j := 3) [(3, .int (nI 0)), (0, .ref (a 0)), (1, .int best), (2, .int (nI i))] dX6_cut_52 rfl (by rw [hnL]; rfl) rfl ?_
          refine g_iload_n hX dX6_cut_53 0 rfl ?_
          refine g_if_eq hX 78 dX6_cut_54 (by decide) (fun c54 => ?_) (fun c54 => ?_)
          · replace c54 := (nz_eq (by omega)).mp c54
            refine g_iinc hX (j := 2) (nI (i + 1)) [(2, .int (nI (i + 1))), (3, .int (nI 0)), (0, .ref (a 0)), (1, .int best)] dX6_cut_78 3 rfl (iinc_n _ _) (by rw [hnL]; rfl) rfl ?_
            refine g_goto hX 9 dX6_cut_81 (by decide) ?_
            exact g_lv _ [2, 3, 0] rfl (ih9 (i + 1) best (by omega) (by omega) (by first | exact hbest.trans (mn_no (Or.inl (by rw [cutP, decide_eq_false c29]; rfl))).symm | exact hbest.trans (mn_no (Or.inr ⟨s, hms, by omega⟩)).symm | exact hbest.trans (mn_no (Or.inl (by rw [cu_p h9 c29, c69]))).symm | exact (mn_step (by omega) (by rw [cu_p h9 c29, c69]) (Or.inr ⟨s, hms, by omega⟩)).symm | exact (mn_step (by omega) (by rw [cu_p h9 c29, c69]) (Or.inl ((mn_neg (by omega)).mp (hbest ▸ c33)))).symm))
          · replace c54 := mt (nz_eq (by omega)).mpr c54
            exact absurd c54 (by simp)
        · replace c29 := (nz_eq (by exact Nat.lt_of_le_of_lt (Nat.le_of_lt_succ (Nat.lt_succ_of_lt (andn_lt (n := 9) _ (by omega) (by decide)))) (by decide))).mp c29
          refine g_iload_n hX dX6_cut_32 1 rfl ?_
          refine g_if_lt hX 47 dX6_cut_33 (by decide) (fun c33 => ?_) (fun c33 => ?_)
          · skip
            refine g_iconst hX (nI 1) dX6_cut_47 rfl ?_
            refine g_goto hX 52 dX6_cut_48 (by decide) ?_
            refine g_istore_n hX (j := 3) [(3, .int (nI 1)), (0, .ref (a 0)), (1, .int best), (2, .int (nI i))] dX6_cut_52 rfl (by rw [hnL]; rfl) rfl ?_
            refine g_iload_n hX dX6_cut_53 0 rfl ?_
            refine g_if_eq hX 78 dX6_cut_54 (by decide) (fun c54 => ?_) (fun c54 => ?_)
            · replace c54 := (nz_eq (by omega)).mp c54
              exact absurd c54 (by simp)
            · replace c54 := mt (nz_eq (by omega)).mpr c54
              refine g_aload_n hX dX6_cut_57 1 rfl ?_
              refine g_aload_n hX dX6_cut_58 1 rfl ?_
              have hc59 : CUT (mw E a (mkMV (mT M) (mS M) (mA M) (mW M) (mK M) (mP M) (mE M) (mN M) (mX M) (mL M) (mI M) (mD M) (mR M) (mM M) (cpR ((mO M)) ((mS M)) 0 0) (mF M) (mU M) u1 (mZ M) (mG M) (mH M))) (mw E a (mkMV (mT M) (mS M) (mA M) (mW M) (mK M) (mP M) (mE M) (mN M) (mX M) (mL M) (mI M) (mD M) (mR M) (mM M) (cpR ((mO M)) ((mS M)) 0 0) (mF M) (mU M) u1 (mZ M) (mG M) (mH M))) (([] : va_W)) [0, 1, 2, 3, 4, 5, 6, 7, 8, 9, 10, 11, 12] [] := ⟨rfl, rfl, rfl, rfl, rfl⟩
              refine g_VI hX hc59 [] [.ref (a 0)] (c_X6_standing l E a (mkMV (mT M) (mS M) (mA M) (mW M) (mK M) (mP M) (mE M) (mN M) (mX M) (mL M) (mI M) (mD M) (mR M) (mM M) (cpR ((mO M)) ((mS M)) 0 0) (mF M) (mU M) u1 (mZ M) (mG M) (mH M)) C (by first | assumption | omega) hNO) gX6_cut_X6_standing calX6_standing rfl rfl rfl rfl 0 rfl rfl rfl rfl dX6_cut_59 rfl ⟨Nat.zero_le _, Nat.zero_le _⟩ (fun _ => mw E a (mkMV (mT M) (mS M) (mA M) (mW M) (mK M) (mP M) (mE M) (mN M) (mX M) (mL M) (mI M) (mD M) (mR M) (mM M) (cpR ((mO M)) ((mS M)) 0 0) (mF M) (mU M) u1 (mZ M) (mG M) (mH M))) [0, 1, 2, 3, 4, 5, 6, 7, 8, 9, 10, 11, 12] rfl (fun _ => rfl) (fun _ hu59 => ?_)
              refine g_iload_n hX dX6_cut_62 3 rfl ?_
              refine g_iconst hX ((-1)) dX6_cut_63 rfl ?_
              refine g_ixor hX (nI i ^^^ (-1)) dX6_cut_64 rfl ?_
              refine g_iand hX (nI (andn (stM C) i)) dX6_cut_65 (and_not (by omega)) ?_
              have hcs : andn (stM C) i < 512 := andn_lt (n := 9) _ hst (by decide)
              have hc66 : CUT (mw E a (mkMV (mT M) (mS M) (mA M) (mW M) (mK M) (mP M) (mE M) (mN M) (mX M) (mL M) (mI M) (mD M) (mR M) (mM M) (cpR ((mO M)) ((mS M)) 0 0) (mF M) (mU M) u1 (mZ M) (mG M) (mH M))) (mw E a (mkMV (mT M) (mS M) (mA M) (mW M) (mK M) (mP M) (mE M) (mN M) (mX M) (mL M) (mI M) (mD M) (mR M) (mM M) (cpR ((mO M)) ((mS M)) 0 0) (mF M) (mU M) u1 (mZ M) (mG M) (mH M))) (([] : va_W)) [0, 1, 2, 3, 4, 5, 6, 7, 8, 9, 10, 11, 12] [] := ⟨rfl, rfl, rfl, rfl, rfl⟩
              refine g_VI hX hc66 [.int (nI (andn (stM C) i))] [] (c_X6_couldAll l E a (mkMV (mT M) (mS M) (mA M) (mW M) (mK M) (mP M) (mE M) (mN M) (mX M) (mL M) (mI M) (mD M) (mR M) (mM M) (cpR ((mO M)) ((mS M)) 0 0) (mF M) (mU M) u1 (mZ M) (mG M) (mH M)) C (andn (stM C) i) h9 hu1 hcs) gX6_cut_X6_couldAll calX6_couldAll rfl rfl rfl rfl 0 rfl rfl rfl rfl dX6_cut_66 rfl ⟨Nat.zero_le _, Nat.zero_le _⟩ (fun _ => mw E a (mkMV (mT M) (mS M) (mA M) (mW M) (mK M) (mP M) (mE M) (mN M) (mX M) (mL M) (mI M) (mD M) (mR M) (mM M) (cpR ((mO M)) ((mS M)) 0 0) (mF M) (mU M) u1 (mZ M) (mG M) (mH M))) [0, 1, 2, 3, 4, 5, 6, 7, 8, 9, 10, 11, 12] rfl (fun _ => rfl) (fun _ hu66 => ?_)
              refine g_if_eq hX 76 dX6_cut_69 (by decide) (fun c69 => ?_) (fun c69 => ?_)
              · replace c69 := bI_0.mp c69
                refine g_iload_n hX dX6_cut_76 2 rfl ?_
                refine g_istore_n hX (j := 1) [(1, .int best), (3, .int (nI 1)), (0, .ref (a 0)), (2, .int (nI i))] dX6_cut_77 rfl (by rw [hnL]; rfl) rfl ?_
                refine g_iinc hX (j := 2) (nI (i + 1)) [(2, .int (nI (i + 1))), (1, .int best), (3, .int (nI 1)), (0, .ref (a 0))] dX6_cut_78 3 rfl (iinc_n _ _) (by rw [hnL]; rfl) rfl ?_
                refine g_goto hX 9 dX6_cut_81 (by decide) ?_
                exact g_lv _ [3, 1, 0] rfl (ih9 (i + 1) best (by omega) (by omega) (by first | exact hbest.trans (mn_no (Or.inl (by rw [cutP, decide_eq_false c29]; rfl))).symm | exact hbest.trans (mn_no (Or.inr ⟨s, hms, by omega⟩)).symm | exact hbest.trans (mn_no (Or.inl (by rw [cu_p h9 c29, c69]))).symm | exact (mn_step (by omega) (by rw [cu_p h9 c29, c69]) (Or.inr ⟨s, hms, by omega⟩)).symm | exact (mn_step (by omega) (by rw [cu_p h9 c29, c69]) (Or.inl ((mn_neg (by omega)).mp (hbest ▸ c33)))).symm))
              · replace c69 := mt bI_0.mpr c69
                replace c69 := bNf c69
                refine g_iload_n hX dX6_cut_72 3 rfl ?_
                refine g_goto hX 77 dX6_cut_73 (by decide) ?_
                refine g_istore_n hX (j := 1) [(1, .int (nI i)), (3, .int (nI 1)), (0, .ref (a 0)), (2, .int (nI i))] dX6_cut_77 rfl (by rw [hnL]; rfl) rfl ?_
                refine g_iinc hX (j := 2) (nI (i + 1)) [(2, .int (nI (i + 1))), (1, .int (nI i)), (3, .int (nI 1)), (0, .ref (a 0))] dX6_cut_78 3 rfl (iinc_n _ _) (by rw [hnL]; rfl) rfl ?_
                refine g_goto hX 9 dX6_cut_81 (by decide) ?_
                exact g_lv _ [3, 1, 0] rfl (ih9 (i + 1) (nI i) (by omega) (by omega) (by first | exact hbest.trans (mn_no (Or.inl (by rw [cutP, decide_eq_false c29]; rfl))).symm | exact hbest.trans (mn_no (Or.inr ⟨s, hms, by omega⟩)).symm | exact hbest.trans (mn_no (Or.inl (by rw [cu_p h9 c29, c69]))).symm | exact (mn_step (by omega) (by rw [cu_p h9 c29, c69]) (Or.inr ⟨s, hms, by omega⟩)).symm | exact (mn_step (by omega) (by rw [cu_p h9 c29, c69]) (Or.inl ((mn_neg (by omega)).mp (hbest ▸ c33)))).symm))
          · skip
            obtain ⟨s, hms, hsl, hbs⟩ := mn_get (by omega) hbest c33
            subst hbs
            refine g_iload_n hX dX6_cut_36 2 rfl ?_
            have hc37 : CUT (mw E a (mkMV (mT M) (mS M) (mA M) (mW M) (mK M) (mP M) (mE M) (mN M) (mX M) (mL M) (mI M) (mD M) (mR M) (mM M) (cpR ((mO M)) ((mS M)) 0 0) (mF M) (mU M) u1 (mZ M) (mG M) (mH M))) (([] : va_W)) (mw E a (mkMV (mT M) (mS M) (mA M) (mW M) (mK M) (mP M) (mE M) (mN M) (mX M) (mL M) (mI M) (mD M) (mR M) (mM M) (cpR ((mO M)) ((mS M)) 0 0) (mF M) (mU M) u1 (mZ M) (mG M) (mH M))) [] [0, 1, 2, 3, 4, 5, 6, 7, 8, 9, 10, 11, 12] := ⟨rfl, rfl, rfl, rfl, rfl⟩
            refine g_TI hX hc37 [.int (nI i)] [] (c_X6_bits l E i (by omega)) gX6_cut_X6_bits calX6_bits rfl rfl rfl rfl dX6_cut_37 rfl ⟨Nat.zero_le _, Nat.zero_le _⟩ (fun _ => mw E a (mkMV (mT M) (mS M) (mA M) (mW M) (mK M) (mP M) (mE M) (mN M) (mX M) (mL M) (mI M) (mD M) (mR M) (mM M) (cpR ((mO M)) ((mS M)) 0 0) (mF M) (mU M) u1 (mZ M) (mG M) (mH M))) [0, 1, 2, 3, 4, 5, 6, 7, 8, 9, 10, 11, 12] rfl (fun _ => rfl) (fun _ hu37 => ?_)
            refine g_iload_n hX dX6_cut_40 1 rfl ?_
            have hc41 : CUT (mw E a (mkMV (mT M) (mS M) (mA M) (mW M) (mK M) (mP M) (mE M) (mN M) (mX M) (mL M) (mI M) (mD M) (mR M) (mM M) (cpR ((mO M)) ((mS M)) 0 0) (mF M) (mU M) u1 (mZ M) (mG M) (mH M))) (([] : va_W)) (mw E a (mkMV (mT M) (mS M) (mA M) (mW M) (mK M) (mP M) (mE M) (mN M) (mX M) (mL M) (mI M) (mD M) (mR M) (mM M) (cpR ((mO M)) ((mS M)) 0 0) (mF M) (mU M) u1 (mZ M) (mG M) (mH M))) [] [0, 1, 2, 3, 4, 5, 6, 7, 8, 9, 10, 11, 12] := ⟨rfl, rfl, rfl, rfl, rfl⟩
            refine g_TI hX hc41 [.int (nI s)] [.int (nI (pop i))] (c_X6_bits l E s hsl) gX6_cut_X6_bits calX6_bits rfl rfl rfl rfl dX6_cut_41 rfl ⟨Nat.zero_le _, Nat.zero_le _⟩ (fun _ => mw E a (mkMV (mT M) (mS M) (mA M) (mW M) (mK M) (mP M) (mE M) (mN M) (mX M) (mL M) (mI M) (mD M) (mR M) (mM M) (cpR ((mO M)) ((mS M)) 0 0) (mF M) (mU M) u1 (mZ M) (mG M) (mH M))) [0, 1, 2, 3, 4, 5, 6, 7, 8, 9, 10, 11, 12] rfl (fun _ => rfl) (fun _ hu41 => ?_)
            have hp1 := pop9 i (by omega)
            have hp2 := pop9 s hsl
            refine g_icmp_ge hX 51 dX6_cut_44 (by decide) (fun c44 => ?_) (fun c44 => ?_)
            · replace c44 := (nI_leI (by omega) (by omega)).mp c44
              refine g_iconst hX (nI 0) dX6_cut_51 rfl ?_
              refine g_istore_n hX (j := 3) [(3, .int (nI 0)), (0, .ref (a 0)), (1, .int (nI s)), (2, .int (nI i))] dX6_cut_52 rfl (by rw [hnL]; rfl) rfl ?_
              refine g_iload_n hX dX6_cut_53 0 rfl ?_
              refine g_if_eq hX 78 dX6_cut_54 (by decide) (fun c54 => ?_) (fun c54 => ?_)
              · replace c54 := (nz_eq (by omega)).mp c54
                refine g_iinc hX (j := 2) (nI (i + 1)) [(2, .int (nI (i + 1))), (3, .int (nI 0)), (0, .ref (a 0)), (1, .int (nI s))] dX6_cut_78 3 rfl (iinc_n _ _) (by rw [hnL]; rfl) rfl ?_
                refine g_goto hX 9 dX6_cut_81 (by decide) ?_
                exact g_lv _ [2, 3, 0] rfl (ih9 (i + 1) (nI s) (by omega) (by omega) (by first | exact hbest.trans (mn_no (Or.inl (by rw [cutP, decide_eq_false c29]; rfl))).symm | exact hbest.trans (mn_no (Or.inr ⟨s, hms, by omega⟩)).symm | exact hbest.trans (mn_no (Or.inl (by rw [cu_p h9 c29, c69]))).symm | exact (mn_step (by omega) (by rw [cu_p h9 c29, c69]) (Or.inr ⟨s, hms, by omega⟩)).symm | exact (mn_step (by omega) (by rw [cu_p h9 c29, c69]) (Or.inl ((mn_neg (by omega)).mp (hbest ▸ c33)))).symm))
              · replace c54 := mt (nz_eq (by omega)).mpr c54
                exact absurd c54 (by simp)
            · replace c44 := mt (nI_leI (by omega) (by omega)).mpr c44
              refine g_iconst hX (nI 1) dX6_cut_47 rfl ?_
              refine g_goto hX 52 dX6_cut_48 (by decide) ?_
              refine g_istore_n hX (j := 3) [(3, .int (nI 1)), (0, .ref (a 0)), (1, .int (nI s)), (2, .int (nI i))] dX6_cut_52 rfl (by rw [hnL]; rfl) rfl ?_
              refine g_iload_n hX dX6_cut_53 0 rfl ?_
              refine g_if_eq hX 78 dX6_cut_54 (by decide) (fun c54 => ?_) (fun c54 => ?_)
              · replace c54 := (nz_eq (by omega)).mp c54
                exact absurd c54 (by simp)
              · replace c54 := mt (nz_eq (by omega)).mpr c54
                refine g_aload_n hX dX6_cut_57 1 rfl ?_
                refine g_aload_n hX dX6_cut_58 1 rfl ?_
                have hc59 : CUT (mw E a (mkMV (mT M) (mS M) (mA M) (mW M) (mK M) (mP M) (mE M) (mN M) (mX M) (mL M) (mI M) (mD M) (mR M) (mM M) (cpR ((mO M)) ((mS M)) 0 0) (mF M) (mU M) u1 (mZ M) (mG M) (mH M))) (mw E a (mkMV (mT M) (mS M) (mA M) (mW M) (mK M) (mP M) (mE M) (mN M) (mX M) (mL M) (mI M) (mD M) (mR M) (mM M) (cpR ((mO M)) ((mS M)) 0 0) (mF M) (mU M) u1 (mZ M) (mG M) (mH M))) (([] : va_W)) [0, 1, 2, 3, 4, 5, 6, 7, 8, 9, 10, 11, 12] [] := ⟨rfl, rfl, rfl, rfl, rfl⟩
                refine g_VI hX hc59 [] [.ref (a 0)] (c_X6_standing l E a (mkMV (mT M) (mS M) (mA M) (mW M) (mK M) (mP M) (mE M) (mN M) (mX M) (mL M) (mI M) (mD M) (mR M) (mM M) (cpR ((mO M)) ((mS M)) 0 0) (mF M) (mU M) u1 (mZ M) (mG M) (mH M)) C (by first | assumption | omega) hNO) gX6_cut_X6_standing calX6_standing rfl rfl rfl rfl 0 rfl rfl rfl rfl dX6_cut_59 rfl ⟨Nat.zero_le _, Nat.zero_le _⟩ (fun _ => mw E a (mkMV (mT M) (mS M) (mA M) (mW M) (mK M) (mP M) (mE M) (mN M) (mX M) (mL M) (mI M) (mD M) (mR M) (mM M) (cpR ((mO M)) ((mS M)) 0 0) (mF M) (mU M) u1 (mZ M) (mG M) (mH M))) [0, 1, 2, 3, 4, 5, 6, 7, 8, 9, 10, 11, 12] rfl (fun _ => rfl) (fun _ hu59 => ?_)
                refine g_iload_n hX dX6_cut_62 3 rfl ?_
                refine g_iconst hX ((-1)) dX6_cut_63 rfl ?_
                refine g_ixor hX (nI i ^^^ (-1)) dX6_cut_64 rfl ?_
                refine g_iand hX (nI (andn (stM C) i)) dX6_cut_65 (and_not (by omega)) ?_
                have hcs : andn (stM C) i < 512 := andn_lt (n := 9) _ hst (by decide)
                have hc66 : CUT (mw E a (mkMV (mT M) (mS M) (mA M) (mW M) (mK M) (mP M) (mE M) (mN M) (mX M) (mL M) (mI M) (mD M) (mR M) (mM M) (cpR ((mO M)) ((mS M)) 0 0) (mF M) (mU M) u1 (mZ M) (mG M) (mH M))) (mw E a (mkMV (mT M) (mS M) (mA M) (mW M) (mK M) (mP M) (mE M) (mN M) (mX M) (mL M) (mI M) (mD M) (mR M) (mM M) (cpR ((mO M)) ((mS M)) 0 0) (mF M) (mU M) u1 (mZ M) (mG M) (mH M))) (([] : va_W)) [0, 1, 2, 3, 4, 5, 6, 7, 8, 9, 10, 11, 12] [] := ⟨rfl, rfl, rfl, rfl, rfl⟩
                refine g_VI hX hc66 [.int (nI (andn (stM C) i))] [] (c_X6_couldAll l E a (mkMV (mT M) (mS M) (mA M) (mW M) (mK M) (mP M) (mE M) (mN M) (mX M) (mL M) (mI M) (mD M) (mR M) (mM M) (cpR ((mO M)) ((mS M)) 0 0) (mF M) (mU M) u1 (mZ M) (mG M) (mH M)) C (andn (stM C) i) h9 hu1 hcs) gX6_cut_X6_couldAll calX6_couldAll rfl rfl rfl rfl 0 rfl rfl rfl rfl dX6_cut_66 rfl ⟨Nat.zero_le _, Nat.zero_le _⟩ (fun _ => mw E a (mkMV (mT M) (mS M) (mA M) (mW M) (mK M) (mP M) (mE M) (mN M) (mX M) (mL M) (mI M) (mD M) (mR M) (mM M) (cpR ((mO M)) ((mS M)) 0 0) (mF M) (mU M) u1 (mZ M) (mG M) (mH M))) [0, 1, 2, 3, 4, 5, 6, 7, 8, 9, 10, 11, 12] rfl (fun _ => rfl) (fun _ hu66 => ?_)
                refine g_if_eq hX 76 dX6_cut_69 (by decide) (fun c69 => ?_) (fun c69 => ?_)
                · replace c69 := bI_0.mp c69
                  refine g_iload_n hX dX6_cut_76 2 rfl ?_
                  refine g_istore_n hX (j := 1) [(1, .int (nI s)), (3, .int (nI 1)), (0, .ref (a 0)), (2, .int (nI i))] dX6_cut_77 rfl (by rw [hnL]; rfl) rfl ?_
                  refine g_iinc hX (j := 2) (nI (i + 1)) [(2, .int (nI (i + 1))), (1, .int (nI s)), (3, .int (nI 1)), (0, .ref (a 0))] dX6_cut_78 3 rfl (iinc_n _ _) (by rw [hnL]; rfl) rfl ?_
                  refine g_goto hX 9 dX6_cut_81 (by decide) ?_
                  exact g_lv _ [3, 1, 0] rfl (ih9 (i + 1) (nI s) (by omega) (by omega) (by first | exact hbest.trans (mn_no (Or.inl (by rw [cutP, decide_eq_false c29]; rfl))).symm | exact hbest.trans (mn_no (Or.inr ⟨s, hms, by omega⟩)).symm | exact hbest.trans (mn_no (Or.inl (by rw [cu_p h9 c29, c69]))).symm | exact (mn_step (by omega) (by rw [cu_p h9 c29, c69]) (Or.inr ⟨s, hms, by omega⟩)).symm | exact (mn_step (by omega) (by rw [cu_p h9 c29, c69]) (Or.inl ((mn_neg (by omega)).mp (hbest ▸ c33)))).symm))
                · replace c69 := mt bI_0.mpr c69
                  replace c69 := bNf c69
                  refine g_iload_n hX dX6_cut_72 3 rfl ?_
                  refine g_goto hX 77 dX6_cut_73 (by decide) ?_
                  refine g_istore_n hX (j := 1) [(1, .int (nI i)), (3, .int (nI 1)), (0, .ref (a 0)), (2, .int (nI i))] dX6_cut_77 rfl (by rw [hnL]; rfl) rfl ?_
                  refine g_iinc hX (j := 2) (nI (i + 1)) [(2, .int (nI (i + 1))), (1, .int (nI i)), (3, .int (nI 1)), (0, .ref (a 0))] dX6_cut_78 3 rfl (iinc_n _ _) (by rw [hnL]; rfl) rfl ?_
                  refine g_goto hX 9 dX6_cut_81 (by decide) ?_
                  exact g_lv _ [3, 1, 0] rfl (ih9 (i + 1) (nI i) (by omega) (by omega) (by first | exact hbest.trans (mn_no (Or.inl (by rw [cutP, decide_eq_false c29]; rfl))).symm | exact hbest.trans (mn_no (Or.inr ⟨s, hms, by omega⟩)).symm | exact hbest.trans (mn_no (Or.inl (by rw [cu_p h9 c29, c69]))).symm | exact (mn_step (by omega) (by rw [cu_p h9 c29, c69]) (Or.inr ⟨s, hms, by omega⟩)).symm | exact (mn_step (by omega) (by rw [cu_p h9 c29, c69]) (Or.inl ((mn_neg (by omega)).mp (hbest ▸ c33)))).symm))
  exact g_lv _ [2, 1, 0] rfl (lp9 _ 0 (-4) (Nat.lt_succ_self _) (Nat.zero_le _) rfl)
set_option maxHeartbeats 4000000 in
set_option maxRecDepth 100000 in
theorem c_X6_truest_n (l : Launch) (E : EV) (a : Nat → Nat) (M : MV) (C : FC) (m : Nat) (x0 : Int32) (hD : DI C m) (hm : m < 2 ^ 29) (hN1 : 1 ≤ cN C) (hS : RW C (mS M)) (hTm : cT C = mT M) (hx : win x0 (nI 0) (nI 1) = false) : KI l yX6_truest wsX6_truest (rmN 5) E (σ := MV) [.ref (a 0), .int x0] (mw E a M) (fun u => KS M u) (fun u => (-1)) (fun u => mw E a u) 0 0 := by
  refine KI.of (cc := cX6_truest) (maxL := 4) (ty := .int) (hnar := fun _ _ => rfl) rfl rfl rfl (fun x hX hin hret hnL => ?_)
  replace hX : CX x l cX6_truest RX6 wsX6_truest E (rmN 5) := hX
  show GG x 0 0 (mw E a M) 0 [(0, .ref (a 0)), (1, .int x0)] []
  obtain ⟨hC, hVY, hZ, hYm⟩ := id hD
  obtain ⟨⟨h9, h64, h512, hT, hI⟩, hK⟩ := id hC
  have hV := DI_VB hD (by omega)
  refine g_iload_n hX dX6_truest_0 1 rfl ?_
  refine g_iconst hX (nI 0) dX6_truest_1 rfl ?_
  refine g_iconst hX (nI 1) dX6_truest_2 rfl ?_
  have hc3 : CUT (mw E a M) (([] : va_W)) (mw E a M) [] [0, 1, 2, 3, 4, 5, 6, 7, 8, 9, 10, 11, 12] := ⟨rfl, rfl, rfl, rfl, rfl⟩
  refine g_TI hX hc3 [.int x0, .int (nI 0), .int (nI 1)] [] (c_X6_in_n l E x0 (nI 0) (nI 1) (by first | assumption | omega)) gX6_truest_X6_in calX6_in rfl rfl rfl rfl dX6_truest_3 rfl ⟨Nat.zero_le _, Nat.zero_le _⟩ (fun _ => mw E a M) [0, 1, 2, 3, 4, 5, 6, 7, 8, 9, 10, 11, 12] rfl (fun _ => rfl) (fun _ hu3 => ?_)
  refine g_if_ne hX 11 dX6_truest_6 (by decide) (fun c6 => ?_) (fun c6 => ?_)
  · replace c6 := mt bI_0.mpr c6
    replace c6 := bNf c6
    exact absurd c6 (by simp)
  · replace c6 := bI_0.mp c6
    refine g_iconst hX ((-1)) dX6_truest_9 rfl ?_
    exact g_eq rfl rfl rfl (hret M _ _ (⟨⟨rfl, rfl, rfl, rfl, rfl, rfl, rfl⟩, ⟨rfl, rfl⟩, rfl⟩) dX6_truest_10)
set_option maxHeartbeats 4000000 in
set_option maxRecDepth 100000 in
theorem c_X6_truest_y (l : Launch) (E : EV) (a : Nat → Nat) (M : MV) (C : FC) (m : Nat) (q : Nat) (hD : DI C m) (hm : m < 2 ^ 29) (hN1 : 1 ≤ cN C) (hS : RW C (mS M)) (hTm : cT C = mT M) (hq : q ≤ 1) : KI l yX6_truest wsX6_truest (rmN 5) E (σ := MV) [.ref (a 0), .int (nI q)] (mw E a M) (fun u => KS M u) (fun u => (nI (if q = 0 then pop (soM C (trW C 64)) else trW C 64))) (fun u => mw E a u) 0 0 := by
  refine KI.of (cc := cX6_truest) (maxL := 4) (ty := .int) (hnar := fun _ _ => rfl) rfl rfl rfl (fun x hX hin hret hnL => ?_)
  replace hX : CX x l cX6_truest RX6 wsX6_truest E (rmN 5) := hX
  show GG x 0 0 (mw E a M) 0 [(0, .ref (a 0)), (1, .int (nI q))] []
  have inRX6 : ∀ w ∈ wsX60, w ∈ wsX6_truest := by decide +kernel
  have fl34 : Cond.fieldLink RX6 34 "LieForceModel" "so" "[I" ∈ wsX6_truest := by decide +kernel
  obtain ⟨hC, hVY, hZ, hYm⟩ := id hD
  obtain ⟨⟨h9, h64, h512, hT, hI⟩, hK⟩ := id hC
  have hV := DI_VB hD (by omega)
  refine g_iload_n hX dX6_truest_0 1 rfl ?_
  refine g_iconst hX (nI 0) dX6_truest_1 rfl ?_
  refine g_iconst hX (nI 1) dX6_truest_2 rfl ?_
  have hc3 : CUT (mw E a M) (([] : va_W)) (mw E a M) [] [0, 1, 2, 3, 4, 5, 6, 7, 8, 9, 10, 11, 12] := ⟨rfl, rfl, rfl, rfl, rfl⟩
  refine g_TI hX hc3 [.int (nI q), .int (nI 0), .int (nI 1)] [] (c_X6_in_y l E q 0 1 (by omega) (by omega) (by omega)) gX6_truest_X6_in calX6_in rfl rfl rfl rfl dX6_truest_3 rfl ⟨Nat.zero_le _, Nat.zero_le _⟩ (fun _ => mw E a M) [0, 1, 2, 3, 4, 5, 6, 7, 8, 9, 10, 11, 12] rfl (fun _ => rfl) (fun _ hu3 => ?_)
  refine g_if_ne hX 11 dX6_truest_6 (by decide) (fun c6 => ?_) (fun c6 => ?_)
  · replace c6 := mt bI_0.mpr c6
    replace c6 := bNf c6
    refine g_aload_n hX dX6_truest_11 0 rfl ?_
    have hc12 : CUT (mw E a M) (mw E a M) (([] : va_W)) [0, 1, 2, 3, 4, 5, 6, 7, 8, 9, 10, 11, 12] [] := ⟨rfl, rfl, rfl, rfl, rfl⟩
    refine g_VV hX hc12 [] [] (c_X6_findWorlds l E a M C (by first | assumption | omega) hS.1) gX6_truest_X6_findWorlds calX6_findWorlds rfl rfl rfl rfl 0 rfl rfl rfl rfl dX6_truest_12 rfl ⟨Nat.zero_le _, Nat.zero_le _⟩ (fun u12 => mw E a (mkMV (mT M) (mS M) (mA M) (mW M) (mK M) (mP M) (mE M) (mN M) (mX M) (mL M) (mI M) (mD M) (mR M) (mM M) (cpR ((mO M)) ((mS M)) 0 0) (mF M) (mU M) u12 (mZ M) (mG M) (mH M))) [0, 1, 2, 3, 4, 5, 6, 7, 8, 9, 10, 11, 12] rfl (fun _ => rfl) (fun u12 hu12 => ?_)
    refine g_iconst hX (nI 0) dX6_truest_15 rfl ?_
    refine g_istore_n hX (j := 2) [(2, .int (nI 0)), (0, .ref (a 0)), (1, .int (nI q))] dX6_truest_16 rfl (by rw [hnL]; rfl) rfl ?_
    refine g_iconst hX (nI 1) dX6_truest_17 rfl ?_
    refine g_istore_n hX (j := 3) [(3, .int (nI 1)), (2, .int (nI 0)), (0, .ref (a 0)), (1, .int (nI q))] dX6_truest_18 rfl (by rw [hnL]; rfl) rfl ?_
    have lp19 : ∀ (fuel : Nat) (i : Nat) (w : Nat), 64 - i < fuel → (i ≤ 64) → (w = trW C i) → GG x 0 0 (mw E a (mkMV (mT M) (mS M) (mA M) (mW M) (mK M) (mP M) (mE M) (mN M) (mX M) (mL M) (mI M) (mD M) (mR M) (mM M) (cpR ((mO M)) ((mS M)) 0 0) (mF M) (mU M) u12 (mZ M) (mG M) (mH M))) 19 [(0, .ref (a 0)), (1, .int (nI q)), (2, .int (nI w)), (3, .int (nI i))] [] := by
      intro fuel
      induction fuel with
      | zero => intro i w hm; exact absurd hm (Nat.not_lt_zero _)
      | succ fuel ih19 =>
        intro i w hm19 hi hw
        have hw64 : w < 64 := by rw [hw]; exact trW_lt C i hi
        have hQw := hu12 w hw64
        have hlw := so_lt h9 hu12 hw64
        refine g_iload_n hX dX6_truest_19 3 rfl ?_
        refine g_bipush hX (nI 64) dX6_truest_20 rfl ?_
        refine g_icmp_ge hX 58 dX6_truest_22 (by decide) (fun c22 => ?_) (fun c22 => ?_)
        · replace c22 := (nI_leI (by omega) (by omega)).mp c22
          refine g_iload_n hX dX6_truest_58 1 rfl ?_
          refine g_if_ne hX 74 dX6_truest_59 (by decide) (fun c59 => ?_) (fun c59 => ?_)
          · replace c59 := mt (nz_eq (by omega)).mpr c59
            refine g_iload_n hX dX6_truest_74 2 rfl ?_
            exact g_eq rfl rfl (congrArg (fun z => [Value.int z]) (by show _ = nI (ite _ _ _); rw [show i = 64 by omega] at hw; first | (rw [if_pos c59, hQw, hw]) | (rw [if_neg c59, hw]))) (hret (mkMV (mT M) (mS M) (mA M) (mW M) (mK M) (mP M) (mE M) (mN M) (mX M) (mL M) (mI M) (mD M) (mR M) (mM M) (cpR ((mO M)) ((mS M)) 0 0) (mF M) (mU M) u12 (mZ M) (mG M) (mH M)) _ _ (⟨⟨rfl, rfl, rfl, rfl, rfl, rfl, rfl⟩, ⟨rfl, rfl⟩, rfl⟩) dX6_truest_75)
          · replace c59 := (nz_eq (by omega)).mp c59
            refine g_aload_n hX dX6_truest_62 0 rfl ?_
            refine g_get hX (v := .ref (a 9)) 0 inRX6 (atModel_0 _ _ _ _ _ _ _ _ _ _ _ _ _ _ _ _ _ _ _ _ _ _ _) rfl 17 rfl fl34 rfl rfl dX6_truest_63 ?_
            refine g_iload_n hX dX6_truest_66 2 rfl ?_
            refine g_iald hX (nI (u12 w)) 9 0 (atModel_9 _ _ _ _ _ _ _ _ _ _ _ _ _ _ _ _ _ _ _ _ _ _ _) rfl (vp_in_nI (by omega) (by omega)) (ald_n (g := fun zz => nI (u12 zz)) (i := w) (by omega)) dX6_truest_67 ?_
            have hc68 : CUT (mw E a (mkMV (mT M) (mS M) (mA M) (mW M) (mK M) (mP M) (mE M) (mN M) (mX M) (mL M) (mI M) (mD M) (mR M) (mM M) (cpR ((mO M)) ((mS M)) 0 0) (mF M) (mU M) u12 (mZ M) (mG M) (mH M))) (([] : va_W)) (mw E a (mkMV (mT M) (mS M) (mA M) (mW M) (mK M) (mP M) (mE M) (mN M) (mX M) (mL M) (mI M) (mD M) (mR M) (mM M) (cpR ((mO M)) ((mS M)) 0 0) (mF M) (mU M) u12 (mZ M) (mG M) (mH M))) [] [0, 1, 2, 3, 4, 5, 6, 7, 8, 9, 10, 11, 12] := ⟨rfl, rfl, rfl, rfl, rfl⟩
            refine g_TI hX hc68 [.int (nI (u12 w))] [] (c_X6_bits l E (u12 w) (by first | assumption | omega)) gX6_truest_X6_bits calX6_bits rfl rfl rfl rfl dX6_truest_68 rfl ⟨Nat.zero_le _, Nat.zero_le _⟩ (fun _ => mw E a (mkMV (mT M) (mS M) (mA M) (mW M) (mK M) (mP M) (mE M) (mN M) (mX M) (mL M) (mI M) (mD M) (mR M) (mM M) (cpR ((mO M)) ((mS M)) 0 0) (mF M) (mU M) u12 (mZ M) (mG M) (mH M))) [0, 1, 2, 3, 4, 5, 6, 7, 8, 9, 10, 11, 12] rfl (fun _ => rfl) (fun _ hu68 => ?_)
            refine g_goto hX 75 dX6_truest_71 (by decide) ?_
            exact g_eq rfl rfl (congrArg (fun z => [Value.int z]) (by show _ = nI (ite _ _ _); rw [show i = 64 by omega] at hw; first | (rw [if_pos c59, hQw, hw]) | (rw [if_neg c59, hw]))) (hret (mkMV (mT M) (mS M) (mA M) (mW M) (mK M) (mP M) (mE M) (mN M) (mX M) (mL M) (mI M) (mD M) (mR M) (mM M) (cpR ((mO M)) ((mS M)) 0 0) (mF M) (mU M) u12 (mZ M) (mG M) (mH M)) _ _ (⟨⟨rfl, rfl, rfl, rfl, rfl, rfl, rfl⟩, ⟨rfl, rfl⟩, rfl⟩) dX6_truest_75)
        · replace c22 := mt (nI_leI (by omega) (by omega)).mpr c22
          have hQi := hu12 i (by omega)
          have hli := so_lt h9 hu12 (w := i) (by omega)
          have hp1 := pop9 _ hli
          have hp2 := pop9 _ hlw
          refine g_aload_n hX dX6_truest_25 0 rfl ?_
          refine g_get hX (v := .ref (a 9)) 0 inRX6 (atModel_0 _ _ _ _ _ _ _ _ _ _ _ _ _ _ _ _ _ _ _ _ _ _ _) rfl 17 rfl fl34 rfl rfl dX6_truest_26 ?_
          refine g_iload_n hX dX6_truest_29 3 rfl ?_
          refine g_iald hX (nI (u12 i)) 9 0 (atModel_9 _ _ _ _ _ _ _ _ _ _ _ _ _ _ _ _ _ _ _ _ _ _ _) rfl (vp_in_nI (by omega) (by omega)) (ald_n (g := fun zz => nI (u12 zz)) (i := i) (by omega)) dX6_truest_30 ?_
          have hc31 : CUT (mw E a (mkMV (mT M) (mS M) (mA M) (mW M) (mK M) (mP M) (mE M) (mN M) (mX M) (mL M) (mI M) (mD M) (mR M) (mM M) (cpR ((mO M)) ((mS M)) 0 0) (mF M) (mU M) u12 (mZ M) (mG M) (mH M))) (([] : va_W)) (mw E a (mkMV (mT M) (mS M) (mA M) (mW M) (mK M) (mP M) (mE M) (mN M) (mX M) (mL M) (mI M) (mD M) (mR M) (mM M) (cpR ((mO M)) ((mS M)) 0 0) (mF M) (mU M) u12 (mZ M) (mG M) (mH M))) [] [0, 1, 2, 3, 4, 5, 6, 7, 8, 9, 10, 11, 12] := ⟨rfl, rfl, rfl, rfl, rfl⟩
          refine g_TI hX hc31 [.int (nI (u12 i))] [] (c_X6_bits l E (u12 i) (by first | assumption | omega)) gX6_truest_X6_bits calX6_bits rfl rfl rfl rfl dX6_truest_31 rfl ⟨Nat.zero_le _, Nat.zero_le _⟩ (fun _ => mw E a (mkMV (mT M) (mS M) (mA M) (mW M) (mK M) (mP M) (mE M) (mN M) (mX M) (mL M) (mI M) (mD M) (mR M) (mM M) (cpR ((mO M)) ((mS M)) 0 0) (mF M) (mU M) u12 (mZ M) (mG M) (mH M))) [0, 1, 2, 3, 4, 5, 6, 7, 8, 9, 10, 11, 12] rfl (fun _ => rfl) (fun _ hu31 => ?_)
          refine g_aload_n hX dX6_truest_34 0 rfl ?_
          refine g_get hX (v := .ref (a 9)) 0 inRX6 (atModel_0 _ _ _ _ _ _ _ _ _ _ _ _ _ _ _ _ _ _ _ _ _ _ _) rfl 17 rfl fl34 rfl rfl dX6_truest_35 ?_
          refine g_iload_n hX dX6_truest_38 2 rfl ?_
          refine g_iald hX (nI (u12 w)) 9 0 (atModel_9 _ _ _ _ _ _ _ _ _ _ _ _ _ _ _ _ _ _ _ _ _ _ _) rfl (vp_in_nI (by omega) (by omega)) (ald_n (g := fun zz => nI (u12 zz)) (i := w) (by omega)) dX6_truest_39 ?_
          have hc40 : CUT (mw E a (mkMV (mT M) (mS M) (mA M) (mW M) (mK M) (mP M) (mE M) (mN M) (mX M) (mL M) (mI M) (mD M) (mR M) (mM M) (cpR ((mO M)) ((mS M)) 0 0) (mF M) (mU M) u12 (mZ M) (mG M) (mH M))) (([] : va_W)) (mw E a (mkMV (mT M) (mS M) (mA M) (mW M) (mK M) (mP M) (mE M) (mN M) (mX M) (mL M) (mI M) (mD M) (mR M) (mM M) (cpR ((mO M)) ((mS M)) 0 0) (mF M) (mU M) u12 (mZ M) (mG M) (mH M))) [] [0, 1, 2, 3, 4, 5, 6, 7, 8, 9, 10, 11, 12] := ⟨rfl, rfl, rfl, rfl, rfl⟩
          refine g_TI hX hc40 [.int (nI (u12 w))] [.int (nI (pop (u12 i)))] (c_X6_bits l E (u12 w) (by first | assumption | omega)) gX6_truest_X6_bits calX6_bits rfl rfl rfl rfl dX6_truest_40 rfl ⟨Nat.zero_le _, Nat.zero_le _⟩ (fun _ => mw E a (mkMV (mT M) (mS M) (mA M) (mW M) (mK M) (mP M) (mE M) (mN M) (mX M) (mL M) (mI M) (mD M) (mR M) (mM M) (cpR ((mO M)) ((mS M)) 0 0) (mF M) (mU M) u12 (mZ M) (mG M) (mH M))) [0, 1, 2, 3, 4, 5, 6, 7, 8, 9, 10, 11, 12] rfl (fun _ => rfl) (fun _ hu40 => ?_)
          refine g_icmp_le hX 50 dX6_truest_43 (by decide) (fun c43 => ?_) (fun c43 => ?_)
          · replace c43 := (nI_leI (by omega) (by omega)).mp c43
            refine g_iload_n hX dX6_truest_50 2 rfl ?_
            refine g_istore_n hX (j := 2) [(2, .int (nI w)), (0, .ref (a 0)), (1, .int (nI q)), (3, .int (nI i))] dX6_truest_51 rfl (by rw [hnL]; rfl) rfl ?_
            refine g_iinc hX (j := 3) (nI (i + 1)) [(3, .int (nI (i + 1))), (2, .int (nI w)), (0, .ref (a 0)), (1, .int (nI q))] dX6_truest_52 3 rfl (iinc_n _ _) (by rw [hnL]; rfl) rfl ?_
            refine g_goto hX 19 dX6_truest_55 (by decide) ?_
            exact g_lv _ [2, 3, 1, 0] rfl (ih19 (i + 1) w (by omega) (by omega) (by rw [trW, ← hw, ← hQi, ← hQw]; first | rw [if_pos (by omega)] | rw [if_neg (by omega)]))
          · replace c43 := mt (nI_leI (by omega) (by omega)).mpr c43
            refine g_iload_n hX dX6_truest_46 3 rfl ?_
            refine g_goto hX 51 dX6_truest_47 (by decide) ?_
            refine g_istore_n hX (j := 2) [(2, .int (nI i)), (0, .ref (a 0)), (1, .int (nI q)), (3, .int (nI i))] dX6_truest_51 rfl (by rw [hnL]; rfl) rfl ?_
            refine g_iinc hX (j := 3) (nI (i + 1)) [(3, .int (nI (i + 1))), (2, .int (nI i)), (0, .ref (a 0)), (1, .int (nI q))] dX6_truest_52 3 rfl (iinc_n _ _) (by rw [hnL]; rfl) rfl ?_
            refine g_goto hX 19 dX6_truest_55 (by decide) ?_
            exact g_lv _ [2, 3, 1, 0] rfl (ih19 (i + 1) i (by omega) (by omega) (by rw [trW, ← hw, ← hQi, ← hQw]; first | rw [if_pos (by omega)] | rw [if_neg (by omega)]))
    exact g_lv _ [2, 3, 1, 0] rfl (lp19 _ 1 0 (Nat.lt_succ_self _) (by decide) (by simp [trW]))
  · replace c6 := bI_0.mp c6
    exact absurd c6 (by simp)
