set_option maxHeartbeats 4000000 in
set_option maxRecDepth 100000 in
theorem c_X6_readNumbers (l : Launch) (E : EV) (a : Nat → Nat) (M : MV) (due : Nat) (hL : mL M ≤ 200) (hX2 : ∀ i, mX M i < 128) (hd : due ≤ 4) (hd1 : 1 ≤ due) (hI2 : mI M ≤ 300) : KI l yX6_readNumbers wsX6_readNumbers (rmN 2) E (σ := Nat × (Nat → Nat)) [.ref (a 0), .int (nI due)] (mw E a M) (fun u => ∀ p, (rdL (mX M) (mL M) due due 0 (mI M) (mD M)).1 = some p → u.1 = p ∧ u.2 = (rdL (mX M) (mL M) due due 0 (mI M) (mD M)).2) (fun u => (bI ((rdL (mX M) (mL M) due due 0 (mI M) (mD M)).1.isSome))) (fun u => mw E a (mkMV (mT M) (mS M) (mA M) (mW M) (mK M) (mP M) (mE M) (mN M) (mX M) (mL M) u.1 u.2 (mR M) (mM M) (mO M) (mF M) (mU M) (mQ M) (mZ M) (mG M) (mH M))) 0 0 := by
  refine KI.of (cc := cX6_readNumbers) (maxL := 3) (ty := .boolean) (hnar := fun _ _ => nar_b _) rfl rfl rfl (fun x hX hin hret hnL => ?_)
  replace hX : CX x l cX6_readNumbers RX6 wsX6_readNumbers E (rmN 2) := hX
  show GG x 0 0 (mw E a M) 0 [(0, .ref (a 0)), (1, .int (nI due))] []
  have inRX6 : ∀ w ∈ wsX60, w ∈ wsX6_readNumbers := by decide +kernel
  have fl25 : Cond.fieldLink RX6 25 "LieForceModel" "told" "[I" ∈ wsX6_readNumbers := by decide +kernel
  have fl71 : Cond.fieldLink RX6 71 "LieForceModel" "at" "I" ∈ wsX6_readNumbers := by decide +kernel
  refine g_iconst hX (nI 0) dX6_readNumbers_0 rfl ?_
  refine g_istore_n hX (j := 2) [(2, .int (nI 0)), (0, .ref (a 0)), (1, .int (nI due))] dX6_readNumbers_1 rfl (by rw [hnL]; rfl) rfl ?_
  have lp2 : ∀ (fuel : Nat) (k : Nat) (p : Nat) (q : Nat → Nat), due - k < fuel → (k ≤ due) → (p ≤ mI M + 3 * k) → (rdL (mX M) (mL M) due due 0 (mI M) (mD M) = rdL (mX M) (mL M) due (due - k) k p q) → GG x 0 0 (mw E a (mkMV (mT M) (mS M) (mA M) (mW M) (mK M) (mP M) (mE M) (mN M) (mX M) (mL M) p q (mR M) (mM M) (mO M) (mF M) (mU M) (mQ M) (mZ M) (mG M) (mH M))) 2 [(0, .ref (a 0)), (1, .int (nI due)), (2, .int (nI k))] [] := by
    intro fuel
    induction fuel with
    | zero => intro k p q hm; exact absurd hm (Nat.not_lt_zero _)
    | succ fuel ih2 =>
      intro k p q hm2 hk hp he
      refine g_iload_n hX dX6_readNumbers_2 2 rfl ?_
      refine g_iload_n hX dX6_readNumbers_3 1 rfl ?_
      refine g_icmp_ge hX 144 dX6_readNumbers_4 (by decide) (fun c4 => ?_) (fun c4 => ?_)
      · replace c4 := (nI_leI (by omega) (by omega)).mp c4
        refine g_iconst hX (nI 1) dX6_readNumbers_144 rfl ?_
        exact g_eq rfl rfl (congrArg (fun z => [Value.int z]) (bret_t (by rw [he, show due - k = 0 by omega]; rfl))) (hret (p, q) _ _ (fun p2 hp2 => by rw [he, show due - k = 0 by omega] at hp2 ⊢; cases hp2; exact ⟨rfl, rfl⟩) dX6_readNumbers_145)
      · replace c4 := mt (nI_leI (by omega) (by omega)).mpr c4
        refine g_aload_n hX dX6_readNumbers_7 0 rfl ?_
        refine g_aload_n hX dX6_readNumbers_8 0 rfl ?_
        refine g_get hX (v := .int (nI p)) 0 inRX6 (atModel_0 _ _ _ _ _ _ _ _ _ _ _ _ _ _ _ _ _ _ _ _ _ _ _) rfl 10 rfl fl71 rfl rfl dX6_readNumbers_9 ?_
        have hc12 : CUT (mw E a (mkMV (mT M) (mS M) (mA M) (mW M) (mK M) (mP M) (mE M) (mN M) (mX M) (mL M) p q (mR M) (mM M) (mO M) (mF M) (mU M) (mQ M) (mZ M) (mG M) (mH M))) (mw E a (mkMV (mT M) (mS M) (mA M) (mW M) (mK M) (mP M) (mE M) (mN M) (mX M) (mL M) p q (mR M) (mM M) (mO M) (mF M) (mU M) (mQ M) (mZ M) (mG M) (mH M))) (([] : va_W)) [0, 1, 2, 3, 4, 5, 6, 7, 8, 9, 10, 11, 12] [] := ⟨rfl, rfl, rfl, rfl, rfl⟩
        refine g_VI hX hc12 [.int (nI p)] [] (c_X6_letterAt l E a (mkMV (mT M) (mS M) (mA M) (mW M) (mK M) (mP M) (mE M) (mN M) (mX M) (mL M) p q (mR M) (mM M) (mO M) (mF M) (mU M) (mQ M) (mZ M) (mG M) (mH M)) p (by first | assumption | omega) (by first | assumption | omega)) gX6_readNumbers_X6_letterAt calX6_letterAt rfl rfl rfl rfl 0 rfl rfl rfl rfl dX6_readNumbers_12 rfl ⟨Nat.zero_le _, Nat.zero_le _⟩ (fun _ => mw E a (mkMV (mT M) (mS M) (mA M) (mW M) (mK M) (mP M) (mE M) (mN M) (mX M) (mL M) p q (mR M) (mM M) (mO M) (mF M) (mU M) (mQ M) (mZ M) (mG M) (mH M))) [0, 1, 2, 3, 4, 5, 6, 7, 8, 9, 10, 11, 12] rfl (fun _ => rfl) (fun _ hu12 => ?_)
        have hc15 : CUT (mw E a (mkMV (mT M) (mS M) (mA M) (mW M) (mK M) (mP M) (mE M) (mN M) (mX M) (mL M) p q (mR M) (mM M) (mO M) (mF M) (mU M) (mQ M) (mZ M) (mG M) (mH M))) (([] : va_W)) (mw E a (mkMV (mT M) (mS M) (mA M) (mW M) (mK M) (mP M) (mE M) (mN M) (mX M) (mL M) p q (mR M) (mM M) (mO M) (mF M) (mU M) (mQ M) (mZ M) (mG M) (mH M))) [] [0, 1, 2, 3, 4, 5, 6, 7, 8, 9, 10, 11, 12] := ⟨rfl, rfl, rfl, rfl, rfl⟩
        refine g_TI hX hc15 [.int (oJ (letO ((mX M)) ((mL M)) p))] [] (c_X6_isFigure l E (oJ (letO ((mX M)) ((mL M)) p))) gX6_readNumbers_X6_isFigure calX6_isFigure rfl rfl rfl rfl dX6_readNumbers_15 rfl ⟨Nat.zero_le _, Nat.zero_le _⟩ (fun _ => mw E a (mkMV (mT M) (mS M) (mA M) (mW M) (mK M) (mP M) (mE M) (mN M) (mX M) (mL M) p q (mR M) (mM M) (mO M) (mF M) (mU M) (mQ M) (mZ M) (mG M) (mH M))) [0, 1, 2, 3, 4, 5, 6, 7, 8, 9, 10, 11, 12] rfl (fun _ => rfl) (fun _ hu15 => ?_)
        refine g_if_ne hX 23 dX6_readNumbers_18 (by decide) (fun c18 => ?_) (fun c18 => ?_)
        · replace c18 := mt bI_0.mpr c18
          replace c18 := bNf c18
          rw [figJ (letB hX2)] at c18
          obtain ⟨hc1, hc2, hc3⟩ := oJ_c c18
          refine g_aload_n hX dX6_readNumbers_23 0 rfl ?_
          refine g_get hX (v := .ref (a 6)) 0 inRX6 (atModel_0 _ _ _ _ _ _ _ _ _ _ _ _ _ _ _ _ _ _ _ _ _ _ _) rfl 11 rfl fl25 rfl rfl dX6_readNumbers_24 ?_
          refine g_iload_n hX dX6_readNumbers_27 2 rfl ?_
          refine g_aload_n hX dX6_readNumbers_28 0 rfl ?_
          refine g_aload_n hX dX6_readNumbers_29 0 rfl ?_
          refine g_get hX (v := .int (nI p)) 0 inRX6 (atModel_0 _ _ _ _ _ _ _ _ _ _ _ _ _ _ _ _ _ _ _ _ _ _ _) rfl 10 rfl fl71 rfl rfl dX6_readNumbers_30 ?_
          have hc33 : CUT (mw E a (mkMV (mT M) (mS M) (mA M) (mW M) (mK M) (mP M) (mE M) (mN M) (mX M) (mL M) p q (mR M) (mM M) (mO M) (mF M) (mU M) (mQ M) (mZ M) (mG M) (mH M))) (mw E a (mkMV (mT M) (mS M) (mA M) (mW M) (mK M) (mP M) (mE M) (mN M) (mX M) (mL M) p q (mR M) (mM M) (mO M) (mF M) (mU M) (mQ M) (mZ M) (mG M) (mH M))) (([] : va_W)) [0, 1, 2, 3, 4, 5, 6, 7, 8, 9, 10, 11, 12] [] := ⟨rfl, rfl, rfl, rfl, rfl⟩
          refine g_VI hX hc33 [.int (nI p)] [.int (nI k), .ref (a 6)] (c_X6_letterAt l E a (mkMV (mT M) (mS M) (mA M) (mW M) (mK M) (mP M) (mE M) (mN M) (mX M) (mL M) p q (mR M) (mM M) (mO M) (mF M) (mU M) (mQ M) (mZ M) (mG M) (mH M)) p (by first | assumption | omega) (by first | assumption | omega)) gX6_readNumbers_X6_letterAt calX6_letterAt rfl rfl rfl rfl 0 rfl rfl rfl rfl dX6_readNumbers_33 rfl ⟨Nat.zero_le _, Nat.zero_le _⟩ (fun _ => mw E a (mkMV (mT M) (mS M) (mA M) (mW M) (mK M) (mP M) (mE M) (mN M) (mX M) (mL M) p q (mR M) (mM M) (mO M) (mF M) (mU M) (mQ M) (mZ M) (mG M) (mH M))) [0, 1, 2, 3, 4, 5, 6, 7, 8, 9, 10, 11, 12] rfl (fun _ => rfl) (fun _ hu33 => ?_)
          refine g_eq (st' := [.int (nI (chr (letO (mX M) (mL M) p))), .int (nI k), .ref (a 6)]) rfl rfl (congrArg (fun z => Value.int z :: ([.int (nI k), .ref (a 6)] : List Value)) hc1) ?_
          refine g_bipush hX (nI 48) dX6_readNumbers_36 rfl ?_
          refine g_isub hX (nI ((chr (letO (mX M) (mL M) p)) - 48)) dX6_readNumbers_38 (pk_sub (by omega)) ?_
          refine g_iast hX (fun zz => nI ((va_up (q) k ((chr (letO (mX M) (mL M) p)) - 48)) zz)) (mw E a (mkMV (mT M) (mS M) (mA M) (mW M) (mK M) (mP M) (mE M) (mN M) (mX M) (mL M) p (va_up (q) k ((chr (letO (mX M) (mL M) p)) - 48)) (mR M) (mM M) (mO M) (mF M) (mU M) (mQ M) (mZ M) (mG M) (mH M))) 6 0 (atModel_6 _ _ _ _ _ _ _ _ _ _ _ _ _ _ _ _ _ _ _ _ _ _ _) rfl (vp_in_nI (by omega) (by omega)) (ast_n (by omega)) dX6_readNumbers_39 (stModel_6 _ _ _ _ _ _ _ _ _ _ _ _ _ _ _ _ _ _ _ _ _ _ _ _) ?_
          refine g_aload_n hX dX6_readNumbers_40 0 rfl ?_
          refine g_dup hX dX6_readNumbers_41 rfl ?_
          refine g_get hX (v := .int (nI p)) 0 inRX6 (atModel_0 _ _ _ _ _ _ _ _ _ _ _ _ _ _ _ _ _ _ _ _ _ _ _) rfl 10 rfl fl71 rfl rfl dX6_readNumbers_42 ?_
          refine g_iconst hX (nI 1) dX6_readNumbers_45 rfl ?_
          refine g_iadd hX (nI (p + 1)) dX6_readNumbers_46 (nI_add _ _) ?_
          refine g_put hX (mw E a (mkMV (mT M) (mS M) (mA M) (mW M) (mK M) (mP M) (mE M) (mN M) (mX M) (mL M) (p + 1) (va_up (q) k ((chr (letO (mX M) (mL M) p)) - 48)) (mR M) (mM M) (mO M) (mF M) (mU M) (mQ M) (mZ M) (mG M) (mH M))) 0 inRX6 tyX6_ok nmX6 (atModel_0 _ _ _ _ _ _ _ _ _ _ _ _ _ _ _ _ _ _ _ _ _ _ _) rfl 10 rfl fl71 rfl rfl rfl rfl rfl dX6_readNumbers_47 (stModel_0_10 _ _ _ _ _ _ _ _ _ _ _ _ _ _ _ _ _ _ _ _ _ _ _ _) ?_
          refine g_aload_n hX dX6_readNumbers_50 0 rfl ?_
          refine g_aload_n hX dX6_readNumbers_51 0 rfl ?_
          refine g_get hX (v := .int (nI (p + 1))) 0 inRX6 (atModel_0 _ _ _ _ _ _ _ _ _ _ _ _ _ _ _ _ _ _ _ _ _ _ _) rfl 10 rfl fl71 rfl rfl dX6_readNumbers_52 ?_
          have hc55 : CUT (mw E a (mkMV (mT M) (mS M) (mA M) (mW M) (mK M) (mP M) (mE M) (mN M) (mX M) (mL M) (p + 1) (va_up (q) k ((chr (letO (mX M) (mL M) p)) - 48)) (mR M) (mM M) (mO M) (mF M) (mU M) (mQ M) (mZ M) (mG M) (mH M))) (mw E a (mkMV (mT M) (mS M) (mA M) (mW M) (mK M) (mP M) (mE M) (mN M) (mX M) (mL M) (p + 1) (va_up (q) k ((chr (letO (mX M) (mL M) p)) - 48)) (mR M) (mM M) (mO M) (mF M) (mU M) (mQ M) (mZ M) (mG M) (mH M))) (([] : va_W)) [0, 1, 2, 3, 4, 5, 6, 7, 8, 9, 10, 11, 12] [] := ⟨rfl, rfl, rfl, rfl, rfl⟩
          refine g_VI hX hc55 [.int (nI (p + 1))] [] (c_X6_letterAt l E a (mkMV (mT M) (mS M) (mA M) (mW M) (mK M) (mP M) (mE M) (mN M) (mX M) (mL M) (p + 1) (va_up (q) k ((chr (letO (mX M) (mL M) p)) - 48)) (mR M) (mM M) (mO M) (mF M) (mU M) (mQ M) (mZ M) (mG M) (mH M)) (p + 1) (by first | assumption | omega) (by first | assumption | omega)) gX6_readNumbers_X6_letterAt calX6_letterAt rfl rfl rfl rfl 0 rfl rfl rfl rfl dX6_readNumbers_55 rfl ⟨Nat.zero_le _, Nat.zero_le _⟩ (fun _ => mw E a (mkMV (mT M) (mS M) (mA M) (mW M) (mK M) (mP M) (mE M) (mN M) (mX M) (mL M) (p + 1) (va_up (q) k ((chr (letO (mX M) (mL M) p)) - 48)) (mR M) (mM M) (mO M) (mF M) (mU M) (mQ M) (mZ M) (mG M) (mH M))) [0, 1, 2, 3, 4, 5, 6, 7, 8, 9, 10, 11, 12] rfl (fun _ => rfl) (fun _ hu55 => ?_)
          have hc58 : CUT (mw E a (mkMV (mT M) (mS M) (mA M) (mW M) (mK M) (mP M) (mE M) (mN M) (mX M) (mL M) (p + 1) (va_up (q) k ((chr (letO (mX M) (mL M) p)) - 48)) (mR M) (mM M) (mO M) (mF M) (mU M) (mQ M) (mZ M) (mG M) (mH M))) (([] : va_W)) (mw E a (mkMV (mT M) (mS M) (mA M) (mW M) (mK M) (mP M) (mE M) (mN M) (mX M) (mL M) (p + 1) (va_up (q) k ((chr (letO (mX M) (mL M) p)) - 48)) (mR M) (mM M) (mO M) (mF M) (mU M) (mQ M) (mZ M) (mG M) (mH M))) [] [0, 1, 2, 3, 4, 5, 6, 7, 8, 9, 10, 11, 12] := ⟨rfl, rfl, rfl, rfl, rfl⟩
          refine g_TI hX hc58 [.int (oJ (letO ((mX M)) ((mL M)) (p + 1)))] [] (c_X6_isFigure l E (oJ (letO ((mX M)) ((mL M)) (p + 1)))) gX6_readNumbers_X6_isFigure calX6_isFigure rfl rfl rfl rfl dX6_readNumbers_58 rfl ⟨Nat.zero_le _, Nat.zero_le _⟩ (fun _ => mw E a (mkMV (mT M) (mS M) (mA M) (mW M) (mK M) (mP M) (mE M) (mN M) (mX M) (mL M) (p + 1) (va_up (q) k ((chr (letO (mX M) (mL M) p)) - 48)) (mR M) (mM M) (mO M) (mF M) (mU M) (mQ M) (mZ M) (mG M) (mH M))) [0, 1, 2, 3, 4, 5, 6, 7, 8, 9, 10, 11, 12] rfl (fun _ => rfl) (fun _ hu58 => ?_)
          refine g_if_eq hX 101 dX6_readNumbers_61 (by decide) (fun c61 => ?_) (fun c61 => ?_)
          · replace c61 := bI_0.mp c61
            rw [figJ (letB hX2)] at c61
            have hf := fg_1 c18 c61
            have hnum := hf.2.symm
            refine g_aload_n hX dX6_readNumbers_101 0 rfl ?_
            refine g_aload_n hX dX6_readNumbers_102 0 rfl ?_
            refine g_get hX (v := .int (nI (p + 1))) 0 inRX6 (atModel_0 _ _ _ _ _ _ _ _ _ _ _ _ _ _ _ _ _ _ _ _ _ _ _) rfl 10 rfl fl71 rfl rfl dX6_readNumbers_103 ?_
            have hc106 : CUT (mw E a (mkMV (mT M) (mS M) (mA M) (mW M) (mK M) (mP M) (mE M) (mN M) (mX M) (mL M) (p + 1) (va_up (q) k ((chr (letO (mX M) (mL M) p)) - 48)) (mR M) (mM M) (mO M) (mF M) (mU M) (mQ M) (mZ M) (mG M) (mH M))) (mw E a (mkMV (mT M) (mS M) (mA M) (mW M) (mK M) (mP M) (mE M) (mN M) (mX M) (mL M) (p + 1) (va_up (q) k ((chr (letO (mX M) (mL M) p)) - 48)) (mR M) (mM M) (mO M) (mF M) (mU M) (mQ M) (mZ M) (mG M) (mH M))) (([] : va_W)) [0, 1, 2, 3, 4, 5, 6, 7, 8, 9, 10, 11, 12] [] := ⟨rfl, rfl, rfl, rfl, rfl⟩
            refine g_VI hX hc106 [.int (nI (p + 1))] [] (c_X6_letterAt l E a (mkMV (mT M) (mS M) (mA M) (mW M) (mK M) (mP M) (mE M) (mN M) (mX M) (mL M) (p + 1) (va_up (q) k ((chr (letO (mX M) (mL M) p)) - 48)) (mR M) (mM M) (mO M) (mF M) (mU M) (mQ M) (mZ M) (mG M) (mH M)) (p + 1) (by first | assumption | omega) (by first | assumption | omega)) gX6_readNumbers_X6_letterAt calX6_letterAt rfl rfl rfl rfl 0 rfl rfl rfl rfl dX6_readNumbers_106 rfl ⟨Nat.zero_le _, Nat.zero_le _⟩ (fun _ => mw E a (mkMV (mT M) (mS M) (mA M) (mW M) (mK M) (mP M) (mE M) (mN M) (mX M) (mL M) (p + 1) (va_up (q) k ((chr (letO (mX M) (mL M) p)) - 48)) (mR M) (mM M) (mO M) (mF M) (mU M) (mQ M) (mZ M) (mG M) (mH M))) [0, 1, 2, 3, 4, 5, 6, 7, 8, 9, 10, 11, 12] rfl (fun _ => rfl) (fun _ hu106 => ?_)
            refine g_iload_n hX dX6_readNumbers_109 2 rfl ?_
            refine g_iload_n hX dX6_readNumbers_110 1 rfl ?_
            refine g_iconst hX (nI 1) dX6_readNumbers_111 rfl ?_
            refine g_isub hX (nI (due - 1)) dX6_readNumbers_112 (pk_sub (by omega)) ?_
            refine g_icmp_ge hX 121 dX6_readNumbers_113 (by decide) (fun c113 => ?_) (fun c113 => ?_)
            · replace c113 := (nI_leI (by omega) (by omega)).mp c113
              refine g_bipush hX (nI 59) dX6_readNumbers_121 rfl ?_
              refine g_icmp_eq hX 128 dX6_readNumbers_123 (by decide) (fun c123 => ?_) (fun c123 => ?_)
              · replace c123 := (oJ_s (letB hX2) (by decide)).mp c123
                have hsep : letO (mX M) (mL M) (p + figs (mX M) (mL M) p) = some (if k + 1 < due then 44 else 59) := by rw [hf.1]; first | (rw [if_pos (by omega)]; exact c123) | (rw [if_neg (by omega)]; exact c123)
                refine g_aload_n hX dX6_readNumbers_128 0 rfl ?_
                refine g_dup hX dX6_readNumbers_129 rfl ?_
                refine g_get hX (v := .int (nI (p + 1))) 0 inRX6 (atModel_0 _ _ _ _ _ _ _ _ _ _ _ _ _ _ _ _ _ _ _ _ _ _ _) rfl 10 rfl fl71 rfl rfl dX6_readNumbers_130 ?_
                refine g_iconst hX (nI 1) dX6_readNumbers_133 rfl ?_
                refine g_iadd hX (nI ((p + 1) + 1)) dX6_readNumbers_134 (nI_add _ _) ?_
                refine g_put hX (mw E a (mkMV (mT M) (mS M) (mA M) (mW M) (mK M) (mP M) (mE M) (mN M) (mX M) (mL M) ((p + 1) + 1) (va_up (q) k ((chr (letO (mX M) (mL M) p)) - 48)) (mR M) (mM M) (mO M) (mF M) (mU M) (mQ M) (mZ M) (mG M) (mH M))) 0 inRX6 tyX6_ok nmX6 (atModel_0 _ _ _ _ _ _ _ _ _ _ _ _ _ _ _ _ _ _ _ _ _ _ _) rfl 10 rfl fl71 rfl rfl rfl rfl rfl dX6_readNumbers_135 (stModel_0_10 _ _ _ _ _ _ _ _ _ _ _ _ _ _ _ _ _ _ _ _ _ _ _ _) ?_
                refine g_iinc hX (j := 2) (nI (k + 1)) [(2, .int (nI (k + 1))), (0, .ref (a 0)), (1, .int (nI due))] dX6_readNumbers_138 2 rfl (iinc_n _ _) (by rw [hnL]; rfl) rfl ?_
                refine g_goto hX 2 dX6_readNumbers_141 (by decide) ?_
                exact g_lv _ [1, 2, 0] rfl (ih2 (k + 1) ((p + 1) + 1) (va_up (q) k ((chr (letO (mX M) (mL M) p)) - 48)) (by omega) (by omega) (by omega) (by first | (rw [he, rl_yes (by omega) (by omega) hsep hnum, hf.1, pb_2]) | (rw [he, rl_yes (by omega) (by omega) hsep hnum, hf.1])))
              · replace c123 := mt (oJ_s (letB hX2) (by decide)).mpr c123
                have hno := rl_no (q := q) (k := due - k) (due := due) (i := k) (by omega) rfl (Or.inr (by rw [hf.1]; first | (rw [if_pos (by omega)]; exact c123) | (rw [if_neg (by omega)]; exact c123)))
                refine g_iconst hX (nI 0) dX6_readNumbers_126 rfl ?_
                exact g_eq rfl rfl (congrArg (fun z => [Value.int z]) (bret_f (by rw [he, hno]; rfl))) (hret (p + 1, va_up (q) k ((chr (letO (mX M) (mL M) p)) - 48)) _ _ (fun p2 hp2 => by rw [he, hno] at hp2; cases hp2) dX6_readNumbers_127)
            · replace c113 := mt (nI_leI (by omega) (by omega)).mpr c113
              refine g_bipush hX (nI 44) dX6_readNumbers_116 rfl ?_
              refine g_goto hX 123 dX6_readNumbers_118 (by decide) ?_
              refine g_icmp_eq hX 128 dX6_readNumbers_123 (by decide) (fun c123 => ?_) (fun c123 => ?_)
              · replace c123 := (oJ_s (letB hX2) (by decide)).mp c123
                have hsep : letO (mX M) (mL M) (p + figs (mX M) (mL M) p) = some (if k + 1 < due then 44 else 59) := by rw [hf.1]; first | (rw [if_pos (by omega)]; exact c123) | (rw [if_neg (by omega)]; exact c123)
                refine g_aload_n hX dX6_readNumbers_128 0 rfl ?_
                refine g_dup hX dX6_readNumbers_129 rfl ?_
                refine g_get hX (v := .int (nI (p + 1))) 0 inRX6 (atModel_0 _ _ _ _ _ _ _ _ _ _ _ _ _ _ _ _ _ _ _ _ _ _ _) rfl 10 rfl fl71 rfl rfl dX6_readNumbers_130 ?_
                refine g_iconst hX (nI 1) dX6_readNumbers_133 rfl ?_
                refine g_iadd hX (nI ((p + 1) + 1)) dX6_readNumbers_134 (nI_add _ _) ?_
                refine g_put hX (mw E a (mkMV (mT M) (mS M) (mA M) (mW M) (mK M) (mP M) (mE M) (mN M) (mX M) (mL M) ((p + 1) + 1) (va_up (q) k ((chr (letO (mX M) (mL M) p)) - 48)) (mR M) (mM M) (mO M) (mF M) (mU M) (mQ M) (mZ M) (mG M) (mH M))) 0 inRX6 tyX6_ok nmX6 (atModel_0 _ _ _ _ _ _ _ _ _ _ _ _ _ _ _ _ _ _ _ _ _ _ _) rfl 10 rfl fl71 rfl rfl rfl rfl rfl dX6_readNumbers_135 (stModel_0_10 _ _ _ _ _ _ _ _ _ _ _ _ _ _ _ _ _ _ _ _ _ _ _ _) ?_
                refine g_iinc hX (j := 2) (nI (k + 1)) [(2, .int (nI (k + 1))), (0, .ref (a 0)), (1, .int (nI due))] dX6_readNumbers_138 2 rfl (iinc_n _ _) (by rw [hnL]; rfl) rfl ?_
                refine g_goto hX 2 dX6_readNumbers_141 (by decide) ?_
                exact g_lv _ [1, 2, 0] rfl (ih2 (k + 1) ((p + 1) + 1) (va_up (q) k ((chr (letO (mX M) (mL M) p)) - 48)) (by omega) (by omega) (by omega) (by first | (rw [he, rl_yes (by omega) (by omega) hsep hnum, hf.1, pb_2]) | (rw [he, rl_yes (by omega) (by omega) hsep hnum, hf.1])))
              · replace c123 := mt (oJ_s (letB hX2) (by decide)).mpr c123
                have hno := rl_no (q := q) (k := due - k) (due := due) (i := k) (by omega) rfl (Or.inr (by rw [hf.1]; first | (rw [if_pos (by omega)]; exact c123) | (rw [if_neg (by omega)]; exact c123)))
                refine g_iconst hX (nI 0) dX6_readNumbers_126 rfl ?_
                exact g_eq rfl rfl (congrArg (fun z => [Value.int z]) (bret_f (by rw [he, hno]; rfl))) (hret (p + 1, va_up (q) k ((chr (letO (mX M) (mL M) p)) - 48)) _ _ (fun p2 hp2 => by rw [he, hno] at hp2; cases hp2) dX6_readNumbers_127)
          · replace c61 := mt bI_0.mpr c61
            replace c61 := bNf c61
            rw [figJ (letB hX2)] at c61
            have hf := fg_2 c18 c61
            obtain ⟨he1, he2, he3⟩ := oJ_c c61
            have hnum : 10 * (chr (letO (mX M) (mL M) p) - 48) + chr (letO (mX M) (mL M) (p + 1)) - 48 = numAt (mX M) (mL M) p := by rw [hf.2]; omega
            refine g_aload_n hX dX6_readNumbers_64 0 rfl ?_
            refine g_get hX (v := .ref (a 6)) 0 inRX6 (atModel_0 _ _ _ _ _ _ _ _ _ _ _ _ _ _ _ _ _ _ _ _ _ _ _) rfl 11 rfl fl25 rfl rfl dX6_readNumbers_65 ?_
            refine g_iload_n hX dX6_readNumbers_68 2 rfl ?_
            refine g_bipush hX (nI 10) dX6_readNumbers_69 rfl ?_
            refine g_aload_n hX dX6_readNumbers_71 0 rfl ?_
            refine g_get hX (v := .ref (a 6)) 0 inRX6 (atModel_0 _ _ _ _ _ _ _ _ _ _ _ _ _ _ _ _ _ _ _ _ _ _ _) rfl 11 rfl fl25 rfl rfl dX6_readNumbers_72 ?_
            refine g_iload_n hX dX6_readNumbers_75 2 rfl ?_
            refine g_iald hX (nI (chr (letO (mX M) (mL M) p) - 48)) 6 0 (atModel_6 _ _ _ _ _ _ _ _ _ _ _ _ _ _ _ _ _ _ _ _ _ _ _) rfl (vp_in_nI (by omega) (by omega)) ((ald_n (g := fun zz => nI (va_up q k (chr (letO (mX M) (mL M) p) - 48) zz)) (i := k) (by omega)).trans (congrArg nI (va_up_self _ _ _))) dX6_readNumbers_76 ?_
            refine g_imul hX (nI (10 * (chr (letO (mX M) (mL M) p) - 48))) dX6_readNumbers_77 (pk_mul _ _) ?_
            refine g_aload_n hX dX6_readNumbers_78 0 rfl ?_
            refine g_aload_n hX dX6_readNumbers_79 0 rfl ?_
            refine g_get hX (v := .int (nI (p + 1))) 0 inRX6 (atModel_0 _ _ _ _ _ _ _ _ _ _ _ _ _ _ _ _ _ _ _ _ _ _ _) rfl 10 rfl fl71 rfl rfl dX6_readNumbers_80 ?_
            have hc83 : CUT (mw E a (mkMV (mT M) (mS M) (mA M) (mW M) (mK M) (mP M) (mE M) (mN M) (mX M) (mL M) (p + 1) (va_up (q) k ((chr (letO (mX M) (mL M) p)) - 48)) (mR M) (mM M) (mO M) (mF M) (mU M) (mQ M) (mZ M) (mG M) (mH M))) (mw E a (mkMV (mT M) (mS M) (mA M) (mW M) (mK M) (mP M) (mE M) (mN M) (mX M) (mL M) (p + 1) (va_up (q) k ((chr (letO (mX M) (mL M) p)) - 48)) (mR M) (mM M) (mO M) (mF M) (mU M) (mQ M) (mZ M) (mG M) (mH M))) (([] : va_W)) [0, 1, 2, 3, 4, 5, 6, 7, 8, 9, 10, 11, 12] [] := ⟨rfl, rfl, rfl, rfl, rfl⟩
            refine g_VI hX hc83 [.int (nI (p + 1))] [.int (nI (10 * (chr (letO (mX M) (mL M) p) - 48))), .int (nI k), .ref (a 6)] (c_X6_letterAt l E a (mkMV (mT M) (mS M) (mA M) (mW M) (mK M) (mP M) (mE M) (mN M) (mX M) (mL M) (p + 1) (va_up (q) k ((chr (letO (mX M) (mL M) p)) - 48)) (mR M) (mM M) (mO M) (mF M) (mU M) (mQ M) (mZ M) (mG M) (mH M)) (p + 1) (by first | assumption | omega) (by first | assumption | omega)) gX6_readNumbers_X6_letterAt calX6_letterAt rfl rfl rfl rfl 0 rfl rfl rfl rfl dX6_readNumbers_83 rfl ⟨Nat.zero_le _, Nat.zero_le _⟩ (fun _ => mw E a (mkMV (mT M) (mS M) (mA M) (mW M) (mK M) (mP M) (mE M) (mN M) (mX M) (mL M) (p + 1) (va_up (q) k ((chr (letO (mX M) (mL M) p)) - 48)) (mR M) (mM M) (mO M) (mF M) (mU M) (mQ M) (mZ M) (mG M) (mH M))) [0, 1, 2, 3, 4, 5, 6, 7, 8, 9, 10, 11, 12] rfl (fun _ => rfl) (fun _ hu83 => ?_)
            refine g_eq (st' := [.int (nI (chr (letO (mX M) (mL M) (p + 1)))), .int (nI (10 * (chr (letO (mX M) (mL M) p) - 48))), .int (nI k), .ref (a 6)]) rfl rfl (congrArg (fun z => Value.int z :: ([.int (nI (10 * (chr (letO (mX M) (mL M) p) - 48))), .int (nI k), .ref (a 6)] : List Value)) he1) ?_
            refine g_iadd hX (nI ((10 * (chr (letO (mX M) (mL M) p) - 48)) + (chr (letO (mX M) (mL M) (p + 1))))) dX6_readNumbers_86 (nI_add _ _) ?_
            refine g_bipush hX (nI 48) dX6_readNumbers_87 rfl ?_
            refine g_isub hX (nI (((10 * (chr (letO (mX M) (mL M) p) - 48)) + (chr (letO (mX M) (mL M) (p + 1)))) - 48)) dX6_readNumbers_89 (pk_sub (by omega)) ?_
            refine g_iast hX (fun zz => nI ((va_up (va_up (q) k ((chr (letO (mX M) (mL M) p)) - 48)) k (((10 * (chr (letO (mX M) (mL M) p) - 48)) + (chr (letO (mX M) (mL M) (p + 1)))) - 48)) zz)) (mw E a (mkMV (mT M) (mS M) (mA M) (mW M) (mK M) (mP M) (mE M) (mN M) (mX M) (mL M) (p + 1) (va_up (va_up (q) k ((chr (letO (mX M) (mL M) p)) - 48)) k (((10 * (chr (letO (mX M) (mL M) p) - 48)) + (chr (letO (mX M) (mL M) (p + 1)))) - 48)) (mR M) (mM M) (mO M) (mF M) (mU M) (mQ M) (mZ M) (mG M) (mH M))) 6 0 (atModel_6 _ _ _ _ _ _ _ _ _ _ _ _ _ _ _ _ _ _ _ _ _ _ _) rfl (vp_in_nI (by omega) (by omega)) (ast_n (by omega)) dX6_readNumbers_90 (stModel_6 _ _ _ _ _ _ _ _ _ _ _ _ _ _ _ _ _ _ _ _ _ _ _ _) ?_
            refine g_aload_n hX dX6_readNumbers_91 0 rfl ?_
            refine g_dup hX dX6_readNumbers_92 rfl ?_
            refine g_get hX (v := .int (nI (p + 1))) 0 inRX6 (atModel_0 _ _ _ _ _ _ _ _ _ _ _ _ _ _ _ _ _ _ _ _ _ _ _) rfl 10 rfl fl71 rfl rfl dX6_readNumbers_93 ?_
            refine g_iconst hX (nI 1) dX6_readNumbers_96 rfl ?_
            refine g_iadd hX (nI ((p + 1) + 1)) dX6_readNumbers_97 (nI_add _ _) ?_
            refine g_put hX (mw E a (mkMV (mT M) (mS M) (mA M) (mW M) (mK M) (mP M) (mE M) (mN M) (mX M) (mL M) ((p + 1) + 1) (va_up (va_up (q) k ((chr (letO (mX M) (mL M) p)) - 48)) k (((10 * (chr (letO (mX M) (mL M) p) - 48)) + (chr (letO (mX M) (mL M) (p + 1)))) - 48)) (mR M) (mM M) (mO M) (mF M) (mU M) (mQ M) (mZ M) (mG M) (mH M))) 0 inRX6 tyX6_ok nmX6 (atModel_0 _ _ _ _ _ _ _ _ _ _ _ _ _ _ _ _ _ _ _ _ _ _ _) rfl 10 rfl fl71 rfl rfl rfl rfl rfl dX6_readNumbers_98 (stModel_0_10 _ _ _ _ _ _ _ _ _ _ _ _ _ _ _ _ _ _ _ _ _ _ _ _) ?_
            refine g_aload_n hX dX6_readNumbers_101 0 rfl ?_
            refine g_aload_n hX dX6_readNumbers_102 0 rfl ?_
            refine g_get hX (v := .int (nI ((p + 1) + 1))) 0 inRX6 (atModel_0 _ _ _ _ _ _ _ _ _ _ _ _ _ _ _ _ _ _ _ _ _ _ _) rfl 10 rfl fl71 rfl rfl dX6_readNumbers_103 ?_
            have hc106 : CUT (mw E a (mkMV (mT M) (mS M) (mA M) (mW M) (mK M) (mP M) (mE M) (mN M) (mX M) (mL M) ((p + 1) + 1) (va_up (va_up (q) k ((chr (letO (mX M) (mL M) p)) - 48)) k (((10 * (chr (letO (mX M) (mL M) p) - 48)) + (chr (letO (mX M) (mL M) (p + 1)))) - 48)) (mR M) (mM M) (mO M) (mF M) (mU M) (mQ M) (mZ M) (mG M) (mH M))) (mw E a (mkMV (mT M) (mS M) (mA M) (mW M) (mK M) (mP M) (mE M) (mN M) (mX M) (mL M) ((p + 1) + 1) (va_up (va_up (q) k ((chr (letO (mX M) (mL M) p)) - 48)) k (((10 * (chr (letO (mX M) (mL M) p) - 48)) + (chr (letO (mX M) (mL M) (p + 1)))) - 48)) (mR M) (mM M) (mO M) (mF M) (mU M) (mQ M) (mZ M) (mG M) (mH M))) (([] : va_W)) [0, 1, 2, 3, 4, 5, 6, 7, 8, 9, 10, 11, 12] [] := ⟨rfl, rfl, rfl, rfl, rfl⟩
            refine g_VI hX hc106 [.int (nI ((p + 1) + 1))] [] (c_X6_letterAt l E a (mkMV (mT M) (mS M) (mA M) (mW M) (mK M) (mP M) (mE M) (mN M) (mX M) (mL M) ((p + 1) + 1) (va_up (va_up (q) k ((chr (letO (mX M) (mL M) p)) - 48)) k (((10 * (chr (letO (mX M) (mL M) p) - 48)) + (chr (letO (mX M) (mL M) (p + 1)))) - 48)) (mR M) (mM M) (mO M) (mF M) (mU M) (mQ M) (mZ M) (mG M) (mH M)) ((p + 1) + 1) (by first | assumption | omega) (by first | assumption | omega)) gX6_readNumbers_X6_letterAt calX6_letterAt rfl rfl rfl rfl 0 rfl rfl rfl rfl dX6_readNumbers_106 rfl ⟨Nat.zero_le _, Nat.zero_le _⟩ (fun _ => mw E a (mkMV (mT M) (mS M) (mA M) (mW M) (mK M) (mP M) (mE M) (mN M) (mX M) (mL M) ((p + 1) + 1) (va_up (va_up (q) k ((chr (letO (mX M) (mL M) p)) - 48)) k (((10 * (chr (letO (mX M) (mL M) p) - 48)) + (chr (letO (mX M) (mL M) (p + 1)))) - 48)) (mR M) (mM M) (mO M) (mF M) (mU M) (mQ M) (mZ M) (mG M) (mH M))) [0, 1, 2, 3, 4, 5, 6, 7, 8, 9, 10, 11, 12] rfl (fun _ => rfl) (fun _ hu106 => ?_)
            refine g_iload_n hX dX6_readNumbers_109 2 rfl ?_
            refine g_iload_n hX dX6_readNumbers_110 1 rfl ?_
            refine g_iconst hX (nI 1) dX6_readNumbers_111 rfl ?_
            refine g_isub hX (nI (due - 1)) dX6_readNumbers_112 (pk_sub (by omega)) ?_
            refine g_icmp_ge hX 121 dX6_readNumbers_113 (by decide) (fun c113 => ?_) (fun c113 => ?_)
            · replace c113 := (nI_leI (by omega) (by omega)).mp c113
              refine g_bipush hX (nI 59) dX6_readNumbers_121 rfl ?_
              refine g_icmp_eq hX 128 dX6_readNumbers_123 (by decide) (fun c123 => ?_) (fun c123 => ?_)
              · replace c123 := (oJ_s (letB hX2) (by decide)).mp c123
                have hsep : letO (mX M) (mL M) (p + figs (mX M) (mL M) p) = some (if k + 1 < due then 44 else 59) := by rw [hf.1]; first | (rw [if_pos (by omega)]; exact c123) | (rw [if_neg (by omega)]; exact c123)
                refine g_aload_n hX dX6_readNumbers_128 0 rfl ?_
                refine g_dup hX dX6_readNumbers_129 rfl ?_
                refine g_get hX (v := .int (nI ((p + 1) + 1))) 0 inRX6 (atModel_0 _ _ _ _ _ _ _ _ _ _ _ _ _ _ _ _ _ _ _ _ _ _ _) rfl 10 rfl fl71 rfl rfl dX6_readNumbers_130 ?_
                refine g_iconst hX (nI 1) dX6_readNumbers_133 rfl ?_
                refine g_iadd hX (nI (((p + 1) + 1) + 1)) dX6_readNumbers_134 (nI_add _ _) ?_
                refine g_put hX (mw E a (mkMV (mT M) (mS M) (mA M) (mW M) (mK M) (mP M) (mE M) (mN M) (mX M) (mL M) (((p + 1) + 1) + 1) (va_up (va_up (q) k ((chr (letO (mX M) (mL M) p)) - 48)) k (((10 * (chr (letO (mX M) (mL M) p) - 48)) + (chr (letO (mX M) (mL M) (p + 1)))) - 48)) (mR M) (mM M) (mO M) (mF M) (mU M) (mQ M) (mZ M) (mG M) (mH M))) 0 inRX6 tyX6_ok nmX6 (atModel_0 _ _ _ _ _ _ _ _ _ _ _ _ _ _ _ _ _ _ _ _ _ _ _) rfl 10 rfl fl71 rfl rfl rfl rfl rfl dX6_readNumbers_135 (stModel_0_10 _ _ _ _ _ _ _ _ _ _ _ _ _ _ _ _ _ _ _ _ _ _ _ _) ?_
                refine g_iinc hX (j := 2) (nI (k + 1)) [(2, .int (nI (k + 1))), (0, .ref (a 0)), (1, .int (nI due))] dX6_readNumbers_138 2 rfl (iinc_n _ _) (by rw [hnL]; rfl) rfl ?_
                refine g_goto hX 2 dX6_readNumbers_141 (by decide) ?_
                exact g_lv _ [1, 2, 0] rfl (ih2 (k + 1) (((p + 1) + 1) + 1) (va_up (va_up (q) k ((chr (letO (mX M) (mL M) p)) - 48)) k (((10 * (chr (letO (mX M) (mL M) p) - 48)) + (chr (letO (mX M) (mL M) (p + 1)))) - 48)) (by omega) (by omega) (by omega) (by first | (rw [he, rl_yes (by omega) (by omega) hsep hnum, hf.1, pb_2]) | (rw [he, rl_yes (by omega) (by omega) hsep hnum, hf.1])))
              · replace c123 := mt (oJ_s (letB hX2) (by decide)).mpr c123
                have hno := rl_no (q := q) (k := due - k) (due := due) (i := k) (by omega) rfl (Or.inr (by rw [hf.1]; first | (rw [if_pos (by omega)]; exact c123) | (rw [if_neg (by omega)]; exact c123)))
                refine g_iconst hX (nI 0) dX6_readNumbers_126 rfl ?_
                exact g_eq rfl rfl (congrArg (fun z => [Value.int z]) (bret_f (by rw [he, hno]; rfl))) (hret ((p + 1) + 1, va_up (va_up (q) k ((chr (letO (mX M) (mL M) p)) - 48)) k (((10 * (chr (letO (mX M) (mL M) p) - 48)) + (chr (letO (mX M) (mL M) (p + 1)))) - 48)) _ _ (fun p2 hp2 => by rw [he, hno] at hp2; cases hp2) dX6_readNumbers_127)
            · replace c113 := mt (nI_leI (by omega) (by omega)).mpr c113
              refine g_bipush hX (nI 44) dX6_readNumbers_116 rfl ?_
              refine g_goto hX 123 dX6_readNumbers_118 (by decide) ?_
              refine g_icmp_eq hX 128 dX6_readNumbers_123 (by decide) (fun c123 => ?_) (fun c123 => ?_)
              · replace c123 := (oJ_s (letB hX2) (by decide)).mp c123
                have hsep : letO (mX M) (mL M) (p + figs (mX M) (mL M) p) = some (if k + 1 < due then 44 else 59) := by rw [hf.1]; first | (rw [if_pos (by omega)]; exact c123) | (rw [if_neg (by omega)]; exact c123)
                refine g_aload_n hX dX6_readNumbers_128 0 rfl ?_
                refine g_dup hX dX6_readNumbers_129 rfl ?_
                refine g_get hX (v := .int (nI ((p + 1) + 1))) 0 inRX6 (atModel_0 _ _ _ _ _ _ _ _ _ _ _ _ _ _ _ _ _ _ _ _ _ _ _) rfl 10 rfl fl71 rfl rfl dX6_readNumbers_130 ?_
                refine g_iconst hX (nI 1) dX6_readNumbers_133 rfl ?_
                refine g_iadd hX (nI (((p + 1) + 1) + 1)) dX6_readNumbers_134 (nI_add _ _) ?_
                refine g_put hX (mw E a (mkMV (mT M) (mS M) (mA M) (mW M) (mK M) (mP M) (mE M) (mN M) (mX M) (mL M) (((p + 1) + 1) + 1) (va_up (va_up (q) k ((chr (letO (mX M) (mL M) p)) - 48)) k (((10 * (chr (letO (mX M) (mL M) p) - 48)) + (chr (letO (mX M) (mL M) (p + 1)))) - 48)) (mR M) (mM M) (mO M) (mF M) (mU M) (mQ M) (mZ M) (mG M) (mH M))) 0 inRX6 tyX6_ok nmX6 (atModel_0 _ _ _ _ _ _ _ _ _ _ _ _ _ _ _ _ _ _ _ _ _ _ _) rfl 10 rfl fl71 rfl rfl rfl rfl rfl dX6_readNumbers_135 (stModel_0_10 _ _ _ _ _ _ _ _ _ _ _ _ _ _ _ _ _ _ _ _ _ _ _ _) ?_
                refine g_iinc hX (j := 2) (nI (k + 1)) [(2, .int (nI (k + 1))), (0, .ref (a 0)), (1, .int (nI due))] dX6_readNumbers_138 2 rfl (iinc_n _ _) (by rw [hnL]; rfl) rfl ?_
                refine g_goto hX 2 dX6_readNumbers_141 (by decide) ?_
                exact g_lv _ [1, 2, 0] rfl (ih2 (k + 1) (((p + 1) + 1) + 1) (va_up (va_up (q) k ((chr (letO (mX M) (mL M) p)) - 48)) k (((10 * (chr (letO (mX M) (mL M) p) - 48)) + (chr (letO (mX M) (mL M) (p + 1)))) - 48)) (by omega) (by omega) (by omega) (by first | (rw [he, rl_yes (by omega) (by omega) hsep hnum, hf.1, pb_2]) | (rw [he, rl_yes (by omega) (by omega) hsep hnum, hf.1])))
              · replace c123 := mt (oJ_s (letB hX2) (by decide)).mpr c123
                have hno := rl_no (q := q) (k := due - k) (due := due) (i := k) (by omega) rfl (Or.inr (by rw [hf.1]; first | (rw [if_pos (by omega)]; exact c123) | (rw [if_neg (by omega)]; exact c123)))
                refine g_iconst hX (nI 0) dX6_readNumbers_126 rfl ?_
                exact g_eq rfl rfl (congrArg (fun z => [Value.int z]) (bret_f (by rw [he, hno]; rfl))) (hret ((p + 1) + 1, va_up (va_up (q) k ((chr (letO (mX M) (mL M) p)) - 48)) k (((10 * (chr (letO (mX M) (mL M) p) - 48)) + (chr (letO (mX M) (mL M) (p + 1)))) - 48)) _ _ (fun p2 hp2 => by rw [he, hno] at hp2; cases hp2) dX6_readNumbers_127)
        · replace c18 := bI_0.mp c18
          rw [figJ (letB hX2)] at c18
          have hno := rl_no (q := q) (k := due - k) (due := due) (i := k) (by omega) rfl (Or.inl (fg_0 c18))
          refine g_iconst hX (nI 0) dX6_readNumbers_21 rfl ?_
          exact g_eq rfl rfl (congrArg (fun z => [Value.int z]) (bret_f (by rw [he, hno]; rfl))) (hret (p, q) _ _ (fun p2 hp2 => by rw [he, hno] at hp2; cases hp2) dX6_readNumbers_22)
  exact g_lv _ [1, 2, 0] rfl (lp2 _ 0 (mI M) (mD M) (Nat.lt_succ_self _) (Nat.zero_le _) (Nat.le_refl _) rfl)
