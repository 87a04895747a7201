set_option maxHeartbeats 4000000 in
set_option maxRecDepth 100000 in
theorem c_X6_readFactOf (l : Launch) (E : EV) (a : Nat → Nat) (M : MV) (D : FC) (hL : mL M ≤ 200) (hX2 : ∀ i, mX M i < 128) (hI2 : mI M ≤ 300) (hR : RR D (mR M)) (hF : cF D < 64) : KI l yX6_readFactOf wsX6_readFactOf (rmN 3) E (σ := MV) [.ref (a 0)] (mw E a M) (fun u => KS M u ∧ mM u = mM M ∧ ((NQ M 1).1.isSome = true → (NQ M 1).2 0 < 6 → (NQ M 1).1 = some (mI u) ∧ RR (turnF D ((NQ M 1).2 0)) (mR u))) (fun u => (bI ((NQ M 1).1.isSome && decide ((NQ M 1).2 0 < 6)))) (fun u => mw E a u) 0 0 := by
  refine KI.of (cc := cX6_readFactOf) (maxL := 1) (ty := .boolean) (hnar := fun _ _ => nar_b _) rfl rfl rfl (fun x hX hin hret hnL => ?_)
  replace hX : CX x l cX6_readFactOf RX6 wsX6_readFactOf E (rmN 3) := hX
  show GG x 0 0 (mw E a M) 0 [(0, .ref (a 0))] []
  have inRX6 : ∀ w ∈ wsX60, w ∈ wsX6_readFactOf := by decide +kernel
  have fl25 : Cond.fieldLink RX6 25 "LieForceModel" "told" "[I" ∈ wsX6_readFactOf := by decide +kernel
  have fl28 : Cond.fieldLink RX6 28 "LieForceModel" "read" "[I" ∈ wsX6_readFactOf := by decide +kernel
  refine g_aload_n hX dX6_readFactOf_0 0 rfl ?_
  refine g_iconst hX (nI 1) dX6_readFactOf_1 rfl ?_
  have hc2 : CUT (mw E a M) (mw E a M) (([] : va_W)) [0, 1, 2, 3, 4, 5, 6, 7, 8, 9, 10, 11, 12] [] := ⟨rfl, rfl, rfl, rfl, rfl⟩
  refine g_VI hX hc2 [.int (nI 1)] [] (c_X6_readNumbers l E a M 1 (by first | assumption | omega) (by first | assumption | omega) (by first | assumption | omega) (by first | assumption | omega) (by first | assumption | omega)) gX6_readFactOf_X6_readNumbers calX6_readNumbers rfl rfl rfl rfl 0 rfl rfl rfl rfl dX6_readFactOf_2 rfl ⟨Nat.zero_le _, Nat.zero_le _⟩ (fun u2 => mw E a (mkMV (mT M) (mS M) (mA M) (mW M) (mK M) (mP M) (mE M) (mN M) (mX M) (mL M) u2.1 u2.2 (mR M) (mM M) (mO M) (mF M) (mU M) (mQ M) (mZ M) (mG M) (mH M))) [0, 1, 2, 3, 4, 5, 6, 7, 8, 9, 10, 11, 12] rfl (fun _ => rfl) (fun u2 hu2 => ?_)
  refine g_if_eq hX 18 dX6_readFactOf_5 (by decide) (fun c5 => ?_) (fun c5 => ?_)
  · replace c5 := bI_0.mp c5
    have hno : (NQ M 1).1 = none := nq_no c5
    refine g_iconst hX (nI 0) dX6_readFactOf_18 rfl ?_
    exact g_eq rfl rfl (congrArg (fun z => [Value.int z]) (bret_f (by first | (rw [hno]; rfl) | (rw [← hn2, decide_eq_false hge, Bool.and_false])))) (hret (mkMV (mT M) (mS M) (mA M) (mW M) (mK M) (mP M) (mE M) (mN M) (mX M) (mL M) u2.1 u2.2 (mR M) (mM M) (mO M) (mF M) (mU M) (mQ M) (mZ M) (mG M) (mH M)) _ _ (⟨⟨⟨rfl, rfl, rfl, rfl, rfl, rfl, rfl⟩, ⟨rfl, rfl⟩, rfl⟩, rfl, fun h h2 => by first | (rw [hno] at h; cases h) | (rw [← hn2] at h2; exact absurd h2 hge)⟩) dX6_readFactOf_19)
  · replace c5 := mt bI_0.mpr c5
    replace c5 := bNf c5
    obtain ⟨hq1, hq2⟩ := nq_ok hu2 c5
    obtain ⟨hq3, hq4⟩ := hq2 0 (by decide)
    have hn1 : (NQ M 1).1 = some u2.1 := hq1
    have hn2 : u2.2 0 = (NQ M 1).2 0 := hq3
    refine g_aload_n hX dX6_readFactOf_8 0 rfl ?_
    refine g_iconst hX (nI 0) dX6_readFactOf_9 rfl ?_
    refine g_iconst hX (nI 0) dX6_readFactOf_10 rfl ?_
    refine g_iconst hX (nI 5) dX6_readFactOf_11 rfl ?_
    have hc12 : CUT (mw E a (mkMV (mT M) (mS M) (mA M) (mW M) (mK M) (mP M) (mE M) (mN M) (mX M) (mL M) u2.1 u2.2 (mR M) (mM M) (mO M) (mF M) (mU M) (mQ M) (mZ M) (mG M) (mH M))) (mw E a (mkMV (mT M) (mS M) (mA M) (mW M) (mK M) (mP M) (mE M) (mN M) (mX M) (mL M) u2.1 u2.2 (mR M) (mM M) (mO M) (mF M) (mU M) (mQ M) (mZ M) (mG M) (mH M))) (([] : va_W)) [0, 1, 2, 3, 4, 5, 6, 7, 8, 9, 10, 11, 12] [] := ⟨rfl, rfl, rfl, rfl, rfl⟩
    refine g_VI hX hc12 [.int (nI 0), .int (nI 0), .int (nI 5)] [] (c_X6_isTold l E a (mkMV (mT M) (mS M) (mA M) (mW M) (mK M) (mP M) (mE M) (mN M) (mX M) (mL M) u2.1 u2.2 (mR M) (mM M) (mO M) (mF M) (mU M) (mQ M) (mZ M) (mG M) (mH M)) 0 (nI 0) (nI 5) (by first | assumption | omega)) gX6_readFactOf_X6_isTold calX6_isTold rfl rfl rfl rfl 0 rfl rfl rfl rfl dX6_readFactOf_12 rfl ⟨Nat.zero_le _, Nat.zero_le _⟩ (fun _ => mw E a (mkMV (mT M) (mS M) (mA M) (mW M) (mK M) (mP M) (mE M) (mN M) (mX M) (mL M) u2.1 u2.2 (mR M) (mM M) (mO M) (mF M) (mU M) (mQ M) (mZ M) (mG M) (mH M))) [0, 1, 2, 3, 4, 5, 6, 7, 8, 9, 10, 11, 12] rfl (fun _ => rfl) (fun _ hu12 => ?_)
    refine g_if_ne hX 20 dX6_readFactOf_15 (by decide) (fun c15 => ?_) (fun c15 => ?_)
    · replace c15 := mt bI_0.mpr c15
      replace c15 := bNf c15
      replace c15 : win (nI (u2.2 0)) (nI 0) (nI 5) = true := c15
      rw [win_n (by omega) (by decide) (by decide)] at c15
      have hlt : u2.2 0 < 6 := by simp at c15; omega
      refine g_aload_n hX dX6_readFactOf_20 0 rfl ?_
      refine g_get hX (v := .ref (a 7)) 0 inRX6 (atModel_0 _ _ _ _ _ _ _ _ _ _ _ _ _ _ _ _ _ _ _ _ _ _ _) rfl 12 rfl fl28 rfl rfl dX6_readFactOf_21 ?_
      refine g_iconst hX (nI 0) dX6_readFactOf_24 rfl ?_
      refine g_dup2 hX dX6_readFactOf_25 rfl rfl ?_
      refine g_iald hX (nI (cF D)) 7 0 (atModel_7 _ _ _ _ _ _ _ _ _ _ _ _ _ _ _ _ _ _ _ _ _ _ _) rfl (vp_in_nI (by omega) (by omega)) ((ald_n (g := fun zz => (mR M) zz) (i := 0) (by omega)).trans (RB_F hR.1)) dX6_readFactOf_26 ?_
      refine g_iconst hX (nI 1) dX6_readFactOf_27 rfl ?_
      refine g_aload_n hX dX6_readFactOf_28 0 rfl ?_
      refine g_get hX (v := .ref (a 6)) 0 inRX6 (atModel_0 _ _ _ _ _ _ _ _ _ _ _ _ _ _ _ _ _ _ _ _ _ _ _) rfl 11 rfl fl25 rfl rfl dX6_readFactOf_29 ?_
      refine g_iconst hX (nI 0) dX6_readFactOf_32 rfl ?_
      refine g_iald hX (nI (u2.2 0)) 6 0 (atModel_6 _ _ _ _ _ _ _ _ _ _ _ _ _ _ _ _ _ _ _ _ _ _ _) rfl (vp_in_nI (by omega) (by omega)) (ald_n (g := fun zz => nI (u2.2 zz)) (i := 0) (by omega)) dX6_readFactOf_33 ?_
      refine g_ishl hX (nI (1 <<< (u2.2 0))) dX6_readFactOf_34 (sh_l _ (by omega)) ?_
      refine g_ixor hX (nI ((cF D) ^^^ (1 <<< (u2.2 0)))) dX6_readFactOf_35 (fb_xorI _ _) ?_
      refine g_iast hX (va_up (mR M) 0 (nI ((cF D) ^^^ (1 <<< (u2.2 0))))) (mw E a (mkMV (mT M) (mS M) (mA M) (mW M) (mK M) (mP M) (mE M) (mN M) (mX M) (mL M) u2.1 u2.2 (va_up (mR M) 0 (nI ((cF D) ^^^ (1 <<< (u2.2 0))))) (mM M) (mO M) (mF M) (mU M) (mQ M) (mZ M) (mG M) (mH M))) 7 0 (atModel_7 _ _ _ _ _ _ _ _ _ _ _ _ _ _ _ _ _ _ _ _ _ _ _) rfl (vp_in_nI (by omega) (by omega)) (ast_r (by omega)) dX6_readFactOf_36 (stModel_7 _ _ _ _ _ _ _ _ _ _ _ _ _ _ _ _ _ _ _ _ _ _ _ _) ?_
      refine g_iconst hX (nI 1) dX6_readFactOf_37 rfl ?_
      exact g_eq rfl rfl (congrArg (fun z => [Value.int z]) (bret_t (by rw [hn1, ← hn2, decide_eq_true hlt]; rfl))) (hret (mkMV (mT M) (mS M) (mA M) (mW M) (mK M) (mP M) (mE M) (mN M) (mX M) (mL M) u2.1 u2.2 (va_up (mR M) 0 (nI ((cF D) ^^^ (1 <<< (u2.2 0))))) (mM M) (mO M) (mF M) (mU M) (mQ M) (mZ M) (mG M) (mH M)) _ _ (⟨⟨⟨rfl, rfl, rfl, rfl, rfl, rfl, rfl⟩, ⟨rfl, rfl⟩, rfl⟩, rfl, fun _ _ => ⟨hn1, by rw [← hn2]; exact RR_turn hR hlt⟩⟩) dX6_readFactOf_38)
    · replace c15 := bI_0.mp c15
      replace c15 : win (nI (u2.2 0)) (nI 0) (nI 5) = false := c15
      rw [win_n (by omega) (by decide) (by decide)] at c15
      have hge : ¬ u2.2 0 < 6 := by simp at c15; omega
      refine g_iconst hX (nI 0) dX6_readFactOf_18 rfl ?_
      exact g_eq rfl rfl (congrArg (fun z => [Value.int z]) (bret_f (by first | (rw [hno]; rfl) | (rw [← hn2, decide_eq_false hge, Bool.and_false])))) (hret (mkMV (mT M) (mS M) (mA M) (mW M) (mK M) (mP M) (mE M) (mN M) (mX M) (mL M) u2.1 u2.2 (mR M) (mM M) (mO M) (mF M) (mU M) (mQ M) (mZ M) (mG M) (mH M)) _ _ (⟨⟨⟨rfl, rfl, rfl, rfl, rfl, rfl, rfl⟩, ⟨rfl, rfl⟩, rfl⟩, rfl, fun h h2 => by first | (rw [hno] at h; cases h) | (rw [← hn2] at h2; exact absurd h2 hge)⟩) dX6_readFactOf_19)
set_option maxHeartbeats 4000000 in
set_option maxRecDepth 100000 in
theorem c_X6_readTermOf (l : Launch) (E : EV) (a : Nat → Nat) (M : MV) (D : FC) (hL : mL M ≤ 200) (hX2 : ∀ i, mX M i < 128) (hI2 : mI M ≤ 300) (hR : RR D (mR M)) : KI l yX6_readTermOf wsX6_readTermOf (rmN 3) E (σ := MV) [.ref (a 0)] (mw E a M) (fun u => KS M u ∧ mR u = mR M ∧ ((NQ M 1).1.isSome = true → win (nI ((NQ M 1).2 0)) (nI 1) (nI 20) = true → (NQ M 1).1 = some (mI u) ∧ mM u = (NQ M 1).2 0)) (fun u => (bI ((NQ M 1).1.isSome && win (nI ((NQ M 1).2 0)) (nI 1) (nI 20)))) (fun u => mw E a u) 0 0 := by
  refine KI.of (cc := cX6_readTermOf) (maxL := 1) (ty := .boolean) (hnar := fun _ _ => nar_b _) rfl rfl rfl (fun x hX hin hret hnL => ?_)
  replace hX : CX x l cX6_readTermOf RX6 wsX6_readTermOf E (rmN 3) := hX
  show GG x 0 0 (mw E a M) 0 [(0, .ref (a 0))] []
  have inRX6 : ∀ w ∈ wsX60, w ∈ wsX6_readTermOf := by decide +kernel
  have fl25 : Cond.fieldLink RX6 25 "LieForceModel" "told" "[I" ∈ wsX6_readTermOf := by decide +kernel
  have fl53 : Cond.fieldLink RX6 53 "LieForceModel" "readTerm" "I" ∈ wsX6_readTermOf := by decide +kernel
  refine g_aload_n hX dX6_readTermOf_0 0 rfl ?_
  refine g_iconst hX (nI 1) dX6_readTermOf_1 rfl ?_
  have hc2 : CUT (mw E a M) (mw E a M) (([] : va_W)) [0, 1, 2, 3, 4, 5, 6, 7, 8, 9, 10, 11, 12] [] := ⟨rfl, rfl, rfl, rfl, rfl⟩
  refine g_VI hX hc2 [.int (nI 1)] [] (c_X6_readNumbers l E a M 1 (by first | assumption | omega) (by first | assumption | omega) (by first | assumption | omega) (by first | assumption | omega) (by first | assumption | omega)) gX6_readTermOf_X6_readNumbers calX6_readNumbers rfl rfl rfl rfl 0 rfl rfl rfl rfl dX6_readTermOf_2 rfl ⟨Nat.zero_le _, Nat.zero_le _⟩ (fun u2 => mw E a (mkMV (mT M) (mS M) (mA M) (mW M) (mK M) (mP M) (mE M) (mN M) (mX M) (mL M) u2.1 u2.2 (mR M) (mM M) (mO M) (mF M) (mU M) (mQ M) (mZ M) (mG M) (mH M))) [0, 1, 2, 3, 4, 5, 6, 7, 8, 9, 10, 11, 12] rfl (fun _ => rfl) (fun u2 hu2 => ?_)
  refine g_if_eq hX 19 dX6_readTermOf_5 (by decide) (fun c5 => ?_) (fun c5 => ?_)
  · replace c5 := bI_0.mp c5
    have hno : (NQ M 1).1 = none := nq_no c5
    refine g_iconst hX (nI 0) dX6_readTermOf_19 rfl ?_
    exact g_eq rfl rfl (congrArg (fun z => [Value.int z]) (bret_f (by first | (rw [hno]; rfl) | (rw [c16, Bool.and_false])))) (hret (mkMV (mT M) (mS M) (mA M) (mW M) (mK M) (mP M) (mE M) (mN M) (mX M) (mL M) u2.1 u2.2 (mR M) (mM M) (mO M) (mF M) (mU M) (mQ M) (mZ M) (mG M) (mH M)) _ _ (⟨⟨⟨rfl, rfl, rfl, rfl, rfl, rfl, rfl⟩, ⟨rfl, rfl⟩, rfl⟩, rfl, fun h h2 => by first | (rw [hno] at h; cases h) | (rw [c16] at h2; cases h2)⟩) dX6_readTermOf_20)
  · replace c5 := mt bI_0.mpr c5
    replace c5 := bNf c5
    obtain ⟨hq1, hq2⟩ := nq_ok hu2 c5
    obtain ⟨hq3, hq4⟩ := hq2 0 (by decide)
    have hn1 : (NQ M 1).1 = some u2.1 := hq1
    have hn2 : u2.2 0 = (NQ M 1).2 0 := hq3
    refine g_aload_n hX dX6_readTermOf_8 0 rfl ?_
    refine g_iconst hX (nI 0) dX6_readTermOf_9 rfl ?_
    refine g_iconst hX (nI 1) dX6_readTermOf_10 rfl ?_
    refine g_bipush hX (nI 20) dX6_readTermOf_11 rfl ?_
    have hc13 : CUT (mw E a (mkMV (mT M) (mS M) (mA M) (mW M) (mK M) (mP M) (mE M) (mN M) (mX M) (mL M) u2.1 u2.2 (mR M) (mM M) (mO M) (mF M) (mU M) (mQ M) (mZ M) (mG M) (mH M))) (mw E a (mkMV (mT M) (mS M) (mA M) (mW M) (mK M) (mP M) (mE M) (mN M) (mX M) (mL M) u2.1 u2.2 (mR M) (mM M) (mO M) (mF M) (mU M) (mQ M) (mZ M) (mG M) (mH M))) (([] : va_W)) [0, 1, 2, 3, 4, 5, 6, 7, 8, 9, 10, 11, 12] [] := ⟨rfl, rfl, rfl, rfl, rfl⟩
    refine g_VI hX hc13 [.int (nI 0), .int (nI 1), .int (nI 20)] [] (c_X6_isTold l E a (mkMV (mT M) (mS M) (mA M) (mW M) (mK M) (mP M) (mE M) (mN M) (mX M) (mL M) u2.1 u2.2 (mR M) (mM M) (mO M) (mF M) (mU M) (mQ M) (mZ M) (mG M) (mH M)) 0 (nI 1) (nI 20) (by first | assumption | omega)) gX6_readTermOf_X6_isTold calX6_isTold rfl rfl rfl rfl 0 rfl rfl rfl rfl dX6_readTermOf_13 rfl ⟨Nat.zero_le _, Nat.zero_le _⟩ (fun _ => mw E a (mkMV (mT M) (mS M) (mA M) (mW M) (mK M) (mP M) (mE M) (mN M) (mX M) (mL M) u2.1 u2.2 (mR M) (mM M) (mO M) (mF M) (mU M) (mQ M) (mZ M) (mG M) (mH M))) [0, 1, 2, 3, 4, 5, 6, 7, 8, 9, 10, 11, 12] rfl (fun _ => rfl) (fun _ hu13 => ?_)
    refine g_if_ne hX 21 dX6_readTermOf_16 (by decide) (fun c16 => ?_) (fun c16 => ?_)
    · replace c16 := mt bI_0.mpr c16
      replace c16 := bNf c16
      replace c16 : win (nI (u2.2 0)) (nI 1) (nI 20) = true := c16
      rw [hn2] at c16
      refine g_aload_n hX dX6_readTermOf_21 0 rfl ?_
      refine g_aload_n hX dX6_readTermOf_22 0 rfl ?_
      refine g_get hX (v := .ref (a 6)) 0 inRX6 (atModel_0 _ _ _ _ _ _ _ _ _ _ _ _ _ _ _ _ _ _ _ _ _ _ _) rfl 11 rfl fl25 rfl rfl dX6_readTermOf_23 ?_
      refine g_iconst hX (nI 0) dX6_readTermOf_26 rfl ?_
      refine g_iald hX (nI (u2.2 0)) 6 0 (atModel_6 _ _ _ _ _ _ _ _ _ _ _ _ _ _ _ _ _ _ _ _ _ _ _) rfl (vp_in_nI (by omega) (by omega)) (ald_n (g := fun zz => nI (u2.2 zz)) (i := 0) (by omega)) dX6_readTermOf_27 ?_
      refine g_put hX (mw E a (mkMV (mT M) (mS M) (mA M) (mW M) (mK M) (mP M) (mE M) (mN M) (mX M) (mL M) u2.1 u2.2 (mR M) (u2.2 0) (mO M) (mF M) (mU M) (mQ M) (mZ M) (mG M) (mH M))) 0 inRX6 tyX6_ok nmX6 (atModel_0 _ _ _ _ _ _ _ _ _ _ _ _ _ _ _ _ _ _ _ _ _ _ _) rfl 13 rfl fl53 rfl rfl rfl rfl rfl dX6_readTermOf_28 (stModel_0_13 _ _ _ _ _ _ _ _ _ _ _ _ _ _ _ _ _ _ _ _ _ _ _ _) ?_
      refine g_iconst hX (nI 1) dX6_readTermOf_31 rfl ?_
      exact g_eq rfl rfl (congrArg (fun z => [Value.int z]) (bret_t (by rw [hn1, c16]; rfl))) (hret (mkMV (mT M) (mS M) (mA M) (mW M) (mK M) (mP M) (mE M) (mN M) (mX M) (mL M) u2.1 u2.2 (mR M) (u2.2 0) (mO M) (mF M) (mU M) (mQ M) (mZ M) (mG M) (mH M)) _ _ (⟨⟨⟨rfl, rfl, rfl, rfl, rfl, rfl, rfl⟩, ⟨rfl, rfl⟩, rfl⟩, rfl, fun _ _ => ⟨hn1, hn2⟩⟩) dX6_readTermOf_32)
    · replace c16 := bI_0.mp c16
      replace c16 : win (nI (u2.2 0)) (nI 1) (nI 20) = false := c16
      rw [hn2] at c16
      refine g_iconst hX (nI 0) dX6_readTermOf_19 rfl ?_
      exact g_eq rfl rfl (congrArg (fun z => [Value.int z]) (bret_f (by first | (rw [hno]; rfl) | (rw [c16, Bool.and_false])))) (hret (mkMV (mT M) (mS M) (mA M) (mW M) (mK M) (mP M) (mE M) (mN M) (mX M) (mL M) u2.1 u2.2 (mR M) (mM M) (mO M) (mF M) (mU M) (mQ M) (mZ M) (mG M) (mH M)) _ _ (⟨⟨⟨rfl, rfl, rfl, rfl, rfl, rfl, rfl⟩, ⟨rfl, rfl⟩, rfl⟩, rfl, fun h h2 => by first | (rw [hno] at h; cases h) | (rw [c16] at h2; cases h2)⟩) dX6_readTermOf_20)
