set_option maxHeartbeats 4000000 in
set_option maxRecDepth 100000 in
theorem c_X6_readSayingOf (l : Launch) (E : EV) (a : Nat → Nat) (M : MV) (D : FC) (hL : mL M ≤ 200) (hX2 : ∀ i, mX M i < 128) (hI2 : mI M ≤ 300) (hR : RR D (mR M)) (hN9 : cN D ≤ 9) : KI l yX6_readSayingOf wsX6_readSayingOf (rmN 3) E (σ := MV) [.ref (a 0)] (mw E a M) (fun u => KS M u ∧ mM u = mM M ∧ (cN D < 9 → (NQ M 4).1.isSome = true → sayB (NQ M 4).2 = true → (NQ M 4).1 = some (mI u) ∧ RR (addC D ((NQ M 4).2 0) ((NQ M 4).2 1) ((NQ M 4).2 2) ((NQ M 4).2 3)) (mR u))) (fun u => (bI (decide (cN D < 9) && (NQ M 4).1.isSome && sayB (NQ M 4).2))) (fun u => mw E a u) 0 0 := by
  refine KI.of (cc := cX6_readSayingOf) (maxL := 1) (ty := .boolean) (hnar := fun _ _ => nar_b _) rfl rfl rfl (fun x hX hin hret hnL => ?_)
  replace hX : CX x l cX6_readSayingOf RX6 wsX6_readSayingOf E (rmN 3) := hX
  show GG x 0 0 (mw E a M) 0 [(0, .ref (a 0))] []
  have inRX6 : ∀ w ∈ wsX60, w ∈ wsX6_readSayingOf := by decide +kernel
  have fl25 : Cond.fieldLink RX6 25 "LieForceModel" "told" "[I" ∈ wsX6_readSayingOf := by decide +kernel
  have fl28 : Cond.fieldLink RX6 28 "LieForceModel" "read" "[I" ∈ wsX6_readSayingOf := by decide +kernel
  refine g_aload_n hX dX6_readSayingOf_0 0 rfl ?_
  refine g_get hX (v := .ref (a 7)) 0 inRX6 rfl rfl 12 rfl fl28 rfl rfl dX6_readSayingOf_1 ?_
  refine g_iconst hX (nI 2) dX6_readSayingOf_4 rfl ?_
  refine g_iald hX (nI (cN D)) 7 0 rfl rfl (vp_in_nI (by omega) (by omega)) ((ald_n (g := fun zz => (mR M) zz) (i := 2) (by omega)).trans (RB_N hR.1)) dX6_readSayingOf_5 ?_
  refine g_bipush hX (nI 9) dX6_readSayingOf_6 rfl ?_
  refine g_icmp_eq hX 61 dX6_readSayingOf_8 (by decide) (fun c8 => ?_) (fun c8 => ?_)
  · replace c8 := (nI_eq (by omega) (by omega)).mp c8
    refine g_iconst hX (nI 0) dX6_readSayingOf_61 rfl ?_
    exact g_eq rfl rfl (congrArg (fun z => [Value.int z]) (bret_f (by first | (rw [decide_eq_false (by omega)]; rfl) | (rw [hno]; simp) | (rw [hsb, Bool.and_false])))) (hret M _ _ (⟨⟨⟨rfl, rfl, rfl, rfl, rfl, rfl, rfl⟩, ⟨rfl, rfl⟩, rfl⟩, rfl, fun g h h2 => by first | (exfalso; omega) | (rw [hno] at h; cases h) | (rw [hsb] at h2; cases h2)⟩) dX6_readSayingOf_62)
  · replace c8 := mt (nI_eq (by omega) (by omega)).mpr c8
    refine g_aload_n hX dX6_readSayingOf_11 0 rfl ?_
    refine g_iconst hX (nI 4) dX6_readSayingOf_12 rfl ?_
    have hc13 : CUT (mw E a M) (mw E a M) (([] : va_W)) [0, 1, 2, 3, 4, 5, 6, 7, 8, 9, 10, 11, 12] [] := ⟨rfl, rfl, rfl, rfl, rfl⟩
    refine g_VI hX hc13 [.int (nI 4)] [] (c_X6_readNumbers l E a M 4 (by first | assumption | omega) (by first | assumption | omega) (by first | assumption | omega) (by first | assumption | omega) (by first | assumption | omega)) gX6_readSayingOf_X6_readNumbers calX6_readNumbers rfl rfl rfl rfl 0 rfl rfl rfl rfl dX6_readSayingOf_13 rfl ⟨Nat.zero_le _, Nat.zero_le _⟩ (fun u13 => mw E a (mkMV (mT M) (mS M) (mA M) (mW M) (mK M) (mP M) (mE M) (mN M) (mX M) (mL M) u13.1 u13.2 (mR M) (mM M) (mO M) (mF M) (mU M) (mQ M) (mZ M) (mG M) (mH M))) [0, 1, 2, 3, 4, 5, 6, 7, 8, 9, 10, 11, 12] rfl (fun _ => rfl) (fun u13 hu13 => ?_)
    refine g_if_eq hX 61 dX6_readSayingOf_16 (by decide) (fun c16 => ?_) (fun c16 => ?_)
    · replace c16 := bI_0.mp c16
      have hno : (NQ M 4).1 = none := nq_no c16
      refine g_iconst hX (nI 0) dX6_readSayingOf_61 rfl ?_
      exact g_eq rfl rfl (congrArg (fun z => [Value.int z]) (bret_f (by first | (rw [decide_eq_false (by omega)]; rfl) | (rw [hno]; simp) | (rw [hsb, Bool.and_false])))) (hret (mkMV (mT M) (mS M) (mA M) (mW M) (mK M) (mP M) (mE M) (mN M) (mX M) (mL M) u13.1 u13.2 (mR M) (mM M) (mO M) (mF M) (mU M) (mQ M) (mZ M) (mG M) (mH M)) _ _ (⟨⟨⟨rfl, rfl, rfl, rfl, rfl, rfl, rfl⟩, ⟨rfl, rfl⟩, rfl⟩, rfl, fun g h h2 => by first | (exfalso; omega) | (rw [hno] at h; cases h) | (rw [hsb] at h2; cases h2)⟩) dX6_readSayingOf_62)
    · replace c16 := mt bI_0.mpr c16
      replace c16 := bNf c16
      obtain ⟨hq1, hq2⟩ := nq_ok hu13 c16
      have hn1 : (NQ M 4).1 = some u13.1 := hq1
      obtain ⟨hw0, hb0⟩ : u13.2 0 = (NQ M 4).2 0 ∧ u13.2 0 < 100 := hq2 0 (by decide)
      obtain ⟨hw1, hb1⟩ : u13.2 1 = (NQ M 4).2 1 ∧ u13.2 1 < 100 := hq2 1 (by decide)
      obtain ⟨hw2, hb2⟩ : u13.2 2 = (NQ M 4).2 2 ∧ u13.2 2 < 100 := hq2 2 (by decide)
      obtain ⟨hw3, hb3⟩ : u13.2 3 = (NQ M 4).2 3 ∧ u13.2 3 < 100 := hq2 3 (by decide)
      refine g_aload_n hX dX6_readSayingOf_19 0 rfl ?_
      refine g_iconst hX (nI 0) dX6_readSayingOf_20 rfl ?_
      refine g_iconst hX (nI 0) dX6_readSayingOf_21 rfl ?_
      refine g_iconst hX (nI 4) dX6_readSayingOf_22 rfl ?_
      have hc23 : CUT (mw E a (mkMV (mT M) (mS M) (mA M) (mW M) (mK M) (mP M) (mE M) (mN M) (mX M) (mL M) u13.1 u13.2 (mR M) (mM M) (mO M) (mF M) (mU M) (mQ M) (mZ M) (mG M) (mH M))) (mw E a (mkMV (mT M) (mS M) (mA M) (mW M) (mK M) (mP M) (mE M) (mN M) (mX M) (mL M) u13.1 u13.2 (mR M) (mM M) (mO M) (mF M) (mU M) (mQ M) (mZ M) (mG M) (mH M))) (([] : va_W)) [0, 1, 2, 3, 4, 5, 6, 7, 8, 9, 10, 11, 12] [] := ⟨rfl, rfl, rfl, rfl, rfl⟩
      refine g_VI hX hc23 [.int (nI 0), .int (nI 0), .int (nI 4)] [] (c_X6_isTold l E a (mkMV (mT M) (mS M) (mA M) (mW M) (mK M) (mP M) (mE M) (mN M) (mX M) (mL M) u13.1 u13.2 (mR M) (mM M) (mO M) (mF M) (mU M) (mQ M) (mZ M) (mG M) (mH M)) 0 (nI 0) (nI 4) (by first | assumption | omega)) gX6_readSayingOf_X6_isTold calX6_isTold rfl rfl rfl rfl 0 rfl rfl rfl rfl dX6_readSayingOf_23 rfl ⟨Nat.zero_le _, Nat.zero_le _⟩ (fun _ => mw E a (mkMV (mT M) (mS M) (mA M) (mW M) (mK M) (mP M) (mE M) (mN M) (mX M) (mL M) u13.1 u13.2 (mR M) (mM M) (mO M) (mF M) (mU M) (mQ M) (mZ M) (mG M) (mH M))) [0, 1, 2, 3, 4, 5, 6, 7, 8, 9, 10, 11, 12] rfl (fun _ => rfl) (fun _ hu23 => ?_)
      refine g_if_eq hX 61 dX6_readSayingOf_26 (by decide) (fun c26 => ?_) (fun c26 => ?_)
      · replace c26 := bI_0.mp c26
        replace c26 : win (nI (u13.2 0)) (nI 0) (nI 4) = false := c26
        have hsb : sayB (NQ M 4).2 = false := by unfold sayB; rw [← hw0, ← hw1, ← hw2, ← hw3]; simp [c26]
        refine g_iconst hX (nI 0) dX6_readSayingOf_61 rfl ?_
        exact g_eq rfl rfl (congrArg (fun z => [Value.int z]) (bret_f (by first | (rw [decide_eq_false (by omega)]; rfl) | (rw [hno]; simp) | (rw [hsb, Bool.and_false])))) (hret (mkMV (mT M) (mS M) (mA M) (mW M) (mK M) (mP M) (mE M) (mN M) (mX M) (mL M) u13.1 u13.2 (mR M) (mM M) (mO M) (mF M) (mU M) (mQ M) (mZ M) (mG M) (mH M)) _ _ (⟨⟨⟨rfl, rfl, rfl, rfl, rfl, rfl, rfl⟩, ⟨rfl, rfl⟩, rfl⟩, rfl, fun g h h2 => by first | (exfalso; omega) | (rw [hno] at h; cases h) | (rw [hsb] at h2; cases h2)⟩) dX6_readSayingOf_62)
      · replace c26 := mt bI_0.mpr c26
        replace c26 := bNf c26
        replace c26 : win (nI (u13.2 0)) (nI 0) (nI 4) = true := c26
        have hk5 : u13.2 0 < 5 := by have hc := c26; rw [win_n (by omega) (by decide) (by decide)] at hc; simp at hc; omega
        refine g_aload_n hX dX6_readSayingOf_29 0 rfl ?_
        refine g_iconst hX (nI 1) dX6_readSayingOf_30 rfl ?_
        refine g_iconst hX (nI 0) dX6_readSayingOf_31 rfl ?_
        refine g_bipush hX (nI 11) dX6_readSayingOf_32 rfl ?_
        have hc34 : CUT (mw E a (mkMV (mT M) (mS M) (mA M) (mW M) (mK M) (mP M) (mE M) (mN M) (mX M) (mL M) u13.1 u13.2 (mR M) (mM M) (mO M) (mF M) (mU M) (mQ M) (mZ M) (mG M) (mH M))) (mw E a (mkMV (mT M) (mS M) (mA M) (mW M) (mK M) (mP M) (mE M) (mN M) (mX M) (mL M) u13.1 u13.2 (mR M) (mM M) (mO M) (mF M) (mU M) (mQ M) (mZ M) (mG M) (mH M))) (([] : va_W)) [0, 1, 2, 3, 4, 5, 6, 7, 8, 9, 10, 11, 12] [] := ⟨rfl, rfl, rfl, rfl, rfl⟩
        refine g_VI hX hc34 [.int (nI 1), .int (nI 0), .int (nI 11)] [] (c_X6_isTold l E a (mkMV (mT M) (mS M) (mA M) (mW M) (mK M) (mP M) (mE M) (mN M) (mX M) (mL M) u13.1 u13.2 (mR M) (mM M) (mO M) (mF M) (mU M) (mQ M) (mZ M) (mG M) (mH M)) 1 (nI 0) (nI 11) (by first | assumption | omega)) gX6_readSayingOf_X6_isTold calX6_isTold rfl rfl rfl rfl 0 rfl rfl rfl rfl dX6_readSayingOf_34 rfl ⟨Nat.zero_le _, Nat.zero_le _⟩ (fun _ => mw E a (mkMV (mT M) (mS M) (mA M) (mW M) (mK M) (mP M) (mE M) (mN M) (mX M) (mL M) u13.1 u13.2 (mR M) (mM M) (mO M) (mF M) (mU M) (mQ M) (mZ M) (mG M) (mH M))) [0, 1, 2, 3, 4, 5, 6, 7, 8, 9, 10, 11, 12] rfl (fun _ => rfl) (fun _ hu34 => ?_)
        refine g_if_eq hX 61 dX6_readSayingOf_37 (by decide) (fun c37 => ?_) (fun c37 => ?_)
        · replace c37 := bI_0.mp c37
          replace c37 : win (nI (u13.2 1)) (nI 0) (nI 11) = false := c37
          have hsb : sayB (NQ M 4).2 = false := by unfold sayB; rw [← hw0, ← hw1, ← hw2, ← hw3]; simp [c37]
          refine g_iconst hX (nI 0) dX6_readSayingOf_61 rfl ?_
          exact g_eq rfl rfl (congrArg (fun z => [Value.int z]) (bret_f (by first | (rw [decide_eq_false (by omega)]; rfl) | (rw [hno]; simp) | (rw [hsb, Bool.and_false])))) (hret (mkMV (mT M) (mS M) (mA M) (mW M) (mK M) (mP M) (mE M) (mN M) (mX M) (mL M) u13.1 u13.2 (mR M) (mM M) (mO M) (mF M) (mU M) (mQ M) (mZ M) (mG M) (mH M)) _ _ (⟨⟨⟨rfl, rfl, rfl, rfl, rfl, rfl, rfl⟩, ⟨rfl, rfl⟩, rfl⟩, rfl, fun g h h2 => by first | (exfalso; omega) | (rw [hno] at h; cases h) | (rw [hsb] at h2; cases h2)⟩) dX6_readSayingOf_62)
        · replace c37 := mt bI_0.mpr c37
          replace c37 := bNf c37
          replace c37 : win (nI (u13.2 1)) (nI 0) (nI 11) = true := c37
          refine g_aload_n hX dX6_readSayingOf_40 0 rfl ?_
          refine g_iconst hX (nI 2) dX6_readSayingOf_41 rfl ?_
          refine g_iconst hX (nI 0) dX6_readSayingOf_42 rfl ?_
          refine g_bipush hX (nI 11) dX6_readSayingOf_43 rfl ?_
          have hc45 : CUT (mw E a (mkMV (mT M) (mS M) (mA M) (mW M) (mK M) (mP M) (mE M) (mN M) (mX M) (mL M) u13.1 u13.2 (mR M) (mM M) (mO M) (mF M) (mU M) (mQ M) (mZ M) (mG M) (mH M))) (mw E a (mkMV (mT M) (mS M) (mA M) (mW M) (mK M) (mP M) (mE M) (mN M) (mX M) (mL M) u13.1 u13.2 (mR M) (mM M) (mO M) (mF M) (mU M) (mQ M) (mZ M) (mG M) (mH M))) (([] : va_W)) [0, 1, 2, 3, 4, 5, 6, 7, 8, 9, 10, 11, 12] [] := ⟨rfl, rfl, rfl, rfl, rfl⟩
          refine g_VI hX hc45 [.int (nI 2), .int (nI 0), .int (nI 11)] [] (c_X6_isTold l E a (mkMV (mT M) (mS M) (mA M) (mW M) (mK M) (mP M) (mE M) (mN M) (mX M) (mL M) u13.1 u13.2 (mR M) (mM M) (mO M) (mF M) (mU M) (mQ M) (mZ M) (mG M) (mH M)) 2 (nI 0) (nI 11) (by first | assumption | omega)) gX6_readSayingOf_X6_isTold calX6_isTold rfl rfl rfl rfl 0 rfl rfl rfl rfl dX6_readSayingOf_45 rfl ⟨Nat.zero_le _, Nat.zero_le _⟩ (fun _ => mw E a (mkMV (mT M) (mS M) (mA M) (mW M) (mK M) (mP M) (mE M) (mN M) (mX M) (mL M) u13.1 u13.2 (mR M) (mM M) (mO M) (mF M) (mU M) (mQ M) (mZ M) (mG M) (mH M))) [0, 1, 2, 3, 4, 5, 6, 7, 8, 9, 10, 11, 12] rfl (fun _ => rfl) (fun _ hu45 => ?_)
          refine g_if_eq hX 61 dX6_readSayingOf_48 (by decide) (fun c48 => ?_) (fun c48 => ?_)
          · replace c48 := bI_0.mp c48
            replace c48 : win (nI (u13.2 2)) (nI 0) (nI 11) = false := c48
            have hsb : sayB (NQ M 4).2 = false := by unfold sayB; rw [← hw0, ← hw1, ← hw2, ← hw3]; simp [c48]
            refine g_iconst hX (nI 0) dX6_readSayingOf_61 rfl ?_
            exact g_eq rfl rfl (congrArg (fun z => [Value.int z]) (bret_f (by first | (rw [decide_eq_false (by omega)]; rfl) | (rw [hno]; simp) | (rw [hsb, Bool.and_false])))) (hret (mkMV (mT M) (mS M) (mA M) (mW M) (mK M) (mP M) (mE M) (mN M) (mX M) (mL M) u13.1 u13.2 (mR M) (mM M) (mO M) (mF M) (mU M) (mQ M) (mZ M) (mG M) (mH M)) _ _ (⟨⟨⟨rfl, rfl, rfl, rfl, rfl, rfl, rfl⟩, ⟨rfl, rfl⟩, rfl⟩, rfl, fun g h h2 => by first | (exfalso; omega) | (rw [hno] at h; cases h) | (rw [hsb] at h2; cases h2)⟩) dX6_readSayingOf_62)
          · replace c48 := mt bI_0.mpr c48
            replace c48 := bNf c48
            replace c48 : win (nI (u13.2 2)) (nI 0) (nI 11) = true := c48
            refine g_aload_n hX dX6_readSayingOf_51 0 rfl ?_
            refine g_iconst hX (nI 3) dX6_readSayingOf_52 rfl ?_
            refine g_iconst hX (nI 0) dX6_readSayingOf_53 rfl ?_
            refine g_iconst hX (nI 5) dX6_readSayingOf_54 rfl ?_
            have hc55 : CUT (mw E a (mkMV (mT M) (mS M) (mA M) (mW M) (mK M) (mP M) (mE M) (mN M) (mX M) (mL M) u13.1 u13.2 (mR M) (mM M) (mO M) (mF M) (mU M) (mQ M) (mZ M) (mG M) (mH M))) (mw E a (mkMV (mT M) (mS M) (mA M) (mW M) (mK M) (mP M) (mE M) (mN M) (mX M) (mL M) u13.1 u13.2 (mR M) (mM M) (mO M) (mF M) (mU M) (mQ M) (mZ M) (mG M) (mH M))) (([] : va_W)) [0, 1, 2, 3, 4, 5, 6, 7, 8, 9, 10, 11, 12] [] := ⟨rfl, rfl, rfl, rfl, rfl⟩
            refine g_VI hX hc55 [.int (nI 3), .int (nI 0), .int (nI 5)] [] (c_X6_isTold l E a (mkMV (mT M) (mS M) (mA M) (mW M) (mK M) (mP M) (mE M) (mN M) (mX M) (mL M) u13.1 u13.2 (mR M) (mM M) (mO M) (mF M) (mU M) (mQ M) (mZ M) (mG M) (mH M)) 3 (nI 0) (nI 5) (by first | assumption | omega)) gX6_readSayingOf_X6_isTold calX6_isTold rfl rfl rfl rfl 0 rfl rfl rfl rfl dX6_readSayingOf_55 rfl ⟨Nat.zero_le _, Nat.zero_le _⟩ (fun _ => mw E a (mkMV (mT M) (mS M) (mA M) (mW M) (mK M) (mP M) (mE M) (mN M) (mX M) (mL M) u13.1 u13.2 (mR M) (mM M) (mO M) (mF M) (mU M) (mQ M) (mZ M) (mG M) (mH M))) [0, 1, 2, 3, 4, 5, 6, 7, 8, 9, 10, 11, 12] rfl (fun _ => rfl) (fun _ hu55 => ?_)
            refine g_if_ne hX 63 dX6_readSayingOf_58 (by decide) (fun c58 => ?_) (fun c58 => ?_)
            · replace c58 := mt bI_0.mpr c58
              replace c58 := bNf c58
              replace c58 : win (nI (u13.2 3)) (nI 0) (nI 5) = true := c58
              have hsb : sayB (NQ M 4).2 = true := by unfold sayB; rw [← hw0, ← hw1, ← hw2, ← hw3]; simp [c26, c37, c48, c58]
              refine g_aload_n hX dX6_readSayingOf_63 0 rfl ?_
              refine g_aload_n hX dX6_readSayingOf_64 0 rfl ?_
              refine g_get hX (v := .ref (a 6)) 0 inRX6 (atModel_0 _ _ _ _ _ _ _ _ _ _ _ _ _ _ _ _ _ _ _ _ _ _ _) rfl 11 rfl fl25 rfl rfl dX6_readSayingOf_65 ?_
              refine g_iconst hX (nI 0) dX6_readSayingOf_68 rfl ?_
              refine g_iald hX (nI (u13.2 0)) 6 0 (atModel_6 _ _ _ _ _ _ _ _ _ _ _ _ _ _ _ _ _ _ _ _ _ _ _) rfl (vp_in_nI (by omega) (by omega)) (ald_n (g := fun zz => nI (u13.2 zz)) (i := 0) (by omega)) dX6_readSayingOf_69 ?_
              refine g_aload_n hX dX6_readSayingOf_70 0 rfl ?_
              refine g_get hX (v := .ref (a 6)) 0 inRX6 (atModel_0 _ _ _ _ _ _ _ _ _ _ _ _ _ _ _ _ _ _ _ _ _ _ _) rfl 11 rfl fl25 rfl rfl dX6_readSayingOf_71 ?_
              refine g_iconst hX (nI 1) dX6_readSayingOf_74 rfl ?_
              refine g_iald hX (nI (u13.2 1)) 6 0 (atModel_6 _ _ _ _ _ _ _ _ _ _ _ _ _ _ _ _ _ _ _ _ _ _ _) rfl (vp_in_nI (by omega) (by omega)) (ald_n (g := fun zz => nI (u13.2 zz)) (i := 1) (by omega)) dX6_readSayingOf_75 ?_
              refine g_aload_n hX dX6_readSayingOf_76 0 rfl ?_
              refine g_get hX (v := .ref (a 6)) 0 inRX6 (atModel_0 _ _ _ _ _ _ _ _ _ _ _ _ _ _ _ _ _ _ _ _ _ _ _) rfl 11 rfl fl25 rfl rfl dX6_readSayingOf_77 ?_
              refine g_iconst hX (nI 2) dX6_readSayingOf_80 rfl ?_
              refine g_iald hX (nI (u13.2 2)) 6 0 (atModel_6 _ _ _ _ _ _ _ _ _ _ _ _ _ _ _ _ _ _ _ _ _ _ _) rfl (vp_in_nI (by omega) (by omega)) (ald_n (g := fun zz => nI (u13.2 zz)) (i := 2) (by omega)) dX6_readSayingOf_81 ?_
              refine g_aload_n hX dX6_readSayingOf_82 0 rfl ?_
              refine g_get hX (v := .ref (a 6)) 0 inRX6 (atModel_0 _ _ _ _ _ _ _ _ _ _ _ _ _ _ _ _ _ _ _ _ _ _ _) rfl 11 rfl fl25 rfl rfl dX6_readSayingOf_83 ?_
              refine g_iconst hX (nI 3) dX6_readSayingOf_86 rfl ?_
              refine g_iald hX (nI (u13.2 3)) 6 0 (atModel_6 _ _ _ _ _ _ _ _ _ _ _ _ _ _ _ _ _ _ _ _ _ _ _) rfl (vp_in_nI (by omega) (by omega)) (ald_n (g := fun zz => nI (u13.2 zz)) (i := 3) (by omega)) dX6_readSayingOf_87 ?_
              have hc88 : CUT (mw E a (mkMV (mT M) (mS M) (mA M) (mW M) (mK M) (mP M) (mE M) (mN M) (mX M) (mL M) u13.1 u13.2 (mR M) (mM M) (mO M) (mF M) (mU M) (mQ M) (mZ M) (mG M) (mH M))) (mw E a (mkMV (mT M) (mS M) (mA M) (mW M) (mK M) (mP M) (mE M) (mN M) (mX M) (mL M) u13.1 u13.2 (mR M) (mM M) (mO M) (mF M) (mU M) (mQ M) (mZ M) (mG M) (mH M))) (([] : va_W)) [0, 1, 2, 3, 4, 5, 6, 7, 8, 9, 10, 11, 12] [] := ⟨rfl, rfl, rfl, rfl, rfl⟩
              refine g_VV hX hc88 [.int (nI (u13.2 0)), .int (nI (u13.2 1)), .int (nI (u13.2 2)), .int (nI (u13.2 3))] [] (c_X6_tellsSaying l E a (mkMV (mT M) (mS M) (mA M) (mW M) (mK M) (mP M) (mE M) (mN M) (mX M) (mL M) u13.1 u13.2 (mR M) (mM M) (mO M) (mF M) (mU M) (mQ M) (mZ M) (mG M) (mH M)) (u13.2 0) (u13.2 1) (u13.2 2) (u13.2 3) (cN D) (RB_N hR.1) (by omega) hk5) gX6_readSayingOf_X6_tellsSaying calX6_tellsSaying rfl rfl rfl rfl 0 rfl rfl rfl rfl dX6_readSayingOf_88 rfl ⟨Nat.zero_le _, Nat.zero_le _⟩ (fun _ => mw E a (mkMV (mT M) (mS M) (mA M) (mW M) (mK M) (mP M) (mE M) (mN M) (mX M) (mL M) u13.1 u13.2 (putR ((mR M)) (cN D) (u13.2 0) (u13.2 1) (u13.2 2) (u13.2 3)) (mM M) (mO M) (mF M) (mU M) (mQ M) (mZ M) (mG M) (mH M))) [0, 1, 2, 3, 4, 5, 6, 7, 8, 9, 10, 11, 12] rfl (fun _ => rfl) (fun _ hu88 => ?_)
              refine g_iconst hX (nI 1) dX6_readSayingOf_91 rfl ?_
              exact g_eq rfl rfl (congrArg (fun z => [Value.int z]) (bret_t (by rw [decide_eq_true (by omega), hn1, hsb]; rfl))) (hret (mkMV (mT M) (mS M) (mA M) (mW M) (mK M) (mP M) (mE M) (mN M) (mX M) (mL M) u13.1 u13.2 (putR ((mR M)) (cN D) (u13.2 0) (u13.2 1) (u13.2 2) (u13.2 3)) (mM M) (mO M) (mF M) (mU M) (mQ M) (mZ M) (mG M) (mH M)) _ _ (⟨⟨⟨rfl, rfl, rfl, rfl, rfl, rfl, rfl⟩, ⟨rfl, rfl⟩, rfl⟩, rfl, fun _ _ _ => ⟨hn1, by rw [← hw0, ← hw1, ← hw2, ← hw3]; exact RR_add hR (by omega)⟩⟩) dX6_readSayingOf_92)
            · replace c58 := bI_0.mp c58
              replace c58 : win (nI (u13.2 3)) (nI 0) (nI 5) = false := c58
              have hsb : sayB (NQ M 4).2 = false := by unfold sayB; rw [← hw0, ← hw1, ← hw2, ← hw3]; simp [c58]
              refine g_iconst hX (nI 0) dX6_readSayingOf_61 rfl ?_
              exact g_eq rfl rfl (congrArg (fun z => [Value.int z]) (bret_f (by first | (rw [decide_eq_false (by omega)]; rfl) | (rw [hno]; simp) | (rw [hsb, Bool.and_false])))) (hret (mkMV (mT M) (mS M) (mA M) (mW M) (mK M) (mP M) (mE M) (mN M) (mX M) (mL M) u13.1 u13.2 (mR M) (mM M) (mO M) (mF M) (mU M) (mQ M) (mZ M) (mG M) (mH M)) _ _ (⟨⟨⟨rfl, rfl, rfl, rfl, rfl, rfl, rfl⟩, ⟨rfl, rfl⟩, rfl⟩, rfl, fun g h h2 => by first | (exfalso; omega) | (rw [hno] at h; cases h) | (rw [hsb] at h2; cases h2)⟩) dX6_readSayingOf_62)
set_option maxHeartbeats 4000000 in
set_option maxRecDepth 100000 in
theorem c_X6_readItem (l : Launch) (E : EV) (a : Nat → Nat) (M : MV) (D : FC) (hL : mL M ≤ 200) (hX2 : ∀ i, mX M i < 128) (hI2 : mI M ≤ 300) (hR : RR D (mR M)) (hI3 : mI M < mL M) (hD : RI D) (hTD : mM M = cT D) : KI l yX6_readItem wsX6_readItem (rmN 4) E (σ := MV) [.ref (a 0)] (mw E a M) (fun u => KS M u ∧ ∀ r, itO (mX M) (mL M) (mI M) D = some r → mI u = r.1 ∧ RR r.2 (mR u) ∧ mM u = cT r.2) (fun u => (bI ((itO (mX M) (mL M) (mI M) D).isSome))) (fun u => mw E a u) 0 0 := by
  refine KI.of (cc := cX6_readItem) (maxL := 2) (ty := .boolean) (hnar := fun _ _ => nar_b _) rfl rfl rfl (fun x hX hin hret hnL => ?_)
  replace hX : CX x l cX6_readItem RX6 wsX6_readItem E (rmN 4) := hX
  show GG x 0 0 (mw E a M) 0 [(0, .ref (a 0))] []
  have inRX6 : ∀ w ∈ wsX60, w ∈ wsX6_readItem := by decide +kernel
  have fl71 : Cond.fieldLink RX6 71 "LieForceModel" "at" "I" ∈ wsX6_readItem := by decide +kernel
  refine g_aload_n hX dX6_readItem_0 0 rfl ?_
  refine g_aload_n hX dX6_readItem_1 0 rfl ?_
  refine g_get hX (v := .int (nI (mI M))) 0 inRX6 rfl rfl 10 rfl fl71 rfl rfl dX6_readItem_2 ?_
  have hc5 : CUT (mw E a M) (mw E a M) (([] : va_W)) [0, 1, 2, 3, 4, 5, 6, 7, 8, 9, 10, 11, 12] [] := ⟨rfl, rfl, rfl, rfl, rfl⟩
  refine g_VI hX hc5 [.int (nI (mI M))] [] (c_X6_letterAt l E a M (mI M) (by first | assumption | omega) (by first | assumption | omega)) gX6_readItem_X6_letterAt calX6_letterAt rfl rfl rfl rfl 0 rfl rfl rfl rfl dX6_readItem_5 rfl ⟨Nat.zero_le _, Nat.zero_le _⟩ (fun _ => mw E a M) [0, 1, 2, 3, 4, 5, 6, 7, 8, 9, 10, 11, 12] rfl (fun _ => rfl) (fun _ hu5 => ?_)
  refine g_istore_n hX (j := 1) [(1, .int (oJ (letO ((mX M)) ((mL M)) (mI M)))), (0, .ref (a 0))] dX6_readItem_8 rfl (by rw [hnL]; rfl) rfl ?_
  refine g_aload_n hX dX6_readItem_9 1 rfl ?_
  refine g_dup hX dX6_readItem_10 rfl ?_
  refine g_get hX (v := .int (nI (mI M))) 0 inRX6 rfl rfl 10 rfl fl71 rfl rfl dX6_readItem_11 ?_
  refine g_iconst hX (nI 1) dX6_readItem_14 rfl ?_
  refine g_iadd hX (nI ((mI M) + 1)) dX6_readItem_15 (nI_add _ _) ?_
  refine g_eq (show (mw E a M : va_W) = mw E a (mkMV (mT M) (mS M) (mA M) (mW M) (mK M) (mP M) (mE M) (mN M) (mX M) (mL M) (mI M) (mD M) (mR M) (mM M) (mO M) (mF M) (mU M) (mQ M) (mZ M) (mG M) (mH M)) from rfl) rfl rfl ?_
  refine g_put hX (mw E a (mkMV (mT M) (mS M) (mA M) (mW M) (mK M) (mP M) (mE M) (mN M) (mX M) (mL M) ((mI M) + 1) (mD M) (mR M) (mM M) (mO M) (mF M) (mU M) (mQ M) (mZ M) (mG M) (mH M))) 0 inRX6 tyX6_ok nmX6 (atModel_0 _ _ _ _ _ _ _ _ _ _ _ _ _ _ _ _ _ _ _ _ _ _ _) rfl 10 rfl fl71 rfl rfl rfl rfl rfl dX6_readItem_16 (stModel_0_10 _ _ _ _ _ _ _ _ _ _ _ _ _ _ _ _ _ _ _ _ _ _ _ _) ?_
  refine g_iload_n hX dX6_readItem_19 0 rfl ?_
  by_cases sw20_102 : (oJ (letO ((mX M)) ((mL M)) (mI M))) = nI 102
  · refine g_lookup hX 56 dX6_readItem_20 (by decide) (by rw [sw20_102]) (by decide) ?_
    have hl := (oJ_s (letB hX2) (by decide)).mp sw20_102
    refine g_aload_n hX dX6_readItem_56 1 rfl ?_
    have hc57 : CUT (mw E a (mkMV (mT M) (mS M) (mA M) (mW M) (mK M) (mP M) (mE M) (mN M) (mX M) (mL M) ((mI M) + 1) (mD M) (mR M) (mM M) (mO M) (mF M) (mU M) (mQ M) (mZ M) (mG M) (mH M))) (mw E a (mkMV (mT M) (mS M) (mA M) (mW M) (mK M) (mP M) (mE M) (mN M) (mX M) (mL M) ((mI M) + 1) (mD M) (mR M) (mM M) (mO M) (mF M) (mU M) (mQ M) (mZ M) (mG M) (mH M))) (([] : va_W)) [0, 1, 2, 3, 4, 5, 6, 7, 8, 9, 10, 11, 12] [] := ⟨rfl, rfl, rfl, rfl, rfl⟩
    refine g_VI hX hc57 [] [] (c_X6_readFactOf l E a (mkMV (mT M) (mS M) (mA M) (mW M) (mK M) (mP M) (mE M) (mN M) (mX M) (mL M) ((mI M) + 1) (mD M) (mR M) (mM M) (mO M) (mF M) (mU M) (mQ M) (mZ M) (mG M) (mH M)) D (by first | assumption | omega) (by first | assumption | omega) (by show mI M + 1 ≤ 300; omega) (by first | assumption | omega) hD.1.1.2.1) gX6_readItem_X6_readFactOf calX6_readFactOf rfl rfl rfl rfl 0 rfl rfl rfl rfl dX6_readItem_57 rfl ⟨Nat.zero_le _, Nat.zero_le _⟩ (fun u57 => mw E a u57) [0, 1, 2, 3, 4, 5, 6, 7, 8, 9, 10, 11, 12] rfl (fun _ => rfl) (fun u57 hu57 => ?_)
    exact g_eq rfl rfl (congrArg (fun z => [Value.int z]) (congrArg bI (by exact (it_f hl).1.symm))) (hret u57 _ _ (⟨hu57.1, (it_f hl).2 u57 (hu57.2.1.trans hTD) hu57.2.2⟩) dX6_readItem_60)
  by_cases sw20_114 : (oJ (letO ((mX M)) ((mL M)) (mI M))) = nI 114
  · refine g_lookup hX 66 dX6_readItem_20 (by decide) (by rw [sw20_114]) (by decide) ?_
    have hl := (oJ_s (letB hX2) (by decide)).mp sw20_114
    refine g_aload_n hX dX6_readItem_66 1 rfl ?_
    have hc67 : CUT (mw E a (mkMV (mT M) (mS M) (mA M) (mW M) (mK M) (mP M) (mE M) (mN M) (mX M) (mL M) ((mI M) + 1) (mD M) (mR M) (mM M) (mO M) (mF M) (mU M) (mQ M) (mZ M) (mG M) (mH M))) (mw E a (mkMV (mT M) (mS M) (mA M) (mW M) (mK M) (mP M) (mE M) (mN M) (mX M) (mL M) ((mI M) + 1) (mD M) (mR M) (mM M) (mO M) (mF M) (mU M) (mQ M) (mZ M) (mG M) (mH M))) (([] : va_W)) [0, 1, 2, 3, 4, 5, 6, 7, 8, 9, 10, 11, 12] [] := ⟨rfl, rfl, rfl, rfl, rfl⟩
    refine g_VI hX hc67 [] [] (c_X6_readTermOf l E a (mkMV (mT M) (mS M) (mA M) (mW M) (mK M) (mP M) (mE M) (mN M) (mX M) (mL M) ((mI M) + 1) (mD M) (mR M) (mM M) (mO M) (mF M) (mU M) (mQ M) (mZ M) (mG M) (mH M)) D (by first | assumption | omega) (by first | assumption | omega) (by show mI M + 1 ≤ 300; omega) (by first | assumption | omega)) gX6_readItem_X6_readTermOf calX6_readTermOf rfl rfl rfl rfl 0 rfl rfl rfl rfl dX6_readItem_67 rfl ⟨Nat.zero_le _, Nat.zero_le _⟩ (fun u67 => mw E a u67) [0, 1, 2, 3, 4, 5, 6, 7, 8, 9, 10, 11, 12] rfl (fun _ => rfl) (fun u67 hu67 => ?_)
    exact g_eq rfl rfl (congrArg (fun z => [Value.int z]) (congrArg bI (by exact (it_r hl).1.symm))) (hret u67 _ _ (⟨hu67.1, (it_r hl).2 u67 (by rw [hu67.2.1]; exact hR) hu67.2.2⟩) dX6_readItem_70)
  by_cases sw20_115 : (oJ (letO ((mX M)) ((mL M)) (mI M))) = nI 115
  · refine g_lookup hX 61 dX6_readItem_20 (by decide) (by rw [sw20_115]) (by decide) ?_
    have hl := (oJ_s (letB hX2) (by decide)).mp sw20_115
    refine g_aload_n hX dX6_readItem_61 1 rfl ?_
    have hc62 : CUT (mw E a (mkMV (mT M) (mS M) (mA M) (mW M) (mK M) (mP M) (mE M) (mN M) (mX M) (mL M) ((mI M) + 1) (mD M) (mR M) (mM M) (mO M) (mF M) (mU M) (mQ M) (mZ M) (mG M) (mH M))) (mw E a (mkMV (mT M) (mS M) (mA M) (mW M) (mK M) (mP M) (mE M) (mN M) (mX M) (mL M) ((mI M) + 1) (mD M) (mR M) (mM M) (mO M) (mF M) (mU M) (mQ M) (mZ M) (mG M) (mH M))) (([] : va_W)) [0, 1, 2, 3, 4, 5, 6, 7, 8, 9, 10, 11, 12] [] := ⟨rfl, rfl, rfl, rfl, rfl⟩
    refine g_VI hX hc62 [] [] (c_X6_readSayingOf l E a (mkMV (mT M) (mS M) (mA M) (mW M) (mK M) (mP M) (mE M) (mN M) (mX M) (mL M) ((mI M) + 1) (mD M) (mR M) (mM M) (mO M) (mF M) (mU M) (mQ M) (mZ M) (mG M) (mH M)) D (by first | assumption | omega) (by first | assumption | omega) (by show mI M + 1 ≤ 300; omega) (by first | assumption | omega) hD.1.1.1) gX6_readItem_X6_readSayingOf calX6_readSayingOf rfl rfl rfl rfl 0 rfl rfl rfl rfl dX6_readItem_62 rfl ⟨Nat.zero_le _, Nat.zero_le _⟩ (fun u62 => mw E a u62) [0, 1, 2, 3, 4, 5, 6, 7, 8, 9, 10, 11, 12] rfl (fun _ => rfl) (fun u62 hu62 => ?_)
    exact g_eq rfl rfl (congrArg (fun z => [Value.int z]) (congrArg bI (by exact (it_s hl).1.symm))) (hret u62 _ _ (⟨hu62.1, (it_s hl).2 u62 (hu62.2.1.trans hTD) hu62.2.2⟩) dX6_readItem_65)
  refine g_lookup hX 71 dX6_readItem_20 (by decide) (lk_out sw20_102 sw20_114 sw20_115) (by decide) ?_
  have hno : itO (mX M) (mL M) (mI M) D = none := it_x (fun e => sw20_102 (by rw [e]; rfl)) (fun e => sw20_114 (by rw [e]; rfl)) (fun e => sw20_115 (by rw [e]; rfl)) hX2
  refine g_iconst hX (nI 0) dX6_readItem_71 rfl ?_
  exact g_eq rfl rfl (congrArg (fun z => [Value.int z]) (bret_f (by rw [hno]; rfl))) (hret (mkMV (mT M) (mS M) (mA M) (mW M) (mK M) (mP M) (mE M) (mN M) (mX M) (mL M) ((mI M) + 1) (mD M) (mR M) (mM M) (mO M) (mF M) (mU M) (mQ M) (mZ M) (mG M) (mH M)) _ _ (⟨⟨⟨rfl, rfl, rfl, rfl, rfl, rfl, rfl⟩, ⟨rfl, rfl⟩, rfl⟩, fun r hr => by rw [hno] at hr; cases hr⟩) dX6_readItem_72)
set_option maxHeartbeats 4000000 in
set_option maxRecDepth 100000 in
theorem c_X6_fault (l : Launch) (E : EV) (a : Nat → Nat) (M : MV) (C : FC) (hL : mL M ≤ 200) (hX2 : ∀ i, mX M i < 128) : KI l yX6_fault wsX6_fault (rmN 5) E (σ := MV) [.ref (a 0)] (mw E a M) (fun u => KS M u ∧ ((txA (mX M) (mL M) 200 0 (emC C)).1 = none → RR (txA (mX M) (mL M) 200 0 (emC C)).2 (mR u) ∧ mM u = cT (txA (mX M) (mL M) 200 0 (emC C)).2)) (fun u => (oI (txA (mX M) (mL M) 200 0 (emC C)).1)) (fun u => mw E a u) 0 0 := by
  refine KI.of (cc := cX6_fault) (maxL := 2) (ty := .int) (hnar := fun _ _ => rfl) rfl rfl rfl (fun x hX hin hret hnL => ?_)
  replace hX : CX x l cX6_fault RX6 wsX6_fault E (rmN 5) := hX
  show GG x 0 0 (mw E a M) 0 [(0, .ref (a 0))] []
  have inRX6 : ∀ w ∈ wsX60, w ∈ wsX6_fault := by decide +kernel
  have fl68 : Cond.fieldLink RX6 68 "LieForceModel" "texted" "I" ∈ wsX6_fault := by decide +kernel
  have fl71 : Cond.fieldLink RX6 71 "LieForceModel" "at" "I" ∈ wsX6_fault := by decide +kernel
  refine g_aload_n hX dX6_fault_0 0 rfl ?_
  refine g_iconst hX (nI 0) dX6_fault_1 rfl ?_
  refine g_eq (show (mw E a M : va_W) = mw E a (mkMV (mT M) (mS M) (mA M) (mW M) (mK M) (mP M) (mE M) (mN M) (mX M) (mL M) (mI M) (mD M) (mR M) (mM M) (mO M) (mF M) (mU M) (mQ M) (mZ M) (mG M) (mH M)) from rfl) rfl rfl ?_
  refine g_put hX (mw E a (mkMV (mT M) (mS M) (mA M) (mW M) (mK M) (mP M) (mE M) (mN M) (mX M) (mL M) 0 (mD M) (mR M) (mM M) (mO M) (mF M) (mU M) (mQ M) (mZ M) (mG M) (mH M))) 0 inRX6 tyX6_ok nmX6 (atModel_0 _ _ _ _ _ _ _ _ _ _ _ _ _ _ _ _ _ _ _ _ _ _ _) rfl 10 rfl fl71 rfl rfl rfl rfl rfl dX6_fault_2 (stModel_0_10 _ _ _ _ _ _ _ _ _ _ _ _ _ _ _ _ _ _ _ _ _ _ _ _) ?_
  refine g_aload_n hX dX6_fault_5 0 rfl ?_
  have hc6 : CUT (mw E a (mkMV (mT M) (mS M) (mA M) (mW M) (mK M) (mP M) (mE M) (mN M) (mX M) (mL M) 0 (mD M) (mR M) (mM M) (mO M) (mF M) (mU M) (mQ M) (mZ M) (mG M) (mH M))) (mw E a (mkMV (mT M) (mS M) (mA M) (mW M) (mK M) (mP M) (mE M) (mN M) (mX M) (mL M) 0 (mD M) (mR M) (mM M) (mO M) (mF M) (mU M) (mQ M) (mZ M) (mG M) (mH M))) (([] : va_W)) [0, 1, 2, 3, 4, 5, 6, 7, 8, 9, 10, 11, 12] [] := ⟨rfl, rfl, rfl, rfl, rfl⟩
  refine g_VV hX hc6 [] [] (c_X6_clearTold l E a (mkMV (mT M) (mS M) (mA M) (mW M) (mK M) (mP M) (mE M) (mN M) (mX M) (mL M) 0 (mD M) (mR M) (mM M) (mO M) (mF M) (mU M) (mQ M) (mZ M) (mG M) (mH M))) gX6_fault_X6_clearTold calX6_clearTold rfl rfl rfl rfl 0 rfl rfl rfl rfl dX6_fault_6 rfl ⟨Nat.zero_le _, Nat.zero_le _⟩ (fun u6 => mw E a (mkMV (mT M) (mS M) (mA M) (mW M) (mK M) (mP M) (mE M) (mN M) (mX M) (mL M) 0 (mD M) u6 5 (mO M) (mF M) (mU M) (mQ M) (mZ M) (mG M) (mH M))) [0, 1, 2, 3, 4, 5, 6, 7, 8, 9, 10, 11, 12] rfl (fun _ => rfl) (fun u6 hu6 => ?_)
  have lp9 : ∀ (fuel : Nat) (N : MV) (D : FC) (k : Nat), 200 - mI N < fuel → (KS M N) → (RR D (mR N)) → (mM N = cT D) → (RI D) → (mI N ≤ 200) → (mL M ≤ mI N + k) → ((txA (mX M) (mL M) 200 0 (emC C)) = txA (mX M) (mL M) k (mI N) D) → GG x 0 0 (mw E a N) 9 [(0, .ref (a 0))] [] := by
    intro fuel
    induction fuel with
    | zero => intro N D k hm; exact absurd hm (Nat.not_lt_zero _)
    | succ fuel ih9 =>
      intro N D k hm9 hKN hR hTD hD hp hk he
      obtain ⟨hNX, hNL⟩ : mX N = mX M ∧ mL N = mL M := ⟨hKN.1.1, hKN.1.2.1⟩
      refine g_aload_n hX dX6_fault_9 0 rfl ?_
      refine g_get hX (v := .int (nI (mI N))) 0 inRX6 rfl rfl 10 rfl fl71 rfl rfl dX6_fault_10 ?_
      refine g_aload_n hX dX6_fault_13 0 rfl ?_
      refine g_get hX (v := .int (nI (mL N))) 0 inRX6 rfl rfl 9 rfl fl68 rfl rfl dX6_fault_14 ?_
      refine g_icmp_ge hX 37 dX6_fault_17 (by decide) (fun c17 => ?_) (fun c17 => ?_)
      · replace c17 := (nI_leI (by omega) (by omega)).mp c17
        refine g_bipush hX ((-4)) dX6_fault_37 rfl ?_
        exact g_eq rfl rfl (congrArg (fun z => [Value.int z]) (by rw [he, tx_end (by omega)]; rfl)) (hret N _ _ (⟨hKN, fun _ => by rw [he, tx_end (by omega)]; exact ⟨hR, hTD⟩⟩) dX6_fault_39)
      · replace c17 := mt (nI_leI (by omega) (by omega)).mpr c17
        refine g_aload_n hX dX6_fault_20 0 rfl ?_
        refine g_get hX (v := .int (nI (mI N))) 0 inRX6 rfl rfl 10 rfl fl71 rfl rfl dX6_fault_21 ?_
        refine g_istore_n hX (j := 1) [(1, .int (nI (mI N))), (0, .ref (a 0))] dX6_fault_24 rfl (by rw [hnL]; rfl) rfl ?_
        refine g_aload_n hX dX6_fault_25 1 rfl ?_
        have hc26 : CUT (mw E a N) (mw E a N) (([] : va_W)) [0, 1, 2, 3, 4, 5, 6, 7, 8, 9, 10, 11, 12] [] := ⟨rfl, rfl, rfl, rfl, rfl⟩
        refine g_VI hX hc26 [] [] (c_X6_readItem l E a N D (by omega) (by rw [hNX]; exact hX2) (by omega) (by first | assumption | omega) (by omega) (by first | assumption | omega) (by first | assumption | omega)) gX6_fault_X6_readItem calX6_readItem rfl rfl rfl rfl 0 rfl rfl rfl rfl dX6_fault_26 rfl ⟨Nat.zero_le _, Nat.zero_le _⟩ (fun u26 => mw E a u26) [0, 1, 2, 3, 4, 5, 6, 7, 8, 9, 10, 11, 12] rfl (fun _ => rfl) (fun u26 hu26 => ?_)
        refine g_if_ne hX 34 dX6_fault_29 (by decide) (fun c29 => ?_) (fun c29 => ?_)
        · replace c29 := mt bI_0.mpr c29
          replace c29 := bNf c29
          obtain ⟨r, hr⟩ := Option.isSome_iff_exists.mp c29
          have hr2 : itO (mX M) (mL M) (mI N) D = some r := by rw [← hNX, ← hNL]; exact hr
          have hu26r := hu26.2 r hr
          refine g_goto hX 9 dX6_fault_34 (by decide) ?_
          exact g_lv _ [1] rfl (ih9 u26 r.2 (k - 1) (by have := (it_lt hr2).1; have := (it_lt hr2).2; omega) (KS_tr hKN hu26.1) hu26r.2.1 hu26r.2.2 (RI_it hD hr2) (by have := (it_lt hr2).2; omega) (by have := (it_lt hr2).1; omega) (by rw [he, tx_ok (by omega) (by omega) hr2, hu26r.1]))
        · replace c29 := bI_0.mp c29
          have hno : itO (mX M) (mL M) (mI N) D = none := by rw [← hNX, ← hNL]; exact Option.not_isSome_iff_eq_none.mp (by rw [c29]; decide)
          refine g_iload_n hX dX6_fault_32 0 rfl ?_
          exact g_eq rfl rfl (congrArg (fun z => [Value.int z]) (by show nI (mI N) = _; rw [he, tx_bad (by omega) (by omega) hno]; rfl)) (hret u26 _ _ (⟨KS_tr hKN hu26.1, fun h => by rw [he, tx_bad (by omega) (by omega) hno] at h; cases h⟩) dX6_fault_33)
  exact g_lv _ [0] rfl (lp9 _ (mkMV (mT M) (mS M) (mA M) (mW M) (mK M) (mP M) (mE M) (mN M) (mX M) (mL M) 0 (mD M) u6 5 (mO M) (mF M) (mU M) (mQ M) (mZ M) (mG M) (mH M)) (emC C) 200 (Nat.lt_succ_self _) (⟨⟨rfl, rfl, rfl, rfl, rfl, rfl, rfl⟩, ⟨rfl, rfl⟩, rfl⟩) (RR_em hu6) rfl (RI_em C) (Nat.zero_le _) (by show mL M ≤ 0 + 200; omega) rfl)
set_option maxHeartbeats 4000000 in
set_option maxRecDepth 100000 in
theorem c_X6_settles (l : Launch) (E : EV) (a : Nat → Nat) (M : MV) (D : FC) (hD : RI D) (hR : RR D (mR M)) (hTD : mM M = cT D) : KV l yX6_settles wsX6_settles (rmN 5) E (σ := MV) [.ref (a 0)] (mw E a M) (fun u => mX u = mX M ∧ mL u = mL M ∧ RW D (mS u) ∧ mT u = cT D ∧ mA u = 0 ∧ mK u = 0 ∧ mE u = 0) (fun u => mw E a u) 0 0 := by
  refine KV.of (cc := cX6_settles) (maxL := 1) rfl rfl rfl (fun x hX hin hret hnL => ?_)
  replace hX : CX x l cX6_settles RX6 wsX6_settles E (rmN 5) := hX
  show GG x 0 0 (mw E a M) 0 [(0, .ref (a 0))] []
  have inRX6 : ∀ w ∈ wsX60, w ∈ wsX6_settles := by decide +kernel
  have fl105 : Cond.fieldLink RX6 105 "LieForceModel" "term" "I" ∈ wsX6_settles := by decide +kernel
  have fl115 : Cond.fieldLink RX6 115 "LieForceModel" "acts" "I" ∈ wsX6_settles := by decide +kernel
  have fl118 : Cond.fieldLink RX6 118 "LieForceModel" "keeps" "I" ∈ wsX6_settles := by decide +kernel
  have fl121 : Cond.fieldLink RX6 121 "LieForceModel" "sees" "I" ∈ wsX6_settles := by decide +kernel
  have fl28 : Cond.fieldLink RX6 28 "LieForceModel" "read" "[I" ∈ wsX6_settles := by decide +kernel
  have fl31 : Cond.fieldLink RX6 31 "LieForceModel" "now" "[I" ∈ wsX6_settles := by decide +kernel
  have fl53 : Cond.fieldLink RX6 53 "LieForceModel" "readTerm" "I" ∈ wsX6_settles := by decide +kernel
  have fl7 : Cond.fieldLink RX6 7 "LieForceModel" "st" "[I" ∈ wsX6_settles := by decide +kernel
  have h9 := hD.1.1.1
  refine g_aload_n hX dX6_settles_0 0 rfl ?_
  refine g_aload_n hX dX6_settles_1 0 rfl ?_
  refine g_get hX (v := .int (nI (mM M))) 0 inRX6 rfl rfl 13 rfl fl53 rfl rfl dX6_settles_2 ?_
  refine g_eq (show (mw E a M : va_W) = mw E a (mkMV (mT M) (mS M) (mA M) (mW M) (mK M) (mP M) (mE M) (mN M) (mX M) (mL M) (mI M) (mD M) (mR M) (mM M) (mO M) (mF M) (mU M) (mQ M) (mZ M) (mG M) (mH M)) from rfl) rfl rfl ?_
  refine g_put hX (mw E a (mkMV (mM M) (mS M) (mA M) (mW M) (mK M) (mP M) (mE M) (mN M) (mX M) (mL M) (mI M) (mD M) (mR M) (mM M) (mO M) (mF M) (mU M) (mQ M) (mZ M) (mG M) (mH M))) 0 inRX6 tyX6_ok nmX6 (atModel_0 _ _ _ _ _ _ _ _ _ _ _ _ _ _ _ _ _ _ _ _ _ _ _) rfl 0 rfl fl105 rfl rfl rfl rfl rfl dX6_settles_5 (stModel_0_0 _ _ _ _ _ _ _ _ _ _ _ _ _ _ _ _ _ _ _ _ _ _ _ _) ?_
  refine g_aload_n hX dX6_settles_8 0 rfl ?_
  refine g_get hX (v := .ref (a 8)) 0 inRX6 (atModel_0 _ _ _ _ _ _ _ _ _ _ _ _ _ _ _ _ _ _ _ _ _ _ _) rfl 14 rfl fl31 rfl rfl dX6_settles_9 ?_
  refine g_iconst hX (nI 0) dX6_settles_12 rfl ?_
  refine g_aload_n hX dX6_settles_13 0 rfl ?_
  refine g_get hX (v := .ref (a 7)) 0 inRX6 (atModel_0 _ _ _ _ _ _ _ _ _ _ _ _ _ _ _ _ _ _ _ _ _ _ _) rfl 12 rfl fl28 rfl rfl dX6_settles_14 ?_
  refine g_iconst hX (nI 0) dX6_settles_17 rfl ?_
  have hc18 : CUT (mw E a (mkMV (mM M) (mS M) (mA M) (mW M) (mK M) (mP M) (mE M) (mN M) (mX M) (mL M) (mI M) (mD M) (mR M) (mM M) (mO M) (mF M) (mU M) (mQ M) (mZ M) (mG M) (mH M))) ((aw E (a 8) 49 (mO M)) ++ (aw E (a 7) 49 (mR M))) ((List.eraseIdx (List.eraseIdx (mw E a (mkMV (mM M) (mS M) (mA M) (mW M) (mK M) (mP M) (mE M) (mN M) (mX M) (mL M) (mI M) (mD M) (mR M) (mM M) (mO M) (mF M) (mU M) (mQ M) (mZ M) (mG M) (mH M))) 8) 7)) [8, 7] [0, 1, 2, 3, 4, 5, 6, 9, 10, 11, 12] := ⟨rfl, rfl, rfl, rfl, rfl⟩
  refine g_TV hX hc18 [.ref (a 8), .int (nI 0), .ref (a 7), .int (nI 0)] [] (c_X6_copies l E (a 8) 49 (mO M) 0 (a 7) 49 (mR M) 0 (by omega) (by omega) (by omega) (by omega)) gX6_settles_X6_copies calX6_copies rfl rfl rfl rfl dX6_settles_18 rfl ⟨Nat.zero_le _, Nat.zero_le _⟩ (fun _ => mw E a (mkMV (mM M) (mS M) (mA M) (mW M) (mK M) (mP M) (mE M) (mN M) (mX M) (mL M) (mI M) (mD M) (mR M) (mM M) (cpR (mO M) (mR M) 0 0) (mF M) (mU M) (mQ M) (mZ M) (mG M) (mH M))) [0, 1, 2, 3, 4, 5, 6, 12, 11, 7, 8, 9, 10] rfl (fun _ => rfl) (fun _ hu18 => ?_)
  refine g_aload_n hX dX6_settles_21 0 rfl ?_
  have hc22 : CUT (mw E a (mkMV (mM M) (mS M) (mA M) (mW M) (mK M) (mP M) (mE M) (mN M) (mX M) (mL M) (mI M) (mD M) (mR M) (mM M) (cpR (mO M) (mR M) 0 0) (mF M) (mU M) (mQ M) (mZ M) (mG M) (mH M))) (mw E a (mkMV (mM M) (mS M) (mA M) (mW M) (mK M) (mP M) (mE M) (mN M) (mX M) (mL M) (mI M) (mD M) (mR M) (mM M) (cpR (mO M) (mR M) 0 0) (mF M) (mU M) (mQ M) (mZ M) (mG M) (mH M))) (([] : va_W)) [0, 1, 2, 3, 4, 5, 6, 7, 8, 9, 10, 11, 12] [] := ⟨rfl, rfl, rfl, rfl, rfl⟩
  refine g_VV hX hc22 [] [] (c_X6_appoints l E a (mkMV (mM M) (mS M) (mA M) (mW M) (mK M) (mP M) (mE M) (mN M) (mX M) (mL M) (mI M) (mD M) (mR M) (mM M) (cpR (mO M) (mR M) 0 0) (mF M) (mU M) (mQ M) (mZ M) (mG M) (mH M)) D hD.1 (RB_cp h9 hR.1)) gX6_settles_X6_appoints calX6_appoints rfl rfl rfl rfl 0 rfl rfl rfl rfl dX6_settles_22 rfl ⟨Nat.zero_le _, Nat.zero_le _⟩ (fun u22 => mw E a (mkMV (mM M) (mS M) (mA M) (mW M) (mK M) (mP M) (mE M) (mN M) (mX M) (mL M) (mI M) (mD M) (mR M) (mM M) u22 (mF M) (mU M) (mQ M) (mZ M) (mG M) (mH M))) [0, 1, 2, 3, 4, 5, 6, 7, 8, 9, 10, 11, 12] rfl (fun _ => rfl) (fun u22 hu22 => ?_)
  refine g_aload_n hX dX6_settles_25 0 rfl ?_
  refine g_get hX (v := .ref (a 1)) 0 inRX6 (atModel_0 _ _ _ _ _ _ _ _ _ _ _ _ _ _ _ _ _ _ _ _ _ _ _) rfl 1 rfl fl7 rfl rfl dX6_settles_26 ?_
  refine g_iconst hX (nI 0) dX6_settles_29 rfl ?_
  refine g_aload_n hX dX6_settles_30 0 rfl ?_
  refine g_get hX (v := .ref (a 8)) 0 inRX6 (atModel_0 _ _ _ _ _ _ _ _ _ _ _ _ _ _ _ _ _ _ _ _ _ _ _) rfl 14 rfl fl31 rfl rfl dX6_settles_31 ?_
  refine g_iconst hX (nI 0) dX6_settles_34 rfl ?_
  have hc35 : CUT (mw E a (mkMV (mM M) (mS M) (mA M) (mW M) (mK M) (mP M) (mE M) (mN M) (mX M) (mL M) (mI M) (mD M) (mR M) (mM M) u22 (mF M) (mU M) (mQ M) (mZ M) (mG M) (mH M))) ((aw E (a 1) 49 (mS M)) ++ (aw E (a 8) 49 u22)) ((List.eraseIdx (List.eraseIdx (mw E a (mkMV (mM M) (mS M) (mA M) (mW M) (mK M) (mP M) (mE M) (mN M) (mX M) (mL M) (mI M) (mD M) (mR M) (mM M) u22 (mF M) (mU M) (mQ M) (mZ M) (mG M) (mH M))) 8) 1)) [1, 8] [0, 2, 3, 4, 5, 6, 7, 9, 10, 11, 12] := ⟨rfl, rfl, rfl, rfl, rfl⟩
  refine g_TV hX hc35 [.ref (a 1), .int (nI 0), .ref (a 8), .int (nI 0)] [] (c_X6_copies l E (a 1) 49 (mS M) 0 (a 8) 49 u22 0 (by omega) (by omega) (by omega) (by omega)) gX6_settles_X6_copies calX6_copies rfl rfl rfl rfl dX6_settles_35 rfl ⟨Nat.zero_le _, Nat.zero_le _⟩ (fun _ => mw E a (mkMV (mM M) (cpR (mS M) u22 0 0) (mA M) (mW M) (mK M) (mP M) (mE M) (mN M) (mX M) (mL M) (mI M) (mD M) (mR M) (mM M) u22 (mF M) (mU M) (mQ M) (mZ M) (mG M) (mH M))) [0, 11, 1, 2, 3, 4, 5, 6, 12, 7, 8, 9, 10] rfl (fun _ => rfl) (fun _ hu35 => ?_)
  refine g_aload_n hX dX6_settles_38 0 rfl ?_
  refine g_iconst hX (nI 0) dX6_settles_39 rfl ?_
  refine g_put hX (mw E a (mkMV (mM M) (cpR (mS M) u22 0 0) 0 (mW M) (mK M) (mP M) (mE M) (mN M) (mX M) (mL M) (mI M) (mD M) (mR M) (mM M) u22 (mF M) (mU M) (mQ M) (mZ M) (mG M) (mH M))) 0 inRX6 tyX6_ok nmX6 (atModel_0 _ _ _ _ _ _ _ _ _ _ _ _ _ _ _ _ _ _ _ _ _ _ _) rfl 2 rfl fl115 rfl rfl rfl rfl rfl dX6_settles_40 (stModel_0_2 _ _ _ _ _ _ _ _ _ _ _ _ _ _ _ _ _ _ _ _ _ _ _ _) ?_
  refine g_aload_n hX dX6_settles_43 0 rfl ?_
  refine g_iconst hX (nI 0) dX6_settles_44 rfl ?_
  refine g_put hX (mw E a (mkMV (mM M) (cpR (mS M) u22 0 0) 0 (mW M) 0 (mP M) (mE M) (mN M) (mX M) (mL M) (mI M) (mD M) (mR M) (mM M) u22 (mF M) (mU M) (mQ M) (mZ M) (mG M) (mH M))) 0 inRX6 tyX6_ok nmX6 (atModel_0 _ _ _ _ _ _ _ _ _ _ _ _ _ _ _ _ _ _ _ _ _ _ _) rfl 4 rfl fl118 rfl rfl rfl rfl rfl dX6_settles_45 (stModel_0_4 _ _ _ _ _ _ _ _ _ _ _ _ _ _ _ _ _ _ _ _ _ _ _ _) ?_
  refine g_aload_n hX dX6_settles_48 0 rfl ?_
  refine g_iconst hX (nI 0) dX6_settles_49 rfl ?_
  refine g_put hX (mw E a (mkMV (mM M) (cpR (mS M) u22 0 0) 0 (mW M) 0 (mP M) 0 (mN M) (mX M) (mL M) (mI M) (mD M) (mR M) (mM M) u22 (mF M) (mU M) (mQ M) (mZ M) (mG M) (mH M))) 0 inRX6 tyX6_ok nmX6 (atModel_0 _ _ _ _ _ _ _ _ _ _ _ _ _ _ _ _ _ _ _ _ _ _ _) rfl 6 rfl fl121 rfl rfl rfl rfl rfl dX6_settles_50 (stModel_0_6 _ _ _ _ _ _ _ _ _ _ _ _ _ _ _ _ _ _ _ _ _ _ _ _) ?_
  exact g_eq rfl rfl rfl (hret (mkMV (mM M) (cpR (mS M) u22 0 0) 0 (mW M) 0 (mP M) 0 (mN M) (mX M) (mL M) (mI M) (mD M) (mR M) (mM M) u22 (mF M) (mU M) (mQ M) (mZ M) (mG M) (mH M)) _ _ (⟨rfl, rfl, RW_cp h9 ⟨hu22.1, RW_ap h9 hD hR hu22.2⟩, hTD, rfl, rfl, rfl⟩) dX6_settles_53)
set_option maxHeartbeats 4000000 in
set_option maxRecDepth 100000 in
theorem c_X6_lay_n (l : Launch) (E : EV) (a : Nat → Nat) (M : MV) (C : FC) (hL : mL M ≤ 200) (hX2 : ∀ i, mX M i < 128) (hno : (txA (mX M) (mL M) 200 0 (emC C)).1 = none → cN (txA (mX M) (mL M) 200 0 (emC C)).2 = 0) : KI l yX6_lay wsX6_lay (rmN 6) E (σ := MV) [.ref (a 0)] (mw E a M) (fun u => KS M u) (fun u => (-2)) (fun u => mw E a u) 0 0 := by
  refine KI.of (cc := cX6_lay) (maxL := 1) (ty := .int) (hnar := fun _ _ => rfl) rfl rfl rfl (fun x hX hin hret hnL => ?_)
  replace hX : CX x l cX6_lay RX6 wsX6_lay E (rmN 6) := hX
  show GG x 0 0 (mw E a M) 0 [(0, .ref (a 0))] []
  have inRX6 : ∀ w ∈ wsX60, w ∈ wsX6_lay := by decide +kernel
  have fl28 : Cond.fieldLink RX6 28 "LieForceModel" "read" "[I" ∈ wsX6_lay := by decide +kernel
  have hlt : ∀ t, (txA (mX M) (mL M) 200 0 (emC C)).1 = some t → t < 2 ^ 31 := fun t ht => by have := tx_lt _ _ _ _ ht; omega
  have hRI := RI_tx (tx := mX M) (n := mL M) 200 0 _ (RI_em C)
  refine g_aload_n hX dX6_lay_0 0 rfl ?_
  have hc1 : CUT (mw E a M) (mw E a M) (([] : va_W)) [0, 1, 2, 3, 4, 5, 6, 7, 8, 9, 10, 11, 12] [] := ⟨rfl, rfl, rfl, rfl, rfl⟩
  refine g_VI hX hc1 [] [] (c_X6_fault l E a M C (by first | assumption | omega) (by first | assumption | omega)) gX6_lay_X6_fault calX6_fault rfl rfl rfl rfl 0 rfl rfl rfl rfl dX6_lay_1 rfl ⟨Nat.zero_le _, Nat.zero_le _⟩ (fun u1 => mw E a u1) [0, 1, 2, 3, 4, 5, 6, 7, 8, 9, 10, 11, 12] rfl (fun _ => rfl) (fun u1 hu1 => ?_)
  refine g_bipush hX ((-4)) dX6_lay_4 rfl ?_
  refine g_icmp_ne hX 18 dX6_lay_6 (by decide) (fun c6 => ?_) (fun c6 => ?_)
  · replace c6 := mt (oI_n hlt).mpr c6
    refine g_bipush hX ((-2)) dX6_lay_18 rfl ?_
    exact g_eq rfl rfl rfl (hret u1 _ _ hu1.1 dX6_lay_20)
  · replace c6 := (oI_n hlt).mp c6
    obtain ⟨hu1R, hu1T⟩ := hu1.2 c6
    have h9 := hRI.1.1.1
    refine g_aload_n hX dX6_lay_9 0 rfl ?_
    refine g_get hX (v := .ref (a 7)) 0 inRX6 rfl rfl 12 rfl fl28 rfl rfl dX6_lay_10 ?_
    refine g_iconst hX (nI 2) dX6_lay_13 rfl ?_
    refine g_iald hX (nI (cN ((txA (mX M) (mL M) 200 0 (emC C)).2))) 7 0 rfl rfl (vp_in_nI (by omega) (by omega)) ((ald_n (g := fun zz => (mR u1) zz) (i := 2) (by omega)).trans (RB_N hu1R.1)) dX6_lay_14 ?_
    refine g_if_ne hX 21 dX6_lay_15 (by decide) (fun c15 => ?_) (fun c15 => ?_)
    · replace c15 := mt (nz_eq (by omega)).mpr c15
      exact absurd (hno c6) c15
    · replace c15 := (nz_eq (by omega)).mp c15
      refine g_bipush hX ((-2)) dX6_lay_18 rfl ?_
      exact g_eq rfl rfl rfl (hret u1 _ _ hu1.1 dX6_lay_20)
set_option maxHeartbeats 4000000 in
set_option maxRecDepth 100000 in
theorem c_X6_lay_y (l : Launch) (E : EV) (a : Nat → Nat) (M : MV) (C : FC) (hL : mL M ≤ 200) (hX2 : ∀ i, mX M i < 128) (hyes : (txA (mX M) (mL M) 200 0 (emC C)).1 = none) (hpos : 0 < cN (txA (mX M) (mL M) 200 0 (emC C)).2) : KI l yX6_lay wsX6_lay (rmN 6) E (σ := MV) [.ref (a 0)] (mw E a M) (fun u => mX u = mX M ∧ mL u = mL M ∧ RW (txA (mX M) (mL M) 200 0 (emC C)).2 (mS u) ∧ mT u = cT (txA (mX M) (mL M) 200 0 (emC C)).2 ∧ mA u = 0 ∧ mK u = 0 ∧ mE u = 0) (fun u => (nI (cN (txA (mX M) (mL M) 200 0 (emC C)).2))) (fun u => mw E a u) 0 0 := by
  refine KI.of (cc := cX6_lay) (maxL := 1) (ty := .int) (hnar := fun _ _ => rfl) rfl rfl rfl (fun x hX hin hret hnL => ?_)
  replace hX : CX x l cX6_lay RX6 wsX6_lay E (rmN 6) := hX
  show GG x 0 0 (mw E a M) 0 [(0, .ref (a 0))] []
  have inRX6 : ∀ w ∈ wsX60, w ∈ wsX6_lay := by decide +kernel
  have fl28 : Cond.fieldLink RX6 28 "LieForceModel" "read" "[I" ∈ wsX6_lay := by decide +kernel
  have fl7 : Cond.fieldLink RX6 7 "LieForceModel" "st" "[I" ∈ wsX6_lay := by decide +kernel
  have hlt : ∀ t, (txA (mX M) (mL M) 200 0 (emC C)).1 = some t → t < 2 ^ 31 := fun t ht => by have := tx_lt _ _ _ _ ht; omega
  have hRI := RI_tx (tx := mX M) (n := mL M) 200 0 _ (RI_em C)
  refine g_aload_n hX dX6_lay_0 0 rfl ?_
  have hc1 : CUT (mw E a M) (mw E a M) (([] : va_W)) [0, 1, 2, 3, 4, 5, 6, 7, 8, 9, 10, 11, 12] [] := ⟨rfl, rfl, rfl, rfl, rfl⟩
  refine g_VI hX hc1 [] [] (c_X6_fault l E a M C (by first | assumption | omega) (by first | assumption | omega)) gX6_lay_X6_fault calX6_fault rfl rfl rfl rfl 0 rfl rfl rfl rfl dX6_lay_1 rfl ⟨Nat.zero_le _, Nat.zero_le _⟩ (fun u1 => mw E a u1) [0, 1, 2, 3, 4, 5, 6, 7, 8, 9, 10, 11, 12] rfl (fun _ => rfl) (fun u1 hu1 => ?_)
  refine g_bipush hX ((-4)) dX6_lay_4 rfl ?_
  refine g_icmp_ne hX 18 dX6_lay_6 (by decide) (fun c6 => ?_) (fun c6 => ?_)
  · replace c6 := mt (oI_n hlt).mpr c6
    exact absurd hyes c6
  · replace c6 := (oI_n hlt).mp c6
    obtain ⟨hu1R, hu1T⟩ := hu1.2 c6
    have h9 := hRI.1.1.1
    refine g_aload_n hX dX6_lay_9 0 rfl ?_
    refine g_get hX (v := .ref (a 7)) 0 inRX6 rfl rfl 12 rfl fl28 rfl rfl dX6_lay_10 ?_
    refine g_iconst hX (nI 2) dX6_lay_13 rfl ?_
    refine g_iald hX (nI (cN ((txA (mX M) (mL M) 200 0 (emC C)).2))) 7 0 rfl rfl (vp_in_nI (by omega) (by omega)) ((ald_n (g := fun zz => (mR u1) zz) (i := 2) (by omega)).trans (RB_N hu1R.1)) dX6_lay_14 ?_
    refine g_if_ne hX 21 dX6_lay_15 (by decide) (fun c15 => ?_) (fun c15 => ?_)
    · replace c15 := mt (nz_eq (by omega)).mpr c15
      refine g_aload_n hX dX6_lay_21 0 rfl ?_
      have hc22 : CUT (mw E a u1) (mw E a u1) (([] : va_W)) [0, 1, 2, 3, 4, 5, 6, 7, 8, 9, 10, 11, 12] [] := ⟨rfl, rfl, rfl, rfl, rfl⟩
      refine g_VV hX hc22 [] [] (c_X6_settles l E a u1 ((txA (mX M) (mL M) 200 0 (emC C)).2) hRI hu1R hu1T) gX6_lay_X6_settles calX6_settles rfl rfl rfl rfl 0 rfl rfl rfl rfl dX6_lay_22 rfl ⟨Nat.zero_le _, Nat.zero_le _⟩ (fun u22 => mw E a u22) [0, 1, 2, 3, 4, 5, 6, 7, 8, 9, 10, 11, 12] rfl (fun _ => rfl) (fun u22 hu22 => ?_)
      refine g_aload_n hX dX6_lay_25 0 rfl ?_
      refine g_get hX (v := .ref (a 1)) 0 inRX6 rfl rfl 1 rfl fl7 rfl rfl dX6_lay_26 ?_
      refine g_iconst hX (nI 2) dX6_lay_29 rfl ?_
      refine g_iald hX (nI (cN (txA (mX M) (mL M) 200 0 (emC C)).2)) 1 0 rfl rfl (vp_in_nI (by omega) (by omega)) ((ald_n (by omega)).trans (RB_N hu22.2.2.1.1)) dX6_lay_30 ?_
      exact g_eq rfl rfl rfl (hret u22 _ _ (⟨hu22.1.trans hu1.1.1.1, hu22.2.1.trans hu1.1.1.2.1, hu22.2.2⟩) dX6_lay_31)
    · replace c15 := (nz_eq (by omega)).mp c15
      omega
