set_option maxHeartbeats 4000000 in
set_option maxRecDepth 100000 in
theorem c_X6_clash_n1 (l : Launch) (E : EV) (a : Nat → Nat) (M : MV) (C : FC) (m : Nat) (x0 : Int32) (x1 : Int32) (hD : DI C m) (hm : m < 2 ^ 29) (hN1 : 1 ≤ cN C) (hS : RW C (mS M)) (hTm : cT C = mT M) (hx : win x0 (nI 0) (nI (cN C - 1)) = false) : KI l yX6_clash wsX6_clash (rmN 4) E (σ := MV) [.ref (a 0), .int x0, .int x1] (mw E a M) (fun u => KS M u) (fun u => (-1)) (fun u => mw E a u) 0 0 := by
  refine KI.of (cc := cX6_clash) (maxL := 3) (ty := .int) (hnar := fun _ _ => rfl) rfl rfl rfl (fun x hX hin hret hnL => ?_)
  replace hX : CX x l cX6_clash RX6 wsX6_clash E (rmN 4) := hX
  show GG x 0 0 (mw E a M) 0 [(0, .ref (a 0)), (1, .int x0), (2, .int x1)] []
  obtain ⟨hC, hVY, hZ, hYm⟩ := id hD
  obtain ⟨⟨h9, h64, h512, hT, hI⟩, hK⟩ := id hC
  have hV := DI_VB hD (by omega)
  refine g_aload_n hX dX6_clash_0 0 rfl ?_
  refine g_iload_n hX dX6_clash_1 1 rfl ?_
  have hc2 : CUT (mw E a M) (mw E a M) (([] : va_W)) [0, 1, 2, 3, 4, 5, 6, 7, 8, 9, 10, 11, 12] [] := ⟨rfl, rfl, rfl, rfl, rfl⟩
  refine g_VI hX hc2 [.int x0] [] (c_X6_isSaying_n l E a M C x0 (by first | assumption | omega) (by assumption) hS.1 (by assumption)) gX6_clash_X6_isSaying calX6_isSaying rfl rfl rfl rfl 0 rfl rfl rfl rfl dX6_clash_2 rfl ⟨Nat.zero_le _, Nat.zero_le _⟩ (fun _ => mw E a M) [0, 1, 2, 3, 4, 5, 6, 7, 8, 9, 10, 11, 12] rfl (fun _ => rfl) (fun _ hu2 => ?_)
  refine g_if_eq hX 21 dX6_clash_5 (by decide) (fun c5 => ?_) (fun c5 => ?_)
  · replace c5 := bI_0.mp c5
    refine g_iconst hX ((-1)) dX6_clash_21 rfl ?_
    exact g_eq rfl rfl rfl (hret M _ _ (⟨⟨rfl, rfl, rfl, rfl, rfl, rfl, rfl⟩, ⟨rfl, rfl⟩, rfl⟩) dX6_clash_22)
  · replace c5 := mt bI_0.mpr c5
    replace c5 := bNf c5
    exact absurd c5 (by simp)
set_option maxHeartbeats 4000000 in
set_option maxRecDepth 100000 in
theorem c_X6_clash_n2 (l : Launch) (E : EV) (a : Nat → Nat) (M : MV) (C : FC) (m : Nat) (s : Nat) (x1 : Int32) (hD : DI C m) (hm : m < 2 ^ 29) (hN1 : 1 ≤ cN C) (hS : RW C (mS M)) (hTm : cT C = mT M) (hs : s < cN C) (hx : win x1 (nI 0) (nI (cN C - 1)) = false) : KI l yX6_clash wsX6_clash (rmN 4) E (σ := MV) [.ref (a 0), .int (nI s), .int x1] (mw E a M) (fun u => KS M u) (fun u => (-1)) (fun u => mw E a u) 0 0 := by
  refine KI.of (cc := cX6_clash) (maxL := 3) (ty := .int) (hnar := fun _ _ => rfl) rfl rfl rfl (fun x hX hin hret hnL => ?_)
  replace hX : CX x l cX6_clash RX6 wsX6_clash E (rmN 4) := hX
  show GG x 0 0 (mw E a M) 0 [(0, .ref (a 0)), (1, .int (nI s)), (2, .int x1)] []
  obtain ⟨hC, hVY, hZ, hYm⟩ := id hD
  obtain ⟨⟨h9, h64, h512, hT, hI⟩, hK⟩ := id hC
  have hV := DI_VB hD (by omega)
  refine g_aload_n hX dX6_clash_0 0 rfl ?_
  refine g_iload_n hX dX6_clash_1 1 rfl ?_
  have hc2 : CUT (mw E a M) (mw E a M) (([] : va_W)) [0, 1, 2, 3, 4, 5, 6, 7, 8, 9, 10, 11, 12] [] := ⟨rfl, rfl, rfl, rfl, rfl⟩
  refine g_VI hX hc2 [.int (nI s)] [] (c_X6_isSaying_y l E a M C s (by first | assumption | omega) hS.1 (by omega)) gX6_clash_X6_isSaying calX6_isSaying rfl rfl rfl rfl 0 rfl rfl rfl rfl dX6_clash_2 rfl ⟨Nat.zero_le _, Nat.zero_le _⟩ (fun _ => mw E a M) [0, 1, 2, 3, 4, 5, 6, 7, 8, 9, 10, 11, 12] rfl (fun _ => rfl) (fun _ hu2 => ?_)
  refine g_if_eq hX 21 dX6_clash_5 (by decide) (fun c5 => ?_) (fun c5 => ?_)
  · replace c5 := bI_0.mp c5
    exact absurd c5 (by simp)
  · replace c5 := mt bI_0.mpr c5
    replace c5 := bNf c5
    refine g_aload_n hX dX6_clash_8 0 rfl ?_
    refine g_iload_n hX dX6_clash_9 2 rfl ?_
    have hc10 : CUT (mw E a M) (mw E a M) (([] : va_W)) [0, 1, 2, 3, 4, 5, 6, 7, 8, 9, 10, 11, 12] [] := ⟨rfl, rfl, rfl, rfl, rfl⟩
    refine g_VI hX hc10 [.int x1] [] (c_X6_isSaying_n l E a M C x1 (by first | assumption | omega) (by assumption) hS.1 (by assumption)) gX6_clash_X6_isSaying calX6_isSaying rfl rfl rfl rfl 0 rfl rfl rfl rfl dX6_clash_10 rfl ⟨Nat.zero_le _, Nat.zero_le _⟩ (fun _ => mw E a M) [0, 1, 2, 3, 4, 5, 6, 7, 8, 9, 10, 11, 12] rfl (fun _ => rfl) (fun _ hu10 => ?_)
    refine g_if_eq hX 21 dX6_clash_13 (by decide) (fun c13 => ?_) (fun c13 => ?_)
    · replace c13 := bI_0.mp c13
      refine g_iconst hX ((-1)) dX6_clash_21 rfl ?_
      exact g_eq rfl rfl rfl (hret M _ _ (⟨⟨rfl, rfl, rfl, rfl, rfl, rfl, rfl⟩, ⟨rfl, rfl⟩, rfl⟩) dX6_clash_22)
    · replace c13 := mt bI_0.mpr c13
      replace c13 := bNf c13
      exact absurd c13 (by simp)
set_option maxHeartbeats 4000000 in
set_option maxRecDepth 100000 in
theorem c_X6_clash_n3 (l : Launch) (E : EV) (a : Nat → Nat) (M : MV) (C : FC) (m : Nat) (s : Nat) (t : Nat) (hD : DI C m) (hm : m < 2 ^ 29) (hN1 : 1 ≤ cN C) (hS : RW C (mS M)) (hTm : cT C = mT M) (hs : s < cN C) (ht : t < cN C) (he : s = t) : KI l yX6_clash wsX6_clash (rmN 4) E (σ := MV) [.ref (a 0), .int (nI s), .int (nI t)] (mw E a M) (fun u => KS M u) (fun u => (-1)) (fun u => mw E a u) 0 0 := by
  refine KI.of (cc := cX6_clash) (maxL := 3) (ty := .int) (hnar := fun _ _ => rfl) rfl rfl rfl (fun x hX hin hret hnL => ?_)
  replace hX : CX x l cX6_clash RX6 wsX6_clash E (rmN 4) := hX
  show GG x 0 0 (mw E a M) 0 [(0, .ref (a 0)), (1, .int (nI s)), (2, .int (nI t))] []
  obtain ⟨hC, hVY, hZ, hYm⟩ := id hD
  obtain ⟨⟨h9, h64, h512, hT, hI⟩, hK⟩ := id hC
  have hV := DI_VB hD (by omega)
  refine g_aload_n hX dX6_clash_0 0 rfl ?_
  refine g_iload_n hX dX6_clash_1 1 rfl ?_
  have hc2 : CUT (mw E a M) (mw E a M) (([] : va_W)) [0, 1, 2, 3, 4, 5, 6, 7, 8, 9, 10, 11, 12] [] := ⟨rfl, rfl, rfl, rfl, rfl⟩
  refine g_VI hX hc2 [.int (nI s)] [] (c_X6_isSaying_y l E a M C s (by first | assumption | omega) hS.1 (by omega)) gX6_clash_X6_isSaying calX6_isSaying rfl rfl rfl rfl 0 rfl rfl rfl rfl dX6_clash_2 rfl ⟨Nat.zero_le _, Nat.zero_le _⟩ (fun _ => mw E a M) [0, 1, 2, 3, 4, 5, 6, 7, 8, 9, 10, 11, 12] rfl (fun _ => rfl) (fun _ hu2 => ?_)
  refine g_if_eq hX 21 dX6_clash_5 (by decide) (fun c5 => ?_) (fun c5 => ?_)
  · replace c5 := bI_0.mp c5
    exact absurd c5 (by simp)
  · replace c5 := mt bI_0.mpr c5
    replace c5 := bNf c5
    refine g_aload_n hX dX6_clash_8 0 rfl ?_
    refine g_iload_n hX dX6_clash_9 2 rfl ?_
    have hc10 : CUT (mw E a M) (mw E a M) (([] : va_W)) [0, 1, 2, 3, 4, 5, 6, 7, 8, 9, 10, 11, 12] [] := ⟨rfl, rfl, rfl, rfl, rfl⟩
    refine g_VI hX hc10 [.int (nI t)] [] (c_X6_isSaying_y l E a M C t (by first | assumption | omega) hS.1 ht) gX6_clash_X6_isSaying calX6_isSaying rfl rfl rfl rfl 0 rfl rfl rfl rfl dX6_clash_10 rfl ⟨Nat.zero_le _, Nat.zero_le _⟩ (fun _ => mw E a M) [0, 1, 2, 3, 4, 5, 6, 7, 8, 9, 10, 11, 12] rfl (fun _ => rfl) (fun _ hu10 => ?_)
    refine g_if_eq hX 21 dX6_clash_13 (by decide) (fun c13 => ?_) (fun c13 => ?_)
    · replace c13 := bI_0.mp c13
      exact absurd c13 (by simp)
    · replace c13 := mt bI_0.mpr c13
      replace c13 := bNf c13
      refine g_iload_n hX dX6_clash_16 1 rfl ?_
      refine g_iload_n hX dX6_clash_17 2 rfl ?_
      refine g_icmp_ne hX 23 dX6_clash_18 (by decide) (fun c18 => ?_) (fun c18 => ?_)
      · replace c18 := mt (nI_eq (by omega) (by omega)).mpr c18
        exact absurd he c18
      · replace c18 := (nI_eq (by omega) (by omega)).mp c18
        refine g_iconst hX ((-1)) dX6_clash_21 rfl ?_
        exact g_eq rfl rfl rfl (hret M _ _ (⟨⟨rfl, rfl, rfl, rfl, rfl, rfl, rfl⟩, ⟨rfl, rfl⟩, rfl⟩) dX6_clash_22)
set_option maxHeartbeats 4000000 in
set_option maxRecDepth 100000 in
theorem c_X6_clash_y (l : Launch) (E : EV) (a : Nat → Nat) (M : MV) (C : FC) (m : Nat) (s : Nat) (t : Nat) (hD : DI C m) (hm : m < 2 ^ 29) (hN1 : 1 ≤ cN C) (hS : RW C (mS M)) (hTm : cT C = mT M) (hs : s < cN C) (ht : t < cN C) (he : ¬ s = t) : KI l yX6_clash wsX6_clash (rmN 4) E (σ := MV) [.ref (a 0), .int (nI s), .int (nI t)] (mw E a M) (fun u => KS M u) (fun u => (bI (clB C s t))) (fun u => mw E a u) 0 0 := by
  refine KI.of (cc := cX6_clash) (maxL := 3) (ty := .int) (hnar := fun _ _ => rfl) rfl rfl rfl (fun x hX hin hret hnL => ?_)
  replace hX : CX x l cX6_clash RX6 wsX6_clash E (rmN 4) := hX
  show GG x 0 0 (mw E a M) 0 [(0, .ref (a 0)), (1, .int (nI s)), (2, .int (nI t))] []
  obtain ⟨hC, hVY, hZ, hYm⟩ := id hD
  obtain ⟨⟨h9, h64, h512, hT, hI⟩, hK⟩ := id hC
  have hV := DI_VB hD (by omega)
  refine g_aload_n hX dX6_clash_0 0 rfl ?_
  refine g_iload_n hX dX6_clash_1 1 rfl ?_
  have hc2 : CUT (mw E a M) (mw E a M) (([] : va_W)) [0, 1, 2, 3, 4, 5, 6, 7, 8, 9, 10, 11, 12] [] := ⟨rfl, rfl, rfl, rfl, rfl⟩
  refine g_VI hX hc2 [.int (nI s)] [] (c_X6_isSaying_y l E a M C s (by first | assumption | omega) hS.1 (by omega)) gX6_clash_X6_isSaying calX6_isSaying rfl rfl rfl rfl 0 rfl rfl rfl rfl dX6_clash_2 rfl ⟨Nat.zero_le _, Nat.zero_le _⟩ (fun _ => mw E a M) [0, 1, 2, 3, 4, 5, 6, 7, 8, 9, 10, 11, 12] rfl (fun _ => rfl) (fun _ hu2 => ?_)
  refine g_if_eq hX 21 dX6_clash_5 (by decide) (fun c5 => ?_) (fun c5 => ?_)
  · replace c5 := bI_0.mp c5
    exact absurd c5 (by simp)
  · replace c5 := mt bI_0.mpr c5
    replace c5 := bNf c5
    refine g_aload_n hX dX6_clash_8 0 rfl ?_
    refine g_iload_n hX dX6_clash_9 2 rfl ?_
    have hc10 : CUT (mw E a M) (mw E a M) (([] : va_W)) [0, 1, 2, 3, 4, 5, 6, 7, 8, 9, 10, 11, 12] [] := ⟨rfl, rfl, rfl, rfl, rfl⟩
    refine g_VI hX hc10 [.int (nI t)] [] (c_X6_isSaying_y l E a M C t (by first | assumption | omega) hS.1 ht) gX6_clash_X6_isSaying calX6_isSaying rfl rfl rfl rfl 0 rfl rfl rfl rfl dX6_clash_10 rfl ⟨Nat.zero_le _, Nat.zero_le _⟩ (fun _ => mw E a M) [0, 1, 2, 3, 4, 5, 6, 7, 8, 9, 10, 11, 12] rfl (fun _ => rfl) (fun _ hu10 => ?_)
    refine g_if_eq hX 21 dX6_clash_13 (by decide) (fun c13 => ?_) (fun c13 => ?_)
    · replace c13 := bI_0.mp c13
      exact absurd c13 (by simp)
    · replace c13 := mt bI_0.mpr c13
      replace c13 := bNf c13
      refine g_iload_n hX dX6_clash_16 1 rfl ?_
      refine g_iload_n hX dX6_clash_17 2 rfl ?_
      refine g_icmp_ne hX 23 dX6_clash_18 (by decide) (fun c18 => ?_) (fun c18 => ?_)
      · replace c18 := mt (nI_eq (by omega) (by omega)).mpr c18
        refine g_aload_n hX dX6_clash_23 0 rfl ?_
        have hc24 : CUT (mw E a M) (mw E a M) (([] : va_W)) [0, 1, 2, 3, 4, 5, 6, 7, 8, 9, 10, 11, 12] [] := ⟨rfl, rfl, rfl, rfl, rfl⟩
        refine g_VV hX hc24 [] [] (c_X6_asItIs l E a M) gX6_clash_X6_asItIs calX6_asItIs rfl rfl rfl rfl 0 rfl rfl rfl rfl dX6_clash_24 rfl ⟨Nat.zero_le _, Nat.zero_le _⟩ (fun _ => mw E a (mkMV (mT M) (mS M) (mA M) (mW M) (mK M) (mP M) (mE M) (mN M) (mX M) (mL M) (mI M) (mD M) (mR M) (mM M) (cpR ((mO M)) ((mS M)) 0 0) (mF M) (mU M) (mQ M) (mZ M) (mG M) (mH M))) [0, 1, 2, 3, 4, 5, 6, 7, 8, 9, 10, 11, 12] rfl (fun _ => rfl) (fun _ hu24 => ?_)
        refine g_aload_n hX dX6_clash_27 0 rfl ?_
        refine g_iload_n hX dX6_clash_28 1 rfl ?_
        refine g_iload_n hX dX6_clash_29 2 rfl ?_
        have hc30 : CUT (mw E a (mkMV (mT M) (mS M) (mA M) (mW M) (mK M) (mP M) (mE M) (mN M) (mX M) (mL M) (mI M) (mD M) (mR M) (mM M) (cpR ((mO M)) ((mS M)) 0 0) (mF M) (mU M) (mQ M) (mZ M) (mG M) (mH M))) (mw E a (mkMV (mT M) (mS M) (mA M) (mW M) (mK M) (mP M) (mE M) (mN M) (mX M) (mL M) (mI M) (mD M) (mR M) (mM M) (cpR ((mO M)) ((mS M)) 0 0) (mF M) (mU M) (mQ M) (mZ M) (mG M) (mH M))) (([] : va_W)) [0, 1, 2, 3, 4, 5, 6, 7, 8, 9, 10, 11, 12] [] := ⟨rfl, rfl, rfl, rfl, rfl⟩
        refine g_VI hX hc30 [.int (nI s), .int (nI t)] [] (c_X6_doClash l E a (mkMV (mT M) (mS M) (mA M) (mW M) (mK M) (mP M) (mE M) (mN M) (mX M) (mL M) (mI M) (mD M) (mR M) (mM M) (cpR ((mO M)) ((mS M)) 0 0) (mF M) (mU M) (mQ M) (mZ M) (mG M) (mH M)) C s t (by first | assumption | omega) (RB_cp h9 hS.1) (by omega) (by omega)) gX6_clash_X6_doClash calX6_doClash rfl rfl rfl rfl 0 rfl rfl rfl rfl dX6_clash_30 rfl ⟨Nat.zero_le _, Nat.zero_le _⟩ (fun _ => mw E a (mkMV (mT M) (mS M) (mA M) (mW M) (mK M) (mP M) (mE M) (mN M) (mX M) (mL M) (mI M) (mD M) (mR M) (mM M) (cpR ((mO M)) ((mS M)) 0 0) (mF M) (mU M) (mQ M) (mZ M) (mG M) (mH M))) [0, 1, 2, 3, 4, 5, 6, 7, 8, 9, 10, 11, 12] rfl (fun _ => rfl) (fun _ hu30 => ?_)
        refine g_if_eq hX 40 dX6_clash_33 (by decide) (fun c33 => ?_) (fun c33 => ?_)
        · replace c33 := bI_0.mp c33
          refine g_iconst hX (nI 0) dX6_clash_40 rfl ?_
          exact g_eq rfl rfl (congrArg (fun z => [Value.int z]) (bret_f (by simp [c18, c33]))) (hret (mkMV (mT M) (mS M) (mA M) (mW M) (mK M) (mP M) (mE M) (mN M) (mX M) (mL M) (mI M) (mD M) (mR M) (mM M) (cpR ((mO M)) ((mS M)) 0 0) (mF M) (mU M) (mQ M) (mZ M) (mG M) (mH M)) _ _ (⟨⟨rfl, rfl, rfl, rfl, rfl, rfl, rfl⟩, ⟨rfl, rfl⟩, rfl⟩) dX6_clash_41)
        · replace c33 := mt bI_0.mpr c33
          replace c33 := bNf c33
          refine g_iconst hX (nI 1) dX6_clash_36 rfl ?_
          refine g_goto hX 41 dX6_clash_37 (by decide) ?_
          exact g_eq rfl rfl (congrArg (fun z => [Value.int z]) (bret_t (by simp [c18, c33]))) (hret (mkMV (mT M) (mS M) (mA M) (mW M) (mK M) (mP M) (mE M) (mN M) (mX M) (mL M) (mI M) (mD M) (mR M) (mM M) (cpR ((mO M)) ((mS M)) 0 0) (mF M) (mU M) (mQ M) (mZ M) (mG M) (mH M)) _ _ (⟨⟨rfl, rfl, rfl, rfl, rfl, rfl, rfl⟩, ⟨rfl, rfl⟩, rfl⟩) dX6_clash_41)
      · replace c18 := (nI_eq (by omega) (by omega)).mp c18
        exact absurd c18 he
set_option maxHeartbeats 4000000 in
set_option maxRecDepth 100000 in
theorem c_X6_pass_n (l : Launch) (E : EV) (a : Nat → Nat) (M : MV) (C : FC) (m : Nat) (x0 : Int32) (hD : DI C m) (hm : m < 2 ^ 29) (hN1 : 1 ≤ cN C) (hS : RW C (mS M)) (hTm : cT C = mT M) (hx : win x0 (nI 1) (nI 30) = false) : KI l yX6_pass wsX6_pass (rmN 5) E (σ := MV) [.ref (a 0), .int x0] (mw E a M) (fun u => KS M u) (fun u => (-1)) (fun u => mw E a u) 0 0 := by
  refine KI.of (cc := cX6_pass) (maxL := 3) (ty := .int) (hnar := fun _ _ => rfl) rfl rfl rfl (fun x hX hin hret hnL => ?_)
  replace hX : CX x l cX6_pass RX6 wsX6_pass E (rmN 5) := hX
  show GG x 0 0 (mw E a M) 0 [(0, .ref (a 0)), (1, .int x0)] []
  obtain ⟨hC, hVY, hZ, hYm⟩ := id hD
  obtain ⟨⟨h9, h64, h512, hT, hI⟩, hK⟩ := id hC
  have hV := DI_VB hD (by omega)
  refine g_iload_n hX dX6_pass_0 1 rfl ?_
  refine g_iconst hX (nI 1) dX6_pass_1 rfl ?_
  refine g_bipush hX (nI 30) dX6_pass_2 rfl ?_
  have hc4 : CUT (mw E a M) (([] : va_W)) (mw E a M) [] [0, 1, 2, 3, 4, 5, 6, 7, 8, 9, 10, 11, 12] := ⟨rfl, rfl, rfl, rfl, rfl⟩
  refine g_TI hX hc4 [.int x0, .int (nI 1), .int (nI 30)] [] (c_X6_in_n l E x0 (nI 1) (nI 30) (by first | assumption | omega)) gX6_pass_X6_in calX6_in rfl rfl rfl rfl dX6_pass_4 rfl ⟨Nat.zero_le _, Nat.zero_le _⟩ (fun _ => mw E a M) [0, 1, 2, 3, 4, 5, 6, 7, 8, 9, 10, 11, 12] rfl (fun _ => rfl) (fun _ hu4 => ?_)
  refine g_if_ne hX 12 dX6_pass_7 (by decide) (fun c7 => ?_) (fun c7 => ?_)
  · replace c7 := mt bI_0.mpr c7
    replace c7 := bNf c7
    exact absurd c7 (by simp)
  · replace c7 := bI_0.mp c7
    refine g_iconst hX ((-1)) dX6_pass_10 rfl ?_
    exact g_eq rfl rfl rfl (hret M _ _ (⟨⟨rfl, rfl, rfl, rfl, rfl, rfl, rfl⟩, ⟨rfl, rfl⟩, rfl⟩) dX6_pass_11)
set_option maxHeartbeats 4000000 in
set_option maxRecDepth 100000 in
theorem c_X6_pass_y (l : Launch) (E : EV) (a : Nat → Nat) (M : MV) (C : FC) (m : Nat) (n : Nat) (hD : DI C m) (hm : m < 2 ^ 29) (hN1 : 1 ≤ cN C) (hS : RW C (mS M)) (hTm : cT C = mT M) (hA : mA M ≤ 8) (h1 : 1 ≤ n) (h2 : n ≤ 30) : KI l yX6_pass wsX6_pass (rmN 5) E (σ := MV) [.ref (a 0), .int (nI n)] (mw E a M) (fun u => KP M u ∧ RW (dayC C n) (mS u) ∧ mA u = (if mA M = 8 then 8 else mA M + 1) ∧ mW u = wasR (mA M) (mW M) (mS M)) (fun u => (nI (cY C + n))) (fun u => mw E a u) 0 0 := by
  refine KI.of (cc := cX6_pass) (maxL := 3) (ty := .int) (hnar := fun _ _ => rfl) rfl rfl rfl (fun x hX hin hret hnL => ?_)
  replace hX : CX x l cX6_pass RX6 wsX6_pass E (rmN 5) := hX
  show GG x 0 0 (mw E a M) 0 [(0, .ref (a 0)), (1, .int (nI n))] []
  have inRX6 : ∀ w ∈ wsX60, w ∈ wsX6_pass := by decide +kernel
  have fl31 : Cond.fieldLink RX6 31 "LieForceModel" "now" "[I" ∈ wsX6_pass := by decide +kernel
  have fl7 : Cond.fieldLink RX6 7 "LieForceModel" "st" "[I" ∈ wsX6_pass := by decide +kernel
  obtain ⟨hC, hVY, hZ, hYm⟩ := id hD
  obtain ⟨⟨h9, h64, h512, hT, hI⟩, hK⟩ := id hC
  have hV := DI_VB hD (by omega)
  refine g_iload_n hX dX6_pass_0 1 rfl ?_
  refine g_iconst hX (nI 1) dX6_pass_1 rfl ?_
  refine g_bipush hX (nI 30) dX6_pass_2 rfl ?_
  have hc4 : CUT (mw E a M) (([] : va_W)) (mw E a M) [] [0, 1, 2, 3, 4, 5, 6, 7, 8, 9, 10, 11, 12] := ⟨rfl, rfl, rfl, rfl, rfl⟩
  refine g_TI hX hc4 [.int (nI n), .int (nI 1), .int (nI 30)] [] (c_X6_in_y l E n 1 30 (by omega) (by omega) (by omega)) gX6_pass_X6_in calX6_in rfl rfl rfl rfl dX6_pass_4 rfl ⟨Nat.zero_le _, Nat.zero_le _⟩ (fun _ => mw E a M) [0, 1, 2, 3, 4, 5, 6, 7, 8, 9, 10, 11, 12] rfl (fun _ => rfl) (fun _ hu4 => ?_)
  refine g_if_ne hX 12 dX6_pass_7 (by decide) (fun c7 => ?_) (fun c7 => ?_)
  · replace c7 := mt bI_0.mpr c7
    replace c7 := bNf c7
    refine g_aload_n hX dX6_pass_12 0 rfl ?_
    have hc13 : CUT (mw E a M) (mw E a M) (([] : va_W)) [0, 1, 2, 3, 4, 5, 6, 7, 8, 9, 10, 11, 12] [] := ⟨rfl, rfl, rfl, rfl, rfl⟩
    refine g_VV hX hc13 [] [] (c_X6_remembers l E a M (by first | assumption | omega)) gX6_pass_X6_remembers calX6_remembers rfl rfl rfl rfl 0 rfl rfl rfl rfl dX6_pass_13 rfl ⟨Nat.zero_le _, Nat.zero_le _⟩ (fun _ => mw E a (mkMV (mT M) (mS M) (if (mA M) = 8 then 8 else (mA M) + 1) (wasR ((mA M)) ((mW M)) ((mS M))) (mK M) (mP M) (mE M) (mN M) (mX M) (mL M) (mI M) (mD M) (mR M) (mM M) (mO M) (mF M) (mU M) (mQ M) (mZ M) (mG M) (mH M))) [0, 1, 2, 3, 4, 5, 6, 7, 8, 9, 10, 11, 12] rfl (fun _ => rfl) (fun _ hu13 => ?_)
    refine g_aload_n hX dX6_pass_16 0 rfl ?_
    have hc17 : CUT (mw E a (mkMV (mT M) (mS M) (if (mA M) = 8 then 8 else (mA M) + 1) (wasR ((mA M)) ((mW M)) ((mS M))) (mK M) (mP M) (mE M) (mN M) (mX M) (mL M) (mI M) (mD M) (mR M) (mM M) (mO M) (mF M) (mU M) (mQ M) (mZ M) (mG M) (mH M))) (mw E a (mkMV (mT M) (mS M) (if (mA M) = 8 then 8 else (mA M) + 1) (wasR ((mA M)) ((mW M)) ((mS M))) (mK M) (mP M) (mE M) (mN M) (mX M) (mL M) (mI M) (mD M) (mR M) (mM M) (mO M) (mF M) (mU M) (mQ M) (mZ M) (mG M) (mH M))) (([] : va_W)) [0, 1, 2, 3, 4, 5, 6, 7, 8, 9, 10, 11, 12] [] := ⟨rfl, rfl, rfl, rfl, rfl⟩
    refine g_VV hX hc17 [] [] (c_X6_asItIs l E a (mkMV (mT M) (mS M) (if (mA M) = 8 then 8 else (mA M) + 1) (wasR ((mA M)) ((mW M)) ((mS M))) (mK M) (mP M) (mE M) (mN M) (mX M) (mL M) (mI M) (mD M) (mR M) (mM M) (mO M) (mF M) (mU M) (mQ M) (mZ M) (mG M) (mH M))) gX6_pass_X6_asItIs calX6_asItIs rfl rfl rfl rfl 0 rfl rfl rfl rfl dX6_pass_17 rfl ⟨Nat.zero_le _, Nat.zero_le _⟩ (fun _ => mw E a (mkMV (mT M) (mS M) (if (mA M) = 8 then 8 else (mA M) + 1) (wasR ((mA M)) ((mW M)) ((mS M))) (mK M) (mP M) (mE M) (mN M) (mX M) (mL M) (mI M) (mD M) (mR M) (mM M) (cpR ((mO M)) ((mS M)) 0 0) (mF M) (mU M) (mQ M) (mZ M) (mG M) (mH M))) [0, 1, 2, 3, 4, 5, 6, 7, 8, 9, 10, 11, 12] rfl (fun _ => rfl) (fun _ hu17 => ?_)
    refine g_iconst hX (nI 0) dX6_pass_20 rfl ?_
    refine g_istore_n hX (j := 2) [(2, .int (nI 0)), (0, .ref (a 0)), (1, .int (nI n))] dX6_pass_21 rfl (by rw [hnL]; rfl) rfl ?_
    have lp22 : ∀ (fuel : Nat) (k : Nat) (z : Nat → Int32) (f : Int32) (fu : Nat), n - k < fuel → (k ≤ n) → (RW (dayC C k) z) → GG x 0 0 (mw E a (mkMV (mT M) (mS M) (if mA M = 8 then 8 else mA M + 1) (wasR (mA M) (mW M) (mS M)) (mK M) (mP M) (mE M) (mN M) (mX M) (mL M) (mI M) (mD M) (mR M) (mM M) z f fu (mQ M) (mZ M) (mG M) (mH M))) 22 [(0, .ref (a 0)), (1, .int (nI n)), (2, .int (nI k))] [] := by
      intro fuel
      induction fuel with
      | zero => intro k z f fu hm; exact absurd hm (Nat.not_lt_zero _)
      | succ fuel ih22 =>
        intro k z f fu hm22 hk hz
        have hdk : cN (dayC C k) = cN C := day_N C k
        have hDk := DI_day hD k
        refine g_iload_n hX dX6_pass_22 2 rfl ?_
        refine g_iload_n hX dX6_pass_23 1 rfl ?_
        refine g_icmp_ge hX 37 dX6_pass_24 (by decide) (fun c24 => ?_) (fun c24 => ?_)
        · replace c24 := (nI_leI (by omega) (by omega)).mp c24
          refine g_aload_n hX dX6_pass_37 0 rfl ?_
          refine g_get hX (v := .ref (a 1)) 0 inRX6 (atModel_0 _ _ _ _ _ _ _ _ _ _ _ _ _ _ _ _ _ _ _ _ _ _ _) rfl 1 rfl fl7 rfl rfl dX6_pass_38 ?_
          refine g_iconst hX (nI 0) dX6_pass_41 rfl ?_
          refine g_aload_n hX dX6_pass_42 0 rfl ?_
          refine g_get hX (v := .ref (a 8)) 0 inRX6 (atModel_0 _ _ _ _ _ _ _ _ _ _ _ _ _ _ _ _ _ _ _ _ _ _ _) rfl 14 rfl fl31 rfl rfl dX6_pass_43 ?_
          refine g_iconst hX (nI 0) dX6_pass_46 rfl ?_
          have hc47 : CUT (mw E a (mkMV (mT M) (mS M) (if mA M = 8 then 8 else mA M + 1) (wasR (mA M) (mW M) (mS M)) (mK M) (mP M) (mE M) (mN M) (mX M) (mL M) (mI M) (mD M) (mR M) (mM M) z f fu (mQ M) (mZ M) (mG M) (mH M))) ((aw E (a 1) 49 (mS M)) ++ (aw E (a 8) 49 z)) ((List.eraseIdx (List.eraseIdx (mw E a (mkMV (mT M) (mS M) (if mA M = 8 then 8 else mA M + 1) (wasR (mA M) (mW M) (mS M)) (mK M) (mP M) (mE M) (mN M) (mX M) (mL M) (mI M) (mD M) (mR M) (mM M) z f fu (mQ M) (mZ M) (mG M) (mH M))) 8) 1)) [1, 8] [0, 2, 3, 4, 5, 6, 7, 9, 10, 11, 12] := ⟨rfl, rfl, rfl, rfl, rfl⟩
          refine g_TV hX hc47 [.ref (a 1), .int (nI 0), .ref (a 8), .int (nI 0)] [] (c_X6_copies l E (a 1) 49 (mS M) 0 (a 8) 49 z 0 (by omega) (by omega) (by omega) (by omega)) gX6_pass_X6_copies calX6_copies rfl rfl rfl rfl dX6_pass_47 rfl ⟨Nat.zero_le _, Nat.zero_le _⟩ (fun _ => mw E a (mkMV (mT M) (cpR (mS M) z 0 0) (if mA M = 8 then 8 else mA M + 1) (wasR (mA M) (mW M) (mS M)) (mK M) (mP M) (mE M) (mN M) (mX M) (mL M) (mI M) (mD M) (mR M) (mM M) z f fu (mQ M) (mZ M) (mG M) (mH M))) [0, 11, 1, 2, 3, 4, 5, 6, 12, 7, 8, 9, 10] rfl (fun _ => rfl) (fun _ hu47 => ?_)
          refine g_aload_n hX dX6_pass_50 0 rfl ?_
          refine g_get hX (v := .ref (a 1)) 0 inRX6 (atModel_0 _ _ _ _ _ _ _ _ _ _ _ _ _ _ _ _ _ _ _ _ _ _ _) rfl 1 rfl fl7 rfl rfl dX6_pass_51 ?_
          refine g_iconst hX (nI 1) dX6_pass_54 rfl ?_
          refine g_iald hX (nI (cY C + n)) 1 0 (atModel_1 _ _ _ _ _ _ _ _ _ _ _ _ _ _ _ _ _ _ _ _ _ _ _) rfl (vp_in_nI (by omega) (by omega)) ((ald_n (by omega)).trans (by rw [show n = k by omega, ← day_Y C k]; exact RB_Y (RB_cp (by omega) hz.1))) dX6_pass_55 ?_
          exact g_eq rfl rfl rfl (hret (mkMV (mT M) (cpR (mS M) z 0 0) (if mA M = 8 then 8 else mA M + 1) (wasR (mA M) (mW M) (mS M)) (mK M) (mP M) (mE M) (mN M) (mX M) (mL M) (mI M) (mD M) (mR M) (mM M) z f fu (mQ M) (mZ M) (mG M) (mH M)) _ _ (⟨⟨rfl, rfl, rfl, rfl, rfl, rfl, rfl⟩, by rw [show n = k by omega]; exact RW_cp (by omega) hz, rfl, rfl⟩) dX6_pass_56)
        · replace c24 := mt (nI_leI (by omega) (by omega)).mpr c24
          refine g_aload_n hX dX6_pass_27 0 rfl ?_
          have hc28 : CUT (mw E a (mkMV (mT M) (mS M) (if mA M = 8 then 8 else mA M + 1) (wasR (mA M) (mW M) (mS M)) (mK M) (mP M) (mE M) (mN M) (mX M) (mL M) (mI M) (mD M) (mR M) (mM M) z f fu (mQ M) (mZ M) (mG M) (mH M))) (mw E a (mkMV (mT M) (mS M) (if mA M = 8 then 8 else mA M + 1) (wasR (mA M) (mW M) (mS M)) (mK M) (mP M) (mE M) (mN M) (mX M) (mL M) (mI M) (mD M) (mR M) (mM M) z f fu (mQ M) (mZ M) (mG M) (mH M))) (([] : va_W)) [0, 1, 2, 3, 4, 5, 6, 7, 8, 9, 10, 11, 12] [] := ⟨rfl, rfl, rfl, rfl, rfl⟩
          refine g_VV hX hc28 [] [] (c_X6_goes l E a (mkMV (mT M) (mS M) (if mA M = 8 then 8 else mA M + 1) (wasR (mA M) (mW M) (mS M)) (mK M) (mP M) (mE M) (mN M) (mX M) (mL M) (mI M) (mD M) (mR M) (mM M) z f fu (mQ M) (mZ M) (mG M) (mH M)) (dayC C k) hDk.1 hz (DI_VB hDk (by omega)) (DI_VB1 hDk (by omega)) ((day_T C k).trans hTm)) gX6_pass_X6_goes calX6_goes rfl rfl rfl rfl 0 rfl rfl rfl rfl dX6_pass_28 rfl ⟨Nat.zero_le _, Nat.zero_le _⟩ (fun u28 => mw E a (mkMV (mT M) (mS M) (if mA M = 8 then 8 else mA M + 1) (wasR (mA M) (mW M) (mS M)) (mK M) (mP M) (mE M) (mN M) (mX M) (mL M) (mI M) (mD M) (mR M) (mM M) u28 (ffV (serC (dayC C k)) (cN (dayC C k))) (fu + (passC (dayC C k)).2) (mQ M) (mZ M) (mG M) (mH M))) [0, 1, 2, 3, 4, 5, 6, 7, 8, 9, 10, 11, 12] rfl (fun _ => rfl) (fun u28 hu28 => ?_)
          refine g_iinc hX (j := 2) (nI (k + 1)) [(2, .int (nI (k + 1))), (0, .ref (a 0)), (1, .int (nI n))] dX6_pass_31 2 rfl (iinc_n _ _) (by rw [hnL]; rfl) rfl ?_
          refine g_goto hX 22 dX6_pass_34 (by decide) ?_
          exact g_lv _ [1, 2, 0] rfl (ih22 (k + 1) u28 (ffV (serC (dayC C k)) (cN (dayC C k))) (fu + (passC (dayC C k)).2) (by omega) (by omega) hu28)
    exact g_lv _ [1, 2, 0] rfl (lp22 _ 0 (cpR ((mO M)) ((mS M)) 0 0) (mF M) (mU M) (Nat.lt_succ_self _) (Nat.zero_le _) (RW_cp h9 hS))
  · replace c7 := bI_0.mp c7
    exact absurd c7 (by simp)
set_option maxHeartbeats 4000000 in
set_option maxRecDepth 100000 in
theorem c_X6_behind_n (l : Launch) (E : EV) (a : Nat → Nat) (M : MV) (C : FC) (m : Nat) (x0 : Int32) (hD : DI C m) (hm : m < 2 ^ 29) (hN1 : 1 ≤ cN C) (hS : RW C (mS M)) (hTm : cT C = mT M) (hx : win x0 (nI 0) (nI 60) = false) : KI l yX6_behind wsX6_behind (rmN 5) E (σ := MV) [.ref (a 0), .int x0] (mw E a M) (fun u => KS M u) (fun u => (-1)) (fun u => mw E a u) 0 0 := by
  refine KI.of (cc := cX6_behind) (maxL := 3) (ty := .int) (hnar := fun _ _ => rfl) rfl rfl rfl (fun x hX hin hret hnL => ?_)
  replace hX : CX x l cX6_behind RX6 wsX6_behind E (rmN 5) := hX
  show GG x 0 0 (mw E a M) 0 [(0, .ref (a 0)), (1, .int x0)] []
  obtain ⟨hC, hVY, hZ, hYm⟩ := id hD
  obtain ⟨⟨h9, h64, h512, hT, hI⟩, hK⟩ := id hC
  have hV := DI_VB hD (by omega)
  refine g_iload_n hX dX6_behind_0 1 rfl ?_
  refine g_iconst hX (nI 0) dX6_behind_1 rfl ?_
  refine g_bipush hX (nI 60) dX6_behind_2 rfl ?_
  have hc4 : CUT (mw E a M) (([] : va_W)) (mw E a M) [] [0, 1, 2, 3, 4, 5, 6, 7, 8, 9, 10, 11, 12] := ⟨rfl, rfl, rfl, rfl, rfl⟩
  refine g_TI hX hc4 [.int x0, .int (nI 0), .int (nI 60)] [] (c_X6_in_n l E x0 (nI 0) (nI 60) (by first | assumption | omega)) gX6_behind_X6_in calX6_in rfl rfl rfl rfl dX6_behind_4 rfl ⟨Nat.zero_le _, Nat.zero_le _⟩ (fun _ => mw E a M) [0, 1, 2, 3, 4, 5, 6, 7, 8, 9, 10, 11, 12] rfl (fun _ => rfl) (fun _ hu4 => ?_)
  refine g_if_ne hX 12 dX6_behind_7 (by decide) (fun c7 => ?_) (fun c7 => ?_)
  · replace c7 := mt bI_0.mpr c7
    replace c7 := bNf c7
    exact absurd c7 (by simp)
  · replace c7 := bI_0.mp c7
    refine g_iconst hX ((-1)) dX6_behind_10 rfl ?_
    exact g_eq rfl rfl rfl (hret M _ _ (⟨⟨rfl, rfl, rfl, rfl, rfl, rfl, rfl⟩, ⟨rfl, rfl⟩, rfl⟩) dX6_behind_11)
set_option maxHeartbeats 4000000 in
set_option maxRecDepth 100000 in
theorem c_X6_behind_y (l : Launch) (E : EV) (a : Nat → Nat) (M : MV) (C : FC) (m : Nat) (n : Nat) (hD : DI C m) (hm : m < 2 ^ 29) (hN1 : 1 ≤ cN C) (hS : RW C (mS M)) (hTm : cT C = mT M) (h2 : n ≤ 60) : KI l yX6_behind wsX6_behind (rmN 5) E (σ := MV) [.ref (a 0), .int (nI n)] (mw E a M) (fun u => KS M u) (fun u => (nI (lieM (dayC C n) (cF (dayC C n))))) (fun u => mw E a u) 0 0 := by
  refine KI.of (cc := cX6_behind) (maxL := 3) (ty := .int) (hnar := fun _ _ => rfl) rfl rfl rfl (fun x hX hin hret hnL => ?_)
  replace hX : CX x l cX6_behind RX6 wsX6_behind E (rmN 5) := hX
  show GG x 0 0 (mw E a M) 0 [(0, .ref (a 0)), (1, .int (nI n))] []
  obtain ⟨hC, hVY, hZ, hYm⟩ := id hD
  obtain ⟨⟨h9, h64, h512, hT, hI⟩, hK⟩ := id hC
  have hV := DI_VB hD (by omega)
  refine g_iload_n hX dX6_behind_0 1 rfl ?_
  refine g_iconst hX (nI 0) dX6_behind_1 rfl ?_
  refine g_bipush hX (nI 60) dX6_behind_2 rfl ?_
  have hc4 : CUT (mw E a M) (([] : va_W)) (mw E a M) [] [0, 1, 2, 3, 4, 5, 6, 7, 8, 9, 10, 11, 12] := ⟨rfl, rfl, rfl, rfl, rfl⟩
  refine g_TI hX hc4 [.int (nI n), .int (nI 0), .int (nI 60)] [] (c_X6_in_y l E n 0 60 (by omega) (by omega) (by omega)) gX6_behind_X6_in calX6_in rfl rfl rfl rfl dX6_behind_4 rfl ⟨Nat.zero_le _, Nat.zero_le _⟩ (fun _ => mw E a M) [0, 1, 2, 3, 4, 5, 6, 7, 8, 9, 10, 11, 12] rfl (fun _ => rfl) (fun _ hu4 => ?_)
  refine g_if_ne hX 12 dX6_behind_7 (by decide) (fun c7 => ?_) (fun c7 => ?_)
  · replace c7 := mt bI_0.mpr c7
    replace c7 := bNf c7
    refine g_aload_n hX dX6_behind_12 0 rfl ?_
    have hc13 : CUT (mw E a M) (mw E a M) (([] : va_W)) [0, 1, 2, 3, 4, 5, 6, 7, 8, 9, 10, 11, 12] [] := ⟨rfl, rfl, rfl, rfl, rfl⟩
    refine g_VV hX hc13 [] [] (c_X6_asItIs l E a M) gX6_behind_X6_asItIs calX6_asItIs rfl rfl rfl rfl 0 rfl rfl rfl rfl dX6_behind_13 rfl ⟨Nat.zero_le _, Nat.zero_le _⟩ (fun _ => mw E a (mkMV (mT M) (mS M) (mA M) (mW M) (mK M) (mP M) (mE M) (mN M) (mX M) (mL M) (mI M) (mD M) (mR M) (mM M) (cpR ((mO M)) ((mS M)) 0 0) (mF M) (mU M) (mQ M) (mZ M) (mG M) (mH M))) [0, 1, 2, 3, 4, 5, 6, 7, 8, 9, 10, 11, 12] rfl (fun _ => rfl) (fun _ hu13 => ?_)
    refine g_iconst hX (nI 0) dX6_behind_16 rfl ?_
    refine g_istore_n hX (j := 2) [(2, .int (nI 0)), (0, .ref (a 0)), (1, .int (nI n))] dX6_behind_17 rfl (by rw [hnL]; rfl) rfl ?_
    have lp18 : ∀ (fuel : Nat) (k : Nat) (z : Nat → Int32) (f : Int32) (fu : Nat), n - k < fuel → (k ≤ n) → (RW (dayC C k) z) → GG x 0 0 (mw E a (mkMV (mT M) (mS M) (mA M) (mW M) (mK M) (mP M) (mE M) (mN M) (mX M) (mL M) (mI M) (mD M) (mR M) (mM M) z f fu (mQ M) (mZ M) (mG M) (mH M))) 18 [(0, .ref (a 0)), (1, .int (nI n)), (2, .int (nI k))] [] := by
      intro fuel
      induction fuel with
      | zero => intro k z f fu hm; exact absurd hm (Nat.not_lt_zero _)
      | succ fuel ih18 =>
        intro k z f fu hm18 hk hz
        have hdk : cN (dayC C k) = cN C := day_N C k
        have hDk := DI_day hD k
        refine g_iload_n hX dX6_behind_18 2 rfl ?_
        refine g_iload_n hX dX6_behind_19 1 rfl ?_
        refine g_icmp_ge hX 33 dX6_behind_20 (by decide) (fun c20 => ?_) (fun c20 => ?_)
        · replace c20 := (nI_leI (by omega) (by omega)).mp c20
          refine g_aload_n hX dX6_behind_33 0 rfl ?_
          have hc34 : CUT (mw E a (mkMV (mT M) (mS M) (mA M) (mW M) (mK M) (mP M) (mE M) (mN M) (mX M) (mL M) (mI M) (mD M) (mR M) (mM M) z f fu (mQ M) (mZ M) (mG M) (mH M))) (mw E a (mkMV (mT M) (mS M) (mA M) (mW M) (mK M) (mP M) (mE M) (mN M) (mX M) (mL M) (mI M) (mD M) (mR M) (mM M) z f fu (mQ M) (mZ M) (mG M) (mH M))) (([] : va_W)) [0, 1, 2, 3, 4, 5, 6, 7, 8, 9, 10, 11, 12] [] := ⟨rfl, rfl, rfl, rfl, rfl⟩
          refine g_VI hX hc34 [] [] (c_X6_police l E a (mkMV (mT M) (mS M) (mA M) (mW M) (mK M) (mP M) (mE M) (mN M) (mX M) (mL M) (mI M) (mD M) (mR M) (mM M) z f fu (mQ M) (mZ M) (mG M) (mH M)) (dayC C k) hDk.1 hz (DI_VB hDk (by omega))) gX6_behind_X6_police calX6_police rfl rfl rfl rfl 0 rfl rfl rfl rfl dX6_behind_34 rfl ⟨Nat.zero_le _, Nat.zero_le _⟩ (fun _ => mw E a (mkMV (mT M) (mS M) (mA M) (mW M) (mK M) (mP M) (mE M) (mN M) (mX M) (mL M) (mI M) (mD M) (mR M) (mM M) z f fu (mQ M) (mZ M) (mG M) (mH M))) [0, 1, 2, 3, 4, 5, 6, 7, 8, 9, 10, 11, 12] rfl (fun _ => rfl) (fun _ hu34 => ?_)
          exact g_eq rfl rfl (congrArg (fun z => [Value.int z]) (congrArg nI (by rw [show n = k by omega]))) (hret (mkMV (mT M) (mS M) (mA M) (mW M) (mK M) (mP M) (mE M) (mN M) (mX M) (mL M) (mI M) (mD M) (mR M) (mM M) z f fu (mQ M) (mZ M) (mG M) (mH M)) _ _ (⟨⟨rfl, rfl, rfl, rfl, rfl, rfl, rfl⟩, ⟨rfl, rfl⟩, rfl⟩) dX6_behind_37)
        · replace c20 := mt (nI_leI (by omega) (by omega)).mpr c20
          refine g_aload_n hX dX6_behind_23 0 rfl ?_
          have hc24 : CUT (mw E a (mkMV (mT M) (mS M) (mA M) (mW M) (mK M) (mP M) (mE M) (mN M) (mX M) (mL M) (mI M) (mD M) (mR M) (mM M) z f fu (mQ M) (mZ M) (mG M) (mH M))) (mw E a (mkMV (mT M) (mS M) (mA M) (mW M) (mK M) (mP M) (mE M) (mN M) (mX M) (mL M) (mI M) (mD M) (mR M) (mM M) z f fu (mQ M) (mZ M) (mG M) (mH M))) (([] : va_W)) [0, 1, 2, 3, 4, 5, 6, 7, 8, 9, 10, 11, 12] [] := ⟨rfl, rfl, rfl, rfl, rfl⟩
          refine g_VV hX hc24 [] [] (c_X6_goes l E a (mkMV (mT M) (mS M) (mA M) (mW M) (mK M) (mP M) (mE M) (mN M) (mX M) (mL M) (mI M) (mD M) (mR M) (mM M) z f fu (mQ M) (mZ M) (mG M) (mH M)) (dayC C k) hDk.1 hz (DI_VB hDk (by omega)) (DI_VB1 hDk (by omega)) ((day_T C k).trans hTm)) gX6_behind_X6_goes calX6_goes rfl rfl rfl rfl 0 rfl rfl rfl rfl dX6_behind_24 rfl ⟨Nat.zero_le _, Nat.zero_le _⟩ (fun u24 => mw E a (mkMV (mT M) (mS M) (mA M) (mW M) (mK M) (mP M) (mE M) (mN M) (mX M) (mL M) (mI M) (mD M) (mR M) (mM M) u24 (ffV (serC (dayC C k)) (cN (dayC C k))) (fu + (passC (dayC C k)).2) (mQ M) (mZ M) (mG M) (mH M))) [0, 1, 2, 3, 4, 5, 6, 7, 8, 9, 10, 11, 12] rfl (fun _ => rfl) (fun u24 hu24 => ?_)
          refine g_iinc hX (j := 2) (nI (k + 1)) [(2, .int (nI (k + 1))), (0, .ref (a 0)), (1, .int (nI n))] dX6_behind_27 2 rfl (iinc_n _ _) (by rw [hnL]; rfl) rfl ?_
          refine g_goto hX 18 dX6_behind_30 (by decide) ?_
          exact g_lv _ [1, 2, 0] rfl (ih18 (k + 1) u24 (ffV (serC (dayC C k)) (cN (dayC C k))) (fu + (passC (dayC C k)).2) (by omega) (by omega) hu24)
    exact g_lv _ [1, 2, 0] rfl (lp18 _ 0 (cpR ((mO M)) ((mS M)) 0 0) (mF M) (mU M) (Nat.lt_succ_self _) (Nat.zero_le _) (RW_cp h9 hS))
  · replace c7 := bI_0.mp c7
    exact absurd c7 (by simp)
set_option maxHeartbeats 4000000 in
set_option maxRecDepth 100000 in
theorem c_X6_say_n (l : Launch) (E : EV) (a : Nat → Nat) (M : MV) (C : FC) (m : Nat) (x0 : Int32) (x1 : Int32) (x2 : Int32) (x3 : Int32) (hD : DI C m) (hm : m < 2 ^ 29) (hN1 : 1 ≤ cN C) (hS : RW C (mS M)) (hTm : cT C = mT M) (hx : (win x0 (nI 0) (nI 4) && win x1 (nI 0) (nI 11) && (decide (x0 = 0) || win x2 (nI 0) (nI 11)) && win x3 (nI 0) (nI 5)) = false) : KI l yX6_say wsX6_say (rmN 5) E (σ := MV) [.ref (a 0), .int x0, .int x1, .int x2, .int x3] (mw E a M) (fun u => KS M u) (fun u => (-1)) (fun u => mw E a u) 0 0 := by
  refine KI.of (cc := cX6_say) (maxL := 5) (ty := .int) (hnar := fun _ _ => rfl) rfl rfl rfl (fun x hX hin hret hnL => ?_)
  replace hX : CX x l cX6_say RX6 wsX6_say E (rmN 5) := hX
  show GG x 0 0 (mw E a M) 0 [(0, .ref (a 0)), (1, .int x0), (2, .int x1), (3, .int x2), (4, .int x3)] []
  obtain ⟨hC, hVY, hZ, hYm⟩ := id hD
  obtain ⟨⟨h9, h64, h512, hT, hI⟩, hK⟩ := id hC
  have hV := DI_VB hD (by omega)
  refine g_iload_n hX dX6_say_0 1 rfl ?_
  refine g_iconst hX (nI 0) dX6_say_1 rfl ?_
  refine g_iconst hX (nI 4) dX6_say_2 rfl ?_
  have hc3 : CUT (mw E a M) (([] : va_W)) (mw E a M) [] [0, 1, 2, 3, 4, 5, 6, 7, 8, 9, 10, 11, 12] := ⟨rfl, rfl, rfl, rfl, rfl⟩
  refine g_TI hX hc3 [.int x0, .int (nI 0), .int (nI 4)] [] (c_X6_in l E x0 (nI 0) (nI 4)) gX6_say_X6_in calX6_in rfl rfl rfl rfl dX6_say_3 rfl ⟨Nat.zero_le _, Nat.zero_le _⟩ (fun _ => mw E a M) [0, 1, 2, 3, 4, 5, 6, 7, 8, 9, 10, 11, 12] rfl (fun _ => rfl) (fun _ hu3 => ?_)
  refine g_if_eq hX 43 dX6_say_6 (by decide) (fun c6 => ?_) (fun c6 => ?_)
  · replace c6 := bI_0.mp c6
    refine g_iconst hX ((-1)) dX6_say_43 rfl ?_
    exact g_eq rfl rfl rfl (hret M _ _ (⟨⟨rfl, rfl, rfl, rfl, rfl, rfl, rfl⟩, ⟨rfl, rfl⟩, rfl⟩) dX6_say_44)
  · replace c6 := mt bI_0.mpr c6
    replace c6 := bNf c6
    refine g_iload_n hX dX6_say_9 2 rfl ?_
    refine g_iconst hX (nI 0) dX6_say_10 rfl ?_
    refine g_bipush hX (nI 11) dX6_say_11 rfl ?_
    have hc13 : CUT (mw E a M) (([] : va_W)) (mw E a M) [] [0, 1, 2, 3, 4, 5, 6, 7, 8, 9, 10, 11, 12] := ⟨rfl, rfl, rfl, rfl, rfl⟩
    refine g_TI hX hc13 [.int x1, .int (nI 0), .int (nI 11)] [] (c_X6_in l E x1 (nI 0) (nI 11)) gX6_say_X6_in calX6_in rfl rfl rfl rfl dX6_say_13 rfl ⟨Nat.zero_le _, Nat.zero_le _⟩ (fun _ => mw E a M) [0, 1, 2, 3, 4, 5, 6, 7, 8, 9, 10, 11, 12] rfl (fun _ => rfl) (fun _ hu13 => ?_)
    refine g_if_eq hX 43 dX6_say_16 (by decide) (fun c16 => ?_) (fun c16 => ?_)
    · replace c16 := bI_0.mp c16
      refine g_iconst hX ((-1)) dX6_say_43 rfl ?_
      exact g_eq rfl rfl rfl (hret M _ _ (⟨⟨rfl, rfl, rfl, rfl, rfl, rfl, rfl⟩, ⟨rfl, rfl⟩, rfl⟩) dX6_say_44)
    · replace c16 := mt bI_0.mpr c16
      replace c16 := bNf c16
      refine g_iload_n hX dX6_say_19 1 rfl ?_
      refine g_if_eq hX 33 dX6_say_20 (by decide) (fun c20 => ?_) (fun c20 => ?_)
      · skip
        refine g_iload hX dX6_say_33 4 rfl ?_
        refine g_iconst hX (nI 0) dX6_say_35 rfl ?_
        refine g_iconst hX (nI 5) dX6_say_36 rfl ?_
        have hc37 : CUT (mw E a M) (([] : va_W)) (mw E a M) [] [0, 1, 2, 3, 4, 5, 6, 7, 8, 9, 10, 11, 12] := ⟨rfl, rfl, rfl, rfl, rfl⟩
        refine g_TI hX hc37 [.int x3, .int (nI 0), .int (nI 5)] [] (c_X6_in l E x3 (nI 0) (nI 5)) gX6_say_X6_in calX6_in rfl rfl rfl rfl dX6_say_37 rfl ⟨Nat.zero_le _, Nat.zero_le _⟩ (fun _ => mw E a M) [0, 1, 2, 3, 4, 5, 6, 7, 8, 9, 10, 11, 12] rfl (fun _ => rfl) (fun _ hu37 => ?_)
        refine g_if_ne hX 45 dX6_say_40 (by decide) (fun c40 => ?_) (fun c40 => ?_)
        · replace c40 := mt bI_0.mpr c40
          replace c40 := bNf c40
          rw [c6, c16, c40] at hx; simp [c20] at hx
        · replace c40 := bI_0.mp c40
          refine g_iconst hX ((-1)) dX6_say_43 rfl ?_
          exact g_eq rfl rfl rfl (hret M _ _ (⟨⟨rfl, rfl, rfl, rfl, rfl, rfl, rfl⟩, ⟨rfl, rfl⟩, rfl⟩) dX6_say_44)
      · skip
        refine g_iload_n hX dX6_say_23 3 rfl ?_
        refine g_iconst hX (nI 0) dX6_say_24 rfl ?_
        refine g_bipush hX (nI 11) dX6_say_25 rfl ?_
        have hc27 : CUT (mw E a M) (([] : va_W)) (mw E a M) [] [0, 1, 2, 3, 4, 5, 6, 7, 8, 9, 10, 11, 12] := ⟨rfl, rfl, rfl, rfl, rfl⟩
        refine g_TI hX hc27 [.int x2, .int (nI 0), .int (nI 11)] [] (c_X6_in l E x2 (nI 0) (nI 11)) gX6_say_X6_in calX6_in rfl rfl rfl rfl dX6_say_27 rfl ⟨Nat.zero_le _, Nat.zero_le _⟩ (fun _ => mw E a M) [0, 1, 2, 3, 4, 5, 6, 7, 8, 9, 10, 11, 12] rfl (fun _ => rfl) (fun _ hu27 => ?_)
        refine g_if_eq hX 43 dX6_say_30 (by decide) (fun c30 => ?_) (fun c30 => ?_)
        · replace c30 := bI_0.mp c30
          refine g_iconst hX ((-1)) dX6_say_43 rfl ?_
          exact g_eq rfl rfl rfl (hret M _ _ (⟨⟨rfl, rfl, rfl, rfl, rfl, rfl, rfl⟩, ⟨rfl, rfl⟩, rfl⟩) dX6_say_44)
        · replace c30 := mt bI_0.mpr c30
          replace c30 := bNf c30
          refine g_iload hX dX6_say_33 4 rfl ?_
          refine g_iconst hX (nI 0) dX6_say_35 rfl ?_
          refine g_iconst hX (nI 5) dX6_say_36 rfl ?_
          have hc37 : CUT (mw E a M) (([] : va_W)) (mw E a M) [] [0, 1, 2, 3, 4, 5, 6, 7, 8, 9, 10, 11, 12] := ⟨rfl, rfl, rfl, rfl, rfl⟩
          refine g_TI hX hc37 [.int x3, .int (nI 0), .int (nI 5)] [] (c_X6_in l E x3 (nI 0) (nI 5)) gX6_say_X6_in calX6_in rfl rfl rfl rfl dX6_say_37 rfl ⟨Nat.zero_le _, Nat.zero_le _⟩ (fun _ => mw E a M) [0, 1, 2, 3, 4, 5, 6, 7, 8, 9, 10, 11, 12] rfl (fun _ => rfl) (fun _ hu37 => ?_)
          refine g_if_ne hX 45 dX6_say_40 (by decide) (fun c40 => ?_) (fun c40 => ?_)
          · replace c40 := mt bI_0.mpr c40
            replace c40 := bNf c40
            rw [c6, c16, c40] at hx; simp [c20, c30] at hx
          · replace c40 := bI_0.mp c40
            refine g_iconst hX ((-1)) dX6_say_43 rfl ?_
            exact g_eq rfl rfl rfl (hret M _ _ (⟨⟨rfl, rfl, rfl, rfl, rfl, rfl, rfl⟩, ⟨rfl, rfl⟩, rfl⟩) dX6_say_44)
set_option maxHeartbeats 4000000 in
set_option maxRecDepth 100000 in
theorem c_X6_say_f (l : Launch) (E : EV) (a : Nat → Nat) (M : MV) (C : FC) (m : Nat) (kk : Nat) (q : Nat) (q2 : Nat) (pp : Nat) (hD : DI C m) (hm : m < 2 ^ 29) (hN1 : 1 ≤ cN C) (hS : RW C (mS M)) (hTm : cT C = mT M) (hk : kk < 5) (hq : q < 12) (hq2 : kk = 0 ∨ q2 < 12) (hp : pp < 6) (hN : cN C = 9) : KI l yX6_say wsX6_say (rmN 5) E (σ := MV) [.ref (a 0), .int (nI kk), .int (nI q), .int (nI q2), .int (nI pp)] (mw E a M) (fun u => KS M u) (fun u => (-3)) (fun u => mw E a u) 0 0 := by
  refine KI.of (cc := cX6_say) (maxL := 5) (ty := .int) (hnar := fun _ _ => rfl) rfl rfl rfl (fun x hX hin hret hnL => ?_)
  replace hX : CX x l cX6_say RX6 wsX6_say E (rmN 5) := hX
  show GG x 0 0 (mw E a M) 0 [(0, .ref (a 0)), (1, .int (nI kk)), (2, .int (nI q)), (3, .int (nI q2)), (4, .int (nI pp))] []
  have inRX6 : ∀ w ∈ wsX60, w ∈ wsX6_say := by decide +kernel
  have fl7 : Cond.fieldLink RX6 7 "LieForceModel" "st" "[I" ∈ wsX6_say := by decide +kernel
  obtain ⟨hC, hVY, hZ, hYm⟩ := id hD
  obtain ⟨⟨h9, h64, h512, hT, hI⟩, hK⟩ := id hC
  have hV := DI_VB hD (by omega)
  refine g_iload_n hX dX6_say_0 1 rfl ?_
  refine g_iconst hX (nI 0) dX6_say_1 rfl ?_
  refine g_iconst hX (nI 4) dX6_say_2 rfl ?_
  have hc3 : CUT (mw E a M) (([] : va_W)) (mw E a M) [] [0, 1, 2, 3, 4, 5, 6, 7, 8, 9, 10, 11, 12] := ⟨rfl, rfl, rfl, rfl, rfl⟩
  refine g_TI hX hc3 [.int (nI kk), .int (nI 0), .int (nI 4)] [] (c_X6_in_y l E kk 0 4 (by omega) (by omega) (by omega)) gX6_say_X6_in calX6_in rfl rfl rfl rfl dX6_say_3 rfl ⟨Nat.zero_le _, Nat.zero_le _⟩ (fun _ => mw E a M) [0, 1, 2, 3, 4, 5, 6, 7, 8, 9, 10, 11, 12] rfl (fun _ => rfl) (fun _ hu3 => ?_)
  refine g_if_eq hX 43 dX6_say_6 (by decide) (fun c6 => ?_) (fun c6 => ?_)
  · replace c6 := bI_0.mp c6
    exact absurd c6 (by simp)
  · replace c6 := mt bI_0.mpr c6
    replace c6 := bNf c6
    refine g_iload_n hX dX6_say_9 2 rfl ?_
    refine g_iconst hX (nI 0) dX6_say_10 rfl ?_
    refine g_bipush hX (nI 11) dX6_say_11 rfl ?_
    have hc13 : CUT (mw E a M) (([] : va_W)) (mw E a M) [] [0, 1, 2, 3, 4, 5, 6, 7, 8, 9, 10, 11, 12] := ⟨rfl, rfl, rfl, rfl, rfl⟩
    refine g_TI hX hc13 [.int (nI q), .int (nI 0), .int (nI 11)] [] (c_X6_in_y l E q 0 11 (by omega) (by omega) (by omega)) gX6_say_X6_in calX6_in rfl rfl rfl rfl dX6_say_13 rfl ⟨Nat.zero_le _, Nat.zero_le _⟩ (fun _ => mw E a M) [0, 1, 2, 3, 4, 5, 6, 7, 8, 9, 10, 11, 12] rfl (fun _ => rfl) (fun _ hu13 => ?_)
    refine g_if_eq hX 43 dX6_say_16 (by decide) (fun c16 => ?_) (fun c16 => ?_)
    · replace c16 := bI_0.mp c16
      exact absurd c16 (by simp)
    · replace c16 := mt bI_0.mpr c16
      replace c16 := bNf c16
      refine g_iload_n hX dX6_say_19 1 rfl ?_
      refine g_if_eq hX 33 dX6_say_20 (by decide) (fun c20 => ?_) (fun c20 => ?_)
      · replace c20 := (nz_eq (by omega)).mp c20
        refine g_iload hX dX6_say_33 4 rfl ?_
        refine g_iconst hX (nI 0) dX6_say_35 rfl ?_
        refine g_iconst hX (nI 5) dX6_say_36 rfl ?_
        have hc37 : CUT (mw E a M) (([] : va_W)) (mw E a M) [] [0, 1, 2, 3, 4, 5, 6, 7, 8, 9, 10, 11, 12] := ⟨rfl, rfl, rfl, rfl, rfl⟩
        refine g_TI hX hc37 [.int (nI pp), .int (nI 0), .int (nI 5)] [] (c_X6_in_y l E pp 0 5 (by omega) (by omega) (by omega)) gX6_say_X6_in calX6_in rfl rfl rfl rfl dX6_say_37 rfl ⟨Nat.zero_le _, Nat.zero_le _⟩ (fun _ => mw E a M) [0, 1, 2, 3, 4, 5, 6, 7, 8, 9, 10, 11, 12] rfl (fun _ => rfl) (fun _ hu37 => ?_)
        refine g_if_ne hX 45 dX6_say_40 (by decide) (fun c40 => ?_) (fun c40 => ?_)
        · replace c40 := mt bI_0.mpr c40
          replace c40 := bNf c40
          refine g_aload_n hX dX6_say_45 0 rfl ?_
          refine g_get hX (v := .ref (a 1)) 0 inRX6 rfl rfl 1 rfl fl7 rfl rfl dX6_say_46 ?_
          refine g_iconst hX (nI 2) dX6_say_49 rfl ?_
          refine g_iald hX (nI (cN C)) 1 0 rfl rfl (vp_in_nI (by omega) (by omega)) ((ald_n (g := fun zz => (mS M) zz) (i := 2) (by omega)).trans (RB_N hS.1)) dX6_say_50 ?_
          refine g_bipush hX (nI 9) dX6_say_51 rfl ?_
          refine g_icmp_ne hX 59 dX6_say_53 (by decide) (fun c53 => ?_) (fun c53 => ?_)
          · replace c53 := mt (nI_eq (by omega) (by omega)).mpr c53
            omega
          · replace c53 := (nI_eq (by omega) (by omega)).mp c53
            refine g_bipush hX ((-3)) dX6_say_56 rfl ?_
            exact g_eq rfl rfl rfl (hret M _ _ (⟨⟨rfl, rfl, rfl, rfl, rfl, rfl, rfl⟩, ⟨rfl, rfl⟩, rfl⟩) dX6_say_58)
        · replace c40 := bI_0.mp c40
          exact absurd c40 (by simp)
      · replace c20 := mt (nz_eq (by omega)).mpr c20
        refine g_iload_n hX dX6_say_23 3 rfl ?_
        refine g_iconst hX (nI 0) dX6_say_24 rfl ?_
        refine g_bipush hX (nI 11) dX6_say_25 rfl ?_
        have hc27 : CUT (mw E a M) (([] : va_W)) (mw E a M) [] [0, 1, 2, 3, 4, 5, 6, 7, 8, 9, 10, 11, 12] := ⟨rfl, rfl, rfl, rfl, rfl⟩
        refine g_TI hX hc27 [.int (nI q2), .int (nI 0), .int (nI 11)] [] (c_X6_in_y l E q2 0 11 (by omega) (by omega) (by omega)) gX6_say_X6_in calX6_in rfl rfl rfl rfl dX6_say_27 rfl ⟨Nat.zero_le _, Nat.zero_le _⟩ (fun _ => mw E a M) [0, 1, 2, 3, 4, 5, 6, 7, 8, 9, 10, 11, 12] rfl (fun _ => rfl) (fun _ hu27 => ?_)
        refine g_if_eq hX 43 dX6_say_30 (by decide) (fun c30 => ?_) (fun c30 => ?_)
        · replace c30 := bI_0.mp c30
          exact absurd c30 (by simp)
        · replace c30 := mt bI_0.mpr c30
          replace c30 := bNf c30
          refine g_iload hX dX6_say_33 4 rfl ?_
          refine g_iconst hX (nI 0) dX6_say_35 rfl ?_
          refine g_iconst hX (nI 5) dX6_say_36 rfl ?_
          have hc37 : CUT (mw E a M) (([] : va_W)) (mw E a M) [] [0, 1, 2, 3, 4, 5, 6, 7, 8, 9, 10, 11, 12] := ⟨rfl, rfl, rfl, rfl, rfl⟩
          refine g_TI hX hc37 [.int (nI pp), .int (nI 0), .int (nI 5)] [] (c_X6_in_y l E pp 0 5 (by omega) (by omega) (by omega)) gX6_say_X6_in calX6_in rfl rfl rfl rfl dX6_say_37 rfl ⟨Nat.zero_le _, Nat.zero_le _⟩ (fun _ => mw E a M) [0, 1, 2, 3, 4, 5, 6, 7, 8, 9, 10, 11, 12] rfl (fun _ => rfl) (fun _ hu37 => ?_)
          refine g_if_ne hX 45 dX6_say_40 (by decide) (fun c40 => ?_) (fun c40 => ?_)
          · replace c40 := mt bI_0.mpr c40
            replace c40 := bNf c40
            refine g_aload_n hX dX6_say_45 0 rfl ?_
            refine g_get hX (v := .ref (a 1)) 0 inRX6 rfl rfl 1 rfl fl7 rfl rfl dX6_say_46 ?_
            refine g_iconst hX (nI 2) dX6_say_49 rfl ?_
            refine g_iald hX (nI (cN C)) 1 0 rfl rfl (vp_in_nI (by omega) (by omega)) ((ald_n (g := fun zz => (mS M) zz) (i := 2) (by omega)).trans (RB_N hS.1)) dX6_say_50 ?_
            refine g_bipush hX (nI 9) dX6_say_51 rfl ?_
            refine g_icmp_ne hX 59 dX6_say_53 (by decide) (fun c53 => ?_) (fun c53 => ?_)
            · replace c53 := mt (nI_eq (by omega) (by omega)).mpr c53
              omega
            · replace c53 := (nI_eq (by omega) (by omega)).mp c53
              refine g_bipush hX ((-3)) dX6_say_56 rfl ?_
              exact g_eq rfl rfl rfl (hret M _ _ (⟨⟨rfl, rfl, rfl, rfl, rfl, rfl, rfl⟩, ⟨rfl, rfl⟩, rfl⟩) dX6_say_58)
          · replace c40 := bI_0.mp c40
            exact absurd c40 (by simp)
set_option maxHeartbeats 4000000 in
set_option maxRecDepth 100000 in
theorem c_X6_say_y (l : Launch) (E : EV) (a : Nat → Nat) (M : MV) (C : FC) (m : Nat) (kk : Nat) (q : Nat) (q2 : Nat) (pp : Nat) (hD : DI C m) (hm : m < 2 ^ 29) (hN1 : 1 ≤ cN C) (hS : RW C (mS M)) (hTm : cT C = mT M) (hA : mA M ≤ 8) (hk : kk < 5) (hq : q < 12) (hq2 : kk = 0 ∨ q2 < 12) (hp : pp < 6) (hN : cN C < 9) : KI l yX6_say wsX6_say (rmN 5) E (σ := MV) [.ref (a 0), .int (nI kk), .int (nI q), .int (nI q2), .int (nI pp)] (mw E a M) (fun u => KP M u ∧ RW (addC C kk q (if kk = 0 then 0 else q2) pp) (mS u) ∧ mA u = (if mA M = 8 then 8 else mA M + 1) ∧ mW u = wasR (mA M) (mW M) (mS M)) (fun u => (nI (cN C))) (fun u => mw E a u) 0 0 := by
  refine KI.of (cc := cX6_say) (maxL := 5) (ty := .int) (hnar := fun _ _ => rfl) rfl rfl rfl (fun x hX hin hret hnL => ?_)
  replace hX : CX x l cX6_say RX6 wsX6_say E (rmN 5) := hX
  show GG x 0 0 (mw E a M) 0 [(0, .ref (a 0)), (1, .int (nI kk)), (2, .int (nI q)), (3, .int (nI q2)), (4, .int (nI pp))] []
  have inRX6 : ∀ w ∈ wsX60, w ∈ wsX6_say := by decide +kernel
  have fl31 : Cond.fieldLink RX6 31 "LieForceModel" "now" "[I" ∈ wsX6_say := by decide +kernel
  have fl7 : Cond.fieldLink RX6 7 "LieForceModel" "st" "[I" ∈ wsX6_say := by decide +kernel
  obtain ⟨hC, hVY, hZ, hYm⟩ := id hD
  obtain ⟨⟨h9, h64, h512, hT, hI⟩, hK⟩ := id hC
  have hV := DI_VB hD (by omega)
  have hb12 : (if kk = 0 then 0 else q2) < 12 := by split <;> omega
  have hAD := DI_add hD hN hk hq hb12 hp
  refine g_iload_n hX dX6_say_0 1 rfl ?_
  refine g_iconst hX (nI 0) dX6_say_1 rfl ?_
  refine g_iconst hX (nI 4) dX6_say_2 rfl ?_
  have hc3 : CUT (mw E a M) (([] : va_W)) (mw E a M) [] [0, 1, 2, 3, 4, 5, 6, 7, 8, 9, 10, 11, 12] := ⟨rfl, rfl, rfl, rfl, rfl⟩
  refine g_TI hX hc3 [.int (nI kk), .int (nI 0), .int (nI 4)] [] (c_X6_in_y l E kk 0 4 (by omega) (by omega) (by omega)) gX6_say_X6_in calX6_in rfl rfl rfl rfl dX6_say_3 rfl ⟨Nat.zero_le _, Nat.zero_le _⟩ (fun _ => mw E a M) [0, 1, 2, 3, 4, 5, 6, 7, 8, 9, 10, 11, 12] rfl (fun _ => rfl) (fun _ hu3 => ?_)
  refine g_if_eq hX 43 dX6_say_6 (by decide) (fun c6 => ?_) (fun c6 => ?_)
  · replace c6 := bI_0.mp c6
    exact absurd c6 (by simp)
  · replace c6 := mt bI_0.mpr c6
    replace c6 := bNf c6
    refine g_iload_n hX dX6_say_9 2 rfl ?_
    refine g_iconst hX (nI 0) dX6_say_10 rfl ?_
    refine g_bipush hX (nI 11) dX6_say_11 rfl ?_
    have hc13 : CUT (mw E a M) (([] : va_W)) (mw E a M) [] [0, 1, 2, 3, 4, 5, 6, 7, 8, 9, 10, 11, 12] := ⟨rfl, rfl, rfl, rfl, rfl⟩
    refine g_TI hX hc13 [.int (nI q), .int (nI 0), .int (nI 11)] [] (c_X6_in_y l E q 0 11 (by omega) (by omega) (by omega)) gX6_say_X6_in calX6_in rfl rfl rfl rfl dX6_say_13 rfl ⟨Nat.zero_le _, Nat.zero_le _⟩ (fun _ => mw E a M) [0, 1, 2, 3, 4, 5, 6, 7, 8, 9, 10, 11, 12] rfl (fun _ => rfl) (fun _ hu13 => ?_)
    refine g_if_eq hX 43 dX6_say_16 (by decide) (fun c16 => ?_) (fun c16 => ?_)
    · replace c16 := bI_0.mp c16
      exact absurd c16 (by simp)
    · replace c16 := mt bI_0.mpr c16
      replace c16 := bNf c16
      refine g_iload_n hX dX6_say_19 1 rfl ?_
      refine g_if_eq hX 33 dX6_say_20 (by decide) (fun c20 => ?_) (fun c20 => ?_)
      · replace c20 := (nz_eq (by omega)).mp c20
        refine g_iload hX dX6_say_33 4 rfl ?_
        refine g_iconst hX (nI 0) dX6_say_35 rfl ?_
        refine g_iconst hX (nI 5) dX6_say_36 rfl ?_
        have hc37 : CUT (mw E a M) (([] : va_W)) (mw E a M) [] [0, 1, 2, 3, 4, 5, 6, 7, 8, 9, 10, 11, 12] := ⟨rfl, rfl, rfl, rfl, rfl⟩
        refine g_TI hX hc37 [.int (nI pp), .int (nI 0), .int (nI 5)] [] (c_X6_in_y l E pp 0 5 (by omega) (by omega) (by omega)) gX6_say_X6_in calX6_in rfl rfl rfl rfl dX6_say_37 rfl ⟨Nat.zero_le _, Nat.zero_le _⟩ (fun _ => mw E a M) [0, 1, 2, 3, 4, 5, 6, 7, 8, 9, 10, 11, 12] rfl (fun _ => rfl) (fun _ hu37 => ?_)
        refine g_if_ne hX 45 dX6_say_40 (by decide) (fun c40 => ?_) (fun c40 => ?_)
        · replace c40 := mt bI_0.mpr c40
          replace c40 := bNf c40
          refine g_aload_n hX dX6_say_45 0 rfl ?_
          refine g_get hX (v := .ref (a 1)) 0 inRX6 rfl rfl 1 rfl fl7 rfl rfl dX6_say_46 ?_
          refine g_iconst hX (nI 2) dX6_say_49 rfl ?_
          refine g_iald hX (nI (cN C)) 1 0 rfl rfl (vp_in_nI (by omega) (by omega)) ((ald_n (g := fun zz => (mS M) zz) (i := 2) (by omega)).trans (RB_N hS.1)) dX6_say_50 ?_
          refine g_bipush hX (nI 9) dX6_say_51 rfl ?_
          refine g_icmp_ne hX 59 dX6_say_53 (by decide) (fun c53 => ?_) (fun c53 => ?_)
          · replace c53 := mt (nI_eq (by omega) (by omega)).mpr c53
            refine g_aload_n hX dX6_say_59 0 rfl ?_
            have hc60 : CUT (mw E a M) (mw E a M) (([] : va_W)) [0, 1, 2, 3, 4, 5, 6, 7, 8, 9, 10, 11, 12] [] := ⟨rfl, rfl, rfl, rfl, rfl⟩
            refine g_VV hX hc60 [] [] (c_X6_remembers l E a M (by first | assumption | omega)) gX6_say_X6_remembers calX6_remembers rfl rfl rfl rfl 0 rfl rfl rfl rfl dX6_say_60 rfl ⟨Nat.zero_le _, Nat.zero_le _⟩ (fun _ => mw E a (mkMV (mT M) (mS M) (if (mA M) = 8 then 8 else (mA M) + 1) (wasR ((mA M)) ((mW M)) ((mS M))) (mK M) (mP M) (mE M) (mN M) (mX M) (mL M) (mI M) (mD M) (mR M) (mM M) (mO M) (mF M) (mU M) (mQ M) (mZ M) (mG M) (mH M))) [0, 1, 2, 3, 4, 5, 6, 7, 8, 9, 10, 11, 12] rfl (fun _ => rfl) (fun _ hu60 => ?_)
            refine g_aload_n hX dX6_say_63 0 rfl ?_
            have hc64 : CUT (mw E a (mkMV (mT M) (mS M) (if (mA M) = 8 then 8 else (mA M) + 1) (wasR ((mA M)) ((mW M)) ((mS M))) (mK M) (mP M) (mE M) (mN M) (mX M) (mL M) (mI M) (mD M) (mR M) (mM M) (mO M) (mF M) (mU M) (mQ M) (mZ M) (mG M) (mH M))) (mw E a (mkMV (mT M) (mS M) (if (mA M) = 8 then 8 else (mA M) + 1) (wasR ((mA M)) ((mW M)) ((mS M))) (mK M) (mP M) (mE M) (mN M) (mX M) (mL M) (mI M) (mD M) (mR M) (mM M) (mO M) (mF M) (mU M) (mQ M) (mZ M) (mG M) (mH M))) (([] : va_W)) [0, 1, 2, 3, 4, 5, 6, 7, 8, 9, 10, 11, 12] [] := ⟨rfl, rfl, rfl, rfl, rfl⟩
            refine g_VV hX hc64 [] [] (c_X6_asItIs l E a (mkMV (mT M) (mS M) (if (mA M) = 8 then 8 else (mA M) + 1) (wasR ((mA M)) ((mW M)) ((mS M))) (mK M) (mP M) (mE M) (mN M) (mX M) (mL M) (mI M) (mD M) (mR M) (mM M) (mO M) (mF M) (mU M) (mQ M) (mZ M) (mG M) (mH M))) gX6_say_X6_asItIs calX6_asItIs rfl rfl rfl rfl 0 rfl rfl rfl rfl dX6_say_64 rfl ⟨Nat.zero_le _, Nat.zero_le _⟩ (fun _ => mw E a (mkMV (mT M) (mS M) (if (mA M) = 8 then 8 else (mA M) + 1) (wasR ((mA M)) ((mW M)) ((mS M))) (mK M) (mP M) (mE M) (mN M) (mX M) (mL M) (mI M) (mD M) (mR M) (mM M) (cpR ((mO M)) ((mS M)) 0 0) (mF M) (mU M) (mQ M) (mZ M) (mG M) (mH M))) [0, 1, 2, 3, 4, 5, 6, 7, 8, 9, 10, 11, 12] rfl (fun _ => rfl) (fun _ hu64 => ?_)
            refine g_aload_n hX dX6_say_67 0 rfl ?_
            refine g_get hX (v := .ref (a 8)) 0 inRX6 (atModel_0 _ _ _ _ _ _ _ _ _ _ _ _ _ _ _ _ _ _ _ _ _ _ _) rfl 14 rfl fl31 rfl rfl dX6_say_68 ?_
            refine g_iload_n hX dX6_say_71 1 rfl ?_
            refine g_iload_n hX dX6_say_72 2 rfl ?_
            refine g_iload_n hX dX6_say_73 3 rfl ?_
            refine g_iload hX dX6_say_74 4 rfl ?_
            have hc76 : CUT (mw E a (mkMV (mT M) (mS M) (if (mA M) = 8 then 8 else (mA M) + 1) (wasR ((mA M)) ((mW M)) ((mS M))) (mK M) (mP M) (mE M) (mN M) (mX M) (mL M) (mI M) (mD M) (mR M) (mM M) (cpR ((mO M)) ((mS M)) 0 0) (mF M) (mU M) (mQ M) (mZ M) (mG M) (mH M))) (aw E (a 8) 49 (cpR ((mO M)) ((mS M)) 0 0)) ((List.eraseIdx (mw E a (mkMV (mT M) (mS M) (if (mA M) = 8 then 8 else (mA M) + 1) (wasR ((mA M)) ((mW M)) ((mS M))) (mK M) (mP M) (mE M) (mN M) (mX M) (mL M) (mI M) (mD M) (mR M) (mM M) (cpR ((mO M)) ((mS M)) 0 0) (mF M) (mU M) (mQ M) (mZ M) (mG M) (mH M))) 8)) [8] [0, 1, 2, 3, 4, 5, 6, 7, 9, 10, 11, 12] := ⟨rfl, rfl, rfl, rfl, rfl⟩
            refine g_TV hX hc76 [.ref (a 8), .int (nI kk), .int (nI q), .int (nI q2), .int (nI pp)] [] (c_X6_puts l E (a 8) (cpR ((mO M)) ((mS M)) 0 0) kk q q2 pp (cN C) (cpN_r hS.1) hN (by omega)) gX6_say_X6_puts calX6_puts rfl rfl rfl rfl dX6_say_76 rfl ⟨Nat.zero_le _, Nat.zero_le _⟩ (fun _ => mw E a (mkMV (mT M) (mS M) (if (mA M) = 8 then 8 else (mA M) + 1) (wasR ((mA M)) ((mW M)) ((mS M))) (mK M) (mP M) (mE M) (mN M) (mX M) (mL M) (mI M) (mD M) (mR M) (mM M) (putR (cpR ((mO M)) ((mS M)) 0 0) (cN C) kk q q2 pp) (mF M) (mU M) (mQ M) (mZ M) (mG M) (mH M))) [0, 1, 2, 3, 4, 5, 6, 7, 12, 8, 9, 10, 11] rfl (fun _ => rfl) (fun _ hu76 => ?_)
            refine g_aload_n hX dX6_say_79 0 rfl ?_
            have hc80 : CUT (mw E a (mkMV (mT M) (mS M) (if (mA M) = 8 then 8 else (mA M) + 1) (wasR ((mA M)) ((mW M)) ((mS M))) (mK M) (mP M) (mE M) (mN M) (mX M) (mL M) (mI M) (mD M) (mR M) (mM M) (putR (cpR ((mO M)) ((mS M)) 0 0) (cN C) kk q q2 pp) (mF M) (mU M) (mQ M) (mZ M) (mG M) (mH M))) (mw E a (mkMV (mT M) (mS M) (if (mA M) = 8 then 8 else (mA M) + 1) (wasR ((mA M)) ((mW M)) ((mS M))) (mK M) (mP M) (mE M) (mN M) (mX M) (mL M) (mI M) (mD M) (mR M) (mM M) (putR (cpR ((mO M)) ((mS M)) 0 0) (cN C) kk q q2 pp) (mF M) (mU M) (mQ M) (mZ M) (mG M) (mH M))) (([] : va_W)) [0, 1, 2, 3, 4, 5, 6, 7, 8, 9, 10, 11, 12] [] := ⟨rfl, rfl, rfl, rfl, rfl⟩
            refine g_VV hX hc80 [] [] (c_X6_appoints l E a (mkMV (mT M) (mS M) (if (mA M) = 8 then 8 else (mA M) + 1) (wasR ((mA M)) ((mW M)) ((mS M))) (mK M) (mP M) (mE M) (mN M) (mX M) (mL M) (mI M) (mD M) (mR M) (mM M) (putR (cpR ((mO M)) ((mS M)) 0 0) (cN C) kk q q2 pp) (mF M) (mU M) (mQ M) (mZ M) (mG M) (mH M)) (addC C kk q (if kk = 0 then 0 else q2) pp) hAD.1 (by rw [putR_0]; exact RB_put hN (RB_cp h9 hS.1))) gX6_say_X6_appoints calX6_appoints rfl rfl rfl rfl 0 rfl rfl rfl rfl dX6_say_80 rfl ⟨Nat.zero_le _, Nat.zero_le _⟩ (fun u80 => mw E a (mkMV (mT M) (mS M) (if (mA M) = 8 then 8 else (mA M) + 1) (wasR ((mA M)) ((mW M)) ((mS M))) (mK M) (mP M) (mE M) (mN M) (mX M) (mL M) (mI M) (mD M) (mR M) (mM M) u80 (mF M) (mU M) (mQ M) (mZ M) (mG M) (mH M))) [0, 1, 2, 3, 4, 5, 6, 7, 8, 9, 10, 11, 12] rfl (fun _ => rfl) (fun u80 hu80 => ?_)
            have hW80 : RW (addC C kk q (if kk = 0 then 0 else q2) pp) u80 := RW_add hV (RW_cp (f := mO M) h9 hS) hN (by rw [putR_0] at hu80; exact hu80)
            refine g_aload_n hX dX6_say_83 0 rfl ?_
            refine g_get hX (v := .ref (a 1)) 0 inRX6 (atModel_0 _ _ _ _ _ _ _ _ _ _ _ _ _ _ _ _ _ _ _ _ _ _ _) rfl 1 rfl fl7 rfl rfl dX6_say_84 ?_
            refine g_iconst hX (nI 0) dX6_say_87 rfl ?_
            refine g_aload_n hX dX6_say_88 0 rfl ?_
            refine g_get hX (v := .ref (a 8)) 0 inRX6 (atModel_0 _ _ _ _ _ _ _ _ _ _ _ _ _ _ _ _ _ _ _ _ _ _ _) rfl 14 rfl fl31 rfl rfl dX6_say_89 ?_
            refine g_iconst hX (nI 0) dX6_say_92 rfl ?_
            have hc93 : CUT (mw E a (mkMV (mT M) (mS M) (if (mA M) = 8 then 8 else (mA M) + 1) (wasR ((mA M)) ((mW M)) ((mS M))) (mK M) (mP M) (mE M) (mN M) (mX M) (mL M) (mI M) (mD M) (mR M) (mM M) u80 (mF M) (mU M) (mQ M) (mZ M) (mG M) (mH M))) ((aw E (a 1) 49 (mS M)) ++ (aw E (a 8) 49 u80)) ((List.eraseIdx (List.eraseIdx (mw E a (mkMV (mT M) (mS M) (if (mA M) = 8 then 8 else (mA M) + 1) (wasR ((mA M)) ((mW M)) ((mS M))) (mK M) (mP M) (mE M) (mN M) (mX M) (mL M) (mI M) (mD M) (mR M) (mM M) u80 (mF M) (mU M) (mQ M) (mZ M) (mG M) (mH M))) 8) 1)) [1, 8] [0, 2, 3, 4, 5, 6, 7, 9, 10, 11, 12] := ⟨rfl, rfl, rfl, rfl, rfl⟩
            refine g_TV hX hc93 [.ref (a 1), .int (nI 0), .ref (a 8), .int (nI 0)] [] (c_X6_copies l E (a 1) 49 (mS M) 0 (a 8) 49 u80 0 (by omega) (by omega) (by omega) (by omega)) gX6_say_X6_copies calX6_copies rfl rfl rfl rfl dX6_say_93 rfl ⟨Nat.zero_le _, Nat.zero_le _⟩ (fun _ => mw E a (mkMV (mT M) (cpR (mS M) u80 0 0) (if (mA M) = 8 then 8 else (mA M) + 1) (wasR ((mA M)) ((mW M)) ((mS M))) (mK M) (mP M) (mE M) (mN M) (mX M) (mL M) (mI M) (mD M) (mR M) (mM M) u80 (mF M) (mU M) (mQ M) (mZ M) (mG M) (mH M))) [0, 11, 1, 2, 3, 4, 5, 6, 12, 7, 8, 9, 10] rfl (fun _ => rfl) (fun _ hu93 => ?_)
            refine g_aload_n hX dX6_say_96 0 rfl ?_
            refine g_get hX (v := .ref (a 1)) 0 inRX6 (atModel_0 _ _ _ _ _ _ _ _ _ _ _ _ _ _ _ _ _ _ _ _ _ _ _) rfl 1 rfl fl7 rfl rfl dX6_say_97 ?_
            refine g_iconst hX (nI 2) dX6_say_100 rfl ?_
            refine g_iald hX (nI (cN C + 1)) 1 0 (atModel_1 _ _ _ _ _ _ _ _ _ _ _ _ _ _ _ _ _ _ _ _ _ _ _) rfl (vp_in_nI (by omega) (by omega)) ((ald_n (by omega)).trans (cpN_r hW80.1)) dX6_say_101 ?_
            refine g_iconst hX (nI 1) dX6_say_102 rfl ?_
            refine g_isub hX (nI ((cN C + 1) - 1)) dX6_say_103 (pk_sub (by omega)) ?_
            exact g_eq rfl rfl (congrArg (fun z => [Value.int z]) (congrArg nI (by omega))) (hret (mkMV (mT M) (cpR (mS M) u80 0 0) (if (mA M) = 8 then 8 else (mA M) + 1) (wasR ((mA M)) ((mW M)) ((mS M))) (mK M) (mP M) (mE M) (mN M) (mX M) (mL M) (mI M) (mD M) (mR M) (mM M) u80 (mF M) (mU M) (mQ M) (mZ M) (mG M) (mH M)) _ _ (⟨⟨rfl, rfl, rfl, rfl, rfl, rfl, rfl⟩, RW_cp (by show cN C + 1 ≤ 9; omega) hW80, rfl, rfl⟩) dX6_say_104)
          · replace c53 := (nI_eq (by omega) (by omega)).mp c53
            omega
        · replace c40 := bI_0.mp c40
          exact absurd c40 (by simp)
      · replace c20 := mt (nz_eq (by omega)).mpr c20
        refine g_iload_n hX dX6_say_23 3 rfl ?_
        refine g_iconst hX (nI 0) dX6_say_24 rfl ?_
        refine g_bipush hX (nI 11) dX6_say_25 rfl ?_
        have hc27 : CUT (mw E a M) (([] : va_W)) (mw E a M) [] [0, 1, 2, 3, 4, 5, 6, 7, 8, 9, 10, 11, 12] := ⟨rfl, rfl, rfl, rfl, rfl⟩
        refine g_TI hX hc27 [.int (nI q2), .int (nI 0), .int (nI 11)] [] (c_X6_in_y l E q2 0 11 (by omega) (by omega) (by omega)) gX6_say_X6_in calX6_in rfl rfl rfl rfl dX6_say_27 rfl ⟨Nat.zero_le _, Nat.zero_le _⟩ (fun _ => mw E a M) [0, 1, 2, 3, 4, 5, 6, 7, 8, 9, 10, 11, 12] rfl (fun _ => rfl) (fun _ hu27 => ?_)
        refine g_if_eq hX 43 dX6_say_30 (by decide) (fun c30 => ?_) (fun c30 => ?_)
        · replace c30 := bI_0.mp c30
          exact absurd c30 (by simp)
        · replace c30 := mt bI_0.mpr c30
          replace c30 := bNf c30
          refine g_iload hX dX6_say_33 4 rfl ?_
          refine g_iconst hX (nI 0) dX6_say_35 rfl ?_
          refine g_iconst hX (nI 5) dX6_say_36 rfl ?_
          have hc37 : CUT (mw E a M) (([] : va_W)) (mw E a M) [] [0, 1, 2, 3, 4, 5, 6, 7, 8, 9, 10, 11, 12] := ⟨rfl, rfl, rfl, rfl, rfl⟩
          refine g_TI hX hc37 [.int (nI pp), .int (nI 0), .int (nI 5)] [] (c_X6_in_y l E pp 0 5 (by omega) (by omega) (by omega)) gX6_say_X6_in calX6_in rfl rfl rfl rfl dX6_say_37 rfl ⟨Nat.zero_le _, Nat.zero_le _⟩ (fun _ => mw E a M) [0, 1, 2, 3, 4, 5, 6, 7, 8, 9, 10, 11, 12] rfl (fun _ => rfl) (fun _ hu37 => ?_)
          refine g_if_ne hX 45 dX6_say_40 (by decide) (fun c40 => ?_) (fun c40 => ?_)
          · replace c40 := mt bI_0.mpr c40
            replace c40 := bNf c40
            refine g_aload_n hX dX6_say_45 0 rfl ?_
            refine g_get hX (v := .ref (a 1)) 0 inRX6 rfl rfl 1 rfl fl7 rfl rfl dX6_say_46 ?_
            refine g_iconst hX (nI 2) dX6_say_49 rfl ?_
            refine g_iald hX (nI (cN C)) 1 0 rfl rfl (vp_in_nI (by omega) (by omega)) ((ald_n (g := fun zz => (mS M) zz) (i := 2) (by omega)).trans (RB_N hS.1)) dX6_say_50 ?_
            refine g_bipush hX (nI 9) dX6_say_51 rfl ?_
            refine g_icmp_ne hX 59 dX6_say_53 (by decide) (fun c53 => ?_) (fun c53 => ?_)
            · replace c53 := mt (nI_eq (by omega) (by omega)).mpr c53
              refine g_aload_n hX dX6_say_59 0 rfl ?_
              have hc60 : CUT (mw E a M) (mw E a M) (([] : va_W)) [0, 1, 2, 3, 4, 5, 6, 7, 8, 9, 10, 11, 12] [] := ⟨rfl, rfl, rfl, rfl, rfl⟩
              refine g_VV hX hc60 [] [] (c_X6_remembers l E a M (by first | assumption | omega)) gX6_say_X6_remembers calX6_remembers rfl rfl rfl rfl 0 rfl rfl rfl rfl dX6_say_60 rfl ⟨Nat.zero_le _, Nat.zero_le _⟩ (fun _ => mw E a (mkMV (mT M) (mS M) (if (mA M) = 8 then 8 else (mA M) + 1) (wasR ((mA M)) ((mW M)) ((mS M))) (mK M) (mP M) (mE M) (mN M) (mX M) (mL M) (mI M) (mD M) (mR M) (mM M) (mO M) (mF M) (mU M) (mQ M) (mZ M) (mG M) (mH M))) [0, 1, 2, 3, 4, 5, 6, 7, 8, 9, 10, 11, 12] rfl (fun _ => rfl) (fun _ hu60 => ?_)
              refine g_aload_n hX dX6_say_63 0 rfl ?_
              have hc64 : CUT (mw E a (mkMV (mT M) (mS M) (if (mA M) = 8 then 8 else (mA M) + 1) (wasR ((mA M)) ((mW M)) ((mS M))) (mK M) (mP M) (mE M) (mN M) (mX M) (mL M) (mI M) (mD M) (mR M) (mM M) (mO M) (mF M) (mU M) (mQ M) (mZ M) (mG M) (mH M))) (mw E a (mkMV (mT M) (mS M) (if (mA M) = 8 then 8 else (mA M) + 1) (wasR ((mA M)) ((mW M)) ((mS M))) (mK M) (mP M) (mE M) (mN M) (mX M) (mL M) (mI M) (mD M) (mR M) (mM M) (mO M) (mF M) (mU M) (mQ M) (mZ M) (mG M) (mH M))) (([] : va_W)) [0, 1, 2, 3, 4, 5, 6, 7, 8, 9, 10, 11, 12] [] := ⟨rfl, rfl, rfl, rfl, rfl⟩
              refine g_VV hX hc64 [] [] (c_X6_asItIs l E a (mkMV (mT M) (mS M) (if (mA M) = 8 then 8 else (mA M) + 1) (wasR ((mA M)) ((mW M)) ((mS M))) (mK M) (mP M) (mE M) (mN M) (mX M) (mL M) (mI M) (mD M) (mR M) (mM M) (mO M) (mF M) (mU M) (mQ M) (mZ M) (mG M) (mH M))) gX6_say_X6_asItIs calX6_asItIs rfl rfl rfl rfl 0 rfl rfl rfl rfl dX6_say_64 rfl ⟨Nat.zero_le _, Nat.zero_le _⟩ (fun _ => mw E a (mkMV (mT M) (mS M) (if (mA M) = 8 then 8 else (mA M) + 1) (wasR ((mA M)) ((mW M)) ((mS M))) (mK M) (mP M) (mE M) (mN M) (mX M) (mL M) (mI M) (mD M) (mR M) (mM M) (cpR ((mO M)) ((mS M)) 0 0) (mF M) (mU M) (mQ M) (mZ M) (mG M) (mH M))) [0, 1, 2, 3, 4, 5, 6, 7, 8, 9, 10, 11, 12] rfl (fun _ => rfl) (fun _ hu64 => ?_)
              refine g_aload_n hX dX6_say_67 0 rfl ?_
              refine g_get hX (v := .ref (a 8)) 0 inRX6 (atModel_0 _ _ _ _ _ _ _ _ _ _ _ _ _ _ _ _ _ _ _ _ _ _ _) rfl 14 rfl fl31 rfl rfl dX6_say_68 ?_
              refine g_iload_n hX dX6_say_71 1 rfl ?_
              refine g_iload_n hX dX6_say_72 2 rfl ?_
              refine g_iload_n hX dX6_say_73 3 rfl ?_
              refine g_iload hX dX6_say_74 4 rfl ?_
              have hc76 : CUT (mw E a (mkMV (mT M) (mS M) (if (mA M) = 8 then 8 else (mA M) + 1) (wasR ((mA M)) ((mW M)) ((mS M))) (mK M) (mP M) (mE M) (mN M) (mX M) (mL M) (mI M) (mD M) (mR M) (mM M) (cpR ((mO M)) ((mS M)) 0 0) (mF M) (mU M) (mQ M) (mZ M) (mG M) (mH M))) (aw E (a 8) 49 (cpR ((mO M)) ((mS M)) 0 0)) ((List.eraseIdx (mw E a (mkMV (mT M) (mS M) (if (mA M) = 8 then 8 else (mA M) + 1) (wasR ((mA M)) ((mW M)) ((mS M))) (mK M) (mP M) (mE M) (mN M) (mX M) (mL M) (mI M) (mD M) (mR M) (mM M) (cpR ((mO M)) ((mS M)) 0 0) (mF M) (mU M) (mQ M) (mZ M) (mG M) (mH M))) 8)) [8] [0, 1, 2, 3, 4, 5, 6, 7, 9, 10, 11, 12] := ⟨rfl, rfl, rfl, rfl, rfl⟩
              refine g_TV hX hc76 [.ref (a 8), .int (nI kk), .int (nI q), .int (nI q2), .int (nI pp)] [] (c_X6_puts l E (a 8) (cpR ((mO M)) ((mS M)) 0 0) kk q q2 pp (cN C) (cpN_r hS.1) hN (by omega)) gX6_say_X6_puts calX6_puts rfl rfl rfl rfl dX6_say_76 rfl ⟨Nat.zero_le _, Nat.zero_le _⟩ (fun _ => mw E a (mkMV (mT M) (mS M) (if (mA M) = 8 then 8 else (mA M) + 1) (wasR ((mA M)) ((mW M)) ((mS M))) (mK M) (mP M) (mE M) (mN M) (mX M) (mL M) (mI M) (mD M) (mR M) (mM M) (putR (cpR ((mO M)) ((mS M)) 0 0) (cN C) kk q q2 pp) (mF M) (mU M) (mQ M) (mZ M) (mG M) (mH M))) [0, 1, 2, 3, 4, 5, 6, 7, 12, 8, 9, 10, 11] rfl (fun _ => rfl) (fun _ hu76 => ?_)
              refine g_aload_n hX dX6_say_79 0 rfl ?_
              have hc80 : CUT (mw E a (mkMV (mT M) (mS M) (if (mA M) = 8 then 8 else (mA M) + 1) (wasR ((mA M)) ((mW M)) ((mS M))) (mK M) (mP M) (mE M) (mN M) (mX M) (mL M) (mI M) (mD M) (mR M) (mM M) (putR (cpR ((mO M)) ((mS M)) 0 0) (cN C) kk q q2 pp) (mF M) (mU M) (mQ M) (mZ M) (mG M) (mH M))) (mw E a (mkMV (mT M) (mS M) (if (mA M) = 8 then 8 else (mA M) + 1) (wasR ((mA M)) ((mW M)) ((mS M))) (mK M) (mP M) (mE M) (mN M) (mX M) (mL M) (mI M) (mD M) (mR M) (mM M) (putR (cpR ((mO M)) ((mS M)) 0 0) (cN C) kk q q2 pp) (mF M) (mU M) (mQ M) (mZ M) (mG M) (mH M))) (([] : va_W)) [0, 1, 2, 3, 4, 5, 6, 7, 8, 9, 10, 11, 12] [] := ⟨rfl, rfl, rfl, rfl, rfl⟩
              refine g_VV hX hc80 [] [] (c_X6_appoints l E a (mkMV (mT M) (mS M) (if (mA M) = 8 then 8 else (mA M) + 1) (wasR ((mA M)) ((mW M)) ((mS M))) (mK M) (mP M) (mE M) (mN M) (mX M) (mL M) (mI M) (mD M) (mR M) (mM M) (putR (cpR ((mO M)) ((mS M)) 0 0) (cN C) kk q q2 pp) (mF M) (mU M) (mQ M) (mZ M) (mG M) (mH M)) (addC C kk q (if kk = 0 then 0 else q2) pp) hAD.1 (by rw [putR_0]; exact RB_put hN (RB_cp h9 hS.1))) gX6_say_X6_appoints calX6_appoints rfl rfl rfl rfl 0 rfl rfl rfl rfl dX6_say_80 rfl ⟨Nat.zero_le _, Nat.zero_le _⟩ (fun u80 => mw E a (mkMV (mT M) (mS M) (if (mA M) = 8 then 8 else (mA M) + 1) (wasR ((mA M)) ((mW M)) ((mS M))) (mK M) (mP M) (mE M) (mN M) (mX M) (mL M) (mI M) (mD M) (mR M) (mM M) u80 (mF M) (mU M) (mQ M) (mZ M) (mG M) (mH M))) [0, 1, 2, 3, 4, 5, 6, 7, 8, 9, 10, 11, 12] rfl (fun _ => rfl) (fun u80 hu80 => ?_)
              have hW80 : RW (addC C kk q (if kk = 0 then 0 else q2) pp) u80 := RW_add hV (RW_cp (f := mO M) h9 hS) hN (by rw [putR_0] at hu80; exact hu80)
              refine g_aload_n hX dX6_say_83 0 rfl ?_
              refine g_get hX (v := .ref (a 1)) 0 inRX6 (atModel_0 _ _ _ _ _ _ _ _ _ _ _ _ _ _ _ _ _ _ _ _ _ _ _) rfl 1 rfl fl7 rfl rfl dX6_say_84 ?_
              refine g_iconst hX (nI 0) dX6_say_87 rfl ?_
              refine g_aload_n hX dX6_say_88 0 rfl ?_
              refine g_get hX (v := .ref (a 8)) 0 inRX6 (atModel_0 _ _ _ _ _ _ _ _ _ _ _ _ _ _ _ _ _ _ _ _ _ _ _) rfl 14 rfl fl31 rfl rfl dX6_say_89 ?_
              refine g_iconst hX (nI 0) dX6_say_92 rfl ?_
              have hc93 : CUT (mw E a (mkMV (mT M) (mS M) (if (mA M) = 8 then 8 else (mA M) + 1) (wasR ((mA M)) ((mW M)) ((mS M))) (mK M) (mP M) (mE M) (mN M) (mX M) (mL M) (mI M) (mD M) (mR M) (mM M) u80 (mF M) (mU M) (mQ M) (mZ M) (mG M) (mH M))) ((aw E (a 1) 49 (mS M)) ++ (aw E (a 8) 49 u80)) ((List.eraseIdx (List.eraseIdx (mw E a (mkMV (mT M) (mS M) (if (mA M) = 8 then 8 else (mA M) + 1) (wasR ((mA M)) ((mW M)) ((mS M))) (mK M) (mP M) (mE M) (mN M) (mX M) (mL M) (mI M) (mD M) (mR M) (mM M) u80 (mF M) (mU M) (mQ M) (mZ M) (mG M) (mH M))) 8) 1)) [1, 8] [0, 2, 3, 4, 5, 6, 7, 9, 10, 11, 12] := ⟨rfl, rfl, rfl, rfl, rfl⟩
              refine g_TV hX hc93 [.ref (a 1), .int (nI 0), .ref (a 8), .int (nI 0)] [] (c_X6_copies l E (a 1) 49 (mS M) 0 (a 8) 49 u80 0 (by omega) (by omega) (by omega) (by omega)) gX6_say_X6_copies calX6_copies rfl rfl rfl rfl dX6_say_93 rfl ⟨Nat.zero_le _, Nat.zero_le _⟩ (fun _ => mw E a (mkMV (mT M) (cpR (mS M) u80 0 0) (if (mA M) = 8 then 8 else (mA M) + 1) (wasR ((mA M)) ((mW M)) ((mS M))) (mK M) (mP M) (mE M) (mN M) (mX M) (mL M) (mI M) (mD M) (mR M) (mM M) u80 (mF M) (mU M) (mQ M) (mZ M) (mG M) (mH M))) [0, 11, 1, 2, 3, 4, 5, 6, 12, 7, 8, 9, 10] rfl (fun _ => rfl) (fun _ hu93 => ?_)
              refine g_aload_n hX dX6_say_96 0 rfl ?_
              refine g_get hX (v := .ref (a 1)) 0 inRX6 (atModel_0 _ _ _ _ _ _ _ _ _ _ _ _ _ _ _ _ _ _ _ _ _ _ _) rfl 1 rfl fl7 rfl rfl dX6_say_97 ?_
              refine g_iconst hX (nI 2) dX6_say_100 rfl ?_
              refine g_iald hX (nI (cN C + 1)) 1 0 (atModel_1 _ _ _ _ _ _ _ _ _ _ _ _ _ _ _ _ _ _ _ _ _ _ _) rfl (vp_in_nI (by omega) (by omega)) ((ald_n (by omega)).trans (cpN_r hW80.1)) dX6_say_101 ?_
              refine g_iconst hX (nI 1) dX6_say_102 rfl ?_
              refine g_isub hX (nI ((cN C + 1) - 1)) dX6_say_103 (pk_sub (by omega)) ?_
              exact g_eq rfl rfl (congrArg (fun z => [Value.int z]) (congrArg nI (by omega))) (hret (mkMV (mT M) (cpR (mS M) u80 0 0) (if (mA M) = 8 then 8 else (mA M) + 1) (wasR ((mA M)) ((mW M)) ((mS M))) (mK M) (mP M) (mE M) (mN M) (mX M) (mL M) (mI M) (mD M) (mR M) (mM M) u80 (mF M) (mU M) (mQ M) (mZ M) (mG M) (mH M)) _ _ (⟨⟨rfl, rfl, rfl, rfl, rfl, rfl, rfl⟩, RW_cp (by show cN C + 1 ≤ 9; omega) hW80, rfl, rfl⟩) dX6_say_104)
            · replace c53 := (nI_eq (by omega) (by omega)).mp c53
              omega
          · replace c40 := bI_0.mp c40
            exact absurd c40 (by simp)
set_option maxHeartbeats 4000000 in
set_option maxRecDepth 100000 in
theorem c_X6_withdraw_n (l : Launch) (E : EV) (a : Nat → Nat) (M : MV) (C : FC) (m : Nat) (x0 : Int32) (hD : DI C m) (hm : m < 2 ^ 29) (hN1 : 1 ≤ cN C) (hS : RW C (mS M)) (hTm : cT C = mT M) (hx : win x0 (nI 0) (nI (cN C - 1)) = false) : KI l yX6_withdraw wsX6_withdraw (rmN 5) E (σ := MV) [.ref (a 0), .int x0] (mw E a M) (fun u => KS M u) (fun u => (-1)) (fun u => mw E a u) 0 0 := by
  refine KI.of (cc := cX6_withdraw) (maxL := 2) (ty := .int) (hnar := fun _ _ => rfl) rfl rfl rfl (fun x hX hin hret hnL => ?_)
  replace hX : CX x l cX6_withdraw RX6 wsX6_withdraw E (rmN 5) := hX
  show GG x 0 0 (mw E a M) 0 [(0, .ref (a 0)), (1, .int x0)] []
  obtain ⟨hC, hVY, hZ, hYm⟩ := id hD
  obtain ⟨⟨h9, h64, h512, hT, hI⟩, hK⟩ := id hC
  have hV := DI_VB hD (by omega)
  refine g_aload_n hX dX6_withdraw_0 0 rfl ?_
  refine g_iload_n hX dX6_withdraw_1 1 rfl ?_
  have hc2 : CUT (mw E a M) (mw E a M) (([] : va_W)) [0, 1, 2, 3, 4, 5, 6, 7, 8, 9, 10, 11, 12] [] := ⟨rfl, rfl, rfl, rfl, rfl⟩
  refine g_VI hX hc2 [.int x0] [] (c_X6_isSaying_n l E a M C x0 (by first | assumption | omega) (by assumption) hS.1 (by assumption)) gX6_withdraw_X6_isSaying calX6_isSaying rfl rfl rfl rfl 0 rfl rfl rfl rfl dX6_withdraw_2 rfl ⟨Nat.zero_le _, Nat.zero_le _⟩ (fun _ => mw E a M) [0, 1, 2, 3, 4, 5, 6, 7, 8, 9, 10, 11, 12] rfl (fun _ => rfl) (fun _ hu2 => ?_)
  refine g_if_ne hX 10 dX6_withdraw_5 (by decide) (fun c5 => ?_) (fun c5 => ?_)
  · replace c5 := mt bI_0.mpr c5
    replace c5 := bNf c5
    exact absurd c5 (by simp)
  · replace c5 := bI_0.mp c5
    refine g_iconst hX ((-1)) dX6_withdraw_8 rfl ?_
    exact g_eq rfl rfl rfl (hret M _ _ (⟨⟨rfl, rfl, rfl, rfl, rfl, rfl, rfl⟩, ⟨rfl, rfl⟩, rfl⟩) dX6_withdraw_9)
set_option maxHeartbeats 4000000 in
set_option maxRecDepth 100000 in
theorem c_X6_withdraw_no (l : Launch) (E : EV) (a : Nat → Nat) (M : MV) (C : FC) (m : Nat) (s : Nat) (hD : DI C m) (hm : m < 2 ^ 29) (hN1 : 1 ≤ cN C) (hS : RW C (mS M)) (hTm : cT C = mT M) (hs : s < cN C) (hc : cwB C s = false) : KI l yX6_withdraw wsX6_withdraw (rmN 5) E (σ := MV) [.ref (a 0), .int (nI s)] (mw E a M) (fun u => KS M u) (fun u => (-2)) (fun u => mw E a u) 0 0 := by
  refine KI.of (cc := cX6_withdraw) (maxL := 2) (ty := .int) (hnar := fun _ _ => rfl) rfl rfl rfl (fun x hX hin hret hnL => ?_)
  replace hX : CX x l cX6_withdraw RX6 wsX6_withdraw E (rmN 5) := hX
  show GG x 0 0 (mw E a M) 0 [(0, .ref (a 0)), (1, .int (nI s))] []
  obtain ⟨hC, hVY, hZ, hYm⟩ := id hD
  obtain ⟨⟨h9, h64, h512, hT, hI⟩, hK⟩ := id hC
  have hV := DI_VB hD (by omega)
  refine g_aload_n hX dX6_withdraw_0 0 rfl ?_
  refine g_iload_n hX dX6_withdraw_1 1 rfl ?_
  have hc2 : CUT (mw E a M) (mw E a M) (([] : va_W)) [0, 1, 2, 3, 4, 5, 6, 7, 8, 9, 10, 11, 12] [] := ⟨rfl, rfl, rfl, rfl, rfl⟩
  refine g_VI hX hc2 [.int (nI s)] [] (c_X6_isSaying_y l E a M C s (by first | assumption | omega) hS.1 (by omega)) gX6_withdraw_X6_isSaying calX6_isSaying rfl rfl rfl rfl 0 rfl rfl rfl rfl dX6_withdraw_2 rfl ⟨Nat.zero_le _, Nat.zero_le _⟩ (fun _ => mw E a M) [0, 1, 2, 3, 4, 5, 6, 7, 8, 9, 10, 11, 12] rfl (fun _ => rfl) (fun _ hu2 => ?_)
  refine g_if_ne hX 10 dX6_withdraw_5 (by decide) (fun c5 => ?_) (fun c5 => ?_)
  · replace c5 := mt bI_0.mpr c5
    replace c5 := bNf c5
    refine g_aload_n hX dX6_withdraw_10 0 rfl ?_
    have hc11 : CUT (mw E a M) (mw E a M) (([] : va_W)) [0, 1, 2, 3, 4, 5, 6, 7, 8, 9, 10, 11, 12] [] := ⟨rfl, rfl, rfl, rfl, rfl⟩
    refine g_VV hX hc11 [] [] (c_X6_asItIs l E a M) gX6_withdraw_X6_asItIs calX6_asItIs rfl rfl rfl rfl 0 rfl rfl rfl rfl dX6_withdraw_11 rfl ⟨Nat.zero_le _, Nat.zero_le _⟩ (fun _ => mw E a (mkMV (mT M) (mS M) (mA M) (mW M) (mK M) (mP M) (mE M) (mN M) (mX M) (mL M) (mI M) (mD M) (mR M) (mM M) (cpR ((mO M)) ((mS M)) 0 0) (mF M) (mU M) (mQ M) (mZ M) (mG M) (mH M))) [0, 1, 2, 3, 4, 5, 6, 7, 8, 9, 10, 11, 12] rfl (fun _ => rfl) (fun _ hu11 => ?_)
    refine g_aload_n hX dX6_withdraw_14 0 rfl ?_
    refine g_iload_n hX dX6_withdraw_15 1 rfl ?_
    have hc16 : CUT (mw E a (mkMV (mT M) (mS M) (mA M) (mW M) (mK M) (mP M) (mE M) (mN M) (mX M) (mL M) (mI M) (mD M) (mR M) (mM M) (cpR ((mO M)) ((mS M)) 0 0) (mF M) (mU M) (mQ M) (mZ M) (mG M) (mH M))) (mw E a (mkMV (mT M) (mS M) (mA M) (mW M) (mK M) (mP M) (mE M) (mN M) (mX M) (mL M) (mI M) (mD M) (mR M) (mM M) (cpR ((mO M)) ((mS M)) 0 0) (mF M) (mU M) (mQ M) (mZ M) (mG M) (mH M))) (([] : va_W)) [0, 1, 2, 3, 4, 5, 6, 7, 8, 9, 10, 11, 12] [] := ⟨rfl, rfl, rfl, rfl, rfl⟩
    refine g_VI hX hc16 [.int (nI s)] [] (c_X6_canBeWithdrawn l E a (mkMV (mT M) (mS M) (mA M) (mW M) (mK M) (mP M) (mE M) (mN M) (mX M) (mL M) (mI M) (mD M) (mR M) (mM M) (cpR ((mO M)) ((mS M)) 0 0) (mF M) (mU M) (mQ M) (mZ M) (mG M) (mH M)) C s (by first | assumption | omega) (RW_cp h9 hS) (by first | assumption | omega) (by first | assumption | omega) hs) gX6_withdraw_X6_canBeWithdrawn calX6_canBeWithdrawn rfl rfl rfl rfl 0 rfl rfl rfl rfl dX6_withdraw_16 rfl ⟨Nat.zero_le _, Nat.zero_le _⟩ (fun _ => mw E a (mkMV (mT M) (mS M) (mA M) (mW M) (mK M) (mP M) (mE M) (mN M) (mX M) (mL M) (mI M) (mD M) (mR M) (mM M) (cpR ((mO M)) ((mS M)) 0 0) (mF M) (mU M) (mQ M) (mZ M) (mG M) (mH M))) [0, 1, 2, 3, 4, 5, 6, 7, 8, 9, 10, 11, 12] rfl (fun _ => rfl) (fun _ hu16 => ?_)
    refine g_if_ne hX 25 dX6_withdraw_19 (by decide) (fun c19 => ?_) (fun c19 => ?_)
    · replace c19 := mt bI_0.mpr c19
      replace c19 := bNf c19
      rw [hc] at c19; cases c19
    · replace c19 := bI_0.mp c19
      refine g_bipush hX ((-2)) dX6_withdraw_22 rfl ?_
      exact g_eq rfl rfl rfl (hret (mkMV (mT M) (mS M) (mA M) (mW M) (mK M) (mP M) (mE M) (mN M) (mX M) (mL M) (mI M) (mD M) (mR M) (mM M) (cpR ((mO M)) ((mS M)) 0 0) (mF M) (mU M) (mQ M) (mZ M) (mG M) (mH M)) _ _ (⟨⟨rfl, rfl, rfl, rfl, rfl, rfl, rfl⟩, ⟨rfl, rfl⟩, rfl⟩) dX6_withdraw_24)
  · replace c5 := bI_0.mp c5
    exact absurd c5 (by simp)
set_option maxHeartbeats 4000000 in
set_option maxRecDepth 100000 in
theorem c_X6_withdraw_y (l : Launch) (E : EV) (a : Nat → Nat) (M : MV) (C : FC) (m : Nat) (s : Nat) (hD : DI C m) (hm : m < 2 ^ 29) (hN1 : 1 ≤ cN C) (hS : RW C (mS M)) (hTm : cT C = mT M) (hA : mA M ≤ 8) (hs : s < cN C) (hc : cwB C s = true) : KI l yX6_withdraw wsX6_withdraw (rmN 5) E (σ := MV) [.ref (a 0), .int (nI s)] (mw E a M) (fun u => KP M u ∧ RW (toC C s) (mS u) ∧ mA u = (if mA M = 8 then 8 else mA M + 1) ∧ mW u = wasR (mA M) (mW M) (mS M)) (fun u => (nI (pop (lieM (toC C s) (cF (toC C s)))))) (fun u => mw E a u) 0 0 := by
  refine KI.of (cc := cX6_withdraw) (maxL := 2) (ty := .int) (hnar := fun _ _ => rfl) rfl rfl rfl (fun x hX hin hret hnL => ?_)
  replace hX : CX x l cX6_withdraw RX6 wsX6_withdraw E (rmN 5) := hX
  show GG x 0 0 (mw E a M) 0 [(0, .ref (a 0)), (1, .int (nI s))] []
  have inRX6 : ∀ w ∈ wsX60, w ∈ wsX6_withdraw := by decide +kernel
  have fl31 : Cond.fieldLink RX6 31 "LieForceModel" "now" "[I" ∈ wsX6_withdraw := by decide +kernel
  have fl7 : Cond.fieldLink RX6 7 "LieForceModel" "st" "[I" ∈ wsX6_withdraw := by decide +kernel
  obtain ⟨hC, hVY, hZ, hYm⟩ := id hD
  obtain ⟨⟨h9, h64, h512, hT, hI⟩, hK⟩ := id hC
  have hV := DI_VB hD (by omega)
  have hDt := DI_to hD hs
  have hl := lieM_lt (C := toC C s) h9 (cF (toC C s))
  refine g_aload_n hX dX6_withdraw_0 0 rfl ?_
  refine g_iload_n hX dX6_withdraw_1 1 rfl ?_
  have hc2 : CUT (mw E a M) (mw E a M) (([] : va_W)) [0, 1, 2, 3, 4, 5, 6, 7, 8, 9, 10, 11, 12] [] := ⟨rfl, rfl, rfl, rfl, rfl⟩
  refine g_VI hX hc2 [.int (nI s)] [] (c_X6_isSaying_y l E a M C s (by first | assumption | omega) hS.1 (by omega)) gX6_withdraw_X6_isSaying calX6_isSaying rfl rfl rfl rfl 0 rfl rfl rfl rfl dX6_withdraw_2 rfl ⟨Nat.zero_le _, Nat.zero_le _⟩ (fun _ => mw E a M) [0, 1, 2, 3, 4, 5, 6, 7, 8, 9, 10, 11, 12] rfl (fun _ => rfl) (fun _ hu2 => ?_)
  refine g_if_ne hX 10 dX6_withdraw_5 (by decide) (fun c5 => ?_) (fun c5 => ?_)
  · replace c5 := mt bI_0.mpr c5
    replace c5 := bNf c5
    refine g_aload_n hX dX6_withdraw_10 0 rfl ?_
    have hc11 : CUT (mw E a M) (mw E a M) (([] : va_W)) [0, 1, 2, 3, 4, 5, 6, 7, 8, 9, 10, 11, 12] [] := ⟨rfl, rfl, rfl, rfl, rfl⟩
    refine g_VV hX hc11 [] [] (c_X6_asItIs l E a M) gX6_withdraw_X6_asItIs calX6_asItIs rfl rfl rfl rfl 0 rfl rfl rfl rfl dX6_withdraw_11 rfl ⟨Nat.zero_le _, Nat.zero_le _⟩ (fun _ => mw E a (mkMV (mT M) (mS M) (mA M) (mW M) (mK M) (mP M) (mE M) (mN M) (mX M) (mL M) (mI M) (mD M) (mR M) (mM M) (cpR ((mO M)) ((mS M)) 0 0) (mF M) (mU M) (mQ M) (mZ M) (mG M) (mH M))) [0, 1, 2, 3, 4, 5, 6, 7, 8, 9, 10, 11, 12] rfl (fun _ => rfl) (fun _ hu11 => ?_)
    refine g_aload_n hX dX6_withdraw_14 0 rfl ?_
    refine g_iload_n hX dX6_withdraw_15 1 rfl ?_
    have hc16 : CUT (mw E a (mkMV (mT M) (mS M) (mA M) (mW M) (mK M) (mP M) (mE M) (mN M) (mX M) (mL M) (mI M) (mD M) (mR M) (mM M) (cpR ((mO M)) ((mS M)) 0 0) (mF M) (mU M) (mQ M) (mZ M) (mG M) (mH M))) (mw E a (mkMV (mT M) (mS M) (mA M) (mW M) (mK M) (mP M) (mE M) (mN M) (mX M) (mL M) (mI M) (mD M) (mR M) (mM M) (cpR ((mO M)) ((mS M)) 0 0) (mF M) (mU M) (mQ M) (mZ M) (mG M) (mH M))) (([] : va_W)) [0, 1, 2, 3, 4, 5, 6, 7, 8, 9, 10, 11, 12] [] := ⟨rfl, rfl, rfl, rfl, rfl⟩
    refine g_VI hX hc16 [.int (nI s)] [] (c_X6_canBeWithdrawn l E a (mkMV (mT M) (mS M) (mA M) (mW M) (mK M) (mP M) (mE M) (mN M) (mX M) (mL M) (mI M) (mD M) (mR M) (mM M) (cpR ((mO M)) ((mS M)) 0 0) (mF M) (mU M) (mQ M) (mZ M) (mG M) (mH M)) C s (by first | assumption | omega) (RW_cp h9 hS) (by first | assumption | omega) (by first | assumption | omega) hs) gX6_withdraw_X6_canBeWithdrawn calX6_canBeWithdrawn rfl rfl rfl rfl 0 rfl rfl rfl rfl dX6_withdraw_16 rfl ⟨Nat.zero_le _, Nat.zero_le _⟩ (fun _ => mw E a (mkMV (mT M) (mS M) (mA M) (mW M) (mK M) (mP M) (mE M) (mN M) (mX M) (mL M) (mI M) (mD M) (mR M) (mM M) (cpR ((mO M)) ((mS M)) 0 0) (mF M) (mU M) (mQ M) (mZ M) (mG M) (mH M))) [0, 1, 2, 3, 4, 5, 6, 7, 8, 9, 10, 11, 12] rfl (fun _ => rfl) (fun _ hu16 => ?_)
    refine g_if_ne hX 25 dX6_withdraw_19 (by decide) (fun c19 => ?_) (fun c19 => ?_)
    · replace c19 := mt bI_0.mpr c19
      replace c19 := bNf c19
      refine g_aload_n hX dX6_withdraw_25 0 rfl ?_
      have hc26 : CUT (mw E a (mkMV (mT M) (mS M) (mA M) (mW M) (mK M) (mP M) (mE M) (mN M) (mX M) (mL M) (mI M) (mD M) (mR M) (mM M) (cpR ((mO M)) ((mS M)) 0 0) (mF M) (mU M) (mQ M) (mZ M) (mG M) (mH M))) (mw E a (mkMV (mT M) (mS M) (mA M) (mW M) (mK M) (mP M) (mE M) (mN M) (mX M) (mL M) (mI M) (mD M) (mR M) (mM M) (cpR ((mO M)) ((mS M)) 0 0) (mF M) (mU M) (mQ M) (mZ M) (mG M) (mH M))) (([] : va_W)) [0, 1, 2, 3, 4, 5, 6, 7, 8, 9, 10, 11, 12] [] := ⟨rfl, rfl, rfl, rfl, rfl⟩
      refine g_VV hX hc26 [] [] (c_X6_remembers l E a (mkMV (mT M) (mS M) (mA M) (mW M) (mK M) (mP M) (mE M) (mN M) (mX M) (mL M) (mI M) (mD M) (mR M) (mM M) (cpR ((mO M)) ((mS M)) 0 0) (mF M) (mU M) (mQ M) (mZ M) (mG M) (mH M)) (by first | assumption | omega)) gX6_withdraw_X6_remembers calX6_remembers rfl rfl rfl rfl 0 rfl rfl rfl rfl dX6_withdraw_26 rfl ⟨Nat.zero_le _, Nat.zero_le _⟩ (fun _ => mw E a (mkMV (mT M) (mS M) (if (mA M) = 8 then 8 else (mA M) + 1) (wasR ((mA M)) ((mW M)) ((mS M))) (mK M) (mP M) (mE M) (mN M) (mX M) (mL M) (mI M) (mD M) (mR M) (mM M) (cpR ((mO M)) ((mS M)) 0 0) (mF M) (mU M) (mQ M) (mZ M) (mG M) (mH M))) [0, 1, 2, 3, 4, 5, 6, 7, 8, 9, 10, 11, 12] rfl (fun _ => rfl) (fun _ hu26 => ?_)
      refine g_aload_n hX dX6_withdraw_29 0 rfl ?_
      refine g_iload_n hX dX6_withdraw_30 1 rfl ?_
      have hc31 : CUT (mw E a (mkMV (mT M) (mS M) (if (mA M) = 8 then 8 else (mA M) + 1) (wasR ((mA M)) ((mW M)) ((mS M))) (mK M) (mP M) (mE M) (mN M) (mX M) (mL M) (mI M) (mD M) (mR M) (mM M) (cpR ((mO M)) ((mS M)) 0 0) (mF M) (mU M) (mQ M) (mZ M) (mG M) (mH M))) (mw E a (mkMV (mT M) (mS M) (if (mA M) = 8 then 8 else (mA M) + 1) (wasR ((mA M)) ((mW M)) ((mS M))) (mK M) (mP M) (mE M) (mN M) (mX M) (mL M) (mI M) (mD M) (mR M) (mM M) (cpR ((mO M)) ((mS M)) 0 0) (mF M) (mU M) (mQ M) (mZ M) (mG M) (mH M))) (([] : va_W)) [0, 1, 2, 3, 4, 5, 6, 7, 8, 9, 10, 11, 12] [] := ⟨rfl, rfl, rfl, rfl, rfl⟩
      refine g_VV hX hc31 [.int (nI s)] [] (c_X6_withdraws l E a (mkMV (mT M) (mS M) (if (mA M) = 8 then 8 else (mA M) + 1) (wasR ((mA M)) ((mW M)) ((mS M))) (mK M) (mP M) (mE M) (mN M) (mX M) (mL M) (mI M) (mD M) (mR M) (mM M) (cpR ((mO M)) ((mS M)) 0 0) (mF M) (mU M) (mQ M) (mZ M) (mG M) (mH M)) C s (by first | assumption | omega) (RW_cp h9 hS) hs) gX6_withdraw_X6_withdraws calX6_withdraws rfl rfl rfl rfl 0 rfl rfl rfl rfl dX6_withdraw_31 rfl ⟨Nat.zero_le _, Nat.zero_le _⟩ (fun u31 => mw E a (mkMV (mT M) (mS M) (if (mA M) = 8 then 8 else (mA M) + 1) (wasR ((mA M)) ((mW M)) ((mS M))) (mK M) (mP M) (mE M) (mN M) (mX M) (mL M) (mI M) (mD M) (mR M) (mM M) u31 (mF M) (mU M) (mQ M) (mZ M) (mG M) (mH M))) [0, 1, 2, 3, 4, 5, 6, 7, 8, 9, 10, 11, 12] rfl (fun _ => rfl) (fun u31 hu31 => ?_)
      refine g_aload_n hX dX6_withdraw_34 0 rfl ?_
      refine g_get hX (v := .ref (a 1)) 0 inRX6 (atModel_0 _ _ _ _ _ _ _ _ _ _ _ _ _ _ _ _ _ _ _ _ _ _ _) rfl 1 rfl fl7 rfl rfl dX6_withdraw_35 ?_
      refine g_iconst hX (nI 0) dX6_withdraw_38 rfl ?_
      refine g_aload_n hX dX6_withdraw_39 0 rfl ?_
      refine g_get hX (v := .ref (a 8)) 0 inRX6 (atModel_0 _ _ _ _ _ _ _ _ _ _ _ _ _ _ _ _ _ _ _ _ _ _ _) rfl 14 rfl fl31 rfl rfl dX6_withdraw_40 ?_
      refine g_iconst hX (nI 0) dX6_withdraw_43 rfl ?_
      have hc44 : CUT (mw E a (mkMV (mT M) (mS M) (if (mA M) = 8 then 8 else (mA M) + 1) (wasR ((mA M)) ((mW M)) ((mS M))) (mK M) (mP M) (mE M) (mN M) (mX M) (mL M) (mI M) (mD M) (mR M) (mM M) u31 (mF M) (mU M) (mQ M) (mZ M) (mG M) (mH M))) ((aw E (a 1) 49 (mS M)) ++ (aw E (a 8) 49 u31)) ((List.eraseIdx (List.eraseIdx (mw E a (mkMV (mT M) (mS M) (if (mA M) = 8 then 8 else (mA M) + 1) (wasR ((mA M)) ((mW M)) ((mS M))) (mK M) (mP M) (mE M) (mN M) (mX M) (mL M) (mI M) (mD M) (mR M) (mM M) u31 (mF M) (mU M) (mQ M) (mZ M) (mG M) (mH M))) 8) 1)) [1, 8] [0, 2, 3, 4, 5, 6, 7, 9, 10, 11, 12] := ⟨rfl, rfl, rfl, rfl, rfl⟩
      refine g_TV hX hc44 [.ref (a 1), .int (nI 0), .ref (a 8), .int (nI 0)] [] (c_X6_copies l E (a 1) 49 (mS M) 0 (a 8) 49 u31 0 (by omega) (by omega) (by omega) (by omega)) gX6_withdraw_X6_copies calX6_copies rfl rfl rfl rfl dX6_withdraw_44 rfl ⟨Nat.zero_le _, Nat.zero_le _⟩ (fun _ => mw E a (mkMV (mT M) (cpR (mS M) u31 0 0) (if (mA M) = 8 then 8 else (mA M) + 1) (wasR ((mA M)) ((mW M)) ((mS M))) (mK M) (mP M) (mE M) (mN M) (mX M) (mL M) (mI M) (mD M) (mR M) (mM M) u31 (mF M) (mU M) (mQ M) (mZ M) (mG M) (mH M))) [0, 11, 1, 2, 3, 4, 5, 6, 12, 7, 8, 9, 10] rfl (fun _ => rfl) (fun _ hu44 => ?_)
      refine g_aload_n hX dX6_withdraw_47 0 rfl ?_
      have hc48 : CUT (mw E a (mkMV (mT M) (cpR (mS M) u31 0 0) (if (mA M) = 8 then 8 else (mA M) + 1) (wasR ((mA M)) ((mW M)) ((mS M))) (mK M) (mP M) (mE M) (mN M) (mX M) (mL M) (mI M) (mD M) (mR M) (mM M) u31 (mF M) (mU M) (mQ M) (mZ M) (mG M) (mH M))) (mw E a (mkMV (mT M) (cpR (mS M) u31 0 0) (if (mA M) = 8 then 8 else (mA M) + 1) (wasR ((mA M)) ((mW M)) ((mS M))) (mK M) (mP M) (mE M) (mN M) (mX M) (mL M) (mI M) (mD M) (mR M) (mM M) u31 (mF M) (mU M) (mQ M) (mZ M) (mG M) (mH M))) (([] : va_W)) [0, 1, 2, 3, 4, 5, 6, 7, 8, 9, 10, 11, 12] [] := ⟨rfl, rfl, rfl, rfl, rfl⟩
      refine g_VI hX hc48 [] [] (c_X6_police l E a (mkMV (mT M) (cpR (mS M) u31 0 0) (if (mA M) = 8 then 8 else (mA M) + 1) (wasR ((mA M)) ((mW M)) ((mS M))) (mK M) (mP M) (mE M) (mN M) (mX M) (mL M) (mI M) (mD M) (mR M) (mM M) u31 (mF M) (mU M) (mQ M) (mZ M) (mG M) (mH M)) (toC C s) hDt.1 hu31 (DI_VB hDt (by omega))) gX6_withdraw_X6_police calX6_police rfl rfl rfl rfl 0 rfl rfl rfl rfl dX6_withdraw_48 rfl ⟨Nat.zero_le _, Nat.zero_le _⟩ (fun _ => mw E a (mkMV (mT M) (cpR (mS M) u31 0 0) (if (mA M) = 8 then 8 else (mA M) + 1) (wasR ((mA M)) ((mW M)) ((mS M))) (mK M) (mP M) (mE M) (mN M) (mX M) (mL M) (mI M) (mD M) (mR M) (mM M) u31 (mF M) (mU M) (mQ M) (mZ M) (mG M) (mH M))) [0, 1, 2, 3, 4, 5, 6, 7, 8, 9, 10, 11, 12] rfl (fun _ => rfl) (fun _ hu48 => ?_)
      have hc51 : CUT (mw E a (mkMV (mT M) (cpR (mS M) u31 0 0) (if (mA M) = 8 then 8 else (mA M) + 1) (wasR ((mA M)) ((mW M)) ((mS M))) (mK M) (mP M) (mE M) (mN M) (mX M) (mL M) (mI M) (mD M) (mR M) (mM M) u31 (mF M) (mU M) (mQ M) (mZ M) (mG M) (mH M))) (([] : va_W)) (mw E a (mkMV (mT M) (cpR (mS M) u31 0 0) (if (mA M) = 8 then 8 else (mA M) + 1) (wasR ((mA M)) ((mW M)) ((mS M))) (mK M) (mP M) (mE M) (mN M) (mX M) (mL M) (mI M) (mD M) (mR M) (mM M) u31 (mF M) (mU M) (mQ M) (mZ M) (mG M) (mH M))) [] [0, 1, 2, 3, 4, 5, 6, 7, 8, 9, 10, 11, 12] := ⟨rfl, rfl, rfl, rfl, rfl⟩
      refine g_TI hX hc51 [.int (nI (lieM (toC C s) (cF (toC C s))))] [] (c_X6_bits l E (lieM (toC C s) (cF (toC C s))) (by first | assumption | omega)) gX6_withdraw_X6_bits calX6_bits rfl rfl rfl rfl dX6_withdraw_51 rfl ⟨Nat.zero_le _, Nat.zero_le _⟩ (fun _ => mw E a (mkMV (mT M) (cpR (mS M) u31 0 0) (if (mA M) = 8 then 8 else (mA M) + 1) (wasR ((mA M)) ((mW M)) ((mS M))) (mK M) (mP M) (mE M) (mN M) (mX M) (mL M) (mI M) (mD M) (mR M) (mM M) u31 (mF M) (mU M) (mQ M) (mZ M) (mG M) (mH M))) [0, 1, 2, 3, 4, 5, 6, 7, 8, 9, 10, 11, 12] rfl (fun _ => rfl) (fun _ hu51 => ?_)
      exact g_eq rfl rfl rfl (hret (mkMV (mT M) (cpR (mS M) u31 0 0) (if (mA M) = 8 then 8 else (mA M) + 1) (wasR ((mA M)) ((mW M)) ((mS M))) (mK M) (mP M) (mE M) (mN M) (mX M) (mL M) (mI M) (mD M) (mR M) (mM M) u31 (mF M) (mU M) (mQ M) (mZ M) (mG M) (mH M)) _ _ (⟨⟨rfl, rfl, rfl, rfl, rfl, rfl, rfl⟩, RW_cp h9 hu31, rfl, rfl⟩) dX6_withdraw_54)
    · replace c19 := bI_0.mp c19
      rw [hc] at c19; cases c19
  · replace c5 := bI_0.mp c5
    exact absurd c5 (by simp)
set_option maxHeartbeats 4000000 in
set_option maxRecDepth 100000 in
theorem c_X6_turn_n (l : Launch) (E : EV) (a : Nat → Nat) (M : MV) (C : FC) (m : Nat) (x0 : Int32) (hD : DI C m) (hm : m < 2 ^ 29) (hN1 : 1 ≤ cN C) (hS : RW C (mS M)) (hTm : cT C = mT M) (hx : win x0 (nI 0) (nI 5) = false) : KI l yX6_turn wsX6_turn (rmN 5) E (σ := MV) [.ref (a 0), .int x0] (mw E a M) (fun u => KS M u) (fun u => (-1)) (fun u => mw E a u) 0 0 := by
  refine KI.of (cc := cX6_turn) (maxL := 2) (ty := .int) (hnar := fun _ _ => rfl) rfl rfl rfl (fun x hX hin hret hnL => ?_)
  replace hX : CX x l cX6_turn RX6 wsX6_turn E (rmN 5) := hX
  show GG x 0 0 (mw E a M) 0 [(0, .ref (a 0)), (1, .int x0)] []
  obtain ⟨hC, hVY, hZ, hYm⟩ := id hD
  obtain ⟨⟨h9, h64, h512, hT, hI⟩, hK⟩ := id hC
  have hV := DI_VB hD (by omega)
  refine g_iload_n hX dX6_turn_0 1 rfl ?_
  have hc1 : CUT (mw E a M) (([] : va_W)) (mw E a M) [] [0, 1, 2, 3, 4, 5, 6, 7, 8, 9, 10, 11, 12] := ⟨rfl, rfl, rfl, rfl, rfl⟩
  refine g_TI hX hc1 [.int x0] [] (c_X6_isFact_no l E x0 (by first | assumption | omega)) gX6_turn_X6_isFact calX6_isFact rfl rfl rfl rfl dX6_turn_1 rfl ⟨Nat.zero_le _, Nat.zero_le _⟩ (fun _ => mw E a M) [0, 1, 2, 3, 4, 5, 6, 7, 8, 9, 10, 11, 12] rfl (fun _ => rfl) (fun _ hu1 => ?_)
  refine g_if_ne hX 9 dX6_turn_4 (by decide) (fun c4 => ?_) (fun c4 => ?_)
  · replace c4 := mt bI_0.mpr c4
    replace c4 := bNf c4
    exact absurd c4 (by simp)
  · replace c4 := bI_0.mp c4
    refine g_iconst hX ((-1)) dX6_turn_7 rfl ?_
    exact g_eq rfl rfl rfl (hret M _ _ (⟨⟨rfl, rfl, rfl, rfl, rfl, rfl, rfl⟩, ⟨rfl, rfl⟩, rfl⟩) dX6_turn_8)
set_option maxHeartbeats 4000000 in
set_option maxRecDepth 100000 in
theorem c_X6_turn_y (l : Launch) (E : EV) (a : Nat → Nat) (M : MV) (C : FC) (m : Nat) (f : Nat) (hD : DI C m) (hm : m < 2 ^ 29) (hN1 : 1 ≤ cN C) (hS : RW C (mS M)) (hTm : cT C = mT M) (hA : mA M ≤ 8) (hf : f < 6) : KI l yX6_turn wsX6_turn (rmN 5) E (σ := MV) [.ref (a 0), .int (nI f)] (mw E a M) (fun u => KP M u ∧ RW (tuC C f) (mS u) ∧ mA u = (if mA M = 8 then 8 else mA M + 1) ∧ mW u = wasR (mA M) (mW M) (mS M)) (fun u => (nI (pop (lieM (tuC C f) (cF (tuC C f)))))) (fun u => mw E a u) 0 0 := by
  refine KI.of (cc := cX6_turn) (maxL := 2) (ty := .int) (hnar := fun _ _ => rfl) rfl rfl rfl (fun x hX hin hret hnL => ?_)
  replace hX : CX x l cX6_turn RX6 wsX6_turn E (rmN 5) := hX
  show GG x 0 0 (mw E a M) 0 [(0, .ref (a 0)), (1, .int (nI f))] []
  have inRX6 : ∀ w ∈ wsX60, w ∈ wsX6_turn := by decide +kernel
  have fl31 : Cond.fieldLink RX6 31 "LieForceModel" "now" "[I" ∈ wsX6_turn := by decide +kernel
  have fl7 : Cond.fieldLink RX6 7 "LieForceModel" "st" "[I" ∈ wsX6_turn := by decide +kernel
  obtain ⟨hC, hVY, hZ, hYm⟩ := id hD
  obtain ⟨⟨h9, h64, h512, hT, hI⟩, hK⟩ := id hC
  have hV := DI_VB hD (by omega)
  have hDt := DI_tu hD hf
  have hl := lieM_lt (C := tuC C f) h9 (cF (tuC C f))
  refine g_iload_n hX dX6_turn_0 1 rfl ?_
  have hc1 : CUT (mw E a M) (([] : va_W)) (mw E a M) [] [0, 1, 2, 3, 4, 5, 6, 7, 8, 9, 10, 11, 12] := ⟨rfl, rfl, rfl, rfl, rfl⟩
  refine g_TI hX hc1 [.int (nI f)] [] (c_X6_isFact_y l E f (by omega)) gX6_turn_X6_isFact calX6_isFact rfl rfl rfl rfl dX6_turn_1 rfl ⟨Nat.zero_le _, Nat.zero_le _⟩ (fun _ => mw E a M) [0, 1, 2, 3, 4, 5, 6, 7, 8, 9, 10, 11, 12] rfl (fun _ => rfl) (fun _ hu1 => ?_)
  refine g_if_ne hX 9 dX6_turn_4 (by decide) (fun c4 => ?_) (fun c4 => ?_)
  · replace c4 := mt bI_0.mpr c4
    replace c4 := bNf c4
    refine g_aload_n hX dX6_turn_9 0 rfl ?_
    have hc10 : CUT (mw E a M) (mw E a M) (([] : va_W)) [0, 1, 2, 3, 4, 5, 6, 7, 8, 9, 10, 11, 12] [] := ⟨rfl, rfl, rfl, rfl, rfl⟩
    refine g_VV hX hc10 [] [] (c_X6_remembers l E a M (by first | assumption | omega)) gX6_turn_X6_remembers calX6_remembers rfl rfl rfl rfl 0 rfl rfl rfl rfl dX6_turn_10 rfl ⟨Nat.zero_le _, Nat.zero_le _⟩ (fun _ => mw E a (mkMV (mT M) (mS M) (if (mA M) = 8 then 8 else (mA M) + 1) (wasR ((mA M)) ((mW M)) ((mS M))) (mK M) (mP M) (mE M) (mN M) (mX M) (mL M) (mI M) (mD M) (mR M) (mM M) (mO M) (mF M) (mU M) (mQ M) (mZ M) (mG M) (mH M))) [0, 1, 2, 3, 4, 5, 6, 7, 8, 9, 10, 11, 12] rfl (fun _ => rfl) (fun _ hu10 => ?_)
    refine g_aload_n hX dX6_turn_13 0 rfl ?_
    have hc14 : CUT (mw E a (mkMV (mT M) (mS M) (if (mA M) = 8 then 8 else (mA M) + 1) (wasR ((mA M)) ((mW M)) ((mS M))) (mK M) (mP M) (mE M) (mN M) (mX M) (mL M) (mI M) (mD M) (mR M) (mM M) (mO M) (mF M) (mU M) (mQ M) (mZ M) (mG M) (mH M))) (mw E a (mkMV (mT M) (mS M) (if (mA M) = 8 then 8 else (mA M) + 1) (wasR ((mA M)) ((mW M)) ((mS M))) (mK M) (mP M) (mE M) (mN M) (mX M) (mL M) (mI M) (mD M) (mR M) (mM M) (mO M) (mF M) (mU M) (mQ M) (mZ M) (mG M) (mH M))) (([] : va_W)) [0, 1, 2, 3, 4, 5, 6, 7, 8, 9, 10, 11, 12] [] := ⟨rfl, rfl, rfl, rfl, rfl⟩
    refine g_VV hX hc14 [] [] (c_X6_asItIs l E a (mkMV (mT M) (mS M) (if (mA M) = 8 then 8 else (mA M) + 1) (wasR ((mA M)) ((mW M)) ((mS M))) (mK M) (mP M) (mE M) (mN M) (mX M) (mL M) (mI M) (mD M) (mR M) (mM M) (mO M) (mF M) (mU M) (mQ M) (mZ M) (mG M) (mH M))) gX6_turn_X6_asItIs calX6_asItIs rfl rfl rfl rfl 0 rfl rfl rfl rfl dX6_turn_14 rfl ⟨Nat.zero_le _, Nat.zero_le _⟩ (fun _ => mw E a (mkMV (mT M) (mS M) (if (mA M) = 8 then 8 else (mA M) + 1) (wasR ((mA M)) ((mW M)) ((mS M))) (mK M) (mP M) (mE M) (mN M) (mX M) (mL M) (mI M) (mD M) (mR M) (mM M) (cpR ((mO M)) ((mS M)) 0 0) (mF M) (mU M) (mQ M) (mZ M) (mG M) (mH M))) [0, 1, 2, 3, 4, 5, 6, 7, 8, 9, 10, 11, 12] rfl (fun _ => rfl) (fun _ hu14 => ?_)
    refine g_aload_n hX dX6_turn_17 0 rfl ?_
    refine g_get hX (v := .ref (a 8)) 0 inRX6 (atModel_0 _ _ _ _ _ _ _ _ _ _ _ _ _ _ _ _ _ _ _ _ _ _ _) rfl 14 rfl fl31 rfl rfl dX6_turn_18 ?_
    refine g_iconst hX (nI 0) dX6_turn_21 rfl ?_
    refine g_dup2 hX dX6_turn_22 rfl rfl ?_
    refine g_iald hX (nI (cF C)) 8 0 (atModel_8 _ _ _ _ _ _ _ _ _ _ _ _ _ _ _ _ _ _ _ _ _ _ _) rfl (vp_in_nI (by omega) (by omega)) ((ald_n (by omega)).trans (cpF_r hS.1)) dX6_turn_23 ?_
    refine g_iconst hX (nI 1) dX6_turn_24 rfl ?_
    refine g_iload_n hX dX6_turn_25 1 rfl ?_
    refine g_ishl hX (nI (1 <<< f)) dX6_turn_26 (sh_l _ (by omega)) ?_
    refine g_ixor hX (nI ((cF C) ^^^ (1 <<< f))) dX6_turn_27 (fb_xorI _ _) ?_
    refine g_iast hX (va_up (cpR ((mO M)) ((mS M)) 0 0) 0 (nI ((cF C) ^^^ (1 <<< f)))) (mw E a (mkMV (mT M) (mS M) (if (mA M) = 8 then 8 else (mA M) + 1) (wasR ((mA M)) ((mW M)) ((mS M))) (mK M) (mP M) (mE M) (mN M) (mX M) (mL M) (mI M) (mD M) (mR M) (mM M) (va_up (cpR ((mO M)) ((mS M)) 0 0) 0 (nI ((cF C) ^^^ (1 <<< f)))) (mF M) (mU M) (mQ M) (mZ M) (mG M) (mH M))) 8 0 (atModel_8 _ _ _ _ _ _ _ _ _ _ _ _ _ _ _ _ _ _ _ _ _ _ _) rfl (vp_in_nI (by omega) (by omega)) (ast_r (by omega)) dX6_turn_28 (stModel_8 _ _ _ _ _ _ _ _ _ _ _ _ _ _ _ _ _ _ _ _ _ _ _ _) ?_
    refine g_aload_n hX dX6_turn_29 0 rfl ?_
    have hc30 : CUT (mw E a (mkMV (mT M) (mS M) (if (mA M) = 8 then 8 else (mA M) + 1) (wasR ((mA M)) ((mW M)) ((mS M))) (mK M) (mP M) (mE M) (mN M) (mX M) (mL M) (mI M) (mD M) (mR M) (mM M) (va_up (cpR ((mO M)) ((mS M)) 0 0) 0 (nI ((cF C) ^^^ (1 <<< f)))) (mF M) (mU M) (mQ M) (mZ M) (mG M) (mH M))) (mw E a (mkMV (mT M) (mS M) (if (mA M) = 8 then 8 else (mA M) + 1) (wasR ((mA M)) ((mW M)) ((mS M))) (mK M) (mP M) (mE M) (mN M) (mX M) (mL M) (mI M) (mD M) (mR M) (mM M) (va_up (cpR ((mO M)) ((mS M)) 0 0) 0 (nI ((cF C) ^^^ (1 <<< f)))) (mF M) (mU M) (mQ M) (mZ M) (mG M) (mH M))) (([] : va_W)) [0, 1, 2, 3, 4, 5, 6, 7, 8, 9, 10, 11, 12] [] := ⟨rfl, rfl, rfl, rfl, rfl⟩
    refine g_VV hX hc30 [] [] (c_X6_appoints l E a (mkMV (mT M) (mS M) (if (mA M) = 8 then 8 else (mA M) + 1) (wasR ((mA M)) ((mW M)) ((mS M))) (mK M) (mP M) (mE M) (mN M) (mX M) (mL M) (mI M) (mD M) (mR M) (mM M) (va_up (cpR ((mO M)) ((mS M)) 0 0) 0 (nI ((cF C) ^^^ (1 <<< f)))) (mF M) (mU M) (mQ M) (mZ M) (mG M) (mH M)) (sF C (cF C ^^^ 1 <<< f)) (⟨FO_sF hC.1 (xor_bit_lt (m := 6) h64 hf), hC.2⟩) (RB_tu (RB_cp h9 hS.1))) gX6_turn_X6_appoints calX6_appoints rfl rfl rfl rfl 0 rfl rfl rfl rfl dX6_turn_30 rfl ⟨Nat.zero_le _, Nat.zero_le _⟩ (fun u30 => mw E a (mkMV (mT M) (mS M) (if (mA M) = 8 then 8 else (mA M) + 1) (wasR ((mA M)) ((mW M)) ((mS M))) (mK M) (mP M) (mE M) (mN M) (mX M) (mL M) (mI M) (mD M) (mR M) (mM M) u30 (mF M) (mU M) (mQ M) (mZ M) (mG M) (mH M))) [0, 1, 2, 3, 4, 5, 6, 7, 8, 9, 10, 11, 12] rfl (fun _ => rfl) (fun u30 hu30 => ?_)
    have hW30 : RW (tuC C f) u30 := RW_tu hV hZ (RW_cp (f := mO M) h9 hS).2 hu30
    refine g_aload_n hX dX6_turn_33 0 rfl ?_
    refine g_get hX (v := .ref (a 1)) 0 inRX6 (atModel_0 _ _ _ _ _ _ _ _ _ _ _ _ _ _ _ _ _ _ _ _ _ _ _) rfl 1 rfl fl7 rfl rfl dX6_turn_34 ?_
    refine g_iconst hX (nI 0) dX6_turn_37 rfl ?_
    refine g_aload_n hX dX6_turn_38 0 rfl ?_
    refine g_get hX (v := .ref (a 8)) 0 inRX6 (atModel_0 _ _ _ _ _ _ _ _ _ _ _ _ _ _ _ _ _ _ _ _ _ _ _) rfl 14 rfl fl31 rfl rfl dX6_turn_39 ?_
    refine g_iconst hX (nI 0) dX6_turn_42 rfl ?_
    have hc43 : CUT (mw E a (mkMV (mT M) (mS M) (if (mA M) = 8 then 8 else (mA M) + 1) (wasR ((mA M)) ((mW M)) ((mS M))) (mK M) (mP M) (mE M) (mN M) (mX M) (mL M) (mI M) (mD M) (mR M) (mM M) u30 (mF M) (mU M) (mQ M) (mZ M) (mG M) (mH M))) ((aw E (a 1) 49 (mS M)) ++ (aw E (a 8) 49 u30)) ((List.eraseIdx (List.eraseIdx (mw E a (mkMV (mT M) (mS M) (if (mA M) = 8 then 8 else (mA M) + 1) (wasR ((mA M)) ((mW M)) ((mS M))) (mK M) (mP M) (mE M) (mN M) (mX M) (mL M) (mI M) (mD M) (mR M) (mM M) u30 (mF M) (mU M) (mQ M) (mZ M) (mG M) (mH M))) 8) 1)) [1, 8] [0, 2, 3, 4, 5, 6, 7, 9, 10, 11, 12] := ⟨rfl, rfl, rfl, rfl, rfl⟩
    refine g_TV hX hc43 [.ref (a 1), .int (nI 0), .ref (a 8), .int (nI 0)] [] (c_X6_copies l E (a 1) 49 (mS M) 0 (a 8) 49 u30 0 (by omega) (by omega) (by omega) (by omega)) gX6_turn_X6_copies calX6_copies rfl rfl rfl rfl dX6_turn_43 rfl ⟨Nat.zero_le _, Nat.zero_le _⟩ (fun _ => mw E a (mkMV (mT M) (cpR (mS M) u30 0 0) (if (mA M) = 8 then 8 else (mA M) + 1) (wasR ((mA M)) ((mW M)) ((mS M))) (mK M) (mP M) (mE M) (mN M) (mX M) (mL M) (mI M) (mD M) (mR M) (mM M) u30 (mF M) (mU M) (mQ M) (mZ M) (mG M) (mH M))) [0, 11, 1, 2, 3, 4, 5, 6, 12, 7, 8, 9, 10] rfl (fun _ => rfl) (fun _ hu43 => ?_)
    refine g_aload_n hX dX6_turn_46 0 rfl ?_
    have hc47 : CUT (mw E a (mkMV (mT M) (cpR (mS M) u30 0 0) (if (mA M) = 8 then 8 else (mA M) + 1) (wasR ((mA M)) ((mW M)) ((mS M))) (mK M) (mP M) (mE M) (mN M) (mX M) (mL M) (mI M) (mD M) (mR M) (mM M) u30 (mF M) (mU M) (mQ M) (mZ M) (mG M) (mH M))) (mw E a (mkMV (mT M) (cpR (mS M) u30 0 0) (if (mA M) = 8 then 8 else (mA M) + 1) (wasR ((mA M)) ((mW M)) ((mS M))) (mK M) (mP M) (mE M) (mN M) (mX M) (mL M) (mI M) (mD M) (mR M) (mM M) u30 (mF M) (mU M) (mQ M) (mZ M) (mG M) (mH M))) (([] : va_W)) [0, 1, 2, 3, 4, 5, 6, 7, 8, 9, 10, 11, 12] [] := ⟨rfl, rfl, rfl, rfl, rfl⟩
    refine g_VI hX hc47 [] [] (c_X6_police l E a (mkMV (mT M) (cpR (mS M) u30 0 0) (if (mA M) = 8 then 8 else (mA M) + 1) (wasR ((mA M)) ((mW M)) ((mS M))) (mK M) (mP M) (mE M) (mN M) (mX M) (mL M) (mI M) (mD M) (mR M) (mM M) u30 (mF M) (mU M) (mQ M) (mZ M) (mG M) (mH M)) (tuC C f) hDt.1 hW30 (DI_VB hDt (by omega))) gX6_turn_X6_police calX6_police rfl rfl rfl rfl 0 rfl rfl rfl rfl dX6_turn_47 rfl ⟨Nat.zero_le _, Nat.zero_le _⟩ (fun _ => mw E a (mkMV (mT M) (cpR (mS M) u30 0 0) (if (mA M) = 8 then 8 else (mA M) + 1) (wasR ((mA M)) ((mW M)) ((mS M))) (mK M) (mP M) (mE M) (mN M) (mX M) (mL M) (mI M) (mD M) (mR M) (mM M) u30 (mF M) (mU M) (mQ M) (mZ M) (mG M) (mH M))) [0, 1, 2, 3, 4, 5, 6, 7, 8, 9, 10, 11, 12] rfl (fun _ => rfl) (fun _ hu47 => ?_)
    have hc50 : CUT (mw E a (mkMV (mT M) (cpR (mS M) u30 0 0) (if (mA M) = 8 then 8 else (mA M) + 1) (wasR ((mA M)) ((mW M)) ((mS M))) (mK M) (mP M) (mE M) (mN M) (mX M) (mL M) (mI M) (mD M) (mR M) (mM M) u30 (mF M) (mU M) (mQ M) (mZ M) (mG M) (mH M))) (([] : va_W)) (mw E a (mkMV (mT M) (cpR (mS M) u30 0 0) (if (mA M) = 8 then 8 else (mA M) + 1) (wasR ((mA M)) ((mW M)) ((mS M))) (mK M) (mP M) (mE M) (mN M) (mX M) (mL M) (mI M) (mD M) (mR M) (mM M) u30 (mF M) (mU M) (mQ M) (mZ M) (mG M) (mH M))) [] [0, 1, 2, 3, 4, 5, 6, 7, 8, 9, 10, 11, 12] := ⟨rfl, rfl, rfl, rfl, rfl⟩
    refine g_TI hX hc50 [.int (nI (lieM (tuC C f) (cF (tuC C f))))] [] (c_X6_bits l E (lieM (tuC C f) (cF (tuC C f))) (by first | assumption | omega)) gX6_turn_X6_bits calX6_bits rfl rfl rfl rfl dX6_turn_50 rfl ⟨Nat.zero_le _, Nat.zero_le _⟩ (fun _ => mw E a (mkMV (mT M) (cpR (mS M) u30 0 0) (if (mA M) = 8 then 8 else (mA M) + 1) (wasR ((mA M)) ((mW M)) ((mS M))) (mK M) (mP M) (mE M) (mN M) (mX M) (mL M) (mI M) (mD M) (mR M) (mM M) u30 (mF M) (mU M) (mQ M) (mZ M) (mG M) (mH M))) [0, 1, 2, 3, 4, 5, 6, 7, 8, 9, 10, 11, 12] rfl (fun _ => rfl) (fun _ hu50 => ?_)
    exact g_eq rfl rfl rfl (hret (mkMV (mT M) (cpR (mS M) u30 0 0) (if (mA M) = 8 then 8 else (mA M) + 1) (wasR ((mA M)) ((mW M)) ((mS M))) (mK M) (mP M) (mE M) (mN M) (mX M) (mL M) (mI M) (mD M) (mR M) (mM M) u30 (mF M) (mU M) (mQ M) (mZ M) (mG M) (mH M)) _ _ (⟨⟨rfl, rfl, rfl, rfl, rfl, rfl, rfl⟩, RW_cp h9 hW30, rfl, rfl⟩) dX6_turn_53)
  · replace c4 := bI_0.mp c4
    exact absurd c4 (by simp)
