set_option maxHeartbeats 4000000 in
set_option maxRecDepth 100000 in
theorem c_X6_in_y (l : Launch) (E : EV) (n : Nat) (lo : Nat) (hi : Nat) (h1 : lo ≤ n) (h2 : n ≤ hi) (h3 : hi < 2 ^ 31) : KI l yX6_in wsX6_in (rmN 0) E (σ := Unit) [.int (nI n), .int (nI lo), .int (nI hi)] (([] : va_W)) (fun _ => True) (fun _ => (bI true)) (fun _ => ([] : va_W)) 0 0 := by
  have h := c_X6_in l E (nI n) (nI lo) (nI hi)
  rw [win_y h1 h2 h3] at h
  exact h
set_option maxHeartbeats 4000000 in
set_option maxRecDepth 100000 in
theorem c_X6_in_n (l : Launch) (E : EV) (x0 : Int32) (lo : Int32) (hi : Int32) (hx : win x0 lo hi = false) : KI l yX6_in wsX6_in (rmN 0) E (σ := Unit) [.int x0, .int lo, .int hi] (([] : va_W)) (fun _ => True) (fun _ => (bI false)) (fun _ => ([] : va_W)) 0 0 := by
  have h := c_X6_in l E x0 lo hi
  rw [hx] at h
  exact h
set_option maxHeartbeats 4000000 in
set_option maxRecDepth 100000 in
theorem c_X6_isFact_y (l : Launch) (E : EV) (f : Nat) (h1 : f < 6) : KI l yX6_isFact wsX6_isFact (rmN 1) E (σ := Unit) [.int (nI f)] (([] : va_W)) (fun _ => True) (fun _ => (bI true)) (fun _ => ([] : va_W)) 0 0 := by
  have h := c_X6_isFact l E (nI f)
  rw [win_y (Nat.zero_le _) (by omega) (by decide)] at h
  exact h
set_option maxHeartbeats 4000000 in
set_option maxRecDepth 100000 in
theorem c_X6_isFact_no (l : Launch) (E : EV) (x0 : Int32) (hx : win x0 (nI 0) (nI 5) = false) : KI l yX6_isFact wsX6_isFact (rmN 1) E (σ := Unit) [.int x0] (([] : va_W)) (fun _ => True) (fun _ => (bI false)) (fun _ => ([] : va_W)) 0 0 := by
  have h := c_X6_isFact l E x0
  rw [hx] at h
  exact h
set_option maxHeartbeats 4000000 in
set_option maxRecDepth 100000 in
theorem c_X6_remembers (l : Launch) (E : EV) (a : Nat → Nat) (M : MV) (hA : mA M ≤ 8) : KV l yX6_remembers wsX6_remembers (rmN 1) E (σ := Unit) [.ref (a 0)] (mw E a M) (fun _ => True) (fun _ => mw E a (mkMV (mT M) (mS M) (if mA M = 8 then 8 else mA M + 1) (wasR (mA M) (mW M) (mS M)) (mK M) (mP M) (mE M) (mN M) (mX M) (mL M) (mI M) (mD M) (mR M) (mM M) (mO M) (mF M) (mU M) (mQ M) (mZ M) (mG M) (mH M))) 0 0 := by
  refine KV.of (cc := cX6_remembers) (maxL := 2) rfl rfl rfl (fun x hX hin hret hnL => ?_)
  replace hX : CX x l cX6_remembers RX6 wsX6_remembers E (rmN 1) := hX
  show GG x 0 0 (mw E a M) 0 [(0, .ref (a 0))] []
  have inRX6 : ∀ w ∈ wsX60, w ∈ wsX6_remembers := by decide +kernel
  have fl115 : Cond.fieldLink RX6 115 "LieForceModel" "acts" "I" ∈ wsX6_remembers := by decide +kernel
  have fl13 : Cond.fieldLink RX6 13 "LieForceModel" "was" "[I" ∈ wsX6_remembers := by decide +kernel
  have fl7 : Cond.fieldLink RX6 7 "LieForceModel" "st" "[I" ∈ wsX6_remembers := by decide +kernel
  refine g_aload_n hX dX6_remembers_0 0 rfl ?_
  refine g_get hX (v := .int (nI (mA M))) 0 inRX6 rfl rfl 2 rfl fl115 rfl rfl dX6_remembers_1 ?_
  refine g_bipush hX (nI 8) dX6_remembers_4 rfl ?_
  refine g_icmp_ne hX 49 dX6_remembers_6 (by decide) (fun c6 => ?_) (fun c6 => ?_)
  · replace c6 := mt (nI_eq (by omega) (by omega)).mpr c6
    refine g_aload_n hX dX6_remembers_49 0 rfl ?_
    refine g_get hX (v := .ref (a 2)) 0 inRX6 rfl rfl 3 rfl fl13 rfl rfl dX6_remembers_50 ?_
    refine g_bipush hX (nI 49) dX6_remembers_53 rfl ?_
    refine g_aload_n hX dX6_remembers_55 0 rfl ?_
    refine g_get hX (v := .int (nI (mA M))) 0 inRX6 rfl rfl 2 rfl fl115 rfl rfl dX6_remembers_56 ?_
    refine g_imul hX (nI (49 * (mA M))) dX6_remembers_59 (pk_mul _ _) ?_
    refine g_aload_n hX dX6_remembers_60 0 rfl ?_
    refine g_get hX (v := .ref (a 1)) 0 inRX6 rfl rfl 1 rfl fl7 rfl rfl dX6_remembers_61 ?_
    refine g_iconst hX (nI 0) dX6_remembers_64 rfl ?_
    refine g_eq (show (mw E a M : va_W) = mw E a (mkMV (mT M) (mS M) (mA M) (mW M) (mK M) (mP M) (mE M) (mN M) (mX M) (mL M) (mI M) (mD M) (mR M) (mM M) (mO M) (mF M) (mU M) (mQ M) (mZ M) (mG M) (mH M)) from rfl) rfl rfl ?_
    have hc65 : CUT (mw E a (mkMV (mT M) (mS M) (mA M) (mW M) (mK M) (mP M) (mE M) (mN M) (mX M) (mL M) (mI M) (mD M) (mR M) (mM M) (mO M) (mF M) (mU M) (mQ M) (mZ M) (mG M) (mH M))) ((aw E (a 2) 392 (mW M)) ++ (aw E (a 1) 49 (mS M))) ((List.eraseIdx (List.eraseIdx (mw E a (mkMV (mT M) (mS M) (mA M) (mW M) (mK M) (mP M) (mE M) (mN M) (mX M) (mL M) (mI M) (mD M) (mR M) (mM M) (mO M) (mF M) (mU M) (mQ M) (mZ M) (mG M) (mH M))) 2) 1)) [2, 1] [0, 3, 4, 5, 6, 7, 8, 9, 10, 11, 12] := ⟨rfl, rfl, rfl, rfl, rfl⟩
    refine g_TV hX hc65 [.ref (a 2), .int (nI (49 * (mA M))), .ref (a 1), .int (nI 0)] [] (c_X6_copies l E (a 2) 392 (mW M) (49 * (mA M)) (a 1) 49 (mS M) 0 (by omega) (by omega) (by omega) (by omega)) gX6_remembers_X6_copies calX6_copies rfl rfl rfl rfl dX6_remembers_65 rfl ⟨Nat.zero_le _, Nat.zero_le _⟩ (fun _ => mw E a (mkMV (mT M) (mS M) (mA M) (cpR (mW M) (mS M) (49 * (mA M)) 0) (mK M) (mP M) (mE M) (mN M) (mX M) (mL M) (mI M) (mD M) (mR M) (mM M) (mO M) (mF M) (mU M) (mQ M) (mZ M) (mG M) (mH M))) [0, 12, 11, 1, 2, 3, 4, 5, 6, 7, 8, 9, 10] rfl (fun _ => rfl) (fun _ hu65 => ?_)
    refine g_aload_n hX dX6_remembers_68 0 rfl ?_
    refine g_dup hX dX6_remembers_69 rfl ?_
    refine g_get hX (v := .int (nI (mA M))) 0 inRX6 (atModel_0 _ _ _ _ _ _ _ _ _ _ _ _ _ _ _ _ _ _ _ _ _ _ _) rfl 2 rfl fl115 rfl rfl dX6_remembers_70 ?_
    refine g_iconst hX (nI 1) dX6_remembers_73 rfl ?_
    refine g_iadd hX (nI ((mA M) + 1)) dX6_remembers_74 (nI_add _ _) ?_
    refine g_put hX (mw E a (mkMV (mT M) (mS M) ((mA M) + 1) (cpR (mW M) (mS M) (49 * (mA M)) 0) (mK M) (mP M) (mE M) (mN M) (mX M) (mL M) (mI M) (mD M) (mR M) (mM M) (mO M) (mF M) (mU M) (mQ M) (mZ M) (mG M) (mH M))) 0 inRX6 tyX6_ok nmX6 (atModel_0 _ _ _ _ _ _ _ _ _ _ _ _ _ _ _ _ _ _ _ _ _ _ _) rfl 2 rfl fl115 rfl rfl rfl rfl rfl dX6_remembers_75 (stModel_0_2 _ _ _ _ _ _ _ _ _ _ _ _ _ _ _ _ _ _ _ _ _ _ _ _) ?_
    exact g_eq (by first | (simp [wasR, c6]; done) | (rw [hz, show i = 343 by omega]; simp [wasR, c6])) rfl rfl (hret () _ _ trivial dX6_remembers_78)
  · replace c6 := (nI_eq (by omega) (by omega)).mp c6
    refine g_iconst hX (nI 0) dX6_remembers_9 rfl ?_
    refine g_istore_n hX (j := 1) [(1, .int (nI 0)), (0, .ref (a 0))] dX6_remembers_10 rfl (by rw [hnL]; rfl) rfl ?_
    have lp11 : ∀ (fuel : Nat) (i : Nat) (z : Nat → Int32), 343 - i < fuel → (i ≤ 343) → (z = shK (mW M) i) → GG x 0 0 (mw E a (mkMV (mT M) (mS M) (mA M) z (mK M) (mP M) (mE M) (mN M) (mX M) (mL M) (mI M) (mD M) (mR M) (mM M) (mO M) (mF M) (mU M) (mQ M) (mZ M) (mG M) (mH M))) 11 [(0, .ref (a 0)), (1, .int (nI i))] [] := by
      intro fuel
      induction fuel with
      | zero => intro i z hm; exact absurd hm (Nat.not_lt_zero _)
      | succ fuel ih11 =>
        intro i z hm11 hi hz
        refine g_iload_n hX dX6_remembers_11 1 rfl ?_
        refine g_sipush hX (nI 343) dX6_remembers_12 rfl ?_
        refine g_icmp_ge hX 39 dX6_remembers_15 (by decide) (fun c15 => ?_) (fun c15 => ?_)
        · replace c15 := (nI_leI (by omega) (by omega)).mp c15
          refine g_aload_n hX dX6_remembers_39 0 rfl ?_
          refine g_dup hX dX6_remembers_40 rfl ?_
          refine g_get hX (v := .int (nI (mA M))) 0 inRX6 (atModel_0 _ _ _ _ _ _ _ _ _ _ _ _ _ _ _ _ _ _ _ _ _ _ _) rfl 2 rfl fl115 rfl rfl dX6_remembers_41 ?_
          refine g_iconst hX (nI 1) dX6_remembers_44 rfl ?_
          refine g_isub hX (nI ((mA M) - 1)) dX6_remembers_45 (pk_sub (by omega)) ?_
          refine g_put hX (mw E a (mkMV (mT M) (mS M) ((mA M) - 1) z (mK M) (mP M) (mE M) (mN M) (mX M) (mL M) (mI M) (mD M) (mR M) (mM M) (mO M) (mF M) (mU M) (mQ M) (mZ M) (mG M) (mH M))) 0 inRX6 tyX6_ok nmX6 (atModel_0 _ _ _ _ _ _ _ _ _ _ _ _ _ _ _ _ _ _ _ _ _ _ _) rfl 2 rfl fl115 rfl rfl rfl rfl rfl dX6_remembers_46 (stModel_0_2 _ _ _ _ _ _ _ _ _ _ _ _ _ _ _ _ _ _ _ _ _ _ _ _) ?_
          refine g_aload_n hX dX6_remembers_49 0 rfl ?_
          refine g_get hX (v := .ref (a 2)) 0 inRX6 (atModel_0 _ _ _ _ _ _ _ _ _ _ _ _ _ _ _ _ _ _ _ _ _ _ _) rfl 3 rfl fl13 rfl rfl dX6_remembers_50 ?_
          refine g_bipush hX (nI 49) dX6_remembers_53 rfl ?_
          refine g_aload_n hX dX6_remembers_55 0 rfl ?_
          refine g_get hX (v := .int (nI ((mA M) - 1))) 0 inRX6 (atModel_0 _ _ _ _ _ _ _ _ _ _ _ _ _ _ _ _ _ _ _ _ _ _ _) rfl 2 rfl fl115 rfl rfl dX6_remembers_56 ?_
          refine g_imul hX (nI (49 * ((mA M) - 1))) dX6_remembers_59 (pk_mul _ _) ?_
          refine g_aload_n hX dX6_remembers_60 0 rfl ?_
          refine g_get hX (v := .ref (a 1)) 0 inRX6 (atModel_0 _ _ _ _ _ _ _ _ _ _ _ _ _ _ _ _ _ _ _ _ _ _ _) rfl 1 rfl fl7 rfl rfl dX6_remembers_61 ?_
          refine g_iconst hX (nI 0) dX6_remembers_64 rfl ?_
          have hc65 : CUT (mw E a (mkMV (mT M) (mS M) ((mA M) - 1) z (mK M) (mP M) (mE M) (mN M) (mX M) (mL M) (mI M) (mD M) (mR M) (mM M) (mO M) (mF M) (mU M) (mQ M) (mZ M) (mG M) (mH M))) ((aw E (a 2) 392 z) ++ (aw E (a 1) 49 (mS M))) ((List.eraseIdx (List.eraseIdx (mw E a (mkMV (mT M) (mS M) ((mA M) - 1) z (mK M) (mP M) (mE M) (mN M) (mX M) (mL M) (mI M) (mD M) (mR M) (mM M) (mO M) (mF M) (mU M) (mQ M) (mZ M) (mG M) (mH M))) 2) 1)) [2, 1] [0, 3, 4, 5, 6, 7, 8, 9, 10, 11, 12] := ⟨rfl, rfl, rfl, rfl, rfl⟩
          refine g_TV hX hc65 [.ref (a 2), .int (nI (49 * ((mA M) - 1))), .ref (a 1), .int (nI 0)] [] (c_X6_copies l E (a 2) 392 z (49 * ((mA M) - 1)) (a 1) 49 (mS M) 0 (by omega) (by omega) (by omega) (by omega)) gX6_remembers_X6_copies calX6_copies rfl rfl rfl rfl dX6_remembers_65 rfl ⟨Nat.zero_le _, Nat.zero_le _⟩ (fun _ => mw E a (mkMV (mT M) (mS M) ((mA M) - 1) (cpR z (mS M) (49 * ((mA M) - 1)) 0) (mK M) (mP M) (mE M) (mN M) (mX M) (mL M) (mI M) (mD M) (mR M) (mM M) (mO M) (mF M) (mU M) (mQ M) (mZ M) (mG M) (mH M))) [0, 12, 11, 1, 2, 3, 4, 5, 6, 7, 8, 9, 10] rfl (fun _ => rfl) (fun _ hu65 => ?_)
          refine g_aload_n hX dX6_remembers_68 0 rfl ?_
          refine g_dup hX dX6_remembers_69 rfl ?_
          refine g_get hX (v := .int (nI ((mA M) - 1))) 0 inRX6 (atModel_0 _ _ _ _ _ _ _ _ _ _ _ _ _ _ _ _ _ _ _ _ _ _ _) rfl 2 rfl fl115 rfl rfl dX6_remembers_70 ?_
          refine g_iconst hX (nI 1) dX6_remembers_73 rfl ?_
          refine g_iadd hX (nI (((mA M) - 1) + 1)) dX6_remembers_74 (nI_add _ _) ?_
          refine g_put hX (mw E a (mkMV (mT M) (mS M) (((mA M) - 1) + 1) (cpR z (mS M) (49 * ((mA M) - 1)) 0) (mK M) (mP M) (mE M) (mN M) (mX M) (mL M) (mI M) (mD M) (mR M) (mM M) (mO M) (mF M) (mU M) (mQ M) (mZ M) (mG M) (mH M))) 0 inRX6 tyX6_ok nmX6 (atModel_0 _ _ _ _ _ _ _ _ _ _ _ _ _ _ _ _ _ _ _ _ _ _ _) rfl 2 rfl fl115 rfl rfl rfl rfl rfl dX6_remembers_75 (stModel_0_2 _ _ _ _ _ _ _ _ _ _ _ _ _ _ _ _ _ _ _ _ _ _ _ _) ?_
          exact g_eq (by first | (simp [wasR, c6, c15]; done) | (rw [hz, show i = 343 by omega]; simp [wasR, c6, c15])) rfl rfl (hret () _ _ trivial dX6_remembers_78)
        · replace c15 := mt (nI_leI (by omega) (by omega)).mpr c15
          refine g_aload_n hX dX6_remembers_18 0 rfl ?_
          refine g_get hX (v := .ref (a 2)) 0 inRX6 (atModel_0 _ _ _ _ _ _ _ _ _ _ _ _ _ _ _ _ _ _ _ _ _ _ _) rfl 3 rfl fl13 rfl rfl dX6_remembers_19 ?_
          refine g_iload_n hX dX6_remembers_22 1 rfl ?_
          refine g_aload_n hX dX6_remembers_23 0 rfl ?_
          refine g_get hX (v := .ref (a 2)) 0 inRX6 (atModel_0 _ _ _ _ _ _ _ _ _ _ _ _ _ _ _ _ _ _ _ _ _ _ _) rfl 3 rfl fl13 rfl rfl dX6_remembers_24 ?_
          refine g_iload_n hX dX6_remembers_27 1 rfl ?_
          refine g_bipush hX (nI 49) dX6_remembers_28 rfl ?_
          refine g_iadd hX (nI (i + 49)) dX6_remembers_30 (nI_add _ _) ?_
          refine g_iald hX (z (i + 49)) 2 0 (atModel_2 _ _ _ _ _ _ _ _ _ _ _ _ _ _ _ _ _ _ _ _ _ _ _) rfl (vp_in_nI (by omega) (by omega)) (ald_n (g := fun zz => (z) zz) (i := i + 49) (by omega)) dX6_remembers_31 ?_
          refine g_iast hX (va_up (z) i (z (i + 49))) (mw E a (mkMV (mT M) (mS M) (mA M) (va_up (z) i (z (i + 49))) (mK M) (mP M) (mE M) (mN M) (mX M) (mL M) (mI M) (mD M) (mR M) (mM M) (mO M) (mF M) (mU M) (mQ M) (mZ M) (mG M) (mH M))) 2 0 (atModel_2 _ _ _ _ _ _ _ _ _ _ _ _ _ _ _ _ _ _ _ _ _ _ _) rfl (vp_in_nI (by omega) (by omega)) (ast_r (by omega)) dX6_remembers_32 (stModel_2 _ _ _ _ _ _ _ _ _ _ _ _ _ _ _ _ _ _ _ _ _ _ _ _) ?_
          refine g_iinc hX (j := 1) (nI (i + 1)) [(1, .int (nI (i + 1))), (0, .ref (a 0))] dX6_remembers_33 1 rfl (iinc_n _ _) (by rw [hnL]; rfl) rfl ?_
          refine g_goto hX 11 dX6_remembers_36 (by decide) ?_
          exact g_lv _ [1, 0] rfl (ih11 (i + 1) (va_up (z) i (z (i + 49))) (by omega) (by omega) (by rw [hz, shK_r]; exact shK_s))
    exact g_lv _ [1, 0] rfl (lp11 _ 0 (mW M) (Nat.lt_succ_self _) (Nat.zero_le _) shK_0)
set_option maxHeartbeats 4000000 in
set_option maxRecDepth 100000 in
theorem c_X6_isSaying_y (l : Launch) (E : EV) (a : Nat → Nat) (M : MV) (C : FC) (s : Nat) (hN9 : cN C ≤ 9) (hS : RB C (mS M)) (hs : s < cN C) : KI l yX6_isSaying wsX6_isSaying (rmN 1) E (σ := Unit) [.ref (a 0), .int (nI s)] (mw E a M) (fun _ => True) (fun _ => (bI true)) (fun _ => mw E a M) 0 0 := by
  refine KI.of (cc := cX6_isSaying) (maxL := 2) (ty := .boolean) (hnar := fun _ _ => nar_b _) rfl rfl rfl (fun x hX hin hret hnL => ?_)
  replace hX : CX x l cX6_isSaying RX6 wsX6_isSaying E (rmN 1) := hX
  show GG x 0 0 (mw E a M) 0 [(0, .ref (a 0)), (1, .int (nI s))] []
  have inRX6 : ∀ w ∈ wsX60, w ∈ wsX6_isSaying := by decide +kernel
  have fl7 : Cond.fieldLink RX6 7 "LieForceModel" "st" "[I" ∈ wsX6_isSaying := by decide +kernel
  refine g_iload_n hX dX6_isSaying_0 1 rfl ?_
  refine g_iconst hX (nI 0) dX6_isSaying_1 rfl ?_
  refine g_aload_n hX dX6_isSaying_2 0 rfl ?_
  refine g_get hX (v := .ref (a 1)) 0 inRX6 rfl rfl 1 rfl fl7 rfl rfl dX6_isSaying_3 ?_
  refine g_iconst hX (nI 2) dX6_isSaying_6 rfl ?_
  refine g_iald hX (nI (cN C)) 1 0 rfl rfl (vp_in_nI (by omega) (by omega)) ((ald_n (g := fun zz => (mS M) zz) (i := 2) (by omega)).trans (RB_N hS)) dX6_isSaying_7 ?_
  refine g_iconst hX (nI 1) dX6_isSaying_8 rfl ?_
  refine g_isub hX (nI ((cN C) - 1)) dX6_isSaying_9 (pk_sub (by omega)) ?_
  have hc10 : CUT (mw E a M) (([] : va_W)) (mw E a M) [] [0, 1, 2, 3, 4, 5, 6, 7, 8, 9, 10, 11, 12] := ⟨rfl, rfl, rfl, rfl, rfl⟩
  refine g_TI hX hc10 [.int (nI s), .int (nI 0), .int (nI ((cN C) - 1))] [] (c_X6_in_y l E s 0 ((cN C) - 1) (by omega) (by omega) (by omega)) gX6_isSaying_X6_in calX6_in rfl rfl rfl rfl dX6_isSaying_10 rfl ⟨Nat.zero_le _, Nat.zero_le _⟩ (fun _ => mw E a M) [0, 1, 2, 3, 4, 5, 6, 7, 8, 9, 10, 11, 12] rfl (fun _ => rfl) (fun _ hu10 => ?_)
  exact g_eq rfl rfl rfl (hret () _ _ trivial dX6_isSaying_13)
set_option maxHeartbeats 4000000 in
set_option maxRecDepth 100000 in
theorem c_X6_isSaying_n (l : Launch) (E : EV) (a : Nat → Nat) (M : MV) (C : FC) (x0 : Int32) (hN9 : cN C ≤ 9) (hN1 : 1 ≤ cN C) (hS : RB C (mS M)) (hx : win x0 (nI 0) (nI (cN C - 1)) = false) : KI l yX6_isSaying wsX6_isSaying (rmN 1) E (σ := Unit) [.ref (a 0), .int x0] (mw E a M) (fun _ => True) (fun _ => (bI false)) (fun _ => mw E a M) 0 0 := by
  refine KI.of (cc := cX6_isSaying) (maxL := 2) (ty := .boolean) (hnar := fun _ _ => nar_b _) rfl rfl rfl (fun x hX hin hret hnL => ?_)
  replace hX : CX x l cX6_isSaying RX6 wsX6_isSaying E (rmN 1) := hX
  show GG x 0 0 (mw E a M) 0 [(0, .ref (a 0)), (1, .int x0)] []
  have inRX6 : ∀ w ∈ wsX60, w ∈ wsX6_isSaying := by decide +kernel
  have fl7 : Cond.fieldLink RX6 7 "LieForceModel" "st" "[I" ∈ wsX6_isSaying := by decide +kernel
  refine g_iload_n hX dX6_isSaying_0 1 rfl ?_
  refine g_iconst hX (nI 0) dX6_isSaying_1 rfl ?_
  refine g_aload_n hX dX6_isSaying_2 0 rfl ?_
  refine g_get hX (v := .ref (a 1)) 0 inRX6 rfl rfl 1 rfl fl7 rfl rfl dX6_isSaying_3 ?_
  refine g_iconst hX (nI 2) dX6_isSaying_6 rfl ?_
  refine g_iald hX (nI (cN C)) 1 0 rfl rfl (vp_in_nI (by omega) (by omega)) ((ald_n (g := fun zz => (mS M) zz) (i := 2) (by omega)).trans (RB_N hS)) dX6_isSaying_7 ?_
  refine g_iconst hX (nI 1) dX6_isSaying_8 rfl ?_
  refine g_isub hX (nI ((cN C) - 1)) dX6_isSaying_9 (pk_sub (by omega)) ?_
  have hc10 : CUT (mw E a M) (([] : va_W)) (mw E a M) [] [0, 1, 2, 3, 4, 5, 6, 7, 8, 9, 10, 11, 12] := ⟨rfl, rfl, rfl, rfl, rfl⟩
  refine g_TI hX hc10 [.int x0, .int (nI 0), .int (nI ((cN C) - 1))] [] (c_X6_in_n l E x0 (nI 0) (nI ((cN C) - 1)) hx) gX6_isSaying_X6_in calX6_in rfl rfl rfl rfl dX6_isSaying_10 rfl ⟨Nat.zero_le _, Nat.zero_le _⟩ (fun _ => mw E a M) [0, 1, 2, 3, 4, 5, 6, 7, 8, 9, 10, 11, 12] rfl (fun _ => rfl) (fun _ hu10 => ?_)
  exact g_eq rfl rfl rfl (hret () _ _ trivial dX6_isSaying_13)
set_option maxHeartbeats 4000000 in
set_option maxRecDepth 100000 in
theorem c_X6_write_n (l : Launch) (E : EV) (a : Nat → Nat) (M : MV) (x0 : Int32) (hx : win x0 (nI 32) (nI 126) = false) : KI l yX6_write wsX6_write (rmN 1) E (σ := Unit) [.ref (a 0), .int x0] (mw E a M) (fun _ => True) (fun _ => (-1)) (fun _ => mw E a M) 0 0 := by
  refine KI.of (cc := cX6_write) (maxL := 2) (ty := .int) (hnar := fun _ _ => rfl) rfl rfl rfl (fun x hX hin hret hnL => ?_)
  replace hX : CX x l cX6_write RX6 wsX6_write E (rmN 1) := hX
  show GG x 0 0 (mw E a M) 0 [(0, .ref (a 0)), (1, .int x0)] []
  refine g_iload_n hX dX6_write_0 1 rfl ?_
  refine g_bipush hX (nI 32) dX6_write_1 rfl ?_
  refine g_bipush hX (nI 126) dX6_write_3 rfl ?_
  have hc5 : CUT (mw E a M) (([] : va_W)) (mw E a M) [] [0, 1, 2, 3, 4, 5, 6, 7, 8, 9, 10, 11, 12] := ⟨rfl, rfl, rfl, rfl, rfl⟩
  refine g_TI hX hc5 [.int x0, .int (nI 32), .int (nI 126)] [] (c_X6_in_n l E x0 (nI 32) (nI 126) (by first | assumption | omega)) gX6_write_X6_in calX6_in rfl rfl rfl rfl dX6_write_5 rfl ⟨Nat.zero_le _, Nat.zero_le _⟩ (fun _ => mw E a M) [0, 1, 2, 3, 4, 5, 6, 7, 8, 9, 10, 11, 12] rfl (fun _ => rfl) (fun _ hu5 => ?_)
  refine g_if_ne hX 13 dX6_write_8 (by decide) (fun c8 => ?_) (fun c8 => ?_)
  · replace c8 := mt bI_0.mpr c8
    replace c8 := bNf c8
    exact absurd c8 (by simp)
  · replace c8 := bI_0.mp c8
    refine g_iconst hX ((-1)) dX6_write_11 rfl ?_
    exact g_eq rfl rfl rfl (hret () _ _ trivial dX6_write_12)
set_option maxHeartbeats 4000000 in
set_option maxRecDepth 100000 in
theorem c_X6_write_f (l : Launch) (E : EV) (a : Nat → Nat) (M : MV) (n : Nat) (h1 : 32 ≤ n) (h2 : n ≤ 126) (hL : mL M = 200) : KI l yX6_write wsX6_write (rmN 1) E (σ := Unit) [.ref (a 0), .int (nI n)] (mw E a M) (fun _ => True) (fun _ => (-3)) (fun _ => mw E a M) 0 0 := by
  refine KI.of (cc := cX6_write) (maxL := 2) (ty := .int) (hnar := fun _ _ => rfl) rfl rfl rfl (fun x hX hin hret hnL => ?_)
  replace hX : CX x l cX6_write RX6 wsX6_write E (rmN 1) := hX
  show GG x 0 0 (mw E a M) 0 [(0, .ref (a 0)), (1, .int (nI n))] []
  have inRX6 : ∀ w ∈ wsX60, w ∈ wsX6_write := by decide +kernel
  have fl68 : Cond.fieldLink RX6 68 "LieForceModel" "texted" "I" ∈ wsX6_write := by decide +kernel
  refine g_iload_n hX dX6_write_0 1 rfl ?_
  refine g_bipush hX (nI 32) dX6_write_1 rfl ?_
  refine g_bipush hX (nI 126) dX6_write_3 rfl ?_
  have hc5 : CUT (mw E a M) (([] : va_W)) (mw E a M) [] [0, 1, 2, 3, 4, 5, 6, 7, 8, 9, 10, 11, 12] := ⟨rfl, rfl, rfl, rfl, rfl⟩
  refine g_TI hX hc5 [.int (nI n), .int (nI 32), .int (nI 126)] [] (c_X6_in_y l E n 32 126 (by omega) (by omega) (by omega)) gX6_write_X6_in calX6_in rfl rfl rfl rfl dX6_write_5 rfl ⟨Nat.zero_le _, Nat.zero_le _⟩ (fun _ => mw E a M) [0, 1, 2, 3, 4, 5, 6, 7, 8, 9, 10, 11, 12] rfl (fun _ => rfl) (fun _ hu5 => ?_)
  refine g_if_ne hX 13 dX6_write_8 (by decide) (fun c8 => ?_) (fun c8 => ?_)
  · replace c8 := mt bI_0.mpr c8
    replace c8 := bNf c8
    refine g_aload_n hX dX6_write_13 0 rfl ?_
    refine g_get hX (v := .int (nI (mL M))) 0 inRX6 rfl rfl 9 rfl fl68 rfl rfl dX6_write_14 ?_
    refine g_sipush hX (nI 200) dX6_write_17 rfl ?_
    refine g_icmp_ne hX 26 dX6_write_20 (by decide) (fun c20 => ?_) (fun c20 => ?_)
    · replace c20 := mt (nI_eq (by omega) (by omega)).mpr c20
      omega
    · replace c20 := (nI_eq (by omega) (by omega)).mp c20
      refine g_bipush hX ((-3)) dX6_write_23 rfl ?_
      exact g_eq rfl rfl rfl (hret () _ _ trivial dX6_write_25)
  · replace c8 := bI_0.mp c8
    exact absurd c8 (by simp)
set_option maxHeartbeats 4000000 in
set_option maxRecDepth 100000 in
theorem c_X6_write_y (l : Launch) (E : EV) (a : Nat → Nat) (M : MV) (n : Nat) (h1 : 32 ≤ n) (h2 : n ≤ 126) (hL : mL M < 200) : KI l yX6_write wsX6_write (rmN 1) E (σ := Unit) [.ref (a 0), .int (nI n)] (mw E a M) (fun _ => True) (fun _ => (nI (mL M + 1))) (fun _ => mw E a (mkMV (mT M) (mS M) (mA M) (mW M) (mK M) (mP M) (mE M) (mN M) (va_up (mX M) (mL M) n) (mL M + 1) (mI M) (mD M) (mR M) (mM M) (mO M) (mF M) (mU M) (mQ M) (mZ M) (mG M) (mH M))) 0 0 := by
  refine KI.of (cc := cX6_write) (maxL := 2) (ty := .int) (hnar := fun _ _ => rfl) rfl rfl rfl (fun x hX hin hret hnL => ?_)
  replace hX : CX x l cX6_write RX6 wsX6_write E (rmN 1) := hX
  show GG x 0 0 (mw E a M) 0 [(0, .ref (a 0)), (1, .int (nI n))] []
  have inRX6 : ∀ w ∈ wsX60, w ∈ wsX6_write := by decide +kernel
  have fl22 : Cond.fieldLink RX6 22 "LieForceModel" "text" "[I" ∈ wsX6_write := by decide +kernel
  have fl68 : Cond.fieldLink RX6 68 "LieForceModel" "texted" "I" ∈ wsX6_write := by decide +kernel
  refine g_iload_n hX dX6_write_0 1 rfl ?_
  refine g_bipush hX (nI 32) dX6_write_1 rfl ?_
  refine g_bipush hX (nI 126) dX6_write_3 rfl ?_
  have hc5 : CUT (mw E a M) (([] : va_W)) (mw E a M) [] [0, 1, 2, 3, 4, 5, 6, 7, 8, 9, 10, 11, 12] := ⟨rfl, rfl, rfl, rfl, rfl⟩
  refine g_TI hX hc5 [.int (nI n), .int (nI 32), .int (nI 126)] [] (c_X6_in_y l E n 32 126 (by omega) (by omega) (by omega)) gX6_write_X6_in calX6_in rfl rfl rfl rfl dX6_write_5 rfl ⟨Nat.zero_le _, Nat.zero_le _⟩ (fun _ => mw E a M) [0, 1, 2, 3, 4, 5, 6, 7, 8, 9, 10, 11, 12] rfl (fun _ => rfl) (fun _ hu5 => ?_)
  refine g_if_ne hX 13 dX6_write_8 (by decide) (fun c8 => ?_) (fun c8 => ?_)
  · replace c8 := mt bI_0.mpr c8
    replace c8 := bNf c8
    refine g_aload_n hX dX6_write_13 0 rfl ?_
    refine g_get hX (v := .int (nI (mL M))) 0 inRX6 rfl rfl 9 rfl fl68 rfl rfl dX6_write_14 ?_
    refine g_sipush hX (nI 200) dX6_write_17 rfl ?_
    refine g_icmp_ne hX 26 dX6_write_20 (by decide) (fun c20 => ?_) (fun c20 => ?_)
    · replace c20 := mt (nI_eq (by omega) (by omega)).mpr c20
      refine g_aload_n hX dX6_write_26 0 rfl ?_
      refine g_get hX (v := .ref (a 5)) 0 inRX6 rfl rfl 8 rfl fl22 rfl rfl dX6_write_27 ?_
      refine g_aload_n hX dX6_write_30 0 rfl ?_
      refine g_get hX (v := .int (nI (mL M))) 0 inRX6 rfl rfl 9 rfl fl68 rfl rfl dX6_write_31 ?_
      refine g_iload_n hX dX6_write_34 1 rfl ?_
      refine g_eq (show (mw E a M : va_W) = mw E a (mkMV (mT M) (mS M) (mA M) (mW M) (mK M) (mP M) (mE M) (mN M) (mX M) (mL M) (mI M) (mD M) (mR M) (mM M) (mO M) (mF M) (mU M) (mQ M) (mZ M) (mG M) (mH M)) from rfl) rfl rfl ?_
      refine g_iast hX (fun zz => nI ((va_up (mX M) (mL M) n) zz)) (mw E a (mkMV (mT M) (mS M) (mA M) (mW M) (mK M) (mP M) (mE M) (mN M) (va_up (mX M) (mL M) n) (mL M) (mI M) (mD M) (mR M) (mM M) (mO M) (mF M) (mU M) (mQ M) (mZ M) (mG M) (mH M))) 5 0 (atModel_5 _ _ _ _ _ _ _ _ _ _ _ _ _ _ _ _ _ _ _ _ _ _ _) rfl (vp_in_nI (by omega) (by omega)) (ast_n (by omega)) dX6_write_35 (stModel_5 _ _ _ _ _ _ _ _ _ _ _ _ _ _ _ _ _ _ _ _ _ _ _ _) ?_
      refine g_aload_n hX dX6_write_36 0 rfl ?_
      refine g_dup hX dX6_write_37 rfl ?_
      refine g_get hX (v := .int (nI (mL M))) 0 inRX6 (atModel_0 _ _ _ _ _ _ _ _ _ _ _ _ _ _ _ _ _ _ _ _ _ _ _) rfl 9 rfl fl68 rfl rfl dX6_write_38 ?_
      refine g_iconst hX (nI 1) dX6_write_41 rfl ?_
      refine g_iadd hX (nI ((mL M) + 1)) dX6_write_42 (nI_add _ _) ?_
      refine g_put hX (mw E a (mkMV (mT M) (mS M) (mA M) (mW M) (mK M) (mP M) (mE M) (mN M) (va_up (mX M) (mL M) n) ((mL M) + 1) (mI M) (mD M) (mR M) (mM M) (mO M) (mF M) (mU M) (mQ M) (mZ M) (mG M) (mH M))) 0 inRX6 tyX6_ok nmX6 (atModel_0 _ _ _ _ _ _ _ _ _ _ _ _ _ _ _ _ _ _ _ _ _ _ _) rfl 9 rfl fl68 rfl rfl rfl rfl rfl dX6_write_43 (stModel_0_9 _ _ _ _ _ _ _ _ _ _ _ _ _ _ _ _ _ _ _ _ _ _ _ _) ?_
      refine g_aload_n hX dX6_write_46 0 rfl ?_
      refine g_get hX (v := .int (nI ((mL M) + 1))) 0 inRX6 (atModel_0 _ _ _ _ _ _ _ _ _ _ _ _ _ _ _ _ _ _ _ _ _ _ _) rfl 9 rfl fl68 rfl rfl dX6_write_47 ?_
      exact g_eq rfl rfl rfl (hret () _ _ trivial dX6_write_50)
    · replace c20 := (nI_eq (by omega) (by omega)).mp c20
      omega
  · replace c8 := bI_0.mp c8
    exact absurd c8 (by simp)
set_option maxHeartbeats 4000000 in
set_option maxRecDepth 100000 in
theorem c_X6_wipe (l : Launch) (E : EV) (a : Nat → Nat) (M : MV)  : KI l yX6_wipe wsX6_wipe (rmN 0) E (σ := Unit) [.ref (a 0)] (mw E a M) (fun _ => True) (fun _ => (nI (mL M))) (fun _ => mw E a (mkMV (mT M) (mS M) (mA M) (mW M) (mK M) (mP M) (mE M) (mN M) (mX M) 0 (mI M) (mD M) (mR M) (mM M) (mO M) (mF M) (mU M) (mQ M) (mZ M) (mG M) (mH M))) 0 0 := by
  refine KI.of (cc := cX6_wipe) (maxL := 2) (ty := .int) (hnar := fun _ _ => rfl) rfl rfl rfl (fun x hX hin hret hnL => ?_)
  replace hX : CX x l cX6_wipe RX6 wsX6_wipe E (rmN 0) := hX
  show GG x 0 0 (mw E a M) 0 [(0, .ref (a 0))] []
  have inRX6 : ∀ w ∈ wsX60, w ∈ wsX6_wipe := by decide +kernel
  have fl68 : Cond.fieldLink RX6 68 "LieForceModel" "texted" "I" ∈ wsX6_wipe := by decide +kernel
  refine g_aload_n hX dX6_wipe_0 0 rfl ?_
  refine g_get hX (v := .int (nI (mL M))) 0 inRX6 rfl rfl 9 rfl fl68 rfl rfl dX6_wipe_1 ?_
  refine g_istore_n hX (j := 1) [(1, .int (nI (mL M))), (0, .ref (a 0))] dX6_wipe_4 rfl (by rw [hnL]; rfl) rfl ?_
  refine g_aload_n hX dX6_wipe_5 1 rfl ?_
  refine g_iconst hX (nI 0) dX6_wipe_6 rfl ?_
  refine g_eq (show (mw E a M : va_W) = mw E a (mkMV (mT M) (mS M) (mA M) (mW M) (mK M) (mP M) (mE M) (mN M) (mX M) (mL M) (mI M) (mD M) (mR M) (mM M) (mO M) (mF M) (mU M) (mQ M) (mZ M) (mG M) (mH M)) from rfl) rfl rfl ?_
  refine g_put hX (mw E a (mkMV (mT M) (mS M) (mA M) (mW M) (mK M) (mP M) (mE M) (mN M) (mX M) 0 (mI M) (mD M) (mR M) (mM M) (mO M) (mF M) (mU M) (mQ M) (mZ M) (mG M) (mH M))) 0 inRX6 tyX6_ok nmX6 (atModel_0 _ _ _ _ _ _ _ _ _ _ _ _ _ _ _ _ _ _ _ _ _ _ _) rfl 9 rfl fl68 rfl rfl rfl rfl rfl dX6_wipe_7 (stModel_0_9 _ _ _ _ _ _ _ _ _ _ _ _ _ _ _ _ _ _ _ _ _ _ _ _) ?_
  refine g_iload_n hX dX6_wipe_10 0 rfl ?_
  exact g_eq rfl rfl rfl (hret () _ _ trivial dX6_wipe_11)
set_option maxHeartbeats 4000000 in
set_option maxRecDepth 100000 in
theorem c_X6_saying_n1 (l : Launch) (E : EV) (a : Nat → Nat) (M : MV) (C : FC) (m : Nat) (x0 : Int32) (x1 : Int32) (hD : DI C m) (hm : m < 2 ^ 29) (hN1 : 1 ≤ cN C) (hS : RW C (mS M)) (hTm : cT C = mT M) (hx : win x0 (nI 0) (nI (cN C - 1)) = false) : KI l yX6_saying wsX6_saying (rmN 3) E (σ := MV) [.ref (a 0), .int x0, .int x1] (mw E a M) (fun u => KS M u) (fun u => (-1)) (fun u => mw E a u) 0 0 := by
  refine KI.of (cc := cX6_saying) (maxL := 3) (ty := .int) (hnar := fun _ _ => rfl) rfl rfl rfl (fun x hX hin hret hnL => ?_)
  replace hX : CX x l cX6_saying RX6 wsX6_saying E (rmN 3) := hX
  show GG x 0 0 (mw E a M) 0 [(0, .ref (a 0)), (1, .int x0), (2, .int x1)] []
  obtain ⟨hC, hVY, hZ, hYm⟩ := id hD
  obtain ⟨⟨h9, h64, h512, hT, hI⟩, hK⟩ := id hC
  have hV := DI_VB hD (by omega)
  refine g_aload_n hX dX6_saying_0 0 rfl ?_
  refine g_iload_n hX dX6_saying_1 1 rfl ?_
  have hc2 : CUT (mw E a M) (mw E a M) (([] : va_W)) [0, 1, 2, 3, 4, 5, 6, 7, 8, 9, 10, 11, 12] [] := ⟨rfl, rfl, rfl, rfl, rfl⟩
  refine g_VI hX hc2 [.int x0] [] (c_X6_isSaying_n l E a M C x0 (by first | assumption | omega) (by assumption) hS.1 (by assumption)) gX6_saying_X6_isSaying calX6_isSaying rfl rfl rfl rfl 0 rfl rfl rfl rfl dX6_saying_2 rfl ⟨Nat.zero_le _, Nat.zero_le _⟩ (fun _ => mw E a M) [0, 1, 2, 3, 4, 5, 6, 7, 8, 9, 10, 11, 12] rfl (fun _ => rfl) (fun _ hu2 => ?_)
  refine g_if_eq hX 18 dX6_saying_5 (by decide) (fun c5 => ?_) (fun c5 => ?_)
  · replace c5 := bI_0.mp c5
    refine g_iconst hX ((-1)) dX6_saying_18 rfl ?_
    exact g_eq rfl rfl rfl (hret M _ _ (⟨⟨rfl, rfl, rfl, rfl, rfl, rfl, rfl⟩, ⟨rfl, rfl⟩, rfl⟩) dX6_saying_19)
  · replace c5 := mt bI_0.mpr c5
    replace c5 := bNf c5
    exact absurd c5 (by simp)
set_option maxHeartbeats 4000000 in
set_option maxRecDepth 100000 in
theorem c_X6_saying_n2 (l : Launch) (E : EV) (a : Nat → Nat) (M : MV) (C : FC) (m : Nat) (s : Nat) (x1 : Int32) (hD : DI C m) (hm : m < 2 ^ 29) (hN1 : 1 ≤ cN C) (hS : RW C (mS M)) (hTm : cT C = mT M) (hs : s < cN C) (hx : win x1 (nI 0) (nI 6) = false) : KI l yX6_saying wsX6_saying (rmN 3) E (σ := MV) [.ref (a 0), .int (nI s), .int x1] (mw E a M) (fun u => KS M u) (fun u => (-1)) (fun u => mw E a u) 0 0 := by
  refine KI.of (cc := cX6_saying) (maxL := 3) (ty := .int) (hnar := fun _ _ => rfl) rfl rfl rfl (fun x hX hin hret hnL => ?_)
  replace hX : CX x l cX6_saying RX6 wsX6_saying E (rmN 3) := hX
  show GG x 0 0 (mw E a M) 0 [(0, .ref (a 0)), (1, .int (nI s)), (2, .int x1)] []
  obtain ⟨hC, hVY, hZ, hYm⟩ := id hD
  obtain ⟨⟨h9, h64, h512, hT, hI⟩, hK⟩ := id hC
  have hV := DI_VB hD (by omega)
  refine g_aload_n hX dX6_saying_0 0 rfl ?_
  refine g_iload_n hX dX6_saying_1 1 rfl ?_
  have hc2 : CUT (mw E a M) (mw E a M) (([] : va_W)) [0, 1, 2, 3, 4, 5, 6, 7, 8, 9, 10, 11, 12] [] := ⟨rfl, rfl, rfl, rfl, rfl⟩
  refine g_VI hX hc2 [.int (nI s)] [] (c_X6_isSaying_y l E a M C s (by first | assumption | omega) hS.1 (by omega)) gX6_saying_X6_isSaying calX6_isSaying rfl rfl rfl rfl 0 rfl rfl rfl rfl dX6_saying_2 rfl ⟨Nat.zero_le _, Nat.zero_le _⟩ (fun _ => mw E a M) [0, 1, 2, 3, 4, 5, 6, 7, 8, 9, 10, 11, 12] rfl (fun _ => rfl) (fun _ hu2 => ?_)
  refine g_if_eq hX 18 dX6_saying_5 (by decide) (fun c5 => ?_) (fun c5 => ?_)
  · replace c5 := bI_0.mp c5
    exact absurd c5 (by simp)
  · replace c5 := mt bI_0.mpr c5
    replace c5 := bNf c5
    refine g_iload_n hX dX6_saying_8 2 rfl ?_
    refine g_iconst hX (nI 0) dX6_saying_9 rfl ?_
    refine g_bipush hX (nI 6) dX6_saying_10 rfl ?_
    have hc12 : CUT (mw E a M) (([] : va_W)) (mw E a M) [] [0, 1, 2, 3, 4, 5, 6, 7, 8, 9, 10, 11, 12] := ⟨rfl, rfl, rfl, rfl, rfl⟩
    refine g_TI hX hc12 [.int x1, .int (nI 0), .int (nI 6)] [] (c_X6_in_n l E x1 (nI 0) (nI 6) (by first | assumption | omega)) gX6_saying_X6_in calX6_in rfl rfl rfl rfl dX6_saying_12 rfl ⟨Nat.zero_le _, Nat.zero_le _⟩ (fun _ => mw E a M) [0, 1, 2, 3, 4, 5, 6, 7, 8, 9, 10, 11, 12] rfl (fun _ => rfl) (fun _ hu12 => ?_)
    refine g_if_ne hX 20 dX6_saying_15 (by decide) (fun c15 => ?_) (fun c15 => ?_)
    · replace c15 := mt bI_0.mpr c15
      replace c15 := bNf c15
      exact absurd c15 (by simp)
    · replace c15 := bI_0.mp c15
      refine g_iconst hX ((-1)) dX6_saying_18 rfl ?_
      exact g_eq rfl rfl rfl (hret M _ _ (⟨⟨rfl, rfl, rfl, rfl, rfl, rfl, rfl⟩, ⟨rfl, rfl⟩, rfl⟩) dX6_saying_19)
set_option maxHeartbeats 4000000 in
set_option maxRecDepth 100000 in
theorem c_X6_saying_y (l : Launch) (E : EV) (a : Nat → Nat) (M : MV) (C : FC) (m : Nat) (s : Nat) (w : Nat) (hD : DI C m) (hm : m < 2 ^ 29) (hN1 : 1 ≤ cN C) (hS : RW C (mS M)) (hTm : cT C = mT M) (hs : s < cN C) (hw : w < 7) : KI l yX6_saying wsX6_saying (rmN 3) E (σ := MV) [.ref (a 0), .int (nI s), .int (nI w)] (mw E a M) (fun u => KS M u) (fun u => (sayV C s w)) (fun u => mw E a u) 0 0 := by
  refine KI.of (cc := cX6_saying) (maxL := 3) (ty := .int) (hnar := fun _ _ => rfl) rfl rfl rfl (fun x hX hin hret hnL => ?_)
  replace hX : CX x l cX6_saying RX6 wsX6_saying E (rmN 3) := hX
  show GG x 0 0 (mw E a M) 0 [(0, .ref (a 0)), (1, .int (nI s)), (2, .int (nI w))] []
  have inRX6 : ∀ w ∈ wsX60, w ∈ wsX6_saying := by decide +kernel
  have fl7 : Cond.fieldLink RX6 7 "LieForceModel" "st" "[I" ∈ wsX6_saying := by decide +kernel
  obtain ⟨hC, hVY, hZ, hYm⟩ := id hD
  obtain ⟨⟨h9, h64, h512, hT, hI⟩, hK⟩ := id hC
  have hV := DI_VB hD (by omega)
  refine g_aload_n hX dX6_saying_0 0 rfl ?_
  refine g_iload_n hX dX6_saying_1 1 rfl ?_
  have hc2 : CUT (mw E a M) (mw E a M) (([] : va_W)) [0, 1, 2, 3, 4, 5, 6, 7, 8, 9, 10, 11, 12] [] := ⟨rfl, rfl, rfl, rfl, rfl⟩
  refine g_VI hX hc2 [.int (nI s)] [] (c_X6_isSaying_y l E a M C s (by first | assumption | omega) hS.1 (by omega)) gX6_saying_X6_isSaying calX6_isSaying rfl rfl rfl rfl 0 rfl rfl rfl rfl dX6_saying_2 rfl ⟨Nat.zero_le _, Nat.zero_le _⟩ (fun _ => mw E a M) [0, 1, 2, 3, 4, 5, 6, 7, 8, 9, 10, 11, 12] rfl (fun _ => rfl) (fun _ hu2 => ?_)
  refine g_if_eq hX 18 dX6_saying_5 (by decide) (fun c5 => ?_) (fun c5 => ?_)
  · replace c5 := bI_0.mp c5
    exact absurd c5 (by simp)
  · replace c5 := mt bI_0.mpr c5
    replace c5 := bNf c5
    refine g_iload_n hX dX6_saying_8 2 rfl ?_
    refine g_iconst hX (nI 0) dX6_saying_9 rfl ?_
    refine g_bipush hX (nI 6) dX6_saying_10 rfl ?_
    have hc12 : CUT (mw E a M) (([] : va_W)) (mw E a M) [] [0, 1, 2, 3, 4, 5, 6, 7, 8, 9, 10, 11, 12] := ⟨rfl, rfl, rfl, rfl, rfl⟩
    refine g_TI hX hc12 [.int (nI w), .int (nI 0), .int (nI 6)] [] (c_X6_in_y l E w 0 6 (by omega) (by omega) (by omega)) gX6_saying_X6_in calX6_in rfl rfl rfl rfl dX6_saying_12 rfl ⟨Nat.zero_le _, Nat.zero_le _⟩ (fun _ => mw E a M) [0, 1, 2, 3, 4, 5, 6, 7, 8, 9, 10, 11, 12] rfl (fun _ => rfl) (fun _ hu12 => ?_)
    refine g_if_ne hX 20 dX6_saying_15 (by decide) (fun c15 => ?_) (fun c15 => ?_)
    · replace c15 := mt bI_0.mpr c15
      replace c15 := bNf c15
      refine g_aload_n hX dX6_saying_20 0 rfl ?_
      have hc21 : CUT (mw E a M) (mw E a M) (([] : va_W)) [0, 1, 2, 3, 4, 5, 6, 7, 8, 9, 10, 11, 12] [] := ⟨rfl, rfl, rfl, rfl, rfl⟩
      refine g_VV hX hc21 [] [] (c_X6_asItIs l E a M) gX6_saying_X6_asItIs calX6_asItIs rfl rfl rfl rfl 0 rfl rfl rfl rfl dX6_saying_21 rfl ⟨Nat.zero_le _, Nat.zero_le _⟩ (fun _ => mw E a (mkMV (mT M) (mS M) (mA M) (mW M) (mK M) (mP M) (mE M) (mN M) (mX M) (mL M) (mI M) (mD M) (mR M) (mM M) (cpR ((mO M)) ((mS M)) 0 0) (mF M) (mU M) (mQ M) (mZ M) (mG M) (mH M))) [0, 1, 2, 3, 4, 5, 6, 7, 8, 9, 10, 11, 12] rfl (fun _ => rfl) (fun _ hu21 => ?_)
      refine g_iload_n hX dX6_saying_24 2 rfl ?_
      refine g_iconst hX (nI 4) dX6_saying_25 rfl ?_
      refine g_icmp_ge hX 42 dX6_saying_26 (by decide) (fun c26 => ?_) (fun c26 => ?_)
      · replace c26 := (nI_leI (by omega) (by omega)).mp c26
        refine g_iload_n hX dX6_saying_42 2 rfl ?_
        refine g_iconst hX (nI 4) dX6_saying_43 rfl ?_
        refine g_icmp_ne hX 69 dX6_saying_44 (by decide) (fun c44 => ?_) (fun c44 => ?_)
        · replace c44 := mt (nI_eq (by omega) (by omega)).mpr c44
          refine g_iload_n hX dX6_saying_69 2 rfl ?_
          refine g_iconst hX (nI 5) dX6_saying_70 rfl ?_
          refine g_icmp_ne hX 87 dX6_saying_71 (by decide) (fun c71 => ?_) (fun c71 => ?_)
          · replace c71 := mt (nI_eq (by omega) (by omega)).mpr c71
            refine g_aload_n hX dX6_saying_87 0 rfl ?_
            refine g_get hX (v := .ref (a 1)) 0 inRX6 (atModel_0 _ _ _ _ _ _ _ _ _ _ _ _ _ _ _ _ _ _ _ _ _ _ _) rfl 1 rfl fl7 rfl rfl dX6_saying_88 ?_
            refine g_bipush hX (nI 40) dX6_saying_91 rfl ?_
            refine g_iload_n hX dX6_saying_93 1 rfl ?_
            refine g_iadd hX (nI (40 + s)) dX6_saying_94 (nI_add _ _) ?_
            refine g_iald hX (mS M (40 + s)) 1 0 (atModel_1 _ _ _ _ _ _ _ _ _ _ _ _ _ _ _ _ _ _ _ _ _ _ _) rfl (vp_in_nI (by omega) (by omega)) (ald_n (g := fun zz => (mS M) zz) (i := 40 + s) (by omega)) dX6_saying_95 ?_
            refine g_if_ge hX 104 dX6_saying_96 (by decide) (fun c96 => ?_) (fun c96 => ?_)
            · replace c96 := (rs_ge0 hS.2 hV hs).mp c96
              refine g_aload_n hX dX6_saying_104 0 rfl ?_
              refine g_get hX (v := .ref (a 1)) 0 inRX6 (atModel_0 _ _ _ _ _ _ _ _ _ _ _ _ _ _ _ _ _ _ _ _ _ _ _) rfl 1 rfl fl7 rfl rfl dX6_saying_105 ?_
              refine g_bipush hX (nI 40) dX6_saying_108 rfl ?_
              refine g_iload_n hX dX6_saying_110 1 rfl ?_
              refine g_iadd hX (nI (40 + s)) dX6_saying_111 (nI_add _ _) ?_
              refine g_iald hX (mS M (40 + s)) 1 0 (atModel_1 _ _ _ _ _ _ _ _ _ _ _ _ _ _ _ _ _ _ _ _ _ _ _) rfl (vp_in_nI (by omega) (by omega)) (ald_n (g := fun zz => (mS M) zz) (i := 40 + s) (by omega)) dX6_saying_112 ?_
              exact g_eq rfl rfl (congrArg (fun z => [Value.int z]) (by show _ = sayV C s w; first | (rw [say_4 c44, c58]; rfl) | exact (say_5 c71).symm | (rw [say_6 c26 c44 c71, c96]; rfl) | (rw [say_6 c26 c44 c71, c96, RS_m hS.2 hs c96]; rfl))) (hret (mkMV (mT M) (mS M) (mA M) (mW M) (mK M) (mP M) (mE M) (mN M) (mX M) (mL M) (mI M) (mD M) (mR M) (mM M) (cpR ((mO M)) ((mS M)) 0 0) (mF M) (mU M) (mQ M) (mZ M) (mG M) (mH M)) _ _ (⟨⟨rfl, rfl, rfl, rfl, rfl, rfl, rfl⟩, ⟨rfl, rfl⟩, rfl⟩) dX6_saying_113)
            · replace c96 := mt (rs_ge0 hS.2 hV hs).mpr c96
              replace c96 := bNt c96
              refine g_bipush hX ((-4)) dX6_saying_99 rfl ?_
              refine g_goto hX 113 dX6_saying_101 (by decide) ?_
              exact g_eq rfl rfl (congrArg (fun z => [Value.int z]) (by show _ = sayV C s w; first | (rw [say_4 c44, c58]; rfl) | exact (say_5 c71).symm | (rw [say_6 c26 c44 c71, c96]; rfl) | (rw [say_6 c26 c44 c71, c96, RS_m hS.2 hs c96]; rfl))) (hret (mkMV (mT M) (mS M) (mA M) (mW M) (mK M) (mP M) (mE M) (mN M) (mX M) (mL M) (mI M) (mD M) (mR M) (mM M) (cpR ((mO M)) ((mS M)) 0 0) (mF M) (mU M) (mQ M) (mZ M) (mG M) (mH M)) _ _ (⟨⟨rfl, rfl, rfl, rfl, rfl, rfl, rfl⟩, ⟨rfl, rfl⟩, rfl⟩) dX6_saying_113)
          · replace c71 := (nI_eq (by omega) (by omega)).mp c71
            refine g_aload_n hX dX6_saying_74 0 rfl ?_
            refine g_get hX (v := .ref (a 1)) 0 inRX6 (atModel_0 _ _ _ _ _ _ _ _ _ _ _ _ _ _ _ _ _ _ _ _ _ _ _) rfl 1 rfl fl7 rfl rfl dX6_saying_75 ?_
            refine g_iconst hX (nI 3) dX6_saying_78 rfl ?_
            refine g_iald hX (nI (cG C)) 1 0 (atModel_1 _ _ _ _ _ _ _ _ _ _ _ _ _ _ _ _ _ _ _ _ _ _ _) rfl (vp_in_nI (by omega) (by omega)) ((ald_n (g := fun zz => (mS M) zz) (i := 3) (by omega)).trans (RB_G hS.1)) dX6_saying_79 ?_
            refine g_iload_n hX dX6_saying_80 1 rfl ?_
            refine g_ishr hX (nI ((cG C) >>> s)) dX6_saying_81 (sh_r (by omega) (by omega)) ?_
            refine g_iconst hX (nI 1) dX6_saying_82 rfl ?_
            refine g_iand hX (bI ((cG C).testBit s)) dX6_saying_83 (and1_b _ _) ?_
            refine g_goto hX 113 dX6_saying_84 (by decide) ?_
            exact g_eq rfl rfl (congrArg (fun z => [Value.int z]) (by show _ = sayV C s w; first | (rw [say_4 c44, c58]; rfl) | exact (say_5 c71).symm | (rw [say_6 c26 c44 c71, c96]; rfl) | (rw [say_6 c26 c44 c71, c96, RS_m hS.2 hs c96]; rfl))) (hret (mkMV (mT M) (mS M) (mA M) (mW M) (mK M) (mP M) (mE M) (mN M) (mX M) (mL M) (mI M) (mD M) (mR M) (mM M) (cpR ((mO M)) ((mS M)) 0 0) (mF M) (mU M) (mQ M) (mZ M) (mG M) (mH M)) _ _ (⟨⟨rfl, rfl, rfl, rfl, rfl, rfl, rfl⟩, ⟨rfl, rfl⟩, rfl⟩) dX6_saying_113)
        · replace c44 := (nI_eq (by omega) (by omega)).mp c44
          refine g_aload_n hX dX6_saying_47 0 rfl ?_
          refine g_iload_n hX dX6_saying_48 1 rfl ?_
          refine g_aload_n hX dX6_saying_49 0 rfl ?_
          refine g_get hX (v := .ref (a 1)) 0 inRX6 (atModel_0 _ _ _ _ _ _ _ _ _ _ _ _ _ _ _ _ _ _ _ _ _ _ _) rfl 1 rfl fl7 rfl rfl dX6_saying_50 ?_
          refine g_iconst hX (nI 0) dX6_saying_53 rfl ?_
          refine g_iald hX (nI (cF C)) 1 0 (atModel_1 _ _ _ _ _ _ _ _ _ _ _ _ _ _ _ _ _ _ _ _ _ _ _) rfl (vp_in_nI (by omega) (by omega)) ((ald_n (g := fun zz => (mS M) zz) (i := 0) (by omega)).trans (RB_F hS.1)) dX6_saying_54 ?_
          have hc55 : CUT (mw E a (mkMV (mT M) (mS M) (mA M) (mW M) (mK M) (mP M) (mE M) (mN M) (mX M) (mL M) (mI M) (mD M) (mR M) (mM M) (cpR ((mO M)) ((mS M)) 0 0) (mF M) (mU M) (mQ M) (mZ M) (mG M) (mH M))) (mw E a (mkMV (mT M) (mS M) (mA M) (mW M) (mK M) (mP M) (mE M) (mN M) (mX M) (mL M) (mI M) (mD M) (mR M) (mM M) (cpR ((mO M)) ((mS M)) 0 0) (mF M) (mU M) (mQ M) (mZ M) (mG M) (mH M))) (([] : va_W)) [0, 1, 2, 3, 4, 5, 6, 7, 8, 9, 10, 11, 12] [] := ⟨rfl, rfl, rfl, rfl, rfl⟩
          refine g_VI hX hc55 [.int (nI s), .int (nI (cF C))] [] (c_X6_isSo l E a (mkMV (mT M) (mS M) (mA M) (mW M) (mK M) (mP M) (mE M) (mN M) (mX M) (mL M) (mI M) (mD M) (mR M) (mM M) (cpR ((mO M)) ((mS M)) 0 0) (mF M) (mU M) (mQ M) (mZ M) (mG M) (mH M)) C s (cF C) (by first | assumption | omega) (RB_cp h9 hS.1) (by omega) (by omega)) gX6_saying_X6_isSo calX6_isSo rfl rfl rfl rfl 0 rfl rfl rfl rfl dX6_saying_55 rfl ⟨Nat.zero_le _, Nat.zero_le _⟩ (fun _ => mw E a (mkMV (mT M) (mS M) (mA M) (mW M) (mK M) (mP M) (mE M) (mN M) (mX M) (mL M) (mI M) (mD M) (mR M) (mM M) (cpR ((mO M)) ((mS M)) 0 0) (mF M) (mU M) (mQ M) (mZ M) (mG M) (mH M))) [0, 1, 2, 3, 4, 5, 6, 7, 8, 9, 10, 11, 12] rfl (fun _ => rfl) (fun _ hu55 => ?_)
          refine g_if_eq hX 65 dX6_saying_58 (by decide) (fun c58 => ?_) (fun c58 => ?_)
          · replace c58 := bI_0.mp c58
            refine g_iconst hX (nI 0) dX6_saying_65 rfl ?_
            refine g_goto hX 113 dX6_saying_66 (by decide) ?_
            exact g_eq rfl rfl (congrArg (fun z => [Value.int z]) (by show _ = sayV C s w; first | (rw [say_4 c44, c58]; rfl) | exact (say_5 c71).symm | (rw [say_6 c26 c44 c71, c96]; rfl) | (rw [say_6 c26 c44 c71, c96, RS_m hS.2 hs c96]; rfl))) (hret (mkMV (mT M) (mS M) (mA M) (mW M) (mK M) (mP M) (mE M) (mN M) (mX M) (mL M) (mI M) (mD M) (mR M) (mM M) (cpR ((mO M)) ((mS M)) 0 0) (mF M) (mU M) (mQ M) (mZ M) (mG M) (mH M)) _ _ (⟨⟨rfl, rfl, rfl, rfl, rfl, rfl, rfl⟩, ⟨rfl, rfl⟩, rfl⟩) dX6_saying_113)
          · replace c58 := mt bI_0.mpr c58
            replace c58 := bNf c58
            refine g_iconst hX (nI 1) dX6_saying_61 rfl ?_
            refine g_goto hX 113 dX6_saying_62 (by decide) ?_
            exact g_eq rfl rfl (congrArg (fun z => [Value.int z]) (by show _ = sayV C s w; first | (rw [say_4 c44, c58]; rfl) | exact (say_5 c71).symm | (rw [say_6 c26 c44 c71, c96]; rfl) | (rw [say_6 c26 c44 c71, c96, RS_m hS.2 hs c96]; rfl))) (hret (mkMV (mT M) (mS M) (mA M) (mW M) (mK M) (mP M) (mE M) (mN M) (mX M) (mL M) (mI M) (mD M) (mR M) (mM M) (cpR ((mO M)) ((mS M)) 0 0) (mF M) (mU M) (mQ M) (mZ M) (mG M) (mH M)) _ _ (⟨⟨rfl, rfl, rfl, rfl, rfl, rfl, rfl⟩, ⟨rfl, rfl⟩, rfl⟩) dX6_saying_113)
      · replace c26 := mt (nI_leI (by omega) (by omega)).mpr c26
        refine g_aload_n hX dX6_saying_29 0 rfl ?_
        refine g_get hX (v := .ref (a 1)) 0 inRX6 (atModel_0 _ _ _ _ _ _ _ _ _ _ _ _ _ _ _ _ _ _ _ _ _ _ _) rfl 1 rfl fl7 rfl rfl dX6_saying_30 ?_
        refine g_iconst hX (nI 4) dX6_saying_33 rfl ?_
        refine g_iconst hX (nI 4) dX6_saying_34 rfl ?_
        refine g_iload_n hX dX6_saying_35 1 rfl ?_
        refine g_imul hX (nI (4 * s)) dX6_saying_36 (pk_mul _ _) ?_
        refine g_iadd hX (nI (4 + (4 * s))) dX6_saying_37 (nI_add _ _) ?_
        refine g_iload_n hX dX6_saying_38 2 rfl ?_
        refine g_iadd hX (nI ((4 + (4 * s)) + w)) dX6_saying_39 (nI_add _ _) ?_
        refine g_iald hX (mS M ((4 + (4 * s)) + w)) 1 0 (atModel_1 _ _ _ _ _ _ _ _ _ _ _ _ _ _ _ _ _ _ _ _ _ _ _) rfl (vp_in_nI (by omega) (by omega)) (ald_n (g := fun zz => (mS M) zz) (i := (4 + (4 * s)) + w) (by omega)) dX6_saying_40 ?_
        exact g_eq rfl rfl (congrArg (fun z => [Value.int z]) (say_lo hS.1 hs (by omega))) (hret (mkMV (mT M) (mS M) (mA M) (mW M) (mK M) (mP M) (mE M) (mN M) (mX M) (mL M) (mI M) (mD M) (mR M) (mM M) (cpR ((mO M)) ((mS M)) 0 0) (mF M) (mU M) (mQ M) (mZ M) (mG M) (mH M)) _ _ (⟨⟨rfl, rfl, rfl, rfl, rfl, rfl, rfl⟩, ⟨rfl, rfl⟩, rfl⟩) dX6_saying_41)
    · replace c15 := bI_0.mp c15
      exact absurd c15 (by simp)
set_option maxHeartbeats 4000000 in
set_option maxRecDepth 100000 in
theorem c_X6_fact_n (l : Launch) (E : EV) (a : Nat → Nat) (M : MV) (x0 : Int32) (hx : win x0 (nI 0) (nI 5) = false) : KI l yX6_fact wsX6_fact (rmN 2) E (σ := Unit) [.ref (a 0), .int x0] (mw E a M) (fun _ => True) (fun _ => (-1)) (fun _ => mw E a M) 0 0 := by
  refine KI.of (cc := cX6_fact) (maxL := 2) (ty := .int) (hnar := fun _ _ => rfl) rfl rfl rfl (fun x hX hin hret hnL => ?_)
  replace hX : CX x l cX6_fact RX6 wsX6_fact E (rmN 2) := hX
  show GG x 0 0 (mw E a M) 0 [(0, .ref (a 0)), (1, .int x0)] []
  refine g_iload_n hX dX6_fact_0 1 rfl ?_
  have hc1 : CUT (mw E a M) (([] : va_W)) (mw E a M) [] [0, 1, 2, 3, 4, 5, 6, 7, 8, 9, 10, 11, 12] := ⟨rfl, rfl, rfl, rfl, rfl⟩
  refine g_TI hX hc1 [.int x0] [] (c_X6_isFact_no l E x0 (by first | assumption | omega)) gX6_fact_X6_isFact calX6_isFact rfl rfl rfl rfl dX6_fact_1 rfl ⟨Nat.zero_le _, Nat.zero_le _⟩ (fun _ => mw E a M) [0, 1, 2, 3, 4, 5, 6, 7, 8, 9, 10, 11, 12] rfl (fun _ => rfl) (fun _ hu1 => ?_)
  refine g_if_eq hX 20 dX6_fact_4 (by decide) (fun c4 => ?_) (fun c4 => ?_)
  · replace c4 := bI_0.mp c4
    refine g_iconst hX ((-1)) dX6_fact_20 rfl ?_
    exact g_eq rfl rfl rfl (hret () _ _ trivial dX6_fact_21)
  · replace c4 := mt bI_0.mpr c4
    replace c4 := bNf c4
    exact absurd c4 (by simp)
set_option maxHeartbeats 4000000 in
set_option maxRecDepth 100000 in
theorem c_X6_fact_y (l : Launch) (E : EV) (a : Nat → Nat) (M : MV) (C : FC) (f : Nat) (hF : cF C < 64) (hS : RB C (mS M)) (hf : f < 6) : KI l yX6_fact wsX6_fact (rmN 2) E (σ := Unit) [.ref (a 0), .int (nI f)] (mw E a M) (fun _ => True) (fun _ => (bI ((cF C).testBit f))) (fun _ => mw E a M) 0 0 := by
  refine KI.of (cc := cX6_fact) (maxL := 2) (ty := .int) (hnar := fun _ _ => rfl) rfl rfl rfl (fun x hX hin hret hnL => ?_)
  replace hX : CX x l cX6_fact RX6 wsX6_fact E (rmN 2) := hX
  show GG x 0 0 (mw E a M) 0 [(0, .ref (a 0)), (1, .int (nI f))] []
  have inRX6 : ∀ w ∈ wsX60, w ∈ wsX6_fact := by decide +kernel
  have fl7 : Cond.fieldLink RX6 7 "LieForceModel" "st" "[I" ∈ wsX6_fact := by decide +kernel
  refine g_iload_n hX dX6_fact_0 1 rfl ?_
  have hc1 : CUT (mw E a M) (([] : va_W)) (mw E a M) [] [0, 1, 2, 3, 4, 5, 6, 7, 8, 9, 10, 11, 12] := ⟨rfl, rfl, rfl, rfl, rfl⟩
  refine g_TI hX hc1 [.int (nI f)] [] (c_X6_isFact_y l E f (by omega)) gX6_fact_X6_isFact calX6_isFact rfl rfl rfl rfl dX6_fact_1 rfl ⟨Nat.zero_le _, Nat.zero_le _⟩ (fun _ => mw E a M) [0, 1, 2, 3, 4, 5, 6, 7, 8, 9, 10, 11, 12] rfl (fun _ => rfl) (fun _ hu1 => ?_)
  refine g_if_eq hX 20 dX6_fact_4 (by decide) (fun c4 => ?_) (fun c4 => ?_)
  · replace c4 := bI_0.mp c4
    exact absurd c4 (by simp)
  · replace c4 := mt bI_0.mpr c4
    replace c4 := bNf c4
    refine g_aload_n hX dX6_fact_7 0 rfl ?_
    refine g_get hX (v := .ref (a 1)) 0 inRX6 rfl rfl 1 rfl fl7 rfl rfl dX6_fact_8 ?_
    refine g_iconst hX (nI 0) dX6_fact_11 rfl ?_
    refine g_iald hX (nI (cF C)) 1 0 rfl rfl (vp_in_nI (by omega) (by omega)) ((ald_n (g := fun zz => (mS M) zz) (i := 0) (by omega)).trans (RB_F hS)) dX6_fact_12 ?_
    refine g_iload_n hX dX6_fact_13 1 rfl ?_
    refine g_ishr hX (nI ((cF C) >>> f)) dX6_fact_14 (sh_r (by omega) (by omega)) ?_
    refine g_iconst hX (nI 1) dX6_fact_15 rfl ?_
    refine g_iand hX (bI ((cF C).testBit f)) dX6_fact_16 (and1_b _ _) ?_
    refine g_goto hX 21 dX6_fact_17 (by decide) ?_
    exact g_eq rfl rfl rfl (hret () _ _ trivial dX6_fact_21)
