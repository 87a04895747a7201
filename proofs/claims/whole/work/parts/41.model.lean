set_option maxHeartbeats 4000000 in
set_option maxRecDepth 100000 in
theorem c_X6_trial_n (l : Launch) (E : EV) (a : Nat → Nat) (M : MV) (C : FC) (m : Nat) (x0 : Int32) (x1 : Int32) (hD : DI C m) (hm : m < 2 ^ 29) (hN1 : 1 ≤ cN C) (hS : RW C (mS M)) (hTm : cT C = mT M) (hx : (win x0 (nI 1) (nI 4) && win x1 (nI 0) (nI 1)) = false) : KI l yX6_trial wsX6_trial (rmN 5) E (σ := MV) [.ref (a 0), .int x0, .int x1] (mw E a M) (fun u => KS M u) (fun u => (-1)) (fun u => mw E a u) 0 0 := by
  refine KI.of (cc := cX6_trial) (maxL := 8) (ty := .int) (hnar := fun _ _ => rfl) rfl rfl rfl (fun x hX hin hret hnL => ?_)
  replace hX : CX x l cX6_trial RX6 wsX6_trial E (rmN 5) := hX
  show GG x 0 0 (mw E a M) 0 [(0, .ref (a 0)), (1, .int x0), (2, .int x1)] []
  obtain ⟨hC, hVY, hZ, hYm⟩ := id hD
  obtain ⟨⟨h9, h64, h512, hT, hI⟩, hK⟩ := id hC
  have hV := DI_VB hD (by omega)
  refine g_iload_n hX dX6_trial_0 1 rfl ?_
  refine g_iconst hX (nI 1) dX6_trial_1 rfl ?_
  refine g_iconst hX (nI 4) dX6_trial_2 rfl ?_
  have hc3 : CUT (mw E a M) (([] : va_W)) (mw E a M) [] [0, 1, 2, 3, 4, 5, 6, 7, 8, 9, 10, 11, 12] := ⟨rfl, rfl, rfl, rfl, rfl⟩
  refine g_TI hX hc3 [.int x0, .int (nI 1), .int (nI 4)] [] (c_X6_in l E x0 (nI 1) (nI 4)) gX6_trial_X6_in calX6_in rfl rfl rfl rfl dX6_trial_3 rfl ⟨Nat.zero_le _, Nat.zero_le _⟩ (fun _ => mw E a M) [0, 1, 2, 3, 4, 5, 6, 7, 8, 9, 10, 11, 12] rfl (fun _ => rfl) (fun _ hu3 => ?_)
  refine g_if_eq hX 18 dX6_trial_6 (by decide) (fun c6 => ?_) (fun c6 => ?_)
  · replace c6 := bI_0.mp c6
    refine g_iconst hX ((-1)) dX6_trial_18 rfl ?_
    exact g_eq rfl rfl rfl (hret M _ _ (⟨⟨rfl, rfl, rfl, rfl, rfl, rfl, rfl⟩, ⟨rfl, rfl⟩, rfl⟩) dX6_trial_19)
  · replace c6 := mt bI_0.mpr c6
    replace c6 := bNf c6
    refine g_iload_n hX dX6_trial_9 2 rfl ?_
    refine g_iconst hX (nI 0) dX6_trial_10 rfl ?_
    refine g_iconst hX (nI 1) dX6_trial_11 rfl ?_
    have hc12 : CUT (mw E a M) (([] : va_W)) (mw E a M) [] [0, 1, 2, 3, 4, 5, 6, 7, 8, 9, 10, 11, 12] := ⟨rfl, rfl, rfl, rfl, rfl⟩
    refine g_TI hX hc12 [.int x1, .int (nI 0), .int (nI 1)] [] (c_X6_in l E x1 (nI 0) (nI 1)) gX6_trial_X6_in calX6_in rfl rfl rfl rfl dX6_trial_12 rfl ⟨Nat.zero_le _, Nat.zero_le _⟩ (fun _ => mw E a M) [0, 1, 2, 3, 4, 5, 6, 7, 8, 9, 10, 11, 12] rfl (fun _ => rfl) (fun _ hu12 => ?_)
    refine g_if_ne hX 20 dX6_trial_15 (by decide) (fun c15 => ?_) (fun c15 => ?_)
    · replace c15 := mt bI_0.mpr c15
      replace c15 := bNf c15
      rw [c6, c15] at hx; cases hx
    · replace c15 := bI_0.mp c15
      refine g_iconst hX ((-1)) dX6_trial_18 rfl ?_
      exact g_eq rfl rfl rfl (hret M _ _ (⟨⟨rfl, rfl, rfl, rfl, rfl, rfl, rfl⟩, ⟨rfl, rfl⟩, rfl⟩) dX6_trial_19)
set_option maxHeartbeats 4000000 in
set_option maxRecDepth 100000 in
theorem c_X6_trial_y (l : Launch) (E : EV) (a : Nat → Nat) (M : MV) (C : FC) (m : Nat) (n : Nat) (p : Nat) (hD : DI C m) (hm : m < 2 ^ 29) (hN1 : 1 ≤ cN C) (hS : RW C (mS M)) (hTm : cT C = mT M) (hn1 : 1 ≤ n) (hn4 : n ≤ 4) (hp : p ≤ 1) : KI l yX6_trial wsX6_trial (rmN 5) E (σ := MV) [.ref (a 0), .int (nI n), .int (nI p)] (mw E a M) (fun u => KS M u) (fun u => (if p = 0 then nI (lvF C n n (cF C)) else oI (trF (lvF C n (n - 1)) (cF C) 6))) (fun u => mw E a u) 0 0 := by
  refine KI.of (cc := cX6_trial) (maxL := 8) (ty := .int) (hnar := fun _ _ => rfl) rfl rfl rfl (fun x hX hin hret hnL => ?_)
  replace hX : CX x l cX6_trial RX6 wsX6_trial E (rmN 5) := hX
  show GG x 0 0 (mw E a M) 0 [(0, .ref (a 0)), (1, .int (nI n)), (2, .int (nI p))] []
  have inRX6 : ∀ w ∈ wsX60, w ∈ wsX6_trial := by decide +kernel
  have fl40 : Cond.fieldLink RX6 40 "LieForceModel" "ends" "[I" ∈ wsX6_trial := by decide +kernel
  have fl43 : Cond.fieldLink RX6 43 "LieForceModel" "next" "[I" ∈ wsX6_trial := by decide +kernel
  have fl7 : Cond.fieldLink RX6 7 "LieForceModel" "st" "[I" ∈ wsX6_trial := by decide +kernel
  obtain ⟨hC, hVY, hZ, hYm⟩ := id hD
  obtain ⟨⟨h9, h64, h512, hT, hI⟩, hK⟩ := id hC
  have hV := DI_VB hD (by omega)
  have hNO := RB_cp (f := mO M) h9 hS.1
  refine g_iload_n hX dX6_trial_0 1 rfl ?_
  refine g_iconst hX (nI 1) dX6_trial_1 rfl ?_
  refine g_iconst hX (nI 4) dX6_trial_2 rfl ?_
  have hc3 : CUT (mw E a M) (([] : va_W)) (mw E a M) [] [0, 1, 2, 3, 4, 5, 6, 7, 8, 9, 10, 11, 12] := ⟨rfl, rfl, rfl, rfl, rfl⟩
  refine g_TI hX hc3 [.int (nI n), .int (nI 1), .int (nI 4)] [] (c_X6_in_y l E n 1 4 (by omega) (by omega) (by omega)) gX6_trial_X6_in calX6_in rfl rfl rfl rfl dX6_trial_3 rfl ⟨Nat.zero_le _, Nat.zero_le _⟩ (fun _ => mw E a M) [0, 1, 2, 3, 4, 5, 6, 7, 8, 9, 10, 11, 12] rfl (fun _ => rfl) (fun _ hu3 => ?_)
  refine g_if_eq hX 18 dX6_trial_6 (by decide) (fun c6 => ?_) (fun c6 => ?_)
  · replace c6 := bI_0.mp c6
    exact absurd c6 (by simp)
  · replace c6 := mt bI_0.mpr c6
    replace c6 := bNf c6
    refine g_iload_n hX dX6_trial_9 2 rfl ?_
    refine g_iconst hX (nI 0) dX6_trial_10 rfl ?_
    refine g_iconst hX (nI 1) dX6_trial_11 rfl ?_
    have hc12 : CUT (mw E a M) (([] : va_W)) (mw E a M) [] [0, 1, 2, 3, 4, 5, 6, 7, 8, 9, 10, 11, 12] := ⟨rfl, rfl, rfl, rfl, rfl⟩
    refine g_TI hX hc12 [.int (nI p), .int (nI 0), .int (nI 1)] [] (c_X6_in_y l E p 0 1 (by omega) (by omega) (by omega)) gX6_trial_X6_in calX6_in rfl rfl rfl rfl dX6_trial_12 rfl ⟨Nat.zero_le _, Nat.zero_le _⟩ (fun _ => mw E a M) [0, 1, 2, 3, 4, 5, 6, 7, 8, 9, 10, 11, 12] rfl (fun _ => rfl) (fun _ hu12 => ?_)
    refine g_if_ne hX 20 dX6_trial_15 (by decide) (fun c15 => ?_) (fun c15 => ?_)
    · replace c15 := mt bI_0.mpr c15
      replace c15 := bNf c15
      refine g_aload_n hX dX6_trial_20 0 rfl ?_
      have hc21 : CUT (mw E a M) (mw E a M) (([] : va_W)) [0, 1, 2, 3, 4, 5, 6, 7, 8, 9, 10, 11, 12] [] := ⟨rfl, rfl, rfl, rfl, rfl⟩
      refine g_VV hX hc21 [] [] (c_X6_asItIs l E a M) gX6_trial_X6_asItIs calX6_asItIs rfl rfl rfl rfl 0 rfl rfl rfl rfl dX6_trial_21 rfl ⟨Nat.zero_le _, Nat.zero_le _⟩ (fun _ => mw E a (mkMV (mT M) (mS M) (mA M) (mW M) (mK M) (mP M) (mE M) (mN M) (mX M) (mL M) (mI M) (mD M) (mR M) (mM M) (cpR ((mO M)) ((mS M)) 0 0) (mF M) (mU M) (mQ M) (mZ M) (mG M) (mH M))) [0, 1, 2, 3, 4, 5, 6, 7, 8, 9, 10, 11, 12] rfl (fun _ => rfl) (fun _ hu21 => ?_)
      refine g_iconst hX (nI 0) dX6_trial_24 rfl ?_
      refine g_istore_n hX (j := 3) [(3, .int (nI 0)), (0, .ref (a 0)), (1, .int (nI n)), (2, .int (nI p))] dX6_trial_25 rfl (by rw [hnL]; rfl) rfl ?_
      have lp26 : ∀ (fuel : Nat) (w : Nat) (g : Nat → Nat), 64 - w < fuel → (w ≤ 64) → (∀ x, x < w → g x = lvF C n 0 x) → GG x 0 0 (mw E a (mkMV (mT M) (mS M) (mA M) (mW M) (mK M) (mP M) (mE M) (mN M) (mX M) (mL M) (mI M) (mD M) (mR M) (mM M) (cpR (mO M) (mS M) 0 0) (mF M) (mU M) (mQ M) (mZ M) g (mH M))) 26 [(0, .ref (a 0)), (1, .int (nI n)), (2, .int (nI p)), (3, .int (nI w))] [] := by
        intro fuel
        induction fuel with
        | zero => intro w g hm; exact absurd hm (Nat.not_lt_zero _)
        | succ fuel ih26 =>
          intro w g hm26 hw hg
          refine g_iload_n hX dX6_trial_26 3 rfl ?_
          refine g_bipush hX (nI 64) dX6_trial_27 rfl ?_
          refine g_icmp_ge hX 52 dX6_trial_29 (by decide) (fun c29 => ?_) (fun c29 => ?_)
          · replace c29 := (nI_leI (by omega) (by omega)).mp c29
            refine g_iload_n hX dX6_trial_52 1 rfl ?_
            refine g_iconst hX (nI 1) dX6_trial_53 rfl ?_
            refine g_isub hX (nI (n - 1)) dX6_trial_54 (pk_sub (by omega)) ?_
            refine g_istore_n hX (j := 3) [(3, .int (nI (n - 1))), (0, .ref (a 0)), (1, .int (nI n)), (2, .int (nI p))] dX6_trial_55 rfl (by rw [hnL]; rfl) rfl ?_
            have lp56 : ∀ (fuel : Nat) (t : Nat) (z : Nat → Nat) (y : Nat → Nat), t < fuel → (t ≤ n - 1) → (LV C n (n - 1 - t) z) → GG x 0 0 (mw E a (mkMV (mT M) (mS M) (mA M) (mW M) (mK M) (mP M) (mE M) (mN M) (mX M) (mL M) (mI M) (mD M) (mR M) (mM M) (cpR (mO M) (mS M) 0 0) (mF M) (mU M) (mQ M) (mZ M) z y)) 56 [(0, .ref (a 0)), (1, .int (nI n)), (2, .int (nI p)), (3, .int (nI t))] [] := by
              intro fuel
              induction fuel with
              | zero => intro t z y hm; exact absurd hm (Nat.not_lt_zero _)
              | succ fuel ih56 =>
                intro t z y hm56 ht hz
                refine g_iload_n hX dX6_trial_56 3 rfl ?_
                refine g_if_le hX 225 dX6_trial_57 (by decide) (fun c57 => ?_) (fun c57 => ?_)
                · replace c57 := (nz_le (by omega)).mp c57
                  refine g_aload_n hX dX6_trial_225 0 rfl ?_
                  refine g_get hX (v := .ref (a 11)) 0 inRX6 (atModel_0 _ _ _ _ _ _ _ _ _ _ _ _ _ _ _ _ _ _ _ _ _ _ _) rfl 19 rfl fl40 rfl rfl dX6_trial_226 ?_
                  refine g_aload_n hX dX6_trial_229 0 rfl ?_
                  refine g_get hX (v := .ref (a 1)) 0 inRX6 (atModel_0 _ _ _ _ _ _ _ _ _ _ _ _ _ _ _ _ _ _ _ _ _ _ _) rfl 1 rfl fl7 rfl rfl dX6_trial_230 ?_
                  refine g_iconst hX (nI 0) dX6_trial_233 rfl ?_
                  refine g_iald hX (nI (cF C)) 1 0 (atModel_1 _ _ _ _ _ _ _ _ _ _ _ _ _ _ _ _ _ _ _ _ _ _ _) rfl (vp_in_nI (by omega) (by omega)) ((ald_n (g := fun zz => (mS M) zz) (i := 0) (by omega)).trans (RB_F hS.1)) dX6_trial_234 ?_
                  refine g_iald hX (nI (z (cF C))) 11 0 (atModel_11 _ _ _ _ _ _ _ _ _ _ _ _ _ _ _ _ _ _ _ _ _ _ _) rfl (vp_in_nI (by omega) (by omega)) (ald_n (g := fun zz => nI (z zz)) (i := cF C) (by omega)) dX6_trial_235 ?_
                  refine g_istore_n hX (j := 3) [(3, .int (nI (z (cF C)))), (0, .ref (a 0)), (1, .int (nI n)), (2, .int (nI p))] dX6_trial_236 rfl (by rw [hnL]; rfl) rfl ?_
                  refine g_bipush hX ((-4)) dX6_trial_237 rfl ?_
                  refine g_istore hX (j := 4) [(4, .int (-4)), (3, .int (nI (z (cF C)))), (0, .ref (a 0)), (1, .int (nI n)), (2, .int (nI p))] dX6_trial_239 (by rw [hnL]; rfl) rfl ?_
                  refine g_iconst hX (nI 0) dX6_trial_241 rfl ?_
                  refine g_istore hX (j := 5) [(5, .int (nI 0)), (4, .int (-4)), (3, .int (nI (z (cF C)))), (0, .ref (a 0)), (1, .int (nI n)), (2, .int (nI p))] dX6_trial_242 (by rw [hnL]; rfl) rfl ?_
                  have lp244 : ∀ (fuel : Nat) (f : Nat) (be : Nat) (fi : Int32), 6 - f < fuel → (f ≤ 6) → (be = bsF true z (cF C) f) → (fi = oI (trF z (cF C) f)) → GG x 0 0 (mw E a (mkMV (mT M) (mS M) (mA M) (mW M) (mK M) (mP M) (mE M) (mN M) (mX M) (mL M) (mI M) (mD M) (mR M) (mM M) (cpR (mO M) (mS M) 0 0) (mF M) (mU M) (mQ M) (mZ M) z y)) 244 [(0, .ref (a 0)), (1, .int (nI n)), (2, .int (nI p)), (3, .int (nI be)), (4, .int fi), (5, .int (nI f))] [] := by
                    intro fuel
                    induction fuel with
                    | zero => intro f be fi hm; exact absurd hm (Nat.not_lt_zero _)
                    | succ fuel ih244 =>
                      intro f be fi hm244 hf hbe hfi
                      refine g_iload hX dX6_trial_244 5 rfl ?_
                      refine g_bipush hX (nI 6) dX6_trial_246 rfl ?_
                      refine g_icmp_ge hX 303 dX6_trial_248 (by decide) (fun c248 => ?_) (fun c248 => ?_)
                      · replace c248 := (nI_leI (by omega) (by omega)).mp c248
                        refine g_iload_n hX dX6_trial_303 2 rfl ?_
                        refine g_if_ne hX 311 dX6_trial_304 (by decide) (fun c304 => ?_) (fun c304 => ?_)
                        · replace c304 := mt (nz_eq (by omega)).mpr c304
                          refine g_iload hX dX6_trial_311 4 rfl ?_
                          exact g_eq rfl rfl (congrArg (fun z => [Value.int z]) (by show _ = ite _ _ _; rw [show f = 6 by omega] at hbe hfi; first | (rw [if_pos c304, hbe, (lv_fin hn1 (by omega) hz h64).1]) | (rw [if_neg c304, hfi, (lv_fin hn1 (by omega) hz h64).2]))) (hret (mkMV (mT M) (mS M) (mA M) (mW M) (mK M) (mP M) (mE M) (mN M) (mX M) (mL M) (mI M) (mD M) (mR M) (mM M) (cpR (mO M) (mS M) 0 0) (mF M) (mU M) (mQ M) (mZ M) z y) _ _ (⟨⟨rfl, rfl, rfl, rfl, rfl, rfl, rfl⟩, ⟨rfl, rfl⟩, rfl⟩) dX6_trial_313)
                        · replace c304 := (nz_eq (by omega)).mp c304
                          refine g_iload_n hX dX6_trial_307 3 rfl ?_
                          refine g_goto hX 313 dX6_trial_308 (by decide) ?_
                          exact g_eq rfl rfl (congrArg (fun z => [Value.int z]) (by show _ = ite _ _ _; rw [show f = 6 by omega] at hbe hfi; first | (rw [if_pos c304, hbe, (lv_fin hn1 (by omega) hz h64).1]) | (rw [if_neg c304, hfi, (lv_fin hn1 (by omega) hz h64).2]))) (hret (mkMV (mT M) (mS M) (mA M) (mW M) (mK M) (mP M) (mE M) (mN M) (mX M) (mL M) (mI M) (mD M) (mR M) (mM M) (cpR (mO M) (mS M) 0 0) (mF M) (mU M) (mQ M) (mZ M) z y) _ _ (⟨⟨rfl, rfl, rfl, rfl, rfl, rfl, rfl⟩, ⟨rfl, rfl⟩, rfl⟩) dX6_trial_313)
                      · replace c248 := mt (nI_leI (by omega) (by omega)).mpr c248
                        have hxb := xor_bit_lt (m := 6) (g := cF C) (s := f) (by omega) (by omega)
                        have hv9 := LV_9 h9 hz hxb
                        have hb9 := bs9 h9 hz (q := true) (x := cF C) (k := f) h64 hf
                        refine g_aload_n hX dX6_trial_251 0 rfl ?_
                        refine g_get hX (v := .ref (a 11)) 0 inRX6 (atModel_0 _ _ _ _ _ _ _ _ _ _ _ _ _ _ _ _ _ _ _ _ _ _ _) rfl 19 rfl fl40 rfl rfl dX6_trial_252 ?_
                        refine g_aload_n hX dX6_trial_255 0 rfl ?_
                        refine g_get hX (v := .ref (a 1)) 0 inRX6 (atModel_0 _ _ _ _ _ _ _ _ _ _ _ _ _ _ _ _ _ _ _ _ _ _ _) rfl 1 rfl fl7 rfl rfl dX6_trial_256 ?_
                        refine g_iconst hX (nI 0) dX6_trial_259 rfl ?_
                        refine g_iald hX (nI (cF C)) 1 0 (atModel_1 _ _ _ _ _ _ _ _ _ _ _ _ _ _ _ _ _ _ _ _ _ _ _) rfl (vp_in_nI (by omega) (by omega)) ((ald_n (g := fun zz => (mS M) zz) (i := 0) (by omega)).trans (RB_F hS.1)) dX6_trial_260 ?_
                        refine g_iconst hX (nI 1) dX6_trial_261 rfl ?_
                        refine g_iload hX dX6_trial_262 5 rfl ?_
                        refine g_ishl hX (nI (1 <<< f)) dX6_trial_264 (sh_l _ (by omega)) ?_
                        refine g_ixor hX (nI ((cF C) ^^^ (1 <<< f))) dX6_trial_265 (fb_xorI _ _) ?_
                        refine g_iald hX (nI (z ((cF C) ^^^ (1 <<< f)))) 11 0 (atModel_11 _ _ _ _ _ _ _ _ _ _ _ _ _ _ _ _ _ _ _ _ _ _ _) rfl (vp_in_nI (by omega) (by omega)) (ald_n (g := fun zz => nI (z zz)) (i := (cF C) ^^^ (1 <<< f)) (by omega)) dX6_trial_266 ?_
                        refine g_istore hX (j := 6) [(6, .int (nI (z ((cF C) ^^^ (1 <<< f))))), (0, .ref (a 0)), (1, .int (nI n)), (2, .int (nI p)), (3, .int (nI be)), (4, .int fi), (5, .int (nI f))] dX6_trial_267 (by rw [hnL]; rfl) rfl ?_
                        refine g_iload hX dX6_trial_269 0 rfl ?_
                        refine g_iload_n hX dX6_trial_271 4 rfl ?_
                        refine g_icmp_le hX 280 dX6_trial_272 (by decide) (fun c272 => ?_) (fun c272 => ?_)
                        · replace c272 := (nI_leI (by omega) (by omega)).mp c272
                          refine g_iload hX dX6_trial_280 5 rfl ?_
                          refine g_istore hX (j := 4) [(4, .int fi), (6, .int (nI (z ((cF C) ^^^ (1 <<< f))))), (0, .ref (a 0)), (1, .int (nI n)), (2, .int (nI p)), (3, .int (nI be)), (5, .int (nI f))] dX6_trial_282 (by rw [hnL]; rfl) rfl ?_
                          refine g_iload hX dX6_trial_284 1 rfl ?_
                          refine g_iload_n hX dX6_trial_286 5 rfl ?_
                          refine g_icmp_le hX 295 dX6_trial_287 (by decide) (fun c287 => ?_) (fun c287 => ?_)
                          · replace c287 := (nI_leI (by omega) (by omega)).mp c287
                            refine g_iload_n hX dX6_trial_295 5 rfl ?_
                            refine g_istore_n hX (j := 3) [(3, .int (nI be)), (4, .int fi), (6, .int (nI (z ((cF C) ^^^ (1 <<< f))))), (0, .ref (a 0)), (1, .int (nI n)), (2, .int (nI p)), (5, .int (nI f))] dX6_trial_296 rfl (by rw [hnL]; rfl) rfl ?_
                            refine g_iinc hX (j := 5) (nI (f + 1)) [(5, .int (nI (f + 1))), (3, .int (nI be)), (4, .int fi), (6, .int (nI (z ((cF C) ^^^ (1 <<< f))))), (0, .ref (a 0)), (1, .int (nI n)), (2, .int (nI p))] dX6_trial_297 6 rfl (iinc_n _ _) (by rw [hnL]; rfl) rfl ?_
                            refine g_goto hX 244 dX6_trial_300 (by decide) ?_
                            exact g_lv _ [4, 5, 6, 1, 2, 0] rfl (ih244 (f + 1) be fi (by omega) (by omega) (by rw [bsF, if_pos rfl, ← hbe]; omega) (by rw [trF, ← hbe]; first | (rw [if_pos (by omega)]; rfl) | (rw [if_neg (by omega)]; exact hfi)))
                          · replace c287 := mt (nI_leI (by omega) (by omega)).mpr c287
                            refine g_iload hX dX6_trial_290 1 rfl ?_
                            refine g_goto hX 296 dX6_trial_292 (by decide) ?_
                            refine g_istore_n hX (j := 3) [(3, .int (nI (z ((cF C) ^^^ (1 <<< f))))), (4, .int fi), (6, .int (nI (z ((cF C) ^^^ (1 <<< f))))), (0, .ref (a 0)), (1, .int (nI n)), (2, .int (nI p)), (5, .int (nI f))] dX6_trial_296 rfl (by rw [hnL]; rfl) rfl ?_
                            refine g_iinc hX (j := 5) (nI (f + 1)) [(5, .int (nI (f + 1))), (3, .int (nI (z ((cF C) ^^^ (1 <<< f))))), (4, .int fi), (6, .int (nI (z ((cF C) ^^^ (1 <<< f))))), (0, .ref (a 0)), (1, .int (nI n)), (2, .int (nI p))] dX6_trial_297 6 rfl (iinc_n _ _) (by rw [hnL]; rfl) rfl ?_
                            refine g_goto hX 244 dX6_trial_300 (by decide) ?_
                            exact g_lv _ [4, 5, 6, 1, 2, 0] rfl (ih244 (f + 1) (z ((cF C) ^^^ (1 <<< f))) fi (by omega) (by omega) (by rw [bsF, if_pos rfl, ← hbe]; omega) (by rw [trF, ← hbe]; first | (rw [if_pos (by omega)]; rfl) | (rw [if_neg (by omega)]; exact hfi)))
                        · replace c272 := mt (nI_leI (by omega) (by omega)).mpr c272
                          refine g_iload hX dX6_trial_275 6 rfl ?_
                          refine g_goto hX 282 dX6_trial_277 (by decide) ?_
                          refine g_istore hX (j := 4) [(4, .int (nI f)), (6, .int (nI (z ((cF C) ^^^ (1 <<< f))))), (0, .ref (a 0)), (1, .int (nI n)), (2, .int (nI p)), (3, .int (nI be)), (5, .int (nI f))] dX6_trial_282 (by rw [hnL]; rfl) rfl ?_
                          refine g_iload hX dX6_trial_284 1 rfl ?_
                          refine g_iload_n hX dX6_trial_286 5 rfl ?_
                          refine g_icmp_le hX 295 dX6_trial_287 (by decide) (fun c287 => ?_) (fun c287 => ?_)
                          · replace c287 := (nI_leI (by omega) (by omega)).mp c287
                            refine g_iload_n hX dX6_trial_295 5 rfl ?_
                            refine g_istore_n hX (j := 3) [(3, .int (nI be)), (4, .int (nI f)), (6, .int (nI (z ((cF C) ^^^ (1 <<< f))))), (0, .ref (a 0)), (1, .int (nI n)), (2, .int (nI p)), (5, .int (nI f))] dX6_trial_296 rfl (by rw [hnL]; rfl) rfl ?_
                            refine g_iinc hX (j := 5) (nI (f + 1)) [(5, .int (nI (f + 1))), (3, .int (nI be)), (4, .int (nI f)), (6, .int (nI (z ((cF C) ^^^ (1 <<< f))))), (0, .ref (a 0)), (1, .int (nI n)), (2, .int (nI p))] dX6_trial_297 6 rfl (iinc_n _ _) (by rw [hnL]; rfl) rfl ?_
                            refine g_goto hX 244 dX6_trial_300 (by decide) ?_
                            exact g_lv _ [4, 5, 6, 1, 2, 0] rfl (ih244 (f + 1) be (nI f) (by omega) (by omega) (by rw [bsF, if_pos rfl, ← hbe]; omega) (by rw [trF, ← hbe]; first | (rw [if_pos (by omega)]; rfl) | (rw [if_neg (by omega)]; exact hfi)))
                          · replace c287 := mt (nI_leI (by omega) (by omega)).mpr c287
                            refine g_iload hX dX6_trial_290 1 rfl ?_
                            refine g_goto hX 296 dX6_trial_292 (by decide) ?_
                            refine g_istore_n hX (j := 3) [(3, .int (nI (z ((cF C) ^^^ (1 <<< f))))), (4, .int (nI f)), (6, .int (nI (z ((cF C) ^^^ (1 <<< f))))), (0, .ref (a 0)), (1, .int (nI n)), (2, .int (nI p)), (5, .int (nI f))] dX6_trial_296 rfl (by rw [hnL]; rfl) rfl ?_
                            refine g_iinc hX (j := 5) (nI (f + 1)) [(5, .int (nI (f + 1))), (3, .int (nI (z ((cF C) ^^^ (1 <<< f))))), (4, .int (nI f)), (6, .int (nI (z ((cF C) ^^^ (1 <<< f))))), (0, .ref (a 0)), (1, .int (nI n)), (2, .int (nI p))] dX6_trial_297 6 rfl (iinc_n _ _) (by rw [hnL]; rfl) rfl ?_
                            refine g_goto hX 244 dX6_trial_300 (by decide) ?_
                            exact g_lv _ [4, 5, 6, 1, 2, 0] rfl (ih244 (f + 1) (z ((cF C) ^^^ (1 <<< f))) (nI f) (by omega) (by omega) (by rw [bsF, if_pos rfl, ← hbe]; omega) (by rw [trF, ← hbe]; first | (rw [if_pos (by omega)]; rfl) | (rw [if_neg (by omega)]; exact hfi)))
                  exact g_lv _ [3, 4, 5, 2, 1, 0] rfl (lp244 _ 0 (z (cF C)) (-4) (Nat.lt_succ_self _) (Nat.zero_le _) rfl rfl)
                · replace c57 := mt (nz_le (by omega)).mpr c57
                  refine g_iconst hX (nI 0) dX6_trial_60 rfl ?_
                  refine g_istore hX (j := 4) [(4, .int (nI 0)), (0, .ref (a 0)), (1, .int (nI n)), (2, .int (nI p)), (3, .int (nI t))] dX6_trial_61 (by rw [hnL]; rfl) rfl ?_
                  have lp63 : ∀ (fuel : Nat) (w : Nat) (y : Nat → Nat), 64 - w < fuel → (w ≤ 64) → (∀ x, x < w → y x = bsF (decide (t % 2 = 0)) z x 6) → GG x 0 0 (mw E a (mkMV (mT M) (mS M) (mA M) (mW M) (mK M) (mP M) (mE M) (mN M) (mX M) (mL M) (mI M) (mD M) (mR M) (mM M) (cpR (mO M) (mS M) 0 0) (mF M) (mU M) (mQ M) (mZ M) z y)) 63 [(0, .ref (a 0)), (1, .int (nI n)), (2, .int (nI p)), (3, .int (nI t)), (4, .int (nI w))] [] := by
                    intro fuel
                    induction fuel with
                    | zero => intro w y hm; exact absurd hm (Nat.not_lt_zero _)
                    | succ fuel ih63 =>
                      intro w y hm63 hw hy
                      refine g_iload hX dX6_trial_63 4 rfl ?_
                      refine g_bipush hX (nI 64) dX6_trial_65 rfl ?_
                      refine g_icmp_ge hX 189 dX6_trial_67 (by decide) (fun c67 => ?_) (fun c67 => ?_)
                      · replace c67 := (nI_leI (by omega) (by omega)).mp c67
                        refine g_iconst hX (nI 0) dX6_trial_189 rfl ?_
                        refine g_istore hX (j := 4) [(4, .int (nI 0)), (0, .ref (a 0)), (1, .int (nI n)), (2, .int (nI p)), (3, .int (nI t))] dX6_trial_190 (by rw [hnL]; rfl) rfl ?_
                        have lp192 : ∀ (fuel : Nat) (v : Nat) (z3 : Nat → Nat), 64 - v < fuel → (v ≤ 64) → (∀ x, x < v → z3 x = y x) → GG x 0 0 (mw E a (mkMV (mT M) (mS M) (mA M) (mW M) (mK M) (mP M) (mE M) (mN M) (mX M) (mL M) (mI M) (mD M) (mR M) (mM M) (cpR (mO M) (mS M) 0 0) (mF M) (mU M) (mQ M) (mZ M) z3 y)) 192 [(0, .ref (a 0)), (1, .int (nI n)), (2, .int (nI p)), (3, .int (nI t)), (4, .int (nI v))] [] := by
                          intro fuel
                          induction fuel with
                          | zero => intro v z3 hm; exact absurd hm (Nat.not_lt_zero _)
                          | succ fuel ih192 =>
                            intro v z3 hm192 hv h3
                            refine g_iload hX dX6_trial_192 4 rfl ?_
                            refine g_bipush hX (nI 64) dX6_trial_194 rfl ?_
                            refine g_icmp_ge hX 219 dX6_trial_196 (by decide) (fun c196 => ?_) (fun c196 => ?_)
                            · replace c196 := (nI_leI (by omega) (by omega)).mp c196
                              refine g_iinc hX (j := 3) (nI (t - 1)) [(3, .int (nI (t - 1))), (0, .ref (a 0)), (1, .int (nI n)), (2, .int (nI p)), (4, .int (nI v))] dX6_trial_219 3 rfl (iinc_d (by omega)) (by rw [hnL]; rfl) rfl ?_
                              refine g_goto hX 56 dX6_trial_222 (by decide) ?_
                              exact g_lv _ [1, 2, 3, 0] rfl (ih56 (t - 1) z3 y (by omega) (by omega) (lv_st (by omega) ht hz (fun x hx => (h3 x (by omega)).trans (hy x (by omega)))))
                            · replace c196 := mt (nI_leI (by omega) (by omega)).mpr c196
                              refine g_aload_n hX dX6_trial_199 0 rfl ?_
                              refine g_get hX (v := .ref (a 11)) 0 inRX6 (atModel_0 _ _ _ _ _ _ _ _ _ _ _ _ _ _ _ _ _ _ _ _ _ _ _) rfl 19 rfl fl40 rfl rfl dX6_trial_200 ?_
                              refine g_iload hX dX6_trial_203 4 rfl ?_
                              refine g_aload_n hX dX6_trial_205 0 rfl ?_
                              refine g_get hX (v := .ref (a 12)) 0 inRX6 (atModel_0 _ _ _ _ _ _ _ _ _ _ _ _ _ _ _ _ _ _ _ _ _ _ _) rfl 20 rfl fl43 rfl rfl dX6_trial_206 ?_
                              refine g_iload hX dX6_trial_209 4 rfl ?_
                              refine g_iald hX (nI (y v)) 12 0 (atModel_12 _ _ _ _ _ _ _ _ _ _ _ _ _ _ _ _ _ _ _ _ _ _ _) rfl (vp_in_nI (by omega) (by omega)) (ald_n (g := fun zz => nI (y zz)) (i := v) (by omega)) dX6_trial_211 ?_
                              refine g_iast hX (fun zz => nI ((va_up (z3) v (y v)) zz)) (mw E a (mkMV (mT M) (mS M) (mA M) (mW M) (mK M) (mP M) (mE M) (mN M) (mX M) (mL M) (mI M) (mD M) (mR M) (mM M) (cpR (mO M) (mS M) 0 0) (mF M) (mU M) (mQ M) (mZ M) (va_up (z3) v (y v)) y)) 11 0 (atModel_11 _ _ _ _ _ _ _ _ _ _ _ _ _ _ _ _ _ _ _ _ _ _ _) rfl (vp_in_nI (by omega) (by omega)) (ast_n (by omega)) dX6_trial_212 (stModel_11 _ _ _ _ _ _ _ _ _ _ _ _ _ _ _ _ _ _ _ _ _ _ _ _) ?_
                              refine g_iinc hX (j := 4) (nI (v + 1)) [(4, .int (nI (v + 1))), (0, .ref (a 0)), (1, .int (nI n)), (2, .int (nI p)), (3, .int (nI t))] dX6_trial_213 4 rfl (iinc_n _ _) (by rw [hnL]; rfl) rfl ?_
                              refine g_goto hX 192 dX6_trial_216 (by decide) ?_
                              exact g_lv _ [1, 2, 3, 4, 0] rfl (ih192 (v + 1) (va_up (z3) v (y v)) (by omega) (by omega) (up_st h3 rfl))
                        exact g_lv _ [1, 2, 3, 4, 0] rfl (lp192 _ 0 z (Nat.lt_succ_self _) (Nat.zero_le _) (fun x hx => absurd hx (Nat.not_lt_zero _)))
                      · replace c67 := mt (nI_leI (by omega) (by omega)).mpr c67
                        refine g_aload_n hX dX6_trial_70 0 rfl ?_
                        refine g_get hX (v := .ref (a 12)) 0 inRX6 (atModel_0 _ _ _ _ _ _ _ _ _ _ _ _ _ _ _ _ _ _ _ _ _ _ _) rfl 20 rfl fl43 rfl rfl dX6_trial_71 ?_
                        refine g_iload hX dX6_trial_74 4 rfl ?_
                        refine g_aload_n hX dX6_trial_76 0 rfl ?_
                        refine g_get hX (v := .ref (a 11)) 0 inRX6 (atModel_0 _ _ _ _ _ _ _ _ _ _ _ _ _ _ _ _ _ _ _ _ _ _ _) rfl 19 rfl fl40 rfl rfl dX6_trial_77 ?_
                        refine g_iload hX dX6_trial_80 4 rfl ?_
                        refine g_iald hX (nI (z w)) 11 0 (atModel_11 _ _ _ _ _ _ _ _ _ _ _ _ _ _ _ _ _ _ _ _ _ _ _) rfl (vp_in_nI (by omega) (by omega)) (ald_n (g := fun zz => nI (z zz)) (i := w) (by omega)) dX6_trial_82 ?_
                        refine g_iast hX (fun zz => nI ((va_up (y) w (z w)) zz)) (mw E a (mkMV (mT M) (mS M) (mA M) (mW M) (mK M) (mP M) (mE M) (mN M) (mX M) (mL M) (mI M) (mD M) (mR M) (mM M) (cpR (mO M) (mS M) 0 0) (mF M) (mU M) (mQ M) (mZ M) z (va_up (y) w (z w)))) 12 0 (atModel_12 _ _ _ _ _ _ _ _ _ _ _ _ _ _ _ _ _ _ _ _ _ _ _) rfl (vp_in_nI (by omega) (by omega)) (ast_n (by omega)) dX6_trial_83 (stModel_12 _ _ _ _ _ _ _ _ _ _ _ _ _ _ _ _ _ _ _ _ _ _ _ _) ?_
                        refine g_iconst hX (nI 0) dX6_trial_84 rfl ?_
                        refine g_istore hX (j := 5) [(5, .int (nI 0)), (0, .ref (a 0)), (1, .int (nI n)), (2, .int (nI p)), (3, .int (nI t)), (4, .int (nI w))] dX6_trial_85 (by rw [hnL]; rfl) rfl ?_
                        have lp87 : ∀ (fuel : Nat) (f : Nat) (y2 : Nat → Nat), 6 - f < fuel → (f ≤ 6) → (∀ x, x < w → y2 x = bsF (decide (t % 2 = 0)) z x 6) → (y2 w = bsF (decide (t % 2 = 0)) z w f) → GG x 0 0 (mw E a (mkMV (mT M) (mS M) (mA M) (mW M) (mK M) (mP M) (mE M) (mN M) (mX M) (mL M) (mI M) (mD M) (mR M) (mM M) (cpR (mO M) (mS M) 0 0) (mF M) (mU M) (mQ M) (mZ M) z y2)) 87 [(0, .ref (a 0)), (1, .int (nI n)), (2, .int (nI p)), (3, .int (nI t)), (4, .int (nI w)), (5, .int (nI f))] [] := by
                          intro fuel
                          induction fuel with
                          | zero => intro f y2 hm; exact absurd hm (Nat.not_lt_zero _)
                          | succ fuel ih87 =>
                            intro f y2 hm87 hf hyo hyw
                            refine g_iload hX dX6_trial_87 5 rfl ?_
                            refine g_bipush hX (nI 6) dX6_trial_89 rfl ?_
                            refine g_icmp_ge hX 183 dX6_trial_91 (by decide) (fun c91 => ?_) (fun c91 => ?_)
                            · replace c91 := (nI_leI (by omega) (by omega)).mp c91
                              refine g_iinc hX (j := 4) (nI (w + 1)) [(4, .int (nI (w + 1))), (0, .ref (a 0)), (1, .int (nI n)), (2, .int (nI p)), (3, .int (nI t)), (5, .int (nI f))] dX6_trial_183 4 rfl (iinc_n _ _) (by rw [hnL]; rfl) rfl ?_
                              refine g_goto hX 63 dX6_trial_186 (by decide) ?_
                              exact g_lv _ [1, 2, 3, 4, 0] rfl (ih63 (w + 1) y2 (by omega) (by omega) (fun x hx => (Nat.lt_or_ge x w).elim (fun q => hyo x q) (fun q => by rw [show x = w by omega, hyw, show f = 6 by omega])))
                            · replace c91 := mt (nI_leI (by omega) (by omega)).mpr c91
                              have hxb := xor_bit_lt (m := 6) (g := w) (s := f) (by omega) (by omega)
                              have hv9 := LV_9 h9 hz hxb
                              have hb9 := bs9 h9 hz (q := (decide (t % 2 = 0))) (x := w) (k := f) (by omega) hf
                              refine g_aload_n hX dX6_trial_94 0 rfl ?_
                              refine g_get hX (v := .ref (a 11)) 0 inRX6 (atModel_0 _ _ _ _ _ _ _ _ _ _ _ _ _ _ _ _ _ _ _ _ _ _ _) rfl 19 rfl fl40 rfl rfl dX6_trial_95 ?_
                              refine g_iload hX dX6_trial_98 4 rfl ?_
                              refine g_iconst hX (nI 1) dX6_trial_100 rfl ?_
                              refine g_iload hX dX6_trial_101 5 rfl ?_
                              refine g_ishl hX (nI (1 <<< f)) dX6_trial_103 (sh_l _ (by omega)) ?_
                              refine g_ixor hX (nI (w ^^^ (1 <<< f))) dX6_trial_104 (fb_xorI _ _) ?_
                              refine g_iald hX (nI (z (w ^^^ (1 <<< f)))) 11 0 (atModel_11 _ _ _ _ _ _ _ _ _ _ _ _ _ _ _ _ _ _ _ _ _ _ _) rfl (vp_in_nI (by omega) (by omega)) (ald_n (g := fun zz => nI (z zz)) (i := w ^^^ (1 <<< f)) (by omega)) dX6_trial_105 ?_
                              refine g_istore hX (j := 6) [(6, .int (nI (z (w ^^^ (1 <<< f))))), (0, .ref (a 0)), (1, .int (nI n)), (2, .int (nI p)), (3, .int (nI t)), (4, .int (nI w)), (5, .int (nI f))] dX6_trial_106 (by rw [hnL]; rfl) rfl ?_
                              refine g_iload_n hX dX6_trial_108 4 rfl ?_
                              refine g_iconst hX (nI 2) dX6_trial_109 rfl ?_
                              refine g_irem hX (nI (t % 2)) dX6_trial_110 (nI_ne0 (by omega) (by omega)) (pk_rem (by omega) (by omega) (by omega)) ?_
                              refine g_if_ne hX 134 dX6_trial_111 (by decide) (fun c111 => ?_) (fun c111 => ?_)
                              · replace c111 := mt (nz_eq (by omega)).mpr c111
                                refine g_iload hX dX6_trial_134 0 rfl ?_
                                refine g_aload_n hX dX6_trial_136 1 rfl ?_
                                refine g_get hX (v := .ref (a 12)) 0 inRX6 (atModel_0 _ _ _ _ _ _ _ _ _ _ _ _ _ _ _ _ _ _ _ _ _ _ _) rfl 20 rfl fl43 rfl rfl dX6_trial_137 ?_
                                refine g_iload hX dX6_trial_140 5 rfl ?_
                                refine g_iald hX (nI (y2 w)) 12 0 (atModel_12 _ _ _ _ _ _ _ _ _ _ _ _ _ _ _ _ _ _ _ _ _ _ _) rfl (vp_in_nI (by omega) (by omega)) (ald_n (g := fun zz => nI (y2 zz)) (i := w) (by omega)) dX6_trial_142 ?_
                                refine g_icmp_ge hX 150 dX6_trial_143 (by decide) (fun c143 => ?_) (fun c143 => ?_)
                                · replace c143 := (nI_leI (by omega) (by omega)).mp c143
                                  refine g_iconst hX (nI 0) dX6_trial_150 rfl ?_
                                  refine g_istore hX (j := 7) [(7, .int (nI 0)), (6, .int (nI (z (w ^^^ (1 <<< f))))), (0, .ref (a 0)), (1, .int (nI n)), (2, .int (nI p)), (3, .int (nI t)), (4, .int (nI w)), (5, .int (nI f))] dX6_trial_151 (by rw [hnL]; rfl) rfl ?_
                                  refine g_aload_n hX dX6_trial_153 2 rfl ?_
                                  refine g_get hX (v := .ref (a 12)) 0 inRX6 (atModel_0 _ _ _ _ _ _ _ _ _ _ _ _ _ _ _ _ _ _ _ _ _ _ _) rfl 20 rfl fl43 rfl rfl dX6_trial_154 ?_
                                  refine g_iload hX dX6_trial_157 6 rfl ?_
                                  refine g_iload hX dX6_trial_159 0 rfl ?_
                                  refine g_if_eq hX 169 dX6_trial_161 (by decide) (fun c161 => ?_) (fun c161 => ?_)
                                  · replace c161 := (nz_eq (by omega)).mp c161
                                    refine g_aload_n hX dX6_trial_169 2 rfl ?_
                                    refine g_get hX (v := .ref (a 12)) 0 inRX6 (atModel_0 _ _ _ _ _ _ _ _ _ _ _ _ _ _ _ _ _ _ _ _ _ _ _) rfl 20 rfl fl43 rfl rfl dX6_trial_170 ?_
                                    refine g_iload hX dX6_trial_173 6 rfl ?_
                                    refine g_iald hX (nI (y2 w)) 12 0 (atModel_12 _ _ _ _ _ _ _ _ _ _ _ _ _ _ _ _ _ _ _ _ _ _ _) rfl (vp_in_nI (by omega) (by omega)) (ald_n (g := fun zz => nI (y2 zz)) (i := w) (by omega)) dX6_trial_175 ?_
                                    refine g_iast hX (fun zz => nI ((va_up (y2) w (y2 w)) zz)) (mw E a (mkMV (mT M) (mS M) (mA M) (mW M) (mK M) (mP M) (mE M) (mN M) (mX M) (mL M) (mI M) (mD M) (mR M) (mM M) (cpR (mO M) (mS M) 0 0) (mF M) (mU M) (mQ M) (mZ M) z (va_up (y2) w (y2 w)))) 12 0 (atModel_12 _ _ _ _ _ _ _ _ _ _ _ _ _ _ _ _ _ _ _ _ _ _ _) rfl (vp_in_nI (by omega) (by omega)) (ast_n (by omega)) dX6_trial_176 (stModel_12 _ _ _ _ _ _ _ _ _ _ _ _ _ _ _ _ _ _ _ _ _ _ _ _) ?_
                                    refine g_iinc hX (j := 5) (nI (f + 1)) [(5, .int (nI (f + 1))), (7, .int (nI 0)), (6, .int (nI (z (w ^^^ (1 <<< f))))), (0, .ref (a 0)), (1, .int (nI n)), (2, .int (nI p)), (3, .int (nI t)), (4, .int (nI w))] dX6_trial_177 7 rfl (iinc_n _ _) (by rw [hnL]; rfl) rfl ?_
                                    refine g_goto hX 87 dX6_trial_180 (by decide) ?_
                                    exact g_lv _ [3, 4, 5, 6, 7, 0] rfl (ih87 (f + 1) (va_up (y2) w (y2 w)) (by omega) (by omega) (fun x hx => (va_up_ne _ _ (by omega)).trans (hyo x hx)) (by rw [va_up_self, bsF]; first | (rw [decide_eq_true c111, if_pos rfl, ← decide_eq_true c111, ← hyw]; omega) | (rw [decide_eq_false c111, if_neg (by decide), ← decide_eq_false c111, ← hyw]; omega)))
                                  · replace c161 := mt (nz_eq (by omega)).mpr c161
                                    exact absurd c161 (by simp)
                                · replace c143 := mt (nI_leI (by omega) (by omega)).mpr c143
                                  refine g_iconst hX (nI 1) dX6_trial_146 rfl ?_
                                  refine g_goto hX 151 dX6_trial_147 (by decide) ?_
                                  refine g_istore hX (j := 7) [(7, .int (nI 1)), (6, .int (nI (z (w ^^^ (1 <<< f))))), (0, .ref (a 0)), (1, .int (nI n)), (2, .int (nI p)), (3, .int (nI t)), (4, .int (nI w)), (5, .int (nI f))] dX6_trial_151 (by rw [hnL]; rfl) rfl ?_
                                  refine g_aload_n hX dX6_trial_153 2 rfl ?_
                                  refine g_get hX (v := .ref (a 12)) 0 inRX6 (atModel_0 _ _ _ _ _ _ _ _ _ _ _ _ _ _ _ _ _ _ _ _ _ _ _) rfl 20 rfl fl43 rfl rfl dX6_trial_154 ?_
                                  refine g_iload hX dX6_trial_157 6 rfl ?_
                                  refine g_iload hX dX6_trial_159 0 rfl ?_
                                  refine g_if_eq hX 169 dX6_trial_161 (by decide) (fun c161 => ?_) (fun c161 => ?_)
                                  · replace c161 := (nz_eq (by omega)).mp c161
                                    exact absurd c161 (by simp)
                                  · replace c161 := mt (nz_eq (by omega)).mpr c161
                                    refine g_iload hX dX6_trial_164 1 rfl ?_
                                    refine g_goto hX 176 dX6_trial_166 (by decide) ?_
                                    refine g_iast hX (fun zz => nI ((va_up (y2) w (z (w ^^^ (1 <<< f)))) zz)) (mw E a (mkMV (mT M) (mS M) (mA M) (mW M) (mK M) (mP M) (mE M) (mN M) (mX M) (mL M) (mI M) (mD M) (mR M) (mM M) (cpR (mO M) (mS M) 0 0) (mF M) (mU M) (mQ M) (mZ M) z (va_up (y2) w (z (w ^^^ (1 <<< f)))))) 12 0 (atModel_12 _ _ _ _ _ _ _ _ _ _ _ _ _ _ _ _ _ _ _ _ _ _ _) rfl (vp_in_nI (by omega) (by omega)) (ast_n (by omega)) dX6_trial_176 (stModel_12 _ _ _ _ _ _ _ _ _ _ _ _ _ _ _ _ _ _ _ _ _ _ _ _) ?_
                                    refine g_iinc hX (j := 5) (nI (f + 1)) [(5, .int (nI (f + 1))), (7, .int (nI 1)), (6, .int (nI (z (w ^^^ (1 <<< f))))), (0, .ref (a 0)), (1, .int (nI n)), (2, .int (nI p)), (3, .int (nI t)), (4, .int (nI w))] dX6_trial_177 7 rfl (iinc_n _ _) (by rw [hnL]; rfl) rfl ?_
                                    refine g_goto hX 87 dX6_trial_180 (by decide) ?_
                                    exact g_lv _ [3, 4, 5, 6, 7, 0] rfl (ih87 (f + 1) (va_up (y2) w (z (w ^^^ (1 <<< f)))) (by omega) (by omega) (fun x hx => (va_up_ne _ _ (by omega)).trans (hyo x hx)) (by rw [va_up_self, bsF]; first | (rw [decide_eq_true c111, if_pos rfl, ← decide_eq_true c111, ← hyw]; omega) | (rw [decide_eq_false c111, if_neg (by decide), ← decide_eq_false c111, ← hyw]; omega)))
                              · replace c111 := (nz_eq (by omega)).mp c111
                                refine g_iload hX dX6_trial_114 0 rfl ?_
                                refine g_aload_n hX dX6_trial_116 1 rfl ?_
                                refine g_get hX (v := .ref (a 12)) 0 inRX6 (atModel_0 _ _ _ _ _ _ _ _ _ _ _ _ _ _ _ _ _ _ _ _ _ _ _) rfl 20 rfl fl43 rfl rfl dX6_trial_117 ?_
                                refine g_iload hX dX6_trial_120 5 rfl ?_
                                refine g_iald hX (nI (y2 w)) 12 0 (atModel_12 _ _ _ _ _ _ _ _ _ _ _ _ _ _ _ _ _ _ _ _ _ _ _) rfl (vp_in_nI (by omega) (by omega)) (ald_n (g := fun zz => nI (y2 zz)) (i := w) (by omega)) dX6_trial_122 ?_
                                refine g_icmp_le hX 130 dX6_trial_123 (by decide) (fun c123 => ?_) (fun c123 => ?_)
                                · replace c123 := (nI_leI (by omega) (by omega)).mp c123
                                  refine g_iconst hX (nI 0) dX6_trial_130 rfl ?_
                                  refine g_goto hX 151 dX6_trial_131 (by decide) ?_
                                  refine g_istore hX (j := 7) [(7, .int (nI 0)), (6, .int (nI (z (w ^^^ (1 <<< f))))), (0, .ref (a 0)), (1, .int (nI n)), (2, .int (nI p)), (3, .int (nI t)), (4, .int (nI w)), (5, .int (nI f))] dX6_trial_151 (by rw [hnL]; rfl) rfl ?_
                                  refine g_aload_n hX dX6_trial_153 2 rfl ?_
                                  refine g_get hX (v := .ref (a 12)) 0 inRX6 (atModel_0 _ _ _ _ _ _ _ _ _ _ _ _ _ _ _ _ _ _ _ _ _ _ _) rfl 20 rfl fl43 rfl rfl dX6_trial_154 ?_
                                  refine g_iload hX dX6_trial_157 6 rfl ?_
                                  refine g_iload hX dX6_trial_159 0 rfl ?_
                                  refine g_if_eq hX 169 dX6_trial_161 (by decide) (fun c161 => ?_) (fun c161 => ?_)
                                  · replace c161 := (nz_eq (by omega)).mp c161
                                    refine g_aload_n hX dX6_trial_169 2 rfl ?_
                                    refine g_get hX (v := .ref (a 12)) 0 inRX6 (atModel_0 _ _ _ _ _ _ _ _ _ _ _ _ _ _ _ _ _ _ _ _ _ _ _) rfl 20 rfl fl43 rfl rfl dX6_trial_170 ?_
                                    refine g_iload hX dX6_trial_173 6 rfl ?_
                                    refine g_iald hX (nI (y2 w)) 12 0 (atModel_12 _ _ _ _ _ _ _ _ _ _ _ _ _ _ _ _ _ _ _ _ _ _ _) rfl (vp_in_nI (by omega) (by omega)) (ald_n (g := fun zz => nI (y2 zz)) (i := w) (by omega)) dX6_trial_175 ?_
                                    refine g_iast hX (fun zz => nI ((va_up (y2) w (y2 w)) zz)) (mw E a (mkMV (mT M) (mS M) (mA M) (mW M) (mK M) (mP M) (mE M) (mN M) (mX M) (mL M) (mI M) (mD M) (mR M) (mM M) (cpR (mO M) (mS M) 0 0) (mF M) (mU M) (mQ M) (mZ M) z (va_up (y2) w (y2 w)))) 12 0 (atModel_12 _ _ _ _ _ _ _ _ _ _ _ _ _ _ _ _ _ _ _ _ _ _ _) rfl (vp_in_nI (by omega) (by omega)) (ast_n (by omega)) dX6_trial_176 (stModel_12 _ _ _ _ _ _ _ _ _ _ _ _ _ _ _ _ _ _ _ _ _ _ _ _) ?_
                                    refine g_iinc hX (j := 5) (nI (f + 1)) [(5, .int (nI (f + 1))), (7, .int (nI 0)), (6, .int (nI (z (w ^^^ (1 <<< f))))), (0, .ref (a 0)), (1, .int (nI n)), (2, .int (nI p)), (3, .int (nI t)), (4, .int (nI w))] dX6_trial_177 7 rfl (iinc_n _ _) (by rw [hnL]; rfl) rfl ?_
                                    refine g_goto hX 87 dX6_trial_180 (by decide) ?_
                                    exact g_lv _ [3, 4, 5, 6, 7, 0] rfl (ih87 (f + 1) (va_up (y2) w (y2 w)) (by omega) (by omega) (fun x hx => (va_up_ne _ _ (by omega)).trans (hyo x hx)) (by rw [va_up_self, bsF]; first | (rw [decide_eq_true c111, if_pos rfl, ← decide_eq_true c111, ← hyw]; omega) | (rw [decide_eq_false c111, if_neg (by decide), ← decide_eq_false c111, ← hyw]; omega)))
                                  · replace c161 := mt (nz_eq (by omega)).mpr c161
                                    exact absurd c161 (by simp)
                                · replace c123 := mt (nI_leI (by omega) (by omega)).mpr c123
                                  refine g_iconst hX (nI 1) dX6_trial_126 rfl ?_
                                  refine g_goto hX 151 dX6_trial_127 (by decide) ?_
                                  refine g_istore hX (j := 7) [(7, .int (nI 1)), (6, .int (nI (z (w ^^^ (1 <<< f))))), (0, .ref (a 0)), (1, .int (nI n)), (2, .int (nI p)), (3, .int (nI t)), (4, .int (nI w)), (5, .int (nI f))] dX6_trial_151 (by rw [hnL]; rfl) rfl ?_
                                  refine g_aload_n hX dX6_trial_153 2 rfl ?_
                                  refine g_get hX (v := .ref (a 12)) 0 inRX6 (atModel_0 _ _ _ _ _ _ _ _ _ _ _ _ _ _ _ _ _ _ _ _ _ _ _) rfl 20 rfl fl43 rfl rfl dX6_trial_154 ?_
                                  refine g_iload hX dX6_trial_157 6 rfl ?_
                                  refine g_iload hX dX6_trial_159 0 rfl ?_
                                  refine g_if_eq hX 169 dX6_trial_161 (by decide) (fun c161 => ?_) (fun c161 => ?_)
                                  · replace c161 := (nz_eq (by omega)).mp c161
                                    exact absurd c161 (by simp)
                                  · replace c161 := mt (nz_eq (by omega)).mpr c161
                                    refine g_iload hX dX6_trial_164 1 rfl ?_
                                    refine g_goto hX 176 dX6_trial_166 (by decide) ?_
                                    refine g_iast hX (fun zz => nI ((va_up (y2) w (z (w ^^^ (1 <<< f)))) zz)) (mw E a (mkMV (mT M) (mS M) (mA M) (mW M) (mK M) (mP M) (mE M) (mN M) (mX M) (mL M) (mI M) (mD M) (mR M) (mM M) (cpR (mO M) (mS M) 0 0) (mF M) (mU M) (mQ M) (mZ M) z (va_up (y2) w (z (w ^^^ (1 <<< f)))))) 12 0 (atModel_12 _ _ _ _ _ _ _ _ _ _ _ _ _ _ _ _ _ _ _ _ _ _ _) rfl (vp_in_nI (by omega) (by omega)) (ast_n (by omega)) dX6_trial_176 (stModel_12 _ _ _ _ _ _ _ _ _ _ _ _ _ _ _ _ _ _ _ _ _ _ _ _) ?_
                                    refine g_iinc hX (j := 5) (nI (f + 1)) [(5, .int (nI (f + 1))), (7, .int (nI 1)), (6, .int (nI (z (w ^^^ (1 <<< f))))), (0, .ref (a 0)), (1, .int (nI n)), (2, .int (nI p)), (3, .int (nI t)), (4, .int (nI w))] dX6_trial_177 7 rfl (iinc_n _ _) (by rw [hnL]; rfl) rfl ?_
                                    refine g_goto hX 87 dX6_trial_180 (by decide) ?_
                                    exact g_lv _ [3, 4, 5, 6, 7, 0] rfl (ih87 (f + 1) (va_up (y2) w (z (w ^^^ (1 <<< f)))) (by omega) (by omega) (fun x hx => (va_up_ne _ _ (by omega)).trans (hyo x hx)) (by rw [va_up_self, bsF]; first | (rw [decide_eq_true c111, if_pos rfl, ← decide_eq_true c111, ← hyw]; omega) | (rw [decide_eq_false c111, if_neg (by decide), ← decide_eq_false c111, ← hyw]; omega)))
                        exact g_lv _ [1, 2, 3, 4, 5, 0] rfl (lp87 _ 0 (va_up (y) w (z w)) (Nat.lt_succ_self _) (Nat.zero_le _) (fun x hx => (va_up_ne _ _ (by omega)).trans (hy x hx)) (va_up_self _ _ _))
                  exact g_lv _ [1, 2, 3, 4, 0] rfl (lp63 _ 0 y (Nat.lt_succ_self _) (Nat.zero_le _) (fun x hx => absurd hx (Nat.not_lt_zero _)))
            exact g_lv _ [1, 2, 3, 0] rfl (lp56 _ (n - 1) g (mH M) (Nat.lt_succ_self _) (Nat.le_refl _) (fun x hx => by rw [Nat.sub_self]; exact hg x (by omega)))
          · replace c29 := mt (nI_leI (by omega) (by omega)).mpr c29
            have hll := lieM_lt h9 w
            refine g_aload_n hX dX6_trial_32 0 rfl ?_
            refine g_get hX (v := .ref (a 11)) 0 inRX6 (atModel_0 _ _ _ _ _ _ _ _ _ _ _ _ _ _ _ _ _ _ _ _ _ _ _) rfl 19 rfl fl40 rfl rfl dX6_trial_33 ?_
            refine g_iload_n hX dX6_trial_36 3 rfl ?_
            refine g_aload_n hX dX6_trial_37 0 rfl ?_
            refine g_iload_n hX dX6_trial_38 3 rfl ?_
            have hc39 : CUT (mw E a (mkMV (mT M) (mS M) (mA M) (mW M) (mK M) (mP M) (mE M) (mN M) (mX M) (mL M) (mI M) (mD M) (mR M) (mM M) (cpR (mO M) (mS M) 0 0) (mF M) (mU M) (mQ M) (mZ M) g (mH M))) (mw E a (mkMV (mT M) (mS M) (mA M) (mW M) (mK M) (mP M) (mE M) (mN M) (mX M) (mL M) (mI M) (mD M) (mR M) (mM M) (cpR (mO M) (mS M) 0 0) (mF M) (mU M) (mQ M) (mZ M) g (mH M))) (([] : va_W)) [0, 1, 2, 3, 4, 5, 6, 7, 8, 9, 10, 11, 12] [] := ⟨rfl, rfl, rfl, rfl, rfl⟩
            refine g_VI hX hc39 [.int (nI w)] [.int (nI w), .ref (a 11)] (c_X6_policeIn l E a (mkMV (mT M) (mS M) (mA M) (mW M) (mK M) (mP M) (mE M) (mN M) (mX M) (mL M) (mI M) (mD M) (mR M) (mM M) (cpR (mO M) (mS M) 0 0) (mF M) (mU M) (mQ M) (mZ M) g (mH M)) C w (by first | assumption | omega) hNO (by omega)) gX6_trial_X6_policeIn calX6_policeIn rfl rfl rfl rfl 0 rfl rfl rfl rfl dX6_trial_39 rfl ⟨Nat.zero_le _, Nat.zero_le _⟩ (fun _ => mw E a (mkMV (mT M) (mS M) (mA M) (mW M) (mK M) (mP M) (mE M) (mN M) (mX M) (mL M) (mI M) (mD M) (mR M) (mM M) (cpR (mO M) (mS M) 0 0) (mF M) (mU M) (mQ M) (mZ M) g (mH M))) [0, 1, 2, 3, 4, 5, 6, 7, 8, 9, 10, 11, 12] rfl (fun _ => rfl) (fun _ hu39 => ?_)
            have hc42 : CUT (mw E a (mkMV (mT M) (mS M) (mA M) (mW M) (mK M) (mP M) (mE M) (mN M) (mX M) (mL M) (mI M) (mD M) (mR M) (mM M) (cpR (mO M) (mS M) 0 0) (mF M) (mU M) (mQ M) (mZ M) g (mH M))) (([] : va_W)) (mw E a (mkMV (mT M) (mS M) (mA M) (mW M) (mK M) (mP M) (mE M) (mN M) (mX M) (mL M) (mI M) (mD M) (mR M) (mM M) (cpR (mO M) (mS M) 0 0) (mF M) (mU M) (mQ M) (mZ M) g (mH M))) [] [0, 1, 2, 3, 4, 5, 6, 7, 8, 9, 10, 11, 12] := ⟨rfl, rfl, rfl, rfl, rfl⟩
            refine g_TI hX hc42 [.int (nI (lieM C w))] [.int (nI w), .ref (a 11)] (c_X6_bits l E (lieM C w) (by first | assumption | omega)) gX6_trial_X6_bits calX6_bits rfl rfl rfl rfl dX6_trial_42 rfl ⟨Nat.zero_le _, Nat.zero_le _⟩ (fun _ => mw E a (mkMV (mT M) (mS M) (mA M) (mW M) (mK M) (mP M) (mE M) (mN M) (mX M) (mL M) (mI M) (mD M) (mR M) (mM M) (cpR (mO M) (mS M) 0 0) (mF M) (mU M) (mQ M) (mZ M) g (mH M))) [0, 1, 2, 3, 4, 5, 6, 7, 8, 9, 10, 11, 12] rfl (fun _ => rfl) (fun _ hu42 => ?_)
            refine g_iast hX (fun zz => nI ((va_up (g) w (pop (lieM C w))) zz)) (mw E a (mkMV (mT M) (mS M) (mA M) (mW M) (mK M) (mP M) (mE M) (mN M) (mX M) (mL M) (mI M) (mD M) (mR M) (mM M) (cpR (mO M) (mS M) 0 0) (mF M) (mU M) (mQ M) (mZ M) (va_up (g) w (pop (lieM C w))) (mH M))) 11 0 (atModel_11 _ _ _ _ _ _ _ _ _ _ _ _ _ _ _ _ _ _ _ _ _ _ _) rfl (vp_in_nI (by omega) (by omega)) (ast_n (by omega)) dX6_trial_45 (stModel_11 _ _ _ _ _ _ _ _ _ _ _ _ _ _ _ _ _ _ _ _ _ _ _ _) ?_
            refine g_iinc hX (j := 3) (nI (w + 1)) [(3, .int (nI (w + 1))), (0, .ref (a 0)), (1, .int (nI n)), (2, .int (nI p))] dX6_trial_46 3 rfl (iinc_n _ _) (by rw [hnL]; rfl) rfl ?_
            refine g_goto hX 26 dX6_trial_49 (by decide) ?_
            exact g_lv _ [1, 2, 3, 0] rfl (ih26 (w + 1) (va_up (g) w (pop (lieM C w))) (by omega) (by omega) (up_st hg rfl))
      exact g_lv _ [1, 2, 3, 0] rfl (lp26 _ 0 (mG M) (Nat.lt_succ_self _) (Nat.zero_le _) (fun x hx => absurd hx (Nat.not_lt_zero _)))
    · replace c15 := bI_0.mp c15
      exact absurd c15 (by simp)
