set_option maxHeartbeats 4000000 in
set_option maxRecDepth 100000 in
theorem c_X6_chance_n (l : Launch) (E : EV) (a : Nat → Nat) (M : MV) (C : FC) (m : Nat) (x0 : Int32) (x1 : Int32) (x2 : Int32) (hD : DI C m) (hm : m < 2 ^ 29) (hN1 : 1 ≤ cN C) (hS : RW C (mS M)) (hTm : cT C = mT M) (hx : (win x0 (nI 0) (nI 9) && win x1 (nI 0) (nI 10) && win x2 (nI 0) (nI 1)) = false) : KI l yX6_chance wsX6_chance (rmN 5) E (σ := MV) [.ref (a 0), .int x0, .int x1, .int x2] (mw E a M) (fun u => KS M u) (fun u => (-1)) (fun u => mw E a u) 0 0 := by
  refine KI.of (cc := cX6_chance) (maxL := 8) (ty := .int) (hnar := fun _ _ => rfl) rfl rfl rfl (fun x hX hin hret hnL => ?_)
  replace hX : CX x l cX6_chance RX6 wsX6_chance E (rmN 5) := hX
  show GG x 0 0 (mw E a M) 0 [(0, .ref (a 0)), (1, .int x0), (2, .int x1), (3, .int x2)] []
  obtain ⟨hC, hVY, hZ, hYm⟩ := id hD
  obtain ⟨⟨h9, h64, h512, hT, hI⟩, hK⟩ := id hC
  have hV := DI_VB hD (by omega)
  refine g_iload_n hX dX6_chance_0 1 rfl ?_
  refine g_iconst hX (nI 0) dX6_chance_1 rfl ?_
  refine g_bipush hX (nI 9) dX6_chance_2 rfl ?_
  have hc4 : CUT (mw E a M) (([] : va_W)) (mw E a M) [] [0, 1, 2, 3, 4, 5, 6, 7, 8, 9, 10, 11, 12] := ⟨rfl, rfl, rfl, rfl, rfl⟩
  refine g_TI hX hc4 [.int x0, .int (nI 0), .int (nI 9)] [] (c_X6_in l E x0 (nI 0) (nI 9)) gX6_chance_X6_in calX6_in rfl rfl rfl rfl dX6_chance_4 rfl ⟨Nat.zero_le _, Nat.zero_le _⟩ (fun _ => mw E a M) [0, 1, 2, 3, 4, 5, 6, 7, 8, 9, 10, 11, 12] rfl (fun _ => rfl) (fun _ hu4 => ?_)
  refine g_if_eq hX 29 dX6_chance_7 (by decide) (fun c7 => ?_) (fun c7 => ?_)
  · replace c7 := bI_0.mp c7
    refine g_iconst hX ((-1)) dX6_chance_29 rfl ?_
    exact g_eq rfl rfl rfl (hret M _ _ (⟨⟨rfl, rfl, rfl, rfl, rfl, rfl, rfl⟩, ⟨rfl, rfl⟩, rfl⟩) dX6_chance_30)
  · replace c7 := mt bI_0.mpr c7
    replace c7 := bNf c7
    refine g_iload_n hX dX6_chance_10 2 rfl ?_
    refine g_iconst hX (nI 0) dX6_chance_11 rfl ?_
    refine g_bipush hX (nI 10) dX6_chance_12 rfl ?_
    have hc14 : CUT (mw E a M) (([] : va_W)) (mw E a M) [] [0, 1, 2, 3, 4, 5, 6, 7, 8, 9, 10, 11, 12] := ⟨rfl, rfl, rfl, rfl, rfl⟩
    refine g_TI hX hc14 [.int x1, .int (nI 0), .int (nI 10)] [] (c_X6_in l E x1 (nI 0) (nI 10)) gX6_chance_X6_in calX6_in rfl rfl rfl rfl dX6_chance_14 rfl ⟨Nat.zero_le _, Nat.zero_le _⟩ (fun _ => mw E a M) [0, 1, 2, 3, 4, 5, 6, 7, 8, 9, 10, 11, 12] rfl (fun _ => rfl) (fun _ hu14 => ?_)
    refine g_if_eq hX 29 dX6_chance_17 (by decide) (fun c17 => ?_) (fun c17 => ?_)
    · replace c17 := bI_0.mp c17
      refine g_iconst hX ((-1)) dX6_chance_29 rfl ?_
      exact g_eq rfl rfl rfl (hret M _ _ (⟨⟨rfl, rfl, rfl, rfl, rfl, rfl, rfl⟩, ⟨rfl, rfl⟩, rfl⟩) dX6_chance_30)
    · replace c17 := mt bI_0.mpr c17
      replace c17 := bNf c17
      refine g_iload_n hX dX6_chance_20 3 rfl ?_
      refine g_iconst hX (nI 0) dX6_chance_21 rfl ?_
      refine g_iconst hX (nI 1) dX6_chance_22 rfl ?_
      have hc23 : CUT (mw E a M) (([] : va_W)) (mw E a M) [] [0, 1, 2, 3, 4, 5, 6, 7, 8, 9, 10, 11, 12] := ⟨rfl, rfl, rfl, rfl, rfl⟩
      refine g_TI hX hc23 [.int x2, .int (nI 0), .int (nI 1)] [] (c_X6_in l E x2 (nI 0) (nI 1)) gX6_chance_X6_in calX6_in rfl rfl rfl rfl dX6_chance_23 rfl ⟨Nat.zero_le _, Nat.zero_le _⟩ (fun _ => mw E a M) [0, 1, 2, 3, 4, 5, 6, 7, 8, 9, 10, 11, 12] rfl (fun _ => rfl) (fun _ hu23 => ?_)
      refine g_if_ne hX 31 dX6_chance_26 (by decide) (fun c26 => ?_) (fun c26 => ?_)
      · replace c26 := mt bI_0.mpr c26
        replace c26 := bNf c26
        rw [c7, c17, c26] at hx; cases hx
      · replace c26 := bI_0.mp c26
        refine g_iconst hX ((-1)) dX6_chance_29 rfl ?_
        exact g_eq rfl rfl rfl (hret M _ _ (⟨⟨rfl, rfl, rfl, rfl, rfl, rfl, rfl⟩, ⟨rfl, rfl⟩, rfl⟩) dX6_chance_30)
set_option maxHeartbeats 4000000 in
set_option maxRecDepth 100000 in
theorem c_X6_chance_y (l : Launch) (E : EV) (a : Nat → Nat) (M : MV) (C : FC) (m : Nat) (k : Nat) (xx : Nat) (p : Nat) (hD : DI C m) (hm : m < 2 ^ 29) (hN1 : 1 ≤ cN C) (hS : RW C (mS M)) (hTm : cT C = mT M) (hk : k ≤ 9) (hx : xx ≤ 10) (hp : p ≤ 1) : KI l yX6_chance wsX6_chance (rmN 5) E (σ := MV) [.ref (a 0), .int (nI k), .int (nI xx), .int (nI p)] (mw E a M) (fun u => KS M u) (fun u => (nI (chaV C k xx p))) (fun u => mw E a u) 0 0 := by
  refine KI.of (cc := cX6_chance) (maxL := 8) (ty := .int) (hnar := fun _ _ => rfl) rfl rfl rfl (fun x hX hin hret hnL => ?_)
  replace hX : CX x l cX6_chance RX6 wsX6_chance E (rmN 5) := hX
  show GG x 0 0 (mw E a M) 0 [(0, .ref (a 0)), (1, .int (nI k)), (2, .int (nI xx)), (3, .int (nI p))] []
  have inRX6 : ∀ w ∈ wsX60, w ∈ wsX6_chance := by decide +kernel
  have fl7 : Cond.fieldLink RX6 7 "LieForceModel" "st" "[I" ∈ wsX6_chance := by decide +kernel
  obtain ⟨hC, hVY, hZ, hYm⟩ := id hD
  obtain ⟨⟨h9, h64, h512, hT, hI⟩, hK⟩ := id hC
  have hV := DI_VB hD (by omega)
  have hNO := RB_cp (f := mO M) h9 hS.1
  refine g_iload_n hX dX6_chance_0 1 rfl ?_
  refine g_iconst hX (nI 0) dX6_chance_1 rfl ?_
  refine g_bipush hX (nI 9) dX6_chance_2 rfl ?_
  have hc4 : CUT (mw E a M) (([] : va_W)) (mw E a M) [] [0, 1, 2, 3, 4, 5, 6, 7, 8, 9, 10, 11, 12] := ⟨rfl, rfl, rfl, rfl, rfl⟩
  refine g_TI hX hc4 [.int (nI k), .int (nI 0), .int (nI 9)] [] (c_X6_in_y l E k 0 9 (by omega) (by omega) (by omega)) gX6_chance_X6_in calX6_in rfl rfl rfl rfl dX6_chance_4 rfl ⟨Nat.zero_le _, Nat.zero_le _⟩ (fun _ => mw E a M) [0, 1, 2, 3, 4, 5, 6, 7, 8, 9, 10, 11, 12] rfl (fun _ => rfl) (fun _ hu4 => ?_)
  refine g_if_eq hX 29 dX6_chance_7 (by decide) (fun c7 => ?_) (fun c7 => ?_)
  · replace c7 := bI_0.mp c7
    exact absurd c7 (by simp)
  · replace c7 := mt bI_0.mpr c7
    replace c7 := bNf c7
    refine g_iload_n hX dX6_chance_10 2 rfl ?_
    refine g_iconst hX (nI 0) dX6_chance_11 rfl ?_
    refine g_bipush hX (nI 10) dX6_chance_12 rfl ?_
    have hc14 : CUT (mw E a M) (([] : va_W)) (mw E a M) [] [0, 1, 2, 3, 4, 5, 6, 7, 8, 9, 10, 11, 12] := ⟨rfl, rfl, rfl, rfl, rfl⟩
    refine g_TI hX hc14 [.int (nI xx), .int (nI 0), .int (nI 10)] [] (c_X6_in_y l E xx 0 10 (by omega) (by omega) (by omega)) gX6_chance_X6_in calX6_in rfl rfl rfl rfl dX6_chance_14 rfl ⟨Nat.zero_le _, Nat.zero_le _⟩ (fun _ => mw E a M) [0, 1, 2, 3, 4, 5, 6, 7, 8, 9, 10, 11, 12] rfl (fun _ => rfl) (fun _ hu14 => ?_)
    refine g_if_eq hX 29 dX6_chance_17 (by decide) (fun c17 => ?_) (fun c17 => ?_)
    · replace c17 := bI_0.mp c17
      exact absurd c17 (by simp)
    · replace c17 := mt bI_0.mpr c17
      replace c17 := bNf c17
      refine g_iload_n hX dX6_chance_20 3 rfl ?_
      refine g_iconst hX (nI 0) dX6_chance_21 rfl ?_
      refine g_iconst hX (nI 1) dX6_chance_22 rfl ?_
      have hc23 : CUT (mw E a M) (([] : va_W)) (mw E a M) [] [0, 1, 2, 3, 4, 5, 6, 7, 8, 9, 10, 11, 12] := ⟨rfl, rfl, rfl, rfl, rfl⟩
      refine g_TI hX hc23 [.int (nI p), .int (nI 0), .int (nI 1)] [] (c_X6_in_y l E p 0 1 (by omega) (by omega) (by omega)) gX6_chance_X6_in calX6_in rfl rfl rfl rfl dX6_chance_23 rfl ⟨Nat.zero_le _, Nat.zero_le _⟩ (fun _ => mw E a M) [0, 1, 2, 3, 4, 5, 6, 7, 8, 9, 10, 11, 12] rfl (fun _ => rfl) (fun _ hu23 => ?_)
      refine g_if_ne hX 31 dX6_chance_26 (by decide) (fun c26 => ?_) (fun c26 => ?_)
      · replace c26 := mt bI_0.mpr c26
        replace c26 := bNf c26
        refine g_aload_n hX dX6_chance_31 0 rfl ?_
        have hc32 : CUT (mw E a M) (mw E a M) (([] : va_W)) [0, 1, 2, 3, 4, 5, 6, 7, 8, 9, 10, 11, 12] [] := ⟨rfl, rfl, rfl, rfl, rfl⟩
        refine g_VV hX hc32 [] [] (c_X6_asItIs l E a M) gX6_chance_X6_asItIs calX6_asItIs rfl rfl rfl rfl 0 rfl rfl rfl rfl dX6_chance_32 rfl ⟨Nat.zero_le _, Nat.zero_le _⟩ (fun _ => mw E a (mkMV (mT M) (mS M) (mA M) (mW M) (mK M) (mP M) (mE M) (mN M) (mX M) (mL M) (mI M) (mD M) (mR M) (mM M) (cpR ((mO M)) ((mS M)) 0 0) (mF M) (mU M) (mQ M) (mZ M) (mG M) (mH M))) [0, 1, 2, 3, 4, 5, 6, 7, 8, 9, 10, 11, 12] rfl (fun _ => rfl) (fun _ hu32 => ?_)
        refine g_iconst hX (nI 0) dX6_chance_35 rfl ?_
        refine g_istore hX (j := 4) [(4, .int (nI 0)), (0, .ref (a 0)), (1, .int (nI k)), (2, .int (nI xx)), (3, .int (nI p))] dX6_chance_36 (by rw [hnL]; rfl) rfl ?_
        refine g_iconst hX (nI 0) dX6_chance_38 rfl ?_
        refine g_istore hX (j := 5) [(5, .int (nI 0)), (4, .int (nI 0)), (0, .ref (a 0)), (1, .int (nI k)), (2, .int (nI xx)), (3, .int (nI p))] dX6_chance_39 (by rw [hnL]; rfl) rfl ?_
        have lp41 : ∀ (fuel : Nat) (i : Nat) (acc : Nat), 64 - i < fuel → (i ≤ 64) → (acc = chS C k xx i) → GG x 0 0 (mw E a (mkMV (mT M) (mS M) (mA M) (mW M) (mK M) (mP M) (mE M) (mN M) (mX M) (mL M) (mI M) (mD M) (mR M) (mM M) (cpR ((mO M)) ((mS M)) 0 0) (mF M) (mU M) (mQ M) (mZ M) (mG M) (mH M))) 41 [(0, .ref (a 0)), (1, .int (nI k)), (2, .int (nI xx)), (3, .int (nI p)), (4, .int (nI acc)), (5, .int (nI i))] [] := by
          intro fuel
          induction fuel with
          | zero => intro i acc hm; exact absurd hm (Nat.not_lt_zero _)
          | succ fuel ih41 =>
            intro i acc hm41 hi hacc
            have hal := chS_le (C := C) (k := k) hx i hi
            refine g_iload hX dX6_chance_41 5 rfl ?_
            refine g_bipush hX (nI 64) dX6_chance_43 rfl ?_
            refine g_icmp_ge hX 123 dX6_chance_45 (by decide) (fun c45 => ?_) (fun c45 => ?_)
            · replace c45 := (nI_leI (by omega) (by omega)).mp c45
              refine g_iload hX dX6_chance_123 4 rfl ?_
              refine g_istore hX (j := 5) [(5, .int (nI acc)), (0, .ref (a 0)), (1, .int (nI k)), (2, .int (nI xx)), (3, .int (nI p)), (4, .int (nI acc))] dX6_chance_125 (by rw [hnL]; rfl) rfl ?_
              refine g_ldc hX (v := (1000000)) dX6_chance_127 (by decide +kernel) ?_
              refine g_istore hX (j := 6) [(6, .int (nI 1000000)), (5, .int (nI acc)), (0, .ref (a 0)), (1, .int (nI k)), (2, .int (nI xx)), (3, .int (nI p)), (4, .int (nI acc))] dX6_chance_129 (by rw [hnL]; rfl) rfl ?_
              have lp131 : ∀ (fuel : Nat) (y : Nat) (z : Nat), z < fuel → (Nat.gcd y z = Nat.gcd (chS C k xx 64) 1000000) → (y ≤ 64000000) → (z ≤ 64000000) → GG x 0 0 (mw E a (mkMV (mT M) (mS M) (mA M) (mW M) (mK M) (mP M) (mE M) (mN M) (mX M) (mL M) (mI M) (mD M) (mR M) (mM M) (cpR ((mO M)) ((mS M)) 0 0) (mF M) (mU M) (mQ M) (mZ M) (mG M) (mH M))) 131 [(0, .ref (a 0)), (1, .int (nI k)), (2, .int (nI xx)), (3, .int (nI p)), (4, .int (nI acc)), (5, .int (nI y)), (6, .int (nI z))] [] := by
                intro fuel
                induction fuel with
                | zero => intro y z hm; exact absurd hm (Nat.not_lt_zero _)
                | succ fuel ih131 =>
                  intro y z hm131 hg hy hz
                  refine g_iload hX dX6_chance_131 6 rfl ?_
                  refine g_if_le hX 154 dX6_chance_133 (by decide) (fun c133 => ?_) (fun c133 => ?_)
                  · replace c133 := (nz_le (by omega)).mp c133
                    have hgp : 0 < Nat.gcd (chS C k xx 64) 1000000 := Nat.gcd_pos_of_pos_right _ (by decide)
                    have hgy : y = Nat.gcd (chS C k xx 64) 1000000 := by rw [← hg, c133, Nat.gcd_zero_right]
                    refine g_iload_n hX dX6_chance_154 3 rfl ?_
                    refine g_if_ne hX 163 dX6_chance_155 (by decide) (fun c155 => ?_) (fun c155 => ?_)
                    · replace c155 := mt (nz_eq (by omega)).mpr c155
                      refine g_ldc hX (v := (1000000)) dX6_chance_163 (by decide +kernel) ?_
                      refine g_iload hX dX6_chance_165 5 rfl ?_
                      refine g_idiv hX (nI (1000000 / y)) dX6_chance_167 (nI_ne0 (by first | omega | decide) (by first | omega | decide)) (pk_div (by first | omega | decide) (by first | omega | decide) (by first | omega | decide)) ?_
                      exact g_eq rfl rfl (congrArg (fun z => [Value.int z]) (congrArg nI (by rw [chaV, ← hgy]; first | (rw [if_pos c155, hacc, show i = 64 by omega]) | (rw [if_neg c155])))) (hret (mkMV (mT M) (mS M) (mA M) (mW M) (mK M) (mP M) (mE M) (mN M) (mX M) (mL M) (mI M) (mD M) (mR M) (mM M) (cpR ((mO M)) ((mS M)) 0 0) (mF M) (mU M) (mQ M) (mZ M) (mG M) (mH M)) _ _ (⟨⟨rfl, rfl, rfl, rfl, rfl, rfl, rfl⟩, ⟨rfl, rfl⟩, rfl⟩) dX6_chance_168)
                    · replace c155 := (nz_eq (by omega)).mp c155
                      refine g_iload hX dX6_chance_158 4 rfl ?_
                      refine g_goto hX 165 dX6_chance_160 (by decide) ?_
                      refine g_iload hX dX6_chance_165 5 rfl ?_
                      refine g_idiv hX (nI (acc / y)) dX6_chance_167 (nI_ne0 (by first | omega | decide) (by first | omega | decide)) (pk_div (by first | omega | decide) (by first | omega | decide) (by first | omega | decide)) ?_
                      exact g_eq rfl rfl (congrArg (fun z => [Value.int z]) (congrArg nI (by rw [chaV, ← hgy]; first | (rw [if_pos c155, hacc, show i = 64 by omega]) | (rw [if_neg c155])))) (hret (mkMV (mT M) (mS M) (mA M) (mW M) (mK M) (mP M) (mE M) (mN M) (mX M) (mL M) (mI M) (mD M) (mR M) (mM M) (cpR ((mO M)) ((mS M)) 0 0) (mF M) (mU M) (mQ M) (mZ M) (mG M) (mH M)) _ _ (⟨⟨rfl, rfl, rfl, rfl, rfl, rfl, rfl⟩, ⟨rfl, rfl⟩, rfl⟩) dX6_chance_168)
                  · replace c133 := mt (nz_le (by omega)).mpr c133
                    refine g_iload hX dX6_chance_136 5 rfl ?_
                    refine g_iload hX dX6_chance_138 6 rfl ?_
                    refine g_irem hX (nI (y % z)) dX6_chance_140 (nI_ne0 (by omega) (by omega)) (pk_rem (by omega) (by omega) (by omega)) ?_
                    refine g_istore hX (j := 7) [(7, .int (nI (y % z))), (0, .ref (a 0)), (1, .int (nI k)), (2, .int (nI xx)), (3, .int (nI p)), (4, .int (nI acc)), (5, .int (nI y)), (6, .int (nI z))] dX6_chance_141 (by rw [hnL]; rfl) rfl ?_
                    refine g_iload hX dX6_chance_143 7 rfl ?_
                    refine g_istore hX (j := 5) [(5, .int (nI z)), (7, .int (nI (y % z))), (0, .ref (a 0)), (1, .int (nI k)), (2, .int (nI xx)), (3, .int (nI p)), (4, .int (nI acc)), (6, .int (nI z))] dX6_chance_145 (by rw [hnL]; rfl) rfl ?_
                    refine g_iload hX dX6_chance_147 1 rfl ?_
                    refine g_istore hX (j := 6) [(6, .int (nI (y % z))), (5, .int (nI z)), (7, .int (nI (y % z))), (0, .ref (a 0)), (1, .int (nI k)), (2, .int (nI xx)), (3, .int (nI p)), (4, .int (nI acc))] dX6_chance_149 (by rw [hnL]; rfl) rfl ?_
                    refine g_goto hX 131 dX6_chance_151 (by decide) ?_
                    exact g_lv _ [3, 4, 5, 6, 7, 1, 0] rfl (ih131 z (y % z) (by have := Nat.mod_lt y (Nat.pos_of_ne_zero c133); omega) (gcd_st hg) (by omega) (by have := Nat.mod_lt y (Nat.pos_of_ne_zero c133); omega))
              exact g_lv _ [2, 3, 4, 5, 6, 1, 0] rfl (lp131 _ acc 1000000 (Nat.lt_succ_self _) (by rw [hacc, show i = 64 by omega]) (by omega) (by omega))
            · replace c45 := mt (nI_leI (by omega) (by omega)).mpr c45
              have hxw := x64 h64 (show i < 64 by omega)
              have hll := lieM_lt h9 (cF C ^^^ i)
              have hpl := pop9 _ hll
              refine g_aload_n hX dX6_chance_48 0 rfl ?_
              refine g_aload_n hX dX6_chance_49 0 rfl ?_
              refine g_get hX (v := .ref (a 1)) 0 inRX6 (atModel_0 _ _ _ _ _ _ _ _ _ _ _ _ _ _ _ _ _ _ _ _ _ _ _) rfl 1 rfl fl7 rfl rfl dX6_chance_50 ?_
              refine g_iconst hX (nI 0) dX6_chance_53 rfl ?_
              refine g_iald hX (nI (cF C)) 1 0 (atModel_1 _ _ _ _ _ _ _ _ _ _ _ _ _ _ _ _ _ _ _ _ _ _ _) rfl (vp_in_nI (by omega) (by omega)) ((ald_n (g := fun zz => (mS M) zz) (i := 0) (by omega)).trans (RB_F hS.1)) dX6_chance_54 ?_
              refine g_iload hX dX6_chance_55 5 rfl ?_
              refine g_ixor hX (nI ((cF C) ^^^ i)) dX6_chance_57 (fb_xorI _ _) ?_
              have hc58 : CUT (mw E a (mkMV (mT M) (mS M) (mA M) (mW M) (mK M) (mP M) (mE M) (mN M) (mX M) (mL M) (mI M) (mD M) (mR M) (mM M) (cpR ((mO M)) ((mS M)) 0 0) (mF M) (mU M) (mQ M) (mZ M) (mG M) (mH M))) (mw E a (mkMV (mT M) (mS M) (mA M) (mW M) (mK M) (mP M) (mE M) (mN M) (mX M) (mL M) (mI M) (mD M) (mR M) (mM M) (cpR ((mO M)) ((mS M)) 0 0) (mF M) (mU M) (mQ M) (mZ M) (mG M) (mH M))) (([] : va_W)) [0, 1, 2, 3, 4, 5, 6, 7, 8, 9, 10, 11, 12] [] := ⟨rfl, rfl, rfl, rfl, rfl⟩
              refine g_VI hX hc58 [.int (nI ((cF C) ^^^ i))] [] (c_X6_policeIn l E a (mkMV (mT M) (mS M) (mA M) (mW M) (mK M) (mP M) (mE M) (mN M) (mX M) (mL M) (mI M) (mD M) (mR M) (mM M) (cpR ((mO M)) ((mS M)) 0 0) (mF M) (mU M) (mQ M) (mZ M) (mG M) (mH M)) C ((cF C) ^^^ i) (by first | assumption | omega) hNO hxw) gX6_chance_X6_policeIn calX6_policeIn rfl rfl rfl rfl 0 rfl rfl rfl rfl dX6_chance_58 rfl ⟨Nat.zero_le _, Nat.zero_le _⟩ (fun _ => mw E a (mkMV (mT M) (mS M) (mA M) (mW M) (mK M) (mP M) (mE M) (mN M) (mX M) (mL M) (mI M) (mD M) (mR M) (mM M) (cpR ((mO M)) ((mS M)) 0 0) (mF M) (mU M) (mQ M) (mZ M) (mG M) (mH M))) [0, 1, 2, 3, 4, 5, 6, 7, 8, 9, 10, 11, 12] rfl (fun _ => rfl) (fun _ hu58 => ?_)
              have hc61 : CUT (mw E a (mkMV (mT M) (mS M) (mA M) (mW M) (mK M) (mP M) (mE M) (mN M) (mX M) (mL M) (mI M) (mD M) (mR M) (mM M) (cpR ((mO M)) ((mS M)) 0 0) (mF M) (mU M) (mQ M) (mZ M) (mG M) (mH M))) (([] : va_W)) (mw E a (mkMV (mT M) (mS M) (mA M) (mW M) (mK M) (mP M) (mE M) (mN M) (mX M) (mL M) (mI M) (mD M) (mR M) (mM M) (cpR ((mO M)) ((mS M)) 0 0) (mF M) (mU M) (mQ M) (mZ M) (mG M) (mH M))) [] [0, 1, 2, 3, 4, 5, 6, 7, 8, 9, 10, 11, 12] := ⟨rfl, rfl, rfl, rfl, rfl⟩
              refine g_TI hX hc61 [.int (nI (lieM C ((cF C) ^^^ i)))] [] (c_X6_bits l E (lieM C ((cF C) ^^^ i)) (by first | assumption | omega)) gX6_chance_X6_bits calX6_bits rfl rfl rfl rfl dX6_chance_61 rfl ⟨Nat.zero_le _, Nat.zero_le _⟩ (fun _ => mw E a (mkMV (mT M) (mS M) (mA M) (mW M) (mK M) (mP M) (mE M) (mN M) (mX M) (mL M) (mI M) (mD M) (mR M) (mM M) (cpR ((mO M)) ((mS M)) 0 0) (mF M) (mU M) (mQ M) (mZ M) (mG M) (mH M))) [0, 1, 2, 3, 4, 5, 6, 7, 8, 9, 10, 11, 12] rfl (fun _ => rfl) (fun _ hu61 => ?_)
              refine g_iload_n hX dX6_chance_64 1 rfl ?_
              refine g_icmp_lt hX 117 dX6_chance_65 (by decide) (fun c65 => ?_) (fun c65 => ?_)
              · replace c65 := (nI_ltI (by omega) (by omega)).mp c65
                refine g_iinc hX (j := 5) (nI (i + 1)) [(5, .int (nI (i + 1))), (0, .ref (a 0)), (1, .int (nI k)), (2, .int (nI xx)), (3, .int (nI p)), (4, .int (nI acc))] dX6_chance_117 5 rfl (iinc_n _ _) (by rw [hnL]; rfl) rfl ?_
                refine g_goto hX 41 dX6_chance_120 (by decide) ?_
                exact g_lv _ [1, 2, 3, 4, 5, 0] rfl (ih41 (i + 1) acc (by omega) (by omega) (by rw [chS, ← hacc]; first | rw [if_neg (Nat.not_le.mpr c65), Nat.add_zero] | rw [if_pos (Nat.not_lt.mp c65), ← wt_eq (by omega), hwt, show f = 6 by omega]))
              · replace c65 := mt (nI_ltI (by omega) (by omega)).mpr c65
                refine g_iconst hX (nI 1) dX6_chance_68 rfl ?_
                refine g_istore hX (j := 6) [(6, .int (nI 1)), (0, .ref (a 0)), (1, .int (nI k)), (2, .int (nI xx)), (3, .int (nI p)), (4, .int (nI acc)), (5, .int (nI i))] dX6_chance_69 (by rw [hnL]; rfl) rfl ?_
                refine g_iconst hX (nI 0) dX6_chance_71 rfl ?_
                refine g_istore hX (j := 7) [(7, .int (nI 0)), (6, .int (nI 1)), (0, .ref (a 0)), (1, .int (nI k)), (2, .int (nI xx)), (3, .int (nI p)), (4, .int (nI acc)), (5, .int (nI i))] dX6_chance_72 (by rw [hnL]; rfl) rfl ?_
                have lp74 : ∀ (fuel : Nat) (f : Nat) (wt : Nat), 6 - f < fuel → (f ≤ 6) → (wt = prB xx (10 - xx) i f) → GG x 0 0 (mw E a (mkMV (mT M) (mS M) (mA M) (mW M) (mK M) (mP M) (mE M) (mN M) (mX M) (mL M) (mI M) (mD M) (mR M) (mM M) (cpR ((mO M)) ((mS M)) 0 0) (mF M) (mU M) (mQ M) (mZ M) (mG M) (mH M))) 74 [(0, .ref (a 0)), (1, .int (nI k)), (2, .int (nI xx)), (3, .int (nI p)), (4, .int (nI acc)), (5, .int (nI i)), (6, .int (nI wt)), (7, .int (nI f))] [] := by
                  intro fuel
                  induction fuel with
                  | zero => intro f wt hm; exact absurd hm (Nat.not_lt_zero _)
                  | succ fuel ih74 =>
                    intro f wt hm74 hf hwt
                    refine g_iload hX dX6_chance_74 7 rfl ?_
                    refine g_bipush hX (nI 6) dX6_chance_76 rfl ?_
                    refine g_icmp_ge hX 110 dX6_chance_78 (by decide) (fun c78 => ?_) (fun c78 => ?_)
                    · replace c78 := (nI_leI (by omega) (by omega)).mp c78
                      refine g_iload hX dX6_chance_110 4 rfl ?_
                      refine g_iload hX dX6_chance_112 6 rfl ?_
                      refine g_iadd hX (nI (acc + wt)) dX6_chance_114 (nI_add _ _) ?_
                      refine g_istore hX (j := 4) [(4, .int (nI (acc + wt))), (0, .ref (a 0)), (1, .int (nI k)), (2, .int (nI xx)), (3, .int (nI p)), (5, .int (nI i)), (6, .int (nI wt)), (7, .int (nI f))] dX6_chance_115 (by rw [hnL]; rfl) rfl ?_
                      refine g_iinc hX (j := 5) (nI (i + 1)) [(5, .int (nI (i + 1))), (4, .int (nI (acc + wt))), (0, .ref (a 0)), (1, .int (nI k)), (2, .int (nI xx)), (3, .int (nI p)), (6, .int (nI wt)), (7, .int (nI f))] dX6_chance_117 5 rfl (iinc_n _ _) (by rw [hnL]; rfl) rfl ?_
                      refine g_goto hX 41 dX6_chance_120 (by decide) ?_
                      exact g_lv _ [2, 3, 4, 5, 1, 0] rfl (ih41 (i + 1) (acc + wt) (by omega) (by omega) (by rw [chS, ← hacc]; first | rw [if_neg (Nat.not_le.mpr c65), Nat.add_zero] | rw [if_pos (Nat.not_lt.mp c65), ← wt_eq (by omega), hwt, show f = 6 by omega]))
                    · replace c78 := mt (nI_leI (by omega) (by omega)).mpr c78
                      refine g_iload hX dX6_chance_81 6 rfl ?_
                      refine g_iload hX dX6_chance_83 5 rfl ?_
                      refine g_iload hX dX6_chance_85 7 rfl ?_
                      have hc87 : CUT (mw E a (mkMV (mT M) (mS M) (mA M) (mW M) (mK M) (mP M) (mE M) (mN M) (mX M) (mL M) (mI M) (mD M) (mR M) (mM M) (cpR ((mO M)) ((mS M)) 0 0) (mF M) (mU M) (mQ M) (mZ M) (mG M) (mH M))) (([] : va_W)) (mw E a (mkMV (mT M) (mS M) (mA M) (mW M) (mK M) (mP M) (mE M) (mN M) (mX M) (mL M) (mI M) (mD M) (mR M) (mM M) (cpR ((mO M)) ((mS M)) 0 0) (mF M) (mU M) (mQ M) (mZ M) (mG M) (mH M))) [] [0, 1, 2, 3, 4, 5, 6, 7, 8, 9, 10, 11, 12] := ⟨rfl, rfl, rfl, rfl, rfl⟩
                      refine g_TI hX hc87 [.int (nI i), .int (nI f)] [.int (nI wt)] (c_X6_has l E i f (by first | assumption | omega) (by first | assumption | omega)) gX6_chance_X6_has calX6_has rfl rfl rfl rfl dX6_chance_87 rfl ⟨Nat.zero_le _, Nat.zero_le _⟩ (fun _ => mw E a (mkMV (mT M) (mS M) (mA M) (mW M) (mK M) (mP M) (mE M) (mN M) (mX M) (mL M) (mI M) (mD M) (mR M) (mM M) (cpR ((mO M)) ((mS M)) 0 0) (mF M) (mU M) (mQ M) (mZ M) (mG M) (mH M))) [0, 1, 2, 3, 4, 5, 6, 7, 8, 9, 10, 11, 12] rfl (fun _ => rfl) (fun _ hu87 => ?_)
                      refine g_if_eq hX 97 dX6_chance_90 (by decide) (fun c90 => ?_) (fun c90 => ?_)
                      · replace c90 := bI_0.mp c90
                        refine g_bipush hX (nI 10) dX6_chance_97 rfl ?_
                        refine g_iload_n hX dX6_chance_99 2 rfl ?_
                        refine g_isub hX (nI (10 - xx)) dX6_chance_100 (pk_sub (by omega)) ?_
                        refine g_imul hX (nI (wt * (10 - xx))) dX6_chance_101 (pk_mul _ _) ?_
                        refine g_istore hX (j := 6) [(6, .int (nI (wt * (10 - xx)))), (0, .ref (a 0)), (1, .int (nI k)), (2, .int (nI xx)), (3, .int (nI p)), (4, .int (nI acc)), (5, .int (nI i)), (7, .int (nI f))] dX6_chance_102 (by rw [hnL]; rfl) rfl ?_
                        refine g_iinc hX (j := 7) (nI (f + 1)) [(7, .int (nI (f + 1))), (6, .int (nI (wt * (10 - xx)))), (0, .ref (a 0)), (1, .int (nI k)), (2, .int (nI xx)), (3, .int (nI p)), (4, .int (nI acc)), (5, .int (nI i))] dX6_chance_104 7 rfl (iinc_n _ _) (by rw [hnL]; rfl) rfl ?_
                        refine g_goto hX 74 dX6_chance_107 (by decide) ?_
                        exact g_lv _ [2, 3, 4, 5, 6, 7, 1, 0] rfl (ih74 (f + 1) (wt * (10 - xx)) (by omega) (by omega) (by rw [hwt, prB]; simp [c45, c65, c78, c90]))
                      · replace c90 := mt bI_0.mpr c90
                        replace c90 := bNf c90
                        refine g_iload_n hX dX6_chance_93 2 rfl ?_
                        refine g_goto hX 101 dX6_chance_94 (by decide) ?_
                        refine g_imul hX (nI (wt * xx)) dX6_chance_101 (pk_mul _ _) ?_
                        refine g_istore hX (j := 6) [(6, .int (nI (wt * xx))), (0, .ref (a 0)), (1, .int (nI k)), (2, .int (nI xx)), (3, .int (nI p)), (4, .int (nI acc)), (5, .int (nI i)), (7, .int (nI f))] dX6_chance_102 (by rw [hnL]; rfl) rfl ?_
                        refine g_iinc hX (j := 7) (nI (f + 1)) [(7, .int (nI (f + 1))), (6, .int (nI (wt * xx))), (0, .ref (a 0)), (1, .int (nI k)), (2, .int (nI xx)), (3, .int (nI p)), (4, .int (nI acc)), (5, .int (nI i))] dX6_chance_104 7 rfl (iinc_n _ _) (by rw [hnL]; rfl) rfl ?_
                        refine g_goto hX 74 dX6_chance_107 (by decide) ?_
                        exact g_lv _ [2, 3, 4, 5, 6, 7, 1, 0] rfl (ih74 (f + 1) (wt * xx) (by omega) (by omega) (by rw [hwt, prB]; simp [c45, c65, c78, c90]))
                exact g_lv _ [2, 3, 4, 5, 6, 7, 1, 0] rfl (lp74 _ 0 1 (Nat.lt_succ_self _) (Nat.zero_le _) rfl)
        exact g_lv _ [2, 3, 4, 5, 1, 0] rfl (lp41 _ 0 0 (Nat.lt_succ_self _) (Nat.zero_le _) rfl)
      · replace c26 := bI_0.mp c26
        exact absurd c26 (by simp)
