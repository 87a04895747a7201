set_option maxHeartbeats 4000000 in
set_option maxRecDepth 100000 in
theorem c_J6_bitCount_0f7a4 (l : Launch) (E : EV) (v : Nat) (hv : v < 512) : KI l yJ6_bitCount_0f7a4 wsJ6_bitCount_0f7a4 (rmN 0) E (σ := Unit) [.int (nI v)] (([] : va_W)) (fun _ => True) (fun _ => (nI (pop v))) (fun _ => ([] : va_W)) 0 0 := by
  refine KI.of (cc := cJ6_bitCount_0f7a4) (maxL := 1) (ty := .int) (hnar := fun _ _ => rfl) rfl rfl rfl (fun x hX hin hret hnL => ?_)
  replace hX : CX x l cJ6_bitCount_0f7a4 RJ6 wsJ6_bitCount_0f7a4 E (rmN 0) := hX
  show GG x 0 0 (([] : va_W)) 0 [(0, .int (nI v))] []
  refine g_iload_n hX dJ6_bitCount_0f7a4_0 0 rfl ?_
  refine g_iload_n hX dJ6_bitCount_0f7a4_1 0 rfl ?_
  refine g_iconst hX (nI 1) dJ6_bitCount_0f7a4_2 rfl ?_
  refine g_iushr hX (((nI v).toUInt32 >>> ((nI 1).toUInt32 &&& Int32.toUInt32 31)).toInt32) dJ6_bitCount_0f7a4_3 rfl ?_
  refine g_ldcw hX (v := (nI 1431655765)) dJ6_bitCount_0f7a4_4 (by decide +kernel) ?_
  refine g_iand hX ((((nI v).toUInt32 >>> ((nI 1).toUInt32 &&& Int32.toUInt32 31)).toInt32) &&& (nI 1431655765)) dJ6_bitCount_0f7a4_7 rfl ?_
  refine g_isub hX ((nI v) - ((((nI v).toUInt32 >>> ((nI 1).toUInt32 &&& Int32.toUInt32 31)).toInt32) &&& (nI 1431655765))) dJ6_bitCount_0f7a4_8 rfl ?_
  obtain ⟨y1, ey1⟩ : ∃ y : Int32, y = (nI v) - ((((nI v).toUInt32 >>> ((nI 1).toUInt32 &&& Int32.toUInt32 31)).toInt32) &&& (nI 1431655765)) := ⟨_, rfl⟩
  rw [← ey1]
  refine g_istore_n hX (j := 0) [(0, .int y1)] dJ6_bitCount_0f7a4_9 rfl (by rw [hnL]; rfl) rfl ?_
  refine g_iload_n hX dJ6_bitCount_0f7a4_10 0 rfl ?_
  refine g_ldcw hX (v := (nI 858993459)) dJ6_bitCount_0f7a4_11 (by decide +kernel) ?_
  refine g_iand hX (y1 &&& (nI 858993459)) dJ6_bitCount_0f7a4_14 rfl ?_
  refine g_iload_n hX dJ6_bitCount_0f7a4_15 0 rfl ?_
  refine g_iconst hX (nI 2) dJ6_bitCount_0f7a4_16 rfl ?_
  refine g_iushr hX ((y1.toUInt32 >>> ((nI 2).toUInt32 &&& Int32.toUInt32 31)).toInt32) dJ6_bitCount_0f7a4_17 rfl ?_
  refine g_ldcw hX (v := (nI 858993459)) dJ6_bitCount_0f7a4_18 (by decide +kernel) ?_
  refine g_iand hX (((y1.toUInt32 >>> ((nI 2).toUInt32 &&& Int32.toUInt32 31)).toInt32) &&& (nI 858993459)) dJ6_bitCount_0f7a4_21 rfl ?_
  refine g_iadd hX ((y1 &&& (nI 858993459)) + (((y1.toUInt32 >>> ((nI 2).toUInt32 &&& Int32.toUInt32 31)).toInt32) &&& (nI 858993459))) dJ6_bitCount_0f7a4_22 rfl ?_
  obtain ⟨y2, ey2⟩ : ∃ y : Int32, y = (y1 &&& (nI 858993459)) + (((y1.toUInt32 >>> ((nI 2).toUInt32 &&& Int32.toUInt32 31)).toInt32) &&& (nI 858993459)) := ⟨_, rfl⟩
  rw [← ey2]
  refine g_istore_n hX (j := 0) [(0, .int y2)] dJ6_bitCount_0f7a4_23 rfl (by rw [hnL]; rfl) rfl ?_
  refine g_iload_n hX dJ6_bitCount_0f7a4_24 0 rfl ?_
  refine g_iload_n hX dJ6_bitCount_0f7a4_25 0 rfl ?_
  refine g_iconst hX (nI 4) dJ6_bitCount_0f7a4_26 rfl ?_
  refine g_iushr hX ((y2.toUInt32 >>> ((nI 4).toUInt32 &&& Int32.toUInt32 31)).toInt32) dJ6_bitCount_0f7a4_27 rfl ?_
  refine g_iadd hX (y2 + ((y2.toUInt32 >>> ((nI 4).toUInt32 &&& Int32.toUInt32 31)).toInt32)) dJ6_bitCount_0f7a4_28 rfl ?_
  refine g_ldcw hX (v := (nI 252645135)) dJ6_bitCount_0f7a4_29 (by decide +kernel) ?_
  refine g_iand hX ((y2 + ((y2.toUInt32 >>> ((nI 4).toUInt32 &&& Int32.toUInt32 31)).toInt32)) &&& (nI 252645135)) dJ6_bitCount_0f7a4_32 rfl ?_
  obtain ⟨y3, ey3⟩ : ∃ y : Int32, y = (y2 + ((y2.toUInt32 >>> ((nI 4).toUInt32 &&& Int32.toUInt32 31)).toInt32)) &&& (nI 252645135) := ⟨_, rfl⟩
  rw [← ey3]
  refine g_istore_n hX (j := 0) [(0, .int y3)] dJ6_bitCount_0f7a4_33 rfl (by rw [hnL]; rfl) rfl ?_
  refine g_iload_n hX dJ6_bitCount_0f7a4_34 0 rfl ?_
  refine g_iload_n hX dJ6_bitCount_0f7a4_35 0 rfl ?_
  refine g_bipush hX (nI 8) dJ6_bitCount_0f7a4_36 rfl ?_
  refine g_iushr hX ((y3.toUInt32 >>> ((nI 8).toUInt32 &&& Int32.toUInt32 31)).toInt32) dJ6_bitCount_0f7a4_38 rfl ?_
  refine g_iadd hX (y3 + ((y3.toUInt32 >>> ((nI 8).toUInt32 &&& Int32.toUInt32 31)).toInt32)) dJ6_bitCount_0f7a4_39 rfl ?_
  obtain ⟨y4, ey4⟩ : ∃ y : Int32, y = y3 + ((y3.toUInt32 >>> ((nI 8).toUInt32 &&& Int32.toUInt32 31)).toInt32) := ⟨_, rfl⟩
  rw [← ey4]
  refine g_istore_n hX (j := 0) [(0, .int y4)] dJ6_bitCount_0f7a4_40 rfl (by rw [hnL]; rfl) rfl ?_
  refine g_iload_n hX dJ6_bitCount_0f7a4_41 0 rfl ?_
  refine g_iload_n hX dJ6_bitCount_0f7a4_42 0 rfl ?_
  refine g_bipush hX (nI 16) dJ6_bitCount_0f7a4_43 rfl ?_
  refine g_iushr hX ((y4.toUInt32 >>> ((nI 16).toUInt32 &&& Int32.toUInt32 31)).toInt32) dJ6_bitCount_0f7a4_45 rfl ?_
  refine g_iadd hX (y4 + ((y4.toUInt32 >>> ((nI 16).toUInt32 &&& Int32.toUInt32 31)).toInt32)) dJ6_bitCount_0f7a4_46 rfl ?_
  obtain ⟨y5, ey5⟩ : ∃ y : Int32, y = y4 + ((y4.toUInt32 >>> ((nI 16).toUInt32 &&& Int32.toUInt32 31)).toInt32) := ⟨_, rfl⟩
  rw [← ey5]
  refine g_istore_n hX (j := 0) [(0, .int y5)] dJ6_bitCount_0f7a4_47 rfl (by rw [hnL]; rfl) rfl ?_
  refine g_iload_n hX dJ6_bitCount_0f7a4_48 0 rfl ?_
  refine g_bipush hX (nI 63) dJ6_bitCount_0f7a4_49 rfl ?_
  refine g_iand hX (y5 &&& (nI 63)) dJ6_bitCount_0f7a4_51 rfl ?_
  exact g_eq rfl rfl (congrArg (fun z => [Value.int z]) (by rw [show y5 = bcs5 y4 from ey5, show y4 = bcs4 y3 from ey4, show y3 = bcs3 y2 from ey3, show y2 = bcs2 y1 from ey2, show y1 = bcs1 (nI v) from ey1]; exact bcJ_ok v hv)) (hret () _ _ trivial dJ6_bitCount_0f7a4_52)
set_option maxHeartbeats 4000000 in
set_option maxRecDepth 100000 in
theorem c_X5_isFact_n (l : Launch) (E : EV) (f : Nat) (hf : f < 2 ^ 31) : KI l yX5_isFact wsX5_isFact (rmN 1) E (σ := Unit) [.int (nI f)] (([] : va_W)) (fun _ => True) (fun _ => (bI (decide (f < 6)))) (fun _ => ([] : va_W)) 0 0 := by
  have h := c_X5_isFact l E (nI f)
  rw [win_n hf (by decide) (by decide), show (decide (0 ≤ f) && decide (f ≤ 5)) = decide (f < 6) from by by_cases q : f < 6 <;> simp [q] <;> omega] at h
  exact h
set_option maxHeartbeats 4000000 in
set_option maxRecDepth 100000 in
theorem c_X0_standing (l : Launch) (E : EV) (a : Nat → Nat) (C : FC) (hC : FO C) : KI l yX0_standing wsX0_standing (rmN 0) E (σ := Unit) [.ref (a 0)] (fw E a C) (fun _ => True) (fun _ => (nI (stM C))) (fun _ => fw E a C) 0 0 := by
  refine KI.of (cc := cX0_standing) (maxL := 1) (ty := .int) (hnar := fun _ _ => rfl) rfl rfl rfl (fun x hX hin hret hnL => ?_)
  replace hX : CX x l cX0_standing RX0 wsX0_standing E (rmN 0) := hX
  show GG x 0 0 (fw E a C) 0 [(0, .ref (a 0))] []
  have inRX0 : ∀ w ∈ wsX00, w ∈ wsX0_standing := by decide +kernel
  have fl38 : Cond.fieldLink RX0 38 "LieForce$Force" "sayings" "I" ∈ wsX0_standing := by decide +kernel
  have fl41 : Cond.fieldLink RX0 41 "LieForce$Force" "withdrawn" "I" ∈ wsX0_standing := by decide +kernel
  obtain ⟨h9, h64, h512, hT, hI⟩ := id hC
  refine g_iconst hX (nI 1) dX0_standing_0 rfl ?_
  refine g_aload_n hX dX0_standing_1 0 rfl ?_
  refine g_get hX (v := .int (nI (cN C))) 0 inRX0 rfl rfl 1 rfl fl38 rfl rfl dX0_standing_2 ?_
  refine g_ishl hX (nI (1 <<< (cN C))) dX0_standing_5 (sh_l _ (by omega)) ?_
  refine g_iconst hX (nI 1) dX0_standing_6 rfl ?_
  refine g_isub hX (nI ((1 <<< (cN C)) - 1)) dX0_standing_7 (pk_sub (by exact one_shl)) ?_
  refine g_aload_n hX dX0_standing_8 0 rfl ?_
  refine g_get hX (v := .int (nI (cG C))) 0 inRX0 rfl rfl 2 rfl fl41 rfl rfl dX0_standing_9 ?_
  refine g_iconst hX ((-1)) dX0_standing_12 rfl ?_
  refine g_ixor hX (nI (cG C) ^^^ (-1)) dX0_standing_13 rfl ?_
  refine g_iand hX (nI (andn ((1 <<< (cN C)) - 1) (cG C))) dX0_standing_14 (and_not (by exact Nat.lt_of_lt_of_le (full_lt h9) (by decide))) ?_
  exact g_eq rfl rfl (congrArg (fun z => [Value.int z]) (congrArg nI (by rfl))) (hret () _ _ trivial dX0_standing_15)
set_option maxHeartbeats 4000000 in
set_option maxRecDepth 100000 in
theorem c_X0_liesIn (l : Launch) (E : EV) (a : Nat → Nat) (C : FC) (w : Nat) (hC : FO C) (hw : w < 64) : KI l yX0_liesIn wsX0_liesIn (rmN 2) E (σ := Unit) [.ref (a 0), .int (nI w)] (fw E a C) (fun _ => True) (fun _ => (nI (lieM C w))) (fun _ => fw E a C) 0 0 := by
  refine KI.of (cc := cX0_liesIn) (maxL := 4) (ty := .int) (hnar := fun _ _ => rfl) rfl rfl rfl (fun x hX hin hret hnL => ?_)
  replace hX : CX x l cX0_liesIn RX0 wsX0_liesIn E (rmN 2) := hX
  show GG x 0 0 (fw E a C) 0 [(0, .ref (a 0)), (1, .int (nI w))] []
  have inRX0 : ∀ w ∈ wsX00, w ∈ wsX0_liesIn := by decide +kernel
  have fl38 : Cond.fieldLink RX0 38 "LieForce$Force" "sayings" "I" ∈ wsX0_liesIn := by decide +kernel
  obtain ⟨h9, h64, h512, hT, hI⟩ := id hC
  refine g_iconst hX (nI 0) dX0_liesIn_0 rfl ?_
  refine g_istore_n hX (j := 2) [(2, .int (nI 0)), (0, .ref (a 0)), (1, .int (nI w))] dX0_liesIn_1 rfl (by rw [hnL]; rfl) rfl ?_
  refine g_iconst hX (nI 0) dX0_liesIn_2 rfl ?_
  refine g_istore_n hX (j := 3) [(3, .int (nI 0)), (2, .int (nI 0)), (0, .ref (a 0)), (1, .int (nI w))] dX0_liesIn_3 rfl (by rw [hnL]; rfl) rfl ?_
  have lp4 : ∀ (fuel : Nat) (i : Nat) (acc : Nat), cN C - i < fuel → (i ≤ cN C) → (acc = bitsOf (liB C w) i) → GG x 0 0 (fw E a C) 4 [(0, .ref (a 0)), (1, .int (nI w)), (2, .int (nI acc)), (3, .int (nI i))] [] := by
    intro fuel
    induction fuel with
    | zero => intro i acc hm; exact absurd hm (Nat.not_lt_zero _)
    | succ fuel ih4 =>
      intro i acc hm4 hi hacc
      refine g_iload_n hX dX0_liesIn_4 3 rfl ?_
      refine g_aload_n hX dX0_liesIn_5 0 rfl ?_
      refine g_get hX (v := .int (nI (cN C))) 0 inRX0 rfl rfl 1 rfl fl38 rfl rfl dX0_liesIn_6 ?_
      refine g_icmp_ge hX 41 dX0_liesIn_9 (by decide) (fun c9 => ?_) (fun c9 => ?_)
      · replace c9 := (nI_leI (by omega) (by omega)).mp c9
        refine g_iload_n hX dX0_liesIn_41 2 rfl ?_
        exact g_eq rfl rfl (congrArg (fun z => [Value.int z]) (congrArg nI (by rw [hacc, show i = cN C by omega]; rfl))) (hret () _ _ trivial dX0_liesIn_42)
      · replace c9 := mt (nI_leI (by omega) (by omega)).mpr c9
        refine g_aload_n hX dX0_liesIn_12 0 rfl ?_
        refine g_iload_n hX dX0_liesIn_13 3 rfl ?_
        have hc14 : CUT (fw E a C) (fw E a C) (([] : va_W)) [0, 1, 2, 3, 4, 5, 6] [] := ⟨rfl, rfl, rfl, rfl, rfl⟩
        refine g_VI hX hc14 [.int (nI i)] [] (c_X0_isWithdrawn l E a C i (by first | assumption | omega) (by omega)) gX0_liesIn_X0_isWithdrawn calX0_isWithdrawn rfl rfl rfl rfl 0 rfl rfl rfl rfl dX0_liesIn_14 rfl ⟨Nat.zero_le _, Nat.zero_le _⟩ (fun _ => fw E a C) [0, 1, 2, 3, 4, 5, 6] rfl (fun _ => rfl) (fun _ hu14 => ?_)
        refine g_if_ne hX 35 dX0_liesIn_17 (by decide) (fun c17 => ?_) (fun c17 => ?_)
        · replace c17 := mt bI_0.mpr c17
          replace c17 := bNf c17
          refine g_iinc hX (j := 3) (nI (i + 1)) [(3, .int (nI (i + 1))), (0, .ref (a 0)), (1, .int (nI w)), (2, .int (nI acc))] dX0_liesIn_35 3 rfl (iinc_n _ _) (by rw [hnL]; rfl) rfl ?_
          refine g_goto hX 4 dX0_liesIn_38 (by decide) ?_
          exact g_lv _ [1, 2, 3, 0] rfl (ih4 (i + 1) acc (by omega) (by omega) (by rw [hacc, bitsOf]; simp [liB, c9, c17]))
        · replace c17 := bI_0.mp c17
          refine g_aload_n hX dX0_liesIn_20 0 rfl ?_
          refine g_iload_n hX dX0_liesIn_21 3 rfl ?_
          refine g_iload_n hX dX0_liesIn_22 1 rfl ?_
          have hc23 : CUT (fw E a C) (fw E a C) (([] : va_W)) [0, 1, 2, 3, 4, 5, 6] [] := ⟨rfl, rfl, rfl, rfl, rfl⟩
          refine g_VI hX hc23 [.int (nI i), .int (nI w)] [] (c_X0_isSoIn l E a C i w (by first | assumption | omega) (by omega) (by omega)) gX0_liesIn_X0_isSoIn calX0_isSoIn rfl rfl rfl rfl 0 rfl rfl rfl rfl dX0_liesIn_23 rfl ⟨Nat.zero_le _, Nat.zero_le _⟩ (fun _ => fw E a C) [0, 1, 2, 3, 4, 5, 6] rfl (fun _ => rfl) (fun _ hu23 => ?_)
          refine g_if_ne hX 35 dX0_liesIn_26 (by decide) (fun c26 => ?_) (fun c26 => ?_)
          · replace c26 := mt bI_0.mpr c26
            replace c26 := bNf c26
            refine g_iinc hX (j := 3) (nI (i + 1)) [(3, .int (nI (i + 1))), (0, .ref (a 0)), (1, .int (nI w)), (2, .int (nI acc))] dX0_liesIn_35 3 rfl (iinc_n _ _) (by rw [hnL]; rfl) rfl ?_
            refine g_goto hX 4 dX0_liesIn_38 (by decide) ?_
            exact g_lv _ [1, 2, 3, 0] rfl (ih4 (i + 1) acc (by omega) (by omega) (by rw [hacc, bitsOf]; simp [liB, c9, c17, c26]))
          · replace c26 := bI_0.mp c26
            refine g_iload_n hX dX0_liesIn_29 2 rfl ?_
            refine g_iconst hX (nI 1) dX0_liesIn_30 rfl ?_
            refine g_iload_n hX dX0_liesIn_31 3 rfl ?_
            refine g_ishl hX (nI (1 <<< i)) dX0_liesIn_32 (sh_l _ (by omega)) ?_
            refine g_ior hX (nI (acc ||| (1 <<< i))) dX0_liesIn_33 (fa_or _ _) ?_
            refine g_istore_n hX (j := 2) [(2, .int (nI (acc ||| (1 <<< i)))), (0, .ref (a 0)), (1, .int (nI w)), (3, .int (nI i))] dX0_liesIn_34 rfl (by rw [hnL]; rfl) rfl ?_
            refine g_iinc hX (j := 3) (nI (i + 1)) [(3, .int (nI (i + 1))), (2, .int (nI (acc ||| (1 <<< i)))), (0, .ref (a 0)), (1, .int (nI w))] dX0_liesIn_35 3 rfl (iinc_n _ _) (by rw [hnL]; rfl) rfl ?_
            refine g_goto hX 4 dX0_liesIn_38 (by decide) ?_
            exact g_lv _ [2, 3, 1, 0] rfl (ih4 (i + 1) (acc ||| (1 <<< i)) (by omega) (by omega) (by rw [hacc, bitsOf]; simp [liB, c9, c17, c26]))
  exact g_lv _ [2, 3, 1, 0] rfl (lp4 _ 0 0 (Nat.lt_succ_self _) (Nat.zero_le _) rfl)
set_option maxHeartbeats 4000000 in
set_option maxRecDepth 100000 in
theorem c_X0_soAtOnce (l : Launch) (E : EV) (a : Nat → Nat) (C : FC) (w : Nat) (hC : FO C) (hw : w < 64) : KI l yX0_soAtOnce wsX0_soAtOnce (rmN 3) E (σ := Unit) [.ref (a 0), .int (nI w)] (fw E a C) (fun _ => True) (fun _ => (nI (pop (soM C w)))) (fun _ => fw E a C) 0 0 := by
  refine KI.of (cc := cX0_soAtOnce) (maxL := 2) (ty := .int) (hnar := fun _ _ => rfl) rfl rfl rfl (fun x hX hin hret hnL => ?_)
  replace hX : CX x l cX0_soAtOnce RX0 wsX0_soAtOnce E (rmN 3) := hX
  show GG x 0 0 (fw E a C) 0 [(0, .ref (a 0)), (1, .int (nI w))] []
  obtain ⟨h9, h64, h512, hT, hI⟩ := id hC
  have hst := stM_lt h9
  have hso := soM_lt h9 w
  refine g_aload_n hX dX0_soAtOnce_0 0 rfl ?_
  have hc1 : CUT (fw E a C) (fw E a C) (([] : va_W)) [0, 1, 2, 3, 4, 5, 6] [] := ⟨rfl, rfl, rfl, rfl, rfl⟩
  refine g_VI hX hc1 [] [] (c_X0_standing l E a C (by first | assumption | omega)) gX0_soAtOnce_X0_standing calX0_standing rfl rfl rfl rfl 0 rfl rfl rfl rfl dX0_soAtOnce_1 rfl ⟨Nat.zero_le _, Nat.zero_le _⟩ (fun _ => fw E a C) [0, 1, 2, 3, 4, 5, 6] rfl (fun _ => rfl) (fun _ hu1 => ?_)
  refine g_aload_n hX dX0_soAtOnce_4 0 rfl ?_
  refine g_iload_n hX dX0_soAtOnce_5 1 rfl ?_
  have hc6 : CUT (fw E a C) (fw E a C) (([] : va_W)) [0, 1, 2, 3, 4, 5, 6] [] := ⟨rfl, rfl, rfl, rfl, rfl⟩
  refine g_VI hX hc6 [.int (nI w)] [.int (nI (stM C))] (c_X0_liesIn l E a C w (by first | assumption | omega) (by omega)) gX0_soAtOnce_X0_liesIn calX0_liesIn rfl rfl rfl rfl 0 rfl rfl rfl rfl dX0_soAtOnce_6 rfl ⟨Nat.zero_le _, Nat.zero_le _⟩ (fun _ => fw E a C) [0, 1, 2, 3, 4, 5, 6] rfl (fun _ => rfl) (fun _ hu6 => ?_)
  refine g_iconst hX ((-1)) dX0_soAtOnce_9 rfl ?_
  refine g_ixor hX (nI (lieM C w) ^^^ (-1)) dX0_soAtOnce_10 rfl ?_
  refine g_iand hX (nI (andn (stM C) (lieM C w))) dX0_soAtOnce_11 (and_not (by omega)) ?_
  have hc12 : CUT (fw E a C) (([] : va_W)) (fw E a C) [] [0, 1, 2, 3, 4, 5, 6] := ⟨rfl, rfl, rfl, rfl, rfl⟩
  refine g_TI hX hc12 [.int (nI (andn (stM C) (lieM C w)))] [] (c_J6_bitCount_0f7a4 l E (andn (stM C) (lieM C w)) hso) gX0_soAtOnce_J6_bitCount_0f7a4 calJ6_bitCount_0f7a4 rfl rfl rfl rfl dX0_soAtOnce_12 rfl ⟨Nat.zero_le _, Nat.zero_le _⟩ (fun _ => fw E a C) [0, 1, 2, 3, 4, 5, 6] rfl (fun _ => rfl) (fun _ hu12 => ?_)
  exact g_eq rfl rfl (congrArg (fun z => [Value.int z]) (congrArg nI (by rfl))) (hret () _ _ trivial dX0_soAtOnce_15)
set_option maxHeartbeats 4000000 in
set_option maxRecDepth 100000 in
theorem c_X0_liarsIn (l : Launch) (E : EV) (a : Nat → Nat) (C : FC) (w : Nat) (hC : FO C) (hw : w < 64) : KI l yX0_liarsIn wsX0_liarsIn (rmN 3) E (σ := Unit) [.ref (a 0), .int (nI w)] (fw E a C) (fun _ => True) (fun _ => (nI (pop (liM C w (cN C))))) (fun _ => fw E a C) 0 0 := by
  refine KI.of (cc := cX0_liarsIn) (maxL := 5) (ty := .int) (hnar := fun _ _ => rfl) rfl rfl rfl (fun x hX hin hret hnL => ?_)
  replace hX : CX x l cX0_liarsIn RX0 wsX0_liarsIn E (rmN 3) := hX
  show GG x 0 0 (fw E a C) 0 [(0, .ref (a 0)), (1, .int (nI w))] []
  have inRX0 : ∀ w ∈ wsX00, w ∈ wsX0_liarsIn := by decide +kernel
  have fl25 : Cond.fieldLink RX0 25 "LieForce$Force" "persons" "[I" ∈ wsX0_liarsIn := by decide +kernel
  have fl38 : Cond.fieldLink RX0 38 "LieForce$Force" "sayings" "I" ∈ wsX0_liarsIn := by decide +kernel
  obtain ⟨h9, h64, h512, hT, hI⟩ := id hC
  have hli := lieM_lt h9 w
  refine g_aload_n hX dX0_liarsIn_0 0 rfl ?_
  refine g_iload_n hX dX0_liarsIn_1 1 rfl ?_
  have hc2 : CUT (fw E a C) (fw E a C) (([] : va_W)) [0, 1, 2, 3, 4, 5, 6] [] := ⟨rfl, rfl, rfl, rfl, rfl⟩
  refine g_VI hX hc2 [.int (nI w)] [] (c_X0_liesIn l E a C w (by first | assumption | omega) (by omega)) gX0_liarsIn_X0_liesIn calX0_liesIn rfl rfl rfl rfl 0 rfl rfl rfl rfl dX0_liarsIn_2 rfl ⟨Nat.zero_le _, Nat.zero_le _⟩ (fun _ => fw E a C) [0, 1, 2, 3, 4, 5, 6] rfl (fun _ => rfl) (fun _ hu2 => ?_)
  refine g_istore_n hX (j := 2) [(2, .int (nI (lieM C w))), (0, .ref (a 0)), (1, .int (nI w))] dX0_liarsIn_5 rfl (by rw [hnL]; rfl) rfl ?_
  refine g_iconst hX (nI 0) dX0_liarsIn_6 rfl ?_
  refine g_istore_n hX (j := 3) [(3, .int (nI 0)), (2, .int (nI (lieM C w))), (0, .ref (a 0)), (1, .int (nI w))] dX0_liarsIn_7 rfl (by rw [hnL]; rfl) rfl ?_
  refine g_iconst hX (nI 0) dX0_liarsIn_8 rfl ?_
  refine g_istore hX (j := 4) [(4, .int (nI 0)), (3, .int (nI 0)), (2, .int (nI (lieM C w))), (0, .ref (a 0)), (1, .int (nI w))] dX0_liarsIn_9 (by rw [hnL]; rfl) rfl ?_
  have lp11 : ∀ (fuel : Nat) (i : Nat) (acc : Nat), cN C - i < fuel → (i ≤ cN C) → (acc = liM C w i) → GG x 0 0 (fw E a C) 11 [(0, .ref (a 0)), (1, .int (nI w)), (2, .int (nI (lieM C w))), (3, .int (nI acc)), (4, .int (nI i))] [] := by
    intro fuel
    induction fuel with
    | zero => intro i acc hm; exact absurd hm (Nat.not_lt_zero _)
    | succ fuel ih11 =>
      intro i acc hm11 hi hacc
      refine g_iload hX dX0_liarsIn_11 4 rfl ?_
      refine g_aload_n hX dX0_liarsIn_13 0 rfl ?_
      refine g_get hX (v := .int (nI (cN C))) 0 inRX0 rfl rfl 1 rfl fl38 rfl rfl dX0_liarsIn_14 ?_
      refine g_icmp_ge hX 56 dX0_liarsIn_17 (by decide) (fun c17 => ?_) (fun c17 => ?_)
      · replace c17 := (nI_leI (by omega) (by omega)).mp c17
        refine g_iload_n hX dX0_liarsIn_56 3 rfl ?_
        have hlm := liM_lt (C := C) w (k := cN C) (fun i hi => (hI i hi).1)
        obtain rfl : i = cN C := by omega
        have hc57 : CUT (fw E a C) (([] : va_W)) (fw E a C) [] [0, 1, 2, 3, 4, 5, 6] := ⟨rfl, rfl, rfl, rfl, rfl⟩
        refine g_TI hX hc57 [.int (nI acc)] [] (c_J6_bitCount_0f7a4 l E acc (by rw [hacc]; omega)) gX0_liarsIn_J6_bitCount_0f7a4 calJ6_bitCount_0f7a4 rfl rfl rfl rfl dX0_liarsIn_57 rfl ⟨Nat.zero_le _, Nat.zero_le _⟩ (fun _ => fw E a C) [0, 1, 2, 3, 4, 5, 6] rfl (fun _ => rfl) (fun _ hu57 => ?_)
        exact g_eq rfl rfl (congrArg (fun z => [Value.int z]) (congrArg nI (by rw [hacc]))) (hret () _ _ trivial dX0_liarsIn_60)
      · replace c17 := mt (nI_leI (by omega) (by omega)).mpr c17
        refine g_aload_n hX dX0_liarsIn_20 0 rfl ?_
        refine g_iload hX dX0_liarsIn_21 4 rfl ?_
        have hc23 : CUT (fw E a C) (fw E a C) (([] : va_W)) [0, 1, 2, 3, 4, 5, 6] [] := ⟨rfl, rfl, rfl, rfl, rfl⟩
        refine g_VI hX hc23 [.int (nI i)] [] (c_X0_isThere_t l E a C i (by first | assumption | omega) (by omega)) gX0_liarsIn_X0_isThere calX0_isThere rfl rfl rfl rfl 0 rfl rfl rfl rfl dX0_liarsIn_23 rfl ⟨Nat.zero_le _, Nat.zero_le _⟩ (fun _ => fw E a C) [0, 1, 2, 3, 4, 5, 6] rfl (fun _ => rfl) (fun _ hu23 => ?_)
        refine g_if_eq hX 50 dX0_liarsIn_26 (by decide) (fun c26 => ?_) (fun c26 => ?_)
        · replace c26 := bI_0.mp c26
          exact absurd c26 (by simp)
        · replace c26 := mt bI_0.mpr c26
          replace c26 := bNf c26
          refine g_iload_n hX dX0_liarsIn_29 2 rfl ?_
          refine g_iload hX dX0_liarsIn_30 4 rfl ?_
          have hc32 : CUT (fw E a C) (([] : va_W)) (fw E a C) [] [0, 1, 2, 3, 4, 5, 6] := ⟨rfl, rfl, rfl, rfl, rfl⟩
          refine g_NI hX hc32 [.int (nI (lieM C w)), .int (nI i)] [] (c_X5_isBitOf l E (lieM C w) i (by first | assumption | omega) (by first | assumption | omega)) gX0_liarsIn_X5_isBitOf_n88 calX5_isBitOf rfl rfl (by decide +kernel) (by decide +kernel) (by decide +kernel) rfl rfl dX0_liarsIn_32 rfl ⟨Nat.zero_le _, Nat.zero_le _⟩ (fun _ => fw E a C) [0, 1, 2, 3, 4, 5, 6] rfl (fun _ => rfl) (fun _ hu32 => ?_)
          refine g_if_eq hX 50 dX0_liarsIn_35 (by decide) (fun c35 => ?_) (fun c35 => ?_)
          · replace c35 := bI_0.mp c35
            rw [lieM_bit] at c35; have c36 : liB C w i = false := by simpa [show i < cN C by omega] using c35
            refine g_iinc hX (j := 4) (nI (i + 1)) [(4, .int (nI (i + 1))), (0, .ref (a 0)), (1, .int (nI w)), (2, .int (nI (lieM C w))), (3, .int (nI acc))] dX0_liarsIn_50 4 rfl (iinc_n _ _) (by rw [hnL]; rfl) rfl ?_
            refine g_goto hX 11 dX0_liarsIn_53 (by decide) ?_
            exact g_lv _ [1, 2, 3, 4, 0] rfl (ih11 (i + 1) acc (by omega) (by omega) (by rw [hacc, liM]; simp [c17, c35, c36]))
          · replace c35 := mt bI_0.mpr c35
            replace c35 := bNf c35
            rw [lieM_bit] at c35; have c36 : liB C w i = true := by simpa [show i < cN C by omega] using c35
            refine g_iload_n hX dX0_liarsIn_38 3 rfl ?_
            refine g_iconst hX (nI 1) dX0_liarsIn_39 rfl ?_
            have hPi := (hI i (by omega)).1
            refine g_aload_n hX dX0_liarsIn_40 0 rfl ?_
            refine g_get hX (v := .ref (a 4)) 0 inRX0 rfl rfl 8 rfl fl25 rfl rfl dX0_liarsIn_41 ?_
            refine g_iload hX dX0_liarsIn_44 4 rfl ?_
            refine g_iald hX (nI (cP C i)) 4 0 rfl rfl (vp_in_nI (by omega) (by omega)) (ald_n (g := fun j => nI (cP C j)) (i := i) (by omega)) dX0_liarsIn_46 ?_
            refine g_ishl hX (nI (1 <<< (cP C i))) dX0_liarsIn_47 (sh_l _ (by omega)) ?_
            refine g_ior hX (nI (acc ||| (1 <<< (cP C i)))) dX0_liarsIn_48 (fa_or _ _) ?_
            refine g_istore_n hX (j := 3) [(3, .int (nI (acc ||| (1 <<< (cP C i))))), (0, .ref (a 0)), (1, .int (nI w)), (2, .int (nI (lieM C w))), (4, .int (nI i))] dX0_liarsIn_49 rfl (by rw [hnL]; rfl) rfl ?_
            refine g_iinc hX (j := 4) (nI (i + 1)) [(4, .int (nI (i + 1))), (3, .int (nI (acc ||| (1 <<< (cP C i))))), (0, .ref (a 0)), (1, .int (nI w)), (2, .int (nI (lieM C w)))] dX0_liarsIn_50 4 rfl (iinc_n _ _) (by rw [hnL]; rfl) rfl ?_
            refine g_goto hX 11 dX0_liarsIn_53 (by decide) ?_
            exact g_lv _ [2, 3, 4, 1, 0] rfl (ih11 (i + 1) (acc ||| (1 <<< (cP C i))) (by omega) (by omega) (by rw [hacc, liM]; simp [c17, c35, c36]))
  exact g_lv _ [3, 4, 2, 1, 0] rfl (lp11 _ 0 0 (Nat.lt_succ_self _) (Nat.zero_le _) rfl)
set_option maxHeartbeats 4000000 in
set_option maxRecDepth 100000 in
theorem c_X0_policedWorlds (l : Launch) (E : EV) (a : Nat → Nat) (C : FC) (s : Nat) (hC : FO C) (hs : s < 2 ^ 31) : KL l yX0_policedWorlds wsX0_policedWorlds (rmN 1) E (σ := Unit) [.ref (a 0), .int (nI s)] (fw E a C) (fun _ => True) (fun _ => (lN (plW C s))) (fun _ => fw E a C) 0 0 := by
  refine KL.of (cc := cX0_policedWorlds) (maxL := 2) rfl rfl rfl (fun x hX hin hret hnL => ?_)
  replace hX : CX x l cX0_policedWorlds RX0 wsX0_policedWorlds E (rmN 1) := hX
  show GG x 0 0 (fw E a C) 0 [(0, .ref (a 0)), (1, .int (nI s))] []
  have inRX0 : ∀ w ∈ wsX00, w ∈ wsX0_policedWorlds := by decide +kernel
  have fl31 : Cond.fieldLink RX0 31 "LieForce$Force" "soWorlds" "[J" ∈ wsX0_policedWorlds := by decide +kernel
  obtain ⟨h9, h64, h512, hT, hI⟩ := id hC
  refine g_aload_n hX dX0_policedWorlds_0 0 rfl ?_
  refine g_iload_n hX dX0_policedWorlds_1 1 rfl ?_
  have hc2 : CUT (fw E a C) (fw E a C) (([] : va_W)) [0, 1, 2, 3, 4, 5, 6] [] := ⟨rfl, rfl, rfl, rfl, rfl⟩
  refine g_VI hX hc2 [.int (nI s)] [] (c_X0_isThere_n l E a C s (by first | assumption | omega) (by omega)) gX0_policedWorlds_X0_isThere calX0_isThere rfl rfl rfl rfl 0 rfl rfl rfl rfl dX0_policedWorlds_2 rfl ⟨Nat.zero_le _, Nat.zero_le _⟩ (fun _ => fw E a C) [0, 1, 2, 3, 4, 5, 6] rfl (fun _ => rfl) (fun _ hu2 => ?_)
  refine g_if_eq hX 16 dX0_policedWorlds_5 (by decide) (fun c5 => ?_) (fun c5 => ?_)
  · replace c5 := bI_0.mp c5
    replace c5 := of_decide_eq_false c5
    refine g_lconst hX (lN 0) dX0_policedWorlds_16 rfl ?_
    refine g_goto hX 30 dX0_policedWorlds_17 (by decide) ?_
    exact g_eq rfl rfl (congrArg (fun z => [Value.long z]) (congrArg lN (by simp [plW, c5]))) (hret () _ _ trivial dX0_policedWorlds_30)
  · replace c5 := mt bI_0.mpr c5
    replace c5 := bNf c5
    replace c5 := of_decide_eq_true c5
    refine g_aload_n hX dX0_policedWorlds_8 0 rfl ?_
    refine g_iload_n hX dX0_policedWorlds_9 1 rfl ?_
    have hc10 : CUT (fw E a C) (fw E a C) (([] : va_W)) [0, 1, 2, 3, 4, 5, 6] [] := ⟨rfl, rfl, rfl, rfl, rfl⟩
    refine g_VI hX hc10 [.int (nI s)] [] (c_X0_isWithdrawn l E a C s (by first | assumption | omega) (by omega)) gX0_policedWorlds_X0_isWithdrawn calX0_isWithdrawn rfl rfl rfl rfl 0 rfl rfl rfl rfl dX0_policedWorlds_10 rfl ⟨Nat.zero_le _, Nat.zero_le _⟩ (fun _ => fw E a C) [0, 1, 2, 3, 4, 5, 6] rfl (fun _ => rfl) (fun _ hu10 => ?_)
    refine g_if_eq hX 20 dX0_policedWorlds_13 (by decide) (fun c13 => ?_) (fun c13 => ?_)
    · replace c13 := bI_0.mp c13
      have hWs := (hI s c5).2
      refine g_aload_n hX dX0_policedWorlds_20 0 rfl ?_
      refine g_get hX (v := .ref (a 6)) 0 inRX0 rfl rfl 10 rfl fl31 rfl rfl dX0_policedWorlds_21 ?_
      refine g_iload_n hX dX0_policedWorlds_24 1 rfl ?_
      refine g_lald hX (lN (cW C s)) 6 1 rfl rfl (vp_in_nI (by omega) (by omega)) (ald_n (g := fun j => lN (cW C j)) (i := s) (by omega)) dX0_policedWorlds_25 ?_
      refine g_ldc2 hX (v := (-1)) dX0_policedWorlds_26 (by decide +kernel) ?_
      refine g_lxor hX (lN (2 ^ 64 - (cW C s + 1))) dX0_policedWorlds_29 (lxor_m1 (by omega)) ?_
      exact g_eq rfl rfl (congrArg (fun z => [Value.long z]) (congrArg lN (by simp [plW, c5, c13]))) (hret () _ _ trivial dX0_policedWorlds_30)
    · replace c13 := mt bI_0.mpr c13
      replace c13 := bNf c13
      refine g_lconst hX (lN 0) dX0_policedWorlds_16 rfl ?_
      refine g_goto hX 30 dX0_policedWorlds_17 (by decide) ?_
      exact g_eq rfl rfl (congrArg (fun z => [Value.long z]) (congrArg lN (by simp [plW, c5, c13]))) (hret () _ _ trivial dX0_policedWorlds_30)
set_option maxHeartbeats 4000000 in
set_option maxRecDepth 100000 in
theorem c_X0_policemen (l : Launch) (E : EV) (a : Nat → Nat) (C : FC) (hC : FO C) : KI l yX0_policemen wsX0_policemen (rmN 3) E (σ := Unit) [.ref (a 0)] (fw E a C) (fun _ => True) (fun _ => (nI (pop (lieM C (cF C))))) (fun _ => fw E a C) 0 0 := by
  refine KI.of (cc := cX0_policemen) (maxL := 1) (ty := .int) (hnar := fun _ _ => rfl) rfl rfl rfl (fun x hX hin hret hnL => ?_)
  replace hX : CX x l cX0_policemen RX0 wsX0_policemen E (rmN 3) := hX
  show GG x 0 0 (fw E a C) 0 [(0, .ref (a 0))] []
  have inRX0 : ∀ w ∈ wsX00, w ∈ wsX0_policemen := by decide +kernel
  have fl35 : Cond.fieldLink RX0 35 "LieForce$Force" "facts" "I" ∈ wsX0_policemen := by decide +kernel
  obtain ⟨h9, h64, h512, hT, hI⟩ := id hC
  have hli := lieM_lt h9 (cF C)
  refine g_aload_n hX dX0_policemen_0 0 rfl ?_
  refine g_aload_n hX dX0_policemen_1 0 rfl ?_
  refine g_get hX (v := .int (nI (cF C))) 0 inRX0 rfl rfl 0 rfl fl35 rfl rfl dX0_policemen_2 ?_
  have hc5 : CUT (fw E a C) (fw E a C) (([] : va_W)) [0, 1, 2, 3, 4, 5, 6] [] := ⟨rfl, rfl, rfl, rfl, rfl⟩
  refine g_VI hX hc5 [.int (nI (cF C))] [] (c_X0_liesIn l E a C (cF C) (by first | assumption | omega) h64) gX0_policemen_X0_liesIn calX0_liesIn rfl rfl rfl rfl 0 rfl rfl rfl rfl dX0_policemen_5 rfl ⟨Nat.zero_le _, Nat.zero_le _⟩ (fun _ => fw E a C) [0, 1, 2, 3, 4, 5, 6] rfl (fun _ => rfl) (fun _ hu5 => ?_)
  have hc8 : CUT (fw E a C) (([] : va_W)) (fw E a C) [] [0, 1, 2, 3, 4, 5, 6] := ⟨rfl, rfl, rfl, rfl, rfl⟩
  refine g_TI hX hc8 [.int (nI (lieM C (cF C)))] [] (c_J6_bitCount_0f7a4 l E (lieM C (cF C)) hli) gX0_policemen_J6_bitCount_0f7a4 calJ6_bitCount_0f7a4 rfl rfl rfl rfl dX0_policemen_8 rfl ⟨Nat.zero_le _, Nat.zero_le _⟩ (fun _ => fw E a C) [0, 1, 2, 3, 4, 5, 6] rfl (fun _ => rfl) (fun _ hu8 => ?_)
  exact g_eq rfl rfl rfl (hret () _ _ trivial dX0_policemen_11)
set_option maxHeartbeats 4000000 in
set_option maxRecDepth 100000 in
theorem c_X0_policemenWhoServed (l : Launch) (E : EV) (a : Nat → Nat) (C : FC) (hC : FO C) (hV : VB C) : KI l yX0_policemenWhoServed wsX0_policemenWhoServed (rmN 3) E (σ := Unit) [.ref (a 0)] (fw E a C) (fun _ => True) (fun _ => (nI (cnt (hsB C) (cN C)))) (fun _ => fw E a C) 0 0 := by
  refine KI.of (cc := cX0_policemenWhoServed) (maxL := 3) (ty := .int) (hnar := fun _ _ => rfl) rfl rfl rfl (fun x hX hin hret hnL => ?_)
  replace hX : CX x l cX0_policemenWhoServed RX0 wsX0_policemenWhoServed E (rmN 3) := hX
  show GG x 0 0 (fw E a C) 0 [(0, .ref (a 0))] []
  have inRX0 : ∀ w ∈ wsX00, w ∈ wsX0_policemenWhoServed := by decide +kernel
  have fl38 : Cond.fieldLink RX0 38 "LieForce$Force" "sayings" "I" ∈ wsX0_policemenWhoServed := by decide +kernel
  obtain ⟨h9, h64, h512, hT, hI⟩ := id hC
  refine g_iconst hX (nI 0) dX0_policemenWhoServed_0 rfl ?_
  refine g_istore_n hX (j := 1) [(1, .int (nI 0)), (0, .ref (a 0))] dX0_policemenWhoServed_1 rfl (by rw [hnL]; rfl) rfl ?_
  refine g_iconst hX (nI 0) dX0_policemenWhoServed_2 rfl ?_
  refine g_istore_n hX (j := 2) [(2, .int (nI 0)), (1, .int (nI 0)), (0, .ref (a 0))] dX0_policemenWhoServed_3 rfl (by rw [hnL]; rfl) rfl ?_
  have lp4 : ∀ (fuel : Nat) (i : Nat) (acc : Nat), cN C - i < fuel → (i ≤ cN C) → (acc = cnt (hsB C) i) → GG x 0 0 (fw E a C) 4 [(0, .ref (a 0)), (1, .int (nI acc)), (2, .int (nI i))] [] := by
    intro fuel
    induction fuel with
    | zero => intro i acc hm; exact absurd hm (Nat.not_lt_zero _)
    | succ fuel ih4 =>
      intro i acc hm4 hi hacc
      refine g_iload_n hX dX0_policemenWhoServed_4 2 rfl ?_
      refine g_aload_n hX dX0_policemenWhoServed_5 0 rfl ?_
      refine g_get hX (v := .int (nI (cN C))) 0 inRX0 rfl rfl 1 rfl fl38 rfl rfl dX0_policemenWhoServed_6 ?_
      refine g_icmp_ge hX 29 dX0_policemenWhoServed_9 (by decide) (fun c9 => ?_) (fun c9 => ?_)
      · replace c9 := (nI_leI (by omega) (by omega)).mp c9
        refine g_iload_n hX dX0_policemenWhoServed_29 1 rfl ?_
        exact g_eq rfl rfl (congrArg (fun z => [Value.int z]) (congrArg nI (by rw [hacc, show i = cN C by omega]))) (hret () _ _ trivial dX0_policemenWhoServed_30)
      · replace c9 := mt (nI_leI (by omega) (by omega)).mpr c9
        refine g_iload_n hX dX0_policemenWhoServed_12 1 rfl ?_
        refine g_aload_n hX dX0_policemenWhoServed_13 0 rfl ?_
        refine g_iload_n hX dX0_policemenWhoServed_14 2 rfl ?_
        have hc15 : CUT (fw E a C) (fw E a C) (([] : va_W)) [0, 1, 2, 3, 4, 5, 6] [] := ⟨rfl, rfl, rfl, rfl, rfl⟩
        refine g_VI hX hc15 [.int (nI i)] [.int (nI acc)] (c_X0_hasServed l E a C i (by first | assumption | omega) (by first | assumption | omega) (by omega)) gX0_policemenWhoServed_X0_hasServed calX0_hasServed rfl rfl rfl rfl 0 rfl rfl rfl rfl dX0_policemenWhoServed_15 rfl ⟨Nat.zero_le _, Nat.zero_le _⟩ (fun _ => fw E a C) [0, 1, 2, 3, 4, 5, 6] rfl (fun _ => rfl) (fun _ hu15 => ?_)
        have hc18 : CUT (fw E a C) (([] : va_W)) (fw E a C) [] [0, 1, 2, 3, 4, 5, 6] := ⟨rfl, rfl, rfl, rfl, rfl⟩
        refine g_NI hX hc18 [.int (bI (hsB C i))] [.int (nI acc)] (c_X5_asNumber l E (hsB C i)) gX0_policemenWhoServed_X5_asNumber_n93 calX5_asNumber rfl rfl (by decide +kernel) (by decide +kernel) (by decide +kernel) rfl rfl dX0_policemenWhoServed_18 rfl ⟨Nat.zero_le _, Nat.zero_le _⟩ (fun _ => fw E a C) [0, 1, 2, 3, 4, 5, 6] rfl (fun _ => rfl) (fun _ hu18 => ?_)
        refine g_iadd hX (nI (acc + (hsB C i).toNat)) dX0_policemenWhoServed_21 (nadd_nb _ _) ?_
        refine g_istore_n hX (j := 1) [(1, .int (nI (acc + (hsB C i).toNat))), (0, .ref (a 0)), (2, .int (nI i))] dX0_policemenWhoServed_22 rfl (by rw [hnL]; rfl) rfl ?_
        refine g_iinc hX (j := 2) (nI (i + 1)) [(2, .int (nI (i + 1))), (1, .int (nI (acc + (hsB C i).toNat))), (0, .ref (a 0))] dX0_policemenWhoServed_23 2 rfl (iinc_n _ _) (by rw [hnL]; rfl) rfl ?_
        refine g_goto hX 4 dX0_policemenWhoServed_26 (by decide) ?_
        exact g_lv _ [2, 1, 0] rfl (ih4 (i + 1) (acc + (hsB C i).toNat) (by omega) (by omega) (by rw [hacc, cnt]))
  exact g_lv _ [2, 1, 0] rfl (lp4 _ 0 0 (Nat.lt_succ_self _) (Nat.zero_le _) rfl)
set_option maxHeartbeats 4000000 in
set_option maxRecDepth 100000 in
theorem c_X0_takeOut (l : Launch) (E : EV) (a : Nat → Nat) (C : FC) (s : Nat) (hC : FO C) (hs : s < cN C) : KV l yX0_takeOut wsX0_takeOut (rmN 1) E (σ := Unit) [.ref (a 0), .int (nI s)] (fw E a C) (fun _ => True) (fun _ => fw E a (toC C s)) 0 0 := by
  refine KV.of (cc := cX0_takeOut) (maxL := 2) rfl rfl rfl (fun x hX hin hret hnL => ?_)
  replace hX : CX x l cX0_takeOut RX0 wsX0_takeOut E (rmN 1) := hX
  show GG x 0 0 (fw E a C) 0 [(0, .ref (a 0)), (1, .int (nI s))] []
  have inRX0 : ∀ w ∈ wsX00, w ∈ wsX0_takeOut := by decide +kernel
  have fl28 : Cond.fieldLink RX0 28 "LieForce$Force" "served" "[I" ∈ wsX0_takeOut := by decide +kernel
  have fl41 : Cond.fieldLink RX0 41 "LieForce$Force" "withdrawn" "I" ∈ wsX0_takeOut := by decide +kernel
  obtain ⟨h9, h64, h512, hT, hI⟩ := id hC
  refine g_aload_n hX dX0_takeOut_0 0 rfl ?_
  refine g_iload_n hX dX0_takeOut_1 1 rfl ?_
  have hc2 : CUT (fw E a C) (fw E a C) (([] : va_W)) [0, 1, 2, 3, 4, 5, 6] [] := ⟨rfl, rfl, rfl, rfl, rfl⟩
  refine g_VI hX hc2 [.int (nI s)] [] (c_X0_isThere_t l E a C s (by first | assumption | omega) (by omega)) gX0_takeOut_X0_isThere calX0_isThere rfl rfl rfl rfl 0 rfl rfl rfl rfl dX0_takeOut_2 rfl ⟨Nat.zero_le _, Nat.zero_le _⟩ (fun _ => fw E a C) [0, 1, 2, 3, 4, 5, 6] rfl (fun _ => rfl) (fun _ hu2 => ?_)
  refine g_if_ne hX 9 dX0_takeOut_5 (by decide) (fun c5 => ?_) (fun c5 => ?_)
  · replace c5 := mt bI_0.mpr c5
    replace c5 := bNf c5
    refine g_aload_n hX dX0_takeOut_9 0 rfl ?_
    refine g_dup hX dX0_takeOut_10 rfl ?_
    refine g_get hX (v := .int (nI (cG C))) 0 inRX0 rfl rfl 2 rfl fl41 rfl rfl dX0_takeOut_11 ?_
    refine g_iconst hX (nI 1) dX0_takeOut_14 rfl ?_
    refine g_iload_n hX dX0_takeOut_15 1 rfl ?_
    refine g_ishl hX (nI (1 <<< s)) dX0_takeOut_16 (sh_l _ (by omega)) ?_
    refine g_ior hX (nI ((cG C) ||| (1 <<< s))) dX0_takeOut_17 (fa_or _ _) ?_
    refine g_put hX (fw E a (sG C ((cG C) ||| (1 <<< s)))) 0 inRX0 tyX0_ok nmX0 rfl rfl 2 rfl fl41 rfl rfl rfl rfl rfl dX0_takeOut_18 rfl ?_
    refine g_aload_n hX dX0_takeOut_21 0 rfl ?_
    refine g_get hX (v := .ref (a 5)) 0 inRX0 rfl rfl 9 rfl fl28 rfl rfl dX0_takeOut_22 ?_
    refine g_iload_n hX dX0_takeOut_25 1 rfl ?_
    refine g_iconst hX (nI 0) dX0_takeOut_26 rfl ?_
    refine g_iast hX (fun j => nI ((va_up (cV C) s 0) j)) (fw E a (sV (sG C ((cG C) ||| (1 <<< s))) (va_up (cV C) s 0))) 5 0 rfl rfl (vp_in_nI (by omega) (by omega)) (ast_n (by omega)) dX0_takeOut_27 rfl ?_
    exact g_eq rfl rfl rfl (hret () _ _ trivial dX0_takeOut_28)
  · replace c5 := bI_0.mp c5
    exact absurd c5 (by simp)
set_option maxHeartbeats 4000000 in
set_option maxRecDepth 100000 in
theorem c_X0_turnFact (l : Launch) (E : EV) (a : Nat → Nat) (C : FC) (f : Nat) (hC : FO C) (hf : f < 2 ^ 31) : KV l yX0_turnFact wsX0_turnFact (rmN 2) E (σ := Unit) [.ref (a 0), .int (nI f)] (fw E a C) (fun _ => True) (fun _ => fw E a (turnF C f)) 0 0 := by
  refine KV.of (cc := cX0_turnFact) (maxL := 3) rfl rfl rfl (fun x hX hin hret hnL => ?_)
  replace hX : CX x l cX0_turnFact RX0 wsX0_turnFact E (rmN 2) := hX
  show GG x 0 0 (fw E a C) 0 [(0, .ref (a 0)), (1, .int (nI f))] []
  have inRX0 : ∀ w ∈ wsX00, w ∈ wsX0_turnFact := by decide +kernel
  have fl28 : Cond.fieldLink RX0 28 "LieForce$Force" "served" "[I" ∈ wsX0_turnFact := by decide +kernel
  have fl35 : Cond.fieldLink RX0 35 "LieForce$Force" "facts" "I" ∈ wsX0_turnFact := by decide +kernel
  have fl38 : Cond.fieldLink RX0 38 "LieForce$Force" "sayings" "I" ∈ wsX0_turnFact := by decide +kernel
  obtain ⟨h9, h64, h512, hT, hI⟩ := id hC
  refine g_iload_n hX dX0_turnFact_0 1 rfl ?_
  have hc1 : CUT (fw E a C) (([] : va_W)) (fw E a C) [] [0, 1, 2, 3, 4, 5, 6] := ⟨rfl, rfl, rfl, rfl, rfl⟩
  refine g_NI hX hc1 [.int (nI f)] [] (c_X5_isFact_n l E f (by omega)) gX0_turnFact_X5_isFact_n97 calX5_isFact rfl rfl (by decide +kernel) (by decide +kernel) (by decide +kernel) rfl rfl dX0_turnFact_1 rfl ⟨Nat.zero_le _, Nat.zero_le _⟩ (fun _ => fw E a C) [0, 1, 2, 3, 4, 5, 6] rfl (fun _ => rfl) (fun _ hu1 => ?_)
  refine g_if_ne hX 8 dX0_turnFact_4 (by decide) (fun c4 => ?_) (fun c4 => ?_)
  · replace c4 := mt bI_0.mpr c4
    replace c4 := bNf c4
    replace c4 := of_decide_eq_true c4
    have hCF : FO (sF C (cF C ^^^ 1 <<< f)) := FO_sF hC (xor_bit_lt (m := 6) h64 c4)
    refine g_aload_n hX dX0_turnFact_8 0 rfl ?_
    refine g_dup hX dX0_turnFact_9 rfl ?_
    refine g_get hX (v := .int (nI (cF C))) 0 inRX0 rfl rfl 0 rfl fl35 rfl rfl dX0_turnFact_10 ?_
    refine g_iconst hX (nI 1) dX0_turnFact_13 rfl ?_
    refine g_iload_n hX dX0_turnFact_14 1 rfl ?_
    refine g_ishl hX (nI (1 <<< f)) dX0_turnFact_15 (sh_l _ (by omega)) ?_
    refine g_ixor hX (nI ((cF C) ^^^ (1 <<< f))) dX0_turnFact_16 (fb_xorI _ _) ?_
    refine g_put hX (fw E a (sF C ((cF C) ^^^ (1 <<< f)))) 0 inRX0 tyX0_ok nmX0 rfl rfl 0 rfl fl35 rfl rfl rfl rfl rfl dX0_turnFact_17 rfl ?_
    refine g_iconst hX (nI 0) dX0_turnFact_20 rfl ?_
    refine g_istore_n hX (j := 2) [(2, .int (nI 0)), (0, .ref (a 0)), (1, .int (nI f))] dX0_turnFact_21 rfl (by rw [hnL]; rfl) rfl ?_
    have lp22 : ∀ (fuel : Nat) (i : Nat) (Vv : Nat → Nat), cN C - i < fuel → (i ≤ cN C) → (Vv = upTo i (fun s => !pmB (sF C (cF C ^^^ 1 <<< f)) s) (cV C) (fun _ => 0)) → GG x 0 0 (fw E a (sV (sF C (cF C ^^^ 1 <<< f)) Vv)) 22 [(0, .ref (a 0)), (1, .int (nI f)), (2, .int (nI i))] [] := by
      intro fuel
      induction fuel with
      | zero => intro i Vv hm; exact absurd hm (Nat.not_lt_zero _)
      | succ fuel ih22 =>
        intro i Vv hm22 hi hVv
        refine g_iload_n hX dX0_turnFact_22 2 rfl ?_
        refine g_aload_n hX dX0_turnFact_23 0 rfl ?_
        refine g_get hX (v := .int (nI (cN C))) 0 inRX0 rfl rfl 1 rfl fl38 rfl rfl dX0_turnFact_24 ?_
        refine g_icmp_ge hX 59 dX0_turnFact_27 (by decide) (fun c27 => ?_) (fun c27 => ?_)
        · replace c27 := (nI_leI (by omega) (by omega)).mp c27
          exact g_eq (by rw [turnF, if_pos c4, tuC, hVv, show i = cN C by omega]) rfl rfl (hret () _ _ trivial dX0_turnFact_59)
        · replace c27 := mt (nI_leI (by omega) (by omega)).mpr c27
          refine g_aload_n hX dX0_turnFact_30 0 rfl ?_
          refine g_iload_n hX dX0_turnFact_31 2 rfl ?_
          have hc32 : CUT (fw E a (sV (sF C (cF C ^^^ 1 <<< f)) Vv)) (fw E a (sV (sF C (cF C ^^^ 1 <<< f)) Vv)) (([] : va_W)) [0, 1, 2, 3, 4, 5, 6] [] := ⟨rfl, rfl, rfl, rfl, rfl⟩
          refine g_VI hX hc32 [.int (nI i)] [] (c_X0_isThere_t l E a (sV (sF C (cF C ^^^ 1 <<< f)) Vv) i (FO_sV hCF) (show i < cN C by omega)) gX0_turnFact_X0_isThere calX0_isThere rfl rfl rfl rfl 0 rfl rfl rfl rfl dX0_turnFact_32 rfl ⟨Nat.zero_le _, Nat.zero_le _⟩ (fun _ => fw E a (sV (sF C (cF C ^^^ 1 <<< f)) Vv)) [0, 1, 2, 3, 4, 5, 6] rfl (fun _ => rfl) (fun _ hu32 => ?_)
          refine g_if_eq hX 53 dX0_turnFact_35 (by decide) (fun c35 => ?_) (fun c35 => ?_)
          · replace c35 := bI_0.mp c35
            exact absurd c35 (by simp)
          · replace c35 := mt bI_0.mpr c35
            replace c35 := bNf c35
            refine g_aload_n hX dX0_turnFact_38 0 rfl ?_
            refine g_iload_n hX dX0_turnFact_39 2 rfl ?_
            have hc40 : CUT (fw E a (sV (sF C (cF C ^^^ 1 <<< f)) Vv)) (fw E a (sV (sF C (cF C ^^^ 1 <<< f)) Vv)) (([] : va_W)) [0, 1, 2, 3, 4, 5, 6] [] := ⟨rfl, rfl, rfl, rfl, rfl⟩
            refine g_VI hX hc40 [.int (nI i)] [] (c_X0_hasPoliceman l E a (sV (sF C (cF C ^^^ 1 <<< f)) Vv) i (FO_sV hCF) (show i < cN C by omega)) gX0_turnFact_X0_hasPoliceman calX0_hasPoliceman rfl rfl rfl rfl 0 rfl rfl rfl rfl dX0_turnFact_40 rfl ⟨Nat.zero_le _, Nat.zero_le _⟩ (fun _ => fw E a (sV (sF C (cF C ^^^ 1 <<< f)) Vv)) [0, 1, 2, 3, 4, 5, 6] rfl (fun _ => rfl) (fun _ hu40 => ?_)
            refine g_eq (st' := [.int (bI (pmB (sF C (cF C ^^^ 1 <<< f)) i))]) rfl rfl (congrArg (fun z => Value.int z :: ([] : List Value)) (rfl : bI _ = bI _)) ?_
            refine g_if_ne hX 53 dX0_turnFact_43 (by decide) (fun c43 => ?_) (fun c43 => ?_)
            · replace c43 := mt bI_0.mpr c43
              replace c43 := bNf c43
              refine g_iinc hX (j := 2) (nI (i + 1)) [(2, .int (nI (i + 1))), (0, .ref (a 0)), (1, .int (nI f))] dX0_turnFact_53 2 rfl (iinc_n _ _) (by rw [hnL]; rfl) rfl ?_
              refine g_goto hX 22 dX0_turnFact_56 (by decide) ?_
              exact g_lv _ [1, 2, 0] rfl (ih22 (i + 1) Vv (by omega) (by omega) (by rw [hVv]; first | exact upTo_put (by simp [c4, c27, c43]) (by first | rfl | rw [upTo_self]) | exact upTo_skip (by simp [c4, c27, c43])))
            · replace c43 := bI_0.mp c43
              refine g_aload_n hX dX0_turnFact_46 0 rfl ?_
              refine g_get hX (v := .ref (a 5)) 0 inRX0 rfl rfl 9 rfl fl28 rfl rfl dX0_turnFact_47 ?_
              refine g_iload_n hX dX0_turnFact_50 2 rfl ?_
              refine g_iconst hX (nI 0) dX0_turnFact_51 rfl ?_
              refine g_iast hX (fun j => nI ((va_up (Vv) i 0) j)) (fw E a (sV (sF C (cF C ^^^ 1 <<< f)) (va_up (Vv) i 0))) 5 0 rfl rfl (vp_in_nI (by omega) (by omega)) (ast_n (by omega)) dX0_turnFact_52 rfl ?_
              refine g_iinc hX (j := 2) (nI (i + 1)) [(2, .int (nI (i + 1))), (0, .ref (a 0)), (1, .int (nI f))] dX0_turnFact_53 2 rfl (iinc_n _ _) (by rw [hnL]; rfl) rfl ?_
              refine g_goto hX 22 dX0_turnFact_56 (by decide) ?_
              exact g_lv _ [1, 2, 0] rfl (ih22 (i + 1) (va_up (Vv) i 0) (by omega) (by omega) (by rw [hVv]; first | exact upTo_put (by simp [c4, c27, c43]) (by first | rfl | rw [upTo_self]) | exact upTo_skip (by simp [c4, c27, c43])))
    exact g_lv _ [1, 2, 0] rfl (lp22 _ 0 (cV C) (Nat.lt_succ_self _) (Nat.zero_le _) upTo_0)
  · replace c4 := bI_0.mp c4
    replace c4 := of_decide_eq_false c4
    exact g_eq (by rw [turnF, if_neg c4]) rfl rfl (hret () _ _ trivial dX0_turnFact_7)
set_option maxHeartbeats 4000000 in
set_option maxRecDepth 100000 in
theorem c_X0_serveDay (l : Launch) (E : EV) (a : Nat → Nat) (C : FC) (hC : FO C) : KV l yX0_serveDay wsX0_serveDay (rmN 2) E (σ := Unit) [.ref (a 0)] (fw E a C) (fun _ => True) (fun _ => fw E a (serC C)) 0 0 := by
  refine KV.of (cc := cX0_serveDay) (maxL := 2) rfl rfl rfl (fun x hX hin hret hnL => ?_)
  replace hX : CX x l cX0_serveDay RX0 wsX0_serveDay E (rmN 2) := hX
  show GG x 0 0 (fw E a C) 0 [(0, .ref (a 0))] []
  have inRX0 : ∀ w ∈ wsX00, w ∈ wsX0_serveDay := by decide +kernel
  have fl28 : Cond.fieldLink RX0 28 "LieForce$Force" "served" "[I" ∈ wsX0_serveDay := by decide +kernel
  have fl38 : Cond.fieldLink RX0 38 "LieForce$Force" "sayings" "I" ∈ wsX0_serveDay := by decide +kernel
  have fl44 : Cond.fieldLink RX0 44 "LieForce$Force" "days" "I" ∈ wsX0_serveDay := by decide +kernel
  obtain ⟨h9, h64, h512, hT, hI⟩ := id hC
  refine g_aload_n hX dX0_serveDay_0 0 rfl ?_
  refine g_dup hX dX0_serveDay_1 rfl ?_
  refine g_get hX (v := .int (nI (cY C))) 0 inRX0 rfl rfl 3 rfl fl44 rfl rfl dX0_serveDay_2 ?_
  refine g_iconst hX (nI 1) dX0_serveDay_5 rfl ?_
  refine g_iadd hX (nI ((cY C) + 1)) dX0_serveDay_6 (nI_add _ _) ?_
  refine g_put hX (fw E a (sY C ((cY C) + 1))) 0 inRX0 tyX0_ok nmX0 rfl rfl 3 rfl fl44 rfl rfl rfl rfl rfl dX0_serveDay_7 rfl ?_
  refine g_iconst hX (nI 0) dX0_serveDay_10 rfl ?_
  refine g_istore_n hX (j := 1) [(1, .int (nI 0)), (0, .ref (a 0))] dX0_serveDay_11 rfl (by rw [hnL]; rfl) rfl ?_
  have lp12 : ∀ (fuel : Nat) (i : Nat) (Vv : Nat → Nat), cN C - i < fuel → (i ≤ cN C) → (Vv = upTo i (pmB C) (cV C) (fun s => cV C s + 1)) → GG x 0 0 (fw E a (sV (sY C (cY C + 1)) Vv)) 12 [(0, .ref (a 0)), (1, .int (nI i))] [] := by
    intro fuel
    induction fuel with
    | zero => intro i Vv hm; exact absurd hm (Nat.not_lt_zero _)
    | succ fuel ih12 =>
      intro i Vv hm12 hi hVv
      refine g_iload_n hX dX0_serveDay_12 1 rfl ?_
      refine g_aload_n hX dX0_serveDay_13 0 rfl ?_
      refine g_get hX (v := .int (nI (cN C))) 0 inRX0 rfl rfl 1 rfl fl38 rfl rfl dX0_serveDay_14 ?_
      refine g_icmp_ge hX 52 dX0_serveDay_17 (by decide) (fun c17 => ?_) (fun c17 => ?_)
      · replace c17 := (nI_leI (by omega) (by omega)).mp c17
        exact g_eq (by rw [serC, hVv, show i = cN C by omega]) rfl rfl (hret () _ _ trivial dX0_serveDay_52)
      · replace c17 := mt (nI_leI (by omega) (by omega)).mpr c17
        refine g_aload_n hX dX0_serveDay_20 0 rfl ?_
        refine g_iload_n hX dX0_serveDay_21 1 rfl ?_
        have hc22 : CUT (fw E a (sV (sY C (cY C + 1)) Vv)) (fw E a (sV (sY C (cY C + 1)) Vv)) (([] : va_W)) [0, 1, 2, 3, 4, 5, 6] [] := ⟨rfl, rfl, rfl, rfl, rfl⟩
        refine g_VI hX hc22 [.int (nI i)] [] (c_X0_isThere_t l E a (sV (sY C (cY C + 1)) Vv) i (FO_sV (FO_sY hC)) (show i < cN C by omega)) gX0_serveDay_X0_isThere calX0_isThere rfl rfl rfl rfl 0 rfl rfl rfl rfl dX0_serveDay_22 rfl ⟨Nat.zero_le _, Nat.zero_le _⟩ (fun _ => fw E a (sV (sY C (cY C + 1)) Vv)) [0, 1, 2, 3, 4, 5, 6] rfl (fun _ => rfl) (fun _ hu22 => ?_)
        refine g_if_eq hX 46 dX0_serveDay_25 (by decide) (fun c25 => ?_) (fun c25 => ?_)
        · replace c25 := bI_0.mp c25
          exact absurd c25 (by simp)
        · replace c25 := mt bI_0.mpr c25
          replace c25 := bNf c25
          refine g_aload_n hX dX0_serveDay_28 0 rfl ?_
          refine g_iload_n hX dX0_serveDay_29 1 rfl ?_
          have hc30 : CUT (fw E a (sV (sY C (cY C + 1)) Vv)) (fw E a (sV (sY C (cY C + 1)) Vv)) (([] : va_W)) [0, 1, 2, 3, 4, 5, 6] [] := ⟨rfl, rfl, rfl, rfl, rfl⟩
          refine g_VI hX hc30 [.int (nI i)] [] (c_X0_hasPoliceman l E a (sV (sY C (cY C + 1)) Vv) i (FO_sV (FO_sY hC)) (show i < cN C by omega)) gX0_serveDay_X0_hasPoliceman calX0_hasPoliceman rfl rfl rfl rfl 0 rfl rfl rfl rfl dX0_serveDay_30 rfl ⟨Nat.zero_le _, Nat.zero_le _⟩ (fun _ => fw E a (sV (sY C (cY C + 1)) Vv)) [0, 1, 2, 3, 4, 5, 6] rfl (fun _ => rfl) (fun _ hu30 => ?_)
          refine g_eq (st' := [.int (bI (pmB C i))]) rfl rfl (congrArg (fun z => Value.int z :: ([] : List Value)) (rfl : bI _ = bI _)) ?_
          refine g_if_eq hX 46 dX0_serveDay_33 (by decide) (fun c33 => ?_) (fun c33 => ?_)
          · replace c33 := bI_0.mp c33
            refine g_iinc hX (j := 1) (nI (i + 1)) [(1, .int (nI (i + 1))), (0, .ref (a 0))] dX0_serveDay_46 1 rfl (iinc_n _ _) (by rw [hnL]; rfl) rfl ?_
            refine g_goto hX 12 dX0_serveDay_49 (by decide) ?_
            exact g_lv _ [1, 0] rfl (ih12 (i + 1) Vv (by omega) (by omega) (by rw [hVv]; first | exact upTo_put (by simp [c17, c33]) (by first | rfl | rw [upTo_self]) | exact upTo_skip (by simp [c17, c33])))
          · replace c33 := mt bI_0.mpr c33
            replace c33 := bNf c33
            refine g_aload_n hX dX0_serveDay_36 0 rfl ?_
            refine g_get hX (v := .ref (a 5)) 0 inRX0 rfl rfl 9 rfl fl28 rfl rfl dX0_serveDay_37 ?_
            refine g_iload_n hX dX0_serveDay_40 1 rfl ?_
            refine g_dup2 hX dX0_serveDay_41 rfl rfl ?_
            refine g_iald hX (nI (Vv i)) 5 0 rfl rfl (vp_in_nI (by omega) (by omega)) (ald_n (g := fun j => nI (Vv j)) (i := i) (by omega)) dX0_serveDay_42 ?_
            refine g_iconst hX (nI 1) dX0_serveDay_43 rfl ?_
            refine g_iadd hX (nI ((Vv i) + 1)) dX0_serveDay_44 (nI_add _ _) ?_
            refine g_iast hX (fun j => nI ((va_up (Vv) i ((Vv i) + 1)) j)) (fw E a (sV (sY C (cY C + 1)) (va_up (Vv) i ((Vv i) + 1)))) 5 0 rfl rfl (vp_in_nI (by omega) (by omega)) (ast_n (by omega)) dX0_serveDay_45 rfl ?_
            refine g_iinc hX (j := 1) (nI (i + 1)) [(1, .int (nI (i + 1))), (0, .ref (a 0))] dX0_serveDay_46 1 rfl (iinc_n _ _) (by rw [hnL]; rfl) rfl ?_
            refine g_goto hX 12 dX0_serveDay_49 (by decide) ?_
            exact g_lv _ [1, 0] rfl (ih12 (i + 1) (va_up (Vv) i ((Vv i) + 1)) (by omega) (by omega) (by rw [hVv]; first | exact upTo_put (by simp [c17, c33]) (by first | rfl | rw [upTo_self]) | exact upTo_skip (by simp [c17, c33])))
  exact g_lv _ [1, 0] rfl (lp12 _ 0 (cV C) (Nat.lt_succ_self _) (Nat.zero_le _) upTo_0)
set_option maxHeartbeats 4000000 in
set_option maxRecDepth 100000 in
theorem c_X0_mateOf (l : Launch) (E : EV) (a : Nat → Nat) (C : FC) (s : Nat) (hC : FO C) (hV : VB C) (hs : s < cN C) : KI l yX0_mateOf wsX0_mateOf (rmN 3) E (σ := Unit) [.ref (a 0), .int (nI s)] (fw E a C) (fun _ => True) (fun _ => (oI (mateO C s))) (fun _ => fw E a C) 0 0 := by
  refine KI.of (cc := cX0_mateOf) (maxL := 3) (ty := .int) (hnar := fun _ _ => rfl) rfl rfl rfl (fun x hX hin hret hnL => ?_)
  replace hX : CX x l cX0_mateOf RX0 wsX0_mateOf E (rmN 3) := hX
  show GG x 0 0 (fw E a C) 0 [(0, .ref (a 0)), (1, .int (nI s))] []
  have inRX0 : ∀ w ∈ wsX00, w ∈ wsX0_mateOf := by decide +kernel
  have fl38 : Cond.fieldLink RX0 38 "LieForce$Force" "sayings" "I" ∈ wsX0_mateOf := by decide +kernel
  obtain ⟨h9, h64, h512, hT, hI⟩ := id hC
  refine g_aload_n hX dX0_mateOf_0 0 rfl ?_
  refine g_iload_n hX dX0_mateOf_1 1 rfl ?_
  have hc2 : CUT (fw E a C) (fw E a C) (([] : va_W)) [0, 1, 2, 3, 4, 5, 6] [] := ⟨rfl, rfl, rfl, rfl, rfl⟩
  refine g_VI hX hc2 [.int (nI s)] [] (c_X0_hasServed l E a C s (by first | assumption | omega) (by first | assumption | omega) (by omega)) gX0_mateOf_X0_hasServed calX0_hasServed rfl rfl rfl rfl 0 rfl rfl rfl rfl dX0_mateOf_2 rfl ⟨Nat.zero_le _, Nat.zero_le _⟩ (fun _ => fw E a C) [0, 1, 2, 3, 4, 5, 6] rfl (fun _ => rfl) (fun _ hu2 => ?_)
  refine g_if_ne hX 11 dX0_mateOf_5 (by decide) (fun c5 => ?_) (fun c5 => ?_)
  · replace c5 := mt bI_0.mpr c5
    replace c5 := bNf c5
    refine g_iload_n hX dX0_mateOf_11 1 rfl ?_
    refine g_iconst hX (nI 1) dX0_mateOf_12 rfl ?_
    refine g_iadd hX (nI (s + 1)) dX0_mateOf_13 (nI_add _ _) ?_
    refine g_istore_n hX (j := 2) [(2, .int (nI (s + 1))), (0, .ref (a 0)), (1, .int (nI s))] dX0_mateOf_14 rfl (by rw [hnL]; rfl) rfl ?_
    have lp15 : ∀ (fuel : Nat) (i : Nat), cN C - i < fuel → (i ≤ cN C) → (s < i) → (mateO C s = fst (fun t => hsB C t && clB C s t) i (cN C - i)) → GG x 0 0 (fw E a C) 15 [(0, .ref (a 0)), (1, .int (nI s)), (2, .int (nI i))] [] := by
      intro fuel
      induction fuel with
      | zero => intro i hm; exact absurd hm (Nat.not_lt_zero _)
      | succ fuel ih15 =>
        intro i hm15 hi hsi he
        refine g_iload_n hX dX0_mateOf_15 2 rfl ?_
        refine g_aload_n hX dX0_mateOf_16 0 rfl ?_
        refine g_get hX (v := .int (nI (cN C))) 0 inRX0 rfl rfl 1 rfl fl38 rfl rfl dX0_mateOf_17 ?_
        refine g_icmp_ge hX 48 dX0_mateOf_20 (by decide) (fun c20 => ?_) (fun c20 => ?_)
        · replace c20 := (nI_leI (by omega) (by omega)).mp c20
          refine g_bipush hX ((-4)) dX0_mateOf_48 rfl ?_
          exact g_eq rfl rfl (congrArg (fun z => [Value.int z]) (by rw [he, fst_done (by omega)]; rfl)) (hret () _ _ trivial dX0_mateOf_50)
        · replace c20 := mt (nI_leI (by omega) (by omega)).mpr c20
          refine g_aload_n hX dX0_mateOf_23 0 rfl ?_
          refine g_iload_n hX dX0_mateOf_24 2 rfl ?_
          have hc25 : CUT (fw E a C) (fw E a C) (([] : va_W)) [0, 1, 2, 3, 4, 5, 6] [] := ⟨rfl, rfl, rfl, rfl, rfl⟩
          refine g_VI hX hc25 [.int (nI i)] [] (c_X0_hasServed l E a C i (by first | assumption | omega) (by first | assumption | omega) (by omega)) gX0_mateOf_X0_hasServed calX0_hasServed rfl rfl rfl rfl 0 rfl rfl rfl rfl dX0_mateOf_25 rfl ⟨Nat.zero_le _, Nat.zero_le _⟩ (fun _ => fw E a C) [0, 1, 2, 3, 4, 5, 6] rfl (fun _ => rfl) (fun _ hu25 => ?_)
          refine g_if_eq hX 42 dX0_mateOf_28 (by decide) (fun c28 => ?_) (fun c28 => ?_)
          · replace c28 := bI_0.mp c28
            refine g_iinc hX (j := 2) (nI (i + 1)) [(2, .int (nI (i + 1))), (0, .ref (a 0)), (1, .int (nI s))] dX0_mateOf_42 2 rfl (iinc_n _ _) (by rw [hnL]; rfl) rfl ?_
            refine g_goto hX 15 dX0_mateOf_45 (by decide) ?_
            exact g_lv _ [1, 2, 0] rfl (ih15 (i + 1) (by omega) (by omega) (by omega) (he.trans (fst_step (by omega) (by simp [c5, c20, c28]))))
          · replace c28 := mt bI_0.mpr c28
            replace c28 := bNf c28
            refine g_aload_n hX dX0_mateOf_31 0 rfl ?_
            refine g_iload_n hX dX0_mateOf_32 1 rfl ?_
            refine g_iload_n hX dX0_mateOf_33 2 rfl ?_
            have hc34 : CUT (fw E a C) (fw E a C) (([] : va_W)) [0, 1, 2, 3, 4, 5, 6] [] := ⟨rfl, rfl, rfl, rfl, rfl⟩
            refine g_VI hX hc34 [.int (nI s), .int (nI i)] [] (c_X0_areClashing l E a C s i (by first | assumption | omega) (by omega) (by omega)) gX0_mateOf_X0_areClashing calX0_areClashing rfl rfl rfl rfl 0 rfl rfl rfl rfl dX0_mateOf_34 rfl ⟨Nat.zero_le _, Nat.zero_le _⟩ (fun _ => fw E a C) [0, 1, 2, 3, 4, 5, 6] rfl (fun _ => rfl) (fun _ hu34 => ?_)
            refine g_if_eq hX 42 dX0_mateOf_37 (by decide) (fun c37 => ?_) (fun c37 => ?_)
            · replace c37 := bI_0.mp c37
              refine g_iinc hX (j := 2) (nI (i + 1)) [(2, .int (nI (i + 1))), (0, .ref (a 0)), (1, .int (nI s))] dX0_mateOf_42 2 rfl (iinc_n _ _) (by rw [hnL]; rfl) rfl ?_
              refine g_goto hX 15 dX0_mateOf_45 (by decide) ?_
              exact g_lv _ [1, 2, 0] rfl (ih15 (i + 1) (by omega) (by omega) (by omega) (he.trans (fst_step (by omega) (by simp [c5, c20, c28, c37]))))
            · replace c37 := mt bI_0.mpr c37
              replace c37 := bNf c37
              refine g_iload_n hX dX0_mateOf_40 2 rfl ?_
              exact g_eq rfl rfl (congrArg (fun z => [Value.int z]) (by rw [he, fst_hit (by omega) (by simp [c5, c20, c28, c37])]; rfl)) (hret () _ _ trivial dX0_mateOf_41)
    exact g_lv _ [1, 2, 0] rfl (lp15 _ (s + 1) (Nat.lt_succ_self _) (by omega) (Nat.lt_succ_self _) (by rw [mateO, if_pos c5]))
  · replace c5 := bI_0.mp c5
    refine g_bipush hX ((-4)) dX0_mateOf_8 rfl ?_
    exact g_eq rfl rfl (congrArg (fun z => [Value.int z]) (by simp [mateO, c5, oI])) (hret () _ _ trivial dX0_mateOf_10)
set_option maxHeartbeats 4000000 in
set_option maxRecDepth 100000 in
theorem c_X0_firstToFall (l : Launch) (E : EV) (a : Nat → Nat) (C : FC) (hC : FO C) (hV : VB C) : KI l yX0_firstToFall wsX0_firstToFall (rmN 4) E (σ := Unit) [.ref (a 0)] (fw E a C) (fun _ => True) (fun _ => (oI (firO C))) (fun _ => fw E a C) 0 0 := by
  refine KI.of (cc := cX0_firstToFall) (maxL := 2) (ty := .int) (hnar := fun _ _ => rfl) rfl rfl rfl (fun x hX hin hret hnL => ?_)
  replace hX : CX x l cX0_firstToFall RX0 wsX0_firstToFall E (rmN 4) := hX
  show GG x 0 0 (fw E a C) 0 [(0, .ref (a 0))] []
  have inRX0 : ∀ w ∈ wsX00, w ∈ wsX0_firstToFall := by decide +kernel
  have fl38 : Cond.fieldLink RX0 38 "LieForce$Force" "sayings" "I" ∈ wsX0_firstToFall := by decide +kernel
  obtain ⟨h9, h64, h512, hT, hI⟩ := id hC
  refine g_iconst hX (nI 0) dX0_firstToFall_0 rfl ?_
  refine g_istore_n hX (j := 1) [(1, .int (nI 0)), (0, .ref (a 0))] dX0_firstToFall_1 rfl (by rw [hnL]; rfl) rfl ?_
  have lp2 : ∀ (fuel : Nat) (i : Nat), cN C - i < fuel → (i ≤ cN C) → (firO C = fst (fun s => (mateO C s).isSome) i (cN C - i)) → GG x 0 0 (fw E a C) 2 [(0, .ref (a 0)), (1, .int (nI i))] [] := by
    intro fuel
    induction fuel with
    | zero => intro i hm; exact absurd hm (Nat.not_lt_zero _)
    | succ fuel ih2 =>
      intro i hm2 hi he
      refine g_iload_n hX dX0_firstToFall_2 1 rfl ?_
      refine g_aload_n hX dX0_firstToFall_3 0 rfl ?_
      refine g_get hX (v := .int (nI (cN C))) 0 inRX0 rfl rfl 1 rfl fl38 rfl rfl dX0_firstToFall_4 ?_
      refine g_icmp_ge hX 28 dX0_firstToFall_7 (by decide) (fun c7 => ?_) (fun c7 => ?_)
      · replace c7 := (nI_leI (by omega) (by omega)).mp c7
        refine g_bipush hX ((-4)) dX0_firstToFall_28 rfl ?_
        exact g_eq rfl rfl (congrArg (fun z => [Value.int z]) (by rw [he, fst_done (by omega)]; rfl)) (hret () _ _ trivial dX0_firstToFall_30)
      · replace c7 := mt (nI_leI (by omega) (by omega)).mpr c7
        refine g_aload_n hX dX0_firstToFall_10 0 rfl ?_
        refine g_iload_n hX dX0_firstToFall_11 1 rfl ?_
        have hc12 : CUT (fw E a C) (fw E a C) (([] : va_W)) [0, 1, 2, 3, 4, 5, 6] [] := ⟨rfl, rfl, rfl, rfl, rfl⟩
        refine g_VI hX hc12 [.int (nI i)] [] (c_X0_mateOf l E a C i (by first | assumption | omega) (by first | assumption | omega) (by omega)) gX0_firstToFall_X0_mateOf calX0_mateOf rfl rfl rfl rfl 0 rfl rfl rfl rfl dX0_firstToFall_12 rfl ⟨Nat.zero_le _, Nat.zero_le _⟩ (fun _ => fw E a C) [0, 1, 2, 3, 4, 5, 6] rfl (fun _ => rfl) (fun _ hu12 => ?_)
        refine g_bipush hX ((-4)) dX0_firstToFall_15 rfl ?_
        refine g_icmp_eq hX 22 dX0_firstToFall_17 (by decide) (fun c17 => ?_) (fun c17 => ?_)
        · replace c17 := (oI_n (fun t ht => by have := (mate_lt ht).2.1; omega)).mp c17
          refine g_iinc hX (j := 1) (nI (i + 1)) [(1, .int (nI (i + 1))), (0, .ref (a 0))] dX0_firstToFall_22 1 rfl (iinc_n _ _) (by rw [hnL]; rfl) rfl ?_
          refine g_goto hX 2 dX0_firstToFall_25 (by decide) ?_
          exact g_lv _ [1, 0] rfl (ih2 (i + 1) (by omega) (by omega) (he.trans (fst_step (by omega) (by simp [c7, c17]))))
        · replace c17 := mt (oI_n (fun t ht => by have := (mate_lt ht).2.1; omega)).mpr c17
          refine g_iload_n hX dX0_firstToFall_20 1 rfl ?_
          exact g_eq rfl rfl (congrArg (fun z => [Value.int z]) (by rw [he, fst_hit (by omega) (by simpa [Option.isSome_iff_ne_none] using c17)]; rfl)) (hret () _ _ trivial dX0_firstToFall_21)
  exact g_lv _ [1, 0] rfl (lp2 _ 0 (Nat.lt_succ_self _) (Nat.zero_le _) rfl)
set_option maxHeartbeats 4000000 in
set_option maxRecDepth 100000 in
theorem c_X0_passDay (l : Launch) (E : EV) (a : Nat → Nat) (C : FC) (hC : FO C) (hV1 : VB (serC C)) : KI l yX0_passDay wsX0_passDay (rmN 4) E (σ := Unit) [.ref (a 0)] (fw E a C) (fun _ => True) (fun _ => (nI ((passC C).2))) (fun _ => fw E a ((passC C).1)) 0 0 := by
  refine KI.of (cc := cX0_passDay) (maxL := 4) (ty := .int) (hnar := fun _ _ => rfl) rfl rfl rfl (fun x hX hin hret hnL => ?_)
  replace hX : CX x l cX0_passDay RX0 wsX0_passDay E (rmN 4) := hX
  show GG x 0 0 (fw E a C) 0 [(0, .ref (a 0))] []
  have inRX0 : ∀ w ∈ wsX00, w ∈ wsX0_passDay := by decide +kernel
  have fl38 : Cond.fieldLink RX0 38 "LieForce$Force" "sayings" "I" ∈ wsX0_passDay := by decide +kernel
  obtain ⟨h9, h64, h512, hT, hI⟩ := id hC
  have hFO := fallN_ok (FO_serC hC) hV1
  have hFn := fallN_n (serC C)
  refine g_aload_n hX dX0_passDay_0 0 rfl ?_
  have hc1 : CUT (fw E a C) (fw E a C) (([] : va_W)) [0, 1, 2, 3, 4, 5, 6] [] := ⟨rfl, rfl, rfl, rfl, rfl⟩
  refine g_VV hX hc1 [] [] (c_X0_serveDay l E a C (by first | assumption | omega)) gX0_passDay_X0_serveDay calX0_serveDay rfl rfl rfl rfl 0 rfl rfl rfl rfl dX0_passDay_1 rfl ⟨Nat.zero_le _, Nat.zero_le _⟩ (fun _ => fw E a (serC C)) [0, 1, 2, 3, 4, 5, 6] rfl (fun _ => rfl) (fun _ hu1 => ?_)
  refine g_iconst hX (nI 0) dX0_passDay_4 rfl ?_
  refine g_istore_n hX (j := 1) [(1, .int (nI 0)), (0, .ref (a 0))] dX0_passDay_5 rfl (by rw [hnL]; rfl) rfl ?_
  refine g_iconst hX (nI 0) dX0_passDay_6 rfl ?_
  refine g_istore_n hX (j := 2) [(2, .int (nI 0)), (1, .int (nI 0)), (0, .ref (a 0))] dX0_passDay_7 rfl (by rw [hnL]; rfl) rfl ?_
  have lp8 : ∀ (fuel : Nat) (i : Nat), cN C - i < fuel → (i ≤ cN C) → GG x 0 0 (fw E a ((fallN (serC C) i).1)) 8 [(0, .ref (a 0)), (1, .int (nI ((fallN (serC C) i).2))), (2, .int (nI i))] [] := by
    intro fuel
    induction fuel with
    | zero => intro i hm; exact absurd hm (Nat.not_lt_zero _)
    | succ fuel ih8 =>
      intro i hm8 hi
      have hni : cN (fallN (serC C) i).1 = cN C := hFn i
      refine g_iload_n hX dX0_passDay_8 2 rfl ?_
      refine g_aload_n hX dX0_passDay_9 0 rfl ?_
      refine g_get hX (v := .int (nI (cN ((fallN (serC C) i).1)))) 0 inRX0 rfl rfl 1 rfl fl38 rfl rfl dX0_passDay_10 ?_
      refine g_icmp_ge hX 47 dX0_passDay_13 (by decide) (fun c13 => ?_) (fun c13 => ?_)
      · replace c13 := (nI_leI (by omega) (by omega)).mp c13
        refine g_iload_n hX dX0_passDay_47 1 rfl ?_
        exact g_eq (by rw [passC, show cN C = i by omega]) rfl (congrArg (fun z => [Value.int z]) (congrArg nI (by rw [passC, show cN C = i by omega]))) (hret () _ _ trivial dX0_passDay_48)
      · replace c13 := mt (nI_leI (by omega) (by omega)).mpr c13
        refine g_aload_n hX dX0_passDay_16 0 rfl ?_
        refine g_iload_n hX dX0_passDay_17 2 rfl ?_
        have hc18 : CUT (fw E a ((fallN (serC C) i).1)) (fw E a ((fallN (serC C) i).1)) (([] : va_W)) [0, 1, 2, 3, 4, 5, 6] [] := ⟨rfl, rfl, rfl, rfl, rfl⟩
        refine g_VI hX hc18 [.int (nI i)] [] (c_X0_mateOf l E a ((fallN (serC C) i).1) i ((hFO i).1) ((hFO i).2) (by omega)) gX0_passDay_X0_mateOf calX0_mateOf rfl rfl rfl rfl 0 rfl rfl rfl rfl dX0_passDay_18 rfl ⟨Nat.zero_le _, Nat.zero_le _⟩ (fun _ => fw E a ((fallN (serC C) i).1)) [0, 1, 2, 3, 4, 5, 6] rfl (fun _ => rfl) (fun _ hu18 => ?_)
        refine g_istore_n hX (j := 3) [(3, .int (oI (mateO ((fallN (serC C) i).1) i))), (0, .ref (a 0)), (1, .int (nI ((fallN (serC C) i).2))), (2, .int (nI i))] dX0_passDay_21 rfl (by rw [hnL]; rfl) rfl ?_
        refine g_iload_n hX dX0_passDay_22 0 rfl ?_
        refine g_bipush hX ((-4)) dX0_passDay_23 rfl ?_
        refine g_icmp_eq hX 41 dX0_passDay_25 (by decide) (fun c25 => ?_) (fun c25 => ?_)
        · replace c25 := (oI_n (fun t ht => by have := (mate_lt ht).2.1; omega)).mp c25
          have hst : fallN (serC C) (i + 1) = fallN (serC C) i := by rw [fallN, fallStep, c25]
          refine g_iinc hX (j := 2) (nI (i + 1)) [(2, .int (nI (i + 1))), (3, .int (oI (mateO ((fallN (serC C) i).1) i))), (0, .ref (a 0)), (1, .int (nI ((fallN (serC C) i).2)))] dX0_passDay_41 3 rfl (iinc_n _ _) (by rw [hnL]; rfl) rfl ?_
          refine g_goto hX 8 dX0_passDay_44 (by decide) ?_
          exact g_lv [(0, .ref (a 0)), (1, .int (nI ((fallN (serC C) i).2))), (2, .int (nI (i + 1)))] [2, 3, 0] rfl (g_eq (by rw [hst]) (by rw [hst]) rfl (ih8 (i + 1) (by omega) (by omega)))
        · replace c25 := mt (oI_n (fun t ht => by have := (mate_lt ht).2.1; omega)).mpr c25
          obtain ⟨t, ht⟩ : ∃ t, mateO (fallN (serC C) i).1 i = some t := by cases hm : mateO (fallN (serC C) i).1 i with | none => exact absurd hm c25 | some t => exact ⟨t, rfl⟩
          rw [show oI (mateO (fallN (serC C) i).1 i) = nI t from by rw [ht]; rfl]
          obtain ⟨hit, htn, -⟩ := mate_lt ht
          have hst : fallN (serC C) (i + 1) = (toC (toC (fallN (serC C) i).1 i) t, (fallN (serC C) i).2 + 2) := by rw [fallN, fallStep, ht]
          refine g_aload_n hX dX0_passDay_28 1 rfl ?_
          refine g_iload_n hX dX0_passDay_29 3 rfl ?_
          have hc30 : CUT (fw E a ((fallN (serC C) i).1)) (fw E a ((fallN (serC C) i).1)) (([] : va_W)) [0, 1, 2, 3, 4, 5, 6] [] := ⟨rfl, rfl, rfl, rfl, rfl⟩
          refine g_VV hX hc30 [.int (nI i)] [] (c_X0_takeOut l E a ((fallN (serC C) i).1) i ((hFO i).1) (by omega)) gX0_passDay_X0_takeOut calX0_takeOut rfl rfl rfl rfl 0 rfl rfl rfl rfl dX0_passDay_30 rfl ⟨Nat.zero_le _, Nat.zero_le _⟩ (fun _ => fw E a (toC ((fallN (serC C) i).1) i)) [0, 1, 2, 3, 4, 5, 6] rfl (fun _ => rfl) (fun _ hu30 => ?_)
          refine g_aload_n hX dX0_passDay_33 1 rfl ?_
          refine g_iload_n hX dX0_passDay_34 0 rfl ?_
          have hc35 : CUT (fw E a (toC ((fallN (serC C) i).1) i)) (fw E a (toC ((fallN (serC C) i).1) i)) (([] : va_W)) [0, 1, 2, 3, 4, 5, 6] [] := ⟨rfl, rfl, rfl, rfl, rfl⟩
          refine g_VV hX hc35 [.int (nI t)] [] (c_X0_takeOut l E a (toC ((fallN (serC C) i).1) i) t (FO_toC (hFO i).1 (by omega)) htn) gX0_passDay_X0_takeOut calX0_takeOut rfl rfl rfl rfl 0 rfl rfl rfl rfl dX0_passDay_35 rfl ⟨Nat.zero_le _, Nat.zero_le _⟩ (fun _ => fw E a (toC (toC ((fallN (serC C) i).1) i) t)) [0, 1, 2, 3, 4, 5, 6] rfl (fun _ => rfl) (fun _ hu35 => ?_)
          refine g_iinc hX (j := 1) (nI ((fallN (serC C) i).2 + 2)) [(1, .int (nI ((fallN (serC C) i).2 + 2))), (3, .int (nI t)), (0, .ref (a 0)), (2, .int (nI i))] dX0_passDay_38 2 rfl (iinc_n _ _) (by rw [hnL]; rfl) rfl ?_
          refine g_iinc hX (j := 2) (nI (i + 1)) [(2, .int (nI (i + 1))), (1, .int (nI ((fallN (serC C) i).2 + 2))), (3, .int (nI t)), (0, .ref (a 0))] dX0_passDay_41 3 rfl (iinc_n _ _) (by rw [hnL]; rfl) rfl ?_
          refine g_goto hX 8 dX0_passDay_44 (by decide) ?_
          exact g_lv [(0, .ref (a 0)), (1, .int (nI ((fallN (serC C) i).2 + 2))), (2, .int (nI (i + 1)))] [3, 1, 0] rfl (g_eq (by rw [hst]) (by rw [hst]) rfl (ih8 (i + 1) (by omega) (by omega)))
  exact g_lv _ [2, 1, 0] rfl (lp8 _ 0 (Nat.lt_succ_self _) (Nat.zero_le _))
