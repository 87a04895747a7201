set_option maxHeartbeats 4000000 in
set_option maxRecDepth 100000 in
theorem c_X5_isWithin_w (l : Launch) (E : EV) (w : Nat) (hw : w < 64) : KI l yX5_isWithin wsX5_isWithin (rmN 0) E (σ := Unit) [.int (nI w), .int (nI 0), .int (nI 63)] (([] : va_W)) (fun _ => True) (fun _ => (bI true)) (fun _ => ([] : va_W)) 0 0 := by
  have h := c_X5_isWithin l E (nI w) (nI 0) (nI 63)
  rw [win_n (by omega) (by decide) (by decide), show (decide (0 ≤ w) && decide (w ≤ 63)) = true from by simp; omega] at h
  exact h
set_option maxHeartbeats 4000000 in
set_option maxRecDepth 100000 in
theorem c_X1_worth (l : Launch) (E : EV) (a : Nat → Nat) (G : GC) (w : Nat) (hw : w < 64) : KI l yX1_worth wsX1_worth (rmN 1) E (σ := Unit) [.ref (a 0), .int (nI w)] (gw E a G) (fun _ => True) (fun _ => (nI (gB G w))) (fun _ => gw E a G) 0 0 := by
  refine KI.of (cc := cX1_worth) (maxL := 2) (ty := .int) (hnar := fun _ _ => rfl) rfl rfl rfl (fun x hX hin hret hnL => ?_)
  replace hX : CX x l cX1_worth RX1 wsX1_worth E (rmN 1) := hX
  show GG x 0 0 (gw E a G) 0 [(0, .ref (a 0)), (1, .int (nI w))] []
  have inRX1 : ∀ w ∈ wsX10, w ∈ wsX1_worth := by decide +kernel
  have fl9 : Cond.fieldLink RX1 9 "LieForce$Game" "behindTurn" "[I" ∈ wsX1_worth := by decide +kernel
  refine g_iload_n hX dX1_worth_0 1 rfl ?_
  refine g_iconst hX (nI 0) dX1_worth_1 rfl ?_
  refine g_bipush hX (nI 63) dX1_worth_2 rfl ?_
  have hc4 : CUT (gw E a G) (([] : va_W)) (gw E a G) [] [0, 1, 2] := ⟨rfl, rfl, rfl, rfl, rfl⟩
  refine g_NI hX hc4 [.int (nI w), .int (nI 0), .int (nI 63)] [] (c_X5_isWithin_w l E w (by first | assumption | omega | exact xor_bit_lt (m := 6) hw (by omega))) gX1_worth_X5_isWithin_n45 calX5_isWithin rfl rfl (by decide +kernel) (by decide +kernel) (by decide +kernel) rfl rfl dX1_worth_4 rfl ⟨Nat.zero_le _, Nat.zero_le _⟩ (fun _ => gw E a G) [0, 1, 2] rfl (fun _ => rfl) (fun _ hu4 => ?_)
  refine g_if_eq hX 19 dX1_worth_7 (by decide) (fun c7 => ?_) (fun c7 => ?_)
  · replace c7 := bI_0.mp c7
    exact absurd c7 (by simp)
  · replace c7 := mt bI_0.mpr c7
    replace c7 := bNf c7
    refine g_aload_n hX dX1_worth_10 0 rfl ?_
    refine g_get hX (v := .ref (a 1)) 0 inRX1 rfl rfl 0 rfl fl9 rfl rfl dX1_worth_11 ?_
    refine g_iload_n hX dX1_worth_14 1 rfl ?_
    refine g_iald hX (nI (gB G w)) 1 0 rfl rfl (vp_in_nI (by omega) (by omega)) (ald_n (g := fun zz => nI (gB G zz)) (i := w) (by omega)) dX1_worth_15 ?_
    refine g_goto hX 20 dX1_worth_16 (by decide) ?_
    exact g_eq rfl rfl rfl (hret () _ _ trivial dX1_worth_20)
set_option maxHeartbeats 4000000 in
set_option maxRecDepth 100000 in
theorem c_X1_outcome (l : Launch) (E : EV) (a : Nat → Nat) (G : GC) (w : Nat) (hw : w < 64) : KI l yX1_outcome wsX1_outcome (rmN 1) E (σ := Unit) [.ref (a 0), .int (nI w)] (gw E a G) (fun _ => True) (fun _ => (nI (gT G w))) (fun _ => gw E a G) 0 0 := by
  refine KI.of (cc := cX1_outcome) (maxL := 2) (ty := .int) (hnar := fun _ _ => rfl) rfl rfl rfl (fun x hX hin hret hnL => ?_)
  replace hX : CX x l cX1_outcome RX1 wsX1_outcome E (rmN 1) := hX
  show GG x 0 0 (gw E a G) 0 [(0, .ref (a 0)), (1, .int (nI w))] []
  have inRX1 : ∀ w ∈ wsX10, w ∈ wsX1_outcome := by decide +kernel
  have fl15 : Cond.fieldLink RX1 15 "LieForce$Game" "best" "[I" ∈ wsX1_outcome := by decide +kernel
  refine g_iload_n hX dX1_outcome_0 1 rfl ?_
  refine g_iconst hX (nI 0) dX1_outcome_1 rfl ?_
  refine g_bipush hX (nI 63) dX1_outcome_2 rfl ?_
  have hc4 : CUT (gw E a G) (([] : va_W)) (gw E a G) [] [0, 1, 2] := ⟨rfl, rfl, rfl, rfl, rfl⟩
  refine g_NI hX hc4 [.int (nI w), .int (nI 0), .int (nI 63)] [] (c_X5_isWithin_w l E w (by first | assumption | omega | exact xor_bit_lt (m := 6) hw (by omega))) gX1_outcome_X5_isWithin_n45 calX5_isWithin rfl rfl (by decide +kernel) (by decide +kernel) (by decide +kernel) rfl rfl dX1_outcome_4 rfl ⟨Nat.zero_le _, Nat.zero_le _⟩ (fun _ => gw E a G) [0, 1, 2] rfl (fun _ => rfl) (fun _ hu4 => ?_)
  refine g_if_eq hX 19 dX1_outcome_7 (by decide) (fun c7 => ?_) (fun c7 => ?_)
  · replace c7 := bI_0.mp c7
    exact absurd c7 (by simp)
  · replace c7 := mt bI_0.mpr c7
    replace c7 := bNf c7
    refine g_aload_n hX dX1_outcome_10 0 rfl ?_
    refine g_get hX (v := .ref (a 2)) 0 inRX1 rfl rfl 1 rfl fl15 rfl rfl dX1_outcome_11 ?_
    refine g_iload_n hX dX1_outcome_14 1 rfl ?_
    refine g_iald hX (nI (gT G w)) 2 0 rfl rfl (vp_in_nI (by omega) (by omega)) (ald_n (g := fun zz => nI (gT G zz)) (i := w) (by omega)) dX1_outcome_15 ?_
    refine g_goto hX 20 dX1_outcome_16 (by decide) ?_
    exact g_eq rfl rfl rfl (hret () _ _ trivial dX1_outcome_20)
set_option maxHeartbeats 4000000 in
set_option maxRecDepth 100000 in
theorem c_X1_bestOf (l : Launch) (E : EV) (a : Nat → Nat) (G : GC) (w : Nat) (q : Bool) (hw : w < 64) (hB : GB9 (gB G)) : KI l yX1_bestOf wsX1_bestOf (rmN 2) E (σ := Unit) [.ref (a 0), .int (nI w), .int (bI q)] (gw E a G) (fun _ => True) (fun _ => (nI (bsF q (gB G) w 6))) (fun _ => gw E a G) 0 0 := by
  refine KI.of (cc := cX1_bestOf) (maxL := 6) (ty := .int) (hnar := fun _ _ => rfl) rfl rfl rfl (fun x hX hin hret hnL => ?_)
  replace hX : CX x l cX1_bestOf RX1 wsX1_bestOf E (rmN 2) := hX
  show GG x 0 0 (gw E a G) 0 [(0, .ref (a 0)), (1, .int (nI w)), (2, .int (bI q))] []
  refine g_aload_n hX dX1_bestOf_0 0 rfl ?_
  refine g_iload_n hX dX1_bestOf_1 1 rfl ?_
  have hc2 : CUT (gw E a G) (gw E a G) (([] : va_W)) [0, 1, 2] [] := ⟨rfl, rfl, rfl, rfl, rfl⟩
  refine g_VI hX hc2 [.int (nI w)] [] (c_X1_worth l E a G w (by omega)) gX1_bestOf_X1_worth calX1_worth rfl rfl rfl rfl 0 rfl rfl rfl rfl dX1_bestOf_2 rfl ⟨Nat.zero_le _, Nat.zero_le _⟩ (fun _ => gw E a G) [0, 1, 2] rfl (fun _ => rfl) (fun _ hu2 => ?_)
  refine g_istore_n hX (j := 3) [(3, .int (nI (gB G w))), (0, .ref (a 0)), (1, .int (nI w)), (2, .int (bI q))] dX1_bestOf_5 rfl (by rw [hnL]; rfl) rfl ?_
  refine g_iconst hX (nI 0) dX1_bestOf_6 rfl ?_
  refine g_istore hX (j := 4) [(4, .int (nI 0)), (3, .int (nI (gB G w))), (0, .ref (a 0)), (1, .int (nI w)), (2, .int (bI q))] dX1_bestOf_7 (by rw [hnL]; rfl) rfl ?_
  have lp9 : ∀ (fuel : Nat) (i : Nat) (acc : Nat), 6 - i < fuel → (i ≤ 6) → (acc = bsF q (gB G) w i) → GG x 0 0 (gw E a G) 9 [(0, .ref (a 0)), (1, .int (nI w)), (2, .int (bI q)), (3, .int (nI acc)), (4, .int (nI i))] [] := by
    intro fuel
    induction fuel with
    | zero => intro i acc hm; exact absurd hm (Nat.not_lt_zero _)
    | succ fuel ih9 =>
      intro i acc hm9 hi hacc
      have ha9 : acc ≤ 9 := by rw [hacc]; exact bsF_le hB hw i hi
      refine g_iload hX dX1_bestOf_9 4 rfl ?_
      refine g_bipush hX (nI 6) dX1_bestOf_11 rfl ?_
      refine g_icmp_ge hX 54 dX1_bestOf_13 (by decide) (fun c13 => ?_) (fun c13 => ?_)
      · replace c13 := (nI_leI (by omega) (by omega)).mp c13
        refine g_iload_n hX dX1_bestOf_54 3 rfl ?_
        exact g_eq rfl rfl (congrArg (fun z => [Value.int z]) (congrArg nI (by rw [hacc, show i = 6 by omega]))) (hret () _ _ trivial dX1_bestOf_55)
      · replace c13 := mt (nI_leI (by omega) (by omega)).mpr c13
        refine g_aload_n hX dX1_bestOf_16 0 rfl ?_
        refine g_iload_n hX dX1_bestOf_17 1 rfl ?_
        refine g_iconst hX (nI 1) dX1_bestOf_18 rfl ?_
        refine g_iload hX dX1_bestOf_19 4 rfl ?_
        refine g_ishl hX (nI (1 <<< i)) dX1_bestOf_21 (sh_l _ (by omega)) ?_
        refine g_ixor hX (nI (w ^^^ (1 <<< i))) dX1_bestOf_22 (fb_xorI _ _) ?_
        have hc23 : CUT (gw E a G) (gw E a G) (([] : va_W)) [0, 1, 2] [] := ⟨rfl, rfl, rfl, rfl, rfl⟩
        refine g_VI hX hc23 [.int (nI (w ^^^ (1 <<< i)))] [] (c_X1_worth l E a G (w ^^^ (1 <<< i)) (xor_bit_lt (g := w) (s := i) (m := 6) hw (by omega))) gX1_bestOf_X1_worth calX1_worth rfl rfl rfl rfl 0 rfl rfl rfl rfl dX1_bestOf_23 rfl ⟨Nat.zero_le _, Nat.zero_le _⟩ (fun _ => gw E a G) [0, 1, 2] rfl (fun _ => rfl) (fun _ hu23 => ?_)
        refine g_istore hX (j := 5) [(5, .int (nI (gB G (w ^^^ (1 <<< i))))), (0, .ref (a 0)), (1, .int (nI w)), (2, .int (bI q)), (3, .int (nI acc)), (4, .int (nI i))] dX1_bestOf_26 (by rw [hnL]; rfl) rfl ?_
        refine g_iload_n hX dX1_bestOf_28 3 rfl ?_
        have hn9 := hB _ (xor_bit_lt (g := w) (s := i) (m := 6) hw (by omega))
        refine g_if_eq hX 41 dX1_bestOf_29 (by decide) (fun c29 => ?_) (fun c29 => ?_)
        · replace c29 := bI_0.mp c29
          refine g_iload_n hX dX1_bestOf_41 4 rfl ?_
          refine g_iload hX dX1_bestOf_42 0 rfl ?_
          refine g_mmin hX (nI (min acc (gB G (w ^^^ (1 <<< i))))) (minI (by omega) (by omega)) (by decide +kernel) (by decide +kernel) (by decide +kernel) (by decide +kernel) (by decide) (by decide) (Nat.zero_le _) (Nat.zero_le _) dX1_bestOf_44 ?_
          refine g_istore_n hX (j := 3) [(3, .int (nI (min acc (gB G (w ^^^ (1 <<< i)))))), (5, .int (nI (gB G (w ^^^ (1 <<< i))))), (0, .ref (a 0)), (1, .int (nI w)), (2, .int (bI q)), (4, .int (nI i))] dX1_bestOf_47 rfl (by rw [hnL]; rfl) rfl ?_
          refine g_iinc hX (j := 4) (nI (i + 1)) [(4, .int (nI (i + 1))), (3, .int (nI (min acc (gB G (w ^^^ (1 <<< i)))))), (5, .int (nI (gB G (w ^^^ (1 <<< i))))), (0, .ref (a 0)), (1, .int (nI w)), (2, .int (bI q))] dX1_bestOf_48 5 rfl (iinc_n _ _) (by rw [hnL]; rfl) rfl ?_
          refine g_goto hX 9 dX1_bestOf_51 (by decide) ?_
          exact g_lv _ [3, 4, 5, 1, 0] rfl (ih9 (i + 1) (min acc (gB G (w ^^^ (1 <<< i)))) (by omega) (by omega) (by rw [hacc, bsF]; simp [c13, c29]))
        · replace c29 := mt bI_0.mpr c29
          replace c29 := bNf c29
          refine g_iload_n hX dX1_bestOf_32 4 rfl ?_
          refine g_iload hX dX1_bestOf_33 0 rfl ?_
          refine g_mmax hX (nI (max acc (gB G (w ^^^ (1 <<< i))))) (maxI (by omega) (by omega)) (by decide +kernel) (by decide +kernel) (by decide +kernel) (by decide +kernel) (by decide) (by decide) (Nat.zero_le _) (Nat.zero_le _) dX1_bestOf_35 ?_
          refine g_goto hX 47 dX1_bestOf_38 (by decide) ?_
          refine g_istore_n hX (j := 3) [(3, .int (nI (max acc (gB G (w ^^^ (1 <<< i)))))), (5, .int (nI (gB G (w ^^^ (1 <<< i))))), (0, .ref (a 0)), (1, .int (nI w)), (2, .int (bI q)), (4, .int (nI i))] dX1_bestOf_47 rfl (by rw [hnL]; rfl) rfl ?_
          refine g_iinc hX (j := 4) (nI (i + 1)) [(4, .int (nI (i + 1))), (3, .int (nI (max acc (gB G (w ^^^ (1 <<< i)))))), (5, .int (nI (gB G (w ^^^ (1 <<< i))))), (0, .ref (a 0)), (1, .int (nI w)), (2, .int (bI q))] dX1_bestOf_48 5 rfl (iinc_n _ _) (by rw [hnL]; rfl) rfl ?_
          refine g_goto hX 9 dX1_bestOf_51 (by decide) ?_
          exact g_lv _ [3, 4, 5, 1, 0] rfl (ih9 (i + 1) (max acc (gB G (w ^^^ (1 <<< i)))) (by omega) (by omega) (by rw [hacc, bsF]; simp [c13, c29]))
  exact g_lv _ [2, 3, 4, 1, 0] rfl (lp9 _ 0 (gB G w) (Nat.lt_succ_self _) (Nat.zero_le _) rfl)
set_option maxHeartbeats 4000000 in
set_option maxRecDepth 100000 in
theorem c_X1_firstMove (l : Launch) (E : EV) (a : Nat → Nat) (G : GC) (w : Nat) (hw : w < 64) (hB : GB9 (gB G)) (hT : GB9 (gT G)) : KI l yX1_firstMove wsX1_firstMove (rmN 2) E (σ := Unit) [.ref (a 0), .int (nI w)] (gw E a G) (fun _ => True) (fun _ => (oI (fmO G w))) (fun _ => gw E a G) 0 0 := by
  refine KI.of (cc := cX1_firstMove) (maxL := 4) (ty := .int) (hnar := fun _ _ => rfl) rfl rfl rfl (fun x hX hin hret hnL => ?_)
  replace hX : CX x l cX1_firstMove RX1 wsX1_firstMove E (rmN 2) := hX
  show GG x 0 0 (gw E a G) 0 [(0, .ref (a 0)), (1, .int (nI w))] []
  have hb1 := hB w hw
  have ht1 := hT w hw
  refine g_aload_n hX dX1_firstMove_0 0 rfl ?_
  refine g_iload_n hX dX1_firstMove_1 1 rfl ?_
  have hc2 : CUT (gw E a G) (gw E a G) (([] : va_W)) [0, 1, 2] [] := ⟨rfl, rfl, rfl, rfl, rfl⟩
  refine g_VI hX hc2 [.int (nI w)] [] (c_X1_outcome l E a G w (by omega)) gX1_firstMove_X1_outcome calX1_outcome rfl rfl rfl rfl 0 rfl rfl rfl rfl dX1_firstMove_2 rfl ⟨Nat.zero_le _, Nat.zero_le _⟩ (fun _ => gw E a G) [0, 1, 2] rfl (fun _ => rfl) (fun _ hu2 => ?_)
  refine g_istore_n hX (j := 2) [(2, .int (nI (gT G w))), (0, .ref (a 0)), (1, .int (nI w))] dX1_firstMove_5 rfl (by rw [hnL]; rfl) rfl ?_
  refine g_aload_n hX dX1_firstMove_6 1 rfl ?_
  refine g_iload_n hX dX1_firstMove_7 2 rfl ?_
  have hc8 : CUT (gw E a G) (gw E a G) (([] : va_W)) [0, 1, 2] [] := ⟨rfl, rfl, rfl, rfl, rfl⟩
  refine g_VI hX hc8 [.int (nI w)] [] (c_X1_worth l E a G w (by omega)) gX1_firstMove_X1_worth calX1_worth rfl rfl rfl rfl 0 rfl rfl rfl rfl dX1_firstMove_8 rfl ⟨Nat.zero_le _, Nat.zero_le _⟩ (fun _ => gw E a G) [0, 1, 2] rfl (fun _ => rfl) (fun _ hu8 => ?_)
  refine g_iload_n hX dX1_firstMove_11 0 rfl ?_
  refine g_icmp_ne hX 18 dX1_firstMove_12 (by decide) (fun c12 => ?_) (fun c12 => ?_)
  · replace c12 := mt (nI_eq (by omega) (by omega)).mpr c12
    refine g_iconst hX (nI 0) dX1_firstMove_18 rfl ?_
    refine g_istore_n hX (j := 3) [(3, .int (nI 0)), (2, .int (nI (gT G w))), (0, .ref (a 0)), (1, .int (nI w))] dX1_firstMove_19 rfl (by rw [hnL]; rfl) rfl ?_
    have lp20 : ∀ (fuel : Nat) (i : Nat), 6 - i < fuel → (i ≤ 6) → (fmO G w = fst (fun f => decide (gB G (w ^^^ 1 <<< f) = gT G w)) i (6 - i)) → GG x 0 0 (gw E a G) 20 [(0, .ref (a 0)), (1, .int (nI w)), (2, .int (nI (gT G w))), (3, .int (nI i))] [] := by
      intro fuel
      induction fuel with
      | zero => intro i hm; exact absurd hm (Nat.not_lt_zero _)
      | succ fuel ih20 =>
        intro i hm20 hi he
        refine g_iload_n hX dX1_firstMove_20 3 rfl ?_
        refine g_bipush hX (nI 6) dX1_firstMove_21 rfl ?_
        refine g_icmp_ge hX 47 dX1_firstMove_23 (by decide) (fun c23 => ?_) (fun c23 => ?_)
        · replace c23 := (nI_leI (by omega) (by omega)).mp c23
          refine g_bipush hX ((-4)) dX1_firstMove_47 rfl ?_
          exact g_eq rfl rfl (congrArg (fun z => [Value.int z]) (by rw [he, fst_done (by omega)]; rfl)) (hret () _ _ trivial dX1_firstMove_49)
        · replace c23 := mt (nI_leI (by omega) (by omega)).mpr c23
          refine g_aload_n hX dX1_firstMove_26 0 rfl ?_
          refine g_iload_n hX dX1_firstMove_27 1 rfl ?_
          refine g_iconst hX (nI 1) dX1_firstMove_28 rfl ?_
          refine g_iload_n hX dX1_firstMove_29 3 rfl ?_
          refine g_ishl hX (nI (1 <<< i)) dX1_firstMove_30 (sh_l _ (by omega)) ?_
          refine g_ixor hX (nI (w ^^^ (1 <<< i))) dX1_firstMove_31 (fb_xorI _ _) ?_
          have hc32 : CUT (gw E a G) (gw E a G) (([] : va_W)) [0, 1, 2] [] := ⟨rfl, rfl, rfl, rfl, rfl⟩
          refine g_VI hX hc32 [.int (nI (w ^^^ (1 <<< i)))] [] (c_X1_worth l E a G (w ^^^ (1 <<< i)) (xor_bit_lt (g := w) (s := i) (m := 6) hw (by omega))) gX1_firstMove_X1_worth calX1_worth rfl rfl rfl rfl 0 rfl rfl rfl rfl dX1_firstMove_32 rfl ⟨Nat.zero_le _, Nat.zero_le _⟩ (fun _ => gw E a G) [0, 1, 2] rfl (fun _ => rfl) (fun _ hu32 => ?_)
          have hb2 := hB _ (xor_bit_lt (g := w) (s := i) (m := 6) hw (by omega))
          refine g_iload_n hX dX1_firstMove_35 2 rfl ?_
          refine g_icmp_ne hX 41 dX1_firstMove_36 (by decide) (fun c36 => ?_) (fun c36 => ?_)
          · replace c36 := mt (nI_eq (by omega) (by omega)).mpr c36
            refine g_iinc hX (j := 3) (nI (i + 1)) [(3, .int (nI (i + 1))), (0, .ref (a 0)), (1, .int (nI w)), (2, .int (nI (gT G w)))] dX1_firstMove_41 3 rfl (iinc_n _ _) (by rw [hnL]; rfl) rfl ?_
            refine g_goto hX 20 dX1_firstMove_44 (by decide) ?_
            exact g_lv _ [1, 2, 3, 0] rfl (ih20 (i + 1) (by omega) (by omega) (he.trans (fst_step (by omega) (by simp [c12, c23, c36]))))
          · replace c36 := (nI_eq (by omega) (by omega)).mp c36
            refine g_iload_n hX dX1_firstMove_39 3 rfl ?_
            exact g_eq rfl rfl (congrArg (fun z => [Value.int z]) (by rw [he, fst_hit (by omega) (by simp [c12, c23, c36])]; rfl)) (hret () _ _ trivial dX1_firstMove_40)
    exact g_lv _ [2, 3, 1, 0] rfl (lp20 _ 0 (Nat.lt_succ_self _) (Nat.zero_le _) (by rw [fmO, if_neg c12]))
  · replace c12 := (nI_eq (by omega) (by omega)).mp c12
    refine g_bipush hX ((-4)) dX1_firstMove_15 rfl ?_
    exact g_eq rfl rfl (congrArg (fun z => [Value.int z]) (by simp [fmO, c12, oI])) (hret () _ _ trivial dX1_firstMove_17)
set_option maxHeartbeats 4000000 in
set_option maxRecDepth 100000 in
theorem c_X1_lookAhead (l : Launch) (E : EV) (a : Nat → Nat) (G : GC) (b : Nat → Nat) (C : FC) (n : Nat) (hC : FO C) (hn : 1 ≤ n) (hn4 : n ≤ 4) : KV l yX1_lookAhead wsX1_lookAhead (rmN 3) E (σ := Unit) [.ref (a 0), .ref (b 0), .int (nI n)] ((gw E a G) ++ (fw E b C)) (fun _ => True) (fun _ => (gw E a (mkGC (lvF C n (n - 1)) (lvF C n n))) ++ (fw E b C)) 0 0 := by
  refine KV.of (cc := cX1_lookAhead) (maxL := 6) rfl rfl rfl (fun x hX hin hret hnL => ?_)
  replace hX : CX x l cX1_lookAhead RX1 wsX1_lookAhead E (rmN 3) := hX
  show GG x 0 0 ((gw E a G) ++ (fw E b C)) 0 [(0, .ref (a 0)), (1, .ref (b 0)), (2, .int (nI n))] []
  have inRX1 : ∀ w ∈ wsX10, w ∈ wsX1_lookAhead := by decide +kernel
  have fl15 : Cond.fieldLink RX1 15 "LieForce$Game" "best" "[I" ∈ wsX1_lookAhead := by decide +kernel
  have fl9 : Cond.fieldLink RX1 9 "LieForce$Game" "behindTurn" "[I" ∈ wsX1_lookAhead := by decide +kernel
  obtain ⟨h9, h64, h512, hT, hI⟩ := id hC
  refine g_iconst hX (nI 0) dX1_lookAhead_0 rfl ?_
  refine g_istore_n hX (j := 3) [(3, .int (nI 0)), (0, .ref (a 0)), (1, .ref (b 0)), (2, .int (nI n))] dX1_lookAhead_1 rfl (by rw [hnL]; rfl) rfl ?_
  have lp2 : ∀ (fuel : Nat) (j : Nat) (tv : Nat → Nat), 64 - j < fuel → (j ≤ 64) → (tv = upTo j (fun _ => true) (gT G) (lvF C n 0)) → GG x 0 0 ((gw E a (mkGC (gB G) tv)) ++ (fw E b C)) 2 [(0, .ref (a 0)), (1, .ref (b 0)), (2, .int (nI n)), (3, .int (nI j))] [] := by
    intro fuel
    induction fuel with
    | zero => intro j tv hm; exact absurd hm (Nat.not_lt_zero _)
    | succ fuel ih2 =>
      intro j tv hm2 hj hT0
      refine g_iload_n hX dX1_lookAhead_2 3 rfl ?_
      refine g_bipush hX (nI 64) dX1_lookAhead_3 rfl ?_
      refine g_icmp_ge hX 28 dX1_lookAhead_5 (by decide) (fun c5 => ?_) (fun c5 => ?_)
      · replace c5 := (nI_leI (by omega) (by omega)).mp c5
        refine g_rei 2 (fun z => nI (lvF C n 0 z)) ((gw E a (mkGC (gB G) (lvF C n 0))) ++ (fw E b C)) rfl (fun z hz => congrArg nI ((congrFun hT0 z).trans (upTo_all (by omega)))) rfl ?_
        refine g_iconst hX (nI 1) dX1_lookAhead_28 rfl ?_
        refine g_istore_n hX (j := 3) [(3, .int (nI 1)), (0, .ref (a 0)), (1, .ref (b 0)), (2, .int (nI n))] dX1_lookAhead_29 rfl (by rw [hnL]; rfl) rfl ?_
        have lp30 : ∀ (fuel : Nat) (i : Nat) (bv : Nat → Nat), n + 1 - i < fuel → (i ≤ n + 1) → (1 ≤ i) → (1 < i → bv = lvF C n (i - 2)) → GG x 0 0 ((gw E a (mkGC bv (lvF C n (i - 1)))) ++ (fw E b C)) 30 [(0, .ref (a 0)), (1, .ref (b 0)), (2, .int (nI n)), (3, .int (nI i))] [] := by
          intro fuel
          induction fuel with
          | zero => intro i bv hm; exact absurd hm (Nat.not_lt_zero _)
          | succ fuel ih30 =>
            intro i bv hm30 hi hi1 hbv
            refine g_iload_n hX dX1_lookAhead_30 3 rfl ?_
            refine g_iload_n hX dX1_lookAhead_31 2 rfl ?_
            refine g_icmp_gt hX 117 dX1_lookAhead_32 (by decide) (fun c32 => ?_) (fun c32 => ?_)
            · replace c32 := (nI_ltI (by omega) (by omega)).mp c32
              exact g_eq (by rw [hbv (by omega), show i = n + 1 by omega] <;> rfl) rfl rfl (hret () _ _ trivial dX1_lookAhead_117)
            · replace c32 := mt (nI_ltI (by omega) (by omega)).mpr c32
              refine g_iconst hX (nI 0) dX1_lookAhead_35 rfl ?_
              refine g_istore hX (j := 4) [(4, .int (nI 0)), (0, .ref (a 0)), (1, .ref (b 0)), (2, .int (nI n)), (3, .int (nI i))] dX1_lookAhead_36 (by rw [hnL]; rfl) rfl ?_
              have lp38 : ∀ (fuel : Nat) (j : Nat) (bw : Nat → Nat), 64 - j < fuel → (j ≤ 64) → (bw = upTo j (fun _ => true) bv (lvF C n (i - 1))) → GG x 0 0 ((gw E a (mkGC bw (lvF C n (i - 1)))) ++ (fw E b C)) 38 [(0, .ref (a 0)), (1, .ref (b 0)), (2, .int (nI n)), (3, .int (nI i)), (4, .int (nI j))] [] := by
                intro fuel
                induction fuel with
                | zero => intro j bw hm; exact absurd hm (Nat.not_lt_zero _)
                | succ fuel ih38 =>
                  intro j bw hm38 hj hB0
                  refine g_iload hX dX1_lookAhead_38 4 rfl ?_
                  refine g_bipush hX (nI 64) dX1_lookAhead_40 rfl ?_
                  refine g_icmp_ge hX 65 dX1_lookAhead_42 (by decide) (fun c42 => ?_) (fun c42 => ?_)
                  · replace c42 := (nI_leI (by omega) (by omega)).mp c42
                    refine g_rei 1 (fun z => nI (lvF C n (i - 1) z)) ((gw E a (mkGC (lvF C n (i - 1)) (lvF C n (i - 1)))) ++ (fw E b C)) rfl (fun z hz => congrArg nI ((congrFun hB0 z).trans (upTo_all (by omega)))) rfl ?_
                    refine g_iload_n hX dX1_lookAhead_65 2 rfl ?_
                    refine g_iload_n hX dX1_lookAhead_66 3 rfl ?_
                    refine g_isub hX (nI (n - i)) dX1_lookAhead_67 (pk_sub (by omega)) ?_
                    refine g_iconst hX (nI 2) dX1_lookAhead_68 rfl ?_
                    refine g_irem hX (nI ((n - i) % 2)) dX1_lookAhead_69 (nI_ne0 (by omega) (by omega)) (pk_rem (by omega) (by omega) (by omega)) ?_
                    refine g_if_ne hX 77 dX1_lookAhead_70 (by decide) (fun c70 => ?_) (fun c70 => ?_)
                    · replace c70 := mt (nz_eq (by omega)).mpr c70
                      refine g_iconst hX (nI 0) dX1_lookAhead_77 rfl ?_
                      refine g_eq (st' := [.int (bI (decide ((n - i) % 2 = 0)))]) rfl rfl (congrArg (fun z => [Value.int z]) (bret_f (by simp [c70]))) ?_
                      refine g_istore hX (j := 4) [(4, .int (bI (decide ((n - i) % 2 = 0)))), (0, .ref (a 0)), (1, .ref (b 0)), (2, .int (nI n)), (3, .int (nI i))] dX1_lookAhead_78 (by rw [hnL]; rfl) rfl ?_
                      refine g_iconst hX (nI 0) dX1_lookAhead_80 rfl ?_
                      refine g_istore hX (j := 5) [(5, .int (nI 0)), (4, .int (bI (decide ((n - i) % 2 = 0)))), (0, .ref (a 0)), (1, .ref (b 0)), (2, .int (nI n)), (3, .int (nI i))] dX1_lookAhead_81 (by rw [hnL]; rfl) rfl ?_
                      have lp83 : ∀ (fuel : Nat) (j : Nat) (tv : Nat → Nat), 64 - j < fuel → (j ≤ 64) → (tv = upTo j (fun _ => true) (lvF C n (i - 1)) (lvF C n i)) → GG x 0 0 ((gw E a (mkGC (lvF C n (i - 1)) tv)) ++ (fw E b C)) 83 [(0, .ref (a 0)), (1, .ref (b 0)), (2, .int (nI n)), (3, .int (nI i)), (4, .int (bI (decide ((n - i) % 2 = 0)))), (5, .int (nI j))] [] := by
                        intro fuel
                        induction fuel with
                        | zero => intro j tv hm; exact absurd hm (Nat.not_lt_zero _)
                        | succ fuel ih83 =>
                          intro j tv hm83 hj hT1
                          refine g_iload hX dX1_lookAhead_83 5 rfl ?_
                          refine g_bipush hX (nI 64) dX1_lookAhead_85 rfl ?_
                          refine g_icmp_ge hX 111 dX1_lookAhead_87 (by decide) (fun c87 => ?_) (fun c87 => ?_)
                          · replace c87 := (nI_leI (by omega) (by omega)).mp c87
                            refine g_rei 2 (fun z => nI (lvF C n i z)) ((gw E a (mkGC (lvF C n (i - 1)) (lvF C n i))) ++ (fw E b C)) rfl (fun z hz => congrArg nI ((congrFun hT1 z).trans (upTo_all (by omega)))) rfl ?_
                            refine g_iinc hX (j := 3) (nI (i + 1)) [(3, .int (nI (i + 1))), (0, .ref (a 0)), (1, .ref (b 0)), (2, .int (nI n)), (4, .int (bI (decide ((n - i) % 2 = 0)))), (5, .int (nI j))] dX1_lookAhead_111 3 rfl (iinc_n _ _) (by rw [hnL]; rfl) rfl ?_
                            refine g_goto hX 30 dX1_lookAhead_114 (by decide) ?_
                            exact g_lv _ [1, 2, 3, 0] rfl (ih30 (i + 1) (lvF C n (i - 1)) (by omega) (by omega) (by omega) (fun _ => rfl))
                          · replace c87 := mt (nI_leI (by omega) (by omega)).mpr c87
                            refine g_aload_n hX dX1_lookAhead_90 0 rfl ?_
                            refine g_get hX (v := .ref (a 2)) 0 inRX1 (atRGame_0 _ _ _ _ _) rfl 1 rfl fl15 rfl rfl dX1_lookAhead_91 ?_
                            refine g_iload hX dX1_lookAhead_94 5 rfl ?_
                            refine g_aload_n hX dX1_lookAhead_96 0 rfl ?_
                            refine g_iload hX dX1_lookAhead_97 5 rfl ?_
                            refine g_iload hX dX1_lookAhead_99 4 rfl ?_
                            have hc101 : CUT ((gw E a (mkGC (lvF C n (i - 1)) tv)) ++ (fw E b C)) (gw E a (mkGC (lvF C n (i - 1)) tv)) (fw E b C) [0, 1, 2] [3, 4, 5, 6, 7, 8, 9] := ⟨rfl, rfl, rfl, rfl, rfl⟩
                            refine g_VI hX hc101 [.int (nI j), .int (bI (decide ((n - i) % 2 = 0)))] [.int (nI j), .ref (a 2)] (c_X1_bestOf l E a (mkGC (lvF C n (i - 1)) tv) j (decide ((n - i) % 2 = 0)) (by omega) (fun w hw => lvF_le h9 n (i - 1) w hw)) gX1_lookAhead_X1_bestOf calX1_bestOf rfl rfl rfl rfl 0 rfl rfl rfl rfl dX1_lookAhead_101 rfl ⟨Nat.zero_le _, Nat.zero_le _⟩ (fun _ => (gw E a (mkGC (lvF C n (i - 1)) tv)) ++ (fw E b C)) [7, 8, 9, 0, 1, 2, 3, 4, 5, 6] rfl (fun _ => rfl) (fun _ hu101 => ?_)
                            refine g_iast hX (fun zz => nI ((va_up (tv) j (bsF (decide ((n - i) % 2 = 0)) (gB (mkGC (lvF C n (i - 1)) tv)) j 6)) zz)) ((gw E a (mkGC (lvF C n (i - 1)) (va_up (tv) j (bsF (decide ((n - i) % 2 = 0)) (gB (mkGC (lvF C n (i - 1)) tv)) j 6)))) ++ (fw E b C)) 2 0 (atRGame_2 _ _ _ _ _) rfl (vp_in_nI (by omega) (by omega)) (ast_n (by omega)) dX1_lookAhead_104 (stRGame_2 _ _ _ _ _ _) ?_
                            refine g_iinc hX (j := 5) (nI (j + 1)) [(5, .int (nI (j + 1))), (0, .ref (a 0)), (1, .ref (b 0)), (2, .int (nI n)), (3, .int (nI i)), (4, .int (bI (decide ((n - i) % 2 = 0))))] dX1_lookAhead_105 5 rfl (iinc_n _ _) (by rw [hnL]; rfl) rfl ?_
                            refine g_goto hX 83 dX1_lookAhead_108 (by decide) ?_
                            exact g_lv _ [1, 2, 3, 4, 5, 0] rfl (ih83 (j + 1) (va_up (tv) j (bsF (decide ((n - i) % 2 = 0)) (gB (mkGC (lvF C n (i - 1)) tv)) j 6)) (by omega) (by omega) (by rw [hT1]; exact upTo_put rfl (lvF_step hi1)))
                      exact g_lv _ [2, 3, 4, 5, 1, 0] rfl (lp83 _ 0 (lvF C n (i - 1)) (Nat.lt_succ_self _) (Nat.zero_le _) upTo_0)
                    · replace c70 := (nz_eq (by omega)).mp c70
                      refine g_iconst hX (nI 1) dX1_lookAhead_73 rfl ?_
                      refine g_goto hX 78 dX1_lookAhead_74 (by decide) ?_
                      refine g_eq (st' := [.int (bI (decide ((n - i) % 2 = 0)))]) rfl rfl (congrArg (fun z => [Value.int z]) (bret_t (by simp [c70]))) ?_
                      refine g_istore hX (j := 4) [(4, .int (bI (decide ((n - i) % 2 = 0)))), (0, .ref (a 0)), (1, .ref (b 0)), (2, .int (nI n)), (3, .int (nI i))] dX1_lookAhead_78 (by rw [hnL]; rfl) rfl ?_
                      refine g_iconst hX (nI 0) dX1_lookAhead_80 rfl ?_
                      refine g_istore hX (j := 5) [(5, .int (nI 0)), (4, .int (bI (decide ((n - i) % 2 = 0)))), (0, .ref (a 0)), (1, .ref (b 0)), (2, .int (nI n)), (3, .int (nI i))] dX1_lookAhead_81 (by rw [hnL]; rfl) rfl ?_
                      have lp83 : ∀ (fuel : Nat) (j : Nat) (tv : Nat → Nat), 64 - j < fuel → (j ≤ 64) → (tv = upTo j (fun _ => true) (lvF C n (i - 1)) (lvF C n i)) → GG x 0 0 ((gw E a (mkGC (lvF C n (i - 1)) tv)) ++ (fw E b C)) 83 [(0, .ref (a 0)), (1, .ref (b 0)), (2, .int (nI n)), (3, .int (nI i)), (4, .int (bI (decide ((n - i) % 2 = 0)))), (5, .int (nI j))] [] := by
                        intro fuel
                        induction fuel with
                        | zero => intro j tv hm; exact absurd hm (Nat.not_lt_zero _)
                        | succ fuel ih83 =>
                          intro j tv hm83 hj hT1
                          refine g_iload hX dX1_lookAhead_83 5 rfl ?_
                          refine g_bipush hX (nI 64) dX1_lookAhead_85 rfl ?_
                          refine g_icmp_ge hX 111 dX1_lookAhead_87 (by decide) (fun c87 => ?_) (fun c87 => ?_)
                          · replace c87 := (nI_leI (by omega) (by omega)).mp c87
                            refine g_rei 2 (fun z => nI (lvF C n i z)) ((gw E a (mkGC (lvF C n (i - 1)) (lvF C n i))) ++ (fw E b C)) rfl (fun z hz => congrArg nI ((congrFun hT1 z).trans (upTo_all (by omega)))) rfl ?_
                            refine g_iinc hX (j := 3) (nI (i + 1)) [(3, .int (nI (i + 1))), (0, .ref (a 0)), (1, .ref (b 0)), (2, .int (nI n)), (4, .int (bI (decide ((n - i) % 2 = 0)))), (5, .int (nI j))] dX1_lookAhead_111 3 rfl (iinc_n _ _) (by rw [hnL]; rfl) rfl ?_
                            refine g_goto hX 30 dX1_lookAhead_114 (by decide) ?_
                            exact g_lv _ [1, 2, 3, 0] rfl (ih30 (i + 1) (lvF C n (i - 1)) (by omega) (by omega) (by omega) (fun _ => rfl))
                          · replace c87 := mt (nI_leI (by omega) (by omega)).mpr c87
                            refine g_aload_n hX dX1_lookAhead_90 0 rfl ?_
                            refine g_get hX (v := .ref (a 2)) 0 inRX1 (atRGame_0 _ _ _ _ _) rfl 1 rfl fl15 rfl rfl dX1_lookAhead_91 ?_
                            refine g_iload hX dX1_lookAhead_94 5 rfl ?_
                            refine g_aload_n hX dX1_lookAhead_96 0 rfl ?_
                            refine g_iload hX dX1_lookAhead_97 5 rfl ?_
                            refine g_iload hX dX1_lookAhead_99 4 rfl ?_
                            have hc101 : CUT ((gw E a (mkGC (lvF C n (i - 1)) tv)) ++ (fw E b C)) (gw E a (mkGC (lvF C n (i - 1)) tv)) (fw E b C) [0, 1, 2] [3, 4, 5, 6, 7, 8, 9] := ⟨rfl, rfl, rfl, rfl, rfl⟩
                            refine g_VI hX hc101 [.int (nI j), .int (bI (decide ((n - i) % 2 = 0)))] [.int (nI j), .ref (a 2)] (c_X1_bestOf l E a (mkGC (lvF C n (i - 1)) tv) j (decide ((n - i) % 2 = 0)) (by omega) (fun w hw => lvF_le h9 n (i - 1) w hw)) gX1_lookAhead_X1_bestOf calX1_bestOf rfl rfl rfl rfl 0 rfl rfl rfl rfl dX1_lookAhead_101 rfl ⟨Nat.zero_le _, Nat.zero_le _⟩ (fun _ => (gw E a (mkGC (lvF C n (i - 1)) tv)) ++ (fw E b C)) [7, 8, 9, 0, 1, 2, 3, 4, 5, 6] rfl (fun _ => rfl) (fun _ hu101 => ?_)
                            refine g_iast hX (fun zz => nI ((va_up (tv) j (bsF (decide ((n - i) % 2 = 0)) (gB (mkGC (lvF C n (i - 1)) tv)) j 6)) zz)) ((gw E a (mkGC (lvF C n (i - 1)) (va_up (tv) j (bsF (decide ((n - i) % 2 = 0)) (gB (mkGC (lvF C n (i - 1)) tv)) j 6)))) ++ (fw E b C)) 2 0 (atRGame_2 _ _ _ _ _) rfl (vp_in_nI (by omega) (by omega)) (ast_n (by omega)) dX1_lookAhead_104 (stRGame_2 _ _ _ _ _ _) ?_
                            refine g_iinc hX (j := 5) (nI (j + 1)) [(5, .int (nI (j + 1))), (0, .ref (a 0)), (1, .ref (b 0)), (2, .int (nI n)), (3, .int (nI i)), (4, .int (bI (decide ((n - i) % 2 = 0))))] dX1_lookAhead_105 5 rfl (iinc_n _ _) (by rw [hnL]; rfl) rfl ?_
                            refine g_goto hX 83 dX1_lookAhead_108 (by decide) ?_
                            exact g_lv _ [1, 2, 3, 4, 5, 0] rfl (ih83 (j + 1) (va_up (tv) j (bsF (decide ((n - i) % 2 = 0)) (gB (mkGC (lvF C n (i - 1)) tv)) j 6)) (by omega) (by omega) (by rw [hT1]; exact upTo_put rfl (lvF_step hi1)))
                      exact g_lv _ [2, 3, 4, 5, 1, 0] rfl (lp83 _ 0 (lvF C n (i - 1)) (Nat.lt_succ_self _) (Nat.zero_le _) upTo_0)
                  · replace c42 := mt (nI_leI (by omega) (by omega)).mpr c42
                    refine g_aload_n hX dX1_lookAhead_45 0 rfl ?_
                    refine g_get hX (v := .ref (a 1)) 0 inRX1 (atRGame_0 _ _ _ _ _) rfl 0 rfl fl9 rfl rfl dX1_lookAhead_46 ?_
                    refine g_iload hX dX1_lookAhead_49 4 rfl ?_
                    refine g_aload_n hX dX1_lookAhead_51 0 rfl ?_
                    refine g_get hX (v := .ref (a 2)) 0 inRX1 (atRGame_0 _ _ _ _ _) rfl 1 rfl fl15 rfl rfl dX1_lookAhead_52 ?_
                    refine g_iload hX dX1_lookAhead_55 4 rfl ?_
                    refine g_iald hX (nI (lvF C n (i - 1) j)) 2 0 (atRGame_2 _ _ _ _ _) rfl (vp_in_nI (by omega) (by omega)) (ald_n (g := fun zz => nI (lvF C n (i - 1) zz)) (i := j) (by omega)) dX1_lookAhead_57 ?_
                    refine g_iast hX (fun zz => nI ((va_up (bw) j (lvF C n (i - 1) j)) zz)) ((gw E a (mkGC (va_up (bw) j (lvF C n (i - 1) j)) (lvF C n (i - 1)))) ++ (fw E b C)) 1 0 (atRGame_1 _ _ _ _ _) rfl (vp_in_nI (by omega) (by omega)) (ast_n (by omega)) dX1_lookAhead_58 (stRGame_1 _ _ _ _ _ _) ?_
                    refine g_iinc hX (j := 4) (nI (j + 1)) [(4, .int (nI (j + 1))), (0, .ref (a 0)), (1, .ref (b 0)), (2, .int (nI n)), (3, .int (nI i))] dX1_lookAhead_59 4 rfl (iinc_n _ _) (by rw [hnL]; rfl) rfl ?_
                    refine g_goto hX 38 dX1_lookAhead_62 (by decide) ?_
                    exact g_lv _ [1, 2, 3, 4, 0] rfl (ih38 (j + 1) (va_up (bw) j (lvF C n (i - 1) j)) (by omega) (by omega) (by rw [hB0]; exact upTo_put rfl rfl))
              exact g_lv _ [1, 2, 3, 4, 0] rfl (lp38 _ 0 bv (Nat.lt_succ_self _) (Nat.zero_le _) upTo_0)
        exact g_lv _ [1, 2, 3, 0] rfl (lp30 _ 1 (gB G) (Nat.lt_succ_self _) (by omega) (Nat.le_refl _) (fun h => absurd h (by omega)))
      · replace c5 := mt (nI_leI (by omega) (by omega)).mpr c5
        refine g_aload_n hX dX1_lookAhead_8 0 rfl ?_
        refine g_get hX (v := .ref (a 2)) 0 inRX1 (atRGame_0 _ _ _ _ _) rfl 1 rfl fl15 rfl rfl dX1_lookAhead_9 ?_
        refine g_iload_n hX dX1_lookAhead_12 3 rfl ?_
        refine g_aload_n hX dX1_lookAhead_13 1 rfl ?_
        refine g_iload_n hX dX1_lookAhead_14 3 rfl ?_
        have hc15 : CUT ((gw E a (mkGC (gB G) tv)) ++ (fw E b C)) (fw E b C) (gw E a (mkGC (gB G) tv)) [3, 4, 5, 6, 7, 8, 9] [0, 1, 2] := ⟨rfl, rfl, rfl, rfl, rfl⟩
        refine g_VI hX hc15 [.int (nI j)] [.int (nI j), .ref (a 2)] (c_X0_liesIn l E b C j (by first | assumption | omega) (by omega)) gX1_lookAhead_X0_liesIn calX0_liesIn rfl rfl rfl rfl 3 rfl rfl rfl rfl dX1_lookAhead_15 rfl ⟨Nat.zero_le _, Nat.zero_le _⟩ (fun _ => (gw E a (mkGC (gB G) tv)) ++ (fw E b C)) [0, 1, 2, 3, 4, 5, 6, 7, 8, 9] rfl (fun _ => rfl) (fun _ hu15 => ?_)
        have hli := lieM_lt h9 j
        have hc18 : CUT ((gw E a (mkGC (gB G) tv)) ++ (fw E b C)) (([] : va_W)) ((gw E a (mkGC (gB G) tv)) ++ (fw E b C)) [] [0, 1, 2, 3, 4, 5, 6, 7, 8, 9] := ⟨rfl, rfl, rfl, rfl, rfl⟩
        refine g_TI hX hc18 [.int (nI (lieM C j))] [.int (nI j), .ref (a 2)] (c_J6_bitCount_0f7a4 l E (lieM C j) hli) gX1_lookAhead_J6_bitCount_0f7a4 calJ6_bitCount_0f7a4 rfl rfl rfl rfl dX1_lookAhead_18 rfl ⟨Nat.zero_le _, Nat.zero_le _⟩ (fun _ => (gw E a (mkGC (gB G) tv)) ++ (fw E b C)) [0, 1, 2, 3, 4, 5, 6, 7, 8, 9] rfl (fun _ => rfl) (fun _ hu18 => ?_)
        refine g_iast hX (fun zz => nI ((va_up (tv) j (pop (lieM C j))) zz)) ((gw E a (mkGC (gB G) (va_up (tv) j (pop (lieM C j))))) ++ (fw E b C)) 2 0 (atRGame_2 _ _ _ _ _) rfl (vp_in_nI (by omega) (by omega)) (ast_n (by omega)) dX1_lookAhead_21 (stRGame_2 _ _ _ _ _ _) ?_
        refine g_iinc hX (j := 3) (nI (j + 1)) [(3, .int (nI (j + 1))), (0, .ref (a 0)), (1, .ref (b 0)), (2, .int (nI n))] dX1_lookAhead_22 3 rfl (iinc_n _ _) (by rw [hnL]; rfl) rfl ?_
        refine g_goto hX 2 dX1_lookAhead_25 (by decide) ?_
        exact g_lv _ [1, 2, 3, 0] rfl (ih2 (j + 1) (va_up (tv) j (pop (lieM C j))) (by omega) (by omega) (by rw [hT0]; exact upTo_put rfl rfl))
  exact g_lv _ [1, 2, 3, 0] rfl (lp2 _ 0 (gT G) (Nat.lt_succ_self _) (Nat.zero_le _) upTo_0)
set_option maxHeartbeats 4000000 in
set_option maxRecDepth 100000 in
theorem c_X4_clear (l : Launch) (E : EV) (a : Nat → Nat) (S : SC)  : KV l yX4_clear wsX4_clear (rmN 0) E (σ := Unit) [.ref (a 0)] (sw E a S) (fun _ => True) (fun _ => sw E a (shN S 0)) 0 0 := by
  refine KV.of (cc := cX4_clear) (maxL := 1) rfl rfl rfl (fun x hX hin hret hnL => ?_)
  replace hX : CX x l cX4_clear RX4 wsX4_clear E (rmN 0) := hX
  show GG x 0 0 (sw E a S) 0 [(0, .ref (a 0))] []
  have inRX4 : ∀ w ∈ wsX40, w ∈ wsX4_clear := by decide +kernel
  have fl19 : Cond.fieldLink RX4 19 "LieForce$Sight" "size" "I" ∈ wsX4_clear := by decide +kernel
  refine g_aload_n hX dX4_clear_0 0 rfl ?_
  refine g_iconst hX (nI 0) dX4_clear_1 rfl ?_
  refine g_eq (show (sw E a S : va_W) = sw E a (mkSC (hN S) (hS S) (hH S)) from rfl) rfl rfl ?_
  refine g_put hX (sw E a (mkSC 0 (hS S) (hH S))) 0 inRX4 tyX4_ok nmX4 (atSight_0 _ _ _ _ _) rfl 2 rfl fl19 rfl rfl rfl rfl rfl dX4_clear_2 (stSight_0_2 _ _ _ _ _ _) ?_
  exact g_eq rfl rfl rfl (hret () _ _ trivial dX4_clear_5)
set_option maxHeartbeats 4000000 in
set_option maxRecDepth 100000 in
theorem c_X4_add (l : Launch) (E : EV) (a : Nat → Nat) (S : SC) (s : Nat) (c : Bool) (h6 : hN S < 6) : KI l yX4_add wsX4_add (rmN 0) E (σ := Unit) [.ref (a 0), .int (nI s), .int (bI c)] (sw E a S) (fun _ => True) (fun _ => (nI (hN S + 1))) (fun _ => sw E a (mkSC (hN S + 1) (va_up (hS S) (hN S) s) (va_up (hH S) (hN S) c))) 0 0 := by
  refine KI.of (cc := cX4_add) (maxL := 3) (ty := .int) (hnar := fun _ _ => rfl) rfl rfl rfl (fun x hX hin hret hnL => ?_)
  replace hX : CX x l cX4_add RX4 wsX4_add E (rmN 0) := hX
  show GG x 0 0 (sw E a S) 0 [(0, .ref (a 0)), (1, .int (nI s)), (2, .int (bI c))] []
  have inRX4 : ∀ w ∈ wsX40, w ∈ wsX4_add := by decide +kernel
  have fl15 : Cond.fieldLink RX4 15 "LieForce$Sight" "has" "[Z" ∈ wsX4_add := by decide +kernel
  have fl19 : Cond.fieldLink RX4 19 "LieForce$Sight" "size" "I" ∈ wsX4_add := by decide +kernel
  have fl9 : Cond.fieldLink RX4 9 "LieForce$Sight" "seen" "[I" ∈ wsX4_add := by decide +kernel
  refine g_aload_n hX dX4_add_0 0 rfl ?_
  refine g_get hX (v := .int (nI (hN S))) 0 inRX4 rfl rfl 2 rfl fl19 rfl rfl dX4_add_1 ?_
  refine g_bipush hX (nI 6) dX4_add_4 rfl ?_
  refine g_icmp_lt hX 12 dX4_add_6 (by decide) (fun c6 => ?_) (fun c6 => ?_)
  · replace c6 := (nI_ltI (by omega) (by omega)).mp c6
    refine g_aload_n hX dX4_add_12 0 rfl ?_
    refine g_get hX (v := .ref (a 1)) 0 inRX4 rfl rfl 0 rfl fl9 rfl rfl dX4_add_13 ?_
    refine g_aload_n hX dX4_add_16 0 rfl ?_
    refine g_get hX (v := .int (nI (hN S))) 0 inRX4 rfl rfl 2 rfl fl19 rfl rfl dX4_add_17 ?_
    refine g_iload_n hX dX4_add_20 1 rfl ?_
    refine g_eq (show (sw E a S : va_W) = sw E a (mkSC (hN S) (hS S) (hH S)) from rfl) rfl rfl ?_
    refine g_iast hX (fun zz => nI ((va_up (hS S) (hN S) s) zz)) (sw E a (mkSC (hN S) (va_up (hS S) (hN S) s) (hH S))) 1 0 (atSight_1 _ _ _ _ _) rfl (vp_in_nI (by omega) (by omega)) (ast_n (by omega)) dX4_add_21 (stSight_1 _ _ _ _ _ _) ?_
    refine g_aload_n hX dX4_add_22 0 rfl ?_
    refine g_get hX (v := .ref (a 2)) 0 inRX4 (atSight_0 _ _ _ _ _) rfl 1 rfl fl15 rfl rfl dX4_add_23 ?_
    refine g_aload_n hX dX4_add_26 0 rfl ?_
    refine g_get hX (v := .int (nI (hN S))) 0 inRX4 (atSight_0 _ _ _ _ _) rfl 2 rfl fl19 rfl rfl dX4_add_27 ?_
    refine g_iload_n hX dX4_add_30 2 rfl ?_
    refine g_zast hX (fun zz => bI ((va_up (hH S) (hN S) c) zz)) (sw E a (mkSC (hN S) (va_up (hS S) (hN S) s) (va_up (hH S) (hN S) c))) 2 3 (atSight_2 _ _ _ _ _) rfl (vp_in_nI (by omega) (by omega)) (ast_b (by omega)) dX4_add_31 (stSight_2 _ _ _ _ _ _) ?_
    refine g_aload_n hX dX4_add_32 0 rfl ?_
    refine g_dup hX dX4_add_33 rfl ?_
    refine g_get hX (v := .int (nI (hN S))) 0 inRX4 (atSight_0 _ _ _ _ _) rfl 2 rfl fl19 rfl rfl dX4_add_34 ?_
    refine g_iconst hX (nI 1) dX4_add_37 rfl ?_
    refine g_iadd hX (nI ((hN S) + 1)) dX4_add_38 (nI_add _ _) ?_
    refine g_put hX (sw E a (mkSC ((hN S) + 1) (va_up (hS S) (hN S) s) (va_up (hH S) (hN S) c))) 0 inRX4 tyX4_ok nmX4 (atSight_0 _ _ _ _ _) rfl 2 rfl fl19 rfl rfl rfl rfl rfl dX4_add_39 (stSight_0_2 _ _ _ _ _ _) ?_
    refine g_aload_n hX dX4_add_42 0 rfl ?_
    refine g_get hX (v := .int (nI ((hN S) + 1))) 0 inRX4 (atSight_0 _ _ _ _ _) rfl 2 rfl fl19 rfl rfl dX4_add_43 ?_
    exact g_eq rfl rfl (congrArg (fun z => [Value.int z]) (congrArg nI (by rfl))) (hret () _ _ trivial dX4_add_46)
  · replace c6 := mt (nI_ltI (by omega) (by omega)).mpr c6
    exact absurd h6 c6
set_option maxHeartbeats 4000000 in
set_option maxRecDepth 100000 in
theorem c_X4_add_full (l : Launch) (E : EV) (a : Nat → Nat) (S : SC) (s : Nat) (c : Bool) (h6 : hN S = 6) : KI l yX4_add wsX4_add (rmN 0) E (σ := Unit) [.ref (a 0), .int (nI s), .int (bI c)] (sw E a S) (fun _ => True) (fun _ => (-3)) (fun _ => sw E a S) 0 0 := by
  refine KI.of (cc := cX4_add) (maxL := 3) (ty := .int) (hnar := fun _ _ => rfl) rfl rfl rfl (fun x hX hin hret hnL => ?_)
  replace hX : CX x l cX4_add RX4 wsX4_add E (rmN 0) := hX
  show GG x 0 0 (sw E a S) 0 [(0, .ref (a 0)), (1, .int (nI s)), (2, .int (bI c))] []
  have inRX4 : ∀ w ∈ wsX40, w ∈ wsX4_add := by decide +kernel
  have fl19 : Cond.fieldLink RX4 19 "LieForce$Sight" "size" "I" ∈ wsX4_add := by decide +kernel
  refine g_aload_n hX dX4_add_0 0 rfl ?_
  refine g_get hX (v := .int (nI (hN S))) 0 inRX4 rfl rfl 2 rfl fl19 rfl rfl dX4_add_1 ?_
  refine g_bipush hX (nI 6) dX4_add_4 rfl ?_
  refine g_icmp_lt hX 12 dX4_add_6 (by decide) (fun c6 => ?_) (fun c6 => ?_)
  · replace c6 := (nI_ltI (by omega) (by omega)).mp c6
    exact absurd c6 (by omega)
  · replace c6 := mt (nI_ltI (by omega) (by omega)).mpr c6
    refine g_bipush hX ((-3)) dX4_add_9 rfl ?_
    exact g_eq rfl rfl rfl (hret () _ _ trivial dX4_add_11)
set_option maxHeartbeats 4000000 in
set_option maxRecDepth 100000 in
theorem c_X4_worldsAsSeen (l : Launch) (E : EV) (a : Nat → Nat) (S : SC) (b : Nat → Nat) (C : FC) (hC : FO C) (h6 : hN S ≤ 6) (hs9 : ∀ i, i < hN S → hS S i < 9) : KL l yX4_worldsAsSeen wsX4_worldsAsSeen (rmN 2) E (σ := Unit) [.ref (a 0), .ref (b 0)] ((sw E a S) ++ (fw E b C)) (fun _ => True) (fun _ => (lN (asW C S (hN S)))) (fun _ => (sw E a S) ++ (fw E b C)) 0 0 := by
  refine KL.of (cc := cX4_worldsAsSeen) (maxL := 7) rfl rfl rfl (fun x hX hin hret hnL => ?_)
  replace hX : CX x l cX4_worldsAsSeen RX4 wsX4_worldsAsSeen E (rmN 2) := hX
  show GG x 0 0 ((sw E a S) ++ (fw E b C)) 0 [(0, .ref (a 0)), (1, .ref (b 0))] []
  have inRX4 : ∀ w ∈ wsX40, w ∈ wsX4_worldsAsSeen := by decide +kernel
  have fl15 : Cond.fieldLink RX4 15 "LieForce$Sight" "has" "[Z" ∈ wsX4_worldsAsSeen := by decide +kernel
  have fl19 : Cond.fieldLink RX4 19 "LieForce$Sight" "size" "I" ∈ wsX4_worldsAsSeen := by decide +kernel
  have fl9 : Cond.fieldLink RX4 9 "LieForce$Sight" "seen" "[I" ∈ wsX4_worldsAsSeen := by decide +kernel
  obtain ⟨h9, h64, h512, hT, hI⟩ := id hC
  refine g_ldc2 hX (v := (-1)) dX4_worldsAsSeen_0 (by decide +kernel) ?_
  refine g_eq (st' := [.long (lN 18446744073709551615)]) rfl rfl (congrArg (fun z => Value.long z :: ([] : List Value)) (rfl : (-1 : Int64) = lN 18446744073709551615)) ?_
  refine g_lstore_n hX (j := 2) [(2, .long (lN 18446744073709551615)), (0, .ref (a 0)), (1, .ref (b 0))] dX4_worldsAsSeen_3 rfl (by rw [hnL]; rfl) rfl ?_
  refine g_iconst hX (nI 0) dX4_worldsAsSeen_4 rfl ?_
  refine g_istore hX (j := 4) [(4, .int (nI 0)), (2, .long (lN 18446744073709551615)), (0, .ref (a 0)), (1, .ref (b 0))] dX4_worldsAsSeen_5 (by rw [hnL]; rfl) rfl ?_
  have lp7 : ∀ (fuel : Nat) (i : Nat) (acc : Nat), hN S - i < fuel → (i ≤ hN S) → (acc = asW C S i) → GG x 0 0 ((sw E a S) ++ (fw E b C)) 7 [(0, .ref (a 0)), (1, .ref (b 0)), (2, .long (lN acc)), (4, .int (nI i))] [] := by
    intro fuel
    induction fuel with
    | zero => intro i acc hm; exact absurd hm (Nat.not_lt_zero _)
    | succ fuel ih7 =>
      intro i acc hm7 hi hacc
      refine g_iload hX dX4_worldsAsSeen_7 3 rfl ?_
      refine g_aload_n hX dX4_worldsAsSeen_9 0 rfl ?_
      refine g_get hX (v := .int (nI (hN S))) 0 inRX4 rfl rfl 2 rfl fl19 rfl rfl dX4_worldsAsSeen_10 ?_
      refine g_icmp_ge hX 66 dX4_worldsAsSeen_13 (by decide) (fun c13 => ?_) (fun c13 => ?_)
      · replace c13 := (nI_leI (by omega) (by omega)).mp c13
        refine g_lload_n hX dX4_worldsAsSeen_66 2 rfl ?_
        exact g_eq rfl rfl (congrArg (fun z => [Value.long z]) (congrArg lN (by rw [hacc, show i = hN S by omega]))) (hret () _ _ trivial dX4_worldsAsSeen_67)
      · replace c13 := mt (nI_leI (by omega) (by omega)).mpr c13
        refine g_iload hX dX4_worldsAsSeen_16 3 rfl ?_
        refine g_bipush hX (nI 6) dX4_worldsAsSeen_18 rfl ?_
        refine g_icmp_ge hX 66 dX4_worldsAsSeen_20 (by decide) (fun c20 => ?_) (fun c20 => ?_)
        · replace c20 := (nI_leI (by omega) (by omega)).mp c20
          exact absurd c20 (by omega)
        · replace c20 := mt (nI_leI (by omega) (by omega)).mpr c20
          refine g_aload_n hX dX4_worldsAsSeen_23 1 rfl ?_
          refine g_aload_n hX dX4_worldsAsSeen_24 0 rfl ?_
          have hsi := hs9 i (by omega)
          have hpl := plW_lt C (hS S i) hI
          refine g_get hX (v := .ref (a 1)) 0 inRX4 rfl rfl 0 rfl fl9 rfl rfl dX4_worldsAsSeen_25 ?_
          refine g_iload hX dX4_worldsAsSeen_28 3 rfl ?_
          refine g_iald hX (nI (hS S i)) 1 0 rfl rfl (vp_in_nI (by omega) (by omega)) (ald_n (g := fun zz => nI (hS S zz)) (i := i) (by omega)) dX4_worldsAsSeen_30 ?_
          have hc31 : CUT ((sw E a S) ++ (fw E b C)) (fw E b C) (sw E a S) [3, 4, 5, 6, 7, 8, 9] [0, 1, 2] := ⟨rfl, rfl, rfl, rfl, rfl⟩
          refine g_VL hX hc31 [.int (nI (hS S i))] [] (c_X0_policedWorlds l E b C (hS S i) (by first | assumption | omega) (by omega)) gX4_worldsAsSeen_X0_policedWorlds calX0_policedWorlds rfl rfl rfl rfl 3 rfl rfl rfl rfl dX4_worldsAsSeen_31 rfl ⟨Nat.zero_le _, Nat.zero_le _⟩ (fun _ => (sw E a S) ++ (fw E b C)) [0, 1, 2, 3, 4, 5, 6, 7, 8, 9] rfl (fun _ => rfl) (fun _ hu31 => ?_)
          refine g_lstore hX (j := 5) [(5, .long (lN (plW C (hS S i)))), (0, .ref (a 0)), (1, .ref (b 0)), (2, .long (lN acc)), (4, .int (nI i))] dX4_worldsAsSeen_34 (by rw [hnL]; rfl) rfl ?_
          refine g_lload_n hX dX4_worldsAsSeen_36 3 rfl ?_
          refine g_aload_n hX dX4_worldsAsSeen_37 1 rfl ?_
          refine g_get hX (v := .ref (a 2)) 0 inRX4 rfl rfl 1 rfl fl15 rfl rfl dX4_worldsAsSeen_38 ?_
          refine g_iload hX dX4_worldsAsSeen_41 4 rfl ?_
          refine g_zald hX (bI (hH S i)) 2 3 rfl rfl (vp_in_nI (by omega) (by omega)) (ald_n (g := fun zz => bI (hH S zz)) (i := i) (by omega)) dX4_worldsAsSeen_43 ?_
          refine g_if_eq hX 52 dX4_worldsAsSeen_44 (by decide) (fun c44 => ?_) (fun c44 => ?_)
          · replace c44 := bI_0.mp c44
            refine g_lload hX dX4_worldsAsSeen_52 0 rfl ?_
            refine g_ldc2 hX (v := (-1)) dX4_worldsAsSeen_54 (by decide +kernel) ?_
            refine g_lxor hX (lN (2 ^ 64 - (plW C (hS S i) + 1))) dX4_worldsAsSeen_57 (lxor_m1 (by exact hpl)) ?_
            refine g_land hX (lN (acc &&& (2 ^ 64 - (plW C (hS S i) + 1)))) dX4_worldsAsSeen_58 (fb_andL _ _) ?_
            refine g_lstore_n hX (j := 2) [(2, .long (lN (acc &&& (2 ^ 64 - (plW C (hS S i) + 1))))), (5, .long (lN (plW C (hS S i)))), (0, .ref (a 0)), (1, .ref (b 0)), (4, .int (nI i))] dX4_worldsAsSeen_59 rfl (by rw [hnL]; rfl) rfl ?_
            refine g_iinc hX (j := 4) (nI (i + 1)) [(4, .int (nI (i + 1))), (2, .long (lN (acc &&& (2 ^ 64 - (plW C (hS S i) + 1))))), (5, .long (lN (plW C (hS S i)))), (0, .ref (a 0)), (1, .ref (b 0))] dX4_worldsAsSeen_60 4 rfl (iinc_n _ _) (by rw [hnL]; rfl) rfl ?_
            refine g_goto hX 7 dX4_worldsAsSeen_63 (by decide) ?_
            exact g_lv _ [3, 4, 1, 0] rfl (ih7 (i + 1) (acc &&& (2 ^ 64 - (plW C (hS S i) + 1))) (by omega) (by omega) (by rw [hacc, asW]; simp [c13, c20, c44]))
          · replace c44 := mt bI_0.mpr c44
            replace c44 := bNf c44
            refine g_lload hX dX4_worldsAsSeen_47 0 rfl ?_
            refine g_goto hX 58 dX4_worldsAsSeen_49 (by decide) ?_
            refine g_land hX (lN (acc &&& (plW C (hS S i)))) dX4_worldsAsSeen_58 (fb_andL _ _) ?_
            refine g_lstore_n hX (j := 2) [(2, .long (lN (acc &&& (plW C (hS S i))))), (5, .long (lN (plW C (hS S i)))), (0, .ref (a 0)), (1, .ref (b 0)), (4, .int (nI i))] dX4_worldsAsSeen_59 rfl (by rw [hnL]; rfl) rfl ?_
            refine g_iinc hX (j := 4) (nI (i + 1)) [(4, .int (nI (i + 1))), (2, .long (lN (acc &&& (plW C (hS S i))))), (5, .long (lN (plW C (hS S i)))), (0, .ref (a 0)), (1, .ref (b 0))] dX4_worldsAsSeen_60 4 rfl (iinc_n _ _) (by rw [hnL]; rfl) rfl ?_
            refine g_goto hX 7 dX4_worldsAsSeen_63 (by decide) ?_
            exact g_lv _ [3, 4, 1, 0] rfl (ih7 (i + 1) (acc &&& (plW C (hS S i))) (by omega) (by omega) (by rw [hacc, asW]; simp [c13, c20, c44]))
  exact g_lv _ [2, 3, 1, 0] rfl (lp7 _ 0 18446744073709551615 (Nat.lt_succ_self _) (Nat.zero_le _) rfl)
