set_option maxHeartbeats 4000000 in
set_option maxRecDepth 100000 in
theorem c_J13_bitCount_95d88 (l : Launch) (E : EV) (v : Nat) (hv : v < 2 ^ 64) : KI l yJ13_bitCount_95d88 wsJ13_bitCount_95d88 (rmN 0) E (σ := Unit) [.long (lN v)] (([] : va_W)) (fun _ => True) (fun _ => (nI (cnt v.testBit 64))) (fun _ => ([] : va_W)) 0 0 := by
  refine KI.of (cc := cJ13_bitCount_95d88) (maxL := 2) (ty := .int) (hnar := fun _ _ => rfl) rfl rfl rfl (fun x hX hin hret hnL => ?_)
  replace hX : CX x l cJ13_bitCount_95d88 RJ13 wsJ13_bitCount_95d88 E (rmN 0) := hX
  show GG x 0 0 (([] : va_W)) 0 [(0, .long (lN v))] []
  obtain ⟨hb1, hb2, hb3, hb4, hb5, hb6⟩ := bt_e hv
  refine g_lload_n hX dJ13_bitCount_95d88_0 0 rfl ?_
  refine g_lload_n hX dJ13_bitCount_95d88_1 0 rfl ?_
  refine g_iconst hX (nI 1) dJ13_bitCount_95d88_2 rfl ?_
  refine g_lushr hX (lN (v / 2 ^ 1)) dJ13_bitCount_95d88_3 (wb_shr (by omega) (by omega)) ?_
  refine g_ldc2 hX (v := lN 6148914691236517205) dJ13_bitCount_95d88_4 (by decide +kernel) ?_
  refine g_land hX (lN ((v / 2 ^ 1) &&& 6148914691236517205)) dJ13_bitCount_95d88_7 (fb_andL _ _) ?_
  refine g_lsub hX (lN (b1 v)) dJ13_bitCount_95d88_8 (lN_subL (Nat.le_trans Nat.and_le_left (Nat.div_le_self _ _))) ?_
  refine g_lstore_n hX (j := 0) [(0, .long (lN (b1 v)))] dJ13_bitCount_95d88_9 rfl (by rw [hnL]; rfl) rfl ?_
  refine g_lload_n hX dJ13_bitCount_95d88_10 0 rfl ?_
  refine g_ldc2 hX (v := lN 3689348814741910323) dJ13_bitCount_95d88_11 (by decide +kernel) ?_
  refine g_land hX (lN ((b1 v) &&& 3689348814741910323)) dJ13_bitCount_95d88_14 (fb_andL _ _) ?_
  refine g_lload_n hX dJ13_bitCount_95d88_15 0 rfl ?_
  refine g_iconst hX (nI 2) dJ13_bitCount_95d88_16 rfl ?_
  refine g_lushr hX (lN ((b1 v) / 2 ^ 2)) dJ13_bitCount_95d88_17 (wb_shr (by omega) (by omega)) ?_
  refine g_ldc2 hX (v := lN 3689348814741910323) dJ13_bitCount_95d88_18 (by decide +kernel) ?_
  refine g_land hX (lN (((b1 v) / 2 ^ 2) &&& 3689348814741910323)) dJ13_bitCount_95d88_21 (fb_andL _ _) ?_
  refine g_ladd hX (lN (b2 (b1 v))) dJ13_bitCount_95d88_22 (lN_add _ _) ?_
  refine g_lstore_n hX (j := 0) [(0, .long (lN (b2 (b1 v))))] dJ13_bitCount_95d88_23 rfl (by rw [hnL]; rfl) rfl ?_
  refine g_lload_n hX dJ13_bitCount_95d88_24 0 rfl ?_
  refine g_lload_n hX dJ13_bitCount_95d88_25 0 rfl ?_
  refine g_iconst hX (nI 4) dJ13_bitCount_95d88_26 rfl ?_
  refine g_lushr hX (lN ((b2 (b1 v)) / 2 ^ 4)) dJ13_bitCount_95d88_27 (wb_shr (by omega) (by omega)) ?_
  refine g_ladd hX (lN ((b2 (b1 v)) + ((b2 (b1 v)) / 2 ^ 4))) dJ13_bitCount_95d88_28 (lN_add _ _) ?_
  refine g_ldc2 hX (v := lN 1085102592571150095) dJ13_bitCount_95d88_29 (by decide +kernel) ?_
  refine g_land hX (lN (b3 (b2 (b1 v)))) dJ13_bitCount_95d88_32 (fb_andL _ _) ?_
  refine g_lstore_n hX (j := 0) [(0, .long (lN (b3 (b2 (b1 v)))))] dJ13_bitCount_95d88_33 rfl (by rw [hnL]; rfl) rfl ?_
  refine g_lload_n hX dJ13_bitCount_95d88_34 0 rfl ?_
  refine g_lload_n hX dJ13_bitCount_95d88_35 0 rfl ?_
  refine g_bipush hX (nI 8) dJ13_bitCount_95d88_36 rfl ?_
  refine g_lushr hX (lN ((b3 (b2 (b1 v))) / 2 ^ 8)) dJ13_bitCount_95d88_38 (wb_shr (by omega) (by omega)) ?_
  refine g_ladd hX (lN (b4 (b3 (b2 (b1 v))))) dJ13_bitCount_95d88_39 (lN_add _ _) ?_
  refine g_lstore_n hX (j := 0) [(0, .long (lN (b4 (b3 (b2 (b1 v))))))] dJ13_bitCount_95d88_40 rfl (by rw [hnL]; rfl) rfl ?_
  refine g_lload_n hX dJ13_bitCount_95d88_41 0 rfl ?_
  refine g_lload_n hX dJ13_bitCount_95d88_42 0 rfl ?_
  refine g_bipush hX (nI 16) dJ13_bitCount_95d88_43 rfl ?_
  refine g_lushr hX (lN ((b4 (b3 (b2 (b1 v)))) / 2 ^ 16)) dJ13_bitCount_95d88_45 (wb_shr (by omega) (by omega)) ?_
  refine g_ladd hX (lN (b5 (b4 (b3 (b2 (b1 v)))))) dJ13_bitCount_95d88_46 (lN_add _ _) ?_
  refine g_lstore_n hX (j := 0) [(0, .long (lN (b5 (b4 (b3 (b2 (b1 v)))))))] dJ13_bitCount_95d88_47 rfl (by rw [hnL]; rfl) rfl ?_
  refine g_lload_n hX dJ13_bitCount_95d88_48 0 rfl ?_
  refine g_lload_n hX dJ13_bitCount_95d88_49 0 rfl ?_
  refine g_bipush hX (nI 32) dJ13_bitCount_95d88_50 rfl ?_
  refine g_lushr hX (lN ((b5 (b4 (b3 (b2 (b1 v))))) / 2 ^ 32)) dJ13_bitCount_95d88_52 (wb_shr (by omega) (by omega)) ?_
  refine g_ladd hX (lN (b6 (b5 (b4 (b3 (b2 (b1 v))))))) dJ13_bitCount_95d88_53 (lN_add _ _) ?_
  refine g_lstore_n hX (j := 0) [(0, .long (lN (b6 (b5 (b4 (b3 (b2 (b1 v))))))))] dJ13_bitCount_95d88_54 rfl (by rw [hnL]; rfl) rfl ?_
  refine g_lload_n hX dJ13_bitCount_95d88_55 0 rfl ?_
  refine g_l2i hX (nI (b6 (b5 (b4 (b3 (b2 (b1 v))))))) dJ13_bitCount_95d88_56 (lN_i _) ?_
  refine g_bipush hX (nI 127) dJ13_bitCount_95d88_57 rfl ?_
  refine g_iand hX (nI ((b6 (b5 (b4 (b3 (b2 (b1 v)))))) &&& 127)) dJ13_bitCount_95d88_59 (fa_and _ _) ?_
  exact g_eq rfl rfl (congrArg (fun z => [Value.int z]) (congrArg nI (by exact hb6))) (hret () _ _ trivial dJ13_bitCount_95d88_60)
set_option maxHeartbeats 4000000 in
set_option maxRecDepth 100000 in
theorem c_X5_worlds_n (l : Launch) (E : EV) (ae : Nat → Nat) (ab : Nat → Nat) (ar : Nat → Nat) (an : Nat → Nat) (af : Nat → Nat) (ah : Nat → Nat) (ak : Nat → Nat) (ax : Nat → Nat) (ag : Nat → Nat) (z : Nat) (x0 : Int32) (hx : win x0 (nI 0) (nI 1) = false) : KI l yX5_worlds wsX5_worlds (rmN 6) E (σ := Unit) [.ref (ae 0), .int x0] (lfo E ae ab ar an af ah ak ax ag z) (fun _ => True) (fun _ => (-1)) (fun _ => lfo E ae ab ar an af ah ak ax ag z) 0 0 := by
  refine KI.of (cc := cX5_worlds) (maxL := 4) (ty := .int) (hnar := fun _ _ => rfl) rfl rfl rfl (fun x hX hin hret hnL => ?_)
  replace hX : CX x l cX5_worlds RX5 wsX5_worlds E (rmN 6) := hX
  show GG x 0 0 (lfo E ae ab ar an af ah ak ax ag z) 0 [(0, .ref (ae 0)), (1, .int x0)] []
  refine g_iload_n hX dX5_worlds_0 1 rfl ?_
  refine g_iconst hX (nI 0) dX5_worlds_1 rfl ?_
  refine g_iconst hX (nI 1) dX5_worlds_2 rfl ?_
  have hc3 : CUT (lfo E ae ab ar an af ah ak ax ag z) (([] : va_W)) (lfo E ae ab ar an af ah ak ax ag z) [] [0] := ⟨rfl, rfl, rfl, rfl, rfl⟩
  refine g_TI hX hc3 [.int x0, .int (nI 0), .int (nI 1)] [] (c_X5_isWithin l E x0 (nI 0) (nI 1)) gX5_worlds_X5_isWithin calX5_isWithin rfl rfl rfl rfl dX5_worlds_3 rfl ⟨Nat.zero_le _, Nat.zero_le _⟩ (fun _ => lfo E ae ab ar an af ah ak ax ag z) [0] rfl (fun _ => rfl) (fun _ hu3 => ?_)
  refine g_if_ne hX 11 dX5_worlds_6 (by decide) (fun c6 => ?_) (fun c6 => ?_)
  · replace c6 := mt bI_0.mpr c6
    replace c6 := bNf c6
    rw [hx] at c6; cases c6
  · replace c6 := bI_0.mp c6
    refine g_iconst hX ((-1)) dX5_worlds_9 rfl ?_
    exact g_eq rfl rfl rfl (hret () _ _ trivial dX5_worlds_10)
set_option maxHeartbeats 4000000 in
set_option maxRecDepth 100000 in
theorem c_X5_worlds_y (l : Launch) (E : EV) (ae : Nat → Nat) (ab : Nat → Nat) (ar : Nat → Nat) (an : Nat → Nat) (af : Nat → Nat) (ah : Nat → Nat) (ak : Nat → Nat) (ax : Nat → Nat) (ag : Nat → Nat) (z : Nat) (C : FC) (S : SC) (q : Nat) (hC : FO C) (h6 : hN S ≤ 6) (hs9 : ∀ i, i < hN S → hS S i < 9) (hq : q ≤ 1) : KI l yX5_worlds wsX5_worlds (rmN 6) E (σ := Unit) [.ref (ae 0), .int (nI q)] ((lfo E ae ab ar an af ah ak ax ag z ++ (fw E an C ++ (sw E ax S)))) (fun _ => True) (fun _ => (if q = 0 then nI (cnt (asW C S (hN S)).testBit 64) else oI (fst (asW C S (hN S)).testBit 0 64))) (fun _ => (lfo E ae ab ar an af ah ak ax ag z ++ (fw E an C ++ (sw E ax S)))) 0 0 := by
  refine KI.of (cc := cX5_worlds) (maxL := 4) (ty := .int) (hnar := fun _ _ => rfl) rfl rfl rfl (fun x hX hin hret hnL => ?_)
  replace hX : CX x l cX5_worlds RX5 wsX5_worlds E (rmN 6) := hX
  show GG x 0 0 ((lfo E ae ab ar an af ah ak ax ag z ++ (fw E an C ++ (sw E ax S)))) 0 [(0, .ref (ae 0)), (1, .int (nI q))] []
  have inRX5 : ∀ w ∈ wsX50, w ∈ wsX5_worlds := by decide +kernel
  have fl24 : Cond.fieldLink RX5 24 "LieForce" "now" "LLieForce$Force;" ∈ wsX5_worlds := by decide +kernel
  have fl49 : Cond.fieldLink RX5 49 "LieForce" "sight" "LLieForce$Sight;" ∈ wsX5_worlds := by decide +kernel
  have hw64 := asW_lt C S (hN S)
  refine g_iload_n hX dX5_worlds_0 1 rfl ?_
  refine g_iconst hX (nI 0) dX5_worlds_1 rfl ?_
  refine g_iconst hX (nI 1) dX5_worlds_2 rfl ?_
  have hc3 : CUT ((lfo E ae ab ar an af ah ak ax ag z ++ (fw E an C ++ (sw E ax S)))) (([] : va_W)) ((lfo E ae ab ar an af ah ak ax ag z ++ (fw E an C ++ (sw E ax S)))) [] [0, 1, 2, 3, 4, 5, 6, 7, 8, 9, 10] := ⟨rfl, rfl, rfl, rfl, rfl⟩
  refine g_TI hX hc3 [.int (nI q), .int (nI 0), .int (nI 1)] [] (c_X5_isWithin_y l E q 0 1 (by omega) (by omega) (by omega)) gX5_worlds_X5_isWithin calX5_isWithin rfl rfl rfl rfl dX5_worlds_3 rfl ⟨Nat.zero_le _, Nat.zero_le _⟩ (fun _ => (lfo E ae ab ar an af ah ak ax ag z ++ (fw E an C ++ (sw E ax S)))) [0, 1, 2, 3, 4, 5, 6, 7, 8, 9, 10] rfl (fun _ => rfl) (fun _ hu3 => ?_)
  refine g_if_ne hX 11 dX5_worlds_6 (by decide) (fun c6 => ?_) (fun c6 => ?_)
  · replace c6 := mt bI_0.mpr c6
    replace c6 := bNf c6
    refine g_aload_n hX dX5_worlds_11 0 rfl ?_
    refine g_get hX (v := .ref (ax 0)) 0 inRX5 rfl rfl 7 rfl fl49 rfl rfl dX5_worlds_12 ?_
    refine g_aload_n hX dX5_worlds_15 0 rfl ?_
    refine g_get hX (v := .ref (an 0)) 0 inRX5 rfl rfl 3 rfl fl24 rfl rfl dX5_worlds_16 ?_
    have hc19 : CUT ((lfo E ae ab ar an af ah ak ax ag z ++ (fw E an C ++ (sw E ax S)))) ((sw E ax S) ++ (fw E an C)) (lfo E ae ab ar an af ah ak ax ag z) [8, 9, 10, 1, 2, 3, 4, 5, 6, 7] [0] := ⟨rfl, rfl, rfl, rfl, rfl⟩
    refine g_VL hX hc19 [.ref (an 0)] [] (c_X4_worldsAsSeen l E ax S an C (by first | assumption | omega) (by omega) (by assumption)) gX5_worlds_X4_worldsAsSeen calX4_worldsAsSeen rfl rfl rfl rfl 8 rfl rfl rfl rfl dX5_worlds_19 rfl ⟨Nat.zero_le _, Nat.zero_le _⟩ (fun _ => (lfo E ae ab ar an af ah ak ax ag z ++ (fw E an C ++ (sw E ax S)))) [0, 4, 5, 6, 7, 8, 9, 10, 1, 2, 3] rfl (fun _ => rfl) (fun _ hu19 => ?_)
    refine g_lstore_n hX (j := 2) [(2, .long (lN (asW C S ((hN S))))), (0, .ref (ae 0)), (1, .int (nI q))] dX5_worlds_22 rfl (by rw [hnL]; rfl) rfl ?_
    refine g_iload_n hX dX5_worlds_23 2 rfl ?_
    refine g_if_ne hX 34 dX5_worlds_24 (by decide) (fun c24 => ?_) (fun c24 => ?_)
    · replace c24 := mt (nz_eq (by omega)).mpr c24
      refine g_lload_n hX dX5_worlds_34 0 rfl ?_
      have hc35 : CUT ((lfo E ae ab ar an af ah ak ax ag z ++ (fw E an C ++ (sw E ax S)))) (([] : va_W)) ((lfo E ae ab ar an af ah ak ax ag z ++ (fw E an C ++ (sw E ax S)))) [] [0, 1, 2, 3, 4, 5, 6, 7, 8, 9, 10] := ⟨rfl, rfl, rfl, rfl, rfl⟩
      refine g_TI hX hc35 [.long (lN (asW C S ((hN S))))] [] (c_X5_lowestWorld l E (asW C S ((hN S))) (by first | assumption | omega)) gX5_worlds_X5_lowestWorld calX5_lowestWorld rfl rfl rfl rfl dX5_worlds_35 rfl ⟨Nat.zero_le _, Nat.zero_le _⟩ (fun _ => (lfo E ae ab ar an af ah ak ax ag z ++ (fw E an C ++ (sw E ax S)))) [0, 1, 2, 3, 4, 5, 6, 7, 8, 9, 10] rfl (fun _ => rfl) (fun _ hu35 => ?_)
      exact g_eq rfl rfl (congrArg (fun z => [Value.int z]) (by show _ = (if q = 0 then nI (cnt (asW C S (hN S)).testBit 64) else oI (fst (asW C S (hN S)).testBit 0 64)); first | rw [if_pos c24] | rw [if_neg c24])) (hret () _ _ trivial dX5_worlds_38)
    · replace c24 := (nz_eq (by omega)).mp c24
      refine g_lload_n hX dX5_worlds_27 0 rfl ?_
      have hc28 : CUT ((lfo E ae ab ar an af ah ak ax ag z ++ (fw E an C ++ (sw E ax S)))) (([] : va_W)) ((lfo E ae ab ar an af ah ak ax ag z ++ (fw E an C ++ (sw E ax S)))) [] [0, 1, 2, 3, 4, 5, 6, 7, 8, 9, 10] := ⟨rfl, rfl, rfl, rfl, rfl⟩
      refine g_TI hX hc28 [.long (lN (asW C S ((hN S))))] [] (c_J13_bitCount_95d88 l E (asW C S ((hN S))) (by omega)) gX5_worlds_J13_bitCount_95d88 calJ13_bitCount_95d88 rfl rfl rfl rfl dX5_worlds_28 rfl ⟨Nat.zero_le _, Nat.zero_le _⟩ (fun _ => (lfo E ae ab ar an af ah ak ax ag z ++ (fw E an C ++ (sw E ax S)))) [0, 1, 2, 3, 4, 5, 6, 7, 8, 9, 10] rfl (fun _ => rfl) (fun _ hu28 => ?_)
      refine g_goto hX 38 dX5_worlds_31 (by decide) ?_
      exact g_eq rfl rfl (congrArg (fun z => [Value.int z]) (by show _ = (if q = 0 then nI (cnt (asW C S (hN S)).testBit 64) else oI (fst (asW C S (hN S)).testBit 0 64)); first | rw [if_pos c24] | rw [if_neg c24])) (hret () _ _ trivial dX5_worlds_38)
  · replace c6 := bI_0.mp c6
    exact absurd c6 (by simp)
