set_option maxHeartbeats 4000000 in
set_option maxRecDepth 100000 in
theorem c_X5_worldsOfLiteral (l : Launch) (E : EV) (q : Nat) (hq : q < 12) : KL l yX5_worldsOfLiteral wsX5_worldsOfLiteral (rmN 0) E (σ := Unit) [.int (nI q)] (([] : va_W)) (fun _ => True) (fun _ => (lN (wol q))) (fun _ => ([] : va_W)) 0 0 := by
  refine KL.of (cc := cX5_worldsOfLiteral) (maxL := 1) rfl rfl rfl (fun x hX hin hret hnL => ?_)
  replace hX : CX x l cX5_worldsOfLiteral RX5 wsX5_worldsOfLiteral E (rmN 0) := hX
  show GG x 0 0 (([] : va_W)) 0 [(0, .int (nI q))] []
  refine g_iload_n hX dX5_worldsOfLiteral_0 0 rfl ?_
  refine g_if_lt hX 10 dX5_worldsOfLiteral_1 (by decide) (fun c1 => ?_) (fun c1 => ?_)
  · replace c1 := (nz_lt (by omega)).mp c1
    exact c1.elim
  · replace c1 := mt (nz_lt (by omega)).mpr c1
    refine g_iload_n hX dX5_worldsOfLiteral_4 0 rfl ?_
    refine g_bipush hX (nI 12) dX5_worldsOfLiteral_5 rfl ?_
    refine g_icmp_lt hX 12 dX5_worldsOfLiteral_7 (by decide) (fun c7 => ?_) (fun c7 => ?_)
    · replace c7 := (nI_ltI (by omega) (by omega)).mp c7
      refine g_iload_n hX dX5_worldsOfLiteral_12 0 rfl ?_
      refine g_bipush hX (nI 6) dX5_worldsOfLiteral_13 rfl ?_
      refine g_icmp_ge hX 26 dX5_worldsOfLiteral_15 (by decide) (fun c15 => ?_) (fun c15 => ?_)
      · replace c15 := (nI_leI (by omega) (by omega)).mp c15
        refine g_wof hX (by decide +kernel) dX5_worldsOfLiteral_26 ?_
        refine g_iload_n hX dX5_worldsOfLiteral_29 0 rfl ?_
        refine g_bipush hX (nI 6) dX5_worldsOfLiteral_30 rfl ?_
        refine g_isub hX (nI (q - 6)) dX5_worldsOfLiteral_32 (pk_sub (by omega)) ?_
        refine g_wofl hX (wofL.getD (q - 6) 0) (vp_in_nI (by omega) (by omega)) (by rw [nI_clamp (by omega)]) dX5_worldsOfLiteral_33 ?_
        refine g_ldc2 hX (v := (-1)) dX5_worldsOfLiteral_34 (by decide +kernel) ?_
        refine g_lxor hX ((wofL.getD (q - 6) 0) ^^^ (-1)) dX5_worldsOfLiteral_37 rfl ?_
        exact g_eq rfl rfl (congrArg (fun z => [Value.long z]) (by first | exact wol_lo q (by omega) | exact wol_hi q hq (by omega))) (hret () _ _ trivial dX5_worldsOfLiteral_38)
      · replace c15 := mt (nI_leI (by omega) (by omega)).mpr c15
        refine g_wof hX (by decide +kernel) dX5_worldsOfLiteral_18 ?_
        refine g_iload_n hX dX5_worldsOfLiteral_21 0 rfl ?_
        refine g_wofl hX (wofL.getD q 0) (vp_in_nI (by omega) (by omega)) (by rw [nI_clamp (by omega)]) dX5_worldsOfLiteral_22 ?_
        refine g_goto hX 38 dX5_worldsOfLiteral_23 (by decide) ?_
        exact g_eq rfl rfl (congrArg (fun z => [Value.long z]) (by first | exact wol_lo q (by omega) | exact wol_hi q hq (by omega))) (hret () _ _ trivial dX5_worldsOfLiteral_38)
    · replace c7 := mt (nI_ltI (by omega) (by omega)).mpr c7
      exact absurd hq c7
set_option maxHeartbeats 4000000 in
set_option maxRecDepth 100000 in
theorem c_X5_worldsOfSaying (l : Launch) (E : EV) (kk : Nat) (q : Nat) (q2 : Nat) (hk : kk < 5) (hq : q < 12) (hq2 : q2 < 12) : KL l yX5_worldsOfSaying wsX5_worldsOfSaying (rmN 1) E (σ := Unit) [.int (nI kk), .int (nI q), .int (nI q2)] (([] : va_W)) (fun _ => True) (fun _ => (lN (wos kk q q2))) (fun _ => ([] : va_W)) 0 0 := by
  refine KL.of (cc := cX5_worldsOfSaying) (maxL := 7) rfl rfl rfl (fun x hX hin hret hnL => ?_)
  replace hX : CX x l cX5_worldsOfSaying RX5 wsX5_worldsOfSaying E (rmN 1) := hX
  show GG x 0 0 (([] : va_W)) 0 [(0, .int (nI kk)), (1, .int (nI q)), (2, .int (nI q2))] []
  refine g_iload_n hX dX5_worldsOfSaying_0 1 rfl ?_
  have hc1 : CUT (([] : va_W)) (([] : va_W)) (([] : va_W)) [] [] := ⟨rfl, rfl, rfl, rfl, rfl⟩
  refine g_TL hX hc1 [.int (nI q)] [] (c_X5_worldsOfLiteral l E q (by omega)) gX5_worldsOfSaying_X5_worldsOfLiteral calX5_worldsOfLiteral rfl rfl rfl rfl dX5_worldsOfSaying_1 rfl ⟨Nat.zero_le _, Nat.zero_le _⟩ (fun _ => ([] : va_W)) [] rfl (fun _ => rfl) (fun _ hu1 => ?_)
  refine g_lstore_n hX (j := 3) [(3, .long (lN (wol q))), (0, .int (nI kk)), (1, .int (nI q)), (2, .int (nI q2))] dX5_worldsOfSaying_4 rfl (by rw [hnL]; rfl) rfl ?_
  refine g_iload_n hX dX5_worldsOfSaying_5 3 rfl ?_
  have hc6 : CUT (([] : va_W)) (([] : va_W)) (([] : va_W)) [] [] := ⟨rfl, rfl, rfl, rfl, rfl⟩
  refine g_TL hX hc6 [.int (nI q2)] [] (c_X5_worldsOfLiteral l E q2 hq2) gX5_worldsOfSaying_X5_worldsOfLiteral calX5_worldsOfLiteral rfl rfl rfl rfl dX5_worldsOfSaying_6 rfl ⟨Nat.zero_le _, Nat.zero_le _⟩ (fun _ => ([] : va_W)) [] rfl (fun _ => rfl) (fun _ hu6 => ?_)
  refine g_lstore hX (j := 5) [(5, .long (lN (wol q2))), (3, .long (lN (wol q))), (0, .int (nI kk)), (1, .int (nI q)), (2, .int (nI q2))] dX5_worldsOfSaying_9 (by rw [hnL]; rfl) rfl ?_
  refine g_iload_n hX dX5_worldsOfSaying_11 2 rfl ?_
  by_cases sw12_1 : kk = 1
  · refine g_tin hX 44 dX5_worldsOfSaying_12 (by rw [sw12_1]; decide) (by rw [sw12_1]; decide) (by rw [sw12_1]; rfl) (by decide) ?_
    refine g_lload_n hX dX5_worldsOfSaying_44 1 rfl ?_
    refine g_lload hX dX5_worldsOfSaying_45 0 rfl ?_
    refine g_land hX (lN ((wol q) &&& (wol q2))) dX5_worldsOfSaying_47 (fb_andL _ _) ?_
    exact g_eq rfl rfl (congrArg (fun z => [Value.long z]) (congrArg lN (by simp [wos, sw12_1]))) (hret () _ _ trivial dX5_worldsOfSaying_48)
  by_cases sw12_2 : kk = 2
  · refine g_tin hX 49 dX5_worldsOfSaying_12 (by rw [sw12_2]; decide) (by rw [sw12_2]; decide) (by rw [sw12_2]; rfl) (by decide) ?_
    refine g_lload_n hX dX5_worldsOfSaying_49 1 rfl ?_
    refine g_lload hX dX5_worldsOfSaying_50 0 rfl ?_
    refine g_lor hX (lN ((wol q) ||| (wol q2))) dX5_worldsOfSaying_52 (fb_orL _ _) ?_
    exact g_eq rfl rfl (congrArg (fun z => [Value.long z]) (congrArg lN (by simp [wos, sw12_2]))) (hret () _ _ trivial dX5_worldsOfSaying_53)
  by_cases sw12_3 : kk = 3
  · refine g_tin hX 54 dX5_worldsOfSaying_12 (by rw [sw12_3]; decide) (by rw [sw12_3]; decide) (by rw [sw12_3]; rfl) (by decide) ?_
    refine g_lload_n hX dX5_worldsOfSaying_54 1 rfl ?_
    refine g_ldc2 hX (v := (-1)) dX5_worldsOfSaying_55 (by decide +kernel) ?_
    refine g_lxor hX (lN (2 ^ 64 - (wol q + 1))) dX5_worldsOfSaying_58 (lxor_m1 (by exact wol_lt12 q hq)) ?_
    refine g_lload hX dX5_worldsOfSaying_59 0 rfl ?_
    refine g_lor hX (lN ((2 ^ 64 - (wol q + 1)) ||| (wol q2))) dX5_worldsOfSaying_61 (fb_orL _ _) ?_
    exact g_eq rfl rfl (congrArg (fun z => [Value.long z]) (congrArg lN (by simp [wos, sw12_3]))) (hret () _ _ trivial dX5_worldsOfSaying_62)
  by_cases sw12_4 : kk = 4
  · refine g_tin hX 63 dX5_worldsOfSaying_12 (by rw [sw12_4]; decide) (by rw [sw12_4]; decide) (by rw [sw12_4]; rfl) (by decide) ?_
    refine g_lload_n hX dX5_worldsOfSaying_63 1 rfl ?_
    refine g_lload hX dX5_worldsOfSaying_64 0 rfl ?_
    refine g_lxor hX (lN ((wol q) ^^^ (wol q2))) dX5_worldsOfSaying_66 (fb_xorL _ _) ?_
    exact g_eq rfl rfl (congrArg (fun z => [Value.long z]) (congrArg lN (by simp [wos, sw12_4]))) (hret () _ _ trivial dX5_worldsOfSaying_67)
  refine g_tout hX 68 dX5_worldsOfSaying_12 (by rw [nI_toInt (by omega)]; omega) (by decide) ?_
  refine g_lload_n hX dX5_worldsOfSaying_68 1 rfl ?_
  exact g_eq rfl rfl (congrArg (fun z => [Value.long z]) (congrArg lN (by simp [wos, sw12_1, sw12_2, sw12_3, sw12_4]))) (hret () _ _ trivial dX5_worldsOfSaying_69)
set_option maxHeartbeats 4000000 in
set_option maxRecDepth 100000 in
theorem c_X5_lowestWorld (l : Launch) (E : EV) (v : Nat) (hv : v < 2 ^ 64) : KI l yX5_lowestWorld wsX5_lowestWorld (rmN 1) E (σ := Unit) [.long (lN v)] (([] : va_W)) (fun _ => True) (fun _ => (oI (fst v.testBit 0 64))) (fun _ => ([] : va_W)) 0 0 := by
  refine KI.of (cc := cX5_lowestWorld) (maxL := 3) (ty := .int) (hnar := fun _ _ => rfl) rfl rfl rfl (fun x hX hin hret hnL => ?_)
  replace hX : CX x l cX5_lowestWorld RX5 wsX5_lowestWorld E (rmN 1) := hX
  show GG x 0 0 (([] : va_W)) 0 [(0, .long (lN v))] []
  refine g_iconst hX (nI 0) dX5_lowestWorld_0 rfl ?_
  refine g_istore_n hX (j := 2) [(2, .int (nI 0)), (0, .long (lN v))] dX5_lowestWorld_1 rfl (by rw [hnL]; rfl) rfl ?_
  have lp2 : ∀ (fuel : Nat) (i : Nat), 64 - i < fuel → (i ≤ 64) → (fst v.testBit 0 64 = fst v.testBit i (64 - i)) → GG x 0 0 (([] : va_W)) 2 [(0, .long (lN v)), (2, .int (nI i))] [] := by
    intro fuel
    induction fuel with
    | zero => intro i hm; exact absurd hm (Nat.not_lt_zero _)
    | succ fuel ih2 =>
      intro i hm2 hi he
      refine g_iload_n hX dX5_lowestWorld_2 1 rfl ?_
      refine g_bipush hX (nI 64) dX5_lowestWorld_3 rfl ?_
      refine g_icmp_ge hX 24 dX5_lowestWorld_5 (by decide) (fun c5 => ?_) (fun c5 => ?_)
      · replace c5 := (nI_leI (by omega) (by omega)).mp c5
        refine g_bipush hX ((-4)) dX5_lowestWorld_24 rfl ?_
        exact g_eq rfl rfl (congrArg (fun z => [Value.int z]) (by rw [he, fst_done (by omega)]; rfl)) (hret () _ _ trivial dX5_lowestWorld_26)
      · replace c5 := mt (nI_leI (by omega) (by omega)).mpr c5
        refine g_lload_n hX dX5_lowestWorld_8 0 rfl ?_
        refine g_iload_n hX dX5_lowestWorld_9 1 rfl ?_
        have hc10 : CUT (([] : va_W)) (([] : va_W)) (([] : va_W)) [] [] := ⟨rfl, rfl, rfl, rfl, rfl⟩
        refine g_TI hX hc10 [.long (lN v), .int (nI i)] [] (c_X5_isAmong l E v i (by first | assumption | omega) (by omega)) gX5_lowestWorld_X5_isAmong calX5_isAmong rfl rfl rfl rfl dX5_lowestWorld_10 rfl ⟨Nat.zero_le _, Nat.zero_le _⟩ (fun _ => ([] : va_W)) [] rfl (fun _ => rfl) (fun _ hu10 => ?_)
        refine g_if_eq hX 18 dX5_lowestWorld_13 (by decide) (fun c13 => ?_) (fun c13 => ?_)
        · replace c13 := bI_0.mp c13
          refine g_iinc hX (j := 2) (nI (i + 1)) [(2, .int (nI (i + 1))), (0, .long (lN v))] dX5_lowestWorld_18 1 rfl (iinc_n _ _) (by rw [hnL]; rfl) rfl ?_
          refine g_goto hX 2 dX5_lowestWorld_21 (by decide) ?_
          exact g_lv _ [1, 0] rfl (ih2 (i + 1) (by omega) (by omega) (he.trans (fst_step (by omega) (by simp [c5, c13]))))
        · replace c13 := mt bI_0.mpr c13
          replace c13 := bNf c13
          refine g_iload_n hX dX5_lowestWorld_16 1 rfl ?_
          exact g_eq rfl rfl (congrArg (fun z => [Value.int z]) (by rw [he, fst_hit (by omega) (by simp [c5, c13])]; rfl)) (hret () _ _ trivial dX5_lowestWorld_17)
  exact g_lv _ [1, 0] rfl (lp2 _ 0 (Nat.lt_succ_self _) (Nat.zero_le _) rfl)
set_option maxHeartbeats 4000000 in
set_option maxRecDepth 100000 in
theorem c_X5_power (l : Launch) (E : EV) (v : Nat) (k : Nat) (hk : k < 2 ^ 31) : KI l yX5_power wsX5_power (rmN 0) E (σ := Unit) [.int (nI v), .int (nI k)] (([] : va_W)) (fun _ => True) (fun _ => (nI (v ^ k))) (fun _ => ([] : va_W)) 0 0 := by
  refine KI.of (cc := cX5_power) (maxL := 4) (ty := .int) (hnar := fun _ _ => rfl) rfl rfl rfl (fun x hX hin hret hnL => ?_)
  replace hX : CX x l cX5_power RX5 wsX5_power E (rmN 0) := hX
  show GG x 0 0 (([] : va_W)) 0 [(0, .int (nI v)), (1, .int (nI k))] []
  refine g_iconst hX (nI 1) dX5_power_0 rfl ?_
  refine g_istore_n hX (j := 2) [(2, .int (nI 1)), (0, .int (nI v)), (1, .int (nI k))] dX5_power_1 rfl (by rw [hnL]; rfl) rfl ?_
  refine g_iconst hX (nI 0) dX5_power_2 rfl ?_
  refine g_istore_n hX (j := 3) [(3, .int (nI 0)), (2, .int (nI 1)), (0, .int (nI v)), (1, .int (nI k))] dX5_power_3 rfl (by rw [hnL]; rfl) rfl ?_
  have lp4 : ∀ (fuel : Nat) (i : Nat) (acc : Nat), k - i < fuel → (i ≤ k) → (acc = v ^ i) → GG x 0 0 (([] : va_W)) 4 [(0, .int (nI v)), (1, .int (nI k)), (2, .int (nI acc)), (3, .int (nI i))] [] := by
    intro fuel
    induction fuel with
    | zero => intro i acc hm; exact absurd hm (Nat.not_lt_zero _)
    | succ fuel ih4 =>
      intro i acc hm4 hi hacc
      refine g_iload_n hX dX5_power_4 3 rfl ?_
      refine g_iload_n hX dX5_power_5 1 rfl ?_
      refine g_icmp_ge hX 19 dX5_power_6 (by decide) (fun c6 => ?_) (fun c6 => ?_)
      · replace c6 := (nI_leI (by omega) (by omega)).mp c6
        refine g_iload_n hX dX5_power_19 2 rfl ?_
        exact g_eq rfl rfl (congrArg (fun z => [Value.int z]) (congrArg nI (by rw [hacc, show i = k by omega]))) (hret () _ _ trivial dX5_power_20)
      · replace c6 := mt (nI_leI (by omega) (by omega)).mpr c6
        refine g_iload_n hX dX5_power_9 2 rfl ?_
        refine g_iload_n hX dX5_power_10 0 rfl ?_
        refine g_imul hX (nI (acc * v)) dX5_power_11 (pk_mul _ _) ?_
        refine g_istore_n hX (j := 2) [(2, .int (nI (acc * v))), (0, .int (nI v)), (1, .int (nI k)), (3, .int (nI i))] dX5_power_12 rfl (by rw [hnL]; rfl) rfl ?_
        refine g_iinc hX (j := 3) (nI (i + 1)) [(3, .int (nI (i + 1))), (2, .int (nI (acc * v))), (0, .int (nI v)), (1, .int (nI k))] dX5_power_13 3 rfl (iinc_n _ _) (by rw [hnL]; rfl) rfl ?_
        refine g_goto hX 4 dX5_power_16 (by decide) ?_
        exact g_lv _ [2, 3, 1, 0] rfl (ih4 (i + 1) (acc * v) (by omega) (by omega) (by rw [hacc, Nat.pow_succ]))
  exact g_lv _ [2, 3, 1, 0] rfl (lp4 _ 0 1 (Nat.lt_succ_self _) (Nat.zero_le _) rfl)
set_option maxHeartbeats 4000000 in
set_option maxRecDepth 100000 in
theorem c_X5_waysToTurn (l : Launch) (E : EV) (v : Nat) (k : Nat) (hv : v < 64) (hk : k ≤ 10) : KI l yX5_waysToTurn wsX5_waysToTurn (rmN 1) E (σ := Unit) [.int (nI v), .int (nI k)] (([] : va_W)) (fun _ => True) (fun _ => (nI (k ^ pop v * (10 - k) ^ (6 - pop v)))) (fun _ => ([] : va_W)) 0 0 := by
  refine KI.of (cc := cX5_waysToTurn) (maxL := 3) (ty := .int) (hnar := fun _ _ => rfl) rfl rfl rfl (fun x hX hin hret hnL => ?_)
  replace hX : CX x l cX5_waysToTurn RX5 wsX5_waysToTurn E (rmN 1) := hX
  show GG x 0 0 (([] : va_W)) 0 [(0, .int (nI v)), (1, .int (nI k))] []
  have hp6 := pop6 v hv
  refine g_iload_n hX dX5_waysToTurn_0 0 rfl ?_
  have hc1 : CUT (([] : va_W)) (([] : va_W)) (([] : va_W)) [] [] := ⟨rfl, rfl, rfl, rfl, rfl⟩
  refine g_TI hX hc1 [.int (nI v)] [] (c_J6_bitCount_0f7a4 l E v (by omega)) gX5_waysToTurn_J6_bitCount_0f7a4 calJ6_bitCount_0f7a4 rfl rfl rfl rfl dX5_waysToTurn_1 rfl ⟨Nat.zero_le _, Nat.zero_le _⟩ (fun _ => ([] : va_W)) [] rfl (fun _ => rfl) (fun _ hu1 => ?_)
  refine g_istore_n hX (j := 2) [(2, .int (nI (pop v))), (0, .int (nI v)), (1, .int (nI k))] dX5_waysToTurn_4 rfl (by rw [hnL]; rfl) rfl ?_
  refine g_iload_n hX dX5_waysToTurn_5 2 rfl ?_
  refine g_iload_n hX dX5_waysToTurn_6 0 rfl ?_
  have hc7 : CUT (([] : va_W)) (([] : va_W)) (([] : va_W)) [] [] := ⟨rfl, rfl, rfl, rfl, rfl⟩
  refine g_TI hX hc7 [.int (nI k), .int (nI (pop v))] [] (c_X5_power l E k (pop v) (by omega)) gX5_waysToTurn_X5_power calX5_power rfl rfl rfl rfl dX5_waysToTurn_7 rfl ⟨Nat.zero_le _, Nat.zero_le _⟩ (fun _ => ([] : va_W)) [] rfl (fun _ => rfl) (fun _ hu7 => ?_)
  refine g_bipush hX (nI 10) dX5_waysToTurn_10 rfl ?_
  refine g_iload_n hX dX5_waysToTurn_12 2 rfl ?_
  refine g_isub hX (nI (10 - k)) dX5_waysToTurn_13 (pk_sub (by omega)) ?_
  refine g_bipush hX (nI 6) dX5_waysToTurn_14 rfl ?_
  refine g_iload_n hX dX5_waysToTurn_16 0 rfl ?_
  refine g_isub hX (nI (6 - (pop v))) dX5_waysToTurn_17 (pk_sub (by omega)) ?_
  have hc18 : CUT (([] : va_W)) (([] : va_W)) (([] : va_W)) [] [] := ⟨rfl, rfl, rfl, rfl, rfl⟩
  refine g_TI hX hc18 [.int (nI (10 - k)), .int (nI (6 - (pop v)))] [.int (nI (k ^ (pop v)))] (c_X5_power l E (10 - k) (6 - (pop v)) (by omega)) gX5_waysToTurn_X5_power calX5_power rfl rfl rfl rfl dX5_waysToTurn_18 rfl ⟨Nat.zero_le _, Nat.zero_le _⟩ (fun _ => ([] : va_W)) [] rfl (fun _ => rfl) (fun _ hu18 => ?_)
  refine g_imul hX (nI ((k ^ (pop v)) * ((10 - k) ^ (6 - (pop v))))) dX5_waysToTurn_21 (pk_mul _ _) ?_
  exact g_eq rfl rfl (congrArg (fun z => [Value.int z]) (congrArg nI (by rfl))) (hret () _ _ trivial dX5_waysToTurn_22)
set_option maxHeartbeats 4000000 in
set_option maxRecDepth 100000 in
theorem c_X5_commonDivisor (l : Launch) (E : EV) (u : Nat) (v : Nat) (hu : u < 2 ^ 31) (hv : v < 2 ^ 31) : KI l yX5_commonDivisor wsX5_commonDivisor (rmN 0) E (σ := Unit) [.int (nI u), .int (nI v)] (([] : va_W)) (fun _ => True) (fun _ => (nI (euc 100 u v))) (fun _ => ([] : va_W)) 0 0 := by
  refine KI.of (cc := cX5_commonDivisor) (maxL := 6) (ty := .int) (hnar := fun _ _ => rfl) rfl rfl rfl (fun x hX hin hret hnL => ?_)
  replace hX : CX x l cX5_commonDivisor RX5 wsX5_commonDivisor E (rmN 0) := hX
  show GG x 0 0 (([] : va_W)) 0 [(0, .int (nI u)), (1, .int (nI v))] []
  refine g_iload_n hX dX5_commonDivisor_0 0 rfl ?_
  refine g_istore_n hX (j := 2) [(2, .int (nI u)), (0, .int (nI u)), (1, .int (nI v))] dX5_commonDivisor_1 rfl (by rw [hnL]; rfl) rfl ?_
  refine g_iload_n hX dX5_commonDivisor_2 2 rfl ?_
  refine g_istore_n hX (j := 3) [(3, .int (nI v)), (2, .int (nI u)), (0, .int (nI u)), (1, .int (nI v))] dX5_commonDivisor_3 rfl (by rw [hnL]; rfl) rfl ?_
  refine g_iconst hX (nI 0) dX5_commonDivisor_4 rfl ?_
  refine g_istore hX (j := 4) [(4, .int (nI 0)), (3, .int (nI v)), (2, .int (nI u)), (0, .int (nI u)), (1, .int (nI v))] dX5_commonDivisor_5 (by rw [hnL]; rfl) rfl ?_
  have lp7 : ∀ (fuel : Nat) (i : Nat) (xl : Nat) (xr : Nat), 100 - i < fuel → (i ≤ 100) → (xl < 2 ^ 31) → (xr < 2 ^ 31) → (euc 100 u v = euc (100 - i) xl xr) → GG x 0 0 (([] : va_W)) 7 [(0, .int (nI u)), (1, .int (nI v)), (2, .int (nI xl)), (3, .int (nI xr)), (4, .int (nI i))] [] := by
    intro fuel
    induction fuel with
    | zero => intro i xl xr hm; exact absurd hm (Nat.not_lt_zero _)
    | succ fuel ih7 =>
      intro i xl xr hm7 hi hl hr he
      refine g_iload hX dX5_commonDivisor_7 4 rfl ?_
      refine g_bipush hX (nI 100) dX5_commonDivisor_9 rfl ?_
      refine g_icmp_ge hX 34 dX5_commonDivisor_11 (by decide) (fun c11 => ?_) (fun c11 => ?_)
      · replace c11 := (nI_leI (by omega) (by omega)).mp c11
        refine g_iload_n hX dX5_commonDivisor_34 2 rfl ?_
        exact g_eq rfl rfl (congrArg (fun z => [Value.int z]) (congrArg nI (by rw [he]; first | (rw [show i = 100 by omega]; rfl) | (rw [show 100 - i = (100 - (i + 1)) + 1 by omega, euc, if_pos c15])))) (hret () _ _ trivial dX5_commonDivisor_35)
      · replace c11 := mt (nI_leI (by omega) (by omega)).mpr c11
        refine g_iload_n hX dX5_commonDivisor_14 3 rfl ?_
        refine g_if_eq hX 34 dX5_commonDivisor_15 (by decide) (fun c15 => ?_) (fun c15 => ?_)
        · replace c15 := (nz_eq (by omega)).mp c15
          refine g_iload_n hX dX5_commonDivisor_34 2 rfl ?_
          exact g_eq rfl rfl (congrArg (fun z => [Value.int z]) (congrArg nI (by rw [he]; first | (rw [show i = 100 by omega]; rfl) | (rw [show 100 - i = (100 - (i + 1)) + 1 by omega, euc, if_pos c15])))) (hret () _ _ trivial dX5_commonDivisor_35)
        · replace c15 := mt (nz_eq (by omega)).mpr c15
          refine g_iload_n hX dX5_commonDivisor_18 2 rfl ?_
          refine g_iload_n hX dX5_commonDivisor_19 3 rfl ?_
          refine g_irem hX (nI (xl % xr)) dX5_commonDivisor_20 (nI_ne0 (by omega) (by omega)) (pk_rem (by omega) (by omega) (by omega)) ?_
          refine g_istore hX (j := 5) [(5, .int (nI (xl % xr))), (0, .int (nI u)), (1, .int (nI v)), (2, .int (nI xl)), (3, .int (nI xr)), (4, .int (nI i))] dX5_commonDivisor_21 (by rw [hnL]; rfl) rfl ?_
          refine g_iload_n hX dX5_commonDivisor_23 4 rfl ?_
          refine g_istore_n hX (j := 2) [(2, .int (nI xr)), (5, .int (nI (xl % xr))), (0, .int (nI u)), (1, .int (nI v)), (3, .int (nI xr)), (4, .int (nI i))] dX5_commonDivisor_24 rfl (by rw [hnL]; rfl) rfl ?_
          refine g_iload hX dX5_commonDivisor_25 1 rfl ?_
          refine g_istore_n hX (j := 3) [(3, .int (nI (xl % xr))), (2, .int (nI xr)), (5, .int (nI (xl % xr))), (0, .int (nI u)), (1, .int (nI v)), (4, .int (nI i))] dX5_commonDivisor_27 rfl (by rw [hnL]; rfl) rfl ?_
          refine g_iinc hX (j := 4) (nI (i + 1)) [(4, .int (nI (i + 1))), (3, .int (nI (xl % xr))), (2, .int (nI xr)), (5, .int (nI (xl % xr))), (0, .int (nI u)), (1, .int (nI v))] dX5_commonDivisor_28 5 rfl (iinc_n _ _) (by rw [hnL]; rfl) rfl ?_
          refine g_goto hX 7 dX5_commonDivisor_31 (by decide) ?_
          exact g_lv _ [4, 5, 2, 1, 0] rfl (ih7 (i + 1) xr (xl % xr) (by omega) (by omega) hr (Nat.lt_trans (Nat.mod_lt _ (by omega)) hr) (by rw [he, show 100 - i = (100 - (i + 1)) + 1 by omega, euc, if_neg c15]))
  exact g_lv _ [3, 4, 2, 1, 0] rfl (lp7 _ 0 u v (Nat.lt_succ_self _) (Nat.zero_le _) hu hv rfl)
set_option maxHeartbeats 4000000 in
set_option maxRecDepth 100000 in
theorem c_X5_draw (l : Launch) (E : EV) (z : Nat) (k : Nat) (hz : z < 10000) (hk : k < 60) : KI l yX5_draw wsX5_draw (rmN 0) E (σ := Unit) [.int (nI z), .int (nI k)] (([] : va_W)) (fun _ => True) (fun _ => (nI (drw z k))) (fun _ => ([] : va_W)) 0 0 := by
  refine KI.of (cc := cX5_draw) (maxL := 4) (ty := .int) (hnar := fun _ _ => rfl) rfl rfl rfl (fun x hX hin hret hnL => ?_)
  replace hX : CX x l cX5_draw RX5 wsX5_draw E (rmN 0) := hX
  show GG x 0 0 (([] : va_W)) 0 [(0, .int (nI z)), (1, .int (nI k))] []
  refine g_ldc2 hX (v := lN 7919) dX5_draw_0 (by decide +kernel) ?_
  refine g_iload_n hX dX5_draw_3 0 rfl ?_
  refine g_i2l hX (lN z) dX5_draw_4 (nI_l (by omega)) ?_
  refine g_lmul hX (lN (7919 * z)) dX5_draw_5 (lN_mul _ _) ?_
  refine g_ldc2 hX (v := lN 6151) dX5_draw_6 (by decide +kernel) ?_
  refine g_iload_n hX dX5_draw_9 1 rfl ?_
  refine g_i2l hX (lN k) dX5_draw_10 (nI_l (by omega)) ?_
  refine g_lmul hX (lN (6151 * k)) dX5_draw_11 (lN_mul _ _) ?_
  refine g_ladd hX (lN ((7919 * z) + (6151 * k))) dX5_draw_12 (lN_add _ _) ?_
  refine g_lconst hX (lN 1) dX5_draw_13 rfl ?_
  refine g_ladd hX (lN (((7919 * z) + (6151 * k)) + 1)) dX5_draw_14 (lN_add _ _) ?_
  refine g_lstore_n hX (j := 2) [(2, .long (lN (((7919 * z) + (6151 * k)) + 1))), (0, .int (nI z)), (1, .int (nI k))] dX5_draw_15 rfl (by rw [hnL]; rfl) rfl ?_
  refine g_lload_n hX dX5_draw_16 0 rfl ?_
  refine g_lload_n hX dX5_draw_17 0 rfl ?_
  refine g_lmul hX (lN ((((7919 * z) + (6151 * k)) + 1) * (((7919 * z) + (6151 * k)) + 1))) dX5_draw_18 (lN_mul _ _) ?_
  refine g_ldc2 hX (v := lN 65521) dX5_draw_19 (by decide +kernel) ?_
  have hx2 : (7919 * z + 6151 * k + 1) * (7919 * z + 6151 * k + 1) < 2 ^ 63 := by have h : 7919 * z + 6151 * k + 1 < 2 ^ 30 := (by omega); exact Nat.lt_of_lt_of_le (Nat.mul_lt_mul'' h h) (by decide)
  refine g_lrem hX (lN (((((7919 * z) + (6151 * k)) + 1) * (((7919 * z) + (6151 * k)) + 1)) % 65521)) dX5_draw_22 (by decide) (pk_lRem (by first | exact hx2 | decide) (by first | exact hx2 | decide) (by first | exact hx2 | decide)) ?_
  refine g_l2i hX (nI (((((7919 * z) + (6151 * k)) + 1) * (((7919 * z) + (6151 * k)) + 1)) % 65521)) dX5_draw_23 (lN_i _) ?_
  exact g_eq rfl rfl (congrArg (fun z => [Value.int z]) (congrArg nI (by rfl))) (hret () _ _ trivial dX5_draw_24)
set_option maxHeartbeats 4000000 in
set_option maxRecDepth 100000 in
theorem c_X0_addSaying (l : Launch) (E : EV) (a : Nat → Nat) (C : FC) (kk : Nat) (q : Nat) (q2 : Nat) (pp : Nat) (hC : FO C) (hn : cN C < 9) (hk : kk < 5) (hq : q < 12) (hq2 : q2 < 12) : KI l yX0_addSaying wsX0_addSaying (rmN 2) E (σ := Unit) [.ref (a 0), .int (nI kk), .int (nI q), .int (nI q2), .int (nI pp)] (fw E a C) (fun _ => True) (fun _ => (nI (cN C))) (fun _ => fw E a (addC C kk q q2 pp)) 0 0 := by
  refine KI.of (cc := cX0_addSaying) (maxL := 6) (ty := .int) (hnar := fun _ _ => rfl) rfl rfl rfl (fun x hX hin hret hnL => ?_)
  replace hX : CX x l cX0_addSaying RX0 wsX0_addSaying E (rmN 2) := hX
  show GG x 0 0 (fw E a C) 0 [(0, .ref (a 0)), (1, .int (nI kk)), (2, .int (nI q)), (3, .int (nI q2)), (4, .int (nI pp))] []
  have inRX0 : ∀ w ∈ wsX00, w ∈ wsX0_addSaying := by decide +kernel
  have fl15 : Cond.fieldLink RX0 15 "LieForce$Force" "kinds" "[I" ∈ wsX0_addSaying := by decide +kernel
  have fl19 : Cond.fieldLink RX0 19 "LieForce$Force" "firsts" "[I" ∈ wsX0_addSaying := by decide +kernel
  have fl22 : Cond.fieldLink RX0 22 "LieForce$Force" "seconds" "[I" ∈ wsX0_addSaying := by decide +kernel
  have fl25 : Cond.fieldLink RX0 25 "LieForce$Force" "persons" "[I" ∈ wsX0_addSaying := by decide +kernel
  have fl28 : Cond.fieldLink RX0 28 "LieForce$Force" "served" "[I" ∈ wsX0_addSaying := by decide +kernel
  have fl31 : Cond.fieldLink RX0 31 "LieForce$Force" "soWorlds" "[J" ∈ wsX0_addSaying := by decide +kernel
  have fl38 : Cond.fieldLink RX0 38 "LieForce$Force" "sayings" "I" ∈ wsX0_addSaying := by decide +kernel
  refine g_aload_n hX dX0_addSaying_0 0 rfl ?_
  refine g_get hX (v := .int (nI (cN C))) 0 inRX0 rfl rfl 1 rfl fl38 rfl rfl dX0_addSaying_1 ?_
  refine g_bipush hX (nI 9) dX0_addSaying_4 rfl ?_
  refine g_icmp_lt hX 12 dX0_addSaying_6 (by decide) (fun c6 => ?_) (fun c6 => ?_)
  · replace c6 := (nI_ltI (by omega) (by omega)).mp c6
    refine g_aload_n hX dX0_addSaying_12 0 rfl ?_
    refine g_get hX (v := .int (nI (cN C))) 0 inRX0 rfl rfl 1 rfl fl38 rfl rfl dX0_addSaying_13 ?_
    refine g_istore hX (j := 5) [(5, .int (nI (cN C))), (0, .ref (a 0)), (1, .int (nI kk)), (2, .int (nI q)), (3, .int (nI q2)), (4, .int (nI pp))] dX0_addSaying_16 (by rw [hnL]; rfl) rfl ?_
    refine g_aload_n hX dX0_addSaying_18 1 rfl ?_
    refine g_get hX (v := .ref (a 1)) 0 inRX0 rfl rfl 5 rfl fl15 rfl rfl dX0_addSaying_19 ?_
    refine g_iload hX dX0_addSaying_22 0 rfl ?_
    refine g_iload_n hX dX0_addSaying_24 2 rfl ?_
    refine g_eq (show (fw E a C : va_W) = fw E a (mkFC (cF C) (cN C) (cG C) (cY C) (cT C) (cK C) (cA C) (cB C) (cP C) (cV C) (cW C)) from rfl) rfl rfl ?_
    refine g_iast hX (fun j => nI ((va_up (cK C) (cN C) kk) j)) (fw E a (mkFC (cF C) (cN C) (cG C) (cY C) (cT C) (va_up (cK C) (cN C) kk) (cA C) (cB C) (cP C) (cV C) (cW C))) 1 0 (atForce_1 _ _ _ _ _ _ _ _ _ _ _ _ _) rfl (vp_in_nI (by omega) (by omega)) (ast_n (by omega)) dX0_addSaying_25 (stForce_1 _ _ _ _ _ _ _ _ _ _ _ _ _ _) ?_
    refine g_aload_n hX dX0_addSaying_26 1 rfl ?_
    refine g_get hX (v := .ref (a 2)) 0 inRX0 (atForce_0 _ _ _ _ _ _ _ _ _ _ _ _ _) rfl 6 rfl fl19 rfl rfl dX0_addSaying_27 ?_
    refine g_iload hX dX0_addSaying_30 0 rfl ?_
    refine g_iload_n hX dX0_addSaying_32 3 rfl ?_
    refine g_iast hX (fun j => nI ((va_up (cA C) (cN C) q) j)) (fw E a (mkFC (cF C) (cN C) (cG C) (cY C) (cT C) (va_up (cK C) (cN C) kk) (va_up (cA C) (cN C) q) (cB C) (cP C) (cV C) (cW C))) 2 0 (atForce_2 _ _ _ _ _ _ _ _ _ _ _ _ _) rfl (vp_in_nI (by omega) (by omega)) (ast_n (by omega)) dX0_addSaying_33 (stForce_2 _ _ _ _ _ _ _ _ _ _ _ _ _ _) ?_
    refine g_aload_n hX dX0_addSaying_34 1 rfl ?_
    refine g_get hX (v := .ref (a 3)) 0 inRX0 (atForce_0 _ _ _ _ _ _ _ _ _ _ _ _ _) rfl 7 rfl fl22 rfl rfl dX0_addSaying_35 ?_
    refine g_iload hX dX0_addSaying_38 0 rfl ?_
    refine g_iload_n hX dX0_addSaying_40 4 rfl ?_
    refine g_iast hX (fun j => nI ((va_up (cB C) (cN C) q2) j)) (fw E a (mkFC (cF C) (cN C) (cG C) (cY C) (cT C) (va_up (cK C) (cN C) kk) (va_up (cA C) (cN C) q) (va_up (cB C) (cN C) q2) (cP C) (cV C) (cW C))) 3 0 (atForce_3 _ _ _ _ _ _ _ _ _ _ _ _ _) rfl (vp_in_nI (by omega) (by omega)) (ast_n (by omega)) dX0_addSaying_41 (stForce_3 _ _ _ _ _ _ _ _ _ _ _ _ _ _) ?_
    refine g_aload_n hX dX0_addSaying_42 1 rfl ?_
    refine g_get hX (v := .ref (a 4)) 0 inRX0 (atForce_0 _ _ _ _ _ _ _ _ _ _ _ _ _) rfl 8 rfl fl25 rfl rfl dX0_addSaying_43 ?_
    refine g_iload hX dX0_addSaying_46 0 rfl ?_
    refine g_iload hX dX0_addSaying_48 5 rfl ?_
    refine g_iast hX (fun j => nI ((va_up (cP C) (cN C) pp) j)) (fw E a (mkFC (cF C) (cN C) (cG C) (cY C) (cT C) (va_up (cK C) (cN C) kk) (va_up (cA C) (cN C) q) (va_up (cB C) (cN C) q2) (va_up (cP C) (cN C) pp) (cV C) (cW C))) 4 0 (atForce_4 _ _ _ _ _ _ _ _ _ _ _ _ _) rfl (vp_in_nI (by omega) (by omega)) (ast_n (by omega)) dX0_addSaying_50 (stForce_4 _ _ _ _ _ _ _ _ _ _ _ _ _ _) ?_
    refine g_aload_n hX dX0_addSaying_51 1 rfl ?_
    refine g_get hX (v := .ref (a 5)) 0 inRX0 (atForce_0 _ _ _ _ _ _ _ _ _ _ _ _ _) rfl 9 rfl fl28 rfl rfl dX0_addSaying_52 ?_
    refine g_iload hX dX0_addSaying_55 0 rfl ?_
    refine g_iconst hX (nI 0) dX0_addSaying_57 rfl ?_
    refine g_iast hX (fun j => nI ((va_up (cV C) (cN C) 0) j)) (fw E a (mkFC (cF C) (cN C) (cG C) (cY C) (cT C) (va_up (cK C) (cN C) kk) (va_up (cA C) (cN C) q) (va_up (cB C) (cN C) q2) (va_up (cP C) (cN C) pp) (va_up (cV C) (cN C) 0) (cW C))) 5 0 (atForce_5 _ _ _ _ _ _ _ _ _ _ _ _ _) rfl (vp_in_nI (by omega) (by omega)) (ast_n (by omega)) dX0_addSaying_58 (stForce_5 _ _ _ _ _ _ _ _ _ _ _ _ _ _) ?_
    refine g_aload_n hX dX0_addSaying_59 1 rfl ?_
    refine g_get hX (v := .ref (a 6)) 0 inRX0 (atForce_0 _ _ _ _ _ _ _ _ _ _ _ _ _) rfl 10 rfl fl31 rfl rfl dX0_addSaying_60 ?_
    refine g_iload hX dX0_addSaying_63 0 rfl ?_
    refine g_iload_n hX dX0_addSaying_65 2 rfl ?_
    refine g_iload_n hX dX0_addSaying_66 3 rfl ?_
    refine g_iload_n hX dX0_addSaying_67 4 rfl ?_
    have hc68 : CUT (fw E a (mkFC (cF C) (cN C) (cG C) (cY C) (cT C) (va_up (cK C) (cN C) kk) (va_up (cA C) (cN C) q) (va_up (cB C) (cN C) q2) (va_up (cP C) (cN C) pp) (va_up (cV C) (cN C) 0) (cW C))) (([] : va_W)) (fw E a (mkFC (cF C) (cN C) (cG C) (cY C) (cT C) (va_up (cK C) (cN C) kk) (va_up (cA C) (cN C) q) (va_up (cB C) (cN C) q2) (va_up (cP C) (cN C) pp) (va_up (cV C) (cN C) 0) (cW C))) [] [0, 1, 2, 3, 4, 5, 6] := ⟨rfl, rfl, rfl, rfl, rfl⟩
    refine g_NL hX hc68 [.int (nI kk), .int (nI q), .int (nI q2)] [.int (nI (cN C)), .ref (a 6)] (c_X5_worldsOfSaying l E kk q q2 (by omega) (by omega) (by omega)) gX0_addSaying_X5_worldsOfSaying_n47 calX5_worldsOfSaying rfl rfl (by decide +kernel) (by decide +kernel) (by decide +kernel) rfl rfl dX0_addSaying_68 rfl ⟨Nat.zero_le _, Nat.zero_le _⟩ (fun _ => fw E a (mkFC (cF C) (cN C) (cG C) (cY C) (cT C) (va_up (cK C) (cN C) kk) (va_up (cA C) (cN C) q) (va_up (cB C) (cN C) q2) (va_up (cP C) (cN C) pp) (va_up (cV C) (cN C) 0) (cW C))) [0, 1, 2, 3, 4, 5, 6] rfl (fun _ => rfl) (fun _ hu68 => ?_)
    refine g_last hX (fun j => lN ((va_up (cW C) (cN C) (wos kk q q2)) j)) (fw E a (mkFC (cF C) (cN C) (cG C) (cY C) (cT C) (va_up (cK C) (cN C) kk) (va_up (cA C) (cN C) q) (va_up (cB C) (cN C) q2) (va_up (cP C) (cN C) pp) (va_up (cV C) (cN C) 0) (va_up (cW C) (cN C) (wos kk q q2)))) 6 1 (atForce_6 _ _ _ _ _ _ _ _ _ _ _ _ _) rfl (vp_in_nI (by omega) (by omega)) (ast_l (by omega)) dX0_addSaying_71 (stForce_6 _ _ _ _ _ _ _ _ _ _ _ _ _ _) ?_
    refine g_aload_n hX dX0_addSaying_72 1 rfl ?_
    refine g_dup hX dX0_addSaying_73 rfl ?_
    refine g_get hX (v := .int (nI (cN C))) 0 inRX0 (atForce_0 _ _ _ _ _ _ _ _ _ _ _ _ _) rfl 1 rfl fl38 rfl rfl dX0_addSaying_74 ?_
    refine g_iconst hX (nI 1) dX0_addSaying_77 rfl ?_
    refine g_iadd hX (nI ((cN C) + 1)) dX0_addSaying_78 (nI_add _ _) ?_
    refine g_put hX (fw E a (mkFC (cF C) ((cN C) + 1) (cG C) (cY C) (cT C) (va_up (cK C) (cN C) kk) (va_up (cA C) (cN C) q) (va_up (cB C) (cN C) q2) (va_up (cP C) (cN C) pp) (va_up (cV C) (cN C) 0) (va_up (cW C) (cN C) (wos kk q q2)))) 0 inRX0 tyX0_ok nmX0 (atForce_0 _ _ _ _ _ _ _ _ _ _ _ _ _) rfl 1 rfl fl38 rfl rfl rfl rfl rfl dX0_addSaying_79 (stForce_0_1 _ _ _ _ _ _ _ _ _ _ _ _ _ _) ?_
    refine g_iload hX dX0_addSaying_82 0 rfl ?_
    exact g_eq rfl rfl rfl (hret () _ _ trivial dX0_addSaying_84)
  · replace c6 := mt (nI_ltI (by omega) (by omega)).mpr c6
    exact absurd hn c6
set_option maxHeartbeats 4000000 in
set_option maxRecDepth 100000 in
theorem c_X0_addSaying_full (l : Launch) (E : EV) (a : Nat → Nat) (C : FC) (kk : Nat) (q : Nat) (q2 : Nat) (pp : Nat) (hn : cN C = 9) : KI l yX0_addSaying wsX0_addSaying (rmN 2) E (σ := Unit) [.ref (a 0), .int (nI kk), .int (nI q), .int (nI q2), .int (nI pp)] (fw E a C) (fun _ => True) (fun _ => (-3)) (fun _ => fw E a C) 0 0 := by
  refine KI.of (cc := cX0_addSaying) (maxL := 6) (ty := .int) (hnar := fun _ _ => rfl) rfl rfl rfl (fun x hX hin hret hnL => ?_)
  replace hX : CX x l cX0_addSaying RX0 wsX0_addSaying E (rmN 2) := hX
  show GG x 0 0 (fw E a C) 0 [(0, .ref (a 0)), (1, .int (nI kk)), (2, .int (nI q)), (3, .int (nI q2)), (4, .int (nI pp))] []
  have inRX0 : ∀ w ∈ wsX00, w ∈ wsX0_addSaying := by decide +kernel
  have fl38 : Cond.fieldLink RX0 38 "LieForce$Force" "sayings" "I" ∈ wsX0_addSaying := by decide +kernel
  refine g_aload_n hX dX0_addSaying_0 0 rfl ?_
  refine g_get hX (v := .int (nI (cN C))) 0 inRX0 rfl rfl 1 rfl fl38 rfl rfl dX0_addSaying_1 ?_
  refine g_bipush hX (nI 9) dX0_addSaying_4 rfl ?_
  refine g_icmp_lt hX 12 dX0_addSaying_6 (by decide) (fun c6 => ?_) (fun c6 => ?_)
  · replace c6 := (nI_ltI (by omega) (by omega)).mp c6
    exact absurd c6 (by omega)
  · replace c6 := mt (nI_ltI (by omega) (by omega)).mpr c6
    refine g_bipush hX ((-3)) dX0_addSaying_9 rfl ?_
    exact g_eq rfl rfl rfl (hret () _ _ trivial dX0_addSaying_11)
set_option maxHeartbeats 4000000 in
set_option maxRecDepth 100000 in
theorem c_X0_empty (l : Launch) (E : EV) (a : Nat → Nat) (C : FC)  : KV l yX0_empty wsX0_empty (rmN 0) E (σ := Unit) [.ref (a 0)] (fw E a C) (fun _ => True) (fun _ => fw E a (emC C)) 0 0 := by
  refine KV.of (cc := cX0_empty) (maxL := 1) rfl rfl rfl (fun x hX hin hret hnL => ?_)
  replace hX : CX x l cX0_empty RX0 wsX0_empty E (rmN 0) := hX
  show GG x 0 0 (fw E a C) 0 [(0, .ref (a 0))] []
  have inRX0 : ∀ w ∈ wsX00, w ∈ wsX0_empty := by decide +kernel
  have fl35 : Cond.fieldLink RX0 35 "LieForce$Force" "facts" "I" ∈ wsX0_empty := by decide +kernel
  have fl38 : Cond.fieldLink RX0 38 "LieForce$Force" "sayings" "I" ∈ wsX0_empty := by decide +kernel
  have fl41 : Cond.fieldLink RX0 41 "LieForce$Force" "withdrawn" "I" ∈ wsX0_empty := by decide +kernel
  have fl44 : Cond.fieldLink RX0 44 "LieForce$Force" "days" "I" ∈ wsX0_empty := by decide +kernel
  have fl9 : Cond.fieldLink RX0 9 "LieForce$Force" "term" "I" ∈ wsX0_empty := by decide +kernel
  refine g_aload_n hX dX0_empty_0 0 rfl ?_
  refine g_iconst hX (nI 0) dX0_empty_1 rfl ?_
  refine g_eq (show (fw E a C : va_W) = fw E a (mkFC (cF C) (cN C) (cG C) (cY C) (cT C) (cK C) (cA C) (cB C) (cP C) (cV C) (cW C)) from rfl) rfl rfl ?_
  refine g_put hX (fw E a (mkFC 0 (cN C) (cG C) (cY C) (cT C) (cK C) (cA C) (cB C) (cP C) (cV C) (cW C))) 0 inRX0 tyX0_ok nmX0 (atForce_0 _ _ _ _ _ _ _ _ _ _ _ _ _) rfl 0 rfl fl35 rfl rfl rfl rfl rfl dX0_empty_2 (stForce_0_0 _ _ _ _ _ _ _ _ _ _ _ _ _ _) ?_
  refine g_aload_n hX dX0_empty_5 0 rfl ?_
  refine g_iconst hX (nI 0) dX0_empty_6 rfl ?_
  refine g_put hX (fw E a (mkFC 0 0 (cG C) (cY C) (cT C) (cK C) (cA C) (cB C) (cP C) (cV C) (cW C))) 0 inRX0 tyX0_ok nmX0 (atForce_0 _ _ _ _ _ _ _ _ _ _ _ _ _) rfl 1 rfl fl38 rfl rfl rfl rfl rfl dX0_empty_7 (stForce_0_1 _ _ _ _ _ _ _ _ _ _ _ _ _ _) ?_
  refine g_aload_n hX dX0_empty_10 0 rfl ?_
  refine g_iconst hX (nI 0) dX0_empty_11 rfl ?_
  refine g_put hX (fw E a (mkFC 0 0 0 (cY C) (cT C) (cK C) (cA C) (cB C) (cP C) (cV C) (cW C))) 0 inRX0 tyX0_ok nmX0 (atForce_0 _ _ _ _ _ _ _ _ _ _ _ _ _) rfl 2 rfl fl41 rfl rfl rfl rfl rfl dX0_empty_12 (stForce_0_2 _ _ _ _ _ _ _ _ _ _ _ _ _ _) ?_
  refine g_aload_n hX dX0_empty_15 0 rfl ?_
  refine g_iconst hX (nI 0) dX0_empty_16 rfl ?_
  refine g_put hX (fw E a (mkFC 0 0 0 0 (cT C) (cK C) (cA C) (cB C) (cP C) (cV C) (cW C))) 0 inRX0 tyX0_ok nmX0 (atForce_0 _ _ _ _ _ _ _ _ _ _ _ _ _) rfl 3 rfl fl44 rfl rfl rfl rfl rfl dX0_empty_17 (stForce_0_3 _ _ _ _ _ _ _ _ _ _ _ _ _ _) ?_
  refine g_aload_n hX dX0_empty_20 0 rfl ?_
  refine g_iconst hX (nI 5) dX0_empty_21 rfl ?_
  refine g_put hX (fw E a (mkFC 0 0 0 0 5 (cK C) (cA C) (cB C) (cP C) (cV C) (cW C))) 0 inRX0 tyX0_ok nmX0 (atForce_0 _ _ _ _ _ _ _ _ _ _ _ _ _) rfl 4 rfl fl9 rfl rfl rfl rfl rfl dX0_empty_22 (stForce_0_4 _ _ _ _ _ _ _ _ _ _ _ _ _ _) ?_
  exact g_eq rfl rfl rfl (hret () _ _ trivial dX0_empty_25)
