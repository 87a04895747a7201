set_option maxHeartbeats 4000000 in
set_option maxRecDepth 100000 in
theorem c_X5_isWithin (l : Launch) (E : EV) (x0 : Int32) (lo : Int32) (hi : Int32)  : KI l yX5_isWithin wsX5_isWithin (rmN 0) E (σ := Unit) [.int x0, .int lo, .int hi] (([] : va_W)) (fun _ => True) (fun _ => (bI (win x0 lo hi))) (fun _ => ([] : va_W)) 0 0 := by
  refine KI.of (cc := cX5_isWithin) (maxL := 3) (ty := .boolean) (hnar := fun _ _ => nar_b _) rfl rfl rfl (fun x hX hin hret hnL => ?_)
  replace hX : CX x l cX5_isWithin RX5 wsX5_isWithin E (rmN 0) := hX
  show GG x 0 0 (([] : va_W)) 0 [(0, .int x0), (1, .int lo), (2, .int hi)] []
  refine g_iload_n hX dX5_isWithin_0 0 rfl ?_
  refine g_iload_n hX dX5_isWithin_1 1 rfl ?_
  refine g_icmp_lt hX 14 dX5_isWithin_2 (by decide) (fun c2 => ?_) (fun c2 => ?_)
  · skip
    refine g_iconst hX (nI 0) dX5_isWithin_14 rfl ?_
    exact g_eq rfl rfl (congrArg (fun z => [Value.int z]) (bret_f (by simp [win, c2]))) (hret () _ _ trivial dX5_isWithin_15)
  · skip
    refine g_iload_n hX dX5_isWithin_5 0 rfl ?_
    refine g_iload_n hX dX5_isWithin_6 2 rfl ?_
    refine g_icmp_gt hX 14 dX5_isWithin_7 (by decide) (fun c7 => ?_) (fun c7 => ?_)
    · skip
      refine g_iconst hX (nI 0) dX5_isWithin_14 rfl ?_
      exact g_eq rfl rfl (congrArg (fun z => [Value.int z]) (bret_f (by simp [win, c2, c7]))) (hret () _ _ trivial dX5_isWithin_15)
    · skip
      refine g_iconst hX (nI 1) dX5_isWithin_10 rfl ?_
      refine g_goto hX 15 dX5_isWithin_11 (by decide) ?_
      exact g_eq rfl rfl (congrArg (fun z => [Value.int z]) (bret_t (by simp [win, c2, c7]))) (hret () _ _ trivial dX5_isWithin_15)
set_option maxHeartbeats 4000000 in
set_option maxRecDepth 100000 in
theorem c_X5_isFact (l : Launch) (E : EV) (x0 : Int32)  : KI l yX5_isFact wsX5_isFact (rmN 1) E (σ := Unit) [.int x0] (([] : va_W)) (fun _ => True) (fun _ => (bI (win x0 (nI 0) (nI 5)))) (fun _ => ([] : va_W)) 0 0 := by
  refine KI.of (cc := cX5_isFact) (maxL := 1) (ty := .boolean) (hnar := fun _ _ => nar_b _) rfl rfl rfl (fun x hX hin hret hnL => ?_)
  replace hX : CX x l cX5_isFact RX5 wsX5_isFact E (rmN 1) := hX
  show GG x 0 0 (([] : va_W)) 0 [(0, .int x0)] []
  refine g_iload_n hX dX5_isFact_0 0 rfl ?_
  refine g_iconst hX (nI 0) dX5_isFact_1 rfl ?_
  refine g_iconst hX (nI 5) dX5_isFact_2 rfl ?_
  have hc3 : CUT (([] : va_W)) (([] : va_W)) (([] : va_W)) [] [] := ⟨rfl, rfl, rfl, rfl, rfl⟩
  refine g_TI hX hc3 [.int x0, .int (nI 0), .int (nI 5)] [] (c_X5_isWithin l E x0 (nI 0) (nI 5)) gX5_isFact_X5_isWithin calX5_isWithin rfl rfl rfl rfl dX5_isFact_3 rfl ⟨Nat.zero_le _, Nat.zero_le _⟩ (fun _ => ([] : va_W)) [] rfl (fun _ => rfl) (fun _ hu3 => ?_)
  exact g_eq rfl rfl rfl (hret () _ _ trivial dX5_isFact_6)
set_option maxHeartbeats 4000000 in
set_option maxRecDepth 100000 in
theorem c_X5_isLiteral (l : Launch) (E : EV) (x0 : Int32)  : KI l yX5_isLiteral wsX5_isLiteral (rmN 1) E (σ := Unit) [.int x0] (([] : va_W)) (fun _ => True) (fun _ => (bI (win x0 (nI 0) (nI 11)))) (fun _ => ([] : va_W)) 0 0 := by
  refine KI.of (cc := cX5_isLiteral) (maxL := 1) (ty := .boolean) (hnar := fun _ _ => nar_b _) rfl rfl rfl (fun x hX hin hret hnL => ?_)
  replace hX : CX x l cX5_isLiteral RX5 wsX5_isLiteral E (rmN 1) := hX
  show GG x 0 0 (([] : va_W)) 0 [(0, .int x0)] []
  refine g_iload_n hX dX5_isLiteral_0 0 rfl ?_
  refine g_iconst hX (nI 0) dX5_isLiteral_1 rfl ?_
  refine g_bipush hX (nI 11) dX5_isLiteral_2 rfl ?_
  have hc4 : CUT (([] : va_W)) (([] : va_W)) (([] : va_W)) [] [] := ⟨rfl, rfl, rfl, rfl, rfl⟩
  refine g_TI hX hc4 [.int x0, .int (nI 0), .int (nI 11)] [] (c_X5_isWithin l E x0 (nI 0) (nI 11)) gX5_isLiteral_X5_isWithin calX5_isWithin rfl rfl rfl rfl dX5_isLiteral_4 rfl ⟨Nat.zero_le _, Nat.zero_le _⟩ (fun _ => ([] : va_W)) [] rfl (fun _ => rfl) (fun _ hu4 => ?_)
  exact g_eq rfl rfl rfl (hret () _ _ trivial dX5_isLiteral_7)
set_option maxHeartbeats 4000000 in
set_option maxRecDepth 100000 in
theorem c_X5_isSaying (l : Launch) (E : EV) (x0 : Int32) (x1 : Int32) (x2 : Int32) (x3 : Int32)  : KI l yX5_isSaying wsX5_isSaying (rmN 2) E (σ := Unit) [.int x0, .int x1, .int x2, .int x3] (([] : va_W)) (fun _ => True) (fun _ => (bI (win x0 (nI 0) (nI 4) && win x1 (nI 0) (nI 11) && win x2 (nI 0) (nI 11) && win x3 (nI 0) (nI 5)))) (fun _ => ([] : va_W)) 0 0 := by
  refine KI.of (cc := cX5_isSaying) (maxL := 4) (ty := .boolean) (hnar := fun _ _ => nar_b _) rfl rfl rfl (fun x hX hin hret hnL => ?_)
  replace hX : CX x l cX5_isSaying RX5 wsX5_isSaying E (rmN 2) := hX
  show GG x 0 0 (([] : va_W)) 0 [(0, .int x0), (1, .int x1), (2, .int x2), (3, .int x3)] []
  refine g_iload_n hX dX5_isSaying_0 0 rfl ?_
  refine g_iconst hX (nI 0) dX5_isSaying_1 rfl ?_
  refine g_iconst hX (nI 4) dX5_isSaying_2 rfl ?_
  have hc3 : CUT (([] : va_W)) (([] : va_W)) (([] : va_W)) [] [] := ⟨rfl, rfl, rfl, rfl, rfl⟩
  refine g_TI hX hc3 [.int x0, .int (nI 0), .int (nI 4)] [] (c_X5_isWithin l E x0 (nI 0) (nI 4)) gX5_isSaying_X5_isWithin calX5_isWithin rfl rfl rfl rfl dX5_isSaying_3 rfl ⟨Nat.zero_le _, Nat.zero_le _⟩ (fun _ => ([] : va_W)) [] rfl (fun _ => rfl) (fun _ hu3 => ?_)
  refine g_if_eq hX 36 dX5_isSaying_6 (by decide) (fun c6 => ?_) (fun c6 => ?_)
  · replace c6 := bI_0.mp c6
    refine g_iconst hX (nI 0) dX5_isSaying_36 rfl ?_
    exact g_eq rfl rfl (congrArg (fun z => [Value.int z]) (bret_f (by simp [c6]))) (hret () _ _ trivial dX5_isSaying_37)
  · replace c6 := mt bI_0.mpr c6
    replace c6 := bNf c6
    refine g_iload_n hX dX5_isSaying_9 1 rfl ?_
    have hc10 : CUT (([] : va_W)) (([] : va_W)) (([] : va_W)) [] [] := ⟨rfl, rfl, rfl, rfl, rfl⟩
    refine g_TI hX hc10 [.int x1] [] (c_X5_isLiteral l E x1) gX5_isSaying_X5_isLiteral calX5_isLiteral rfl rfl rfl rfl dX5_isSaying_10 rfl ⟨Nat.zero_le _, Nat.zero_le _⟩ (fun _ => ([] : va_W)) [] rfl (fun _ => rfl) (fun _ hu10 => ?_)
    refine g_if_eq hX 36 dX5_isSaying_13 (by decide) (fun c13 => ?_) (fun c13 => ?_)
    · replace c13 := bI_0.mp c13
      refine g_iconst hX (nI 0) dX5_isSaying_36 rfl ?_
      exact g_eq rfl rfl (congrArg (fun z => [Value.int z]) (bret_f (by simp [c6, c13]))) (hret () _ _ trivial dX5_isSaying_37)
    · replace c13 := mt bI_0.mpr c13
      replace c13 := bNf c13
      refine g_iload_n hX dX5_isSaying_16 2 rfl ?_
      have hc17 : CUT (([] : va_W)) (([] : va_W)) (([] : va_W)) [] [] := ⟨rfl, rfl, rfl, rfl, rfl⟩
      refine g_TI hX hc17 [.int x2] [] (c_X5_isLiteral l E x2) gX5_isSaying_X5_isLiteral calX5_isLiteral rfl rfl rfl rfl dX5_isSaying_17 rfl ⟨Nat.zero_le _, Nat.zero_le _⟩ (fun _ => ([] : va_W)) [] rfl (fun _ => rfl) (fun _ hu17 => ?_)
      refine g_if_eq hX 36 dX5_isSaying_20 (by decide) (fun c20 => ?_) (fun c20 => ?_)
      · replace c20 := bI_0.mp c20
        refine g_iconst hX (nI 0) dX5_isSaying_36 rfl ?_
        exact g_eq rfl rfl (congrArg (fun z => [Value.int z]) (bret_f (by simp [c6, c13, c20]))) (hret () _ _ trivial dX5_isSaying_37)
      · replace c20 := mt bI_0.mpr c20
        replace c20 := bNf c20
        refine g_iload_n hX dX5_isSaying_23 3 rfl ?_
        refine g_iconst hX (nI 0) dX5_isSaying_24 rfl ?_
        refine g_iconst hX (nI 5) dX5_isSaying_25 rfl ?_
        have hc26 : CUT (([] : va_W)) (([] : va_W)) (([] : va_W)) [] [] := ⟨rfl, rfl, rfl, rfl, rfl⟩
        refine g_TI hX hc26 [.int x3, .int (nI 0), .int (nI 5)] [] (c_X5_isWithin l E x3 (nI 0) (nI 5)) gX5_isSaying_X5_isWithin calX5_isWithin rfl rfl rfl rfl dX5_isSaying_26 rfl ⟨Nat.zero_le _, Nat.zero_le _⟩ (fun _ => ([] : va_W)) [] rfl (fun _ => rfl) (fun _ hu26 => ?_)
        refine g_if_eq hX 36 dX5_isSaying_29 (by decide) (fun c29 => ?_) (fun c29 => ?_)
        · replace c29 := bI_0.mp c29
          refine g_iconst hX (nI 0) dX5_isSaying_36 rfl ?_
          exact g_eq rfl rfl (congrArg (fun z => [Value.int z]) (bret_f (by simp [c6, c13, c20, c29]))) (hret () _ _ trivial dX5_isSaying_37)
        · replace c29 := mt bI_0.mpr c29
          replace c29 := bNf c29
          refine g_iconst hX (nI 1) dX5_isSaying_32 rfl ?_
          refine g_goto hX 37 dX5_isSaying_33 (by decide) ?_
          exact g_eq rfl rfl (congrArg (fun z => [Value.int z]) (bret_t (by simp [c6, c13, c20, c29]))) (hret () _ _ trivial dX5_isSaying_37)
set_option maxHeartbeats 4000000 in
set_option maxRecDepth 100000 in
theorem c_X5_asNumber (l : Launch) (E : EV) (c : Bool)  : KI l yX5_asNumber wsX5_asNumber (rmN 0) E (σ := Unit) [.int (bI c)] (([] : va_W)) (fun _ => True) (fun _ => (bI c)) (fun _ => ([] : va_W)) 0 0 := by
  refine KI.of (cc := cX5_asNumber) (maxL := 1) (ty := .int) (hnar := fun _ _ => rfl) rfl rfl rfl (fun x hX hin hret hnL => ?_)
  replace hX : CX x l cX5_asNumber RX5 wsX5_asNumber E (rmN 0) := hX
  show GG x 0 0 (([] : va_W)) 0 [(0, .int (bI c))] []
  refine g_iload_n hX dX5_asNumber_0 0 rfl ?_
  refine g_if_eq hX 8 dX5_asNumber_1 (by decide) (fun c1 => ?_) (fun c1 => ?_)
  · replace c1 := bI_0.mp c1
    refine g_iconst hX (nI 0) dX5_asNumber_8 rfl ?_
    exact g_eq rfl rfl (congrArg (fun z => [Value.int z]) (bret_f (by simp [c1]))) (hret () _ _ trivial dX5_asNumber_9)
  · replace c1 := mt bI_0.mpr c1
    replace c1 := bNf c1
    refine g_iconst hX (nI 1) dX5_asNumber_4 rfl ?_
    refine g_goto hX 9 dX5_asNumber_5 (by decide) ?_
    exact g_eq rfl rfl (congrArg (fun z => [Value.int z]) (bret_t (by simp [c1]))) (hret () _ _ trivial dX5_asNumber_9)
set_option maxHeartbeats 4000000 in
set_option maxRecDepth 100000 in
theorem c_X5_isBitOf (l : Launch) (E : EV) (v : Nat) (s : Nat) (hv : v < 2 ^ 31) (hs : s < 32) : KI l yX5_isBitOf wsX5_isBitOf (rmN 0) E (σ := Unit) [.int (nI v), .int (nI s)] (([] : va_W)) (fun _ => True) (fun _ => (bI (v.testBit s))) (fun _ => ([] : va_W)) 0 0 := by
  refine KI.of (cc := cX5_isBitOf) (maxL := 2) (ty := .boolean) (hnar := fun _ _ => nar_b _) rfl rfl rfl (fun x hX hin hret hnL => ?_)
  replace hX : CX x l cX5_isBitOf RX5 wsX5_isBitOf E (rmN 0) := hX
  show GG x 0 0 (([] : va_W)) 0 [(0, .int (nI v)), (1, .int (nI s))] []
  refine g_iload_n hX dX5_isBitOf_0 0 rfl ?_
  refine g_iload_n hX dX5_isBitOf_1 1 rfl ?_
  refine g_ishr hX (nI (v >>> s)) dX5_isBitOf_2 (sh_r (by omega) (by omega)) ?_
  refine g_iconst hX (nI 1) dX5_isBitOf_3 rfl ?_
  refine g_iand hX (bI (v.testBit s)) dX5_isBitOf_4 (and1_b _ _) ?_
  refine g_iconst hX (nI 1) dX5_isBitOf_5 rfl ?_
  refine g_icmp_ne hX 13 dX5_isBitOf_6 (by decide) (fun c6 => ?_) (fun c6 => ?_)
  · replace c6 := mt bI_1.mpr c6
    replace c6 := bNt c6
    refine g_iconst hX (nI 0) dX5_isBitOf_13 rfl ?_
    exact g_eq rfl rfl (congrArg (fun z => [Value.int z]) (bret_f (by simp [c6]))) (hret () _ _ trivial dX5_isBitOf_14)
  · replace c6 := bI_1.mp c6
    refine g_iconst hX (nI 1) dX5_isBitOf_9 rfl ?_
    refine g_goto hX 14 dX5_isBitOf_10 (by decide) ?_
    exact g_eq rfl rfl (congrArg (fun z => [Value.int z]) (bret_t (by simp [c6]))) (hret () _ _ trivial dX5_isBitOf_14)
set_option maxHeartbeats 4000000 in
set_option maxRecDepth 100000 in
theorem c_X5_isAmong (l : Launch) (E : EV) (v : Nat) (s : Nat) (hv : v < 2 ^ 64) (hs : s < 64) : KI l yX5_isAmong wsX5_isAmong (rmN 0) E (σ := Unit) [.long (lN v), .int (nI s)] (([] : va_W)) (fun _ => True) (fun _ => (bI (v.testBit s))) (fun _ => ([] : va_W)) 0 0 := by
  refine KI.of (cc := cX5_isAmong) (maxL := 3) (ty := .boolean) (hnar := fun _ _ => nar_b _) rfl rfl rfl (fun x hX hin hret hnL => ?_)
  replace hX : CX x l cX5_isAmong RX5 wsX5_isAmong E (rmN 0) := hX
  show GG x 0 0 (([] : va_W)) 0 [(0, .long (lN v)), (2, .int (nI s))] []
  refine g_lload_n hX dX5_isAmong_0 0 rfl ?_
  refine g_iload_n hX dX5_isAmong_1 1 rfl ?_
  refine g_lushr hX (lN (v / 2 ^ s)) dX5_isAmong_2 (wb_shr (by omega) (by omega)) ?_
  refine g_lconst hX (lN 1) dX5_isAmong_3 rfl ?_
  refine g_land hX (lN ((v / 2 ^ s) &&& 1)) dX5_isAmong_4 (fb_andL _ _) ?_
  refine g_lconst hX (lN 1) dX5_isAmong_5 rfl ?_
  refine g_lcmp hX (lg_cmp (lN ((v / 2 ^ s) &&& 1)) (lN 1)) dX5_isAmong_6 rfl ?_
  refine g_if_ne hX 14 dX5_isAmong_7 (by decide) (fun c7 => ?_) (fun c7 => ?_)
  · replace c7 := mt ((lcmp_l (and_lt (by decide)) (by decide)).trans tb_and1).mpr c7
    replace c7 := bNt c7
    refine g_iconst hX (nI 0) dX5_isAmong_14 rfl ?_
    exact g_eq rfl rfl (congrArg (fun z => [Value.int z]) (bret_f (by simp [c7]))) (hret () _ _ trivial dX5_isAmong_15)
  · replace c7 := ((lcmp_l (and_lt (by decide)) (by decide)).trans tb_and1).mp c7
    refine g_iconst hX (nI 1) dX5_isAmong_10 rfl ?_
    refine g_goto hX 15 dX5_isAmong_11 (by decide) ?_
    exact g_eq rfl rfl (congrArg (fun z => [Value.int z]) (bret_t (by simp [c7]))) (hret () _ _ trivial dX5_isAmong_15)
set_option maxHeartbeats 4000000 in
set_option maxRecDepth 100000 in
theorem c_X0_isThere (l : Launch) (E : EV) (a : Nat → Nat) (C : FC) (x0 : Int32)  : KI l yX0_isThere wsX0_isThere (rmN 0) E (σ := Unit) [.ref (a 0), .int x0] (fw E a C) (fun _ => True) (fun _ => (bI (thB C x0))) (fun _ => fw E a C) 0 0 := by
  refine KI.of (cc := cX0_isThere) (maxL := 2) (ty := .boolean) (hnar := fun _ _ => nar_b _) rfl rfl rfl (fun x hX hin hret hnL => ?_)
  replace hX : CX x l cX0_isThere RX0 wsX0_isThere E (rmN 0) := hX
  show GG x 0 0 (fw E a C) 0 [(0, .ref (a 0)), (1, .int x0)] []
  have inRX0 : ∀ w ∈ wsX00, w ∈ wsX0_isThere := by decide +kernel
  have fl38 : Cond.fieldLink RX0 38 "LieForce$Force" "sayings" "I" ∈ wsX0_isThere := by decide +kernel
  refine g_iload_n hX dX0_isThere_0 1 rfl ?_
  refine g_if_lt hX 22 dX0_isThere_1 (by decide) (fun c1 => ?_) (fun c1 => ?_)
  · skip
    refine g_iconst hX (nI 0) dX0_isThere_22 rfl ?_
    exact g_eq rfl rfl (congrArg (fun z => [Value.int z]) (bret_f (by simp [thB, c1]))) (hret () _ _ trivial dX0_isThere_23)
  · skip
    refine g_iload_n hX dX0_isThere_4 1 rfl ?_
    refine g_aload_n hX dX0_isThere_5 0 rfl ?_
    refine g_get hX (v := .int (nI (cN C))) 0 inRX0 rfl rfl 1 rfl fl38 rfl rfl dX0_isThere_6 ?_
    refine g_icmp_ge hX 22 dX0_isThere_9 (by decide) (fun c9 => ?_) (fun c9 => ?_)
    · skip
      refine g_iconst hX (nI 0) dX0_isThere_22 rfl ?_
      exact g_eq rfl rfl (congrArg (fun z => [Value.int z]) (bret_f (by simp [thB, c1, c9]))) (hret () _ _ trivial dX0_isThere_23)
    · skip
      refine g_iload_n hX dX0_isThere_12 1 rfl ?_
      refine g_bipush hX (nI 9) dX0_isThere_13 rfl ?_
      refine g_icmp_ge hX 22 dX0_isThere_15 (by decide) (fun c15 => ?_) (fun c15 => ?_)
      · skip
        refine g_iconst hX (nI 0) dX0_isThere_22 rfl ?_
        exact g_eq rfl rfl (congrArg (fun z => [Value.int z]) (bret_f (by simp [thB, c1, c9, c15]))) (hret () _ _ trivial dX0_isThere_23)
      · skip
        refine g_iconst hX (nI 1) dX0_isThere_18 rfl ?_
        refine g_goto hX 23 dX0_isThere_19 (by decide) ?_
        exact g_eq rfl rfl (congrArg (fun z => [Value.int z]) (bret_t (by simp [thB, c1, c9, c15]))) (hret () _ _ trivial dX0_isThere_23)
set_option maxHeartbeats 4000000 in
set_option maxRecDepth 100000 in
theorem c_X0_isThere_n (l : Launch) (E : EV) (a : Nat → Nat) (C : FC) (s : Nat) (hC : FO C) (hs : s < 2 ^ 31) : KI l yX0_isThere wsX0_isThere (rmN 0) E (σ := Unit) [.ref (a 0), .int (nI s)] (fw E a C) (fun _ => True) (fun _ => (bI (decide (s < cN C)))) (fun _ => fw E a C) 0 0 := by
  have h := c_X0_isThere l E a C (nI s)
  rw [thB_n hC hs] at h
  exact h
set_option maxHeartbeats 4000000 in
set_option maxRecDepth 100000 in
theorem c_X0_isThere_t (l : Launch) (E : EV) (a : Nat → Nat) (C : FC) (s : Nat) (hC : FO C) (hs : s < cN C) : KI l yX0_isThere wsX0_isThere (rmN 0) E (σ := Unit) [.ref (a 0), .int (nI s)] (fw E a C) (fun _ => True) (fun _ => (bI true)) (fun _ => fw E a C) 0 0 := by
  have h9 := hC.1
  have h := c_X0_isThere_n l E a C s hC (by omega)
  rw [decide_eq_true hs] at h
  exact h
set_option maxHeartbeats 4000000 in
set_option maxRecDepth 100000 in
theorem c_X0_isWithdrawn (l : Launch) (E : EV) (a : Nat → Nat) (C : FC) (s : Nat) (hC : FO C) (hs : s < 32) : KI l yX0_isWithdrawn wsX0_isWithdrawn (rmN 0) E (σ := Unit) [.ref (a 0), .int (nI s)] (fw E a C) (fun _ => True) (fun _ => (bI ((cG C).testBit s))) (fun _ => fw E a C) 0 0 := by
  refine KI.of (cc := cX0_isWithdrawn) (maxL := 2) (ty := .boolean) (hnar := fun _ _ => nar_b _) rfl rfl rfl (fun x hX hin hret hnL => ?_)
  replace hX : CX x l cX0_isWithdrawn RX0 wsX0_isWithdrawn E (rmN 0) := hX
  show GG x 0 0 (fw E a C) 0 [(0, .ref (a 0)), (1, .int (nI s))] []
  have inRX0 : ∀ w ∈ wsX00, w ∈ wsX0_isWithdrawn := by decide +kernel
  have fl41 : Cond.fieldLink RX0 41 "LieForce$Force" "withdrawn" "I" ∈ wsX0_isWithdrawn := by decide +kernel
  obtain ⟨h9, h64, h512, hT, hI⟩ := id hC
  refine g_aload_n hX dX0_isWithdrawn_0 0 rfl ?_
  refine g_get hX (v := .int (nI (cG C))) 0 inRX0 rfl rfl 2 rfl fl41 rfl rfl dX0_isWithdrawn_1 ?_
  refine g_iload_n hX dX0_isWithdrawn_4 1 rfl ?_
  refine g_ishr hX (nI ((cG C) >>> s)) dX0_isWithdrawn_5 (sh_r (by omega) (by omega)) ?_
  refine g_iconst hX (nI 1) dX0_isWithdrawn_6 rfl ?_
  refine g_iand hX (bI ((cG C).testBit s)) dX0_isWithdrawn_7 (and1_b _ _) ?_
  refine g_iconst hX (nI 1) dX0_isWithdrawn_8 rfl ?_
  refine g_icmp_ne hX 16 dX0_isWithdrawn_9 (by decide) (fun c9 => ?_) (fun c9 => ?_)
  · replace c9 := mt bI_1.mpr c9
    replace c9 := bNt c9
    refine g_iconst hX (nI 0) dX0_isWithdrawn_16 rfl ?_
    exact g_eq rfl rfl (congrArg (fun z => [Value.int z]) (bret_f (by simp [c9]))) (hret () _ _ trivial dX0_isWithdrawn_17)
  · replace c9 := bI_1.mp c9
    refine g_iconst hX (nI 1) dX0_isWithdrawn_12 rfl ?_
    refine g_goto hX 17 dX0_isWithdrawn_13 (by decide) ?_
    exact g_eq rfl rfl (congrArg (fun z => [Value.int z]) (bret_t (by simp [c9]))) (hret () _ _ trivial dX0_isWithdrawn_17)
set_option maxHeartbeats 4000000 in
set_option maxRecDepth 100000 in
theorem c_X0_isSoIn (l : Launch) (E : EV) (a : Nat → Nat) (C : FC) (s : Nat) (w : Nat) (hC : FO C) (hs : s < cN C) (hw : w < 64) : KI l yX0_isSoIn wsX0_isSoIn (rmN 1) E (σ := Unit) [.ref (a 0), .int (nI s), .int (nI w)] (fw E a C) (fun _ => True) (fun _ => (bI ((cW C s).testBit w))) (fun _ => fw E a C) 0 0 := by
  refine KI.of (cc := cX0_isSoIn) (maxL := 3) (ty := .boolean) (hnar := fun _ _ => nar_b _) rfl rfl rfl (fun x hX hin hret hnL => ?_)
  replace hX : CX x l cX0_isSoIn RX0 wsX0_isSoIn E (rmN 1) := hX
  show GG x 0 0 (fw E a C) 0 [(0, .ref (a 0)), (1, .int (nI s)), (2, .int (nI w))] []
  have inRX0 : ∀ w ∈ wsX00, w ∈ wsX0_isSoIn := by decide +kernel
  have fl31 : Cond.fieldLink RX0 31 "LieForce$Force" "soWorlds" "[J" ∈ wsX0_isSoIn := by decide +kernel
  obtain ⟨h9, h64, h512, hT, hI⟩ := id hC
  have hWs := (hI s hs).2
  refine g_aload_n hX dX0_isSoIn_0 0 rfl ?_
  refine g_iload_n hX dX0_isSoIn_1 1 rfl ?_
  have hc2 : CUT (fw E a C) (fw E a C) (([] : va_W)) [0, 1, 2, 3, 4, 5, 6] [] := ⟨rfl, rfl, rfl, rfl, rfl⟩
  refine g_VI hX hc2 [.int (nI s)] [] (c_X0_isThere_t l E a C s (by first | assumption | omega) (by omega)) gX0_isSoIn_X0_isThere calX0_isThere rfl rfl rfl rfl 0 rfl rfl rfl rfl dX0_isSoIn_2 rfl ⟨Nat.zero_le _, Nat.zero_le _⟩ (fun _ => fw E a C) [0, 1, 2, 3, 4, 5, 6] rfl (fun _ => rfl) (fun _ hu2 => ?_)
  refine g_if_eq hX 25 dX0_isSoIn_5 (by decide) (fun c5 => ?_) (fun c5 => ?_)
  · replace c5 := bI_0.mp c5
    exact absurd c5 (by simp)
  · replace c5 := mt bI_0.mpr c5
    replace c5 := bNf c5
    refine g_aload_n hX dX0_isSoIn_8 0 rfl ?_
    refine g_get hX (v := .ref (a 6)) 0 inRX0 rfl rfl 10 rfl fl31 rfl rfl dX0_isSoIn_9 ?_
    refine g_iload_n hX dX0_isSoIn_12 1 rfl ?_
    refine g_lald hX (lN (cW C s)) 6 1 rfl rfl (vp_in_nI (by omega) (by omega)) (ald_n (g := fun j => lN (cW C j)) (i := s) (by omega)) dX0_isSoIn_13 ?_
    refine g_iload_n hX dX0_isSoIn_14 2 rfl ?_
    have hc15 : CUT (fw E a C) (([] : va_W)) (fw E a C) [] [0, 1, 2, 3, 4, 5, 6] := ⟨rfl, rfl, rfl, rfl, rfl⟩
    refine g_NI hX hc15 [.long (lN (cW C s)), .int (nI w)] [] (c_X5_isAmong l E (cW C s) w hWs hw) gX0_isSoIn_X5_isAmong_n55 calX5_isAmong rfl rfl (by decide +kernel) (by decide +kernel) (by decide +kernel) rfl rfl dX0_isSoIn_15 rfl ⟨Nat.zero_le _, Nat.zero_le _⟩ (fun _ => fw E a C) [0, 1, 2, 3, 4, 5, 6] rfl (fun _ => rfl) (fun _ hu15 => ?_)
    refine g_if_eq hX 25 dX0_isSoIn_18 (by decide) (fun c18 => ?_) (fun c18 => ?_)
    · replace c18 := bI_0.mp c18
      refine g_iconst hX (nI 0) dX0_isSoIn_25 rfl ?_
      exact g_eq rfl rfl (congrArg (fun z => [Value.int z]) (bret_f (by simp [c18]))) (hret () _ _ trivial dX0_isSoIn_26)
    · replace c18 := mt bI_0.mpr c18
      replace c18 := bNf c18
      refine g_iconst hX (nI 1) dX0_isSoIn_21 rfl ?_
      refine g_goto hX 26 dX0_isSoIn_22 (by decide) ?_
      exact g_eq rfl rfl (congrArg (fun z => [Value.int z]) (bret_t (by simp [c18]))) (hret () _ _ trivial dX0_isSoIn_26)
set_option maxHeartbeats 4000000 in
set_option maxRecDepth 100000 in
theorem c_X0_hasPoliceman (l : Launch) (E : EV) (a : Nat → Nat) (C : FC) (s : Nat) (hC : FO C) (hs : s < cN C) : KI l yX0_hasPoliceman wsX0_hasPoliceman (rmN 1) E (σ := Unit) [.ref (a 0), .int (nI s)] (fw E a C) (fun _ => True) (fun _ => (bI (pmB C s))) (fun _ => fw E a C) 0 0 := by
  refine KI.of (cc := cX0_hasPoliceman) (maxL := 2) (ty := .boolean) (hnar := fun _ _ => nar_b _) rfl rfl rfl (fun x hX hin hret hnL => ?_)
  replace hX : CX x l cX0_hasPoliceman RX0 wsX0_hasPoliceman E (rmN 1) := hX
  show GG x 0 0 (fw E a C) 0 [(0, .ref (a 0)), (1, .int (nI s))] []
  have inRX0 : ∀ w ∈ wsX00, w ∈ wsX0_hasPoliceman := by decide +kernel
  have fl31 : Cond.fieldLink RX0 31 "LieForce$Force" "soWorlds" "[J" ∈ wsX0_hasPoliceman := by decide +kernel
  have fl35 : Cond.fieldLink RX0 35 "LieForce$Force" "facts" "I" ∈ wsX0_hasPoliceman := by decide +kernel
  obtain ⟨h9, h64, h512, hT, hI⟩ := id hC
  have hWs := (hI s hs).2
  refine g_aload_n hX dX0_hasPoliceman_0 0 rfl ?_
  refine g_iload_n hX dX0_hasPoliceman_1 1 rfl ?_
  have hc2 : CUT (fw E a C) (fw E a C) (([] : va_W)) [0, 1, 2, 3, 4, 5, 6] [] := ⟨rfl, rfl, rfl, rfl, rfl⟩
  refine g_VI hX hc2 [.int (nI s)] [] (c_X0_isThere_t l E a C s (by first | assumption | omega) (by omega)) gX0_hasPoliceman_X0_isThere calX0_isThere rfl rfl rfl rfl 0 rfl rfl rfl rfl dX0_hasPoliceman_2 rfl ⟨Nat.zero_le _, Nat.zero_le _⟩ (fun _ => fw E a C) [0, 1, 2, 3, 4, 5, 6] rfl (fun _ => rfl) (fun _ hu2 => ?_)
  refine g_if_eq hX 36 dX0_hasPoliceman_5 (by decide) (fun c5 => ?_) (fun c5 => ?_)
  · replace c5 := bI_0.mp c5
    exact absurd c5 (by simp)
  · replace c5 := mt bI_0.mpr c5
    replace c5 := bNf c5
    refine g_aload_n hX dX0_hasPoliceman_8 0 rfl ?_
    refine g_iload_n hX dX0_hasPoliceman_9 1 rfl ?_
    have hc10 : CUT (fw E a C) (fw E a C) (([] : va_W)) [0, 1, 2, 3, 4, 5, 6] [] := ⟨rfl, rfl, rfl, rfl, rfl⟩
    refine g_VI hX hc10 [.int (nI s)] [] (c_X0_isWithdrawn l E a C s (by first | assumption | omega) (by omega)) gX0_hasPoliceman_X0_isWithdrawn calX0_isWithdrawn rfl rfl rfl rfl 0 rfl rfl rfl rfl dX0_hasPoliceman_10 rfl ⟨Nat.zero_le _, Nat.zero_le _⟩ (fun _ => fw E a C) [0, 1, 2, 3, 4, 5, 6] rfl (fun _ => rfl) (fun _ hu10 => ?_)
    refine g_if_ne hX 36 dX0_hasPoliceman_13 (by decide) (fun c13 => ?_) (fun c13 => ?_)
    · replace c13 := mt bI_0.mpr c13
      replace c13 := bNf c13
      refine g_iconst hX (nI 0) dX0_hasPoliceman_36 rfl ?_
      exact g_eq rfl rfl (congrArg (fun z => [Value.int z]) (bret_f (by simp [pmB, c13]))) (hret () _ _ trivial dX0_hasPoliceman_37)
    · replace c13 := bI_0.mp c13
      refine g_aload_n hX dX0_hasPoliceman_16 0 rfl ?_
      refine g_get hX (v := .ref (a 6)) 0 inRX0 rfl rfl 10 rfl fl31 rfl rfl dX0_hasPoliceman_17 ?_
      refine g_iload_n hX dX0_hasPoliceman_20 1 rfl ?_
      refine g_lald hX (lN (cW C s)) 6 1 rfl rfl (vp_in_nI (by omega) (by omega)) (ald_n (g := fun j => lN (cW C j)) (i := s) (by omega)) dX0_hasPoliceman_21 ?_
      refine g_aload_n hX dX0_hasPoliceman_22 0 rfl ?_
      refine g_get hX (v := .int (nI (cF C))) 0 inRX0 rfl rfl 0 rfl fl35 rfl rfl dX0_hasPoliceman_23 ?_
      have hc26 : CUT (fw E a C) (([] : va_W)) (fw E a C) [] [0, 1, 2, 3, 4, 5, 6] := ⟨rfl, rfl, rfl, rfl, rfl⟩
      refine g_NI hX hc26 [.long (lN (cW C s)), .int (nI (cF C))] [] (c_X5_isAmong l E (cW C s) (cF C) hWs h64) gX0_hasPoliceman_X5_isAmong_n55 calX5_isAmong rfl rfl (by decide +kernel) (by decide +kernel) (by decide +kernel) rfl rfl dX0_hasPoliceman_26 rfl ⟨Nat.zero_le _, Nat.zero_le _⟩ (fun _ => fw E a C) [0, 1, 2, 3, 4, 5, 6] rfl (fun _ => rfl) (fun _ hu26 => ?_)
      refine g_if_ne hX 36 dX0_hasPoliceman_29 (by decide) (fun c29 => ?_) (fun c29 => ?_)
      · replace c29 := mt bI_0.mpr c29
        replace c29 := bNf c29
        refine g_iconst hX (nI 0) dX0_hasPoliceman_36 rfl ?_
        exact g_eq rfl rfl (congrArg (fun z => [Value.int z]) (bret_f (by simp [pmB, c13, c29]))) (hret () _ _ trivial dX0_hasPoliceman_37)
      · replace c29 := bI_0.mp c29
        refine g_iconst hX (nI 1) dX0_hasPoliceman_32 rfl ?_
        refine g_goto hX 37 dX0_hasPoliceman_33 (by decide) ?_
        exact g_eq rfl rfl (congrArg (fun z => [Value.int z]) (bret_t (by simp [pmB, c13, c29]))) (hret () _ _ trivial dX0_hasPoliceman_37)
set_option maxHeartbeats 4000000 in
set_option maxRecDepth 100000 in
theorem c_X0_hasServed (l : Launch) (E : EV) (a : Nat → Nat) (C : FC) (s : Nat) (hC : FO C) (hV : VB C) (hs : s < cN C) : KI l yX0_hasServed wsX0_hasServed (rmN 2) E (σ := Unit) [.ref (a 0), .int (nI s)] (fw E a C) (fun _ => True) (fun _ => (bI (hsB C s))) (fun _ => fw E a C) 0 0 := by
  refine KI.of (cc := cX0_hasServed) (maxL := 2) (ty := .boolean) (hnar := fun _ _ => nar_b _) rfl rfl rfl (fun x hX hin hret hnL => ?_)
  replace hX : CX x l cX0_hasServed RX0 wsX0_hasServed E (rmN 2) := hX
  show GG x 0 0 (fw E a C) 0 [(0, .ref (a 0)), (1, .int (nI s))] []
  have inRX0 : ∀ w ∈ wsX00, w ∈ wsX0_hasServed := by decide +kernel
  have fl28 : Cond.fieldLink RX0 28 "LieForce$Force" "served" "[I" ∈ wsX0_hasServed := by decide +kernel
  have fl9 : Cond.fieldLink RX0 9 "LieForce$Force" "term" "I" ∈ wsX0_hasServed := by decide +kernel
  obtain ⟨h9, h64, h512, hT, hI⟩ := id hC
  have hVs := hV s hs
  refine g_aload_n hX dX0_hasServed_0 0 rfl ?_
  refine g_iload_n hX dX0_hasServed_1 1 rfl ?_
  have hc2 : CUT (fw E a C) (fw E a C) (([] : va_W)) [0, 1, 2, 3, 4, 5, 6] [] := ⟨rfl, rfl, rfl, rfl, rfl⟩
  refine g_VI hX hc2 [.int (nI s)] [] (c_X0_isThere_t l E a C s (by first | assumption | omega) (by omega)) gX0_hasServed_X0_isThere calX0_isThere rfl rfl rfl rfl 0 rfl rfl rfl rfl dX0_hasServed_2 rfl ⟨Nat.zero_le _, Nat.zero_le _⟩ (fun _ => fw E a C) [0, 1, 2, 3, 4, 5, 6] rfl (fun _ => rfl) (fun _ hu2 => ?_)
  refine g_if_eq hX 33 dX0_hasServed_5 (by decide) (fun c5 => ?_) (fun c5 => ?_)
  · replace c5 := bI_0.mp c5
    exact absurd c5 (by simp)
  · replace c5 := mt bI_0.mpr c5
    replace c5 := bNf c5
    refine g_aload_n hX dX0_hasServed_8 0 rfl ?_
    refine g_iload_n hX dX0_hasServed_9 1 rfl ?_
    have hc10 : CUT (fw E a C) (fw E a C) (([] : va_W)) [0, 1, 2, 3, 4, 5, 6] [] := ⟨rfl, rfl, rfl, rfl, rfl⟩
    refine g_VI hX hc10 [.int (nI s)] [] (c_X0_hasPoliceman l E a C s (by first | assumption | omega) (by omega)) gX0_hasServed_X0_hasPoliceman calX0_hasPoliceman rfl rfl rfl rfl 0 rfl rfl rfl rfl dX0_hasServed_10 rfl ⟨Nat.zero_le _, Nat.zero_le _⟩ (fun _ => fw E a C) [0, 1, 2, 3, 4, 5, 6] rfl (fun _ => rfl) (fun _ hu10 => ?_)
    refine g_if_eq hX 33 dX0_hasServed_13 (by decide) (fun c13 => ?_) (fun c13 => ?_)
    · replace c13 := bI_0.mp c13
      refine g_iconst hX (nI 0) dX0_hasServed_33 rfl ?_
      exact g_eq rfl rfl (congrArg (fun z => [Value.int z]) (bret_f (by simp [hsB, c13]))) (hret () _ _ trivial dX0_hasServed_34)
    · replace c13 := mt bI_0.mpr c13
      replace c13 := bNf c13
      refine g_aload_n hX dX0_hasServed_16 0 rfl ?_
      refine g_get hX (v := .ref (a 5)) 0 inRX0 rfl rfl 9 rfl fl28 rfl rfl dX0_hasServed_17 ?_
      refine g_iload_n hX dX0_hasServed_20 1 rfl ?_
      refine g_iald hX (nI (cV C s)) 5 0 rfl rfl (vp_in_nI (by omega) (by omega)) (ald_n (g := fun j => nI (cV C j)) (i := s) (by omega)) dX0_hasServed_21 ?_
      refine g_aload_n hX dX0_hasServed_22 0 rfl ?_
      refine g_get hX (v := .int (nI (cT C))) 0 inRX0 rfl rfl 4 rfl fl9 rfl rfl dX0_hasServed_23 ?_
      refine g_icmp_lt hX 33 dX0_hasServed_26 (by decide) (fun c26 => ?_) (fun c26 => ?_)
      · replace c26 := (nI_ltI (by omega) (by omega)).mp c26
        have c26 : ¬ cT C ≤ cV C s := by omega
        refine g_iconst hX (nI 0) dX0_hasServed_33 rfl ?_
        exact g_eq rfl rfl (congrArg (fun z => [Value.int z]) (bret_f (by simp [hsB, c13, c26]))) (hret () _ _ trivial dX0_hasServed_34)
      · replace c26 := mt (nI_ltI (by omega) (by omega)).mpr c26
        have c26 : cT C ≤ cV C s := by omega
        refine g_iconst hX (nI 1) dX0_hasServed_29 rfl ?_
        refine g_goto hX 34 dX0_hasServed_30 (by decide) ?_
        exact g_eq rfl rfl (congrArg (fun z => [Value.int z]) (bret_t (by simp [hsB, c13, c26]))) (hret () _ _ trivial dX0_hasServed_34)
set_option maxHeartbeats 4000000 in
set_option maxRecDepth 100000 in
theorem c_X0_canBeWithdrawn (l : Launch) (E : EV) (a : Nat → Nat) (C : FC) (s : Nat) (hC : FO C) (hV : VB C) (hs : s < cN C) : KI l yX0_canBeWithdrawn wsX0_canBeWithdrawn (rmN 3) E (σ := Unit) [.ref (a 0), .int (nI s)] (fw E a C) (fun _ => True) (fun _ => (bI (cwB C s))) (fun _ => fw E a C) 0 0 := by
  refine KI.of (cc := cX0_canBeWithdrawn) (maxL := 2) (ty := .boolean) (hnar := fun _ _ => nar_b _) rfl rfl rfl (fun x hX hin hret hnL => ?_)
  replace hX : CX x l cX0_canBeWithdrawn RX0 wsX0_canBeWithdrawn E (rmN 3) := hX
  show GG x 0 0 (fw E a C) 0 [(0, .ref (a 0)), (1, .int (nI s))] []
  obtain ⟨h9, h64, h512, hT, hI⟩ := id hC
  refine g_aload_n hX dX0_canBeWithdrawn_0 0 rfl ?_
  refine g_iload_n hX dX0_canBeWithdrawn_1 1 rfl ?_
  have hc2 : CUT (fw E a C) (fw E a C) (([] : va_W)) [0, 1, 2, 3, 4, 5, 6] [] := ⟨rfl, rfl, rfl, rfl, rfl⟩
  refine g_VI hX hc2 [.int (nI s)] [] (c_X0_isThere_t l E a C s (by first | assumption | omega) (by omega)) gX0_canBeWithdrawn_X0_isThere calX0_isThere rfl rfl rfl rfl 0 rfl rfl rfl rfl dX0_canBeWithdrawn_2 rfl ⟨Nat.zero_le _, Nat.zero_le _⟩ (fun _ => fw E a C) [0, 1, 2, 3, 4, 5, 6] rfl (fun _ => rfl) (fun _ hu2 => ?_)
  refine g_if_eq hX 28 dX0_canBeWithdrawn_5 (by decide) (fun c5 => ?_) (fun c5 => ?_)
  · replace c5 := bI_0.mp c5
    exact absurd c5 (by simp)
  · replace c5 := mt bI_0.mpr c5
    replace c5 := bNf c5
    refine g_aload_n hX dX0_canBeWithdrawn_8 0 rfl ?_
    refine g_iload_n hX dX0_canBeWithdrawn_9 1 rfl ?_
    have hc10 : CUT (fw E a C) (fw E a C) (([] : va_W)) [0, 1, 2, 3, 4, 5, 6] [] := ⟨rfl, rfl, rfl, rfl, rfl⟩
    refine g_VI hX hc10 [.int (nI s)] [] (c_X0_isWithdrawn l E a C s (by first | assumption | omega) (by omega)) gX0_canBeWithdrawn_X0_isWithdrawn calX0_isWithdrawn rfl rfl rfl rfl 0 rfl rfl rfl rfl dX0_canBeWithdrawn_10 rfl ⟨Nat.zero_le _, Nat.zero_le _⟩ (fun _ => fw E a C) [0, 1, 2, 3, 4, 5, 6] rfl (fun _ => rfl) (fun _ hu10 => ?_)
    refine g_if_ne hX 28 dX0_canBeWithdrawn_13 (by decide) (fun c13 => ?_) (fun c13 => ?_)
    · replace c13 := mt bI_0.mpr c13
      replace c13 := bNf c13
      refine g_iconst hX (nI 0) dX0_canBeWithdrawn_28 rfl ?_
      exact g_eq rfl rfl (congrArg (fun z => [Value.int z]) (bret_f (by simp [cwB, c13]))) (hret () _ _ trivial dX0_canBeWithdrawn_29)
    · replace c13 := bI_0.mp c13
      refine g_aload_n hX dX0_canBeWithdrawn_16 0 rfl ?_
      refine g_iload_n hX dX0_canBeWithdrawn_17 1 rfl ?_
      have hc18 : CUT (fw E a C) (fw E a C) (([] : va_W)) [0, 1, 2, 3, 4, 5, 6] [] := ⟨rfl, rfl, rfl, rfl, rfl⟩
      refine g_VI hX hc18 [.int (nI s)] [] (c_X0_hasServed l E a C s (by first | assumption | omega) (by first | assumption | omega) (by omega)) gX0_canBeWithdrawn_X0_hasServed calX0_hasServed rfl rfl rfl rfl 0 rfl rfl rfl rfl dX0_canBeWithdrawn_18 rfl ⟨Nat.zero_le _, Nat.zero_le _⟩ (fun _ => fw E a C) [0, 1, 2, 3, 4, 5, 6] rfl (fun _ => rfl) (fun _ hu18 => ?_)
      refine g_if_ne hX 28 dX0_canBeWithdrawn_21 (by decide) (fun c21 => ?_) (fun c21 => ?_)
      · replace c21 := mt bI_0.mpr c21
        replace c21 := bNf c21
        refine g_iconst hX (nI 0) dX0_canBeWithdrawn_28 rfl ?_
        exact g_eq rfl rfl (congrArg (fun z => [Value.int z]) (bret_f (by simp [cwB, c13, c21]))) (hret () _ _ trivial dX0_canBeWithdrawn_29)
      · replace c21 := bI_0.mp c21
        refine g_iconst hX (nI 1) dX0_canBeWithdrawn_24 rfl ?_
        refine g_goto hX 29 dX0_canBeWithdrawn_25 (by decide) ?_
        exact g_eq rfl rfl (congrArg (fun z => [Value.int z]) (bret_t (by simp [cwB, c13, c21]))) (hret () _ _ trivial dX0_canBeWithdrawn_29)
set_option maxHeartbeats 4000000 in
set_option maxRecDepth 100000 in
theorem c_X0_areClashing (l : Launch) (E : EV) (a : Nat → Nat) (C : FC) (s : Nat) (t : Nat) (hC : FO C) (hs : s < cN C) (ht : t < cN C) : KI l yX0_areClashing wsX0_areClashing (rmN 1) E (σ := Unit) [.ref (a 0), .int (nI s), .int (nI t)] (fw E a C) (fun _ => True) (fun _ => (bI (clB C s t))) (fun _ => fw E a C) 0 0 := by
  refine KI.of (cc := cX0_areClashing) (maxL := 3) (ty := .boolean) (hnar := fun _ _ => nar_b _) rfl rfl rfl (fun x hX hin hret hnL => ?_)
  replace hX : CX x l cX0_areClashing RX0 wsX0_areClashing E (rmN 1) := hX
  show GG x 0 0 (fw E a C) 0 [(0, .ref (a 0)), (1, .int (nI s)), (2, .int (nI t))] []
  have inRX0 : ∀ w ∈ wsX00, w ∈ wsX0_areClashing := by decide +kernel
  have fl31 : Cond.fieldLink RX0 31 "LieForce$Force" "soWorlds" "[J" ∈ wsX0_areClashing := by decide +kernel
  obtain ⟨h9, h64, h512, hT, hI⟩ := id hC
  have hWs := (hI s hs).2
  have hWt := (hI t ht).2
  refine g_aload_n hX dX0_areClashing_0 0 rfl ?_
  refine g_iload_n hX dX0_areClashing_1 1 rfl ?_
  have hc2 : CUT (fw E a C) (fw E a C) (([] : va_W)) [0, 1, 2, 3, 4, 5, 6] [] := ⟨rfl, rfl, rfl, rfl, rfl⟩
  refine g_VI hX hc2 [.int (nI s)] [] (c_X0_isThere_t l E a C s (by first | assumption | omega) (by omega)) gX0_areClashing_X0_isThere calX0_isThere rfl rfl rfl rfl 0 rfl rfl rfl rfl dX0_areClashing_2 rfl ⟨Nat.zero_le _, Nat.zero_le _⟩ (fun _ => fw E a C) [0, 1, 2, 3, 4, 5, 6] rfl (fun _ => rfl) (fun _ hu2 => ?_)
  refine g_if_eq hX 38 dX0_areClashing_5 (by decide) (fun c5 => ?_) (fun c5 => ?_)
  · replace c5 := bI_0.mp c5
    exact absurd c5 (by simp)
  · replace c5 := mt bI_0.mpr c5
    replace c5 := bNf c5
    refine g_aload_n hX dX0_areClashing_8 0 rfl ?_
    refine g_iload_n hX dX0_areClashing_9 2 rfl ?_
    have hc10 : CUT (fw E a C) (fw E a C) (([] : va_W)) [0, 1, 2, 3, 4, 5, 6] [] := ⟨rfl, rfl, rfl, rfl, rfl⟩
    refine g_VI hX hc10 [.int (nI t)] [] (c_X0_isThere_t l E a C t (by first | assumption | omega) ht) gX0_areClashing_X0_isThere calX0_isThere rfl rfl rfl rfl 0 rfl rfl rfl rfl dX0_areClashing_10 rfl ⟨Nat.zero_le _, Nat.zero_le _⟩ (fun _ => fw E a C) [0, 1, 2, 3, 4, 5, 6] rfl (fun _ => rfl) (fun _ hu10 => ?_)
    refine g_if_eq hX 38 dX0_areClashing_13 (by decide) (fun c13 => ?_) (fun c13 => ?_)
    · replace c13 := bI_0.mp c13
      exact absurd c13 (by simp)
    · replace c13 := mt bI_0.mpr c13
      replace c13 := bNf c13
      refine g_aload_n hX dX0_areClashing_16 0 rfl ?_
      refine g_get hX (v := .ref (a 6)) 0 inRX0 rfl rfl 10 rfl fl31 rfl rfl dX0_areClashing_17 ?_
      refine g_iload_n hX dX0_areClashing_20 1 rfl ?_
      refine g_lald hX (lN (cW C s)) 6 1 rfl rfl (vp_in_nI (by omega) (by omega)) (ald_n (g := fun j => lN (cW C j)) (i := s) (by omega)) dX0_areClashing_21 ?_
      refine g_aload_n hX dX0_areClashing_22 0 rfl ?_
      refine g_get hX (v := .ref (a 6)) 0 inRX0 rfl rfl 10 rfl fl31 rfl rfl dX0_areClashing_23 ?_
      refine g_iload_n hX dX0_areClashing_26 2 rfl ?_
      refine g_lald hX (lN (cW C t)) 6 1 rfl rfl (vp_in_nI (by omega) (by omega)) (ald_n (g := fun j => lN (cW C j)) (i := t) (by omega)) dX0_areClashing_27 ?_
      refine g_land hX (lN ((cW C s) &&& (cW C t))) dX0_areClashing_28 (fb_andL _ _) ?_
      refine g_lconst hX (lN 0) dX0_areClashing_29 rfl ?_
      refine g_lcmp hX (lg_cmp (lN ((cW C s) &&& (cW C t))) (lN 0)) dX0_areClashing_30 rfl ?_
      refine g_if_ne hX 38 dX0_areClashing_31 (by decide) (fun c31 => ?_) (fun c31 => ?_)
      · replace c31 := mt (lcmp_l (by first | exact and_lt hWt | decide) (by first | exact and_lt hWt | decide)).mpr c31
        refine g_iconst hX (nI 0) dX0_areClashing_38 rfl ?_
        exact g_eq rfl rfl (congrArg (fun z => [Value.int z]) (bret_f (by simp [clB, c31]))) (hret () _ _ trivial dX0_areClashing_39)
      · replace c31 := (lcmp_l (by first | exact and_lt hWt | decide) (by first | exact and_lt hWt | decide)).mp c31
        refine g_iconst hX (nI 1) dX0_areClashing_34 rfl ?_
        refine g_goto hX 39 dX0_areClashing_35 (by decide) ?_
        exact g_eq rfl rfl (congrArg (fun z => [Value.int z]) (bret_t (by simp [clB, c31]))) (hret () _ _ trivial dX0_areClashing_39)
set_option maxHeartbeats 4000000 in
set_option maxRecDepth 100000 in
theorem c_X0_mayMarry (l : Launch) (E : EV) (a : Nat → Nat) (C : FC) (s : Nat) (t : Nat) (hC : FO C) (hs : s < cN C) (ht : t < cN C) : KI l yX0_mayMarry wsX0_mayMarry (rmN 2) E (σ := Unit) [.ref (a 0), .int (nI s), .int (nI t)] (fw E a C) (fun _ => True) (fun _ => (bI (mmB C s t))) (fun _ => fw E a C) 0 0 := by
  refine KI.of (cc := cX0_mayMarry) (maxL := 3) (ty := .boolean) (hnar := fun _ _ => nar_b _) rfl rfl rfl (fun x hX hin hret hnL => ?_)
  replace hX : CX x l cX0_mayMarry RX0 wsX0_mayMarry E (rmN 2) := hX
  show GG x 0 0 (fw E a C) 0 [(0, .ref (a 0)), (1, .int (nI s)), (2, .int (nI t))] []
  have inRX0 : ∀ w ∈ wsX00, w ∈ wsX0_mayMarry := by decide +kernel
  have fl25 : Cond.fieldLink RX0 25 "LieForce$Force" "persons" "[I" ∈ wsX0_mayMarry := by decide +kernel
  obtain ⟨h9, h64, h512, hT, hI⟩ := id hC
  have hPs := (hI s hs).1
  have hPt := (hI t ht).1
  refine g_aload_n hX dX0_mayMarry_0 0 rfl ?_
  refine g_iload_n hX dX0_mayMarry_1 1 rfl ?_
  have hc2 : CUT (fw E a C) (fw E a C) (([] : va_W)) [0, 1, 2, 3, 4, 5, 6] [] := ⟨rfl, rfl, rfl, rfl, rfl⟩
  refine g_VI hX hc2 [.int (nI s)] [] (c_X0_isThere_t l E a C s (by first | assumption | omega) (by omega)) gX0_mayMarry_X0_isThere calX0_isThere rfl rfl rfl rfl 0 rfl rfl rfl rfl dX0_mayMarry_2 rfl ⟨Nat.zero_le _, Nat.zero_le _⟩ (fun _ => fw E a C) [0, 1, 2, 3, 4, 5, 6] rfl (fun _ => rfl) (fun _ hu2 => ?_)
  refine g_if_eq hX 44 dX0_mayMarry_5 (by decide) (fun c5 => ?_) (fun c5 => ?_)
  · replace c5 := bI_0.mp c5
    exact absurd c5 (by simp)
  · replace c5 := mt bI_0.mpr c5
    replace c5 := bNf c5
    refine g_aload_n hX dX0_mayMarry_8 0 rfl ?_
    refine g_iload_n hX dX0_mayMarry_9 2 rfl ?_
    have hc10 : CUT (fw E a C) (fw E a C) (([] : va_W)) [0, 1, 2, 3, 4, 5, 6] [] := ⟨rfl, rfl, rfl, rfl, rfl⟩
    refine g_VI hX hc10 [.int (nI t)] [] (c_X0_isThere_t l E a C t (by first | assumption | omega) ht) gX0_mayMarry_X0_isThere calX0_isThere rfl rfl rfl rfl 0 rfl rfl rfl rfl dX0_mayMarry_10 rfl ⟨Nat.zero_le _, Nat.zero_le _⟩ (fun _ => fw E a C) [0, 1, 2, 3, 4, 5, 6] rfl (fun _ => rfl) (fun _ hu10 => ?_)
    refine g_if_eq hX 44 dX0_mayMarry_13 (by decide) (fun c13 => ?_) (fun c13 => ?_)
    · replace c13 := bI_0.mp c13
      exact absurd c13 (by simp)
    · replace c13 := mt bI_0.mpr c13
      replace c13 := bNf c13
      refine g_aload_n hX dX0_mayMarry_16 0 rfl ?_
      refine g_get hX (v := .ref (a 4)) 0 inRX0 rfl rfl 8 rfl fl25 rfl rfl dX0_mayMarry_17 ?_
      refine g_iload_n hX dX0_mayMarry_20 1 rfl ?_
      refine g_iald hX (nI (cP C s)) 4 0 rfl rfl (vp_in_nI (by omega) (by omega)) (ald_n (g := fun j => nI (cP C j)) (i := s) (by omega)) dX0_mayMarry_21 ?_
      refine g_aload_n hX dX0_mayMarry_22 0 rfl ?_
      refine g_get hX (v := .ref (a 4)) 0 inRX0 rfl rfl 8 rfl fl25 rfl rfl dX0_mayMarry_23 ?_
      refine g_iload_n hX dX0_mayMarry_26 2 rfl ?_
      refine g_iald hX (nI (cP C t)) 4 0 rfl rfl (vp_in_nI (by omega) (by omega)) (ald_n (g := fun j => nI (cP C j)) (i := t) (by omega)) dX0_mayMarry_27 ?_
      refine g_icmp_eq hX 44 dX0_mayMarry_28 (by decide) (fun c28 => ?_) (fun c28 => ?_)
      · replace c28 := (nI_eq (by omega) (by omega)).mp c28
        refine g_iconst hX (nI 0) dX0_mayMarry_44 rfl ?_
        exact g_eq rfl rfl (congrArg (fun z => [Value.int z]) (bret_f (by simp [mmB, c28]))) (hret () _ _ trivial dX0_mayMarry_45)
      · replace c28 := mt (nI_eq (by omega) (by omega)).mpr c28
        refine g_aload_n hX dX0_mayMarry_31 0 rfl ?_
        refine g_iload_n hX dX0_mayMarry_32 1 rfl ?_
        refine g_iload_n hX dX0_mayMarry_33 2 rfl ?_
        have hc34 : CUT (fw E a C) (fw E a C) (([] : va_W)) [0, 1, 2, 3, 4, 5, 6] [] := ⟨rfl, rfl, rfl, rfl, rfl⟩
        refine g_VI hX hc34 [.int (nI s), .int (nI t)] [] (c_X0_areClashing l E a C s t (by first | assumption | omega) (by omega) (by omega)) gX0_mayMarry_X0_areClashing calX0_areClashing rfl rfl rfl rfl 0 rfl rfl rfl rfl dX0_mayMarry_34 rfl ⟨Nat.zero_le _, Nat.zero_le _⟩ (fun _ => fw E a C) [0, 1, 2, 3, 4, 5, 6] rfl (fun _ => rfl) (fun _ hu34 => ?_)
        refine g_if_ne hX 44 dX0_mayMarry_37 (by decide) (fun c37 => ?_) (fun c37 => ?_)
        · replace c37 := mt bI_0.mpr c37
          replace c37 := bNf c37
          refine g_iconst hX (nI 0) dX0_mayMarry_44 rfl ?_
          exact g_eq rfl rfl (congrArg (fun z => [Value.int z]) (bret_f (by simp [mmB, c28, c37]))) (hret () _ _ trivial dX0_mayMarry_45)
        · replace c37 := bI_0.mp c37
          refine g_iconst hX (nI 1) dX0_mayMarry_40 rfl ?_
          refine g_goto hX 45 dX0_mayMarry_41 (by decide) ?_
          exact g_eq rfl rfl (congrArg (fun z => [Value.int z]) (bret_t (by simp [mmB, c28, c37]))) (hret () _ _ trivial dX0_mayMarry_45)
