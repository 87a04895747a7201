set_option maxHeartbeats 4000000 in
set_option maxRecDepth 100000 in
theorem c_X5_isWithin (l : Launch) (E : EV) (x0 : Int32) (lo : Int32) (hi : Int32)  : KI l yX5_isWithin wsX5_isWithin (rmN 0) E (σ := Unit) [.int x0, .int lo, .int hi] (([] : va_W)) (fun _ => True) (fun _ => (bI (win x0 lo hi))) (fun _ => ([] : va_W)) 0 0 := by
  refine KI.of (cc := cX5_isWithin) (maxL := 3) (ty := .boolean) (hnar := fun _ _ => nar_b _) rfl rfl rfl (fun x hX hin hret hnL => ?_)
  replace hX : CX x l cX5_isWithin RX5 wsX5_isWithin E (rmN 0) := hX
  show GG x 0 0 (([] : va_W)) 0 [(0, .int x0), (1, .int lo), (2, .int hi)] []
  refine g_iload_n hX dX5_isWithin_0 0 rfl ?_
  refine g_iload_n hX dX5_isWithin_1 1 rfl ?_
  refine g_icmp_lt hX 14 dX5_isWithin_2 (by decide) (fun c2 => ?_) (fun c2 => ?_)
  · skip
    refine g_iconst hX (nI 0) dX5_isWithin_14 rfl ?_
    exact g_eq rfl rfl (congrArg (fun z => [Value.int z]) (bret_f (by simp [win, c2]))) (hret () _ _ trivial dX5_isWithin_15)
  · skip
    refine g_iload_n hX dX5_isWithin_5 0 rfl ?_
    refine g_iload_n hX dX5_isWithin_6 2 rfl ?_
    refine g_icmp_gt hX 14 dX5_isWithin_7 (by decide) (fun c7 => ?_) (fun c7 => ?_)
    · skip
      refine g_iconst hX (nI 0) dX5_isWithin_14 rfl ?_
      exact g_eq rfl rfl (congrArg (fun z => [Value.int z]) (bret_f (by simp [win, c2, c7]))) (hret () _ _ trivial dX5_isWithin_15)
    · skip
      refine g_iconst hX (nI 1) dX5_isWithin_10 rfl ?_
      refine g_goto hX 15 dX5_isWithin_11 (by decide) ?_
      exact g_eq rfl rfl (congrArg (fun z => [Value.int z]) (bret_t (by simp [win, c2, c7]))) (hret () _ _ trivial dX5_isWithin_15)
set_option maxHeartbeats 4000000 in
set_option maxRecDepth 100000 in
theorem c_X5_isFact (l : Launch) (E : EV) (x0 : Int32)  : KI l yX5_isFact wsX5_isFact (rmN 1) E (σ := Unit) [.int x0] (([] : va_W)) (fun _ => True) (fun _ => (bI (win x0 (nI 0) (nI 5)))) (fun _ => ([] : va_W)) 0 0 := by
  refine KI.of (cc := cX5_isFact) (maxL := 1) (ty := .boolean) (hnar := fun _ _ => nar_b _) rfl rfl rfl (fun x hX hin hret hnL => ?_)
  replace hX : CX x l cX5_isFact RX5 wsX5_isFact E (rmN 1) := hX
  show GG x 0 0 (([] : va_W)) 0 [(0, .int x0)] []
  refine g_iload_n hX dX5_isFact_0 0 rfl ?_
  refine g_iconst hX (nI 0) dX5_isFact_1 rfl ?_
  refine g_iconst hX (nI 5) dX5_isFact_2 rfl ?_
  have hc3 : CUT (([] : va_W)) (([] : va_W)) (([] : va_W)) [] [] := ⟨rfl, rfl, rfl, rfl, rfl⟩
  refine g_TI hX hc3 [.int x0, .int (nI 0), .int (nI 5)] [] (c_X5_isWithin l E x0 (nI 0) (nI 5)) gX5_isFact_X5_isWithin calX5_isWithin rfl rfl rfl rfl dX5_isFact_3 rfl ⟨Nat.zero_le _, Nat.zero_le _⟩ (fun _ => ([] : va_W)) [] rfl (fun _ => rfl) (fun _ hu3 => ?_)
  exact g_eq rfl rfl rfl (hret () _ _ trivial dX5_isFact_6)
set_option maxHeartbeats 4000000 in
set_option maxRecDepth 100000 in
theorem c_X5_isLiteral (l : Launch) (E : EV) (x0 : Int32)  : KI l yX5_isLiteral wsX5_isLiteral (rmN 1) E (σ := Unit) [.int x0] (([] : va_W)) (fun _ => True) (fun _ => (bI (win x0 (nI 0) (nI 11)))) (fun _ => ([] : va_W)) 0 0 := by
  refine KI.of (cc := cX5_isLiteral) (maxL := 1) (ty := .boolean) (hnar := fun _ _ => nar_b _) rfl rfl rfl (fun x hX hin hret hnL => ?_)
  replace hX : CX x l cX5_isLiteral RX5 wsX5_isLiteral E (rmN 1) := hX
  show GG x 0 0 (([] : va_W)) 0 [(0, .int x0)] []
  refine g_iload_n hX dX5_isLiteral_0 0 rfl ?_
  refine g_iconst hX (nI 0) dX5_isLiteral_1 rfl ?_
  refine g_bipush hX (nI 11) dX5_isLiteral_2 rfl ?_
  have hc4 : CUT (([] : va_W)) (([] : va_W)) (([] : va_W)) [] [] := ⟨rfl, rfl, rfl, rfl, rfl⟩
  refine g_TI hX hc4 [.int x0, .int (nI 0), .int (nI 11)] [] (c_X5_isWithin l E x0 (nI 0) (nI 11)) gX5_isLiteral_X5_isWithin calX5_isWithin rfl rfl rfl rfl dX5_isLiteral_4 rfl ⟨Nat.zero_le _, Nat.zero_le _⟩ (fun _ => ([] : va_W)) [] rfl (fun _ => rfl) (fun _ hu4 => ?_)
  exact g_eq rfl rfl rfl (hret () _ _ trivial dX5_isLiteral_7)
set_option maxHeartbeats 4000000 in
set_option maxRecDepth 100000 in
theorem c_X5_isSaying (l : Launch) (E : EV) (x0 : Int32) (x1 : Int32) (x2 : Int32) (x3 : Int32)  : KI l yX5_isSaying wsX5_isSaying (rmN 2) E (σ := Unit) [.int x0, .int x1, .int x2, .int x3] (([] : va_W)) (fun _ => True) (fun _ => (bI (win x0 (nI 0) (nI 4) && win x1 (nI 0) (nI 11) && win x2 (nI 0) (nI 11) && win x3 (nI 0) (nI 5)))) (fun _ => ([] : va_W)) 0 0 := by
  refine KI.of (cc := cX5_isSaying) (maxL := 4) (ty := .boolean) (hnar := fun _ _ => nar_b _) rfl rfl rfl (fun x hX hin hret hnL => ?_)
  replace hX : CX x l cX5_isSaying RX5 wsX5_isSaying E (rmN 2) := hX
  show GG x 0 0 (([] : va_W)) 0 [(0, .int x0), (1, .int x1), (2, .int x2), (3, .int x3)] []
  refine g_iload_n hX dX5_isSaying_0 0 rfl ?_
  refine g_iconst hX (nI 0) dX5_isSaying_1 rfl ?_
  refine g_iconst hX (nI 4) dX5_isSaying_2 rfl ?_
  have hc3 : CUT (([] : va_W)) (([] : va_W)) (([] : va_W)) [] [] := ⟨rfl, rfl, rfl, rfl, rfl⟩
  refine g_TI hX hc3 [.int x0, .int (nI 0), .int (nI 4)] [] (c_X5_isWithin l E x0 (nI 0) (nI 4)) gX5_isSaying_X5_isWithin calX5_isWithin rfl rfl rfl rfl dX5_isSaying_3 rfl ⟨Nat.zero_le _, Nat.zero_le _⟩ (fun _ => ([] : va_W)) [] rfl (fun _ => rfl) (fun _ hu3 => ?_)
  refine g_if_eq hX 36 dX5_isSaying_6 (by decide) (fun c6 => ?_) (fun c6 => ?_)
  · replace c6 := bI_0.mp c6
    refine g_iconst hX (nI 0) dX5_isSaying_36 rfl ?_
    exact g_eq rfl rfl (congrArg (fun z => [Value.int z]) (bret_f (by simp [c6]))) (hret () _ _ trivial dX5_isSaying_37)
  · replace c6 := mt bI_0.mpr c6
    replace c6 := bNf c6
    refine g_iload_n hX dX5_isSaying_9 1 rfl ?_
    have hc10 : CUT (([] : va_W)) (([] : va_W)) (([] : va_W)) [] [] := ⟨rfl, rfl, rfl, rfl, rfl⟩
    refine g_TI hX hc10 [.int x1] [] (c_X5_isLiteral l E x1) gX5_isSaying_X5_isLiteral calX5_isLiteral rfl rfl rfl rfl dX5_isSaying_10 rfl ⟨Nat.zero_le _, Nat.zero_le _⟩ (fun _ => ([] : va_W)) [] rfl (fun _ => rfl) (fun _ hu10 => ?_)
    refine g_if_eq hX 36 dX5_isSaying_13 (by decide) (fun c13 => ?_) (fun c13 => ?_)
    · replace c13 := bI_0.mp c13
      refine g_iconst hX (nI 0) dX5_isSaying_36 rfl ?_
      exact g_eq rfl rfl (congrArg (fun z => [Value.int z]) (bret_f (by simp [c6, c13]))) (hret () _ _ trivial dX5_isSaying_37)
    · replace c13 := mt bI_0.mpr c13
      replace c13 := bNf c13
      refine g_iload_n hX dX5_isSaying_16 2 rfl ?_
      have hc17 : CUT (([] : va_W)) (([] : va_W)) (([] : va_W)) [] [] := ⟨rfl, rfl, rfl, rfl, rfl⟩
      refine g_TI hX hc17 [.int x2] [] (c_X5_isLiteral l E x2) gX5_isSaying_X5_isLiteral calX5_isLiteral rfl rfl rfl rfl dX5_isSaying_17 rfl ⟨Nat.zero_le _, Nat.zero_le _⟩ (fun _ => ([] : va_W)) [] rfl (fun _ => rfl) (fun _ hu17 => ?_)
      refine g_if_eq hX 36 dX5_isSaying_20 (by decide) (fun c20 => ?_) (fun c20 => ?_)
      · replace c20 := bI_0.mp c20
        refine g_iconst hX (nI 0) dX5_isSaying_36 rfl ?_
        exact g_eq rfl rfl (congrArg (fun z => [Value.int z]) (bret_f (by simp [c6, c13, c20]))) (hret () _ _ trivial dX5_isSaying_37)
      · replace c20 := mt bI_0.mpr c20
        replace c20 := bNf c20
        refine g_iload_n hX dX5_isSaying_23 3 rfl ?_
        refine g_iconst hX (nI 0) dX5_isSaying_24 rfl ?_
        refine g_iconst hX (nI 5) dX5_isSaying_25 rfl ?_
        have hc26 : CUT (([] : va_W)) (([] : va_W)) (([] : va_W)) [] [] := ⟨rfl, rfl, rfl, rfl, rfl⟩
        refine g_TI hX hc26 [.int x3, .int (nI 0), .int (nI 5)] [] (c_X5_isWithin l E x3 (nI 0) (nI 5)) gX5_isSaying_X5_isWithin calX5_isWithin rfl rfl rfl rfl dX5_isSaying_26 rfl ⟨Nat.zero_le _, Nat.zero_le _⟩ (fun _ => ([] : va_W)) [] rfl (fun _ => rfl) (fun _ hu26 => ?_)
        refine g_if_eq hX 36 dX5_isSaying_29 (by decide) (fun c29 => ?_) (fun c29 => ?_)
        · replace c29 := bI_0.mp c29
          refine g_iconst hX (nI 0) dX5_isSaying_36 rfl ?_
          exact g_eq rfl rfl (congrArg (fun z => [Value.int z]) (bret_f (by simp [c6, c13, c20, c29]))) (hret () _ _ trivial dX5_isSaying_37)
        · replace c29 := mt bI_0.mpr c29
          replace c29 := bNf c29
          refine g_iconst hX (nI 1) dX5_isSaying_32 rfl ?_
          refine g_goto hX 37 dX5_isSaying_33 (by decide) ?_
          exact g_eq rfl rfl (congrArg (fun z => [Value.int z]) (bret_t (by simp [c6, c13, c20, c29]))) (hret () _ _ trivial dX5_isSaying_37)
set_option maxHeartbeats 4000000 in
set_option maxRecDepth 100000 in
theorem c_X5_asNumber (l : Launch) (E : EV) (c : Bool)  : KI l yX5_asNumber wsX5_asNumber (rmN 0) E (σ := Unit) [.int (bI c)] (([] : va_W)) (fun _ => True) (fun _ => (bI c)) (fun _ => ([] : va_W)) 0 0 := by
  refine KI.of (cc := cX5_asNumber) (maxL := 1) (ty := .int) (hnar := fun _ _ => rfl) rfl rfl rfl (fun x hX hin hret hnL => ?_)
  replace hX : CX x l cX5_asNumber RX5 wsX5_asNumber E (rmN 0) := hX
  show GG x 0 0 (([] : va_W)) 0 [(0, .int (bI c))] []
  refine g_iload_n hX dX5_asNumber_0 0 rfl ?_
  refine g_if_eq hX 8 dX5_asNumber_1 (by decide) (fun c1 => ?_) (fun c1 => ?_)
  · replace c1 := bI_0.mp c1
    refine g_iconst hX (nI 0) dX5_asNumber_8 rfl ?_
    exact g_eq rfl rfl (congrArg (fun z => [Value.int z]) (bret_f (by simp [c1]))) (hret () _ _ trivial dX5_asNumber_9)
  · replace c1 := mt bI_0.mpr c1
    replace c1 := bNf c1
    refine g_iconst hX (nI 1) dX5_asNumber_4 rfl ?_
    refine g_goto hX 9 dX5_asNumber_5 (by decide) ?_
    exact g_eq rfl rfl (congrArg (fun z => [Value.int z]) (bret_t (by simp [c1]))) (hret () _ _ trivial dX5_asNumber_9)
set_option maxHeartbeats 4000000 in
set_option maxRecDepth 100000 in
theorem c_X5_isBitOf (l : Launch) (E : EV) (v : Nat) (s : Nat) (hv : v < 2 ^ 31) (hs : s < 32) : KI l yX5_isBitOf wsX5_isBitOf (rmN 0) E (σ := Unit) [.int (nI v), .int (nI s)] (([] : va_W)) (fun _ => True) (fun _ => (bI (v.testBit s))) (fun _ => ([] : va_W)) 0 0 := by
  refine KI.of (cc := cX5_isBitOf) (maxL := 2) (ty := .boolean) (hnar := fun _ _ => nar_b _) rfl rfl rfl (fun x hX hin hret hnL => ?_)
  replace hX : CX x l cX5_isBitOf RX5 wsX5_isBitOf E (rmN 0) := hX
  show GG x 0 0 (([] : va_W)) 0 [(0, .int (nI v)), (1, .int (nI s))] []
  refine g_iload_n hX dX5_isBitOf_0 0 rfl ?_
  refine g_iload_n hX dX5_isBitOf_1 1 rfl ?_
  refine g_ishr hX (nI (v >>> s)) dX5_isBitOf_2 (sh_r (by omega) (by omega)) ?_
  refine g_iconst hX (nI 1) dX5_isBitOf_3 rfl ?_
  refine g_iand hX (bI (v.testBit s)) dX5_isBitOf_4 (and1_b _ _) ?_
  refine g_iconst hX (nI 1) dX5_isBitOf_5 rfl ?_
  refine g_icmp_ne hX 13 dX5_isBitOf_6 (by decide) (fun c6 => ?_) (fun c6 => ?_)
  · replace c6 := mt bI_1.mpr c6
    replace c6 := bNt c6
    refine g_iconst hX (nI 0) dX5_isBitOf_13 rfl ?_
    exact g_eq rfl rfl (congrArg (fun z => [Value.int z]) (bret_f (by simp [c6]))) (hret () _ _ trivial dX5_isBitOf_14)
  · replace c6 := bI_1.mp c6
    refine g_iconst hX (nI 1) dX5_isBitOf_9 rfl ?_
    refine g_goto hX 14 dX5_isBitOf_10 (by decide) ?_
    exact g_eq rfl rfl (congrArg (fun z => [Value.int z]) (bret_t (by simp [c6]))) (hret () _ _ trivial dX5_isBitOf_14)
set_option maxHeartbeats 4000000 in
set_option maxRecDepth 100000 in
theorem c_X5_isAmong (l : Launch) (E : EV) (v : Nat) (s : Nat) (hv : v < 2 ^ 64) (hs : s < 64) : KI l yX5_isAmong wsX5_isAmong (rmN 0) E (σ := Unit) [.long (lN v), .int (nI s)] (([] : va_W)) (fun _ => True) (fun _ => (bI (v.testBit s))) (fun _ => ([] : va_W)) 0 0 := by
  refine KI.of (cc := cX5_isAmong) (maxL := 3) (ty := .boolean) (hnar := fun _ _ => nar_b _) rfl rfl rfl (fun x hX hin hret hnL => ?_)
  replace hX : CX x l cX5_isAmong RX5 wsX5_isAmong E (rmN 0) := hX
  show GG x 0 0 (([] : va_W)) 0 [(0, .long (lN v)), (2, .int (nI s))] []
  refine g_lload_n hX dX5_isAmong_0 0 rfl ?_
  refine g_iload_n hX dX5_isAmong_1 1 rfl ?_
  refine g_lushr hX (lN (v / 2 ^ s)) dX5_isAmong_2 (wb_shr (by omega) (by omega)) ?_
  refine g_lconst hX (lN 1) dX5_isAmong_3 rfl ?_
  refine g_land hX (lN ((v / 2 ^ s) &&& 1)) dX5_isAmong_4 (fb_andL _ _) ?_
  refine g_lconst hX (lN 1) dX5_isAmong_5 rfl ?_
  refine g_lcmp hX (lg_cmp (lN ((v / 2 ^ s) &&& 1)) (lN 1)) dX5_isAmong_6 rfl ?_
  refine g_if_ne hX 14 dX5_isAmong_7 (by decide) (fun c7 => ?_) (fun c7 => ?_)
  · replace c7 := mt ((lcmp_l (and_lt (by decide)) (by decide)).trans tb_and1).mpr c7
    replace c7 := bNt c7
    refine g_iconst hX (nI 0) dX5_isAmong_14 rfl ?_
    exact g_eq rfl rfl (congrArg (fun z => [Value.int z]) (bret_f (by simp [c7]))) (hret () _ _ trivial dX5_isAmong_15)
  · replace c7 := ((lcmp_l (and_lt (by decide)) (by decide)).trans tb_and1).mp c7
    refine g_iconst hX (nI 1) dX5_isAmong_10 rfl ?_
    refine g_goto hX 15 dX5_isAmong_11 (by decide) ?_
    exact g_eq rfl rfl (congrArg (fun z => [Value.int z]) (bret_t (by simp [c7]))) (hret () _ _ trivial dX5_isAmong_15)
set_option maxHeartbeats 4000000 in
set_option maxRecDepth 100000 in
theorem c_X0_isThere (l : Launch) (E : EV) (a : Nat → Nat) (C : FC) (x0 : Int32)  : KI l yX0_isThere wsX0_isThere (rmN 0) E (σ := Unit) [.ref (a 0), .int x0] (fw E a C) (fun _ => True) (fun _ => (bI (thB C x0))) (fun _ => fw E a C) 0 0 := by
  refine KI.of (cc := cX0_isThere) (maxL := 2) (ty := .boolean) (hnar := fun _ _ => nar_b _) rfl rfl rfl (fun x hX hin hret hnL => ?_)
  replace hX : CX x l cX0_isThere RX0 wsX0_isThere E (rmN 0) := hX
  show GG x 0 0 (fw E a C) 0 [(0, .ref (a 0)), (1, .int x0)] []
  have inRX0 : ∀ w ∈ wsX00, w ∈ wsX0_isThere := by decide +kernel
  have fl38 : Cond.fieldLink RX0 38 "LieForce$Force" "sayings" "I" ∈ wsX0_isThere := by decide +kernel
  refine g_iload_n hX dX0_isThere_0 1 rfl ?_
  refine g_if_lt hX 22 dX0_isThere_1 (by decide) (fun c1 => ?_) (fun c1 => ?_)
  · skip
    refine g_iconst hX (nI 0) dX0_isThere_22 rfl ?_
    exact g_eq rfl rfl (congrArg (fun z => [Value.int z]) (bret_f (by simp [thB, c1]))) (hret () _ _ trivial dX0_isThere_23)
  · skip
    refine g_iload_n hX dX0_isThere_4 1 rfl ?_
    refine g_aload_n hX dX0_isThere_5 0 rfl ?_
    refine g_get hX (v := .int (nI (cN C))) 0 inRX0 rfl rfl 1 rfl fl38 rfl rfl dX0_isThere_6 ?_
    refine g_icmp_ge hX 22 dX0_isThere_9 (by decide) (fun c9 => ?_) (fun c9 => ?_)
    · skip
      refine g_iconst hX (nI 0) dX0_isThere_22 rfl ?_
      exact g_eq rfl rfl (congrArg (fun z => [Value.int z]) (bret_f (by simp [thB, c1, c9]))) (hret () _ _ trivial dX0_isThere_23)
    · skip
      refine g_iload_n hX dX0_isThere_12 1 rfl ?_
      refine g_bipush hX (nI 9) dX0_isThere_13 rfl ?_
      refine g_icmp_ge hX 22 dX0_isThere_15 (by decide) (fun c15 => ?_) (fun c15 => ?_)
      · skip
        refine g_iconst hX (nI 0) dX0_isThere_22 rfl ?_
        exact g_eq rfl rfl (congrArg (fun z => [Value.int z]) (bret_f (by simp [thB, c1, c9, c15]))) (hret () _ _ trivial dX0_isThere_23)
      · skip
        refine g_iconst hX (nI 1) dX0_isThere_18 rfl ?_
        refine g_goto hX 23 dX0_isThere_19 (by decide) ?_
        exact g_eq rfl rfl (congrArg (fun z => [Value.int z]) (bret_t (by simp [thB, c1, c9, c15]))) (hret () _ _ trivial dX0_isThere_23)
set_option maxHeartbeats 4000000 in
set_option maxRecDepth 100000 in
theorem c_X0_isThere_n (l : Launch) (E : EV) (a : Nat → Nat) (C : FC) (s : Nat) (hC : FO C) (hs : s < 2 ^ 31) : KI l yX0_isThere wsX0_isThere (rmN 0) E (σ := Unit) [.ref (a 0), .int (nI s)] (fw E a C) (fun _ => True) (fun _ => (bI (decide (s < cN C)))) (fun _ => fw E a C) 0 0 := by
  have h := c_X0_isThere l E a C (nI s)
  rw [thB_n hC hs] at h
  exact h
set_option maxHeartbeats 4000000 in
set_option maxRecDepth 100000 in
theorem c_X0_isThere_t (l : Launch) (E : EV) (a : Nat → Nat) (C : FC) (s : Nat) (hC : FO C) (hs : s < cN C) : KI l yX0_isThere wsX0_isThere (rmN 0) E (σ := Unit) [.ref (a 0), .int (nI s)] (fw E a C) (fun _ => True) (fun _ => (bI true)) (fun _ => fw E a C) 0 0 := by
  have h9 := hC.1
  have h := c_X0_isThere_n l E a C s hC (by omega)
  rw [decide_eq_true hs] at h
  exact h
set_option maxHeartbeats 4000000 in
set_option maxRecDepth 100000 in
theorem c_X0_isWithdrawn (l : Launch) (E : EV) (a : Nat → Nat) (C : FC) (s : Nat) (hC : FO C) (hs : s < 32) : KI l yX0_isWithdrawn wsX0_isWithdrawn (rmN 0) E (σ := Unit) [.ref (a 0), .int (nI s)] (fw E a C) (fun _ => True) (fun _ => (bI ((cG C).testBit s))) (fun _ => fw E a C) 0 0 := by
  refine KI.of (cc := cX0_isWithdrawn) (maxL := 2) (ty := .boolean) (hnar := fun _ _ => nar_b _) rfl rfl rfl (fun x hX hin hret hnL => ?_)
  replace hX : CX x l cX0_isWithdrawn RX0 wsX0_isWithdrawn E (rmN 0) := hX
  show GG x 0 0 (fw E a C) 0 [(0, .ref (a 0)), (1, .int (nI s))] []
  have inRX0 : ∀ w ∈ wsX00, w ∈ wsX0_isWithdrawn := by decide +kernel
  have fl41 : Cond.fieldLink RX0 41 "LieForce$Force" "withdrawn" "I" ∈ wsX0_isWithdrawn := by decide +kernel
  obtain ⟨h9, h64, h512, hT, hI⟩ := id hC
  refine g_aload_n hX dX0_isWithdrawn_0 0 rfl ?_
  refine g_get hX (v := .int (nI (cG C))) 0 inRX0 rfl rfl 2 rfl fl41 rfl rfl dX0_isWithdrawn_1 ?_
  refine g_iload_n hX dX0_isWithdrawn_4 1 rfl ?_
  refine g_ishr hX (nI ((cG C) >>> s)) dX0_isWithdrawn_5 (sh_r (by omega) (by omega)) ?_
  refine g_iconst hX (nI 1) dX0_isWithdrawn_6 rfl ?_
  refine g_iand hX (bI ((cG C).testBit s)) dX0_isWithdrawn_7 (and1_b _ _) ?_
  refine g_iconst hX (nI 1) dX0_isWithdrawn_8 rfl ?_
  refine g_icmp_ne hX 16 dX0_isWithdrawn_9 (by decide) (fun c9 => ?_) (fun c9 => ?_)
  · replace c9 := mt bI_1.mpr c9
    replace c9 := bNt c9
    refine g_iconst hX (nI 0) dX0_isWithdrawn_16 rfl ?_
    exact g_eq rfl rfl (congrArg (fun z => [Value.int z]) (bret_f (by simp [c9]))) (hret () _ _ trivial dX0_isWithdrawn_17)
  · replace c9 := bI_1.mp c9
    refine g_iconst hX (nI 1) dX0_isWithdrawn_12 rfl ?_
    refine g_goto hX 17 dX0_isWithdrawn_13 (by decide) ?_
    exact g_eq rfl rfl (congrArg (fun z => [Value.int z]) (bret_t (by simp [c9]))) (hret () _ _ trivial dX0_isWithdrawn_17)
set_option maxHeartbeats 4000000 in
set_option maxRecDepth 100000 in
theorem c_X0_isSoIn (l : Launch) (E : EV) (a : Nat → Nat) (C : FC) (s : Nat) (w : Nat) (hC : FO C) (hs : s < cN C) (hw : w < 64) : KI l yX0_isSoIn wsX0_isSoIn (rmN 1) E (σ := Unit) [.ref (a 0), .int (nI s), .int (nI w)] (fw E a C) (fun _ => True) (fun _ => (bI ((cW C s).testBit w))) (fun _ => fw E a C) 0 0 := by
  refine KI.of (cc := cX0_isSoIn) (maxL := 3) (ty := .boolean) (hnar := fun _ _ => nar_b _) rfl rfl rfl (fun x hX hin hret hnL => ?_)
  replace hX : CX x l cX0_isSoIn RX0 wsX0_isSoIn E (rmN 1) := hX
  show GG x 0 0 (fw E a C) 0 [(0, .ref (a 0)), (1, .int (nI s)), (2, .int (nI w))] []
  have inRX0 : ∀ w ∈ wsX00, w ∈ wsX0_isSoIn := by decide +kernel
  have fl31 : Cond.fieldLink RX0 31 "LieForce$Force" "soWorlds" "[J" ∈ wsX0_isSoIn := by decide +kernel
  obtain ⟨h9, h64, h512, hT, hI⟩ := id hC
  have hWs := (hI s hs).2
  refine g_aload_n hX dX0_isSoIn_0 0 rfl ?_
  refine g_iload_n hX dX0_isSoIn_1 1 rfl ?_
  have hc2 : CUT (fw E a C) (fw E a C) (([] : va_W)) [0, 1, 2, 3, 4, 5, 6] [] := ⟨rfl, rfl, rfl, rfl, rfl⟩
  refine g_VI hX hc2 [.int (nI s)] [] (c_X0_isThere_t l E a C s (by first | assumption | omega) (by omega)) gX0_isSoIn_X0_isThere calX0_isThere rfl rfl rfl rfl 0 rfl rfl rfl rfl dX0_isSoIn_2 rfl ⟨Nat.zero_le _, Nat.zero_le _⟩ (fun _ => fw E a C) [0, 1, 2, 3, 4, 5, 6] rfl (fun _ => rfl) (fun _ hu2 => ?_)
  refine g_if_eq hX 25 dX0_isSoIn_5 (by decide) (fun c5 => ?_) (fun c5 => ?_)
  · replace c5 := bI_0.mp c5
    exact absurd c5 (by simp)
  · replace c5 := mt bI_0.mpr c5
    replace c5 := bNf c5
    refine g_aload_n hX dX0_isSoIn_8 0 rfl ?_
    refine g_get hX (v := .ref (a 6)) 0 inRX0 rfl rfl 10 rfl fl31 rfl rfl dX0_isSoIn_9 ?_
    refine g_iload_n hX dX0_isSoIn_12 1 rfl ?_
    refine g_lald hX (lN (cW C s)) 6 1 rfl rfl (vp_in_nI (by omega) (by omega)) (ald_n (g := fun zz => lN (cW C zz)) (i := s) (by omega)) dX0_isSoIn_13 ?_
    refine g_iload_n hX dX0_isSoIn_14 2 rfl ?_
    have hc15 : CUT (fw E a C) (([] : va_W)) (fw E a C) [] [0, 1, 2, 3, 4, 5, 6] := ⟨rfl, rfl, rfl, rfl, rfl⟩
    refine g_NI hX hc15 [.long (lN (cW C s)), .int (nI w)] [] (c_X5_isAmong l E (cW C s) w hWs hw) gX0_isSoIn_X5_isAmong_n55 calX5_isAmong rfl rfl (by decide +kernel) (by decide +kernel) (by decide +kernel) rfl rfl dX0_isSoIn_15 rfl ⟨Nat.zero_le _, Nat.zero_le _⟩ (fun _ => fw E a C) [0, 1, 2, 3, 4, 5, 6] rfl (fun _ => rfl) (fun _ hu15 => ?_)
    refine g_if_eq hX 25 dX0_isSoIn_18 (by decide) (fun c18 => ?_) (fun c18 => ?_)
    · replace c18 := bI_0.mp c18
      refine g_iconst hX (nI 0) dX0_isSoIn_25 rfl ?_
      exact g_eq rfl rfl (congrArg (fun z => [Value.int z]) (bret_f (by simp [c18]))) (hret () _ _ trivial dX0_isSoIn_26)
    · replace c18 := mt bI_0.mpr c18
      replace c18 := bNf c18
      refine g_iconst hX (nI 1) dX0_isSoIn_21 rfl ?_
      refine g_goto hX 26 dX0_isSoIn_22 (by decide) ?_
      exact g_eq rfl rfl (congrArg (fun z => [Value.int z]) (bret_t (by simp [c18]))) (hret () _ _ trivial dX0_isSoIn_26)
set_option maxHeartbeats 4000000 in
set_option maxRecDepth 100000 in
theorem c_X0_hasPoliceman (l : Launch) (E : EV) (a : Nat → Nat) (C : FC) (s : Nat) (hC : FO C) (hs : s < cN C) : KI l yX0_hasPoliceman wsX0_hasPoliceman (rmN 1) E (σ := Unit) [.ref (a 0), .int (nI s)] (fw E a C) (fun _ => True) (fun _ => (bI (pmB C s))) (fun _ => fw E a C) 0 0 := by
  refine KI.of (cc := cX0_hasPoliceman) (maxL := 2) (ty := .boolean) (hnar := fun _ _ => nar_b _) rfl rfl rfl (fun x hX hin hret hnL => ?_)
  replace hX : CX x l cX0_hasPoliceman RX0 wsX0_hasPoliceman E (rmN 1) := hX
  show GG x 0 0 (fw E a C) 0 [(0, .ref (a 0)), (1, .int (nI s))] []
  have inRX0 : ∀ w ∈ wsX00, w ∈ wsX0_hasPoliceman := by decide +kernel
  have fl31 : Cond.fieldLink RX0 31 "LieForce$Force" "soWorlds" "[J" ∈ wsX0_hasPoliceman := by decide +kernel
  have fl35 : Cond.fieldLink RX0 35 "LieForce$Force" "facts" "I" ∈ wsX0_hasPoliceman := by decide +kernel
  obtain ⟨h9, h64, h512, hT, hI⟩ := id hC
  have hWs := (hI s hs).2
  refine g_aload_n hX dX0_hasPoliceman_0 0 rfl ?_
  refine g_iload_n hX dX0_hasPoliceman_1 1 rfl ?_
  have hc2 : CUT (fw E a C) (fw E a C) (([] : va_W)) [0, 1, 2, 3, 4, 5, 6] [] := ⟨rfl, rfl, rfl, rfl, rfl⟩
  refine g_VI hX hc2 [.int (nI s)] [] (c_X0_isThere_t l E a C s (by first | assumption | omega) (by omega)) gX0_hasPoliceman_X0_isThere calX0_isThere rfl rfl rfl rfl 0 rfl rfl rfl rfl dX0_hasPoliceman_2 rfl ⟨Nat.zero_le _, Nat.zero_le _⟩ (fun _ => fw E a C) [0, 1, 2, 3, 4, 5, 6] rfl (fun _ => rfl) (fun _ hu2 => ?_)
  refine g_if_eq hX 36 dX0_hasPoliceman_5 (by decide) (fun c5 => ?_) (fun c5 => ?_)
  · replace c5 := bI_0.mp c5
    exact absurd c5 (by simp)
  · replace c5 := mt bI_0.mpr c5
    replace c5 := bNf c5
    refine g_aload_n hX dX0_hasPoliceman_8 0 rfl ?_
    refine g_iload_n hX dX0_hasPoliceman_9 1 rfl ?_
    have hc10 : CUT (fw E a C) (fw E a C) (([] : va_W)) [0, 1, 2, 3, 4, 5, 6] [] := ⟨rfl, rfl, rfl, rfl, rfl⟩
    refine g_VI hX hc10 [.int (nI s)] [] (c_X0_isWithdrawn l E a C s (by first | assumption | omega) (by omega)) gX0_hasPoliceman_X0_isWithdrawn calX0_isWithdrawn rfl rfl rfl rfl 0 rfl rfl rfl rfl dX0_hasPoliceman_10 rfl ⟨Nat.zero_le _, Nat.zero_le _⟩ (fun _ => fw E a C) [0, 1, 2, 3, 4, 5, 6] rfl (fun _ => rfl) (fun _ hu10 => ?_)
    refine g_if_ne hX 36 dX0_hasPoliceman_13 (by decide) (fun c13 => ?_) (fun c13 => ?_)
    · replace c13 := mt bI_0.mpr c13
      replace c13 := bNf c13
      refine g_iconst hX (nI 0) dX0_hasPoliceman_36 rfl ?_
      exact g_eq rfl rfl (congrArg (fun z => [Value.int z]) (bret_f (by simp [pmB, c13]))) (hret () _ _ trivial dX0_hasPoliceman_37)
    · replace c13 := bI_0.mp c13
      refine g_aload_n hX dX0_hasPoliceman_16 0 rfl ?_
      refine g_get hX (v := .ref (a 6)) 0 inRX0 rfl rfl 10 rfl fl31 rfl rfl dX0_hasPoliceman_17 ?_
      refine g_iload_n hX dX0_hasPoliceman_20 1 rfl ?_
      refine g_lald hX (lN (cW C s)) 6 1 rfl rfl (vp_in_nI (by omega) (by omega)) (ald_n (g := fun zz => lN (cW C zz)) (i := s) (by omega)) dX0_hasPoliceman_21 ?_
      refine g_aload_n hX dX0_hasPoliceman_22 0 rfl ?_
      refine g_get hX (v := .int (nI (cF C))) 0 inRX0 rfl rfl 0 rfl fl35 rfl rfl dX0_hasPoliceman_23 ?_
      have hc26 : CUT (fw E a C) (([] : va_W)) (fw E a C) [] [0, 1, 2, 3, 4, 5, 6] := ⟨rfl, rfl, rfl, rfl, rfl⟩
      refine g_NI hX hc26 [.long (lN (cW C s)), .int (nI (cF C))] [] (c_X5_isAmong l E (cW C s) (cF C) hWs h64) gX0_hasPoliceman_X5_isAmong_n55 calX5_isAmong rfl rfl (by decide +kernel) (by decide +kernel) (by decide +kernel) rfl rfl dX0_hasPoliceman_26 rfl ⟨Nat.zero_le _, Nat.zero_le _⟩ (fun _ => fw E a C) [0, 1, 2, 3, 4, 5, 6] rfl (fun _ => rfl) (fun _ hu26 => ?_)
      refine g_if_ne hX 36 dX0_hasPoliceman_29 (by decide) (fun c29 => ?_) (fun c29 => ?_)
      · replace c29 := mt bI_0.mpr c29
        replace c29 := bNf c29
        refine g_iconst hX (nI 0) dX0_hasPoliceman_36 rfl ?_
        exact g_eq rfl rfl (congrArg (fun z => [Value.int z]) (bret_f (by simp [pmB, c13, c29]))) (hret () _ _ trivial dX0_hasPoliceman_37)
      · replace c29 := bI_0.mp c29
        refine g_iconst hX (nI 1) dX0_hasPoliceman_32 rfl ?_
        refine g_goto hX 37 dX0_hasPoliceman_33 (by decide) ?_
        exact g_eq rfl rfl (congrArg (fun z => [Value.int z]) (bret_t (by simp [pmB, c13, c29]))) (hret () _ _ trivial dX0_hasPoliceman_37)
set_option maxHeartbeats 4000000 in
set_option maxRecDepth 100000 in
theorem c_X0_hasServed (l : Launch) (E : EV) (a : Nat → Nat) (C : FC) (s : Nat) (hC : FO C) (hV : VB C) (hs : s < cN C) : KI l yX0_hasServed wsX0_hasServed (rmN 2) E (σ := Unit) [.ref (a 0), .int (nI s)] (fw E a C) (fun _ => True) (fun _ => (bI (hsB C s))) (fun _ => fw E a C) 0 0 := by
  refine KI.of (cc := cX0_hasServed) (maxL := 2) (ty := .boolean) (hnar := fun _ _ => nar_b _) rfl rfl rfl (fun x hX hin hret hnL => ?_)
  replace hX : CX x l cX0_hasServed RX0 wsX0_hasServed E (rmN 2) := hX
  show GG x 0 0 (fw E a C) 0 [(0, .ref (a 0)), (1, .int (nI s))] []
  have inRX0 : ∀ w ∈ wsX00, w ∈ wsX0_hasServed := by decide +kernel
  have fl28 : Cond.fieldLink RX0 28 "LieForce$Force" "served" "[I" ∈ wsX0_hasServed := by decide +kernel
  have fl9 : Cond.fieldLink RX0 9 "LieForce$Force" "term" "I" ∈ wsX0_hasServed := by decide +kernel
  obtain ⟨h9, h64, h512, hT, hI⟩ := id hC
  have hVs := hV s hs
  refine g_aload_n hX dX0_hasServed_0 0 rfl ?_
  refine g_iload_n hX dX0_hasServed_1 1 rfl ?_
  have hc2 : CUT (fw E a C) (fw E a C) (([] : va_W)) [0, 1, 2, 3, 4, 5, 6] [] := ⟨rfl, rfl, rfl, rfl, rfl⟩
  refine g_VI hX hc2 [.int (nI s)] [] (c_X0_isThere_t l E a C s (by first | assumption | omega) (by omega)) gX0_hasServed_X0_isThere calX0_isThere rfl rfl rfl rfl 0 rfl rfl rfl rfl dX0_hasServed_2 rfl ⟨Nat.zero_le _, Nat.zero_le _⟩ (fun _ => fw E a C) [0, 1, 2, 3, 4, 5, 6] rfl (fun _ => rfl) (fun _ hu2 => ?_)
  refine g_if_eq hX 33 dX0_hasServed_5 (by decide) (fun c5 => ?_) (fun c5 => ?_)
  · replace c5 := bI_0.mp c5
    exact absurd c5 (by simp)
  · replace c5 := mt bI_0.mpr c5
    replace c5 := bNf c5
    refine g_aload_n hX dX0_hasServed_8 0 rfl ?_
    refine g_iload_n hX dX0_hasServed_9 1 rfl ?_
    have hc10 : CUT (fw E a C) (fw E a C) (([] : va_W)) [0, 1, 2, 3, 4, 5, 6] [] := ⟨rfl, rfl, rfl, rfl, rfl⟩
    refine g_VI hX hc10 [.int (nI s)] [] (c_X0_hasPoliceman l E a C s (by first | assumption | omega) (by omega)) gX0_hasServed_X0_hasPoliceman calX0_hasPoliceman rfl rfl rfl rfl 0 rfl rfl rfl rfl dX0_hasServed_10 rfl ⟨Nat.zero_le _, Nat.zero_le _⟩ (fun _ => fw E a C) [0, 1, 2, 3, 4, 5, 6] rfl (fun _ => rfl) (fun _ hu10 => ?_)
    refine g_if_eq hX 33 dX0_hasServed_13 (by decide) (fun c13 => ?_) (fun c13 => ?_)
    · replace c13 := bI_0.mp c13
      refine g_iconst hX (nI 0) dX0_hasServed_33 rfl ?_
      exact g_eq rfl rfl (congrArg (fun z => [Value.int z]) (bret_f (by simp [hsB, c13]))) (hret () _ _ trivial dX0_hasServed_34)
    · replace c13 := mt bI_0.mpr c13
      replace c13 := bNf c13
      refine g_aload_n hX dX0_hasServed_16 0 rfl ?_
      refine g_get hX (v := .ref (a 5)) 0 inRX0 rfl rfl 9 rfl fl28 rfl rfl dX0_hasServed_17 ?_
      refine g_iload_n hX dX0_hasServed_20 1 rfl ?_
      refine g_iald hX (nI (cV C s)) 5 0 rfl rfl (vp_in_nI (by omega) (by omega)) (ald_n (g := fun zz => nI (cV C zz)) (i := s) (by omega)) dX0_hasServed_21 ?_
      refine g_aload_n hX dX0_hasServed_22 0 rfl ?_
      refine g_get hX (v := .int (nI (cT C))) 0 inRX0 rfl rfl 4 rfl fl9 rfl rfl dX0_hasServed_23 ?_
      refine g_icmp_lt hX 33 dX0_hasServed_26 (by decide) (fun c26 => ?_) (fun c26 => ?_)
      · replace c26 := (nI_ltI (by omega) (by omega)).mp c26
        have c26 : ¬ cT C ≤ cV C s := by omega
        refine g_iconst hX (nI 0) dX0_hasServed_33 rfl ?_
        exact g_eq rfl rfl (congrArg (fun z => [Value.int z]) (bret_f (by simp [hsB, c13, c26]))) (hret () _ _ trivial dX0_hasServed_34)
      · replace c26 := mt (nI_ltI (by omega) (by omega)).mpr c26
        have c26 : cT C ≤ cV C s := by omega
        refine g_iconst hX (nI 1) dX0_hasServed_29 rfl ?_
        refine g_goto hX 34 dX0_hasServed_30 (by decide) ?_
        exact g_eq rfl rfl (congrArg (fun z => [Value.int z]) (bret_t (by simp [hsB, c13, c26]))) (hret () _ _ trivial dX0_hasServed_34)
set_option maxHeartbeats 4000000 in
set_option maxRecDepth 100000 in
theorem c_X0_canBeWithdrawn (l : Launch) (E : EV) (a : Nat → Nat) (C : FC) (s : Nat) (hC : FO C) (hV : VB C) (hs : s < cN C) : KI l yX0_canBeWithdrawn wsX0_canBeWithdrawn (rmN 3) E (σ := Unit) [.ref (a 0), .int (nI s)] (fw E a C) (fun _ => True) (fun _ => (bI (cwB C s))) (fun _ => fw E a C) 0 0 := by
  refine KI.of (cc := cX0_canBeWithdrawn) (maxL := 2) (ty := .boolean) (hnar := fun _ _ => nar_b _) rfl rfl rfl (fun x hX hin hret hnL => ?_)
  replace hX : CX x l cX0_canBeWithdrawn RX0 wsX0_canBeWithdrawn E (rmN 3) := hX
  show GG x 0 0 (fw E a C) 0 [(0, .ref (a 0)), (1, .int (nI s))] []
  obtain ⟨h9, h64, h512, hT, hI⟩ := id hC
  refine g_aload_n hX dX0_canBeWithdrawn_0 0 rfl ?_
  refine g_iload_n hX dX0_canBeWithdrawn_1 1 rfl ?_
  have hc2 : CUT (fw E a C) (fw E a C) (([] : va_W)) [0, 1, 2, 3, 4, 5, 6] [] := ⟨rfl, rfl, rfl, rfl, rfl⟩
  refine g_VI hX hc2 [.int (nI s)] [] (c_X0_isThere_t l E a C s (by first | assumption | omega) (by omega)) gX0_canBeWithdrawn_X0_isThere calX0_isThere rfl rfl rfl rfl 0 rfl rfl rfl rfl dX0_canBeWithdrawn_2 rfl ⟨Nat.zero_le _, Nat.zero_le _⟩ (fun _ => fw E a C) [0, 1, 2, 3, 4, 5, 6] rfl (fun _ => rfl) (fun _ hu2 => ?_)
  refine g_if_eq hX 28 dX0_canBeWithdrawn_5 (by decide) (fun c5 => ?_) (fun c5 => ?_)
  · replace c5 := bI_0.mp c5
    exact absurd c5 (by simp)
  · replace c5 := mt bI_0.mpr c5
    replace c5 := bNf c5
    refine g_aload_n hX dX0_canBeWithdrawn_8 0 rfl ?_
    refine g_iload_n hX dX0_canBeWithdrawn_9 1 rfl ?_
    have hc10 : CUT (fw E a C) (fw E a C) (([] : va_W)) [0, 1, 2, 3, 4, 5, 6] [] := ⟨rfl, rfl, rfl, rfl, rfl⟩
    refine g_VI hX hc10 [.int (nI s)] [] (c_X0_isWithdrawn l E a C s (by first | assumption | omega) (by omega)) gX0_canBeWithdrawn_X0_isWithdrawn calX0_isWithdrawn rfl rfl rfl rfl 0 rfl rfl rfl rfl dX0_canBeWithdrawn_10 rfl ⟨Nat.zero_le _, Nat.zero_le _⟩ (fun _ => fw E a C) [0, 1, 2, 3, 4, 5, 6] rfl (fun _ => rfl) (fun _ hu10 => ?_)
    refine g_if_ne hX 28 dX0_canBeWithdrawn_13 (by decide) (fun c13 => ?_) (fun c13 => ?_)
    · replace c13 := mt bI_0.mpr c13
      replace c13 := bNf c13
      refine g_iconst hX (nI 0) dX0_canBeWithdrawn_28 rfl ?_
      exact g_eq rfl rfl (congrArg (fun z => [Value.int z]) (bret_f (by simp [cwB, c13]))) (hret () _ _ trivial dX0_canBeWithdrawn_29)
    · replace c13 := bI_0.mp c13
      refine g_aload_n hX dX0_canBeWithdrawn_16 0 rfl ?_
      refine g_iload_n hX dX0_canBeWithdrawn_17 1 rfl ?_
      have hc18 : CUT (fw E a C) (fw E a C) (([] : va_W)) [0, 1, 2, 3, 4, 5, 6] [] := ⟨rfl, rfl, rfl, rfl, rfl⟩
      refine g_VI hX hc18 [.int (nI s)] [] (c_X0_hasServed l E a C s (by first | assumption | omega) (by first | assumption | omega) (by omega)) gX0_canBeWithdrawn_X0_hasServed calX0_hasServed rfl rfl rfl rfl 0 rfl rfl rfl rfl dX0_canBeWithdrawn_18 rfl ⟨Nat.zero_le _, Nat.zero_le _⟩ (fun _ => fw E a C) [0, 1, 2, 3, 4, 5, 6] rfl (fun _ => rfl) (fun _ hu18 => ?_)
      refine g_if_ne hX 28 dX0_canBeWithdrawn_21 (by decide) (fun c21 => ?_) (fun c21 => ?_)
      · replace c21 := mt bI_0.mpr c21
        replace c21 := bNf c21
        refine g_iconst hX (nI 0) dX0_canBeWithdrawn_28 rfl ?_
        exact g_eq rfl rfl (congrArg (fun z => [Value.int z]) (bret_f (by simp [cwB, c13, c21]))) (hret () _ _ trivial dX0_canBeWithdrawn_29)
      · replace c21 := bI_0.mp c21
        refine g_iconst hX (nI 1) dX0_canBeWithdrawn_24 rfl ?_
        refine g_goto hX 29 dX0_canBeWithdrawn_25 (by decide) ?_
        exact g_eq rfl rfl (congrArg (fun z => [Value.int z]) (bret_t (by simp [cwB, c13, c21]))) (hret () _ _ trivial dX0_canBeWithdrawn_29)
set_option maxHeartbeats 4000000 in
set_option maxRecDepth 100000 in
theorem c_X0_areClashing (l : Launch) (E : EV) (a : Nat → Nat) (C : FC) (s : Nat) (t : Nat) (hC : FO C) (hs : s < cN C) (ht : t < cN C) : KI l yX0_areClashing wsX0_areClashing (rmN 1) E (σ := Unit) [.ref (a 0), .int (nI s), .int (nI t)] (fw E a C) (fun _ => True) (fun _ => (bI (clB C s t))) (fun _ => fw E a C) 0 0 := by
  refine KI.of (cc := cX0_areClashing) (maxL := 3) (ty := .boolean) (hnar := fun _ _ => nar_b _) rfl rfl rfl (fun x hX hin hret hnL => ?_)
  replace hX : CX x l cX0_areClashing RX0 wsX0_areClashing E (rmN 1) := hX
  show GG x 0 0 (fw E a C) 0 [(0, .ref (a 0)), (1, .int (nI s)), (2, .int (nI t))] []
  have inRX0 : ∀ w ∈ wsX00, w ∈ wsX0_areClashing := by decide +kernel
  have fl31 : Cond.fieldLink RX0 31 "LieForce$Force" "soWorlds" "[J" ∈ wsX0_areClashing := by decide +kernel
  obtain ⟨h9, h64, h512, hT, hI⟩ := id hC
  have hWs := (hI s hs).2
  have hWt := (hI t ht).2
  refine g_aload_n hX dX0_areClashing_0 0 rfl ?_
  refine g_iload_n hX dX0_areClashing_1 1 rfl ?_
  have hc2 : CUT (fw E a C) (fw E a C) (([] : va_W)) [0, 1, 2, 3, 4, 5, 6] [] := ⟨rfl, rfl, rfl, rfl, rfl⟩
  refine g_VI hX hc2 [.int (nI s)] [] (c_X0_isThere_t l E a C s (by first | assumption | omega) (by omega)) gX0_areClashing_X0_isThere calX0_isThere rfl rfl rfl rfl 0 rfl rfl rfl rfl dX0_areClashing_2 rfl ⟨Nat.zero_le _, Nat.zero_le _⟩ (fun _ => fw E a C) [0, 1, 2, 3, 4, 5, 6] rfl (fun _ => rfl) (fun _ hu2 => ?_)
  refine g_if_eq hX 38 dX0_areClashing_5 (by decide) (fun c5 => ?_) (fun c5 => ?_)
  · replace c5 := bI_0.mp c5
    exact absurd c5 (by simp)
  · replace c5 := mt bI_0.mpr c5
    replace c5 := bNf c5
    refine g_aload_n hX dX0_areClashing_8 0 rfl ?_
    refine g_iload_n hX dX0_areClashing_9 2 rfl ?_
    have hc10 : CUT (fw E a C) (fw E a C) (([] : va_W)) [0, 1, 2, 3, 4, 5, 6] [] := ⟨rfl, rfl, rfl, rfl, rfl⟩
    refine g_VI hX hc10 [.int (nI t)] [] (c_X0_isThere_t l E a C t (by first | assumption | omega) ht) gX0_areClashing_X0_isThere calX0_isThere rfl rfl rfl rfl 0 rfl rfl rfl rfl dX0_areClashing_10 rfl ⟨Nat.zero_le _, Nat.zero_le _⟩ (fun _ => fw E a C) [0, 1, 2, 3, 4, 5, 6] rfl (fun _ => rfl) (fun _ hu10 => ?_)
    refine g_if_eq hX 38 dX0_areClashing_13 (by decide) (fun c13 => ?_) (fun c13 => ?_)
    · replace c13 := bI_0.mp c13
      exact absurd c13 (by simp)
    · replace c13 := mt bI_0.mpr c13
      replace c13 := bNf c13
      refine g_aload_n hX dX0_areClashing_16 0 rfl ?_
      refine g_get hX (v := .ref (a 6)) 0 inRX0 rfl rfl 10 rfl fl31 rfl rfl dX0_areClashing_17 ?_
      refine g_iload_n hX dX0_areClashing_20 1 rfl ?_
      refine g_lald hX (lN (cW C s)) 6 1 rfl rfl (vp_in_nI (by omega) (by omega)) (ald_n (g := fun zz => lN (cW C zz)) (i := s) (by omega)) dX0_areClashing_21 ?_
      refine g_aload_n hX dX0_areClashing_22 0 rfl ?_
      refine g_get hX (v := .ref (a 6)) 0 inRX0 rfl rfl 10 rfl fl31 rfl rfl dX0_areClashing_23 ?_
      refine g_iload_n hX dX0_areClashing_26 2 rfl ?_
      refine g_lald hX (lN (cW C t)) 6 1 rfl rfl (vp_in_nI (by omega) (by omega)) (ald_n (g := fun zz => lN (cW C zz)) (i := t) (by omega)) dX0_areClashing_27 ?_
      refine g_land hX (lN ((cW C s) &&& (cW C t))) dX0_areClashing_28 (fb_andL _ _) ?_
      refine g_lconst hX (lN 0) dX0_areClashing_29 rfl ?_
      refine g_lcmp hX (lg_cmp (lN ((cW C s) &&& (cW C t))) (lN 0)) dX0_areClashing_30 rfl ?_
      refine g_if_ne hX 38 dX0_areClashing_31 (by decide) (fun c31 => ?_) (fun c31 => ?_)
      · replace c31 := mt (lcmp_l (by first | exact and_lt hWt | decide) (by first | exact and_lt hWt | decide)).mpr c31
        refine g_iconst hX (nI 0) dX0_areClashing_38 rfl ?_
        exact g_eq rfl rfl (congrArg (fun z => [Value.int z]) (bret_f (by simp [clB, c31]))) (hret () _ _ trivial dX0_areClashing_39)
      · replace c31 := (lcmp_l (by first | exact and_lt hWt | decide) (by first | exact and_lt hWt | decide)).mp c31
        refine g_iconst hX (nI 1) dX0_areClashing_34 rfl ?_
        refine g_goto hX 39 dX0_areClashing_35 (by decide) ?_
        exact g_eq rfl rfl (congrArg (fun z => [Value.int z]) (bret_t (by simp [clB, c31]))) (hret () _ _ trivial dX0_areClashing_39)
set_option maxHeartbeats 4000000 in
set_option maxRecDepth 100000 in
theorem c_X0_mayMarry (l : Launch) (E : EV) (a : Nat → Nat) (C : FC) (s : Nat) (t : Nat) (hC : FO C) (hs : s < cN C) (ht : t < cN C) : KI l yX0_mayMarry wsX0_mayMarry (rmN 2) E (σ := Unit) [.ref (a 0), .int (nI s), .int (nI t)] (fw E a C) (fun _ => True) (fun _ => (bI (mmB C s t))) (fun _ => fw E a C) 0 0 := by
  refine KI.of (cc := cX0_mayMarry) (maxL := 3) (ty := .boolean) (hnar := fun _ _ => nar_b _) rfl rfl rfl (fun x hX hin hret hnL => ?_)
  replace hX : CX x l cX0_mayMarry RX0 wsX0_mayMarry E (rmN 2) := hX
  show GG x 0 0 (fw E a C) 0 [(0, .ref (a 0)), (1, .int (nI s)), (2, .int (nI t))] []
  have inRX0 : ∀ w ∈ wsX00, w ∈ wsX0_mayMarry := by decide +kernel
  have fl25 : Cond.fieldLink RX0 25 "LieForce$Force" "persons" "[I" ∈ wsX0_mayMarry := by decide +kernel
  obtain ⟨h9, h64, h512, hT, hI⟩ := id hC
  have hPs := (hI s hs).1
  have hPt := (hI t ht).1
  refine g_aload_n hX dX0_mayMarry_0 0 rfl ?_
  refine g_iload_n hX dX0_mayMarry_1 1 rfl ?_
  have hc2 : CUT (fw E a C) (fw E a C) (([] : va_W)) [0, 1, 2, 3, 4, 5, 6] [] := ⟨rfl, rfl, rfl, rfl, rfl⟩
  refine g_VI hX hc2 [.int (nI s)] [] (c_X0_isThere_t l E a C s (by first | assumption | omega) (by omega)) gX0_mayMarry_X0_isThere calX0_isThere rfl rfl rfl rfl 0 rfl rfl rfl rfl dX0_mayMarry_2 rfl ⟨Nat.zero_le _, Nat.zero_le _⟩ (fun _ => fw E a C) [0, 1, 2, 3, 4, 5, 6] rfl (fun _ => rfl) (fun _ hu2 => ?_)
  refine g_if_eq hX 44 dX0_mayMarry_5 (by decide) (fun c5 => ?_) (fun c5 => ?_)
  · replace c5 := bI_0.mp c5
    exact absurd c5 (by simp)
  · replace c5 := mt bI_0.mpr c5
    replace c5 := bNf c5
    refine g_aload_n hX dX0_mayMarry_8 0 rfl ?_
    refine g_iload_n hX dX0_mayMarry_9 2 rfl ?_
    have hc10 : CUT (fw E a C) (fw E a C) (([] : va_W)) [0, 1, 2, 3, 4, 5, 6] [] := ⟨rfl, rfl, rfl, rfl, rfl⟩
    refine g_VI hX hc10 [.int (nI t)] [] (c_X0_isThere_t l E a C t (by first | assumption | omega) ht) gX0_mayMarry_X0_isThere calX0_isThere rfl rfl rfl rfl 0 rfl rfl rfl rfl dX0_mayMarry_10 rfl ⟨Nat.zero_le _, Nat.zero_le _⟩ (fun _ => fw E a C) [0, 1, 2, 3, 4, 5, 6] rfl (fun _ => rfl) (fun _ hu10 => ?_)
    refine g_if_eq hX 44 dX0_mayMarry_13 (by decide) (fun c13 => ?_) (fun c13 => ?_)
    · replace c13 := bI_0.mp c13
      exact absurd c13 (by simp)
    · replace c13 := mt bI_0.mpr c13
      replace c13 := bNf c13
      refine g_aload_n hX dX0_mayMarry_16 0 rfl ?_
      refine g_get hX (v := .ref (a 4)) 0 inRX0 rfl rfl 8 rfl fl25 rfl rfl dX0_mayMarry_17 ?_
      refine g_iload_n hX dX0_mayMarry_20 1 rfl ?_
      refine g_iald hX (nI (cP C s)) 4 0 rfl rfl (vp_in_nI (by omega) (by omega)) (ald_n (g := fun zz => nI (cP C zz)) (i := s) (by omega)) dX0_mayMarry_21 ?_
      refine g_aload_n hX dX0_mayMarry_22 0 rfl ?_
      refine g_get hX (v := .ref (a 4)) 0 inRX0 rfl rfl 8 rfl fl25 rfl rfl dX0_mayMarry_23 ?_
      refine g_iload_n hX dX0_mayMarry_26 2 rfl ?_
      refine g_iald hX (nI (cP C t)) 4 0 rfl rfl (vp_in_nI (by omega) (by omega)) (ald_n (g := fun zz => nI (cP C zz)) (i := t) (by omega)) dX0_mayMarry_27 ?_
      refine g_icmp_eq hX 44 dX0_mayMarry_28 (by decide) (fun c28 => ?_) (fun c28 => ?_)
      · replace c28 := (nI_eq (by omega) (by omega)).mp c28
        refine g_iconst hX (nI 0) dX0_mayMarry_44 rfl ?_
        exact g_eq rfl rfl (congrArg (fun z => [Value.int z]) (bret_f (by simp [mmB, c28]))) (hret () _ _ trivial dX0_mayMarry_45)
      · replace c28 := mt (nI_eq (by omega) (by omega)).mpr c28
        refine g_aload_n hX dX0_mayMarry_31 0 rfl ?_
        refine g_iload_n hX dX0_mayMarry_32 1 rfl ?_
        refine g_iload_n hX dX0_mayMarry_33 2 rfl ?_
        have hc34 : CUT (fw E a C) (fw E a C) (([] : va_W)) [0, 1, 2, 3, 4, 5, 6] [] := ⟨rfl, rfl, rfl, rfl, rfl⟩
        refine g_VI hX hc34 [.int (nI s), .int (nI t)] [] (c_X0_areClashing l E a C s t (by first | assumption | omega) (by omega) (by omega)) gX0_mayMarry_X0_areClashing calX0_areClashing rfl rfl rfl rfl 0 rfl rfl rfl rfl dX0_mayMarry_34 rfl ⟨Nat.zero_le _, Nat.zero_le _⟩ (fun _ => fw E a C) [0, 1, 2, 3, 4, 5, 6] rfl (fun _ => rfl) (fun _ hu34 => ?_)
        refine g_if_ne hX 44 dX0_mayMarry_37 (by decide) (fun c37 => ?_) (fun c37 => ?_)
        · replace c37 := mt bI_0.mpr c37
          replace c37 := bNf c37
          refine g_iconst hX (nI 0) dX0_mayMarry_44 rfl ?_
          exact g_eq rfl rfl (congrArg (fun z => [Value.int z]) (bret_f (by simp [mmB, c28, c37]))) (hret () _ _ trivial dX0_mayMarry_45)
        · replace c37 := bI_0.mp c37
          refine g_iconst hX (nI 1) dX0_mayMarry_40 rfl ?_
          refine g_goto hX 45 dX0_mayMarry_41 (by decide) ?_
          exact g_eq rfl rfl (congrArg (fun z => [Value.int z]) (bret_t (by simp [mmB, c28, c37]))) (hret () _ _ trivial dX0_mayMarry_45)
set_option maxHeartbeats 4000000 in
set_option maxRecDepth 100000 in
theorem c_J6_bitCount_0f7a4 (l : Launch) (E : EV) (v : Nat) (hv : v < 512) : KI l yJ6_bitCount_0f7a4 wsJ6_bitCount_0f7a4 (rmN 0) E (σ := Unit) [.int (nI v)] (([] : va_W)) (fun _ => True) (fun _ => (nI (pop v))) (fun _ => ([] : va_W)) 0 0 := by
  refine KI.of (cc := cJ6_bitCount_0f7a4) (maxL := 1) (ty := .int) (hnar := fun _ _ => rfl) rfl rfl rfl (fun x hX hin hret hnL => ?_)
  replace hX : CX x l cJ6_bitCount_0f7a4 RJ6 wsJ6_bitCount_0f7a4 E (rmN 0) := hX
  show GG x 0 0 (([] : va_W)) 0 [(0, .int (nI v))] []
  refine g_iload_n hX dJ6_bitCount_0f7a4_0 0 rfl ?_
  refine g_iload_n hX dJ6_bitCount_0f7a4_1 0 rfl ?_
  refine g_iconst hX (nI 1) dJ6_bitCount_0f7a4_2 rfl ?_
  refine g_iushr hX (((nI v).toUInt32 >>> ((nI 1).toUInt32 &&& Int32.toUInt32 31)).toInt32) dJ6_bitCount_0f7a4_3 rfl ?_
  refine g_ldcw hX (v := (nI 1431655765)) dJ6_bitCount_0f7a4_4 (by decide +kernel) ?_
  refine g_iand hX ((((nI v).toUInt32 >>> ((nI 1).toUInt32 &&& Int32.toUInt32 31)).toInt32) &&& (nI 1431655765)) dJ6_bitCount_0f7a4_7 rfl ?_
  refine g_isub hX ((nI v) - ((((nI v).toUInt32 >>> ((nI 1).toUInt32 &&& Int32.toUInt32 31)).toInt32) &&& (nI 1431655765))) dJ6_bitCount_0f7a4_8 rfl ?_
  obtain ⟨y1, ey1⟩ : ∃ y : Int32, y = (nI v) - ((((nI v).toUInt32 >>> ((nI 1).toUInt32 &&& Int32.toUInt32 31)).toInt32) &&& (nI 1431655765)) := ⟨_, rfl⟩
  rw [← ey1]
  refine g_istore_n hX (j := 0) [(0, .int y1)] dJ6_bitCount_0f7a4_9 rfl (by rw [hnL]; rfl) rfl ?_
  refine g_iload_n hX dJ6_bitCount_0f7a4_10 0 rfl ?_
  refine g_ldcw hX (v := (nI 858993459)) dJ6_bitCount_0f7a4_11 (by decide +kernel) ?_
  refine g_iand hX (y1 &&& (nI 858993459)) dJ6_bitCount_0f7a4_14 rfl ?_
  refine g_iload_n hX dJ6_bitCount_0f7a4_15 0 rfl ?_
  refine g_iconst hX (nI 2) dJ6_bitCount_0f7a4_16 rfl ?_
  refine g_iushr hX ((y1.toUInt32 >>> ((nI 2).toUInt32 &&& Int32.toUInt32 31)).toInt32) dJ6_bitCount_0f7a4_17 rfl ?_
  refine g_ldcw hX (v := (nI 858993459)) dJ6_bitCount_0f7a4_18 (by decide +kernel) ?_
  refine g_iand hX (((y1.toUInt32 >>> ((nI 2).toUInt32 &&& Int32.toUInt32 31)).toInt32) &&& (nI 858993459)) dJ6_bitCount_0f7a4_21 rfl ?_
  refine g_iadd hX ((y1 &&& (nI 858993459)) + (((y1.toUInt32 >>> ((nI 2).toUInt32 &&& Int32.toUInt32 31)).toInt32) &&& (nI 858993459))) dJ6_bitCount_0f7a4_22 rfl ?_
  obtain ⟨y2, ey2⟩ : ∃ y : Int32, y = (y1 &&& (nI 858993459)) + (((y1.toUInt32 >>> ((nI 2).toUInt32 &&& Int32.toUInt32 31)).toInt32) &&& (nI 858993459)) := ⟨_, rfl⟩
  rw [← ey2]
  refine g_istore_n hX (j := 0) [(0, .int y2)] dJ6_bitCount_0f7a4_23 rfl (by rw [hnL]; rfl) rfl ?_
  refine g_iload_n hX dJ6_bitCount_0f7a4_24 0 rfl ?_
  refine g_iload_n hX dJ6_bitCount_0f7a4_25 0 rfl ?_
  refine g_iconst hX (nI 4) dJ6_bitCount_0f7a4_26 rfl ?_
  refine g_iushr hX ((y2.toUInt32 >>> ((nI 4).toUInt32 &&& Int32.toUInt32 31)).toInt32) dJ6_bitCount_0f7a4_27 rfl ?_
  refine g_iadd hX (y2 + ((y2.toUInt32 >>> ((nI 4).toUInt32 &&& Int32.toUInt32 31)).toInt32)) dJ6_bitCount_0f7a4_28 rfl ?_
  refine g_ldcw hX (v := (nI 252645135)) dJ6_bitCount_0f7a4_29 (by decide +kernel) ?_
  refine g_iand hX ((y2 + ((y2.toUInt32 >>> ((nI 4).toUInt32 &&& Int32.toUInt32 31)).toInt32)) &&& (nI 252645135)) dJ6_bitCount_0f7a4_32 rfl ?_
  obtain ⟨y3, ey3⟩ : ∃ y : Int32, y = (y2 + ((y2.toUInt32 >>> ((nI 4).toUInt32 &&& Int32.toUInt32 31)).toInt32)) &&& (nI 252645135) := ⟨_, rfl⟩
  rw [← ey3]
  refine g_istore_n hX (j := 0) [(0, .int y3)] dJ6_bitCount_0f7a4_33 rfl (by rw [hnL]; rfl) rfl ?_
  refine g_iload_n hX dJ6_bitCount_0f7a4_34 0 rfl ?_
  refine g_iload_n hX dJ6_bitCount_0f7a4_35 0 rfl ?_
  refine g_bipush hX (nI 8) dJ6_bitCount_0f7a4_36 rfl ?_
  refine g_iushr hX ((y3.toUInt32 >>> ((nI 8).toUInt32 &&& Int32.toUInt32 31)).toInt32) dJ6_bitCount_0f7a4_38 rfl ?_
  refine g_iadd hX (y3 + ((y3.toUInt32 >>> ((nI 8).toUInt32 &&& Int32.toUInt32 31)).toInt32)) dJ6_bitCount_0f7a4_39 rfl ?_
  obtain ⟨y4, ey4⟩ : ∃ y : Int32, y = y3 + ((y3.toUInt32 >>> ((nI 8).toUInt32 &&& Int32.toUInt32 31)).toInt32) := ⟨_, rfl⟩
  rw [← ey4]
  refine g_istore_n hX (j := 0) [(0, .int y4)] dJ6_bitCount_0f7a4_40 rfl (by rw [hnL]; rfl) rfl ?_
  refine g_iload_n hX dJ6_bitCount_0f7a4_41 0 rfl ?_
  refine g_iload_n hX dJ6_bitCount_0f7a4_42 0 rfl ?_
  refine g_bipush hX (nI 16) dJ6_bitCount_0f7a4_43 rfl ?_
  refine g_iushr hX ((y4.toUInt32 >>> ((nI 16).toUInt32 &&& Int32.toUInt32 31)).toInt32) dJ6_bitCount_0f7a4_45 rfl ?_
  refine g_iadd hX (y4 + ((y4.toUInt32 >>> ((nI 16).toUInt32 &&& Int32.toUInt32 31)).toInt32)) dJ6_bitCount_0f7a4_46 rfl ?_
  obtain ⟨y5, ey5⟩ : ∃ y : Int32, y = y4 + ((y4.toUInt32 >>> ((nI 16).toUInt32 &&& Int32.toUInt32 31)).toInt32) := ⟨_, rfl⟩
  rw [← ey5]
  refine g_istore_n hX (j := 0) [(0, .int y5)] dJ6_bitCount_0f7a4_47 rfl (by rw [hnL]; rfl) rfl ?_
  refine g_iload_n hX dJ6_bitCount_0f7a4_48 0 rfl ?_
  refine g_bipush hX (nI 63) dJ6_bitCount_0f7a4_49 rfl ?_
  refine g_iand hX (y5 &&& (nI 63)) dJ6_bitCount_0f7a4_51 rfl ?_
  exact g_eq rfl rfl (congrArg (fun z => [Value.int z]) (by rw [show y5 = bcs5 y4 from ey5, show y4 = bcs4 y3 from ey4, show y3 = bcs3 y2 from ey3, show y2 = bcs2 y1 from ey2, show y1 = bcs1 (nI v) from ey1]; exact bcJ_ok v hv)) (hret () _ _ trivial dJ6_bitCount_0f7a4_52)
set_option maxHeartbeats 4000000 in
set_option maxRecDepth 100000 in
theorem c_X5_isFact_n (l : Launch) (E : EV) (f : Nat) (hf : f < 2 ^ 31) : KI l yX5_isFact wsX5_isFact (rmN 1) E (σ := Unit) [.int (nI f)] (([] : va_W)) (fun _ => True) (fun _ => (bI (decide (f < 6)))) (fun _ => ([] : va_W)) 0 0 := by
  have h := c_X5_isFact l E (nI f)
  rw [win_n hf (by decide) (by decide), show (decide (0 ≤ f) && decide (f ≤ 5)) = decide (f < 6) from by by_cases q : f < 6 <;> simp [q] <;> omega] at h
  exact h
set_option maxHeartbeats 4000000 in
set_option maxRecDepth 100000 in
theorem c_X0_standing (l : Launch) (E : EV) (a : Nat → Nat) (C : FC) (hC : FO C) : KI l yX0_standing wsX0_standing (rmN 0) E (σ := Unit) [.ref (a 0)] (fw E a C) (fun _ => True) (fun _ => (nI (stM C))) (fun _ => fw E a C) 0 0 := by
  refine KI.of (cc := cX0_standing) (maxL := 1) (ty := .int) (hnar := fun _ _ => rfl) rfl rfl rfl (fun x hX hin hret hnL => ?_)
  replace hX : CX x l cX0_standing RX0 wsX0_standing E (rmN 0) := hX
  show GG x 0 0 (fw E a C) 0 [(0, .ref (a 0))] []
  have inRX0 : ∀ w ∈ wsX00, w ∈ wsX0_standing := by decide +kernel
  have fl38 : Cond.fieldLink RX0 38 "LieForce$Force" "sayings" "I" ∈ wsX0_standing := by decide +kernel
  have fl41 : Cond.fieldLink RX0 41 "LieForce$Force" "withdrawn" "I" ∈ wsX0_standing := by decide +kernel
  obtain ⟨h9, h64, h512, hT, hI⟩ := id hC
  refine g_iconst hX (nI 1) dX0_standing_0 rfl ?_
  refine g_aload_n hX dX0_standing_1 0 rfl ?_
  refine g_get hX (v := .int (nI (cN C))) 0 inRX0 rfl rfl 1 rfl fl38 rfl rfl dX0_standing_2 ?_
  refine g_ishl hX (nI (1 <<< (cN C))) dX0_standing_5 (sh_l _ (by omega)) ?_
  refine g_iconst hX (nI 1) dX0_standing_6 rfl ?_
  refine g_isub hX (nI ((1 <<< (cN C)) - 1)) dX0_standing_7 (pk_sub (by exact one_shl)) ?_
  refine g_aload_n hX dX0_standing_8 0 rfl ?_
  refine g_get hX (v := .int (nI (cG C))) 0 inRX0 rfl rfl 2 rfl fl41 rfl rfl dX0_standing_9 ?_
  refine g_iconst hX ((-1)) dX0_standing_12 rfl ?_
  refine g_ixor hX (nI (cG C) ^^^ (-1)) dX0_standing_13 rfl ?_
  refine g_iand hX (nI (andn ((1 <<< (cN C)) - 1) (cG C))) dX0_standing_14 (and_not (by exact Nat.lt_of_lt_of_le (full_lt h9) (by decide))) ?_
  exact g_eq rfl rfl (congrArg (fun z => [Value.int z]) (congrArg nI (by rfl))) (hret () _ _ trivial dX0_standing_15)
set_option maxHeartbeats 4000000 in
set_option maxRecDepth 100000 in
theorem c_X0_liesIn (l : Launch) (E : EV) (a : Nat → Nat) (C : FC) (w : Nat) (hC : FO C) (hw : w < 64) : KI l yX0_liesIn wsX0_liesIn (rmN 2) E (σ := Unit) [.ref (a 0), .int (nI w)] (fw E a C) (fun _ => True) (fun _ => (nI (lieM C w))) (fun _ => fw E a C) 0 0 := by
  refine KI.of (cc := cX0_liesIn) (maxL := 4) (ty := .int) (hnar := fun _ _ => rfl) rfl rfl rfl (fun x hX hin hret hnL => ?_)
  replace hX : CX x l cX0_liesIn RX0 wsX0_liesIn E (rmN 2) := hX
  show GG x 0 0 (fw E a C) 0 [(0, .ref (a 0)), (1, .int (nI w))] []
  have inRX0 : ∀ w ∈ wsX00, w ∈ wsX0_liesIn := by decide +kernel
  have fl38 : Cond.fieldLink RX0 38 "LieForce$Force" "sayings" "I" ∈ wsX0_liesIn := by decide +kernel
  obtain ⟨h9, h64, h512, hT, hI⟩ := id hC
  refine g_iconst hX (nI 0) dX0_liesIn_0 rfl ?_
  refine g_istore_n hX (j := 2) [(2, .int (nI 0)), (0, .ref (a 0)), (1, .int (nI w))] dX0_liesIn_1 rfl (by rw [hnL]; rfl) rfl ?_
  refine g_iconst hX (nI 0) dX0_liesIn_2 rfl ?_
  refine g_istore_n hX (j := 3) [(3, .int (nI 0)), (2, .int (nI 0)), (0, .ref (a 0)), (1, .int (nI w))] dX0_liesIn_3 rfl (by rw [hnL]; rfl) rfl ?_
  have lp4 : ∀ (fuel : Nat) (i : Nat) (acc : Nat), cN C - i < fuel → (i ≤ cN C) → (acc = bitsOf (liB C w) i) → GG x 0 0 (fw E a C) 4 [(0, .ref (a 0)), (1, .int (nI w)), (2, .int (nI acc)), (3, .int (nI i))] [] := by
    intro fuel
    induction fuel with
    | zero => intro i acc hm; exact absurd hm (Nat.not_lt_zero _)
    | succ fuel ih4 =>
      intro i acc hm4 hi hacc
      refine g_iload_n hX dX0_liesIn_4 3 rfl ?_
      refine g_aload_n hX dX0_liesIn_5 0 rfl ?_
      refine g_get hX (v := .int (nI (cN C))) 0 inRX0 rfl rfl 1 rfl fl38 rfl rfl dX0_liesIn_6 ?_
      refine g_icmp_ge hX 41 dX0_liesIn_9 (by decide) (fun c9 => ?_) (fun c9 => ?_)
      · replace c9 := (nI_leI (by omega) (by omega)).mp c9
        refine g_iload_n hX dX0_liesIn_41 2 rfl ?_
        exact g_eq rfl rfl (congrArg (fun z => [Value.int z]) (congrArg nI (by rw [hacc, show i = cN C by omega]; rfl))) (hret () _ _ trivial dX0_liesIn_42)
      · replace c9 := mt (nI_leI (by omega) (by omega)).mpr c9
        refine g_aload_n hX dX0_liesIn_12 0 rfl ?_
        refine g_iload_n hX dX0_liesIn_13 3 rfl ?_
        have hc14 : CUT (fw E a C) (fw E a C) (([] : va_W)) [0, 1, 2, 3, 4, 5, 6] [] := ⟨rfl, rfl, rfl, rfl, rfl⟩
        refine g_VI hX hc14 [.int (nI i)] [] (c_X0_isWithdrawn l E a C i (by first | assumption | omega) (by omega)) gX0_liesIn_X0_isWithdrawn calX0_isWithdrawn rfl rfl rfl rfl 0 rfl rfl rfl rfl dX0_liesIn_14 rfl ⟨Nat.zero_le _, Nat.zero_le _⟩ (fun _ => fw E a C) [0, 1, 2, 3, 4, 5, 6] rfl (fun _ => rfl) (fun _ hu14 => ?_)
        refine g_if_ne hX 35 dX0_liesIn_17 (by decide) (fun c17 => ?_) (fun c17 => ?_)
        · replace c17 := mt bI_0.mpr c17
          replace c17 := bNf c17
          refine g_iinc hX (j := 3) (nI (i + 1)) [(3, .int (nI (i + 1))), (0, .ref (a 0)), (1, .int (nI w)), (2, .int (nI acc))] dX0_liesIn_35 3 rfl (iinc_n _ _) (by rw [hnL]; rfl) rfl ?_
          refine g_goto hX 4 dX0_liesIn_38 (by decide) ?_
          exact g_lv _ [1, 2, 3, 0] rfl (ih4 (i + 1) acc (by omega) (by omega) (by rw [hacc, bitsOf]; simp [liB, c9, c17]))
        · replace c17 := bI_0.mp c17
          refine g_aload_n hX dX0_liesIn_20 0 rfl ?_
          refine g_iload_n hX dX0_liesIn_21 3 rfl ?_
          refine g_iload_n hX dX0_liesIn_22 1 rfl ?_
          have hc23 : CUT (fw E a C) (fw E a C) (([] : va_W)) [0, 1, 2, 3, 4, 5, 6] [] := ⟨rfl, rfl, rfl, rfl, rfl⟩
          refine g_VI hX hc23 [.int (nI i), .int (nI w)] [] (c_X0_isSoIn l E a C i w (by first | assumption | omega) (by omega) (by omega)) gX0_liesIn_X0_isSoIn calX0_isSoIn rfl rfl rfl rfl 0 rfl rfl rfl rfl dX0_liesIn_23 rfl ⟨Nat.zero_le _, Nat.zero_le _⟩ (fun _ => fw E a C) [0, 1, 2, 3, 4, 5, 6] rfl (fun _ => rfl) (fun _ hu23 => ?_)
          refine g_if_ne hX 35 dX0_liesIn_26 (by decide) (fun c26 => ?_) (fun c26 => ?_)
          · replace c26 := mt bI_0.mpr c26
            replace c26 := bNf c26
            refine g_iinc hX (j := 3) (nI (i + 1)) [(3, .int (nI (i + 1))), (0, .ref (a 0)), (1, .int (nI w)), (2, .int (nI acc))] dX0_liesIn_35 3 rfl (iinc_n _ _) (by rw [hnL]; rfl) rfl ?_
            refine g_goto hX 4 dX0_liesIn_38 (by decide) ?_
            exact g_lv _ [1, 2, 3, 0] rfl (ih4 (i + 1) acc (by omega) (by omega) (by rw [hacc, bitsOf]; simp [liB, c9, c17, c26]))
          · replace c26 := bI_0.mp c26
            refine g_iload_n hX dX0_liesIn_29 2 rfl ?_
            refine g_iconst hX (nI 1) dX0_liesIn_30 rfl ?_
            refine g_iload_n hX dX0_liesIn_31 3 rfl ?_
            refine g_ishl hX (nI (1 <<< i)) dX0_liesIn_32 (sh_l _ (by omega)) ?_
            refine g_ior hX (nI (acc ||| (1 <<< i))) dX0_liesIn_33 (fa_or _ _) ?_
            refine g_istore_n hX (j := 2) [(2, .int (nI (acc ||| (1 <<< i)))), (0, .ref (a 0)), (1, .int (nI w)), (3, .int (nI i))] dX0_liesIn_34 rfl (by rw [hnL]; rfl) rfl ?_
            refine g_iinc hX (j := 3) (nI (i + 1)) [(3, .int (nI (i + 1))), (2, .int (nI (acc ||| (1 <<< i)))), (0, .ref (a 0)), (1, .int (nI w))] dX0_liesIn_35 3 rfl (iinc_n _ _) (by rw [hnL]; rfl) rfl ?_
            refine g_goto hX 4 dX0_liesIn_38 (by decide) ?_
            exact g_lv _ [2, 3, 1, 0] rfl (ih4 (i + 1) (acc ||| (1 <<< i)) (by omega) (by omega) (by rw [hacc, bitsOf]; simp [liB, c9, c17, c26]))
  exact g_lv _ [2, 3, 1, 0] rfl (lp4 _ 0 0 (Nat.lt_succ_self _) (Nat.zero_le _) rfl)
set_option maxHeartbeats 4000000 in
set_option maxRecDepth 100000 in
theorem c_X0_soAtOnce (l : Launch) (E : EV) (a : Nat → Nat) (C : FC) (w : Nat) (hC : FO C) (hw : w < 64) : KI l yX0_soAtOnce wsX0_soAtOnce (rmN 3) E (σ := Unit) [.ref (a 0), .int (nI w)] (fw E a C) (fun _ => True) (fun _ => (nI (pop (soM C w)))) (fun _ => fw E a C) 0 0 := by
  refine KI.of (cc := cX0_soAtOnce) (maxL := 2) (ty := .int) (hnar := fun _ _ => rfl) rfl rfl rfl (fun x hX hin hret hnL => ?_)
  replace hX : CX x l cX0_soAtOnce RX0 wsX0_soAtOnce E (rmN 3) := hX
  show GG x 0 0 (fw E a C) 0 [(0, .ref (a 0)), (1, .int (nI w))] []
  obtain ⟨h9, h64, h512, hT, hI⟩ := id hC
  have hst := stM_lt h9
  have hso := soM_lt h9 w
  refine g_aload_n hX dX0_soAtOnce_0 0 rfl ?_
  have hc1 : CUT (fw E a C) (fw E a C) (([] : va_W)) [0, 1, 2, 3, 4, 5, 6] [] := ⟨rfl, rfl, rfl, rfl, rfl⟩
  refine g_VI hX hc1 [] [] (c_X0_standing l E a C (by first | assumption | omega)) gX0_soAtOnce_X0_standing calX0_standing rfl rfl rfl rfl 0 rfl rfl rfl rfl dX0_soAtOnce_1 rfl ⟨Nat.zero_le _, Nat.zero_le _⟩ (fun _ => fw E a C) [0, 1, 2, 3, 4, 5, 6] rfl (fun _ => rfl) (fun _ hu1 => ?_)
  refine g_aload_n hX dX0_soAtOnce_4 0 rfl ?_
  refine g_iload_n hX dX0_soAtOnce_5 1 rfl ?_
  have hc6 : CUT (fw E a C) (fw E a C) (([] : va_W)) [0, 1, 2, 3, 4, 5, 6] [] := ⟨rfl, rfl, rfl, rfl, rfl⟩
  refine g_VI hX hc6 [.int (nI w)] [.int (nI (stM C))] (c_X0_liesIn l E a C w (by first | assumption | omega) (by omega)) gX0_soAtOnce_X0_liesIn calX0_liesIn rfl rfl rfl rfl 0 rfl rfl rfl rfl dX0_soAtOnce_6 rfl ⟨Nat.zero_le _, Nat.zero_le _⟩ (fun _ => fw E a C) [0, 1, 2, 3, 4, 5, 6] rfl (fun _ => rfl) (fun _ hu6 => ?_)
  refine g_iconst hX ((-1)) dX0_soAtOnce_9 rfl ?_
  refine g_ixor hX (nI (lieM C w) ^^^ (-1)) dX0_soAtOnce_10 rfl ?_
  refine g_iand hX (nI (andn (stM C) (lieM C w))) dX0_soAtOnce_11 (and_not (by omega)) ?_
  have hc12 : CUT (fw E a C) (([] : va_W)) (fw E a C) [] [0, 1, 2, 3, 4, 5, 6] := ⟨rfl, rfl, rfl, rfl, rfl⟩
  refine g_TI hX hc12 [.int (nI (andn (stM C) (lieM C w)))] [] (c_J6_bitCount_0f7a4 l E (andn (stM C) (lieM C w)) hso) gX0_soAtOnce_J6_bitCount_0f7a4 calJ6_bitCount_0f7a4 rfl rfl rfl rfl dX0_soAtOnce_12 rfl ⟨Nat.zero_le _, Nat.zero_le _⟩ (fun _ => fw E a C) [0, 1, 2, 3, 4, 5, 6] rfl (fun _ => rfl) (fun _ hu12 => ?_)
  exact g_eq rfl rfl (congrArg (fun z => [Value.int z]) (congrArg nI (by rfl))) (hret () _ _ trivial dX0_soAtOnce_15)
set_option maxHeartbeats 4000000 in
set_option maxRecDepth 100000 in
theorem c_X0_liarsIn (l : Launch) (E : EV) (a : Nat → Nat) (C : FC) (w : Nat) (hC : FO C) (hw : w < 64) : KI l yX0_liarsIn wsX0_liarsIn (rmN 3) E (σ := Unit) [.ref (a 0), .int (nI w)] (fw E a C) (fun _ => True) (fun _ => (nI (pop (liM C w (cN C))))) (fun _ => fw E a C) 0 0 := by
  refine KI.of (cc := cX0_liarsIn) (maxL := 5) (ty := .int) (hnar := fun _ _ => rfl) rfl rfl rfl (fun x hX hin hret hnL => ?_)
  replace hX : CX x l cX0_liarsIn RX0 wsX0_liarsIn E (rmN 3) := hX
  show GG x 0 0 (fw E a C) 0 [(0, .ref (a 0)), (1, .int (nI w))] []
  have inRX0 : ∀ w ∈ wsX00, w ∈ wsX0_liarsIn := by decide +kernel
  have fl25 : Cond.fieldLink RX0 25 "LieForce$Force" "persons" "[I" ∈ wsX0_liarsIn := by decide +kernel
  have fl38 : Cond.fieldLink RX0 38 "LieForce$Force" "sayings" "I" ∈ wsX0_liarsIn := by decide +kernel
  obtain ⟨h9, h64, h512, hT, hI⟩ := id hC
  have hli := lieM_lt h9 w
  refine g_aload_n hX dX0_liarsIn_0 0 rfl ?_
  refine g_iload_n hX dX0_liarsIn_1 1 rfl ?_
  have hc2 : CUT (fw E a C) (fw E a C) (([] : va_W)) [0, 1, 2, 3, 4, 5, 6] [] := ⟨rfl, rfl, rfl, rfl, rfl⟩
  refine g_VI hX hc2 [.int (nI w)] [] (c_X0_liesIn l E a C w (by first | assumption | omega) (by omega)) gX0_liarsIn_X0_liesIn calX0_liesIn rfl rfl rfl rfl 0 rfl rfl rfl rfl dX0_liarsIn_2 rfl ⟨Nat.zero_le _, Nat.zero_le _⟩ (fun _ => fw E a C) [0, 1, 2, 3, 4, 5, 6] rfl (fun _ => rfl) (fun _ hu2 => ?_)
  refine g_istore_n hX (j := 2) [(2, .int (nI (lieM C w))), (0, .ref (a 0)), (1, .int (nI w))] dX0_liarsIn_5 rfl (by rw [hnL]; rfl) rfl ?_
  refine g_iconst hX (nI 0) dX0_liarsIn_6 rfl ?_
  refine g_istore_n hX (j := 3) [(3, .int (nI 0)), (2, .int (nI (lieM C w))), (0, .ref (a 0)), (1, .int (nI w))] dX0_liarsIn_7 rfl (by rw [hnL]; rfl) rfl ?_
  refine g_iconst hX (nI 0) dX0_liarsIn_8 rfl ?_
  refine g_istore hX (j := 4) [(4, .int (nI 0)), (3, .int (nI 0)), (2, .int (nI (lieM C w))), (0, .ref (a 0)), (1, .int (nI w))] dX0_liarsIn_9 (by rw [hnL]; rfl) rfl ?_
  have lp11 : ∀ (fuel : Nat) (i : Nat) (acc : Nat), cN C - i < fuel → (i ≤ cN C) → (acc = liM C w i) → GG x 0 0 (fw E a C) 11 [(0, .ref (a 0)), (1, .int (nI w)), (2, .int (nI (lieM C w))), (3, .int (nI acc)), (4, .int (nI i))] [] := by
    intro fuel
    induction fuel with
    | zero => intro i acc hm; exact absurd hm (Nat.not_lt_zero _)
    | succ fuel ih11 =>
      intro i acc hm11 hi hacc
      refine g_iload hX dX0_liarsIn_11 4 rfl ?_
      refine g_aload_n hX dX0_liarsIn_13 0 rfl ?_
      refine g_get hX (v := .int (nI (cN C))) 0 inRX0 rfl rfl 1 rfl fl38 rfl rfl dX0_liarsIn_14 ?_
      refine g_icmp_ge hX 56 dX0_liarsIn_17 (by decide) (fun c17 => ?_) (fun c17 => ?_)
      · replace c17 := (nI_leI (by omega) (by omega)).mp c17
        refine g_iload_n hX dX0_liarsIn_56 3 rfl ?_
        have hlm := liM_lt (C := C) w (k := cN C) (fun i hi => (hI i hi).1)
        obtain rfl : i = cN C := by omega
        have hc57 : CUT (fw E a C) (([] : va_W)) (fw E a C) [] [0, 1, 2, 3, 4, 5, 6] := ⟨rfl, rfl, rfl, rfl, rfl⟩
        refine g_TI hX hc57 [.int (nI acc)] [] (c_J6_bitCount_0f7a4 l E acc (by rw [hacc]; omega)) gX0_liarsIn_J6_bitCount_0f7a4 calJ6_bitCount_0f7a4 rfl rfl rfl rfl dX0_liarsIn_57 rfl ⟨Nat.zero_le _, Nat.zero_le _⟩ (fun _ => fw E a C) [0, 1, 2, 3, 4, 5, 6] rfl (fun _ => rfl) (fun _ hu57 => ?_)
        exact g_eq rfl rfl (congrArg (fun z => [Value.int z]) (congrArg nI (by rw [hacc]))) (hret () _ _ trivial dX0_liarsIn_60)
      · replace c17 := mt (nI_leI (by omega) (by omega)).mpr c17
        refine g_aload_n hX dX0_liarsIn_20 0 rfl ?_
        refine g_iload hX dX0_liarsIn_21 4 rfl ?_
        have hc23 : CUT (fw E a C) (fw E a C) (([] : va_W)) [0, 1, 2, 3, 4, 5, 6] [] := ⟨rfl, rfl, rfl, rfl, rfl⟩
        refine g_VI hX hc23 [.int (nI i)] [] (c_X0_isThere_t l E a C i (by first | assumption | omega) (by omega)) gX0_liarsIn_X0_isThere calX0_isThere rfl rfl rfl rfl 0 rfl rfl rfl rfl dX0_liarsIn_23 rfl ⟨Nat.zero_le _, Nat.zero_le _⟩ (fun _ => fw E a C) [0, 1, 2, 3, 4, 5, 6] rfl (fun _ => rfl) (fun _ hu23 => ?_)
        refine g_if_eq hX 50 dX0_liarsIn_26 (by decide) (fun c26 => ?_) (fun c26 => ?_)
        · replace c26 := bI_0.mp c26
          exact absurd c26 (by simp)
        · replace c26 := mt bI_0.mpr c26
          replace c26 := bNf c26
          refine g_iload_n hX dX0_liarsIn_29 2 rfl ?_
          refine g_iload hX dX0_liarsIn_30 4 rfl ?_
          have hc32 : CUT (fw E a C) (([] : va_W)) (fw E a C) [] [0, 1, 2, 3, 4, 5, 6] := ⟨rfl, rfl, rfl, rfl, rfl⟩
          refine g_NI hX hc32 [.int (nI (lieM C w)), .int (nI i)] [] (c_X5_isBitOf l E (lieM C w) i (by first | assumption | omega) (by first | assumption | omega)) gX0_liarsIn_X5_isBitOf_n88 calX5_isBitOf rfl rfl (by decide +kernel) (by decide +kernel) (by decide +kernel) rfl rfl dX0_liarsIn_32 rfl ⟨Nat.zero_le _, Nat.zero_le _⟩ (fun _ => fw E a C) [0, 1, 2, 3, 4, 5, 6] rfl (fun _ => rfl) (fun _ hu32 => ?_)
          refine g_if_eq hX 50 dX0_liarsIn_35 (by decide) (fun c35 => ?_) (fun c35 => ?_)
          · replace c35 := bI_0.mp c35
            rw [lieM_bit] at c35; have c36 : liB C w i = false := by simpa [show i < cN C by omega] using c35
            refine g_iinc hX (j := 4) (nI (i + 1)) [(4, .int (nI (i + 1))), (0, .ref (a 0)), (1, .int (nI w)), (2, .int (nI (lieM C w))), (3, .int (nI acc))] dX0_liarsIn_50 4 rfl (iinc_n _ _) (by rw [hnL]; rfl) rfl ?_
            refine g_goto hX 11 dX0_liarsIn_53 (by decide) ?_
            exact g_lv _ [1, 2, 3, 4, 0] rfl (ih11 (i + 1) acc (by omega) (by omega) (by rw [hacc, liM]; simp [c17, c35, c36]))
          · replace c35 := mt bI_0.mpr c35
            replace c35 := bNf c35
            rw [lieM_bit] at c35; have c36 : liB C w i = true := by simpa [show i < cN C by omega] using c35
            refine g_iload_n hX dX0_liarsIn_38 3 rfl ?_
            refine g_iconst hX (nI 1) dX0_liarsIn_39 rfl ?_
            have hPi := (hI i (by omega)).1
            refine g_aload_n hX dX0_liarsIn_40 0 rfl ?_
            refine g_get hX (v := .ref (a 4)) 0 inRX0 rfl rfl 8 rfl fl25 rfl rfl dX0_liarsIn_41 ?_
            refine g_iload hX dX0_liarsIn_44 4 rfl ?_
            refine g_iald hX (nI (cP C i)) 4 0 rfl rfl (vp_in_nI (by omega) (by omega)) (ald_n (g := fun zz => nI (cP C zz)) (i := i) (by omega)) dX0_liarsIn_46 ?_
            refine g_ishl hX (nI (1 <<< (cP C i))) dX0_liarsIn_47 (sh_l _ (by omega)) ?_
            refine g_ior hX (nI (acc ||| (1 <<< (cP C i)))) dX0_liarsIn_48 (fa_or _ _) ?_
            refine g_istore_n hX (j := 3) [(3, .int (nI (acc ||| (1 <<< (cP C i))))), (0, .ref (a 0)), (1, .int (nI w)), (2, .int (nI (lieM C w))), (4, .int (nI i))] dX0_liarsIn_49 rfl (by rw [hnL]; rfl) rfl ?_
            refine g_iinc hX (j := 4) (nI (i + 1)) [(4, .int (nI (i + 1))), (3, .int (nI (acc ||| (1 <<< (cP C i))))), (0, .ref (a 0)), (1, .int (nI w)), (2, .int (nI (lieM C w)))] dX0_liarsIn_50 4 rfl (iinc_n _ _) (by rw [hnL]; rfl) rfl ?_
            refine g_goto hX 11 dX0_liarsIn_53 (by decide) ?_
            exact g_lv _ [2, 3, 4, 1, 0] rfl (ih11 (i + 1) (acc ||| (1 <<< (cP C i))) (by omega) (by omega) (by rw [hacc, liM]; simp [c17, c35, c36]))
  exact g_lv _ [3, 4, 2, 1, 0] rfl (lp11 _ 0 0 (Nat.lt_succ_self _) (Nat.zero_le _) rfl)
set_option maxHeartbeats 4000000 in
set_option maxRecDepth 100000 in
theorem c_X0_policedWorlds (l : Launch) (E : EV) (a : Nat → Nat) (C : FC) (s : Nat) (hC : FO C) (hs : s < 2 ^ 31) : KL l yX0_policedWorlds wsX0_policedWorlds (rmN 1) E (σ := Unit) [.ref (a 0), .int (nI s)] (fw E a C) (fun _ => True) (fun _ => (lN (plW C s))) (fun _ => fw E a C) 0 0 := by
  refine KL.of (cc := cX0_policedWorlds) (maxL := 2) rfl rfl rfl (fun x hX hin hret hnL => ?_)
  replace hX : CX x l cX0_policedWorlds RX0 wsX0_policedWorlds E (rmN 1) := hX
  show GG x 0 0 (fw E a C) 0 [(0, .ref (a 0)), (1, .int (nI s))] []
  have inRX0 : ∀ w ∈ wsX00, w ∈ wsX0_policedWorlds := by decide +kernel
  have fl31 : Cond.fieldLink RX0 31 "LieForce$Force" "soWorlds" "[J" ∈ wsX0_policedWorlds := by decide +kernel
  obtain ⟨h9, h64, h512, hT, hI⟩ := id hC
  refine g_aload_n hX dX0_policedWorlds_0 0 rfl ?_
  refine g_iload_n hX dX0_policedWorlds_1 1 rfl ?_
  have hc2 : CUT (fw E a C) (fw E a C) (([] : va_W)) [0, 1, 2, 3, 4, 5, 6] [] := ⟨rfl, rfl, rfl, rfl, rfl⟩
  refine g_VI hX hc2 [.int (nI s)] [] (c_X0_isThere_n l E a C s (by first | assumption | omega) (by omega)) gX0_policedWorlds_X0_isThere calX0_isThere rfl rfl rfl rfl 0 rfl rfl rfl rfl dX0_policedWorlds_2 rfl ⟨Nat.zero_le _, Nat.zero_le _⟩ (fun _ => fw E a C) [0, 1, 2, 3, 4, 5, 6] rfl (fun _ => rfl) (fun _ hu2 => ?_)
  refine g_if_eq hX 16 dX0_policedWorlds_5 (by decide) (fun c5 => ?_) (fun c5 => ?_)
  · replace c5 := bI_0.mp c5
    replace c5 := of_decide_eq_false c5
    refine g_lconst hX (lN 0) dX0_policedWorlds_16 rfl ?_
    refine g_goto hX 30 dX0_policedWorlds_17 (by decide) ?_
    exact g_eq rfl rfl (congrArg (fun z => [Value.long z]) (congrArg lN (by simp [plW, c5]))) (hret () _ _ trivial dX0_policedWorlds_30)
  · replace c5 := mt bI_0.mpr c5
    replace c5 := bNf c5
    replace c5 := of_decide_eq_true c5
    refine g_aload_n hX dX0_policedWorlds_8 0 rfl ?_
    refine g_iload_n hX dX0_policedWorlds_9 1 rfl ?_
    have hc10 : CUT (fw E a C) (fw E a C) (([] : va_W)) [0, 1, 2, 3, 4, 5, 6] [] := ⟨rfl, rfl, rfl, rfl, rfl⟩
    refine g_VI hX hc10 [.int (nI s)] [] (c_X0_isWithdrawn l E a C s (by first | assumption | omega) (by omega)) gX0_policedWorlds_X0_isWithdrawn calX0_isWithdrawn rfl rfl rfl rfl 0 rfl rfl rfl rfl dX0_policedWorlds_10 rfl ⟨Nat.zero_le _, Nat.zero_le _⟩ (fun _ => fw E a C) [0, 1, 2, 3, 4, 5, 6] rfl (fun _ => rfl) (fun _ hu10 => ?_)
    refine g_if_eq hX 20 dX0_policedWorlds_13 (by decide) (fun c13 => ?_) (fun c13 => ?_)
    · replace c13 := bI_0.mp c13
      have hWs := (hI s c5).2
      refine g_aload_n hX dX0_policedWorlds_20 0 rfl ?_
      refine g_get hX (v := .ref (a 6)) 0 inRX0 rfl rfl 10 rfl fl31 rfl rfl dX0_policedWorlds_21 ?_
      refine g_iload_n hX dX0_policedWorlds_24 1 rfl ?_
      refine g_lald hX (lN (cW C s)) 6 1 rfl rfl (vp_in_nI (by omega) (by omega)) (ald_n (g := fun zz => lN (cW C zz)) (i := s) (by omega)) dX0_policedWorlds_25 ?_
      refine g_ldc2 hX (v := (-1)) dX0_policedWorlds_26 (by decide +kernel) ?_
      refine g_lxor hX (lN (2 ^ 64 - (cW C s + 1))) dX0_policedWorlds_29 (lxor_m1 (by omega)) ?_
      exact g_eq rfl rfl (congrArg (fun z => [Value.long z]) (congrArg lN (by simp [plW, c5, c13]))) (hret () _ _ trivial dX0_policedWorlds_30)
    · replace c13 := mt bI_0.mpr c13
      replace c13 := bNf c13
      refine g_lconst hX (lN 0) dX0_policedWorlds_16 rfl ?_
      refine g_goto hX 30 dX0_policedWorlds_17 (by decide) ?_
      exact g_eq rfl rfl (congrArg (fun z => [Value.long z]) (congrArg lN (by simp [plW, c5, c13]))) (hret () _ _ trivial dX0_policedWorlds_30)
set_option maxHeartbeats 4000000 in
set_option maxRecDepth 100000 in
theorem c_X0_policemen (l : Launch) (E : EV) (a : Nat → Nat) (C : FC) (hC : FO C) : KI l yX0_policemen wsX0_policemen (rmN 3) E (σ := Unit) [.ref (a 0)] (fw E a C) (fun _ => True) (fun _ => (nI (pop (lieM C (cF C))))) (fun _ => fw E a C) 0 0 := by
  refine KI.of (cc := cX0_policemen) (maxL := 1) (ty := .int) (hnar := fun _ _ => rfl) rfl rfl rfl (fun x hX hin hret hnL => ?_)
  replace hX : CX x l cX0_policemen RX0 wsX0_policemen E (rmN 3) := hX
  show GG x 0 0 (fw E a C) 0 [(0, .ref (a 0))] []
  have inRX0 : ∀ w ∈ wsX00, w ∈ wsX0_policemen := by decide +kernel
  have fl35 : Cond.fieldLink RX0 35 "LieForce$Force" "facts" "I" ∈ wsX0_policemen := by decide +kernel
  obtain ⟨h9, h64, h512, hT, hI⟩ := id hC
  have hli := lieM_lt h9 (cF C)
  refine g_aload_n hX dX0_policemen_0 0 rfl ?_
  refine g_aload_n hX dX0_policemen_1 0 rfl ?_
  refine g_get hX (v := .int (nI (cF C))) 0 inRX0 rfl rfl 0 rfl fl35 rfl rfl dX0_policemen_2 ?_
  have hc5 : CUT (fw E a C) (fw E a C) (([] : va_W)) [0, 1, 2, 3, 4, 5, 6] [] := ⟨rfl, rfl, rfl, rfl, rfl⟩
  refine g_VI hX hc5 [.int (nI (cF C))] [] (c_X0_liesIn l E a C (cF C) (by first | assumption | omega) h64) gX0_policemen_X0_liesIn calX0_liesIn rfl rfl rfl rfl 0 rfl rfl rfl rfl dX0_policemen_5 rfl ⟨Nat.zero_le _, Nat.zero_le _⟩ (fun _ => fw E a C) [0, 1, 2, 3, 4, 5, 6] rfl (fun _ => rfl) (fun _ hu5 => ?_)
  have hc8 : CUT (fw E a C) (([] : va_W)) (fw E a C) [] [0, 1, 2, 3, 4, 5, 6] := ⟨rfl, rfl, rfl, rfl, rfl⟩
  refine g_TI hX hc8 [.int (nI (lieM C (cF C)))] [] (c_J6_bitCount_0f7a4 l E (lieM C (cF C)) hli) gX0_policemen_J6_bitCount_0f7a4 calJ6_bitCount_0f7a4 rfl rfl rfl rfl dX0_policemen_8 rfl ⟨Nat.zero_le _, Nat.zero_le _⟩ (fun _ => fw E a C) [0, 1, 2, 3, 4, 5, 6] rfl (fun _ => rfl) (fun _ hu8 => ?_)
  exact g_eq rfl rfl rfl (hret () _ _ trivial dX0_policemen_11)
set_option maxHeartbeats 4000000 in
set_option maxRecDepth 100000 in
theorem c_X0_policemenWhoServed (l : Launch) (E : EV) (a : Nat → Nat) (C : FC) (hC : FO C) (hV : VB C) : KI l yX0_policemenWhoServed wsX0_policemenWhoServed (rmN 3) E (σ := Unit) [.ref (a 0)] (fw E a C) (fun _ => True) (fun _ => (nI (cnt (hsB C) (cN C)))) (fun _ => fw E a C) 0 0 := by
  refine KI.of (cc := cX0_policemenWhoServed) (maxL := 3) (ty := .int) (hnar := fun _ _ => rfl) rfl rfl rfl (fun x hX hin hret hnL => ?_)
  replace hX : CX x l cX0_policemenWhoServed RX0 wsX0_policemenWhoServed E (rmN 3) := hX
  show GG x 0 0 (fw E a C) 0 [(0, .ref (a 0))] []
  have inRX0 : ∀ w ∈ wsX00, w ∈ wsX0_policemenWhoServed := by decide +kernel
  have fl38 : Cond.fieldLink RX0 38 "LieForce$Force" "sayings" "I" ∈ wsX0_policemenWhoServed := by decide +kernel
  obtain ⟨h9, h64, h512, hT, hI⟩ := id hC
  refine g_iconst hX (nI 0) dX0_policemenWhoServed_0 rfl ?_
  refine g_istore_n hX (j := 1) [(1, .int (nI 0)), (0, .ref (a 0))] dX0_policemenWhoServed_1 rfl (by rw [hnL]; rfl) rfl ?_
  refine g_iconst hX (nI 0) dX0_policemenWhoServed_2 rfl ?_
  refine g_istore_n hX (j := 2) [(2, .int (nI 0)), (1, .int (nI 0)), (0, .ref (a 0))] dX0_policemenWhoServed_3 rfl (by rw [hnL]; rfl) rfl ?_
  have lp4 : ∀ (fuel : Nat) (i : Nat) (acc : Nat), cN C - i < fuel → (i ≤ cN C) → (acc = cnt (hsB C) i) → GG x 0 0 (fw E a C) 4 [(0, .ref (a 0)), (1, .int (nI acc)), (2, .int (nI i))] [] := by
    intro fuel
    induction fuel with
    | zero => intro i acc hm; exact absurd hm (Nat.not_lt_zero _)
    | succ fuel ih4 =>
      intro i acc hm4 hi hacc
      refine g_iload_n hX dX0_policemenWhoServed_4 2 rfl ?_
      refine g_aload_n hX dX0_policemenWhoServed_5 0 rfl ?_
      refine g_get hX (v := .int (nI (cN C))) 0 inRX0 rfl rfl 1 rfl fl38 rfl rfl dX0_policemenWhoServed_6 ?_
      refine g_icmp_ge hX 29 dX0_policemenWhoServed_9 (by decide) (fun c9 => ?_) (fun c9 => ?_)
      · replace c9 := (nI_leI (by omega) (by omega)).mp c9
        refine g_iload_n hX dX0_policemenWhoServed_29 1 rfl ?_
        exact g_eq rfl rfl (congrArg (fun z => [Value.int z]) (congrArg nI (by rw [hacc, show i = cN C by omega]))) (hret () _ _ trivial dX0_policemenWhoServed_30)
      · replace c9 := mt (nI_leI (by omega) (by omega)).mpr c9
        refine g_iload_n hX dX0_policemenWhoServed_12 1 rfl ?_
        refine g_aload_n hX dX0_policemenWhoServed_13 0 rfl ?_
        refine g_iload_n hX dX0_policemenWhoServed_14 2 rfl ?_
        have hc15 : CUT (fw E a C) (fw E a C) (([] : va_W)) [0, 1, 2, 3, 4, 5, 6] [] := ⟨rfl, rfl, rfl, rfl, rfl⟩
        refine g_VI hX hc15 [.int (nI i)] [.int (nI acc)] (c_X0_hasServed l E a C i (by first | assumption | omega) (by first | assumption | omega) (by omega)) gX0_policemenWhoServed_X0_hasServed calX0_hasServed rfl rfl rfl rfl 0 rfl rfl rfl rfl dX0_policemenWhoServed_15 rfl ⟨Nat.zero_le _, Nat.zero_le _⟩ (fun _ => fw E a C) [0, 1, 2, 3, 4, 5, 6] rfl (fun _ => rfl) (fun _ hu15 => ?_)
        have hc18 : CUT (fw E a C) (([] : va_W)) (fw E a C) [] [0, 1, 2, 3, 4, 5, 6] := ⟨rfl, rfl, rfl, rfl, rfl⟩
        refine g_NI hX hc18 [.int (bI (hsB C i))] [.int (nI acc)] (c_X5_asNumber l E (hsB C i)) gX0_policemenWhoServed_X5_asNumber_n93 calX5_asNumber rfl rfl (by decide +kernel) (by decide +kernel) (by decide +kernel) rfl rfl dX0_policemenWhoServed_18 rfl ⟨Nat.zero_le _, Nat.zero_le _⟩ (fun _ => fw E a C) [0, 1, 2, 3, 4, 5, 6] rfl (fun _ => rfl) (fun _ hu18 => ?_)
        refine g_iadd hX (nI (acc + (hsB C i).toNat)) dX0_policemenWhoServed_21 (nadd_nb _ _) ?_
        refine g_istore_n hX (j := 1) [(1, .int (nI (acc + (hsB C i).toNat))), (0, .ref (a 0)), (2, .int (nI i))] dX0_policemenWhoServed_22 rfl (by rw [hnL]; rfl) rfl ?_
        refine g_iinc hX (j := 2) (nI (i + 1)) [(2, .int (nI (i + 1))), (1, .int (nI (acc + (hsB C i).toNat))), (0, .ref (a 0))] dX0_policemenWhoServed_23 2 rfl (iinc_n _ _) (by rw [hnL]; rfl) rfl ?_
        refine g_goto hX 4 dX0_policemenWhoServed_26 (by decide) ?_
        exact g_lv _ [2, 1, 0] rfl (ih4 (i + 1) (acc + (hsB C i).toNat) (by omega) (by omega) (by rw [hacc, cnt]))
  exact g_lv _ [2, 1, 0] rfl (lp4 _ 0 0 (Nat.lt_succ_self _) (Nat.zero_le _) rfl)
set_option maxHeartbeats 4000000 in
set_option maxRecDepth 100000 in
theorem c_X0_takeOut (l : Launch) (E : EV) (a : Nat → Nat) (C : FC) (s : Nat) (hC : FO C) (hs : s < cN C) : KV l yX0_takeOut wsX0_takeOut (rmN 1) E (σ := Unit) [.ref (a 0), .int (nI s)] (fw E a C) (fun _ => True) (fun _ => fw E a (toC C s)) 0 0 := by
  refine KV.of (cc := cX0_takeOut) (maxL := 2) rfl rfl rfl (fun x hX hin hret hnL => ?_)
  replace hX : CX x l cX0_takeOut RX0 wsX0_takeOut E (rmN 1) := hX
  show GG x 0 0 (fw E a C) 0 [(0, .ref (a 0)), (1, .int (nI s))] []
  have inRX0 : ∀ w ∈ wsX00, w ∈ wsX0_takeOut := by decide +kernel
  have fl28 : Cond.fieldLink RX0 28 "LieForce$Force" "served" "[I" ∈ wsX0_takeOut := by decide +kernel
  have fl41 : Cond.fieldLink RX0 41 "LieForce$Force" "withdrawn" "I" ∈ wsX0_takeOut := by decide +kernel
  obtain ⟨h9, h64, h512, hT, hI⟩ := id hC
  refine g_aload_n hX dX0_takeOut_0 0 rfl ?_
  refine g_iload_n hX dX0_takeOut_1 1 rfl ?_
  have hc2 : CUT (fw E a C) (fw E a C) (([] : va_W)) [0, 1, 2, 3, 4, 5, 6] [] := ⟨rfl, rfl, rfl, rfl, rfl⟩
  refine g_VI hX hc2 [.int (nI s)] [] (c_X0_isThere_t l E a C s (by first | assumption | omega) (by omega)) gX0_takeOut_X0_isThere calX0_isThere rfl rfl rfl rfl 0 rfl rfl rfl rfl dX0_takeOut_2 rfl ⟨Nat.zero_le _, Nat.zero_le _⟩ (fun _ => fw E a C) [0, 1, 2, 3, 4, 5, 6] rfl (fun _ => rfl) (fun _ hu2 => ?_)
  refine g_if_ne hX 9 dX0_takeOut_5 (by decide) (fun c5 => ?_) (fun c5 => ?_)
  · replace c5 := mt bI_0.mpr c5
    replace c5 := bNf c5
    refine g_aload_n hX dX0_takeOut_9 0 rfl ?_
    refine g_dup hX dX0_takeOut_10 rfl ?_
    refine g_get hX (v := .int (nI (cG C))) 0 inRX0 rfl rfl 2 rfl fl41 rfl rfl dX0_takeOut_11 ?_
    refine g_iconst hX (nI 1) dX0_takeOut_14 rfl ?_
    refine g_iload_n hX dX0_takeOut_15 1 rfl ?_
    refine g_ishl hX (nI (1 <<< s)) dX0_takeOut_16 (sh_l _ (by omega)) ?_
    refine g_ior hX (nI ((cG C) ||| (1 <<< s))) dX0_takeOut_17 (fa_or _ _) ?_
    refine g_eq (show (fw E a C : va_W) = fw E a (mkFC (cF C) (cN C) (cG C) (cY C) (cT C) (cK C) (cA C) (cB C) (cP C) (cV C) (cW C)) from rfl) rfl rfl ?_
    refine g_put hX (fw E a (mkFC (cF C) (cN C) ((cG C) ||| (1 <<< s)) (cY C) (cT C) (cK C) (cA C) (cB C) (cP C) (cV C) (cW C))) 0 inRX0 tyX0_ok nmX0 (atForce_0 _ _ _ _ _ _ _ _ _ _ _ _ _) rfl 2 rfl fl41 rfl rfl rfl rfl rfl dX0_takeOut_18 (stForce_0_2 _ _ _ _ _ _ _ _ _ _ _ _ _ _) ?_
    refine g_aload_n hX dX0_takeOut_21 0 rfl ?_
    refine g_get hX (v := .ref (a 5)) 0 inRX0 (atForce_0 _ _ _ _ _ _ _ _ _ _ _ _ _) rfl 9 rfl fl28 rfl rfl dX0_takeOut_22 ?_
    refine g_iload_n hX dX0_takeOut_25 1 rfl ?_
    refine g_iconst hX (nI 0) dX0_takeOut_26 rfl ?_
    refine g_iast hX (fun zz => nI ((va_up (cV C) s 0) zz)) (fw E a (mkFC (cF C) (cN C) ((cG C) ||| (1 <<< s)) (cY C) (cT C) (cK C) (cA C) (cB C) (cP C) (va_up (cV C) s 0) (cW C))) 5 0 (atForce_5 _ _ _ _ _ _ _ _ _ _ _ _ _) rfl (vp_in_nI (by omega) (by omega)) (ast_n (by omega)) dX0_takeOut_27 (stForce_5 _ _ _ _ _ _ _ _ _ _ _ _ _ _) ?_
    exact g_eq rfl rfl rfl (hret () _ _ trivial dX0_takeOut_28)
  · replace c5 := bI_0.mp c5
    exact absurd c5 (by simp)
set_option maxHeartbeats 4000000 in
set_option maxRecDepth 100000 in
theorem c_X0_turnFact (l : Launch) (E : EV) (a : Nat → Nat) (C : FC) (f : Nat) (hC : FO C) (hf : f < 2 ^ 31) : KV l yX0_turnFact wsX0_turnFact (rmN 2) E (σ := Unit) [.ref (a 0), .int (nI f)] (fw E a C) (fun _ => True) (fun _ => fw E a (turnF C f)) 0 0 := by
  refine KV.of (cc := cX0_turnFact) (maxL := 3) rfl rfl rfl (fun x hX hin hret hnL => ?_)
  replace hX : CX x l cX0_turnFact RX0 wsX0_turnFact E (rmN 2) := hX
  show GG x 0 0 (fw E a C) 0 [(0, .ref (a 0)), (1, .int (nI f))] []
  have inRX0 : ∀ w ∈ wsX00, w ∈ wsX0_turnFact := by decide +kernel
  have fl28 : Cond.fieldLink RX0 28 "LieForce$Force" "served" "[I" ∈ wsX0_turnFact := by decide +kernel
  have fl35 : Cond.fieldLink RX0 35 "LieForce$Force" "facts" "I" ∈ wsX0_turnFact := by decide +kernel
  have fl38 : Cond.fieldLink RX0 38 "LieForce$Force" "sayings" "I" ∈ wsX0_turnFact := by decide +kernel
  obtain ⟨h9, h64, h512, hT, hI⟩ := id hC
  refine g_iload_n hX dX0_turnFact_0 1 rfl ?_
  have hc1 : CUT (fw E a C) (([] : va_W)) (fw E a C) [] [0, 1, 2, 3, 4, 5, 6] := ⟨rfl, rfl, rfl, rfl, rfl⟩
  refine g_NI hX hc1 [.int (nI f)] [] (c_X5_isFact_n l E f (by omega)) gX0_turnFact_X5_isFact_n97 calX5_isFact rfl rfl (by decide +kernel) (by decide +kernel) (by decide +kernel) rfl rfl dX0_turnFact_1 rfl ⟨Nat.zero_le _, Nat.zero_le _⟩ (fun _ => fw E a C) [0, 1, 2, 3, 4, 5, 6] rfl (fun _ => rfl) (fun _ hu1 => ?_)
  refine g_if_ne hX 8 dX0_turnFact_4 (by decide) (fun c4 => ?_) (fun c4 => ?_)
  · replace c4 := mt bI_0.mpr c4
    replace c4 := bNf c4
    replace c4 := of_decide_eq_true c4
    have hCF : FO (sF C (cF C ^^^ 1 <<< f)) := FO_sF hC (xor_bit_lt (m := 6) h64 c4)
    refine g_aload_n hX dX0_turnFact_8 0 rfl ?_
    refine g_dup hX dX0_turnFact_9 rfl ?_
    refine g_get hX (v := .int (nI (cF C))) 0 inRX0 rfl rfl 0 rfl fl35 rfl rfl dX0_turnFact_10 ?_
    refine g_iconst hX (nI 1) dX0_turnFact_13 rfl ?_
    refine g_iload_n hX dX0_turnFact_14 1 rfl ?_
    refine g_ishl hX (nI (1 <<< f)) dX0_turnFact_15 (sh_l _ (by omega)) ?_
    refine g_ixor hX (nI ((cF C) ^^^ (1 <<< f))) dX0_turnFact_16 (fb_xorI _ _) ?_
    refine g_eq (show (fw E a C : va_W) = fw E a (mkFC (cF C) (cN C) (cG C) (cY C) (cT C) (cK C) (cA C) (cB C) (cP C) (cV C) (cW C)) from rfl) rfl rfl ?_
    refine g_put hX (fw E a (mkFC ((cF C) ^^^ (1 <<< f)) (cN C) (cG C) (cY C) (cT C) (cK C) (cA C) (cB C) (cP C) (cV C) (cW C))) 0 inRX0 tyX0_ok nmX0 (atForce_0 _ _ _ _ _ _ _ _ _ _ _ _ _) rfl 0 rfl fl35 rfl rfl rfl rfl rfl dX0_turnFact_17 (stForce_0_0 _ _ _ _ _ _ _ _ _ _ _ _ _ _) ?_
    refine g_iconst hX (nI 0) dX0_turnFact_20 rfl ?_
    refine g_istore_n hX (j := 2) [(2, .int (nI 0)), (0, .ref (a 0)), (1, .int (nI f))] dX0_turnFact_21 rfl (by rw [hnL]; rfl) rfl ?_
    have lp22 : ∀ (fuel : Nat) (i : Nat) (Vv : Nat → Nat), cN C - i < fuel → (i ≤ cN C) → (Vv = upTo i (fun s => !pmB (sF C (cF C ^^^ 1 <<< f)) s) (cV C) (fun _ => 0)) → GG x 0 0 (fw E a (mkFC (cF C ^^^ 1 <<< f) (cN C) (cG C) (cY C) (cT C) (cK C) (cA C) (cB C) (cP C) Vv (cW C))) 22 [(0, .ref (a 0)), (1, .int (nI f)), (2, .int (nI i))] [] := by
      intro fuel
      induction fuel with
      | zero => intro i Vv hm; exact absurd hm (Nat.not_lt_zero _)
      | succ fuel ih22 =>
        intro i Vv hm22 hi hVv
        refine g_iload_n hX dX0_turnFact_22 2 rfl ?_
        refine g_aload_n hX dX0_turnFact_23 0 rfl ?_
        refine g_get hX (v := .int (nI (cN C))) 0 inRX0 (atForce_0 _ _ _ _ _ _ _ _ _ _ _ _ _) rfl 1 rfl fl38 rfl rfl dX0_turnFact_24 ?_
        refine g_icmp_ge hX 59 dX0_turnFact_27 (by decide) (fun c27 => ?_) (fun c27 => ?_)
        · replace c27 := (nI_leI (by omega) (by omega)).mp c27
          exact g_eq (by rw [turnF, if_pos c4, tuC, hVv, show i = cN C by omega] <;> rfl) rfl rfl (hret () _ _ trivial dX0_turnFact_59)
        · replace c27 := mt (nI_leI (by omega) (by omega)).mpr c27
          refine g_aload_n hX dX0_turnFact_30 0 rfl ?_
          refine g_iload_n hX dX0_turnFact_31 2 rfl ?_
          have hc32 : CUT (fw E a (mkFC (cF C ^^^ 1 <<< f) (cN C) (cG C) (cY C) (cT C) (cK C) (cA C) (cB C) (cP C) Vv (cW C))) (fw E a (mkFC (cF C ^^^ 1 <<< f) (cN C) (cG C) (cY C) (cT C) (cK C) (cA C) (cB C) (cP C) Vv (cW C))) (([] : va_W)) [0, 1, 2, 3, 4, 5, 6] [] := ⟨rfl, rfl, rfl, rfl, rfl⟩
          refine g_VI hX hc32 [.int (nI i)] [] (c_X0_isThere_t l E a (mkFC (cF C ^^^ 1 <<< f) (cN C) (cG C) (cY C) (cT C) (cK C) (cA C) (cB C) (cP C) Vv (cW C)) i (FO_sV hCF) (show i < cN C by omega)) gX0_turnFact_X0_isThere calX0_isThere rfl rfl rfl rfl 0 rfl rfl rfl rfl dX0_turnFact_32 rfl ⟨Nat.zero_le _, Nat.zero_le _⟩ (fun _ => fw E a (mkFC (cF C ^^^ 1 <<< f) (cN C) (cG C) (cY C) (cT C) (cK C) (cA C) (cB C) (cP C) Vv (cW C))) [0, 1, 2, 3, 4, 5, 6] rfl (fun _ => rfl) (fun _ hu32 => ?_)
          refine g_if_eq hX 53 dX0_turnFact_35 (by decide) (fun c35 => ?_) (fun c35 => ?_)
          · replace c35 := bI_0.mp c35
            exact absurd c35 (by simp)
          · replace c35 := mt bI_0.mpr c35
            replace c35 := bNf c35
            refine g_aload_n hX dX0_turnFact_38 0 rfl ?_
            refine g_iload_n hX dX0_turnFact_39 2 rfl ?_
            have hc40 : CUT (fw E a (mkFC (cF C ^^^ 1 <<< f) (cN C) (cG C) (cY C) (cT C) (cK C) (cA C) (cB C) (cP C) Vv (cW C))) (fw E a (mkFC (cF C ^^^ 1 <<< f) (cN C) (cG C) (cY C) (cT C) (cK C) (cA C) (cB C) (cP C) Vv (cW C))) (([] : va_W)) [0, 1, 2, 3, 4, 5, 6] [] := ⟨rfl, rfl, rfl, rfl, rfl⟩
            refine g_VI hX hc40 [.int (nI i)] [] (c_X0_hasPoliceman l E a (mkFC (cF C ^^^ 1 <<< f) (cN C) (cG C) (cY C) (cT C) (cK C) (cA C) (cB C) (cP C) Vv (cW C)) i (FO_sV hCF) (show i < cN C by omega)) gX0_turnFact_X0_hasPoliceman calX0_hasPoliceman rfl rfl rfl rfl 0 rfl rfl rfl rfl dX0_turnFact_40 rfl ⟨Nat.zero_le _, Nat.zero_le _⟩ (fun _ => fw E a (mkFC (cF C ^^^ 1 <<< f) (cN C) (cG C) (cY C) (cT C) (cK C) (cA C) (cB C) (cP C) Vv (cW C))) [0, 1, 2, 3, 4, 5, 6] rfl (fun _ => rfl) (fun _ hu40 => ?_)
            refine g_eq (st' := [.int (bI (pmB (sF C (cF C ^^^ 1 <<< f)) i))]) rfl rfl (congrArg (fun z => Value.int z :: ([] : List Value)) (rfl : bI _ = bI _)) ?_
            refine g_if_ne hX 53 dX0_turnFact_43 (by decide) (fun c43 => ?_) (fun c43 => ?_)
            · replace c43 := mt bI_0.mpr c43
              replace c43 := bNf c43
              refine g_iinc hX (j := 2) (nI (i + 1)) [(2, .int (nI (i + 1))), (0, .ref (a 0)), (1, .int (nI f))] dX0_turnFact_53 2 rfl (iinc_n _ _) (by rw [hnL]; rfl) rfl ?_
              refine g_goto hX 22 dX0_turnFact_56 (by decide) ?_
              exact g_lv _ [1, 2, 0] rfl (ih22 (i + 1) Vv (by omega) (by omega) (by rw [hVv]; first | exact upTo_put (by simp [c4, c27, c43]) (by first | rfl | rw [upTo_self]) | exact upTo_skip (by simp [c4, c27, c43])))
            · replace c43 := bI_0.mp c43
              refine g_aload_n hX dX0_turnFact_46 0 rfl ?_
              refine g_get hX (v := .ref (a 5)) 0 inRX0 (atForce_0 _ _ _ _ _ _ _ _ _ _ _ _ _) rfl 9 rfl fl28 rfl rfl dX0_turnFact_47 ?_
              refine g_iload_n hX dX0_turnFact_50 2 rfl ?_
              refine g_iconst hX (nI 0) dX0_turnFact_51 rfl ?_
              refine g_iast hX (fun zz => nI ((va_up (Vv) i 0) zz)) (fw E a (mkFC (cF C ^^^ 1 <<< f) (cN C) (cG C) (cY C) (cT C) (cK C) (cA C) (cB C) (cP C) (va_up (Vv) i 0) (cW C))) 5 0 (atForce_5 _ _ _ _ _ _ _ _ _ _ _ _ _) rfl (vp_in_nI (by omega) (by omega)) (ast_n (by omega)) dX0_turnFact_52 (stForce_5 _ _ _ _ _ _ _ _ _ _ _ _ _ _) ?_
              refine g_iinc hX (j := 2) (nI (i + 1)) [(2, .int (nI (i + 1))), (0, .ref (a 0)), (1, .int (nI f))] dX0_turnFact_53 2 rfl (iinc_n _ _) (by rw [hnL]; rfl) rfl ?_
              refine g_goto hX 22 dX0_turnFact_56 (by decide) ?_
              exact g_lv _ [1, 2, 0] rfl (ih22 (i + 1) (va_up (Vv) i 0) (by omega) (by omega) (by rw [hVv]; first | exact upTo_put (by simp [c4, c27, c43]) (by first | rfl | rw [upTo_self]) | exact upTo_skip (by simp [c4, c27, c43])))
    exact g_lv _ [1, 2, 0] rfl (lp22 _ 0 (cV C) (Nat.lt_succ_self _) (Nat.zero_le _) upTo_0)
  · replace c4 := bI_0.mp c4
    replace c4 := of_decide_eq_false c4
    exact g_eq (by rw [turnF, if_neg c4]) rfl rfl (hret () _ _ trivial dX0_turnFact_7)
set_option maxHeartbeats 4000000 in
set_option maxRecDepth 100000 in
theorem c_X0_serveDay (l : Launch) (E : EV) (a : Nat → Nat) (C : FC) (hC : FO C) : KV l yX0_serveDay wsX0_serveDay (rmN 2) E (σ := Unit) [.ref (a 0)] (fw E a C) (fun _ => True) (fun _ => fw E a (serC C)) 0 0 := by
  refine KV.of (cc := cX0_serveDay) (maxL := 2) rfl rfl rfl (fun x hX hin hret hnL => ?_)
  replace hX : CX x l cX0_serveDay RX0 wsX0_serveDay E (rmN 2) := hX
  show GG x 0 0 (fw E a C) 0 [(0, .ref (a 0))] []
  have inRX0 : ∀ w ∈ wsX00, w ∈ wsX0_serveDay := by decide +kernel
  have fl28 : Cond.fieldLink RX0 28 "LieForce$Force" "served" "[I" ∈ wsX0_serveDay := by decide +kernel
  have fl38 : Cond.fieldLink RX0 38 "LieForce$Force" "sayings" "I" ∈ wsX0_serveDay := by decide +kernel
  have fl44 : Cond.fieldLink RX0 44 "LieForce$Force" "days" "I" ∈ wsX0_serveDay := by decide +kernel
  obtain ⟨h9, h64, h512, hT, hI⟩ := id hC
  refine g_aload_n hX dX0_serveDay_0 0 rfl ?_
  refine g_dup hX dX0_serveDay_1 rfl ?_
  refine g_get hX (v := .int (nI (cY C))) 0 inRX0 rfl rfl 3 rfl fl44 rfl rfl dX0_serveDay_2 ?_
  refine g_iconst hX (nI 1) dX0_serveDay_5 rfl ?_
  refine g_iadd hX (nI ((cY C) + 1)) dX0_serveDay_6 (nI_add _ _) ?_
  refine g_eq (show (fw E a C : va_W) = fw E a (mkFC (cF C) (cN C) (cG C) (cY C) (cT C) (cK C) (cA C) (cB C) (cP C) (cV C) (cW C)) from rfl) rfl rfl ?_
  refine g_put hX (fw E a (mkFC (cF C) (cN C) (cG C) ((cY C) + 1) (cT C) (cK C) (cA C) (cB C) (cP C) (cV C) (cW C))) 0 inRX0 tyX0_ok nmX0 (atForce_0 _ _ _ _ _ _ _ _ _ _ _ _ _) rfl 3 rfl fl44 rfl rfl rfl rfl rfl dX0_serveDay_7 (stForce_0_3 _ _ _ _ _ _ _ _ _ _ _ _ _ _) ?_
  refine g_iconst hX (nI 0) dX0_serveDay_10 rfl ?_
  refine g_istore_n hX (j := 1) [(1, .int (nI 0)), (0, .ref (a 0))] dX0_serveDay_11 rfl (by rw [hnL]; rfl) rfl ?_
  have lp12 : ∀ (fuel : Nat) (i : Nat) (Vv : Nat → Nat), cN C - i < fuel → (i ≤ cN C) → (Vv = upTo i (pmB C) (cV C) (fun s => cV C s + 1)) → GG x 0 0 (fw E a (mkFC (cF C) (cN C) (cG C) (cY C + 1) (cT C) (cK C) (cA C) (cB C) (cP C) Vv (cW C))) 12 [(0, .ref (a 0)), (1, .int (nI i))] [] := by
    intro fuel
    induction fuel with
    | zero => intro i Vv hm; exact absurd hm (Nat.not_lt_zero _)
    | succ fuel ih12 =>
      intro i Vv hm12 hi hVv
      refine g_iload_n hX dX0_serveDay_12 1 rfl ?_
      refine g_aload_n hX dX0_serveDay_13 0 rfl ?_
      refine g_get hX (v := .int (nI (cN C))) 0 inRX0 (atForce_0 _ _ _ _ _ _ _ _ _ _ _ _ _) rfl 1 rfl fl38 rfl rfl dX0_serveDay_14 ?_
      refine g_icmp_ge hX 52 dX0_serveDay_17 (by decide) (fun c17 => ?_) (fun c17 => ?_)
      · replace c17 := (nI_leI (by omega) (by omega)).mp c17
        exact g_eq (by rw [serC, hVv, show i = cN C by omega] <;> rfl) rfl rfl (hret () _ _ trivial dX0_serveDay_52)
      · replace c17 := mt (nI_leI (by omega) (by omega)).mpr c17
        refine g_aload_n hX dX0_serveDay_20 0 rfl ?_
        refine g_iload_n hX dX0_serveDay_21 1 rfl ?_
        have hc22 : CUT (fw E a (mkFC (cF C) (cN C) (cG C) (cY C + 1) (cT C) (cK C) (cA C) (cB C) (cP C) Vv (cW C))) (fw E a (mkFC (cF C) (cN C) (cG C) (cY C + 1) (cT C) (cK C) (cA C) (cB C) (cP C) Vv (cW C))) (([] : va_W)) [0, 1, 2, 3, 4, 5, 6] [] := ⟨rfl, rfl, rfl, rfl, rfl⟩
        refine g_VI hX hc22 [.int (nI i)] [] (c_X0_isThere_t l E a (mkFC (cF C) (cN C) (cG C) (cY C + 1) (cT C) (cK C) (cA C) (cB C) (cP C) Vv (cW C)) i (FO_sV (FO_sY hC)) (show i < cN C by omega)) gX0_serveDay_X0_isThere calX0_isThere rfl rfl rfl rfl 0 rfl rfl rfl rfl dX0_serveDay_22 rfl ⟨Nat.zero_le _, Nat.zero_le _⟩ (fun _ => fw E a (mkFC (cF C) (cN C) (cG C) (cY C + 1) (cT C) (cK C) (cA C) (cB C) (cP C) Vv (cW C))) [0, 1, 2, 3, 4, 5, 6] rfl (fun _ => rfl) (fun _ hu22 => ?_)
        refine g_if_eq hX 46 dX0_serveDay_25 (by decide) (fun c25 => ?_) (fun c25 => ?_)
        · replace c25 := bI_0.mp c25
          exact absurd c25 (by simp)
        · replace c25 := mt bI_0.mpr c25
          replace c25 := bNf c25
          refine g_aload_n hX dX0_serveDay_28 0 rfl ?_
          refine g_iload_n hX dX0_serveDay_29 1 rfl ?_
          have hc30 : CUT (fw E a (mkFC (cF C) (cN C) (cG C) (cY C + 1) (cT C) (cK C) (cA C) (cB C) (cP C) Vv (cW C))) (fw E a (mkFC (cF C) (cN C) (cG C) (cY C + 1) (cT C) (cK C) (cA C) (cB C) (cP C) Vv (cW C))) (([] : va_W)) [0, 1, 2, 3, 4, 5, 6] [] := ⟨rfl, rfl, rfl, rfl, rfl⟩
          refine g_VI hX hc30 [.int (nI i)] [] (c_X0_hasPoliceman l E a (mkFC (cF C) (cN C) (cG C) (cY C + 1) (cT C) (cK C) (cA C) (cB C) (cP C) Vv (cW C)) i (FO_sV (FO_sY hC)) (show i < cN C by omega)) gX0_serveDay_X0_hasPoliceman calX0_hasPoliceman rfl rfl rfl rfl 0 rfl rfl rfl rfl dX0_serveDay_30 rfl ⟨Nat.zero_le _, Nat.zero_le _⟩ (fun _ => fw E a (mkFC (cF C) (cN C) (cG C) (cY C + 1) (cT C) (cK C) (cA C) (cB C) (cP C) Vv (cW C))) [0, 1, 2, 3, 4, 5, 6] rfl (fun _ => rfl) (fun _ hu30 => ?_)
          refine g_eq (st' := [.int (bI (pmB C i))]) rfl rfl (congrArg (fun z => Value.int z :: ([] : List Value)) (rfl : bI _ = bI _)) ?_
          refine g_if_eq hX 46 dX0_serveDay_33 (by decide) (fun c33 => ?_) (fun c33 => ?_)
          · replace c33 := bI_0.mp c33
            refine g_iinc hX (j := 1) (nI (i + 1)) [(1, .int (nI (i + 1))), (0, .ref (a 0))] dX0_serveDay_46 1 rfl (iinc_n _ _) (by rw [hnL]; rfl) rfl ?_
            refine g_goto hX 12 dX0_serveDay_49 (by decide) ?_
            exact g_lv _ [1, 0] rfl (ih12 (i + 1) Vv (by omega) (by omega) (by rw [hVv]; first | exact upTo_put (by simp [c17, c33]) (by first | rfl | rw [upTo_self]) | exact upTo_skip (by simp [c17, c33])))
          · replace c33 := mt bI_0.mpr c33
            replace c33 := bNf c33
            refine g_aload_n hX dX0_serveDay_36 0 rfl ?_
            refine g_get hX (v := .ref (a 5)) 0 inRX0 (atForce_0 _ _ _ _ _ _ _ _ _ _ _ _ _) rfl 9 rfl fl28 rfl rfl dX0_serveDay_37 ?_
            refine g_iload_n hX dX0_serveDay_40 1 rfl ?_
            refine g_dup2 hX dX0_serveDay_41 rfl rfl ?_
            refine g_iald hX (nI (Vv i)) 5 0 (atForce_5 _ _ _ _ _ _ _ _ _ _ _ _ _) rfl (vp_in_nI (by omega) (by omega)) (ald_n (g := fun zz => nI (Vv zz)) (i := i) (by omega)) dX0_serveDay_42 ?_
            refine g_iconst hX (nI 1) dX0_serveDay_43 rfl ?_
            refine g_iadd hX (nI ((Vv i) + 1)) dX0_serveDay_44 (nI_add _ _) ?_
            refine g_iast hX (fun zz => nI ((va_up (Vv) i ((Vv i) + 1)) zz)) (fw E a (mkFC (cF C) (cN C) (cG C) (cY C + 1) (cT C) (cK C) (cA C) (cB C) (cP C) (va_up (Vv) i ((Vv i) + 1)) (cW C))) 5 0 (atForce_5 _ _ _ _ _ _ _ _ _ _ _ _ _) rfl (vp_in_nI (by omega) (by omega)) (ast_n (by omega)) dX0_serveDay_45 (stForce_5 _ _ _ _ _ _ _ _ _ _ _ _ _ _) ?_
            refine g_iinc hX (j := 1) (nI (i + 1)) [(1, .int (nI (i + 1))), (0, .ref (a 0))] dX0_serveDay_46 1 rfl (iinc_n _ _) (by rw [hnL]; rfl) rfl ?_
            refine g_goto hX 12 dX0_serveDay_49 (by decide) ?_
            exact g_lv _ [1, 0] rfl (ih12 (i + 1) (va_up (Vv) i ((Vv i) + 1)) (by omega) (by omega) (by rw [hVv]; first | exact upTo_put (by simp [c17, c33]) (by first | rfl | rw [upTo_self]) | exact upTo_skip (by simp [c17, c33])))
  exact g_lv _ [1, 0] rfl (lp12 _ 0 (cV C) (Nat.lt_succ_self _) (Nat.zero_le _) upTo_0)
set_option maxHeartbeats 4000000 in
set_option maxRecDepth 100000 in
theorem c_X0_mateOf (l : Launch) (E : EV) (a : Nat → Nat) (C : FC) (s : Nat) (hC : FO C) (hV : VB C) (hs : s < cN C) : KI l yX0_mateOf wsX0_mateOf (rmN 3) E (σ := Unit) [.ref (a 0), .int (nI s)] (fw E a C) (fun _ => True) (fun _ => (oI (mateO C s))) (fun _ => fw E a C) 0 0 := by
  refine KI.of (cc := cX0_mateOf) (maxL := 3) (ty := .int) (hnar := fun _ _ => rfl) rfl rfl rfl (fun x hX hin hret hnL => ?_)
  replace hX : CX x l cX0_mateOf RX0 wsX0_mateOf E (rmN 3) := hX
  show GG x 0 0 (fw E a C) 0 [(0, .ref (a 0)), (1, .int (nI s))] []
  have inRX0 : ∀ w ∈ wsX00, w ∈ wsX0_mateOf := by decide +kernel
  have fl38 : Cond.fieldLink RX0 38 "LieForce$Force" "sayings" "I" ∈ wsX0_mateOf := by decide +kernel
  obtain ⟨h9, h64, h512, hT, hI⟩ := id hC
  refine g_aload_n hX dX0_mateOf_0 0 rfl ?_
  refine g_iload_n hX dX0_mateOf_1 1 rfl ?_
  have hc2 : CUT (fw E a C) (fw E a C) (([] : va_W)) [0, 1, 2, 3, 4, 5, 6] [] := ⟨rfl, rfl, rfl, rfl, rfl⟩
  refine g_VI hX hc2 [.int (nI s)] [] (c_X0_hasServed l E a C s (by first | assumption | omega) (by first | assumption | omega) (by omega)) gX0_mateOf_X0_hasServed calX0_hasServed rfl rfl rfl rfl 0 rfl rfl rfl rfl dX0_mateOf_2 rfl ⟨Nat.zero_le _, Nat.zero_le _⟩ (fun _ => fw E a C) [0, 1, 2, 3, 4, 5, 6] rfl (fun _ => rfl) (fun _ hu2 => ?_)
  refine g_if_ne hX 11 dX0_mateOf_5 (by decide) (fun c5 => ?_) (fun c5 => ?_)
  · replace c5 := mt bI_0.mpr c5
    replace c5 := bNf c5
    refine g_iload_n hX dX0_mateOf_11 1 rfl ?_
    refine g_iconst hX (nI 1) dX0_mateOf_12 rfl ?_
    refine g_iadd hX (nI (s + 1)) dX0_mateOf_13 (nI_add _ _) ?_
    refine g_istore_n hX (j := 2) [(2, .int (nI (s + 1))), (0, .ref (a 0)), (1, .int (nI s))] dX0_mateOf_14 rfl (by rw [hnL]; rfl) rfl ?_
    have lp15 : ∀ (fuel : Nat) (i : Nat), cN C - i < fuel → (i ≤ cN C) → (s < i) → (mateO C s = fst (fun t => hsB C t && clB C s t) i (cN C - i)) → GG x 0 0 (fw E a C) 15 [(0, .ref (a 0)), (1, .int (nI s)), (2, .int (nI i))] [] := by
      intro fuel
      induction fuel with
      | zero => intro i hm; exact absurd hm (Nat.not_lt_zero _)
      | succ fuel ih15 =>
        intro i hm15 hi hsi he
        refine g_iload_n hX dX0_mateOf_15 2 rfl ?_
        refine g_aload_n hX dX0_mateOf_16 0 rfl ?_
        refine g_get hX (v := .int (nI (cN C))) 0 inRX0 rfl rfl 1 rfl fl38 rfl rfl dX0_mateOf_17 ?_
        refine g_icmp_ge hX 48 dX0_mateOf_20 (by decide) (fun c20 => ?_) (fun c20 => ?_)
        · replace c20 := (nI_leI (by omega) (by omega)).mp c20
          refine g_bipush hX ((-4)) dX0_mateOf_48 rfl ?_
          exact g_eq rfl rfl (congrArg (fun z => [Value.int z]) (by rw [he, fst_done (by omega)]; rfl)) (hret () _ _ trivial dX0_mateOf_50)
        · replace c20 := mt (nI_leI (by omega) (by omega)).mpr c20
          refine g_aload_n hX dX0_mateOf_23 0 rfl ?_
          refine g_iload_n hX dX0_mateOf_24 2 rfl ?_
          have hc25 : CUT (fw E a C) (fw E a C) (([] : va_W)) [0, 1, 2, 3, 4, 5, 6] [] := ⟨rfl, rfl, rfl, rfl, rfl⟩
          refine g_VI hX hc25 [.int (nI i)] [] (c_X0_hasServed l E a C i (by first | assumption | omega) (by first | assumption | omega) (by omega)) gX0_mateOf_X0_hasServed calX0_hasServed rfl rfl rfl rfl 0 rfl rfl rfl rfl dX0_mateOf_25 rfl ⟨Nat.zero_le _, Nat.zero_le _⟩ (fun _ => fw E a C) [0, 1, 2, 3, 4, 5, 6] rfl (fun _ => rfl) (fun _ hu25 => ?_)
          refine g_if_eq hX 42 dX0_mateOf_28 (by decide) (fun c28 => ?_) (fun c28 => ?_)
          · replace c28 := bI_0.mp c28
            refine g_iinc hX (j := 2) (nI (i + 1)) [(2, .int (nI (i + 1))), (0, .ref (a 0)), (1, .int (nI s))] dX0_mateOf_42 2 rfl (iinc_n _ _) (by rw [hnL]; rfl) rfl ?_
            refine g_goto hX 15 dX0_mateOf_45 (by decide) ?_
            exact g_lv _ [1, 2, 0] rfl (ih15 (i + 1) (by omega) (by omega) (by omega) (he.trans (fst_step (by omega) (by simp [c5, c20, c28]))))
          · replace c28 := mt bI_0.mpr c28
            replace c28 := bNf c28
            refine g_aload_n hX dX0_mateOf_31 0 rfl ?_
            refine g_iload_n hX dX0_mateOf_32 1 rfl ?_
            refine g_iload_n hX dX0_mateOf_33 2 rfl ?_
            have hc34 : CUT (fw E a C) (fw E a C) (([] : va_W)) [0, 1, 2, 3, 4, 5, 6] [] := ⟨rfl, rfl, rfl, rfl, rfl⟩
            refine g_VI hX hc34 [.int (nI s), .int (nI i)] [] (c_X0_areClashing l E a C s i (by first | assumption | omega) (by omega) (by omega)) gX0_mateOf_X0_areClashing calX0_areClashing rfl rfl rfl rfl 0 rfl rfl rfl rfl dX0_mateOf_34 rfl ⟨Nat.zero_le _, Nat.zero_le _⟩ (fun _ => fw E a C) [0, 1, 2, 3, 4, 5, 6] rfl (fun _ => rfl) (fun _ hu34 => ?_)
            refine g_if_eq hX 42 dX0_mateOf_37 (by decide) (fun c37 => ?_) (fun c37 => ?_)
            · replace c37 := bI_0.mp c37
              refine g_iinc hX (j := 2) (nI (i + 1)) [(2, .int (nI (i + 1))), (0, .ref (a 0)), (1, .int (nI s))] dX0_mateOf_42 2 rfl (iinc_n _ _) (by rw [hnL]; rfl) rfl ?_
              refine g_goto hX 15 dX0_mateOf_45 (by decide) ?_
              exact g_lv _ [1, 2, 0] rfl (ih15 (i + 1) (by omega) (by omega) (by omega) (he.trans (fst_step (by omega) (by simp [c5, c20, c28, c37]))))
            · replace c37 := mt bI_0.mpr c37
              replace c37 := bNf c37
              refine g_iload_n hX dX0_mateOf_40 2 rfl ?_
              exact g_eq rfl rfl (congrArg (fun z => [Value.int z]) (by rw [he, fst_hit (by omega) (by simp [c5, c20, c28, c37])]; rfl)) (hret () _ _ trivial dX0_mateOf_41)
    exact g_lv _ [1, 2, 0] rfl (lp15 _ (s + 1) (Nat.lt_succ_self _) (by omega) (Nat.lt_succ_self _) (by rw [mateO, if_pos c5]))
  · replace c5 := bI_0.mp c5
    refine g_bipush hX ((-4)) dX0_mateOf_8 rfl ?_
    exact g_eq rfl rfl (congrArg (fun z => [Value.int z]) (by simp [mateO, c5, oI])) (hret () _ _ trivial dX0_mateOf_10)
set_option maxHeartbeats 4000000 in
set_option maxRecDepth 100000 in
theorem c_X0_firstToFall (l : Launch) (E : EV) (a : Nat → Nat) (C : FC) (hC : FO C) (hV : VB C) : KI l yX0_firstToFall wsX0_firstToFall (rmN 4) E (σ := Unit) [.ref (a 0)] (fw E a C) (fun _ => True) (fun _ => (oI (firO C))) (fun _ => fw E a C) 0 0 := by
  refine KI.of (cc := cX0_firstToFall) (maxL := 2) (ty := .int) (hnar := fun _ _ => rfl) rfl rfl rfl (fun x hX hin hret hnL => ?_)
  replace hX : CX x l cX0_firstToFall RX0 wsX0_firstToFall E (rmN 4) := hX
  show GG x 0 0 (fw E a C) 0 [(0, .ref (a 0))] []
  have inRX0 : ∀ w ∈ wsX00, w ∈ wsX0_firstToFall := by decide +kernel
  have fl38 : Cond.fieldLink RX0 38 "LieForce$Force" "sayings" "I" ∈ wsX0_firstToFall := by decide +kernel
  obtain ⟨h9, h64, h512, hT, hI⟩ := id hC
  refine g_iconst hX (nI 0) dX0_firstToFall_0 rfl ?_
  refine g_istore_n hX (j := 1) [(1, .int (nI 0)), (0, .ref (a 0))] dX0_firstToFall_1 rfl (by rw [hnL]; rfl) rfl ?_
  have lp2 : ∀ (fuel : Nat) (i : Nat), cN C - i < fuel → (i ≤ cN C) → (firO C = fst (fun s => (mateO C s).isSome) i (cN C - i)) → GG x 0 0 (fw E a C) 2 [(0, .ref (a 0)), (1, .int (nI i))] [] := by
    intro fuel
    induction fuel with
    | zero => intro i hm; exact absurd hm (Nat.not_lt_zero _)
    | succ fuel ih2 =>
      intro i hm2 hi he
      refine g_iload_n hX dX0_firstToFall_2 1 rfl ?_
      refine g_aload_n hX dX0_firstToFall_3 0 rfl ?_
      refine g_get hX (v := .int (nI (cN C))) 0 inRX0 rfl rfl 1 rfl fl38 rfl rfl dX0_firstToFall_4 ?_
      refine g_icmp_ge hX 28 dX0_firstToFall_7 (by decide) (fun c7 => ?_) (fun c7 => ?_)
      · replace c7 := (nI_leI (by omega) (by omega)).mp c7
        refine g_bipush hX ((-4)) dX0_firstToFall_28 rfl ?_
        exact g_eq rfl rfl (congrArg (fun z => [Value.int z]) (by rw [he, fst_done (by omega)]; rfl)) (hret () _ _ trivial dX0_firstToFall_30)
      · replace c7 := mt (nI_leI (by omega) (by omega)).mpr c7
        refine g_aload_n hX dX0_firstToFall_10 0 rfl ?_
        refine g_iload_n hX dX0_firstToFall_11 1 rfl ?_
        have hc12 : CUT (fw E a C) (fw E a C) (([] : va_W)) [0, 1, 2, 3, 4, 5, 6] [] := ⟨rfl, rfl, rfl, rfl, rfl⟩
        refine g_VI hX hc12 [.int (nI i)] [] (c_X0_mateOf l E a C i (by first | assumption | omega) (by first | assumption | omega) (by omega)) gX0_firstToFall_X0_mateOf calX0_mateOf rfl rfl rfl rfl 0 rfl rfl rfl rfl dX0_firstToFall_12 rfl ⟨Nat.zero_le _, Nat.zero_le _⟩ (fun _ => fw E a C) [0, 1, 2, 3, 4, 5, 6] rfl (fun _ => rfl) (fun _ hu12 => ?_)
        refine g_bipush hX ((-4)) dX0_firstToFall_15 rfl ?_
        refine g_icmp_eq hX 22 dX0_firstToFall_17 (by decide) (fun c17 => ?_) (fun c17 => ?_)
        · replace c17 := (oI_n (fun t ht => by have := (mate_lt ht).2.1; omega)).mp c17
          refine g_iinc hX (j := 1) (nI (i + 1)) [(1, .int (nI (i + 1))), (0, .ref (a 0))] dX0_firstToFall_22 1 rfl (iinc_n _ _) (by rw [hnL]; rfl) rfl ?_
          refine g_goto hX 2 dX0_firstToFall_25 (by decide) ?_
          exact g_lv _ [1, 0] rfl (ih2 (i + 1) (by omega) (by omega) (he.trans (fst_step (by omega) (by simp [c7, c17]))))
        · replace c17 := mt (oI_n (fun t ht => by have := (mate_lt ht).2.1; omega)).mpr c17
          refine g_iload_n hX dX0_firstToFall_20 1 rfl ?_
          exact g_eq rfl rfl (congrArg (fun z => [Value.int z]) (by rw [he, fst_hit (by omega) (by simpa [Option.isSome_iff_ne_none] using c17)]; rfl)) (hret () _ _ trivial dX0_firstToFall_21)
  exact g_lv _ [1, 0] rfl (lp2 _ 0 (Nat.lt_succ_self _) (Nat.zero_le _) rfl)
set_option maxHeartbeats 4000000 in
set_option maxRecDepth 100000 in
theorem c_X0_passDay (l : Launch) (E : EV) (a : Nat → Nat) (C : FC) (hC : FO C) (hV1 : VB (serC C)) : KI l yX0_passDay wsX0_passDay (rmN 4) E (σ := Unit) [.ref (a 0)] (fw E a C) (fun _ => True) (fun _ => (nI ((passC C).2))) (fun _ => fw E a ((passC C).1)) 0 0 := by
  refine KI.of (cc := cX0_passDay) (maxL := 4) (ty := .int) (hnar := fun _ _ => rfl) rfl rfl rfl (fun x hX hin hret hnL => ?_)
  replace hX : CX x l cX0_passDay RX0 wsX0_passDay E (rmN 4) := hX
  show GG x 0 0 (fw E a C) 0 [(0, .ref (a 0))] []
  have inRX0 : ∀ w ∈ wsX00, w ∈ wsX0_passDay := by decide +kernel
  have fl38 : Cond.fieldLink RX0 38 "LieForce$Force" "sayings" "I" ∈ wsX0_passDay := by decide +kernel
  obtain ⟨h9, h64, h512, hT, hI⟩ := id hC
  have hFO := fallN_ok (FO_serC hC) hV1
  have hFn := fallN_n (serC C)
  refine g_aload_n hX dX0_passDay_0 0 rfl ?_
  have hc1 : CUT (fw E a C) (fw E a C) (([] : va_W)) [0, 1, 2, 3, 4, 5, 6] [] := ⟨rfl, rfl, rfl, rfl, rfl⟩
  refine g_VV hX hc1 [] [] (c_X0_serveDay l E a C (by first | assumption | omega)) gX0_passDay_X0_serveDay calX0_serveDay rfl rfl rfl rfl 0 rfl rfl rfl rfl dX0_passDay_1 rfl ⟨Nat.zero_le _, Nat.zero_le _⟩ (fun _ => fw E a (serC C)) [0, 1, 2, 3, 4, 5, 6] rfl (fun _ => rfl) (fun _ hu1 => ?_)
  refine g_iconst hX (nI 0) dX0_passDay_4 rfl ?_
  refine g_istore_n hX (j := 1) [(1, .int (nI 0)), (0, .ref (a 0))] dX0_passDay_5 rfl (by rw [hnL]; rfl) rfl ?_
  refine g_iconst hX (nI 0) dX0_passDay_6 rfl ?_
  refine g_istore_n hX (j := 2) [(2, .int (nI 0)), (1, .int (nI 0)), (0, .ref (a 0))] dX0_passDay_7 rfl (by rw [hnL]; rfl) rfl ?_
  have lp8 : ∀ (fuel : Nat) (i : Nat), cN C - i < fuel → (i ≤ cN C) → GG x 0 0 (fw E a ((fallN (serC C) i).1)) 8 [(0, .ref (a 0)), (1, .int (nI ((fallN (serC C) i).2))), (2, .int (nI i))] [] := by
    intro fuel
    induction fuel with
    | zero => intro i hm; exact absurd hm (Nat.not_lt_zero _)
    | succ fuel ih8 =>
      intro i hm8 hi
      have hni : cN (fallN (serC C) i).1 = cN C := hFn i
      refine g_iload_n hX dX0_passDay_8 2 rfl ?_
      refine g_aload_n hX dX0_passDay_9 0 rfl ?_
      refine g_get hX (v := .int (nI (cN ((fallN (serC C) i).1)))) 0 inRX0 rfl rfl 1 rfl fl38 rfl rfl dX0_passDay_10 ?_
      refine g_icmp_ge hX 47 dX0_passDay_13 (by decide) (fun c13 => ?_) (fun c13 => ?_)
      · replace c13 := (nI_leI (by omega) (by omega)).mp c13
        refine g_iload_n hX dX0_passDay_47 1 rfl ?_
        exact g_eq (by rw [passC, show cN C = i by omega]) rfl (congrArg (fun z => [Value.int z]) (congrArg nI (by rw [passC, show cN C = i by omega]))) (hret () _ _ trivial dX0_passDay_48)
      · replace c13 := mt (nI_leI (by omega) (by omega)).mpr c13
        refine g_aload_n hX dX0_passDay_16 0 rfl ?_
        refine g_iload_n hX dX0_passDay_17 2 rfl ?_
        have hc18 : CUT (fw E a ((fallN (serC C) i).1)) (fw E a ((fallN (serC C) i).1)) (([] : va_W)) [0, 1, 2, 3, 4, 5, 6] [] := ⟨rfl, rfl, rfl, rfl, rfl⟩
        refine g_VI hX hc18 [.int (nI i)] [] (c_X0_mateOf l E a ((fallN (serC C) i).1) i ((hFO i).1) ((hFO i).2) (by omega)) gX0_passDay_X0_mateOf calX0_mateOf rfl rfl rfl rfl 0 rfl rfl rfl rfl dX0_passDay_18 rfl ⟨Nat.zero_le _, Nat.zero_le _⟩ (fun _ => fw E a ((fallN (serC C) i).1)) [0, 1, 2, 3, 4, 5, 6] rfl (fun _ => rfl) (fun _ hu18 => ?_)
        refine g_istore_n hX (j := 3) [(3, .int (oI (mateO ((fallN (serC C) i).1) i))), (0, .ref (a 0)), (1, .int (nI ((fallN (serC C) i).2))), (2, .int (nI i))] dX0_passDay_21 rfl (by rw [hnL]; rfl) rfl ?_
        refine g_iload_n hX dX0_passDay_22 0 rfl ?_
        refine g_bipush hX ((-4)) dX0_passDay_23 rfl ?_
        refine g_icmp_eq hX 41 dX0_passDay_25 (by decide) (fun c25 => ?_) (fun c25 => ?_)
        · replace c25 := (oI_n (fun t ht => by have := (mate_lt ht).2.1; omega)).mp c25
          have hst : fallN (serC C) (i + 1) = fallN (serC C) i := by rw [fallN, fallStep, c25]
          refine g_iinc hX (j := 2) (nI (i + 1)) [(2, .int (nI (i + 1))), (3, .int (oI (mateO ((fallN (serC C) i).1) i))), (0, .ref (a 0)), (1, .int (nI ((fallN (serC C) i).2)))] dX0_passDay_41 3 rfl (iinc_n _ _) (by rw [hnL]; rfl) rfl ?_
          refine g_goto hX 8 dX0_passDay_44 (by decide) ?_
          exact g_lv [(0, .ref (a 0)), (1, .int (nI ((fallN (serC C) i).2))), (2, .int (nI (i + 1)))] [2, 3, 0] rfl (g_eq (by rw [hst]) (by rw [hst]) rfl (ih8 (i + 1) (by omega) (by omega)))
        · replace c25 := mt (oI_n (fun t ht => by have := (mate_lt ht).2.1; omega)).mpr c25
          obtain ⟨t, ht⟩ : ∃ t, mateO (fallN (serC C) i).1 i = some t := by cases hm : mateO (fallN (serC C) i).1 i with | none => exact absurd hm c25 | some t => exact ⟨t, rfl⟩
          rw [show oI (mateO (fallN (serC C) i).1 i) = nI t from by rw [ht]; rfl]
          obtain ⟨hit, htn, -⟩ := mate_lt ht
          have hst : fallN (serC C) (i + 1) = (toC (toC (fallN (serC C) i).1 i) t, (fallN (serC C) i).2 + 2) := by rw [fallN, fallStep, ht]
          refine g_aload_n hX dX0_passDay_28 1 rfl ?_
          refine g_iload_n hX dX0_passDay_29 3 rfl ?_
          have hc30 : CUT (fw E a ((fallN (serC C) i).1)) (fw E a ((fallN (serC C) i).1)) (([] : va_W)) [0, 1, 2, 3, 4, 5, 6] [] := ⟨rfl, rfl, rfl, rfl, rfl⟩
          refine g_VV hX hc30 [.int (nI i)] [] (c_X0_takeOut l E a ((fallN (serC C) i).1) i ((hFO i).1) (by omega)) gX0_passDay_X0_takeOut calX0_takeOut rfl rfl rfl rfl 0 rfl rfl rfl rfl dX0_passDay_30 rfl ⟨Nat.zero_le _, Nat.zero_le _⟩ (fun _ => fw E a (toC ((fallN (serC C) i).1) i)) [0, 1, 2, 3, 4, 5, 6] rfl (fun _ => rfl) (fun _ hu30 => ?_)
          refine g_aload_n hX dX0_passDay_33 1 rfl ?_
          refine g_iload_n hX dX0_passDay_34 0 rfl ?_
          have hc35 : CUT (fw E a (toC ((fallN (serC C) i).1) i)) (fw E a (toC ((fallN (serC C) i).1) i)) (([] : va_W)) [0, 1, 2, 3, 4, 5, 6] [] := ⟨rfl, rfl, rfl, rfl, rfl⟩
          refine g_VV hX hc35 [.int (nI t)] [] (c_X0_takeOut l E a (toC ((fallN (serC C) i).1) i) t (FO_toC (hFO i).1 (by omega)) htn) gX0_passDay_X0_takeOut calX0_takeOut rfl rfl rfl rfl 0 rfl rfl rfl rfl dX0_passDay_35 rfl ⟨Nat.zero_le _, Nat.zero_le _⟩ (fun _ => fw E a (toC (toC ((fallN (serC C) i).1) i) t)) [0, 1, 2, 3, 4, 5, 6] rfl (fun _ => rfl) (fun _ hu35 => ?_)
          refine g_iinc hX (j := 1) (nI ((fallN (serC C) i).2 + 2)) [(1, .int (nI ((fallN (serC C) i).2 + 2))), (3, .int (nI t)), (0, .ref (a 0)), (2, .int (nI i))] dX0_passDay_38 2 rfl (iinc_n _ _) (by rw [hnL]; rfl) rfl ?_
          refine g_iinc hX (j := 2) (nI (i + 1)) [(2, .int (nI (i + 1))), (1, .int (nI ((fallN (serC C) i).2 + 2))), (3, .int (nI t)), (0, .ref (a 0))] dX0_passDay_41 3 rfl (iinc_n _ _) (by rw [hnL]; rfl) rfl ?_
          refine g_goto hX 8 dX0_passDay_44 (by decide) ?_
          exact g_lv [(0, .ref (a 0)), (1, .int (nI ((fallN (serC C) i).2 + 2))), (2, .int (nI (i + 1)))] [3, 1, 0] rfl (g_eq (by rw [hst]) (by rw [hst]) rfl (ih8 (i + 1) (by omega) (by omega)))
  exact g_lv _ [2, 1, 0] rfl (lp8 _ 0 (Nat.lt_succ_self _) (Nat.zero_le _))
set_option maxHeartbeats 4000000 in
set_option maxRecDepth 100000 in
theorem c_X5_worldsOfLiteral (l : Launch) (E : EV) (q : Nat) (hq : q < 12) : KL l yX5_worldsOfLiteral wsX5_worldsOfLiteral (rmN 0) E (σ := Unit) [.int (nI q)] (([] : va_W)) (fun _ => True) (fun _ => (lN (wol q))) (fun _ => ([] : va_W)) 0 0 := by
  refine KL.of (cc := cX5_worldsOfLiteral) (maxL := 1) rfl rfl rfl (fun x hX hin hret hnL => ?_)
  replace hX : CX x l cX5_worldsOfLiteral RX5 wsX5_worldsOfLiteral E (rmN 0) := hX
  show GG x 0 0 (([] : va_W)) 0 [(0, .int (nI q))] []
  refine g_iload_n hX dX5_worldsOfLiteral_0 0 rfl ?_
  refine g_if_lt hX 10 dX5_worldsOfLiteral_1 (by decide) (fun c1 => ?_) (fun c1 => ?_)
  · replace c1 := (nz_lt (by omega)).mp c1
    exact c1.elim
  · replace c1 := mt (nz_lt (by omega)).mpr c1
    refine g_iload_n hX dX5_worldsOfLiteral_4 0 rfl ?_
    refine g_bipush hX (nI 12) dX5_worldsOfLiteral_5 rfl ?_
    refine g_icmp_lt hX 12 dX5_worldsOfLiteral_7 (by decide) (fun c7 => ?_) (fun c7 => ?_)
    · replace c7 := (nI_ltI (by omega) (by omega)).mp c7
      refine g_iload_n hX dX5_worldsOfLiteral_12 0 rfl ?_
      refine g_bipush hX (nI 6) dX5_worldsOfLiteral_13 rfl ?_
      refine g_icmp_ge hX 26 dX5_worldsOfLiteral_15 (by decide) (fun c15 => ?_) (fun c15 => ?_)
      · replace c15 := (nI_leI (by omega) (by omega)).mp c15
        refine g_wof hX (by decide +kernel) dX5_worldsOfLiteral_26 ?_
        refine g_iload_n hX dX5_worldsOfLiteral_29 0 rfl ?_
        refine g_bipush hX (nI 6) dX5_worldsOfLiteral_30 rfl ?_
        refine g_isub hX (nI (q - 6)) dX5_worldsOfLiteral_32 (pk_sub (by omega)) ?_
        refine g_wofl hX (wofL.getD (q - 6) 0) (vp_in_nI (by omega) (by omega)) (by rw [nI_clamp (by omega)]) dX5_worldsOfLiteral_33 ?_
        refine g_ldc2 hX (v := (-1)) dX5_worldsOfLiteral_34 (by decide +kernel) ?_
        refine g_lxor hX ((wofL.getD (q - 6) 0) ^^^ (-1)) dX5_worldsOfLiteral_37 rfl ?_
        exact g_eq rfl rfl (congrArg (fun z => [Value.long z]) (by first | exact wol_lo q (by omega) | exact wol_hi q hq (by omega))) (hret () _ _ trivial dX5_worldsOfLiteral_38)
      · replace c15 := mt (nI_leI (by omega) (by omega)).mpr c15
        refine g_wof hX (by decide +kernel) dX5_worldsOfLiteral_18 ?_
        refine g_iload_n hX dX5_worldsOfLiteral_21 0 rfl ?_
        refine g_wofl hX (wofL.getD q 0) (vp_in_nI (by omega) (by omega)) (by rw [nI_clamp (by omega)]) dX5_worldsOfLiteral_22 ?_
        refine g_goto hX 38 dX5_worldsOfLiteral_23 (by decide) ?_
        exact g_eq rfl rfl (congrArg (fun z => [Value.long z]) (by first | exact wol_lo q (by omega) | exact wol_hi q hq (by omega))) (hret () _ _ trivial dX5_worldsOfLiteral_38)
    · replace c7 := mt (nI_ltI (by omega) (by omega)).mpr c7
      exact absurd hq c7
set_option maxHeartbeats 4000000 in
set_option maxRecDepth 100000 in
theorem c_X5_worldsOfSaying (l : Launch) (E : EV) (kk : Nat) (q : Nat) (q2 : Nat) (hk : kk < 5) (hq : q < 12) (hq2 : q2 < 12) : KL l yX5_worldsOfSaying wsX5_worldsOfSaying (rmN 1) E (σ := Unit) [.int (nI kk), .int (nI q), .int (nI q2)] (([] : va_W)) (fun _ => True) (fun _ => (lN (wos kk q q2))) (fun _ => ([] : va_W)) 0 0 := by
  refine KL.of (cc := cX5_worldsOfSaying) (maxL := 7) rfl rfl rfl (fun x hX hin hret hnL => ?_)
  replace hX : CX x l cX5_worldsOfSaying RX5 wsX5_worldsOfSaying E (rmN 1) := hX
  show GG x 0 0 (([] : va_W)) 0 [(0, .int (nI kk)), (1, .int (nI q)), (2, .int (nI q2))] []
  refine g_iload_n hX dX5_worldsOfSaying_0 1 rfl ?_
  have hc1 : CUT (([] : va_W)) (([] : va_W)) (([] : va_W)) [] [] := ⟨rfl, rfl, rfl, rfl, rfl⟩
  refine g_TL hX hc1 [.int (nI q)] [] (c_X5_worldsOfLiteral l E q (by omega)) gX5_worldsOfSaying_X5_worldsOfLiteral calX5_worldsOfLiteral rfl rfl rfl rfl dX5_worldsOfSaying_1 rfl ⟨Nat.zero_le _, Nat.zero_le _⟩ (fun _ => ([] : va_W)) [] rfl (fun _ => rfl) (fun _ hu1 => ?_)
  refine g_lstore_n hX (j := 3) [(3, .long (lN (wol q))), (0, .int (nI kk)), (1, .int (nI q)), (2, .int (nI q2))] dX5_worldsOfSaying_4 rfl (by rw [hnL]; rfl) rfl ?_
  refine g_iload_n hX dX5_worldsOfSaying_5 3 rfl ?_
  have hc6 : CUT (([] : va_W)) (([] : va_W)) (([] : va_W)) [] [] := ⟨rfl, rfl, rfl, rfl, rfl⟩
  refine g_TL hX hc6 [.int (nI q2)] [] (c_X5_worldsOfLiteral l E q2 hq2) gX5_worldsOfSaying_X5_worldsOfLiteral calX5_worldsOfLiteral rfl rfl rfl rfl dX5_worldsOfSaying_6 rfl ⟨Nat.zero_le _, Nat.zero_le _⟩ (fun _ => ([] : va_W)) [] rfl (fun _ => rfl) (fun _ hu6 => ?_)
  refine g_lstore hX (j := 5) [(5, .long (lN (wol q2))), (3, .long (lN (wol q))), (0, .int (nI kk)), (1, .int (nI q)), (2, .int (nI q2))] dX5_worldsOfSaying_9 (by rw [hnL]; rfl) rfl ?_
  refine g_iload_n hX dX5_worldsOfSaying_11 2 rfl ?_
  by_cases sw12_1 : kk = 1
  · refine g_tin hX 44 dX5_worldsOfSaying_12 (by rw [sw12_1]; decide) (by rw [sw12_1]; decide) (by rw [sw12_1]; rfl) (by decide) ?_
    refine g_lload_n hX dX5_worldsOfSaying_44 1 rfl ?_
    refine g_lload hX dX5_worldsOfSaying_45 0 rfl ?_
    refine g_land hX (lN ((wol q) &&& (wol q2))) dX5_worldsOfSaying_47 (fb_andL _ _) ?_
    exact g_eq rfl rfl (congrArg (fun z => [Value.long z]) (congrArg lN (by simp [wos, sw12_1]))) (hret () _ _ trivial dX5_worldsOfSaying_48)
  by_cases sw12_2 : kk = 2
  · refine g_tin hX 49 dX5_worldsOfSaying_12 (by rw [sw12_2]; decide) (by rw [sw12_2]; decide) (by rw [sw12_2]; rfl) (by decide) ?_
    refine g_lload_n hX dX5_worldsOfSaying_49 1 rfl ?_
    refine g_lload hX dX5_worldsOfSaying_50 0 rfl ?_
    refine g_lor hX (lN ((wol q) ||| (wol q2))) dX5_worldsOfSaying_52 (fb_orL _ _) ?_
    exact g_eq rfl rfl (congrArg (fun z => [Value.long z]) (congrArg lN (by simp [wos, sw12_2]))) (hret () _ _ trivial dX5_worldsOfSaying_53)
  by_cases sw12_3 : kk = 3
  · refine g_tin hX 54 dX5_worldsOfSaying_12 (by rw [sw12_3]; decide) (by rw [sw12_3]; decide) (by rw [sw12_3]; rfl) (by decide) ?_
    refine g_lload_n hX dX5_worldsOfSaying_54 1 rfl ?_
    refine g_ldc2 hX (v := (-1)) dX5_worldsOfSaying_55 (by decide +kernel) ?_
    refine g_lxor hX (lN (2 ^ 64 - (wol q + 1))) dX5_worldsOfSaying_58 (lxor_m1 (by exact wol_lt12 q hq)) ?_
    refine g_lload hX dX5_worldsOfSaying_59 0 rfl ?_
    refine g_lor hX (lN ((2 ^ 64 - (wol q + 1)) ||| (wol q2))) dX5_worldsOfSaying_61 (fb_orL _ _) ?_
    exact g_eq rfl rfl (congrArg (fun z => [Value.long z]) (congrArg lN (by simp [wos, sw12_3]))) (hret () _ _ trivial dX5_worldsOfSaying_62)
  by_cases sw12_4 : kk = 4
  · refine g_tin hX 63 dX5_worldsOfSaying_12 (by rw [sw12_4]; decide) (by rw [sw12_4]; decide) (by rw [sw12_4]; rfl) (by decide) ?_
    refine g_lload_n hX dX5_worldsOfSaying_63 1 rfl ?_
    refine g_lload hX dX5_worldsOfSaying_64 0 rfl ?_
    refine g_lxor hX (lN ((wol q) ^^^ (wol q2))) dX5_worldsOfSaying_66 (fb_xorL _ _) ?_
    exact g_eq rfl rfl (congrArg (fun z => [Value.long z]) (congrArg lN (by simp [wos, sw12_4]))) (hret () _ _ trivial dX5_worldsOfSaying_67)
  refine g_tout hX 68 dX5_worldsOfSaying_12 (by rw [nI_toInt (by omega)]; omega) (by decide) ?_
  refine g_lload_n hX dX5_worldsOfSaying_68 1 rfl ?_
  exact g_eq rfl rfl (congrArg (fun z => [Value.long z]) (congrArg lN (by simp [wos, sw12_1, sw12_2, sw12_3, sw12_4]))) (hret () _ _ trivial dX5_worldsOfSaying_69)
set_option maxHeartbeats 4000000 in
set_option maxRecDepth 100000 in
theorem c_X5_lowestWorld (l : Launch) (E : EV) (v : Nat) (hv : v < 2 ^ 64) : KI l yX5_lowestWorld wsX5_lowestWorld (rmN 1) E (σ := Unit) [.long (lN v)] (([] : va_W)) (fun _ => True) (fun _ => (oI (fst v.testBit 0 64))) (fun _ => ([] : va_W)) 0 0 := by
  refine KI.of (cc := cX5_lowestWorld) (maxL := 3) (ty := .int) (hnar := fun _ _ => rfl) rfl rfl rfl (fun x hX hin hret hnL => ?_)
  replace hX : CX x l cX5_lowestWorld RX5 wsX5_lowestWorld E (rmN 1) := hX
  show GG x 0 0 (([] : va_W)) 0 [(0, .long (lN v))] []
  refine g_iconst hX (nI 0) dX5_lowestWorld_0 rfl ?_
  refine g_istore_n hX (j := 2) [(2, .int (nI 0)), (0, .long (lN v))] dX5_lowestWorld_1 rfl (by rw [hnL]; rfl) rfl ?_
  have lp2 : ∀ (fuel : Nat) (i : Nat), 64 - i < fuel → (i ≤ 64) → (fst v.testBit 0 64 = fst v.testBit i (64 - i)) → GG x 0 0 (([] : va_W)) 2 [(0, .long (lN v)), (2, .int (nI i))] [] := by
    intro fuel
    induction fuel with
    | zero => intro i hm; exact absurd hm (Nat.not_lt_zero _)
    | succ fuel ih2 =>
      intro i hm2 hi he
      refine g_iload_n hX dX5_lowestWorld_2 1 rfl ?_
      refine g_bipush hX (nI 64) dX5_lowestWorld_3 rfl ?_
      refine g_icmp_ge hX 24 dX5_lowestWorld_5 (by decide) (fun c5 => ?_) (fun c5 => ?_)
      · replace c5 := (nI_leI (by omega) (by omega)).mp c5
        refine g_bipush hX ((-4)) dX5_lowestWorld_24 rfl ?_
        exact g_eq rfl rfl (congrArg (fun z => [Value.int z]) (by rw [he, fst_done (by omega)]; rfl)) (hret () _ _ trivial dX5_lowestWorld_26)
      · replace c5 := mt (nI_leI (by omega) (by omega)).mpr c5
        refine g_lload_n hX dX5_lowestWorld_8 0 rfl ?_
        refine g_iload_n hX dX5_lowestWorld_9 1 rfl ?_
        have hc10 : CUT (([] : va_W)) (([] : va_W)) (([] : va_W)) [] [] := ⟨rfl, rfl, rfl, rfl, rfl⟩
        refine g_TI hX hc10 [.long (lN v), .int (nI i)] [] (c_X5_isAmong l E v i (by first | assumption | omega) (by omega)) gX5_lowestWorld_X5_isAmong calX5_isAmong rfl rfl rfl rfl dX5_lowestWorld_10 rfl ⟨Nat.zero_le _, Nat.zero_le _⟩ (fun _ => ([] : va_W)) [] rfl (fun _ => rfl) (fun _ hu10 => ?_)
        refine g_if_eq hX 18 dX5_lowestWorld_13 (by decide) (fun c13 => ?_) (fun c13 => ?_)
        · replace c13 := bI_0.mp c13
          refine g_iinc hX (j := 2) (nI (i + 1)) [(2, .int (nI (i + 1))), (0, .long (lN v))] dX5_lowestWorld_18 1 rfl (iinc_n _ _) (by rw [hnL]; rfl) rfl ?_
          refine g_goto hX 2 dX5_lowestWorld_21 (by decide) ?_
          exact g_lv _ [1, 0] rfl (ih2 (i + 1) (by omega) (by omega) (he.trans (fst_step (by omega) (by simp [c5, c13]))))
        · replace c13 := mt bI_0.mpr c13
          replace c13 := bNf c13
          refine g_iload_n hX dX5_lowestWorld_16 1 rfl ?_
          exact g_eq rfl rfl (congrArg (fun z => [Value.int z]) (by rw [he, fst_hit (by omega) (by simp [c5, c13])]; rfl)) (hret () _ _ trivial dX5_lowestWorld_17)
  exact g_lv _ [1, 0] rfl (lp2 _ 0 (Nat.lt_succ_self _) (Nat.zero_le _) rfl)
set_option maxHeartbeats 4000000 in
set_option maxRecDepth 100000 in
theorem c_X5_power (l : Launch) (E : EV) (v : Nat) (k : Nat) (hk : k < 2 ^ 31) : KI l yX5_power wsX5_power (rmN 0) E (σ := Unit) [.int (nI v), .int (nI k)] (([] : va_W)) (fun _ => True) (fun _ => (nI (v ^ k))) (fun _ => ([] : va_W)) 0 0 := by
  refine KI.of (cc := cX5_power) (maxL := 4) (ty := .int) (hnar := fun _ _ => rfl) rfl rfl rfl (fun x hX hin hret hnL => ?_)
  replace hX : CX x l cX5_power RX5 wsX5_power E (rmN 0) := hX
  show GG x 0 0 (([] : va_W)) 0 [(0, .int (nI v)), (1, .int (nI k))] []
  refine g_iconst hX (nI 1) dX5_power_0 rfl ?_
  refine g_istore_n hX (j := 2) [(2, .int (nI 1)), (0, .int (nI v)), (1, .int (nI k))] dX5_power_1 rfl (by rw [hnL]; rfl) rfl ?_
  refine g_iconst hX (nI 0) dX5_power_2 rfl ?_
  refine g_istore_n hX (j := 3) [(3, .int (nI 0)), (2, .int (nI 1)), (0, .int (nI v)), (1, .int (nI k))] dX5_power_3 rfl (by rw [hnL]; rfl) rfl ?_
  have lp4 : ∀ (fuel : Nat) (i : Nat) (acc : Nat), k - i < fuel → (i ≤ k) → (acc = v ^ i) → GG x 0 0 (([] : va_W)) 4 [(0, .int (nI v)), (1, .int (nI k)), (2, .int (nI acc)), (3, .int (nI i))] [] := by
    intro fuel
    induction fuel with
    | zero => intro i acc hm; exact absurd hm (Nat.not_lt_zero _)
    | succ fuel ih4 =>
      intro i acc hm4 hi hacc
      refine g_iload_n hX dX5_power_4 3 rfl ?_
      refine g_iload_n hX dX5_power_5 1 rfl ?_
      refine g_icmp_ge hX 19 dX5_power_6 (by decide) (fun c6 => ?_) (fun c6 => ?_)
      · replace c6 := (nI_leI (by omega) (by omega)).mp c6
        refine g_iload_n hX dX5_power_19 2 rfl ?_
        exact g_eq rfl rfl (congrArg (fun z => [Value.int z]) (congrArg nI (by rw [hacc, show i = k by omega]))) (hret () _ _ trivial dX5_power_20)
      · replace c6 := mt (nI_leI (by omega) (by omega)).mpr c6
        refine g_iload_n hX dX5_power_9 2 rfl ?_
        refine g_iload_n hX dX5_power_10 0 rfl ?_
        refine g_imul hX (nI (acc * v)) dX5_power_11 (pk_mul _ _) ?_
        refine g_istore_n hX (j := 2) [(2, .int (nI (acc * v))), (0, .int (nI v)), (1, .int (nI k)), (3, .int (nI i))] dX5_power_12 rfl (by rw [hnL]; rfl) rfl ?_
        refine g_iinc hX (j := 3) (nI (i + 1)) [(3, .int (nI (i + 1))), (2, .int (nI (acc * v))), (0, .int (nI v)), (1, .int (nI k))] dX5_power_13 3 rfl (iinc_n _ _) (by rw [hnL]; rfl) rfl ?_
        refine g_goto hX 4 dX5_power_16 (by decide) ?_
        exact g_lv _ [2, 3, 1, 0] rfl (ih4 (i + 1) (acc * v) (by omega) (by omega) (by rw [hacc, Nat.pow_succ]))
  exact g_lv _ [2, 3, 1, 0] rfl (lp4 _ 0 1 (Nat.lt_succ_self _) (Nat.zero_le _) rfl)
set_option maxHeartbeats 4000000 in
set_option maxRecDepth 100000 in
theorem c_X5_waysToTurn (l : Launch) (E : EV) (v : Nat) (k : Nat) (hv : v < 64) (hk : k ≤ 10) : KI l yX5_waysToTurn wsX5_waysToTurn (rmN 1) E (σ := Unit) [.int (nI v), .int (nI k)] (([] : va_W)) (fun _ => True) (fun _ => (nI (k ^ pop v * (10 - k) ^ (6 - pop v)))) (fun _ => ([] : va_W)) 0 0 := by
  refine KI.of (cc := cX5_waysToTurn) (maxL := 3) (ty := .int) (hnar := fun _ _ => rfl) rfl rfl rfl (fun x hX hin hret hnL => ?_)
  replace hX : CX x l cX5_waysToTurn RX5 wsX5_waysToTurn E (rmN 1) := hX
  show GG x 0 0 (([] : va_W)) 0 [(0, .int (nI v)), (1, .int (nI k))] []
  have hp6 := pop6 v hv
  refine g_iload_n hX dX5_waysToTurn_0 0 rfl ?_
  have hc1 : CUT (([] : va_W)) (([] : va_W)) (([] : va_W)) [] [] := ⟨rfl, rfl, rfl, rfl, rfl⟩
  refine g_TI hX hc1 [.int (nI v)] [] (c_J6_bitCount_0f7a4 l E v (by omega)) gX5_waysToTurn_J6_bitCount_0f7a4 calJ6_bitCount_0f7a4 rfl rfl rfl rfl dX5_waysToTurn_1 rfl ⟨Nat.zero_le _, Nat.zero_le _⟩ (fun _ => ([] : va_W)) [] rfl (fun _ => rfl) (fun _ hu1 => ?_)
  refine g_istore_n hX (j := 2) [(2, .int (nI (pop v))), (0, .int (nI v)), (1, .int (nI k))] dX5_waysToTurn_4 rfl (by rw [hnL]; rfl) rfl ?_
  refine g_iload_n hX dX5_waysToTurn_5 2 rfl ?_
  refine g_iload_n hX dX5_waysToTurn_6 0 rfl ?_
  have hc7 : CUT (([] : va_W)) (([] : va_W)) (([] : va_W)) [] [] := ⟨rfl, rfl, rfl, rfl, rfl⟩
  refine g_TI hX hc7 [.int (nI k), .int (nI (pop v))] [] (c_X5_power l E k (pop v) (by omega)) gX5_waysToTurn_X5_power calX5_power rfl rfl rfl rfl dX5_waysToTurn_7 rfl ⟨Nat.zero_le _, Nat.zero_le _⟩ (fun _ => ([] : va_W)) [] rfl (fun _ => rfl) (fun _ hu7 => ?_)
  refine g_bipush hX (nI 10) dX5_waysToTurn_10 rfl ?_
  refine g_iload_n hX dX5_waysToTurn_12 2 rfl ?_
  refine g_isub hX (nI (10 - k)) dX5_waysToTurn_13 (pk_sub (by omega)) ?_
  refine g_bipush hX (nI 6) dX5_waysToTurn_14 rfl ?_
  refine g_iload_n hX dX5_waysToTurn_16 0 rfl ?_
  refine g_isub hX (nI (6 - (pop v))) dX5_waysToTurn_17 (pk_sub (by omega)) ?_
  have hc18 : CUT (([] : va_W)) (([] : va_W)) (([] : va_W)) [] [] := ⟨rfl, rfl, rfl, rfl, rfl⟩
  refine g_TI hX hc18 [.int (nI (10 - k)), .int (nI (6 - (pop v)))] [.int (nI (k ^ (pop v)))] (c_X5_power l E (10 - k) (6 - (pop v)) (by omega)) gX5_waysToTurn_X5_power calX5_power rfl rfl rfl rfl dX5_waysToTurn_18 rfl ⟨Nat.zero_le _, Nat.zero_le _⟩ (fun _ => ([] : va_W)) [] rfl (fun _ => rfl) (fun _ hu18 => ?_)
  refine g_imul hX (nI ((k ^ (pop v)) * ((10 - k) ^ (6 - (pop v))))) dX5_waysToTurn_21 (pk_mul _ _) ?_
  exact g_eq rfl rfl (congrArg (fun z => [Value.int z]) (congrArg nI (by rfl))) (hret () _ _ trivial dX5_waysToTurn_22)
set_option maxHeartbeats 4000000 in
set_option maxRecDepth 100000 in
theorem c_X5_commonDivisor (l : Launch) (E : EV) (u : Nat) (v : Nat) (hu : u < 2 ^ 31) (hv : v < 2 ^ 31) : KI l yX5_commonDivisor wsX5_commonDivisor (rmN 0) E (σ := Unit) [.int (nI u), .int (nI v)] (([] : va_W)) (fun _ => True) (fun _ => (nI (euc 100 u v))) (fun _ => ([] : va_W)) 0 0 := by
  refine KI.of (cc := cX5_commonDivisor) (maxL := 6) (ty := .int) (hnar := fun _ _ => rfl) rfl rfl rfl (fun x hX hin hret hnL => ?_)
  replace hX : CX x l cX5_commonDivisor RX5 wsX5_commonDivisor E (rmN 0) := hX
  show GG x 0 0 (([] : va_W)) 0 [(0, .int (nI u)), (1, .int (nI v))] []
  refine g_iload_n hX dX5_commonDivisor_0 0 rfl ?_
  refine g_istore_n hX (j := 2) [(2, .int (nI u)), (0, .int (nI u)), (1, .int (nI v))] dX5_commonDivisor_1 rfl (by rw [hnL]; rfl) rfl ?_
  refine g_iload_n hX dX5_commonDivisor_2 2 rfl ?_
  refine g_istore_n hX (j := 3) [(3, .int (nI v)), (2, .int (nI u)), (0, .int (nI u)), (1, .int (nI v))] dX5_commonDivisor_3 rfl (by rw [hnL]; rfl) rfl ?_
  refine g_iconst hX (nI 0) dX5_commonDivisor_4 rfl ?_
  refine g_istore hX (j := 4) [(4, .int (nI 0)), (3, .int (nI v)), (2, .int (nI u)), (0, .int (nI u)), (1, .int (nI v))] dX5_commonDivisor_5 (by rw [hnL]; rfl) rfl ?_
  have lp7 : ∀ (fuel : Nat) (i : Nat) (xl : Nat) (xr : Nat), 100 - i < fuel → (i ≤ 100) → (xl < 2 ^ 31) → (xr < 2 ^ 31) → (euc 100 u v = euc (100 - i) xl xr) → GG x 0 0 (([] : va_W)) 7 [(0, .int (nI u)), (1, .int (nI v)), (2, .int (nI xl)), (3, .int (nI xr)), (4, .int (nI i))] [] := by
    intro fuel
    induction fuel with
    | zero => intro i xl xr hm; exact absurd hm (Nat.not_lt_zero _)
    | succ fuel ih7 =>
      intro i xl xr hm7 hi hl hr he
      refine g_iload hX dX5_commonDivisor_7 4 rfl ?_
      refine g_bipush hX (nI 100) dX5_commonDivisor_9 rfl ?_
      refine g_icmp_ge hX 34 dX5_commonDivisor_11 (by decide) (fun c11 => ?_) (fun c11 => ?_)
      · replace c11 := (nI_leI (by omega) (by omega)).mp c11
        refine g_iload_n hX dX5_commonDivisor_34 2 rfl ?_
        exact g_eq rfl rfl (congrArg (fun z => [Value.int z]) (congrArg nI (by rw [he]; first | (rw [show i = 100 by omega]; rfl) | (rw [show 100 - i = (100 - (i + 1)) + 1 by omega, euc, if_pos c15])))) (hret () _ _ trivial dX5_commonDivisor_35)
      · replace c11 := mt (nI_leI (by omega) (by omega)).mpr c11
        refine g_iload_n hX dX5_commonDivisor_14 3 rfl ?_
        refine g_if_eq hX 34 dX5_commonDivisor_15 (by decide) (fun c15 => ?_) (fun c15 => ?_)
        · replace c15 := (nz_eq (by omega)).mp c15
          refine g_iload_n hX dX5_commonDivisor_34 2 rfl ?_
          exact g_eq rfl rfl (congrArg (fun z => [Value.int z]) (congrArg nI (by rw [he]; first | (rw [show i = 100 by omega]; rfl) | (rw [show 100 - i = (100 - (i + 1)) + 1 by omega, euc, if_pos c15])))) (hret () _ _ trivial dX5_commonDivisor_35)
        · replace c15 := mt (nz_eq (by omega)).mpr c15
          refine g_iload_n hX dX5_commonDivisor_18 2 rfl ?_
          refine g_iload_n hX dX5_commonDivisor_19 3 rfl ?_
          refine g_irem hX (nI (xl % xr)) dX5_commonDivisor_20 (nI_ne0 (by omega) (by omega)) (pk_rem (by omega) (by omega) (by omega)) ?_
          refine g_istore hX (j := 5) [(5, .int (nI (xl % xr))), (0, .int (nI u)), (1, .int (nI v)), (2, .int (nI xl)), (3, .int (nI xr)), (4, .int (nI i))] dX5_commonDivisor_21 (by rw [hnL]; rfl) rfl ?_
          refine g_iload_n hX dX5_commonDivisor_23 4 rfl ?_
          refine g_istore_n hX (j := 2) [(2, .int (nI xr)), (5, .int (nI (xl % xr))), (0, .int (nI u)), (1, .int (nI v)), (3, .int (nI xr)), (4, .int (nI i))] dX5_commonDivisor_24 rfl (by rw [hnL]; rfl) rfl ?_
          refine g_iload hX dX5_commonDivisor_25 1 rfl ?_
          refine g_istore_n hX (j := 3) [(3, .int (nI (xl % xr))), (2, .int (nI xr)), (5, .int (nI (xl % xr))), (0, .int (nI u)), (1, .int (nI v)), (4, .int (nI i))] dX5_commonDivisor_27 rfl (by rw [hnL]; rfl) rfl ?_
          refine g_iinc hX (j := 4) (nI (i + 1)) [(4, .int (nI (i + 1))), (3, .int (nI (xl % xr))), (2, .int (nI xr)), (5, .int (nI (xl % xr))), (0, .int (nI u)), (1, .int (nI v))] dX5_commonDivisor_28 5 rfl (iinc_n _ _) (by rw [hnL]; rfl) rfl ?_
          refine g_goto hX 7 dX5_commonDivisor_31 (by decide) ?_
          exact g_lv _ [4, 5, 2, 1, 0] rfl (ih7 (i + 1) xr (xl % xr) (by omega) (by omega) hr (Nat.lt_trans (Nat.mod_lt _ (by omega)) hr) (by rw [he, show 100 - i = (100 - (i + 1)) + 1 by omega, euc, if_neg c15]))
  exact g_lv _ [3, 4, 2, 1, 0] rfl (lp7 _ 0 u v (Nat.lt_succ_self _) (Nat.zero_le _) hu hv rfl)
set_option maxHeartbeats 4000000 in
set_option maxRecDepth 100000 in
theorem c_X5_draw (l : Launch) (E : EV) (z : Nat) (k : Nat) (hz : z < 10000) (hk : k < 60) : KI l yX5_draw wsX5_draw (rmN 0) E (σ := Unit) [.int (nI z), .int (nI k)] (([] : va_W)) (fun _ => True) (fun _ => (nI (drw z k))) (fun _ => ([] : va_W)) 0 0 := by
  refine KI.of (cc := cX5_draw) (maxL := 4) (ty := .int) (hnar := fun _ _ => rfl) rfl rfl rfl (fun x hX hin hret hnL => ?_)
  replace hX : CX x l cX5_draw RX5 wsX5_draw E (rmN 0) := hX
  show GG x 0 0 (([] : va_W)) 0 [(0, .int (nI z)), (1, .int (nI k))] []
  refine g_ldc2 hX (v := lN 7919) dX5_draw_0 (by decide +kernel) ?_
  refine g_iload_n hX dX5_draw_3 0 rfl ?_
  refine g_i2l hX (lN z) dX5_draw_4 (nI_l (by omega)) ?_
  refine g_lmul hX (lN (7919 * z)) dX5_draw_5 (lN_mul _ _) ?_
  refine g_ldc2 hX (v := lN 6151) dX5_draw_6 (by decide +kernel) ?_
  refine g_iload_n hX dX5_draw_9 1 rfl ?_
  refine g_i2l hX (lN k) dX5_draw_10 (nI_l (by omega)) ?_
  refine g_lmul hX (lN (6151 * k)) dX5_draw_11 (lN_mul _ _) ?_
  refine g_ladd hX (lN ((7919 * z) + (6151 * k))) dX5_draw_12 (lN_add _ _) ?_
  refine g_lconst hX (lN 1) dX5_draw_13 rfl ?_
  refine g_ladd hX (lN (((7919 * z) + (6151 * k)) + 1)) dX5_draw_14 (lN_add _ _) ?_
  refine g_lstore_n hX (j := 2) [(2, .long (lN (((7919 * z) + (6151 * k)) + 1))), (0, .int (nI z)), (1, .int (nI k))] dX5_draw_15 rfl (by rw [hnL]; rfl) rfl ?_
  refine g_lload_n hX dX5_draw_16 0 rfl ?_
  refine g_lload_n hX dX5_draw_17 0 rfl ?_
  refine g_lmul hX (lN ((((7919 * z) + (6151 * k)) + 1) * (((7919 * z) + (6151 * k)) + 1))) dX5_draw_18 (lN_mul _ _) ?_
  refine g_ldc2 hX (v := lN 65521) dX5_draw_19 (by decide +kernel) ?_
  have hx2 : (7919 * z + 6151 * k + 1) * (7919 * z + 6151 * k + 1) < 2 ^ 63 := by have h : 7919 * z + 6151 * k + 1 < 2 ^ 30 := (by omega); exact Nat.lt_of_lt_of_le (Nat.mul_lt_mul'' h h) (by decide)
  refine g_lrem hX (lN (((((7919 * z) + (6151 * k)) + 1) * (((7919 * z) + (6151 * k)) + 1)) % 65521)) dX5_draw_22 (by decide) (pk_lRem (by first | exact hx2 | decide) (by first | exact hx2 | decide) (by first | exact hx2 | decide)) ?_
  refine g_l2i hX (nI (((((7919 * z) + (6151 * k)) + 1) * (((7919 * z) + (6151 * k)) + 1)) % 65521)) dX5_draw_23 (lN_i _) ?_
  exact g_eq rfl rfl (congrArg (fun z => [Value.int z]) (congrArg nI (by rfl))) (hret () _ _ trivial dX5_draw_24)
set_option maxHeartbeats 4000000 in
set_option maxRecDepth 100000 in
theorem c_X0_addSaying (l : Launch) (E : EV) (a : Nat → Nat) (C : FC) (kk : Nat) (q : Nat) (q2 : Nat) (pp : Nat) (hC : FO C) (hn : cN C < 9) (hk : kk < 5) (hq : q < 12) (hq2 : q2 < 12) : KI l yX0_addSaying wsX0_addSaying (rmN 2) E (σ := Unit) [.ref (a 0), .int (nI kk), .int (nI q), .int (nI q2), .int (nI pp)] (fw E a C) (fun _ => True) (fun _ => (nI (cN C))) (fun _ => fw E a (addC C kk q q2 pp)) 0 0 := by
  refine KI.of (cc := cX0_addSaying) (maxL := 6) (ty := .int) (hnar := fun _ _ => rfl) rfl rfl rfl (fun x hX hin hret hnL => ?_)
  replace hX : CX x l cX0_addSaying RX0 wsX0_addSaying E (rmN 2) := hX
  show GG x 0 0 (fw E a C) 0 [(0, .ref (a 0)), (1, .int (nI kk)), (2, .int (nI q)), (3, .int (nI q2)), (4, .int (nI pp))] []
  have inRX0 : ∀ w ∈ wsX00, w ∈ wsX0_addSaying := by decide +kernel
  have fl15 : Cond.fieldLink RX0 15 "LieForce$Force" "kinds" "[I" ∈ wsX0_addSaying := by decide +kernel
  have fl19 : Cond.fieldLink RX0 19 "LieForce$Force" "firsts" "[I" ∈ wsX0_addSaying := by decide +kernel
  have fl22 : Cond.fieldLink RX0 22 "LieForce$Force" "seconds" "[I" ∈ wsX0_addSaying := by decide +kernel
  have fl25 : Cond.fieldLink RX0 25 "LieForce$Force" "persons" "[I" ∈ wsX0_addSaying := by decide +kernel
  have fl28 : Cond.fieldLink RX0 28 "LieForce$Force" "served" "[I" ∈ wsX0_addSaying := by decide +kernel
  have fl31 : Cond.fieldLink RX0 31 "LieForce$Force" "soWorlds" "[J" ∈ wsX0_addSaying := by decide +kernel
  have fl38 : Cond.fieldLink RX0 38 "LieForce$Force" "sayings" "I" ∈ wsX0_addSaying := by decide +kernel
  refine g_aload_n hX dX0_addSaying_0 0 rfl ?_
  refine g_get hX (v := .int (nI (cN C))) 0 inRX0 rfl rfl 1 rfl fl38 rfl rfl dX0_addSaying_1 ?_
  refine g_bipush hX (nI 9) dX0_addSaying_4 rfl ?_
  refine g_icmp_lt hX 12 dX0_addSaying_6 (by decide) (fun c6 => ?_) (fun c6 => ?_)
  · replace c6 := (nI_ltI (by omega) (by omega)).mp c6
    refine g_aload_n hX dX0_addSaying_12 0 rfl ?_
    refine g_get hX (v := .int (nI (cN C))) 0 inRX0 rfl rfl 1 rfl fl38 rfl rfl dX0_addSaying_13 ?_
    refine g_istore hX (j := 5) [(5, .int (nI (cN C))), (0, .ref (a 0)), (1, .int (nI kk)), (2, .int (nI q)), (3, .int (nI q2)), (4, .int (nI pp))] dX0_addSaying_16 (by rw [hnL]; rfl) rfl ?_
    refine g_aload_n hX dX0_addSaying_18 1 rfl ?_
    refine g_get hX (v := .ref (a 1)) 0 inRX0 rfl rfl 5 rfl fl15 rfl rfl dX0_addSaying_19 ?_
    refine g_iload hX dX0_addSaying_22 0 rfl ?_
    refine g_iload_n hX dX0_addSaying_24 2 rfl ?_
    refine g_eq (show (fw E a C : va_W) = fw E a (mkFC (cF C) (cN C) (cG C) (cY C) (cT C) (cK C) (cA C) (cB C) (cP C) (cV C) (cW C)) from rfl) rfl rfl ?_
    refine g_iast hX (fun zz => nI ((va_up (cK C) (cN C) kk) zz)) (fw E a (mkFC (cF C) (cN C) (cG C) (cY C) (cT C) (va_up (cK C) (cN C) kk) (cA C) (cB C) (cP C) (cV C) (cW C))) 1 0 (atForce_1 _ _ _ _ _ _ _ _ _ _ _ _ _) rfl (vp_in_nI (by omega) (by omega)) (ast_n (by omega)) dX0_addSaying_25 (stForce_1 _ _ _ _ _ _ _ _ _ _ _ _ _ _) ?_
    refine g_aload_n hX dX0_addSaying_26 1 rfl ?_
    refine g_get hX (v := .ref (a 2)) 0 inRX0 (atForce_0 _ _ _ _ _ _ _ _ _ _ _ _ _) rfl 6 rfl fl19 rfl rfl dX0_addSaying_27 ?_
    refine g_iload hX dX0_addSaying_30 0 rfl ?_
    refine g_iload_n hX dX0_addSaying_32 3 rfl ?_
    refine g_iast hX (fun zz => nI ((va_up (cA C) (cN C) q) zz)) (fw E a (mkFC (cF C) (cN C) (cG C) (cY C) (cT C) (va_up (cK C) (cN C) kk) (va_up (cA C) (cN C) q) (cB C) (cP C) (cV C) (cW C))) 2 0 (atForce_2 _ _ _ _ _ _ _ _ _ _ _ _ _) rfl (vp_in_nI (by omega) (by omega)) (ast_n (by omega)) dX0_addSaying_33 (stForce_2 _ _ _ _ _ _ _ _ _ _ _ _ _ _) ?_
    refine g_aload_n hX dX0_addSaying_34 1 rfl ?_
    refine g_get hX (v := .ref (a 3)) 0 inRX0 (atForce_0 _ _ _ _ _ _ _ _ _ _ _ _ _) rfl 7 rfl fl22 rfl rfl dX0_addSaying_35 ?_
    refine g_iload hX dX0_addSaying_38 0 rfl ?_
    refine g_iload_n hX dX0_addSaying_40 4 rfl ?_
    refine g_iast hX (fun zz => nI ((va_up (cB C) (cN C) q2) zz)) (fw E a (mkFC (cF C) (cN C) (cG C) (cY C) (cT C) (va_up (cK C) (cN C) kk) (va_up (cA C) (cN C) q) (va_up (cB C) (cN C) q2) (cP C) (cV C) (cW C))) 3 0 (atForce_3 _ _ _ _ _ _ _ _ _ _ _ _ _) rfl (vp_in_nI (by omega) (by omega)) (ast_n (by omega)) dX0_addSaying_41 (stForce_3 _ _ _ _ _ _ _ _ _ _ _ _ _ _) ?_
    refine g_aload_n hX dX0_addSaying_42 1 rfl ?_
    refine g_get hX (v := .ref (a 4)) 0 inRX0 (atForce_0 _ _ _ _ _ _ _ _ _ _ _ _ _) rfl 8 rfl fl25 rfl rfl dX0_addSaying_43 ?_
    refine g_iload hX dX0_addSaying_46 0 rfl ?_
    refine g_iload hX dX0_addSaying_48 5 rfl ?_
    refine g_iast hX (fun zz => nI ((va_up (cP C) (cN C) pp) zz)) (fw E a (mkFC (cF C) (cN C) (cG C) (cY C) (cT C) (va_up (cK C) (cN C) kk) (va_up (cA C) (cN C) q) (va_up (cB C) (cN C) q2) (va_up (cP C) (cN C) pp) (cV C) (cW C))) 4 0 (atForce_4 _ _ _ _ _ _ _ _ _ _ _ _ _) rfl (vp_in_nI (by omega) (by omega)) (ast_n (by omega)) dX0_addSaying_50 (stForce_4 _ _ _ _ _ _ _ _ _ _ _ _ _ _) ?_
    refine g_aload_n hX dX0_addSaying_51 1 rfl ?_
    refine g_get hX (v := .ref (a 5)) 0 inRX0 (atForce_0 _ _ _ _ _ _ _ _ _ _ _ _ _) rfl 9 rfl fl28 rfl rfl dX0_addSaying_52 ?_
    refine g_iload hX dX0_addSaying_55 0 rfl ?_
    refine g_iconst hX (nI 0) dX0_addSaying_57 rfl ?_
    refine g_iast hX (fun zz => nI ((va_up (cV C) (cN C) 0) zz)) (fw E a (mkFC (cF C) (cN C) (cG C) (cY C) (cT C) (va_up (cK C) (cN C) kk) (va_up (cA C) (cN C) q) (va_up (cB C) (cN C) q2) (va_up (cP C) (cN C) pp) (va_up (cV C) (cN C) 0) (cW C))) 5 0 (atForce_5 _ _ _ _ _ _ _ _ _ _ _ _ _) rfl (vp_in_nI (by omega) (by omega)) (ast_n (by omega)) dX0_addSaying_58 (stForce_5 _ _ _ _ _ _ _ _ _ _ _ _ _ _) ?_
    refine g_aload_n hX dX0_addSaying_59 1 rfl ?_
    refine g_get hX (v := .ref (a 6)) 0 inRX0 (atForce_0 _ _ _ _ _ _ _ _ _ _ _ _ _) rfl 10 rfl fl31 rfl rfl dX0_addSaying_60 ?_
    refine g_iload hX dX0_addSaying_63 0 rfl ?_
    refine g_iload_n hX dX0_addSaying_65 2 rfl ?_
    refine g_iload_n hX dX0_addSaying_66 3 rfl ?_
    refine g_iload_n hX dX0_addSaying_67 4 rfl ?_
    have hc68 : CUT (fw E a (mkFC (cF C) (cN C) (cG C) (cY C) (cT C) (va_up (cK C) (cN C) kk) (va_up (cA C) (cN C) q) (va_up (cB C) (cN C) q2) (va_up (cP C) (cN C) pp) (va_up (cV C) (cN C) 0) (cW C))) (([] : va_W)) (fw E a (mkFC (cF C) (cN C) (cG C) (cY C) (cT C) (va_up (cK C) (cN C) kk) (va_up (cA C) (cN C) q) (va_up (cB C) (cN C) q2) (va_up (cP C) (cN C) pp) (va_up (cV C) (cN C) 0) (cW C))) [] [0, 1, 2, 3, 4, 5, 6] := ⟨rfl, rfl, rfl, rfl, rfl⟩
    refine g_NL hX hc68 [.int (nI kk), .int (nI q), .int (nI q2)] [.int (nI (cN C)), .ref (a 6)] (c_X5_worldsOfSaying l E kk q q2 (by omega) (by omega) (by omega)) gX0_addSaying_X5_worldsOfSaying_n47 calX5_worldsOfSaying rfl rfl (by decide +kernel) (by decide +kernel) (by decide +kernel) rfl rfl dX0_addSaying_68 rfl ⟨Nat.zero_le _, Nat.zero_le _⟩ (fun _ => fw E a (mkFC (cF C) (cN C) (cG C) (cY C) (cT C) (va_up (cK C) (cN C) kk) (va_up (cA C) (cN C) q) (va_up (cB C) (cN C) q2) (va_up (cP C) (cN C) pp) (va_up (cV C) (cN C) 0) (cW C))) [0, 1, 2, 3, 4, 5, 6] rfl (fun _ => rfl) (fun _ hu68 => ?_)
    refine g_last hX (fun zz => lN ((va_up (cW C) (cN C) (wos kk q q2)) zz)) (fw E a (mkFC (cF C) (cN C) (cG C) (cY C) (cT C) (va_up (cK C) (cN C) kk) (va_up (cA C) (cN C) q) (va_up (cB C) (cN C) q2) (va_up (cP C) (cN C) pp) (va_up (cV C) (cN C) 0) (va_up (cW C) (cN C) (wos kk q q2)))) 6 1 (atForce_6 _ _ _ _ _ _ _ _ _ _ _ _ _) rfl (vp_in_nI (by omega) (by omega)) (ast_l (by omega)) dX0_addSaying_71 (stForce_6 _ _ _ _ _ _ _ _ _ _ _ _ _ _) ?_
    refine g_aload_n hX dX0_addSaying_72 1 rfl ?_
    refine g_dup hX dX0_addSaying_73 rfl ?_
    refine g_get hX (v := .int (nI (cN C))) 0 inRX0 (atForce_0 _ _ _ _ _ _ _ _ _ _ _ _ _) rfl 1 rfl fl38 rfl rfl dX0_addSaying_74 ?_
    refine g_iconst hX (nI 1) dX0_addSaying_77 rfl ?_
    refine g_iadd hX (nI ((cN C) + 1)) dX0_addSaying_78 (nI_add _ _) ?_
    refine g_put hX (fw E a (mkFC (cF C) ((cN C) + 1) (cG C) (cY C) (cT C) (va_up (cK C) (cN C) kk) (va_up (cA C) (cN C) q) (va_up (cB C) (cN C) q2) (va_up (cP C) (cN C) pp) (va_up (cV C) (cN C) 0) (va_up (cW C) (cN C) (wos kk q q2)))) 0 inRX0 tyX0_ok nmX0 (atForce_0 _ _ _ _ _ _ _ _ _ _ _ _ _) rfl 1 rfl fl38 rfl rfl rfl rfl rfl dX0_addSaying_79 (stForce_0_1 _ _ _ _ _ _ _ _ _ _ _ _ _ _) ?_
    refine g_iload hX dX0_addSaying_82 0 rfl ?_
    exact g_eq rfl rfl rfl (hret () _ _ trivial dX0_addSaying_84)
  · replace c6 := mt (nI_ltI (by omega) (by omega)).mpr c6
    exact absurd hn c6
set_option maxHeartbeats 4000000 in
set_option maxRecDepth 100000 in
theorem c_X0_addSaying_full (l : Launch) (E : EV) (a : Nat → Nat) (C : FC) (kk : Nat) (q : Nat) (q2 : Nat) (pp : Nat) (hn : cN C = 9) : KI l yX0_addSaying wsX0_addSaying (rmN 2) E (σ := Unit) [.ref (a 0), .int (nI kk), .int (nI q), .int (nI q2), .int (nI pp)] (fw E a C) (fun _ => True) (fun _ => (-3)) (fun _ => fw E a C) 0 0 := by
  refine KI.of (cc := cX0_addSaying) (maxL := 6) (ty := .int) (hnar := fun _ _ => rfl) rfl rfl rfl (fun x hX hin hret hnL => ?_)
  replace hX : CX x l cX0_addSaying RX0 wsX0_addSaying E (rmN 2) := hX
  show GG x 0 0 (fw E a C) 0 [(0, .ref (a 0)), (1, .int (nI kk)), (2, .int (nI q)), (3, .int (nI q2)), (4, .int (nI pp))] []
  have inRX0 : ∀ w ∈ wsX00, w ∈ wsX0_addSaying := by decide +kernel
  have fl38 : Cond.fieldLink RX0 38 "LieForce$Force" "sayings" "I" ∈ wsX0_addSaying := by decide +kernel
  refine g_aload_n hX dX0_addSaying_0 0 rfl ?_
  refine g_get hX (v := .int (nI (cN C))) 0 inRX0 rfl rfl 1 rfl fl38 rfl rfl dX0_addSaying_1 ?_
  refine g_bipush hX (nI 9) dX0_addSaying_4 rfl ?_
  refine g_icmp_lt hX 12 dX0_addSaying_6 (by decide) (fun c6 => ?_) (fun c6 => ?_)
  · replace c6 := (nI_ltI (by omega) (by omega)).mp c6
    exact absurd c6 (by omega)
  · replace c6 := mt (nI_ltI (by omega) (by omega)).mpr c6
    refine g_bipush hX ((-3)) dX0_addSaying_9 rfl ?_
    exact g_eq rfl rfl rfl (hret () _ _ trivial dX0_addSaying_11)
set_option maxHeartbeats 4000000 in
set_option maxRecDepth 100000 in
theorem c_X0_empty (l : Launch) (E : EV) (a : Nat → Nat) (C : FC)  : KV l yX0_empty wsX0_empty (rmN 0) E (σ := Unit) [.ref (a 0)] (fw E a C) (fun _ => True) (fun _ => fw E a (emC C)) 0 0 := by
  refine KV.of (cc := cX0_empty) (maxL := 1) rfl rfl rfl (fun x hX hin hret hnL => ?_)
  replace hX : CX x l cX0_empty RX0 wsX0_empty E (rmN 0) := hX
  show GG x 0 0 (fw E a C) 0 [(0, .ref (a 0))] []
  have inRX0 : ∀ w ∈ wsX00, w ∈ wsX0_empty := by decide +kernel
  have fl35 : Cond.fieldLink RX0 35 "LieForce$Force" "facts" "I" ∈ wsX0_empty := by decide +kernel
  have fl38 : Cond.fieldLink RX0 38 "LieForce$Force" "sayings" "I" ∈ wsX0_empty := by decide +kernel
  have fl41 : Cond.fieldLink RX0 41 "LieForce$Force" "withdrawn" "I" ∈ wsX0_empty := by decide +kernel
  have fl44 : Cond.fieldLink RX0 44 "LieForce$Force" "days" "I" ∈ wsX0_empty := by decide +kernel
  have fl9 : Cond.fieldLink RX0 9 "LieForce$Force" "term" "I" ∈ wsX0_empty := by decide +kernel
  refine g_aload_n hX dX0_empty_0 0 rfl ?_
  refine g_iconst hX (nI 0) dX0_empty_1 rfl ?_
  refine g_eq (show (fw E a C : va_W) = fw E a (mkFC (cF C) (cN C) (cG C) (cY C) (cT C) (cK C) (cA C) (cB C) (cP C) (cV C) (cW C)) from rfl) rfl rfl ?_
  refine g_put hX (fw E a (mkFC 0 (cN C) (cG C) (cY C) (cT C) (cK C) (cA C) (cB C) (cP C) (cV C) (cW C))) 0 inRX0 tyX0_ok nmX0 (atForce_0 _ _ _ _ _ _ _ _ _ _ _ _ _) rfl 0 rfl fl35 rfl rfl rfl rfl rfl dX0_empty_2 (stForce_0_0 _ _ _ _ _ _ _ _ _ _ _ _ _ _) ?_
  refine g_aload_n hX dX0_empty_5 0 rfl ?_
  refine g_iconst hX (nI 0) dX0_empty_6 rfl ?_
  refine g_put hX (fw E a (mkFC 0 0 (cG C) (cY C) (cT C) (cK C) (cA C) (cB C) (cP C) (cV C) (cW C))) 0 inRX0 tyX0_ok nmX0 (atForce_0 _ _ _ _ _ _ _ _ _ _ _ _ _) rfl 1 rfl fl38 rfl rfl rfl rfl rfl dX0_empty_7 (stForce_0_1 _ _ _ _ _ _ _ _ _ _ _ _ _ _) ?_
  refine g_aload_n hX dX0_empty_10 0 rfl ?_
  refine g_iconst hX (nI 0) dX0_empty_11 rfl ?_
  refine g_put hX (fw E a (mkFC 0 0 0 (cY C) (cT C) (cK C) (cA C) (cB C) (cP C) (cV C) (cW C))) 0 inRX0 tyX0_ok nmX0 (atForce_0 _ _ _ _ _ _ _ _ _ _ _ _ _) rfl 2 rfl fl41 rfl rfl rfl rfl rfl dX0_empty_12 (stForce_0_2 _ _ _ _ _ _ _ _ _ _ _ _ _ _) ?_
  refine g_aload_n hX dX0_empty_15 0 rfl ?_
  refine g_iconst hX (nI 0) dX0_empty_16 rfl ?_
  refine g_put hX (fw E a (mkFC 0 0 0 0 (cT C) (cK C) (cA C) (cB C) (cP C) (cV C) (cW C))) 0 inRX0 tyX0_ok nmX0 (atForce_0 _ _ _ _ _ _ _ _ _ _ _ _ _) rfl 3 rfl fl44 rfl rfl rfl rfl rfl dX0_empty_17 (stForce_0_3 _ _ _ _ _ _ _ _ _ _ _ _ _ _) ?_
  refine g_aload_n hX dX0_empty_20 0 rfl ?_
  refine g_iconst hX (nI 5) dX0_empty_21 rfl ?_
  refine g_put hX (fw E a (mkFC 0 0 0 0 5 (cK C) (cA C) (cB C) (cP C) (cV C) (cW C))) 0 inRX0 tyX0_ok nmX0 (atForce_0 _ _ _ _ _ _ _ _ _ _ _ _ _) rfl 4 rfl fl9 rfl rfl rfl rfl rfl dX0_empty_22 (stForce_0_4 _ _ _ _ _ _ _ _ _ _ _ _ _ _) ?_
  exact g_eq rfl rfl rfl (hret () _ _ trivial dX0_empty_25)
