set_option maxHeartbeats 4000000 in
set_option maxRecDepth 100000 in
theorem c_X3_letterAt (l : Launch) (E : EV) (b : Nat → Nat) (cap : Nat) (tx : Nat → Nat) (n : Nat) (q : Nat) (hcap : cap ≤ 200) (hn : n ≤ cap) (htx : ∀ j, tx j < 2 ^ 16) (hq : q < 2 ^ 20) : KI l yX3_letterAt wsX3_letterAt (rmN 0) E (σ := Unit) [.ref (b 0), .int (nI n), .int (nI q)] (tw E b cap tx) (fun _ => True) (fun _ => (oI (letO tx n q))) (fun _ => tw E b cap tx) 0 0 := by
  refine KI.of (cc := cX3_letterAt) (maxL := 3) (ty := .int) (hnar := fun _ _ => rfl) rfl rfl rfl (fun x hX hin hret hnL => ?_)
  replace hX : CX x l cX3_letterAt RX3 wsX3_letterAt E (rmN 0) := hX
  show GG x 0 0 (tw E b cap tx) 0 [(0, .ref (b 0)), (1, .int (nI n)), (2, .int (nI q))] []
  refine g_iload_n hX dX3_letterAt_0 2 rfl ?_
  refine g_if_lt hX 21 dX3_letterAt_1 (by decide) (fun c1 => ?_) (fun c1 => ?_)
  · replace c1 := (nz_lt (by omega)).mp c1
    exact c1.elim
  · replace c1 := mt (nz_lt (by omega)).mpr c1
    refine g_iload_n hX dX3_letterAt_4 2 rfl ?_
    refine g_iload_n hX dX3_letterAt_5 1 rfl ?_
    refine g_icmp_ge hX 21 dX3_letterAt_6 (by decide) (fun c6 => ?_) (fun c6 => ?_)
    · replace c6 := (nI_leI (by omega) (by omega)).mp c6
      refine g_bipush hX ((-4)) dX3_letterAt_21 rfl ?_
      exact g_eq rfl rfl (congrArg (fun z => [Value.int z]) (by first | (rw [letO, if_pos (by omega)]; rfl) | (rw [letO, if_neg (by omega)]; rfl))) (hret () _ _ trivial dX3_letterAt_23)
    · replace c6 := mt (nI_leI (by omega) (by omega)).mpr c6
      refine g_iload_n hX dX3_letterAt_9 2 rfl ?_
      refine g_aload_n hX dX3_letterAt_10 0 rfl ?_
      refine g_alen hX (nI cap) 0 2 rfl rfl rfl dX3_letterAt_11 ?_
      refine g_icmp_ge hX 21 dX3_letterAt_12 (by decide) (fun c12 => ?_) (fun c12 => ?_)
      · replace c12 := (nI_leI (by omega) (by omega)).mp c12
        refine g_bipush hX ((-4)) dX3_letterAt_21 rfl ?_
        exact g_eq rfl rfl (congrArg (fun z => [Value.int z]) (by first | (rw [letO, if_pos (by omega)]; rfl) | (rw [letO, if_neg (by omega)]; rfl))) (hret () _ _ trivial dX3_letterAt_23)
      · replace c12 := mt (nI_leI (by omega) (by omega)).mpr c12
        refine g_aload_n hX dX3_letterAt_15 0 rfl ?_
        refine g_iload_n hX dX3_letterAt_16 2 rfl ?_
        have htq := htx q
        refine g_cald hX (nI (tx q)) 0 2 rfl rfl (vp_in_nI (by omega) (by omega)) (ald_n (g := fun zz => nI (tx zz)) (i := q) (by omega)) dX3_letterAt_17 ?_
        refine g_goto hX 23 dX3_letterAt_18 (by decide) ?_
        exact g_eq rfl rfl (congrArg (fun z => [Value.int z]) (by first | (rw [letO, if_pos (by omega)]; rfl) | (rw [letO, if_neg (by omega)]; rfl))) (hret () _ _ trivial dX3_letterAt_23)
set_option maxHeartbeats 4000000 in
set_option maxRecDepth 100000 in
theorem c_X3_isFigure (l : Launch) (E : EV) (x0 : Int32)  : KI l yX3_isFigure wsX3_isFigure (rmN 0) E (σ := Unit) [.int x0] (([] : va_W)) (fun _ => True) (fun _ => (bI (figB x0))) (fun _ => ([] : va_W)) 0 0 := by
  refine KI.of (cc := cX3_isFigure) (maxL := 1) (ty := .boolean) (hnar := fun _ _ => nar_b _) rfl rfl rfl (fun x hX hin hret hnL => ?_)
  replace hX : CX x l cX3_isFigure RX3 wsX3_isFigure E (rmN 0) := hX
  show GG x 0 0 (([] : va_W)) 0 [(0, .int x0)] []
  refine g_iload_n hX dX3_isFigure_0 0 rfl ?_
  refine g_bipush hX (nI 48) dX3_isFigure_1 rfl ?_
  refine g_icmp_lt hX 16 dX3_isFigure_3 (by decide) (fun c3 => ?_) (fun c3 => ?_)
  · skip
    refine g_iconst hX (nI 0) dX3_isFigure_16 rfl ?_
    exact g_eq rfl rfl (congrArg (fun z => [Value.int z]) (bret_f (by simp [figB, c3]))) (hret () _ _ trivial dX3_isFigure_17)
  · skip
    refine g_iload_n hX dX3_isFigure_6 0 rfl ?_
    refine g_bipush hX (nI 57) dX3_isFigure_7 rfl ?_
    refine g_icmp_gt hX 16 dX3_isFigure_9 (by decide) (fun c9 => ?_) (fun c9 => ?_)
    · skip
      refine g_iconst hX (nI 0) dX3_isFigure_16 rfl ?_
      exact g_eq rfl rfl (congrArg (fun z => [Value.int z]) (bret_f (by simp [figB, c3, c9]))) (hret () _ _ trivial dX3_isFigure_17)
    · skip
      refine g_iconst hX (nI 1) dX3_isFigure_12 rfl ?_
      refine g_goto hX 17 dX3_isFigure_13 (by decide) ?_
      exact g_eq rfl rfl (congrArg (fun z => [Value.int z]) (bret_t (by simp [figB, c3, c9]))) (hret () _ _ trivial dX3_isFigure_17)
set_option maxHeartbeats 4000000 in
set_option maxRecDepth 100000 in
theorem c_X3_figuresAt (l : Launch) (E : EV) (b : Nat → Nat) (cap : Nat) (tx : Nat → Nat) (n : Nat) (q : Nat) (hcap : cap ≤ 200) (hn : n ≤ cap) (htx : ∀ j, tx j < 2 ^ 16) (hq : q < 2 ^ 19) : KI l yX3_figuresAt wsX3_figuresAt (rmN 1) E (σ := Unit) [.ref (b 0), .int (nI n), .int (nI q)] (tw E b cap tx) (fun _ => True) (fun _ => (nI (figs tx n q))) (fun _ => tw E b cap tx) 0 0 := by
  refine KI.of (cc := cX3_figuresAt) (maxL := 3) (ty := .int) (hnar := fun _ _ => rfl) rfl rfl rfl (fun x hX hin hret hnL => ?_)
  replace hX : CX x l cX3_figuresAt RX3 wsX3_figuresAt E (rmN 1) := hX
  show GG x 0 0 (tw E b cap tx) 0 [(0, .ref (b 0)), (1, .int (nI n)), (2, .int (nI q))] []
  refine g_aload_n hX dX3_figuresAt_0 0 rfl ?_
  refine g_iload_n hX dX3_figuresAt_1 1 rfl ?_
  refine g_iload_n hX dX3_figuresAt_2 2 rfl ?_
  have hc3 : CUT (tw E b cap tx) (tw E b cap tx) (([] : va_W)) [0] [] := ⟨rfl, rfl, rfl, rfl, rfl⟩
  refine g_TI hX hc3 [.ref (b 0), .int (nI n), .int (nI q)] [] (c_X3_letterAt l E b cap tx n q (by omega) (by omega) (by assumption) (by omega)) gX3_figuresAt_X3_letterAt calX3_letterAt rfl rfl rfl rfl dX3_figuresAt_3 rfl ⟨Nat.zero_le _, Nat.zero_le _⟩ (fun _ => tw E b cap tx) [0] rfl (fun _ => rfl) (fun _ hu3 => ?_)
  have hc6 : CUT (tw E b cap tx) (([] : va_W)) (tw E b cap tx) [] [0] := ⟨rfl, rfl, rfl, rfl, rfl⟩
  refine g_TI hX hc6 [.int (oI (letO tx n q))] [] (c_X3_isFigure l E (oI (letO tx n q))) gX3_figuresAt_X3_isFigure calX3_isFigure rfl rfl rfl rfl dX3_figuresAt_6 rfl ⟨Nat.zero_le _, Nat.zero_le _⟩ (fun _ => tw E b cap tx) [0] rfl (fun _ => rfl) (fun _ hu6 => ?_)
  refine g_eq (st' := [.int (bI (dig (letO tx n q)))]) rfl rfl (congrArg (fun z => Value.int z :: ([] : List Value)) (congrArg bI (figB_dig (fun c h => by have := htx q; have := (letO_some h).2; omega)))) ?_
  refine g_if_ne hX 14 dX3_figuresAt_9 (by decide) (fun c9 => ?_) (fun c9 => ?_)
  · replace c9 := mt bI_0.mpr c9
    replace c9 := bNf c9
    refine g_aload_n hX dX3_figuresAt_14 0 rfl ?_
    refine g_iload_n hX dX3_figuresAt_15 1 rfl ?_
    refine g_iload_n hX dX3_figuresAt_16 2 rfl ?_
    refine g_iconst hX (nI 1) dX3_figuresAt_17 rfl ?_
    refine g_iadd hX (nI (q + 1)) dX3_figuresAt_18 (nI_add _ _) ?_
    have hc19 : CUT (tw E b cap tx) (tw E b cap tx) (([] : va_W)) [0] [] := ⟨rfl, rfl, rfl, rfl, rfl⟩
    refine g_TI hX hc19 [.ref (b 0), .int (nI n), .int (nI (q + 1))] [] (c_X3_letterAt l E b cap tx n (q + 1) (by omega) (by omega) (by assumption) (by omega)) gX3_figuresAt_X3_letterAt calX3_letterAt rfl rfl rfl rfl dX3_figuresAt_19 rfl ⟨Nat.zero_le _, Nat.zero_le _⟩ (fun _ => tw E b cap tx) [0] rfl (fun _ => rfl) (fun _ hu19 => ?_)
    have hc22 : CUT (tw E b cap tx) (([] : va_W)) (tw E b cap tx) [] [0] := ⟨rfl, rfl, rfl, rfl, rfl⟩
    refine g_TI hX hc22 [.int (oI (letO tx n (q + 1)))] [] (c_X3_isFigure l E (oI (letO tx n (q + 1)))) gX3_figuresAt_X3_isFigure calX3_isFigure rfl rfl rfl rfl dX3_figuresAt_22 rfl ⟨Nat.zero_le _, Nat.zero_le _⟩ (fun _ => tw E b cap tx) [0] rfl (fun _ => rfl) (fun _ hu22 => ?_)
    refine g_eq (st' := [.int (bI (dig (letO tx n (q + 1))))]) rfl rfl (congrArg (fun z => Value.int z :: ([] : List Value)) (congrArg bI (figB_dig (fun c h => by have := htx (q + 1); have := (letO_some h).2; omega)))) ?_
    refine g_if_eq hX 32 dX3_figuresAt_25 (by decide) (fun c25 => ?_) (fun c25 => ?_)
    · replace c25 := bI_0.mp c25
      refine g_iconst hX (nI 1) dX3_figuresAt_32 rfl ?_
      exact g_eq rfl rfl (congrArg (fun z => [Value.int z]) (congrArg nI (by simp [figs, c9, c25]))) (hret () _ _ trivial dX3_figuresAt_33)
    · replace c25 := mt bI_0.mpr c25
      replace c25 := bNf c25
      refine g_iconst hX (nI 2) dX3_figuresAt_28 rfl ?_
      refine g_goto hX 33 dX3_figuresAt_29 (by decide) ?_
      exact g_eq rfl rfl (congrArg (fun z => [Value.int z]) (congrArg nI (by simp [figs, c9, c25]))) (hret () _ _ trivial dX3_figuresAt_33)
  · replace c9 := bI_0.mp c9
    refine g_iconst hX (nI 0) dX3_figuresAt_12 rfl ?_
    exact g_eq rfl rfl (congrArg (fun z => [Value.int z]) (congrArg nI (by simp [figs, c9]))) (hret () _ _ trivial dX3_figuresAt_13)
set_option maxHeartbeats 4000000 in
set_option maxRecDepth 100000 in
theorem c_X3_numberOf (l : Launch) (E : EV) (b : Nat → Nat) (cap : Nat) (tx : Nat → Nat) (n : Nat) (q : Nat) (k : Nat) (hcap : cap ≤ 200) (hn : n ≤ cap) (htx : ∀ j, tx j < 2 ^ 16) (hq : q < 2 ^ 19) (hk : k = figs tx n q) (hk0 : ¬ figs tx n q = 0) : KI l yX3_numberOf wsX3_numberOf (rmN 1) E (σ := Unit) [.ref (b 0), .int (nI n), .int (nI q), .int (nI k)] (tw E b cap tx) (fun _ => True) (fun _ => (nI (numAt tx n q))) (fun _ => tw E b cap tx) 0 0 := by
  refine KI.of (cc := cX3_numberOf) (maxL := 5) (ty := .int) (hnar := fun _ _ => rfl) rfl rfl rfl (fun x hX hin hret hnL => ?_)
  replace hX : CX x l cX3_numberOf RX3 wsX3_numberOf E (rmN 1) := hX
  show GG x 0 0 (tw E b cap tx) 0 [(0, .ref (b 0)), (1, .int (nI n)), (2, .int (nI q)), (3, .int (nI k))] []
  have hfl := figs_le tx n q
  have hd1 : dig (letO tx n q) = true := by by_cases a : dig (letO tx n q) = true; exact a; exact absurd (by simp [figs, a]) hk0
  obtain ⟨d1, hl1, h48, h57⟩ := dig_some hd1
  refine g_aload_n hX dX3_numberOf_0 0 rfl ?_
  refine g_iload_n hX dX3_numberOf_1 1 rfl ?_
  refine g_iload_n hX dX3_numberOf_2 2 rfl ?_
  have hc3 : CUT (tw E b cap tx) (tw E b cap tx) (([] : va_W)) [0] [] := ⟨rfl, rfl, rfl, rfl, rfl⟩
  refine g_TI hX hc3 [.ref (b 0), .int (nI n), .int (nI q)] [] (c_X3_letterAt l E b cap tx n q (by omega) (by omega) (by assumption) (by omega)) gX3_numberOf_X3_letterAt calX3_letterAt rfl rfl rfl rfl dX3_numberOf_3 rfl ⟨Nat.zero_le _, Nat.zero_le _⟩ (fun _ => tw E b cap tx) [0] rfl (fun _ => rfl) (fun _ hu3 => ?_)
  refine g_eq (st' := [.int (nI d1)]) rfl rfl (congrArg (fun z => Value.int z :: ([] : List Value)) (by rw [hl1]; rfl)) ?_
  refine g_bipush hX (nI 48) dX3_numberOf_6 rfl ?_
  refine g_isub hX (nI (d1 - 48)) dX3_numberOf_8 (pk_sub (by omega)) ?_
  refine g_istore hX (j := 4) [(4, .int (nI (d1 - 48))), (0, .ref (b 0)), (1, .int (nI n)), (2, .int (nI q)), (3, .int (nI k))] dX3_numberOf_9 (by rw [hnL]; rfl) rfl ?_
  refine g_iload_n hX dX3_numberOf_11 4 rfl ?_
  refine g_iconst hX (nI 1) dX3_numberOf_12 rfl ?_
  refine g_icmp_ne hX 21 dX3_numberOf_13 (by decide) (fun c13 => ?_) (fun c13 => ?_)
  · replace c13 := mt (nI_eq (by omega) (by omega)).mpr c13
    have hd2 : dig (letO tx n (q + 1)) = true := by by_cases a : dig (letO tx n (q + 1)) = true; exact a; exact absurd (by rw [hk]; simp [figs, hd1, a]) c13
    obtain ⟨d2, hl2, h482, h572⟩ := dig_some hd2
    refine g_bipush hX (nI 10) dX3_numberOf_21 rfl ?_
    refine g_iload hX dX3_numberOf_23 0 rfl ?_
    refine g_imul hX (nI (10 * (d1 - 48))) dX3_numberOf_25 (pk_mul _ _) ?_
    refine g_aload_n hX dX3_numberOf_26 1 rfl ?_
    refine g_iload_n hX dX3_numberOf_27 2 rfl ?_
    refine g_iload_n hX dX3_numberOf_28 3 rfl ?_
    refine g_iconst hX (nI 1) dX3_numberOf_29 rfl ?_
    refine g_iadd hX (nI (q + 1)) dX3_numberOf_30 (nI_add _ _) ?_
    have hc31 : CUT (tw E b cap tx) (tw E b cap tx) (([] : va_W)) [0] [] := ⟨rfl, rfl, rfl, rfl, rfl⟩
    refine g_TI hX hc31 [.ref (b 0), .int (nI n), .int (nI (q + 1))] [.int (nI (10 * (d1 - 48)))] (c_X3_letterAt l E b cap tx n (q + 1) (by omega) (by omega) (by assumption) (by omega)) gX3_numberOf_X3_letterAt calX3_letterAt rfl rfl rfl rfl dX3_numberOf_31 rfl ⟨Nat.zero_le _, Nat.zero_le _⟩ (fun _ => tw E b cap tx) [0] rfl (fun _ => rfl) (fun _ hu31 => ?_)
    refine g_eq (st' := [.int (nI d2), .int (nI (10 * (d1 - 48)))]) rfl rfl (congrArg (fun z => Value.int z :: ([.int (nI (10 * (d1 - 48)))] : List Value)) (by rw [hl2]; rfl)) ?_
    refine g_iadd hX (nI ((10 * (d1 - 48)) + d2)) dX3_numberOf_34 (nI_add _ _) ?_
    refine g_bipush hX (nI 48) dX3_numberOf_35 rfl ?_
    refine g_isub hX (nI (((10 * (d1 - 48)) + d2) - 48)) dX3_numberOf_37 (pk_sub (by omega)) ?_
    exact g_eq rfl rfl (congrArg (fun z => [Value.int z]) (congrArg nI (by rw [numAt, hl1]; first | rw [if_pos (by omega)]; rfl | (rw [if_neg (by omega), hl2]; show _ = 10 * (d1 - 48) + (d2 - 48); omega)))) (hret () _ _ trivial dX3_numberOf_38)
  · replace c13 := (nI_eq (by omega) (by omega)).mp c13
    refine g_iload hX dX3_numberOf_16 0 rfl ?_
    refine g_goto hX 38 dX3_numberOf_18 (by decide) ?_
    exact g_eq rfl rfl (congrArg (fun z => [Value.int z]) (congrArg nI (by rw [numAt, hl1]; first | rw [if_pos (by omega)]; rfl | (rw [if_neg (by omega), hl2]; show _ = 10 * (d1 - 48) + (d2 - 48); omega)))) (hret () _ _ trivial dX3_numberOf_38)
set_option maxHeartbeats 4000000 in
set_option maxRecDepth 100000 in
theorem c_X3_numbersOf (l : Launch) (E : EV) (x0 : Int32)  : KI l yX3_numbersOf wsX3_numbersOf (rmN 0) E (σ := Unit) [.int x0] (([] : va_W)) (fun _ => True) (fun _ => (nI (nof x0))) (fun _ => ([] : va_W)) 0 0 := by
  refine KI.of (cc := cX3_numbersOf) (maxL := 1) (ty := .int) (hnar := fun _ _ => rfl) rfl rfl rfl (fun x hX hin hret hnL => ?_)
  replace hX : CX x l cX3_numbersOf RX3 wsX3_numbersOf E (rmN 0) := hX
  show GG x 0 0 (([] : va_W)) 0 [(0, .int x0)] []
  refine g_iload_n hX dX3_numbersOf_0 0 rfl ?_
  refine g_bipush hX (nI 115) dX3_numbersOf_1 rfl ?_
  refine g_icmp_ne hX 8 dX3_numbersOf_3 (by decide) (fun c3 => ?_) (fun c3 => ?_)
  · skip
    refine g_iload_n hX dX3_numbersOf_8 0 rfl ?_
    refine g_bipush hX (nI 102) dX3_numbersOf_9 rfl ?_
    refine g_icmp_eq hX 20 dX3_numbersOf_11 (by decide) (fun c11 => ?_) (fun c11 => ?_)
    · skip
      refine g_iconst hX (nI 1) dX3_numbersOf_20 rfl ?_
      refine g_goto hX 25 dX3_numbersOf_21 (by decide) ?_
      exact g_eq rfl rfl (congrArg (fun z => [Value.int z]) (congrArg nI (by rw [nof, if_neg c3, if_pos c11]))) (hret () _ _ trivial dX3_numbersOf_25)
    · skip
      refine g_iload_n hX dX3_numbersOf_14 0 rfl ?_
      refine g_bipush hX (nI 114) dX3_numbersOf_15 rfl ?_
      refine g_icmp_ne hX 24 dX3_numbersOf_17 (by decide) (fun c17 => ?_) (fun c17 => ?_)
      · skip
        refine g_iconst hX (nI 0) dX3_numbersOf_24 rfl ?_
        exact g_eq rfl rfl (congrArg (fun z => [Value.int z]) (congrArg nI (by rw [nof, if_neg c3, if_neg c11, if_neg c17]))) (hret () _ _ trivial dX3_numbersOf_25)
      · skip
        refine g_iconst hX (nI 1) dX3_numbersOf_20 rfl ?_
        refine g_goto hX 25 dX3_numbersOf_21 (by decide) ?_
        exact g_eq rfl rfl (congrArg (fun z => [Value.int z]) (congrArg nI (by rw [nof, if_neg c3, if_neg c11, if_pos c17]))) (hret () _ _ trivial dX3_numbersOf_25)
  · skip
    refine g_iconst hX (nI 4) dX3_numbersOf_6 rfl ?_
    exact g_eq rfl rfl (congrArg (fun z => [Value.int z]) (congrArg nI (by rw [nof, if_pos c3]))) (hret () _ _ trivial dX3_numbersOf_7)
set_option maxHeartbeats 4000000 in
set_option maxRecDepth 100000 in
theorem c_X3_readNumbers (l : Launch) (E : EV) (a : Nat → Nat) (R : RC) (b : Nat → Nat) (cap : Nat) (tx : Nat → Nat) (n : Nat) (pl : Nat) (due : Nat) (hcap : cap ≤ 200) (hn : n ≤ cap) (htx : ∀ j, tx j < 2 ^ 16) (hpl : pl ≤ 2 ^ 18) (hdue : due ≤ 4) : KI l yX3_readNumbers wsX3_readNumbers (rmN 2) E (σ := Unit) [.ref (a 0), .ref (b 0), .int (nI n), .int (nI pl), .int (nI due)] ((rw_ E a R) ++ (tw E b cap tx)) (fun _ => True) (fun _ => (oI (rdN tx n due pl R).1)) (fun _ => (rw_ E a ((rdN tx n due pl R).2)) ++ (tw E b cap tx)) 0 0 := by
  refine KI.of (cc := cX3_readNumbers) (maxL := 8) (ty := .int) (hnar := fun _ _ => rfl) rfl rfl rfl (fun x hX hin hret hnL => ?_)
  replace hX : CX x l cX3_readNumbers RX3 wsX3_readNumbers E (rmN 2) := hX
  show GG x 0 0 ((rw_ E a R) ++ (tw E b cap tx)) 0 [(0, .ref (a 0)), (1, .ref (b 0)), (2, .int (nI n)), (3, .int (nI pl)), (4, .int (nI due))] []
  have inRX3 : ∀ w ∈ wsX30, w ∈ wsX3_readNumbers := by decide +kernel
  have fl11 : Cond.fieldLink RX3 11 "LieForce$Reader" "numbers" "[I" ∈ wsX3_readNumbers := by decide +kernel
  refine g_iload_n hX dX3_readNumbers_0 3 rfl ?_
  refine g_istore hX (j := 5) [(5, .int (nI pl)), (0, .ref (a 0)), (1, .ref (b 0)), (2, .int (nI n)), (3, .int (nI pl)), (4, .int (nI due))] dX3_readNumbers_1 (by rw [hnL]; rfl) rfl ?_
  refine g_iconst hX (nI 0) dX3_readNumbers_3 rfl ?_
  refine g_istore hX (j := 6) [(6, .int (nI 0)), (5, .int (nI pl)), (0, .ref (a 0)), (1, .ref (b 0)), (2, .int (nI n)), (3, .int (nI pl)), (4, .int (nI due))] dX3_readNumbers_4 (by rw [hnL]; rfl) rfl ?_
  have lp6 : ∀ (fuel : Nat) (i : Nat) (at_ : Nat) (Nv : Nat → Nat), due - i < fuel → (i ≤ due) → (at_ ≤ pl + 3 * i) → (rdL tx n due due 0 pl R = rdL tx n due (due - i) i at_ Nv) → GG x 0 0 ((rw_ E a Nv) ++ (tw E b cap tx)) 6 [(0, .ref (a 0)), (1, .ref (b 0)), (2, .int (nI n)), (3, .int (nI pl)), (4, .int (nI due)), (5, .int (nI at_)), (6, .int (nI i))] [] := by
    intro fuel
    induction fuel with
    | zero => intro i at_ Nv hm; exact absurd hm (Nat.not_lt_zero _)
    | succ fuel ih6 =>
      intro i at_ Nv hm6 hi hat he
      have hfl := figs_le tx n at_
      refine g_iload hX dX3_readNumbers_6 6 rfl ?_
      refine g_iload hX dX3_readNumbers_8 4 rfl ?_
      refine g_icmp_ge hX 97 dX3_readNumbers_10 (by decide) (fun c10 => ?_) (fun c10 => ?_)
      · replace c10 := (nI_leI (by omega) (by omega)).mp c10
        refine g_iload hX dX3_readNumbers_97 4 rfl ?_
        refine g_if_ne hX 107 dX3_readNumbers_99 (by decide) (fun c99 => ?_) (fun c99 => ?_)
        · replace c99 := mt (nz_eq (by omega)).mpr c99
          refine g_iload hX dX3_readNumbers_107 5 rfl ?_
          exact g_eq (by rw [rdN, if_neg c99, he, show due - i = 0 by omega] <;> rfl) rfl (congrArg (fun z => [Value.int z]) (by rw [rdN, if_neg c99, he, show due - i = 0 by omega] <;> rfl)) (hret () _ _ trivial dX3_readNumbers_109)
        · replace c99 := (nz_eq (by omega)).mp c99
          refine g_bipush hX ((-4)) dX3_readNumbers_102 rfl ?_
          refine g_goto hX 109 dX3_readNumbers_104 (by decide) ?_
          exact g_eq (by rw [rdN, if_pos c99, show Nv = R from by have e := he; rw [c99, Nat.zero_sub] at e; exact (congrArg Prod.snd e).symm]) rfl (congrArg (fun z => [Value.int z]) (by rw [rdN, if_pos c99] <;> rfl)) (hret () _ _ trivial dX3_readNumbers_109)
      · replace c10 := mt (nI_leI (by omega) (by omega)).mpr c10
        refine g_iload hX dX3_readNumbers_13 6 rfl ?_
        refine g_iconst hX (nI 4) dX3_readNumbers_15 rfl ?_
        refine g_icmp_ge hX 97 dX3_readNumbers_16 (by decide) (fun c16 => ?_) (fun c16 => ?_)
        · replace c16 := (nI_leI (by omega) (by omega)).mp c16
          exact absurd c16 (by omega)
        · replace c16 := mt (nI_leI (by omega) (by omega)).mpr c16
          refine g_aload_n hX dX3_readNumbers_19 1 rfl ?_
          refine g_iload_n hX dX3_readNumbers_20 2 rfl ?_
          refine g_iload hX dX3_readNumbers_21 5 rfl ?_
          have hc23 : CUT ((rw_ E a Nv) ++ (tw E b cap tx)) (tw E b cap tx) (rw_ E a Nv) [2] [0, 1] := ⟨rfl, rfl, rfl, rfl, rfl⟩
          refine g_TI hX hc23 [.ref (b 0), .int (nI n), .int (nI at_)] [] (c_X3_figuresAt l E b cap tx n at_ (by omega) (by omega) (by assumption) (by omega)) gX3_readNumbers_X3_figuresAt calX3_figuresAt rfl rfl rfl rfl dX3_readNumbers_23 rfl ⟨Nat.zero_le _, Nat.zero_le _⟩ (fun _ => (rw_ E a Nv) ++ (tw E b cap tx)) [0, 1, 2] rfl (fun _ => rfl) (fun _ hu23 => ?_)
          refine g_istore hX (j := 7) [(7, .int (nI (figs tx n at_))), (0, .ref (a 0)), (1, .ref (b 0)), (2, .int (nI n)), (3, .int (nI pl)), (4, .int (nI due)), (5, .int (nI at_)), (6, .int (nI i))] dX3_readNumbers_26 (by rw [hnL]; rfl) rfl ?_
          refine g_iload hX dX3_readNumbers_28 0 rfl ?_
          refine g_if_ne hX 36 dX3_readNumbers_30 (by decide) (fun c30 => ?_) (fun c30 => ?_)
          · replace c30 := mt (nz_eq (by omega)).mpr c30
            refine g_aload_n hX dX3_readNumbers_36 1 rfl ?_
            refine g_get hX (v := .ref (a 1)) 0 inRX3 rfl rfl 0 rfl fl11 rfl rfl dX3_readNumbers_37 ?_
            refine g_iload hX dX3_readNumbers_40 7 rfl ?_
            refine g_aload_n hX dX3_readNumbers_42 2 rfl ?_
            refine g_iload_n hX dX3_readNumbers_43 3 rfl ?_
            refine g_iload hX dX3_readNumbers_44 6 rfl ?_
            refine g_iload hX dX3_readNumbers_46 0 rfl ?_
            have hc48 : CUT ((rw_ E a Nv) ++ (tw E b cap tx)) (tw E b cap tx) (rw_ E a Nv) [2] [0, 1] := ⟨rfl, rfl, rfl, rfl, rfl⟩
            refine g_TI hX hc48 [.ref (b 0), .int (nI n), .int (nI at_), .int (nI (figs tx n at_))] [.int (nI i), .ref (a 1)] (c_X3_numberOf l E b cap tx n at_ (figs tx n at_) (by omega) (by omega) (by assumption) (by omega) rfl (by assumption)) gX3_readNumbers_X3_numberOf calX3_numberOf rfl rfl rfl rfl dX3_readNumbers_48 rfl ⟨Nat.zero_le _, Nat.zero_le _⟩ (fun _ => (rw_ E a Nv) ++ (tw E b cap tx)) [0, 1, 2] rfl (fun _ => rfl) (fun _ hu48 => ?_)
            refine g_iast hX (fun zz => nI ((va_up (Nv) i (numAt tx n at_)) zz)) ((rw_ E a (va_up (Nv) i (numAt tx n at_))) ++ (tw E b cap tx)) 1 0 rfl rfl (vp_in_nI (by omega) (by omega)) (ast_n (by omega)) dX3_readNumbers_51 rfl ?_
            refine g_iload hX dX3_readNumbers_52 6 rfl ?_
            refine g_iload hX dX3_readNumbers_54 0 rfl ?_
            refine g_iadd hX (nI (at_ + (figs tx n at_))) dX3_readNumbers_56 (nI_add _ _) ?_
            refine g_istore hX (j := 5) [(5, .int (nI (at_ + (figs tx n at_)))), (7, .int (nI (figs tx n at_))), (0, .ref (a 0)), (1, .ref (b 0)), (2, .int (nI n)), (3, .int (nI pl)), (4, .int (nI due)), (6, .int (nI i))] dX3_readNumbers_57 (by rw [hnL]; rfl) rfl ?_
            refine g_aload_n hX dX3_readNumbers_59 3 rfl ?_
            refine g_iload_n hX dX3_readNumbers_60 4 rfl ?_
            refine g_iload hX dX3_readNumbers_61 0 rfl ?_
            have hc63 : CUT ((rw_ E a (va_up (Nv) i (numAt tx n at_))) ++ (tw E b cap tx)) (tw E b cap tx) (rw_ E a (va_up (Nv) i (numAt tx n at_))) [2] [0, 1] := ⟨rfl, rfl, rfl, rfl, rfl⟩
            refine g_TI hX hc63 [.ref (b 0), .int (nI n), .int (nI (at_ + (figs tx n at_)))] [] (c_X3_letterAt l E b cap tx n (at_ + (figs tx n at_)) (by omega) (by omega) (by assumption) (by omega)) gX3_readNumbers_X3_letterAt calX3_letterAt rfl rfl rfl rfl dX3_readNumbers_63 rfl ⟨Nat.zero_le _, Nat.zero_le _⟩ (fun _ => (rw_ E a (va_up (Nv) i (numAt tx n at_))) ++ (tw E b cap tx)) [0, 1, 2] rfl (fun _ => rfl) (fun _ hu63 => ?_)
            refine g_iload hX dX3_readNumbers_66 7 rfl ?_
            refine g_iconst hX (nI 1) dX3_readNumbers_68 rfl ?_
            refine g_iadd hX (nI (i + 1)) dX3_readNumbers_69 (nI_add _ _) ?_
            refine g_iload hX dX3_readNumbers_70 6 rfl ?_
            refine g_icmp_ge hX 80 dX3_readNumbers_72 (by decide) (fun c72 => ?_) (fun c72 => ?_)
            · replace c72 := (nI_leI (by omega) (by omega)).mp c72
              refine g_bipush hX (nI 59) dX3_readNumbers_80 rfl ?_
              refine g_icmp_eq hX 88 dX3_readNumbers_82 (by decide) (fun c82 => ?_) (fun c82 => ?_)
              · replace c82 := (oI_s (fun c h => by have := htx (at_ + figs tx n at_); have := (letO_some h).2; omega) (by decide)).mp c82
                refine g_iinc hX (j := 5) (nI (at_ + (figs tx n at_) + 1)) [(5, .int (nI (at_ + (figs tx n at_) + 1))), (7, .int (nI (figs tx n at_))), (0, .ref (a 0)), (1, .ref (b 0)), (2, .int (nI n)), (3, .int (nI pl)), (4, .int (nI due)), (6, .int (nI i))] dX3_readNumbers_88 0 rfl (iinc_n _ _) (by rw [hnL]; rfl) rfl ?_
                refine g_iinc hX (j := 6) (nI (i + 1)) [(6, .int (nI (i + 1))), (5, .int (nI (at_ + (figs tx n at_) + 1))), (7, .int (nI (figs tx n at_))), (0, .ref (a 0)), (1, .ref (b 0)), (2, .int (nI n)), (3, .int (nI pl)), (4, .int (nI due))] dX3_readNumbers_91 7 rfl (iinc_n _ _) (by rw [hnL]; rfl) rfl ?_
                refine g_goto hX 6 dX3_readNumbers_94 (by decide) ?_
                exact g_lv _ [3, 4, 5, 6, 7, 1, 0] rfl (ih6 (i + 1) (at_ + (figs tx n at_) + 1) (va_up (Nv) i (numAt tx n at_)) (by omega) (by omega) (by have := figs_le tx n at_; omega) (by rw [he, show due - i = (due - (i + 1)) + 1 by omega, rdL, if_neg c30, if_pos (by rw [c82]; first | rw [if_pos (by omega)] | rw [if_neg (by omega)])]))
              · replace c82 := mt (oI_s (fun c h => by have := htx (at_ + figs tx n at_); have := (letO_some h).2; omega) (by decide)).mpr c82
                refine g_bipush hX ((-4)) dX3_readNumbers_85 rfl ?_
                exact g_eq (by rw [rdN, if_neg (by omega), he, show due - i = (due - (i + 1)) + 1 by omega, rdL, if_neg c30, if_neg (by intro z; first | (rw [if_pos (by omega)] at z; exact c82 z) | (rw [if_neg (by omega)] at z; exact c82 z))] <;> rfl) rfl (congrArg (fun z => [Value.int z]) (by rw [rdN, if_neg (by omega), he, show due - i = (due - (i + 1)) + 1 by omega, rdL, if_neg c30, if_neg (by intro z; first | (rw [if_pos (by omega)] at z; exact c82 z) | (rw [if_neg (by omega)] at z; exact c82 z))] <;> rfl)) (hret () _ _ trivial dX3_readNumbers_87)
            · replace c72 := mt (nI_leI (by omega) (by omega)).mpr c72
              refine g_bipush hX (nI 44) dX3_readNumbers_75 rfl ?_
              refine g_goto hX 82 dX3_readNumbers_77 (by decide) ?_
              refine g_icmp_eq hX 88 dX3_readNumbers_82 (by decide) (fun c82 => ?_) (fun c82 => ?_)
              · replace c82 := (oI_s (fun c h => by have := htx (at_ + figs tx n at_); have := (letO_some h).2; omega) (by decide)).mp c82
                refine g_iinc hX (j := 5) (nI (at_ + (figs tx n at_) + 1)) [(5, .int (nI (at_ + (figs tx n at_) + 1))), (7, .int (nI (figs tx n at_))), (0, .ref (a 0)), (1, .ref (b 0)), (2, .int (nI n)), (3, .int (nI pl)), (4, .int (nI due)), (6, .int (nI i))] dX3_readNumbers_88 0 rfl (iinc_n _ _) (by rw [hnL]; rfl) rfl ?_
                refine g_iinc hX (j := 6) (nI (i + 1)) [(6, .int (nI (i + 1))), (5, .int (nI (at_ + (figs tx n at_) + 1))), (7, .int (nI (figs tx n at_))), (0, .ref (a 0)), (1, .ref (b 0)), (2, .int (nI n)), (3, .int (nI pl)), (4, .int (nI due))] dX3_readNumbers_91 7 rfl (iinc_n _ _) (by rw [hnL]; rfl) rfl ?_
                refine g_goto hX 6 dX3_readNumbers_94 (by decide) ?_
                exact g_lv _ [3, 4, 5, 6, 7, 1, 0] rfl (ih6 (i + 1) (at_ + (figs tx n at_) + 1) (va_up (Nv) i (numAt tx n at_)) (by omega) (by omega) (by have := figs_le tx n at_; omega) (by rw [he, show due - i = (due - (i + 1)) + 1 by omega, rdL, if_neg c30, if_pos (by rw [c82]; first | rw [if_pos (by omega)] | rw [if_neg (by omega)])]))
              · replace c82 := mt (oI_s (fun c h => by have := htx (at_ + figs tx n at_); have := (letO_some h).2; omega) (by decide)).mpr c82
                refine g_bipush hX ((-4)) dX3_readNumbers_85 rfl ?_
                exact g_eq (by rw [rdN, if_neg (by omega), he, show due - i = (due - (i + 1)) + 1 by omega, rdL, if_neg c30, if_neg (by intro z; first | (rw [if_pos (by omega)] at z; exact c82 z) | (rw [if_neg (by omega)] at z; exact c82 z))] <;> rfl) rfl (congrArg (fun z => [Value.int z]) (by rw [rdN, if_neg (by omega), he, show due - i = (due - (i + 1)) + 1 by omega, rdL, if_neg c30, if_neg (by intro z; first | (rw [if_pos (by omega)] at z; exact c82 z) | (rw [if_neg (by omega)] at z; exact c82 z))] <;> rfl)) (hret () _ _ trivial dX3_readNumbers_87)
          · replace c30 := (nz_eq (by omega)).mp c30
            refine g_bipush hX ((-4)) dX3_readNumbers_33 rfl ?_
            exact g_eq (by rw [rdN, if_neg (by omega), he, show due - i = (due - (i + 1)) + 1 by omega, rdL, if_pos c30] <;> rfl) rfl (congrArg (fun z => [Value.int z]) (by rw [rdN, if_neg (by omega), he, show due - i = (due - (i + 1)) + 1 by omega, rdL, if_pos c30] <;> rfl)) (hret () _ _ trivial dX3_readNumbers_35)
  exact g_lv _ [2, 3, 4, 5, 6, 1, 0] rfl (lp6 _ 0 pl R (Nat.lt_succ_self _) (Nat.zero_le _) (Nat.le_refl _) rfl)
set_option maxHeartbeats 4000000 in
set_option maxRecDepth 100000 in
theorem c_X3_putItem (l : Launch) (E : EV) (a : Nat → Nat) (R : RC) (x0 : Int32) (d : Nat → Nat) (C : FC) (hC : FO C) (hq : ∀ z, R z < 100) : KI l yX3_putItem wsX3_putItem (rmN 3) E (σ := Unit) [.ref (a 0), .int x0, .ref (d 0)] ((rw_ E a R) ++ (fw E d C)) (fun _ => True) (fun _ => (bI ((putO x0 R C).1))) (fun _ => (rw_ E a R) ++ (fw E d ((putO x0 R C).2))) 0 0 := by
  refine KI.of (cc := cX3_putItem) (maxL := 3) (ty := .boolean) (hnar := fun _ _ => nar_b _) rfl rfl rfl (fun x hX hin hret hnL => ?_)
  replace hX : CX x l cX3_putItem RX3 wsX3_putItem E (rmN 3) := hX
  show GG x 0 0 ((rw_ E a R) ++ (fw E d C)) 0 [(0, .ref (a 0)), (1, .int x0), (2, .ref (d 0))] []
  have inRX0 : ∀ w ∈ wsX00, w ∈ wsX3_putItem := by decide +kernel
  have inRX3 : ∀ w ∈ wsX30, w ∈ wsX3_putItem := by decide +kernel
  have fl11 : Cond.fieldLink RX3 11 "LieForce$Reader" "numbers" "[I" ∈ wsX3_putItem := by decide +kernel
  have fl53 : Cond.fieldLink RX3 53 "LieForce$Force" "term" "I" ∈ wsX3_putItem := by decide +kernel
  obtain ⟨h9, h64, h512, hT, hI⟩ := id hC
  have h0 := hq 0
  have h1 := hq 1
  have h2 := hq 2
  have h3 := hq 3
  refine g_iload_n hX dX3_putItem_0 1 rfl ?_
  refine g_bipush hX (nI 102) dX3_putItem_1 rfl ?_
  refine g_icmp_ne hX 26 dX3_putItem_3 (by decide) (fun c3 => ?_) (fun c3 => ?_)
  · skip
    refine g_iload_n hX dX3_putItem_26 1 rfl ?_
    refine g_bipush hX (nI 114) dX3_putItem_27 rfl ?_
    refine g_icmp_ne hX 55 dX3_putItem_29 (by decide) (fun c29 => ?_) (fun c29 => ?_)
    · skip
      refine g_aload_n hX dX3_putItem_55 0 rfl ?_
      refine g_get hX (v := .ref (a 1)) 0 inRX3 rfl rfl 0 rfl fl11 rfl rfl dX3_putItem_56 ?_
      refine g_iconst hX (nI 0) dX3_putItem_59 rfl ?_
      refine g_iald hX (nI (R 0)) 1 0 rfl rfl (vp_in_nI (by omega) (by omega)) (ald_n (g := fun zz => nI (R zz)) (i := 0) (by omega)) dX3_putItem_60 ?_
      refine g_aload_n hX dX3_putItem_61 0 rfl ?_
      refine g_get hX (v := .ref (a 1)) 0 inRX3 rfl rfl 0 rfl fl11 rfl rfl dX3_putItem_62 ?_
      refine g_iconst hX (nI 1) dX3_putItem_65 rfl ?_
      refine g_iald hX (nI (R 1)) 1 0 rfl rfl (vp_in_nI (by omega) (by omega)) (ald_n (g := fun zz => nI (R zz)) (i := 1) (by omega)) dX3_putItem_66 ?_
      refine g_aload_n hX dX3_putItem_67 0 rfl ?_
      refine g_get hX (v := .ref (a 1)) 0 inRX3 rfl rfl 0 rfl fl11 rfl rfl dX3_putItem_68 ?_
      refine g_iconst hX (nI 2) dX3_putItem_71 rfl ?_
      refine g_iald hX (nI (R 2)) 1 0 rfl rfl (vp_in_nI (by omega) (by omega)) (ald_n (g := fun zz => nI (R zz)) (i := 2) (by omega)) dX3_putItem_72 ?_
      refine g_aload_n hX dX3_putItem_73 0 rfl ?_
      refine g_get hX (v := .ref (a 1)) 0 inRX3 rfl rfl 0 rfl fl11 rfl rfl dX3_putItem_74 ?_
      refine g_iconst hX (nI 3) dX3_putItem_77 rfl ?_
      refine g_iald hX (nI (R 3)) 1 0 rfl rfl (vp_in_nI (by omega) (by omega)) (ald_n (g := fun zz => nI (R zz)) (i := 3) (by omega)) dX3_putItem_78 ?_
      have hc79 : CUT ((rw_ E a R) ++ (fw E d C)) (([] : va_W)) ((rw_ E a R) ++ (fw E d C)) [] [0, 1, 2, 3, 4, 5, 6, 7, 8] := ⟨rfl, rfl, rfl, rfl, rfl⟩
      refine g_NI hX hc79 [.int (nI (R 0)), .int (nI (R 1)), .int (nI (R 2)), .int (nI (R 3))] [] (c_X5_isSaying l E (nI (R 0)) (nI (R 1)) (nI (R 2)) (nI (R 3))) gX3_putItem_X5_isSaying_n61 calX5_isSaying rfl rfl (by decide +kernel) (by decide +kernel) (by decide +kernel) rfl rfl dX3_putItem_79 rfl ⟨Nat.zero_le _, Nat.zero_le _⟩ (fun _ => (rw_ E a R) ++ (fw E d C)) [0, 1, 2, 3, 4, 5, 6, 7, 8] rfl (fun _ => rfl) (fun _ hu79 => ?_)
      refine g_if_eq hX 122 dX3_putItem_82 (by decide) (fun c82 => ?_) (fun c82 => ?_)
      · replace c82 := bI_0.mp c82
        refine g_iconst hX (nI 0) dX3_putItem_122 rfl ?_
        exact g_eq (by rw [putO, if_neg c3, if_neg c29, if_neg (fun z => absurd z.1 (by rw [show sayB R = false from c82]; decide))] <;> rfl) rfl (congrArg (fun z => [Value.int z]) (bret_f (by rw [putO, if_neg c3, if_neg c29, if_neg (fun z => absurd z.1 (by rw [show sayB R = false from c82]; decide))]))) (hret () _ _ trivial dX3_putItem_123)
      · replace c82 := mt bI_0.mpr c82
        replace c82 := bNf c82
        have hsay : sayB R = true := c82
        have hsy := hsay
        rw [sayB_ok hq] at hsy
        simp only [Bool.and_eq_true, decide_eq_true_eq] at hsy
        obtain ⟨⟨⟨hk0, hk1⟩, hk2⟩, hk3⟩ := hsy
        refine g_aload_n hX dX3_putItem_85 2 rfl ?_
        refine g_aload_n hX dX3_putItem_86 0 rfl ?_
        refine g_get hX (v := .ref (a 1)) 0 inRX3 rfl rfl 0 rfl fl11 rfl rfl dX3_putItem_87 ?_
        refine g_iconst hX (nI 0) dX3_putItem_90 rfl ?_
        refine g_iald hX (nI (R 0)) 1 0 rfl rfl (vp_in_nI (by omega) (by omega)) (ald_n (g := fun zz => nI (R zz)) (i := 0) (by omega)) dX3_putItem_91 ?_
        refine g_aload_n hX dX3_putItem_92 0 rfl ?_
        refine g_get hX (v := .ref (a 1)) 0 inRX3 rfl rfl 0 rfl fl11 rfl rfl dX3_putItem_93 ?_
        refine g_iconst hX (nI 1) dX3_putItem_96 rfl ?_
        refine g_iald hX (nI (R 1)) 1 0 rfl rfl (vp_in_nI (by omega) (by omega)) (ald_n (g := fun zz => nI (R zz)) (i := 1) (by omega)) dX3_putItem_97 ?_
        refine g_aload_n hX dX3_putItem_98 0 rfl ?_
        refine g_get hX (v := .ref (a 1)) 0 inRX3 rfl rfl 0 rfl fl11 rfl rfl dX3_putItem_99 ?_
        refine g_iconst hX (nI 2) dX3_putItem_102 rfl ?_
        refine g_iald hX (nI (R 2)) 1 0 rfl rfl (vp_in_nI (by omega) (by omega)) (ald_n (g := fun zz => nI (R zz)) (i := 2) (by omega)) dX3_putItem_103 ?_
        refine g_aload_n hX dX3_putItem_104 0 rfl ?_
        refine g_get hX (v := .ref (a 1)) 0 inRX3 rfl rfl 0 rfl fl11 rfl rfl dX3_putItem_105 ?_
        refine g_iconst hX (nI 3) dX3_putItem_108 rfl ?_
        refine g_iald hX (nI (R 3)) 1 0 rfl rfl (vp_in_nI (by omega) (by omega)) (ald_n (g := fun zz => nI (R zz)) (i := 3) (by omega)) dX3_putItem_109 ?_
        by_cases hN : cN C < 9
        · skip
          have hc110 : CUT ((rw_ E a R) ++ (fw E d C)) (fw E d C) (rw_ E a R) [2, 3, 4, 5, 6, 7, 8] [0, 1] := ⟨rfl, rfl, rfl, rfl, rfl⟩
          refine g_VI hX hc110 [.int (nI (R 0)), .int (nI (R 1)), .int (nI (R 2)), .int (nI (R 3))] [] (c_X0_addSaying l E d C (R 0) (R 1) (R 2) (R 3) (by first | assumption | omega) (by omega) (by omega) (by omega) (by omega)) gX3_putItem_X0_addSaying calX0_addSaying rfl rfl rfl rfl 2 rfl rfl rfl rfl dX3_putItem_110 rfl ⟨Nat.zero_le _, Nat.zero_le _⟩ (fun _ => (rw_ E a R) ++ (fw E d (addC C (R 0) (R 1) (R 2) (R 3)))) [0, 1, 2, 3, 4, 5, 6, 7, 8] rfl (fun _ => rfl) (fun _ hu110 => ?_)
          refine g_bipush hX ((-3)) dX3_putItem_113 rfl ?_
          refine g_icmp_eq hX 122 dX3_putItem_115 (by decide) (fun c115 => ?_) (fun c115 => ?_)
          · skip
            exact absurd c115 (nI_nn (by omega) (by decide))
          · skip
            refine g_iconst hX (nI 1) dX3_putItem_118 rfl ?_
            refine g_goto hX 123 dX3_putItem_119 (by decide) ?_
            exact g_eq (by rw [putO, if_neg c3, if_neg c29, if_pos ⟨hsay, hN⟩] <;> rfl) rfl (congrArg (fun z => [Value.int z]) (bret_t (by rw [putO, if_neg c3, if_neg c29, if_pos ⟨hsay, hN⟩]))) (hret () _ _ trivial dX3_putItem_123)
        · skip
          have hc110 : CUT ((rw_ E a R) ++ (fw E d C)) (fw E d C) (rw_ E a R) [2, 3, 4, 5, 6, 7, 8] [0, 1] := ⟨rfl, rfl, rfl, rfl, rfl⟩
          refine g_VI hX hc110 [.int (nI (R 0)), .int (nI (R 1)), .int (nI (R 2)), .int (nI (R 3))] [] (c_X0_addSaying_full l E d C (R 0) (R 1) (R 2) (R 3) (by omega)) gX3_putItem_X0_addSaying calX0_addSaying rfl rfl rfl rfl 2 rfl rfl rfl rfl dX3_putItem_110 rfl ⟨Nat.zero_le _, Nat.zero_le _⟩ (fun _ => (rw_ E a R) ++ (fw E d C)) [0, 1, 2, 3, 4, 5, 6, 7, 8] rfl (fun _ => rfl) (fun _ hu110 => ?_)
          refine g_bipush hX ((-3)) dX3_putItem_113 rfl ?_
          refine g_icmp_eq hX 122 dX3_putItem_115 (by decide) (fun c115 => ?_) (fun c115 => ?_)
          · skip
            refine g_iconst hX (nI 0) dX3_putItem_122 rfl ?_
            exact g_eq (by rw [putO, if_neg c3, if_neg c29, if_neg (fun z => hN z.2)] <;> rfl) rfl (congrArg (fun z => [Value.int z]) (bret_f (by rw [putO, if_neg c3, if_neg c29, if_neg (fun z => hN z.2)]))) (hret () _ _ trivial dX3_putItem_123)
          · skip
            exact absurd rfl c115
    · skip
      refine g_aload_n hX dX3_putItem_32 2 rfl ?_
      refine g_aload_n hX dX3_putItem_33 0 rfl ?_
      refine g_get hX (v := .ref (a 1)) 0 inRX3 rfl rfl 0 rfl fl11 rfl rfl dX3_putItem_34 ?_
      refine g_iconst hX (nI 0) dX3_putItem_37 rfl ?_
      refine g_iald hX (nI (R 0)) 1 0 rfl rfl (vp_in_nI (by omega) (by omega)) (ald_n (g := fun zz => nI (R zz)) (i := 0) (by omega)) dX3_putItem_38 ?_
      refine g_eq (show ((rw_ E a R) ++ (fw E d C) : va_W) = (rw_ E a R) ++ (fw E d (mkFC (cF C) (cN C) (cG C) (cY C) (cT C) (cK C) (cA C) (cB C) (cP C) (cV C) (cW C))) from rfl) rfl rfl ?_
      refine g_put hX ((rw_ E a R) ++ (fw E d (mkFC (cF C) (cN C) (cG C) (cY C) (R 0) (cK C) (cA C) (cB C) (cP C) (cV C) (cW C)))) 2 inRX0 tyX0_ok nmX0 rfl rfl 4 rfl fl53 rfl rfl rfl rfl rfl dX3_putItem_39 rfl ?_
      refine g_aload_n hX dX3_putItem_42 0 rfl ?_
      refine g_get hX (v := .ref (a 1)) 0 inRX3 rfl rfl 0 rfl fl11 rfl rfl dX3_putItem_43 ?_
      refine g_iconst hX (nI 0) dX3_putItem_46 rfl ?_
      refine g_iald hX (nI (R 0)) 1 0 rfl rfl (vp_in_nI (by omega) (by omega)) (ald_n (g := fun zz => nI (R zz)) (i := 0) (by omega)) dX3_putItem_47 ?_
      refine g_iconst hX (nI 1) dX3_putItem_48 rfl ?_
      refine g_bipush hX (nI 20) dX3_putItem_49 rfl ?_
      have hc51 : CUT ((rw_ E a R) ++ (fw E d (mkFC (cF C) (cN C) (cG C) (cY C) (R 0) (cK C) (cA C) (cB C) (cP C) (cV C) (cW C)))) (([] : va_W)) ((rw_ E a R) ++ (fw E d (mkFC (cF C) (cN C) (cG C) (cY C) (R 0) (cK C) (cA C) (cB C) (cP C) (cV C) (cW C)))) [] [0, 1, 2, 3, 4, 5, 6, 7, 8] := ⟨rfl, rfl, rfl, rfl, rfl⟩
      refine g_NI hX hc51 [.int (nI (R 0)), .int (nI 1), .int (nI 20)] [] (c_X5_isWithin l E (nI (R 0)) (nI 1) (nI 20)) gX3_putItem_X5_isWithin_n57 calX5_isWithin rfl rfl (by decide +kernel) (by decide +kernel) (by decide +kernel) rfl rfl dX3_putItem_51 rfl ⟨Nat.zero_le _, Nat.zero_le _⟩ (fun _ => (rw_ E a R) ++ (fw E d (mkFC (cF C) (cN C) (cG C) (cY C) (R 0) (cK C) (cA C) (cB C) (cP C) (cV C) (cW C)))) [0, 1, 2, 3, 4, 5, 6, 7, 8] rfl (fun _ => rfl) (fun _ hu51 => ?_)
      exact g_eq (by rw [putO, if_neg c3, if_pos c29] <;> rfl) rfl (congrArg (fun z => [Value.int z]) (congrArg bI (by rw [putO, if_neg c3, if_pos c29]))) (hret () _ _ trivial dX3_putItem_54)
  · skip
    refine g_aload_n hX dX3_putItem_6 2 rfl ?_
    refine g_aload_n hX dX3_putItem_7 0 rfl ?_
    refine g_get hX (v := .ref (a 1)) 0 inRX3 rfl rfl 0 rfl fl11 rfl rfl dX3_putItem_8 ?_
    refine g_iconst hX (nI 0) dX3_putItem_11 rfl ?_
    refine g_iald hX (nI (R 0)) 1 0 rfl rfl (vp_in_nI (by omega) (by omega)) (ald_n (g := fun zz => nI (R zz)) (i := 0) (by omega)) dX3_putItem_12 ?_
    have hc13 : CUT ((rw_ E a R) ++ (fw E d C)) (fw E d C) (rw_ E a R) [2, 3, 4, 5, 6, 7, 8] [0, 1] := ⟨rfl, rfl, rfl, rfl, rfl⟩
    refine g_VV hX hc13 [.int (nI (R 0))] [] (c_X0_turnFact l E d C (R 0) (by first | assumption | omega) (by omega)) gX3_putItem_X0_turnFact calX0_turnFact rfl rfl rfl rfl 2 rfl rfl rfl rfl dX3_putItem_13 rfl ⟨Nat.zero_le _, Nat.zero_le _⟩ (fun _ => (rw_ E a R) ++ (fw E d (turnF C (R 0)))) [0, 1, 2, 3, 4, 5, 6, 7, 8] rfl (fun _ => rfl) (fun _ hu13 => ?_)
    refine g_aload_n hX dX3_putItem_16 0 rfl ?_
    refine g_get hX (v := .ref (a 1)) 0 inRX3 rfl rfl 0 rfl fl11 rfl rfl dX3_putItem_17 ?_
    refine g_iconst hX (nI 0) dX3_putItem_20 rfl ?_
    refine g_iald hX (nI (R 0)) 1 0 rfl rfl (vp_in_nI (by omega) (by omega)) (ald_n (g := fun zz => nI (R zz)) (i := 0) (by omega)) dX3_putItem_21 ?_
    have hc22 : CUT ((rw_ E a R) ++ (fw E d (turnF C (R 0)))) (([] : va_W)) ((rw_ E a R) ++ (fw E d (turnF C (R 0)))) [] [0, 1, 2, 3, 4, 5, 6, 7, 8] := ⟨rfl, rfl, rfl, rfl, rfl⟩
    refine g_NI hX hc22 [.int (nI (R 0))] [] (c_X5_isFact_n l E (R 0) (by omega)) gX3_putItem_X5_isFact_n50 calX5_isFact rfl rfl (by decide +kernel) (by decide +kernel) (by decide +kernel) rfl rfl dX3_putItem_22 rfl ⟨Nat.zero_le _, Nat.zero_le _⟩ (fun _ => (rw_ E a R) ++ (fw E d (turnF C (R 0)))) [0, 1, 2, 3, 4, 5, 6, 7, 8] rfl (fun _ => rfl) (fun _ hu22 => ?_)
    exact g_eq (by rw [putO, if_pos c3]) rfl (congrArg (fun z => [Value.int z]) (congrArg bI (by rw [putO, if_pos c3]))) (hret () _ _ trivial dX3_putItem_25)
set_option maxHeartbeats 4000000 in
set_option maxRecDepth 100000 in
theorem c_X3_read (l : Launch) (E : EV) (a : Nat → Nat) (R : RC) (b : Nat → Nat) (cap : Nat) (tx : Nat → Nat) (n : Nat) (d : Nat → Nat) (C : FC) (hcap : cap ≤ 200) (hn : n ≤ cap) (htx : ∀ j, tx j < 2 ^ 16) (hq : ∀ z, R z < 100) : KI l yX3_read wsX3_read (rmN 4) E (σ := Unit) [.ref (a 0), .ref (b 0), .int (nI n), .ref (d 0)] ((rw_ E a R ++ (tw E b cap tx ++ (fw E d C)))) (fun _ => True) (fun _ => (oI (rdA tx n 200 0 R (emC C)).1)) (fun _ => (rw_ E a ((rdA tx n 200 0 R (emC C)).2.1) ++ (tw E b cap tx ++ (fw E d ((rdA tx n 200 0 R (emC C)).2.2))))) 0 0 := by
  refine KI.of (cc := cX3_read) (maxL := 8) (ty := .int) (hnar := fun _ _ => rfl) rfl rfl rfl (fun x hX hin hret hnL => ?_)
  replace hX : CX x l cX3_read RX3 wsX3_read E (rmN 4) := hX
  show GG x 0 0 ((rw_ E a R ++ (tw E b cap tx ++ (fw E d C)))) 0 [(0, .ref (a 0)), (1, .ref (b 0)), (2, .int (nI n)), (3, .ref (d 0))] []
  refine g_aload_n hX dX3_read_0 3 rfl ?_
  have hc1 : CUT ((rw_ E a R ++ (tw E b cap tx ++ (fw E d C)))) (fw E d C) ((rw_ E a R) ++ (tw E b cap tx)) [3, 4, 5, 6, 7, 8, 9] [0, 1, 2] := ⟨rfl, rfl, rfl, rfl, rfl⟩
  refine g_VV hX hc1 [] [] (c_X0_empty l E d C) gX3_read_X0_empty calX0_empty rfl rfl rfl rfl 3 rfl rfl rfl rfl dX3_read_1 rfl ⟨Nat.zero_le _, Nat.zero_le _⟩ (fun _ => (rw_ E a R ++ (tw E b cap tx ++ (fw E d (emC C))))) [0, 1, 2, 3, 4, 5, 6, 7, 8, 9] rfl (fun _ => rfl) (fun _ hu1 => ?_)
  refine g_iconst hX (nI 0) dX3_read_4 rfl ?_
  refine g_istore hX (j := 4) [(4, .int (nI 0)), (0, .ref (a 0)), (1, .ref (b 0)), (2, .int (nI n)), (3, .ref (d 0))] dX3_read_5 (by rw [hnL]; rfl) rfl ?_
  refine g_iconst hX (nI 0) dX3_read_7 rfl ?_
  refine g_istore hX (j := 5) [(5, .int (nI 0)), (4, .int (nI 0)), (0, .ref (a 0)), (1, .ref (b 0)), (2, .int (nI n)), (3, .ref (d 0))] dX3_read_8 (by rw [hnL]; rfl) rfl ?_
  have lp10 : ∀ (fuel : Nat) (i : Nat) (p : Nat) (Nv : Nat → Nat) (D : FC), 200 - i < fuel → (i ≤ 200) → (p ≤ n) → (∀ z, Nv z < 100) → (FO D) → ((rdA tx n 200 0 R (emC C)) = rdA tx n (200 - i) p Nv D) → GG x 0 0 ((rw_ E a Nv ++ (tw E b cap tx ++ (fw E d D)))) 10 [(0, .ref (a 0)), (1, .ref (b 0)), (2, .int (nI n)), (3, .ref (d 0)), (4, .int (nI p)), (5, .int (nI i))] [] := by
    intro fuel
    induction fuel with
    | zero => intro i p Nv D hm; exact absurd hm (Nat.not_lt_zero _)
    | succ fuel ih10 =>
      intro i p Nv D hm10 hi hp hNv hD he
      refine g_iload hX dX3_read_10 5 rfl ?_
      refine g_sipush hX (nI 200) dX3_read_12 rfl ?_
      refine g_icmp_ge hX 80 dX3_read_15 (by decide) (fun c15 => ?_) (fun c15 => ?_)
      · replace c15 := (nI_leI (by omega) (by omega)).mp c15
        refine g_bipush hX ((-4)) dX3_read_80 rfl ?_
        exact g_eq (by rw [he, show 200 - i = 0 by omega] <;> rfl) rfl (congrArg (fun z => [Value.int z]) (by rw [he, show 200 - i = 0 by omega] <;> rfl)) (hret () _ _ trivial dX3_read_82)
      · replace c15 := mt (nI_leI (by omega) (by omega)).mpr c15
        refine g_iload hX dX3_read_18 4 rfl ?_
        refine g_iload_n hX dX3_read_20 2 rfl ?_
        refine g_icmp_ge hX 80 dX3_read_21 (by decide) (fun c21 => ?_) (fun c21 => ?_)
        · replace c21 := (nI_leI (by omega) (by omega)).mp c21
          refine g_bipush hX ((-4)) dX3_read_80 rfl ?_
          exact g_eq (by rw [he, rdA_end (by omega)] <;> rfl) rfl (congrArg (fun z => [Value.int z]) (by rw [he, rdA_end (by omega)] <;> rfl)) (hret () _ _ trivial dX3_read_82)
        · replace c21 := mt (nI_leI (by omega) (by omega)).mpr c21
          refine g_aload_n hX dX3_read_24 1 rfl ?_
          refine g_iload_n hX dX3_read_25 2 rfl ?_
          refine g_iload hX dX3_read_26 4 rfl ?_
          have hc28 : CUT ((rw_ E a Nv ++ (tw E b cap tx ++ (fw E d D)))) (tw E b cap tx) ((rw_ E a Nv) ++ (fw E d D)) [2] [0, 1, 3, 4, 5, 6, 7, 8, 9] := ⟨rfl, rfl, rfl, rfl, rfl⟩
          refine g_TI hX hc28 [.ref (b 0), .int (nI n), .int (nI p)] [] (c_X3_letterAt l E b cap tx n p (by omega) (by omega) (by assumption) (by omega)) gX3_read_X3_letterAt calX3_letterAt rfl rfl rfl rfl dX3_read_28 rfl ⟨Nat.zero_le _, Nat.zero_le _⟩ (fun _ => (rw_ E a Nv ++ (tw E b cap tx ++ (fw E d D)))) [0, 1, 9, 2, 3, 4, 5, 6, 7, 8] rfl (fun _ => rfl) (fun _ hu28 => ?_)
          refine g_istore hX (j := 6) [(6, .int (oI (letO tx n p))), (0, .ref (a 0)), (1, .ref (b 0)), (2, .int (nI n)), (3, .ref (d 0)), (4, .int (nI p)), (5, .int (nI i))] dX3_read_31 (by rw [hnL]; rfl) rfl ?_
          refine g_aload_n hX dX3_read_33 1 rfl ?_
          refine g_aload_n hX dX3_read_34 2 rfl ?_
          refine g_iload_n hX dX3_read_35 3 rfl ?_
          refine g_iload hX dX3_read_36 5 rfl ?_
          refine g_iconst hX (nI 1) dX3_read_38 rfl ?_
          refine g_iadd hX (nI (p + 1)) dX3_read_39 (nI_add _ _) ?_
          refine g_iload hX dX3_read_40 0 rfl ?_
          have hc42 : CUT ((rw_ E a Nv ++ (tw E b cap tx ++ (fw E d D)))) (([] : va_W)) ((rw_ E a Nv ++ (tw E b cap tx ++ (fw E d D)))) [] [0, 1, 2, 3, 4, 5, 6, 7, 8, 9] := ⟨rfl, rfl, rfl, rfl, rfl⟩
          refine g_TI hX hc42 [.int (oI (letO tx n p))] [.int (nI (p + 1)), .int (nI n), .ref (b 0), .ref (a 0)] (c_X3_numbersOf l E (oI (letO tx n p))) gX3_read_X3_numbersOf calX3_numbersOf rfl rfl rfl rfl dX3_read_42 rfl ⟨Nat.zero_le _, Nat.zero_le _⟩ (fun _ => (rw_ E a Nv ++ (tw E b cap tx ++ (fw E d D)))) [0, 1, 2, 3, 4, 5, 6, 7, 8, 9] rfl (fun _ => rfl) (fun _ hu42 => ?_)
          have hc45 : CUT ((rw_ E a Nv ++ (tw E b cap tx ++ (fw E d D)))) ((rw_ E a Nv) ++ (tw E b cap tx)) (fw E d D) [0, 1, 2] [3, 4, 5, 6, 7, 8, 9] := ⟨rfl, rfl, rfl, rfl, rfl⟩
          refine g_VI hX hc45 [.ref (b 0), .int (nI n), .int (nI (p + 1)), .int (nI (nof (oI (letO tx n p))))] [] (c_X3_readNumbers l E a Nv b cap tx n (p + 1) (nof (oI (letO tx n p))) (by omega) (by omega) (by assumption) (by omega) (by unfold nof; split; omega; split; omega; split <;> omega)) gX3_read_X3_readNumbers calX3_readNumbers rfl rfl rfl rfl 0 rfl rfl rfl rfl dX3_read_45 rfl ⟨Nat.zero_le _, Nat.zero_le _⟩ (fun _ => (rw_ E a ((rdN tx n (nof (oI (letO tx n p))) (p + 1) Nv).2) ++ (tw E b cap tx ++ (fw E d D)))) [7, 8, 9, 0, 1, 2, 3, 4, 5, 6] rfl (fun _ => rfl) (fun _ hu45 => ?_)
          refine g_istore hX (j := 7) [(7, .int (oI (rdN tx n (nof (oI (letO tx n p))) (p + 1) Nv).1)), (6, .int (oI (letO tx n p))), (0, .ref (a 0)), (1, .ref (b 0)), (2, .int (nI n)), (3, .ref (d 0)), (4, .int (nI p)), (5, .int (nI i))] dX3_read_48 (by rw [hnL]; rfl) rfl ?_
          refine g_iload hX dX3_read_50 0 rfl ?_
          refine g_bipush hX ((-4)) dX3_read_52 rfl ?_
          refine g_icmp_eq hX 67 dX3_read_54 (by decide) (fun c54 => ?_) (fun c54 => ?_)
          · replace c54 := (oI_n (fun t ht => by have := ((rdN_ok hNv).2 t ht).1; omega)).mp c54
            refine g_iload hX dX3_read_67 6 rfl ?_
            exact g_eq (by rw [he, show 200 - i = (200 - (i + 1)) + 1 by omega, rdA_none (by omega) c54] <;> rfl) rfl (congrArg (fun z => [Value.int z]) (by rw [he, show 200 - i = (200 - (i + 1)) + 1 by omega, rdA_none (by omega) c54] <;> rfl)) (hret () _ _ trivial dX3_read_69)
          · replace c54 := mt (oI_n (fun t ht => by have := ((rdN_ok hNv).2 t ht).1; omega)).mpr c54
            obtain ⟨p7, hp7⟩ : ∃ z, (rdN tx n (nof (oI (letO tx n p))) (p + 1) Nv).1 = some z := by cases hm : (rdN tx n (nof (oI (letO tx n p))) (p + 1) Nv).1 with | none => exact absurd hm c54 | some z => exact ⟨z, rfl⟩
            rw [show oI (rdN tx n (nof (oI (letO tx n p))) (p + 1) Nv).1 = nI p7 from by rw [hp7]; rfl]
            obtain ⟨hpn, hpp, -⟩ := (rdN_ok (tx := tx) (n := n) (due := nof (oI (letO tx n p))) (at_ := p + 1) hNv).2 p7 hp7
            refine g_aload_n hX dX3_read_57 2 rfl ?_
            refine g_iload hX dX3_read_58 1 rfl ?_
            refine g_aload_n hX dX3_read_60 5 rfl ?_
            have hc61 : CUT ((rw_ E a ((rdN tx n (nof (oI (letO tx n p))) (p + 1) Nv).2) ++ (tw E b cap tx ++ (fw E d D)))) ((rw_ E a ((rdN tx n (nof (oI (letO tx n p))) (p + 1) Nv).2)) ++ (fw E d D)) (tw E b cap tx) [0, 1, 3, 4, 5, 6, 7, 8, 9] [2] := ⟨rfl, rfl, rfl, rfl, rfl⟩
            refine g_VI hX hc61 [.int (oI (letO tx n p)), .ref (d 0)] [] (c_X3_putItem l E a ((rdN tx n (nof (oI (letO tx n p))) (p + 1) Nv).2) (oI (letO tx n p)) d D hD ((rdN_ok hNv).1)) gX3_read_X3_putItem calX3_putItem rfl rfl rfl rfl 0 rfl rfl rfl rfl dX3_read_61 rfl ⟨Nat.zero_le _, Nat.zero_le _⟩ (fun _ => (rw_ E a ((rdN tx n (nof (oI (letO tx n p))) (p + 1) Nv).2) ++ (tw E b cap tx ++ (fw E d ((putO (oI (letO tx n p)) ((rdN tx n (nof (oI (letO tx n p))) (p + 1) Nv).2) D).2))))) [1, 2, 0, 3, 4, 5, 6, 7, 8, 9] rfl (fun _ => rfl) (fun _ hu61 => ?_)
            refine g_if_ne hX 70 dX3_read_64 (by decide) (fun c64 => ?_) (fun c64 => ?_)
            · replace c64 := mt bI_0.mpr c64
              replace c64 := bNf c64
              refine g_iload hX dX3_read_70 0 rfl ?_
              refine g_istore hX (j := 4) [(4, .int (nI p7)), (7, .int (nI p7)), (6, .int (oI (letO tx n p))), (0, .ref (a 0)), (1, .ref (b 0)), (2, .int (nI n)), (3, .ref (d 0)), (5, .int (nI i))] dX3_read_72 (by rw [hnL]; rfl) rfl ?_
              refine g_iinc hX (j := 5) (nI (i + 1)) [(5, .int (nI (i + 1))), (4, .int (nI p7)), (7, .int (nI p7)), (6, .int (oI (letO tx n p))), (0, .ref (a 0)), (1, .ref (b 0)), (2, .int (nI n)), (3, .ref (d 0))] dX3_read_74 7 rfl (iinc_n _ _) (by rw [hnL]; rfl) rfl ?_
              refine g_goto hX 10 dX3_read_77 (by decide) ?_
              exact g_lv _ [4, 5, 6, 7, 1, 0] rfl (ih10 (i + 1) p7 ((rdN tx n (nof (oI (letO tx n p))) (p + 1) Nv).2) ((putO (oI (letO tx n p)) ((rdN tx n (nof (oI (letO tx n p))) (p + 1) Nv).2) D).2) (by omega) (by omega) hpn ((rdN_ok hNv).1) (FO_putO hD (rdN_ok hNv).1) (by rw [he, show 200 - i = (200 - (i + 1)) + 1 by omega, rdA_ok (by omega) hp7 c64]))
            · replace c64 := bI_0.mp c64
              refine g_iload hX dX3_read_67 6 rfl ?_
              exact g_eq (by rw [he, show 200 - i = (200 - (i + 1)) + 1 by omega, rdA_bad (by omega) hp7 c64] <;> rfl) rfl (congrArg (fun z => [Value.int z]) (by rw [he, show 200 - i = (200 - (i + 1)) + 1 by omega, rdA_bad (by omega) hp7 c64] <;> rfl)) (hret () _ _ trivial dX3_read_69)
  exact g_lv _ [2, 3, 4, 5, 1, 0] rfl (lp10 _ 0 0 R (emC C) (Nat.lt_succ_self _) (Nat.zero_le _) (Nat.zero_le _) hq (FO_emC C) rfl)
