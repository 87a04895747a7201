set_option maxHeartbeats 4000000 in
set_option maxRecDepth 100000 in
theorem c_X6_pairsFrom (l : Launch) (E : EV) (a : Nat → Nat) (M : MV) (C : FC) (all : Nat) (set : Nat) (s : Nat) (hC : SO C) (hO : RB C (mO M)) (hS : RB C (mS M)) (hall : all < 512) (hset : set < 512) (hs : s < cN C) (hsub : andn set all = 0) (hb : (andn all set).testBit s = true) (hlow : ∀ i, i < s → (andn all set).testBit i = false) (hP : PA C all set (mZ M)) : KI l yX6_pairsFrom wsX6_pairsFrom (rmN 4) E (σ := Unit) [.ref (a 0), .int (nI all), .int (nI set), .int (nI s)] (mw E a M) (fun _ => True) (fun _ => (nI (mpF C (cN C) (andn all set) 0))) (fun _ => mw E a M) 0 0 := by
  refine KI.of (cc := cX6_pairsFrom) (maxL := 8) (ty := .int) (hnar := fun _ _ => rfl) rfl rfl rfl (fun x hX hin hret hnL => ?_)
  replace hX : CX x l cX6_pairsFrom RX6 wsX6_pairsFrom E (rmN 4) := hX
  show GG x 0 0 (mw E a M) 0 [(0, .ref (a 0)), (1, .int (nI all)), (2, .int (nI set)), (3, .int (nI s))] []
  have inRX6 : ∀ w ∈ wsX60, w ∈ wsX6_pairsFrom := by decide +kernel
  have fl37 : Cond.fieldLink RX6 37 "LieForceModel" "pairs" "[I" ∈ wsX6_pairsFrom := by decide +kernel
  have fl7 : Cond.fieldLink RX6 7 "LieForceModel" "st" "[I" ∈ wsX6_pairsFrom := by decide +kernel
  obtain ⟨⟨h9, h64, h512, hT, hI⟩, hK⟩ := id hC
  have hx1 : set ||| 1 <<< s < 512 := or_bit_lt (m := 9) hset (by omega)
  have hfr : andn all set < 512 := andn_lt (n := 9) _ hall (by decide)
  have hp1 := pa_1 hP hall hset h9 hs hsub hb hlow
  have hl1 := mpF_le C (cN C - (s + 1)) (andn all set) (s + 1)
  refine g_aload_n hX dX6_pairsFrom_0 0 rfl ?_
  refine g_get hX (v := .ref (a 10)) 0 inRX6 rfl rfl 18 rfl fl37 rfl rfl dX6_pairsFrom_1 ?_
  refine g_iload_n hX dX6_pairsFrom_4 2 rfl ?_
  refine g_iconst hX (nI 1) dX6_pairsFrom_5 rfl ?_
  refine g_iload_n hX dX6_pairsFrom_6 3 rfl ?_
  refine g_ishl hX (nI (1 <<< s)) dX6_pairsFrom_7 (sh_l _ (by omega)) ?_
  refine g_ior hX (nI (set ||| (1 <<< s))) dX6_pairsFrom_8 (fa_or _ _) ?_
  refine g_iald hX (nI (mZ M (set ||| (1 <<< s)))) 10 0 rfl rfl (vp_in_nI (by omega) (by omega)) (ald_n (g := fun zz => nI (mZ M zz)) (i := set ||| (1 <<< s)) (by omega)) dX6_pairsFrom_9 ?_
  refine g_eq (st' := [.int (nI (mpF C (cN C - (s + 1)) (andn all set) (s + 1)))]) rfl rfl (congrArg (fun z => Value.int z :: ([] : List Value)) (congrArg nI hp1)) ?_
  refine g_istore hX (j := 4) [(4, .int (nI (mpF C (cN C - (s + 1)) (andn all set) (s + 1)))), (0, .ref (a 0)), (1, .int (nI all)), (2, .int (nI set)), (3, .int (nI s))] dX6_pairsFrom_10 (by rw [hnL]; rfl) rfl ?_
  refine g_iload_n hX dX6_pairsFrom_12 4 rfl ?_
  refine g_iconst hX (nI 1) dX6_pairsFrom_13 rfl ?_
  refine g_iadd hX (nI (s + 1)) dX6_pairsFrom_14 (nI_add _ _) ?_
  refine g_istore hX (j := 5) [(5, .int (nI (s + 1))), (4, .int (nI (mpF C (cN C - (s + 1)) (andn all set) (s + 1)))), (0, .ref (a 0)), (1, .int (nI all)), (2, .int (nI set)), (3, .int (nI s))] dX6_pairsFrom_15 (by rw [hnL]; rfl) rfl ?_
  have lp17 : ∀ (fuel : Nat) (t : Nat) (most : Nat), cN C - t < fuel → (t ≤ cN C) → (s < t) → (most ≤ 9) → (mpF C (cN C) (andn all set) 0 = mxF (fun t => (andn all set).testBit t && mmB C s t) (fun t => 1 + mpF C (cN C - (s + 1)) (andn (andn all set) (1 <<< t)) (s + 1)) most t (cN C - t)) → GG x 0 0 (mw E a M) 17 [(0, .ref (a 0)), (1, .int (nI all)), (2, .int (nI set)), (3, .int (nI s)), (4, .int (nI most)), (5, .int (nI t))] [] := by
    intro fuel
    induction fuel with
    | zero => intro t most hm; exact absurd hm (Nat.not_lt_zero _)
    | succ fuel ih17 =>
      intro t most hm17 ht hst2 hmo he
      refine g_iload hX dX6_pairsFrom_17 5 rfl ?_
      refine g_aload_n hX dX6_pairsFrom_19 0 rfl ?_
      refine g_get hX (v := .ref (a 1)) 0 inRX6 rfl rfl 1 rfl fl7 rfl rfl dX6_pairsFrom_20 ?_
      refine g_iconst hX (nI 2) dX6_pairsFrom_23 rfl ?_
      refine g_iald hX (nI (cN C)) 1 0 rfl rfl (vp_in_nI (by omega) (by omega)) ((ald_n (g := fun zz => (mS M) zz) (i := 2) (by omega)).trans (RB_N hS)) dX6_pairsFrom_24 ?_
      refine g_icmp_ge hX 136 dX6_pairsFrom_25 (by decide) (fun c25 => ?_) (fun c25 => ?_)
      · replace c25 := (nI_leI (by omega) (by omega)).mp c25
        refine g_iload hX dX6_pairsFrom_136 4 rfl ?_
        exact g_eq rfl rfl (congrArg (fun z => [Value.int z]) (congrArg nI (by rw [he, show cN C - t = 0 by omega]; rfl))) (hret () _ _ trivial dX6_pairsFrom_138)
      · replace c25 := mt (nI_leI (by omega) (by omega)).mpr c25
        refine g_iload_n hX dX6_pairsFrom_28 1 rfl ?_
        refine g_iload_n hX dX6_pairsFrom_29 2 rfl ?_
        refine g_iconst hX ((-1)) dX6_pairsFrom_30 rfl ?_
        refine g_ixor hX (nI set ^^^ (-1)) dX6_pairsFrom_31 rfl ?_
        refine g_iand hX (nI (andn all set)) dX6_pairsFrom_32 (and_not (by omega)) ?_
        refine g_iload hX dX6_pairsFrom_33 5 rfl ?_
        have hc35 : CUT (mw E a M) (([] : va_W)) (mw E a M) [] [0, 1, 2, 3, 4, 5, 6, 7, 8, 9, 10, 11, 12] := ⟨rfl, rfl, rfl, rfl, rfl⟩
        refine g_TI hX hc35 [.int (nI (andn all set)), .int (nI t)] [] (c_X6_has l E (andn all set) t (by first | assumption | omega) (by first | assumption | omega)) gX6_pairsFrom_X6_has calX6_has rfl rfl rfl rfl dX6_pairsFrom_35 rfl ⟨Nat.zero_le _, Nat.zero_le _⟩ (fun _ => mw E a M) [0, 1, 2, 3, 4, 5, 6, 7, 8, 9, 10, 11, 12] rfl (fun _ => rfl) (fun _ hu35 => ?_)
        refine g_if_eq hX 83 dX6_pairsFrom_38 (by decide) (fun c38 => ?_) (fun c38 => ?_)
        · replace c38 := bI_0.mp c38
          refine g_iconst hX (nI 0) dX6_pairsFrom_83 rfl ?_
          refine g_istore hX (j := 6) [(6, .int (nI 0)), (0, .ref (a 0)), (1, .int (nI all)), (2, .int (nI set)), (3, .int (nI s)), (4, .int (nI most)), (5, .int (nI t))] dX6_pairsFrom_84 (by rw [hnL]; rfl) rfl ?_
          refine g_iload hX dX6_pairsFrom_86 0 rfl ?_
          refine g_if_eq hX 111 dX6_pairsFrom_88 (by decide) (fun c88 => ?_) (fun c88 => ?_)
          · replace c88 := (nz_eq (by omega)).mp c88
            have hq : (fun t => (andn all set).testBit t && mmB C s t) t = false := by simp [mmB, c38]
            refine g_iconst hX (nI 0) dX6_pairsFrom_111 rfl ?_
            refine g_istore hX (j := 7) [(7, .int (nI 0)), (6, .int (nI 0)), (0, .ref (a 0)), (1, .int (nI all)), (2, .int (nI set)), (3, .int (nI s)), (4, .int (nI most)), (5, .int (nI t))] dX6_pairsFrom_112 (by rw [hnL]; rfl) rfl ?_
            refine g_iload hX dX6_pairsFrom_114 0 rfl ?_
            refine g_iload hX dX6_pairsFrom_116 6 rfl ?_
            refine g_icmp_le hX 126 dX6_pairsFrom_118 (by decide) (fun c118 => ?_) (fun c118 => ?_)
            · replace c118 := (nI_leI (by omega) (by omega)).mp c118
              refine g_iload hX dX6_pairsFrom_126 6 rfl ?_
              refine g_istore hX (j := 4) [(4, .int (nI most)), (7, .int (nI 0)), (6, .int (nI 0)), (0, .ref (a 0)), (1, .int (nI all)), (2, .int (nI set)), (3, .int (nI s)), (5, .int (nI t))] dX6_pairsFrom_128 (by rw [hnL]; rfl) rfl ?_
              refine g_iinc hX (j := 5) (nI (t + 1)) [(5, .int (nI (t + 1))), (4, .int (nI most)), (7, .int (nI 0)), (6, .int (nI 0)), (0, .ref (a 0)), (1, .int (nI all)), (2, .int (nI set)), (3, .int (nI s))] dX6_pairsFrom_130 7 rfl (iinc_n _ _) (by rw [hnL]; rfl) rfl ?_
              refine g_goto hX 17 dX6_pairsFrom_133 (by decide) ?_
              exact g_lv _ [4, 5, 6, 7, 1, 0] rfl (ih17 (t + 1) most (by omega) (by omega) (by omega) (by omega) (by rw [he]; first | exact absurd (Nat.zero_le _) c118 | exact mxF_no (by omega) hq | (rw [mxF_yes (by omega) hq, Nat.max_eq_left c118]) | (rw [mxF_yes (by omega) hq, Nat.max_eq_right (Nat.le_of_lt (Nat.lt_of_not_le c118))])))
            · replace c118 := mt (nI_leI (by omega) (by omega)).mpr c118
              refine g_iload hX dX6_pairsFrom_121 0 rfl ?_
              refine g_goto hX 128 dX6_pairsFrom_123 (by decide) ?_
              refine g_istore hX (j := 4) [(4, .int (nI 0)), (7, .int (nI 0)), (6, .int (nI 0)), (0, .ref (a 0)), (1, .int (nI all)), (2, .int (nI set)), (3, .int (nI s)), (5, .int (nI t))] dX6_pairsFrom_128 (by rw [hnL]; rfl) rfl ?_
              refine g_iinc hX (j := 5) (nI (t + 1)) [(5, .int (nI (t + 1))), (4, .int (nI 0)), (7, .int (nI 0)), (6, .int (nI 0)), (0, .ref (a 0)), (1, .int (nI all)), (2, .int (nI set)), (3, .int (nI s))] dX6_pairsFrom_130 7 rfl (iinc_n _ _) (by rw [hnL]; rfl) rfl ?_
              refine g_goto hX 17 dX6_pairsFrom_133 (by decide) ?_
              exact g_lv _ [4, 5, 6, 7, 1, 0] rfl (ih17 (t + 1) 0 (by omega) (by omega) (by omega) (by omega) (by rw [he]; first | exact absurd (Nat.zero_le _) c118 | exact mxF_no (by omega) hq | (rw [mxF_yes (by omega) hq, Nat.max_eq_left c118]) | (rw [mxF_yes (by omega) hq, Nat.max_eq_right (Nat.le_of_lt (Nat.lt_of_not_le c118))])))
          · replace c88 := mt (nz_eq (by omega)).mpr c88
            exact absurd c88 (by simp)
        · replace c38 := mt bI_0.mpr c38
          replace c38 := bNf c38
          have hq1 := (hI s hs).1
          have hq2 := (hI t (by omega)).1
          refine g_aload_n hX dX6_pairsFrom_41 0 rfl ?_
          refine g_get hX (v := .ref (a 1)) 0 inRX6 rfl rfl 1 rfl fl7 rfl rfl dX6_pairsFrom_42 ?_
          refine g_iconst hX (nI 4) dX6_pairsFrom_45 rfl ?_
          refine g_iconst hX (nI 4) dX6_pairsFrom_46 rfl ?_
          refine g_iload_n hX dX6_pairsFrom_47 3 rfl ?_
          refine g_imul hX (nI (4 * s)) dX6_pairsFrom_48 (pk_mul _ _) ?_
          refine g_iadd hX (nI (4 + (4 * s))) dX6_pairsFrom_49 (nI_add _ _) ?_
          refine g_iconst hX (nI 3) dX6_pairsFrom_50 rfl ?_
          refine g_iadd hX (nI ((4 + (4 * s)) + 3)) dX6_pairsFrom_51 (nI_add _ _) ?_
          refine g_iald hX (nI (cP C s)) 1 0 rfl rfl (vp_in_nI (by omega) (by omega)) ((ald_n (g := fun zz => (mS M) zz) (i := (4 + (4 * s)) + 3) (by omega)).trans (RB_P hS (by omega))) dX6_pairsFrom_52 ?_
          refine g_aload_n hX dX6_pairsFrom_53 0 rfl ?_
          refine g_get hX (v := .ref (a 1)) 0 inRX6 rfl rfl 1 rfl fl7 rfl rfl dX6_pairsFrom_54 ?_
          refine g_iconst hX (nI 4) dX6_pairsFrom_57 rfl ?_
          refine g_iconst hX (nI 4) dX6_pairsFrom_58 rfl ?_
          refine g_iload hX dX6_pairsFrom_59 5 rfl ?_
          refine g_imul hX (nI (4 * t)) dX6_pairsFrom_61 (pk_mul _ _) ?_
          refine g_iadd hX (nI (4 + (4 * t))) dX6_pairsFrom_62 (nI_add _ _) ?_
          refine g_iconst hX (nI 3) dX6_pairsFrom_63 rfl ?_
          refine g_iadd hX (nI ((4 + (4 * t)) + 3)) dX6_pairsFrom_64 (nI_add _ _) ?_
          refine g_iald hX (nI (cP C t)) 1 0 rfl rfl (vp_in_nI (by omega) (by omega)) ((ald_n (g := fun zz => (mS M) zz) (i := (4 + (4 * t)) + 3) (by omega)).trans (RB_P hS (by omega))) dX6_pairsFrom_65 ?_
          refine g_icmp_eq hX 83 dX6_pairsFrom_66 (by decide) (fun c66 => ?_) (fun c66 => ?_)
          · replace c66 := (nI_eq (by omega) (by omega)).mp c66
            refine g_iconst hX (nI 0) dX6_pairsFrom_83 rfl ?_
            refine g_istore hX (j := 6) [(6, .int (nI 0)), (0, .ref (a 0)), (1, .int (nI all)), (2, .int (nI set)), (3, .int (nI s)), (4, .int (nI most)), (5, .int (nI t))] dX6_pairsFrom_84 (by rw [hnL]; rfl) rfl ?_
            refine g_iload hX dX6_pairsFrom_86 0 rfl ?_
            refine g_if_eq hX 111 dX6_pairsFrom_88 (by decide) (fun c88 => ?_) (fun c88 => ?_)
            · replace c88 := (nz_eq (by omega)).mp c88
              have hq : (fun t => (andn all set).testBit t && mmB C s t) t = false := by simp [mmB, c38, c66]
              refine g_iconst hX (nI 0) dX6_pairsFrom_111 rfl ?_
              refine g_istore hX (j := 7) [(7, .int (nI 0)), (6, .int (nI 0)), (0, .ref (a 0)), (1, .int (nI all)), (2, .int (nI set)), (3, .int (nI s)), (4, .int (nI most)), (5, .int (nI t))] dX6_pairsFrom_112 (by rw [hnL]; rfl) rfl ?_
              refine g_iload hX dX6_pairsFrom_114 0 rfl ?_
              refine g_iload hX dX6_pairsFrom_116 6 rfl ?_
              refine g_icmp_le hX 126 dX6_pairsFrom_118 (by decide) (fun c118 => ?_) (fun c118 => ?_)
              · replace c118 := (nI_leI (by omega) (by omega)).mp c118
                refine g_iload hX dX6_pairsFrom_126 6 rfl ?_
                refine g_istore hX (j := 4) [(4, .int (nI most)), (7, .int (nI 0)), (6, .int (nI 0)), (0, .ref (a 0)), (1, .int (nI all)), (2, .int (nI set)), (3, .int (nI s)), (5, .int (nI t))] dX6_pairsFrom_128 (by rw [hnL]; rfl) rfl ?_
                refine g_iinc hX (j := 5) (nI (t + 1)) [(5, .int (nI (t + 1))), (4, .int (nI most)), (7, .int (nI 0)), (6, .int (nI 0)), (0, .ref (a 0)), (1, .int (nI all)), (2, .int (nI set)), (3, .int (nI s))] dX6_pairsFrom_130 7 rfl (iinc_n _ _) (by rw [hnL]; rfl) rfl ?_
                refine g_goto hX 17 dX6_pairsFrom_133 (by decide) ?_
                exact g_lv _ [4, 5, 6, 7, 1, 0] rfl (ih17 (t + 1) most (by omega) (by omega) (by omega) (by omega) (by rw [he]; first | exact absurd (Nat.zero_le _) c118 | exact mxF_no (by omega) hq | (rw [mxF_yes (by omega) hq, Nat.max_eq_left c118]) | (rw [mxF_yes (by omega) hq, Nat.max_eq_right (Nat.le_of_lt (Nat.lt_of_not_le c118))])))
              · replace c118 := mt (nI_leI (by omega) (by omega)).mpr c118
                refine g_iload hX dX6_pairsFrom_121 0 rfl ?_
                refine g_goto hX 128 dX6_pairsFrom_123 (by decide) ?_
                refine g_istore hX (j := 4) [(4, .int (nI 0)), (7, .int (nI 0)), (6, .int (nI 0)), (0, .ref (a 0)), (1, .int (nI all)), (2, .int (nI set)), (3, .int (nI s)), (5, .int (nI t))] dX6_pairsFrom_128 (by rw [hnL]; rfl) rfl ?_
                refine g_iinc hX (j := 5) (nI (t + 1)) [(5, .int (nI (t + 1))), (4, .int (nI 0)), (7, .int (nI 0)), (6, .int (nI 0)), (0, .ref (a 0)), (1, .int (nI all)), (2, .int (nI set)), (3, .int (nI s))] dX6_pairsFrom_130 7 rfl (iinc_n _ _) (by rw [hnL]; rfl) rfl ?_
                refine g_goto hX 17 dX6_pairsFrom_133 (by decide) ?_
                exact g_lv _ [4, 5, 6, 7, 1, 0] rfl (ih17 (t + 1) 0 (by omega) (by omega) (by omega) (by omega) (by rw [he]; first | exact absurd (Nat.zero_le _) c118 | exact mxF_no (by omega) hq | (rw [mxF_yes (by omega) hq, Nat.max_eq_left c118]) | (rw [mxF_yes (by omega) hq, Nat.max_eq_right (Nat.le_of_lt (Nat.lt_of_not_le c118))])))
            · replace c88 := mt (nz_eq (by omega)).mpr c88
              exact absurd c88 (by simp)
          · replace c66 := mt (nI_eq (by omega) (by omega)).mpr c66
            refine g_aload_n hX dX6_pairsFrom_69 0 rfl ?_
            refine g_iload_n hX dX6_pairsFrom_70 3 rfl ?_
            refine g_iload hX dX6_pairsFrom_71 5 rfl ?_
            have hc73 : CUT (mw E a M) (mw E a M) (([] : va_W)) [0, 1, 2, 3, 4, 5, 6, 7, 8, 9, 10, 11, 12] [] := ⟨rfl, rfl, rfl, rfl, rfl⟩
            refine g_VI hX hc73 [.int (nI s), .int (nI t)] [] (c_X6_doClash l E a M C s t (by first | assumption | omega) (by first | assumption | omega) hs (by omega)) gX6_pairsFrom_X6_doClash calX6_doClash rfl rfl rfl rfl 0 rfl rfl rfl rfl dX6_pairsFrom_73 rfl ⟨Nat.zero_le _, Nat.zero_le _⟩ (fun _ => mw E a M) [0, 1, 2, 3, 4, 5, 6, 7, 8, 9, 10, 11, 12] rfl (fun _ => rfl) (fun _ hu73 => ?_)
            refine g_if_ne hX 83 dX6_pairsFrom_76 (by decide) (fun c76 => ?_) (fun c76 => ?_)
            · replace c76 := mt bI_0.mpr c76
              replace c76 := bNf c76
              refine g_iconst hX (nI 0) dX6_pairsFrom_83 rfl ?_
              refine g_istore hX (j := 6) [(6, .int (nI 0)), (0, .ref (a 0)), (1, .int (nI all)), (2, .int (nI set)), (3, .int (nI s)), (4, .int (nI most)), (5, .int (nI t))] dX6_pairsFrom_84 (by rw [hnL]; rfl) rfl ?_
              refine g_iload hX dX6_pairsFrom_86 0 rfl ?_
              refine g_if_eq hX 111 dX6_pairsFrom_88 (by decide) (fun c88 => ?_) (fun c88 => ?_)
              · replace c88 := (nz_eq (by omega)).mp c88
                have hq : (fun t => (andn all set).testBit t && mmB C s t) t = false := by simp [mmB, c38, c66, c76]
                refine g_iconst hX (nI 0) dX6_pairsFrom_111 rfl ?_
                refine g_istore hX (j := 7) [(7, .int (nI 0)), (6, .int (nI 0)), (0, .ref (a 0)), (1, .int (nI all)), (2, .int (nI set)), (3, .int (nI s)), (4, .int (nI most)), (5, .int (nI t))] dX6_pairsFrom_112 (by rw [hnL]; rfl) rfl ?_
                refine g_iload hX dX6_pairsFrom_114 0 rfl ?_
                refine g_iload hX dX6_pairsFrom_116 6 rfl ?_
                refine g_icmp_le hX 126 dX6_pairsFrom_118 (by decide) (fun c118 => ?_) (fun c118 => ?_)
                · replace c118 := (nI_leI (by omega) (by omega)).mp c118
                  refine g_iload hX dX6_pairsFrom_126 6 rfl ?_
                  refine g_istore hX (j := 4) [(4, .int (nI most)), (7, .int (nI 0)), (6, .int (nI 0)), (0, .ref (a 0)), (1, .int (nI all)), (2, .int (nI set)), (3, .int (nI s)), (5, .int (nI t))] dX6_pairsFrom_128 (by rw [hnL]; rfl) rfl ?_
                  refine g_iinc hX (j := 5) (nI (t + 1)) [(5, .int (nI (t + 1))), (4, .int (nI most)), (7, .int (nI 0)), (6, .int (nI 0)), (0, .ref (a 0)), (1, .int (nI all)), (2, .int (nI set)), (3, .int (nI s))] dX6_pairsFrom_130 7 rfl (iinc_n _ _) (by rw [hnL]; rfl) rfl ?_
                  refine g_goto hX 17 dX6_pairsFrom_133 (by decide) ?_
                  exact g_lv _ [4, 5, 6, 7, 1, 0] rfl (ih17 (t + 1) most (by omega) (by omega) (by omega) (by omega) (by rw [he]; first | exact absurd (Nat.zero_le _) c118 | exact mxF_no (by omega) hq | (rw [mxF_yes (by omega) hq, Nat.max_eq_left c118]) | (rw [mxF_yes (by omega) hq, Nat.max_eq_right (Nat.le_of_lt (Nat.lt_of_not_le c118))])))
                · replace c118 := mt (nI_leI (by omega) (by omega)).mpr c118
                  refine g_iload hX dX6_pairsFrom_121 0 rfl ?_
                  refine g_goto hX 128 dX6_pairsFrom_123 (by decide) ?_
                  refine g_istore hX (j := 4) [(4, .int (nI 0)), (7, .int (nI 0)), (6, .int (nI 0)), (0, .ref (a 0)), (1, .int (nI all)), (2, .int (nI set)), (3, .int (nI s)), (5, .int (nI t))] dX6_pairsFrom_128 (by rw [hnL]; rfl) rfl ?_
                  refine g_iinc hX (j := 5) (nI (t + 1)) [(5, .int (nI (t + 1))), (4, .int (nI 0)), (7, .int (nI 0)), (6, .int (nI 0)), (0, .ref (a 0)), (1, .int (nI all)), (2, .int (nI set)), (3, .int (nI s))] dX6_pairsFrom_130 7 rfl (iinc_n _ _) (by rw [hnL]; rfl) rfl ?_
                  refine g_goto hX 17 dX6_pairsFrom_133 (by decide) ?_
                  exact g_lv _ [4, 5, 6, 7, 1, 0] rfl (ih17 (t + 1) 0 (by omega) (by omega) (by omega) (by omega) (by rw [he]; first | exact absurd (Nat.zero_le _) c118 | exact mxF_no (by omega) hq | (rw [mxF_yes (by omega) hq, Nat.max_eq_left c118]) | (rw [mxF_yes (by omega) hq, Nat.max_eq_right (Nat.le_of_lt (Nat.lt_of_not_le c118))])))
              · replace c88 := mt (nz_eq (by omega)).mpr c88
                exact absurd c88 (by simp)
            · replace c76 := bI_0.mp c76
              refine g_iconst hX (nI 1) dX6_pairsFrom_79 rfl ?_
              refine g_goto hX 84 dX6_pairsFrom_80 (by decide) ?_
              refine g_istore hX (j := 6) [(6, .int (nI 1)), (0, .ref (a 0)), (1, .int (nI all)), (2, .int (nI set)), (3, .int (nI s)), (4, .int (nI most)), (5, .int (nI t))] dX6_pairsFrom_84 (by rw [hnL]; rfl) rfl ?_
              refine g_iload hX dX6_pairsFrom_86 0 rfl ?_
              refine g_if_eq hX 111 dX6_pairsFrom_88 (by decide) (fun c88 => ?_) (fun c88 => ?_)
              · replace c88 := (nz_eq (by omega)).mp c88
                exact absurd c88 (by simp)
              · replace c88 := mt (nz_eq (by omega)).mpr c88
                have hp2 := pa_2 hP hall hset h9 hs hst2 (by omega) hsub hb c38 hlow
                have hx2 : set ||| 1 <<< s ||| 1 <<< t < 512 := or_bit_lt (m := 9) hx1 (by omega)
                have hl2 := mpF_le C (cN C - (s + 1)) (andn (andn all set) (1 <<< t)) (s + 1)
                have hq : (fun t => (andn all set).testBit t && mmB C s t) t = true := by simp [mmB, *]
                refine g_iconst hX (nI 1) dX6_pairsFrom_91 rfl ?_
                refine g_aload_n hX dX6_pairsFrom_92 1 rfl ?_
                refine g_get hX (v := .ref (a 10)) 0 inRX6 rfl rfl 18 rfl fl37 rfl rfl dX6_pairsFrom_93 ?_
                refine g_iload_n hX dX6_pairsFrom_96 3 rfl ?_
                refine g_iconst hX (nI 1) dX6_pairsFrom_97 rfl ?_
                refine g_iload_n hX dX6_pairsFrom_98 4 rfl ?_
                refine g_ishl hX (nI (1 <<< s)) dX6_pairsFrom_99 (sh_l _ (by omega)) ?_
                refine g_ior hX (nI (set ||| (1 <<< s))) dX6_pairsFrom_100 (fa_or _ _) ?_
                refine g_iconst hX (nI 1) dX6_pairsFrom_101 rfl ?_
                refine g_iload hX dX6_pairsFrom_102 6 rfl ?_
                refine g_ishl hX (nI (1 <<< t)) dX6_pairsFrom_104 (sh_l _ (by omega)) ?_
                refine g_ior hX (nI ((set ||| (1 <<< s)) ||| (1 <<< t))) dX6_pairsFrom_105 (fa_or _ _) ?_
                refine g_iald hX (nI (mZ M ((set ||| (1 <<< s)) ||| (1 <<< t)))) 10 0 rfl rfl (vp_in_nI (by omega) (by omega)) (ald_n (g := fun zz => nI (mZ M zz)) (i := (set ||| (1 <<< s)) ||| (1 <<< t)) (by omega)) dX6_pairsFrom_106 ?_
                refine g_eq (st' := [.int (nI (mpF C (cN C - (s + 1)) (andn (andn all set) (1 <<< t)) (s + 1))), .int (nI 1)]) rfl rfl (congrArg (fun z => Value.int z :: ([.int (nI 1)] : List Value)) (congrArg nI hp2)) ?_
                refine g_iadd hX (nI (1 + (mpF C (cN C - (s + 1)) (andn (andn all set) (1 <<< t)) (s + 1)))) dX6_pairsFrom_107 (nI_add _ _) ?_
                refine g_goto hX 112 dX6_pairsFrom_108 (by decide) ?_
                refine g_istore hX (j := 7) [(7, .int (nI (1 + (mpF C (cN C - (s + 1)) (andn (andn all set) (1 <<< t)) (s + 1))))), (6, .int (nI 1)), (0, .ref (a 0)), (1, .int (nI all)), (2, .int (nI set)), (3, .int (nI s)), (4, .int (nI most)), (5, .int (nI t))] dX6_pairsFrom_112 (by rw [hnL]; rfl) rfl ?_
                refine g_iload hX dX6_pairsFrom_114 0 rfl ?_
                refine g_iload hX dX6_pairsFrom_116 6 rfl ?_
                refine g_icmp_le hX 126 dX6_pairsFrom_118 (by decide) (fun c118 => ?_) (fun c118 => ?_)
                · replace c118 := (nI_leI (by omega) (by omega)).mp c118
                  refine g_iload hX dX6_pairsFrom_126 6 rfl ?_
                  refine g_istore hX (j := 4) [(4, .int (nI most)), (7, .int (nI (1 + (mpF C (cN C - (s + 1)) (andn (andn all set) (1 <<< t)) (s + 1))))), (6, .int (nI 1)), (0, .ref (a 0)), (1, .int (nI all)), (2, .int (nI set)), (3, .int (nI s)), (5, .int (nI t))] dX6_pairsFrom_128 (by rw [hnL]; rfl) rfl ?_
                  refine g_iinc hX (j := 5) (nI (t + 1)) [(5, .int (nI (t + 1))), (4, .int (nI most)), (7, .int (nI (1 + (mpF C (cN C - (s + 1)) (andn (andn all set) (1 <<< t)) (s + 1))))), (6, .int (nI 1)), (0, .ref (a 0)), (1, .int (nI all)), (2, .int (nI set)), (3, .int (nI s))] dX6_pairsFrom_130 7 rfl (iinc_n _ _) (by rw [hnL]; rfl) rfl ?_
                  refine g_goto hX 17 dX6_pairsFrom_133 (by decide) ?_
                  exact g_lv _ [4, 5, 6, 7, 1, 0] rfl (ih17 (t + 1) most (by omega) (by omega) (by omega) (by omega) (by rw [he]; first | exact absurd (Nat.zero_le _) c118 | exact mxF_no (by omega) hq | (rw [mxF_yes (by omega) hq, Nat.max_eq_left c118]) | (rw [mxF_yes (by omega) hq, Nat.max_eq_right (Nat.le_of_lt (Nat.lt_of_not_le c118))])))
                · replace c118 := mt (nI_leI (by omega) (by omega)).mpr c118
                  refine g_iload hX dX6_pairsFrom_121 0 rfl ?_
                  refine g_goto hX 128 dX6_pairsFrom_123 (by decide) ?_
                  refine g_istore hX (j := 4) [(4, .int (nI (1 + (mpF C (cN C - (s + 1)) (andn (andn all set) (1 <<< t)) (s + 1))))), (7, .int (nI (1 + (mpF C (cN C - (s + 1)) (andn (andn all set) (1 <<< t)) (s + 1))))), (6, .int (nI 1)), (0, .ref (a 0)), (1, .int (nI all)), (2, .int (nI set)), (3, .int (nI s)), (5, .int (nI t))] dX6_pairsFrom_128 (by rw [hnL]; rfl) rfl ?_
                  refine g_iinc hX (j := 5) (nI (t + 1)) [(5, .int (nI (t + 1))), (4, .int (nI (1 + (mpF C (cN C - (s + 1)) (andn (andn all set) (1 <<< t)) (s + 1))))), (7, .int (nI (1 + (mpF C (cN C - (s + 1)) (andn (andn all set) (1 <<< t)) (s + 1))))), (6, .int (nI 1)), (0, .ref (a 0)), (1, .int (nI all)), (2, .int (nI set)), (3, .int (nI s))] dX6_pairsFrom_130 7 rfl (iinc_n _ _) (by rw [hnL]; rfl) rfl ?_
                  refine g_goto hX 17 dX6_pairsFrom_133 (by decide) ?_
                  exact g_lv _ [4, 5, 6, 7, 1, 0] rfl (ih17 (t + 1) (1 + (mpF C (cN C - (s + 1)) (andn (andn all set) (1 <<< t)) (s + 1))) (by omega) (by omega) (by omega) (by omega) (by rw [he]; first | exact absurd (Nat.zero_le _) c118 | exact mxF_no (by omega) hq | (rw [mxF_yes (by omega) hq, Nat.max_eq_left c118]) | (rw [mxF_yes (by omega) hq, Nat.max_eq_right (Nat.le_of_lt (Nat.lt_of_not_le c118))])))
  exact g_lv _ [2, 3, 4, 5, 1, 0] rfl (lp17 _ (s + 1) (mpF C (cN C - (s + 1)) (andn all set) (s + 1)) (Nat.lt_succ_self _) (by omega) (Nat.lt_succ_self _) (by omega) (mp_0 hs hb hlow))
