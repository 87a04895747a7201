set_option maxHeartbeats 4000000 in
set_option maxRecDepth 100000 in
theorem c_X6_isWorld (l : Launch) (E : EV) (a : Nat → Nat) (M : MV) (C : FC) (S : SC) (w : Nat) (hC : SO C) (hO : RB C (mO M)) (hE : ES M S) (hw : w < 64) : KI l yX6_isWorld wsX6_isWorld (rmN 4) E (σ := Unit) [.ref (a 0), .int (nI w)] (mw E a M) (fun _ => True) (fun _ => (bI (woB C S w))) (fun _ => mw E a M) 0 0 := by
  refine KI.of (cc := cX6_isWorld) (maxL := 5) (ty := .boolean) (hnar := fun _ _ => nar_b _) rfl rfl rfl (fun x hX hin hret hnL => ?_)
  replace hX : CX x l cX6_isWorld RX6 wsX6_isWorld E (rmN 4) := hX
  show GG x 0 0 (mw E a M) 0 [(0, .ref (a 0)), (1, .int (nI w))] []
  have inRX6 : ∀ w ∈ wsX60, w ∈ wsX6_isWorld := by decide +kernel
  have fl121 : Cond.fieldLink RX6 121 "LieForceModel" "sees" "I" ∈ wsX6_isWorld := by decide +kernel
  have fl19 : Cond.fieldLink RX6 19 "LieForceModel" "seen" "[I" ∈ wsX6_isWorld := by decide +kernel
  obtain ⟨⟨h9, h64, h512, hT, hI⟩, hK⟩ := id hC
  obtain ⟨hE1, hE6, hEs⟩ := id hE
  have hli := lieM_lt h9 w
  refine g_aload_n hX dX6_isWorld_0 0 rfl ?_
  refine g_iload_n hX dX6_isWorld_1 1 rfl ?_
  have hc2 : CUT (mw E a M) (mw E a M) (([] : va_W)) [0, 1, 2, 3, 4, 5, 6, 7, 8, 9, 10, 11, 12] [] := ⟨rfl, rfl, rfl, rfl, rfl⟩
  refine g_VI hX hc2 [.int (nI w)] [] (c_X6_policeIn l E a M C w (by first | assumption | omega) (by first | assumption | omega) (by omega)) gX6_isWorld_X6_policeIn calX6_policeIn rfl rfl rfl rfl 0 rfl rfl rfl rfl dX6_isWorld_2 rfl ⟨Nat.zero_le _, Nat.zero_le _⟩ (fun _ => mw E a M) [0, 1, 2, 3, 4, 5, 6, 7, 8, 9, 10, 11, 12] rfl (fun _ => rfl) (fun _ hu2 => ?_)
  refine g_istore_n hX (j := 2) [(2, .int (nI (lieM C w))), (0, .ref (a 0)), (1, .int (nI w))] dX6_isWorld_5 rfl (by rw [hnL]; rfl) rfl ?_
  refine g_iconst hX (nI 1) dX6_isWorld_6 rfl ?_
  refine g_istore_n hX (j := 3) [(3, .int (nI 1)), (2, .int (nI (lieM C w))), (0, .ref (a 0)), (1, .int (nI w))] dX6_isWorld_7 rfl (by rw [hnL]; rfl) rfl ?_
  refine g_iconst hX (nI 0) dX6_isWorld_8 rfl ?_
  refine g_istore hX (j := 4) [(4, .int (nI 0)), (3, .int (nI 1)), (2, .int (nI (lieM C w))), (0, .ref (a 0)), (1, .int (nI w))] dX6_isWorld_9 (by rw [hnL]; rfl) rfl ?_
  have lp11 : ∀ (fuel : Nat) (i : Nat) (acc : Bool), hN S - i < fuel → (i ≤ hN S) → (acc = isWo C S w i) → GG x 0 0 (mw E a M) 11 [(0, .ref (a 0)), (1, .int (nI w)), (2, .int (nI (lieM C w))), (3, .int (bI acc)), (4, .int (nI i))] [] := by
    intro fuel
    induction fuel with
    | zero => intro i acc hm; exact absurd hm (Nat.not_lt_zero _)
    | succ fuel ih11 =>
      intro i acc hm11 hi hacc
      refine g_iload hX dX6_isWorld_11 4 rfl ?_
      refine g_aload_n hX dX6_isWorld_13 0 rfl ?_
      refine g_get hX (v := .int (nI (mE M))) 0 inRX6 rfl rfl 6 rfl fl121 rfl rfl dX6_isWorld_14 ?_
      refine g_icmp_ge hX 72 dX6_isWorld_17 (by decide) (fun c17 => ?_) (fun c17 => ?_)
      · replace c17 := (nI_leI (by omega) (by omega)).mp c17
        refine g_iload_n hX dX6_isWorld_72 3 rfl ?_
        exact g_eq rfl rfl (congrArg (fun z => [Value.int z]) (congrArg bI (by rw [hacc, woB, show i = hN S by omega]))) (hret () _ _ trivial dX6_isWorld_73)
      · replace c17 := mt (nI_leI (by omega) (by omega)).mpr c17
        refine g_iload_n hX dX6_isWorld_20 3 rfl ?_
        refine g_if_eq hX 64 dX6_isWorld_21 (by decide) (fun c21 => ?_) (fun c21 => ?_)
        · replace c21 := bI_0.mp c21
          have hs1 : 0 = 0 := rfl
          refine g_iconst hX (nI 0) dX6_isWorld_64 rfl ?_
          refine g_istore_n hX (j := 3) [(3, .int (nI 0)), (0, .ref (a 0)), (1, .int (nI w)), (2, .int (nI (lieM C w))), (4, .int (nI i))] dX6_isWorld_65 rfl (by rw [hnL]; rfl) rfl ?_
          refine g_iinc hX (j := 4) (nI (i + 1)) [(4, .int (nI (i + 1))), (3, .int (nI 0)), (0, .ref (a 0)), (1, .int (nI w)), (2, .int (nI (lieM C w)))] dX6_isWorld_66 4 rfl (iinc_n _ _) (by rw [hnL]; rfl) rfl ?_
          refine g_goto hX 11 dX6_isWorld_69 (by decide) ?_
          exact g_lv _ [2, 3, 4, 1, 0] rfl (ih11 (i + 1) false (by omega) (by omega) (by simp [isWo, ← hacc, ← hs1, c17, c21]))
        · replace c21 := mt bI_0.mpr c21
          replace c21 := bNf c21
          obtain ⟨hs1, hs2, hs3⟩ := hEs i (by omega)
          have hs4 := tn_lt hs2
          refine g_iload_n hX dX6_isWorld_24 2 rfl ?_
          refine g_aload_n hX dX6_isWorld_25 0 rfl ?_
          refine g_get hX (v := .ref (a 4)) 0 inRX6 rfl rfl 7 rfl fl19 rfl rfl dX6_isWorld_26 ?_
          refine g_iconst hX (nI 2) dX6_isWorld_29 rfl ?_
          refine g_iload hX dX6_isWorld_30 4 rfl ?_
          refine g_imul hX (nI (2 * i)) dX6_isWorld_32 (pk_mul _ _) ?_
          refine g_iald hX (nI (mN M (2 * i))) 4 0 rfl rfl (vp_in_nI (by omega) (by omega)) (ald_n (g := fun zz => nI (mN M zz)) (i := 2 * i) (by omega)) dX6_isWorld_33 ?_
          have hc34 : CUT (mw E a M) (([] : va_W)) (mw E a M) [] [0, 1, 2, 3, 4, 5, 6, 7, 8, 9, 10, 11, 12] := ⟨rfl, rfl, rfl, rfl, rfl⟩
          refine g_TI hX hc34 [.int (nI (lieM C w)), .int (nI (mN M (2 * i)))] [] (c_X6_has l E (lieM C w) (mN M (2 * i)) (by first | assumption | omega) (by omega)) gX6_isWorld_X6_has calX6_has rfl rfl rfl rfl dX6_isWorld_34 rfl ⟨Nat.zero_le _, Nat.zero_le _⟩ (fun _ => mw E a M) [0, 1, 2, 3, 4, 5, 6, 7, 8, 9, 10, 11, 12] rfl (fun _ => rfl) (fun _ hu34 => ?_)
          refine g_aload_n hX dX6_isWorld_37 0 rfl ?_
          refine g_get hX (v := .ref (a 4)) 0 inRX6 rfl rfl 7 rfl fl19 rfl rfl dX6_isWorld_38 ?_
          refine g_iconst hX (nI 2) dX6_isWorld_41 rfl ?_
          refine g_iload hX dX6_isWorld_42 4 rfl ?_
          refine g_imul hX (nI (2 * i)) dX6_isWorld_44 (pk_mul _ _) ?_
          refine g_iconst hX (nI 1) dX6_isWorld_45 rfl ?_
          refine g_iadd hX (nI ((2 * i) + 1)) dX6_isWorld_46 (nI_add _ _) ?_
          refine g_iald hX (nI (mN M ((2 * i) + 1))) 4 0 rfl rfl (vp_in_nI (by omega) (by omega)) (ald_n (g := fun zz => nI (mN M zz)) (i := (2 * i) + 1) (by omega)) dX6_isWorld_47 ?_
          refine g_iconst hX (nI 1) dX6_isWorld_48 rfl ?_
          refine g_icmp_ne hX 56 dX6_isWorld_49 (by decide) (fun c49 => ?_) (fun c49 => ?_)
          · replace c49 := mt (nI_eq (by omega) (by omega)).mpr c49
            have c50 := tn_f hs2 c49
            refine g_iconst hX (nI 0) dX6_isWorld_56 rfl ?_
            refine g_icmp_ne hX 64 dX6_isWorld_57 (by decide) (fun c57 => ?_) (fun c57 => ?_)
            · replace c57 := mt bI_00.mpr c57
              replace c57 := bNf c57
              refine g_iconst hX (nI 0) dX6_isWorld_64 rfl ?_
              refine g_istore_n hX (j := 3) [(3, .int (nI 0)), (0, .ref (a 0)), (1, .int (nI w)), (2, .int (nI (lieM C w))), (4, .int (nI i))] dX6_isWorld_65 rfl (by rw [hnL]; rfl) rfl ?_
              refine g_iinc hX (j := 4) (nI (i + 1)) [(4, .int (nI (i + 1))), (3, .int (nI 0)), (0, .ref (a 0)), (1, .int (nI w)), (2, .int (nI (lieM C w)))] dX6_isWorld_66 4 rfl (iinc_n _ _) (by rw [hnL]; rfl) rfl ?_
              refine g_goto hX 11 dX6_isWorld_69 (by decide) ?_
              exact g_lv _ [2, 3, 4, 1, 0] rfl (ih11 (i + 1) false (by omega) (by omega) (by simp [isWo, ← hacc, ← hs1, c17, c21, c49, c50, c57]))
            · replace c57 := bI_00.mp c57
              refine g_iconst hX (nI 1) dX6_isWorld_60 rfl ?_
              refine g_goto hX 65 dX6_isWorld_61 (by decide) ?_
              refine g_istore_n hX (j := 3) [(3, .int (nI 1)), (0, .ref (a 0)), (1, .int (nI w)), (2, .int (nI (lieM C w))), (4, .int (nI i))] dX6_isWorld_65 rfl (by rw [hnL]; rfl) rfl ?_
              refine g_iinc hX (j := 4) (nI (i + 1)) [(4, .int (nI (i + 1))), (3, .int (nI 1)), (0, .ref (a 0)), (1, .int (nI w)), (2, .int (nI (lieM C w)))] dX6_isWorld_66 4 rfl (iinc_n _ _) (by rw [hnL]; rfl) rfl ?_
              refine g_goto hX 11 dX6_isWorld_69 (by decide) ?_
              exact g_lv _ [2, 3, 4, 1, 0] rfl (ih11 (i + 1) true (by omega) (by omega) (by simp [isWo, ← hacc, ← hs1, c17, c21, c49, c50, c57]))
          · replace c49 := (nI_eq (by omega) (by omega)).mp c49
            have c50 := tn_t hs2 c49
            refine g_iconst hX (nI 1) dX6_isWorld_52 rfl ?_
            refine g_goto hX 57 dX6_isWorld_53 (by decide) ?_
            refine g_icmp_ne hX 64 dX6_isWorld_57 (by decide) (fun c57 => ?_) (fun c57 => ?_)
            · replace c57 := mt bI_1.mpr c57
              replace c57 := bNt c57
              refine g_iconst hX (nI 0) dX6_isWorld_64 rfl ?_
              refine g_istore_n hX (j := 3) [(3, .int (nI 0)), (0, .ref (a 0)), (1, .int (nI w)), (2, .int (nI (lieM C w))), (4, .int (nI i))] dX6_isWorld_65 rfl (by rw [hnL]; rfl) rfl ?_
              refine g_iinc hX (j := 4) (nI (i + 1)) [(4, .int (nI (i + 1))), (3, .int (nI 0)), (0, .ref (a 0)), (1, .int (nI w)), (2, .int (nI (lieM C w)))] dX6_isWorld_66 4 rfl (iinc_n _ _) (by rw [hnL]; rfl) rfl ?_
              refine g_goto hX 11 dX6_isWorld_69 (by decide) ?_
              exact g_lv _ [2, 3, 4, 1, 0] rfl (ih11 (i + 1) false (by omega) (by omega) (by simp [isWo, ← hacc, ← hs1, c17, c21, c49, c50, c57]))
            · replace c57 := bI_1.mp c57
              refine g_iconst hX (nI 1) dX6_isWorld_60 rfl ?_
              refine g_goto hX 65 dX6_isWorld_61 (by decide) ?_
              refine g_istore_n hX (j := 3) [(3, .int (nI 1)), (0, .ref (a 0)), (1, .int (nI w)), (2, .int (nI (lieM C w))), (4, .int (nI i))] dX6_isWorld_65 rfl (by rw [hnL]; rfl) rfl ?_
              refine g_iinc hX (j := 4) (nI (i + 1)) [(4, .int (nI (i + 1))), (3, .int (nI 1)), (0, .ref (a 0)), (1, .int (nI w)), (2, .int (nI (lieM C w)))] dX6_isWorld_66 4 rfl (iinc_n _ _) (by rw [hnL]; rfl) rfl ?_
              refine g_goto hX 11 dX6_isWorld_69 (by decide) ?_
              exact g_lv _ [2, 3, 4, 1, 0] rfl (ih11 (i + 1) true (by omega) (by omega) (by simp [isWo, ← hacc, ← hs1, c17, c21, c49, c50, c57]))
  exact g_lv _ [3, 4, 2, 1, 0] rfl (lp11 _ 0 true (Nat.lt_succ_self _) (Nat.zero_le _) rfl)
set_option maxHeartbeats 4000000 in
set_option maxRecDepth 100000 in
theorem c_X6_liarsIn (l : Launch) (E : EV) (a : Nat → Nat) (M : MV) (C : FC) (w : Nat) (hC : SO C) (hO : RB C (mO M)) (hw : w < 64) : KI l yX6_liarsIn wsX6_liarsIn (rmN 4) E (σ := Unit) [.ref (a 0), .int (nI w)] (mw E a M) (fun _ => True) (fun _ => (nI (pop (liM C w (cN C))))) (fun _ => mw E a M) 0 0 := by
  refine KI.of (cc := cX6_liarsIn) (maxL := 5) (ty := .int) (hnar := fun _ _ => rfl) rfl rfl rfl (fun x hX hin hret hnL => ?_)
  replace hX : CX x l cX6_liarsIn RX6 wsX6_liarsIn E (rmN 4) := hX
  show GG x 0 0 (mw E a M) 0 [(0, .ref (a 0)), (1, .int (nI w))] []
  have inRX6 : ∀ w ∈ wsX60, w ∈ wsX6_liarsIn := by decide +kernel
  have fl31 : Cond.fieldLink RX6 31 "LieForceModel" "now" "[I" ∈ wsX6_liarsIn := by decide +kernel
  obtain ⟨⟨h9, h64, h512, hT, hI⟩, hK⟩ := id hC
  have hli := lieM_lt h9 w
  refine g_aload_n hX dX6_liarsIn_0 0 rfl ?_
  refine g_iload_n hX dX6_liarsIn_1 1 rfl ?_
  have hc2 : CUT (mw E a M) (mw E a M) (([] : va_W)) [0, 1, 2, 3, 4, 5, 6, 7, 8, 9, 10, 11, 12] [] := ⟨rfl, rfl, rfl, rfl, rfl⟩
  refine g_VI hX hc2 [.int (nI w)] [] (c_X6_policeIn l E a M C w (by first | assumption | omega) (by first | assumption | omega) (by omega)) gX6_liarsIn_X6_policeIn calX6_policeIn rfl rfl rfl rfl 0 rfl rfl rfl rfl dX6_liarsIn_2 rfl ⟨Nat.zero_le _, Nat.zero_le _⟩ (fun _ => mw E a M) [0, 1, 2, 3, 4, 5, 6, 7, 8, 9, 10, 11, 12] rfl (fun _ => rfl) (fun _ hu2 => ?_)
  refine g_istore_n hX (j := 2) [(2, .int (nI (lieM C w))), (0, .ref (a 0)), (1, .int (nI w))] dX6_liarsIn_5 rfl (by rw [hnL]; rfl) rfl ?_
  refine g_iconst hX (nI 0) dX6_liarsIn_6 rfl ?_
  refine g_istore_n hX (j := 3) [(3, .int (nI 0)), (2, .int (nI (lieM C w))), (0, .ref (a 0)), (1, .int (nI w))] dX6_liarsIn_7 rfl (by rw [hnL]; rfl) rfl ?_
  refine g_iconst hX (nI 0) dX6_liarsIn_8 rfl ?_
  refine g_istore hX (j := 4) [(4, .int (nI 0)), (3, .int (nI 0)), (2, .int (nI (lieM C w))), (0, .ref (a 0)), (1, .int (nI w))] dX6_liarsIn_9 (by rw [hnL]; rfl) rfl ?_
  have lp11 : ∀ (fuel : Nat) (i : Nat) (acc : Nat), cN C - i < fuel → (i ≤ cN C) → (acc = liM C w i) → GG x 0 0 (mw E a M) 11 [(0, .ref (a 0)), (1, .int (nI w)), (2, .int (nI (lieM C w))), (3, .int (nI acc)), (4, .int (nI i))] [] := by
    intro fuel
    induction fuel with
    | zero => intro i acc hm; exact absurd hm (Nat.not_lt_zero _)
    | succ fuel ih11 =>
      intro i acc hm11 hi hacc
      refine g_iload hX dX6_liarsIn_11 4 rfl ?_
      refine g_aload_n hX dX6_liarsIn_13 0 rfl ?_
      refine g_get hX (v := .ref (a 8)) 0 inRX6 rfl rfl 14 rfl fl31 rfl rfl dX6_liarsIn_14 ?_
      refine g_iconst hX (nI 2) dX6_liarsIn_17 rfl ?_
      refine g_iald hX (nI (cN C)) 8 0 rfl rfl (vp_in_nI (by omega) (by omega)) ((ald_n (g := fun zz => (mO M) zz) (i := 2) (by omega)).trans (RB_N hO)) dX6_liarsIn_18 ?_
      refine g_icmp_ge hX 59 dX6_liarsIn_19 (by decide) (fun c19 => ?_) (fun c19 => ?_)
      · replace c19 := (nI_leI (by omega) (by omega)).mp c19
        have hlm := liM_lt (C := C) w (k := cN C) (fun i hi => (hI i hi).1)
        obtain rfl : i = cN C := by omega
        refine g_iload_n hX dX6_liarsIn_59 3 rfl ?_
        have hc60 : CUT (mw E a M) (([] : va_W)) (mw E a M) [] [0, 1, 2, 3, 4, 5, 6, 7, 8, 9, 10, 11, 12] := ⟨rfl, rfl, rfl, rfl, rfl⟩
        refine g_TI hX hc60 [.int (nI acc)] [] (c_X6_bits l E acc (by rw [hacc]; omega)) gX6_liarsIn_X6_bits calX6_bits rfl rfl rfl rfl dX6_liarsIn_60 rfl ⟨Nat.zero_le _, Nat.zero_le _⟩ (fun _ => mw E a M) [0, 1, 2, 3, 4, 5, 6, 7, 8, 9, 10, 11, 12] rfl (fun _ => rfl) (fun _ hu60 => ?_)
        exact g_eq rfl rfl (congrArg (fun z => [Value.int z]) (congrArg nI (by rw [hacc]))) (hret () _ _ trivial dX6_liarsIn_63)
      · replace c19 := mt (nI_leI (by omega) (by omega)).mpr c19
        refine g_iload_n hX dX6_liarsIn_22 3 rfl ?_
        refine g_iload_n hX dX6_liarsIn_23 2 rfl ?_
        refine g_iload hX dX6_liarsIn_24 4 rfl ?_
        have hc26 : CUT (mw E a M) (([] : va_W)) (mw E a M) [] [0, 1, 2, 3, 4, 5, 6, 7, 8, 9, 10, 11, 12] := ⟨rfl, rfl, rfl, rfl, rfl⟩
        refine g_TI hX hc26 [.int (nI (lieM C w)), .int (nI i)] [.int (nI acc)] (c_X6_has l E (lieM C w) i (by first | assumption | omega) (by first | assumption | omega)) gX6_liarsIn_X6_has calX6_has rfl rfl rfl rfl dX6_liarsIn_26 rfl ⟨Nat.zero_le _, Nat.zero_le _⟩ (fun _ => mw E a M) [0, 1, 2, 3, 4, 5, 6, 7, 8, 9, 10, 11, 12] rfl (fun _ => rfl) (fun _ hu26 => ?_)
        refine g_if_eq hX 50 dX6_liarsIn_29 (by decide) (fun c29 => ?_) (fun c29 => ?_)
        · replace c29 := bI_0.mp c29
          rw [lieM_bit] at c29; have c30 : liB C w i = false := by simpa [show i < cN C by omega] using c29
          refine g_iconst hX (nI 0) dX6_liarsIn_50 rfl ?_
          refine g_ior hX (nI (acc ||| 0)) dX6_liarsIn_51 (fa_or _ _) ?_
          refine g_istore_n hX (j := 3) [(3, .int (nI (acc ||| 0))), (0, .ref (a 0)), (1, .int (nI w)), (2, .int (nI (lieM C w))), (4, .int (nI i))] dX6_liarsIn_52 rfl (by rw [hnL]; rfl) rfl ?_
          refine g_iinc hX (j := 4) (nI (i + 1)) [(4, .int (nI (i + 1))), (3, .int (nI (acc ||| 0))), (0, .ref (a 0)), (1, .int (nI w)), (2, .int (nI (lieM C w)))] dX6_liarsIn_53 4 rfl (iinc_n _ _) (by rw [hnL]; rfl) rfl ?_
          refine g_goto hX 11 dX6_liarsIn_56 (by decide) ?_
          exact g_lv _ [2, 3, 4, 1, 0] rfl (ih11 (i + 1) (acc ||| 0) (by omega) (by omega) (by rw [hacc, liM]; simp [c19, c29, c30]))
        · replace c29 := mt bI_0.mpr c29
          replace c29 := bNf c29
          rw [lieM_bit] at c29; have c30 : liB C w i = true := by simpa [show i < cN C by omega] using c29
          have hPi := (hI i (by omega)).1
          refine g_iconst hX (nI 1) dX6_liarsIn_32 rfl ?_
          refine g_aload_n hX dX6_liarsIn_33 0 rfl ?_
          refine g_get hX (v := .ref (a 8)) 0 inRX6 rfl rfl 14 rfl fl31 rfl rfl dX6_liarsIn_34 ?_
          refine g_iconst hX (nI 4) dX6_liarsIn_37 rfl ?_
          refine g_iconst hX (nI 4) dX6_liarsIn_38 rfl ?_
          refine g_iload hX dX6_liarsIn_39 4 rfl ?_
          refine g_imul hX (nI (4 * i)) dX6_liarsIn_41 (pk_mul _ _) ?_
          refine g_iadd hX (nI (4 + (4 * i))) dX6_liarsIn_42 (nI_add _ _) ?_
          refine g_iconst hX (nI 3) dX6_liarsIn_43 rfl ?_
          refine g_iadd hX (nI ((4 + (4 * i)) + 3)) dX6_liarsIn_44 (nI_add _ _) ?_
          refine g_iald hX (nI (cP C i)) 8 0 rfl rfl (vp_in_nI (by omega) (by omega)) ((ald_n (g := fun zz => (mO M) zz) (i := (4 + (4 * i)) + 3) (by omega)).trans (RB_P hO (by omega))) dX6_liarsIn_45 ?_
          refine g_ishl hX (nI (1 <<< (cP C i))) dX6_liarsIn_46 (sh_l _ (by omega)) ?_
          refine g_goto hX 51 dX6_liarsIn_47 (by decide) ?_
          refine g_ior hX (nI (acc ||| (1 <<< (cP C i)))) dX6_liarsIn_51 (fa_or _ _) ?_
          refine g_istore_n hX (j := 3) [(3, .int (nI (acc ||| (1 <<< (cP C i))))), (0, .ref (a 0)), (1, .int (nI w)), (2, .int (nI (lieM C w))), (4, .int (nI i))] dX6_liarsIn_52 rfl (by rw [hnL]; rfl) rfl ?_
          refine g_iinc hX (j := 4) (nI (i + 1)) [(4, .int (nI (i + 1))), (3, .int (nI (acc ||| (1 <<< (cP C i))))), (0, .ref (a 0)), (1, .int (nI w)), (2, .int (nI (lieM C w)))] dX6_liarsIn_53 4 rfl (iinc_n _ _) (by rw [hnL]; rfl) rfl ?_
          refine g_goto hX 11 dX6_liarsIn_56 (by decide) ?_
          exact g_lv _ [2, 3, 4, 1, 0] rfl (ih11 (i + 1) (acc ||| (1 <<< (cP C i))) (by omega) (by omega) (by rw [hacc, liM]; simp [c19, c29, c30]))
  exact g_lv _ [3, 4, 2, 1, 0] rfl (lp11 _ 0 0 (Nat.lt_succ_self _) (Nat.zero_le _) rfl)
set_option maxHeartbeats 4000000 in
set_option maxRecDepth 100000 in
theorem c_X6_worlds_n (l : Launch) (E : EV) (a : Nat → Nat) (M : MV) (C : FC) (m : Nat) (x0 : Int32) (hD : DI C m) (hm : m < 2 ^ 29) (hN1 : 1 ≤ cN C) (hS : RW C (mS M)) (hTm : cT C = mT M) (hx : win x0 (nI 0) (nI 1) = false) : KI l yX6_worlds wsX6_worlds (rmN 5) E (σ := MV) [.ref (a 0), .int x0] (mw E a M) (fun u => KS M u) (fun u => (-1)) (fun u => mw E a u) 0 0 := by
  refine KI.of (cc := cX6_worlds) (maxL := 6) (ty := .int) (hnar := fun _ _ => rfl) rfl rfl rfl (fun x hX hin hret hnL => ?_)
  replace hX : CX x l cX6_worlds RX6 wsX6_worlds E (rmN 5) := hX
  show GG x 0 0 (mw E a M) 0 [(0, .ref (a 0)), (1, .int x0)] []
  obtain ⟨hC, hVY, hZ, hYm⟩ := id hD
  obtain ⟨⟨h9, h64, h512, hT, hI⟩, hK⟩ := id hC
  have hV := DI_VB hD (by omega)
  refine g_iload_n hX dX6_worlds_0 1 rfl ?_
  refine g_iconst hX (nI 0) dX6_worlds_1 rfl ?_
  refine g_iconst hX (nI 1) dX6_worlds_2 rfl ?_
  have hc3 : CUT (mw E a M) (([] : va_W)) (mw E a M) [] [0, 1, 2, 3, 4, 5, 6, 7, 8, 9, 10, 11, 12] := ⟨rfl, rfl, rfl, rfl, rfl⟩
  refine g_TI hX hc3 [.int x0, .int (nI 0), .int (nI 1)] [] (c_X6_in_n l E x0 (nI 0) (nI 1) (by first | assumption | omega)) gX6_worlds_X6_in calX6_in rfl rfl rfl rfl dX6_worlds_3 rfl ⟨Nat.zero_le _, Nat.zero_le _⟩ (fun _ => mw E a M) [0, 1, 2, 3, 4, 5, 6, 7, 8, 9, 10, 11, 12] rfl (fun _ => rfl) (fun _ hu3 => ?_)
  refine g_if_ne hX 11 dX6_worlds_6 (by decide) (fun c6 => ?_) (fun c6 => ?_)
  · replace c6 := mt bI_0.mpr c6
    replace c6 := bNf c6
    exact absurd c6 (by simp)
  · replace c6 := bI_0.mp c6
    refine g_iconst hX ((-1)) dX6_worlds_9 rfl ?_
    exact g_eq rfl rfl rfl (hret M _ _ (⟨⟨rfl, rfl, rfl, rfl, rfl, rfl, rfl⟩, ⟨rfl, rfl⟩, rfl⟩) dX6_worlds_10)
set_option maxHeartbeats 4000000 in
set_option maxRecDepth 100000 in
theorem c_X6_worlds_y (l : Launch) (E : EV) (a : Nat → Nat) (M : MV) (C : FC) (m : Nat) (S : SC) (q : Nat) (hD : DI C m) (hm : m < 2 ^ 29) (hN1 : 1 ≤ cN C) (hS : RW C (mS M)) (hTm : cT C = mT M) (hE : ES M S) (hq : q ≤ 1) : KI l yX6_worlds wsX6_worlds (rmN 5) E (σ := MV) [.ref (a 0), .int (nI q)] (mw E a M) (fun u => KS M u) (fun u => (if q = 0 then nI (cnt (woB C S) 64) else oI (fst (woB C S) 0 64))) (fun u => mw E a u) 0 0 := by
  refine KI.of (cc := cX6_worlds) (maxL := 6) (ty := .int) (hnar := fun _ _ => rfl) rfl rfl rfl (fun x hX hin hret hnL => ?_)
  replace hX : CX x l cX6_worlds RX6 wsX6_worlds E (rmN 5) := hX
  show GG x 0 0 (mw E a M) 0 [(0, .ref (a 0)), (1, .int (nI q))] []
  obtain ⟨hC, hVY, hZ, hYm⟩ := id hD
  obtain ⟨⟨h9, h64, h512, hT, hI⟩, hK⟩ := id hC
  have hV := DI_VB hD (by omega)
  have hNO := RB_cp (f := mO M) h9 hS.1
  refine g_iload_n hX dX6_worlds_0 1 rfl ?_
  refine g_iconst hX (nI 0) dX6_worlds_1 rfl ?_
  refine g_iconst hX (nI 1) dX6_worlds_2 rfl ?_
  have hc3 : CUT (mw E a M) (([] : va_W)) (mw E a M) [] [0, 1, 2, 3, 4, 5, 6, 7, 8, 9, 10, 11, 12] := ⟨rfl, rfl, rfl, rfl, rfl⟩
  refine g_TI hX hc3 [.int (nI q), .int (nI 0), .int (nI 1)] [] (c_X6_in_y l E q 0 1 (by omega) (by omega) (by omega)) gX6_worlds_X6_in calX6_in rfl rfl rfl rfl dX6_worlds_3 rfl ⟨Nat.zero_le _, Nat.zero_le _⟩ (fun _ => mw E a M) [0, 1, 2, 3, 4, 5, 6, 7, 8, 9, 10, 11, 12] rfl (fun _ => rfl) (fun _ hu3 => ?_)
  refine g_if_ne hX 11 dX6_worlds_6 (by decide) (fun c6 => ?_) (fun c6 => ?_)
  · replace c6 := mt bI_0.mpr c6
    replace c6 := bNf c6
    refine g_aload_n hX dX6_worlds_11 0 rfl ?_
    have hc12 : CUT (mw E a M) (mw E a M) (([] : va_W)) [0, 1, 2, 3, 4, 5, 6, 7, 8, 9, 10, 11, 12] [] := ⟨rfl, rfl, rfl, rfl, rfl⟩
    refine g_VV hX hc12 [] [] (c_X6_asItIs l E a M) gX6_worlds_X6_asItIs calX6_asItIs rfl rfl rfl rfl 0 rfl rfl rfl rfl dX6_worlds_12 rfl ⟨Nat.zero_le _, Nat.zero_le _⟩ (fun _ => mw E a (mkMV (mT M) (mS M) (mA M) (mW M) (mK M) (mP M) (mE M) (mN M) (mX M) (mL M) (mI M) (mD M) (mR M) (mM M) (cpR ((mO M)) ((mS M)) 0 0) (mF M) (mU M) (mQ M) (mZ M) (mG M) (mH M))) [0, 1, 2, 3, 4, 5, 6, 7, 8, 9, 10, 11, 12] rfl (fun _ => rfl) (fun _ hu12 => ?_)
    refine g_iconst hX (nI 0) dX6_worlds_15 rfl ?_
    refine g_istore_n hX (j := 2) [(2, .int (nI 0)), (0, .ref (a 0)), (1, .int (nI q))] dX6_worlds_16 rfl (by rw [hnL]; rfl) rfl ?_
    refine g_bipush hX ((-4)) dX6_worlds_17 rfl ?_
    refine g_istore_n hX (j := 3) [(3, .int (-4)), (2, .int (nI 0)), (0, .ref (a 0)), (1, .int (nI q))] dX6_worlds_19 rfl (by rw [hnL]; rfl) rfl ?_
    refine g_bipush hX (nI 63) dX6_worlds_20 rfl ?_
    refine g_istore hX (j := 4) [(4, .int (nI 63)), (3, .int (-4)), (2, .int (nI 0)), (0, .ref (a 0)), (1, .int (nI q))] dX6_worlds_22 (by rw [hnL]; rfl) rfl ?_
    have lp24 : ∀ (fuel : Nat) (k : Nat) (acc : Nat) (low : Int32), k < fuel → (k ≤ 64) → (acc + cnt (woB C S) k = cnt (woB C S) 64) → (low = oI (fst (woB C S) k (64 - k))) → GG x 0 0 (mw E a (mkMV (mT M) (mS M) (mA M) (mW M) (mK M) (mP M) (mE M) (mN M) (mX M) (mL M) (mI M) (mD M) (mR M) (mM M) (cpR ((mO M)) ((mS M)) 0 0) (mF M) (mU M) (mQ M) (mZ M) (mG M) (mH M))) 24 [(0, .ref (a 0)), (1, .int (nI q)), (2, .int (nI acc)), (3, .int low), (4, .int (nI k + (-1)))] [] := by
      intro fuel
      induction fuel with
      | zero => intro k acc low hm; exact absurd hm (Nat.not_lt_zero _)
      | succ fuel ih24 =>
        intro k acc low hm24 hk hacc hlow
        refine g_iload hX dX6_worlds_24 4 rfl ?_
        refine g_if_lt hX 68 dX6_worlds_26 (by decide) (fun c26 => ?_) (fun c26 => ?_)
        · replace c26 := (dn_lt (by omega)).mp c26
          refine g_iload_n hX dX6_worlds_68 1 rfl ?_
          refine g_if_ne hX 76 dX6_worlds_69 (by decide) (fun c69 => ?_) (fun c69 => ?_)
          · replace c69 := mt (nz_eq (by omega)).mpr c69
            refine g_iload_n hX dX6_worlds_76 3 rfl ?_
            exact g_eq rfl rfl (congrArg (fun z => [Value.int z]) (by show _ = ite _ _ _; first | (rw [if_pos c69]; congr 1; rw [c26, cnt] at hacc; omega) | (rw [if_neg c69, hlow, c26]))) (hret (mkMV (mT M) (mS M) (mA M) (mW M) (mK M) (mP M) (mE M) (mN M) (mX M) (mL M) (mI M) (mD M) (mR M) (mM M) (cpR ((mO M)) ((mS M)) 0 0) (mF M) (mU M) (mQ M) (mZ M) (mG M) (mH M)) _ _ (⟨⟨rfl, rfl, rfl, rfl, rfl, rfl, rfl⟩, ⟨rfl, rfl⟩, rfl⟩) dX6_worlds_77)
          · replace c69 := (nz_eq (by omega)).mp c69
            refine g_iload_n hX dX6_worlds_72 2 rfl ?_
            refine g_goto hX 77 dX6_worlds_73 (by decide) ?_
            exact g_eq rfl rfl (congrArg (fun z => [Value.int z]) (by show _ = ite _ _ _; first | (rw [if_pos c69]; congr 1; rw [c26, cnt] at hacc; omega) | (rw [if_neg c69, hlow, c26]))) (hret (mkMV (mT M) (mS M) (mA M) (mW M) (mK M) (mP M) (mE M) (mN M) (mX M) (mL M) (mI M) (mD M) (mR M) (mM M) (cpR ((mO M)) ((mS M)) 0 0) (mF M) (mU M) (mQ M) (mZ M) (mG M) (mH M)) _ _ (⟨⟨rfl, rfl, rfl, rfl, rfl, rfl, rfl⟩, ⟨rfl, rfl⟩, rfl⟩) dX6_worlds_77)
        · replace c26 := mt (dn_lt (by omega)).mpr c26
          rw [dn_n c26]
          refine g_aload_n hX dX6_worlds_29 0 rfl ?_
          refine g_iload hX dX6_worlds_30 4 rfl ?_
          have hc32 : CUT (mw E a (mkMV (mT M) (mS M) (mA M) (mW M) (mK M) (mP M) (mE M) (mN M) (mX M) (mL M) (mI M) (mD M) (mR M) (mM M) (cpR ((mO M)) ((mS M)) 0 0) (mF M) (mU M) (mQ M) (mZ M) (mG M) (mH M))) (mw E a (mkMV (mT M) (mS M) (mA M) (mW M) (mK M) (mP M) (mE M) (mN M) (mX M) (mL M) (mI M) (mD M) (mR M) (mM M) (cpR ((mO M)) ((mS M)) 0 0) (mF M) (mU M) (mQ M) (mZ M) (mG M) (mH M))) (([] : va_W)) [0, 1, 2, 3, 4, 5, 6, 7, 8, 9, 10, 11, 12] [] := ⟨rfl, rfl, rfl, rfl, rfl⟩
          refine g_VI hX hc32 [.int (nI (k - 1))] [] (c_X6_isWorld l E a (mkMV (mT M) (mS M) (mA M) (mW M) (mK M) (mP M) (mE M) (mN M) (mX M) (mL M) (mI M) (mD M) (mR M) (mM M) (cpR ((mO M)) ((mS M)) 0 0) (mF M) (mU M) (mQ M) (mZ M) (mG M) (mH M)) C S (k - 1) (by first | assumption | omega) hNO hE (by omega)) gX6_worlds_X6_isWorld calX6_isWorld rfl rfl rfl rfl 0 rfl rfl rfl rfl dX6_worlds_32 rfl ⟨Nat.zero_le _, Nat.zero_le _⟩ (fun _ => mw E a (mkMV (mT M) (mS M) (mA M) (mW M) (mK M) (mP M) (mE M) (mN M) (mX M) (mL M) (mI M) (mD M) (mR M) (mM M) (cpR ((mO M)) ((mS M)) 0 0) (mF M) (mU M) (mQ M) (mZ M) (mG M) (mH M))) [0, 1, 2, 3, 4, 5, 6, 7, 8, 9, 10, 11, 12] rfl (fun _ => rfl) (fun _ hu32 => ?_)
          refine g_istore hX (j := 5) [(5, .int (bI (woB C S (k - 1)))), (0, .ref (a 0)), (1, .int (nI q)), (2, .int (nI acc)), (3, .int low), (4, .int (nI (k - 1)))] dX6_worlds_35 (by rw [hnL]; rfl) rfl ?_
          refine g_iload_n hX dX6_worlds_37 3 rfl ?_
          refine g_iload hX dX6_worlds_38 0 rfl ?_
          refine g_if_eq hX 47 dX6_worlds_40 (by decide) (fun c40 => ?_) (fun c40 => ?_)
          · replace c40 := bI_0.mp c40
            refine g_iconst hX (nI 0) dX6_worlds_47 rfl ?_
            refine g_iadd hX (nI (acc + 0)) dX6_worlds_48 (nI_add _ _) ?_
            refine g_istore_n hX (j := 2) [(2, .int (nI (acc + 0))), (5, .int (bI (woB C S (k - 1)))), (0, .ref (a 0)), (1, .int (nI q)), (3, .int low), (4, .int (nI (k - 1)))] dX6_worlds_49 rfl (by rw [hnL]; rfl) rfl ?_
            refine g_iload hX dX6_worlds_50 1 rfl ?_
            refine g_if_eq hX 60 dX6_worlds_52 (by decide) (fun c52 => ?_) (fun c52 => ?_)
            · replace c52 := bI_0.mp c52
              refine g_iload_n hX dX6_worlds_60 4 rfl ?_
              refine g_istore_n hX (j := 3) [(3, .int low), (2, .int (nI (acc + 0))), (5, .int (bI (woB C S (k - 1)))), (0, .ref (a 0)), (1, .int (nI q)), (4, .int (nI (k - 1)))] dX6_worlds_61 rfl (by rw [hnL]; rfl) rfl ?_
              refine g_iinc hX (j := 4) (nI (k - 1) + (-1)) [(4, .int (nI (k - 1) + (-1))), (3, .int low), (2, .int (nI (acc + 0))), (5, .int (bI (woB C S (k - 1)))), (0, .ref (a 0)), (1, .int (nI q))] dX6_worlds_62 5 rfl rfl (by rw [hnL]; rfl) rfl ?_
              refine g_goto hX 24 dX6_worlds_65 (by decide) ?_
              exact g_lv _ [4, 5, 2, 1, 0] rfl (ih24 (k - 1) (acc + 0) low (by omega) (by omega) (by first | exact absurd (c40.symm.trans c52) (by decide) | (have h1 := cnt_dn (p := woB C S) c26; rw [c40] at h1; simp at h1; omega)) (by first | exact absurd (c40.symm.trans c52) (by decide) | (rw [fst_dn c26 hk, c40, if_neg (by decide)]; exact hlow) | (rw [fst_dn c26 hk, c40, if_pos rfl]; rfl)))
            · replace c52 := mt bI_0.mpr c52
              replace c52 := bNf c52
              exact absurd (c40.symm.trans c52) (by decide)
          · replace c40 := mt bI_0.mpr c40
            replace c40 := bNf c40
            refine g_iconst hX (nI 1) dX6_worlds_43 rfl ?_
            refine g_goto hX 48 dX6_worlds_44 (by decide) ?_
            refine g_iadd hX (nI (acc + 1)) dX6_worlds_48 (nI_add _ _) ?_
            refine g_istore_n hX (j := 2) [(2, .int (nI (acc + 1))), (5, .int (bI (woB C S (k - 1)))), (0, .ref (a 0)), (1, .int (nI q)), (3, .int low), (4, .int (nI (k - 1)))] dX6_worlds_49 rfl (by rw [hnL]; rfl) rfl ?_
            refine g_iload hX dX6_worlds_50 1 rfl ?_
            refine g_if_eq hX 60 dX6_worlds_52 (by decide) (fun c52 => ?_) (fun c52 => ?_)
            · replace c52 := bI_0.mp c52
              exact absurd (c40.symm.trans c52) (by decide)
            · replace c52 := mt bI_0.mpr c52
              replace c52 := bNf c52
              refine g_iload hX dX6_worlds_55 5 rfl ?_
              refine g_goto hX 61 dX6_worlds_57 (by decide) ?_
              refine g_istore_n hX (j := 3) [(3, .int (nI (k - 1))), (2, .int (nI (acc + 1))), (5, .int (bI (woB C S (k - 1)))), (0, .ref (a 0)), (1, .int (nI q)), (4, .int (nI (k - 1)))] dX6_worlds_61 rfl (by rw [hnL]; rfl) rfl ?_
              refine g_iinc hX (j := 4) (nI (k - 1) + (-1)) [(4, .int (nI (k - 1) + (-1))), (3, .int (nI (k - 1))), (2, .int (nI (acc + 1))), (5, .int (bI (woB C S (k - 1)))), (0, .ref (a 0)), (1, .int (nI q))] dX6_worlds_62 5 rfl rfl (by rw [hnL]; rfl) rfl ?_
              refine g_goto hX 24 dX6_worlds_65 (by decide) ?_
              exact g_lv _ [4, 5, 2, 1, 0] rfl (ih24 (k - 1) (acc + 1) (nI (k - 1)) (by omega) (by omega) (by first | exact absurd (c40.symm.trans c52) (by decide) | (have h1 := cnt_dn (p := woB C S) c26; rw [c40] at h1; simp at h1; omega)) (by first | exact absurd (c40.symm.trans c52) (by decide) | (rw [fst_dn c26 hk, c40, if_neg (by decide)]; exact hlow) | (rw [fst_dn c26 hk, c40, if_pos rfl]; rfl)))
    exact g_lv _ [3, 4, 2, 1, 0] rfl (lp24 _ 64 0 (-4) (Nat.lt_succ_self _) (Nat.le_refl _) (Nat.zero_add _) rfl)
  · replace c6 := bI_0.mp c6
    exact absurd c6 (by simp)
set_option maxHeartbeats 4000000 in
set_option maxRecDepth 100000 in
theorem c_X6_must_n (l : Launch) (E : EV) (a : Nat → Nat) (M : MV) (C : FC) (m : Nat) (x0 : Int32) (hD : DI C m) (hm : m < 2 ^ 29) (hN1 : 1 ≤ cN C) (hS : RW C (mS M)) (hTm : cT C = mT M) (hx : win x0 (nI 0) (nI 5) = false) : KI l yX6_must wsX6_must (rmN 5) E (σ := MV) [.ref (a 0), .int x0] (mw E a M) (fun u => KS M u) (fun u => (-1)) (fun u => mw E a u) 0 0 := by
  refine KI.of (cc := cX6_must) (maxL := 6) (ty := .int) (hnar := fun _ _ => rfl) rfl rfl rfl (fun x hX hin hret hnL => ?_)
  replace hX : CX x l cX6_must RX6 wsX6_must E (rmN 5) := hX
  show GG x 0 0 (mw E a M) 0 [(0, .ref (a 0)), (1, .int x0)] []
  obtain ⟨hC, hVY, hZ, hYm⟩ := id hD
  obtain ⟨⟨h9, h64, h512, hT, hI⟩, hK⟩ := id hC
  have hV := DI_VB hD (by omega)
  refine g_iload_n hX dX6_must_0 1 rfl ?_
  have hc1 : CUT (mw E a M) (([] : va_W)) (mw E a M) [] [0, 1, 2, 3, 4, 5, 6, 7, 8, 9, 10, 11, 12] := ⟨rfl, rfl, rfl, rfl, rfl⟩
  refine g_TI hX hc1 [.int x0] [] (c_X6_isFact_no l E x0 (by first | assumption | omega)) gX6_must_X6_isFact calX6_isFact rfl rfl rfl rfl dX6_must_1 rfl ⟨Nat.zero_le _, Nat.zero_le _⟩ (fun _ => mw E a M) [0, 1, 2, 3, 4, 5, 6, 7, 8, 9, 10, 11, 12] rfl (fun _ => rfl) (fun _ hu1 => ?_)
  refine g_if_ne hX 9 dX6_must_4 (by decide) (fun c4 => ?_) (fun c4 => ?_)
  · replace c4 := mt bI_0.mpr c4
    replace c4 := bNf c4
    exact absurd c4 (by simp)
  · replace c4 := bI_0.mp c4
    refine g_iconst hX ((-1)) dX6_must_7 rfl ?_
    exact g_eq rfl rfl rfl (hret M _ _ (⟨⟨rfl, rfl, rfl, rfl, rfl, rfl, rfl⟩, ⟨rfl, rfl⟩, rfl⟩) dX6_must_8)
set_option maxHeartbeats 4000000 in
set_option maxRecDepth 100000 in
theorem c_X6_must_y (l : Launch) (E : EV) (a : Nat → Nat) (M : MV) (C : FC) (m : Nat) (S : SC) (f : Nat) (hD : DI C m) (hm : m < 2 ^ 29) (hN1 : 1 ≤ cN C) (hS : RW C (mS M)) (hTm : cT C = mT M) (hE : ES M S) (hf : f < 6) : KI l yX6_must wsX6_must (rmN 5) E (σ := MV) [.ref (a 0), .int (nI f)] (mw E a M) (fun u => KS M u) (fun u => (mustV C S f)) (fun u => mw E a u) 0 0 := by
  refine KI.of (cc := cX6_must) (maxL := 6) (ty := .int) (hnar := fun _ _ => rfl) rfl rfl rfl (fun x hX hin hret hnL => ?_)
  replace hX : CX x l cX6_must RX6 wsX6_must E (rmN 5) := hX
  show GG x 0 0 (mw E a M) 0 [(0, .ref (a 0)), (1, .int (nI f))] []
  obtain ⟨hC, hVY, hZ, hYm⟩ := id hD
  obtain ⟨⟨h9, h64, h512, hT, hI⟩, hK⟩ := id hC
  have hV := DI_VB hD (by omega)
  have hNO := RB_cp (f := mO M) h9 hS.1
  refine g_iload_n hX dX6_must_0 1 rfl ?_
  have hc1 : CUT (mw E a M) (([] : va_W)) (mw E a M) [] [0, 1, 2, 3, 4, 5, 6, 7, 8, 9, 10, 11, 12] := ⟨rfl, rfl, rfl, rfl, rfl⟩
  refine g_TI hX hc1 [.int (nI f)] [] (c_X6_isFact_y l E f (by omega)) gX6_must_X6_isFact calX6_isFact rfl rfl rfl rfl dX6_must_1 rfl ⟨Nat.zero_le _, Nat.zero_le _⟩ (fun _ => mw E a M) [0, 1, 2, 3, 4, 5, 6, 7, 8, 9, 10, 11, 12] rfl (fun _ => rfl) (fun _ hu1 => ?_)
  refine g_if_ne hX 9 dX6_must_4 (by decide) (fun c4 => ?_) (fun c4 => ?_)
  · replace c4 := mt bI_0.mpr c4
    replace c4 := bNf c4
    refine g_aload_n hX dX6_must_9 0 rfl ?_
    have hc10 : CUT (mw E a M) (mw E a M) (([] : va_W)) [0, 1, 2, 3, 4, 5, 6, 7, 8, 9, 10, 11, 12] [] := ⟨rfl, rfl, rfl, rfl, rfl⟩
    refine g_VV hX hc10 [] [] (c_X6_asItIs l E a M) gX6_must_X6_asItIs calX6_asItIs rfl rfl rfl rfl 0 rfl rfl rfl rfl dX6_must_10 rfl ⟨Nat.zero_le _, Nat.zero_le _⟩ (fun _ => mw E a (mkMV (mT M) (mS M) (mA M) (mW M) (mK M) (mP M) (mE M) (mN M) (mX M) (mL M) (mI M) (mD M) (mR M) (mM M) (cpR ((mO M)) ((mS M)) 0 0) (mF M) (mU M) (mQ M) (mZ M) (mG M) (mH M))) [0, 1, 2, 3, 4, 5, 6, 7, 8, 9, 10, 11, 12] rfl (fun _ => rfl) (fun _ hu10 => ?_)
    refine g_iconst hX (nI 0) dX6_must_13 rfl ?_
    refine g_istore_n hX (j := 2) [(2, .int (nI 0)), (0, .ref (a 0)), (1, .int (nI f))] dX6_must_14 rfl (by rw [hnL]; rfl) rfl ?_
    refine g_iconst hX (nI 0) dX6_must_15 rfl ?_
    refine g_istore_n hX (j := 3) [(3, .int (nI 0)), (2, .int (nI 0)), (0, .ref (a 0)), (1, .int (nI f))] dX6_must_16 rfl (by rw [hnL]; rfl) rfl ?_
    refine g_iconst hX (nI 0) dX6_must_17 rfl ?_
    refine g_istore hX (j := 4) [(4, .int (nI 0)), (3, .int (nI 0)), (2, .int (nI 0)), (0, .ref (a 0)), (1, .int (nI f))] dX6_must_18 (by rw [hnL]; rfl) rfl ?_
    have lp20 : ∀ (fuel : Nat) (i : Nat) (so : Bool) (ot : Bool), 64 - i < fuel → (i ≤ 64) → (so = anyB (fun w => woB C S w && w.testBit f) i) → (ot = anyB (fun w => woB C S w && !w.testBit f) i) → GG x 0 0 (mw E a (mkMV (mT M) (mS M) (mA M) (mW M) (mK M) (mP M) (mE M) (mN M) (mX M) (mL M) (mI M) (mD M) (mR M) (mM M) (cpR ((mO M)) ((mS M)) 0 0) (mF M) (mU M) (mQ M) (mZ M) (mG M) (mH M))) 20 [(0, .ref (a 0)), (1, .int (nI f)), (2, .int (bI so)), (3, .int (bI ot)), (4, .int (nI i))] [] := by
      intro fuel
      induction fuel with
      | zero => intro i so ot hm; exact absurd hm (Nat.not_lt_zero _)
      | succ fuel ih20 =>
        intro i so ot hm20 hi hs ho
        refine g_iload hX dX6_must_20 4 rfl ?_
        refine g_bipush hX (nI 64) dX6_must_22 rfl ?_
        refine g_icmp_ge hX 89 dX6_must_24 (by decide) (fun c24 => ?_) (fun c24 => ?_)
        · replace c24 := (nI_leI (by omega) (by omega)).mp c24
          refine g_iload_n hX dX6_must_89 2 rfl ?_
          refine g_if_eq hX 105 dX6_must_90 (by decide) (fun c90 => ?_) (fun c90 => ?_)
          · replace c90 := bI_0.mp c90
            refine g_iload_n hX dX6_must_105 3 rfl ?_
            refine g_if_eq hX 113 dX6_must_106 (by decide) (fun c106 => ?_) (fun c106 => ?_)
            · replace c106 := bI_0.mp c106
              refine g_bipush hX ((-4)) dX6_must_113 rfl ?_
              exact g_eq rfl rfl (congrArg (fun z => [Value.int z]) (by show _ = mustV C S f; rw [show i = 64 by omega] at hs ho; rw [mustV, ← hs, ← ho]; simp [c24, c90, c106])) (hret (mkMV (mT M) (mS M) (mA M) (mW M) (mK M) (mP M) (mE M) (mN M) (mX M) (mL M) (mI M) (mD M) (mR M) (mM M) (cpR ((mO M)) ((mS M)) 0 0) (mF M) (mU M) (mQ M) (mZ M) (mG M) (mH M)) _ _ (⟨⟨rfl, rfl, rfl, rfl, rfl, rfl, rfl⟩, ⟨rfl, rfl⟩, rfl⟩) dX6_must_115)
            · replace c106 := mt bI_0.mpr c106
              replace c106 := bNf c106
              refine g_iconst hX (nI 0) dX6_must_109 rfl ?_
              refine g_goto hX 115 dX6_must_110 (by decide) ?_
              exact g_eq rfl rfl (congrArg (fun z => [Value.int z]) (by show _ = mustV C S f; rw [show i = 64 by omega] at hs ho; rw [mustV, ← hs, ← ho]; simp [c24, c90, c106])) (hret (mkMV (mT M) (mS M) (mA M) (mW M) (mK M) (mP M) (mE M) (mN M) (mX M) (mL M) (mI M) (mD M) (mR M) (mM M) (cpR ((mO M)) ((mS M)) 0 0) (mF M) (mU M) (mQ M) (mZ M) (mG M) (mH M)) _ _ (⟨⟨rfl, rfl, rfl, rfl, rfl, rfl, rfl⟩, ⟨rfl, rfl⟩, rfl⟩) dX6_must_115)
          · replace c90 := mt bI_0.mpr c90
            replace c90 := bNf c90
            refine g_iload_n hX dX6_must_93 3 rfl ?_
            refine g_if_eq hX 101 dX6_must_94 (by decide) (fun c94 => ?_) (fun c94 => ?_)
            · replace c94 := bI_0.mp c94
              refine g_iconst hX (nI 1) dX6_must_101 rfl ?_
              refine g_goto hX 115 dX6_must_102 (by decide) ?_
              exact g_eq rfl rfl (congrArg (fun z => [Value.int z]) (by show _ = mustV C S f; rw [show i = 64 by omega] at hs ho; rw [mustV, ← hs, ← ho]; simp [c24, c90, c94])) (hret (mkMV (mT M) (mS M) (mA M) (mW M) (mK M) (mP M) (mE M) (mN M) (mX M) (mL M) (mI M) (mD M) (mR M) (mM M) (cpR ((mO M)) ((mS M)) 0 0) (mF M) (mU M) (mQ M) (mZ M) (mG M) (mH M)) _ _ (⟨⟨rfl, rfl, rfl, rfl, rfl, rfl, rfl⟩, ⟨rfl, rfl⟩, rfl⟩) dX6_must_115)
            · replace c94 := mt bI_0.mpr c94
              replace c94 := bNf c94
              refine g_iconst hX (nI 2) dX6_must_97 rfl ?_
              refine g_goto hX 115 dX6_must_98 (by decide) ?_
              exact g_eq rfl rfl (congrArg (fun z => [Value.int z]) (by show _ = mustV C S f; rw [show i = 64 by omega] at hs ho; rw [mustV, ← hs, ← ho]; simp [c24, c90, c94])) (hret (mkMV (mT M) (mS M) (mA M) (mW M) (mK M) (mP M) (mE M) (mN M) (mX M) (mL M) (mI M) (mD M) (mR M) (mM M) (cpR ((mO M)) ((mS M)) 0 0) (mF M) (mU M) (mQ M) (mZ M) (mG M) (mH M)) _ _ (⟨⟨rfl, rfl, rfl, rfl, rfl, rfl, rfl⟩, ⟨rfl, rfl⟩, rfl⟩) dX6_must_115)
        · replace c24 := mt (nI_leI (by omega) (by omega)).mpr c24
          refine g_aload_n hX dX6_must_27 0 rfl ?_
          refine g_iload hX dX6_must_28 4 rfl ?_
          have hc30 : CUT (mw E a (mkMV (mT M) (mS M) (mA M) (mW M) (mK M) (mP M) (mE M) (mN M) (mX M) (mL M) (mI M) (mD M) (mR M) (mM M) (cpR ((mO M)) ((mS M)) 0 0) (mF M) (mU M) (mQ M) (mZ M) (mG M) (mH M))) (mw E a (mkMV (mT M) (mS M) (mA M) (mW M) (mK M) (mP M) (mE M) (mN M) (mX M) (mL M) (mI M) (mD M) (mR M) (mM M) (cpR ((mO M)) ((mS M)) 0 0) (mF M) (mU M) (mQ M) (mZ M) (mG M) (mH M))) (([] : va_W)) [0, 1, 2, 3, 4, 5, 6, 7, 8, 9, 10, 11, 12] [] := ⟨rfl, rfl, rfl, rfl, rfl⟩
          refine g_VI hX hc30 [.int (nI i)] [] (c_X6_isWorld l E a (mkMV (mT M) (mS M) (mA M) (mW M) (mK M) (mP M) (mE M) (mN M) (mX M) (mL M) (mI M) (mD M) (mR M) (mM M) (cpR ((mO M)) ((mS M)) 0 0) (mF M) (mU M) (mQ M) (mZ M) (mG M) (mH M)) C S i (by first | assumption | omega) hNO hE (by omega)) gX6_must_X6_isWorld calX6_isWorld rfl rfl rfl rfl 0 rfl rfl rfl rfl dX6_must_30 rfl ⟨Nat.zero_le _, Nat.zero_le _⟩ (fun _ => mw E a (mkMV (mT M) (mS M) (mA M) (mW M) (mK M) (mP M) (mE M) (mN M) (mX M) (mL M) (mI M) (mD M) (mR M) (mM M) (cpR ((mO M)) ((mS M)) 0 0) (mF M) (mU M) (mQ M) (mZ M) (mG M) (mH M))) [0, 1, 2, 3, 4, 5, 6, 7, 8, 9, 10, 11, 12] rfl (fun _ => rfl) (fun _ hu30 => ?_)
          refine g_istore hX (j := 5) [(5, .int (bI (woB C S i))), (0, .ref (a 0)), (1, .int (nI f)), (2, .int (bI so)), (3, .int (bI ot)), (4, .int (nI i))] dX6_must_33 (by rw [hnL]; rfl) rfl ?_
          refine g_iload_n hX dX6_must_35 3 rfl ?_
          refine g_if_ne hX 53 dX6_must_36 (by decide) (fun c36 => ?_) (fun c36 => ?_)
          · replace c36 := mt bI_0.mpr c36
            replace c36 := bNf c36
            refine g_iconst hX (nI 1) dX6_must_53 rfl ?_
            refine g_goto hX 58 dX6_must_54 (by decide) ?_
            refine g_istore_n hX (j := 2) [(2, .int (nI 1)), (5, .int (bI (woB C S i))), (0, .ref (a 0)), (1, .int (nI f)), (3, .int (bI ot)), (4, .int (nI i))] dX6_must_58 rfl (by rw [hnL]; rfl) rfl ?_
            refine g_iload_n hX dX6_must_59 4 rfl ?_
            refine g_if_ne hX 77 dX6_must_60 (by decide) (fun c60 => ?_) (fun c60 => ?_)
            · replace c60 := mt bI_0.mpr c60
              replace c60 := bNf c60
              refine g_iconst hX (nI 1) dX6_must_77 rfl ?_
              refine g_goto hX 82 dX6_must_78 (by decide) ?_
              refine g_istore_n hX (j := 3) [(3, .int (nI 1)), (2, .int (nI 1)), (5, .int (bI (woB C S i))), (0, .ref (a 0)), (1, .int (nI f)), (4, .int (nI i))] dX6_must_82 rfl (by rw [hnL]; rfl) rfl ?_
              refine g_iinc hX (j := 4) (nI (i + 1)) [(4, .int (nI (i + 1))), (3, .int (nI 1)), (2, .int (nI 1)), (5, .int (bI (woB C S i))), (0, .ref (a 0)), (1, .int (nI f))] dX6_must_83 5 rfl (iinc_n _ _) (by rw [hnL]; rfl) rfl ?_
              refine g_goto hX 20 dX6_must_86 (by decide) ?_
              exact g_lv _ [4, 5, 2, 1, 0] rfl (ih20 (i + 1) true true (by omega) (by omega) (by simp [anyB, ← hs, c24, c36, c60]) (by simp [anyB, ← ho, c24, c36, c60]))
            · replace c60 := bI_0.mp c60
              refine g_iload hX dX6_must_63 1 rfl ?_
              refine g_if_eq hX 81 dX6_must_65 (by decide) (fun c65 => ?_) (fun c65 => ?_)
              · replace c65 := bI_0.mp c65
                refine g_iconst hX (nI 0) dX6_must_81 rfl ?_
                refine g_istore_n hX (j := 3) [(3, .int (nI 0)), (2, .int (nI 1)), (5, .int (bI (woB C S i))), (0, .ref (a 0)), (1, .int (nI f)), (4, .int (nI i))] dX6_must_82 rfl (by rw [hnL]; rfl) rfl ?_
                refine g_iinc hX (j := 4) (nI (i + 1)) [(4, .int (nI (i + 1))), (3, .int (nI 0)), (2, .int (nI 1)), (5, .int (bI (woB C S i))), (0, .ref (a 0)), (1, .int (nI f))] dX6_must_83 5 rfl (iinc_n _ _) (by rw [hnL]; rfl) rfl ?_
                refine g_goto hX 20 dX6_must_86 (by decide) ?_
                exact g_lv _ [4, 5, 2, 1, 0] rfl (ih20 (i + 1) true false (by omega) (by omega) (by simp [anyB, ← hs, c24, c36, c60, c65]) (by simp [anyB, ← ho, c24, c36, c60, c65]))
              · replace c65 := mt bI_0.mpr c65
                replace c65 := bNf c65
                refine g_iload hX dX6_must_68 5 rfl ?_
                refine g_iload_n hX dX6_must_70 3 rfl ?_
                have hc71 : CUT (mw E a (mkMV (mT M) (mS M) (mA M) (mW M) (mK M) (mP M) (mE M) (mN M) (mX M) (mL M) (mI M) (mD M) (mR M) (mM M) (cpR ((mO M)) ((mS M)) 0 0) (mF M) (mU M) (mQ M) (mZ M) (mG M) (mH M))) (([] : va_W)) (mw E a (mkMV (mT M) (mS M) (mA M) (mW M) (mK M) (mP M) (mE M) (mN M) (mX M) (mL M) (mI M) (mD M) (mR M) (mM M) (cpR ((mO M)) ((mS M)) 0 0) (mF M) (mU M) (mQ M) (mZ M) (mG M) (mH M))) [] [0, 1, 2, 3, 4, 5, 6, 7, 8, 9, 10, 11, 12] := ⟨rfl, rfl, rfl, rfl, rfl⟩
                refine g_TI hX hc71 [.int (nI i), .int (nI f)] [] (c_X6_has l E i f (by first | assumption | omega) (by first | assumption | omega)) gX6_must_X6_has calX6_has rfl rfl rfl rfl dX6_must_71 rfl ⟨Nat.zero_le _, Nat.zero_le _⟩ (fun _ => mw E a (mkMV (mT M) (mS M) (mA M) (mW M) (mK M) (mP M) (mE M) (mN M) (mX M) (mL M) (mI M) (mD M) (mR M) (mM M) (cpR ((mO M)) ((mS M)) 0 0) (mF M) (mU M) (mQ M) (mZ M) (mG M) (mH M))) [0, 1, 2, 3, 4, 5, 6, 7, 8, 9, 10, 11, 12] rfl (fun _ => rfl) (fun _ hu71 => ?_)
                refine g_if_ne hX 81 dX6_must_74 (by decide) (fun c74 => ?_) (fun c74 => ?_)
                · replace c74 := mt bI_0.mpr c74
                  replace c74 := bNf c74
                  refine g_iconst hX (nI 0) dX6_must_81 rfl ?_
                  refine g_istore_n hX (j := 3) [(3, .int (nI 0)), (2, .int (nI 1)), (5, .int (bI (woB C S i))), (0, .ref (a 0)), (1, .int (nI f)), (4, .int (nI i))] dX6_must_82 rfl (by rw [hnL]; rfl) rfl ?_
                  refine g_iinc hX (j := 4) (nI (i + 1)) [(4, .int (nI (i + 1))), (3, .int (nI 0)), (2, .int (nI 1)), (5, .int (bI (woB C S i))), (0, .ref (a 0)), (1, .int (nI f))] dX6_must_83 5 rfl (iinc_n _ _) (by rw [hnL]; rfl) rfl ?_
                  refine g_goto hX 20 dX6_must_86 (by decide) ?_
                  exact g_lv _ [4, 5, 2, 1, 0] rfl (ih20 (i + 1) true false (by omega) (by omega) (by simp [anyB, ← hs, c24, c36, c60, c65, c74]) (by simp [anyB, ← ho, c24, c36, c60, c65, c74]))
                · replace c74 := bI_0.mp c74
                  refine g_iconst hX (nI 1) dX6_must_77 rfl ?_
                  refine g_goto hX 82 dX6_must_78 (by decide) ?_
                  refine g_istore_n hX (j := 3) [(3, .int (nI 1)), (2, .int (nI 1)), (5, .int (bI (woB C S i))), (0, .ref (a 0)), (1, .int (nI f)), (4, .int (nI i))] dX6_must_82 rfl (by rw [hnL]; rfl) rfl ?_
                  refine g_iinc hX (j := 4) (nI (i + 1)) [(4, .int (nI (i + 1))), (3, .int (nI 1)), (2, .int (nI 1)), (5, .int (bI (woB C S i))), (0, .ref (a 0)), (1, .int (nI f))] dX6_must_83 5 rfl (iinc_n _ _) (by rw [hnL]; rfl) rfl ?_
                  refine g_goto hX 20 dX6_must_86 (by decide) ?_
                  exact g_lv _ [4, 5, 2, 1, 0] rfl (ih20 (i + 1) true true (by omega) (by omega) (by simp [anyB, ← hs, c24, c36, c60, c65, c74]) (by simp [anyB, ← ho, c24, c36, c60, c65, c74]))
          · replace c36 := bI_0.mp c36
            refine g_iload hX dX6_must_39 0 rfl ?_
            refine g_if_eq hX 57 dX6_must_41 (by decide) (fun c41 => ?_) (fun c41 => ?_)
            · replace c41 := bI_0.mp c41
              refine g_iconst hX (nI 0) dX6_must_57 rfl ?_
              refine g_istore_n hX (j := 2) [(2, .int (nI 0)), (5, .int (bI (woB C S i))), (0, .ref (a 0)), (1, .int (nI f)), (3, .int (bI ot)), (4, .int (nI i))] dX6_must_58 rfl (by rw [hnL]; rfl) rfl ?_
              refine g_iload_n hX dX6_must_59 4 rfl ?_
              refine g_if_ne hX 77 dX6_must_60 (by decide) (fun c60 => ?_) (fun c60 => ?_)
              · replace c60 := mt bI_0.mpr c60
                replace c60 := bNf c60
                refine g_iconst hX (nI 1) dX6_must_77 rfl ?_
                refine g_goto hX 82 dX6_must_78 (by decide) ?_
                refine g_istore_n hX (j := 3) [(3, .int (nI 1)), (2, .int (nI 0)), (5, .int (bI (woB C S i))), (0, .ref (a 0)), (1, .int (nI f)), (4, .int (nI i))] dX6_must_82 rfl (by rw [hnL]; rfl) rfl ?_
                refine g_iinc hX (j := 4) (nI (i + 1)) [(4, .int (nI (i + 1))), (3, .int (nI 1)), (2, .int (nI 0)), (5, .int (bI (woB C S i))), (0, .ref (a 0)), (1, .int (nI f))] dX6_must_83 5 rfl (iinc_n _ _) (by rw [hnL]; rfl) rfl ?_
                refine g_goto hX 20 dX6_must_86 (by decide) ?_
                exact g_lv _ [4, 5, 2, 1, 0] rfl (ih20 (i + 1) false true (by omega) (by omega) (by simp [anyB, ← hs, c24, c36, c41, c60]) (by simp [anyB, ← ho, c24, c36, c41, c60]))
              · replace c60 := bI_0.mp c60
                refine g_iload hX dX6_must_63 1 rfl ?_
                refine g_if_eq hX 81 dX6_must_65 (by decide) (fun c65 => ?_) (fun c65 => ?_)
                · replace c65 := bI_0.mp c65
                  refine g_iconst hX (nI 0) dX6_must_81 rfl ?_
                  refine g_istore_n hX (j := 3) [(3, .int (nI 0)), (2, .int (nI 0)), (5, .int (bI (woB C S i))), (0, .ref (a 0)), (1, .int (nI f)), (4, .int (nI i))] dX6_must_82 rfl (by rw [hnL]; rfl) rfl ?_
                  refine g_iinc hX (j := 4) (nI (i + 1)) [(4, .int (nI (i + 1))), (3, .int (nI 0)), (2, .int (nI 0)), (5, .int (bI (woB C S i))), (0, .ref (a 0)), (1, .int (nI f))] dX6_must_83 5 rfl (iinc_n _ _) (by rw [hnL]; rfl) rfl ?_
                  refine g_goto hX 20 dX6_must_86 (by decide) ?_
                  exact g_lv _ [4, 5, 2, 1, 0] rfl (ih20 (i + 1) false false (by omega) (by omega) (by simp [anyB, ← hs, c24, c36, c41, c60, c65]) (by simp [anyB, ← ho, c24, c36, c41, c60, c65]))
                · replace c65 := mt bI_0.mpr c65
                  replace c65 := bNf c65
                  exact absurd (c41.symm.trans c65) (by decide)
            · replace c41 := mt bI_0.mpr c41
              replace c41 := bNf c41
              refine g_iload hX dX6_must_44 5 rfl ?_
              refine g_iload_n hX dX6_must_46 2 rfl ?_
              have hc47 : CUT (mw E a (mkMV (mT M) (mS M) (mA M) (mW M) (mK M) (mP M) (mE M) (mN M) (mX M) (mL M) (mI M) (mD M) (mR M) (mM M) (cpR ((mO M)) ((mS M)) 0 0) (mF M) (mU M) (mQ M) (mZ M) (mG M) (mH M))) (([] : va_W)) (mw E a (mkMV (mT M) (mS M) (mA M) (mW M) (mK M) (mP M) (mE M) (mN M) (mX M) (mL M) (mI M) (mD M) (mR M) (mM M) (cpR ((mO M)) ((mS M)) 0 0) (mF M) (mU M) (mQ M) (mZ M) (mG M) (mH M))) [] [0, 1, 2, 3, 4, 5, 6, 7, 8, 9, 10, 11, 12] := ⟨rfl, rfl, rfl, rfl, rfl⟩
              refine g_TI hX hc47 [.int (nI i), .int (nI f)] [] (c_X6_has l E i f (by first | assumption | omega) (by first | assumption | omega)) gX6_must_X6_has calX6_has rfl rfl rfl rfl dX6_must_47 rfl ⟨Nat.zero_le _, Nat.zero_le _⟩ (fun _ => mw E a (mkMV (mT M) (mS M) (mA M) (mW M) (mK M) (mP M) (mE M) (mN M) (mX M) (mL M) (mI M) (mD M) (mR M) (mM M) (cpR ((mO M)) ((mS M)) 0 0) (mF M) (mU M) (mQ M) (mZ M) (mG M) (mH M))) [0, 1, 2, 3, 4, 5, 6, 7, 8, 9, 10, 11, 12] rfl (fun _ => rfl) (fun _ hu47 => ?_)
              refine g_if_eq hX 57 dX6_must_50 (by decide) (fun c50 => ?_) (fun c50 => ?_)
              · replace c50 := bI_0.mp c50
                refine g_iconst hX (nI 0) dX6_must_57 rfl ?_
                refine g_istore_n hX (j := 2) [(2, .int (nI 0)), (5, .int (bI (woB C S i))), (0, .ref (a 0)), (1, .int (nI f)), (3, .int (bI ot)), (4, .int (nI i))] dX6_must_58 rfl (by rw [hnL]; rfl) rfl ?_
                refine g_iload_n hX dX6_must_59 4 rfl ?_
                refine g_if_ne hX 77 dX6_must_60 (by decide) (fun c60 => ?_) (fun c60 => ?_)
                · replace c60 := mt bI_0.mpr c60
                  replace c60 := bNf c60
                  refine g_iconst hX (nI 1) dX6_must_77 rfl ?_
                  refine g_goto hX 82 dX6_must_78 (by decide) ?_
                  refine g_istore_n hX (j := 3) [(3, .int (nI 1)), (2, .int (nI 0)), (5, .int (bI (woB C S i))), (0, .ref (a 0)), (1, .int (nI f)), (4, .int (nI i))] dX6_must_82 rfl (by rw [hnL]; rfl) rfl ?_
                  refine g_iinc hX (j := 4) (nI (i + 1)) [(4, .int (nI (i + 1))), (3, .int (nI 1)), (2, .int (nI 0)), (5, .int (bI (woB C S i))), (0, .ref (a 0)), (1, .int (nI f))] dX6_must_83 5 rfl (iinc_n _ _) (by rw [hnL]; rfl) rfl ?_
                  refine g_goto hX 20 dX6_must_86 (by decide) ?_
                  exact g_lv _ [4, 5, 2, 1, 0] rfl (ih20 (i + 1) false true (by omega) (by omega) (by simp [anyB, ← hs, c24, c36, c41, c50, c60]) (by simp [anyB, ← ho, c24, c36, c41, c50, c60]))
                · replace c60 := bI_0.mp c60
                  refine g_iload hX dX6_must_63 1 rfl ?_
                  refine g_if_eq hX 81 dX6_must_65 (by decide) (fun c65 => ?_) (fun c65 => ?_)
                  · replace c65 := bI_0.mp c65
                    exact absurd (c41.symm.trans c65) (by decide)
                  · replace c65 := mt bI_0.mpr c65
                    replace c65 := bNf c65
                    refine g_iload hX dX6_must_68 5 rfl ?_
                    refine g_iload_n hX dX6_must_70 3 rfl ?_
                    have hc71 : CUT (mw E a (mkMV (mT M) (mS M) (mA M) (mW M) (mK M) (mP M) (mE M) (mN M) (mX M) (mL M) (mI M) (mD M) (mR M) (mM M) (cpR ((mO M)) ((mS M)) 0 0) (mF M) (mU M) (mQ M) (mZ M) (mG M) (mH M))) (([] : va_W)) (mw E a (mkMV (mT M) (mS M) (mA M) (mW M) (mK M) (mP M) (mE M) (mN M) (mX M) (mL M) (mI M) (mD M) (mR M) (mM M) (cpR ((mO M)) ((mS M)) 0 0) (mF M) (mU M) (mQ M) (mZ M) (mG M) (mH M))) [] [0, 1, 2, 3, 4, 5, 6, 7, 8, 9, 10, 11, 12] := ⟨rfl, rfl, rfl, rfl, rfl⟩
                    refine g_TI hX hc71 [.int (nI i), .int (nI f)] [] (c_X6_has l E i f (by first | assumption | omega) (by first | assumption | omega)) gX6_must_X6_has calX6_has rfl rfl rfl rfl dX6_must_71 rfl ⟨Nat.zero_le _, Nat.zero_le _⟩ (fun _ => mw E a (mkMV (mT M) (mS M) (mA M) (mW M) (mK M) (mP M) (mE M) (mN M) (mX M) (mL M) (mI M) (mD M) (mR M) (mM M) (cpR ((mO M)) ((mS M)) 0 0) (mF M) (mU M) (mQ M) (mZ M) (mG M) (mH M))) [0, 1, 2, 3, 4, 5, 6, 7, 8, 9, 10, 11, 12] rfl (fun _ => rfl) (fun _ hu71 => ?_)
                    refine g_if_ne hX 81 dX6_must_74 (by decide) (fun c74 => ?_) (fun c74 => ?_)
                    · replace c74 := mt bI_0.mpr c74
                      replace c74 := bNf c74
                      exact absurd (c50.symm.trans c74) (by decide)
                    · replace c74 := bI_0.mp c74
                      refine g_iconst hX (nI 1) dX6_must_77 rfl ?_
                      refine g_goto hX 82 dX6_must_78 (by decide) ?_
                      refine g_istore_n hX (j := 3) [(3, .int (nI 1)), (2, .int (nI 0)), (5, .int (bI (woB C S i))), (0, .ref (a 0)), (1, .int (nI f)), (4, .int (nI i))] dX6_must_82 rfl (by rw [hnL]; rfl) rfl ?_
                      refine g_iinc hX (j := 4) (nI (i + 1)) [(4, .int (nI (i + 1))), (3, .int (nI 1)), (2, .int (nI 0)), (5, .int (bI (woB C S i))), (0, .ref (a 0)), (1, .int (nI f))] dX6_must_83 5 rfl (iinc_n _ _) (by rw [hnL]; rfl) rfl ?_
                      refine g_goto hX 20 dX6_must_86 (by decide) ?_
                      exact g_lv _ [4, 5, 2, 1, 0] rfl (ih20 (i + 1) false true (by omega) (by omega) (by simp [anyB, ← hs, c24, c36, c41, c50, c60, c65, c74]) (by simp [anyB, ← ho, c24, c36, c41, c50, c60, c65, c74]))
              · replace c50 := mt bI_0.mpr c50
                replace c50 := bNf c50
                refine g_iconst hX (nI 1) dX6_must_53 rfl ?_
                refine g_goto hX 58 dX6_must_54 (by decide) ?_
                refine g_istore_n hX (j := 2) [(2, .int (nI 1)), (5, .int (bI (woB C S i))), (0, .ref (a 0)), (1, .int (nI f)), (3, .int (bI ot)), (4, .int (nI i))] dX6_must_58 rfl (by rw [hnL]; rfl) rfl ?_
                refine g_iload_n hX dX6_must_59 4 rfl ?_
                refine g_if_ne hX 77 dX6_must_60 (by decide) (fun c60 => ?_) (fun c60 => ?_)
                · replace c60 := mt bI_0.mpr c60
                  replace c60 := bNf c60
                  refine g_iconst hX (nI 1) dX6_must_77 rfl ?_
                  refine g_goto hX 82 dX6_must_78 (by decide) ?_
                  refine g_istore_n hX (j := 3) [(3, .int (nI 1)), (2, .int (nI 1)), (5, .int (bI (woB C S i))), (0, .ref (a 0)), (1, .int (nI f)), (4, .int (nI i))] dX6_must_82 rfl (by rw [hnL]; rfl) rfl ?_
                  refine g_iinc hX (j := 4) (nI (i + 1)) [(4, .int (nI (i + 1))), (3, .int (nI 1)), (2, .int (nI 1)), (5, .int (bI (woB C S i))), (0, .ref (a 0)), (1, .int (nI f))] dX6_must_83 5 rfl (iinc_n _ _) (by rw [hnL]; rfl) rfl ?_
                  refine g_goto hX 20 dX6_must_86 (by decide) ?_
                  exact g_lv _ [4, 5, 2, 1, 0] rfl (ih20 (i + 1) true true (by omega) (by omega) (by simp [anyB, ← hs, c24, c36, c41, c50, c60]) (by simp [anyB, ← ho, c24, c36, c41, c50, c60]))
                · replace c60 := bI_0.mp c60
                  refine g_iload hX dX6_must_63 1 rfl ?_
                  refine g_if_eq hX 81 dX6_must_65 (by decide) (fun c65 => ?_) (fun c65 => ?_)
                  · replace c65 := bI_0.mp c65
                    exact absurd (c41.symm.trans c65) (by decide)
                  · replace c65 := mt bI_0.mpr c65
                    replace c65 := bNf c65
                    refine g_iload hX dX6_must_68 5 rfl ?_
                    refine g_iload_n hX dX6_must_70 3 rfl ?_
                    have hc71 : CUT (mw E a (mkMV (mT M) (mS M) (mA M) (mW M) (mK M) (mP M) (mE M) (mN M) (mX M) (mL M) (mI M) (mD M) (mR M) (mM M) (cpR ((mO M)) ((mS M)) 0 0) (mF M) (mU M) (mQ M) (mZ M) (mG M) (mH M))) (([] : va_W)) (mw E a (mkMV (mT M) (mS M) (mA M) (mW M) (mK M) (mP M) (mE M) (mN M) (mX M) (mL M) (mI M) (mD M) (mR M) (mM M) (cpR ((mO M)) ((mS M)) 0 0) (mF M) (mU M) (mQ M) (mZ M) (mG M) (mH M))) [] [0, 1, 2, 3, 4, 5, 6, 7, 8, 9, 10, 11, 12] := ⟨rfl, rfl, rfl, rfl, rfl⟩
                    refine g_TI hX hc71 [.int (nI i), .int (nI f)] [] (c_X6_has l E i f (by first | assumption | omega) (by first | assumption | omega)) gX6_must_X6_has calX6_has rfl rfl rfl rfl dX6_must_71 rfl ⟨Nat.zero_le _, Nat.zero_le _⟩ (fun _ => mw E a (mkMV (mT M) (mS M) (mA M) (mW M) (mK M) (mP M) (mE M) (mN M) (mX M) (mL M) (mI M) (mD M) (mR M) (mM M) (cpR ((mO M)) ((mS M)) 0 0) (mF M) (mU M) (mQ M) (mZ M) (mG M) (mH M))) [0, 1, 2, 3, 4, 5, 6, 7, 8, 9, 10, 11, 12] rfl (fun _ => rfl) (fun _ hu71 => ?_)
                    refine g_if_ne hX 81 dX6_must_74 (by decide) (fun c74 => ?_) (fun c74 => ?_)
                    · replace c74 := mt bI_0.mpr c74
                      replace c74 := bNf c74
                      refine g_iconst hX (nI 0) dX6_must_81 rfl ?_
                      refine g_istore_n hX (j := 3) [(3, .int (nI 0)), (2, .int (nI 1)), (5, .int (bI (woB C S i))), (0, .ref (a 0)), (1, .int (nI f)), (4, .int (nI i))] dX6_must_82 rfl (by rw [hnL]; rfl) rfl ?_
                      refine g_iinc hX (j := 4) (nI (i + 1)) [(4, .int (nI (i + 1))), (3, .int (nI 0)), (2, .int (nI 1)), (5, .int (bI (woB C S i))), (0, .ref (a 0)), (1, .int (nI f))] dX6_must_83 5 rfl (iinc_n _ _) (by rw [hnL]; rfl) rfl ?_
                      refine g_goto hX 20 dX6_must_86 (by decide) ?_
                      exact g_lv _ [4, 5, 2, 1, 0] rfl (ih20 (i + 1) true false (by omega) (by omega) (by simp [anyB, ← hs, c24, c36, c41, c50, c60, c65, c74]) (by simp [anyB, ← ho, c24, c36, c41, c50, c60, c65, c74]))
                    · replace c74 := bI_0.mp c74
                      exact absurd (c50.symm.trans c74) (by decide)
    exact g_lv _ [3, 4, 2, 1, 0] rfl (lp20 _ 0 false false (Nat.lt_succ_self _) (Nat.zero_le _) rfl rfl)
  · replace c4 := bI_0.mp c4
    exact absurd c4 (by simp)
set_option maxHeartbeats 4000000 in
set_option maxRecDepth 100000 in
theorem c_X6_liars_n (l : Launch) (E : EV) (a : Nat → Nat) (M : MV) (C : FC) (m : Nat) (x0 : Int32) (hD : DI C m) (hm : m < 2 ^ 29) (hN1 : 1 ≤ cN C) (hS : RW C (mS M)) (hTm : cT C = mT M) (hx : win x0 (nI 0) (nI 1) = false) : KI l yX6_liars wsX6_liars (rmN 5) E (σ := MV) [.ref (a 0), .int x0] (mw E a M) (fun u => KS M u) (fun u => (-1)) (fun u => mw E a u) 0 0 := by
  refine KI.of (cc := cX6_liars) (maxL := 7) (ty := .int) (hnar := fun _ _ => rfl) rfl rfl rfl (fun x hX hin hret hnL => ?_)
  replace hX : CX x l cX6_liars RX6 wsX6_liars E (rmN 5) := hX
  show GG x 0 0 (mw E a M) 0 [(0, .ref (a 0)), (1, .int x0)] []
  obtain ⟨hC, hVY, hZ, hYm⟩ := id hD
  obtain ⟨⟨h9, h64, h512, hT, hI⟩, hK⟩ := id hC
  have hV := DI_VB hD (by omega)
  refine g_iload_n hX dX6_liars_0 1 rfl ?_
  refine g_iconst hX (nI 0) dX6_liars_1 rfl ?_
  refine g_iconst hX (nI 1) dX6_liars_2 rfl ?_
  have hc3 : CUT (mw E a M) (([] : va_W)) (mw E a M) [] [0, 1, 2, 3, 4, 5, 6, 7, 8, 9, 10, 11, 12] := ⟨rfl, rfl, rfl, rfl, rfl⟩
  refine g_TI hX hc3 [.int x0, .int (nI 0), .int (nI 1)] [] (c_X6_in_n l E x0 (nI 0) (nI 1) (by first | assumption | omega)) gX6_liars_X6_in calX6_in rfl rfl rfl rfl dX6_liars_3 rfl ⟨Nat.zero_le _, Nat.zero_le _⟩ (fun _ => mw E a M) [0, 1, 2, 3, 4, 5, 6, 7, 8, 9, 10, 11, 12] rfl (fun _ => rfl) (fun _ hu3 => ?_)
  refine g_if_ne hX 11 dX6_liars_6 (by decide) (fun c6 => ?_) (fun c6 => ?_)
  · replace c6 := mt bI_0.mpr c6
    replace c6 := bNf c6
    exact absurd c6 (by simp)
  · replace c6 := bI_0.mp c6
    refine g_iconst hX ((-1)) dX6_liars_9 rfl ?_
    exact g_eq rfl rfl rfl (hret M _ _ (⟨⟨rfl, rfl, rfl, rfl, rfl, rfl, rfl⟩, ⟨rfl, rfl⟩, rfl⟩) dX6_liars_10)
set_option maxHeartbeats 4000000 in
set_option maxRecDepth 100000 in
theorem c_X6_liars_y (l : Launch) (E : EV) (a : Nat → Nat) (M : MV) (C : FC) (m : Nat) (S : SC) (q : Nat) (hD : DI C m) (hm : m < 2 ^ 29) (hN1 : 1 ≤ cN C) (hS : RW C (mS M)) (hTm : cT C = mT M) (hE : ES M S) (hq : q ≤ 1) : KI l yX6_liars wsX6_liars (rmN 5) E (σ := MV) [.ref (a 0), .int (nI q)] (mw E a M) (fun u => KS M u) (fun u => (if q = 0 then liF C S 64 else liW C S 64)) (fun u => mw E a u) 0 0 := by
  refine KI.of (cc := cX6_liars) (maxL := 7) (ty := .int) (hnar := fun _ _ => rfl) rfl rfl rfl (fun x hX hin hret hnL => ?_)
  replace hX : CX x l cX6_liars RX6 wsX6_liars E (rmN 5) := hX
  show GG x 0 0 (mw E a M) 0 [(0, .ref (a 0)), (1, .int (nI q))] []
  obtain ⟨hC, hVY, hZ, hYm⟩ := id hD
  obtain ⟨⟨h9, h64, h512, hT, hI⟩, hK⟩ := id hC
  have hV := DI_VB hD (by omega)
  have hP : ∀ i, i < cN C → cP C i < 6 := fun i hi => (hI i hi).1
  have hNO := RB_cp (f := mO M) h9 hS.1
  refine g_iload_n hX dX6_liars_0 1 rfl ?_
  refine g_iconst hX (nI 0) dX6_liars_1 rfl ?_
  refine g_iconst hX (nI 1) dX6_liars_2 rfl ?_
  have hc3 : CUT (mw E a M) (([] : va_W)) (mw E a M) [] [0, 1, 2, 3, 4, 5, 6, 7, 8, 9, 10, 11, 12] := ⟨rfl, rfl, rfl, rfl, rfl⟩
  refine g_TI hX hc3 [.int (nI q), .int (nI 0), .int (nI 1)] [] (c_X6_in_y l E q 0 1 (by omega) (by omega) (by omega)) gX6_liars_X6_in calX6_in rfl rfl rfl rfl dX6_liars_3 rfl ⟨Nat.zero_le _, Nat.zero_le _⟩ (fun _ => mw E a M) [0, 1, 2, 3, 4, 5, 6, 7, 8, 9, 10, 11, 12] rfl (fun _ => rfl) (fun _ hu3 => ?_)
  refine g_if_ne hX 11 dX6_liars_6 (by decide) (fun c6 => ?_) (fun c6 => ?_)
  · replace c6 := mt bI_0.mpr c6
    replace c6 := bNf c6
    refine g_aload_n hX dX6_liars_11 0 rfl ?_
    have hc12 : CUT (mw E a M) (mw E a M) (([] : va_W)) [0, 1, 2, 3, 4, 5, 6, 7, 8, 9, 10, 11, 12] [] := ⟨rfl, rfl, rfl, rfl, rfl⟩
    refine g_VV hX hc12 [] [] (c_X6_asItIs l E a M) gX6_liars_X6_asItIs calX6_asItIs rfl rfl rfl rfl 0 rfl rfl rfl rfl dX6_liars_12 rfl ⟨Nat.zero_le _, Nat.zero_le _⟩ (fun _ => mw E a (mkMV (mT M) (mS M) (mA M) (mW M) (mK M) (mP M) (mE M) (mN M) (mX M) (mL M) (mI M) (mD M) (mR M) (mM M) (cpR ((mO M)) ((mS M)) 0 0) (mF M) (mU M) (mQ M) (mZ M) (mG M) (mH M))) [0, 1, 2, 3, 4, 5, 6, 7, 8, 9, 10, 11, 12] rfl (fun _ => rfl) (fun _ hu12 => ?_)
    refine g_bipush hX ((-4)) dX6_liars_15 rfl ?_
    refine g_istore_n hX (j := 2) [(2, .int (-4)), (0, .ref (a 0)), (1, .int (nI q))] dX6_liars_17 rfl (by rw [hnL]; rfl) rfl ?_
    refine g_bipush hX ((-4)) dX6_liars_18 rfl ?_
    refine g_istore_n hX (j := 3) [(3, .int (-4)), (2, .int (-4)), (0, .ref (a 0)), (1, .int (nI q))] dX6_liars_20 rfl (by rw [hnL]; rfl) rfl ?_
    refine g_iconst hX (nI 0) dX6_liars_21 rfl ?_
    refine g_istore hX (j := 4) [(4, .int (nI 0)), (3, .int (-4)), (2, .int (-4)), (0, .ref (a 0)), (1, .int (nI q))] dX6_liars_22 (by rw [hnL]; rfl) rfl ?_
    have lp24 : ∀ (fuel : Nat) (i : Nat) (fe : Int32) (wo : Int32), 64 - i < fuel → (i ≤ 64) → (fe = liF C S i) → (wo = liW C S i) → GG x 0 0 (mw E a (mkMV (mT M) (mS M) (mA M) (mW M) (mK M) (mP M) (mE M) (mN M) (mX M) (mL M) (mI M) (mD M) (mR M) (mM M) (cpR ((mO M)) ((mS M)) 0 0) (mF M) (mU M) (mQ M) (mZ M) (mG M) (mH M))) 24 [(0, .ref (a 0)), (1, .int (nI q)), (2, .int fe), (3, .int wo), (4, .int (nI i))] [] := by
      intro fuel
      induction fuel with
      | zero => intro i fe wo hm; exact absurd hm (Nat.not_lt_zero _)
      | succ fuel ih24 =>
        intro i fe wo hm24 hi hfe hwo
        refine g_iload hX dX6_liars_24 4 rfl ?_
        refine g_bipush hX (nI 64) dX6_liars_26 rfl ?_
        refine g_icmp_ge hX 95 dX6_liars_28 (by decide) (fun c28 => ?_) (fun c28 => ?_)
        · replace c28 := (nI_leI (by omega) (by omega)).mp c28
          refine g_iload_n hX dX6_liars_95 1 rfl ?_
          refine g_if_ne hX 103 dX6_liars_96 (by decide) (fun c96 => ?_) (fun c96 => ?_)
          · replace c96 := mt (nz_eq (by omega)).mpr c96
            refine g_iload_n hX dX6_liars_103 3 rfl ?_
            exact g_eq rfl rfl (congrArg (fun z => [Value.int z]) (by show _ = ite _ _ _; rw [show i = 64 by omega] at hfe hwo; first | (rw [if_pos c96]; exact hfe) | (rw [if_neg c96]; exact hwo))) (hret (mkMV (mT M) (mS M) (mA M) (mW M) (mK M) (mP M) (mE M) (mN M) (mX M) (mL M) (mI M) (mD M) (mR M) (mM M) (cpR ((mO M)) ((mS M)) 0 0) (mF M) (mU M) (mQ M) (mZ M) (mG M) (mH M)) _ _ (⟨⟨rfl, rfl, rfl, rfl, rfl, rfl, rfl⟩, ⟨rfl, rfl⟩, rfl⟩) dX6_liars_104)
          · replace c96 := (nz_eq (by omega)).mp c96
            refine g_iload_n hX dX6_liars_99 2 rfl ?_
            refine g_goto hX 104 dX6_liars_100 (by decide) ?_
            exact g_eq rfl rfl (congrArg (fun z => [Value.int z]) (by show _ = ite _ _ _; rw [show i = 64 by omega] at hfe hwo; first | (rw [if_pos c96]; exact hfe) | (rw [if_neg c96]; exact hwo))) (hret (mkMV (mT M) (mS M) (mA M) (mW M) (mK M) (mP M) (mE M) (mN M) (mX M) (mL M) (mI M) (mD M) (mR M) (mM M) (cpR ((mO M)) ((mS M)) 0 0) (mF M) (mU M) (mQ M) (mZ M) (mG M) (mH M)) _ _ (⟨⟨rfl, rfl, rfl, rfl, rfl, rfl, rfl⟩, ⟨rfl, rfl⟩, rfl⟩) dX6_liars_104)
        · replace c28 := mt (nI_leI (by omega) (by omega)).mpr c28
          refine g_aload_n hX dX6_liars_31 0 rfl ?_
          refine g_iload hX dX6_liars_32 4 rfl ?_
          have hc34 : CUT (mw E a (mkMV (mT M) (mS M) (mA M) (mW M) (mK M) (mP M) (mE M) (mN M) (mX M) (mL M) (mI M) (mD M) (mR M) (mM M) (cpR ((mO M)) ((mS M)) 0 0) (mF M) (mU M) (mQ M) (mZ M) (mG M) (mH M))) (mw E a (mkMV (mT M) (mS M) (mA M) (mW M) (mK M) (mP M) (mE M) (mN M) (mX M) (mL M) (mI M) (mD M) (mR M) (mM M) (cpR ((mO M)) ((mS M)) 0 0) (mF M) (mU M) (mQ M) (mZ M) (mG M) (mH M))) (([] : va_W)) [0, 1, 2, 3, 4, 5, 6, 7, 8, 9, 10, 11, 12] [] := ⟨rfl, rfl, rfl, rfl, rfl⟩
          refine g_VI hX hc34 [.int (nI i)] [] (c_X6_liarsIn l E a (mkMV (mT M) (mS M) (mA M) (mW M) (mK M) (mP M) (mE M) (mN M) (mX M) (mL M) (mI M) (mD M) (mR M) (mM M) (cpR ((mO M)) ((mS M)) 0 0) (mF M) (mU M) (mQ M) (mZ M) (mG M) (mH M)) C i (by first | assumption | omega) hNO (by omega)) gX6_liars_X6_liarsIn calX6_liarsIn rfl rfl rfl rfl 0 rfl rfl rfl rfl dX6_liars_34 rfl ⟨Nat.zero_le _, Nat.zero_le _⟩ (fun _ => mw E a (mkMV (mT M) (mS M) (mA M) (mW M) (mK M) (mP M) (mE M) (mN M) (mX M) (mL M) (mI M) (mD M) (mR M) (mM M) (cpR ((mO M)) ((mS M)) 0 0) (mF M) (mU M) (mQ M) (mZ M) (mG M) (mH M))) [0, 1, 2, 3, 4, 5, 6, 7, 8, 9, 10, 11, 12] rfl (fun _ => rfl) (fun _ hu34 => ?_)
          refine g_istore hX (j := 5) [(5, .int (nI (pop (liM C i (cN C))))), (0, .ref (a 0)), (1, .int (nI q)), (2, .int fe), (3, .int wo), (4, .int (nI i))] dX6_liars_37 (by rw [hnL]; rfl) rfl ?_
          refine g_aload_n hX dX6_liars_39 1 rfl ?_
          refine g_iload hX dX6_liars_40 5 rfl ?_
          have hc42 : CUT (mw E a (mkMV (mT M) (mS M) (mA M) (mW M) (mK M) (mP M) (mE M) (mN M) (mX M) (mL M) (mI M) (mD M) (mR M) (mM M) (cpR ((mO M)) ((mS M)) 0 0) (mF M) (mU M) (mQ M) (mZ M) (mG M) (mH M))) (mw E a (mkMV (mT M) (mS M) (mA M) (mW M) (mK M) (mP M) (mE M) (mN M) (mX M) (mL M) (mI M) (mD M) (mR M) (mM M) (cpR ((mO M)) ((mS M)) 0 0) (mF M) (mU M) (mQ M) (mZ M) (mG M) (mH M))) (([] : va_W)) [0, 1, 2, 3, 4, 5, 6, 7, 8, 9, 10, 11, 12] [] := ⟨rfl, rfl, rfl, rfl, rfl⟩
          refine g_VI hX hc42 [.int (nI i)] [] (c_X6_isWorld l E a (mkMV (mT M) (mS M) (mA M) (mW M) (mK M) (mP M) (mE M) (mN M) (mX M) (mL M) (mI M) (mD M) (mR M) (mM M) (cpR ((mO M)) ((mS M)) 0 0) (mF M) (mU M) (mQ M) (mZ M) (mG M) (mH M)) C S i (by first | assumption | omega) hNO hE (by omega)) gX6_liars_X6_isWorld calX6_isWorld rfl rfl rfl rfl 0 rfl rfl rfl rfl dX6_liars_42 rfl ⟨Nat.zero_le _, Nat.zero_le _⟩ (fun _ => mw E a (mkMV (mT M) (mS M) (mA M) (mW M) (mK M) (mP M) (mE M) (mN M) (mX M) (mL M) (mI M) (mD M) (mR M) (mM M) (cpR ((mO M)) ((mS M)) 0 0) (mF M) (mU M) (mQ M) (mZ M) (mG M) (mH M))) [0, 1, 2, 3, 4, 5, 6, 7, 8, 9, 10, 11, 12] rfl (fun _ => rfl) (fun _ hu42 => ?_)
          refine g_if_eq hX 62 dX6_liars_45 (by decide) (fun c45 => ?_) (fun c45 => ?_)
          · replace c45 := bI_0.mp c45
            refine g_iconst hX (nI 0) dX6_liars_62 rfl ?_
            refine g_istore hX (j := 6) [(6, .int (nI 0)), (5, .int (nI (pop (liM C i (cN C))))), (0, .ref (a 0)), (1, .int (nI q)), (2, .int fe), (3, .int wo), (4, .int (nI i))] dX6_liars_63 (by rw [hnL]; rfl) rfl ?_
            refine g_iload hX dX6_liars_65 0 rfl ?_
            refine g_if_eq hX 75 dX6_liars_67 (by decide) (fun c67 => ?_) (fun c67 => ?_)
            · replace c67 := (nz_eq (by omega)).mp c67
              refine g_iload_n hX dX6_liars_75 5 rfl ?_
              refine g_istore_n hX (j := 3) [(3, .int wo), (6, .int (nI 0)), (5, .int (nI (pop (liM C i (cN C))))), (0, .ref (a 0)), (1, .int (nI q)), (2, .int fe), (4, .int (nI i))] dX6_liars_76 rfl (by rw [hnL]; rfl) rfl ?_
              refine g_iload hX dX6_liars_77 1 rfl ?_
              refine g_if_eq hX 87 dX6_liars_79 (by decide) (fun c79 => ?_) (fun c79 => ?_)
              · replace c79 := (nz_eq (by omega)).mp c79
                refine g_iload_n hX dX6_liars_87 5 rfl ?_
                refine g_istore_n hX (j := 2) [(2, .int fe), (3, .int wo), (6, .int (nI 0)), (5, .int (nI (pop (liM C i (cN C))))), (0, .ref (a 0)), (1, .int (nI q)), (4, .int (nI i))] dX6_liars_88 rfl (by rw [hnL]; rfl) rfl ?_
                refine g_iinc hX (j := 4) (nI (i + 1)) [(4, .int (nI (i + 1))), (2, .int fe), (3, .int wo), (6, .int (nI 0)), (5, .int (nI (pop (liM C i (cN C))))), (0, .ref (a 0)), (1, .int (nI q))] dX6_liars_89 6 rfl (iinc_n _ _) (by rw [hnL]; rfl) rfl ?_
                refine g_goto hX 24 dX6_liars_92 (by decide) ?_
                exact g_lv _ [5, 6, 1, 2, 0] rfl (ih24 (i + 1) fe wo (by omega) (by omega) (by first | (rw [(li_no1 c45).1]; exact hfe) | (rw [(li_no2 hP (hfe ▸ c49) (hfe ▸ c55)).1]; exact hfe) | exact (li_yes hP c45 (Or.inl (hfe ▸ c49))).1.symm | exact (li_yes hP c45 (Or.inr (hfe ▸ c55))).1.symm) (by first | (rw [(li_no1 c45).2]; exact hwo) | (rw [(li_no2 hP (hfe ▸ c49) (hfe ▸ c55)).2]; exact hwo) | exact (li_yes hP c45 (Or.inl (hfe ▸ c49))).2.symm | exact (li_yes hP c45 (Or.inr (hfe ▸ c55))).2.symm))
              · replace c79 := mt (nz_eq (by omega)).mpr c79
                exact absurd c79 (by simp)
            · replace c67 := mt (nz_eq (by omega)).mpr c67
              exact absurd c67 (by simp)
          · replace c45 := mt bI_0.mpr c45
            replace c45 := bNf c45
            refine g_iload_n hX dX6_liars_48 3 rfl ?_
            refine g_if_lt hX 58 dX6_liars_49 (by decide) (fun c49 => ?_) (fun c49 => ?_)
            · skip
              refine g_iconst hX (nI 1) dX6_liars_58 rfl ?_
              refine g_goto hX 63 dX6_liars_59 (by decide) ?_
              refine g_istore hX (j := 6) [(6, .int (nI 1)), (5, .int (nI (pop (liM C i (cN C))))), (0, .ref (a 0)), (1, .int (nI q)), (2, .int fe), (3, .int wo), (4, .int (nI i))] dX6_liars_63 (by rw [hnL]; rfl) rfl ?_
              refine g_iload hX dX6_liars_65 0 rfl ?_
              refine g_if_eq hX 75 dX6_liars_67 (by decide) (fun c67 => ?_) (fun c67 => ?_)
              · replace c67 := (nz_eq (by omega)).mp c67
                exact absurd c67 (by simp)
              · replace c67 := mt (nz_eq (by omega)).mpr c67
                refine g_iload hX dX6_liars_70 6 rfl ?_
                refine g_goto hX 76 dX6_liars_72 (by decide) ?_
                refine g_istore_n hX (j := 3) [(3, .int (nI i)), (6, .int (nI 1)), (5, .int (nI (pop (liM C i (cN C))))), (0, .ref (a 0)), (1, .int (nI q)), (2, .int fe), (4, .int (nI i))] dX6_liars_76 rfl (by rw [hnL]; rfl) rfl ?_
                refine g_iload hX dX6_liars_77 1 rfl ?_
                refine g_if_eq hX 87 dX6_liars_79 (by decide) (fun c79 => ?_) (fun c79 => ?_)
                · replace c79 := (nz_eq (by omega)).mp c79
                  exact absurd c79 (by simp)
                · replace c79 := mt (nz_eq (by omega)).mpr c79
                  refine g_iload hX dX6_liars_82 2 rfl ?_
                  refine g_goto hX 88 dX6_liars_84 (by decide) ?_
                  refine g_istore_n hX (j := 2) [(2, .int (nI (pop (liM C i (cN C))))), (3, .int (nI i)), (6, .int (nI 1)), (5, .int (nI (pop (liM C i (cN C))))), (0, .ref (a 0)), (1, .int (nI q)), (4, .int (nI i))] dX6_liars_88 rfl (by rw [hnL]; rfl) rfl ?_
                  refine g_iinc hX (j := 4) (nI (i + 1)) [(4, .int (nI (i + 1))), (2, .int (nI (pop (liM C i (cN C))))), (3, .int (nI i)), (6, .int (nI 1)), (5, .int (nI (pop (liM C i (cN C))))), (0, .ref (a 0)), (1, .int (nI q))] dX6_liars_89 6 rfl (iinc_n _ _) (by rw [hnL]; rfl) rfl ?_
                  refine g_goto hX 24 dX6_liars_92 (by decide) ?_
                  exact g_lv _ [5, 6, 1, 2, 0] rfl (ih24 (i + 1) (nI (pop (liM C i (cN C)))) (nI i) (by omega) (by omega) (by first | (rw [(li_no1 c45).1]; exact hfe) | (rw [(li_no2 hP (hfe ▸ c49) (hfe ▸ c55)).1]; exact hfe) | exact (li_yes hP c45 (Or.inl (hfe ▸ c49))).1.symm | exact (li_yes hP c45 (Or.inr (hfe ▸ c55))).1.symm) (by first | (rw [(li_no1 c45).2]; exact hwo) | (rw [(li_no2 hP (hfe ▸ c49) (hfe ▸ c55)).2]; exact hwo) | exact (li_yes hP c45 (Or.inl (hfe ▸ c49))).2.symm | exact (li_yes hP c45 (Or.inr (hfe ▸ c55))).2.symm))
            · skip
              refine g_iload hX dX6_liars_52 0 rfl ?_
              refine g_iload_n hX dX6_liars_54 3 rfl ?_
              refine g_icmp_ge hX 62 dX6_liars_55 (by decide) (fun c55 => ?_) (fun c55 => ?_)
              · skip
                refine g_iconst hX (nI 0) dX6_liars_62 rfl ?_
                refine g_istore hX (j := 6) [(6, .int (nI 0)), (5, .int (nI (pop (liM C i (cN C))))), (0, .ref (a 0)), (1, .int (nI q)), (2, .int fe), (3, .int wo), (4, .int (nI i))] dX6_liars_63 (by rw [hnL]; rfl) rfl ?_
                refine g_iload hX dX6_liars_65 0 rfl ?_
                refine g_if_eq hX 75 dX6_liars_67 (by decide) (fun c67 => ?_) (fun c67 => ?_)
                · replace c67 := (nz_eq (by omega)).mp c67
                  refine g_iload_n hX dX6_liars_75 5 rfl ?_
                  refine g_istore_n hX (j := 3) [(3, .int wo), (6, .int (nI 0)), (5, .int (nI (pop (liM C i (cN C))))), (0, .ref (a 0)), (1, .int (nI q)), (2, .int fe), (4, .int (nI i))] dX6_liars_76 rfl (by rw [hnL]; rfl) rfl ?_
                  refine g_iload hX dX6_liars_77 1 rfl ?_
                  refine g_if_eq hX 87 dX6_liars_79 (by decide) (fun c79 => ?_) (fun c79 => ?_)
                  · replace c79 := (nz_eq (by omega)).mp c79
                    refine g_iload_n hX dX6_liars_87 5 rfl ?_
                    refine g_istore_n hX (j := 2) [(2, .int fe), (3, .int wo), (6, .int (nI 0)), (5, .int (nI (pop (liM C i (cN C))))), (0, .ref (a 0)), (1, .int (nI q)), (4, .int (nI i))] dX6_liars_88 rfl (by rw [hnL]; rfl) rfl ?_
                    refine g_iinc hX (j := 4) (nI (i + 1)) [(4, .int (nI (i + 1))), (2, .int fe), (3, .int wo), (6, .int (nI 0)), (5, .int (nI (pop (liM C i (cN C))))), (0, .ref (a 0)), (1, .int (nI q))] dX6_liars_89 6 rfl (iinc_n _ _) (by rw [hnL]; rfl) rfl ?_
                    refine g_goto hX 24 dX6_liars_92 (by decide) ?_
                    exact g_lv _ [5, 6, 1, 2, 0] rfl (ih24 (i + 1) fe wo (by omega) (by omega) (by first | (rw [(li_no1 c45).1]; exact hfe) | (rw [(li_no2 hP (hfe ▸ c49) (hfe ▸ c55)).1]; exact hfe) | exact (li_yes hP c45 (Or.inl (hfe ▸ c49))).1.symm | exact (li_yes hP c45 (Or.inr (hfe ▸ c55))).1.symm) (by first | (rw [(li_no1 c45).2]; exact hwo) | (rw [(li_no2 hP (hfe ▸ c49) (hfe ▸ c55)).2]; exact hwo) | exact (li_yes hP c45 (Or.inl (hfe ▸ c49))).2.symm | exact (li_yes hP c45 (Or.inr (hfe ▸ c55))).2.symm))
                  · replace c79 := mt (nz_eq (by omega)).mpr c79
                    exact absurd c79 (by simp)
                · replace c67 := mt (nz_eq (by omega)).mpr c67
                  exact absurd c67 (by simp)
              · skip
                refine g_iconst hX (nI 1) dX6_liars_58 rfl ?_
                refine g_goto hX 63 dX6_liars_59 (by decide) ?_
                refine g_istore hX (j := 6) [(6, .int (nI 1)), (5, .int (nI (pop (liM C i (cN C))))), (0, .ref (a 0)), (1, .int (nI q)), (2, .int fe), (3, .int wo), (4, .int (nI i))] dX6_liars_63 (by rw [hnL]; rfl) rfl ?_
                refine g_iload hX dX6_liars_65 0 rfl ?_
                refine g_if_eq hX 75 dX6_liars_67 (by decide) (fun c67 => ?_) (fun c67 => ?_)
                · replace c67 := (nz_eq (by omega)).mp c67
                  exact absurd c67 (by simp)
                · replace c67 := mt (nz_eq (by omega)).mpr c67
                  refine g_iload hX dX6_liars_70 6 rfl ?_
                  refine g_goto hX 76 dX6_liars_72 (by decide) ?_
                  refine g_istore_n hX (j := 3) [(3, .int (nI i)), (6, .int (nI 1)), (5, .int (nI (pop (liM C i (cN C))))), (0, .ref (a 0)), (1, .int (nI q)), (2, .int fe), (4, .int (nI i))] dX6_liars_76 rfl (by rw [hnL]; rfl) rfl ?_
                  refine g_iload hX dX6_liars_77 1 rfl ?_
                  refine g_if_eq hX 87 dX6_liars_79 (by decide) (fun c79 => ?_) (fun c79 => ?_)
                  · replace c79 := (nz_eq (by omega)).mp c79
                    exact absurd c79 (by simp)
                  · replace c79 := mt (nz_eq (by omega)).mpr c79
                    refine g_iload hX dX6_liars_82 2 rfl ?_
                    refine g_goto hX 88 dX6_liars_84 (by decide) ?_
                    refine g_istore_n hX (j := 2) [(2, .int (nI (pop (liM C i (cN C))))), (3, .int (nI i)), (6, .int (nI 1)), (5, .int (nI (pop (liM C i (cN C))))), (0, .ref (a 0)), (1, .int (nI q)), (4, .int (nI i))] dX6_liars_88 rfl (by rw [hnL]; rfl) rfl ?_
                    refine g_iinc hX (j := 4) (nI (i + 1)) [(4, .int (nI (i + 1))), (2, .int (nI (pop (liM C i (cN C))))), (3, .int (nI i)), (6, .int (nI 1)), (5, .int (nI (pop (liM C i (cN C))))), (0, .ref (a 0)), (1, .int (nI q))] dX6_liars_89 6 rfl (iinc_n _ _) (by rw [hnL]; rfl) rfl ?_
                    refine g_goto hX 24 dX6_liars_92 (by decide) ?_
                    exact g_lv _ [5, 6, 1, 2, 0] rfl (ih24 (i + 1) (nI (pop (liM C i (cN C)))) (nI i) (by omega) (by omega) (by first | (rw [(li_no1 c45).1]; exact hfe) | (rw [(li_no2 hP (hfe ▸ c49) (hfe ▸ c55)).1]; exact hfe) | exact (li_yes hP c45 (Or.inl (hfe ▸ c49))).1.symm | exact (li_yes hP c45 (Or.inr (hfe ▸ c55))).1.symm) (by first | (rw [(li_no1 c45).2]; exact hwo) | (rw [(li_no2 hP (hfe ▸ c49) (hfe ▸ c55)).2]; exact hwo) | exact (li_yes hP c45 (Or.inl (hfe ▸ c49))).2.symm | exact (li_yes hP c45 (Or.inr (hfe ▸ c55))).2.symm))
    exact g_lv _ [3, 4, 2, 1, 0] rfl (lp24 _ 0 (-4) (-4) (Nat.lt_succ_self _) (Nat.zero_le _) rfl rfl)
  · replace c6 := bI_0.mp c6
    exact absurd c6 (by simp)
