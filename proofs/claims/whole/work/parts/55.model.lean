set_option maxHeartbeats 4000000 in
set_option maxRecDepth 100000 in
theorem c_J0_isLatin1_aae02 (l : Launch) (E : EV)   : KI l yJ0_isLatin1_aae02 wsJ0_isLatin1_aae02 (rmN 0) E (σ := Unit) [.ref (E.2.2.2.1 0)] (([] : va_W)) (fun _ => True) (fun _ => (bI true)) (fun _ => ([] : va_W)) 0 0 := by
  refine KI.of (cc := cJ0_isLatin1_aae02) (maxL := 1) (ty := .boolean) (hnar := fun _ _ => nar_b _) rfl rfl rfl (fun x hX hin hret hnL => ?_)
  replace hX : CX x l cJ0_isLatin1_aae02 RJ0 wsJ0_isLatin1_aae02 E (rmN 0) := hX
  show GG x 0 0 (([] : va_W)) 0 [(0, .ref (E.2.2.2.1 0))] []
  refine g_cs hX (by decide +kernel) dJ0_isLatin1_aae02_0 ?_
  refine g_if_eq hX 17 dJ0_isLatin1_aae02_3 (by decide) (fun c3 => ?_) (fun c3 => ?_)
  · replace c3 := (nz_eq (by omega)).mp c3
    exact absurd c3 (by simp)
  · replace c3 := mt (nz_eq (by omega)).mpr c3
    refine g_aload_n hX dJ0_isLatin1_aae02_6 0 rfl ?_
    refine g_scod hX (by decide +kernel) dJ0_isLatin1_aae02_7 ?_
    refine g_if_ne hX 17 dJ0_isLatin1_aae02_10 (by decide) (fun c10 => ?_) (fun c10 => ?_)
    · replace c10 := mt (nz_eq (by omega)).mpr c10
      exact absurd c10 (by simp)
    · replace c10 := (nz_eq (by omega)).mp c10
      refine g_iconst hX (nI 1) dJ0_isLatin1_aae02_13 rfl ?_
      refine g_goto hX 18 dJ0_isLatin1_aae02_14 (by decide) ?_
      exact g_eq rfl rfl (congrArg (fun z => [Value.int z]) (bret_t (by simp [c3, c10]))) (hret () _ _ trivial dJ0_isLatin1_aae02_18)
set_option maxHeartbeats 4000000 in
set_option maxRecDepth 100000 in
theorem c_J1_inflate_03870 (l : Launch) (E : EV) (b : Nat → Nat) (tx : Nat → Nat)  : KV l yJ1_inflate_03870 wsJ1_inflate_03870 (rmN 0) E (σ := Unit) [.ref (E.2.2.2.2 0), .int (nI 0), .ref (b 0), .int (nI 0), .int (nI 85)] (tw E b 85 tx) (fun _ => True) (fun _ => tw E b 85 ftx) 0 0 := by
  refine KV.of (cc := cJ1_inflate_03870) (maxL := 6) rfl rfl rfl (fun x hX hin hret hnL => ?_)
  replace hX : CX x l cJ1_inflate_03870 RJ1 wsJ1_inflate_03870 E (rmN 0) := hX
  show GG x 0 0 (tw E b 85 tx) 0 [(0, .ref (E.2.2.2.2 0)), (1, .int (nI 0)), (2, .ref (b 0)), (3, .int (nI 0)), (4, .int (nI 85))] []
  refine g_iconst hX (nI 0) dJ1_inflate_03870_0 rfl ?_
  refine g_istore hX (j := 5) [(5, .int (nI 0)), (0, .ref (E.2.2.2.2 0)), (1, .int (nI 0)), (2, .ref (b 0)), (3, .int (nI 0)), (4, .int (nI 85))] dJ1_inflate_03870_1 (by rw [hnL]; rfl) rfl ?_
  have lp3 : ∀ (fuel : Nat) (i : Nat) (z : Nat → Nat), 85 - i < fuel → (i ≤ 85) → (∀ j, j < i → z j = ftx j) → GG x 0 0 (tw E b 85 z) 3 [(0, .ref (E.2.2.2.2 0)), (1, .int (nI i)), (2, .ref (b 0)), (3, .int (nI i)), (4, .int (nI 85)), (5, .int (nI i))] [] := by
    intro fuel
    induction fuel with
    | zero => intro i z hm; exact absurd hm (Nat.not_lt_zero _)
    | succ fuel ih3 =>
      intro i z hm3 hi hz
      have hfi := ft_128 i
      refine g_iload hX dJ1_inflate_03870_3 5 rfl ?_
      refine g_iload hX dJ1_inflate_03870_5 4 rfl ?_
      refine g_icmp_ge hX 33 dJ1_inflate_03870_7 (by decide) (fun c7 => ?_) (fun c7 => ?_)
      · replace c7 := (nI_leI (by omega) (by omega)).mp c7
        refine g_rei 0 (fun j => nI (ftx j)) (tw E b 85 ftx) rfl (fun j hj => congrArg nI (hz j (by omega))) rfl ?_
        exact g_eq rfl rfl rfl (hret () _ _ trivial dJ1_inflate_03870_33)
      · replace c7 := mt (nI_leI (by omega) (by omega)).mpr c7
        refine g_aload_n hX dJ1_inflate_03870_10 2 rfl ?_
        refine g_iload_n hX dJ1_inflate_03870_11 3 rfl ?_
        refine g_iinc hX (j := 3) (nI (i + 1)) [(3, .int (nI (i + 1))), (0, .ref (E.2.2.2.2 0)), (1, .int (nI i)), (2, .ref (b 0)), (4, .int (nI 85)), (5, .int (nI i))] dJ1_inflate_03870_12 3 rfl (iinc_n _ _) (by rw [hnL]; rfl) rfl ?_
        refine g_aload_n hX dJ1_inflate_03870_15 1 rfl ?_
        refine g_iload_n hX dJ1_inflate_03870_16 2 rfl ?_
        refine g_iinc hX (j := 1) (nI (i + 1)) [(1, .int (nI (i + 1))), (3, .int (nI (i + 1))), (0, .ref (E.2.2.2.2 0)), (2, .ref (b 0)), (4, .int (nI 85)), (5, .int (nI i))] dJ1_inflate_03870_17 2 rfl (iinc_n _ _) (by rw [hnL]; rfl) rfl ?_
        refine g_sbald hX (i := i) (by omega) dJ1_inflate_03870_20 ?_
        refine g_sipush hX (nI 255) dJ1_inflate_03870_21 rfl ?_
        refine g_iand hX (nI (ftx i)) dJ1_inflate_03870_24 (b255 _ (hfi (by omega))) ?_
        refine g_i2c hX (nI (ftx i)) dJ1_inflate_03870_25 (i2c_n _ (hfi (by omega))) ?_
        refine g_cast hX (fun zz => nI (va_up z i (ftx i) zz)) (tw E b 85 (va_up (z) i (ftx i))) 0 2 rfl rfl (vp_in_nI (by omega) (by omega)) (ast_c (by omega) (hfi (by omega))) dJ1_inflate_03870_26 rfl ?_
        refine g_iinc hX (j := 5) (nI (i + 1)) [(5, .int (nI (i + 1))), (1, .int (nI (i + 1))), (3, .int (nI (i + 1))), (0, .ref (E.2.2.2.2 0)), (2, .ref (b 0)), (4, .int (nI 85))] dJ1_inflate_03870_27 5 rfl (iinc_n _ _) (by rw [hnL]; rfl) rfl ?_
        refine g_goto hX 3 dJ1_inflate_03870_30 (by decide) ?_
        exact g_lv _ [3, 1, 4, 2, 5, 0] rfl (ih3 (i + 1) (va_up (z) i (ftx i)) (by omega) (by omega) (fun j hj => (Nat.lt_or_ge j i).elim (fun q => (va_up_ne _ _ (by omega)).trans (hz j q)) (fun q => by rw [show j = i by omega, va_up_self])))
  exact g_lv _ [1, 2, 3, 4, 5, 0] rfl (lp3 _ 0 tx (Nat.lt_succ_self _) (Nat.zero_le _) (fun j hj => absurd hj (Nat.not_lt_zero _)))
set_option maxHeartbeats 4000000 in
set_option maxRecDepth 100000 in
theorem c_J1_toChars_9d188 (l : Launch) (E : EV)   : KR l yJ1_toChars_9d188 wsJ1_toChars_9d188 (rmA 1 1 85) E (σ := Nat → Nat) [.ref (E.2.2.2.2 0)] (([] : va_W)) (fun u => True) (fun u => u 0) (fun u => tw E u 85 ftx) 1 85 := by
  refine KR.of (cc := cJ1_toChars_9d188) (maxL := 2) (Or.inr ⟨_, rfl⟩) rfl rfl rfl (fun x hX hin hret hnL => ?_)
  replace hX : CX x l cJ1_toChars_9d188 RJ1 wsJ1_toChars_9d188 E (rmA 1 1 85) := hX
  show GG x 0 0 (([] : va_W)) 0 [(0, .ref (E.2.2.2.2 0))] []
  refine g_aload_n hX dJ1_toChars_9d188_0 0 rfl ?_
  refine g_slen hX dJ1_toChars_9d188_1 ?_
  refine g_newa hX (85, .inl (fun j => nI (Z0 j))) 2 rfl (by decide +kernel) rfl (fun c => by first | (rw [vp_cell_i]; rfl) | (rw [vp_cell_l]; rfl)) (by decide) (by rw [nI_clamp (by decide)]) (Nat.le_of_ble_eq_true rfl) ⟨Nat.le_of_ble_eq_true rfl, Nat.le_of_ble_eq_true rfl⟩ dJ1_toChars_9d188_2 (fun q2_2 => ?_)
  refine g_eq (ws' := [(q2_2, .inl (E.2.1 2, 85, .inl (fun j => nI (Z0 j))))]) rfl rfl rfl ?_
  obtain ⟨b, hb⟩ : ∃ b : Nat → Nat, b 0 = q2_2 := ⟨fun _ => q2_2, rfl⟩
  subst hb
  refine g_eq (ws' := tw E b 85 Z0) rfl rfl rfl ?_
  refine g_astore_n hX (j := 1) [(1, .ref (b 0)), (0, .ref (E.2.2.2.2 0))] dJ1_toChars_9d188_4 rfl (by rw [hnL]; rfl) rfl ?_
  refine g_aload_n hX dJ1_toChars_9d188_5 1 rfl ?_
  refine g_iconst hX (nI 0) dJ1_toChars_9d188_6 rfl ?_
  refine g_aload_n hX dJ1_toChars_9d188_7 0 rfl ?_
  refine g_iconst hX (nI 0) dJ1_toChars_9d188_8 rfl ?_
  refine g_aload_n hX dJ1_toChars_9d188_9 1 rfl ?_
  refine g_slen hX dJ1_toChars_9d188_10 ?_
  have hc11 : CUT (tw E b 85 Z0) (tw E b 85 Z0) (([] : va_W)) [0] [] := ⟨rfl, rfl, rfl, rfl, rfl⟩
  refine g_TV hX hc11 [.ref (E.2.2.2.2 0), .int (nI 0), .ref (b 0), .int (nI 0), .int (nI 85)] [] (c_J1_inflate_03870 l E b Z0) gJ1_toChars_9d188_J1_inflate_03870 calJ1_inflate_03870 rfl rfl rfl rfl dJ1_toChars_9d188_11 rfl ⟨Nat.le_of_ble_eq_true rfl, Nat.le_of_ble_eq_true rfl⟩ (fun _ => tw E b 85 ftx) [0] rfl (fun _ => rfl) (fun _ hu11 => ?_)
  refine g_aload_n hX dJ1_toChars_9d188_14 0 rfl ?_
  refine g_widen (k' := 1) (n' := 85) (Nat.le_refl _) (Nat.le_refl _) ?_
  exact g_eq (show (tw E b 85 ftx : va_W) = tw E b 85 ftx from rfl) rfl rfl (hret b _ _ trivial dJ1_toChars_9d188_15)
set_option maxHeartbeats 4000000 in
set_option maxRecDepth 100000 in
theorem c_J0_toCharArray_70df3 (l : Launch) (E : EV)   : KR l yJ0_toCharArray_70df3 wsJ0_toCharArray_70df3 (rmA 2 1 85) E (σ := Nat → Nat) [.ref (E.2.2.2.1 0)] (([] : va_W)) (fun u => True) (fun u => u 0) (fun u => tw E u 85 ftx) 1 85 := by
  refine KR.of (cc := cJ0_toCharArray_70df3) (maxL := 1) (Or.inr ⟨_, rfl⟩) rfl rfl rfl (fun x hX hin hret hnL => ?_)
  replace hX : CX x l cJ0_toCharArray_70df3 RJ0 wsJ0_toCharArray_70df3 E (rmA 2 1 85) := hX
  show GG x 0 0 (([] : va_W)) 0 [(0, .ref (E.2.2.2.1 0))] []
  refine g_aload_n hX dJ0_toCharArray_70df3_0 0 rfl ?_
  have hc1 : CUT (([] : va_W)) ([] : va_W) (([] : va_W)) [] [] := ⟨rfl, rfl, rfl, rfl, rfl⟩
  refine g_callI hX hc1 (fun _ => ([] : va_W)) [] (g_runVs (Qc := fun sz => va_Qi (fun (v : Int32) (u : Unit) => True ∧ v = bI true) (fun u => PO E (va_A [] sz) ([] : va_W)) (va_A [] sz)) hX hc1 [] [] (c_J0_isLatin1_aae02 l E) gJ0_toCharArray_70df3_J0_isLatin1_aae02 calJ0_isLatin1_aae02.1.choose_spec rfl rfl ⟨rfl, calJ0_isLatin1_aae02.2⟩ rfl rfl dJ0_toCharArray_70df3_1 rfl ⟨Nat.le_of_ble_eq_true rfl, Nat.le_of_ble_eq_true rfl⟩) rfl (fun _ => rfl) (fun _ hu1 => ?_)
  refine g_if_eq hX 17 dJ0_toCharArray_70df3_4 (by decide) (fun c4 => ?_) (fun c4 => ?_)
  · replace c4 := bI_0.mp c4
    exact absurd c4 (by simp)
  · replace c4 := mt bI_0.mpr c4
    replace c4 := bNf c4
    refine g_aload_n hX dJ0_toCharArray_70df3_7 0 rfl ?_
    refine g_sval hX (by decide +kernel) dJ0_toCharArray_70df3_8 ?_
    have hc11 : CUT (([] : va_W)) ([] : va_W) (([] : va_W)) [] [] := ⟨rfl, rfl, rfl, rfl, rfl⟩
    refine g_TRa hX hc11 [.ref (E.2.2.2.2 0)] [] (c_J1_toChars_9d188 l E) gJ0_toCharArray_70df3_J1_toChars_9d188 calJ1_toChars_9d188 rfl rfl rfl rfl dJ0_toCharArray_70df3_11 rfl ⟨Nat.le_of_ble_eq_true rfl, Nat.le_of_ble_eq_true rfl⟩ (fun u11 => tw E u11 85 ftx) [0] rfl (fun _ => rfl) (fun u11 hu11 => ?_)
    refine g_goto hX 24 dJ0_toCharArray_70df3_14 (by decide) ?_
    refine g_widen (k' := 1) (n' := 85) (Nat.le_refl _) (Nat.le_refl _) ?_
    exact g_eq (show (tw E u11 85 ftx : va_W) = tw E u11 85 ftx from rfl) rfl rfl (hret u11 _ _ trivial dJ0_toCharArray_70df3_24)
