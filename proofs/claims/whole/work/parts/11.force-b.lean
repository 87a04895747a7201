set_option maxHeartbeats 4000000 in
set_option maxRecDepth 100000 in
theorem c_X0_copy (l : Launch) (E : EV) (a : Nat → Nat) (C : FC) (b : Nat → Nat) (O : FC)  : KV l yX0_copy wsX0_copy (rmN 0) E (σ := Unit) [.ref (a 0), .ref (b 0)] ((fw E a C) ++ (fw E b O)) (fun _ => True) (fun _ => (fw E a O) ++ (fw E b O)) 0 0 := by
  refine KV.of (cc := cX0_copy) (maxL := 3) rfl rfl rfl (fun x hX hin hret hnL => ?_)
  replace hX : CX x l cX0_copy RX0 wsX0_copy E (rmN 0) := hX
  show GG x 0 0 ((fw E a C) ++ (fw E b O)) 0 [(0, .ref (a 0)), (1, .ref (b 0))] []
  have inRX0 : ∀ w ∈ wsX00, w ∈ wsX0_copy := by decide +kernel
  have fl15 : Cond.fieldLink RX0 15 "LieForce$Force" "kinds" "[I" ∈ wsX0_copy := by decide +kernel
  have fl19 : Cond.fieldLink RX0 19 "LieForce$Force" "firsts" "[I" ∈ wsX0_copy := by decide +kernel
  have fl22 : Cond.fieldLink RX0 22 "LieForce$Force" "seconds" "[I" ∈ wsX0_copy := by decide +kernel
  have fl25 : Cond.fieldLink RX0 25 "LieForce$Force" "persons" "[I" ∈ wsX0_copy := by decide +kernel
  have fl28 : Cond.fieldLink RX0 28 "LieForce$Force" "served" "[I" ∈ wsX0_copy := by decide +kernel
  have fl31 : Cond.fieldLink RX0 31 "LieForce$Force" "soWorlds" "[J" ∈ wsX0_copy := by decide +kernel
  have fl35 : Cond.fieldLink RX0 35 "LieForce$Force" "facts" "I" ∈ wsX0_copy := by decide +kernel
  have fl38 : Cond.fieldLink RX0 38 "LieForce$Force" "sayings" "I" ∈ wsX0_copy := by decide +kernel
  have fl41 : Cond.fieldLink RX0 41 "LieForce$Force" "withdrawn" "I" ∈ wsX0_copy := by decide +kernel
  have fl44 : Cond.fieldLink RX0 44 "LieForce$Force" "days" "I" ∈ wsX0_copy := by decide +kernel
  have fl9 : Cond.fieldLink RX0 9 "LieForce$Force" "term" "I" ∈ wsX0_copy := by decide +kernel
  refine g_aload_n hX dX0_copy_0 0 rfl ?_
  refine g_aload_n hX dX0_copy_1 1 rfl ?_
  refine g_get hX (v := .int (nI (cF O))) 7 inRX0 rfl rfl 0 rfl fl35 rfl rfl dX0_copy_2 ?_
  refine g_eq (show ((fw E a C) ++ (fw E b O) : va_W) = (fw E a (mkFC (cF C) (cN C) (cG C) (cY C) (cT C) (cK C) (cA C) (cB C) (cP C) (cV C) (cW C))) ++ (fw E b O) from rfl) rfl rfl ?_
  refine g_put hX ((fw E a (mkFC (cF O) (cN C) (cG C) (cY C) (cT C) (cK C) (cA C) (cB C) (cP C) (cV C) (cW C))) ++ (fw E b O)) 0 inRX0 tyX0_ok nmX0 (atRForce_0 _ _ _ _ _ _ _ _ _ _ _ _ _ _) rfl 0 rfl fl35 rfl rfl rfl rfl rfl dX0_copy_5 (stRForce_0_0 _ _ _ _ _ _ _ _ _ _ _ _ _ _ _) ?_
  refine g_aload_n hX dX0_copy_8 0 rfl ?_
  refine g_aload_n hX dX0_copy_9 1 rfl ?_
  refine g_get hX (v := .int (nI (cN O))) 7 inRX0 rfl rfl 1 rfl fl38 rfl rfl dX0_copy_10 ?_
  refine g_put hX ((fw E a (mkFC (cF O) (cN O) (cG C) (cY C) (cT C) (cK C) (cA C) (cB C) (cP C) (cV C) (cW C))) ++ (fw E b O)) 0 inRX0 tyX0_ok nmX0 (atRForce_0 _ _ _ _ _ _ _ _ _ _ _ _ _ _) rfl 1 rfl fl38 rfl rfl rfl rfl rfl dX0_copy_13 (stRForce_0_1 _ _ _ _ _ _ _ _ _ _ _ _ _ _ _) ?_
  refine g_aload_n hX dX0_copy_16 0 rfl ?_
  refine g_aload_n hX dX0_copy_17 1 rfl ?_
  refine g_get hX (v := .int (nI (cG O))) 7 inRX0 rfl rfl 2 rfl fl41 rfl rfl dX0_copy_18 ?_
  refine g_put hX ((fw E a (mkFC (cF O) (cN O) (cG O) (cY C) (cT C) (cK C) (cA C) (cB C) (cP C) (cV C) (cW C))) ++ (fw E b O)) 0 inRX0 tyX0_ok nmX0 (atRForce_0 _ _ _ _ _ _ _ _ _ _ _ _ _ _) rfl 2 rfl fl41 rfl rfl rfl rfl rfl dX0_copy_21 (stRForce_0_2 _ _ _ _ _ _ _ _ _ _ _ _ _ _ _) ?_
  refine g_aload_n hX dX0_copy_24 0 rfl ?_
  refine g_aload_n hX dX0_copy_25 1 rfl ?_
  refine g_get hX (v := .int (nI (cY O))) 7 inRX0 rfl rfl 3 rfl fl44 rfl rfl dX0_copy_26 ?_
  refine g_put hX ((fw E a (mkFC (cF O) (cN O) (cG O) (cY O) (cT C) (cK C) (cA C) (cB C) (cP C) (cV C) (cW C))) ++ (fw E b O)) 0 inRX0 tyX0_ok nmX0 (atRForce_0 _ _ _ _ _ _ _ _ _ _ _ _ _ _) rfl 3 rfl fl44 rfl rfl rfl rfl rfl dX0_copy_29 (stRForce_0_3 _ _ _ _ _ _ _ _ _ _ _ _ _ _ _) ?_
  refine g_aload_n hX dX0_copy_32 0 rfl ?_
  refine g_aload_n hX dX0_copy_33 1 rfl ?_
  refine g_get hX (v := .int (nI (cT O))) 7 inRX0 rfl rfl 4 rfl fl9 rfl rfl dX0_copy_34 ?_
  refine g_put hX ((fw E a (mkFC (cF O) (cN O) (cG O) (cY O) (cT O) (cK C) (cA C) (cB C) (cP C) (cV C) (cW C))) ++ (fw E b O)) 0 inRX0 tyX0_ok nmX0 (atRForce_0 _ _ _ _ _ _ _ _ _ _ _ _ _ _) rfl 4 rfl fl9 rfl rfl rfl rfl rfl dX0_copy_37 (stRForce_0_4 _ _ _ _ _ _ _ _ _ _ _ _ _ _ _) ?_
  refine g_iconst hX (nI 0) dX0_copy_40 rfl ?_
  refine g_istore_n hX (j := 2) [(2, .int (nI 0)), (0, .ref (a 0)), (1, .ref (b 0))] dX0_copy_41 rfl (by rw [hnL]; rfl) rfl ?_
  have lp42 : ∀ (fuel : Nat) (i : Nat) (v0 : Nat → Nat) (v1 : Nat → Nat) (v2 : Nat → Nat) (v3 : Nat → Nat) (v4 : Nat → Nat) (v5 : Nat → Nat), 9 - i < fuel → (i ≤ 9) → (v0 = upTo i (fun _ => true) (cK C) (cK O)) → (v1 = upTo i (fun _ => true) (cA C) (cA O)) → (v2 = upTo i (fun _ => true) (cB C) (cB O)) → (v3 = upTo i (fun _ => true) (cP C) (cP O)) → (v4 = upTo i (fun _ => true) (cV C) (cV O)) → (v5 = upTo i (fun _ => true) (cW C) (cW O)) → GG x 0 0 ((fw E a (mkFC (cF O) (cN O) (cG O) (cY O) (cT O) v0 v1 v2 v3 v4 v5)) ++ (fw E b O)) 42 [(0, .ref (a 0)), (1, .ref (b 0)), (2, .int (nI i))] [] := by
    intro fuel
    induction fuel with
    | zero => intro i v0 v1 v2 v3 v4 v5 hm; exact absurd hm (Nat.not_lt_zero _)
    | succ fuel ih42 =>
      intro i v0 v1 v2 v3 v4 v5 hm42 hi hVv0 hVv1 hVv2 hVv3 hVv4 hVv5
      refine g_iload_n hX dX0_copy_42 2 rfl ?_
      refine g_bipush hX (nI 9) dX0_copy_43 rfl ?_
      refine g_icmp_ge hX 126 dX0_copy_45 (by decide) (fun c45 => ?_) (fun c45 => ?_)
      · replace c45 := (nI_leI (by omega) (by omega)).mp c45
        refine g_rei 1 (fun j => nI (cK O j)) ((fw E a (mkFC (cF O) (cN O) (cG O) (cY O) (cT O) (cK O) v1 v2 v3 v4 v5)) ++ (fw E b O)) (atRForce_1 _ _ _ _ _ _ _ _ _ _ _ _ _ _) (fun j hj => congrArg nI ((congrFun hVv0 j).trans (upTo_all (by omega)))) (stRForce_1 _ _ _ _ _ _ _ _ _ _ _ _ _ _ _) ?_
        refine g_rei 2 (fun j => nI (cA O j)) ((fw E a (mkFC (cF O) (cN O) (cG O) (cY O) (cT O) (cK O) (cA O) v2 v3 v4 v5)) ++ (fw E b O)) (atRForce_2 _ _ _ _ _ _ _ _ _ _ _ _ _ _) (fun j hj => congrArg nI ((congrFun hVv1 j).trans (upTo_all (by omega)))) (stRForce_2 _ _ _ _ _ _ _ _ _ _ _ _ _ _ _) ?_
        refine g_rei 3 (fun j => nI (cB O j)) ((fw E a (mkFC (cF O) (cN O) (cG O) (cY O) (cT O) (cK O) (cA O) (cB O) v3 v4 v5)) ++ (fw E b O)) (atRForce_3 _ _ _ _ _ _ _ _ _ _ _ _ _ _) (fun j hj => congrArg nI ((congrFun hVv2 j).trans (upTo_all (by omega)))) (stRForce_3 _ _ _ _ _ _ _ _ _ _ _ _ _ _ _) ?_
        refine g_rei 4 (fun j => nI (cP O j)) ((fw E a (mkFC (cF O) (cN O) (cG O) (cY O) (cT O) (cK O) (cA O) (cB O) (cP O) v4 v5)) ++ (fw E b O)) (atRForce_4 _ _ _ _ _ _ _ _ _ _ _ _ _ _) (fun j hj => congrArg nI ((congrFun hVv3 j).trans (upTo_all (by omega)))) (stRForce_4 _ _ _ _ _ _ _ _ _ _ _ _ _ _ _) ?_
        refine g_rei 5 (fun j => nI (cV O j)) ((fw E a (mkFC (cF O) (cN O) (cG O) (cY O) (cT O) (cK O) (cA O) (cB O) (cP O) (cV O) v5)) ++ (fw E b O)) (atRForce_5 _ _ _ _ _ _ _ _ _ _ _ _ _ _) (fun j hj => congrArg nI ((congrFun hVv4 j).trans (upTo_all (by omega)))) (stRForce_5 _ _ _ _ _ _ _ _ _ _ _ _ _ _ _) ?_
        refine g_rel 6 (fun j => lN (cW O j)) ((fw E a (mkFC (cF O) (cN O) (cG O) (cY O) (cT O) (cK O) (cA O) (cB O) (cP O) (cV O) (cW O))) ++ (fw E b O)) (atRForce_6 _ _ _ _ _ _ _ _ _ _ _ _ _ _) (fun j hj => congrArg lN ((congrFun hVv5 j).trans (upTo_all (by omega)))) (stRForce_6 _ _ _ _ _ _ _ _ _ _ _ _ _ _ _) ?_
        exact g_eq rfl rfl rfl (hret () _ _ trivial dX0_copy_126)
      · replace c45 := mt (nI_leI (by omega) (by omega)).mpr c45
        refine g_aload_n hX dX0_copy_48 0 rfl ?_
        refine g_get hX (v := .ref (a 1)) 0 inRX0 (atRForce_0 _ _ _ _ _ _ _ _ _ _ _ _ _ _) rfl 5 rfl fl15 rfl rfl dX0_copy_49 ?_
        refine g_iload_n hX dX0_copy_52 2 rfl ?_
        refine g_aload_n hX dX0_copy_53 1 rfl ?_
        refine g_get hX (v := .ref (b 1)) 7 inRX0 rfl rfl 5 rfl fl15 rfl rfl dX0_copy_54 ?_
        refine g_iload_n hX dX0_copy_57 2 rfl ?_
        refine g_iald hX (nI (cK O i)) 8 0 rfl rfl (vp_in_nI (by omega) (by omega)) (ald_n (g := fun j => nI (cK O j)) (i := i) (by omega)) dX0_copy_58 ?_
        refine g_iast hX (fun j => nI ((va_up (v0) i (cK O i)) j)) ((fw E a (mkFC (cF O) (cN O) (cG O) (cY O) (cT O) (va_up (v0) i (cK O i)) v1 v2 v3 v4 v5)) ++ (fw E b O)) 1 0 (atRForce_1 _ _ _ _ _ _ _ _ _ _ _ _ _ _) rfl (vp_in_nI (by omega) (by omega)) (ast_n (by omega)) dX0_copy_59 (stRForce_1 _ _ _ _ _ _ _ _ _ _ _ _ _ _ _) ?_
        refine g_aload_n hX dX0_copy_60 0 rfl ?_
        refine g_get hX (v := .ref (a 2)) 0 inRX0 (atRForce_0 _ _ _ _ _ _ _ _ _ _ _ _ _ _) rfl 6 rfl fl19 rfl rfl dX0_copy_61 ?_
        refine g_iload_n hX dX0_copy_64 2 rfl ?_
        refine g_aload_n hX dX0_copy_65 1 rfl ?_
        refine g_get hX (v := .ref (b 2)) 7 inRX0 rfl rfl 6 rfl fl19 rfl rfl dX0_copy_66 ?_
        refine g_iload_n hX dX0_copy_69 2 rfl ?_
        refine g_iald hX (nI (cA O i)) 9 0 rfl rfl (vp_in_nI (by omega) (by omega)) (ald_n (g := fun j => nI (cA O j)) (i := i) (by omega)) dX0_copy_70 ?_
        refine g_iast hX (fun j => nI ((va_up (v1) i (cA O i)) j)) ((fw E a (mkFC (cF O) (cN O) (cG O) (cY O) (cT O) (va_up (v0) i (cK O i)) (va_up (v1) i (cA O i)) v2 v3 v4 v5)) ++ (fw E b O)) 2 0 (atRForce_2 _ _ _ _ _ _ _ _ _ _ _ _ _ _) rfl (vp_in_nI (by omega) (by omega)) (ast_n (by omega)) dX0_copy_71 (stRForce_2 _ _ _ _ _ _ _ _ _ _ _ _ _ _ _) ?_
        refine g_aload_n hX dX0_copy_72 0 rfl ?_
        refine g_get hX (v := .ref (a 3)) 0 inRX0 (atRForce_0 _ _ _ _ _ _ _ _ _ _ _ _ _ _) rfl 7 rfl fl22 rfl rfl dX0_copy_73 ?_
        refine g_iload_n hX dX0_copy_76 2 rfl ?_
        refine g_aload_n hX dX0_copy_77 1 rfl ?_
        refine g_get hX (v := .ref (b 3)) 7 inRX0 rfl rfl 7 rfl fl22 rfl rfl dX0_copy_78 ?_
        refine g_iload_n hX dX0_copy_81 2 rfl ?_
        refine g_iald hX (nI (cB O i)) 10 0 rfl rfl (vp_in_nI (by omega) (by omega)) (ald_n (g := fun j => nI (cB O j)) (i := i) (by omega)) dX0_copy_82 ?_
        refine g_iast hX (fun j => nI ((va_up (v2) i (cB O i)) j)) ((fw E a (mkFC (cF O) (cN O) (cG O) (cY O) (cT O) (va_up (v0) i (cK O i)) (va_up (v1) i (cA O i)) (va_up (v2) i (cB O i)) v3 v4 v5)) ++ (fw E b O)) 3 0 (atRForce_3 _ _ _ _ _ _ _ _ _ _ _ _ _ _) rfl (vp_in_nI (by omega) (by omega)) (ast_n (by omega)) dX0_copy_83 (stRForce_3 _ _ _ _ _ _ _ _ _ _ _ _ _ _ _) ?_
        refine g_aload_n hX dX0_copy_84 0 rfl ?_
        refine g_get hX (v := .ref (a 4)) 0 inRX0 (atRForce_0 _ _ _ _ _ _ _ _ _ _ _ _ _ _) rfl 8 rfl fl25 rfl rfl dX0_copy_85 ?_
        refine g_iload_n hX dX0_copy_88 2 rfl ?_
        refine g_aload_n hX dX0_copy_89 1 rfl ?_
        refine g_get hX (v := .ref (b 4)) 7 inRX0 rfl rfl 8 rfl fl25 rfl rfl dX0_copy_90 ?_
        refine g_iload_n hX dX0_copy_93 2 rfl ?_
        refine g_iald hX (nI (cP O i)) 11 0 rfl rfl (vp_in_nI (by omega) (by omega)) (ald_n (g := fun j => nI (cP O j)) (i := i) (by omega)) dX0_copy_94 ?_
        refine g_iast hX (fun j => nI ((va_up (v3) i (cP O i)) j)) ((fw E a (mkFC (cF O) (cN O) (cG O) (cY O) (cT O) (va_up (v0) i (cK O i)) (va_up (v1) i (cA O i)) (va_up (v2) i (cB O i)) (va_up (v3) i (cP O i)) v4 v5)) ++ (fw E b O)) 4 0 (atRForce_4 _ _ _ _ _ _ _ _ _ _ _ _ _ _) rfl (vp_in_nI (by omega) (by omega)) (ast_n (by omega)) dX0_copy_95 (stRForce_4 _ _ _ _ _ _ _ _ _ _ _ _ _ _ _) ?_
        refine g_aload_n hX dX0_copy_96 0 rfl ?_
        refine g_get hX (v := .ref (a 5)) 0 inRX0 (atRForce_0 _ _ _ _ _ _ _ _ _ _ _ _ _ _) rfl 9 rfl fl28 rfl rfl dX0_copy_97 ?_
        refine g_iload_n hX dX0_copy_100 2 rfl ?_
        refine g_aload_n hX dX0_copy_101 1 rfl ?_
        refine g_get hX (v := .ref (b 5)) 7 inRX0 rfl rfl 9 rfl fl28 rfl rfl dX0_copy_102 ?_
        refine g_iload_n hX dX0_copy_105 2 rfl ?_
        refine g_iald hX (nI (cV O i)) 12 0 rfl rfl (vp_in_nI (by omega) (by omega)) (ald_n (g := fun j => nI (cV O j)) (i := i) (by omega)) dX0_copy_106 ?_
        refine g_iast hX (fun j => nI ((va_up (v4) i (cV O i)) j)) ((fw E a (mkFC (cF O) (cN O) (cG O) (cY O) (cT O) (va_up (v0) i (cK O i)) (va_up (v1) i (cA O i)) (va_up (v2) i (cB O i)) (va_up (v3) i (cP O i)) (va_up (v4) i (cV O i)) v5)) ++ (fw E b O)) 5 0 (atRForce_5 _ _ _ _ _ _ _ _ _ _ _ _ _ _) rfl (vp_in_nI (by omega) (by omega)) (ast_n (by omega)) dX0_copy_107 (stRForce_5 _ _ _ _ _ _ _ _ _ _ _ _ _ _ _) ?_
        refine g_aload_n hX dX0_copy_108 0 rfl ?_
        refine g_get hX (v := .ref (a 6)) 0 inRX0 (atRForce_0 _ _ _ _ _ _ _ _ _ _ _ _ _ _) rfl 10 rfl fl31 rfl rfl dX0_copy_109 ?_
        refine g_iload_n hX dX0_copy_112 2 rfl ?_
        refine g_aload_n hX dX0_copy_113 1 rfl ?_
        refine g_get hX (v := .ref (b 6)) 7 inRX0 rfl rfl 10 rfl fl31 rfl rfl dX0_copy_114 ?_
        refine g_iload_n hX dX0_copy_117 2 rfl ?_
        refine g_lald hX (lN (cW O i)) 13 1 rfl rfl (vp_in_nI (by omega) (by omega)) (ald_n (g := fun j => lN (cW O j)) (i := i) (by omega)) dX0_copy_118 ?_
        refine g_last hX (fun j => lN ((va_up (v5) i (cW O i)) j)) ((fw E a (mkFC (cF O) (cN O) (cG O) (cY O) (cT O) (va_up (v0) i (cK O i)) (va_up (v1) i (cA O i)) (va_up (v2) i (cB O i)) (va_up (v3) i (cP O i)) (va_up (v4) i (cV O i)) (va_up (v5) i (cW O i)))) ++ (fw E b O)) 6 1 (atRForce_6 _ _ _ _ _ _ _ _ _ _ _ _ _ _) rfl (vp_in_nI (by omega) (by omega)) (ast_l (by omega)) dX0_copy_119 (stRForce_6 _ _ _ _ _ _ _ _ _ _ _ _ _ _ _) ?_
        refine g_iinc hX (j := 2) (nI (i + 1)) [(2, .int (nI (i + 1))), (0, .ref (a 0)), (1, .ref (b 0))] dX0_copy_120 2 rfl (iinc_n _ _) (by rw [hnL]; rfl) rfl ?_
        refine g_goto hX 42 dX0_copy_123 (by decide) ?_
        exact g_lv _ [1, 2, 0] rfl (ih42 (i + 1) (va_up (v0) i (cK O i)) (va_up (v1) i (cA O i)) (va_up (v2) i (cB O i)) (va_up (v3) i (cP O i)) (va_up (v4) i (cV O i)) (va_up (v5) i (cW O i)) (by omega) (by omega) (by rw [hVv0]; exact upTo_put rfl rfl) (by rw [hVv1]; exact upTo_put rfl rfl) (by rw [hVv2]; exact upTo_put rfl rfl) (by rw [hVv3]; exact upTo_put rfl rfl) (by rw [hVv4]; exact upTo_put rfl rfl) (by rw [hVv5]; exact upTo_put rfl rfl))
  exact g_lv _ [1, 2, 0] rfl (lp42 _ 0 (cK C) (cA C) (cB C) (cP C) (cV C) (cW C) (Nat.lt_succ_self _) (Nat.zero_le _) upTo_0 upTo_0 upTo_0 upTo_0 upTo_0 upTo_0)
set_option maxHeartbeats 4000000 in
set_option maxRecDepth 100000 in
theorem c_X0_couldAllBeSo (l : Launch) (E : EV) (a : Nat → Nat) (C : FC) (set : Nat) (hC : FO C) (hset : set < 512) : KI l yX0_couldAllBeSo wsX0_couldAllBeSo (rmN 1) E (σ := Unit) [.ref (a 0), .int (nI set)] (fw E a C) (fun _ => True) (fun _ => (bI (andB C set))) (fun _ => fw E a C) 0 0 := by
  refine KI.of (cc := cX0_couldAllBeSo) (maxL := 5) (ty := .boolean) (hnar := fun _ _ => nar_b _) rfl rfl rfl (fun x hX hin hret hnL => ?_)
  replace hX : CX x l cX0_couldAllBeSo RX0 wsX0_couldAllBeSo E (rmN 1) := hX
  show GG x 0 0 (fw E a C) 0 [(0, .ref (a 0)), (1, .int (nI set))] []
  have inRX0 : ∀ w ∈ wsX00, w ∈ wsX0_couldAllBeSo := by decide +kernel
  have fl31 : Cond.fieldLink RX0 31 "LieForce$Force" "soWorlds" "[J" ∈ wsX0_couldAllBeSo := by decide +kernel
  have fl38 : Cond.fieldLink RX0 38 "LieForce$Force" "sayings" "I" ∈ wsX0_couldAllBeSo := by decide +kernel
  obtain ⟨h9, h64, h512, hT, hI⟩ := id hC
  refine g_ldc2 hX (v := (-1)) dX0_couldAllBeSo_0 (by decide +kernel) ?_
  refine g_eq (st' := [.long (lN 18446744073709551615)]) rfl rfl (congrArg (fun z => Value.long z :: ([] : List Value)) (rfl : (-1 : Int64) = lN 18446744073709551615)) ?_
  refine g_lstore_n hX (j := 2) [(2, .long (lN 18446744073709551615)), (0, .ref (a 0)), (1, .int (nI set))] dX0_couldAllBeSo_3 rfl (by rw [hnL]; rfl) rfl ?_
  refine g_iconst hX (nI 0) dX0_couldAllBeSo_4 rfl ?_
  refine g_istore hX (j := 4) [(4, .int (nI 0)), (2, .long (lN 18446744073709551615)), (0, .ref (a 0)), (1, .int (nI set))] dX0_couldAllBeSo_5 (by rw [hnL]; rfl) rfl ?_
  have lp7 : ∀ (fuel : Nat) (i : Nat) (acc : Nat), cN C - i < fuel → (i ≤ cN C) → (acc = andW C set i) → GG x 0 0 (fw E a C) 7 [(0, .ref (a 0)), (1, .int (nI set)), (2, .long (lN acc)), (4, .int (nI i))] [] := by
    intro fuel
    induction fuel with
    | zero => intro i acc hm; exact absurd hm (Nat.not_lt_zero _)
    | succ fuel ih7 =>
      intro i acc hm7 hi hacc
      refine g_iload hX dX0_couldAllBeSo_7 3 rfl ?_
      refine g_aload_n hX dX0_couldAllBeSo_9 0 rfl ?_
      refine g_get hX (v := .int (nI (cN C))) 0 inRX0 rfl rfl 1 rfl fl38 rfl rfl dX0_couldAllBeSo_10 ?_
      refine g_icmp_ge hX 50 dX0_couldAllBeSo_13 (by decide) (fun c13 => ?_) (fun c13 => ?_)
      · replace c13 := (nI_leI (by omega) (by omega)).mp c13
        refine g_lload_n hX dX0_couldAllBeSo_50 2 rfl ?_
        refine g_lconst hX (lN 0) dX0_couldAllBeSo_51 rfl ?_
        refine g_lcmp hX (lg_cmp (lN acc) (lN 0)) dX0_couldAllBeSo_52 rfl ?_
        refine g_if_eq hX 60 dX0_couldAllBeSo_53 (by decide) (fun c53 => ?_) (fun c53 => ?_)
        · replace c53 := (lcmp_l (by first | (rw [hacc]; exact andW_lt C set i) | decide) (by first | (rw [hacc]; exact andW_lt C set i) | decide)).mp c53
          rw [hacc, show i = cN C by omega] at c53
          refine g_iconst hX (nI 0) dX0_couldAllBeSo_60 rfl ?_
          exact g_eq rfl rfl (congrArg (fun z => [Value.int z]) (bret_f (by simp [andB, c13, c53]))) (hret () _ _ trivial dX0_couldAllBeSo_61)
        · replace c53 := mt (lcmp_l (by first | (rw [hacc]; exact andW_lt C set i) | decide) (by first | (rw [hacc]; exact andW_lt C set i) | decide)).mpr c53
          rw [hacc, show i = cN C by omega] at c53
          refine g_iconst hX (nI 1) dX0_couldAllBeSo_56 rfl ?_
          refine g_goto hX 61 dX0_couldAllBeSo_57 (by decide) ?_
          exact g_eq rfl rfl (congrArg (fun z => [Value.int z]) (bret_t (by simp [andB, c13, c53]))) (hret () _ _ trivial dX0_couldAllBeSo_61)
      · replace c13 := mt (nI_leI (by omega) (by omega)).mpr c13
        refine g_aload_n hX dX0_couldAllBeSo_16 0 rfl ?_
        refine g_iload hX dX0_couldAllBeSo_17 3 rfl ?_
        have hc19 : CUT (fw E a C) (fw E a C) (([] : va_W)) [0, 1, 2, 3, 4, 5, 6] [] := ⟨rfl, rfl, rfl, rfl, rfl⟩
        refine g_VI hX hc19 [.int (nI i)] [] (c_X0_isThere_t l E a C i (by first | assumption | omega) (by omega)) gX0_couldAllBeSo_X0_isThere calX0_isThere rfl rfl rfl rfl 0 rfl rfl rfl rfl dX0_couldAllBeSo_19 rfl ⟨Nat.zero_le _, Nat.zero_le _⟩ (fun _ => fw E a C) [0, 1, 2, 3, 4, 5, 6] rfl (fun _ => rfl) (fun _ hu19 => ?_)
        refine g_if_eq hX 44 dX0_couldAllBeSo_22 (by decide) (fun c22 => ?_) (fun c22 => ?_)
        · replace c22 := bI_0.mp c22
          exact absurd c22 (by simp)
        · replace c22 := mt bI_0.mpr c22
          replace c22 := bNf c22
          refine g_iload_n hX dX0_couldAllBeSo_25 1 rfl ?_
          refine g_iload hX dX0_couldAllBeSo_26 3 rfl ?_
          have hc28 : CUT (fw E a C) (([] : va_W)) (fw E a C) [] [0, 1, 2, 3, 4, 5, 6] := ⟨rfl, rfl, rfl, rfl, rfl⟩
          refine g_NI hX hc28 [.int (nI set), .int (nI i)] [] (c_X5_isBitOf l E set i (by first | assumption | omega) (by first | assumption | omega)) gX0_couldAllBeSo_X5_isBitOf_n88 calX5_isBitOf rfl rfl (by decide +kernel) (by decide +kernel) (by decide +kernel) rfl rfl dX0_couldAllBeSo_28 rfl ⟨Nat.zero_le _, Nat.zero_le _⟩ (fun _ => fw E a C) [0, 1, 2, 3, 4, 5, 6] rfl (fun _ => rfl) (fun _ hu28 => ?_)
          refine g_if_eq hX 44 dX0_couldAllBeSo_31 (by decide) (fun c31 => ?_) (fun c31 => ?_)
          · replace c31 := bI_0.mp c31
            refine g_iinc hX (j := 4) (nI (i + 1)) [(4, .int (nI (i + 1))), (0, .ref (a 0)), (1, .int (nI set)), (2, .long (lN acc))] dX0_couldAllBeSo_44 3 rfl (iinc_n _ _) (by rw [hnL]; rfl) rfl ?_
            refine g_goto hX 7 dX0_couldAllBeSo_47 (by decide) ?_
            exact g_lv _ [1, 2, 3, 0] rfl (ih7 (i + 1) acc (by omega) (by omega) (by rw [hacc, andW]; simp [c13, c31]))
          · replace c31 := mt bI_0.mpr c31
            replace c31 := bNf c31
            have hWi := (hI i (by omega)).2
            refine g_lload_n hX dX0_couldAllBeSo_34 2 rfl ?_
            refine g_aload_n hX dX0_couldAllBeSo_35 0 rfl ?_
            refine g_get hX (v := .ref (a 6)) 0 inRX0 rfl rfl 10 rfl fl31 rfl rfl dX0_couldAllBeSo_36 ?_
            refine g_iload hX dX0_couldAllBeSo_39 3 rfl ?_
            refine g_lald hX (lN (cW C i)) 6 1 rfl rfl (vp_in_nI (by omega) (by omega)) (ald_n (g := fun j => lN (cW C j)) (i := i) (by omega)) dX0_couldAllBeSo_41 ?_
            refine g_land hX (lN (acc &&& (cW C i))) dX0_couldAllBeSo_42 (fb_andL _ _) ?_
            refine g_lstore_n hX (j := 2) [(2, .long (lN (acc &&& (cW C i)))), (0, .ref (a 0)), (1, .int (nI set)), (4, .int (nI i))] dX0_couldAllBeSo_43 rfl (by rw [hnL]; rfl) rfl ?_
            refine g_iinc hX (j := 4) (nI (i + 1)) [(4, .int (nI (i + 1))), (2, .long (lN (acc &&& (cW C i)))), (0, .ref (a 0)), (1, .int (nI set))] dX0_couldAllBeSo_44 3 rfl (iinc_n _ _) (by rw [hnL]; rfl) rfl ?_
            refine g_goto hX 7 dX0_couldAllBeSo_47 (by decide) ?_
            exact g_lv _ [2, 3, 1, 0] rfl (ih7 (i + 1) (acc &&& (cW C i)) (by omega) (by omega) (by rw [hacc, andW]; simp [c13, c31]))
  exact g_lv _ [2, 3, 1, 0] rfl (lp7 _ 0 18446744073709551615 (Nat.lt_succ_self _) (Nat.zero_le _) rfl)
set_option maxHeartbeats 4000000 in
set_option maxRecDepth 100000 in
theorem c_X0_lowestCore (l : Launch) (E : EV) (a : Nat → Nat) (C : FC) (hC : FO C) : KI l yX0_lowestCore wsX0_lowestCore (rmN 2) E (σ := Unit) [.ref (a 0)] (fw E a C) (fun _ => True) (fun _ => (oI (minN none (coreP C) (stM C + 1)).1)) (fun _ => fw E a C) 0 0 := by
  refine KI.of (cc := cX0_lowestCore) (maxL := 6) (ty := .int) (hnar := fun _ _ => rfl) rfl rfl rfl (fun x hX hin hret hnL => ?_)
  replace hX : CX x l cX0_lowestCore RX0 wsX0_lowestCore E (rmN 2) := hX
  show GG x 0 0 (fw E a C) 0 [(0, .ref (a 0))] []
  obtain ⟨h9, h64, h512, hT, hI⟩ := id hC
  have hst9 := stM_lt h9
  refine g_aload_n hX dX0_lowestCore_0 0 rfl ?_
  have hc1 : CUT (fw E a C) (fw E a C) (([] : va_W)) [0, 1, 2, 3, 4, 5, 6] [] := ⟨rfl, rfl, rfl, rfl, rfl⟩
  refine g_VI hX hc1 [] [] (c_X0_standing l E a C (by first | assumption | omega)) gX0_lowestCore_X0_standing calX0_standing rfl rfl rfl rfl 0 rfl rfl rfl rfl dX0_lowestCore_1 rfl ⟨Nat.zero_le _, Nat.zero_le _⟩ (fun _ => fw E a C) [0, 1, 2, 3, 4, 5, 6] rfl (fun _ => rfl) (fun _ hu1 => ?_)
  refine g_istore_n hX (j := 1) [(1, .int (nI (stM C))), (0, .ref (a 0))] dX0_lowestCore_4 rfl (by rw [hnL]; rfl) rfl ?_
  refine g_bipush hX ((-4)) dX0_lowestCore_5 rfl ?_
  refine g_istore_n hX (j := 2) [(2, .int (-4)), (1, .int (nI (stM C))), (0, .ref (a 0))] dX0_lowestCore_7 rfl (by rw [hnL]; rfl) rfl ?_
  refine g_bipush hX (nI 10) dX0_lowestCore_8 rfl ?_
  refine g_istore_n hX (j := 3) [(3, .int (nI 10)), (2, .int (-4)), (1, .int (nI (stM C))), (0, .ref (a 0))] dX0_lowestCore_10 rfl (by rw [hnL]; rfl) rfl ?_
  refine g_iconst hX (nI 0) dX0_lowestCore_11 rfl ?_
  refine g_istore hX (j := 4) [(4, .int (nI 0)), (3, .int (nI 10)), (2, .int (-4)), (1, .int (nI (stM C))), (0, .ref (a 0))] dX0_lowestCore_12 (by rw [hnL]; rfl) rfl ?_
  have lp14 : ∀ (fuel : Nat) (i : Nat), stM C + 1 - i < fuel → (i ≤ stM C + 1) → GG x 0 0 (fw E a C) 14 [(0, .ref (a 0)), (1, .int (nI (stM C))), (2, .int (oI (minN none (coreP C) i).1)), (3, .int (nI ((minN none (coreP C) i).2))), (4, .int (nI i))] [] := by
    intro fuel
    induction fuel with
    | zero => intro i hm; exact absurd hm (Nat.not_lt_zero _)
    | succ fuel ih14 =>
      intro i hm14 hi
      have hle := minN_le none (coreP C) i (by omega)
      refine g_iload hX dX0_lowestCore_14 4 rfl ?_
      refine g_iload_n hX dX0_lowestCore_16 1 rfl ?_
      refine g_icmp_gt hX 63 dX0_lowestCore_17 (by decide) (fun c17 => ?_) (fun c17 => ?_)
      · replace c17 := (nI_ltI (by omega) (by omega)).mp c17
        refine g_iload_n hX dX0_lowestCore_63 2 rfl ?_
        exact g_eq rfl rfl (congrArg (fun z => [Value.int z]) (by rw [show i = stM C + 1 by omega])) (hret () _ _ trivial dX0_lowestCore_64)
      · replace c17 := mt (nI_ltI (by omega) (by omega)).mpr c17
        refine g_iload hX dX0_lowestCore_20 4 rfl ?_
        have hc22 : CUT (fw E a C) (([] : va_W)) (fw E a C) [] [0, 1, 2, 3, 4, 5, 6] := ⟨rfl, rfl, rfl, rfl, rfl⟩
        refine g_TI hX hc22 [.int (nI i)] [] (c_J6_bitCount_0f7a4 l E i (by omega)) gX0_lowestCore_J6_bitCount_0f7a4 calJ6_bitCount_0f7a4 rfl rfl rfl rfl dX0_lowestCore_22 rfl ⟨Nat.zero_le _, Nat.zero_le _⟩ (fun _ => fw E a C) [0, 1, 2, 3, 4, 5, 6] rfl (fun _ => rfl) (fun _ hu22 => ?_)
        refine g_istore hX (j := 5) [(5, .int (nI (pop i))), (0, .ref (a 0)), (1, .int (nI (stM C))), (2, .int (oI (minN none (coreP C) i).1)), (3, .int (nI ((minN none (coreP C) i).2))), (4, .int (nI i))] dX0_lowestCore_25 (by rw [hnL]; rfl) rfl ?_
        refine g_iload hX dX0_lowestCore_27 5 rfl ?_
        refine g_iload_n hX dX0_lowestCore_29 2 rfl ?_
        refine g_iconst hX ((-1)) dX0_lowestCore_30 rfl ?_
        refine g_ixor hX (nI (stM C) ^^^ (-1)) dX0_lowestCore_31 rfl ?_
        refine g_iand hX (nI (andn i (stM C))) dX0_lowestCore_32 (and_not (by omega)) ?_
        refine g_if_ne hX 57 dX0_lowestCore_33 (by decide) (fun c33 => ?_) (fun c33 => ?_)
        · replace c33 := mt (nz_eq (by have := andn_lt (n := 9) (stM C) (show i < 2 ^ 9 by omega) (by decide); omega)).mpr c33
          have hst : minN none (coreP C) (i + 1) = (minN none (coreP C) i) := by rw [minN]; simp [coreP, c17, c33]
          refine g_iinc hX (j := 4) (nI (i + 1)) [(4, .int (nI (i + 1))), (5, .int (nI (pop i))), (0, .ref (a 0)), (1, .int (nI (stM C))), (2, .int (oI (minN none (coreP C) i).1)), (3, .int (nI ((minN none (coreP C) i).2)))] dX0_lowestCore_57 5 rfl (iinc_n _ _) (by rw [hnL]; rfl) rfl ?_
          refine g_goto hX 14 dX0_lowestCore_60 (by decide) ?_
          exact g_lv [(0, .ref (a 0)), (1, .int (nI (stM C))), (2, .int (oI (minN none (coreP C) i).1)), (3, .int (nI ((minN none (coreP C) i).2))), (4, .int (nI (i + 1)))] [2, 3, 4, 5, 0] rfl (g_eq rfl (by rw [hst] <;> rfl) rfl (ih14 (i + 1) (by omega) (by omega)))
        · replace c33 := (nz_eq (by have := andn_lt (n := 9) (stM C) (show i < 2 ^ 9 by omega) (by decide); omega)).mp c33
          refine g_iload hX dX0_lowestCore_36 0 rfl ?_
          refine g_iload_n hX dX0_lowestCore_38 4 rfl ?_
          refine g_icmp_ge hX 57 dX0_lowestCore_39 (by decide) (fun c39 => ?_) (fun c39 => ?_)
          · replace c39 := (nI_leI (by have := pop9 i (by omega); omega) (by have := pop9 i (by omega); omega)).mp c39
            have c39b : ¬ pop i < (minN none (coreP C) i).2 := by omega
            have hst : minN none (coreP C) (i + 1) = (minN none (coreP C) i) := by rw [minN]; simp [coreP, c17, c33, c39, c39b]
            refine g_iinc hX (j := 4) (nI (i + 1)) [(4, .int (nI (i + 1))), (5, .int (nI (pop i))), (0, .ref (a 0)), (1, .int (nI (stM C))), (2, .int (oI (minN none (coreP C) i).1)), (3, .int (nI ((minN none (coreP C) i).2)))] dX0_lowestCore_57 5 rfl (iinc_n _ _) (by rw [hnL]; rfl) rfl ?_
            refine g_goto hX 14 dX0_lowestCore_60 (by decide) ?_
            exact g_lv [(0, .ref (a 0)), (1, .int (nI (stM C))), (2, .int (oI (minN none (coreP C) i).1)), (3, .int (nI ((minN none (coreP C) i).2))), (4, .int (nI (i + 1)))] [2, 3, 4, 5, 0] rfl (g_eq rfl (by rw [hst] <;> rfl) rfl (ih14 (i + 1) (by omega) (by omega)))
          · replace c39 := mt (nI_leI (by have := pop9 i (by omega); omega) (by have := pop9 i (by omega); omega)).mpr c39
            have c39b : pop i < (minN none (coreP C) i).2 := by omega
            refine g_aload_n hX dX0_lowestCore_42 1 rfl ?_
            refine g_iload hX dX0_lowestCore_43 5 rfl ?_
            have hc45 : CUT (fw E a C) (fw E a C) (([] : va_W)) [0, 1, 2, 3, 4, 5, 6] [] := ⟨rfl, rfl, rfl, rfl, rfl⟩
            refine g_VI hX hc45 [.int (nI i)] [] (c_X0_couldAllBeSo l E a C i (by first | assumption | omega) (by omega)) gX0_lowestCore_X0_couldAllBeSo calX0_couldAllBeSo rfl rfl rfl rfl 0 rfl rfl rfl rfl dX0_lowestCore_45 rfl ⟨Nat.zero_le _, Nat.zero_le _⟩ (fun _ => fw E a C) [0, 1, 2, 3, 4, 5, 6] rfl (fun _ => rfl) (fun _ hu45 => ?_)
            refine g_if_ne hX 57 dX0_lowestCore_48 (by decide) (fun c48 => ?_) (fun c48 => ?_)
            · replace c48 := mt bI_0.mpr c48
              replace c48 := bNf c48
              have hst : minN none (coreP C) (i + 1) = (minN none (coreP C) i) := by rw [minN]; simp [coreP, c17, c33, c39, c39b, c48]
              refine g_iinc hX (j := 4) (nI (i + 1)) [(4, .int (nI (i + 1))), (5, .int (nI (pop i))), (0, .ref (a 0)), (1, .int (nI (stM C))), (2, .int (oI (minN none (coreP C) i).1)), (3, .int (nI ((minN none (coreP C) i).2)))] dX0_lowestCore_57 5 rfl (iinc_n _ _) (by rw [hnL]; rfl) rfl ?_
              refine g_goto hX 14 dX0_lowestCore_60 (by decide) ?_
              exact g_lv [(0, .ref (a 0)), (1, .int (nI (stM C))), (2, .int (oI (minN none (coreP C) i).1)), (3, .int (nI ((minN none (coreP C) i).2))), (4, .int (nI (i + 1)))] [2, 3, 4, 5, 0] rfl (g_eq rfl (by rw [hst] <;> rfl) rfl (ih14 (i + 1) (by omega) (by omega)))
            · replace c48 := bI_0.mp c48
              have hst : minN none (coreP C) (i + 1) = (some i, pop i) := by rw [minN]; simp [coreP, c17, c33, c39, c39b, c48]
              refine g_iload hX dX0_lowestCore_51 5 rfl ?_
              refine g_istore_n hX (j := 2) [(2, .int (nI i)), (5, .int (nI (pop i))), (0, .ref (a 0)), (1, .int (nI (stM C))), (3, .int (nI ((minN none (coreP C) i).2))), (4, .int (nI i))] dX0_lowestCore_53 rfl (by rw [hnL]; rfl) rfl ?_
              refine g_iload hX dX0_lowestCore_54 1 rfl ?_
              refine g_istore_n hX (j := 3) [(3, .int (nI (pop i))), (2, .int (nI i)), (5, .int (nI (pop i))), (0, .ref (a 0)), (1, .int (nI (stM C))), (4, .int (nI i))] dX0_lowestCore_56 rfl (by rw [hnL]; rfl) rfl ?_
              refine g_iinc hX (j := 4) (nI (i + 1)) [(4, .int (nI (i + 1))), (3, .int (nI (pop i))), (2, .int (nI i)), (5, .int (nI (pop i))), (0, .ref (a 0)), (1, .int (nI (stM C)))] dX0_lowestCore_57 5 rfl (iinc_n _ _) (by rw [hnL]; rfl) rfl ?_
              refine g_goto hX 14 dX0_lowestCore_60 (by decide) ?_
              exact g_lv [(0, .ref (a 0)), (1, .int (nI (stM C))), (2, .int (nI i)), (3, .int (nI (pop i))), (4, .int (nI (i + 1)))] [4, 5, 2, 1, 0] rfl (g_eq rfl (by rw [hst] <;> rfl) rfl (ih14 (i + 1) (by omega) (by omega)))
  exact g_lv _ [4, 3, 2, 1, 0] rfl (lp14 _ 0 (Nat.lt_succ_self _) (Nat.zero_le _))
set_option maxHeartbeats 4000000 in
set_option maxRecDepth 100000 in
theorem c_X0_lowestCut (l : Launch) (E : EV) (a : Nat → Nat) (C : FC) (hC : FO C) : KI l yX0_lowestCut wsX0_lowestCut (rmN 2) E (σ := Unit) [.ref (a 0)] (fw E a C) (fun _ => True) (fun _ => (oI (minN (some (stM C)) (cutP C) (stM C + 1)).1)) (fun _ => fw E a C) 0 0 := by
  refine KI.of (cc := cX0_lowestCut) (maxL := 6) (ty := .int) (hnar := fun _ _ => rfl) rfl rfl rfl (fun x hX hin hret hnL => ?_)
  replace hX : CX x l cX0_lowestCut RX0 wsX0_lowestCut E (rmN 2) := hX
  show GG x 0 0 (fw E a C) 0 [(0, .ref (a 0))] []
  obtain ⟨h9, h64, h512, hT, hI⟩ := id hC
  have hst9 := stM_lt h9
  refine g_aload_n hX dX0_lowestCut_0 0 rfl ?_
  have hc1 : CUT (fw E a C) (fw E a C) (([] : va_W)) [0, 1, 2, 3, 4, 5, 6] [] := ⟨rfl, rfl, rfl, rfl, rfl⟩
  refine g_VI hX hc1 [] [] (c_X0_standing l E a C (by first | assumption | omega)) gX0_lowestCut_X0_standing calX0_standing rfl rfl rfl rfl 0 rfl rfl rfl rfl dX0_lowestCut_1 rfl ⟨Nat.zero_le _, Nat.zero_le _⟩ (fun _ => fw E a C) [0, 1, 2, 3, 4, 5, 6] rfl (fun _ => rfl) (fun _ hu1 => ?_)
  refine g_istore_n hX (j := 1) [(1, .int (nI (stM C))), (0, .ref (a 0))] dX0_lowestCut_4 rfl (by rw [hnL]; rfl) rfl ?_
  refine g_iload_n hX dX0_lowestCut_5 0 rfl ?_
  refine g_istore_n hX (j := 2) [(2, .int (nI (stM C))), (1, .int (nI (stM C))), (0, .ref (a 0))] dX0_lowestCut_6 rfl (by rw [hnL]; rfl) rfl ?_
  refine g_bipush hX (nI 10) dX0_lowestCut_7 rfl ?_
  refine g_istore_n hX (j := 3) [(3, .int (nI 10)), (2, .int (nI (stM C))), (1, .int (nI (stM C))), (0, .ref (a 0))] dX0_lowestCut_9 rfl (by rw [hnL]; rfl) rfl ?_
  refine g_iconst hX (nI 0) dX0_lowestCut_10 rfl ?_
  refine g_istore hX (j := 4) [(4, .int (nI 0)), (3, .int (nI 10)), (2, .int (nI (stM C))), (1, .int (nI (stM C))), (0, .ref (a 0))] dX0_lowestCut_11 (by rw [hnL]; rfl) rfl ?_
  have lp13 : ∀ (fuel : Nat) (i : Nat), stM C + 1 - i < fuel → (i ≤ stM C + 1) → GG x 0 0 (fw E a C) 13 [(0, .ref (a 0)), (1, .int (nI (stM C))), (2, .int (oI (minN (some (stM C)) (cutP C) i).1)), (3, .int (nI ((minN (some (stM C)) (cutP C) i).2))), (4, .int (nI i))] [] := by
    intro fuel
    induction fuel with
    | zero => intro i hm; exact absurd hm (Nat.not_lt_zero _)
    | succ fuel ih13 =>
      intro i hm13 hi
      have hle := minN_le (some (stM C)) (cutP C) i (by omega)
      refine g_iload hX dX0_lowestCut_13 4 rfl ?_
      refine g_iload_n hX dX0_lowestCut_15 1 rfl ?_
      refine g_icmp_gt hX 66 dX0_lowestCut_16 (by decide) (fun c16 => ?_) (fun c16 => ?_)
      · replace c16 := (nI_ltI (by omega) (by omega)).mp c16
        refine g_iload_n hX dX0_lowestCut_66 2 rfl ?_
        exact g_eq rfl rfl (congrArg (fun z => [Value.int z]) (by rw [show i = stM C + 1 by omega])) (hret () _ _ trivial dX0_lowestCut_67)
      · replace c16 := mt (nI_ltI (by omega) (by omega)).mpr c16
        refine g_iload hX dX0_lowestCut_19 4 rfl ?_
        have hc21 : CUT (fw E a C) (([] : va_W)) (fw E a C) [] [0, 1, 2, 3, 4, 5, 6] := ⟨rfl, rfl, rfl, rfl, rfl⟩
        refine g_TI hX hc21 [.int (nI i)] [] (c_J6_bitCount_0f7a4 l E i (by omega)) gX0_lowestCut_J6_bitCount_0f7a4 calJ6_bitCount_0f7a4 rfl rfl rfl rfl dX0_lowestCut_21 rfl ⟨Nat.zero_le _, Nat.zero_le _⟩ (fun _ => fw E a C) [0, 1, 2, 3, 4, 5, 6] rfl (fun _ => rfl) (fun _ hu21 => ?_)
        refine g_istore hX (j := 5) [(5, .int (nI (pop i))), (0, .ref (a 0)), (1, .int (nI (stM C))), (2, .int (oI (minN (some (stM C)) (cutP C) i).1)), (3, .int (nI ((minN (some (stM C)) (cutP C) i).2))), (4, .int (nI i))] dX0_lowestCut_24 (by rw [hnL]; rfl) rfl ?_
        refine g_iload hX dX0_lowestCut_26 5 rfl ?_
        refine g_iload_n hX dX0_lowestCut_28 2 rfl ?_
        refine g_iconst hX ((-1)) dX0_lowestCut_29 rfl ?_
        refine g_ixor hX (nI (stM C) ^^^ (-1)) dX0_lowestCut_30 rfl ?_
        refine g_iand hX (nI (andn i (stM C))) dX0_lowestCut_31 (and_not (by omega)) ?_
        refine g_if_ne hX 60 dX0_lowestCut_32 (by decide) (fun c32 => ?_) (fun c32 => ?_)
        · replace c32 := mt (nz_eq (by have := andn_lt (n := 9) (stM C) (show i < 2 ^ 9 by omega) (by decide); omega)).mpr c32
          have hst : minN (some (stM C)) (cutP C) (i + 1) = (minN (some (stM C)) (cutP C) i) := by rw [minN]; simp [cutP, c16, c32]
          refine g_iinc hX (j := 4) (nI (i + 1)) [(4, .int (nI (i + 1))), (5, .int (nI (pop i))), (0, .ref (a 0)), (1, .int (nI (stM C))), (2, .int (oI (minN (some (stM C)) (cutP C) i).1)), (3, .int (nI ((minN (some (stM C)) (cutP C) i).2)))] dX0_lowestCut_60 5 rfl (iinc_n _ _) (by rw [hnL]; rfl) rfl ?_
          refine g_goto hX 13 dX0_lowestCut_63 (by decide) ?_
          exact g_lv [(0, .ref (a 0)), (1, .int (nI (stM C))), (2, .int (oI (minN (some (stM C)) (cutP C) i).1)), (3, .int (nI ((minN (some (stM C)) (cutP C) i).2))), (4, .int (nI (i + 1)))] [2, 3, 4, 5, 0] rfl (g_eq rfl (by rw [hst] <;> rfl) rfl (ih13 (i + 1) (by omega) (by omega)))
        · replace c32 := (nz_eq (by have := andn_lt (n := 9) (stM C) (show i < 2 ^ 9 by omega) (by decide); omega)).mp c32
          refine g_iload hX dX0_lowestCut_35 0 rfl ?_
          refine g_iload_n hX dX0_lowestCut_37 4 rfl ?_
          refine g_icmp_ge hX 60 dX0_lowestCut_38 (by decide) (fun c38 => ?_) (fun c38 => ?_)
          · replace c38 := (nI_leI (by have := pop9 i (by omega); omega) (by have := pop9 i (by omega); omega)).mp c38
            have c38b : ¬ pop i < (minN (some (stM C)) (cutP C) i).2 := by omega
            have hst : minN (some (stM C)) (cutP C) (i + 1) = (minN (some (stM C)) (cutP C) i) := by rw [minN]; simp [cutP, c16, c32, c38, c38b]
            refine g_iinc hX (j := 4) (nI (i + 1)) [(4, .int (nI (i + 1))), (5, .int (nI (pop i))), (0, .ref (a 0)), (1, .int (nI (stM C))), (2, .int (oI (minN (some (stM C)) (cutP C) i).1)), (3, .int (nI ((minN (some (stM C)) (cutP C) i).2)))] dX0_lowestCut_60 5 rfl (iinc_n _ _) (by rw [hnL]; rfl) rfl ?_
            refine g_goto hX 13 dX0_lowestCut_63 (by decide) ?_
            exact g_lv [(0, .ref (a 0)), (1, .int (nI (stM C))), (2, .int (oI (minN (some (stM C)) (cutP C) i).1)), (3, .int (nI ((minN (some (stM C)) (cutP C) i).2))), (4, .int (nI (i + 1)))] [2, 3, 4, 5, 0] rfl (g_eq rfl (by rw [hst] <;> rfl) rfl (ih13 (i + 1) (by omega) (by omega)))
          · replace c38 := mt (nI_leI (by have := pop9 i (by omega); omega) (by have := pop9 i (by omega); omega)).mpr c38
            have c38b : pop i < (minN (some (stM C)) (cutP C) i).2 := by omega
            refine g_aload_n hX dX0_lowestCut_41 1 rfl ?_
            refine g_iload_n hX dX0_lowestCut_42 2 rfl ?_
            refine g_iload hX dX0_lowestCut_43 5 rfl ?_
            refine g_iconst hX ((-1)) dX0_lowestCut_45 rfl ?_
            refine g_ixor hX (nI i ^^^ (-1)) dX0_lowestCut_46 rfl ?_
            refine g_iand hX (nI (andn (stM C) i)) dX0_lowestCut_47 (and_not (by omega)) ?_
            have hc48 : CUT (fw E a C) (fw E a C) (([] : va_W)) [0, 1, 2, 3, 4, 5, 6] [] := ⟨rfl, rfl, rfl, rfl, rfl⟩
            refine g_VI hX hc48 [.int (nI (andn (stM C) i))] [] (c_X0_couldAllBeSo l E a C (andn (stM C) i) (by first | assumption | omega) (andn_lt (n := 9) _ hst9 (by decide))) gX0_lowestCut_X0_couldAllBeSo calX0_couldAllBeSo rfl rfl rfl rfl 0 rfl rfl rfl rfl dX0_lowestCut_48 rfl ⟨Nat.zero_le _, Nat.zero_le _⟩ (fun _ => fw E a C) [0, 1, 2, 3, 4, 5, 6] rfl (fun _ => rfl) (fun _ hu48 => ?_)
            refine g_if_eq hX 60 dX0_lowestCut_51 (by decide) (fun c51 => ?_) (fun c51 => ?_)
            · replace c51 := bI_0.mp c51
              have hst : minN (some (stM C)) (cutP C) (i + 1) = (minN (some (stM C)) (cutP C) i) := by rw [minN]; simp [cutP, c16, c32, c38, c38b, c51]
              refine g_iinc hX (j := 4) (nI (i + 1)) [(4, .int (nI (i + 1))), (5, .int (nI (pop i))), (0, .ref (a 0)), (1, .int (nI (stM C))), (2, .int (oI (minN (some (stM C)) (cutP C) i).1)), (3, .int (nI ((minN (some (stM C)) (cutP C) i).2)))] dX0_lowestCut_60 5 rfl (iinc_n _ _) (by rw [hnL]; rfl) rfl ?_
              refine g_goto hX 13 dX0_lowestCut_63 (by decide) ?_
              exact g_lv [(0, .ref (a 0)), (1, .int (nI (stM C))), (2, .int (oI (minN (some (stM C)) (cutP C) i).1)), (3, .int (nI ((minN (some (stM C)) (cutP C) i).2))), (4, .int (nI (i + 1)))] [2, 3, 4, 5, 0] rfl (g_eq rfl (by rw [hst] <;> rfl) rfl (ih13 (i + 1) (by omega) (by omega)))
            · replace c51 := mt bI_0.mpr c51
              replace c51 := bNf c51
              have hst : minN (some (stM C)) (cutP C) (i + 1) = (some i, pop i) := by rw [minN]; simp [cutP, c16, c32, c38, c38b, c51]
              refine g_iload hX dX0_lowestCut_54 5 rfl ?_
              refine g_istore_n hX (j := 2) [(2, .int (nI i)), (5, .int (nI (pop i))), (0, .ref (a 0)), (1, .int (nI (stM C))), (3, .int (nI ((minN (some (stM C)) (cutP C) i).2))), (4, .int (nI i))] dX0_lowestCut_56 rfl (by rw [hnL]; rfl) rfl ?_
              refine g_iload hX dX0_lowestCut_57 1 rfl ?_
              refine g_istore_n hX (j := 3) [(3, .int (nI (pop i))), (2, .int (nI i)), (5, .int (nI (pop i))), (0, .ref (a 0)), (1, .int (nI (stM C))), (4, .int (nI i))] dX0_lowestCut_59 rfl (by rw [hnL]; rfl) rfl ?_
              refine g_iinc hX (j := 4) (nI (i + 1)) [(4, .int (nI (i + 1))), (3, .int (nI (pop i))), (2, .int (nI i)), (5, .int (nI (pop i))), (0, .ref (a 0)), (1, .int (nI (stM C)))] dX0_lowestCut_60 5 rfl (iinc_n _ _) (by rw [hnL]; rfl) rfl ?_
              refine g_goto hX 13 dX0_lowestCut_63 (by decide) ?_
              exact g_lv [(0, .ref (a 0)), (1, .int (nI (stM C))), (2, .int (nI i)), (3, .int (nI (pop i))), (4, .int (nI (i + 1)))] [4, 5, 2, 1, 0] rfl (g_eq rfl (by rw [hst] <;> rfl) rfl (ih13 (i + 1) (by omega) (by omega)))
  exact g_lv _ [4, 3, 2, 1, 0] rfl (lp13 _ 0 (Nat.lt_succ_self _) (Nat.zero_le _))
