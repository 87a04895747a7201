set_option maxHeartbeats 4000000 in
set_option maxRecDepth 100000 in
theorem c_X6_puts (l : Launch) (E : EV) (p : Nat) (f : Nat → Int32) (kk : Nat) (q : Nat) (q2 : Nat) (pp : Nat) (N : Nat) (hN : f 2 = nI N) (hN9 : N < 9) (hk : kk < 5) : KV l yX6_puts wsX6_puts (rmN 0) E (σ := Unit) [.ref p, .int (nI kk), .int (nI q), .int (nI q2), .int (nI pp)] (aw E p 49 f) (fun _ => True) (fun _ => aw E p 49 (putR f N kk q q2 pp)) 0 0 := by
  refine KV.of (cc := cX6_puts) (maxL := 6) rfl rfl rfl (fun x hX hin hret hnL => ?_)
  replace hX : CX x l cX6_puts RX6 wsX6_puts E (rmN 0) := hX
  show GG x 0 0 (aw E p 49 f) 0 [(0, .ref p), (1, .int (nI kk)), (2, .int (nI q)), (3, .int (nI q2)), (4, .int (nI pp))] []
  refine g_iconst hX (nI 4) dX6_puts_0 rfl ?_
  refine g_iconst hX (nI 4) dX6_puts_1 rfl ?_
  refine g_aload_n hX dX6_puts_2 0 rfl ?_
  refine g_iconst hX (nI 2) dX6_puts_3 rfl ?_
  refine g_iald hX (nI N) 0 0 rfl rfl (vp_in_nI (by omega) (by omega)) ((ald_n (by omega)).trans hN) dX6_puts_4 ?_
  refine g_imul hX (nI (4 * N)) dX6_puts_5 (pk_mul _ _) ?_
  refine g_iadd hX (nI (4 + (4 * N))) dX6_puts_6 (nI_add _ _) ?_
  refine g_istore hX (j := 5) [(5, .int (nI (4 + (4 * N)))), (0, .ref p), (1, .int (nI kk)), (2, .int (nI q)), (3, .int (nI q2)), (4, .int (nI pp))] dX6_puts_7 (by rw [hnL]; rfl) rfl ?_
  refine g_aload_n hX dX6_puts_9 1 rfl ?_
  refine g_iload hX dX6_puts_10 0 rfl ?_
  refine g_iload_n hX dX6_puts_12 2 rfl ?_
  refine g_iast hX (va_up (f) (4 + (4 * N)) (nI kk)) (aw E p 49 (va_up (f) (4 + (4 * N)) (nI kk))) 0 0 rfl rfl (vp_in_nI (by omega) (by omega)) (ast_r (by omega)) dX6_puts_13 rfl ?_
  refine g_aload_n hX dX6_puts_14 1 rfl ?_
  refine g_iload hX dX6_puts_15 0 rfl ?_
  refine g_iconst hX (nI 1) dX6_puts_17 rfl ?_
  refine g_iadd hX (nI ((4 + (4 * N)) + 1)) dX6_puts_18 (nI_add _ _) ?_
  refine g_iload_n hX dX6_puts_19 3 rfl ?_
  refine g_iast hX (va_up (va_up (f) (4 + (4 * N)) (nI kk)) ((4 + (4 * N)) + 1) (nI q)) (aw E p 49 (va_up (va_up (f) (4 + (4 * N)) (nI kk)) ((4 + (4 * N)) + 1) (nI q))) 0 0 rfl rfl (vp_in_nI (by omega) (by omega)) (ast_r (by omega)) dX6_puts_20 rfl ?_
  refine g_aload_n hX dX6_puts_21 1 rfl ?_
  refine g_iload hX dX6_puts_22 0 rfl ?_
  refine g_iconst hX (nI 2) dX6_puts_24 rfl ?_
  refine g_iadd hX (nI ((4 + (4 * N)) + 2)) dX6_puts_25 (nI_add _ _) ?_
  refine g_iload_n hX dX6_puts_26 2 rfl ?_
  refine g_if_ne hX 35 dX6_puts_27 (by decide) (fun c27 => ?_) (fun c27 => ?_)
  · replace c27 := mt (nz_eq (by omega)).mpr c27
    refine g_iload_n hX dX6_puts_35 4 rfl ?_
    refine g_iast hX (va_up (va_up (va_up (f) (4 + (4 * N)) (nI kk)) ((4 + (4 * N)) + 1) (nI q)) ((4 + (4 * N)) + 2) (nI q2)) (aw E p 49 (va_up (va_up (va_up (f) (4 + (4 * N)) (nI kk)) ((4 + (4 * N)) + 1) (nI q)) ((4 + (4 * N)) + 2) (nI q2))) 0 0 rfl rfl (vp_in_nI (by omega) (by omega)) (ast_r (by omega)) dX6_puts_36 rfl ?_
    refine g_aload_n hX dX6_puts_37 1 rfl ?_
    refine g_iload hX dX6_puts_38 0 rfl ?_
    refine g_iconst hX (nI 3) dX6_puts_40 rfl ?_
    refine g_iadd hX (nI ((4 + (4 * N)) + 3)) dX6_puts_41 (nI_add _ _) ?_
    refine g_iload hX dX6_puts_42 5 rfl ?_
    refine g_iast hX (va_up (va_up (va_up (va_up (f) (4 + (4 * N)) (nI kk)) ((4 + (4 * N)) + 1) (nI q)) ((4 + (4 * N)) + 2) (nI q2)) ((4 + (4 * N)) + 3) (nI pp)) (aw E p 49 (va_up (va_up (va_up (va_up (f) (4 + (4 * N)) (nI kk)) ((4 + (4 * N)) + 1) (nI q)) ((4 + (4 * N)) + 2) (nI q2)) ((4 + (4 * N)) + 3) (nI pp))) 0 0 rfl rfl (vp_in_nI (by omega) (by omega)) (ast_r (by omega)) dX6_puts_44 rfl ?_
    refine g_aload_n hX dX6_puts_45 1 rfl ?_
    refine g_bipush hX (nI 40) dX6_puts_46 rfl ?_
    refine g_aload_n hX dX6_puts_48 1 rfl ?_
    refine g_iconst hX (nI 2) dX6_puts_49 rfl ?_
    refine g_iald hX (nI N) 0 0 rfl rfl (vp_in_nI (by omega) (by omega)) ((ald_n (by omega)).trans (by rw [va_up_ne _ _ (by omega), va_up_ne _ _ (by omega), va_up_ne _ _ (by omega), va_up_ne _ _ (by omega)]; exact hN)) dX6_puts_50 ?_
    refine g_iadd hX (nI (40 + N)) dX6_puts_51 (nI_add _ _) ?_
    refine g_iconst hX ((-1)) dX6_puts_52 rfl ?_
    refine g_iast hX (va_up (va_up (va_up (va_up (va_up (f) (4 + (4 * N)) (nI kk)) ((4 + (4 * N)) + 1) (nI q)) ((4 + (4 * N)) + 2) (nI q2)) ((4 + (4 * N)) + 3) (nI pp)) (40 + N) (-1)) (aw E p 49 (va_up (va_up (va_up (va_up (va_up (f) (4 + (4 * N)) (nI kk)) ((4 + (4 * N)) + 1) (nI q)) ((4 + (4 * N)) + 2) (nI q2)) ((4 + (4 * N)) + 3) (nI pp)) (40 + N) (-1))) 0 0 rfl rfl (vp_in_nI (by omega) (by omega)) (ast_r (by omega)) dX6_puts_53 rfl ?_
    refine g_aload_n hX dX6_puts_54 1 rfl ?_
    refine g_iconst hX (nI 2) dX6_puts_55 rfl ?_
    refine g_dup2 hX dX6_puts_56 rfl rfl ?_
    refine g_iald hX (nI N) 0 0 rfl rfl (vp_in_nI (by omega) (by omega)) ((ald_n (by omega)).trans (by rw [va_up_ne _ _ (by omega), va_up_ne _ _ (by omega), va_up_ne _ _ (by omega), va_up_ne _ _ (by omega), va_up_ne _ _ (by omega)]; exact hN)) dX6_puts_57 ?_
    refine g_iconst hX (nI 1) dX6_puts_58 rfl ?_
    refine g_iadd hX (nI (N + 1)) dX6_puts_59 (nI_add _ _) ?_
    refine g_iast hX (va_up (va_up (va_up (va_up (va_up (va_up (f) (4 + (4 * N)) (nI kk)) ((4 + (4 * N)) + 1) (nI q)) ((4 + (4 * N)) + 2) (nI q2)) ((4 + (4 * N)) + 3) (nI pp)) (40 + N) (-1)) 2 (nI (N + 1))) (aw E p 49 (va_up (va_up (va_up (va_up (va_up (va_up (f) (4 + (4 * N)) (nI kk)) ((4 + (4 * N)) + 1) (nI q)) ((4 + (4 * N)) + 2) (nI q2)) ((4 + (4 * N)) + 3) (nI pp)) (40 + N) (-1)) 2 (nI (N + 1)))) 0 0 rfl rfl (vp_in_nI (by omega) (by omega)) (ast_r (by omega)) dX6_puts_60 rfl ?_
    exact g_eq (by simp [putR, c27]) rfl rfl (hret () _ _ trivial dX6_puts_61)
  · replace c27 := (nz_eq (by omega)).mp c27
    refine g_bipush hX ((-4)) dX6_puts_30 rfl ?_
    refine g_goto hX 36 dX6_puts_32 (by decide) ?_
    refine g_iast hX (va_up (va_up (va_up (f) (4 + (4 * N)) (nI kk)) ((4 + (4 * N)) + 1) (nI q)) ((4 + (4 * N)) + 2) (-4)) (aw E p 49 (va_up (va_up (va_up (f) (4 + (4 * N)) (nI kk)) ((4 + (4 * N)) + 1) (nI q)) ((4 + (4 * N)) + 2) (-4))) 0 0 rfl rfl (vp_in_nI (by omega) (by omega)) (ast_r (by omega)) dX6_puts_36 rfl ?_
    refine g_aload_n hX dX6_puts_37 1 rfl ?_
    refine g_iload hX dX6_puts_38 0 rfl ?_
    refine g_iconst hX (nI 3) dX6_puts_40 rfl ?_
    refine g_iadd hX (nI ((4 + (4 * N)) + 3)) dX6_puts_41 (nI_add _ _) ?_
    refine g_iload hX dX6_puts_42 5 rfl ?_
    refine g_iast hX (va_up (va_up (va_up (va_up (f) (4 + (4 * N)) (nI kk)) ((4 + (4 * N)) + 1) (nI q)) ((4 + (4 * N)) + 2) (-4)) ((4 + (4 * N)) + 3) (nI pp)) (aw E p 49 (va_up (va_up (va_up (va_up (f) (4 + (4 * N)) (nI kk)) ((4 + (4 * N)) + 1) (nI q)) ((4 + (4 * N)) + 2) (-4)) ((4 + (4 * N)) + 3) (nI pp))) 0 0 rfl rfl (vp_in_nI (by omega) (by omega)) (ast_r (by omega)) dX6_puts_44 rfl ?_
    refine g_aload_n hX dX6_puts_45 1 rfl ?_
    refine g_bipush hX (nI 40) dX6_puts_46 rfl ?_
    refine g_aload_n hX dX6_puts_48 1 rfl ?_
    refine g_iconst hX (nI 2) dX6_puts_49 rfl ?_
    refine g_iald hX (nI N) 0 0 rfl rfl (vp_in_nI (by omega) (by omega)) ((ald_n (by omega)).trans (by rw [va_up_ne _ _ (by omega), va_up_ne _ _ (by omega), va_up_ne _ _ (by omega), va_up_ne _ _ (by omega)]; exact hN)) dX6_puts_50 ?_
    refine g_iadd hX (nI (40 + N)) dX6_puts_51 (nI_add _ _) ?_
    refine g_iconst hX ((-1)) dX6_puts_52 rfl ?_
    refine g_iast hX (va_up (va_up (va_up (va_up (va_up (f) (4 + (4 * N)) (nI kk)) ((4 + (4 * N)) + 1) (nI q)) ((4 + (4 * N)) + 2) (-4)) ((4 + (4 * N)) + 3) (nI pp)) (40 + N) (-1)) (aw E p 49 (va_up (va_up (va_up (va_up (va_up (f) (4 + (4 * N)) (nI kk)) ((4 + (4 * N)) + 1) (nI q)) ((4 + (4 * N)) + 2) (-4)) ((4 + (4 * N)) + 3) (nI pp)) (40 + N) (-1))) 0 0 rfl rfl (vp_in_nI (by omega) (by omega)) (ast_r (by omega)) dX6_puts_53 rfl ?_
    refine g_aload_n hX dX6_puts_54 1 rfl ?_
    refine g_iconst hX (nI 2) dX6_puts_55 rfl ?_
    refine g_dup2 hX dX6_puts_56 rfl rfl ?_
    refine g_iald hX (nI N) 0 0 rfl rfl (vp_in_nI (by omega) (by omega)) ((ald_n (by omega)).trans (by rw [va_up_ne _ _ (by omega), va_up_ne _ _ (by omega), va_up_ne _ _ (by omega), va_up_ne _ _ (by omega), va_up_ne _ _ (by omega)]; exact hN)) dX6_puts_57 ?_
    refine g_iconst hX (nI 1) dX6_puts_58 rfl ?_
    refine g_iadd hX (nI (N + 1)) dX6_puts_59 (nI_add _ _) ?_
    refine g_iast hX (va_up (va_up (va_up (va_up (va_up (va_up (f) (4 + (4 * N)) (nI kk)) ((4 + (4 * N)) + 1) (nI q)) ((4 + (4 * N)) + 2) (-4)) ((4 + (4 * N)) + 3) (nI pp)) (40 + N) (-1)) 2 (nI (N + 1))) (aw E p 49 (va_up (va_up (va_up (va_up (va_up (va_up (f) (4 + (4 * N)) (nI kk)) ((4 + (4 * N)) + 1) (nI q)) ((4 + (4 * N)) + 2) (-4)) ((4 + (4 * N)) + 3) (nI pp)) (40 + N) (-1)) 2 (nI (N + 1)))) 0 0 rfl rfl (vp_in_nI (by omega) (by omega)) (ast_r (by omega)) dX6_puts_60 rfl ?_
    exact g_eq (by simp [putR, c27]) rfl rfl (hret () _ _ trivial dX6_puts_61)
set_option maxHeartbeats 4000000 in
set_option maxRecDepth 100000 in
theorem c_X6_asItIs (l : Launch) (E : EV) (a : Nat → Nat) (M : MV)  : KV l yX6_asItIs wsX6_asItIs (rmN 1) E (σ := Unit) [.ref (a 0)] (mw E a M) (fun _ => True) (fun _ => mw E a (mkMV (mT M) (mS M) (mA M) (mW M) (mK M) (mP M) (mE M) (mN M) (mX M) (mL M) (mI M) (mD M) (mR M) (mM M) (cpR (mO M) (mS M) 0 0) (mF M) (mU M) (mQ M) (mZ M) (mG M) (mH M))) 0 0 := by
  refine KV.of (cc := cX6_asItIs) (maxL := 1) rfl rfl rfl (fun x hX hin hret hnL => ?_)
  replace hX : CX x l cX6_asItIs RX6 wsX6_asItIs E (rmN 1) := hX
  show GG x 0 0 (mw E a M) 0 [(0, .ref (a 0))] []
  have inRX6 : ∀ w ∈ wsX60, w ∈ wsX6_asItIs := by decide +kernel
  have fl31 : Cond.fieldLink RX6 31 "LieForceModel" "now" "[I" ∈ wsX6_asItIs := by decide +kernel
  have fl7 : Cond.fieldLink RX6 7 "LieForceModel" "st" "[I" ∈ wsX6_asItIs := by decide +kernel
  refine g_aload_n hX dX6_asItIs_0 0 rfl ?_
  refine g_get hX (v := .ref (a 8)) 0 inRX6 rfl rfl 14 rfl fl31 rfl rfl dX6_asItIs_1 ?_
  refine g_iconst hX (nI 0) dX6_asItIs_4 rfl ?_
  refine g_aload_n hX dX6_asItIs_5 0 rfl ?_
  refine g_get hX (v := .ref (a 1)) 0 inRX6 rfl rfl 1 rfl fl7 rfl rfl dX6_asItIs_6 ?_
  refine g_iconst hX (nI 0) dX6_asItIs_9 rfl ?_
  refine g_eq (show (mw E a M : va_W) = mw E a (mkMV (mT M) (mS M) (mA M) (mW M) (mK M) (mP M) (mE M) (mN M) (mX M) (mL M) (mI M) (mD M) (mR M) (mM M) (mO M) (mF M) (mU M) (mQ M) (mZ M) (mG M) (mH M)) from rfl) rfl rfl ?_
  have hc10 : CUT (mw E a (mkMV (mT M) (mS M) (mA M) (mW M) (mK M) (mP M) (mE M) (mN M) (mX M) (mL M) (mI M) (mD M) (mR M) (mM M) (mO M) (mF M) (mU M) (mQ M) (mZ M) (mG M) (mH M))) ((aw E (a 8) 49 (mO M)) ++ (aw E (a 1) 49 (mS M))) ((List.eraseIdx (List.eraseIdx (mw E a (mkMV (mT M) (mS M) (mA M) (mW M) (mK M) (mP M) (mE M) (mN M) (mX M) (mL M) (mI M) (mD M) (mR M) (mM M) (mO M) (mF M) (mU M) (mQ M) (mZ M) (mG M) (mH M))) 8) 1)) [8, 1] [0, 2, 3, 4, 5, 6, 7, 9, 10, 11, 12] := ⟨rfl, rfl, rfl, rfl, rfl⟩
  refine g_TV hX hc10 [.ref (a 8), .int (nI 0), .ref (a 1), .int (nI 0)] [] (c_X6_copies l E (a 8) 49 (mO M) 0 (a 1) 49 (mS M) 0 (by omega) (by omega) (by omega) (by omega)) gX6_asItIs_X6_copies calX6_copies rfl rfl rfl rfl dX6_asItIs_10 rfl ⟨Nat.zero_le _, Nat.zero_le _⟩ (fun _ => mw E a (mkMV (mT M) (mS M) (mA M) (mW M) (mK M) (mP M) (mE M) (mN M) (mX M) (mL M) (mI M) (mD M) (mR M) (mM M) (cpR (mO M) (mS M) 0 0) (mF M) (mU M) (mQ M) (mZ M) (mG M) (mH M))) [0, 12, 1, 2, 3, 4, 5, 6, 11, 7, 8, 9, 10] rfl (fun _ => rfl) (fun _ hu10 => ?_)
  exact g_eq rfl rfl rfl (hret () _ _ trivial dX6_asItIs_13)
set_option maxHeartbeats 4000000 in
set_option maxRecDepth 100000 in
theorem c_X6_tellsSaying (l : Launch) (E : EV) (a : Nat → Nat) (M : MV) (kk : Nat) (q : Nat) (q2 : Nat) (pp : Nat) (N : Nat) (hN : mR M 2 = nI N) (hN9 : N < 9) (hk : kk < 5) : KV l yX6_tellsSaying wsX6_tellsSaying (rmN 1) E (σ := Unit) [.ref (a 0), .int (nI kk), .int (nI q), .int (nI q2), .int (nI pp)] (mw E a M) (fun _ => True) (fun _ => mw E a (mkMV (mT M) (mS M) (mA M) (mW M) (mK M) (mP M) (mE M) (mN M) (mX M) (mL M) (mI M) (mD M) (putR (mR M) N kk q q2 pp) (mM M) (mO M) (mF M) (mU M) (mQ M) (mZ M) (mG M) (mH M))) 0 0 := by
  refine KV.of (cc := cX6_tellsSaying) (maxL := 5) rfl rfl rfl (fun x hX hin hret hnL => ?_)
  replace hX : CX x l cX6_tellsSaying RX6 wsX6_tellsSaying E (rmN 1) := hX
  show GG x 0 0 (mw E a M) 0 [(0, .ref (a 0)), (1, .int (nI kk)), (2, .int (nI q)), (3, .int (nI q2)), (4, .int (nI pp))] []
  have inRX6 : ∀ w ∈ wsX60, w ∈ wsX6_tellsSaying := by decide +kernel
  have fl28 : Cond.fieldLink RX6 28 "LieForceModel" "read" "[I" ∈ wsX6_tellsSaying := by decide +kernel
  refine g_aload_n hX dX6_tellsSaying_0 0 rfl ?_
  refine g_get hX (v := .ref (a 7)) 0 inRX6 rfl rfl 12 rfl fl28 rfl rfl dX6_tellsSaying_1 ?_
  refine g_iload_n hX dX6_tellsSaying_4 1 rfl ?_
  refine g_iload_n hX dX6_tellsSaying_5 2 rfl ?_
  refine g_iload_n hX dX6_tellsSaying_6 3 rfl ?_
  refine g_iload hX dX6_tellsSaying_7 4 rfl ?_
  refine g_eq (show (mw E a M : va_W) = mw E a (mkMV (mT M) (mS M) (mA M) (mW M) (mK M) (mP M) (mE M) (mN M) (mX M) (mL M) (mI M) (mD M) (mR M) (mM M) (mO M) (mF M) (mU M) (mQ M) (mZ M) (mG M) (mH M)) from rfl) rfl rfl ?_
  have hc9 : CUT (mw E a (mkMV (mT M) (mS M) (mA M) (mW M) (mK M) (mP M) (mE M) (mN M) (mX M) (mL M) (mI M) (mD M) (mR M) (mM M) (mO M) (mF M) (mU M) (mQ M) (mZ M) (mG M) (mH M))) (aw E (a 7) 49 (mR M)) ((List.eraseIdx (mw E a (mkMV (mT M) (mS M) (mA M) (mW M) (mK M) (mP M) (mE M) (mN M) (mX M) (mL M) (mI M) (mD M) (mR M) (mM M) (mO M) (mF M) (mU M) (mQ M) (mZ M) (mG M) (mH M))) 7)) [7] [0, 1, 2, 3, 4, 5, 6, 8, 9, 10, 11, 12] := ⟨rfl, rfl, rfl, rfl, rfl⟩
  refine g_TV hX hc9 [.ref (a 7), .int (nI kk), .int (nI q), .int (nI q2), .int (nI pp)] [] (c_X6_puts l E (a 7) (mR M) kk q q2 pp N (by assumption) (by omega) (by omega)) gX6_tellsSaying_X6_puts calX6_puts rfl rfl rfl rfl dX6_tellsSaying_9 rfl ⟨Nat.zero_le _, Nat.zero_le _⟩ (fun _ => mw E a (mkMV (mT M) (mS M) (mA M) (mW M) (mK M) (mP M) (mE M) (mN M) (mX M) (mL M) (mI M) (mD M) (putR (mR M) N kk q q2 pp) (mM M) (mO M) (mF M) (mU M) (mQ M) (mZ M) (mG M) (mH M))) [0, 1, 2, 3, 4, 5, 6, 12, 7, 8, 9, 10, 11] rfl (fun _ => rfl) (fun _ hu9 => ?_)
  exact g_eq rfl rfl rfl (hret () _ _ trivial dX6_tellsSaying_12)
set_option maxHeartbeats 4000000 in
set_option maxRecDepth 100000 in
theorem c_X6_goes (l : Launch) (E : EV) (a : Nat → Nat) (M : MV) (C : FC) (hC : SO C) (hO : RW C (mO M)) (hV : VB C) (hV1 : VB (serC C)) (hTm : cT C = mT M) : KV l yX6_goes wsX6_goes (rmN 4) E (σ := Nat → Int32) [.ref (a 0)] (mw E a M) (fun u => RW (passC C).1 u) (fun u => mw E a (mkMV (mT M) (mS M) (mA M) (mW M) (mK M) (mP M) (mE M) (mN M) (mX M) (mL M) (mI M) (mD M) (mR M) (mM M) u (ffV (serC C) (cN C)) (mU M + (passC C).2) (mQ M) (mZ M) (mG M) (mH M))) 0 0 := by
  refine KV.of (cc := cX6_goes) (maxL := 3) rfl rfl rfl (fun x hX hin hret hnL => ?_)
  replace hX : CX x l cX6_goes RX6 wsX6_goes E (rmN 4) := hX
  show GG x 0 0 (mw E a M) 0 [(0, .ref (a 0))] []
  have inRX6 : ∀ w ∈ wsX60, w ∈ wsX6_goes := by decide +kernel
  have fl105 : Cond.fieldLink RX6 105 "LieForceModel" "term" "I" ∈ wsX6_goes := by decide +kernel
  have fl137 : Cond.fieldLink RX6 137 "LieForceModel" "firstFallen" "I" ∈ wsX6_goes := by decide +kernel
  have fl143 : Cond.fieldLink RX6 143 "LieForceModel" "fallen" "I" ∈ wsX6_goes := by decide +kernel
  have fl31 : Cond.fieldLink RX6 31 "LieForceModel" "now" "[I" ∈ wsX6_goes := by decide +kernel
  obtain ⟨⟨h9, h64, h512, hT, hI⟩, hK⟩ := id hC
  have hFO := fallN_ok (FO_serC hC.1) hV1
  have hFn := fallN_n (serC C)
  have hFT := fallN_T (serC C)
  have hFS := fallN_S (C := serC C) ⟨FO_serC hC.1, hC.2⟩
  refine g_aload_n hX dX6_goes_0 0 rfl ?_
  refine g_bipush hX ((-4)) dX6_goes_1 rfl ?_
  refine g_eq (show (mw E a M : va_W) = mw E a (mkMV (mT M) (mS M) (mA M) (mW M) (mK M) (mP M) (mE M) (mN M) (mX M) (mL M) (mI M) (mD M) (mR M) (mM M) (mO M) (mF M) (mU M) (mQ M) (mZ M) (mG M) (mH M)) from rfl) rfl rfl ?_
  refine g_put hX (mw E a (mkMV (mT M) (mS M) (mA M) (mW M) (mK M) (mP M) (mE M) (mN M) (mX M) (mL M) (mI M) (mD M) (mR M) (mM M) (mO M) (-4) (mU M) (mQ M) (mZ M) (mG M) (mH M))) 0 inRX6 tyX6_ok nmX6 (atModel_0 _ _ _ _ _ _ _ _ _ _ _ _ _ _ _ _ _ _ _ _ _ _ _) rfl 15 rfl fl137 rfl rfl rfl rfl rfl dX6_goes_3 (stModel_0_15 _ _ _ _ _ _ _ _ _ _ _ _ _ _ _ _ _ _ _ _ _ _ _ _) ?_
  refine g_aload_n hX dX6_goes_6 0 rfl ?_
  refine g_get hX (v := .ref (a 8)) 0 inRX6 (atModel_0 _ _ _ _ _ _ _ _ _ _ _ _ _ _ _ _ _ _ _ _ _ _ _) rfl 14 rfl fl31 rfl rfl dX6_goes_7 ?_
  refine g_iconst hX (nI 1) dX6_goes_10 rfl ?_
  refine g_dup2 hX dX6_goes_11 rfl rfl ?_
  refine g_iald hX (nI (cY C)) 8 0 (atModel_8 _ _ _ _ _ _ _ _ _ _ _ _ _ _ _ _ _ _ _ _ _ _ _) rfl (vp_in_nI (by omega) (by omega)) ((ald_n (g := fun zz => (mO M) zz) (i := 1) (by omega)).trans (RB_Y hO.1)) dX6_goes_12 ?_
  refine g_iconst hX (nI 1) dX6_goes_13 rfl ?_
  refine g_iadd hX (nI ((cY C) + 1)) dX6_goes_14 (nI_add _ _) ?_
  refine g_iast hX (va_up (mO M) 1 (nI ((cY C) + 1))) (mw E a (mkMV (mT M) (mS M) (mA M) (mW M) (mK M) (mP M) (mE M) (mN M) (mX M) (mL M) (mI M) (mD M) (mR M) (mM M) (va_up (mO M) 1 (nI ((cY C) + 1))) (-4) (mU M) (mQ M) (mZ M) (mG M) (mH M))) 8 0 (atModel_8 _ _ _ _ _ _ _ _ _ _ _ _ _ _ _ _ _ _ _ _ _ _ _) rfl (vp_in_nI (by omega) (by omega)) (ast_r (by omega)) dX6_goes_15 (stModel_8 _ _ _ _ _ _ _ _ _ _ _ _ _ _ _ _ _ _ _ _ _ _ _ _) ?_
  refine g_iconst hX (nI 0) dX6_goes_16 rfl ?_
  refine g_istore_n hX (j := 1) [(1, .int (nI 0)), (0, .ref (a 0))] dX6_goes_17 rfl (by rw [hnL]; rfl) rfl ?_
  have lp18 : ∀ (fuel : Nat) (i : Nat) (z : Nat → Int32), cN C - i < fuel → (i ≤ cN C) → (RB (sY C (cY C + 1)) z) → (∀ s, s < i → z (40 + s) = rsV (serC C) s) → (∀ s, i ≤ s → s < cN C → z (40 + s) = rsV C s) → GG x 0 0 (mw E a (mkMV (mT M) (mS M) (mA M) (mW M) (mK M) (mP M) (mE M) (mN M) (mX M) (mL M) (mI M) (mD M) (mR M) (mM M) z (-4) (mU M) (mQ M) (mZ M) (mG M) (mH M))) 18 [(0, .ref (a 0)), (1, .int (nI i))] [] := by
    intro fuel
    induction fuel with
    | zero => intro i z hm; exact absurd hm (Nat.not_lt_zero _)
    | succ fuel ih18 =>
      intro i z hm18 hi hz hb ha
      have hsy : cN (sY C (cY C + 1)) = cN C := rfl
      refine g_iload_n hX dX6_goes_18 1 rfl ?_
      refine g_aload_n hX dX6_goes_19 0 rfl ?_
      refine g_get hX (v := .ref (a 8)) 0 inRX6 (atModel_0 _ _ _ _ _ _ _ _ _ _ _ _ _ _ _ _ _ _ _ _ _ _ _) rfl 14 rfl fl31 rfl rfl dX6_goes_20 ?_
      refine g_iconst hX (nI 2) dX6_goes_23 rfl ?_
      refine g_iald hX (nI (cN (sY C (cY C + 1)))) 8 0 (atModel_8 _ _ _ _ _ _ _ _ _ _ _ _ _ _ _ _ _ _ _ _ _ _ _) rfl (vp_in_nI (by omega) (by omega)) ((ald_n (g := fun zz => (z) zz) (i := 2) (by omega)).trans (RB_N hz)) dX6_goes_24 ?_
      refine g_icmp_ge hX 63 dX6_goes_25 (by decide) (fun c25 => ?_) (fun c25 => ?_)
      · replace c25 := (nI_leI (by omega) (by omega)).mp c25
        refine g_iconst hX (nI 0) dX6_goes_63 rfl ?_
        refine g_istore_n hX (j := 1) [(1, .int (nI 0)), (0, .ref (a 0))] dX6_goes_64 rfl (by rw [hnL]; rfl) rfl ?_
        have lp65 : ∀ (fuel : Nat) (i : Nat) (y : Nat → Int32) (fu : Nat) (ff : Int32), cN C - i < fuel → (i ≤ cN C) → (RW (fallN (serC C) i).1 y) → (fu = mU M + (fallN (serC C) i).2) → (ff = ffV (serC C) i) → GG x 0 0 (mw E a (mkMV (mT M) (mS M) (mA M) (mW M) (mK M) (mP M) (mE M) (mN M) (mX M) (mL M) (mI M) (mD M) (mR M) (mM M) y ff fu (mQ M) (mZ M) (mG M) (mH M))) 65 [(0, .ref (a 0)), (1, .int (nI i))] [] := by
          intro fuel
          induction fuel with
          | zero => intro i y fu ff hm; exact absurd hm (Nat.not_lt_zero _)
          | succ fuel ih65 =>
            intro i y fu ff hm65 hi hy hfu hff
            have hni : cN (fallN (serC C) i).1 = cN C := hFn i
            refine g_iload_n hX dX6_goes_65 1 rfl ?_
            refine g_aload_n hX dX6_goes_66 0 rfl ?_
            refine g_get hX (v := .ref (a 8)) 0 inRX6 (atModel_0 _ _ _ _ _ _ _ _ _ _ _ _ _ _ _ _ _ _ _ _ _ _ _) rfl 14 rfl fl31 rfl rfl dX6_goes_67 ?_
            refine g_iconst hX (nI 2) dX6_goes_70 rfl ?_
            refine g_iald hX (nI (cN ((fallN (serC C) i).1))) 8 0 (atModel_8 _ _ _ _ _ _ _ _ _ _ _ _ _ _ _ _ _ _ _ _ _ _ _) rfl (vp_in_nI (by omega) (by omega)) ((ald_n (g := fun zz => (y) zz) (i := 2) (by omega)).trans (RB_N hy.1)) dX6_goes_71 ?_
            refine g_icmp_ge hX 212 dX6_goes_72 (by decide) (fun c72 => ?_) (fun c72 => ?_)
            · replace c72 := (nI_leI (by omega) (by omega)).mp c72
              exact g_eq (by rw [passC, hfu, hff, show cN C = i by omega]) rfl rfl (hret y _ _ (by rw [passC, show cN C = i by omega]; exact hy) dX6_goes_212)
            · replace c72 := mt (nI_leI (by omega) (by omega)).mpr c72
              refine g_iload_n hX dX6_goes_75 1 rfl ?_
              refine g_iconst hX (nI 1) dX6_goes_76 rfl ?_
              refine g_iadd hX (nI (i + 1)) dX6_goes_77 (nI_add _ _) ?_
              refine g_istore_n hX (j := 2) [(2, .int (nI (i + 1))), (0, .ref (a 0)), (1, .int (nI i))] dX6_goes_78 rfl (by rw [hnL]; rfl) rfl ?_
              have lp79 : ∀ (fuel : Nat) (j : Nat) (w : Nat → Int32) (fw2 : Nat) (fg : Int32), cN C - j < fuel → (j ≤ cN C) → (i < j) → (RW (gD (serC C) i j) w) → (fw2 = mU M + gU (serC C) i j) → (fg = gF (serC C) i j) → GG x 0 0 (mw E a (mkMV (mT M) (mS M) (mA M) (mW M) (mK M) (mP M) (mE M) (mN M) (mX M) (mL M) (mI M) (mD M) (mR M) (mM M) w fg fw2 (mQ M) (mZ M) (mG M) (mH M))) 79 [(0, .ref (a 0)), (1, .int (nI i)), (2, .int (nI j))] [] := by
                intro fuel
                induction fuel with
                | zero => intro j w fw2 fg hm; exact absurd hm (Nat.not_lt_zero _)
                | succ fuel ih79 =>
                  intro j w fw2 fg hm79 hj hij hw hfw hfg
                  have hnj : cN (gD (serC C) i j) = cN C := gD_P (P := fun D => cN D = cN C) hFn i j
                  have hDT : cT (gD (serC C) i j) = cT C := gD_P (P := fun D => cT D = cT C) hFT i j
                  have hDS : SO (gD (serC C) i j) := gD_P hFS i j
                  have hDO := hDS.1
                  have hDV : VB (gD (serC C) i j) := gD_P (P := VB) (fun k => (hFO k).2) i j
                  refine g_iload_n hX dX6_goes_79 2 rfl ?_
                  refine g_aload_n hX dX6_goes_80 0 rfl ?_
                  refine g_get hX (v := .ref (a 8)) 0 inRX6 (atModel_0 _ _ _ _ _ _ _ _ _ _ _ _ _ _ _ _ _ _ _ _ _ _ _) rfl 14 rfl fl31 rfl rfl dX6_goes_81 ?_
                  refine g_iconst hX (nI 2) dX6_goes_84 rfl ?_
                  refine g_iald hX (nI (cN (gD (serC C) i j))) 8 0 (atModel_8 _ _ _ _ _ _ _ _ _ _ _ _ _ _ _ _ _ _ _ _ _ _ _) rfl (vp_in_nI (by omega) (by omega)) ((ald_n (g := fun zz => (w) zz) (i := 2) (by omega)).trans (RB_N hw.1)) dX6_goes_85 ?_
                  refine g_icmp_ge hX 206 dX6_goes_86 (by decide) (fun c86 => ?_) (fun c86 => ?_)
                  · replace c86 := (nI_leI (by omega) (by omega)).mp c86
                    have he := go_end (C := serC C) (i := i) (j := j) (by show cN C ≤ j; omega)
                    refine g_iinc hX (j := 1) (nI (i + 1)) [(1, .int (nI (i + 1))), (0, .ref (a 0)), (2, .int (nI j))] dX6_goes_206 1 rfl (iinc_n _ _) (by rw [hnL]; rfl) rfl ?_
                    refine g_goto hX 65 dX6_goes_209 (by decide) ?_
                    exact g_lv _ [1, 0] rfl (ih65 (i + 1) w fw2 fg (by omega) (by omega) (he.1 ▸ hw) (by rw [hfw, he.2.1]) (by rw [hfg, he.2.2]))
                  · replace c86 := mt (nI_leI (by omega) (by omega)).mpr c86
                    refine g_aload_n hX dX6_goes_89 0 rfl ?_
                    refine g_get hX (v := .ref (a 8)) 0 inRX6 (atModel_0 _ _ _ _ _ _ _ _ _ _ _ _ _ _ _ _ _ _ _ _ _ _ _) rfl 14 rfl fl31 rfl rfl dX6_goes_90 ?_
                    refine g_bipush hX (nI 40) dX6_goes_93 rfl ?_
                    refine g_iload_n hX dX6_goes_95 1 rfl ?_
                    refine g_iadd hX (nI (40 + i)) dX6_goes_96 (nI_add _ _) ?_
                    refine g_iald hX (w (40 + i)) 8 0 (atModel_8 _ _ _ _ _ _ _ _ _ _ _ _ _ _ _ _ _ _ _ _ _ _ _) rfl (vp_in_nI (by omega) (by omega)) (ald_n (g := fun zz => (w) zz) (i := 40 + i) (by omega)) dX6_goes_97 ?_
                    refine g_aload_n hX dX6_goes_98 0 rfl ?_
                    refine g_get hX (v := .int (nI (mT M))) 0 inRX6 (atModel_0 _ _ _ _ _ _ _ _ _ _ _ _ _ _ _ _ _ _ _ _ _ _ _) rfl 0 rfl fl105 rfl rfl dX6_goes_99 ?_
                    refine g_icmp_lt hX 200 dX6_goes_102 (by decide) (fun c102 => ?_) (fun c102 => ?_)
                    · replace c102 := (rs_ltT hw.2 hDV (hDT.trans hTm) (by omega) (by omega)).mp c102
                      have hst := go_eq (go_no (C := serC C) (i := i) (j := j) (fun q => by simp [q.1, q.2.1, q.2.2] at c102))
                      refine g_iinc hX (j := 2) (nI (j + 1)) [(2, .int (nI (j + 1))), (0, .ref (a 0)), (1, .int (nI i))] dX6_goes_200 2 rfl (iinc_n _ _) (by rw [hnL]; rfl) rfl ?_
                      refine g_goto hX 79 dX6_goes_203 (by decide) ?_
                      exact g_lv _ [1, 2, 0] rfl (ih79 (j + 1) w fw2 fg (by omega) (by omega) (by omega) (by rw [hst.1]; first | exact hw | exact RW_to2 hDO.1 hw (by omega) (by omega) rfl) (by have h2 := hst.2.1; omega) (by rw [hst.2.2]; first | exact hfg | (rw [← hfg]; simp [c25, c72, c86, c102])))
                    · replace c102 := mt (rs_ltT hw.2 hDV (hDT.trans hTm) (by omega) (by omega)).mpr c102
                      replace c102 := bNf c102
                      refine g_aload_n hX dX6_goes_105 0 rfl ?_
                      refine g_get hX (v := .ref (a 8)) 0 inRX6 (atModel_0 _ _ _ _ _ _ _ _ _ _ _ _ _ _ _ _ _ _ _ _ _ _ _) rfl 14 rfl fl31 rfl rfl dX6_goes_106 ?_
                      refine g_bipush hX (nI 40) dX6_goes_109 rfl ?_
                      refine g_iload_n hX dX6_goes_111 2 rfl ?_
                      refine g_iadd hX (nI (40 + j)) dX6_goes_112 (nI_add _ _) ?_
                      refine g_iald hX (w (40 + j)) 8 0 (atModel_8 _ _ _ _ _ _ _ _ _ _ _ _ _ _ _ _ _ _ _ _ _ _ _) rfl (vp_in_nI (by omega) (by omega)) (ald_n (g := fun zz => (w) zz) (i := 40 + j) (by omega)) dX6_goes_113 ?_
                      refine g_aload_n hX dX6_goes_114 0 rfl ?_
                      refine g_get hX (v := .int (nI (mT M))) 0 inRX6 (atModel_0 _ _ _ _ _ _ _ _ _ _ _ _ _ _ _ _ _ _ _ _ _ _ _) rfl 0 rfl fl105 rfl rfl dX6_goes_115 ?_
                      refine g_icmp_lt hX 200 dX6_goes_118 (by decide) (fun c118 => ?_) (fun c118 => ?_)
                      · replace c118 := (rs_ltT hw.2 hDV (hDT.trans hTm) (by omega) (by omega)).mp c118
                        have hst := go_eq (go_no (C := serC C) (i := i) (j := j) (fun q => by simp [q.1, q.2.1, q.2.2] at c118))
                        refine g_iinc hX (j := 2) (nI (j + 1)) [(2, .int (nI (j + 1))), (0, .ref (a 0)), (1, .int (nI i))] dX6_goes_200 2 rfl (iinc_n _ _) (by rw [hnL]; rfl) rfl ?_
                        refine g_goto hX 79 dX6_goes_203 (by decide) ?_
                        exact g_lv _ [1, 2, 0] rfl (ih79 (j + 1) w fw2 fg (by omega) (by omega) (by omega) (by rw [hst.1]; first | exact hw | exact RW_to2 hDO.1 hw (by omega) (by omega) rfl) (by have h2 := hst.2.1; omega) (by rw [hst.2.2]; first | exact hfg | (rw [← hfg]; simp [c25, c72, c86, c102, c118])))
                      · replace c118 := mt (rs_ltT hw.2 hDV (hDT.trans hTm) (by omega) (by omega)).mpr c118
                        replace c118 := bNf c118
                        refine g_aload_n hX dX6_goes_121 0 rfl ?_
                        refine g_iload_n hX dX6_goes_122 1 rfl ?_
                        refine g_iload_n hX dX6_goes_123 2 rfl ?_
                        have hc124 : CUT (mw E a (mkMV (mT M) (mS M) (mA M) (mW M) (mK M) (mP M) (mE M) (mN M) (mX M) (mL M) (mI M) (mD M) (mR M) (mM M) w fg fw2 (mQ M) (mZ M) (mG M) (mH M))) (mw E a (mkMV (mT M) (mS M) (mA M) (mW M) (mK M) (mP M) (mE M) (mN M) (mX M) (mL M) (mI M) (mD M) (mR M) (mM M) w fg fw2 (mQ M) (mZ M) (mG M) (mH M))) (([] : va_W)) [0, 1, 2, 3, 4, 5, 6, 7, 8, 9, 10, 11, 12] [] := ⟨rfl, rfl, rfl, rfl, rfl⟩
                        refine g_VI hX hc124 [.int (nI i), .int (nI j)] [] (c_X6_doClash l E a (mkMV (mT M) (mS M) (mA M) (mW M) (mK M) (mP M) (mE M) (mN M) (mX M) (mL M) (mI M) (mD M) (mR M) (mM M) w fg fw2 (mQ M) (mZ M) (mG M) (mH M)) (gD (serC C) i j) i j hDS hw.1 (by omega) (by omega)) gX6_goes_X6_doClash calX6_doClash rfl rfl rfl rfl 0 rfl rfl rfl rfl dX6_goes_124 rfl ⟨Nat.zero_le _, Nat.zero_le _⟩ (fun _ => mw E a (mkMV (mT M) (mS M) (mA M) (mW M) (mK M) (mP M) (mE M) (mN M) (mX M) (mL M) (mI M) (mD M) (mR M) (mM M) w fg fw2 (mQ M) (mZ M) (mG M) (mH M))) [0, 1, 2, 3, 4, 5, 6, 7, 8, 9, 10, 11, 12] rfl (fun _ => rfl) (fun _ hu124 => ?_)
                        refine g_if_eq hX 200 dX6_goes_127 (by decide) (fun c127 => ?_) (fun c127 => ?_)
                        · replace c127 := bI_0.mp c127
                          have hst := go_eq (go_no (C := serC C) (i := i) (j := j) (fun q => by simp [q.1, q.2.1, q.2.2] at c127))
                          refine g_iinc hX (j := 2) (nI (j + 1)) [(2, .int (nI (j + 1))), (0, .ref (a 0)), (1, .int (nI i))] dX6_goes_200 2 rfl (iinc_n _ _) (by rw [hnL]; rfl) rfl ?_
                          refine g_goto hX 79 dX6_goes_203 (by decide) ?_
                          exact g_lv _ [1, 2, 0] rfl (ih79 (j + 1) w fw2 fg (by omega) (by omega) (by omega) (by rw [hst.1]; first | exact hw | exact RW_to2 hDO.1 hw (by omega) (by omega) rfl) (by have h2 := hst.2.1; omega) (by rw [hst.2.2]; first | exact hfg | (rw [← hfg]; simp [c25, c72, c86, c102, c118, c127])))
                        · replace c127 := mt bI_0.mpr c127
                          replace c127 := bNf c127
                          have hgy := go_yes hij (by show j < cN C; omega) c102 c118 c127
                          have hst := go_st hgy.1 hgy.2
                          refine g_aload_n hX dX6_goes_130 0 rfl ?_
                          refine g_get hX (v := .ref (a 8)) 0 inRX6 (atModel_0 _ _ _ _ _ _ _ _ _ _ _ _ _ _ _ _ _ _ _ _ _ _ _) rfl 14 rfl fl31 rfl rfl dX6_goes_131 ?_
                          refine g_iconst hX (nI 3) dX6_goes_134 rfl ?_
                          refine g_dup2 hX dX6_goes_135 rfl rfl ?_
                          refine g_iald hX (nI (cG (gD (serC C) i j))) 8 0 (atModel_8 _ _ _ _ _ _ _ _ _ _ _ _ _ _ _ _ _ _ _ _ _ _ _) rfl (vp_in_nI (by omega) (by omega)) ((ald_n (g := fun zz => (w) zz) (i := 3) (by omega)).trans (RB_G hw.1)) dX6_goes_136 ?_
                          refine g_iconst hX (nI 1) dX6_goes_137 rfl ?_
                          refine g_iload_n hX dX6_goes_138 1 rfl ?_
                          refine g_ishl hX (nI (1 <<< i)) dX6_goes_139 (sh_l _ (by omega)) ?_
                          refine g_iconst hX (nI 1) dX6_goes_140 rfl ?_
                          refine g_iload_n hX dX6_goes_141 2 rfl ?_
                          refine g_ishl hX (nI (1 <<< j)) dX6_goes_142 (sh_l _ (by omega)) ?_
                          refine g_ior hX (nI ((1 <<< i) ||| (1 <<< j))) dX6_goes_143 (fa_or _ _) ?_
                          refine g_ior hX (nI ((cG (gD (serC C) i j)) ||| ((1 <<< i) ||| (1 <<< j)))) dX6_goes_144 (fa_or _ _) ?_
                          refine g_iast hX (va_up (w) 3 (nI ((cG (gD (serC C) i j)) ||| ((1 <<< i) ||| (1 <<< j))))) (mw E a (mkMV (mT M) (mS M) (mA M) (mW M) (mK M) (mP M) (mE M) (mN M) (mX M) (mL M) (mI M) (mD M) (mR M) (mM M) (va_up (w) 3 (nI ((cG (gD (serC C) i j)) ||| ((1 <<< i) ||| (1 <<< j))))) fg fw2 (mQ M) (mZ M) (mG M) (mH M))) 8 0 (atModel_8 _ _ _ _ _ _ _ _ _ _ _ _ _ _ _ _ _ _ _ _ _ _ _) rfl (vp_in_nI (by omega) (by omega)) (ast_r (by omega)) dX6_goes_145 (stModel_8 _ _ _ _ _ _ _ _ _ _ _ _ _ _ _ _ _ _ _ _ _ _ _ _) ?_
                          refine g_aload_n hX dX6_goes_146 0 rfl ?_
                          refine g_get hX (v := .ref (a 8)) 0 inRX6 (atModel_0 _ _ _ _ _ _ _ _ _ _ _ _ _ _ _ _ _ _ _ _ _ _ _) rfl 14 rfl fl31 rfl rfl dX6_goes_147 ?_
                          refine g_bipush hX (nI 40) dX6_goes_150 rfl ?_
                          refine g_iload_n hX dX6_goes_152 1 rfl ?_
                          refine g_iadd hX (nI (40 + i)) dX6_goes_153 (nI_add _ _) ?_
                          refine g_iconst hX ((-1)) dX6_goes_154 rfl ?_
                          refine g_iast hX (va_up (va_up (w) 3 (nI ((cG (gD (serC C) i j)) ||| ((1 <<< i) ||| (1 <<< j))))) (40 + i) (-1)) (mw E a (mkMV (mT M) (mS M) (mA M) (mW M) (mK M) (mP M) (mE M) (mN M) (mX M) (mL M) (mI M) (mD M) (mR M) (mM M) (va_up (va_up (w) 3 (nI ((cG (gD (serC C) i j)) ||| ((1 <<< i) ||| (1 <<< j))))) (40 + i) (-1)) fg fw2 (mQ M) (mZ M) (mG M) (mH M))) 8 0 (atModel_8 _ _ _ _ _ _ _ _ _ _ _ _ _ _ _ _ _ _ _ _ _ _ _) rfl (vp_in_nI (by omega) (by omega)) (ast_r (by omega)) dX6_goes_155 (stModel_8 _ _ _ _ _ _ _ _ _ _ _ _ _ _ _ _ _ _ _ _ _ _ _ _) ?_
                          refine g_aload_n hX dX6_goes_156 0 rfl ?_
                          refine g_get hX (v := .ref (a 8)) 0 inRX6 (atModel_0 _ _ _ _ _ _ _ _ _ _ _ _ _ _ _ _ _ _ _ _ _ _ _) rfl 14 rfl fl31 rfl rfl dX6_goes_157 ?_
                          refine g_bipush hX (nI 40) dX6_goes_160 rfl ?_
                          refine g_iload_n hX dX6_goes_162 2 rfl ?_
                          refine g_iadd hX (nI (40 + j)) dX6_goes_163 (nI_add _ _) ?_
                          refine g_iconst hX ((-1)) dX6_goes_164 rfl ?_
                          refine g_iast hX (va_up (va_up (va_up (w) 3 (nI ((cG (gD (serC C) i j)) ||| ((1 <<< i) ||| (1 <<< j))))) (40 + i) (-1)) (40 + j) (-1)) (mw E a (mkMV (mT M) (mS M) (mA M) (mW M) (mK M) (mP M) (mE M) (mN M) (mX M) (mL M) (mI M) (mD M) (mR M) (mM M) (va_up (va_up (va_up (w) 3 (nI ((cG (gD (serC C) i j)) ||| ((1 <<< i) ||| (1 <<< j))))) (40 + i) (-1)) (40 + j) (-1)) fg fw2 (mQ M) (mZ M) (mG M) (mH M))) 8 0 (atModel_8 _ _ _ _ _ _ _ _ _ _ _ _ _ _ _ _ _ _ _ _ _ _ _) rfl (vp_in_nI (by omega) (by omega)) (ast_r (by omega)) dX6_goes_165 (stModel_8 _ _ _ _ _ _ _ _ _ _ _ _ _ _ _ _ _ _ _ _ _ _ _ _) ?_
                          refine g_aload_n hX dX6_goes_166 0 rfl ?_
                          refine g_aload_n hX dX6_goes_167 0 rfl ?_
                          refine g_get hX (v := .int fg) 0 inRX6 (atModel_0 _ _ _ _ _ _ _ _ _ _ _ _ _ _ _ _ _ _ _ _ _ _ _) rfl 15 rfl fl137 rfl rfl dX6_goes_168 ?_
                          refine g_if_ge hX 183 dX6_goes_171 (by decide) (fun c171 => ?_) (fun c171 => ?_)
                          · skip
                            refine g_aload_n hX dX6_goes_183 0 rfl ?_
                            refine g_get hX (v := .int fg) 0 inRX6 (atModel_0 _ _ _ _ _ _ _ _ _ _ _ _ _ _ _ _ _ _ _ _ _ _ _) rfl 15 rfl fl137 rfl rfl dX6_goes_184 ?_
                            refine g_put hX (mw E a (mkMV (mT M) (mS M) (mA M) (mW M) (mK M) (mP M) (mE M) (mN M) (mX M) (mL M) (mI M) (mD M) (mR M) (mM M) (va_up (va_up (va_up (w) 3 (nI ((cG (gD (serC C) i j)) ||| ((1 <<< i) ||| (1 <<< j))))) (40 + i) (-1)) (40 + j) (-1)) fg fw2 (mQ M) (mZ M) (mG M) (mH M))) 0 inRX6 tyX6_ok nmX6 (atModel_0 _ _ _ _ _ _ _ _ _ _ _ _ _ _ _ _ _ _ _ _ _ _ _) rfl 15 rfl fl137 rfl rfl rfl rfl rfl dX6_goes_187 (stModel_0_15 _ _ _ _ _ _ _ _ _ _ _ _ _ _ _ _ _ _ _ _ _ _ _ _) ?_
                            refine g_aload_n hX dX6_goes_190 0 rfl ?_
                            refine g_dup hX dX6_goes_191 rfl ?_
                            refine g_get hX (v := .int (nI fw2)) 0 inRX6 (atModel_0 _ _ _ _ _ _ _ _ _ _ _ _ _ _ _ _ _ _ _ _ _ _ _) rfl 16 rfl fl143 rfl rfl dX6_goes_192 ?_
                            refine g_iconst hX (nI 2) dX6_goes_195 rfl ?_
                            refine g_iadd hX (nI (fw2 + 2)) dX6_goes_196 (nI_add _ _) ?_
                            refine g_put hX (mw E a (mkMV (mT M) (mS M) (mA M) (mW M) (mK M) (mP M) (mE M) (mN M) (mX M) (mL M) (mI M) (mD M) (mR M) (mM M) (va_up (va_up (va_up (w) 3 (nI ((cG (gD (serC C) i j)) ||| ((1 <<< i) ||| (1 <<< j))))) (40 + i) (-1)) (40 + j) (-1)) fg (fw2 + 2) (mQ M) (mZ M) (mG M) (mH M))) 0 inRX6 tyX6_ok nmX6 (atModel_0 _ _ _ _ _ _ _ _ _ _ _ _ _ _ _ _ _ _ _ _ _ _ _) rfl 16 rfl fl143 rfl rfl rfl rfl rfl dX6_goes_197 (stModel_0_16 _ _ _ _ _ _ _ _ _ _ _ _ _ _ _ _ _ _ _ _ _ _ _ _) ?_
                            refine g_iinc hX (j := 2) (nI (j + 1)) [(2, .int (nI (j + 1))), (0, .ref (a 0)), (1, .int (nI i))] dX6_goes_200 2 rfl (iinc_n _ _) (by rw [hnL]; rfl) rfl ?_
                            refine g_goto hX 79 dX6_goes_203 (by decide) ?_
                            exact g_lv _ [1, 2, 0] rfl (ih79 (j + 1) (va_up (va_up (va_up (w) 3 (nI ((cG (gD (serC C) i j)) ||| ((1 <<< i) ||| (1 <<< j))))) (40 + i) (-1)) (40 + j) (-1)) (fw2 + 2) fg (by omega) (by omega) (by omega) (by rw [hst.1]; first | exact hw | exact RW_to2 hDO.1 hw (by omega) (by omega) rfl) (by have h2 := hst.2.1; omega) (by rw [hst.2.2]; first | exact hfg | (rw [← hfg]; simp [c25, c72, c86, c102, c118, c127, c171])))
                          · skip
                            refine g_bipush hX (nI 10) dX6_goes_174 rfl ?_
                            refine g_iload_n hX dX6_goes_176 1 rfl ?_
                            refine g_imul hX (nI (10 * i)) dX6_goes_177 (pk_mul _ _) ?_
                            refine g_iload_n hX dX6_goes_178 2 rfl ?_
                            refine g_iadd hX (nI ((10 * i) + j)) dX6_goes_179 (nI_add _ _) ?_
                            refine g_goto hX 187 dX6_goes_180 (by decide) ?_
                            refine g_put hX (mw E a (mkMV (mT M) (mS M) (mA M) (mW M) (mK M) (mP M) (mE M) (mN M) (mX M) (mL M) (mI M) (mD M) (mR M) (mM M) (va_up (va_up (va_up (w) 3 (nI ((cG (gD (serC C) i j)) ||| ((1 <<< i) ||| (1 <<< j))))) (40 + i) (-1)) (40 + j) (-1)) (nI ((10 * i) + j)) fw2 (mQ M) (mZ M) (mG M) (mH M))) 0 inRX6 tyX6_ok nmX6 (atModel_0 _ _ _ _ _ _ _ _ _ _ _ _ _ _ _ _ _ _ _ _ _ _ _) rfl 15 rfl fl137 rfl rfl rfl rfl rfl dX6_goes_187 (stModel_0_15 _ _ _ _ _ _ _ _ _ _ _ _ _ _ _ _ _ _ _ _ _ _ _ _) ?_
                            refine g_aload_n hX dX6_goes_190 0 rfl ?_
                            refine g_dup hX dX6_goes_191 rfl ?_
                            refine g_get hX (v := .int (nI fw2)) 0 inRX6 (atModel_0 _ _ _ _ _ _ _ _ _ _ _ _ _ _ _ _ _ _ _ _ _ _ _) rfl 16 rfl fl143 rfl rfl dX6_goes_192 ?_
                            refine g_iconst hX (nI 2) dX6_goes_195 rfl ?_
                            refine g_iadd hX (nI (fw2 + 2)) dX6_goes_196 (nI_add _ _) ?_
                            refine g_put hX (mw E a (mkMV (mT M) (mS M) (mA M) (mW M) (mK M) (mP M) (mE M) (mN M) (mX M) (mL M) (mI M) (mD M) (mR M) (mM M) (va_up (va_up (va_up (w) 3 (nI ((cG (gD (serC C) i j)) ||| ((1 <<< i) ||| (1 <<< j))))) (40 + i) (-1)) (40 + j) (-1)) (nI ((10 * i) + j)) (fw2 + 2) (mQ M) (mZ M) (mG M) (mH M))) 0 inRX6 tyX6_ok nmX6 (atModel_0 _ _ _ _ _ _ _ _ _ _ _ _ _ _ _ _ _ _ _ _ _ _ _) rfl 16 rfl fl143 rfl rfl rfl rfl rfl dX6_goes_197 (stModel_0_16 _ _ _ _ _ _ _ _ _ _ _ _ _ _ _ _ _ _ _ _ _ _ _ _) ?_
                            refine g_iinc hX (j := 2) (nI (j + 1)) [(2, .int (nI (j + 1))), (0, .ref (a 0)), (1, .int (nI i))] dX6_goes_200 2 rfl (iinc_n _ _) (by rw [hnL]; rfl) rfl ?_
                            refine g_goto hX 79 dX6_goes_203 (by decide) ?_
                            exact g_lv _ [1, 2, 0] rfl (ih79 (j + 1) (va_up (va_up (va_up (w) 3 (nI ((cG (gD (serC C) i j)) ||| ((1 <<< i) ||| (1 <<< j))))) (40 + i) (-1)) (40 + j) (-1)) (fw2 + 2) (nI ((10 * i) + j)) (by omega) (by omega) (by omega) (by rw [hst.1]; first | exact hw | exact RW_to2 hDO.1 hw (by omega) (by omega) rfl) (by have h2 := hst.2.1; omega) (by rw [hst.2.2]; first | exact hfg | (rw [← hfg]; simp [c25, c72, c86, c102, c118, c127, c171])))
              exact g_lv _ [1, 2, 0] rfl (lp79 _ (i + 1) y fu ff (Nat.lt_succ_self _) (by omega) (Nat.lt_succ_self _) ((go_0 (serC C) i).1.symm ▸ hy) (by rw [(go_0 (serC C) i).2.1, hfu]) (by rw [(go_0 (serC C) i).2.2, hff]))
        exact g_lv _ [1, 0] rfl (lp65 _ 0 z (mU M) (-4) (Nat.lt_succ_self _) (Nat.zero_le _) (fall_0 hz (by omega) hb) fall_u fall_f)
      · replace c25 := mt (nI_leI (by omega) (by omega)).mpr c25
        have hai := ha i (Nat.le_refl _) (by omega)
        refine g_aload_n hX dX6_goes_28 0 rfl ?_
        refine g_get hX (v := .ref (a 8)) 0 inRX6 (atModel_0 _ _ _ _ _ _ _ _ _ _ _ _ _ _ _ _ _ _ _ _ _ _ _) rfl 14 rfl fl31 rfl rfl dX6_goes_29 ?_
        refine g_bipush hX (nI 40) dX6_goes_32 rfl ?_
        refine g_iload_n hX dX6_goes_34 1 rfl ?_
        refine g_iadd hX (nI (40 + i)) dX6_goes_35 (nI_add _ _) ?_
        refine g_dup2 hX dX6_goes_36 rfl rfl ?_
        refine g_iald hX (z (40 + i)) 8 0 (atModel_8 _ _ _ _ _ _ _ _ _ _ _ _ _ _ _ _ _ _ _ _ _ _ _) rfl (vp_in_nI (by omega) (by omega)) (ald_n (g := fun zz => (z) zz) (i := 40 + i) (by omega)) dX6_goes_37 ?_
        refine g_aload_n hX dX6_goes_38 0 rfl ?_
        refine g_get hX (v := .ref (a 8)) 0 inRX6 (atModel_0 _ _ _ _ _ _ _ _ _ _ _ _ _ _ _ _ _ _ _ _ _ _ _) rfl 14 rfl fl31 rfl rfl dX6_goes_39 ?_
        refine g_bipush hX (nI 40) dX6_goes_42 rfl ?_
        refine g_iload_n hX dX6_goes_44 1 rfl ?_
        refine g_iadd hX (nI (40 + i)) dX6_goes_45 (nI_add _ _) ?_
        refine g_iald hX (z (40 + i)) 8 0 (atModel_8 _ _ _ _ _ _ _ _ _ _ _ _ _ _ _ _ _ _ _ _ _ _ _) rfl (vp_in_nI (by omega) (by omega)) (ald_n (g := fun zz => (z) zz) (i := 40 + i) (by omega)) dX6_goes_46 ?_
        refine g_if_ge hX 54 dX6_goes_47 (by decide) (fun c47 => ?_) (fun c47 => ?_)
        · skip
          refine g_iconst hX (nI 1) dX6_goes_54 rfl ?_
          refine g_iadd hX ((z (40 + i)) + (nI 1)) dX6_goes_55 rfl ?_
          refine g_iast hX (va_up (z) (40 + i) ((z (40 + i)) + (nI 1))) (mw E a (mkMV (mT M) (mS M) (mA M) (mW M) (mK M) (mP M) (mE M) (mN M) (mX M) (mL M) (mI M) (mD M) (mR M) (mM M) (va_up (z) (40 + i) ((z (40 + i)) + (nI 1))) (-4) (mU M) (mQ M) (mZ M) (mG M) (mH M))) 8 0 (atModel_8 _ _ _ _ _ _ _ _ _ _ _ _ _ _ _ _ _ _ _ _ _ _ _) rfl (vp_in_nI (by omega) (by omega)) (ast_r (by omega)) dX6_goes_56 (stModel_8 _ _ _ _ _ _ _ _ _ _ _ _ _ _ _ _ _ _ _ _ _ _ _ _) ?_
          refine g_iinc hX (j := 1) (nI (i + 1)) [(1, .int (nI (i + 1))), (0, .ref (a 0))] dX6_goes_57 1 rfl (iinc_n _ _) (by rw [hnL]; rfl) rfl ?_
          refine g_goto hX 18 dX6_goes_60 (by decide) ?_
          exact g_lv _ [1, 0] rfl (ih18 (i + 1) (va_up (z) (40 + i) ((z (40 + i)) + (nI 1))) (by omega) (by omega) (RB_up (C := sY C (cY C + 1)) h9 hz (by omega)) (step_b hb (by first | exact sv_yes (by omega) hai c47 | exact sv_no (by omega) hV hai c47)) (fun s h1 h2 => (va_up_ne _ _ (by omega)).trans (ha s (by omega) h2)))
        · skip
          refine g_iconst hX (nI 0) dX6_goes_50 rfl ?_
          refine g_goto hX 55 dX6_goes_51 (by decide) ?_
          refine g_iadd hX ((z (40 + i)) + (nI 0)) dX6_goes_55 rfl ?_
          refine g_iast hX (va_up (z) (40 + i) ((z (40 + i)) + (nI 0))) (mw E a (mkMV (mT M) (mS M) (mA M) (mW M) (mK M) (mP M) (mE M) (mN M) (mX M) (mL M) (mI M) (mD M) (mR M) (mM M) (va_up (z) (40 + i) ((z (40 + i)) + (nI 0))) (-4) (mU M) (mQ M) (mZ M) (mG M) (mH M))) 8 0 (atModel_8 _ _ _ _ _ _ _ _ _ _ _ _ _ _ _ _ _ _ _ _ _ _ _) rfl (vp_in_nI (by omega) (by omega)) (ast_r (by omega)) dX6_goes_56 (stModel_8 _ _ _ _ _ _ _ _ _ _ _ _ _ _ _ _ _ _ _ _ _ _ _ _) ?_
          refine g_iinc hX (j := 1) (nI (i + 1)) [(1, .int (nI (i + 1))), (0, .ref (a 0))] dX6_goes_57 1 rfl (iinc_n _ _) (by rw [hnL]; rfl) rfl ?_
          refine g_goto hX 18 dX6_goes_60 (by decide) ?_
          exact g_lv _ [1, 0] rfl (ih18 (i + 1) (va_up (z) (40 + i) ((z (40 + i)) + (nI 0))) (by omega) (by omega) (RB_up (C := sY C (cY C + 1)) h9 hz (by omega)) (step_b hb (by first | exact sv_yes (by omega) hai c47 | exact sv_no (by omega) hV hai c47)) (fun s h1 h2 => (va_up_ne _ _ (by omega)).trans (ha s (by omega) h2)))
  exact g_lv _ [1, 0] rfl (lp18 _ 0 (va_up (mO M) 1 (nI ((cY C) + 1))) (Nat.lt_succ_self _) (Nat.zero_le _) (RB_Y1 hO.1) (fun s hs => absurd hs (Nat.not_lt_zero _)) (fun s _ hs => (va_up_ne _ _ (by omega)).trans (hO.2 s hs)))
