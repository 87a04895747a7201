set_option maxHeartbeats 4000000 in
set_option maxRecDepth 100000 in
theorem c_X0_takeDraw (l : Launch) (E : EV) (a : Nat → Nat) (C : FC) (d : Nat) (hC : FO C) (hd : d < 2 ^ 31) (h1 : 0 < cN C) (hVd : VB (if d / 8 % 3 = 0 then turnF C (d % 6) else C)) : KV l yX0_takeDraw wsX0_takeDraw (rmN 4) E (σ := Unit) [.ref (a 0), .int (nI d)] (fw E a C) (fun _ => True) (fun _ => fw E a (drawC C d)) 0 0 := by
  refine KV.of (cc := cX0_takeDraw) (maxL := 3) rfl rfl rfl (fun x hX hin hret hnL => ?_)
  replace hX : CX x l cX0_takeDraw RX0 wsX0_takeDraw E (rmN 4) := hX
  show GG x 0 0 (fw E a C) 0 [(0, .ref (a 0)), (1, .int (nI d))] []
  have inRX0 : ∀ w ∈ wsX00, w ∈ wsX0_takeDraw := by decide +kernel
  have fl38 : Cond.fieldLink RX0 38 "LieForce$Force" "sayings" "I" ∈ wsX0_takeDraw := by decide +kernel
  obtain ⟨h9, h64, h512, hT, hI⟩ := id hC
  refine g_iload_n hX dX0_takeDraw_0 1 rfl ?_
  refine g_bipush hX (nI 8) dX0_takeDraw_1 rfl ?_
  refine g_idiv hX (nI (d / 8)) dX0_takeDraw_3 (nI_ne0 (by omega) (by omega)) (pk_div (by omega) (by omega) (by omega)) ?_
  refine g_iconst hX (nI 3) dX0_takeDraw_4 rfl ?_
  refine g_irem hX (nI ((d / 8) % 3)) dX0_takeDraw_5 (nI_ne0 (by omega) (by omega)) (pk_rem (by omega) (by omega) (by omega)) ?_
  refine g_if_ne hX 17 dX0_takeDraw_6 (by decide) (fun c6 => ?_) (fun c6 => ?_)
  · replace c6 := mt (nz_eq (by omega)).mpr c6
    have lp17 : ∀  (D : FC), (D = (if d / 8 % 3 = 0 then turnF C (d % 6) else C)) → GG x 0 0 (fw E a D) 17 [(0, .ref (a 0)), (1, .int (nI d))] [] := by
      intro D hD
      have hCD : FO D := by rw [hD]; exact ite_P (fun _ => FO_turnF hC) (fun _ => hC)
      have hVD : VB D := by rw [hD]; exact hVd
      have hND : cN D = cN C := by rw [hD]; exact ite_P (P := fun z => cN z = cN C) (fun _ => turnF_n _ _) (fun _ => rfl)
      have hdr : drawC C d = (if d / 1024 % 5 = 0 ∧ cwB D (d / 64 % cN D) = true then toC D (d / 64 % cN D) else D) := by rw [hND]; subst hD; rfl
      have hmd : d / 64 % cN D < cN D := Nat.mod_lt _ (by omega)
      refine g_aload_n hX dX0_takeDraw_17 0 rfl ?_
      refine g_get hX (v := .int (nI (cN D))) 0 inRX0 rfl rfl 1 rfl fl38 rfl rfl dX0_takeDraw_18 ?_
      refine g_if_gt hX 25 dX0_takeDraw_21 (by decide) (fun c21 => ?_) (fun c21 => ?_)
      · replace c21 := (nz_gt (by omega)).mp c21
        refine g_iload_n hX dX0_takeDraw_25 1 rfl ?_
        refine g_bipush hX (nI 64) dX0_takeDraw_26 rfl ?_
        refine g_idiv hX (nI (d / 64)) dX0_takeDraw_28 (nI_ne0 (by omega) (by omega)) (pk_div (by omega) (by omega) (by omega)) ?_
        refine g_aload_n hX dX0_takeDraw_29 0 rfl ?_
        refine g_get hX (v := .int (nI (cN D))) 0 inRX0 rfl rfl 1 rfl fl38 rfl rfl dX0_takeDraw_30 ?_
        refine g_irem hX (nI ((d / 64) % (cN D))) dX0_takeDraw_33 (nI_ne0 (by omega) (by omega)) (pk_rem (by omega) (by omega) (by omega)) ?_
        refine g_istore_n hX (j := 2) [(2, .int (nI ((d / 64) % (cN D)))), (0, .ref (a 0)), (1, .int (nI d))] dX0_takeDraw_34 rfl (by rw [hnL]; rfl) rfl ?_
        refine g_iload_n hX dX0_takeDraw_35 2 rfl ?_
        refine g_sipush hX (nI 1024) dX0_takeDraw_36 rfl ?_
        refine g_idiv hX (nI (d / 1024)) dX0_takeDraw_39 (nI_ne0 (by omega) (by omega)) (pk_div (by omega) (by omega) (by omega)) ?_
        refine g_iconst hX (nI 5) dX0_takeDraw_40 rfl ?_
        refine g_irem hX (nI ((d / 1024) % 5)) dX0_takeDraw_41 (nI_ne0 (by omega) (by omega)) (pk_rem (by omega) (by omega) (by omega)) ?_
        refine g_if_ne hX 58 dX0_takeDraw_42 (by decide) (fun c42 => ?_) (fun c42 => ?_)
        · replace c42 := mt (nz_eq (by omega)).mpr c42
          exact g_eq (by rw [hdr]; simp [c6, c21, c42]) rfl rfl (hret () _ _ trivial dX0_takeDraw_58)
        · replace c42 := (nz_eq (by omega)).mp c42
          refine g_aload_n hX dX0_takeDraw_45 1 rfl ?_
          refine g_iload_n hX dX0_takeDraw_46 0 rfl ?_
          have hc47 : CUT (fw E a D) (fw E a D) (([] : va_W)) [0, 1, 2, 3, 4, 5, 6] [] := ⟨rfl, rfl, rfl, rfl, rfl⟩
          refine g_VI hX hc47 [.int (nI ((d / 64) % (cN D)))] [] (c_X0_canBeWithdrawn l E a D ((d / 64) % (cN D)) hCD hVD hmd) gX0_takeDraw_X0_canBeWithdrawn calX0_canBeWithdrawn rfl rfl rfl rfl 0 rfl rfl rfl rfl dX0_takeDraw_47 rfl ⟨Nat.zero_le _, Nat.zero_le _⟩ (fun _ => fw E a D) [0, 1, 2, 3, 4, 5, 6] rfl (fun _ => rfl) (fun _ hu47 => ?_)
          refine g_if_eq hX 58 dX0_takeDraw_50 (by decide) (fun c50 => ?_) (fun c50 => ?_)
          · replace c50 := bI_0.mp c50
            exact g_eq (by rw [hdr]; simp [c6, c21, c42, c50]) rfl rfl (hret () _ _ trivial dX0_takeDraw_58)
          · replace c50 := mt bI_0.mpr c50
            replace c50 := bNf c50
            refine g_aload_n hX dX0_takeDraw_53 1 rfl ?_
            refine g_iload_n hX dX0_takeDraw_54 0 rfl ?_
            have hc55 : CUT (fw E a D) (fw E a D) (([] : va_W)) [0, 1, 2, 3, 4, 5, 6] [] := ⟨rfl, rfl, rfl, rfl, rfl⟩
            refine g_VV hX hc55 [.int (nI ((d / 64) % (cN D)))] [] (c_X0_takeOut l E a D ((d / 64) % (cN D)) hCD hmd) gX0_takeDraw_X0_takeOut calX0_takeOut rfl rfl rfl rfl 0 rfl rfl rfl rfl dX0_takeDraw_55 rfl ⟨Nat.zero_le _, Nat.zero_le _⟩ (fun _ => fw E a (toC D ((d / 64) % (cN D)))) [0, 1, 2, 3, 4, 5, 6] rfl (fun _ => rfl) (fun _ hu55 => ?_)
            exact g_eq (by rw [hdr]; simp [c6, c21, c42, c50]) rfl rfl (hret () _ _ trivial dX0_takeDraw_58)
      · replace c21 := mt (nz_gt (by omega)).mpr c21
        exact absurd (show 0 < cN D by omega) c21
    exact g_lv _ [0, 1] rfl (lp17 C  (by simp [c6]))
  · replace c6 := (nz_eq (by omega)).mp c6
    refine g_aload_n hX dX0_takeDraw_9 0 rfl ?_
    refine g_iload_n hX dX0_takeDraw_10 1 rfl ?_
    refine g_bipush hX (nI 6) dX0_takeDraw_11 rfl ?_
    refine g_irem hX (nI (d % 6)) dX0_takeDraw_13 (nI_ne0 (by omega) (by omega)) (pk_rem (by omega) (by omega) (by omega)) ?_
    have hc14 : CUT (fw E a C) (fw E a C) (([] : va_W)) [0, 1, 2, 3, 4, 5, 6] [] := ⟨rfl, rfl, rfl, rfl, rfl⟩
    refine g_VV hX hc14 [.int (nI (d % 6))] [] (c_X0_turnFact l E a C (d % 6) (by first | assumption | omega) (by omega)) gX0_takeDraw_X0_turnFact calX0_turnFact rfl rfl rfl rfl 0 rfl rfl rfl rfl dX0_takeDraw_14 rfl ⟨Nat.zero_le _, Nat.zero_le _⟩ (fun _ => fw E a (turnF C (d % 6))) [0, 1, 2, 3, 4, 5, 6] rfl (fun _ => rfl) (fun _ hu14 => ?_)
    have lp17 : ∀  (D : FC), (D = (if d / 8 % 3 = 0 then turnF C (d % 6) else C)) → GG x 0 0 (fw E a D) 17 [(0, .ref (a 0)), (1, .int (nI d))] [] := by
      intro D hD
      have hCD : FO D := by rw [hD]; exact ite_P (fun _ => FO_turnF hC) (fun _ => hC)
      have hVD : VB D := by rw [hD]; exact hVd
      have hND : cN D = cN C := by rw [hD]; exact ite_P (P := fun z => cN z = cN C) (fun _ => turnF_n _ _) (fun _ => rfl)
      have hdr : drawC C d = (if d / 1024 % 5 = 0 ∧ cwB D (d / 64 % cN D) = true then toC D (d / 64 % cN D) else D) := by rw [hND]; subst hD; rfl
      have hmd : d / 64 % cN D < cN D := Nat.mod_lt _ (by omega)
      refine g_aload_n hX dX0_takeDraw_17 0 rfl ?_
      refine g_get hX (v := .int (nI (cN D))) 0 inRX0 rfl rfl 1 rfl fl38 rfl rfl dX0_takeDraw_18 ?_
      refine g_if_gt hX 25 dX0_takeDraw_21 (by decide) (fun c21 => ?_) (fun c21 => ?_)
      · replace c21 := (nz_gt (by omega)).mp c21
        refine g_iload_n hX dX0_takeDraw_25 1 rfl ?_
        refine g_bipush hX (nI 64) dX0_takeDraw_26 rfl ?_
        refine g_idiv hX (nI (d / 64)) dX0_takeDraw_28 (nI_ne0 (by omega) (by omega)) (pk_div (by omega) (by omega) (by omega)) ?_
        refine g_aload_n hX dX0_takeDraw_29 0 rfl ?_
        refine g_get hX (v := .int (nI (cN D))) 0 inRX0 rfl rfl 1 rfl fl38 rfl rfl dX0_takeDraw_30 ?_
        refine g_irem hX (nI ((d / 64) % (cN D))) dX0_takeDraw_33 (nI_ne0 (by omega) (by omega)) (pk_rem (by omega) (by omega) (by omega)) ?_
        refine g_istore_n hX (j := 2) [(2, .int (nI ((d / 64) % (cN D)))), (0, .ref (a 0)), (1, .int (nI d))] dX0_takeDraw_34 rfl (by rw [hnL]; rfl) rfl ?_
        refine g_iload_n hX dX0_takeDraw_35 2 rfl ?_
        refine g_sipush hX (nI 1024) dX0_takeDraw_36 rfl ?_
        refine g_idiv hX (nI (d / 1024)) dX0_takeDraw_39 (nI_ne0 (by omega) (by omega)) (pk_div (by omega) (by omega) (by omega)) ?_
        refine g_iconst hX (nI 5) dX0_takeDraw_40 rfl ?_
        refine g_irem hX (nI ((d / 1024) % 5)) dX0_takeDraw_41 (nI_ne0 (by omega) (by omega)) (pk_rem (by omega) (by omega) (by omega)) ?_
        refine g_if_ne hX 58 dX0_takeDraw_42 (by decide) (fun c42 => ?_) (fun c42 => ?_)
        · replace c42 := mt (nz_eq (by omega)).mpr c42
          exact g_eq (by rw [hdr]; simp [c6, c21, c42]) rfl rfl (hret () _ _ trivial dX0_takeDraw_58)
        · replace c42 := (nz_eq (by omega)).mp c42
          refine g_aload_n hX dX0_takeDraw_45 1 rfl ?_
          refine g_iload_n hX dX0_takeDraw_46 0 rfl ?_
          have hc47 : CUT (fw E a D) (fw E a D) (([] : va_W)) [0, 1, 2, 3, 4, 5, 6] [] := ⟨rfl, rfl, rfl, rfl, rfl⟩
          refine g_VI hX hc47 [.int (nI ((d / 64) % (cN D)))] [] (c_X0_canBeWithdrawn l E a D ((d / 64) % (cN D)) hCD hVD hmd) gX0_takeDraw_X0_canBeWithdrawn calX0_canBeWithdrawn rfl rfl rfl rfl 0 rfl rfl rfl rfl dX0_takeDraw_47 rfl ⟨Nat.zero_le _, Nat.zero_le _⟩ (fun _ => fw E a D) [0, 1, 2, 3, 4, 5, 6] rfl (fun _ => rfl) (fun _ hu47 => ?_)
          refine g_if_eq hX 58 dX0_takeDraw_50 (by decide) (fun c50 => ?_) (fun c50 => ?_)
          · replace c50 := bI_0.mp c50
            exact g_eq (by rw [hdr]; simp [c6, c21, c42, c50]) rfl rfl (hret () _ _ trivial dX0_takeDraw_58)
          · replace c50 := mt bI_0.mpr c50
            replace c50 := bNf c50
            refine g_aload_n hX dX0_takeDraw_53 1 rfl ?_
            refine g_iload_n hX dX0_takeDraw_54 0 rfl ?_
            have hc55 : CUT (fw E a D) (fw E a D) (([] : va_W)) [0, 1, 2, 3, 4, 5, 6] [] := ⟨rfl, rfl, rfl, rfl, rfl⟩
            refine g_VV hX hc55 [.int (nI ((d / 64) % (cN D)))] [] (c_X0_takeOut l E a D ((d / 64) % (cN D)) hCD hmd) gX0_takeDraw_X0_takeOut calX0_takeOut rfl rfl rfl rfl 0 rfl rfl rfl rfl dX0_takeDraw_55 rfl ⟨Nat.zero_le _, Nat.zero_le _⟩ (fun _ => fw E a (toC D ((d / 64) % (cN D)))) [0, 1, 2, 3, 4, 5, 6] rfl (fun _ => rfl) (fun _ hu55 => ?_)
            exact g_eq (by rw [hdr]; simp [c6, c21, c42, c50]) rfl rfl (hret () _ _ trivial dX0_takeDraw_58)
      · replace c21 := mt (nz_gt (by omega)).mpr c21
        exact absurd (show 0 < cN D by omega) c21
    exact g_lv _ [0, 1] rfl (lp17 (turnF C (d % 6))  (by simp [c6]))
set_option maxHeartbeats 4000000 in
set_option maxRecDepth 100000 in
theorem c_X0_mostPairs_0 (l : Launch) (E : EV) (a : Nat → Nat) (C : FC) (s : Nat) (free : Nat) (hC : FO C) (hs0 : s = cN C) : KI l yX0_mostPairs wsX0_mostPairs (rmN 3) E (σ := Unit) [.ref (a 0), .int (nI free), .int (nI s)] (fw E a C) (fun _ => True) (fun _ => (nI 0)) (fun _ => fw E a C) 0 0 := by
  refine KI.of (cc := cX0_mostPairs) (maxL := 5) (ty := .int) (hnar := fun _ _ => rfl) rfl rfl rfl (fun x hX hin hret hnL => ?_)
  replace hX : CX x l cX0_mostPairs RX0 wsX0_mostPairs E (rmN 3) := hX
  show GG x 0 0 (fw E a C) 0 [(0, .ref (a 0)), (1, .int (nI free)), (2, .int (nI s))] []
  have inRX0 : ∀ w ∈ wsX00, w ∈ wsX0_mostPairs := by decide +kernel
  have fl38 : Cond.fieldLink RX0 38 "LieForce$Force" "sayings" "I" ∈ wsX0_mostPairs := by decide +kernel
  obtain ⟨h9, h64, h512, hT, hI⟩ := id hC
  refine g_iload_n hX dX0_mostPairs_0 2 rfl ?_
  refine g_aload_n hX dX0_mostPairs_1 0 rfl ?_
  refine g_get hX (v := .int (nI (cN C))) 0 inRX0 rfl rfl 1 rfl fl38 rfl rfl dX0_mostPairs_2 ?_
  refine g_icmp_lt hX 10 dX0_mostPairs_5 (by decide) (fun c5 => ?_) (fun c5 => ?_)
  · replace c5 := (nI_ltI (by omega) (by omega)).mp c5
    exact absurd c5 (by omega)
  · replace c5 := mt (nI_ltI (by omega) (by omega)).mpr c5
    refine g_iconst hX (nI 0) dX0_mostPairs_8 rfl ?_
    exact g_eq rfl rfl rfl (hret () _ _ trivial dX0_mostPairs_9)
set_option maxHeartbeats 4000000 in
set_option maxRecDepth 100000 in
theorem c_X0_mostPairs_s (l : Launch) (E : EV) (a : Nat → Nat) (C : FC) (k : Nat) (s : Nat) (free : Nat) (hC : FO C) (ih : ∀ s free : Nat, s + k = cN C → free < 512 → KI l yX0_mostPairs wsX0_mostPairs (rmN (k + 3)) E (σ := Unit) [.ref (a 0), .int (nI free), .int (nI s)] (fw E a C) (fun _ => True) (fun _ => nI (mpF C k free s)) (fun _ => fw E a C) 0 0) (hs1 : s + (k + 1) = cN C) (hfr : free < 512) : KI l yX0_mostPairs wsX0_mostPairs (rmN (k + 4)) E (σ := Unit) [.ref (a 0), .int (nI free), .int (nI s)] (fw E a C) (fun _ => True) (fun _ => (nI (mpF C (k + 1) free s))) (fun _ => fw E a C) 0 0 := by
  refine KI.of (cc := cX0_mostPairs) (maxL := 5) (ty := .int) (hnar := fun _ _ => rfl) rfl rfl rfl (fun x hX hin hret hnL => ?_)
  replace hX : CX x l cX0_mostPairs RX0 wsX0_mostPairs E (rmN (k + 4)) := hX
  show GG x 0 0 (fw E a C) 0 [(0, .ref (a 0)), (1, .int (nI free)), (2, .int (nI s))] []
  have inRX0 : ∀ w ∈ wsX00, w ∈ wsX0_mostPairs := by decide +kernel
  have fl38 : Cond.fieldLink RX0 38 "LieForce$Force" "sayings" "I" ∈ wsX0_mostPairs := by decide +kernel
  obtain ⟨h9, h64, h512, hT, hI⟩ := id hC
  refine g_iload_n hX dX0_mostPairs_0 2 rfl ?_
  refine g_aload_n hX dX0_mostPairs_1 0 rfl ?_
  refine g_get hX (v := .int (nI (cN C))) 0 inRX0 rfl rfl 1 rfl fl38 rfl rfl dX0_mostPairs_2 ?_
  refine g_icmp_lt hX 10 dX0_mostPairs_5 (by decide) (fun c5 => ?_) (fun c5 => ?_)
  · replace c5 := (nI_ltI (by omega) (by omega)).mp c5
    refine g_aload_n hX dX0_mostPairs_10 0 rfl ?_
    refine g_iload_n hX dX0_mostPairs_11 1 rfl ?_
    refine g_iload_n hX dX0_mostPairs_12 2 rfl ?_
    refine g_iconst hX (nI 1) dX0_mostPairs_13 rfl ?_
    refine g_iadd hX (nI (s + 1)) dX0_mostPairs_14 (nI_add _ _) ?_
    have hc15 : CUT (fw E a C) (fw E a C) (([] : va_W)) [0, 1, 2, 3, 4, 5, 6] [] := ⟨rfl, rfl, rfl, rfl, rfl⟩
    refine g_VI hX hc15 [.int (nI free), .int (nI (s + 1))] [] (ih (s + 1) free (by omega) (by omega)) gX0_mostPairs_X0_mostPairs calX0_mostPairs rfl rfl rfl (rm_lt (by omega) (by decide)) 0 rfl rfl rfl rfl dX0_mostPairs_15 rfl ⟨Nat.zero_le _, Nat.zero_le _⟩ (fun _ => fw E a C) [0, 1, 2, 3, 4, 5, 6] rfl (fun _ => rfl) (fun _ hu15 => ?_)
    refine g_istore_n hX (j := 3) [(3, .int (nI (mpF C k free (s + 1)))), (0, .ref (a 0)), (1, .int (nI free)), (2, .int (nI s))] dX0_mostPairs_18 rfl (by rw [hnL]; rfl) rfl ?_
    refine g_iload_n hX dX0_mostPairs_19 2 rfl ?_
    refine g_iload_n hX dX0_mostPairs_20 3 rfl ?_
    have hc21 : CUT (fw E a C) (([] : va_W)) (fw E a C) [] [0, 1, 2, 3, 4, 5, 6] := ⟨rfl, rfl, rfl, rfl, rfl⟩
    refine g_NI hX hc21 [.int (nI free), .int (nI s)] [] (c_X5_isBitOf l E free s (by first | assumption | omega) (by first | assumption | omega)) gX0_mostPairs_X5_isBitOf_n88 calX5_isBitOf rfl rfl (by decide +kernel) (by decide +kernel) (by decide +kernel) (rm_lt (by omega) (by decide)) rfl dX0_mostPairs_21 rfl ⟨Nat.zero_le _, Nat.zero_le _⟩ (fun _ => fw E a C) [0, 1, 2, 3, 4, 5, 6] rfl (fun _ => rfl) (fun _ hu21 => ?_)
    refine g_if_ne hX 29 dX0_mostPairs_24 (by decide) (fun c24 => ?_) (fun c24 => ?_)
    · replace c24 := mt bI_0.mpr c24
      replace c24 := bNf c24
      refine g_iload_n hX dX0_mostPairs_29 3 rfl ?_
      refine g_iconst hX (nI 1) dX0_mostPairs_30 rfl ?_
      refine g_iadd hX (nI (s + 1)) dX0_mostPairs_31 (nI_add _ _) ?_
      refine g_istore hX (j := 4) [(4, .int (nI (s + 1))), (3, .int (nI (mpF C k free (s + 1)))), (0, .ref (a 0)), (1, .int (nI free)), (2, .int (nI s))] dX0_mostPairs_32 (by rw [hnL]; rfl) rfl ?_
      have lp34 : ∀ (fuel : Nat) (t : Nat) (acc : Nat), cN C - t < fuel → (t ≤ cN C) → (s < t) → (acc ≤ 9) → (mpF C (k + 1) free s = mxF (fun t => free.testBit t && mmB C s t) (fun t => 1 + mpF C k (andn free (1 <<< t)) (s + 1)) acc t (cN C - t)) → GG x 0 0 (fw E a C) 34 [(0, .ref (a 0)), (1, .int (nI free)), (2, .int (nI s)), (3, .int (nI acc)), (4, .int (nI t))] [] := by
        intro fuel
        induction fuel with
        | zero => intro t acc hm; exact absurd hm (Nat.not_lt_zero _)
        | succ fuel ih34 =>
          intro t acc hm34 ht hst hacc he
          refine g_iload hX dX0_mostPairs_34 4 rfl ?_
          refine g_aload_n hX dX0_mostPairs_36 0 rfl ?_
          refine g_get hX (v := .int (nI (cN C))) 0 inRX0 rfl rfl 1 rfl fl38 rfl rfl dX0_mostPairs_37 ?_
          refine g_icmp_ge hX 90 dX0_mostPairs_40 (by decide) (fun c40 => ?_) (fun c40 => ?_)
          · replace c40 := (nI_leI (by omega) (by omega)).mp c40
            refine g_iload_n hX dX0_mostPairs_90 3 rfl ?_
            exact g_eq rfl rfl (congrArg (fun z => [Value.int z]) (congrArg nI (by rw [he, show cN C - t = 0 by omega]; rfl))) (hret () _ _ trivial dX0_mostPairs_91)
          · replace c40 := mt (nI_leI (by omega) (by omega)).mpr c40
            refine g_iload_n hX dX0_mostPairs_43 1 rfl ?_
            refine g_iload hX dX0_mostPairs_44 4 rfl ?_
            have hc46 : CUT (fw E a C) (([] : va_W)) (fw E a C) [] [0, 1, 2, 3, 4, 5, 6] := ⟨rfl, rfl, rfl, rfl, rfl⟩
            refine g_NI hX hc46 [.int (nI free), .int (nI t)] [] (c_X5_isBitOf l E free t (by first | assumption | omega) (by first | assumption | omega)) gX0_mostPairs_X5_isBitOf_n88 calX5_isBitOf rfl rfl (by decide +kernel) (by decide +kernel) (by decide +kernel) (rm_lt (by omega) (by decide)) rfl dX0_mostPairs_46 rfl ⟨Nat.zero_le _, Nat.zero_le _⟩ (fun _ => fw E a C) [0, 1, 2, 3, 4, 5, 6] rfl (fun _ => rfl) (fun _ hu46 => ?_)
            refine g_if_eq hX 84 dX0_mostPairs_49 (by decide) (fun c49 => ?_) (fun c49 => ?_)
            · replace c49 := bI_0.mp c49
              refine g_iinc hX (j := 4) (nI (t + 1)) [(4, .int (nI (t + 1))), (0, .ref (a 0)), (1, .int (nI free)), (2, .int (nI s)), (3, .int (nI acc))] dX0_mostPairs_84 4 rfl (iinc_n _ _) (by rw [hnL]; rfl) rfl ?_
              refine g_goto hX 34 dX0_mostPairs_87 (by decide) ?_
              exact g_lv _ [1, 2, 3, 4, 0] rfl (ih34 (t + 1) acc (by omega) (by omega) (by omega) (by first | exact hacc | (have := mpF_le C k (andn free (1 <<< t)) (s + 1); omega)) (by first | exact he.trans (mxF_no (by omega) (by simp [c5, c24, c40, c49])) | exact he.trans (mxF_yes (by omega) (by simp [c5, c24, c40, c49]))))
            · replace c49 := mt bI_0.mpr c49
              replace c49 := bNf c49
              refine g_aload_n hX dX0_mostPairs_52 0 rfl ?_
              refine g_iload_n hX dX0_mostPairs_53 2 rfl ?_
              refine g_iload hX dX0_mostPairs_54 4 rfl ?_
              have hc56 : CUT (fw E a C) (fw E a C) (([] : va_W)) [0, 1, 2, 3, 4, 5, 6] [] := ⟨rfl, rfl, rfl, rfl, rfl⟩
              refine g_VI hX hc56 [.int (nI s), .int (nI t)] [] (c_X0_mayMarry l E a C s t (by first | assumption | omega) (by omega) (by omega)) gX0_mostPairs_X0_mayMarry calX0_mayMarry rfl rfl rfl (rm_lt (by omega) (by decide)) 0 rfl rfl rfl rfl dX0_mostPairs_56 rfl ⟨Nat.zero_le _, Nat.zero_le _⟩ (fun _ => fw E a C) [0, 1, 2, 3, 4, 5, 6] rfl (fun _ => rfl) (fun _ hu56 => ?_)
              refine g_if_eq hX 84 dX0_mostPairs_59 (by decide) (fun c59 => ?_) (fun c59 => ?_)
              · replace c59 := bI_0.mp c59
                refine g_iinc hX (j := 4) (nI (t + 1)) [(4, .int (nI (t + 1))), (0, .ref (a 0)), (1, .int (nI free)), (2, .int (nI s)), (3, .int (nI acc))] dX0_mostPairs_84 4 rfl (iinc_n _ _) (by rw [hnL]; rfl) rfl ?_
                refine g_goto hX 34 dX0_mostPairs_87 (by decide) ?_
                exact g_lv _ [1, 2, 3, 4, 0] rfl (ih34 (t + 1) acc (by omega) (by omega) (by omega) (by first | exact hacc | (have := mpF_le C k (andn free (1 <<< t)) (s + 1); omega)) (by first | exact he.trans (mxF_no (by omega) (by simp [c5, c24, c40, c49, c59])) | exact he.trans (mxF_yes (by omega) (by simp [c5, c24, c40, c49, c59]))))
              · replace c59 := mt bI_0.mpr c59
                replace c59 := bNf c59
                refine g_iload_n hX dX0_mostPairs_62 3 rfl ?_
                refine g_iconst hX (nI 1) dX0_mostPairs_63 rfl ?_
                refine g_aload_n hX dX0_mostPairs_64 0 rfl ?_
                refine g_iload_n hX dX0_mostPairs_65 1 rfl ?_
                refine g_iconst hX (nI 1) dX0_mostPairs_66 rfl ?_
                refine g_iload hX dX0_mostPairs_67 4 rfl ?_
                refine g_ishl hX (nI (1 <<< t)) dX0_mostPairs_69 (sh_l _ (by omega)) ?_
                refine g_iconst hX ((-1)) dX0_mostPairs_70 rfl ?_
                refine g_ixor hX (nI (1 <<< t) ^^^ (-1)) dX0_mostPairs_71 rfl ?_
                refine g_iand hX (nI (andn free (1 <<< t))) dX0_mostPairs_72 (and_not (by omega)) ?_
                refine g_iload_n hX dX0_mostPairs_73 2 rfl ?_
                refine g_iconst hX (nI 1) dX0_mostPairs_74 rfl ?_
                refine g_iadd hX (nI (s + 1)) dX0_mostPairs_75 (nI_add _ _) ?_
                have hc76 : CUT (fw E a C) (fw E a C) (([] : va_W)) [0, 1, 2, 3, 4, 5, 6] [] := ⟨rfl, rfl, rfl, rfl, rfl⟩
                refine g_VI hX hc76 [.int (nI (andn free (1 <<< t))), .int (nI (s + 1))] [.int (nI 1), .int (nI acc)] (ih (s + 1) (andn free (1 <<< t)) (by omega) (andn_lt (n := 9) _ hfr (by decide))) gX0_mostPairs_X0_mostPairs calX0_mostPairs rfl rfl rfl (rm_lt (by omega) (by decide)) 0 rfl rfl rfl rfl dX0_mostPairs_76 rfl ⟨Nat.zero_le _, Nat.zero_le _⟩ (fun _ => fw E a C) [0, 1, 2, 3, 4, 5, 6] rfl (fun _ => rfl) (fun _ hu76 => ?_)
                refine g_iadd hX (nI (1 + (mpF C k (andn free (1 <<< t)) (s + 1)))) dX0_mostPairs_79 (nI_add _ _) ?_
                refine g_mmax hX (nI (max acc (1 + (mpF C k (andn free (1 <<< t)) (s + 1))))) (maxI (by have := mpF_le C k (andn free (1 <<< t)) (s + 1); omega) (by have := mpF_le C k (andn free (1 <<< t)) (s + 1); omega)) (by decide +kernel) (by decide +kernel) (by decide +kernel) (by decide +kernel) (by show 1 ≤ k + 4; omega) (by show 0 + 13 ≤ 40 * (k + 4); omega) (Nat.zero_le _) (Nat.zero_le _) dX0_mostPairs_80 ?_
                refine g_istore_n hX (j := 3) [(3, .int (nI (max acc (1 + (mpF C k (andn free (1 <<< t)) (s + 1)))))), (0, .ref (a 0)), (1, .int (nI free)), (2, .int (nI s)), (4, .int (nI t))] dX0_mostPairs_83 rfl (by rw [hnL]; rfl) rfl ?_
                refine g_iinc hX (j := 4) (nI (t + 1)) [(4, .int (nI (t + 1))), (3, .int (nI (max acc (1 + (mpF C k (andn free (1 <<< t)) (s + 1)))))), (0, .ref (a 0)), (1, .int (nI free)), (2, .int (nI s))] dX0_mostPairs_84 4 rfl (iinc_n _ _) (by rw [hnL]; rfl) rfl ?_
                refine g_goto hX 34 dX0_mostPairs_87 (by decide) ?_
                exact g_lv _ [2, 3, 4, 1, 0] rfl (ih34 (t + 1) (max acc (1 + (mpF C k (andn free (1 <<< t)) (s + 1)))) (by omega) (by omega) (by omega) (by first | exact hacc | (have := mpF_le C k (andn free (1 <<< t)) (s + 1); omega)) (by first | exact he.trans (mxF_no (by omega) (by simp [c5, c24, c40, c49, c59])) | exact he.trans (mxF_yes (by omega) (by simp [c5, c24, c40, c49, c59]))))
      exact g_lv _ [2, 3, 4, 1, 0] rfl (lp34 _ (s + 1) (mpF C k free (s + 1)) (Nat.lt_succ_self _) (by omega) (Nat.lt_succ_self _) (by have := mpF_le C k free (s + 1); omega) (by rw [mpF, if_pos c24, show cN C - (s + 1) = k by omega]))
    · replace c24 := bI_0.mp c24
      refine g_iload_n hX dX0_mostPairs_27 0 rfl ?_
      exact g_eq rfl rfl (congrArg (fun z => [Value.int z]) (congrArg nI (by rw [mpF, if_neg (by simp [c24])]))) (hret () _ _ trivial dX0_mostPairs_28)
  · replace c5 := mt (nI_ltI (by omega) (by omega)).mpr c5
    exact absurd c5 (by omega)
theorem c_X0_mostPairs (l : Launch) (E : EV) (a : Nat → Nat) (C : FC) (hC : FO C) : ∀ (k s free : Nat), s + k = cN C → free < 512 → KI l yX0_mostPairs wsX0_mostPairs (rmN (k + 3)) E (σ := Unit) [.ref (a 0), .int (nI free), .int (nI s)] (fw E a C) (fun _ => True) (fun _ => nI (mpF C k free s)) (fun _ => fw E a C) 0 0 := by
  intro k
  induction k with
  | zero => intro s free hs hf; exact c_X0_mostPairs_0 l E a C s free hC hs
  | succ k ih => intro s free hs hf; exact c_X0_mostPairs_s l E a C k s free hC ih hs hf
