set_option maxHeartbeats 4000000 in
set_option maxRecDepth 100000 in
theorem c_X0_takeDraw (l : Launch) (E : EV) (a : Nat → Nat) (C : FC) (d : Nat) (hC : FO C) (hd : d < 2 ^ 31) (h1 : 0 < cN C) (hVd : VB (if d / 8 % 3 = 0 then turnF C (d % 6) else C)) : KV l yX0_takeDraw wsX0_takeDraw (rmN 4) E (σ := Unit) [.ref (a 0), .int (nI d)] (fw E a C) (fun _ => True) (fun _ => fw E a (drawC C d)) 0 0 := by
  refine KV.of (cc := cX0_takeDraw) (maxL := 3) rfl rfl rfl (fun x hX hin hret hnL => ?_)
  replace hX : CX x l cX0_takeDraw RX0 wsX0_takeDraw E (rmN 4) := hX
  show GG x 0 0 (fw E a C) 0 [(0, .ref (a 0)), (1, .int (nI d))] []
  have inRX0 : ∀ w ∈ wsX00, w ∈ wsX0_takeDraw := by decide +kernel
  have fl38 : Cond.fieldLink RX0 38 "LieForce$Force" "sayings" "I" ∈ wsX0_takeDraw := by decide +kernel
  obtain ⟨h9, h64, h512, hT, hI⟩ := id hC
  refine g_iload_n hX dX0_takeDraw_0 1 rfl ?_
  refine g_bipush hX (nI 8) dX0_takeDraw_1 rfl ?_
  refine g_idiv hX (nI (d / 8)) dX0_takeDraw_3 (nI_ne0 (by omega) (by omega)) (pk_div (by omega) (by omega) (by omega)) ?_
  refine g_iconst hX (nI 3) dX0_takeDraw_4 rfl ?_
  refine g_irem hX (nI ((d / 8) % 3)) dX0_takeDraw_5 (nI_ne0 (by omega) (by omega)) (pk_rem (by omega) (by omega) (by omega)) ?_
  refine g_if_ne hX 17 dX0_takeDraw_6 (by decide) (fun c6 => ?_) (fun c6 => ?_)
  · replace c6 := mt (nz_eq (by omega)).mpr c6
    have lp17 : ∀  (D : FC), (D = (if d / 8 % 3 = 0 then turnF C (d % 6) else C)) → GG x 0 0 (fw E a D) 17 [(0, .ref (a 0)), (1, .int (nI d))] [] := by
      intro D hD
      have hCD : FO D := by rw [hD]; exact ite_P (fun _ => FO_turnF hC) (fun _ => hC)
      have hVD : VB D := by rw [hD]; exact hVd
      have hND : cN D = cN C := by rw [hD]; exact ite_P (P := fun z => cN z = cN C) (fun _ => turnF_n _ _) (fun _ => rfl)
      have hdr : drawC C d = (if d / 1024 % 5 = 0 ∧ cwB D (d / 64 % cN D) = true then toC D (d / 64 % cN D) else D) := by rw [hND]; subst hD; rfl
      have hmd : d / 64 % cN D < cN D := Nat.mod_lt _ (by omega)
      refine g_aload_n hX dX0_takeDraw_17 0 rfl ?_
      refine g_get hX (v := .int (nI (cN D))) 0 inRX0 rfl rfl 1 rfl fl38 rfl rfl dX0_takeDraw_18 ?_
      refine g_if_gt hX 25 dX0_takeDraw_21 (by decide) (fun c21 => ?_) (fun c21 => ?_)
      · replace c21 := (nz_gt (by omega)).mp c21
        refine g_iload_n hX dX0_takeDraw_25 1 rfl ?_
        refine g_bipush hX (nI 64) dX0_takeDraw_26 rfl ?_
        refine g_idiv hX (nI (d / 64)) dX0_takeDraw_28 (nI_ne0 (by omega) (by omega)) (pk_div (by omega) (by omega) (by omega)) ?_
        refine g_aload_n hX dX0_takeDraw_29 0 rfl ?_
        refine g_get hX (v := .int (nI (cN D))) 0 inRX0 rfl rfl 1 rfl fl38 rfl rfl dX0_takeDraw_30 ?_
        refine g_irem hX (nI ((d / 64) % (cN D))) dX0_takeDraw_33 (nI_ne0 (by omega) (by omega)) (pk_rem (by omega) (by omega) (by omega)) ?_
        refine g_istore_n hX (j := 2) [(2, .int (nI ((d / 64) % (cN D)))), (0, .ref (a 0)), (1, .int (nI d))] dX0_takeDraw_34 rfl (by rw [hnL]; rfl) rfl ?_
        refine g_iload_n hX dX0_takeDraw_35 2 rfl ?_
        refine g_sipush hX (nI 1024) dX0_takeDraw_36 rfl ?_
        refine g_idiv hX (nI (d / 1024)) dX0_takeDraw_39 (nI_ne0 (by omega) (by omega)) (pk_div (by omega) (by omega) (by omega)) ?_
        refine g_iconst hX (nI 5) dX0_takeDraw_40 rfl ?_
        refine g_irem hX (nI ((d / 1024) % 5)) dX0_takeDraw_41 (nI_ne0 (by omega) (by omega)) (pk_rem (by omega) (by omega) (by omega)) ?_
        refine g_if_ne hX 58 dX0_takeDraw_42 (by decide) (fun c42 => ?_) (fun c42 => ?_)
        · replace c42 := mt (nz_eq (by omega)).mpr c42
          exact g_eq (by rw [hdr]; simp [c6, c21, c42]) rfl rfl (hret () _ _ trivial dX0_takeDraw_58)
        · replace c42 := (nz_eq (by omega)).mp c42
          refine g_aload_n hX dX0_takeDraw_45 1 rfl ?_
          refine g_iload_n hX dX0_takeDraw_46 0 rfl ?_
          have hc47 : CUT (fw E a D) (fw E a D) (([] : va_W)) [0, 1, 2, 3, 4, 5, 6] [] := ⟨rfl, rfl, rfl, rfl, rfl⟩
          refine g_VI hX hc47 [.int (nI ((d / 64) % (cN D)))] [] (c_X0_canBeWithdrawn l E a D ((d / 64) % (cN D)) hCD hVD hmd) gX0_takeDraw_X0_canBeWithdrawn calX0_canBeWithdrawn rfl rfl rfl rfl 0 rfl rfl rfl rfl dX0_takeDraw_47 rfl ⟨Nat.zero_le _, Nat.zero_le _⟩ (fun _ => fw E a D) [0, 1, 2, 3, 4, 5, 6] rfl (fun _ => rfl) (fun _ hu47 => ?_)
          refine g_if_eq hX 58 dX0_takeDraw_50 (by decide) (fun c50 => ?_) (fun c50 => ?_)
          · replace c50 := bI_0.mp c50
            exact g_eq (by rw [hdr]; simp [c6, c21, c42, c50]) rfl rfl (hret () _ _ trivial dX0_takeDraw_58)
          · replace c50 := mt bI_0.mpr c50
            replace c50 := bNf c50
            refine g_aload_n hX dX0_takeDraw_53 1 rfl ?_
            refine g_iload_n hX dX0_takeDraw_54 0 rfl ?_
            have hc55 : CUT (fw E a D) (fw E a D) (([] : va_W)) [0, 1, 2, 3, 4, 5, 6] [] := ⟨rfl, rfl, rfl, rfl, rfl⟩
            refine g_VV hX hc55 [.int (nI ((d / 64) % (cN D)))] [] (c_X0_takeOut l E a D ((d / 64) % (cN D)) hCD hmd) gX0_takeDraw_X0_takeOut calX0_takeOut rfl rfl rfl rfl 0 rfl rfl rfl rfl dX0_takeDraw_55 rfl ⟨Nat.zero_le _, Nat.zero_le _⟩ (fun _ => fw E a (toC D ((d / 64) % (cN D)))) [0, 1, 2, 3, 4, 5, 6] rfl (fun _ => rfl) (fun _ hu55 => ?_)
            exact g_eq (by rw [hdr]; simp [c6, c21, c42, c50]) rfl rfl (hret () _ _ trivial dX0_takeDraw_58)
      · replace c21 := mt (nz_gt (by omega)).mpr c21
        exact absurd (show 0 < cN D by omega) c21
    exact g_lv _ [0, 1] rfl (lp17 C  (by simp [c6]))
  · replace c6 := (nz_eq (by omega)).mp c6
    refine g_aload_n hX dX0_takeDraw_9 0 rfl ?_
    refine g_iload_n hX dX0_takeDraw_10 1 rfl ?_
    refine g_bipush hX (nI 6) dX0_takeDraw_11 rfl ?_
    refine g_irem hX (nI (d % 6)) dX0_takeDraw_13 (nI_ne0 (by omega) (by omega)) (pk_rem (by omega) (by omega) (by omega)) ?_
    have hc14 : CUT (fw E a C) (fw E a C) (([] : va_W)) [0, 1, 2, 3, 4, 5, 6] [] := ⟨rfl, rfl, rfl, rfl, rfl⟩
    refine g_VV hX hc14 [.int (nI (d % 6))] [] (c_X0_turnFact l E a C (d % 6) (by first | assumption | omega) (by omega)) gX0_takeDraw_X0_turnFact calX0_turnFact rfl rfl rfl rfl 0 rfl rfl rfl rfl dX0_takeDraw_14 rfl ⟨Nat.zero_le _, Nat.zero_le _⟩ (fun _ => fw E a (turnF C (d % 6))) [0, 1, 2, 3, 4, 5, 6] rfl (fun _ => rfl) (fun _ hu14 => ?_)
    have lp17 : ∀  (D : FC), (D = (if d / 8 % 3 = 0 then turnF C (d % 6) else C)) → GG x 0 0 (fw E a D) 17 [(0, .ref (a 0)), (1, .int (nI d))] [] := by
      intro D hD
      have hCD : FO D := by rw [hD]; exact ite_P (fun _ => FO_turnF hC) (fun _ => hC)
      have hVD : VB D := by rw [hD]; exact hVd
      have hND : cN D = cN C := by rw [hD]; exact ite_P (P := fun z => cN z = cN C) (fun _ => turnF_n _ _) (fun _ => rfl)
      have hdr : drawC C d = (if d / 1024 % 5 = 0 ∧ cwB D (d / 64 % cN D) = true then toC D (d / 64 % cN D) else D) := by rw [hND]; subst hD; rfl
      have hmd : d / 64 % cN D < cN D := Nat.mod_lt _ (by omega)
      refine g_aload_n hX dX0_takeDraw_17 0 rfl ?_
      refine g_get hX (v := .int (nI (cN D))) 0 inRX0 rfl rfl 1 rfl fl38 rfl rfl dX0_takeDraw_18 ?_
      refine g_if_gt hX 25 dX0_takeDraw_21 (by decide) (fun c21 => ?_) (fun c21 => ?_)
      · replace c21 := (nz_gt (by omega)).mp c21
        refine g_iload_n hX dX0_takeDraw_25 1 rfl ?_
        refine g_bipush hX (nI 64) dX0_takeDraw_26 rfl ?_
        refine g_idiv hX (nI (d / 64)) dX0_takeDraw_28 (nI_ne0 (by omega) (by omega)) (pk_div (by omega) (by omega) (by omega)) ?_
        refine g_aload_n hX dX0_takeDraw_29 0 rfl ?_
        refine g_get hX (v := .int (nI (cN D))) 0 inRX0 rfl rfl 1 rfl fl38 rfl rfl dX0_takeDraw_30 ?_
        refine g_irem hX (nI ((d / 64) % (cN D))) dX0_takeDraw_33 (nI_ne0 (by omega) (by omega)) (pk_rem (by omega) (by omega) (by omega)) ?_
        refine g_istore_n hX (j := 2) [(2, .int (nI ((d / 64) % (cN D)))), (0, .ref (a 0)), (1, .int (nI d))] dX0_takeDraw_34 rfl (by rw [hnL]; rfl) rfl ?_
        refine g_iload_n hX dX0_takeDraw_35 2 rfl ?_
        refine g_sipush hX (nI 1024) dX0_takeDraw_36 rfl ?_
        refine g_idiv hX (nI (d / 1024)) dX0_takeDraw_39 (nI_ne0 (by omega) (by omega)) (pk_div (by omega) (by omega) (by omega)) ?_
        refine g_iconst hX (nI 5) dX0_takeDraw_40 rfl ?_
        refine g_irem hX (nI ((d / 1024) % 5)) dX0_takeDraw_41 (nI_ne0 (by omega) (by omega)) (pk_rem (by omega) (by omega) (by omega)) ?_
        refine g_if_ne hX 58 dX0_takeDraw_42 (by decide) (fun c42 => ?_) (fun c42 => ?_)
        · replace c42 := mt (nz_eq (by omega)).mpr c42
          exact g_eq (by rw [hdr]; simp [c6, c21, c42]) rfl rfl (hret () _ _ trivial dX0_takeDraw_58)
        · replace c42 := (nz_eq (by omega)).mp c42
          refine g_aload_n hX dX0_takeDraw_45 1 rfl ?_
          refine g_iload_n hX dX0_takeDraw_46 0 rfl ?_
          have hc47 : CUT (fw E a D) (fw E a D) (([] : va_W)) [0, 1, 2, 3, 4, 5, 6] [] := ⟨rfl, rfl, rfl, rfl, rfl⟩
          refine g_VI hX hc47 [.int (nI ((d / 64) % (cN D)))] [] (c_X0_canBeWithdrawn l E a D ((d / 64) % (cN D)) hCD hVD hmd) gX0_takeDraw_X0_canBeWithdrawn calX0_canBeWithdrawn rfl rfl rfl rfl 0 rfl rfl rfl rfl dX0_takeDraw_47 rfl ⟨Nat.zero_le _, Nat.zero_le _⟩ (fun _ => fw E a D) [0, 1, 2, 3, 4, 5, 6] rfl (fun _ => rfl) (fun _ hu47 => ?_)
          refine g_if_eq hX 58 dX0_takeDraw_50 (by decide) (fun c50 => ?_) (fun c50 => ?_)
          · replace c50 := bI_0.mp c50
            exact g_eq (by rw [hdr]; simp [c6, c21, c42, c50]) rfl rfl (hret () _ _ trivial dX0_takeDraw_58)
          · replace c50 := mt bI_0.mpr c50
            replace c50 := bNf c50
            refine g_aload_n hX dX0_takeDraw_53 1 rfl ?_
            refine g_iload_n hX dX0_takeDraw_54 0 rfl ?_
            have hc55 : CUT (fw E a D) (fw E a D) (([] : va_W)) [0, 1, 2, 3, 4, 5, 6] [] := ⟨rfl, rfl, rfl, rfl, rfl⟩
            refine g_VV hX hc55 [.int (nI ((d / 64) % (cN D)))] [] (c_X0_takeOut l E a D ((d / 64) % (cN D)) hCD hmd) gX0_takeDraw_X0_takeOut calX0_takeOut rfl rfl rfl rfl 0 rfl rfl rfl rfl dX0_takeDraw_55 rfl ⟨Nat.zero_le _, Nat.zero_le _⟩ (fun _ => fw E a (toC D ((d / 64) % (cN D)))) [0, 1, 2, 3, 4, 5, 6] rfl (fun _ => rfl) (fun _ hu55 => ?_)
            exact g_eq (by rw [hdr]; simp [c6, c21, c42, c50]) rfl rfl (hret () _ _ trivial dX0_takeDraw_58)
      · replace c21 := mt (nz_gt (by omega)).mpr c21
        exact absurd (show 0 < cN D by omega) c21
    exact g_lv _ [0, 1] rfl (lp17 (turnF C (d % 6))  (by simp [c6]))
set_option maxHeartbeats 4000000 in
set_option maxRecDepth 100000 in
theorem c_X5_mostPairs_0 (l : Launch) (E : EV) (a : Nat → Nat) (C : FC) (s : Nat) (free : Nat) (hC : FO C) (hs0 : s = cN C) : KI l yX5_mostPairs wsX5_mostPairs (rmN 3) E (σ := Unit) [.ref (a 0), .int (nI free), .int (nI s)] (fw E a C) (fun _ => True) (fun _ => (nI 0)) (fun _ => fw E a C) 0 0 := by
  refine KI.of (cc := cX5_mostPairs) (maxL := 5) (ty := .int) (hnar := fun _ _ => rfl) rfl rfl rfl (fun x hX hin hret hnL => ?_)
  replace hX : CX x l cX5_mostPairs RX5 wsX5_mostPairs E (rmN 3) := hX
  show GG x 0 0 (fw E a C) 0 [(0, .ref (a 0)), (1, .int (nI free)), (2, .int (nI s))] []
  have inRX0 : ∀ w ∈ wsX00, w ∈ wsX5_mostPairs := by decide +kernel
  have fl80 : Cond.fieldLink RX5 80 "LieForce$Force" "sayings" "I" ∈ wsX5_mostPairs := by decide +kernel
  obtain ⟨h9, h64, h512, hT, hI⟩ := id hC
  refine g_iload_n hX dX5_mostPairs_0 2 rfl ?_
  refine g_aload_n hX dX5_mostPairs_1 0 rfl ?_
  refine g_get hX (v := .int (nI (cN C))) 0 inRX0 rfl rfl 1 rfl fl80 rfl rfl dX5_mostPairs_2 ?_
  refine g_icmp_ge hX 14 dX5_mostPairs_5 (by decide) (fun c5 => ?_) (fun c5 => ?_)
  · replace c5 := (nI_leI (by omega) (by omega)).mp c5
    refine g_iconst hX (nI 0) dX5_mostPairs_14 rfl ?_
    exact g_eq rfl rfl rfl (hret () _ _ trivial dX5_mostPairs_15)
  · replace c5 := mt (nI_leI (by omega) (by omega)).mpr c5
    exact absurd hs0 (by omega)
set_option maxHeartbeats 4000000 in
set_option maxRecDepth 100000 in
theorem c_X5_mostPairs_s (l : Launch) (E : EV) (a : Nat → Nat) (C : FC) (k : Nat) (s : Nat) (free : Nat) (hC : FO C) (ih : ∀ s free : Nat, s + k = cN C → free < 512 → KI l yX5_mostPairs wsX5_mostPairs (rmN (k + 3)) E (σ := Unit) [.ref (a 0), .int (nI free), .int (nI s)] (fw E a C) (fun _ => True) (fun _ => nI (mpF C k free s)) (fun _ => fw E a C) 0 0) (hs1 : s + (k + 1) = cN C) (hfr : free < 512) : KI l yX5_mostPairs wsX5_mostPairs (rmN (k + 4)) E (σ := Unit) [.ref (a 0), .int (nI free), .int (nI s)] (fw E a C) (fun _ => True) (fun _ => (nI (mpF C (k + 1) free s))) (fun _ => fw E a C) 0 0 := by
  refine KI.of (cc := cX5_mostPairs) (maxL := 5) (ty := .int) (hnar := fun _ _ => rfl) rfl rfl rfl (fun x hX hin hret hnL => ?_)
  replace hX : CX x l cX5_mostPairs RX5 wsX5_mostPairs E (rmN (k + 4)) := hX
  show GG x 0 0 (fw E a C) 0 [(0, .ref (a 0)), (1, .int (nI free)), (2, .int (nI s))] []
  have inRX0 : ∀ w ∈ wsX00, w ∈ wsX5_mostPairs := by decide +kernel
  have fl80 : Cond.fieldLink RX5 80 "LieForce$Force" "sayings" "I" ∈ wsX5_mostPairs := by decide +kernel
  obtain ⟨h9, h64, h512, hT, hI⟩ := id hC
  refine g_iload_n hX dX5_mostPairs_0 2 rfl ?_
  refine g_aload_n hX dX5_mostPairs_1 0 rfl ?_
  refine g_get hX (v := .int (nI (cN C))) 0 inRX0 rfl rfl 1 rfl fl80 rfl rfl dX5_mostPairs_2 ?_
  refine g_icmp_ge hX 14 dX5_mostPairs_5 (by decide) (fun c5 => ?_) (fun c5 => ?_)
  · replace c5 := (nI_leI (by omega) (by omega)).mp c5
    exact absurd c5 (by omega)
  · replace c5 := mt (nI_leI (by omega) (by omega)).mpr c5
    refine g_iload_n hX dX5_mostPairs_8 2 rfl ?_
    refine g_bipush hX (nI 9) dX5_mostPairs_9 rfl ?_
    refine g_icmp_lt hX 16 dX5_mostPairs_11 (by decide) (fun c11 => ?_) (fun c11 => ?_)
    · replace c11 := (nI_ltI (by omega) (by omega)).mp c11
      refine g_aload_n hX dX5_mostPairs_16 0 rfl ?_
      refine g_iload_n hX dX5_mostPairs_17 1 rfl ?_
      refine g_iload_n hX dX5_mostPairs_18 2 rfl ?_
      refine g_iconst hX (nI 1) dX5_mostPairs_19 rfl ?_
      refine g_iadd hX (nI (s + 1)) dX5_mostPairs_20 (nI_add _ _) ?_
      have hc21 : CUT (fw E a C) (fw E a C) (([] : va_W)) [0, 1, 2, 3, 4, 5, 6] [] := ⟨rfl, rfl, rfl, rfl, rfl⟩
      refine g_TI hX hc21 [.ref (a 0), .int (nI free), .int (nI (s + 1))] [] (ih (s + 1) free (by omega) (by omega)) gX5_mostPairs_X5_mostPairs calX5_mostPairs rfl rfl (rm_lt (by omega) (by decide)) rfl dX5_mostPairs_21 rfl ⟨Nat.zero_le _, Nat.zero_le _⟩ (fun _ => fw E a C) [0, 1, 2, 3, 4, 5, 6] rfl (fun _ => rfl) (fun _ hu21 => ?_)
      refine g_istore_n hX (j := 3) [(3, .int (nI (mpF C k free (s + 1)))), (0, .ref (a 0)), (1, .int (nI free)), (2, .int (nI s))] dX5_mostPairs_24 rfl (by rw [hnL]; rfl) rfl ?_
      refine g_iload_n hX dX5_mostPairs_25 2 rfl ?_
      refine g_iload_n hX dX5_mostPairs_26 3 rfl ?_
      have hc27 : CUT (fw E a C) (([] : va_W)) (fw E a C) [] [0, 1, 2, 3, 4, 5, 6] := ⟨rfl, rfl, rfl, rfl, rfl⟩
      refine g_TI hX hc27 [.int (nI free), .int (nI s)] [] (c_X5_isBitOf l E free s (by first | assumption | omega) (by first | assumption | omega)) gX5_mostPairs_X5_isBitOf calX5_isBitOf rfl rfl (rm_lt (by omega) (by decide)) rfl dX5_mostPairs_27 rfl ⟨Nat.zero_le _, Nat.zero_le _⟩ (fun _ => fw E a C) [0, 1, 2, 3, 4, 5, 6] rfl (fun _ => rfl) (fun _ hu27 => ?_)
      refine g_if_ne hX 35 dX5_mostPairs_30 (by decide) (fun c30 => ?_) (fun c30 => ?_)
      · replace c30 := mt bI_0.mpr c30
        replace c30 := bNf c30
        refine g_iload_n hX dX5_mostPairs_35 3 rfl ?_
        refine g_iconst hX (nI 1) dX5_mostPairs_36 rfl ?_
        refine g_iadd hX (nI (s + 1)) dX5_mostPairs_37 (nI_add _ _) ?_
        refine g_istore hX (j := 4) [(4, .int (nI (s + 1))), (3, .int (nI (mpF C k free (s + 1)))), (0, .ref (a 0)), (1, .int (nI free)), (2, .int (nI s))] dX5_mostPairs_38 (by rw [hnL]; rfl) rfl ?_
        have lp40 : ∀ (fuel : Nat) (t : Nat) (acc : Nat), cN C - t < fuel → (t ≤ cN C) → (s < t) → (acc ≤ 9) → (mpF C (k + 1) free s = mxF (fun t => free.testBit t && mmB C s t) (fun t => 1 + mpF C k (andn free (1 <<< t)) (s + 1)) acc t (cN C - t)) → GG x 0 0 (fw E a C) 40 [(0, .ref (a 0)), (1, .int (nI free)), (2, .int (nI s)), (3, .int (nI acc)), (4, .int (nI t))] [] := by
          intro fuel
          induction fuel with
          | zero => intro t acc hm; exact absurd hm (Nat.not_lt_zero _)
          | succ fuel ih40 =>
            intro t acc hm40 ht hst hacc he
            refine g_iload hX dX5_mostPairs_40 4 rfl ?_
            refine g_aload_n hX dX5_mostPairs_42 0 rfl ?_
            refine g_get hX (v := .int (nI (cN C))) 0 inRX0 rfl rfl 1 rfl fl80 rfl rfl dX5_mostPairs_43 ?_
            refine g_icmp_ge hX 96 dX5_mostPairs_46 (by decide) (fun c46 => ?_) (fun c46 => ?_)
            · replace c46 := (nI_leI (by omega) (by omega)).mp c46
              refine g_iload_n hX dX5_mostPairs_96 3 rfl ?_
              exact g_eq rfl rfl (congrArg (fun z => [Value.int z]) (congrArg nI (by rw [he, show cN C - t = 0 by omega]; rfl))) (hret () _ _ trivial dX5_mostPairs_97)
            · replace c46 := mt (nI_leI (by omega) (by omega)).mpr c46
              refine g_iload_n hX dX5_mostPairs_49 1 rfl ?_
              refine g_iload hX dX5_mostPairs_50 4 rfl ?_
              have hc52 : CUT (fw E a C) (([] : va_W)) (fw E a C) [] [0, 1, 2, 3, 4, 5, 6] := ⟨rfl, rfl, rfl, rfl, rfl⟩
              refine g_TI hX hc52 [.int (nI free), .int (nI t)] [] (c_X5_isBitOf l E free t (by first | assumption | omega) (by first | assumption | omega)) gX5_mostPairs_X5_isBitOf calX5_isBitOf rfl rfl (rm_lt (by omega) (by decide)) rfl dX5_mostPairs_52 rfl ⟨Nat.zero_le _, Nat.zero_le _⟩ (fun _ => fw E a C) [0, 1, 2, 3, 4, 5, 6] rfl (fun _ => rfl) (fun _ hu52 => ?_)
              refine g_if_eq hX 90 dX5_mostPairs_55 (by decide) (fun c55 => ?_) (fun c55 => ?_)
              · replace c55 := bI_0.mp c55
                refine g_iinc hX (j := 4) (nI (t + 1)) [(4, .int (nI (t + 1))), (0, .ref (a 0)), (1, .int (nI free)), (2, .int (nI s)), (3, .int (nI acc))] dX5_mostPairs_90 4 rfl (iinc_n _ _) (by rw [hnL]; rfl) rfl ?_
                refine g_goto hX 40 dX5_mostPairs_93 (by decide) ?_
                exact g_lv _ [1, 2, 3, 4, 0] rfl (ih40 (t + 1) acc (by omega) (by omega) (by omega) (by first | exact hacc | (have := mpF_le C k (andn free (1 <<< t)) (s + 1); omega)) (by first | exact he.trans (mxF_no (by omega) (by simp [c5, c11, c30, c46, c55])) | exact he.trans (mxF_yes (by omega) (by simp [c5, c11, c30, c46, c55]))))
              · replace c55 := mt bI_0.mpr c55
                replace c55 := bNf c55
                refine g_aload_n hX dX5_mostPairs_58 0 rfl ?_
                refine g_iload_n hX dX5_mostPairs_59 2 rfl ?_
                refine g_iload hX dX5_mostPairs_60 4 rfl ?_
                have hc62 : CUT (fw E a C) (fw E a C) (([] : va_W)) [0, 1, 2, 3, 4, 5, 6] [] := ⟨rfl, rfl, rfl, rfl, rfl⟩
                refine g_VI hX hc62 [.int (nI s), .int (nI t)] [] (c_X0_mayMarry l E a C s t (by first | assumption | omega) (by omega) (by omega)) gX5_mostPairs_X0_mayMarry calX0_mayMarry rfl rfl rfl (rm_lt (by omega) (by decide)) 0 rfl rfl rfl rfl dX5_mostPairs_62 rfl ⟨Nat.zero_le _, Nat.zero_le _⟩ (fun _ => fw E a C) [0, 1, 2, 3, 4, 5, 6] rfl (fun _ => rfl) (fun _ hu62 => ?_)
                refine g_if_eq hX 90 dX5_mostPairs_65 (by decide) (fun c65 => ?_) (fun c65 => ?_)
                · replace c65 := bI_0.mp c65
                  refine g_iinc hX (j := 4) (nI (t + 1)) [(4, .int (nI (t + 1))), (0, .ref (a 0)), (1, .int (nI free)), (2, .int (nI s)), (3, .int (nI acc))] dX5_mostPairs_90 4 rfl (iinc_n _ _) (by rw [hnL]; rfl) rfl ?_
                  refine g_goto hX 40 dX5_mostPairs_93 (by decide) ?_
                  exact g_lv _ [1, 2, 3, 4, 0] rfl (ih40 (t + 1) acc (by omega) (by omega) (by omega) (by first | exact hacc | (have := mpF_le C k (andn free (1 <<< t)) (s + 1); omega)) (by first | exact he.trans (mxF_no (by omega) (by simp [c5, c11, c30, c46, c55, c65])) | exact he.trans (mxF_yes (by omega) (by simp [c5, c11, c30, c46, c55, c65]))))
                · replace c65 := mt bI_0.mpr c65
                  replace c65 := bNf c65
                  refine g_iload_n hX dX5_mostPairs_68 3 rfl ?_
                  refine g_iconst hX (nI 1) dX5_mostPairs_69 rfl ?_
                  refine g_aload_n hX dX5_mostPairs_70 0 rfl ?_
                  refine g_iload_n hX dX5_mostPairs_71 1 rfl ?_
                  refine g_iconst hX (nI 1) dX5_mostPairs_72 rfl ?_
                  refine g_iload hX dX5_mostPairs_73 4 rfl ?_
                  refine g_ishl hX (nI (1 <<< t)) dX5_mostPairs_75 (sh_l _ (by omega)) ?_
                  refine g_iconst hX ((-1)) dX5_mostPairs_76 rfl ?_
                  refine g_ixor hX (nI (1 <<< t) ^^^ (-1)) dX5_mostPairs_77 rfl ?_
                  refine g_iand hX (nI (andn free (1 <<< t))) dX5_mostPairs_78 (and_not (by omega)) ?_
                  refine g_iload_n hX dX5_mostPairs_79 2 rfl ?_
                  refine g_iconst hX (nI 1) dX5_mostPairs_80 rfl ?_
                  refine g_iadd hX (nI (s + 1)) dX5_mostPairs_81 (nI_add _ _) ?_
                  have hc82 : CUT (fw E a C) (fw E a C) (([] : va_W)) [0, 1, 2, 3, 4, 5, 6] [] := ⟨rfl, rfl, rfl, rfl, rfl⟩
                  refine g_TI hX hc82 [.ref (a 0), .int (nI (andn free (1 <<< t))), .int (nI (s + 1))] [.int (nI 1), .int (nI acc)] (ih (s + 1) (andn free (1 <<< t)) (by omega) (andn_lt (n := 9) _ hfr (by decide))) gX5_mostPairs_X5_mostPairs calX5_mostPairs rfl rfl (rm_lt (by omega) (by decide)) rfl dX5_mostPairs_82 rfl ⟨Nat.zero_le _, Nat.zero_le _⟩ (fun _ => fw E a C) [0, 1, 2, 3, 4, 5, 6] rfl (fun _ => rfl) (fun _ hu82 => ?_)
                  refine g_iadd hX (nI (1 + (mpF C k (andn free (1 <<< t)) (s + 1)))) dX5_mostPairs_85 (nI_add _ _) ?_
                  refine g_mmax hX (nI (max acc (1 + (mpF C k (andn free (1 <<< t)) (s + 1))))) (maxI (by have := mpF_le C k (andn free (1 <<< t)) (s + 1); omega) (by have := mpF_le C k (andn free (1 <<< t)) (s + 1); omega)) (by decide +kernel) (by decide +kernel) (by decide +kernel) (by decide +kernel) (by show 1 ≤ k + 4; omega) (by show 0 + 13 ≤ 40 * (k + 4); omega) (Nat.zero_le _) (Nat.zero_le _) dX5_mostPairs_86 ?_
                  refine g_istore_n hX (j := 3) [(3, .int (nI (max acc (1 + (mpF C k (andn free (1 <<< t)) (s + 1)))))), (0, .ref (a 0)), (1, .int (nI free)), (2, .int (nI s)), (4, .int (nI t))] dX5_mostPairs_89 rfl (by rw [hnL]; rfl) rfl ?_
                  refine g_iinc hX (j := 4) (nI (t + 1)) [(4, .int (nI (t + 1))), (3, .int (nI (max acc (1 + (mpF C k (andn free (1 <<< t)) (s + 1)))))), (0, .ref (a 0)), (1, .int (nI free)), (2, .int (nI s))] dX5_mostPairs_90 4 rfl (iinc_n _ _) (by rw [hnL]; rfl) rfl ?_
                  refine g_goto hX 40 dX5_mostPairs_93 (by decide) ?_
                  exact g_lv _ [2, 3, 4, 1, 0] rfl (ih40 (t + 1) (max acc (1 + (mpF C k (andn free (1 <<< t)) (s + 1)))) (by omega) (by omega) (by omega) (by first | exact hacc | (have := mpF_le C k (andn free (1 <<< t)) (s + 1); omega)) (by first | exact he.trans (mxF_no (by omega) (by simp [c5, c11, c30, c46, c55, c65])) | exact he.trans (mxF_yes (by omega) (by simp [c5, c11, c30, c46, c55, c65]))))
        exact g_lv _ [2, 3, 4, 1, 0] rfl (lp40 _ (s + 1) (mpF C k free (s + 1)) (Nat.lt_succ_self _) (by omega) (Nat.lt_succ_self _) (by have := mpF_le C k free (s + 1); omega) (by rw [mpF, if_pos c30, show cN C - (s + 1) = k by omega]))
      · replace c30 := bI_0.mp c30
        refine g_iload_n hX dX5_mostPairs_33 0 rfl ?_
        exact g_eq rfl rfl (congrArg (fun z => [Value.int z]) (congrArg nI (by rw [mpF, if_neg (by simp [c30])]))) (hret () _ _ trivial dX5_mostPairs_34)
    · replace c11 := mt (nI_ltI (by omega) (by omega)).mpr c11
      exact absurd h9 (by omega)
theorem c_X5_mostPairs (l : Launch) (E : EV) (a : Nat → Nat) (C : FC) (hC : FO C) : ∀ (k s free : Nat), s + k = cN C → free < 512 → KI l yX5_mostPairs wsX5_mostPairs (rmN (k + 3)) E (σ := Unit) [.ref (a 0), .int (nI free), .int (nI s)] (fw E a C) (fun _ => True) (fun _ => nI (mpF C k free s)) (fun _ => fw E a C) 0 0 := by
  intro k
  induction k with
  | zero => intro s free hs hf; exact c_X5_mostPairs_0 l E a C s free hC hs
  | succ k ih => intro s free hs hf; exact c_X5_mostPairs_s l E a C k s free hC ih hs hf
