set_option maxHeartbeats 4000000 in
set_option maxRecDepth 100000 in
theorem c_X5_pass_n (l : Launch) (E : EV) (ae : Nat → Nat) (ab : Nat → Nat) (ar : Nat → Nat) (an : Nat → Nat) (af : Nat → Nat) (ah : Nat → Nat) (ak : Nat → Nat) (ax : Nat → Nat) (ag : Nat → Nat) (z : Nat) (x0 : Int32) (hx : win x0 (nI 1) (nI 30) = false) : KI l yX5_pass wsX5_pass (rmN 6) E (σ := Unit) [.ref (ae 0), .int x0] (lfo E ae ab ar an af ah ak ax ag z) (fun _ => True) (fun _ => (-1)) (fun _ => lfo E ae ab ar an af ah ak ax ag z) 0 0 := by
  refine KI.of (cc := cX5_pass) (maxL := 3) (ty := .int) (hnar := fun _ _ => rfl) rfl rfl rfl (fun x hX hin hret hnL => ?_)
  replace hX : CX x l cX5_pass RX5 wsX5_pass E (rmN 6) := hX
  show GG x 0 0 (lfo E ae ab ar an af ah ak ax ag z) 0 [(0, .ref (ae 0)), (1, .int x0)] []
  refine g_iload_n hX dX5_pass_0 1 rfl ?_
  refine g_iconst hX (nI 1) dX5_pass_1 rfl ?_
  refine g_bipush hX (nI 30) dX5_pass_2 rfl ?_
  have hc4 : CUT (lfo E ae ab ar an af ah ak ax ag z) (([] : va_W)) (lfo E ae ab ar an af ah ak ax ag z) [] [0] := ⟨rfl, rfl, rfl, rfl, rfl⟩
  refine g_TI hX hc4 [.int x0, .int (nI 1), .int (nI 30)] [] (c_X5_isWithin l E x0 (nI 1) (nI 30)) gX5_pass_X5_isWithin calX5_isWithin rfl rfl rfl rfl dX5_pass_4 rfl ⟨Nat.zero_le _, Nat.zero_le _⟩ (fun _ => lfo E ae ab ar an af ah ak ax ag z) [0] rfl (fun _ => rfl) (fun _ hu4 => ?_)
  refine g_if_ne hX 12 dX5_pass_7 (by decide) (fun c7 => ?_) (fun c7 => ?_)
  · replace c7 := mt bI_0.mpr c7
    replace c7 := bNf c7
    rw [hx] at c7; cases c7
  · replace c7 := bI_0.mp c7
    refine g_iconst hX ((-1)) dX5_pass_10 rfl ?_
    exact g_eq rfl rfl rfl (hret () _ _ trivial dX5_pass_11)
set_option maxHeartbeats 4000000 in
set_option maxRecDepth 100000 in
theorem c_X5_pass_y (l : Launch) (E : EV) (ae : Nat → Nat) (ab : Nat → Nat) (ar : Nat → Nat) (an : Nat → Nat) (af : Nat → Nat) (ah : Nat → Nat) (ak : Nat → Nat) (ax : Nat → Nat) (ag : Nat → Nat) (z : Nat) (C : FC) (V : PV) (m : Nat) (n : Nat) (hD : DI C m) (hm : m < 2 ^ 29) (hV8 : pz V ≤ 8) (hn1 : 1 ≤ n) (hn2 : n ≤ 30) : KI l yX5_pass wsX5_pass (rmN 6) E (σ := Unit) [.ref (ae 0), .int (nI n)] ((lfo E ae ab ar an af ah ak ax ag z ++ (fw E an C ++ (pw8 E ah V)))) (fun _ => True) (fun _ => (nI (cY C + n))) (fun _ => (lfo E ae ab ar an af ah ak ax ag z ++ (fw E an (dayC C n) ++ (pw8 E ah (padd8 V C))))) 0 0 := by
  refine KI.of (cc := cX5_pass) (maxL := 3) (ty := .int) (hnar := fun _ _ => rfl) rfl rfl rfl (fun x hX hin hret hnL => ?_)
  replace hX : CX x l cX5_pass RX5 wsX5_pass E (rmN 6) := hX
  show GG x 0 0 ((lfo E ae ab ar an af ah ak ax ag z ++ (fw E an C ++ (pw8 E ah V)))) 0 [(0, .ref (ae 0)), (1, .int (nI n))] []
  have inRX0 : ∀ w ∈ wsX00, w ∈ wsX5_pass := by decide +kernel
  have inRX5 : ∀ w ∈ wsX50, w ∈ wsX5_pass := by decide +kernel
  have fl141 : Cond.fieldLink RX5 141 "LieForce$Force" "days" "I" ∈ wsX5_pass := by decide +kernel
  have fl24 : Cond.fieldLink RX5 24 "LieForce" "now" "LLieForce$Force;" ∈ wsX5_pass := by decide +kernel
  have fl39 : Cond.fieldLink RX5 39 "LieForce" "undoable" "LLieForce$Pile;" ∈ wsX5_pass := by decide +kernel
  obtain ⟨hC, hVY, hZ, hYm⟩ := id hD
  obtain ⟨⟨h9, h64, h512, hT, hI⟩, hK⟩ := id hC
  have hV := DI_VB hD (by omega)
  refine g_iload_n hX dX5_pass_0 1 rfl ?_
  refine g_iconst hX (nI 1) dX5_pass_1 rfl ?_
  refine g_bipush hX (nI 30) dX5_pass_2 rfl ?_
  have hc4 : CUT ((lfo E ae ab ar an af ah ak ax ag z ++ (fw E an C ++ (pw8 E ah V)))) (([] : va_W)) ((lfo E ae ab ar an af ah ak ax ag z ++ (fw E an C ++ (pw8 E ah V)))) [] [0, 1, 2, 3, 4, 5, 6, 7, 8, 9, 10, 11, 12, 13, 14, 15, 16, 17, 18, 19, 20, 21, 22, 23, 24, 25, 26, 27, 28, 29, 30, 31, 32, 33, 34, 35, 36, 37, 38, 39, 40, 41, 42, 43, 44, 45, 46, 47, 48, 49, 50, 51, 52, 53, 54, 55, 56, 57, 58, 59, 60, 61, 62, 63, 64, 65] := ⟨rfl, rfl, rfl, rfl, rfl⟩
  refine g_TI hX hc4 [.int (nI n), .int (nI 1), .int (nI 30)] [] (c_X5_isWithin l E (nI n) (nI 1) (nI 30)) gX5_pass_X5_isWithin calX5_isWithin rfl rfl rfl rfl dX5_pass_4 rfl ⟨Nat.zero_le _, Nat.zero_le _⟩ (fun _ => (lfo E ae ab ar an af ah ak ax ag z ++ (fw E an C ++ (pw8 E ah V)))) [0, 1, 2, 3, 4, 5, 6, 7, 8, 9, 10, 11, 12, 13, 14, 15, 16, 17, 18, 19, 20, 21, 22, 23, 24, 25, 26, 27, 28, 29, 30, 31, 32, 33, 34, 35, 36, 37, 38, 39, 40, 41, 42, 43, 44, 45, 46, 47, 48, 49, 50, 51, 52, 53, 54, 55, 56, 57, 58, 59, 60, 61, 62, 63, 64, 65] rfl (fun _ => rfl) (fun _ hu4 => ?_)
  refine g_if_ne hX 12 dX5_pass_7 (by decide) (fun c7 => ?_) (fun c7 => ?_)
  · replace c7 := mt bI_0.mpr c7
    replace c7 := bNf c7
    refine g_aload_n hX dX5_pass_12 0 rfl ?_
    refine g_get hX (v := .ref (ah 0)) 0 inRX5 rfl rfl 5 rfl fl39 rfl rfl dX5_pass_13 ?_
    refine g_aload_n hX dX5_pass_16 0 rfl ?_
    refine g_get hX (v := .ref (an 0)) 0 inRX5 rfl rfl 3 rfl fl24 rfl rfl dX5_pass_17 ?_
    have hc20 : CUT ((lfo E ae ab ar an af ah ak ax ag z ++ (fw E an C ++ (pw8 E ah V)))) ((pw8 E ah V) ++ (fw E an C)) (lfo E ae ab ar an af ah ak ax ag z) [8, 9, 10, 11, 12, 13, 14, 15, 16, 17, 18, 19, 20, 21, 22, 23, 24, 25, 26, 27, 28, 29, 30, 31, 32, 33, 34, 35, 36, 37, 38, 39, 40, 41, 42, 43, 44, 45, 46, 47, 48, 49, 50, 51, 52, 53, 54, 55, 56, 57, 58, 59, 60, 61, 62, 63, 64, 65, 1, 2, 3, 4, 5, 6, 7] [0] := ⟨rfl, rfl, rfl, rfl, rfl⟩
    refine g_VV hX hc20 [.ref (an 0)] [] (c_X2_add8 l E ah V an C (by first | assumption | omega)) gX5_pass_X2_add calX2_add rfl rfl rfl rfl 8 rfl rfl rfl rfl dX5_pass_20 rfl ⟨Nat.zero_le _, Nat.zero_le _⟩ (fun _ => (lfo E ae ab ar an af ah ak ax ag z ++ (fw E an C ++ (pw8 E ah (padd8 V C))))) [0, 59, 60, 61, 62, 63, 64, 65, 1, 2, 3, 4, 5, 6, 7, 8, 9, 10, 11, 12, 13, 14, 15, 16, 17, 18, 19, 20, 21, 22, 23, 24, 25, 26, 27, 28, 29, 30, 31, 32, 33, 34, 35, 36, 37, 38, 39, 40, 41, 42, 43, 44, 45, 46, 47, 48, 49, 50, 51, 52, 53, 54, 55, 56, 57, 58] rfl (fun _ => rfl) (fun _ hu20 => ?_)
    refine g_iconst hX (nI 0) dX5_pass_23 rfl ?_
    refine g_istore_n hX (j := 2) [(2, .int (nI 0)), (0, .ref (ae 0)), (1, .int (nI n))] dX5_pass_24 rfl (by rw [hnL]; rfl) rfl ?_
    have lp25 : ∀ (fuel : Nat) (k : Nat), n - k < fuel → (k ≤ n) → GG x 0 0 ((lfo E ae ab ar an af ah ak ax ag z ++ (fw E an (dayC C k) ++ (pw8 E ah (padd8 V C))))) 25 [(0, .ref (ae 0)), (1, .int (nI n)), (2, .int (nI k))] [] := by
      intro fuel
      induction fuel with
      | zero => intro k hm; exact absurd hm (Nat.not_lt_zero _)
      | succ fuel ih25 =>
        intro k hm25 hk
        have hDk := DI_day hD k
        refine g_iload_n hX dX5_pass_25 2 rfl ?_
        refine g_iload_n hX dX5_pass_26 1 rfl ?_
        refine g_icmp_ge hX 44 dX5_pass_27 (by decide) (fun c27 => ?_) (fun c27 => ?_)
        · replace c27 := (nI_leI (by omega) (by omega)).mp c27
          refine g_aload_n hX dX5_pass_44 0 rfl ?_
          refine g_get hX (v := .ref (an 0)) 0 inRX5 rfl rfl 3 rfl fl24 rfl rfl dX5_pass_45 ?_
          refine g_get hX (v := .int (nI (cY (dayC C k)))) 1 inRX0 rfl rfl 3 rfl fl141 rfl rfl dX5_pass_48 ?_
          exact g_eq (by rw [show k = n by omega]) rfl (congrArg (fun z => [Value.int z]) (congrArg nI (by rw [day_Y, show k = n by omega]))) (hret () _ _ trivial dX5_pass_51)
        · replace c27 := mt (nI_leI (by omega) (by omega)).mpr c27
          refine g_aload_n hX dX5_pass_30 0 rfl ?_
          refine g_get hX (v := .ref (an 0)) 0 inRX5 rfl rfl 3 rfl fl24 rfl rfl dX5_pass_31 ?_
          have hc34 : CUT ((lfo E ae ab ar an af ah ak ax ag z ++ (fw E an (dayC C k) ++ (pw8 E ah (padd8 V C))))) (fw E an (dayC C k)) ((lfo E ae ab ar an af ah ak ax ag z) ++ (pw8 E ah (padd8 V C))) [1, 2, 3, 4, 5, 6, 7] [0, 8, 9, 10, 11, 12, 13, 14, 15, 16, 17, 18, 19, 20, 21, 22, 23, 24, 25, 26, 27, 28, 29, 30, 31, 32, 33, 34, 35, 36, 37, 38, 39, 40, 41, 42, 43, 44, 45, 46, 47, 48, 49, 50, 51, 52, 53, 54, 55, 56, 57, 58, 59, 60, 61, 62, 63, 64, 65] := ⟨rfl, rfl, rfl, rfl, rfl⟩
          refine g_VI hX hc34 [] [] (c_X0_passDay l E an (dayC C k) hDk.1.1 (DI_VB1 hDk (by omega))) gX5_pass_X0_passDay calX0_passDay rfl rfl rfl rfl 1 rfl rfl rfl rfl dX5_pass_34 rfl ⟨Nat.zero_le _, Nat.zero_le _⟩ (fun _ => (lfo E ae ab ar an af ah ak ax ag z ++ (fw E an ((passC (dayC C k)).1) ++ (pw8 E ah (padd8 V C))))) [0, 59, 60, 61, 62, 63, 64, 65, 1, 2, 3, 4, 5, 6, 7, 8, 9, 10, 11, 12, 13, 14, 15, 16, 17, 18, 19, 20, 21, 22, 23, 24, 25, 26, 27, 28, 29, 30, 31, 32, 33, 34, 35, 36, 37, 38, 39, 40, 41, 42, 43, 44, 45, 46, 47, 48, 49, 50, 51, 52, 53, 54, 55, 56, 57, 58] rfl (fun _ => rfl) (fun _ hu34 => ?_)
          refine g_pop hX dX5_pass_37 rfl ?_
          refine g_iinc hX (j := 2) (nI (k + 1)) [(2, .int (nI (k + 1))), (0, .ref (ae 0)), (1, .int (nI n))] dX5_pass_38 2 rfl (iinc_n _ _) (by rw [hnL]; rfl) rfl ?_
          refine g_goto hX 25 dX5_pass_41 (by decide) ?_
          exact g_lv _ [1, 2, 0] rfl (ih25 (k + 1) (by omega) (by omega))
    exact g_lv _ [1, 2, 0] rfl (lp25 _ 0 (Nat.lt_succ_self _) (Nat.zero_le _))
  · replace c7 := bI_0.mp c7
    rw [win_y (by omega) (by omega) (by decide)] at c7; cases c7
set_option maxHeartbeats 4000000 in
set_option maxRecDepth 100000 in
theorem c_X5_say_n (l : Launch) (E : EV) (ae : Nat → Nat) (ab : Nat → Nat) (ar : Nat → Nat) (an : Nat → Nat) (af : Nat → Nat) (ah : Nat → Nat) (ak : Nat → Nat) (ax : Nat → Nat) (ag : Nat → Nat) (z : Nat) (x0 : Int32) (x1 : Int32) (x2 : Int32) (x3 : Int32) (hx : (win x0 (nI 0) (nI 4) && win x1 (nI 0) (nI 11) && (decide (x0 = 0) || win x2 (nI 0) (nI 11)) && win x3 (nI 0) (nI 5)) = false) : KI l yX5_say wsX5_say (rmN 6) E (σ := Unit) [.ref (ae 0), .int x0, .int x1, .int x2, .int x3] (lfo E ae ab ar an af ah ak ax ag z) (fun _ => True) (fun _ => (-1)) (fun _ => lfo E ae ab ar an af ah ak ax ag z) 0 0 := by
  refine KI.of (cc := cX5_say) (maxL := 6) (ty := .int) (hnar := fun _ _ => rfl) rfl rfl rfl (fun x hX hin hret hnL => ?_)
  replace hX : CX x l cX5_say RX5 wsX5_say E (rmN 6) := hX
  show GG x 0 0 (lfo E ae ab ar an af ah ak ax ag z) 0 [(0, .ref (ae 0)), (1, .int x0), (2, .int x1), (3, .int x2), (4, .int x3)] []
  refine g_iload_n hX dX5_say_0 1 rfl ?_
  refine g_if_ne hX 8 dX5_say_1 (by decide) (fun c1 => ?_) (fun c1 => ?_)
  · skip
    refine g_iload_n hX dX5_say_8 3 rfl ?_
    refine g_istore hX (j := 5) [(5, .int x2), (0, .ref (ae 0)), (1, .int x0), (2, .int x1), (3, .int x2), (4, .int x3)] dX5_say_9 (by rw [hnL]; rfl) rfl ?_
    refine g_iload_n hX dX5_say_11 2 rfl ?_
    refine g_iload_n hX dX5_say_12 3 rfl ?_
    refine g_iload hX dX5_say_13 0 rfl ?_
    refine g_iload hX dX5_say_15 5 rfl ?_
    have hc17 : CUT (lfo E ae ab ar an af ah ak ax ag z) (([] : va_W)) (lfo E ae ab ar an af ah ak ax ag z) [] [0] := ⟨rfl, rfl, rfl, rfl, rfl⟩
    refine g_TI hX hc17 [.int x0, .int x1, .int x2, .int x3] [] (c_X5_isSaying l E x0 x1 x2 x3) gX5_say_X5_isSaying calX5_isSaying rfl rfl rfl rfl dX5_say_17 rfl ⟨Nat.zero_le _, Nat.zero_le _⟩ (fun _ => lfo E ae ab ar an af ah ak ax ag z) [0] rfl (fun _ => rfl) (fun _ hu17 => ?_)
    refine g_if_ne hX 25 dX5_say_20 (by decide) (fun c20 => ?_) (fun c20 => ?_)
    · replace c20 := mt bI_0.mpr c20
      replace c20 := bNf c20
      first | (rw [sy_no1 hx c1] at c20; cases c20) | (rw [sy_no2 hx c1] at c20; cases c20)
    · replace c20 := bI_0.mp c20
      refine g_iconst hX ((-1)) dX5_say_23 rfl ?_
      exact g_eq rfl rfl rfl (hret () _ _ trivial dX5_say_24)
  · skip
    refine g_iconst hX (nI 0) dX5_say_4 rfl ?_
    refine g_goto hX 9 dX5_say_5 (by decide) ?_
    refine g_istore hX (j := 5) [(5, .int (nI 0)), (0, .ref (ae 0)), (1, .int x0), (2, .int x1), (3, .int x2), (4, .int x3)] dX5_say_9 (by rw [hnL]; rfl) rfl ?_
    refine g_iload_n hX dX5_say_11 2 rfl ?_
    refine g_iload_n hX dX5_say_12 3 rfl ?_
    refine g_iload hX dX5_say_13 0 rfl ?_
    refine g_iload hX dX5_say_15 5 rfl ?_
    have hc17 : CUT (lfo E ae ab ar an af ah ak ax ag z) (([] : va_W)) (lfo E ae ab ar an af ah ak ax ag z) [] [0] := ⟨rfl, rfl, rfl, rfl, rfl⟩
    refine g_TI hX hc17 [.int x0, .int x1, .int (nI 0), .int x3] [] (c_X5_isSaying l E x0 x1 (nI 0) x3) gX5_say_X5_isSaying calX5_isSaying rfl rfl rfl rfl dX5_say_17 rfl ⟨Nat.zero_le _, Nat.zero_le _⟩ (fun _ => lfo E ae ab ar an af ah ak ax ag z) [0] rfl (fun _ => rfl) (fun _ hu17 => ?_)
    refine g_if_ne hX 25 dX5_say_20 (by decide) (fun c20 => ?_) (fun c20 => ?_)
    · replace c20 := mt bI_0.mpr c20
      replace c20 := bNf c20
      first | (rw [sy_no1 hx c1] at c20; cases c20) | (rw [sy_no2 hx c1] at c20; cases c20)
    · replace c20 := bI_0.mp c20
      refine g_iconst hX ((-1)) dX5_say_23 rfl ?_
      exact g_eq rfl rfl rfl (hret () _ _ trivial dX5_say_24)
set_option maxHeartbeats 4000000 in
set_option maxRecDepth 100000 in
theorem c_X5_say_f (l : Launch) (E : EV) (ae : Nat → Nat) (ab : Nat → Nat) (ar : Nat → Nat) (an : Nat → Nat) (af : Nat → Nat) (ah : Nat → Nat) (ak : Nat → Nat) (ax : Nat → Nat) (ag : Nat → Nat) (z : Nat) (C : FC) (m : Nat) (kk : Nat) (q : Nat) (q2 : Nat) (pp : Nat) (hD : DI C m) (hm : m < 2 ^ 29) (hk : kk < 5) (hq : q < 12) (hq2 : kk = 0 ∨ q2 < 12) (hp : pp < 6) (hN : cN C = 9) : KI l yX5_say wsX5_say (rmN 6) E (σ := Unit) [.ref (ae 0), .int (nI kk), .int (nI q), .int (nI q2), .int (nI pp)] ((lfo E ae ab ar an af ah ak ax ag z) ++ (fw E an C)) (fun _ => True) (fun _ => (-3)) (fun _ => (lfo E ae ab ar an af ah ak ax ag z) ++ (fw E an C)) 0 0 := by
  refine KI.of (cc := cX5_say) (maxL := 6) (ty := .int) (hnar := fun _ _ => rfl) rfl rfl rfl (fun x hX hin hret hnL => ?_)
  replace hX : CX x l cX5_say RX5 wsX5_say E (rmN 6) := hX
  show GG x 0 0 ((lfo E ae ab ar an af ah ak ax ag z) ++ (fw E an C)) 0 [(0, .ref (ae 0)), (1, .int (nI kk)), (2, .int (nI q)), (3, .int (nI q2)), (4, .int (nI pp))] []
  have inRX0 : ∀ w ∈ wsX00, w ∈ wsX5_say := by decide +kernel
  have inRX5 : ∀ w ∈ wsX50, w ∈ wsX5_say := by decide +kernel
  have fl24 : Cond.fieldLink RX5 24 "LieForce" "now" "LLieForce$Force;" ∈ wsX5_say := by decide +kernel
  have fl80 : Cond.fieldLink RX5 80 "LieForce$Force" "sayings" "I" ∈ wsX5_say := by decide +kernel
  obtain ⟨hC, hVY, hZ, hYm⟩ := id hD
  obtain ⟨⟨h9, h64, h512, hT, hI⟩, hK⟩ := id hC
  have hV := DI_VB hD (by omega)
  refine g_iload_n hX dX5_say_0 1 rfl ?_
  refine g_if_ne hX 8 dX5_say_1 (by decide) (fun c1 => ?_) (fun c1 => ?_)
  · replace c1 := mt (nz_eq (by omega)).mpr c1
    refine g_iload_n hX dX5_say_8 3 rfl ?_
    refine g_istore hX (j := 5) [(5, .int (nI q2)), (0, .ref (ae 0)), (1, .int (nI kk)), (2, .int (nI q)), (3, .int (nI q2)), (4, .int (nI pp))] dX5_say_9 (by rw [hnL]; rfl) rfl ?_
    refine g_iload_n hX dX5_say_11 2 rfl ?_
    refine g_iload_n hX dX5_say_12 3 rfl ?_
    refine g_iload hX dX5_say_13 0 rfl ?_
    refine g_iload hX dX5_say_15 5 rfl ?_
    have hc17 : CUT ((lfo E ae ab ar an af ah ak ax ag z) ++ (fw E an C)) (([] : va_W)) ((lfo E ae ab ar an af ah ak ax ag z) ++ (fw E an C)) [] [0, 1, 2, 3, 4, 5, 6, 7] := ⟨rfl, rfl, rfl, rfl, rfl⟩
    refine g_TI hX hc17 [.int (nI kk), .int (nI q), .int (nI q2), .int (nI pp)] [] (c_X5_isSaying l E (nI kk) (nI q) (nI q2) (nI pp)) gX5_say_X5_isSaying calX5_isSaying rfl rfl rfl rfl dX5_say_17 rfl ⟨Nat.zero_le _, Nat.zero_le _⟩ (fun _ => (lfo E ae ab ar an af ah ak ax ag z) ++ (fw E an C)) [0, 1, 2, 3, 4, 5, 6, 7] rfl (fun _ => rfl) (fun _ hu17 => ?_)
    refine g_if_ne hX 25 dX5_say_20 (by decide) (fun c20 => ?_) (fun c20 => ?_)
    · replace c20 := mt bI_0.mpr c20
      replace c20 := bNf c20
      refine g_aload_n hX dX5_say_25 1 rfl ?_
      refine g_get hX (v := .ref (an 0)) 0 inRX5 rfl rfl 3 rfl fl24 rfl rfl dX5_say_26 ?_
      refine g_get hX (v := .int (nI (cN C))) 1 inRX0 rfl rfl 1 rfl fl80 rfl rfl dX5_say_29 ?_
      refine g_bipush hX (nI 9) dX5_say_32 rfl ?_
      refine g_icmp_lt hX 40 dX5_say_34 (by decide) (fun c34 => ?_) (fun c34 => ?_)
      · replace c34 := (nI_ltI (by omega) (by omega)).mp c34
        omega
      · replace c34 := mt (nI_ltI (by omega) (by omega)).mpr c34
        refine g_bipush hX ((-3)) dX5_say_37 rfl ?_
        exact g_eq rfl rfl rfl (hret () _ _ trivial dX5_say_39)
    · replace c20 := bI_0.mp c20
      rw [sy_yes (by omega) (by omega) (by omega) (by omega)] at c20; cases c20
  · replace c1 := (nz_eq (by omega)).mp c1
    refine g_iconst hX (nI 0) dX5_say_4 rfl ?_
    refine g_goto hX 9 dX5_say_5 (by decide) ?_
    refine g_istore hX (j := 5) [(5, .int (nI 0)), (0, .ref (ae 0)), (1, .int (nI kk)), (2, .int (nI q)), (3, .int (nI q2)), (4, .int (nI pp))] dX5_say_9 (by rw [hnL]; rfl) rfl ?_
    refine g_iload_n hX dX5_say_11 2 rfl ?_
    refine g_iload_n hX dX5_say_12 3 rfl ?_
    refine g_iload hX dX5_say_13 0 rfl ?_
    refine g_iload hX dX5_say_15 5 rfl ?_
    have hc17 : CUT ((lfo E ae ab ar an af ah ak ax ag z) ++ (fw E an C)) (([] : va_W)) ((lfo E ae ab ar an af ah ak ax ag z) ++ (fw E an C)) [] [0, 1, 2, 3, 4, 5, 6, 7] := ⟨rfl, rfl, rfl, rfl, rfl⟩
    refine g_TI hX hc17 [.int (nI kk), .int (nI q), .int (nI 0), .int (nI pp)] [] (c_X5_isSaying l E (nI kk) (nI q) (nI 0) (nI pp)) gX5_say_X5_isSaying calX5_isSaying rfl rfl rfl rfl dX5_say_17 rfl ⟨Nat.zero_le _, Nat.zero_le _⟩ (fun _ => (lfo E ae ab ar an af ah ak ax ag z) ++ (fw E an C)) [0, 1, 2, 3, 4, 5, 6, 7] rfl (fun _ => rfl) (fun _ hu17 => ?_)
    refine g_if_ne hX 25 dX5_say_20 (by decide) (fun c20 => ?_) (fun c20 => ?_)
    · replace c20 := mt bI_0.mpr c20
      replace c20 := bNf c20
      refine g_aload_n hX dX5_say_25 1 rfl ?_
      refine g_get hX (v := .ref (an 0)) 0 inRX5 rfl rfl 3 rfl fl24 rfl rfl dX5_say_26 ?_
      refine g_get hX (v := .int (nI (cN C))) 1 inRX0 rfl rfl 1 rfl fl80 rfl rfl dX5_say_29 ?_
      refine g_bipush hX (nI 9) dX5_say_32 rfl ?_
      refine g_icmp_lt hX 40 dX5_say_34 (by decide) (fun c34 => ?_) (fun c34 => ?_)
      · replace c34 := (nI_ltI (by omega) (by omega)).mp c34
        omega
      · replace c34 := mt (nI_ltI (by omega) (by omega)).mpr c34
        refine g_bipush hX ((-3)) dX5_say_37 rfl ?_
        exact g_eq rfl rfl rfl (hret () _ _ trivial dX5_say_39)
    · replace c20 := bI_0.mp c20
      rw [sy_yes (by omega) (by omega) (by omega) (by omega)] at c20; cases c20
set_option maxHeartbeats 4000000 in
set_option maxRecDepth 100000 in
theorem c_X5_say_y (l : Launch) (E : EV) (ae : Nat → Nat) (ab : Nat → Nat) (ar : Nat → Nat) (an : Nat → Nat) (af : Nat → Nat) (ah : Nat → Nat) (ak : Nat → Nat) (ax : Nat → Nat) (ag : Nat → Nat) (z : Nat) (C : FC) (V : PV) (m : Nat) (kk : Nat) (q : Nat) (q2 : Nat) (pp : Nat) (hD : DI C m) (hm : m < 2 ^ 29) (hV8 : pz V ≤ 8) (hk : kk < 5) (hq : q < 12) (hq2 : kk = 0 ∨ q2 < 12) (hp : pp < 6) (hN : cN C < 9) : KI l yX5_say wsX5_say (rmN 6) E (σ := Unit) [.ref (ae 0), .int (nI kk), .int (nI q), .int (nI q2), .int (nI pp)] ((lfo E ae ab ar an af ah ak ax ag z ++ (fw E an C ++ (pw8 E ah V)))) (fun _ => True) (fun _ => (nI (cN C))) (fun _ => (lfo E ae ab ar an af ah ak ax ag z ++ (fw E an (addC C kk q (if kk = 0 then 0 else q2) pp) ++ (pw8 E ah (padd8 V C))))) 0 0 := by
  refine KI.of (cc := cX5_say) (maxL := 6) (ty := .int) (hnar := fun _ _ => rfl) rfl rfl rfl (fun x hX hin hret hnL => ?_)
  replace hX : CX x l cX5_say RX5 wsX5_say E (rmN 6) := hX
  show GG x 0 0 ((lfo E ae ab ar an af ah ak ax ag z ++ (fw E an C ++ (pw8 E ah V)))) 0 [(0, .ref (ae 0)), (1, .int (nI kk)), (2, .int (nI q)), (3, .int (nI q2)), (4, .int (nI pp))] []
  have inRX0 : ∀ w ∈ wsX00, w ∈ wsX5_say := by decide +kernel
  have inRX5 : ∀ w ∈ wsX50, w ∈ wsX5_say := by decide +kernel
  have fl24 : Cond.fieldLink RX5 24 "LieForce" "now" "LLieForce$Force;" ∈ wsX5_say := by decide +kernel
  have fl39 : Cond.fieldLink RX5 39 "LieForce" "undoable" "LLieForce$Pile;" ∈ wsX5_say := by decide +kernel
  have fl80 : Cond.fieldLink RX5 80 "LieForce$Force" "sayings" "I" ∈ wsX5_say := by decide +kernel
  obtain ⟨hC, hVY, hZ, hYm⟩ := id hD
  obtain ⟨⟨h9, h64, h512, hT, hI⟩, hK⟩ := id hC
  have hV := DI_VB hD (by omega)
  refine g_iload_n hX dX5_say_0 1 rfl ?_
  refine g_if_ne hX 8 dX5_say_1 (by decide) (fun c1 => ?_) (fun c1 => ?_)
  · replace c1 := mt (nz_eq (by omega)).mpr c1
    refine g_iload_n hX dX5_say_8 3 rfl ?_
    refine g_istore hX (j := 5) [(5, .int (nI q2)), (0, .ref (ae 0)), (1, .int (nI kk)), (2, .int (nI q)), (3, .int (nI q2)), (4, .int (nI pp))] dX5_say_9 (by rw [hnL]; rfl) rfl ?_
    refine g_iload_n hX dX5_say_11 2 rfl ?_
    refine g_iload_n hX dX5_say_12 3 rfl ?_
    refine g_iload hX dX5_say_13 0 rfl ?_
    refine g_iload hX dX5_say_15 5 rfl ?_
    have hc17 : CUT ((lfo E ae ab ar an af ah ak ax ag z ++ (fw E an C ++ (pw8 E ah V)))) (([] : va_W)) ((lfo E ae ab ar an af ah ak ax ag z ++ (fw E an C ++ (pw8 E ah V)))) [] [0, 1, 2, 3, 4, 5, 6, 7, 8, 9, 10, 11, 12, 13, 14, 15, 16, 17, 18, 19, 20, 21, 22, 23, 24, 25, 26, 27, 28, 29, 30, 31, 32, 33, 34, 35, 36, 37, 38, 39, 40, 41, 42, 43, 44, 45, 46, 47, 48, 49, 50, 51, 52, 53, 54, 55, 56, 57, 58, 59, 60, 61, 62, 63, 64, 65] := ⟨rfl, rfl, rfl, rfl, rfl⟩
    refine g_TI hX hc17 [.int (nI kk), .int (nI q), .int (nI q2), .int (nI pp)] [] (c_X5_isSaying l E (nI kk) (nI q) (nI q2) (nI pp)) gX5_say_X5_isSaying calX5_isSaying rfl rfl rfl rfl dX5_say_17 rfl ⟨Nat.zero_le _, Nat.zero_le _⟩ (fun _ => (lfo E ae ab ar an af ah ak ax ag z ++ (fw E an C ++ (pw8 E ah V)))) [0, 1, 2, 3, 4, 5, 6, 7, 8, 9, 10, 11, 12, 13, 14, 15, 16, 17, 18, 19, 20, 21, 22, 23, 24, 25, 26, 27, 28, 29, 30, 31, 32, 33, 34, 35, 36, 37, 38, 39, 40, 41, 42, 43, 44, 45, 46, 47, 48, 49, 50, 51, 52, 53, 54, 55, 56, 57, 58, 59, 60, 61, 62, 63, 64, 65] rfl (fun _ => rfl) (fun _ hu17 => ?_)
    refine g_if_ne hX 25 dX5_say_20 (by decide) (fun c20 => ?_) (fun c20 => ?_)
    · replace c20 := mt bI_0.mpr c20
      replace c20 := bNf c20
      refine g_aload_n hX dX5_say_25 1 rfl ?_
      refine g_get hX (v := .ref (an 0)) 0 inRX5 rfl rfl 3 rfl fl24 rfl rfl dX5_say_26 ?_
      refine g_get hX (v := .int (nI (cN C))) 1 inRX0 rfl rfl 1 rfl fl80 rfl rfl dX5_say_29 ?_
      refine g_bipush hX (nI 9) dX5_say_32 rfl ?_
      refine g_icmp_lt hX 40 dX5_say_34 (by decide) (fun c34 => ?_) (fun c34 => ?_)
      · replace c34 := (nI_ltI (by omega) (by omega)).mp c34
        refine g_aload_n hX dX5_say_40 1 rfl ?_
        refine g_get hX (v := .ref (ah 0)) 0 inRX5 rfl rfl 5 rfl fl39 rfl rfl dX5_say_41 ?_
        refine g_aload_n hX dX5_say_44 1 rfl ?_
        refine g_get hX (v := .ref (an 0)) 0 inRX5 rfl rfl 3 rfl fl24 rfl rfl dX5_say_45 ?_
        have hc48 : CUT ((lfo E ae ab ar an af ah ak ax ag z ++ (fw E an C ++ (pw8 E ah V)))) ((pw8 E ah V) ++ (fw E an C)) (lfo E ae ab ar an af ah ak ax ag z) [8, 9, 10, 11, 12, 13, 14, 15, 16, 17, 18, 19, 20, 21, 22, 23, 24, 25, 26, 27, 28, 29, 30, 31, 32, 33, 34, 35, 36, 37, 38, 39, 40, 41, 42, 43, 44, 45, 46, 47, 48, 49, 50, 51, 52, 53, 54, 55, 56, 57, 58, 59, 60, 61, 62, 63, 64, 65, 1, 2, 3, 4, 5, 6, 7] [0] := ⟨rfl, rfl, rfl, rfl, rfl⟩
        refine g_VV hX hc48 [.ref (an 0)] [] (c_X2_add8 l E ah V an C (by first | assumption | omega)) gX5_say_X2_add calX2_add rfl rfl rfl rfl 8 rfl rfl rfl rfl dX5_say_48 rfl ⟨Nat.zero_le _, Nat.zero_le _⟩ (fun _ => (lfo E ae ab ar an af ah ak ax ag z ++ (fw E an C ++ (pw8 E ah (padd8 V C))))) [0, 59, 60, 61, 62, 63, 64, 65, 1, 2, 3, 4, 5, 6, 7, 8, 9, 10, 11, 12, 13, 14, 15, 16, 17, 18, 19, 20, 21, 22, 23, 24, 25, 26, 27, 28, 29, 30, 31, 32, 33, 34, 35, 36, 37, 38, 39, 40, 41, 42, 43, 44, 45, 46, 47, 48, 49, 50, 51, 52, 53, 54, 55, 56, 57, 58] rfl (fun _ => rfl) (fun _ hu48 => ?_)
        refine g_aload_n hX dX5_say_51 1 rfl ?_
        refine g_get hX (v := .ref (an 0)) 0 inRX5 rfl rfl 3 rfl fl24 rfl rfl dX5_say_52 ?_
        refine g_iload_n hX dX5_say_55 2 rfl ?_
        refine g_iload_n hX dX5_say_56 3 rfl ?_
        refine g_iload hX dX5_say_57 0 rfl ?_
        refine g_iload hX dX5_say_59 5 rfl ?_
        have hc61 : CUT ((lfo E ae ab ar an af ah ak ax ag z ++ (fw E an C ++ (pw8 E ah (padd8 V C))))) (fw E an C) ((lfo E ae ab ar an af ah ak ax ag z) ++ (pw8 E ah (padd8 V C))) [1, 2, 3, 4, 5, 6, 7] [0, 8, 9, 10, 11, 12, 13, 14, 15, 16, 17, 18, 19, 20, 21, 22, 23, 24, 25, 26, 27, 28, 29, 30, 31, 32, 33, 34, 35, 36, 37, 38, 39, 40, 41, 42, 43, 44, 45, 46, 47, 48, 49, 50, 51, 52, 53, 54, 55, 56, 57, 58, 59, 60, 61, 62, 63, 64, 65] := ⟨rfl, rfl, rfl, rfl, rfl⟩
        refine g_VI hX hc61 [.int (nI kk), .int (nI q), .int (nI q2), .int (nI pp)] [] (c_X0_addSaying l E an C kk q q2 pp hC.1 (by omega) hk hq (by omega)) gX5_say_X0_addSaying calX0_addSaying rfl rfl rfl rfl 1 rfl rfl rfl rfl dX5_say_61 rfl ⟨Nat.zero_le _, Nat.zero_le _⟩ (fun _ => (lfo E ae ab ar an af ah ak ax ag z ++ (fw E an (addC C kk q q2 pp) ++ (pw8 E ah (padd8 V C))))) [0, 59, 60, 61, 62, 63, 64, 65, 1, 2, 3, 4, 5, 6, 7, 8, 9, 10, 11, 12, 13, 14, 15, 16, 17, 18, 19, 20, 21, 22, 23, 24, 25, 26, 27, 28, 29, 30, 31, 32, 33, 34, 35, 36, 37, 38, 39, 40, 41, 42, 43, 44, 45, 46, 47, 48, 49, 50, 51, 52, 53, 54, 55, 56, 57, 58] rfl (fun _ => rfl) (fun _ hu61 => ?_)
        exact g_eq (by first | rw [if_pos c1] | rw [if_neg c1]) rfl rfl (hret () _ _ trivial dX5_say_64)
      · replace c34 := mt (nI_ltI (by omega) (by omega)).mpr c34
        omega
    · replace c20 := bI_0.mp c20
      rw [sy_yes (by omega) (by omega) (by omega) (by omega)] at c20; cases c20
  · replace c1 := (nz_eq (by omega)).mp c1
    refine g_iconst hX (nI 0) dX5_say_4 rfl ?_
    refine g_goto hX 9 dX5_say_5 (by decide) ?_
    refine g_istore hX (j := 5) [(5, .int (nI 0)), (0, .ref (ae 0)), (1, .int (nI kk)), (2, .int (nI q)), (3, .int (nI q2)), (4, .int (nI pp))] dX5_say_9 (by rw [hnL]; rfl) rfl ?_
    refine g_iload_n hX dX5_say_11 2 rfl ?_
    refine g_iload_n hX dX5_say_12 3 rfl ?_
    refine g_iload hX dX5_say_13 0 rfl ?_
    refine g_iload hX dX5_say_15 5 rfl ?_
    have hc17 : CUT ((lfo E ae ab ar an af ah ak ax ag z ++ (fw E an C ++ (pw8 E ah V)))) (([] : va_W)) ((lfo E ae ab ar an af ah ak ax ag z ++ (fw E an C ++ (pw8 E ah V)))) [] [0, 1, 2, 3, 4, 5, 6, 7, 8, 9, 10, 11, 12, 13, 14, 15, 16, 17, 18, 19, 20, 21, 22, 23, 24, 25, 26, 27, 28, 29, 30, 31, 32, 33, 34, 35, 36, 37, 38, 39, 40, 41, 42, 43, 44, 45, 46, 47, 48, 49, 50, 51, 52, 53, 54, 55, 56, 57, 58, 59, 60, 61, 62, 63, 64, 65] := ⟨rfl, rfl, rfl, rfl, rfl⟩
    refine g_TI hX hc17 [.int (nI kk), .int (nI q), .int (nI 0), .int (nI pp)] [] (c_X5_isSaying l E (nI kk) (nI q) (nI 0) (nI pp)) gX5_say_X5_isSaying calX5_isSaying rfl rfl rfl rfl dX5_say_17 rfl ⟨Nat.zero_le _, Nat.zero_le _⟩ (fun _ => (lfo E ae ab ar an af ah ak ax ag z ++ (fw E an C ++ (pw8 E ah V)))) [0, 1, 2, 3, 4, 5, 6, 7, 8, 9, 10, 11, 12, 13, 14, 15, 16, 17, 18, 19, 20, 21, 22, 23, 24, 25, 26, 27, 28, 29, 30, 31, 32, 33, 34, 35, 36, 37, 38, 39, 40, 41, 42, 43, 44, 45, 46, 47, 48, 49, 50, 51, 52, 53, 54, 55, 56, 57, 58, 59, 60, 61, 62, 63, 64, 65] rfl (fun _ => rfl) (fun _ hu17 => ?_)
    refine g_if_ne hX 25 dX5_say_20 (by decide) (fun c20 => ?_) (fun c20 => ?_)
    · replace c20 := mt bI_0.mpr c20
      replace c20 := bNf c20
      refine g_aload_n hX dX5_say_25 1 rfl ?_
      refine g_get hX (v := .ref (an 0)) 0 inRX5 rfl rfl 3 rfl fl24 rfl rfl dX5_say_26 ?_
      refine g_get hX (v := .int (nI (cN C))) 1 inRX0 rfl rfl 1 rfl fl80 rfl rfl dX5_say_29 ?_
      refine g_bipush hX (nI 9) dX5_say_32 rfl ?_
      refine g_icmp_lt hX 40 dX5_say_34 (by decide) (fun c34 => ?_) (fun c34 => ?_)
      · replace c34 := (nI_ltI (by omega) (by omega)).mp c34
        refine g_aload_n hX dX5_say_40 1 rfl ?_
        refine g_get hX (v := .ref (ah 0)) 0 inRX5 rfl rfl 5 rfl fl39 rfl rfl dX5_say_41 ?_
        refine g_aload_n hX dX5_say_44 1 rfl ?_
        refine g_get hX (v := .ref (an 0)) 0 inRX5 rfl rfl 3 rfl fl24 rfl rfl dX5_say_45 ?_
        have hc48 : CUT ((lfo E ae ab ar an af ah ak ax ag z ++ (fw E an C ++ (pw8 E ah V)))) ((pw8 E ah V) ++ (fw E an C)) (lfo E ae ab ar an af ah ak ax ag z) [8, 9, 10, 11, 12, 13, 14, 15, 16, 17, 18, 19, 20, 21, 22, 23, 24, 25, 26, 27, 28, 29, 30, 31, 32, 33, 34, 35, 36, 37, 38, 39, 40, 41, 42, 43, 44, 45, 46, 47, 48, 49, 50, 51, 52, 53, 54, 55, 56, 57, 58, 59, 60, 61, 62, 63, 64, 65, 1, 2, 3, 4, 5, 6, 7] [0] := ⟨rfl, rfl, rfl, rfl, rfl⟩
        refine g_VV hX hc48 [.ref (an 0)] [] (c_X2_add8 l E ah V an C (by first | assumption | omega)) gX5_say_X2_add calX2_add rfl rfl rfl rfl 8 rfl rfl rfl rfl dX5_say_48 rfl ⟨Nat.zero_le _, Nat.zero_le _⟩ (fun _ => (lfo E ae ab ar an af ah ak ax ag z ++ (fw E an C ++ (pw8 E ah (padd8 V C))))) [0, 59, 60, 61, 62, 63, 64, 65, 1, 2, 3, 4, 5, 6, 7, 8, 9, 10, 11, 12, 13, 14, 15, 16, 17, 18, 19, 20, 21, 22, 23, 24, 25, 26, 27, 28, 29, 30, 31, 32, 33, 34, 35, 36, 37, 38, 39, 40, 41, 42, 43, 44, 45, 46, 47, 48, 49, 50, 51, 52, 53, 54, 55, 56, 57, 58] rfl (fun _ => rfl) (fun _ hu48 => ?_)
        refine g_aload_n hX dX5_say_51 1 rfl ?_
        refine g_get hX (v := .ref (an 0)) 0 inRX5 rfl rfl 3 rfl fl24 rfl rfl dX5_say_52 ?_
        refine g_iload_n hX dX5_say_55 2 rfl ?_
        refine g_iload_n hX dX5_say_56 3 rfl ?_
        refine g_iload hX dX5_say_57 0 rfl ?_
        refine g_iload hX dX5_say_59 5 rfl ?_
        have hc61 : CUT ((lfo E ae ab ar an af ah ak ax ag z ++ (fw E an C ++ (pw8 E ah (padd8 V C))))) (fw E an C) ((lfo E ae ab ar an af ah ak ax ag z) ++ (pw8 E ah (padd8 V C))) [1, 2, 3, 4, 5, 6, 7] [0, 8, 9, 10, 11, 12, 13, 14, 15, 16, 17, 18, 19, 20, 21, 22, 23, 24, 25, 26, 27, 28, 29, 30, 31, 32, 33, 34, 35, 36, 37, 38, 39, 40, 41, 42, 43, 44, 45, 46, 47, 48, 49, 50, 51, 52, 53, 54, 55, 56, 57, 58, 59, 60, 61, 62, 63, 64, 65] := ⟨rfl, rfl, rfl, rfl, rfl⟩
        refine g_VI hX hc61 [.int (nI kk), .int (nI q), .int (nI 0), .int (nI pp)] [] (c_X0_addSaying l E an C kk q 0 pp hC.1 (by omega) hk hq (by omega)) gX5_say_X0_addSaying calX0_addSaying rfl rfl rfl rfl 1 rfl rfl rfl rfl dX5_say_61 rfl ⟨Nat.zero_le _, Nat.zero_le _⟩ (fun _ => (lfo E ae ab ar an af ah ak ax ag z ++ (fw E an (addC C kk q 0 pp) ++ (pw8 E ah (padd8 V C))))) [0, 59, 60, 61, 62, 63, 64, 65, 1, 2, 3, 4, 5, 6, 7, 8, 9, 10, 11, 12, 13, 14, 15, 16, 17, 18, 19, 20, 21, 22, 23, 24, 25, 26, 27, 28, 29, 30, 31, 32, 33, 34, 35, 36, 37, 38, 39, 40, 41, 42, 43, 44, 45, 46, 47, 48, 49, 50, 51, 52, 53, 54, 55, 56, 57, 58] rfl (fun _ => rfl) (fun _ hu61 => ?_)
        exact g_eq (by first | rw [if_pos c1] | rw [if_neg c1]) rfl rfl (hret () _ _ trivial dX5_say_64)
      · replace c34 := mt (nI_ltI (by omega) (by omega)).mpr c34
        omega
    · replace c20 := bI_0.mp c20
      rw [sy_yes (by omega) (by omega) (by omega) (by omega)] at c20; cases c20
set_option maxHeartbeats 4000000 in
set_option maxRecDepth 100000 in
theorem c_X5_withdraw_n (l : Launch) (E : EV) (ae : Nat → Nat) (ab : Nat → Nat) (ar : Nat → Nat) (an : Nat → Nat) (af : Nat → Nat) (ah : Nat → Nat) (ak : Nat → Nat) (ax : Nat → Nat) (ag : Nat → Nat) (z : Nat) (C : FC) (x0 : Int32) (hC : FO C) (h1 : 1 ≤ cN C) (hx : win x0 (nI 0) (nI (cN C - 1)) = false) : KI l yX5_withdraw wsX5_withdraw (rmN 6) E (σ := Unit) [.ref (ae 0), .int x0] ((lfo E ae ab ar an af ah ak ax ag z) ++ (fw E an C)) (fun _ => True) (fun _ => (-1)) (fun _ => (lfo E ae ab ar an af ah ak ax ag z) ++ (fw E an C)) 0 0 := by
  refine KI.of (cc := cX5_withdraw) (maxL := 2) (ty := .int) (hnar := fun _ _ => rfl) rfl rfl rfl (fun x hX hin hret hnL => ?_)
  replace hX : CX x l cX5_withdraw RX5 wsX5_withdraw E (rmN 6) := hX
  show GG x 0 0 ((lfo E ae ab ar an af ah ak ax ag z) ++ (fw E an C)) 0 [(0, .ref (ae 0)), (1, .int x0)] []
  have inRX5 : ∀ w ∈ wsX50, w ∈ wsX5_withdraw := by decide +kernel
  have fl24 : Cond.fieldLink RX5 24 "LieForce" "now" "LLieForce$Force;" ∈ wsX5_withdraw := by decide +kernel
  refine g_aload_n hX dX5_withdraw_0 0 rfl ?_
  refine g_get hX (v := .ref (an 0)) 0 inRX5 rfl rfl 3 rfl fl24 rfl rfl dX5_withdraw_1 ?_
  refine g_iload_n hX dX5_withdraw_4 1 rfl ?_
  have hc5 : CUT ((lfo E ae ab ar an af ah ak ax ag z) ++ (fw E an C)) (fw E an C) (lfo E ae ab ar an af ah ak ax ag z) [1, 2, 3, 4, 5, 6, 7] [0] := ⟨rfl, rfl, rfl, rfl, rfl⟩
  refine g_VI hX hc5 [.int x0] [] (c_X0_isThere l E an C x0) gX5_withdraw_X0_isThere calX0_isThere rfl rfl rfl rfl 1 rfl rfl rfl rfl dX5_withdraw_5 rfl ⟨Nat.zero_le _, Nat.zero_le _⟩ (fun _ => (lfo E ae ab ar an af ah ak ax ag z) ++ (fw E an C)) [0, 1, 2, 3, 4, 5, 6, 7] rfl (fun _ => rfl) (fun _ hu5 => ?_)
  refine g_if_ne hX 13 dX5_withdraw_8 (by decide) (fun c8 => ?_) (fun c8 => ?_)
  · replace c8 := mt bI_0.mpr c8
    replace c8 := bNf c8
    rw [thB_win h1 hC.1, hx] at c8; cases c8
  · replace c8 := bI_0.mp c8
    refine g_iconst hX ((-1)) dX5_withdraw_11 rfl ?_
    exact g_eq rfl rfl rfl (hret () _ _ trivial dX5_withdraw_12)
set_option maxHeartbeats 4000000 in
set_option maxRecDepth 100000 in
theorem c_X5_withdraw_no (l : Launch) (E : EV) (ae : Nat → Nat) (ab : Nat → Nat) (ar : Nat → Nat) (an : Nat → Nat) (af : Nat → Nat) (ah : Nat → Nat) (ak : Nat → Nat) (ax : Nat → Nat) (ag : Nat → Nat) (z : Nat) (C : FC) (m : Nat) (s : Nat) (hD : DI C m) (hm : m < 2 ^ 29) (hs : s < cN C) (hc : cwB C s = false) : KI l yX5_withdraw wsX5_withdraw (rmN 6) E (σ := Unit) [.ref (ae 0), .int (nI s)] ((lfo E ae ab ar an af ah ak ax ag z) ++ (fw E an C)) (fun _ => True) (fun _ => (-2)) (fun _ => (lfo E ae ab ar an af ah ak ax ag z) ++ (fw E an C)) 0 0 := by
  refine KI.of (cc := cX5_withdraw) (maxL := 2) (ty := .int) (hnar := fun _ _ => rfl) rfl rfl rfl (fun x hX hin hret hnL => ?_)
  replace hX : CX x l cX5_withdraw RX5 wsX5_withdraw E (rmN 6) := hX
  show GG x 0 0 ((lfo E ae ab ar an af ah ak ax ag z) ++ (fw E an C)) 0 [(0, .ref (ae 0)), (1, .int (nI s))] []
  have inRX5 : ∀ w ∈ wsX50, w ∈ wsX5_withdraw := by decide +kernel
  have fl24 : Cond.fieldLink RX5 24 "LieForce" "now" "LLieForce$Force;" ∈ wsX5_withdraw := by decide +kernel
  obtain ⟨hC, hVY, hZ, hYm⟩ := id hD
  obtain ⟨⟨h9, h64, h512, hT, hI⟩, hK⟩ := id hC
  have hV := DI_VB hD (by omega)
  refine g_aload_n hX dX5_withdraw_0 0 rfl ?_
  refine g_get hX (v := .ref (an 0)) 0 inRX5 rfl rfl 3 rfl fl24 rfl rfl dX5_withdraw_1 ?_
  refine g_iload_n hX dX5_withdraw_4 1 rfl ?_
  have hc5 : CUT ((lfo E ae ab ar an af ah ak ax ag z) ++ (fw E an C)) (fw E an C) (lfo E ae ab ar an af ah ak ax ag z) [1, 2, 3, 4, 5, 6, 7] [0] := ⟨rfl, rfl, rfl, rfl, rfl⟩
  refine g_VI hX hc5 [.int (nI s)] [] (c_X0_isThere_t l E an C s hC.1 (by omega)) gX5_withdraw_X0_isThere calX0_isThere rfl rfl rfl rfl 1 rfl rfl rfl rfl dX5_withdraw_5 rfl ⟨Nat.zero_le _, Nat.zero_le _⟩ (fun _ => (lfo E ae ab ar an af ah ak ax ag z) ++ (fw E an C)) [0, 1, 2, 3, 4, 5, 6, 7] rfl (fun _ => rfl) (fun _ hu5 => ?_)
  refine g_if_ne hX 13 dX5_withdraw_8 (by decide) (fun c8 => ?_) (fun c8 => ?_)
  · replace c8 := mt bI_0.mpr c8
    replace c8 := bNf c8
    refine g_aload_n hX dX5_withdraw_13 0 rfl ?_
    refine g_get hX (v := .ref (an 0)) 0 inRX5 rfl rfl 3 rfl fl24 rfl rfl dX5_withdraw_14 ?_
    refine g_iload_n hX dX5_withdraw_17 1 rfl ?_
    have hc18 : CUT ((lfo E ae ab ar an af ah ak ax ag z) ++ (fw E an C)) (fw E an C) (lfo E ae ab ar an af ah ak ax ag z) [1, 2, 3, 4, 5, 6, 7] [0] := ⟨rfl, rfl, rfl, rfl, rfl⟩
    refine g_VI hX hc18 [.int (nI s)] [] (c_X0_canBeWithdrawn l E an C s hC.1 (by first | assumption | omega) (by omega)) gX5_withdraw_X0_canBeWithdrawn calX0_canBeWithdrawn rfl rfl rfl rfl 1 rfl rfl rfl rfl dX5_withdraw_18 rfl ⟨Nat.zero_le _, Nat.zero_le _⟩ (fun _ => (lfo E ae ab ar an af ah ak ax ag z) ++ (fw E an C)) [0, 1, 2, 3, 4, 5, 6, 7] rfl (fun _ => rfl) (fun _ hu18 => ?_)
    refine g_if_ne hX 27 dX5_withdraw_21 (by decide) (fun c21 => ?_) (fun c21 => ?_)
    · replace c21 := mt bI_0.mpr c21
      replace c21 := bNf c21
      rw [hc] at c21; cases c21
    · replace c21 := bI_0.mp c21
      refine g_bipush hX ((-2)) dX5_withdraw_24 rfl ?_
      exact g_eq rfl rfl rfl (hret () _ _ trivial dX5_withdraw_26)
  · replace c8 := bI_0.mp c8
    exact absurd c8 (by simp)
set_option maxHeartbeats 4000000 in
set_option maxRecDepth 100000 in
theorem c_X5_withdraw_y (l : Launch) (E : EV) (ae : Nat → Nat) (ab : Nat → Nat) (ar : Nat → Nat) (an : Nat → Nat) (af : Nat → Nat) (ah : Nat → Nat) (ak : Nat → Nat) (ax : Nat → Nat) (ag : Nat → Nat) (z : Nat) (C : FC) (V : PV) (m : Nat) (s : Nat) (hD : DI C m) (hm : m < 2 ^ 29) (hV8 : pz V ≤ 8) (hs : s < cN C) (hc : cwB C s = true) : KI l yX5_withdraw wsX5_withdraw (rmN 6) E (σ := Unit) [.ref (ae 0), .int (nI s)] ((lfo E ae ab ar an af ah ak ax ag z ++ (fw E an C ++ (pw8 E ah V)))) (fun _ => True) (fun _ => (nI (pop (lieM (toC C s) (cF (toC C s)))))) (fun _ => (lfo E ae ab ar an af ah ak ax ag z ++ (fw E an (toC C s) ++ (pw8 E ah (padd8 V C))))) 0 0 := by
  refine KI.of (cc := cX5_withdraw) (maxL := 2) (ty := .int) (hnar := fun _ _ => rfl) rfl rfl rfl (fun x hX hin hret hnL => ?_)
  replace hX : CX x l cX5_withdraw RX5 wsX5_withdraw E (rmN 6) := hX
  show GG x 0 0 ((lfo E ae ab ar an af ah ak ax ag z ++ (fw E an C ++ (pw8 E ah V)))) 0 [(0, .ref (ae 0)), (1, .int (nI s))] []
  have inRX5 : ∀ w ∈ wsX50, w ∈ wsX5_withdraw := by decide +kernel
  have fl24 : Cond.fieldLink RX5 24 "LieForce" "now" "LLieForce$Force;" ∈ wsX5_withdraw := by decide +kernel
  have fl39 : Cond.fieldLink RX5 39 "LieForce" "undoable" "LLieForce$Pile;" ∈ wsX5_withdraw := by decide +kernel
  obtain ⟨hC, hVY, hZ, hYm⟩ := id hD
  obtain ⟨⟨h9, h64, h512, hT, hI⟩, hK⟩ := id hC
  have hV := DI_VB hD (by omega)
  have hDt := DI_to hD hs
  refine g_aload_n hX dX5_withdraw_0 0 rfl ?_
  refine g_get hX (v := .ref (an 0)) 0 inRX5 rfl rfl 3 rfl fl24 rfl rfl dX5_withdraw_1 ?_
  refine g_iload_n hX dX5_withdraw_4 1 rfl ?_
  have hc5 : CUT ((lfo E ae ab ar an af ah ak ax ag z ++ (fw E an C ++ (pw8 E ah V)))) (fw E an C) ((lfo E ae ab ar an af ah ak ax ag z) ++ (pw8 E ah V)) [1, 2, 3, 4, 5, 6, 7] [0, 8, 9, 10, 11, 12, 13, 14, 15, 16, 17, 18, 19, 20, 21, 22, 23, 24, 25, 26, 27, 28, 29, 30, 31, 32, 33, 34, 35, 36, 37, 38, 39, 40, 41, 42, 43, 44, 45, 46, 47, 48, 49, 50, 51, 52, 53, 54, 55, 56, 57, 58, 59, 60, 61, 62, 63, 64, 65] := ⟨rfl, rfl, rfl, rfl, rfl⟩
  refine g_VI hX hc5 [.int (nI s)] [] (c_X0_isThere_t l E an C s hC.1 (by omega)) gX5_withdraw_X0_isThere calX0_isThere rfl rfl rfl rfl 1 rfl rfl rfl rfl dX5_withdraw_5 rfl ⟨Nat.zero_le _, Nat.zero_le _⟩ (fun _ => (lfo E ae ab ar an af ah ak ax ag z ++ (fw E an C ++ (pw8 E ah V)))) [0, 59, 60, 61, 62, 63, 64, 65, 1, 2, 3, 4, 5, 6, 7, 8, 9, 10, 11, 12, 13, 14, 15, 16, 17, 18, 19, 20, 21, 22, 23, 24, 25, 26, 27, 28, 29, 30, 31, 32, 33, 34, 35, 36, 37, 38, 39, 40, 41, 42, 43, 44, 45, 46, 47, 48, 49, 50, 51, 52, 53, 54, 55, 56, 57, 58] rfl (fun _ => rfl) (fun _ hu5 => ?_)
  refine g_if_ne hX 13 dX5_withdraw_8 (by decide) (fun c8 => ?_) (fun c8 => ?_)
  · replace c8 := mt bI_0.mpr c8
    replace c8 := bNf c8
    refine g_aload_n hX dX5_withdraw_13 0 rfl ?_
    refine g_get hX (v := .ref (an 0)) 0 inRX5 rfl rfl 3 rfl fl24 rfl rfl dX5_withdraw_14 ?_
    refine g_iload_n hX dX5_withdraw_17 1 rfl ?_
    have hc18 : CUT ((lfo E ae ab ar an af ah ak ax ag z ++ (fw E an C ++ (pw8 E ah V)))) (fw E an C) ((lfo E ae ab ar an af ah ak ax ag z) ++ (pw8 E ah V)) [1, 2, 3, 4, 5, 6, 7] [0, 8, 9, 10, 11, 12, 13, 14, 15, 16, 17, 18, 19, 20, 21, 22, 23, 24, 25, 26, 27, 28, 29, 30, 31, 32, 33, 34, 35, 36, 37, 38, 39, 40, 41, 42, 43, 44, 45, 46, 47, 48, 49, 50, 51, 52, 53, 54, 55, 56, 57, 58, 59, 60, 61, 62, 63, 64, 65] := ⟨rfl, rfl, rfl, rfl, rfl⟩
    refine g_VI hX hc18 [.int (nI s)] [] (c_X0_canBeWithdrawn l E an C s hC.1 (by first | assumption | omega) (by omega)) gX5_withdraw_X0_canBeWithdrawn calX0_canBeWithdrawn rfl rfl rfl rfl 1 rfl rfl rfl rfl dX5_withdraw_18 rfl ⟨Nat.zero_le _, Nat.zero_le _⟩ (fun _ => (lfo E ae ab ar an af ah ak ax ag z ++ (fw E an C ++ (pw8 E ah V)))) [0, 59, 60, 61, 62, 63, 64, 65, 1, 2, 3, 4, 5, 6, 7, 8, 9, 10, 11, 12, 13, 14, 15, 16, 17, 18, 19, 20, 21, 22, 23, 24, 25, 26, 27, 28, 29, 30, 31, 32, 33, 34, 35, 36, 37, 38, 39, 40, 41, 42, 43, 44, 45, 46, 47, 48, 49, 50, 51, 52, 53, 54, 55, 56, 57, 58] rfl (fun _ => rfl) (fun _ hu18 => ?_)
    refine g_if_ne hX 27 dX5_withdraw_21 (by decide) (fun c21 => ?_) (fun c21 => ?_)
    · replace c21 := mt bI_0.mpr c21
      replace c21 := bNf c21
      refine g_aload_n hX dX5_withdraw_27 0 rfl ?_
      refine g_get hX (v := .ref (ah 0)) 0 inRX5 rfl rfl 5 rfl fl39 rfl rfl dX5_withdraw_28 ?_
      refine g_aload_n hX dX5_withdraw_31 0 rfl ?_
      refine g_get hX (v := .ref (an 0)) 0 inRX5 rfl rfl 3 rfl fl24 rfl rfl dX5_withdraw_32 ?_
      have hc35 : CUT ((lfo E ae ab ar an af ah ak ax ag z ++ (fw E an C ++ (pw8 E ah V)))) ((pw8 E ah V) ++ (fw E an C)) (lfo E ae ab ar an af ah ak ax ag z) [8, 9, 10, 11, 12, 13, 14, 15, 16, 17, 18, 19, 20, 21, 22, 23, 24, 25, 26, 27, 28, 29, 30, 31, 32, 33, 34, 35, 36, 37, 38, 39, 40, 41, 42, 43, 44, 45, 46, 47, 48, 49, 50, 51, 52, 53, 54, 55, 56, 57, 58, 59, 60, 61, 62, 63, 64, 65, 1, 2, 3, 4, 5, 6, 7] [0] := ⟨rfl, rfl, rfl, rfl, rfl⟩
      refine g_VV hX hc35 [.ref (an 0)] [] (c_X2_add8 l E ah V an C (by first | assumption | omega)) gX5_withdraw_X2_add calX2_add rfl rfl rfl rfl 8 rfl rfl rfl rfl dX5_withdraw_35 rfl ⟨Nat.zero_le _, Nat.zero_le _⟩ (fun _ => (lfo E ae ab ar an af ah ak ax ag z ++ (fw E an C ++ (pw8 E ah (padd8 V C))))) [0, 59, 60, 61, 62, 63, 64, 65, 1, 2, 3, 4, 5, 6, 7, 8, 9, 10, 11, 12, 13, 14, 15, 16, 17, 18, 19, 20, 21, 22, 23, 24, 25, 26, 27, 28, 29, 30, 31, 32, 33, 34, 35, 36, 37, 38, 39, 40, 41, 42, 43, 44, 45, 46, 47, 48, 49, 50, 51, 52, 53, 54, 55, 56, 57, 58] rfl (fun _ => rfl) (fun _ hu35 => ?_)
      refine g_aload_n hX dX5_withdraw_38 0 rfl ?_
      refine g_get hX (v := .ref (an 0)) 0 inRX5 rfl rfl 3 rfl fl24 rfl rfl dX5_withdraw_39 ?_
      refine g_iload_n hX dX5_withdraw_42 1 rfl ?_
      have hc43 : CUT ((lfo E ae ab ar an af ah ak ax ag z ++ (fw E an C ++ (pw8 E ah (padd8 V C))))) (fw E an C) ((lfo E ae ab ar an af ah ak ax ag z) ++ (pw8 E ah (padd8 V C))) [1, 2, 3, 4, 5, 6, 7] [0, 8, 9, 10, 11, 12, 13, 14, 15, 16, 17, 18, 19, 20, 21, 22, 23, 24, 25, 26, 27, 28, 29, 30, 31, 32, 33, 34, 35, 36, 37, 38, 39, 40, 41, 42, 43, 44, 45, 46, 47, 48, 49, 50, 51, 52, 53, 54, 55, 56, 57, 58, 59, 60, 61, 62, 63, 64, 65] := ⟨rfl, rfl, rfl, rfl, rfl⟩
      refine g_VV hX hc43 [.int (nI s)] [] (c_X0_takeOut l E an C s hC.1 (by omega)) gX5_withdraw_X0_takeOut calX0_takeOut rfl rfl rfl rfl 1 rfl rfl rfl rfl dX5_withdraw_43 rfl ⟨Nat.zero_le _, Nat.zero_le _⟩ (fun _ => (lfo E ae ab ar an af ah ak ax ag z ++ (fw E an (toC C s) ++ (pw8 E ah (padd8 V C))))) [0, 59, 60, 61, 62, 63, 64, 65, 1, 2, 3, 4, 5, 6, 7, 8, 9, 10, 11, 12, 13, 14, 15, 16, 17, 18, 19, 20, 21, 22, 23, 24, 25, 26, 27, 28, 29, 30, 31, 32, 33, 34, 35, 36, 37, 38, 39, 40, 41, 42, 43, 44, 45, 46, 47, 48, 49, 50, 51, 52, 53, 54, 55, 56, 57, 58] rfl (fun _ => rfl) (fun _ hu43 => ?_)
      refine g_aload_n hX dX5_withdraw_46 0 rfl ?_
      refine g_get hX (v := .ref (an 0)) 0 inRX5 rfl rfl 3 rfl fl24 rfl rfl dX5_withdraw_47 ?_
      have hc50 : CUT ((lfo E ae ab ar an af ah ak ax ag z ++ (fw E an (toC C s) ++ (pw8 E ah (padd8 V C))))) (fw E an (toC C s)) ((lfo E ae ab ar an af ah ak ax ag z) ++ (pw8 E ah (padd8 V C))) [1, 2, 3, 4, 5, 6, 7] [0, 8, 9, 10, 11, 12, 13, 14, 15, 16, 17, 18, 19, 20, 21, 22, 23, 24, 25, 26, 27, 28, 29, 30, 31, 32, 33, 34, 35, 36, 37, 38, 39, 40, 41, 42, 43, 44, 45, 46, 47, 48, 49, 50, 51, 52, 53, 54, 55, 56, 57, 58, 59, 60, 61, 62, 63, 64, 65] := ⟨rfl, rfl, rfl, rfl, rfl⟩
      refine g_VI hX hc50 [] [] (c_X0_policemen l E an (toC C s) hDt.1.1) gX5_withdraw_X0_policemen calX0_policemen rfl rfl rfl rfl 1 rfl rfl rfl rfl dX5_withdraw_50 rfl ⟨Nat.zero_le _, Nat.zero_le _⟩ (fun _ => (lfo E ae ab ar an af ah ak ax ag z ++ (fw E an (toC C s) ++ (pw8 E ah (padd8 V C))))) [0, 59, 60, 61, 62, 63, 64, 65, 1, 2, 3, 4, 5, 6, 7, 8, 9, 10, 11, 12, 13, 14, 15, 16, 17, 18, 19, 20, 21, 22, 23, 24, 25, 26, 27, 28, 29, 30, 31, 32, 33, 34, 35, 36, 37, 38, 39, 40, 41, 42, 43, 44, 45, 46, 47, 48, 49, 50, 51, 52, 53, 54, 55, 56, 57, 58] rfl (fun _ => rfl) (fun _ hu50 => ?_)
      exact g_eq rfl rfl rfl (hret () _ _ trivial dX5_withdraw_53)
    · replace c21 := bI_0.mp c21
      rw [hc] at c21; cases c21
  · replace c8 := bI_0.mp c8
    exact absurd c8 (by simp)
set_option maxHeartbeats 4000000 in
set_option maxRecDepth 100000 in
theorem c_X5_turn_n (l : Launch) (E : EV) (ae : Nat → Nat) (ab : Nat → Nat) (ar : Nat → Nat) (an : Nat → Nat) (af : Nat → Nat) (ah : Nat → Nat) (ak : Nat → Nat) (ax : Nat → Nat) (ag : Nat → Nat) (z : Nat) (x0 : Int32) (hx : win x0 (nI 0) (nI 5) = false) : KI l yX5_turn wsX5_turn (rmN 6) E (σ := Unit) [.ref (ae 0), .int x0] (lfo E ae ab ar an af ah ak ax ag z) (fun _ => True) (fun _ => (-1)) (fun _ => lfo E ae ab ar an af ah ak ax ag z) 0 0 := by
  refine KI.of (cc := cX5_turn) (maxL := 2) (ty := .int) (hnar := fun _ _ => rfl) rfl rfl rfl (fun x hX hin hret hnL => ?_)
  replace hX : CX x l cX5_turn RX5 wsX5_turn E (rmN 6) := hX
  show GG x 0 0 (lfo E ae ab ar an af ah ak ax ag z) 0 [(0, .ref (ae 0)), (1, .int x0)] []
  refine g_iload_n hX dX5_turn_0 1 rfl ?_
  have hc1 : CUT (lfo E ae ab ar an af ah ak ax ag z) (([] : va_W)) (lfo E ae ab ar an af ah ak ax ag z) [] [0] := ⟨rfl, rfl, rfl, rfl, rfl⟩
  refine g_TI hX hc1 [.int x0] [] (c_X5_isFact l E x0) gX5_turn_X5_isFact calX5_isFact rfl rfl rfl rfl dX5_turn_1 rfl ⟨Nat.zero_le _, Nat.zero_le _⟩ (fun _ => lfo E ae ab ar an af ah ak ax ag z) [0] rfl (fun _ => rfl) (fun _ hu1 => ?_)
  refine g_if_ne hX 9 dX5_turn_4 (by decide) (fun c4 => ?_) (fun c4 => ?_)
  · replace c4 := mt bI_0.mpr c4
    replace c4 := bNf c4
    rw [hx] at c4; cases c4
  · replace c4 := bI_0.mp c4
    refine g_iconst hX ((-1)) dX5_turn_7 rfl ?_
    exact g_eq rfl rfl rfl (hret () _ _ trivial dX5_turn_8)
set_option maxHeartbeats 4000000 in
set_option maxRecDepth 100000 in
theorem c_X5_turn_y (l : Launch) (E : EV) (ae : Nat → Nat) (ab : Nat → Nat) (ar : Nat → Nat) (an : Nat → Nat) (af : Nat → Nat) (ah : Nat → Nat) (ak : Nat → Nat) (ax : Nat → Nat) (ag : Nat → Nat) (z : Nat) (C : FC) (V : PV) (m : Nat) (k : Nat) (hD : DI C m) (hm : m < 2 ^ 29) (hV8 : pz V ≤ 8) (hk : k < 6) : KI l yX5_turn wsX5_turn (rmN 6) E (σ := Unit) [.ref (ae 0), .int (nI k)] ((lfo E ae ab ar an af ah ak ax ag z ++ (fw E an C ++ (pw8 E ah V)))) (fun _ => True) (fun _ => (nI (pop (lieM (tuC C k) (cF (tuC C k)))))) (fun _ => (lfo E ae ab ar an af ah ak ax ag z ++ (fw E an (tuC C k) ++ (pw8 E ah (padd8 V C))))) 0 0 := by
  refine KI.of (cc := cX5_turn) (maxL := 2) (ty := .int) (hnar := fun _ _ => rfl) rfl rfl rfl (fun x hX hin hret hnL => ?_)
  replace hX : CX x l cX5_turn RX5 wsX5_turn E (rmN 6) := hX
  show GG x 0 0 ((lfo E ae ab ar an af ah ak ax ag z ++ (fw E an C ++ (pw8 E ah V)))) 0 [(0, .ref (ae 0)), (1, .int (nI k))] []
  have inRX5 : ∀ w ∈ wsX50, w ∈ wsX5_turn := by decide +kernel
  have fl24 : Cond.fieldLink RX5 24 "LieForce" "now" "LLieForce$Force;" ∈ wsX5_turn := by decide +kernel
  have fl39 : Cond.fieldLink RX5 39 "LieForce" "undoable" "LLieForce$Pile;" ∈ wsX5_turn := by decide +kernel
  obtain ⟨hC, hVY, hZ, hYm⟩ := id hD
  obtain ⟨⟨h9, h64, h512, hT, hI⟩, hK⟩ := id hC
  have hV := DI_VB hD (by omega)
  have htu : turnF C k = tuC C k := by rw [turnF, if_pos hk]
  refine g_iload_n hX dX5_turn_0 1 rfl ?_
  have hc1 : CUT ((lfo E ae ab ar an af ah ak ax ag z ++ (fw E an C ++ (pw8 E ah V)))) (([] : va_W)) ((lfo E ae ab ar an af ah ak ax ag z ++ (fw E an C ++ (pw8 E ah V)))) [] [0, 1, 2, 3, 4, 5, 6, 7, 8, 9, 10, 11, 12, 13, 14, 15, 16, 17, 18, 19, 20, 21, 22, 23, 24, 25, 26, 27, 28, 29, 30, 31, 32, 33, 34, 35, 36, 37, 38, 39, 40, 41, 42, 43, 44, 45, 46, 47, 48, 49, 50, 51, 52, 53, 54, 55, 56, 57, 58, 59, 60, 61, 62, 63, 64, 65] := ⟨rfl, rfl, rfl, rfl, rfl⟩
  refine g_TI hX hc1 [.int (nI k)] [] (c_X5_isFact_n l E k (by omega)) gX5_turn_X5_isFact calX5_isFact rfl rfl rfl rfl dX5_turn_1 rfl ⟨Nat.zero_le _, Nat.zero_le _⟩ (fun _ => (lfo E ae ab ar an af ah ak ax ag z ++ (fw E an C ++ (pw8 E ah V)))) [0, 1, 2, 3, 4, 5, 6, 7, 8, 9, 10, 11, 12, 13, 14, 15, 16, 17, 18, 19, 20, 21, 22, 23, 24, 25, 26, 27, 28, 29, 30, 31, 32, 33, 34, 35, 36, 37, 38, 39, 40, 41, 42, 43, 44, 45, 46, 47, 48, 49, 50, 51, 52, 53, 54, 55, 56, 57, 58, 59, 60, 61, 62, 63, 64, 65] rfl (fun _ => rfl) (fun _ hu1 => ?_)
  refine g_if_ne hX 9 dX5_turn_4 (by decide) (fun c4 => ?_) (fun c4 => ?_)
  · replace c4 := mt bI_0.mpr c4
    replace c4 := bNf c4
    refine g_aload_n hX dX5_turn_9 0 rfl ?_
    refine g_get hX (v := .ref (ah 0)) 0 inRX5 rfl rfl 5 rfl fl39 rfl rfl dX5_turn_10 ?_
    refine g_aload_n hX dX5_turn_13 0 rfl ?_
    refine g_get hX (v := .ref (an 0)) 0 inRX5 rfl rfl 3 rfl fl24 rfl rfl dX5_turn_14 ?_
    have hc17 : CUT ((lfo E ae ab ar an af ah ak ax ag z ++ (fw E an C ++ (pw8 E ah V)))) ((pw8 E ah V) ++ (fw E an C)) (lfo E ae ab ar an af ah ak ax ag z) [8, 9, 10, 11, 12, 13, 14, 15, 16, 17, 18, 19, 20, 21, 22, 23, 24, 25, 26, 27, 28, 29, 30, 31, 32, 33, 34, 35, 36, 37, 38, 39, 40, 41, 42, 43, 44, 45, 46, 47, 48, 49, 50, 51, 52, 53, 54, 55, 56, 57, 58, 59, 60, 61, 62, 63, 64, 65, 1, 2, 3, 4, 5, 6, 7] [0] := ⟨rfl, rfl, rfl, rfl, rfl⟩
    refine g_VV hX hc17 [.ref (an 0)] [] (c_X2_add8 l E ah V an C (by first | assumption | omega)) gX5_turn_X2_add calX2_add rfl rfl rfl rfl 8 rfl rfl rfl rfl dX5_turn_17 rfl ⟨Nat.zero_le _, Nat.zero_le _⟩ (fun _ => (lfo E ae ab ar an af ah ak ax ag z ++ (fw E an C ++ (pw8 E ah (padd8 V C))))) [0, 59, 60, 61, 62, 63, 64, 65, 1, 2, 3, 4, 5, 6, 7, 8, 9, 10, 11, 12, 13, 14, 15, 16, 17, 18, 19, 20, 21, 22, 23, 24, 25, 26, 27, 28, 29, 30, 31, 32, 33, 34, 35, 36, 37, 38, 39, 40, 41, 42, 43, 44, 45, 46, 47, 48, 49, 50, 51, 52, 53, 54, 55, 56, 57, 58] rfl (fun _ => rfl) (fun _ hu17 => ?_)
    refine g_aload_n hX dX5_turn_20 0 rfl ?_
    refine g_get hX (v := .ref (an 0)) 0 inRX5 rfl rfl 3 rfl fl24 rfl rfl dX5_turn_21 ?_
    refine g_iload_n hX dX5_turn_24 1 rfl ?_
    have hc25 : CUT ((lfo E ae ab ar an af ah ak ax ag z ++ (fw E an C ++ (pw8 E ah (padd8 V C))))) (fw E an C) ((lfo E ae ab ar an af ah ak ax ag z) ++ (pw8 E ah (padd8 V C))) [1, 2, 3, 4, 5, 6, 7] [0, 8, 9, 10, 11, 12, 13, 14, 15, 16, 17, 18, 19, 20, 21, 22, 23, 24, 25, 26, 27, 28, 29, 30, 31, 32, 33, 34, 35, 36, 37, 38, 39, 40, 41, 42, 43, 44, 45, 46, 47, 48, 49, 50, 51, 52, 53, 54, 55, 56, 57, 58, 59, 60, 61, 62, 63, 64, 65] := ⟨rfl, rfl, rfl, rfl, rfl⟩
    refine g_VV hX hc25 [.int (nI k)] [] (c_X0_turnFact l E an C k hC.1 (by omega)) gX5_turn_X0_turnFact calX0_turnFact rfl rfl rfl rfl 1 rfl rfl rfl rfl dX5_turn_25 rfl ⟨Nat.zero_le _, Nat.zero_le _⟩ (fun _ => (lfo E ae ab ar an af ah ak ax ag z ++ (fw E an (turnF C k) ++ (pw8 E ah (padd8 V C))))) [0, 59, 60, 61, 62, 63, 64, 65, 1, 2, 3, 4, 5, 6, 7, 8, 9, 10, 11, 12, 13, 14, 15, 16, 17, 18, 19, 20, 21, 22, 23, 24, 25, 26, 27, 28, 29, 30, 31, 32, 33, 34, 35, 36, 37, 38, 39, 40, 41, 42, 43, 44, 45, 46, 47, 48, 49, 50, 51, 52, 53, 54, 55, 56, 57, 58] rfl (fun _ => rfl) (fun _ hu25 => ?_)
    refine g_aload_n hX dX5_turn_28 0 rfl ?_
    refine g_get hX (v := .ref (an 0)) 0 inRX5 rfl rfl 3 rfl fl24 rfl rfl dX5_turn_29 ?_
    have hc32 : CUT ((lfo E ae ab ar an af ah ak ax ag z ++ (fw E an (turnF C k) ++ (pw8 E ah (padd8 V C))))) (fw E an (turnF C k)) ((lfo E ae ab ar an af ah ak ax ag z) ++ (pw8 E ah (padd8 V C))) [1, 2, 3, 4, 5, 6, 7] [0, 8, 9, 10, 11, 12, 13, 14, 15, 16, 17, 18, 19, 20, 21, 22, 23, 24, 25, 26, 27, 28, 29, 30, 31, 32, 33, 34, 35, 36, 37, 38, 39, 40, 41, 42, 43, 44, 45, 46, 47, 48, 49, 50, 51, 52, 53, 54, 55, 56, 57, 58, 59, 60, 61, 62, 63, 64, 65] := ⟨rfl, rfl, rfl, rfl, rfl⟩
    refine g_VI hX hc32 [] [] (c_X0_policemen l E an (turnF C k) (FO_turnF hC.1)) gX5_turn_X0_policemen calX0_policemen rfl rfl rfl rfl 1 rfl rfl rfl rfl dX5_turn_32 rfl ⟨Nat.zero_le _, Nat.zero_le _⟩ (fun _ => (lfo E ae ab ar an af ah ak ax ag z ++ (fw E an (turnF C k) ++ (pw8 E ah (padd8 V C))))) [0, 59, 60, 61, 62, 63, 64, 65, 1, 2, 3, 4, 5, 6, 7, 8, 9, 10, 11, 12, 13, 14, 15, 16, 17, 18, 19, 20, 21, 22, 23, 24, 25, 26, 27, 28, 29, 30, 31, 32, 33, 34, 35, 36, 37, 38, 39, 40, 41, 42, 43, 44, 45, 46, 47, 48, 49, 50, 51, 52, 53, 54, 55, 56, 57, 58] rfl (fun _ => rfl) (fun _ hu32 => ?_)
    exact g_eq (by rw [htu]) rfl (congrArg (fun z => [Value.int z]) (congrArg nI (by rw [htu]))) (hret () _ _ trivial dX5_turn_35)
  · replace c4 := bI_0.mp c4
    rw [decide_eq_true hk] at c4; cases c4
set_option maxHeartbeats 4000000 in
set_option maxRecDepth 100000 in
theorem c_X5_behind_n (l : Launch) (E : EV) (ae : Nat → Nat) (ab : Nat → Nat) (ar : Nat → Nat) (an : Nat → Nat) (af : Nat → Nat) (ah : Nat → Nat) (ak : Nat → Nat) (ax : Nat → Nat) (ag : Nat → Nat) (z : Nat) (x0 : Int32) (hx : win x0 (nI 0) (nI 60) = false) : KI l yX5_behind wsX5_behind (rmN 6) E (σ := Unit) [.ref (ae 0), .int x0] (lfo E ae ab ar an af ah ak ax ag z) (fun _ => True) (fun _ => (-1)) (fun _ => lfo E ae ab ar an af ah ak ax ag z) 0 0 := by
  refine KI.of (cc := cX5_behind) (maxL := 3) (ty := .int) (hnar := fun _ _ => rfl) rfl rfl rfl (fun x hX hin hret hnL => ?_)
  replace hX : CX x l cX5_behind RX5 wsX5_behind E (rmN 6) := hX
  show GG x 0 0 (lfo E ae ab ar an af ah ak ax ag z) 0 [(0, .ref (ae 0)), (1, .int x0)] []
  refine g_iload_n hX dX5_behind_0 1 rfl ?_
  refine g_iconst hX (nI 0) dX5_behind_1 rfl ?_
  refine g_bipush hX (nI 60) dX5_behind_2 rfl ?_
  have hc4 : CUT (lfo E ae ab ar an af ah ak ax ag z) (([] : va_W)) (lfo E ae ab ar an af ah ak ax ag z) [] [0] := ⟨rfl, rfl, rfl, rfl, rfl⟩
  refine g_TI hX hc4 [.int x0, .int (nI 0), .int (nI 60)] [] (c_X5_isWithin l E x0 (nI 0) (nI 60)) gX5_behind_X5_isWithin calX5_isWithin rfl rfl rfl rfl dX5_behind_4 rfl ⟨Nat.zero_le _, Nat.zero_le _⟩ (fun _ => lfo E ae ab ar an af ah ak ax ag z) [0] rfl (fun _ => rfl) (fun _ hu4 => ?_)
  refine g_if_ne hX 12 dX5_behind_7 (by decide) (fun c7 => ?_) (fun c7 => ?_)
  · replace c7 := mt bI_0.mpr c7
    replace c7 := bNf c7
    rw [hx] at c7; cases c7
  · replace c7 := bI_0.mp c7
    refine g_iconst hX ((-1)) dX5_behind_10 rfl ?_
    exact g_eq rfl rfl rfl (hret () _ _ trivial dX5_behind_11)
set_option maxHeartbeats 4000000 in
set_option maxRecDepth 100000 in
theorem c_X5_behind_y (l : Launch) (E : EV) (ae : Nat → Nat) (ab : Nat → Nat) (ar : Nat → Nat) (an : Nat → Nat) (af : Nat → Nat) (ah : Nat → Nat) (ak : Nat → Nat) (ax : Nat → Nat) (ag : Nat → Nat) (z : Nat) (C : FC) (D : FC) (m : Nat) (n : Nat) (hD : DI C m) (hm : m < 2 ^ 29) (hn2 : n ≤ 60) : KI l yX5_behind wsX5_behind (rmN 6) E (σ := Unit) [.ref (ae 0), .int (nI n)] ((lfo E ae ab ar an af ah ak ax ag z ++ (fw E an C ++ (fw E af D)))) (fun _ => True) (fun _ => (nI (lieM (dayC C n) (cF (dayC C n))))) (fun _ => (lfo E ae ab ar an af ah ak ax ag z ++ (fw E an C ++ (fw E af (dayC C n))))) 0 0 := by
  refine KI.of (cc := cX5_behind) (maxL := 3) (ty := .int) (hnar := fun _ _ => rfl) rfl rfl rfl (fun x hX hin hret hnL => ?_)
  replace hX : CX x l cX5_behind RX5 wsX5_behind E (rmN 6) := hX
  show GG x 0 0 ((lfo E ae ab ar an af ah ak ax ag z ++ (fw E an C ++ (fw E af D)))) 0 [(0, .ref (ae 0)), (1, .int (nI n))] []
  have inRX0 : ∀ w ∈ wsX00, w ∈ wsX5_behind := by decide +kernel
  have inRX5 : ∀ w ∈ wsX50, w ∈ wsX5_behind := by decide +kernel
  have fl108 : Cond.fieldLink RX5 108 "LieForce$Force" "facts" "I" ∈ wsX5_behind := by decide +kernel
  have fl24 : Cond.fieldLink RX5 24 "LieForce" "now" "LLieForce$Force;" ∈ wsX5_behind := by decide +kernel
  have fl31 : Cond.fieldLink RX5 31 "LieForce" "ahead" "LLieForce$Force;" ∈ wsX5_behind := by decide +kernel
  obtain ⟨hC, hVY, hZ, hYm⟩ := id hD
  obtain ⟨⟨h9, h64, h512, hT, hI⟩, hK⟩ := id hC
  have hV := DI_VB hD (by omega)
  refine g_iload_n hX dX5_behind_0 1 rfl ?_
  refine g_iconst hX (nI 0) dX5_behind_1 rfl ?_
  refine g_bipush hX (nI 60) dX5_behind_2 rfl ?_
  have hc4 : CUT ((lfo E ae ab ar an af ah ak ax ag z ++ (fw E an C ++ (fw E af D)))) (([] : va_W)) ((lfo E ae ab ar an af ah ak ax ag z ++ (fw E an C ++ (fw E af D)))) [] [0, 1, 2, 3, 4, 5, 6, 7, 8, 9, 10, 11, 12, 13, 14] := ⟨rfl, rfl, rfl, rfl, rfl⟩
  refine g_TI hX hc4 [.int (nI n), .int (nI 0), .int (nI 60)] [] (c_X5_isWithin l E (nI n) (nI 0) (nI 60)) gX5_behind_X5_isWithin calX5_isWithin rfl rfl rfl rfl dX5_behind_4 rfl ⟨Nat.zero_le _, Nat.zero_le _⟩ (fun _ => (lfo E ae ab ar an af ah ak ax ag z ++ (fw E an C ++ (fw E af D)))) [0, 1, 2, 3, 4, 5, 6, 7, 8, 9, 10, 11, 12, 13, 14] rfl (fun _ => rfl) (fun _ hu4 => ?_)
  refine g_if_ne hX 12 dX5_behind_7 (by decide) (fun c7 => ?_) (fun c7 => ?_)
  · replace c7 := mt bI_0.mpr c7
    replace c7 := bNf c7
    refine g_aload_n hX dX5_behind_12 0 rfl ?_
    refine g_get hX (v := .ref (af 0)) 0 inRX5 rfl rfl 4 rfl fl31 rfl rfl dX5_behind_13 ?_
    refine g_aload_n hX dX5_behind_16 0 rfl ?_
    refine g_get hX (v := .ref (an 0)) 0 inRX5 rfl rfl 3 rfl fl24 rfl rfl dX5_behind_17 ?_
    have hc20 : CUT ((lfo E ae ab ar an af ah ak ax ag z ++ (fw E an C ++ (fw E af D)))) ((fw E af D) ++ (fw E an C)) (lfo E ae ab ar an af ah ak ax ag z) [8, 9, 10, 11, 12, 13, 14, 1, 2, 3, 4, 5, 6, 7] [0] := ⟨rfl, rfl, rfl, rfl, rfl⟩
    refine g_VV hX hc20 [.ref (an 0)] [] (c_X0_copy l E af D an C) gX5_behind_X0_copy calX0_copy rfl rfl rfl rfl 8 rfl rfl rfl rfl dX5_behind_20 rfl ⟨Nat.zero_le _, Nat.zero_le _⟩ (fun _ => (lfo E ae ab ar an af ah ak ax ag z ++ (fw E an C ++ (fw E af C)))) [0, 8, 9, 10, 11, 12, 13, 14, 1, 2, 3, 4, 5, 6, 7] rfl (fun _ => rfl) (fun _ hu20 => ?_)
    refine g_iconst hX (nI 0) dX5_behind_23 rfl ?_
    refine g_istore_n hX (j := 2) [(2, .int (nI 0)), (0, .ref (ae 0)), (1, .int (nI n))] dX5_behind_24 rfl (by rw [hnL]; rfl) rfl ?_
    have lp25 : ∀ (fuel : Nat) (k : Nat), n - k < fuel → (k ≤ n) → GG x 0 0 ((lfo E ae ab ar an af ah ak ax ag z ++ (fw E an C ++ (fw E af (dayC C k))))) 25 [(0, .ref (ae 0)), (1, .int (nI n)), (2, .int (nI k))] [] := by
      intro fuel
      induction fuel with
      | zero => intro k hm; exact absurd hm (Nat.not_lt_zero _)
      | succ fuel ih25 =>
        intro k hm25 hk
        have hDk := DI_day hD k
        refine g_iload_n hX dX5_behind_25 2 rfl ?_
        refine g_iload_n hX dX5_behind_26 1 rfl ?_
        refine g_icmp_ge hX 44 dX5_behind_27 (by decide) (fun c27 => ?_) (fun c27 => ?_)
        · replace c27 := (nI_leI (by omega) (by omega)).mp c27
          refine g_aload_n hX dX5_behind_44 0 rfl ?_
          refine g_get hX (v := .ref (af 0)) 0 inRX5 rfl rfl 4 rfl fl31 rfl rfl dX5_behind_45 ?_
          refine g_aload_n hX dX5_behind_48 0 rfl ?_
          refine g_get hX (v := .ref (af 0)) 0 inRX5 rfl rfl 4 rfl fl31 rfl rfl dX5_behind_49 ?_
          refine g_get hX (v := .int (nI (cF (dayC C k)))) 8 inRX0 rfl rfl 0 rfl fl108 rfl rfl dX5_behind_52 ?_
          have hc55 : CUT ((lfo E ae ab ar an af ah ak ax ag z ++ (fw E an C ++ (fw E af (dayC C k))))) (fw E af (dayC C k)) ((lfo E ae ab ar an af ah ak ax ag z) ++ (fw E an C)) [8, 9, 10, 11, 12, 13, 14] [0, 1, 2, 3, 4, 5, 6, 7] := ⟨rfl, rfl, rfl, rfl, rfl⟩
          refine g_VI hX hc55 [.int (nI (cF (dayC C k)))] [] (c_X0_liesIn l E af (dayC C k) (cF (dayC C k)) hDk.1.1 hDk.1.1.2.1) gX5_behind_X0_liesIn calX0_liesIn rfl rfl rfl rfl 8 rfl rfl rfl rfl dX5_behind_55 rfl ⟨Nat.zero_le _, Nat.zero_le _⟩ (fun _ => (lfo E ae ab ar an af ah ak ax ag z ++ (fw E an C ++ (fw E af (dayC C k))))) [0, 1, 2, 3, 4, 5, 6, 7, 8, 9, 10, 11, 12, 13, 14] rfl (fun _ => rfl) (fun _ hu55 => ?_)
          exact g_eq (by rw [show k = n by omega]) rfl (congrArg (fun z => [Value.int z]) (congrArg nI (by rw [show k = n by omega]))) (hret () _ _ trivial dX5_behind_58)
        · replace c27 := mt (nI_leI (by omega) (by omega)).mpr c27
          refine g_aload_n hX dX5_behind_30 0 rfl ?_
          refine g_get hX (v := .ref (af 0)) 0 inRX5 rfl rfl 4 rfl fl31 rfl rfl dX5_behind_31 ?_
          have hc34 : CUT ((lfo E ae ab ar an af ah ak ax ag z ++ (fw E an C ++ (fw E af (dayC C k))))) (fw E af (dayC C k)) ((lfo E ae ab ar an af ah ak ax ag z) ++ (fw E an C)) [8, 9, 10, 11, 12, 13, 14] [0, 1, 2, 3, 4, 5, 6, 7] := ⟨rfl, rfl, rfl, rfl, rfl⟩
          refine g_VI hX hc34 [] [] (c_X0_passDay l E af (dayC C k) hDk.1.1 (DI_VB1 hDk (by omega))) gX5_behind_X0_passDay calX0_passDay rfl rfl rfl rfl 8 rfl rfl rfl rfl dX5_behind_34 rfl ⟨Nat.zero_le _, Nat.zero_le _⟩ (fun _ => (lfo E ae ab ar an af ah ak ax ag z ++ (fw E an C ++ (fw E af ((passC (dayC C k)).1))))) [0, 1, 2, 3, 4, 5, 6, 7, 8, 9, 10, 11, 12, 13, 14] rfl (fun _ => rfl) (fun _ hu34 => ?_)
          refine g_pop hX dX5_behind_37 rfl ?_
          refine g_iinc hX (j := 2) (nI (k + 1)) [(2, .int (nI (k + 1))), (0, .ref (ae 0)), (1, .int (nI n))] dX5_behind_38 2 rfl (iinc_n _ _) (by rw [hnL]; rfl) rfl ?_
          refine g_goto hX 25 dX5_behind_41 (by decide) ?_
          exact g_lv _ [1, 2, 0] rfl (ih25 (k + 1) (by omega) (by omega))
    exact g_lv _ [1, 2, 0] rfl (lp25 _ 0 (Nat.lt_succ_self _) (Nat.zero_le _))
  · replace c7 := bI_0.mp c7
    rw [win_y (by omega) (by omega) (by decide)] at c7; cases c7
set_option maxHeartbeats 4000000 in
set_option maxRecDepth 100000 in
theorem c_X5_fall_n (l : Launch) (E : EV) (ae : Nat → Nat) (ab : Nat → Nat) (ar : Nat → Nat) (an : Nat → Nat) (af : Nat → Nat) (ah : Nat → Nat) (ak : Nat → Nat) (ax : Nat → Nat) (ag : Nat → Nat) (z : Nat) (x0 : Int32) (hx : win x0 (nI 0) (nI 1) = false) : KI l yX5_fall wsX5_fall (rmN 6) E (σ := Unit) [.ref (ae 0), .int x0] (lfo E ae ab ar an af ah ak ax ag z) (fun _ => True) (fun _ => (-1)) (fun _ => lfo E ae ab ar an af ah ak ax ag z) 0 0 := by
  refine KI.of (cc := cX5_fall) (maxL := 4) (ty := .int) (hnar := fun _ _ => rfl) rfl rfl rfl (fun x hX hin hret hnL => ?_)
  replace hX : CX x l cX5_fall RX5 wsX5_fall E (rmN 6) := hX
  show GG x 0 0 (lfo E ae ab ar an af ah ak ax ag z) 0 [(0, .ref (ae 0)), (1, .int x0)] []
  refine g_iload_n hX dX5_fall_0 1 rfl ?_
  refine g_iconst hX (nI 0) dX5_fall_1 rfl ?_
  refine g_iconst hX (nI 1) dX5_fall_2 rfl ?_
  have hc3 : CUT (lfo E ae ab ar an af ah ak ax ag z) (([] : va_W)) (lfo E ae ab ar an af ah ak ax ag z) [] [0] := ⟨rfl, rfl, rfl, rfl, rfl⟩
  refine g_TI hX hc3 [.int x0, .int (nI 0), .int (nI 1)] [] (c_X5_isWithin l E x0 (nI 0) (nI 1)) gX5_fall_X5_isWithin calX5_isWithin rfl rfl rfl rfl dX5_fall_3 rfl ⟨Nat.zero_le _, Nat.zero_le _⟩ (fun _ => lfo E ae ab ar an af ah ak ax ag z) [0] rfl (fun _ => rfl) (fun _ hu3 => ?_)
  refine g_if_ne hX 11 dX5_fall_6 (by decide) (fun c6 => ?_) (fun c6 => ?_)
  · replace c6 := mt bI_0.mpr c6
    replace c6 := bNf c6
    rw [hx] at c6; cases c6
  · replace c6 := bI_0.mp c6
    refine g_iconst hX ((-1)) dX5_fall_9 rfl ?_
    exact g_eq rfl rfl rfl (hret () _ _ trivial dX5_fall_10)
set_option maxHeartbeats 4000000 in
set_option maxRecDepth 100000 in
theorem c_X5_fall_y (l : Launch) (E : EV) (ae : Nat → Nat) (ab : Nat → Nat) (ar : Nat → Nat) (an : Nat → Nat) (af : Nat → Nat) (ah : Nat → Nat) (ak : Nat → Nat) (ax : Nat → Nat) (ag : Nat → Nat) (z : Nat) (C : FC) (D : FC) (m : Nat) (w : Nat) (hD : DI C m) (hm : m < 2 ^ 29) (hw : w ≤ 1) : KI l yX5_fall wsX5_fall (rmN 6) E (σ := FC) [.ref (ae 0), .int (nI w)] ((lfo E ae ab ar an af ah ak ax ag z ++ (fw E an C ++ (fw E af D)))) (fun u => True) (fun u => (falV C w)) (fun u => (lfo E ae ab ar an af ah ak ax ag z ++ (fw E an C ++ (fw E af u)))) 0 0 := by
  refine KI.of (cc := cX5_fall) (maxL := 4) (ty := .int) (hnar := fun _ _ => rfl) rfl rfl rfl (fun x hX hin hret hnL => ?_)
  replace hX : CX x l cX5_fall RX5 wsX5_fall E (rmN 6) := hX
  show GG x 0 0 ((lfo E ae ab ar an af ah ak ax ag z ++ (fw E an C ++ (fw E af D)))) 0 [(0, .ref (ae 0)), (1, .int (nI w))] []
  have inRX5 : ∀ w ∈ wsX50, w ∈ wsX5_fall := by decide +kernel
  have fl24 : Cond.fieldLink RX5 24 "LieForce" "now" "LLieForce$Force;" ∈ wsX5_fall := by decide +kernel
  have fl31 : Cond.fieldLink RX5 31 "LieForce" "ahead" "LLieForce$Force;" ∈ wsX5_fall := by decide +kernel
  obtain ⟨hC, hVY, hZ, hYm⟩ := id hD
  obtain ⟨⟨h9, h64, h512, hT, hI⟩, hK⟩ := id hC
  have hV := DI_VB hD (by omega)
  refine g_iload_n hX dX5_fall_0 1 rfl ?_
  refine g_iconst hX (nI 0) dX5_fall_1 rfl ?_
  refine g_iconst hX (nI 1) dX5_fall_2 rfl ?_
  have hc3 : CUT ((lfo E ae ab ar an af ah ak ax ag z ++ (fw E an C ++ (fw E af D)))) (([] : va_W)) ((lfo E ae ab ar an af ah ak ax ag z ++ (fw E an C ++ (fw E af D)))) [] [0, 1, 2, 3, 4, 5, 6, 7, 8, 9, 10, 11, 12, 13, 14] := ⟨rfl, rfl, rfl, rfl, rfl⟩
  refine g_TI hX hc3 [.int (nI w), .int (nI 0), .int (nI 1)] [] (c_X5_isWithin l E (nI w) (nI 0) (nI 1)) gX5_fall_X5_isWithin calX5_isWithin rfl rfl rfl rfl dX5_fall_3 rfl ⟨Nat.zero_le _, Nat.zero_le _⟩ (fun _ => (lfo E ae ab ar an af ah ak ax ag z ++ (fw E an C ++ (fw E af D)))) [0, 1, 2, 3, 4, 5, 6, 7, 8, 9, 10, 11, 12, 13, 14] rfl (fun _ => rfl) (fun _ hu3 => ?_)
  refine g_if_ne hX 11 dX5_fall_6 (by decide) (fun c6 => ?_) (fun c6 => ?_)
  · replace c6 := mt bI_0.mpr c6
    replace c6 := bNf c6
    refine g_aload_n hX dX5_fall_11 0 rfl ?_
    refine g_get hX (v := .ref (af 0)) 0 inRX5 rfl rfl 4 rfl fl31 rfl rfl dX5_fall_12 ?_
    refine g_aload_n hX dX5_fall_15 0 rfl ?_
    refine g_get hX (v := .ref (an 0)) 0 inRX5 rfl rfl 3 rfl fl24 rfl rfl dX5_fall_16 ?_
    have hc19 : CUT ((lfo E ae ab ar an af ah ak ax ag z ++ (fw E an C ++ (fw E af D)))) ((fw E af D) ++ (fw E an C)) (lfo E ae ab ar an af ah ak ax ag z) [8, 9, 10, 11, 12, 13, 14, 1, 2, 3, 4, 5, 6, 7] [0] := ⟨rfl, rfl, rfl, rfl, rfl⟩
    refine g_VV hX hc19 [.ref (an 0)] [] (c_X0_copy l E af D an C) gX5_fall_X0_copy calX0_copy rfl rfl rfl rfl 8 rfl rfl rfl rfl dX5_fall_19 rfl ⟨Nat.zero_le _, Nat.zero_le _⟩ (fun _ => (lfo E ae ab ar an af ah ak ax ag z ++ (fw E an C ++ (fw E af C)))) [0, 8, 9, 10, 11, 12, 13, 14, 1, 2, 3, 4, 5, 6, 7] rfl (fun _ => rfl) (fun _ hu19 => ?_)
    refine g_iconst hX (nI 1) dX5_fall_22 rfl ?_
    refine g_istore_n hX (j := 2) [(2, .int (nI 1)), (0, .ref (ae 0)), (1, .int (nI w))] dX5_fall_23 rfl (by rw [hnL]; rfl) rfl ?_
    have lp24 : ∀ (fuel : Nat) (k : Nat), 61 - k < fuel → (1 ≤ k) → (k ≤ 61) → (∀ j, 1 ≤ j → j < k → firO (serN C j) = none) → GG x 0 0 ((lfo E ae ab ar an af ah ak ax ag z ++ (fw E an C ++ (fw E af (serN C (k - 1)))))) 24 [(0, .ref (ae 0)), (1, .int (nI w)), (2, .int (nI k))] [] := by
      intro fuel
      induction fuel with
      | zero => intro k hm; exact absurd hm (Nat.not_lt_zero _)
      | succ fuel ih24 =>
        intro k hm24 hk1 hk hn
        obtain ⟨hs1, hs2, hs3⟩ := serN_DI hD (k - 1)
        have hsk : serN C k = (serC (serN C (k - 1))) := by rw [show k = (k - 1) + 1 by omega, serN]; rfl
        have hsN : cN (serN C (k - 1)) = cN C := serN_N C _
        have hV2 : VB (serC (serN C (k - 1))) := VB_of (VY_ser hs2) (by rw [serC_Y]; omega)
        refine g_iload_n hX dX5_fall_24 2 rfl ?_
        refine g_bipush hX (nI 60) dX5_fall_25 rfl ?_
        refine g_icmp_gt hX 80 dX5_fall_27 (by decide) (fun c27 => ?_) (fun c27 => ?_)
        · replace c27 := (nI_ltI (by omega) (by omega)).mp c27
          refine g_bipush hX ((-4)) dX5_fall_80 rfl ?_
          exact g_eq rfl rfl (congrArg (fun z => [Value.int z]) (by show _ = falV C w; rw [fal_none (fun j p q => hn j p (by omega))])) (hret (serN C (k - 1)) _ _ trivial dX5_fall_82)
        · replace c27 := mt (nI_ltI (by omega) (by omega)).mpr c27
          refine g_aload_n hX dX5_fall_30 0 rfl ?_
          refine g_get hX (v := .ref (af 0)) 0 inRX5 rfl rfl 4 rfl fl31 rfl rfl dX5_fall_31 ?_
          have hc34 : CUT ((lfo E ae ab ar an af ah ak ax ag z ++ (fw E an C ++ (fw E af (serN C (k - 1)))))) (fw E af (serN C (k - 1))) ((lfo E ae ab ar an af ah ak ax ag z) ++ (fw E an C)) [8, 9, 10, 11, 12, 13, 14] [0, 1, 2, 3, 4, 5, 6, 7] := ⟨rfl, rfl, rfl, rfl, rfl⟩
          refine g_VV hX hc34 [] [] (c_X0_serveDay l E af (serN C (k - 1)) hs1.1) gX5_fall_X0_serveDay calX0_serveDay rfl rfl rfl rfl 8 rfl rfl rfl rfl dX5_fall_34 rfl ⟨Nat.zero_le _, Nat.zero_le _⟩ (fun _ => (lfo E ae ab ar an af ah ak ax ag z ++ (fw E an C ++ (fw E af (serC (serN C (k - 1))))))) [0, 1, 2, 3, 4, 5, 6, 7, 8, 9, 10, 11, 12, 13, 14] rfl (fun _ => rfl) (fun _ hu34 => ?_)
          refine g_aload_n hX dX5_fall_37 0 rfl ?_
          refine g_get hX (v := .ref (af 0)) 0 inRX5 rfl rfl 4 rfl fl31 rfl rfl dX5_fall_38 ?_
          have hc41 : CUT ((lfo E ae ab ar an af ah ak ax ag z ++ (fw E an C ++ (fw E af (serC (serN C (k - 1))))))) (fw E af (serC (serN C (k - 1)))) ((lfo E ae ab ar an af ah ak ax ag z) ++ (fw E an C)) [8, 9, 10, 11, 12, 13, 14] [0, 1, 2, 3, 4, 5, 6, 7] := ⟨rfl, rfl, rfl, rfl, rfl⟩
          refine g_VI hX hc41 [] [] (c_X0_firstToFall l E af (serC (serN C (k - 1))) (FO_serC hs1.1) hV2) gX5_fall_X0_firstToFall calX0_firstToFall rfl rfl rfl rfl 8 rfl rfl rfl rfl dX5_fall_41 rfl ⟨Nat.zero_le _, Nat.zero_le _⟩ (fun _ => (lfo E ae ab ar an af ah ak ax ag z ++ (fw E an C ++ (fw E af (serC (serN C (k - 1))))))) [0, 1, 2, 3, 4, 5, 6, 7, 8, 9, 10, 11, 12, 13, 14] rfl (fun _ => rfl) (fun _ hu41 => ?_)
          refine g_istore_n hX (j := 3) [(3, .int (oI (firO (serC (serN C (k - 1)))))), (0, .ref (ae 0)), (1, .int (nI w)), (2, .int (nI k))] dX5_fall_44 rfl (by rw [hnL]; rfl) rfl ?_
          refine g_iload_n hX dX5_fall_45 0 rfl ?_
          refine g_bipush hX ((-4)) dX5_fall_46 rfl ?_
          refine g_icmp_eq hX 74 dX5_fall_48 (by decide) (fun c48 => ?_) (fun c48 => ?_)
          · replace c48 := (oI_n (fun t ht => fir_n (by rw [serC_N]; omega) ht)).mp c48
            refine g_iinc hX (j := 2) (nI (k + 1)) [(2, .int (nI (k + 1))), (3, .int (oI (firO (serC (serN C (k - 1)))))), (0, .ref (ae 0)), (1, .int (nI w))] dX5_fall_74 3 rfl (iinc_n _ _) (by rw [hnL]; rfl) rfl ?_
            refine g_goto hX 24 dX5_fall_77 (by decide) ?_
            exact g_lv [(0, .ref (ae 0)), (1, .int (nI w)), (2, .int (nI (k + 1)))] [2, 3, 0] rfl (g_eq (by rw [show k + 1 - 1 = k by omega, hsk]) rfl rfl (ih24 (k + 1) (by omega) (by omega) (by omega) (fun j p q => (Nat.lt_or_ge j k).elim (fun e => hn j p e) (fun e => by rw [show j = k by omega, hsk]; exact c48))))
          · replace c48 := mt (oI_n (fun t ht => fir_n (by rw [serC_N]; omega) ht)).mpr c48
            obtain ⟨p, hp⟩ : ∃ z, firO (serC (serN C (k - 1))) = some z := by cases hz : firO (serC (serN C (k - 1))) with | none => exact absurd hz c48 | some z => exact ⟨z, rfl⟩
            obtain ⟨t, ht, ht9, hpN, hfa⟩ := fir_m (by rw [serC_N]; omega) hp
            rw [show oI (firO (serC (serN C (k - 1)))) = nI p from by rw [hp]; rfl]
            refine g_iload_n hX dX5_fall_51 2 rfl ?_
            refine g_iconst hX (nI 1) dX5_fall_52 rfl ?_
            refine g_icmp_ne hX 60 dX5_fall_53 (by decide) (fun c53 => ?_) (fun c53 => ?_)
            · replace c53 := mt (nI_eq (by omega) (by omega)).mpr c53
              refine g_bipush hX (nI 10) dX5_fall_60 rfl ?_
              refine g_iload_n hX dX5_fall_62 0 rfl ?_
              refine g_imul hX (nI (10 * p)) dX5_fall_63 (pk_mul _ _) ?_
              refine g_aload_n hX dX5_fall_64 1 rfl ?_
              refine g_get hX (v := .ref (af 0)) 0 inRX5 rfl rfl 4 rfl fl31 rfl rfl dX5_fall_65 ?_
              refine g_iload_n hX dX5_fall_68 0 rfl ?_
              have hc69 : CUT ((lfo E ae ab ar an af ah ak ax ag z ++ (fw E an C ++ (fw E af (serC (serN C (k - 1))))))) (fw E af (serC (serN C (k - 1)))) ((lfo E ae ab ar an af ah ak ax ag z) ++ (fw E an C)) [8, 9, 10, 11, 12, 13, 14] [0, 1, 2, 3, 4, 5, 6, 7] := ⟨rfl, rfl, rfl, rfl, rfl⟩
              refine g_VI hX hc69 [.int (nI p)] [.int (nI (10 * p))] (c_X0_mateOf l E af (serC (serN C (k - 1))) p (FO_serC hs1.1) hV2 hpN) gX5_fall_X0_mateOf calX0_mateOf rfl rfl rfl rfl 8 rfl rfl rfl rfl dX5_fall_69 rfl ⟨Nat.zero_le _, Nat.zero_le _⟩ (fun _ => (lfo E ae ab ar an af ah ak ax ag z ++ (fw E an C ++ (fw E af (serC (serN C (k - 1))))))) [0, 1, 2, 3, 4, 5, 6, 7, 8, 9, 10, 11, 12, 13, 14] rfl (fun _ => rfl) (fun _ hu69 => ?_)
              refine g_eq (st' := [.int (nI t), .int (nI (10 * p))]) rfl rfl (congrArg (fun z => Value.int z :: ([.int (nI (10 * p))] : List Value)) (by rw [ht]; rfl)) ?_
              refine g_iadd hX (nI ((10 * p) + t)) dX5_fall_72 (nI_add _ _) ?_
              exact g_eq rfl rfl (congrArg (fun z => [Value.int z]) (by show _ = falV C w; rw [fal_some hk1 (by omega) hn (by rw [hsk, hp]; rfl), hsk, hfa]; first | rw [if_neg (by omega)] | rw [if_pos (by omega)])) (hret (serC (serN C (k - 1))) _ _ trivial dX5_fall_73)
            · replace c53 := (nI_eq (by omega) (by omega)).mp c53
              refine g_iload_n hX dX5_fall_56 3 rfl ?_
              refine g_goto hX 73 dX5_fall_57 (by decide) ?_
              exact g_eq rfl rfl (congrArg (fun z => [Value.int z]) (by show _ = falV C w; rw [fal_some hk1 (by omega) hn (by rw [hsk, hp]; rfl), hsk, hfa]; first | rw [if_neg (by omega)] | rw [if_pos (by omega)])) (hret (serC (serN C (k - 1))) _ _ trivial dX5_fall_73)
    exact g_lv _ [1, 2, 0] rfl (lp24 _ 1 (Nat.lt_succ_self _) (Nat.le_refl _) (by omega) (fun j p q => absurd p (by omega)))
  · replace c6 := bI_0.mp c6
    rw [win_y (by omega) (by omega) (by decide)] at c6; cases c6
set_option maxHeartbeats 4000000 in
set_option maxRecDepth 100000 in
theorem c_X5_married (l : Launch) (E : EV) (ae : Nat → Nat) (ab : Nat → Nat) (ar : Nat → Nat) (an : Nat → Nat) (af : Nat → Nat) (ah : Nat → Nat) (ak : Nat → Nat) (ax : Nat → Nat) (ag : Nat → Nat) (z : Nat) (C : FC) (hC : FO C) : KI l yX5_married wsX5_married (rmN 14) E (σ := Unit) [.ref (ae 0)] ((lfo E ae ab ar an af ah ak ax ag z) ++ (fw E an C)) (fun _ => True) (fun _ => (nI (mpF C (cN C) (lieM C (cF C)) 0))) (fun _ => (lfo E ae ab ar an af ah ak ax ag z) ++ (fw E an C)) 0 0 := by
  refine KI.of (cc := cX5_married) (maxL := 1) (ty := .int) (hnar := fun _ _ => rfl) rfl rfl rfl (fun x hX hin hret hnL => ?_)
  replace hX : CX x l cX5_married RX5 wsX5_married E (rmN 14) := hX
  show GG x 0 0 ((lfo E ae ab ar an af ah ak ax ag z) ++ (fw E an C)) 0 [(0, .ref (ae 0))] []
  have inRX0 : ∀ w ∈ wsX00, w ∈ wsX5_married := by decide +kernel
  have inRX5 : ∀ w ∈ wsX50, w ∈ wsX5_married := by decide +kernel
  have fl108 : Cond.fieldLink RX5 108 "LieForce$Force" "facts" "I" ∈ wsX5_married := by decide +kernel
  have fl24 : Cond.fieldLink RX5 24 "LieForce" "now" "LLieForce$Force;" ∈ wsX5_married := by decide +kernel
  obtain ⟨h9, h64, h512, hT, hI⟩ := id hC
  have hll := lieM_lt h9 (cF C)
  refine g_aload_n hX dX5_married_0 0 rfl ?_
  refine g_get hX (v := .ref (an 0)) 0 inRX5 rfl rfl 3 rfl fl24 rfl rfl dX5_married_1 ?_
  refine g_aload_n hX dX5_married_4 0 rfl ?_
  refine g_get hX (v := .ref (an 0)) 0 inRX5 rfl rfl 3 rfl fl24 rfl rfl dX5_married_5 ?_
  refine g_aload_n hX dX5_married_8 0 rfl ?_
  refine g_get hX (v := .ref (an 0)) 0 inRX5 rfl rfl 3 rfl fl24 rfl rfl dX5_married_9 ?_
  refine g_get hX (v := .int (nI (cF C))) 1 inRX0 rfl rfl 0 rfl fl108 rfl rfl dX5_married_12 ?_
  have hc15 : CUT ((lfo E ae ab ar an af ah ak ax ag z) ++ (fw E an C)) (fw E an C) (lfo E ae ab ar an af ah ak ax ag z) [1, 2, 3, 4, 5, 6, 7] [0] := ⟨rfl, rfl, rfl, rfl, rfl⟩
  refine g_VI hX hc15 [.int (nI (cF C))] [.ref (an 0)] (c_X0_liesIn l E an C (cF C) (by first | assumption | omega) (by omega)) gX5_married_X0_liesIn calX0_liesIn rfl rfl rfl rfl 1 rfl rfl rfl rfl dX5_married_15 rfl ⟨Nat.zero_le _, Nat.zero_le _⟩ (fun _ => (lfo E ae ab ar an af ah ak ax ag z) ++ (fw E an C)) [0, 1, 2, 3, 4, 5, 6, 7] rfl (fun _ => rfl) (fun _ hu15 => ?_)
  refine g_iconst hX (nI 0) dX5_married_18 rfl ?_
  have hc19 : CUT ((lfo E ae ab ar an af ah ak ax ag z) ++ (fw E an C)) (fw E an C) (lfo E ae ab ar an af ah ak ax ag z) [1, 2, 3, 4, 5, 6, 7] [0] := ⟨rfl, rfl, rfl, rfl, rfl⟩
  refine g_TI hX hc19 [.ref (an 0), .int (nI (lieM C (cF C))), .int (nI 0)] [] (c_X5_mostPairs_m l E an C (lieM C (cF C)) (by assumption) (by omega)) gX5_married_X5_mostPairs calX5_mostPairs rfl rfl (rm_lt (show cN C + 3 < 14 by omega) (by decide)) rfl dX5_married_19 rfl ⟨Nat.zero_le _, Nat.zero_le _⟩ (fun _ => (lfo E ae ab ar an af ah ak ax ag z) ++ (fw E an C)) [0, 1, 2, 3, 4, 5, 6, 7] rfl (fun _ => rfl) (fun _ hu19 => ?_)
  exact g_eq rfl rfl rfl (hret () _ _ trivial dX5_married_22)
