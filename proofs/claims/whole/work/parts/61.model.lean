set_option maxHeartbeats 4000000 in
set_option maxRecDepth 100000 in
theorem c_X5_write_n (l : Launch) (E : EV) (ae : Nat → Nat) (ab : Nat → Nat) (ar : Nat → Nat) (an : Nat → Nat) (af : Nat → Nat) (ah : Nat → Nat) (ak : Nat → Nat) (ax : Nat → Nat) (ag : Nat → Nat) (z : Nat) (x0 : Int32) (hx : win x0 (nI 32) (nI 126) = false) : KI l yX5_write wsX5_write (rmN 6) E (σ := Unit) [.ref (ae 0), .int x0] (lfo E ae ab ar an af ah ak ax ag z) (fun _ => True) (fun _ => (-1)) (fun _ => lfo E ae ab ar an af ah ak ax ag z) 0 0 := by
  refine KI.of (cc := cX5_write) (maxL := 2) (ty := .int) (hnar := fun _ _ => rfl) rfl rfl rfl (fun x hX hin hret hnL => ?_)
  replace hX : CX x l cX5_write RX5 wsX5_write E (rmN 6) := hX
  show GG x 0 0 (lfo E ae ab ar an af ah ak ax ag z) 0 [(0, .ref (ae 0)), (1, .int x0)] []
  refine g_iload_n hX dX5_write_0 1 rfl ?_
  refine g_bipush hX (nI 32) dX5_write_1 rfl ?_
  refine g_bipush hX (nI 126) dX5_write_3 rfl ?_
  have hc5 : CUT (lfo E ae ab ar an af ah ak ax ag z) (([] : va_W)) (lfo E ae ab ar an af ah ak ax ag z) [] [0] := ⟨rfl, rfl, rfl, rfl, rfl⟩
  refine g_TI hX hc5 [.int x0, .int (nI 32), .int (nI 126)] [] (c_X5_isWithin l E x0 (nI 32) (nI 126)) gX5_write_X5_isWithin calX5_isWithin rfl rfl rfl rfl dX5_write_5 rfl ⟨Nat.zero_le _, Nat.zero_le _⟩ (fun _ => lfo E ae ab ar an af ah ak ax ag z) [0] rfl (fun _ => rfl) (fun _ hu5 => ?_)
  refine g_if_ne hX 13 dX5_write_8 (by decide) (fun c8 => ?_) (fun c8 => ?_)
  · replace c8 := mt bI_0.mpr c8
    replace c8 := bNf c8
    rw [hx] at c8; cases c8
  · replace c8 := bI_0.mp c8
    refine g_iconst hX ((-1)) dX5_write_11 rfl ?_
    exact g_eq rfl rfl rfl (hret () _ _ trivial dX5_write_12)
set_option maxHeartbeats 4000000 in
set_option maxRecDepth 100000 in
theorem c_X5_write_f (l : Launch) (E : EV) (ae : Nat → Nat) (ab : Nat → Nat) (ar : Nat → Nat) (an : Nat → Nat) (af : Nat → Nat) (ah : Nat → Nat) (ak : Nat → Nat) (ax : Nat → Nat) (ag : Nat → Nat) (z : Nat) (n : Nat) (hn1 : 32 ≤ n) (hn2 : n ≤ 126) (hz : z = 200) : KI l yX5_write wsX5_write (rmN 6) E (σ := Unit) [.ref (ae 0), .int (nI n)] (lfo E ae ab ar an af ah ak ax ag z) (fun _ => True) (fun _ => (-3)) (fun _ => lfo E ae ab ar an af ah ak ax ag z) 0 0 := by
  refine KI.of (cc := cX5_write) (maxL := 2) (ty := .int) (hnar := fun _ _ => rfl) rfl rfl rfl (fun x hX hin hret hnL => ?_)
  replace hX : CX x l cX5_write RX5 wsX5_write E (rmN 6) := hX
  show GG x 0 0 (lfo E ae ab ar an af ah ak ax ag z) 0 [(0, .ref (ae 0)), (1, .int (nI n))] []
  have inRX5 : ∀ w ∈ wsX50, w ∈ wsX5_write := by decide +kernel
  have fl76 : Cond.fieldLink RX5 76 "LieForce" "length" "I" ∈ wsX5_write := by decide +kernel
  refine g_iload_n hX dX5_write_0 1 rfl ?_
  refine g_bipush hX (nI 32) dX5_write_1 rfl ?_
  refine g_bipush hX (nI 126) dX5_write_3 rfl ?_
  have hc5 : CUT (lfo E ae ab ar an af ah ak ax ag z) (([] : va_W)) (lfo E ae ab ar an af ah ak ax ag z) [] [0] := ⟨rfl, rfl, rfl, rfl, rfl⟩
  refine g_TI hX hc5 [.int (nI n), .int (nI 32), .int (nI 126)] [] (c_X5_isWithin l E (nI n) (nI 32) (nI 126)) gX5_write_X5_isWithin calX5_isWithin rfl rfl rfl rfl dX5_write_5 rfl ⟨Nat.zero_le _, Nat.zero_le _⟩ (fun _ => lfo E ae ab ar an af ah ak ax ag z) [0] rfl (fun _ => rfl) (fun _ hu5 => ?_)
  refine g_if_ne hX 13 dX5_write_8 (by decide) (fun c8 => ?_) (fun c8 => ?_)
  · replace c8 := mt bI_0.mpr c8
    replace c8 := bNf c8
    refine g_aload_n hX dX5_write_13 0 rfl ?_
    refine g_get hX (v := .int (nI z)) 0 inRX5 rfl rfl 1 rfl fl76 rfl rfl dX5_write_14 ?_
    refine g_sipush hX (nI 200) dX5_write_17 rfl ?_
    refine g_icmp_lt hX 26 dX5_write_20 (by decide) (fun c20 => ?_) (fun c20 => ?_)
    · replace c20 := (nI_ltI (by omega) (by omega)).mp c20
      omega
    · replace c20 := mt (nI_ltI (by omega) (by omega)).mpr c20
      refine g_bipush hX ((-3)) dX5_write_23 rfl ?_
      exact g_eq rfl rfl rfl (hret () _ _ trivial dX5_write_25)
  · replace c8 := bI_0.mp c8
    rw [win_y (by omega) (by omega) (by decide)] at c8; cases c8
set_option maxHeartbeats 4000000 in
set_option maxRecDepth 100000 in
theorem c_X5_write_y (l : Launch) (E : EV) (ae : Nat → Nat) (ab : Nat → Nat) (ar : Nat → Nat) (an : Nat → Nat) (af : Nat → Nat) (ah : Nat → Nat) (ak : Nat → Nat) (ax : Nat → Nat) (ag : Nat → Nat) (z : Nat) (tx : Nat → Nat) (n : Nat) (hn1 : 32 ≤ n) (hn2 : n ≤ 126) (hz : z < 200) : KI l yX5_write wsX5_write (rmN 6) E (σ := Unit) [.ref (ae 0), .int (nI n)] ((lfo E ae ab ar an af ah ak ax ag z) ++ (tw E ab 200 tx)) (fun _ => True) (fun _ => (nI (z + 1))) (fun _ => (lfo E ae ab ar an af ah ak ax ag (z + 1)) ++ (tw E ab 200 (va_up tx z n))) 0 0 := by
  refine KI.of (cc := cX5_write) (maxL := 2) (ty := .int) (hnar := fun _ _ => rfl) rfl rfl rfl (fun x hX hin hret hnL => ?_)
  replace hX : CX x l cX5_write RX5 wsX5_write E (rmN 6) := hX
  show GG x 0 0 ((lfo E ae ab ar an af ah ak ax ag z) ++ (tw E ab 200 tx)) 0 [(0, .ref (ae 0)), (1, .int (nI n))] []
  have inRX5 : ∀ w ∈ wsX50, w ∈ wsX5_write := by decide +kernel
  have fl76 : Cond.fieldLink RX5 76 "LieForce" "length" "I" ∈ wsX5_write := by decide +kernel
  have fl9 : Cond.fieldLink RX5 9 "LieForce" "letters" "[C" ∈ wsX5_write := by decide +kernel
  refine g_iload_n hX dX5_write_0 1 rfl ?_
  refine g_bipush hX (nI 32) dX5_write_1 rfl ?_
  refine g_bipush hX (nI 126) dX5_write_3 rfl ?_
  have hc5 : CUT ((lfo E ae ab ar an af ah ak ax ag z) ++ (tw E ab 200 tx)) (([] : va_W)) ((lfo E ae ab ar an af ah ak ax ag z) ++ (tw E ab 200 tx)) [] [0, 1] := ⟨rfl, rfl, rfl, rfl, rfl⟩
  refine g_TI hX hc5 [.int (nI n), .int (nI 32), .int (nI 126)] [] (c_X5_isWithin l E (nI n) (nI 32) (nI 126)) gX5_write_X5_isWithin calX5_isWithin rfl rfl rfl rfl dX5_write_5 rfl ⟨Nat.zero_le _, Nat.zero_le _⟩ (fun _ => (lfo E ae ab ar an af ah ak ax ag z) ++ (tw E ab 200 tx)) [0, 1] rfl (fun _ => rfl) (fun _ hu5 => ?_)
  refine g_if_ne hX 13 dX5_write_8 (by decide) (fun c8 => ?_) (fun c8 => ?_)
  · replace c8 := mt bI_0.mpr c8
    replace c8 := bNf c8
    refine g_aload_n hX dX5_write_13 0 rfl ?_
    refine g_get hX (v := .int (nI z)) 0 inRX5 rfl rfl 1 rfl fl76 rfl rfl dX5_write_14 ?_
    refine g_sipush hX (nI 200) dX5_write_17 rfl ?_
    refine g_icmp_lt hX 26 dX5_write_20 (by decide) (fun c20 => ?_) (fun c20 => ?_)
    · replace c20 := (nI_ltI (by omega) (by omega)).mp c20
      refine g_aload_n hX dX5_write_26 0 rfl ?_
      refine g_get hX (v := .ref (ab 0)) 0 inRX5 rfl rfl 0 rfl fl9 rfl rfl dX5_write_27 ?_
      refine g_aload_n hX dX5_write_30 0 rfl ?_
      refine g_get hX (v := .int (nI z)) 0 inRX5 rfl rfl 1 rfl fl76 rfl rfl dX5_write_31 ?_
      refine g_iload_n hX dX5_write_34 1 rfl ?_
      refine g_i2c hX (nI n) dX5_write_35 (i2c_n _ (by omega)) ?_
      refine g_cast hX (fun zz => nI (va_up tx z n zz)) ((lfo E ae ab ar an af ah ak ax ag z) ++ (tw E ab 200 (va_up (tx) z n))) 1 2 rfl rfl (vp_in_nI (by omega) (by omega)) (ast_c (by omega) (by omega)) dX5_write_36 rfl ?_
      refine g_aload_n hX dX5_write_37 0 rfl ?_
      refine g_dup hX dX5_write_38 rfl ?_
      refine g_get hX (v := .int (nI z)) 0 inRX5 rfl rfl 1 rfl fl76 rfl rfl dX5_write_39 ?_
      refine g_iconst hX (nI 1) dX5_write_42 rfl ?_
      refine g_iadd hX (nI (z + 1)) dX5_write_43 (nI_add _ _) ?_
      refine g_put hX ((lfo E ae ab ar an af ah ak ax ag (z + 1)) ++ (tw E ab 200 (va_up (tx) z n))) 0 inRX5 tyX5_ok nmX5 rfl rfl 1 rfl fl76 rfl rfl rfl rfl rfl dX5_write_44 rfl ?_
      refine g_aload_n hX dX5_write_47 0 rfl ?_
      refine g_get hX (v := .int (nI (z + 1))) 0 inRX5 rfl rfl 1 rfl fl76 rfl rfl dX5_write_48 ?_
      exact g_eq rfl rfl rfl (hret () _ _ trivial dX5_write_51)
    · replace c20 := mt (nI_ltI (by omega) (by omega)).mpr c20
      omega
  · replace c8 := bI_0.mp c8
    rw [win_y (by omega) (by omega) (by decide)] at c8; cases c8
set_option maxHeartbeats 4000000 in
set_option maxRecDepth 100000 in
theorem c_X5_wipe (l : Launch) (E : EV) (ae : Nat → Nat) (ab : Nat → Nat) (ar : Nat → Nat) (an : Nat → Nat) (af : Nat → Nat) (ah : Nat → Nat) (ak : Nat → Nat) (ax : Nat → Nat) (ag : Nat → Nat) (z : Nat)  : KI l yX5_wipe wsX5_wipe (rmN 6) E (σ := Unit) [.ref (ae 0)] (lfo E ae ab ar an af ah ak ax ag z) (fun _ => True) (fun _ => (nI z)) (fun _ => lfo E ae ab ar an af ah ak ax ag 0) 0 0 := by
  refine KI.of (cc := cX5_wipe) (maxL := 2) (ty := .int) (hnar := fun _ _ => rfl) rfl rfl rfl (fun x hX hin hret hnL => ?_)
  replace hX : CX x l cX5_wipe RX5 wsX5_wipe E (rmN 6) := hX
  show GG x 0 0 (lfo E ae ab ar an af ah ak ax ag z) 0 [(0, .ref (ae 0))] []
  have inRX5 : ∀ w ∈ wsX50, w ∈ wsX5_wipe := by decide +kernel
  have fl76 : Cond.fieldLink RX5 76 "LieForce" "length" "I" ∈ wsX5_wipe := by decide +kernel
  refine g_aload_n hX dX5_wipe_0 0 rfl ?_
  refine g_get hX (v := .int (nI z)) 0 inRX5 rfl rfl 1 rfl fl76 rfl rfl dX5_wipe_1 ?_
  refine g_istore_n hX (j := 1) [(1, .int (nI z)), (0, .ref (ae 0))] dX5_wipe_4 rfl (by rw [hnL]; rfl) rfl ?_
  refine g_aload_n hX dX5_wipe_5 1 rfl ?_
  refine g_iconst hX (nI 0) dX5_wipe_6 rfl ?_
  refine g_put hX (lfo E ae ab ar an af ah ak ax ag 0) 0 inRX5 tyX5_ok nmX5 rfl rfl 1 rfl fl76 rfl rfl rfl rfl rfl dX5_wipe_7 rfl ?_
  refine g_iload_n hX dX5_wipe_10 0 rfl ?_
  exact g_eq rfl rfl rfl (hret () _ _ trivial dX5_wipe_11)
set_option maxHeartbeats 4000000 in
set_option maxRecDepth 100000 in
theorem c_X5_fault (l : Launch) (E : EV) (ae : Nat → Nat) (ab : Nat → Nat) (ar : Nat → Nat) (an : Nat → Nat) (af : Nat → Nat) (ah : Nat → Nat) (ak : Nat → Nat) (ax : Nat → Nat) (ag : Nat → Nat) (z : Nat) (tx : Nat → Nat) (R : RC) (D : FC) (hz : z ≤ 200) (htx : ∀ j, tx j < 2 ^ 16) (hq : ∀ j, R j < 100) : KI l yX5_fault wsX5_fault (rmN 6) E (σ := Unit) [.ref (ae 0)] ((lfo E ae ab ar an af ah ak ax ag z ++ (tw E ab 200 tx ++ (rw_ E ar R ++ (fw E af D))))) (fun _ => True) (fun _ => (oI (rdA tx z 200 0 R (emC D)).1)) (fun _ => (lfo E ae ab ar an af ah ak ax ag z ++ (tw E ab 200 tx ++ (rw_ E ar ((rdA tx z 200 0 R (emC D)).2.1) ++ (fw E af ((rdA tx z 200 0 R (emC D)).2.2)))))) 0 0 := by
  refine KI.of (cc := cX5_fault) (maxL := 1) (ty := .int) (hnar := fun _ _ => rfl) rfl rfl rfl (fun x hX hin hret hnL => ?_)
  replace hX : CX x l cX5_fault RX5 wsX5_fault E (rmN 6) := hX
  show GG x 0 0 ((lfo E ae ab ar an af ah ak ax ag z ++ (tw E ab 200 tx ++ (rw_ E ar R ++ (fw E af D))))) 0 [(0, .ref (ae 0))] []
  have inRX5 : ∀ w ∈ wsX50, w ∈ wsX5_fault := by decide +kernel
  have fl16 : Cond.fieldLink RX5 16 "LieForce" "reader" "LLieForce$Reader;" ∈ wsX5_fault := by decide +kernel
  have fl31 : Cond.fieldLink RX5 31 "LieForce" "ahead" "LLieForce$Force;" ∈ wsX5_fault := by decide +kernel
  have fl76 : Cond.fieldLink RX5 76 "LieForce" "length" "I" ∈ wsX5_fault := by decide +kernel
  have fl9 : Cond.fieldLink RX5 9 "LieForce" "letters" "[C" ∈ wsX5_fault := by decide +kernel
  refine g_aload_n hX dX5_fault_0 0 rfl ?_
  refine g_get hX (v := .ref (ar 0)) 0 inRX5 rfl rfl 2 rfl fl16 rfl rfl dX5_fault_1 ?_
  refine g_aload_n hX dX5_fault_4 0 rfl ?_
  refine g_get hX (v := .ref (ab 0)) 0 inRX5 rfl rfl 0 rfl fl9 rfl rfl dX5_fault_5 ?_
  refine g_aload_n hX dX5_fault_8 0 rfl ?_
  refine g_get hX (v := .int (nI z)) 0 inRX5 rfl rfl 1 rfl fl76 rfl rfl dX5_fault_9 ?_
  refine g_aload_n hX dX5_fault_12 0 rfl ?_
  refine g_get hX (v := .ref (af 0)) 0 inRX5 rfl rfl 4 rfl fl31 rfl rfl dX5_fault_13 ?_
  have hc16 : CUT ((lfo E ae ab ar an af ah ak ax ag z ++ (tw E ab 200 tx ++ (rw_ E ar R ++ (fw E af D))))) ((rw_ E ar R ++ (tw E ab 200 tx ++ (fw E af D)))) (lfo E ae ab ar an af ah ak ax ag z) [2, 3, 1, 4, 5, 6, 7, 8, 9, 10] [0] := ⟨rfl, rfl, rfl, rfl, rfl⟩
  refine g_VI hX hc16 [.ref (ab 0), .int (nI z), .ref (af 0)] [] (c_X3_read l E ar R ab 200 tx z af D (by omega) (by omega) (by assumption) (by assumption)) gX5_fault_X3_read calX3_read rfl rfl rfl rfl 2 rfl rfl rfl rfl dX5_fault_16 rfl ⟨Nat.zero_le _, Nat.zero_le _⟩ (fun _ => (lfo E ae ab ar an af ah ak ax ag z ++ (tw E ab 200 tx ++ (rw_ E ar ((rdA tx z 200 0 R (emC D)).2.1) ++ (fw E af ((rdA tx z 200 0 R (emC D)).2.2)))))) [0, 3, 1, 2, 4, 5, 6, 7, 8, 9, 10] rfl (fun _ => rfl) (fun _ hu16 => ?_)
  exact g_eq rfl rfl rfl (hret () _ _ trivial dX5_fault_19)
set_option maxHeartbeats 4000000 in
set_option maxRecDepth 100000 in
theorem c_X5_lay_n (l : Launch) (E : EV) (ae : Nat → Nat) (ab : Nat → Nat) (ar : Nat → Nat) (an : Nat → Nat) (af : Nat → Nat) (ah : Nat → Nat) (ak : Nat → Nat) (ax : Nat → Nat) (ag : Nat → Nat) (z : Nat) (tx : Nat → Nat) (R : RC) (D : FC) (hz : z ≤ 200) (htx : ∀ j, tx j < 2 ^ 16) (hq : ∀ j, R j < 100) (hno : (rdA tx z 200 0 R (emC D)).1 = none → cN (rdA tx z 200 0 R (emC D)).2.2 = 0) : KI l yX5_lay wsX5_lay (rmN 6) E (σ := Unit) [.ref (ae 0)] ((lfo E ae ab ar an af ah ak ax ag z ++ (tw E ab 200 tx ++ (rw_ E ar R ++ (fw E af D))))) (fun _ => True) (fun _ => (-2)) (fun _ => (lfo E ae ab ar an af ah ak ax ag z ++ (tw E ab 200 tx ++ (rw_ E ar ((rdA tx z 200 0 R (emC D)).2.1) ++ (fw E af ((rdA tx z 200 0 R (emC D)).2.2)))))) 0 0 := by
  refine KI.of (cc := cX5_lay) (maxL := 1) (ty := .int) (hnar := fun _ _ => rfl) rfl rfl rfl (fun x hX hin hret hnL => ?_)
  replace hX : CX x l cX5_lay RX5 wsX5_lay E (rmN 6) := hX
  show GG x 0 0 ((lfo E ae ab ar an af ah ak ax ag z ++ (tw E ab 200 tx ++ (rw_ E ar R ++ (fw E af D))))) 0 [(0, .ref (ae 0))] []
  have inRX0 : ∀ w ∈ wsX00, w ∈ wsX5_lay := by decide +kernel
  have inRX5 : ∀ w ∈ wsX50, w ∈ wsX5_lay := by decide +kernel
  have fl16 : Cond.fieldLink RX5 16 "LieForce" "reader" "LLieForce$Reader;" ∈ wsX5_lay := by decide +kernel
  have fl31 : Cond.fieldLink RX5 31 "LieForce" "ahead" "LLieForce$Force;" ∈ wsX5_lay := by decide +kernel
  have fl76 : Cond.fieldLink RX5 76 "LieForce" "length" "I" ∈ wsX5_lay := by decide +kernel
  have fl80 : Cond.fieldLink RX5 80 "LieForce$Force" "sayings" "I" ∈ wsX5_lay := by decide +kernel
  have fl9 : Cond.fieldLink RX5 9 "LieForce" "letters" "[C" ∈ wsX5_lay := by decide +kernel
  refine g_aload_n hX dX5_lay_0 0 rfl ?_
  refine g_get hX (v := .ref (ar 0)) 0 inRX5 rfl rfl 2 rfl fl16 rfl rfl dX5_lay_1 ?_
  refine g_aload_n hX dX5_lay_4 0 rfl ?_
  refine g_get hX (v := .ref (ab 0)) 0 inRX5 rfl rfl 0 rfl fl9 rfl rfl dX5_lay_5 ?_
  refine g_aload_n hX dX5_lay_8 0 rfl ?_
  refine g_get hX (v := .int (nI z)) 0 inRX5 rfl rfl 1 rfl fl76 rfl rfl dX5_lay_9 ?_
  refine g_aload_n hX dX5_lay_12 0 rfl ?_
  refine g_get hX (v := .ref (af 0)) 0 inRX5 rfl rfl 4 rfl fl31 rfl rfl dX5_lay_13 ?_
  have hc16 : CUT ((lfo E ae ab ar an af ah ak ax ag z ++ (tw E ab 200 tx ++ (rw_ E ar R ++ (fw E af D))))) ((rw_ E ar R ++ (tw E ab 200 tx ++ (fw E af D)))) (lfo E ae ab ar an af ah ak ax ag z) [2, 3, 1, 4, 5, 6, 7, 8, 9, 10] [0] := ⟨rfl, rfl, rfl, rfl, rfl⟩
  refine g_VI hX hc16 [.ref (ab 0), .int (nI z), .ref (af 0)] [] (c_X3_read l E ar R ab 200 tx z af D (by omega) (by omega) (by assumption) (by assumption)) gX5_lay_X3_read calX3_read rfl rfl rfl rfl 2 rfl rfl rfl rfl dX5_lay_16 rfl ⟨Nat.zero_le _, Nat.zero_le _⟩ (fun _ => (lfo E ae ab ar an af ah ak ax ag z ++ (tw E ab 200 tx ++ (rw_ E ar ((rdA tx z 200 0 R (emC D)).2.1) ++ (fw E af ((rdA tx z 200 0 R (emC D)).2.2)))))) [0, 3, 1, 2, 4, 5, 6, 7, 8, 9, 10] rfl (fun _ => rfl) (fun _ hu16 => ?_)
  refine g_bipush hX ((-4)) dX5_lay_19 rfl ?_
  refine g_icmp_ne hX 34 dX5_lay_21 (by decide) (fun c21 => ?_) (fun c21 => ?_)
  · replace c21 := mt (oI_n (fun t ht => rd_lt hz ht)).mpr c21
    refine g_bipush hX ((-2)) dX5_lay_34 rfl ?_
    exact g_eq rfl rfl rfl (hret () _ _ trivial dX5_lay_36)
  · replace c21 := (oI_n (fun t ht => rd_lt hz ht)).mp c21
    have h9 := (rd_RI c21).1.1.1
    refine g_aload_n hX dX5_lay_24 0 rfl ?_
    refine g_get hX (v := .ref (af 0)) 0 inRX5 rfl rfl 4 rfl fl31 rfl rfl dX5_lay_25 ?_
    refine g_get hX (v := .int (nI (cN ((rdA tx z 200 0 R (emC D)).2.2)))) 4 inRX0 rfl rfl 1 rfl fl80 rfl rfl dX5_lay_28 ?_
    refine g_if_ne hX 37 dX5_lay_31 (by decide) (fun c31 => ?_) (fun c31 => ?_)
    · replace c31 := mt (nz_eq (by omega)).mpr c31
      exact absurd (hno c21) c31
    · replace c31 := (nz_eq (by omega)).mp c31
      refine g_bipush hX ((-2)) dX5_lay_34 rfl ?_
      exact g_eq rfl rfl rfl (hret () _ _ trivial dX5_lay_36)
set_option maxHeartbeats 4000000 in
set_option maxRecDepth 100000 in
theorem c_X5_lay_y (l : Launch) (E : EV) (ae : Nat → Nat) (ab : Nat → Nat) (ar : Nat → Nat) (an : Nat → Nat) (af : Nat → Nat) (ah : Nat → Nat) (ak : Nat → Nat) (ax : Nat → Nat) (ag : Nat → Nat) (z : Nat) (tx : Nat → Nat) (R : RC) (C : FC) (D : FC) (V : PV) (U : PV) (S : SC) (hz : z ≤ 200) (htx : ∀ j, tx j < 2 ^ 16) (hq : ∀ j, R j < 100) (hyes : (rdA tx z 200 0 R (emC D)).1 = none) (hpos : 0 < cN ((rdA tx z 200 0 R (emC D)).2.2)) : KI l yX5_lay wsX5_lay (rmN 6) E (σ := Unit) [.ref (ae 0)] ((lfo E ae ab ar an af ah ak ax ag z ++ (tw E ab 200 tx ++ (rw_ E ar R ++ (fw E an C ++ (fw E af D ++ (pw8 E ah V ++ (pw2 E ak U ++ (sw E ax S))))))))) (fun _ => True) (fun _ => (nI (cN ((rdA tx z 200 0 R (emC D)).2.2)))) (fun _ => (lfo E ae ab ar an af ah ak ax ag z ++ (tw E ab 200 tx ++ (rw_ E ar ((rdA tx z 200 0 R (emC D)).2.1) ++ (fw E an ((rdA tx z 200 0 R (emC D)).2.2) ++ (fw E af ((rdA tx z 200 0 R (emC D)).2.2) ++ (pw8 E ah (pclr V) ++ (pw2 E ak (pclr U) ++ (sw E ax (shN S 0)))))))))) 0 0 := by
  refine KI.of (cc := cX5_lay) (maxL := 1) (ty := .int) (hnar := fun _ _ => rfl) rfl rfl rfl (fun x hX hin hret hnL => ?_)
  replace hX : CX x l cX5_lay RX5 wsX5_lay E (rmN 6) := hX
  show GG x 0 0 ((lfo E ae ab ar an af ah ak ax ag z ++ (tw E ab 200 tx ++ (rw_ E ar R ++ (fw E an C ++ (fw E af D ++ (pw8 E ah V ++ (pw2 E ak U ++ (sw E ax S))))))))) 0 [(0, .ref (ae 0))] []
  have inRX0 : ∀ w ∈ wsX00, w ∈ wsX5_lay := by decide +kernel
  have inRX5 : ∀ w ∈ wsX50, w ∈ wsX5_lay := by decide +kernel
  have fl16 : Cond.fieldLink RX5 16 "LieForce" "reader" "LLieForce$Reader;" ∈ wsX5_lay := by decide +kernel
  have fl24 : Cond.fieldLink RX5 24 "LieForce" "now" "LLieForce$Force;" ∈ wsX5_lay := by decide +kernel
  have fl31 : Cond.fieldLink RX5 31 "LieForce" "ahead" "LLieForce$Force;" ∈ wsX5_lay := by decide +kernel
  have fl39 : Cond.fieldLink RX5 39 "LieForce" "undoable" "LLieForce$Pile;" ∈ wsX5_lay := by decide +kernel
  have fl43 : Cond.fieldLink RX5 43 "LieForce" "kept" "LLieForce$Pile;" ∈ wsX5_lay := by decide +kernel
  have fl49 : Cond.fieldLink RX5 49 "LieForce" "sight" "LLieForce$Sight;" ∈ wsX5_lay := by decide +kernel
  have fl76 : Cond.fieldLink RX5 76 "LieForce" "length" "I" ∈ wsX5_lay := by decide +kernel
  have fl80 : Cond.fieldLink RX5 80 "LieForce$Force" "sayings" "I" ∈ wsX5_lay := by decide +kernel
  have fl9 : Cond.fieldLink RX5 9 "LieForce" "letters" "[C" ∈ wsX5_lay := by decide +kernel
  refine g_aload_n hX dX5_lay_0 0 rfl ?_
  refine g_get hX (v := .ref (ar 0)) 0 inRX5 rfl rfl 2 rfl fl16 rfl rfl dX5_lay_1 ?_
  refine g_aload_n hX dX5_lay_4 0 rfl ?_
  refine g_get hX (v := .ref (ab 0)) 0 inRX5 rfl rfl 0 rfl fl9 rfl rfl dX5_lay_5 ?_
  refine g_aload_n hX dX5_lay_8 0 rfl ?_
  refine g_get hX (v := .int (nI z)) 0 inRX5 rfl rfl 1 rfl fl76 rfl rfl dX5_lay_9 ?_
  refine g_aload_n hX dX5_lay_12 0 rfl ?_
  refine g_get hX (v := .ref (af 0)) 0 inRX5 rfl rfl 4 rfl fl31 rfl rfl dX5_lay_13 ?_
  have hc16 : CUT ((lfo E ae ab ar an af ah ak ax ag z ++ (tw E ab 200 tx ++ (rw_ E ar R ++ (fw E an C ++ (fw E af D ++ (pw8 E ah V ++ (pw2 E ak U ++ (sw E ax S))))))))) ((rw_ E ar R ++ (tw E ab 200 tx ++ (fw E af D)))) ((lfo E ae ab ar an af ah ak ax ag z ++ (fw E an C ++ (pw8 E ah V ++ (pw2 E ak U ++ (sw E ax S)))))) [2, 3, 1, 11, 12, 13, 14, 15, 16, 17] [0, 4, 5, 6, 7, 8, 9, 10, 18, 19, 20, 21, 22, 23, 24, 25, 26, 27, 28, 29, 30, 31, 32, 33, 34, 35, 36, 37, 38, 39, 40, 41, 42, 43, 44, 45, 46, 47, 48, 49, 50, 51, 52, 53, 54, 55, 56, 57, 58, 59, 60, 61, 62, 63, 64, 65, 66, 67, 68, 69, 70, 71, 72, 73, 74, 75, 76, 77, 78, 79, 80, 81, 82, 83, 84, 85, 86, 87, 88, 89, 90, 91, 92, 93, 94] := ⟨rfl, rfl, rfl, rfl, rfl⟩
  refine g_VI hX hc16 [.ref (ab 0), .int (nI z), .ref (af 0)] [] (c_X3_read l E ar R ab 200 tx z af D (by omega) (by omega) (by assumption) (by assumption)) gX5_lay_X3_read calX3_read rfl rfl rfl rfl 2 rfl rfl rfl rfl dX5_lay_16 rfl ⟨Nat.zero_le _, Nat.zero_le _⟩ (fun _ => (lfo E ae ab ar an af ah ak ax ag z ++ (tw E ab 200 tx ++ (rw_ E ar ((rdA tx z 200 0 R (emC D)).2.1) ++ (fw E an C ++ (fw E af ((rdA tx z 200 0 R (emC D)).2.2) ++ (pw8 E ah V ++ (pw2 E ak U ++ (sw E ax S))))))))) [0, 87, 85, 86, 1, 2, 3, 4, 5, 6, 7, 88, 89, 90, 91, 92, 93, 94, 8, 9, 10, 11, 12, 13, 14, 15, 16, 17, 18, 19, 20, 21, 22, 23, 24, 25, 26, 27, 28, 29, 30, 31, 32, 33, 34, 35, 36, 37, 38, 39, 40, 41, 42, 43, 44, 45, 46, 47, 48, 49, 50, 51, 52, 53, 54, 55, 56, 57, 58, 59, 60, 61, 62, 63, 64, 65, 66, 67, 68, 69, 70, 71, 72, 73, 74, 75, 76, 77, 78, 79, 80, 81, 82, 83, 84] rfl (fun _ => rfl) (fun _ hu16 => ?_)
  refine g_bipush hX ((-4)) dX5_lay_19 rfl ?_
  refine g_icmp_ne hX 34 dX5_lay_21 (by decide) (fun c21 => ?_) (fun c21 => ?_)
  · replace c21 := mt (oI_n (fun t ht => rd_lt hz ht)).mpr c21
    exact absurd hyes c21
  · replace c21 := (oI_n (fun t ht => rd_lt hz ht)).mp c21
    have h9 := (rd_RI c21).1.1.1
    refine g_aload_n hX dX5_lay_24 0 rfl ?_
    refine g_get hX (v := .ref (af 0)) 0 inRX5 rfl rfl 4 rfl fl31 rfl rfl dX5_lay_25 ?_
    refine g_get hX (v := .int (nI (cN ((rdA tx z 200 0 R (emC D)).2.2)))) 11 inRX0 rfl rfl 1 rfl fl80 rfl rfl dX5_lay_28 ?_
    refine g_if_ne hX 37 dX5_lay_31 (by decide) (fun c31 => ?_) (fun c31 => ?_)
    · replace c31 := mt (nz_eq (by omega)).mpr c31
      refine g_aload_n hX dX5_lay_37 0 rfl ?_
      refine g_get hX (v := .ref (an 0)) 0 inRX5 rfl rfl 3 rfl fl24 rfl rfl dX5_lay_38 ?_
      refine g_aload_n hX dX5_lay_41 0 rfl ?_
      refine g_get hX (v := .ref (af 0)) 0 inRX5 rfl rfl 4 rfl fl31 rfl rfl dX5_lay_42 ?_
      have hc45 : CUT ((lfo E ae ab ar an af ah ak ax ag z ++ (tw E ab 200 tx ++ (rw_ E ar ((rdA tx z 200 0 R (emC D)).2.1) ++ (fw E an C ++ (fw E af ((rdA tx z 200 0 R (emC D)).2.2) ++ (pw8 E ah V ++ (pw2 E ak U ++ (sw E ax S))))))))) ((fw E an C) ++ (fw E af ((rdA tx z 200 0 R (emC D)).2.2))) ((lfo E ae ab ar an af ah ak ax ag z ++ (tw E ab 200 tx ++ (rw_ E ar ((rdA tx z 200 0 R (emC D)).2.1) ++ (pw8 E ah V ++ (pw2 E ak U ++ (sw E ax S))))))) [4, 5, 6, 7, 8, 9, 10, 11, 12, 13, 14, 15, 16, 17] [0, 1, 2, 3, 18, 19, 20, 21, 22, 23, 24, 25, 26, 27, 28, 29, 30, 31, 32, 33, 34, 35, 36, 37, 38, 39, 40, 41, 42, 43, 44, 45, 46, 47, 48, 49, 50, 51, 52, 53, 54, 55, 56, 57, 58, 59, 60, 61, 62, 63, 64, 65, 66, 67, 68, 69, 70, 71, 72, 73, 74, 75, 76, 77, 78, 79, 80, 81, 82, 83, 84, 85, 86, 87, 88, 89, 90, 91, 92, 93, 94] := ⟨rfl, rfl, rfl, rfl, rfl⟩
      refine g_VV hX hc45 [.ref (af 0)] [] (c_X0_copy l E an C af ((rdA tx z 200 0 R (emC D)).2.2)) gX5_lay_X0_copy calX0_copy rfl rfl rfl rfl 4 rfl rfl rfl rfl dX5_lay_45 rfl ⟨Nat.zero_le _, Nat.zero_le _⟩ (fun _ => (lfo E ae ab ar an af ah ak ax ag z ++ (tw E ab 200 tx ++ (rw_ E ar ((rdA tx z 200 0 R (emC D)).2.1) ++ (fw E an ((rdA tx z 200 0 R (emC D)).2.2) ++ (fw E af ((rdA tx z 200 0 R (emC D)).2.2) ++ (pw8 E ah V ++ (pw2 E ak U ++ (sw E ax S))))))))) [0, 1, 2, 3, 81, 82, 83, 84, 85, 86, 87, 88, 89, 90, 91, 92, 93, 94, 4, 5, 6, 7, 8, 9, 10, 11, 12, 13, 14, 15, 16, 17, 18, 19, 20, 21, 22, 23, 24, 25, 26, 27, 28, 29, 30, 31, 32, 33, 34, 35, 36, 37, 38, 39, 40, 41, 42, 43, 44, 45, 46, 47, 48, 49, 50, 51, 52, 53, 54, 55, 56, 57, 58, 59, 60, 61, 62, 63, 64, 65, 66, 67, 68, 69, 70, 71, 72, 73, 74, 75, 76, 77, 78, 79, 80] rfl (fun _ => rfl) (fun _ hu45 => ?_)
      refine g_aload_n hX dX5_lay_48 0 rfl ?_
      refine g_get hX (v := .ref (ah 0)) 0 inRX5 rfl rfl 5 rfl fl39 rfl rfl dX5_lay_49 ?_
      have hc52 : CUT ((lfo E ae ab ar an af ah ak ax ag z ++ (tw E ab 200 tx ++ (rw_ E ar ((rdA tx z 200 0 R (emC D)).2.1) ++ (fw E an ((rdA tx z 200 0 R (emC D)).2.2) ++ (fw E af ((rdA tx z 200 0 R (emC D)).2.2) ++ (pw8 E ah V ++ (pw2 E ak U ++ (sw E ax S))))))))) (pw8 E ah V) ((lfo E ae ab ar an af ah ak ax ag z ++ (tw E ab 200 tx ++ (rw_ E ar ((rdA tx z 200 0 R (emC D)).2.1) ++ (fw E an ((rdA tx z 200 0 R (emC D)).2.2) ++ (fw E af ((rdA tx z 200 0 R (emC D)).2.2) ++ (pw2 E ak U ++ (sw E ax S)))))))) [18, 19, 20, 21, 22, 23, 24, 25, 26, 27, 28, 29, 30, 31, 32, 33, 34, 35, 36, 37, 38, 39, 40, 41, 42, 43, 44, 45, 46, 47, 48, 49, 50, 51, 52, 53, 54, 55, 56, 57, 58, 59, 60, 61, 62, 63, 64, 65, 66, 67, 68, 69, 70, 71, 72, 73, 74, 75] [0, 1, 2, 3, 4, 5, 6, 7, 8, 9, 10, 11, 12, 13, 14, 15, 16, 17, 76, 77, 78, 79, 80, 81, 82, 83, 84, 85, 86, 87, 88, 89, 90, 91, 92, 93, 94] := ⟨rfl, rfl, rfl, rfl, rfl⟩
      refine g_VV hX hc52 [] [] (c_X2_clear8 l E ah V) gX5_lay_X2_clear calX2_clear rfl rfl rfl rfl 18 rfl rfl rfl rfl dX5_lay_52 rfl ⟨Nat.zero_le _, Nat.zero_le _⟩ (fun _ => (lfo E ae ab ar an af ah ak ax ag z ++ (tw E ab 200 tx ++ (rw_ E ar ((rdA tx z 200 0 R (emC D)).2.1) ++ (fw E an ((rdA tx z 200 0 R (emC D)).2.2) ++ (fw E af ((rdA tx z 200 0 R (emC D)).2.2) ++ (pw8 E ah (pclr V) ++ (pw2 E ak U ++ (sw E ax S))))))))) [0, 1, 2, 3, 4, 5, 6, 7, 8, 9, 10, 11, 12, 13, 14, 15, 16, 17, 37, 38, 39, 40, 41, 42, 43, 44, 45, 46, 47, 48, 49, 50, 51, 52, 53, 54, 55, 56, 57, 58, 59, 60, 61, 62, 63, 64, 65, 66, 67, 68, 69, 70, 71, 72, 73, 74, 75, 76, 77, 78, 79, 80, 81, 82, 83, 84, 85, 86, 87, 88, 89, 90, 91, 92, 93, 94, 18, 19, 20, 21, 22, 23, 24, 25, 26, 27, 28, 29, 30, 31, 32, 33, 34, 35, 36] rfl (fun _ => rfl) (fun _ hu52 => ?_)
      refine g_aload_n hX dX5_lay_55 0 rfl ?_
      refine g_get hX (v := .ref (ak 0)) 0 inRX5 rfl rfl 6 rfl fl43 rfl rfl dX5_lay_56 ?_
      have hc59 : CUT ((lfo E ae ab ar an af ah ak ax ag z ++ (tw E ab 200 tx ++ (rw_ E ar ((rdA tx z 200 0 R (emC D)).2.1) ++ (fw E an ((rdA tx z 200 0 R (emC D)).2.2) ++ (fw E af ((rdA tx z 200 0 R (emC D)).2.2) ++ (pw8 E ah (pclr V) ++ (pw2 E ak U ++ (sw E ax S))))))))) (pw2 E ak U) ((lfo E ae ab ar an af ah ak ax ag z ++ (tw E ab 200 tx ++ (rw_ E ar ((rdA tx z 200 0 R (emC D)).2.1) ++ (fw E an ((rdA tx z 200 0 R (emC D)).2.2) ++ (fw E af ((rdA tx z 200 0 R (emC D)).2.2) ++ (pw8 E ah (pclr V) ++ (sw E ax S)))))))) [76, 77, 78, 79, 80, 81, 82, 83, 84, 85, 86, 87, 88, 89, 90, 91] [0, 1, 2, 3, 4, 5, 6, 7, 8, 9, 10, 11, 12, 13, 14, 15, 16, 17, 18, 19, 20, 21, 22, 23, 24, 25, 26, 27, 28, 29, 30, 31, 32, 33, 34, 35, 36, 37, 38, 39, 40, 41, 42, 43, 44, 45, 46, 47, 48, 49, 50, 51, 52, 53, 54, 55, 56, 57, 58, 59, 60, 61, 62, 63, 64, 65, 66, 67, 68, 69, 70, 71, 72, 73, 74, 75, 92, 93, 94] := ⟨rfl, rfl, rfl, rfl, rfl⟩
      refine g_VV hX hc59 [] [] (c_X2_clear2 l E ak U) gX5_lay_X2_clear calX2_clear rfl rfl rfl rfl 76 rfl rfl rfl rfl dX5_lay_59 rfl ⟨Nat.zero_le _, Nat.zero_le _⟩ (fun _ => (lfo E ae ab ar an af ah ak ax ag z ++ (tw E ab 200 tx ++ (rw_ E ar ((rdA tx z 200 0 R (emC D)).2.1) ++ (fw E an ((rdA tx z 200 0 R (emC D)).2.2) ++ (fw E af ((rdA tx z 200 0 R (emC D)).2.2) ++ (pw8 E ah (pclr V) ++ (pw2 E ak (pclr U) ++ (sw E ax S))))))))) [0, 1, 2, 3, 4, 5, 6, 7, 8, 9, 10, 11, 12, 13, 14, 15, 16, 17, 18, 19, 20, 21, 22, 23, 24, 25, 26, 27, 28, 29, 30, 31, 32, 33, 34, 35, 36, 37, 38, 39, 40, 41, 42, 43, 44, 45, 46, 47, 48, 49, 50, 51, 52, 53, 54, 55, 56, 57, 58, 59, 60, 61, 62, 63, 64, 65, 66, 67, 68, 69, 70, 71, 72, 73, 74, 75, 79, 80, 81, 82, 83, 84, 85, 86, 87, 88, 89, 90, 91, 92, 93, 94, 76, 77, 78] rfl (fun _ => rfl) (fun _ hu59 => ?_)
      refine g_aload_n hX dX5_lay_62 0 rfl ?_
      refine g_get hX (v := .ref (ax 0)) 0 inRX5 rfl rfl 7 rfl fl49 rfl rfl dX5_lay_63 ?_
      have hc66 : CUT ((lfo E ae ab ar an af ah ak ax ag z ++ (tw E ab 200 tx ++ (rw_ E ar ((rdA tx z 200 0 R (emC D)).2.1) ++ (fw E an ((rdA tx z 200 0 R (emC D)).2.2) ++ (fw E af ((rdA tx z 200 0 R (emC D)).2.2) ++ (pw8 E ah (pclr V) ++ (pw2 E ak (pclr U) ++ (sw E ax S))))))))) (sw E ax S) ((lfo E ae ab ar an af ah ak ax ag z ++ (tw E ab 200 tx ++ (rw_ E ar ((rdA tx z 200 0 R (emC D)).2.1) ++ (fw E an ((rdA tx z 200 0 R (emC D)).2.2) ++ (fw E af ((rdA tx z 200 0 R (emC D)).2.2) ++ (pw8 E ah (pclr V) ++ (pw2 E ak (pclr U))))))))) [92, 93, 94] [0, 1, 2, 3, 4, 5, 6, 7, 8, 9, 10, 11, 12, 13, 14, 15, 16, 17, 18, 19, 20, 21, 22, 23, 24, 25, 26, 27, 28, 29, 30, 31, 32, 33, 34, 35, 36, 37, 38, 39, 40, 41, 42, 43, 44, 45, 46, 47, 48, 49, 50, 51, 52, 53, 54, 55, 56, 57, 58, 59, 60, 61, 62, 63, 64, 65, 66, 67, 68, 69, 70, 71, 72, 73, 74, 75, 76, 77, 78, 79, 80, 81, 82, 83, 84, 85, 86, 87, 88, 89, 90, 91] := ⟨rfl, rfl, rfl, rfl, rfl⟩
      refine g_VV hX hc66 [] [] (c_X4_clear l E ax S) gX5_lay_X4_clear calX4_clear rfl rfl rfl rfl 92 rfl rfl rfl rfl dX5_lay_66 rfl ⟨Nat.zero_le _, Nat.zero_le _⟩ (fun _ => (lfo E ae ab ar an af ah ak ax ag z ++ (tw E ab 200 tx ++ (rw_ E ar ((rdA tx z 200 0 R (emC D)).2.1) ++ (fw E an ((rdA tx z 200 0 R (emC D)).2.2) ++ (fw E af ((rdA tx z 200 0 R (emC D)).2.2) ++ (pw8 E ah (pclr V) ++ (pw2 E ak (pclr U) ++ (sw E ax (shN S 0)))))))))) [0, 1, 2, 3, 4, 5, 6, 7, 8, 9, 10, 11, 12, 13, 14, 15, 16, 17, 18, 19, 20, 21, 22, 23, 24, 25, 26, 27, 28, 29, 30, 31, 32, 33, 34, 35, 36, 37, 38, 39, 40, 41, 42, 43, 44, 45, 46, 47, 48, 49, 50, 51, 52, 53, 54, 55, 56, 57, 58, 59, 60, 61, 62, 63, 64, 65, 66, 67, 68, 69, 70, 71, 72, 73, 74, 75, 76, 77, 78, 79, 80, 81, 82, 83, 84, 85, 86, 87, 88, 89, 90, 91, 92, 93, 94] rfl (fun _ => rfl) (fun _ hu66 => ?_)
      refine g_aload_n hX dX5_lay_69 0 rfl ?_
      refine g_get hX (v := .ref (an 0)) 0 inRX5 rfl rfl 3 rfl fl24 rfl rfl dX5_lay_70 ?_
      refine g_get hX (v := .int (nI (cN ((rdA tx z 200 0 R (emC D)).2.2)))) 4 inRX0 rfl rfl 1 rfl fl80 rfl rfl dX5_lay_73 ?_
      exact g_eq rfl rfl rfl (hret () _ _ trivial dX5_lay_76)
    · replace c31 := (nz_eq (by omega)).mp c31
      omega
set_option maxHeartbeats 4000000 in
set_option maxRecDepth 100000 in
theorem c_X5_saying_n1 (l : Launch) (E : EV) (ae : Nat → Nat) (ab : Nat → Nat) (ar : Nat → Nat) (an : Nat → Nat) (af : Nat → Nat) (ah : Nat → Nat) (ak : Nat → Nat) (ax : Nat → Nat) (ag : Nat → Nat) (z : Nat) (C : FC) (x0 : Int32) (x1 : Int32) (hC : FO C) (h1 : 1 ≤ cN C) (hx : win x0 (nI 0) (nI (cN C - 1)) = false) : KI l yX5_saying wsX5_saying (rmN 6) E (σ := Unit) [.ref (ae 0), .int x0, .int x1] ((lfo E ae ab ar an af ah ak ax ag z) ++ (fw E an C)) (fun _ => True) (fun _ => (-1)) (fun _ => (lfo E ae ab ar an af ah ak ax ag z) ++ (fw E an C)) 0 0 := by
  refine KI.of (cc := cX5_saying) (maxL := 3) (ty := .int) (hnar := fun _ _ => rfl) rfl rfl rfl (fun x hX hin hret hnL => ?_)
  replace hX : CX x l cX5_saying RX5 wsX5_saying E (rmN 6) := hX
  show GG x 0 0 ((lfo E ae ab ar an af ah ak ax ag z) ++ (fw E an C)) 0 [(0, .ref (ae 0)), (1, .int x0), (2, .int x1)] []
  have inRX5 : ∀ w ∈ wsX50, w ∈ wsX5_saying := by decide +kernel
  have fl24 : Cond.fieldLink RX5 24 "LieForce" "now" "LLieForce$Force;" ∈ wsX5_saying := by decide +kernel
  refine g_aload_n hX dX5_saying_0 0 rfl ?_
  refine g_get hX (v := .ref (an 0)) 0 inRX5 rfl rfl 3 rfl fl24 rfl rfl dX5_saying_1 ?_
  refine g_iload_n hX dX5_saying_4 1 rfl ?_
  have hc5 : CUT ((lfo E ae ab ar an af ah ak ax ag z) ++ (fw E an C)) (fw E an C) (lfo E ae ab ar an af ah ak ax ag z) [1, 2, 3, 4, 5, 6, 7] [0] := ⟨rfl, rfl, rfl, rfl, rfl⟩
  refine g_VI hX hc5 [.int x0] [] (c_X0_isThere l E an C x0) gX5_saying_X0_isThere calX0_isThere rfl rfl rfl rfl 1 rfl rfl rfl rfl dX5_saying_5 rfl ⟨Nat.zero_le _, Nat.zero_le _⟩ (fun _ => (lfo E ae ab ar an af ah ak ax ag z) ++ (fw E an C)) [0, 1, 2, 3, 4, 5, 6, 7] rfl (fun _ => rfl) (fun _ hu5 => ?_)
  refine g_if_ne hX 13 dX5_saying_8 (by decide) (fun c8 => ?_) (fun c8 => ?_)
  · replace c8 := mt bI_0.mpr c8
    replace c8 := bNf c8
    rw [thB_win h1 hC.1, hx] at c8; cases c8
  · replace c8 := bI_0.mp c8
    refine g_iconst hX ((-1)) dX5_saying_11 rfl ?_
    exact g_eq rfl rfl rfl (hret () _ _ trivial dX5_saying_12)
set_option maxHeartbeats 4000000 in
set_option maxRecDepth 100000 in
theorem c_X5_saying_t (l : Launch) (E : EV) (ae : Nat → Nat) (ab : Nat → Nat) (ar : Nat → Nat) (an : Nat → Nat) (af : Nat → Nat) (ah : Nat → Nat) (ak : Nat → Nat) (ax : Nat → Nat) (ag : Nat → Nat) (z : Nat) (C : FC) (s : Nat) (x1 : Int32) (hC : FO C) (h1 : 1 ≤ cN C) (hV : VB C) (hK : ∀ s, s < cN C → SK C s) (hs : s < cN C) : KI l yX5_saying wsX5_saying (rmN 6) E (σ := Unit) [.ref (ae 0), .int (nI s), .int x1] ((lfo E ae ab ar an af ah ak ax ag z) ++ (fw E an C)) (fun _ => True) (fun _ => (syV C s x1)) (fun _ => (lfo E ae ab ar an af ah ak ax ag z) ++ (fw E an C)) 0 0 := by
  refine KI.of (cc := cX5_saying) (maxL := 3) (ty := .int) (hnar := fun _ _ => rfl) rfl rfl rfl (fun x hX hin hret hnL => ?_)
  replace hX : CX x l cX5_saying RX5 wsX5_saying E (rmN 6) := hX
  show GG x 0 0 ((lfo E ae ab ar an af ah ak ax ag z) ++ (fw E an C)) 0 [(0, .ref (ae 0)), (1, .int (nI s)), (2, .int x1)] []
  have inRX0 : ∀ w ∈ wsX00, w ∈ wsX5_saying := by decide +kernel
  have inRX5 : ∀ w ∈ wsX50, w ∈ wsX5_saying := by decide +kernel
  have fl102 : Cond.fieldLink RX5 102 "LieForce$Force" "seconds" "[I" ∈ wsX5_saying := by decide +kernel
  have fl105 : Cond.fieldLink RX5 105 "LieForce$Force" "persons" "[I" ∈ wsX5_saying := by decide +kernel
  have fl108 : Cond.fieldLink RX5 108 "LieForce$Force" "facts" "I" ∈ wsX5_saying := by decide +kernel
  have fl125 : Cond.fieldLink RX5 125 "LieForce$Force" "served" "[I" ∈ wsX5_saying := by decide +kernel
  have fl24 : Cond.fieldLink RX5 24 "LieForce" "now" "LLieForce$Force;" ∈ wsX5_saying := by decide +kernel
  have fl95 : Cond.fieldLink RX5 95 "LieForce$Force" "kinds" "[I" ∈ wsX5_saying := by decide +kernel
  have fl99 : Cond.fieldLink RX5 99 "LieForce$Force" "firsts" "[I" ∈ wsX5_saying := by decide +kernel
  obtain ⟨h9, h64, h512, hT, hI⟩ := id hC
  have hk5 := (hK s hs).1
  have hvs := hV s hs
  refine g_aload_n hX dX5_saying_0 0 rfl ?_
  refine g_get hX (v := .ref (an 0)) 0 inRX5 rfl rfl 3 rfl fl24 rfl rfl dX5_saying_1 ?_
  refine g_iload_n hX dX5_saying_4 1 rfl ?_
  have hc5 : CUT ((lfo E ae ab ar an af ah ak ax ag z) ++ (fw E an C)) (fw E an C) (lfo E ae ab ar an af ah ak ax ag z) [1, 2, 3, 4, 5, 6, 7] [0] := ⟨rfl, rfl, rfl, rfl, rfl⟩
  refine g_VI hX hc5 [.int (nI s)] [] (c_X0_isThere_t l E an C s (by first | assumption | omega) (by omega)) gX5_saying_X0_isThere calX0_isThere rfl rfl rfl rfl 1 rfl rfl rfl rfl dX5_saying_5 rfl ⟨Nat.zero_le _, Nat.zero_le _⟩ (fun _ => (lfo E ae ab ar an af ah ak ax ag z) ++ (fw E an C)) [0, 1, 2, 3, 4, 5, 6, 7] rfl (fun _ => rfl) (fun _ hu5 => ?_)
  refine g_if_ne hX 13 dX5_saying_8 (by decide) (fun c8 => ?_) (fun c8 => ?_)
  · replace c8 := mt bI_0.mpr c8
    replace c8 := bNf c8
    refine g_iload_n hX dX5_saying_13 2 rfl ?_
    by_cases sw14_0 : x1 = nI 0
    · refine g_tin hX 56 dX5_saying_14 (by rw [sw14_0]; decide) (by rw [sw14_0]; decide) (by rw [sw14_0]; rfl) (by decide) ?_
      refine g_aload_n hX dX5_saying_56 0 rfl ?_
      refine g_get hX (v := .ref (an 0)) 0 inRX5 rfl rfl 3 rfl fl24 rfl rfl dX5_saying_57 ?_
      refine g_get hX (v := .ref (an 1)) 1 inRX0 rfl rfl 5 rfl fl95 rfl rfl dX5_saying_60 ?_
      refine g_iload_n hX dX5_saying_63 1 rfl ?_
      refine g_iald hX (nI (cK C s)) 2 0 rfl rfl (vp_in_nI (by omega) (by omega)) (ald_n (g := fun zz => nI (cK C zz)) (i := s) (by omega)) dX5_saying_64 ?_
      exact g_eq rfl rfl (congrArg (fun z => [Value.int z]) (by show _ = syV C s x1; rw [syV, if_pos sw14_0])) (hret () _ _ trivial dX5_saying_65)
    by_cases sw14_1 : x1 = nI 1
    · refine g_tin hX 66 dX5_saying_14 (by rw [sw14_1]; decide) (by rw [sw14_1]; decide) (by rw [sw14_1]; rfl) (by decide) ?_
      refine g_aload_n hX dX5_saying_66 0 rfl ?_
      refine g_get hX (v := .ref (an 0)) 0 inRX5 rfl rfl 3 rfl fl24 rfl rfl dX5_saying_67 ?_
      refine g_get hX (v := .ref (an 2)) 1 inRX0 rfl rfl 6 rfl fl99 rfl rfl dX5_saying_70 ?_
      refine g_iload_n hX dX5_saying_73 1 rfl ?_
      refine g_iald hX (nI (cA C s)) 3 0 rfl rfl (vp_in_nI (by omega) (by omega)) (ald_n (g := fun zz => nI (cA C zz)) (i := s) (by omega)) dX5_saying_74 ?_
      exact g_eq rfl rfl (congrArg (fun z => [Value.int z]) (by show _ = syV C s x1; rw [syV, if_neg sw14_0, if_pos sw14_1])) (hret () _ _ trivial dX5_saying_75)
    by_cases sw14_2 : x1 = nI 2
    · refine g_tin hX 76 dX5_saying_14 (by rw [sw14_2]; decide) (by rw [sw14_2]; decide) (by rw [sw14_2]; rfl) (by decide) ?_
      refine g_aload_n hX dX5_saying_76 0 rfl ?_
      refine g_get hX (v := .ref (an 0)) 0 inRX5 rfl rfl 3 rfl fl24 rfl rfl dX5_saying_77 ?_
      refine g_get hX (v := .ref (an 1)) 1 inRX0 rfl rfl 5 rfl fl95 rfl rfl dX5_saying_80 ?_
      refine g_iload_n hX dX5_saying_83 1 rfl ?_
      refine g_iald hX (nI (cK C s)) 2 0 rfl rfl (vp_in_nI (by omega) (by omega)) (ald_n (g := fun zz => nI (cK C zz)) (i := s) (by omega)) dX5_saying_84 ?_
      refine g_if_ne hX 93 dX5_saying_85 (by decide) (fun c85 => ?_) (fun c85 => ?_)
      · replace c85 := mt (nz_eq (by omega)).mpr c85
        refine g_aload_n hX dX5_saying_93 0 rfl ?_
        refine g_get hX (v := .ref (an 0)) 0 inRX5 rfl rfl 3 rfl fl24 rfl rfl dX5_saying_94 ?_
        refine g_get hX (v := .ref (an 3)) 1 inRX0 rfl rfl 7 rfl fl102 rfl rfl dX5_saying_97 ?_
        refine g_iload_n hX dX5_saying_100 1 rfl ?_
        refine g_iald hX (nI (cB C s)) 4 0 rfl rfl (vp_in_nI (by omega) (by omega)) (ald_n (g := fun zz => nI (cB C zz)) (i := s) (by omega)) dX5_saying_101 ?_
        exact g_eq rfl rfl (congrArg (fun z => [Value.int z]) (by show _ = syV C s x1; rw [syV, if_neg sw14_0, if_neg sw14_1, if_pos sw14_2]; simp [c85])) (hret () _ _ trivial dX5_saying_102)
      · replace c85 := (nz_eq (by omega)).mp c85
        refine g_bipush hX ((-4)) dX5_saying_88 rfl ?_
        refine g_goto hX 102 dX5_saying_90 (by decide) ?_
        exact g_eq rfl rfl (congrArg (fun z => [Value.int z]) (by show _ = syV C s x1; rw [syV, if_neg sw14_0, if_neg sw14_1, if_pos sw14_2]; simp [c85])) (hret () _ _ trivial dX5_saying_102)
    by_cases sw14_3 : x1 = nI 3
    · refine g_tin hX 103 dX5_saying_14 (by rw [sw14_3]; decide) (by rw [sw14_3]; decide) (by rw [sw14_3]; rfl) (by decide) ?_
      refine g_aload_n hX dX5_saying_103 0 rfl ?_
      refine g_get hX (v := .ref (an 0)) 0 inRX5 rfl rfl 3 rfl fl24 rfl rfl dX5_saying_104 ?_
      refine g_get hX (v := .ref (an 4)) 1 inRX0 rfl rfl 8 rfl fl105 rfl rfl dX5_saying_107 ?_
      refine g_iload_n hX dX5_saying_110 1 rfl ?_
      refine g_iald hX (nI (cP C s)) 5 0 rfl rfl (vp_in_nI (by omega) (by omega)) (ald_n (g := fun zz => nI (cP C zz)) (i := s) (by omega)) dX5_saying_111 ?_
      exact g_eq rfl rfl (congrArg (fun z => [Value.int z]) (by show _ = syV C s x1; rw [syV, if_neg sw14_0, if_neg sw14_1, if_neg sw14_2, if_pos sw14_3])) (hret () _ _ trivial dX5_saying_112)
    by_cases sw14_4 : x1 = nI 4
    · refine g_tin hX 113 dX5_saying_14 (by rw [sw14_4]; decide) (by rw [sw14_4]; decide) (by rw [sw14_4]; rfl) (by decide) ?_
      refine g_aload_n hX dX5_saying_113 0 rfl ?_
      refine g_get hX (v := .ref (an 0)) 0 inRX5 rfl rfl 3 rfl fl24 rfl rfl dX5_saying_114 ?_
      refine g_iload_n hX dX5_saying_117 1 rfl ?_
      refine g_aload_n hX dX5_saying_118 0 rfl ?_
      refine g_get hX (v := .ref (an 0)) 0 inRX5 rfl rfl 3 rfl fl24 rfl rfl dX5_saying_119 ?_
      refine g_get hX (v := .int (nI (cF C))) 1 inRX0 rfl rfl 0 rfl fl108 rfl rfl dX5_saying_122 ?_
      have hc125 : CUT ((lfo E ae ab ar an af ah ak ax ag z) ++ (fw E an C)) (fw E an C) (lfo E ae ab ar an af ah ak ax ag z) [1, 2, 3, 4, 5, 6, 7] [0] := ⟨rfl, rfl, rfl, rfl, rfl⟩
      refine g_VI hX hc125 [.int (nI s), .int (nI (cF C))] [] (c_X0_isSoIn l E an C s (cF C) (by first | assumption | omega) (by omega) (by omega)) gX5_saying_X0_isSoIn calX0_isSoIn rfl rfl rfl rfl 1 rfl rfl rfl rfl dX5_saying_125 rfl ⟨Nat.zero_le _, Nat.zero_le _⟩ (fun _ => (lfo E ae ab ar an af ah ak ax ag z) ++ (fw E an C)) [0, 1, 2, 3, 4, 5, 6, 7] rfl (fun _ => rfl) (fun _ hu125 => ?_)
      have hc128 : CUT ((lfo E ae ab ar an af ah ak ax ag z) ++ (fw E an C)) (([] : va_W)) ((lfo E ae ab ar an af ah ak ax ag z) ++ (fw E an C)) [] [0, 1, 2, 3, 4, 5, 6, 7] := ⟨rfl, rfl, rfl, rfl, rfl⟩
      refine g_TI hX hc128 [.int (bI (((cW C) s).testBit (cF C)))] [] (c_X5_asNumber l E (((cW C) s).testBit (cF C))) gX5_saying_X5_asNumber calX5_asNumber rfl rfl rfl rfl dX5_saying_128 rfl ⟨Nat.zero_le _, Nat.zero_le _⟩ (fun _ => (lfo E ae ab ar an af ah ak ax ag z) ++ (fw E an C)) [0, 1, 2, 3, 4, 5, 6, 7] rfl (fun _ => rfl) (fun _ hu128 => ?_)
      exact g_eq rfl rfl (congrArg (fun z => [Value.int z]) (by show _ = syV C s x1; rw [syV, if_neg sw14_0, if_neg sw14_1, if_neg sw14_2, if_neg sw14_3, if_pos sw14_4])) (hret () _ _ trivial dX5_saying_131)
    by_cases sw14_5 : x1 = nI 5
    · refine g_tin hX 132 dX5_saying_14 (by rw [sw14_5]; decide) (by rw [sw14_5]; decide) (by rw [sw14_5]; rfl) (by decide) ?_
      refine g_aload_n hX dX5_saying_132 0 rfl ?_
      refine g_get hX (v := .ref (an 0)) 0 inRX5 rfl rfl 3 rfl fl24 rfl rfl dX5_saying_133 ?_
      refine g_iload_n hX dX5_saying_136 1 rfl ?_
      have hc137 : CUT ((lfo E ae ab ar an af ah ak ax ag z) ++ (fw E an C)) (fw E an C) (lfo E ae ab ar an af ah ak ax ag z) [1, 2, 3, 4, 5, 6, 7] [0] := ⟨rfl, rfl, rfl, rfl, rfl⟩
      refine g_VI hX hc137 [.int (nI s)] [] (c_X0_isWithdrawn l E an C s (by first | assumption | omega) (by omega)) gX5_saying_X0_isWithdrawn calX0_isWithdrawn rfl rfl rfl rfl 1 rfl rfl rfl rfl dX5_saying_137 rfl ⟨Nat.zero_le _, Nat.zero_le _⟩ (fun _ => (lfo E ae ab ar an af ah ak ax ag z) ++ (fw E an C)) [0, 1, 2, 3, 4, 5, 6, 7] rfl (fun _ => rfl) (fun _ hu137 => ?_)
      have hc140 : CUT ((lfo E ae ab ar an af ah ak ax ag z) ++ (fw E an C)) (([] : va_W)) ((lfo E ae ab ar an af ah ak ax ag z) ++ (fw E an C)) [] [0, 1, 2, 3, 4, 5, 6, 7] := ⟨rfl, rfl, rfl, rfl, rfl⟩
      refine g_TI hX hc140 [.int (bI (((cG C)).testBit s))] [] (c_X5_asNumber l E (((cG C)).testBit s)) gX5_saying_X5_asNumber calX5_asNumber rfl rfl rfl rfl dX5_saying_140 rfl ⟨Nat.zero_le _, Nat.zero_le _⟩ (fun _ => (lfo E ae ab ar an af ah ak ax ag z) ++ (fw E an C)) [0, 1, 2, 3, 4, 5, 6, 7] rfl (fun _ => rfl) (fun _ hu140 => ?_)
      exact g_eq rfl rfl (congrArg (fun z => [Value.int z]) (by show _ = syV C s x1; rw [syV, if_neg sw14_0, if_neg sw14_1, if_neg sw14_2, if_neg sw14_3, if_neg sw14_4, if_pos sw14_5])) (hret () _ _ trivial dX5_saying_143)
    by_cases sw14_6 : x1 = nI 6
    · refine g_tin hX 144 dX5_saying_14 (by rw [sw14_6]; decide) (by rw [sw14_6]; decide) (by rw [sw14_6]; rfl) (by decide) ?_
      refine g_aload_n hX dX5_saying_144 0 rfl ?_
      refine g_get hX (v := .ref (an 0)) 0 inRX5 rfl rfl 3 rfl fl24 rfl rfl dX5_saying_145 ?_
      refine g_iload_n hX dX5_saying_148 1 rfl ?_
      have hc149 : CUT ((lfo E ae ab ar an af ah ak ax ag z) ++ (fw E an C)) (fw E an C) (lfo E ae ab ar an af ah ak ax ag z) [1, 2, 3, 4, 5, 6, 7] [0] := ⟨rfl, rfl, rfl, rfl, rfl⟩
      refine g_VI hX hc149 [.int (nI s)] [] (c_X0_hasPoliceman l E an C s (by first | assumption | omega) (by omega)) gX5_saying_X0_hasPoliceman calX0_hasPoliceman rfl rfl rfl rfl 1 rfl rfl rfl rfl dX5_saying_149 rfl ⟨Nat.zero_le _, Nat.zero_le _⟩ (fun _ => (lfo E ae ab ar an af ah ak ax ag z) ++ (fw E an C)) [0, 1, 2, 3, 4, 5, 6, 7] rfl (fun _ => rfl) (fun _ hu149 => ?_)
      refine g_if_eq hX 167 dX5_saying_152 (by decide) (fun c152 => ?_) (fun c152 => ?_)
      · replace c152 := bI_0.mp c152
        refine g_bipush hX ((-4)) dX5_saying_167 rfl ?_
        exact g_eq rfl rfl (congrArg (fun z => [Value.int z]) (by show _ = syV C s x1; rw [syV, if_neg sw14_0, if_neg sw14_1, if_neg sw14_2, if_neg sw14_3, if_neg sw14_4, if_neg sw14_5, if_pos sw14_6]; simp [c152])) (hret () _ _ trivial dX5_saying_169)
      · replace c152 := mt bI_0.mpr c152
        replace c152 := bNf c152
        refine g_aload_n hX dX5_saying_155 0 rfl ?_
        refine g_get hX (v := .ref (an 0)) 0 inRX5 rfl rfl 3 rfl fl24 rfl rfl dX5_saying_156 ?_
        refine g_get hX (v := .ref (an 5)) 1 inRX0 rfl rfl 9 rfl fl125 rfl rfl dX5_saying_159 ?_
        refine g_iload_n hX dX5_saying_162 1 rfl ?_
        refine g_iald hX (nI (cV C s)) 6 0 rfl rfl (vp_in_nI (by omega) (by omega)) (ald_n (g := fun zz => nI (cV C zz)) (i := s) (by omega)) dX5_saying_163 ?_
        refine g_goto hX 169 dX5_saying_164 (by decide) ?_
        exact g_eq rfl rfl (congrArg (fun z => [Value.int z]) (by show _ = syV C s x1; rw [syV, if_neg sw14_0, if_neg sw14_1, if_neg sw14_2, if_neg sw14_3, if_neg sw14_4, if_neg sw14_5, if_pos sw14_6]; simp [c152])) (hret () _ _ trivial dX5_saying_169)
    refine g_tout hX 170 dX5_saying_14 (tsw_out (hi := 6) (by decide) (fun v hv => match v, hv with | 0, _ => sw14_0 | 1, _ => sw14_1 | 2, _ => sw14_2 | 3, _ => sw14_3 | 4, _ => sw14_4 | 5, _ => sw14_5 | 6, _ => sw14_6 | v + 7, hv => absurd hv (by omega))) (by decide) ?_
    refine g_iconst hX ((-1)) dX5_saying_170 rfl ?_
    exact g_eq rfl rfl (congrArg (fun z => [Value.int z]) (by show _ = syV C s x1; rw [syV, if_neg sw14_0, if_neg sw14_1, if_neg sw14_2, if_neg sw14_3, if_neg sw14_4, if_neg sw14_5, if_neg sw14_6])) (hret () _ _ trivial dX5_saying_171)
  · replace c8 := bI_0.mp c8
    exact absurd c8 (by simp)
set_option maxHeartbeats 4000000 in
set_option maxRecDepth 100000 in
theorem c_X5_fact_n (l : Launch) (E : EV) (ae : Nat → Nat) (ab : Nat → Nat) (ar : Nat → Nat) (an : Nat → Nat) (af : Nat → Nat) (ah : Nat → Nat) (ak : Nat → Nat) (ax : Nat → Nat) (ag : Nat → Nat) (z : Nat) (C : FC) (x0 : Int32) (hx : win x0 (nI 0) (nI 5) = false) : KI l yX5_fact wsX5_fact (rmN 6) E (σ := Unit) [.ref (ae 0), .int x0] ((lfo E ae ab ar an af ah ak ax ag z) ++ (fw E an C)) (fun _ => True) (fun _ => (-1)) (fun _ => (lfo E ae ab ar an af ah ak ax ag z) ++ (fw E an C)) 0 0 := by
  refine KI.of (cc := cX5_fact) (maxL := 2) (ty := .int) (hnar := fun _ _ => rfl) rfl rfl rfl (fun x hX hin hret hnL => ?_)
  replace hX : CX x l cX5_fact RX5 wsX5_fact E (rmN 6) := hX
  show GG x 0 0 ((lfo E ae ab ar an af ah ak ax ag z) ++ (fw E an C)) 0 [(0, .ref (ae 0)), (1, .int x0)] []
  refine g_iload_n hX dX5_fact_0 1 rfl ?_
  have hc1 : CUT ((lfo E ae ab ar an af ah ak ax ag z) ++ (fw E an C)) (([] : va_W)) ((lfo E ae ab ar an af ah ak ax ag z) ++ (fw E an C)) [] [0, 1, 2, 3, 4, 5, 6, 7] := ⟨rfl, rfl, rfl, rfl, rfl⟩
  refine g_TI hX hc1 [.int x0] [] (c_X5_isFact l E x0) gX5_fact_X5_isFact calX5_isFact rfl rfl rfl rfl dX5_fact_1 rfl ⟨Nat.zero_le _, Nat.zero_le _⟩ (fun _ => (lfo E ae ab ar an af ah ak ax ag z) ++ (fw E an C)) [0, 1, 2, 3, 4, 5, 6, 7] rfl (fun _ => rfl) (fun _ hu1 => ?_)
  refine g_if_ne hX 9 dX5_fact_4 (by decide) (fun c4 => ?_) (fun c4 => ?_)
  · replace c4 := mt bI_0.mpr c4
    replace c4 := bNf c4
    rw [hx] at c4; cases c4
  · replace c4 := bI_0.mp c4
    refine g_iconst hX ((-1)) dX5_fact_7 rfl ?_
    exact g_eq rfl rfl rfl (hret () _ _ trivial dX5_fact_8)
set_option maxHeartbeats 4000000 in
set_option maxRecDepth 100000 in
theorem c_X5_fact_y (l : Launch) (E : EV) (ae : Nat → Nat) (ab : Nat → Nat) (ar : Nat → Nat) (an : Nat → Nat) (af : Nat → Nat) (ah : Nat → Nat) (ak : Nat → Nat) (ax : Nat → Nat) (ag : Nat → Nat) (z : Nat) (C : FC) (k : Nat) (hC : FO C) (hk : k < 6) : KI l yX5_fact wsX5_fact (rmN 6) E (σ := Unit) [.ref (ae 0), .int (nI k)] ((lfo E ae ab ar an af ah ak ax ag z) ++ (fw E an C)) (fun _ => True) (fun _ => (bI ((cF C).testBit k))) (fun _ => (lfo E ae ab ar an af ah ak ax ag z) ++ (fw E an C)) 0 0 := by
  refine KI.of (cc := cX5_fact) (maxL := 2) (ty := .int) (hnar := fun _ _ => rfl) rfl rfl rfl (fun x hX hin hret hnL => ?_)
  replace hX : CX x l cX5_fact RX5 wsX5_fact E (rmN 6) := hX
  show GG x 0 0 ((lfo E ae ab ar an af ah ak ax ag z) ++ (fw E an C)) 0 [(0, .ref (ae 0)), (1, .int (nI k))] []
  have inRX0 : ∀ w ∈ wsX00, w ∈ wsX5_fact := by decide +kernel
  have inRX5 : ∀ w ∈ wsX50, w ∈ wsX5_fact := by decide +kernel
  have fl108 : Cond.fieldLink RX5 108 "LieForce$Force" "facts" "I" ∈ wsX5_fact := by decide +kernel
  have fl24 : Cond.fieldLink RX5 24 "LieForce" "now" "LLieForce$Force;" ∈ wsX5_fact := by decide +kernel
  have h64 := hC.2.1
  refine g_iload_n hX dX5_fact_0 1 rfl ?_
  have hc1 : CUT ((lfo E ae ab ar an af ah ak ax ag z) ++ (fw E an C)) (([] : va_W)) ((lfo E ae ab ar an af ah ak ax ag z) ++ (fw E an C)) [] [0, 1, 2, 3, 4, 5, 6, 7] := ⟨rfl, rfl, rfl, rfl, rfl⟩
  refine g_TI hX hc1 [.int (nI k)] [] (c_X5_isFact_n l E k (by omega)) gX5_fact_X5_isFact calX5_isFact rfl rfl rfl rfl dX5_fact_1 rfl ⟨Nat.zero_le _, Nat.zero_le _⟩ (fun _ => (lfo E ae ab ar an af ah ak ax ag z) ++ (fw E an C)) [0, 1, 2, 3, 4, 5, 6, 7] rfl (fun _ => rfl) (fun _ hu1 => ?_)
  refine g_if_ne hX 9 dX5_fact_4 (by decide) (fun c4 => ?_) (fun c4 => ?_)
  · replace c4 := mt bI_0.mpr c4
    replace c4 := bNf c4
    refine g_aload_n hX dX5_fact_9 0 rfl ?_
    refine g_get hX (v := .ref (an 0)) 0 inRX5 rfl rfl 3 rfl fl24 rfl rfl dX5_fact_10 ?_
    refine g_get hX (v := .int (nI (cF C))) 1 inRX0 rfl rfl 0 rfl fl108 rfl rfl dX5_fact_13 ?_
    refine g_iload_n hX dX5_fact_16 1 rfl ?_
    refine g_ishr hX (nI ((cF C) >>> k)) dX5_fact_17 (sh_r (by omega) (by omega)) ?_
    refine g_iconst hX (nI 1) dX5_fact_18 rfl ?_
    refine g_iand hX (bI ((cF C).testBit k)) dX5_fact_19 (and1_b _ _) ?_
    exact g_eq rfl rfl rfl (hret () _ _ trivial dX5_fact_20)
  · replace c4 := bI_0.mp c4
    rw [decide_eq_true hk] at c4; cases c4
set_option maxHeartbeats 4000000 in
set_option maxRecDepth 100000 in
theorem c_X5_clash_n1 (l : Launch) (E : EV) (ae : Nat → Nat) (ab : Nat → Nat) (ar : Nat → Nat) (an : Nat → Nat) (af : Nat → Nat) (ah : Nat → Nat) (ak : Nat → Nat) (ax : Nat → Nat) (ag : Nat → Nat) (z : Nat) (C : FC) (x0 : Int32) (x1 : Int32) (hC : FO C) (h1 : 1 ≤ cN C) (hx : win x0 (nI 0) (nI (cN C - 1)) = false) : KI l yX5_clash wsX5_clash (rmN 6) E (σ := Unit) [.ref (ae 0), .int x0, .int x1] ((lfo E ae ab ar an af ah ak ax ag z) ++ (fw E an C)) (fun _ => True) (fun _ => (-1)) (fun _ => (lfo E ae ab ar an af ah ak ax ag z) ++ (fw E an C)) 0 0 := by
  refine KI.of (cc := cX5_clash) (maxL := 3) (ty := .int) (hnar := fun _ _ => rfl) rfl rfl rfl (fun x hX hin hret hnL => ?_)
  replace hX : CX x l cX5_clash RX5 wsX5_clash E (rmN 6) := hX
  show GG x 0 0 ((lfo E ae ab ar an af ah ak ax ag z) ++ (fw E an C)) 0 [(0, .ref (ae 0)), (1, .int x0), (2, .int x1)] []
  have inRX5 : ∀ w ∈ wsX50, w ∈ wsX5_clash := by decide +kernel
  have fl24 : Cond.fieldLink RX5 24 "LieForce" "now" "LLieForce$Force;" ∈ wsX5_clash := by decide +kernel
  refine g_aload_n hX dX5_clash_0 0 rfl ?_
  refine g_get hX (v := .ref (an 0)) 0 inRX5 rfl rfl 3 rfl fl24 rfl rfl dX5_clash_1 ?_
  refine g_iload_n hX dX5_clash_4 1 rfl ?_
  have hc5 : CUT ((lfo E ae ab ar an af ah ak ax ag z) ++ (fw E an C)) (fw E an C) (lfo E ae ab ar an af ah ak ax ag z) [1, 2, 3, 4, 5, 6, 7] [0] := ⟨rfl, rfl, rfl, rfl, rfl⟩
  refine g_VI hX hc5 [.int x0] [] (c_X0_isThere l E an C x0) gX5_clash_X0_isThere calX0_isThere rfl rfl rfl rfl 1 rfl rfl rfl rfl dX5_clash_5 rfl ⟨Nat.zero_le _, Nat.zero_le _⟩ (fun _ => (lfo E ae ab ar an af ah ak ax ag z) ++ (fw E an C)) [0, 1, 2, 3, 4, 5, 6, 7] rfl (fun _ => rfl) (fun _ hu5 => ?_)
  refine g_if_eq hX 27 dX5_clash_8 (by decide) (fun c8 => ?_) (fun c8 => ?_)
  · replace c8 := bI_0.mp c8
    refine g_iconst hX ((-1)) dX5_clash_27 rfl ?_
    exact g_eq rfl rfl rfl (hret () _ _ trivial dX5_clash_28)
  · replace c8 := mt bI_0.mpr c8
    replace c8 := bNf c8
    rw [thB_win h1 hC.1, hx] at c8; cases c8
set_option maxHeartbeats 4000000 in
set_option maxRecDepth 100000 in
theorem c_X5_clash_n2 (l : Launch) (E : EV) (ae : Nat → Nat) (ab : Nat → Nat) (ar : Nat → Nat) (an : Nat → Nat) (af : Nat → Nat) (ah : Nat → Nat) (ak : Nat → Nat) (ax : Nat → Nat) (ag : Nat → Nat) (z : Nat) (C : FC) (s : Nat) (x1 : Int32) (hC : FO C) (h1 : 1 ≤ cN C) (hs : s < cN C) (hx : win x1 (nI 0) (nI (cN C - 1)) = false) : KI l yX5_clash wsX5_clash (rmN 6) E (σ := Unit) [.ref (ae 0), .int (nI s), .int x1] ((lfo E ae ab ar an af ah ak ax ag z) ++ (fw E an C)) (fun _ => True) (fun _ => (-1)) (fun _ => (lfo E ae ab ar an af ah ak ax ag z) ++ (fw E an C)) 0 0 := by
  refine KI.of (cc := cX5_clash) (maxL := 3) (ty := .int) (hnar := fun _ _ => rfl) rfl rfl rfl (fun x hX hin hret hnL => ?_)
  replace hX : CX x l cX5_clash RX5 wsX5_clash E (rmN 6) := hX
  show GG x 0 0 ((lfo E ae ab ar an af ah ak ax ag z) ++ (fw E an C)) 0 [(0, .ref (ae 0)), (1, .int (nI s)), (2, .int x1)] []
  have inRX5 : ∀ w ∈ wsX50, w ∈ wsX5_clash := by decide +kernel
  have fl24 : Cond.fieldLink RX5 24 "LieForce" "now" "LLieForce$Force;" ∈ wsX5_clash := by decide +kernel
  refine g_aload_n hX dX5_clash_0 0 rfl ?_
  refine g_get hX (v := .ref (an 0)) 0 inRX5 rfl rfl 3 rfl fl24 rfl rfl dX5_clash_1 ?_
  refine g_iload_n hX dX5_clash_4 1 rfl ?_
  have hc5 : CUT ((lfo E ae ab ar an af ah ak ax ag z) ++ (fw E an C)) (fw E an C) (lfo E ae ab ar an af ah ak ax ag z) [1, 2, 3, 4, 5, 6, 7] [0] := ⟨rfl, rfl, rfl, rfl, rfl⟩
  refine g_VI hX hc5 [.int (nI s)] [] (c_X0_isThere_t l E an C s (by first | assumption | omega) (by omega)) gX5_clash_X0_isThere calX0_isThere rfl rfl rfl rfl 1 rfl rfl rfl rfl dX5_clash_5 rfl ⟨Nat.zero_le _, Nat.zero_le _⟩ (fun _ => (lfo E ae ab ar an af ah ak ax ag z) ++ (fw E an C)) [0, 1, 2, 3, 4, 5, 6, 7] rfl (fun _ => rfl) (fun _ hu5 => ?_)
  refine g_if_eq hX 27 dX5_clash_8 (by decide) (fun c8 => ?_) (fun c8 => ?_)
  · replace c8 := bI_0.mp c8
    exact absurd c8 (by simp)
  · replace c8 := mt bI_0.mpr c8
    replace c8 := bNf c8
    refine g_aload_n hX dX5_clash_11 0 rfl ?_
    refine g_get hX (v := .ref (an 0)) 0 inRX5 rfl rfl 3 rfl fl24 rfl rfl dX5_clash_12 ?_
    refine g_iload_n hX dX5_clash_15 2 rfl ?_
    have hc16 : CUT ((lfo E ae ab ar an af ah ak ax ag z) ++ (fw E an C)) (fw E an C) (lfo E ae ab ar an af ah ak ax ag z) [1, 2, 3, 4, 5, 6, 7] [0] := ⟨rfl, rfl, rfl, rfl, rfl⟩
    refine g_VI hX hc16 [.int x1] [] (c_X0_isThere l E an C x1) gX5_clash_X0_isThere calX0_isThere rfl rfl rfl rfl 1 rfl rfl rfl rfl dX5_clash_16 rfl ⟨Nat.zero_le _, Nat.zero_le _⟩ (fun _ => (lfo E ae ab ar an af ah ak ax ag z) ++ (fw E an C)) [0, 1, 2, 3, 4, 5, 6, 7] rfl (fun _ => rfl) (fun _ hu16 => ?_)
    refine g_if_eq hX 27 dX5_clash_19 (by decide) (fun c19 => ?_) (fun c19 => ?_)
    · replace c19 := bI_0.mp c19
      refine g_iconst hX ((-1)) dX5_clash_27 rfl ?_
      exact g_eq rfl rfl rfl (hret () _ _ trivial dX5_clash_28)
    · replace c19 := mt bI_0.mpr c19
      replace c19 := bNf c19
      rw [thB_win h1 hC.1, hx] at c19; cases c19
set_option maxHeartbeats 4000000 in
set_option maxRecDepth 100000 in
theorem c_X5_clash_n3 (l : Launch) (E : EV) (ae : Nat → Nat) (ab : Nat → Nat) (ar : Nat → Nat) (an : Nat → Nat) (af : Nat → Nat) (ah : Nat → Nat) (ak : Nat → Nat) (ax : Nat → Nat) (ag : Nat → Nat) (z : Nat) (C : FC) (s : Nat) (t : Nat) (hC : FO C) (h1 : 1 ≤ cN C) (hs : s < cN C) (ht : t < cN C) (he : s = t) : KI l yX5_clash wsX5_clash (rmN 6) E (σ := Unit) [.ref (ae 0), .int (nI s), .int (nI t)] ((lfo E ae ab ar an af ah ak ax ag z) ++ (fw E an C)) (fun _ => True) (fun _ => (-1)) (fun _ => (lfo E ae ab ar an af ah ak ax ag z) ++ (fw E an C)) 0 0 := by
  refine KI.of (cc := cX5_clash) (maxL := 3) (ty := .int) (hnar := fun _ _ => rfl) rfl rfl rfl (fun x hX hin hret hnL => ?_)
  replace hX : CX x l cX5_clash RX5 wsX5_clash E (rmN 6) := hX
  show GG x 0 0 ((lfo E ae ab ar an af ah ak ax ag z) ++ (fw E an C)) 0 [(0, .ref (ae 0)), (1, .int (nI s)), (2, .int (nI t))] []
  have inRX5 : ∀ w ∈ wsX50, w ∈ wsX5_clash := by decide +kernel
  have fl24 : Cond.fieldLink RX5 24 "LieForce" "now" "LLieForce$Force;" ∈ wsX5_clash := by decide +kernel
  have h9 := hC.1
  refine g_aload_n hX dX5_clash_0 0 rfl ?_
  refine g_get hX (v := .ref (an 0)) 0 inRX5 rfl rfl 3 rfl fl24 rfl rfl dX5_clash_1 ?_
  refine g_iload_n hX dX5_clash_4 1 rfl ?_
  have hc5 : CUT ((lfo E ae ab ar an af ah ak ax ag z) ++ (fw E an C)) (fw E an C) (lfo E ae ab ar an af ah ak ax ag z) [1, 2, 3, 4, 5, 6, 7] [0] := ⟨rfl, rfl, rfl, rfl, rfl⟩
  refine g_VI hX hc5 [.int (nI s)] [] (c_X0_isThere_t l E an C s (by first | assumption | omega) (by omega)) gX5_clash_X0_isThere calX0_isThere rfl rfl rfl rfl 1 rfl rfl rfl rfl dX5_clash_5 rfl ⟨Nat.zero_le _, Nat.zero_le _⟩ (fun _ => (lfo E ae ab ar an af ah ak ax ag z) ++ (fw E an C)) [0, 1, 2, 3, 4, 5, 6, 7] rfl (fun _ => rfl) (fun _ hu5 => ?_)
  refine g_if_eq hX 27 dX5_clash_8 (by decide) (fun c8 => ?_) (fun c8 => ?_)
  · replace c8 := bI_0.mp c8
    exact absurd c8 (by simp)
  · replace c8 := mt bI_0.mpr c8
    replace c8 := bNf c8
    refine g_aload_n hX dX5_clash_11 0 rfl ?_
    refine g_get hX (v := .ref (an 0)) 0 inRX5 rfl rfl 3 rfl fl24 rfl rfl dX5_clash_12 ?_
    refine g_iload_n hX dX5_clash_15 2 rfl ?_
    have hc16 : CUT ((lfo E ae ab ar an af ah ak ax ag z) ++ (fw E an C)) (fw E an C) (lfo E ae ab ar an af ah ak ax ag z) [1, 2, 3, 4, 5, 6, 7] [0] := ⟨rfl, rfl, rfl, rfl, rfl⟩
    refine g_VI hX hc16 [.int (nI t)] [] (c_X0_isThere_t l E an C t (by first | assumption | omega) ht) gX5_clash_X0_isThere calX0_isThere rfl rfl rfl rfl 1 rfl rfl rfl rfl dX5_clash_16 rfl ⟨Nat.zero_le _, Nat.zero_le _⟩ (fun _ => (lfo E ae ab ar an af ah ak ax ag z) ++ (fw E an C)) [0, 1, 2, 3, 4, 5, 6, 7] rfl (fun _ => rfl) (fun _ hu16 => ?_)
    refine g_if_eq hX 27 dX5_clash_19 (by decide) (fun c19 => ?_) (fun c19 => ?_)
    · replace c19 := bI_0.mp c19
      exact absurd c19 (by simp)
    · replace c19 := mt bI_0.mpr c19
      replace c19 := bNf c19
      refine g_iload_n hX dX5_clash_22 1 rfl ?_
      refine g_iload_n hX dX5_clash_23 2 rfl ?_
      refine g_icmp_ne hX 29 dX5_clash_24 (by decide) (fun c24 => ?_) (fun c24 => ?_)
      · replace c24 := mt (nI_eq (by omega) (by omega)).mpr c24
        exact absurd he c24
      · replace c24 := (nI_eq (by omega) (by omega)).mp c24
        refine g_iconst hX ((-1)) dX5_clash_27 rfl ?_
        exact g_eq rfl rfl rfl (hret () _ _ trivial dX5_clash_28)
set_option maxHeartbeats 4000000 in
set_option maxRecDepth 100000 in
theorem c_X5_clash_y (l : Launch) (E : EV) (ae : Nat → Nat) (ab : Nat → Nat) (ar : Nat → Nat) (an : Nat → Nat) (af : Nat → Nat) (ah : Nat → Nat) (ak : Nat → Nat) (ax : Nat → Nat) (ag : Nat → Nat) (z : Nat) (C : FC) (s : Nat) (t : Nat) (hC : FO C) (h1 : 1 ≤ cN C) (hs : s < cN C) (ht : t < cN C) (he : ¬ s = t) : KI l yX5_clash wsX5_clash (rmN 6) E (σ := Unit) [.ref (ae 0), .int (nI s), .int (nI t)] ((lfo E ae ab ar an af ah ak ax ag z) ++ (fw E an C)) (fun _ => True) (fun _ => (bI (clB C s t))) (fun _ => (lfo E ae ab ar an af ah ak ax ag z) ++ (fw E an C)) 0 0 := by
  refine KI.of (cc := cX5_clash) (maxL := 3) (ty := .int) (hnar := fun _ _ => rfl) rfl rfl rfl (fun x hX hin hret hnL => ?_)
  replace hX : CX x l cX5_clash RX5 wsX5_clash E (rmN 6) := hX
  show GG x 0 0 ((lfo E ae ab ar an af ah ak ax ag z) ++ (fw E an C)) 0 [(0, .ref (ae 0)), (1, .int (nI s)), (2, .int (nI t))] []
  have inRX5 : ∀ w ∈ wsX50, w ∈ wsX5_clash := by decide +kernel
  have fl24 : Cond.fieldLink RX5 24 "LieForce" "now" "LLieForce$Force;" ∈ wsX5_clash := by decide +kernel
  have h9 := hC.1
  refine g_aload_n hX dX5_clash_0 0 rfl ?_
  refine g_get hX (v := .ref (an 0)) 0 inRX5 rfl rfl 3 rfl fl24 rfl rfl dX5_clash_1 ?_
  refine g_iload_n hX dX5_clash_4 1 rfl ?_
  have hc5 : CUT ((lfo E ae ab ar an af ah ak ax ag z) ++ (fw E an C)) (fw E an C) (lfo E ae ab ar an af ah ak ax ag z) [1, 2, 3, 4, 5, 6, 7] [0] := ⟨rfl, rfl, rfl, rfl, rfl⟩
  refine g_VI hX hc5 [.int (nI s)] [] (c_X0_isThere_t l E an C s (by first | assumption | omega) (by omega)) gX5_clash_X0_isThere calX0_isThere rfl rfl rfl rfl 1 rfl rfl rfl rfl dX5_clash_5 rfl ⟨Nat.zero_le _, Nat.zero_le _⟩ (fun _ => (lfo E ae ab ar an af ah ak ax ag z) ++ (fw E an C)) [0, 1, 2, 3, 4, 5, 6, 7] rfl (fun _ => rfl) (fun _ hu5 => ?_)
  refine g_if_eq hX 27 dX5_clash_8 (by decide) (fun c8 => ?_) (fun c8 => ?_)
  · replace c8 := bI_0.mp c8
    exact absurd c8 (by simp)
  · replace c8 := mt bI_0.mpr c8
    replace c8 := bNf c8
    refine g_aload_n hX dX5_clash_11 0 rfl ?_
    refine g_get hX (v := .ref (an 0)) 0 inRX5 rfl rfl 3 rfl fl24 rfl rfl dX5_clash_12 ?_
    refine g_iload_n hX dX5_clash_15 2 rfl ?_
    have hc16 : CUT ((lfo E ae ab ar an af ah ak ax ag z) ++ (fw E an C)) (fw E an C) (lfo E ae ab ar an af ah ak ax ag z) [1, 2, 3, 4, 5, 6, 7] [0] := ⟨rfl, rfl, rfl, rfl, rfl⟩
    refine g_VI hX hc16 [.int (nI t)] [] (c_X0_isThere_t l E an C t (by first | assumption | omega) ht) gX5_clash_X0_isThere calX0_isThere rfl rfl rfl rfl 1 rfl rfl rfl rfl dX5_clash_16 rfl ⟨Nat.zero_le _, Nat.zero_le _⟩ (fun _ => (lfo E ae ab ar an af ah ak ax ag z) ++ (fw E an C)) [0, 1, 2, 3, 4, 5, 6, 7] rfl (fun _ => rfl) (fun _ hu16 => ?_)
    refine g_if_eq hX 27 dX5_clash_19 (by decide) (fun c19 => ?_) (fun c19 => ?_)
    · replace c19 := bI_0.mp c19
      exact absurd c19 (by simp)
    · replace c19 := mt bI_0.mpr c19
      replace c19 := bNf c19
      refine g_iload_n hX dX5_clash_22 1 rfl ?_
      refine g_iload_n hX dX5_clash_23 2 rfl ?_
      refine g_icmp_ne hX 29 dX5_clash_24 (by decide) (fun c24 => ?_) (fun c24 => ?_)
      · replace c24 := mt (nI_eq (by omega) (by omega)).mpr c24
        refine g_aload_n hX dX5_clash_29 0 rfl ?_
        refine g_get hX (v := .ref (an 0)) 0 inRX5 rfl rfl 3 rfl fl24 rfl rfl dX5_clash_30 ?_
        refine g_iload_n hX dX5_clash_33 1 rfl ?_
        refine g_iload_n hX dX5_clash_34 2 rfl ?_
        have hc35 : CUT ((lfo E ae ab ar an af ah ak ax ag z) ++ (fw E an C)) (fw E an C) (lfo E ae ab ar an af ah ak ax ag z) [1, 2, 3, 4, 5, 6, 7] [0] := ⟨rfl, rfl, rfl, rfl, rfl⟩
        refine g_VI hX hc35 [.int (nI s), .int (nI t)] [] (c_X0_areClashing l E an C s t (by first | assumption | omega) (by omega) (by omega)) gX5_clash_X0_areClashing calX0_areClashing rfl rfl rfl rfl 1 rfl rfl rfl rfl dX5_clash_35 rfl ⟨Nat.zero_le _, Nat.zero_le _⟩ (fun _ => (lfo E ae ab ar an af ah ak ax ag z) ++ (fw E an C)) [0, 1, 2, 3, 4, 5, 6, 7] rfl (fun _ => rfl) (fun _ hu35 => ?_)
        have hc38 : CUT ((lfo E ae ab ar an af ah ak ax ag z) ++ (fw E an C)) (([] : va_W)) ((lfo E ae ab ar an af ah ak ax ag z) ++ (fw E an C)) [] [0, 1, 2, 3, 4, 5, 6, 7] := ⟨rfl, rfl, rfl, rfl, rfl⟩
        refine g_TI hX hc38 [.int (bI (clB C s t))] [] (c_X5_asNumber l E (clB C s t)) gX5_clash_X5_asNumber calX5_asNumber rfl rfl rfl rfl dX5_clash_38 rfl ⟨Nat.zero_le _, Nat.zero_le _⟩ (fun _ => (lfo E ae ab ar an af ah ak ax ag z) ++ (fw E an C)) [0, 1, 2, 3, 4, 5, 6, 7] rfl (fun _ => rfl) (fun _ hu38 => ?_)
        exact g_eq rfl rfl rfl (hret () _ _ trivial dX5_clash_41)
      · replace c24 := (nI_eq (by omega) (by omega)).mp c24
        exact absurd c24 he
set_option maxHeartbeats 4000000 in
set_option maxRecDepth 100000 in
theorem c_X5_core (l : Launch) (E : EV) (ae : Nat → Nat) (ab : Nat → Nat) (ar : Nat → Nat) (an : Nat → Nat) (af : Nat → Nat) (ah : Nat → Nat) (ak : Nat → Nat) (ax : Nat → Nat) (ag : Nat → Nat) (z : Nat) (C : FC) (hC : FO C) : KI l yX5_core wsX5_core (rmN 6) E (σ := Unit) [.ref (ae 0)] ((lfo E ae ab ar an af ah ak ax ag z) ++ (fw E an C)) (fun _ => True) (fun _ => (oI (minN none (coreP C) (stM C + 1)).1)) (fun _ => (lfo E ae ab ar an af ah ak ax ag z) ++ (fw E an C)) 0 0 := by
  refine KI.of (cc := cX5_core) (maxL := 1) (ty := .int) (hnar := fun _ _ => rfl) rfl rfl rfl (fun x hX hin hret hnL => ?_)
  replace hX : CX x l cX5_core RX5 wsX5_core E (rmN 6) := hX
  show GG x 0 0 ((lfo E ae ab ar an af ah ak ax ag z) ++ (fw E an C)) 0 [(0, .ref (ae 0))] []
  have inRX5 : ∀ w ∈ wsX50, w ∈ wsX5_core := by decide +kernel
  have fl24 : Cond.fieldLink RX5 24 "LieForce" "now" "LLieForce$Force;" ∈ wsX5_core := by decide +kernel
  refine g_aload_n hX dX5_core_0 0 rfl ?_
  refine g_get hX (v := .ref (an 0)) 0 inRX5 rfl rfl 3 rfl fl24 rfl rfl dX5_core_1 ?_
  have hc4 : CUT ((lfo E ae ab ar an af ah ak ax ag z) ++ (fw E an C)) (fw E an C) (lfo E ae ab ar an af ah ak ax ag z) [1, 2, 3, 4, 5, 6, 7] [0] := ⟨rfl, rfl, rfl, rfl, rfl⟩
  refine g_VI hX hc4 [] [] (c_X0_lowestCore l E an C (by first | assumption | omega)) gX5_core_X0_lowestCore calX0_lowestCore rfl rfl rfl rfl 1 rfl rfl rfl rfl dX5_core_4 rfl ⟨Nat.zero_le _, Nat.zero_le _⟩ (fun _ => (lfo E ae ab ar an af ah ak ax ag z) ++ (fw E an C)) [0, 1, 2, 3, 4, 5, 6, 7] rfl (fun _ => rfl) (fun _ hu4 => ?_)
  exact g_eq rfl rfl rfl (hret () _ _ trivial dX5_core_7)
set_option maxHeartbeats 4000000 in
set_option maxRecDepth 100000 in
theorem c_X5_cut (l : Launch) (E : EV) (ae : Nat → Nat) (ab : Nat → Nat) (ar : Nat → Nat) (an : Nat → Nat) (af : Nat → Nat) (ah : Nat → Nat) (ak : Nat → Nat) (ax : Nat → Nat) (ag : Nat → Nat) (z : Nat) (C : FC) (hC : FO C) : KI l yX5_cut wsX5_cut (rmN 6) E (σ := Unit) [.ref (ae 0)] ((lfo E ae ab ar an af ah ak ax ag z) ++ (fw E an C)) (fun _ => True) (fun _ => (oI (minN (some (stM C)) (cutP C) (stM C + 1)).1)) (fun _ => (lfo E ae ab ar an af ah ak ax ag z) ++ (fw E an C)) 0 0 := by
  refine KI.of (cc := cX5_cut) (maxL := 1) (ty := .int) (hnar := fun _ _ => rfl) rfl rfl rfl (fun x hX hin hret hnL => ?_)
  replace hX : CX x l cX5_cut RX5 wsX5_cut E (rmN 6) := hX
  show GG x 0 0 ((lfo E ae ab ar an af ah ak ax ag z) ++ (fw E an C)) 0 [(0, .ref (ae 0))] []
  have inRX5 : ∀ w ∈ wsX50, w ∈ wsX5_cut := by decide +kernel
  have fl24 : Cond.fieldLink RX5 24 "LieForce" "now" "LLieForce$Force;" ∈ wsX5_cut := by decide +kernel
  refine g_aload_n hX dX5_cut_0 0 rfl ?_
  refine g_get hX (v := .ref (an 0)) 0 inRX5 rfl rfl 3 rfl fl24 rfl rfl dX5_cut_1 ?_
  have hc4 : CUT ((lfo E ae ab ar an af ah ak ax ag z) ++ (fw E an C)) (fw E an C) (lfo E ae ab ar an af ah ak ax ag z) [1, 2, 3, 4, 5, 6, 7] [0] := ⟨rfl, rfl, rfl, rfl, rfl⟩
  refine g_VI hX hc4 [] [] (c_X0_lowestCut l E an C (by first | assumption | omega)) gX5_cut_X0_lowestCut calX0_lowestCut rfl rfl rfl rfl 1 rfl rfl rfl rfl dX5_cut_4 rfl ⟨Nat.zero_le _, Nat.zero_le _⟩ (fun _ => (lfo E ae ab ar an af ah ak ax ag z) ++ (fw E an C)) [0, 1, 2, 3, 4, 5, 6, 7] rfl (fun _ => rfl) (fun _ hu4 => ?_)
  exact g_eq rfl rfl rfl (hret () _ _ trivial dX5_cut_7)
set_option maxHeartbeats 4000000 in
set_option maxRecDepth 100000 in
theorem c_X5_forget (l : Launch) (E : EV) (ae : Nat → Nat) (ab : Nat → Nat) (ar : Nat → Nat) (an : Nat → Nat) (af : Nat → Nat) (ah : Nat → Nat) (ak : Nat → Nat) (ax : Nat → Nat) (ag : Nat → Nat) (z : Nat) (S : SC)  : KI l yX5_forget wsX5_forget (rmN 6) E (σ := Unit) [.ref (ae 0)] ((lfo E ae ab ar an af ah ak ax ag z) ++ (sw E ax S)) (fun _ => True) (fun _ => (nI (hN S))) (fun _ => (lfo E ae ab ar an af ah ak ax ag z) ++ (sw E ax (shN S 0))) 0 0 := by
  refine KI.of (cc := cX5_forget) (maxL := 2) (ty := .int) (hnar := fun _ _ => rfl) rfl rfl rfl (fun x hX hin hret hnL => ?_)
  replace hX : CX x l cX5_forget RX5 wsX5_forget E (rmN 6) := hX
  show GG x 0 0 ((lfo E ae ab ar an af ah ak ax ag z) ++ (sw E ax S)) 0 [(0, .ref (ae 0))] []
  have inRX4 : ∀ w ∈ wsX40, w ∈ wsX5_forget := by decide +kernel
  have inRX5 : ∀ w ∈ wsX50, w ∈ wsX5_forget := by decide +kernel
  have fl210 : Cond.fieldLink RX5 210 "LieForce$Sight" "size" "I" ∈ wsX5_forget := by decide +kernel
  have fl49 : Cond.fieldLink RX5 49 "LieForce" "sight" "LLieForce$Sight;" ∈ wsX5_forget := by decide +kernel
  refine g_aload_n hX dX5_forget_0 0 rfl ?_
  refine g_get hX (v := .ref (ax 0)) 0 inRX5 rfl rfl 7 rfl fl49 rfl rfl dX5_forget_1 ?_
  refine g_get hX (v := .int (nI (hN S))) 1 inRX4 rfl rfl 2 rfl fl210 rfl rfl dX5_forget_4 ?_
  refine g_istore_n hX (j := 1) [(1, .int (nI (hN S))), (0, .ref (ae 0))] dX5_forget_7 rfl (by rw [hnL]; rfl) rfl ?_
  refine g_aload_n hX dX5_forget_8 1 rfl ?_
  refine g_get hX (v := .ref (ax 0)) 0 inRX5 rfl rfl 7 rfl fl49 rfl rfl dX5_forget_9 ?_
  have hc12 : CUT ((lfo E ae ab ar an af ah ak ax ag z) ++ (sw E ax S)) (sw E ax S) (lfo E ae ab ar an af ah ak ax ag z) [1, 2, 3] [0] := ⟨rfl, rfl, rfl, rfl, rfl⟩
  refine g_VV hX hc12 [] [] (c_X4_clear l E ax S) gX5_forget_X4_clear calX4_clear rfl rfl rfl rfl 1 rfl rfl rfl rfl dX5_forget_12 rfl ⟨Nat.zero_le _, Nat.zero_le _⟩ (fun _ => (lfo E ae ab ar an af ah ak ax ag z) ++ (sw E ax (shN S 0))) [0, 1, 2, 3] rfl (fun _ => rfl) (fun _ hu12 => ?_)
  refine g_iload_n hX dX5_forget_15 0 rfl ?_
  exact g_eq rfl rfl rfl (hret () _ _ trivial dX5_forget_16)
set_option maxHeartbeats 4000000 in
set_option maxRecDepth 100000 in
theorem c_X5_see_n (l : Launch) (E : EV) (ae : Nat → Nat) (ab : Nat → Nat) (ar : Nat → Nat) (an : Nat → Nat) (af : Nat → Nat) (ah : Nat → Nat) (ak : Nat → Nat) (ax : Nat → Nat) (ag : Nat → Nat) (z : Nat) (C : FC) (x0 : Int32) (q : Bool) (hC : FO C) (h1 : 1 ≤ cN C) (hx : win x0 (nI 0) (nI (cN C - 1)) = false) : KI l yX5_see wsX5_see (rmN 6) E (σ := Unit) [.ref (ae 0), .int x0, .int (bI q)] ((lfo E ae ab ar an af ah ak ax ag z) ++ (fw E an C)) (fun _ => True) (fun _ => (-1)) (fun _ => (lfo E ae ab ar an af ah ak ax ag z) ++ (fw E an C)) 0 0 := by
  refine KI.of (cc := cX5_see) (maxL := 3) (ty := .int) (hnar := fun _ _ => rfl) rfl rfl rfl (fun x hX hin hret hnL => ?_)
  replace hX : CX x l cX5_see RX5 wsX5_see E (rmN 6) := hX
  show GG x 0 0 ((lfo E ae ab ar an af ah ak ax ag z) ++ (fw E an C)) 0 [(0, .ref (ae 0)), (1, .int x0), (2, .int (bI q))] []
  have inRX5 : ∀ w ∈ wsX50, w ∈ wsX5_see := by decide +kernel
  have fl24 : Cond.fieldLink RX5 24 "LieForce" "now" "LLieForce$Force;" ∈ wsX5_see := by decide +kernel
  refine g_aload_n hX dX5_see_0 0 rfl ?_
  refine g_get hX (v := .ref (an 0)) 0 inRX5 rfl rfl 3 rfl fl24 rfl rfl dX5_see_1 ?_
  refine g_iload_n hX dX5_see_4 1 rfl ?_
  have hc5 : CUT ((lfo E ae ab ar an af ah ak ax ag z) ++ (fw E an C)) (fw E an C) (lfo E ae ab ar an af ah ak ax ag z) [1, 2, 3, 4, 5, 6, 7] [0] := ⟨rfl, rfl, rfl, rfl, rfl⟩
  refine g_VI hX hc5 [.int x0] [] (c_X0_isThere l E an C x0) gX5_see_X0_isThere calX0_isThere rfl rfl rfl rfl 1 rfl rfl rfl rfl dX5_see_5 rfl ⟨Nat.zero_le _, Nat.zero_le _⟩ (fun _ => (lfo E ae ab ar an af ah ak ax ag z) ++ (fw E an C)) [0, 1, 2, 3, 4, 5, 6, 7] rfl (fun _ => rfl) (fun _ hu5 => ?_)
  refine g_if_ne hX 13 dX5_see_8 (by decide) (fun c8 => ?_) (fun c8 => ?_)
  · replace c8 := mt bI_0.mpr c8
    replace c8 := bNf c8
    rw [thB_win h1 hC.1, hx] at c8; cases c8
  · replace c8 := bI_0.mp c8
    refine g_iconst hX ((-1)) dX5_see_11 rfl ?_
    exact g_eq rfl rfl rfl (hret () _ _ trivial dX5_see_12)
set_option maxHeartbeats 4000000 in
set_option maxRecDepth 100000 in
theorem c_X5_see_f (l : Launch) (E : EV) (ae : Nat → Nat) (ab : Nat → Nat) (ar : Nat → Nat) (an : Nat → Nat) (af : Nat → Nat) (ah : Nat → Nat) (ak : Nat → Nat) (ax : Nat → Nat) (ag : Nat → Nat) (z : Nat) (C : FC) (S : SC) (s : Nat) (q : Bool) (hC : FO C) (h1 : 1 ≤ cN C) (hs : s < cN C) (h6 : hN S = 6) : KI l yX5_see wsX5_see (rmN 6) E (σ := Unit) [.ref (ae 0), .int (nI s), .int (bI q)] ((lfo E ae ab ar an af ah ak ax ag z ++ (fw E an C ++ (sw E ax S)))) (fun _ => True) (fun _ => (-3)) (fun _ => (lfo E ae ab ar an af ah ak ax ag z ++ (fw E an C ++ (sw E ax S)))) 0 0 := by
  refine KI.of (cc := cX5_see) (maxL := 3) (ty := .int) (hnar := fun _ _ => rfl) rfl rfl rfl (fun x hX hin hret hnL => ?_)
  replace hX : CX x l cX5_see RX5 wsX5_see E (rmN 6) := hX
  show GG x 0 0 ((lfo E ae ab ar an af ah ak ax ag z ++ (fw E an C ++ (sw E ax S)))) 0 [(0, .ref (ae 0)), (1, .int (nI s)), (2, .int (bI q))] []
  have inRX5 : ∀ w ∈ wsX50, w ∈ wsX5_see := by decide +kernel
  have fl24 : Cond.fieldLink RX5 24 "LieForce" "now" "LLieForce$Force;" ∈ wsX5_see := by decide +kernel
  have fl49 : Cond.fieldLink RX5 49 "LieForce" "sight" "LLieForce$Sight;" ∈ wsX5_see := by decide +kernel
  refine g_aload_n hX dX5_see_0 0 rfl ?_
  refine g_get hX (v := .ref (an 0)) 0 inRX5 rfl rfl 3 rfl fl24 rfl rfl dX5_see_1 ?_
  refine g_iload_n hX dX5_see_4 1 rfl ?_
  have hc5 : CUT ((lfo E ae ab ar an af ah ak ax ag z ++ (fw E an C ++ (sw E ax S)))) (fw E an C) ((lfo E ae ab ar an af ah ak ax ag z) ++ (sw E ax S)) [1, 2, 3, 4, 5, 6, 7] [0, 8, 9, 10] := ⟨rfl, rfl, rfl, rfl, rfl⟩
  refine g_VI hX hc5 [.int (nI s)] [] (c_X0_isThere_t l E an C s (by first | assumption | omega) (by omega)) gX5_see_X0_isThere calX0_isThere rfl rfl rfl rfl 1 rfl rfl rfl rfl dX5_see_5 rfl ⟨Nat.zero_le _, Nat.zero_le _⟩ (fun _ => (lfo E ae ab ar an af ah ak ax ag z ++ (fw E an C ++ (sw E ax S)))) [0, 4, 5, 6, 7, 8, 9, 10, 1, 2, 3] rfl (fun _ => rfl) (fun _ hu5 => ?_)
  refine g_if_ne hX 13 dX5_see_8 (by decide) (fun c8 => ?_) (fun c8 => ?_)
  · replace c8 := mt bI_0.mpr c8
    replace c8 := bNf c8
    refine g_aload_n hX dX5_see_13 0 rfl ?_
    refine g_get hX (v := .ref (ax 0)) 0 inRX5 rfl rfl 7 rfl fl49 rfl rfl dX5_see_14 ?_
    refine g_iload_n hX dX5_see_17 1 rfl ?_
    refine g_iload_n hX dX5_see_18 2 rfl ?_
    have hc19 : CUT ((lfo E ae ab ar an af ah ak ax ag z ++ (fw E an C ++ (sw E ax S)))) (sw E ax S) ((lfo E ae ab ar an af ah ak ax ag z) ++ (fw E an C)) [8, 9, 10] [0, 1, 2, 3, 4, 5, 6, 7] := ⟨rfl, rfl, rfl, rfl, rfl⟩
    refine g_VI hX hc19 [.int (nI s), .int (bI q)] [] (c_X4_add_full l E ax S s q (by omega)) gX5_see_X4_add calX4_add rfl rfl rfl rfl 8 rfl rfl rfl rfl dX5_see_19 rfl ⟨Nat.zero_le _, Nat.zero_le _⟩ (fun _ => (lfo E ae ab ar an af ah ak ax ag z ++ (fw E an C ++ (sw E ax S)))) [0, 1, 2, 3, 4, 5, 6, 7, 8, 9, 10] rfl (fun _ => rfl) (fun _ hu19 => ?_)
    exact g_eq rfl rfl rfl (hret () _ _ trivial dX5_see_22)
  · replace c8 := bI_0.mp c8
    exact absurd c8 (by simp)
set_option maxHeartbeats 4000000 in
set_option maxRecDepth 100000 in
theorem c_X5_see_y (l : Launch) (E : EV) (ae : Nat → Nat) (ab : Nat → Nat) (ar : Nat → Nat) (an : Nat → Nat) (af : Nat → Nat) (ah : Nat → Nat) (ak : Nat → Nat) (ax : Nat → Nat) (ag : Nat → Nat) (z : Nat) (C : FC) (S : SC) (s : Nat) (q : Bool) (hC : FO C) (h1 : 1 ≤ cN C) (hs : s < cN C) (h6 : hN S < 6) : KI l yX5_see wsX5_see (rmN 6) E (σ := Unit) [.ref (ae 0), .int (nI s), .int (bI q)] ((lfo E ae ab ar an af ah ak ax ag z ++ (fw E an C ++ (sw E ax S)))) (fun _ => True) (fun _ => (nI (hN S + 1))) (fun _ => (lfo E ae ab ar an af ah ak ax ag z ++ (fw E an C ++ (sw E ax (mkSC (hN S + 1) (va_up (hS S) (hN S) s) (va_up (hH S) (hN S) q)))))) 0 0 := by
  refine KI.of (cc := cX5_see) (maxL := 3) (ty := .int) (hnar := fun _ _ => rfl) rfl rfl rfl (fun x hX hin hret hnL => ?_)
  replace hX : CX x l cX5_see RX5 wsX5_see E (rmN 6) := hX
  show GG x 0 0 ((lfo E ae ab ar an af ah ak ax ag z ++ (fw E an C ++ (sw E ax S)))) 0 [(0, .ref (ae 0)), (1, .int (nI s)), (2, .int (bI q))] []
  have inRX5 : ∀ w ∈ wsX50, w ∈ wsX5_see := by decide +kernel
  have fl24 : Cond.fieldLink RX5 24 "LieForce" "now" "LLieForce$Force;" ∈ wsX5_see := by decide +kernel
  have fl49 : Cond.fieldLink RX5 49 "LieForce" "sight" "LLieForce$Sight;" ∈ wsX5_see := by decide +kernel
  refine g_aload_n hX dX5_see_0 0 rfl ?_
  refine g_get hX (v := .ref (an 0)) 0 inRX5 rfl rfl 3 rfl fl24 rfl rfl dX5_see_1 ?_
  refine g_iload_n hX dX5_see_4 1 rfl ?_
  have hc5 : CUT ((lfo E ae ab ar an af ah ak ax ag z ++ (fw E an C ++ (sw E ax S)))) (fw E an C) ((lfo E ae ab ar an af ah ak ax ag z) ++ (sw E ax S)) [1, 2, 3, 4, 5, 6, 7] [0, 8, 9, 10] := ⟨rfl, rfl, rfl, rfl, rfl⟩
  refine g_VI hX hc5 [.int (nI s)] [] (c_X0_isThere_t l E an C s (by first | assumption | omega) (by omega)) gX5_see_X0_isThere calX0_isThere rfl rfl rfl rfl 1 rfl rfl rfl rfl dX5_see_5 rfl ⟨Nat.zero_le _, Nat.zero_le _⟩ (fun _ => (lfo E ae ab ar an af ah ak ax ag z ++ (fw E an C ++ (sw E ax S)))) [0, 4, 5, 6, 7, 8, 9, 10, 1, 2, 3] rfl (fun _ => rfl) (fun _ hu5 => ?_)
  refine g_if_ne hX 13 dX5_see_8 (by decide) (fun c8 => ?_) (fun c8 => ?_)
  · replace c8 := mt bI_0.mpr c8
    replace c8 := bNf c8
    refine g_aload_n hX dX5_see_13 0 rfl ?_
    refine g_get hX (v := .ref (ax 0)) 0 inRX5 rfl rfl 7 rfl fl49 rfl rfl dX5_see_14 ?_
    refine g_iload_n hX dX5_see_17 1 rfl ?_
    refine g_iload_n hX dX5_see_18 2 rfl ?_
    have hc19 : CUT ((lfo E ae ab ar an af ah ak ax ag z ++ (fw E an C ++ (sw E ax S)))) (sw E ax S) ((lfo E ae ab ar an af ah ak ax ag z) ++ (fw E an C)) [8, 9, 10] [0, 1, 2, 3, 4, 5, 6, 7] := ⟨rfl, rfl, rfl, rfl, rfl⟩
    refine g_VI hX hc19 [.int (nI s), .int (bI q)] [] (c_X4_add l E ax S s q (by omega)) gX5_see_X4_add calX4_add rfl rfl rfl rfl 8 rfl rfl rfl rfl dX5_see_19 rfl ⟨Nat.zero_le _, Nat.zero_le _⟩ (fun _ => (lfo E ae ab ar an af ah ak ax ag z ++ (fw E an C ++ (sw E ax (mkSC ((hN S) + 1) (va_up ((hS S)) ((hN S)) s) (va_up ((hH S)) ((hN S)) q)))))) [0, 1, 2, 3, 4, 5, 6, 7, 8, 9, 10] rfl (fun _ => rfl) (fun _ hu19 => ?_)
    exact g_eq rfl rfl rfl (hret () _ _ trivial dX5_see_22)
  · replace c8 := bI_0.mp c8
    exact absurd c8 (by simp)
set_option maxHeartbeats 4000000 in
set_option maxRecDepth 100000 in
theorem c_X5_keep_f (l : Launch) (E : EV) (ae : Nat → Nat) (ab : Nat → Nat) (ar : Nat → Nat) (an : Nat → Nat) (af : Nat → Nat) (ah : Nat → Nat) (ak : Nat → Nat) (ax : Nat → Nat) (ag : Nat → Nat) (z : Nat) (U : PV) (hU : pz U = 2) : KI l yX5_keep wsX5_keep (rmN 6) E (σ := Unit) [.ref (ae 0)] ((lfo E ae ab ar an af ah ak ax ag z) ++ (pw2 E ak U)) (fun _ => True) (fun _ => (-3)) (fun _ => (lfo E ae ab ar an af ah ak ax ag z) ++ (pw2 E ak U)) 0 0 := by
  refine KI.of (cc := cX5_keep) (maxL := 1) (ty := .int) (hnar := fun _ _ => rfl) rfl rfl rfl (fun x hX hin hret hnL => ?_)
  replace hX : CX x l cX5_keep RX5 wsX5_keep E (rmN 6) := hX
  show GG x 0 0 ((lfo E ae ab ar an af ah ak ax ag z) ++ (pw2 E ak U)) 0 [(0, .ref (ae 0))] []
  have inRX2 : ∀ w ∈ wsX20, w ∈ wsX5_keep := by decide +kernel
  have inRX5 : ∀ w ∈ wsX50, w ∈ wsX5_keep := by decide +kernel
  have fl168 : Cond.fieldLink RX5 168 "LieForce$Pile" "size" "I" ∈ wsX5_keep := by decide +kernel
  have fl43 : Cond.fieldLink RX5 43 "LieForce" "kept" "LLieForce$Pile;" ∈ wsX5_keep := by decide +kernel
  refine g_aload_n hX dX5_keep_0 0 rfl ?_
  refine g_get hX (v := .ref (ak 0)) 0 inRX5 rfl rfl 6 rfl fl43 rfl rfl dX5_keep_1 ?_
  refine g_get hX (v := .int (nI (pz U))) 1 inRX2 rfl rfl 1 rfl fl168 rfl rfl dX5_keep_4 ?_
  refine g_iconst hX (nI 2) dX5_keep_7 rfl ?_
  refine g_icmp_lt hX 14 dX5_keep_8 (by decide) (fun c8 => ?_) (fun c8 => ?_)
  · replace c8 := (nI_ltI (by omega) (by omega)).mp c8
    omega
  · replace c8 := mt (nI_ltI (by omega) (by omega)).mpr c8
    refine g_bipush hX ((-3)) dX5_keep_11 rfl ?_
    exact g_eq rfl rfl rfl (hret () _ _ trivial dX5_keep_13)
set_option maxHeartbeats 4000000 in
set_option maxRecDepth 100000 in
theorem c_X5_keep_y (l : Launch) (E : EV) (ae : Nat → Nat) (ab : Nat → Nat) (ar : Nat → Nat) (an : Nat → Nat) (af : Nat → Nat) (ah : Nat → Nat) (ak : Nat → Nat) (ax : Nat → Nat) (ag : Nat → Nat) (z : Nat) (C : FC) (U : PV) (hU : pz U < 2) : KI l yX5_keep wsX5_keep (rmN 6) E (σ := Unit) [.ref (ae 0)] ((lfo E ae ab ar an af ah ak ax ag z ++ (fw E an C ++ (pw2 E ak U)))) (fun _ => True) (fun _ => (nI (pz U + 1))) (fun _ => (lfo E ae ab ar an af ah ak ax ag z ++ (fw E an C ++ (pw2 E ak (padd2 U C))))) 0 0 := by
  refine KI.of (cc := cX5_keep) (maxL := 1) (ty := .int) (hnar := fun _ _ => rfl) rfl rfl rfl (fun x hX hin hret hnL => ?_)
  replace hX : CX x l cX5_keep RX5 wsX5_keep E (rmN 6) := hX
  show GG x 0 0 ((lfo E ae ab ar an af ah ak ax ag z ++ (fw E an C ++ (pw2 E ak U)))) 0 [(0, .ref (ae 0))] []
  have inRX2 : ∀ w ∈ wsX20, w ∈ wsX5_keep := by decide +kernel
  have inRX5 : ∀ w ∈ wsX50, w ∈ wsX5_keep := by decide +kernel
  have fl168 : Cond.fieldLink RX5 168 "LieForce$Pile" "size" "I" ∈ wsX5_keep := by decide +kernel
  have fl24 : Cond.fieldLink RX5 24 "LieForce" "now" "LLieForce$Force;" ∈ wsX5_keep := by decide +kernel
  have fl43 : Cond.fieldLink RX5 43 "LieForce" "kept" "LLieForce$Pile;" ∈ wsX5_keep := by decide +kernel
  refine g_aload_n hX dX5_keep_0 0 rfl ?_
  refine g_get hX (v := .ref (ak 0)) 0 inRX5 rfl rfl 6 rfl fl43 rfl rfl dX5_keep_1 ?_
  refine g_get hX (v := .int (nI (pz U))) 8 inRX2 rfl rfl 1 rfl fl168 rfl rfl dX5_keep_4 ?_
  refine g_iconst hX (nI 2) dX5_keep_7 rfl ?_
  refine g_icmp_lt hX 14 dX5_keep_8 (by decide) (fun c8 => ?_) (fun c8 => ?_)
  · replace c8 := (nI_ltI (by omega) (by omega)).mp c8
    refine g_aload_n hX dX5_keep_14 0 rfl ?_
    refine g_get hX (v := .ref (ak 0)) 0 inRX5 rfl rfl 6 rfl fl43 rfl rfl dX5_keep_15 ?_
    refine g_aload_n hX dX5_keep_18 0 rfl ?_
    refine g_get hX (v := .ref (an 0)) 0 inRX5 rfl rfl 3 rfl fl24 rfl rfl dX5_keep_19 ?_
    have hc22 : CUT ((lfo E ae ab ar an af ah ak ax ag z ++ (fw E an C ++ (pw2 E ak U)))) ((pw2 E ak U) ++ (fw E an C)) (lfo E ae ab ar an af ah ak ax ag z) [8, 9, 10, 11, 12, 13, 14, 15, 16, 17, 18, 19, 20, 21, 22, 23, 1, 2, 3, 4, 5, 6, 7] [0] := ⟨rfl, rfl, rfl, rfl, rfl⟩
    refine g_VV hX hc22 [.ref (an 0)] [] (c_X2_add2 l E ak U an C (by first | assumption | omega)) gX5_keep_X2_add calX2_add rfl rfl rfl rfl 8 rfl rfl rfl rfl dX5_keep_22 rfl ⟨Nat.zero_le _, Nat.zero_le _⟩ (fun _ => (lfo E ae ab ar an af ah ak ax ag z ++ (fw E an C ++ (pw2 E ak (padd2 U C))))) [0, 17, 18, 19, 20, 21, 22, 23, 1, 2, 3, 4, 5, 6, 7, 8, 9, 10, 11, 12, 13, 14, 15, 16] rfl (fun _ => rfl) (fun _ hu22 => ?_)
    refine g_aload_n hX dX5_keep_25 0 rfl ?_
    refine g_get hX (v := .ref (ak 0)) 0 inRX5 rfl rfl 6 rfl fl43 rfl rfl dX5_keep_26 ?_
    refine g_get hX (v := .int (nI (pz (padd2 U C)))) 8 inRX2 rfl rfl 1 rfl fl168 rfl rfl dX5_keep_29 ?_
    exact g_eq rfl rfl rfl (hret () _ _ trivial dX5_keep_32)
  · replace c8 := mt (nI_ltI (by omega) (by omega)).mpr c8
    omega
set_option maxHeartbeats 4000000 in
set_option maxRecDepth 100000 in
theorem c_X5_back_n (l : Launch) (E : EV) (ae : Nat → Nat) (ab : Nat → Nat) (ar : Nat → Nat) (an : Nat → Nat) (af : Nat → Nat) (ah : Nat → Nat) (ak : Nat → Nat) (ax : Nat → Nat) (ag : Nat → Nat) (z : Nat) (C : FC) (U : PV) (hU : pz U = 0) : KI l yX5_back wsX5_back (rmN 6) E (σ := Unit) [.ref (ae 0)] ((lfo E ae ab ar an af ah ak ax ag z ++ (fw E an C ++ (pw2 E ak U)))) (fun _ => True) (fun _ => (-2)) (fun _ => (lfo E ae ab ar an af ah ak ax ag z ++ (fw E an C ++ (pw2 E ak U)))) 0 0 := by
  refine KI.of (cc := cX5_back) (maxL := 1) (ty := .int) (hnar := fun _ _ => rfl) rfl rfl rfl (fun x hX hin hret hnL => ?_)
  replace hX : CX x l cX5_back RX5 wsX5_back E (rmN 6) := hX
  show GG x 0 0 ((lfo E ae ab ar an af ah ak ax ag z ++ (fw E an C ++ (pw2 E ak U)))) 0 [(0, .ref (ae 0))] []
  have inRX5 : ∀ w ∈ wsX50, w ∈ wsX5_back := by decide +kernel
  have fl24 : Cond.fieldLink RX5 24 "LieForce" "now" "LLieForce$Force;" ∈ wsX5_back := by decide +kernel
  have fl43 : Cond.fieldLink RX5 43 "LieForce" "kept" "LLieForce$Pile;" ∈ wsX5_back := by decide +kernel
  refine g_aload_n hX dX5_back_0 0 rfl ?_
  refine g_get hX (v := .ref (ak 0)) 0 inRX5 rfl rfl 6 rfl fl43 rfl rfl dX5_back_1 ?_
  refine g_aload_n hX dX5_back_4 0 rfl ?_
  refine g_get hX (v := .ref (an 0)) 0 inRX5 rfl rfl 3 rfl fl24 rfl rfl dX5_back_5 ?_
  have hc8 : CUT ((lfo E ae ab ar an af ah ak ax ag z ++ (fw E an C ++ (pw2 E ak U)))) ((pw2 E ak U) ++ (fw E an C)) (lfo E ae ab ar an af ah ak ax ag z) [8, 9, 10, 11, 12, 13, 14, 15, 16, 17, 18, 19, 20, 21, 22, 23, 1, 2, 3, 4, 5, 6, 7] [0] := ⟨rfl, rfl, rfl, rfl, rfl⟩
  refine g_VI hX hc8 [.ref (an 0)] [] (c_X2_takeLast2_n l E ak U an C (by first | assumption | omega)) gX5_back_X2_takeLast calX2_takeLast rfl rfl rfl rfl 8 rfl rfl rfl rfl dX5_back_8 rfl ⟨Nat.zero_le _, Nat.zero_le _⟩ (fun _ => (lfo E ae ab ar an af ah ak ax ag z ++ (fw E an C ++ (pw2 E ak U)))) [0, 17, 18, 19, 20, 21, 22, 23, 1, 2, 3, 4, 5, 6, 7, 8, 9, 10, 11, 12, 13, 14, 15, 16] rfl (fun _ => rfl) (fun _ hu8 => ?_)
  refine g_if_ne hX 17 dX5_back_11 (by decide) (fun c11 => ?_) (fun c11 => ?_)
  · replace c11 := mt bI_0.mpr c11
    replace c11 := bNf c11
    exact absurd c11 (by simp)
  · replace c11 := bI_0.mp c11
    refine g_bipush hX ((-2)) dX5_back_14 rfl ?_
    exact g_eq rfl rfl rfl (hret () _ _ trivial dX5_back_16)
set_option maxHeartbeats 4000000 in
set_option maxRecDepth 100000 in
theorem c_X5_back_y (l : Launch) (E : EV) (ae : Nat → Nat) (ab : Nat → Nat) (ar : Nat → Nat) (an : Nat → Nat) (af : Nat → Nat) (ah : Nat → Nat) (ak : Nat → Nat) (ax : Nat → Nat) (ag : Nat → Nat) (z : Nat) (C : FC) (V : PV) (U : PV) (h0 : 0 < pz U) (hU : pz U ≤ 2) : KI l yX5_back wsX5_back (rmN 6) E (σ := Unit) [.ref (ae 0)] ((lfo E ae ab ar an af ah ak ax ag z ++ (fw E an C ++ (pw8 E ah V ++ (pw2 E ak U))))) (fun _ => True) (fun _ => (nI (pz U - 1))) (fun _ => (lfo E ae ab ar an af ah ak ax ag z ++ (fw E an (pQ U (pz U - 1)) ++ (pw8 E ah (pclr V) ++ (pw2 E ak (ptk U)))))) 0 0 := by
  refine KI.of (cc := cX5_back) (maxL := 1) (ty := .int) (hnar := fun _ _ => rfl) rfl rfl rfl (fun x hX hin hret hnL => ?_)
  replace hX : CX x l cX5_back RX5 wsX5_back E (rmN 6) := hX
  show GG x 0 0 ((lfo E ae ab ar an af ah ak ax ag z ++ (fw E an C ++ (pw8 E ah V ++ (pw2 E ak U))))) 0 [(0, .ref (ae 0))] []
  have inRX2 : ∀ w ∈ wsX20, w ∈ wsX5_back := by decide +kernel
  have inRX5 : ∀ w ∈ wsX50, w ∈ wsX5_back := by decide +kernel
  have fl168 : Cond.fieldLink RX5 168 "LieForce$Pile" "size" "I" ∈ wsX5_back := by decide +kernel
  have fl24 : Cond.fieldLink RX5 24 "LieForce" "now" "LLieForce$Force;" ∈ wsX5_back := by decide +kernel
  have fl39 : Cond.fieldLink RX5 39 "LieForce" "undoable" "LLieForce$Pile;" ∈ wsX5_back := by decide +kernel
  have fl43 : Cond.fieldLink RX5 43 "LieForce" "kept" "LLieForce$Pile;" ∈ wsX5_back := by decide +kernel
  refine g_aload_n hX dX5_back_0 0 rfl ?_
  refine g_get hX (v := .ref (ak 0)) 0 inRX5 rfl rfl 6 rfl fl43 rfl rfl dX5_back_1 ?_
  refine g_aload_n hX dX5_back_4 0 rfl ?_
  refine g_get hX (v := .ref (an 0)) 0 inRX5 rfl rfl 3 rfl fl24 rfl rfl dX5_back_5 ?_
  have hc8 : CUT ((lfo E ae ab ar an af ah ak ax ag z ++ (fw E an C ++ (pw8 E ah V ++ (pw2 E ak U))))) ((pw2 E ak U) ++ (fw E an C)) ((lfo E ae ab ar an af ah ak ax ag z) ++ (pw8 E ah V)) [66, 67, 68, 69, 70, 71, 72, 73, 74, 75, 76, 77, 78, 79, 80, 81, 1, 2, 3, 4, 5, 6, 7] [0, 8, 9, 10, 11, 12, 13, 14, 15, 16, 17, 18, 19, 20, 21, 22, 23, 24, 25, 26, 27, 28, 29, 30, 31, 32, 33, 34, 35, 36, 37, 38, 39, 40, 41, 42, 43, 44, 45, 46, 47, 48, 49, 50, 51, 52, 53, 54, 55, 56, 57, 58, 59, 60, 61, 62, 63, 64, 65] := ⟨rfl, rfl, rfl, rfl, rfl⟩
  refine g_VI hX hc8 [.ref (an 0)] [] (c_X2_takeLast2_y l E ak U an C (by first | assumption | omega) (by first | assumption | omega)) gX5_back_X2_takeLast calX2_takeLast rfl rfl rfl rfl 66 rfl rfl rfl rfl dX5_back_8 rfl ⟨Nat.zero_le _, Nat.zero_le _⟩ (fun _ => (lfo E ae ab ar an af ah ak ax ag z ++ (fw E an ((pQ U) ((pz U) - 1)) ++ (pw8 E ah V ++ (pw2 E ak (ptk U)))))) [0, 75, 76, 77, 78, 79, 80, 81, 1, 2, 3, 4, 5, 6, 7, 8, 9, 10, 11, 12, 13, 14, 15, 16, 17, 18, 19, 20, 21, 22, 23, 24, 25, 26, 27, 28, 29, 30, 31, 32, 33, 34, 35, 36, 37, 38, 39, 40, 41, 42, 43, 44, 45, 46, 47, 48, 49, 50, 51, 52, 53, 54, 55, 56, 57, 58, 59, 60, 61, 62, 63, 64, 65, 66, 67, 68, 69, 70, 71, 72, 73, 74] rfl (fun _ => rfl) (fun _ hu8 => ?_)
  refine g_if_ne hX 17 dX5_back_11 (by decide) (fun c11 => ?_) (fun c11 => ?_)
  · replace c11 := mt bI_0.mpr c11
    replace c11 := bNf c11
    refine g_aload_n hX dX5_back_17 0 rfl ?_
    refine g_get hX (v := .ref (ah 0)) 0 inRX5 rfl rfl 5 rfl fl39 rfl rfl dX5_back_18 ?_
    have hc21 : CUT ((lfo E ae ab ar an af ah ak ax ag z ++ (fw E an ((pQ U) ((pz U) - 1)) ++ (pw8 E ah V ++ (pw2 E ak (ptk U)))))) (pw8 E ah V) ((lfo E ae ab ar an af ah ak ax ag z ++ (fw E an ((pQ U) ((pz U) - 1)) ++ (pw2 E ak (ptk U))))) [8, 9, 10, 11, 12, 13, 14, 15, 16, 17, 18, 19, 20, 21, 22, 23, 24, 25, 26, 27, 28, 29, 30, 31, 32, 33, 34, 35, 36, 37, 38, 39, 40, 41, 42, 43, 44, 45, 46, 47, 48, 49, 50, 51, 52, 53, 54, 55, 56, 57, 58, 59, 60, 61, 62, 63, 64, 65] [0, 1, 2, 3, 4, 5, 6, 7, 66, 67, 68, 69, 70, 71, 72, 73, 74, 75, 76, 77, 78, 79, 80, 81] := ⟨rfl, rfl, rfl, rfl, rfl⟩
    refine g_VV hX hc21 [] [] (c_X2_clear8 l E ah V) gX5_back_X2_clear calX2_clear rfl rfl rfl rfl 8 rfl rfl rfl rfl dX5_back_21 rfl ⟨Nat.zero_le _, Nat.zero_le _⟩ (fun _ => (lfo E ae ab ar an af ah ak ax ag z ++ (fw E an ((pQ U) ((pz U) - 1)) ++ (pw8 E ah (pclr V) ++ (pw2 E ak (ptk U)))))) [0, 1, 2, 3, 4, 5, 6, 7, 24, 25, 26, 27, 28, 29, 30, 31, 32, 33, 34, 35, 36, 37, 38, 39, 40, 41, 42, 43, 44, 45, 46, 47, 48, 49, 50, 51, 52, 53, 54, 55, 56, 57, 58, 59, 60, 61, 62, 63, 64, 65, 66, 67, 68, 69, 70, 71, 72, 73, 74, 75, 76, 77, 78, 79, 80, 81, 8, 9, 10, 11, 12, 13, 14, 15, 16, 17, 18, 19, 20, 21, 22, 23] rfl (fun _ => rfl) (fun _ hu21 => ?_)
    refine g_aload_n hX dX5_back_24 0 rfl ?_
    refine g_get hX (v := .ref (ak 0)) 0 inRX5 rfl rfl 6 rfl fl43 rfl rfl dX5_back_25 ?_
    refine g_get hX (v := .int (nI (pz (ptk U)))) 66 inRX2 rfl rfl 1 rfl fl168 rfl rfl dX5_back_28 ?_
    exact g_eq rfl rfl rfl (hret () _ _ trivial dX5_back_31)
  · replace c11 := bI_0.mp c11
    exact absurd c11 (by simp)
set_option maxHeartbeats 4000000 in
set_option maxRecDepth 100000 in
theorem c_X5_undo_n (l : Launch) (E : EV) (ae : Nat → Nat) (ab : Nat → Nat) (ar : Nat → Nat) (an : Nat → Nat) (af : Nat → Nat) (ah : Nat → Nat) (ak : Nat → Nat) (ax : Nat → Nat) (ag : Nat → Nat) (z : Nat) (C : FC) (V : PV) (hV0 : pz V = 0) : KI l yX5_undo wsX5_undo (rmN 6) E (σ := Unit) [.ref (ae 0)] ((lfo E ae ab ar an af ah ak ax ag z ++ (fw E an C ++ (pw8 E ah V)))) (fun _ => True) (fun _ => (-2)) (fun _ => (lfo E ae ab ar an af ah ak ax ag z ++ (fw E an C ++ (pw8 E ah V)))) 0 0 := by
  refine KI.of (cc := cX5_undo) (maxL := 1) (ty := .int) (hnar := fun _ _ => rfl) rfl rfl rfl (fun x hX hin hret hnL => ?_)
  replace hX : CX x l cX5_undo RX5 wsX5_undo E (rmN 6) := hX
  show GG x 0 0 ((lfo E ae ab ar an af ah ak ax ag z ++ (fw E an C ++ (pw8 E ah V)))) 0 [(0, .ref (ae 0))] []
  have inRX5 : ∀ w ∈ wsX50, w ∈ wsX5_undo := by decide +kernel
  have fl24 : Cond.fieldLink RX5 24 "LieForce" "now" "LLieForce$Force;" ∈ wsX5_undo := by decide +kernel
  have fl39 : Cond.fieldLink RX5 39 "LieForce" "undoable" "LLieForce$Pile;" ∈ wsX5_undo := by decide +kernel
  refine g_aload_n hX dX5_undo_0 0 rfl ?_
  refine g_get hX (v := .ref (ah 0)) 0 inRX5 rfl rfl 5 rfl fl39 rfl rfl dX5_undo_1 ?_
  refine g_aload_n hX dX5_undo_4 0 rfl ?_
  refine g_get hX (v := .ref (an 0)) 0 inRX5 rfl rfl 3 rfl fl24 rfl rfl dX5_undo_5 ?_
  have hc8 : CUT ((lfo E ae ab ar an af ah ak ax ag z ++ (fw E an C ++ (pw8 E ah V)))) ((pw8 E ah V) ++ (fw E an C)) (lfo E ae ab ar an af ah ak ax ag z) [8, 9, 10, 11, 12, 13, 14, 15, 16, 17, 18, 19, 20, 21, 22, 23, 24, 25, 26, 27, 28, 29, 30, 31, 32, 33, 34, 35, 36, 37, 38, 39, 40, 41, 42, 43, 44, 45, 46, 47, 48, 49, 50, 51, 52, 53, 54, 55, 56, 57, 58, 59, 60, 61, 62, 63, 64, 65, 1, 2, 3, 4, 5, 6, 7] [0] := ⟨rfl, rfl, rfl, rfl, rfl⟩
  refine g_VI hX hc8 [.ref (an 0)] [] (c_X2_takeLast8_n l E ah V an C (by first | assumption | omega)) gX5_undo_X2_takeLast calX2_takeLast rfl rfl rfl rfl 8 rfl rfl rfl rfl dX5_undo_8 rfl ⟨Nat.zero_le _, Nat.zero_le _⟩ (fun _ => (lfo E ae ab ar an af ah ak ax ag z ++ (fw E an C ++ (pw8 E ah V)))) [0, 59, 60, 61, 62, 63, 64, 65, 1, 2, 3, 4, 5, 6, 7, 8, 9, 10, 11, 12, 13, 14, 15, 16, 17, 18, 19, 20, 21, 22, 23, 24, 25, 26, 27, 28, 29, 30, 31, 32, 33, 34, 35, 36, 37, 38, 39, 40, 41, 42, 43, 44, 45, 46, 47, 48, 49, 50, 51, 52, 53, 54, 55, 56, 57, 58] rfl (fun _ => rfl) (fun _ hu8 => ?_)
  refine g_if_ne hX 17 dX5_undo_11 (by decide) (fun c11 => ?_) (fun c11 => ?_)
  · replace c11 := mt bI_0.mpr c11
    replace c11 := bNf c11
    exact absurd c11 (by simp)
  · replace c11 := bI_0.mp c11
    refine g_bipush hX ((-2)) dX5_undo_14 rfl ?_
    exact g_eq rfl rfl rfl (hret () _ _ trivial dX5_undo_16)
set_option maxHeartbeats 4000000 in
set_option maxRecDepth 100000 in
theorem c_X5_undo_y (l : Launch) (E : EV) (ae : Nat → Nat) (ab : Nat → Nat) (ar : Nat → Nat) (an : Nat → Nat) (af : Nat → Nat) (ah : Nat → Nat) (ak : Nat → Nat) (ax : Nat → Nat) (ag : Nat → Nat) (z : Nat) (C : FC) (V : PV) (h0 : 0 < pz V) (hV8 : pz V ≤ 8) : KI l yX5_undo wsX5_undo (rmN 6) E (σ := Unit) [.ref (ae 0)] ((lfo E ae ab ar an af ah ak ax ag z ++ (fw E an C ++ (pw8 E ah V)))) (fun _ => True) (fun _ => (nI (pz V - 1))) (fun _ => (lfo E ae ab ar an af ah ak ax ag z ++ (fw E an (pQ V (pz V - 1)) ++ (pw8 E ah (ptk V))))) 0 0 := by
  refine KI.of (cc := cX5_undo) (maxL := 1) (ty := .int) (hnar := fun _ _ => rfl) rfl rfl rfl (fun x hX hin hret hnL => ?_)
  replace hX : CX x l cX5_undo RX5 wsX5_undo E (rmN 6) := hX
  show GG x 0 0 ((lfo E ae ab ar an af ah ak ax ag z ++ (fw E an C ++ (pw8 E ah V)))) 0 [(0, .ref (ae 0))] []
  have inRX2 : ∀ w ∈ wsX20, w ∈ wsX5_undo := by decide +kernel
  have inRX5 : ∀ w ∈ wsX50, w ∈ wsX5_undo := by decide +kernel
  have fl168 : Cond.fieldLink RX5 168 "LieForce$Pile" "size" "I" ∈ wsX5_undo := by decide +kernel
  have fl24 : Cond.fieldLink RX5 24 "LieForce" "now" "LLieForce$Force;" ∈ wsX5_undo := by decide +kernel
  have fl39 : Cond.fieldLink RX5 39 "LieForce" "undoable" "LLieForce$Pile;" ∈ wsX5_undo := by decide +kernel
  refine g_aload_n hX dX5_undo_0 0 rfl ?_
  refine g_get hX (v := .ref (ah 0)) 0 inRX5 rfl rfl 5 rfl fl39 rfl rfl dX5_undo_1 ?_
  refine g_aload_n hX dX5_undo_4 0 rfl ?_
  refine g_get hX (v := .ref (an 0)) 0 inRX5 rfl rfl 3 rfl fl24 rfl rfl dX5_undo_5 ?_
  have hc8 : CUT ((lfo E ae ab ar an af ah ak ax ag z ++ (fw E an C ++ (pw8 E ah V)))) ((pw8 E ah V) ++ (fw E an C)) (lfo E ae ab ar an af ah ak ax ag z) [8, 9, 10, 11, 12, 13, 14, 15, 16, 17, 18, 19, 20, 21, 22, 23, 24, 25, 26, 27, 28, 29, 30, 31, 32, 33, 34, 35, 36, 37, 38, 39, 40, 41, 42, 43, 44, 45, 46, 47, 48, 49, 50, 51, 52, 53, 54, 55, 56, 57, 58, 59, 60, 61, 62, 63, 64, 65, 1, 2, 3, 4, 5, 6, 7] [0] := ⟨rfl, rfl, rfl, rfl, rfl⟩
  refine g_VI hX hc8 [.ref (an 0)] [] (c_X2_takeLast8_y l E ah V an C (by first | assumption | omega) (by first | assumption | omega)) gX5_undo_X2_takeLast calX2_takeLast rfl rfl rfl rfl 8 rfl rfl rfl rfl dX5_undo_8 rfl ⟨Nat.zero_le _, Nat.zero_le _⟩ (fun _ => (lfo E ae ab ar an af ah ak ax ag z ++ (fw E an ((pQ V) ((pz V) - 1)) ++ (pw8 E ah (ptk V))))) [0, 59, 60, 61, 62, 63, 64, 65, 1, 2, 3, 4, 5, 6, 7, 8, 9, 10, 11, 12, 13, 14, 15, 16, 17, 18, 19, 20, 21, 22, 23, 24, 25, 26, 27, 28, 29, 30, 31, 32, 33, 34, 35, 36, 37, 38, 39, 40, 41, 42, 43, 44, 45, 46, 47, 48, 49, 50, 51, 52, 53, 54, 55, 56, 57, 58] rfl (fun _ => rfl) (fun _ hu8 => ?_)
  refine g_if_ne hX 17 dX5_undo_11 (by decide) (fun c11 => ?_) (fun c11 => ?_)
  · replace c11 := mt bI_0.mpr c11
    replace c11 := bNf c11
    refine g_aload_n hX dX5_undo_17 0 rfl ?_
    refine g_get hX (v := .ref (ah 0)) 0 inRX5 rfl rfl 5 rfl fl39 rfl rfl dX5_undo_18 ?_
    refine g_get hX (v := .int (nI (pz (ptk V)))) 8 inRX2 rfl rfl 1 rfl fl168 rfl rfl dX5_undo_21 ?_
    exact g_eq rfl rfl rfl (hret () _ _ trivial dX5_undo_24)
  · replace c11 := bI_0.mp c11
    exact absurd c11 (by simp)
set_option maxHeartbeats 4000000 in
set_option maxRecDepth 100000 in
theorem c_X5_count (l : Launch) (E : EV) (ae : Nat → Nat) (ab : Nat → Nat) (ar : Nat → Nat) (an : Nat → Nat) (af : Nat → Nat) (ah : Nat → Nat) (ak : Nat → Nat) (ax : Nat → Nat) (ag : Nat → Nat) (z : Nat) (C : FC) (V : PV) (U : PV) (S : SC) (x0 : Int32) (hC : FO C) (hV : VB C) : KI l yX5_count wsX5_count (rmN 6) E (σ := Unit) [.ref (ae 0), .int x0] ((lfo E ae ab ar an af ah ak ax ag z ++ (fw E an C ++ (pw8 E ah V ++ (pw2 E ak U ++ (sw E ax S)))))) (fun _ => True) (fun _ => (cntV C (hN S) (pz V) (pz U) z x0)) (fun _ => (lfo E ae ab ar an af ah ak ax ag z ++ (fw E an C ++ (pw8 E ah V ++ (pw2 E ak U ++ (sw E ax S)))))) 0 0 := by
  refine KI.of (cc := cX5_count) (maxL := 2) (ty := .int) (hnar := fun _ _ => rfl) rfl rfl rfl (fun x hX hin hret hnL => ?_)
  replace hX : CX x l cX5_count RX5 wsX5_count E (rmN 6) := hX
  show GG x 0 0 ((lfo E ae ab ar an af ah ak ax ag z ++ (fw E an C ++ (pw8 E ah V ++ (pw2 E ak U ++ (sw E ax S)))))) 0 [(0, .ref (ae 0)), (1, .int x0)] []
  have inRX0 : ∀ w ∈ wsX00, w ∈ wsX5_count := by decide +kernel
  have inRX2 : ∀ w ∈ wsX20, w ∈ wsX5_count := by decide +kernel
  have inRX4 : ∀ w ∈ wsX40, w ∈ wsX5_count := by decide +kernel
  have inRX5 : ∀ w ∈ wsX50, w ∈ wsX5_count := by decide +kernel
  have fl108 : Cond.fieldLink RX5 108 "LieForce$Force" "facts" "I" ∈ wsX5_count := by decide +kernel
  have fl141 : Cond.fieldLink RX5 141 "LieForce$Force" "days" "I" ∈ wsX5_count := by decide +kernel
  have fl168 : Cond.fieldLink RX5 168 "LieForce$Pile" "size" "I" ∈ wsX5_count := by decide +kernel
  have fl210 : Cond.fieldLink RX5 210 "LieForce$Sight" "size" "I" ∈ wsX5_count := by decide +kernel
  have fl24 : Cond.fieldLink RX5 24 "LieForce" "now" "LLieForce$Force;" ∈ wsX5_count := by decide +kernel
  have fl255 : Cond.fieldLink RX5 255 "LieForce$Force" "withdrawn" "I" ∈ wsX5_count := by decide +kernel
  have fl39 : Cond.fieldLink RX5 39 "LieForce" "undoable" "LLieForce$Pile;" ∈ wsX5_count := by decide +kernel
  have fl43 : Cond.fieldLink RX5 43 "LieForce" "kept" "LLieForce$Pile;" ∈ wsX5_count := by decide +kernel
  have fl49 : Cond.fieldLink RX5 49 "LieForce" "sight" "LLieForce$Sight;" ∈ wsX5_count := by decide +kernel
  have fl76 : Cond.fieldLink RX5 76 "LieForce" "length" "I" ∈ wsX5_count := by decide +kernel
  have fl80 : Cond.fieldLink RX5 80 "LieForce$Force" "sayings" "I" ∈ wsX5_count := by decide +kernel
  obtain ⟨h9, h64, h512, hT, hI⟩ := id hC
  refine g_iload_n hX dX5_count_0 1 rfl ?_
  by_cases sw1_0 : x0 = nI 0
  · refine g_tin hX 56 dX5_count_1 (by rw [sw1_0]; decide) (by rw [sw1_0]; decide) (by rw [sw1_0]; rfl) (by decide) ?_
    refine g_aload_n hX dX5_count_56 0 rfl ?_
    refine g_get hX (v := .ref (an 0)) 0 inRX5 rfl rfl 3 rfl fl24 rfl rfl dX5_count_57 ?_
    refine g_get hX (v := .int (nI (cN C))) 1 inRX0 rfl rfl 1 rfl fl80 rfl rfl dX5_count_60 ?_
    exact g_eq rfl rfl (congrArg (fun z => [Value.int z]) (by show _ = cntV C (hN S) (pz V) (pz U) z x0; rw [cntV, if_pos sw1_0])) (hret () _ _ trivial dX5_count_63)
  by_cases sw1_1 : x0 = nI 1
  · refine g_tin hX 64 dX5_count_1 (by rw [sw1_1]; decide) (by rw [sw1_1]; decide) (by rw [sw1_1]; rfl) (by decide) ?_
    refine g_aload_n hX dX5_count_64 0 rfl ?_
    refine g_get hX (v := .ref (an 0)) 0 inRX5 rfl rfl 3 rfl fl24 rfl rfl dX5_count_65 ?_
    refine g_get hX (v := .int (nI (cG C))) 1 inRX0 rfl rfl 2 rfl fl255 rfl rfl dX5_count_68 ?_
    have hc71 : CUT ((lfo E ae ab ar an af ah ak ax ag z ++ (fw E an C ++ (pw8 E ah V ++ (pw2 E ak U ++ (sw E ax S)))))) (([] : va_W)) ((lfo E ae ab ar an af ah ak ax ag z ++ (fw E an C ++ (pw8 E ah V ++ (pw2 E ak U ++ (sw E ax S)))))) [] [0, 1, 2, 3, 4, 5, 6, 7, 8, 9, 10, 11, 12, 13, 14, 15, 16, 17, 18, 19, 20, 21, 22, 23, 24, 25, 26, 27, 28, 29, 30, 31, 32, 33, 34, 35, 36, 37, 38, 39, 40, 41, 42, 43, 44, 45, 46, 47, 48, 49, 50, 51, 52, 53, 54, 55, 56, 57, 58, 59, 60, 61, 62, 63, 64, 65, 66, 67, 68, 69, 70, 71, 72, 73, 74, 75, 76, 77, 78, 79, 80, 81, 82, 83, 84] := ⟨rfl, rfl, rfl, rfl, rfl⟩
    refine g_TI hX hc71 [.int (nI (cG C))] [] (c_J6_bitCount_0f7a4 l E (cG C) (by omega)) gX5_count_J6_bitCount_0f7a4 calJ6_bitCount_0f7a4 rfl rfl rfl rfl dX5_count_71 rfl ⟨Nat.zero_le _, Nat.zero_le _⟩ (fun _ => (lfo E ae ab ar an af ah ak ax ag z ++ (fw E an C ++ (pw8 E ah V ++ (pw2 E ak U ++ (sw E ax S)))))) [0, 1, 2, 3, 4, 5, 6, 7, 8, 9, 10, 11, 12, 13, 14, 15, 16, 17, 18, 19, 20, 21, 22, 23, 24, 25, 26, 27, 28, 29, 30, 31, 32, 33, 34, 35, 36, 37, 38, 39, 40, 41, 42, 43, 44, 45, 46, 47, 48, 49, 50, 51, 52, 53, 54, 55, 56, 57, 58, 59, 60, 61, 62, 63, 64, 65, 66, 67, 68, 69, 70, 71, 72, 73, 74, 75, 76, 77, 78, 79, 80, 81, 82, 83, 84] rfl (fun _ => rfl) (fun _ hu71 => ?_)
    exact g_eq rfl rfl (congrArg (fun z => [Value.int z]) (by show _ = cntV C (hN S) (pz V) (pz U) z x0; rw [cntV, if_neg sw1_0, if_pos sw1_1])) (hret () _ _ trivial dX5_count_74)
  by_cases sw1_2 : x0 = nI 2
  · refine g_tin hX 75 dX5_count_1 (by rw [sw1_2]; decide) (by rw [sw1_2]; decide) (by rw [sw1_2]; rfl) (by decide) ?_
    refine g_aload_n hX dX5_count_75 0 rfl ?_
    refine g_get hX (v := .ref (an 0)) 0 inRX5 rfl rfl 3 rfl fl24 rfl rfl dX5_count_76 ?_
    have hc79 : CUT ((lfo E ae ab ar an af ah ak ax ag z ++ (fw E an C ++ (pw8 E ah V ++ (pw2 E ak U ++ (sw E ax S)))))) (fw E an C) ((lfo E ae ab ar an af ah ak ax ag z ++ (pw8 E ah V ++ (pw2 E ak U ++ (sw E ax S))))) [1, 2, 3, 4, 5, 6, 7] [0, 8, 9, 10, 11, 12, 13, 14, 15, 16, 17, 18, 19, 20, 21, 22, 23, 24, 25, 26, 27, 28, 29, 30, 31, 32, 33, 34, 35, 36, 37, 38, 39, 40, 41, 42, 43, 44, 45, 46, 47, 48, 49, 50, 51, 52, 53, 54, 55, 56, 57, 58, 59, 60, 61, 62, 63, 64, 65, 66, 67, 68, 69, 70, 71, 72, 73, 74, 75, 76, 77, 78, 79, 80, 81, 82, 83, 84] := ⟨rfl, rfl, rfl, rfl, rfl⟩
    refine g_VI hX hc79 [] [] (c_X0_policemen l E an C (by first | assumption | omega)) gX5_count_X0_policemen calX0_policemen rfl rfl rfl rfl 1 rfl rfl rfl rfl dX5_count_79 rfl ⟨Nat.zero_le _, Nat.zero_le _⟩ (fun _ => (lfo E ae ab ar an af ah ak ax ag z ++ (fw E an C ++ (pw8 E ah V ++ (pw2 E ak U ++ (sw E ax S)))))) [0, 78, 79, 80, 81, 82, 83, 84, 1, 2, 3, 4, 5, 6, 7, 8, 9, 10, 11, 12, 13, 14, 15, 16, 17, 18, 19, 20, 21, 22, 23, 24, 25, 26, 27, 28, 29, 30, 31, 32, 33, 34, 35, 36, 37, 38, 39, 40, 41, 42, 43, 44, 45, 46, 47, 48, 49, 50, 51, 52, 53, 54, 55, 56, 57, 58, 59, 60, 61, 62, 63, 64, 65, 66, 67, 68, 69, 70, 71, 72, 73, 74, 75, 76, 77] rfl (fun _ => rfl) (fun _ hu79 => ?_)
    exact g_eq rfl rfl (congrArg (fun z => [Value.int z]) (by show _ = cntV C (hN S) (pz V) (pz U) z x0; rw [cntV, if_neg sw1_0, if_neg sw1_1, if_pos sw1_2])) (hret () _ _ trivial dX5_count_82)
  by_cases sw1_3 : x0 = nI 3
  · refine g_tin hX 83 dX5_count_1 (by rw [sw1_3]; decide) (by rw [sw1_3]; decide) (by rw [sw1_3]; rfl) (by decide) ?_
    refine g_aload_n hX dX5_count_83 0 rfl ?_
    refine g_get hX (v := .ref (an 0)) 0 inRX5 rfl rfl 3 rfl fl24 rfl rfl dX5_count_84 ?_
    have hc87 : CUT ((lfo E ae ab ar an af ah ak ax ag z ++ (fw E an C ++ (pw8 E ah V ++ (pw2 E ak U ++ (sw E ax S)))))) (fw E an C) ((lfo E ae ab ar an af ah ak ax ag z ++ (pw8 E ah V ++ (pw2 E ak U ++ (sw E ax S))))) [1, 2, 3, 4, 5, 6, 7] [0, 8, 9, 10, 11, 12, 13, 14, 15, 16, 17, 18, 19, 20, 21, 22, 23, 24, 25, 26, 27, 28, 29, 30, 31, 32, 33, 34, 35, 36, 37, 38, 39, 40, 41, 42, 43, 44, 45, 46, 47, 48, 49, 50, 51, 52, 53, 54, 55, 56, 57, 58, 59, 60, 61, 62, 63, 64, 65, 66, 67, 68, 69, 70, 71, 72, 73, 74, 75, 76, 77, 78, 79, 80, 81, 82, 83, 84] := ⟨rfl, rfl, rfl, rfl, rfl⟩
    refine g_VI hX hc87 [] [] (c_X0_policemenWhoServed l E an C (by first | assumption | omega) (by first | assumption | omega)) gX5_count_X0_policemenWhoServed calX0_policemenWhoServed rfl rfl rfl rfl 1 rfl rfl rfl rfl dX5_count_87 rfl ⟨Nat.zero_le _, Nat.zero_le _⟩ (fun _ => (lfo E ae ab ar an af ah ak ax ag z ++ (fw E an C ++ (pw8 E ah V ++ (pw2 E ak U ++ (sw E ax S)))))) [0, 78, 79, 80, 81, 82, 83, 84, 1, 2, 3, 4, 5, 6, 7, 8, 9, 10, 11, 12, 13, 14, 15, 16, 17, 18, 19, 20, 21, 22, 23, 24, 25, 26, 27, 28, 29, 30, 31, 32, 33, 34, 35, 36, 37, 38, 39, 40, 41, 42, 43, 44, 45, 46, 47, 48, 49, 50, 51, 52, 53, 54, 55, 56, 57, 58, 59, 60, 61, 62, 63, 64, 65, 66, 67, 68, 69, 70, 71, 72, 73, 74, 75, 76, 77] rfl (fun _ => rfl) (fun _ hu87 => ?_)
    exact g_eq rfl rfl (congrArg (fun z => [Value.int z]) (by show _ = cntV C (hN S) (pz V) (pz U) z x0; rw [cntV, if_neg sw1_0, if_neg sw1_1, if_neg sw1_2, if_pos sw1_3])) (hret () _ _ trivial dX5_count_90)
  by_cases sw1_4 : x0 = nI 4
  · refine g_tin hX 91 dX5_count_1 (by rw [sw1_4]; decide) (by rw [sw1_4]; decide) (by rw [sw1_4]; rfl) (by decide) ?_
    refine g_aload_n hX dX5_count_91 0 rfl ?_
    refine g_get hX (v := .ref (an 0)) 0 inRX5 rfl rfl 3 rfl fl24 rfl rfl dX5_count_92 ?_
    refine g_get hX (v := .int (nI (cY C))) 1 inRX0 rfl rfl 3 rfl fl141 rfl rfl dX5_count_95 ?_
    exact g_eq rfl rfl (congrArg (fun z => [Value.int z]) (by show _ = cntV C (hN S) (pz V) (pz U) z x0; rw [cntV, if_neg sw1_0, if_neg sw1_1, if_neg sw1_2, if_neg sw1_3, if_pos sw1_4])) (hret () _ _ trivial dX5_count_98)
  by_cases sw1_5 : x0 = nI 5
  · refine g_tin hX 99 dX5_count_1 (by rw [sw1_5]; decide) (by rw [sw1_5]; decide) (by rw [sw1_5]; rfl) (by decide) ?_
    refine g_aload_n hX dX5_count_99 0 rfl ?_
    refine g_get hX (v := .ref (an 0)) 0 inRX5 rfl rfl 3 rfl fl24 rfl rfl dX5_count_100 ?_
    refine g_get hX (v := .int (nI (cF C))) 1 inRX0 rfl rfl 0 rfl fl108 rfl rfl dX5_count_103 ?_
    have hc106 : CUT ((lfo E ae ab ar an af ah ak ax ag z ++ (fw E an C ++ (pw8 E ah V ++ (pw2 E ak U ++ (sw E ax S)))))) (([] : va_W)) ((lfo E ae ab ar an af ah ak ax ag z ++ (fw E an C ++ (pw8 E ah V ++ (pw2 E ak U ++ (sw E ax S)))))) [] [0, 1, 2, 3, 4, 5, 6, 7, 8, 9, 10, 11, 12, 13, 14, 15, 16, 17, 18, 19, 20, 21, 22, 23, 24, 25, 26, 27, 28, 29, 30, 31, 32, 33, 34, 35, 36, 37, 38, 39, 40, 41, 42, 43, 44, 45, 46, 47, 48, 49, 50, 51, 52, 53, 54, 55, 56, 57, 58, 59, 60, 61, 62, 63, 64, 65, 66, 67, 68, 69, 70, 71, 72, 73, 74, 75, 76, 77, 78, 79, 80, 81, 82, 83, 84] := ⟨rfl, rfl, rfl, rfl, rfl⟩
    refine g_TI hX hc106 [.int (nI (cF C))] [] (c_J6_bitCount_0f7a4 l E (cF C) (by omega)) gX5_count_J6_bitCount_0f7a4 calJ6_bitCount_0f7a4 rfl rfl rfl rfl dX5_count_106 rfl ⟨Nat.zero_le _, Nat.zero_le _⟩ (fun _ => (lfo E ae ab ar an af ah ak ax ag z ++ (fw E an C ++ (pw8 E ah V ++ (pw2 E ak U ++ (sw E ax S)))))) [0, 1, 2, 3, 4, 5, 6, 7, 8, 9, 10, 11, 12, 13, 14, 15, 16, 17, 18, 19, 20, 21, 22, 23, 24, 25, 26, 27, 28, 29, 30, 31, 32, 33, 34, 35, 36, 37, 38, 39, 40, 41, 42, 43, 44, 45, 46, 47, 48, 49, 50, 51, 52, 53, 54, 55, 56, 57, 58, 59, 60, 61, 62, 63, 64, 65, 66, 67, 68, 69, 70, 71, 72, 73, 74, 75, 76, 77, 78, 79, 80, 81, 82, 83, 84] rfl (fun _ => rfl) (fun _ hu106 => ?_)
    exact g_eq rfl rfl (congrArg (fun z => [Value.int z]) (by show _ = cntV C (hN S) (pz V) (pz U) z x0; rw [cntV, if_neg sw1_0, if_neg sw1_1, if_neg sw1_2, if_neg sw1_3, if_neg sw1_4, if_pos sw1_5])) (hret () _ _ trivial dX5_count_109)
  by_cases sw1_6 : x0 = nI 6
  · refine g_tin hX 110 dX5_count_1 (by rw [sw1_6]; decide) (by rw [sw1_6]; decide) (by rw [sw1_6]; rfl) (by decide) ?_
    refine g_aload_n hX dX5_count_110 0 rfl ?_
    refine g_get hX (v := .ref (ax 0)) 0 inRX5 rfl rfl 7 rfl fl49 rfl rfl dX5_count_111 ?_
    refine g_get hX (v := .int (nI (hN S))) 82 inRX4 rfl rfl 2 rfl fl210 rfl rfl dX5_count_114 ?_
    exact g_eq rfl rfl (congrArg (fun z => [Value.int z]) (by show _ = cntV C (hN S) (pz V) (pz U) z x0; rw [cntV, if_neg sw1_0, if_neg sw1_1, if_neg sw1_2, if_neg sw1_3, if_neg sw1_4, if_neg sw1_5, if_pos sw1_6])) (hret () _ _ trivial dX5_count_117)
  by_cases sw1_7 : x0 = nI 7
  · refine g_tin hX 118 dX5_count_1 (by rw [sw1_7]; decide) (by rw [sw1_7]; decide) (by rw [sw1_7]; rfl) (by decide) ?_
    refine g_aload_n hX dX5_count_118 0 rfl ?_
    refine g_get hX (v := .ref (ah 0)) 0 inRX5 rfl rfl 5 rfl fl39 rfl rfl dX5_count_119 ?_
    refine g_get hX (v := .int (nI (pz V))) 8 inRX2 rfl rfl 1 rfl fl168 rfl rfl dX5_count_122 ?_
    exact g_eq rfl rfl (congrArg (fun z => [Value.int z]) (by show _ = cntV C (hN S) (pz V) (pz U) z x0; rw [cntV, if_neg sw1_0, if_neg sw1_1, if_neg sw1_2, if_neg sw1_3, if_neg sw1_4, if_neg sw1_5, if_neg sw1_6, if_pos sw1_7])) (hret () _ _ trivial dX5_count_125)
  by_cases sw1_8 : x0 = nI 8
  · refine g_tin hX 126 dX5_count_1 (by rw [sw1_8]; decide) (by rw [sw1_8]; decide) (by rw [sw1_8]; rfl) (by decide) ?_
    refine g_aload_n hX dX5_count_126 0 rfl ?_
    refine g_get hX (v := .ref (ak 0)) 0 inRX5 rfl rfl 6 rfl fl43 rfl rfl dX5_count_127 ?_
    refine g_get hX (v := .int (nI (pz U))) 66 inRX2 rfl rfl 1 rfl fl168 rfl rfl dX5_count_130 ?_
    exact g_eq rfl rfl (congrArg (fun z => [Value.int z]) (by show _ = cntV C (hN S) (pz V) (pz U) z x0; rw [cntV, if_neg sw1_0, if_neg sw1_1, if_neg sw1_2, if_neg sw1_3, if_neg sw1_4, if_neg sw1_5, if_neg sw1_6, if_neg sw1_7, if_pos sw1_8])) (hret () _ _ trivial dX5_count_133)
  by_cases sw1_9 : x0 = nI 9
  · refine g_tin hX 134 dX5_count_1 (by rw [sw1_9]; decide) (by rw [sw1_9]; decide) (by rw [sw1_9]; rfl) (by decide) ?_
    refine g_aload_n hX dX5_count_134 0 rfl ?_
    refine g_get hX (v := .int (nI z)) 0 inRX5 rfl rfl 1 rfl fl76 rfl rfl dX5_count_135 ?_
    exact g_eq rfl rfl (congrArg (fun z => [Value.int z]) (by show _ = cntV C (hN S) (pz V) (pz U) z x0; rw [cntV, if_neg sw1_0, if_neg sw1_1, if_neg sw1_2, if_neg sw1_3, if_neg sw1_4, if_neg sw1_5, if_neg sw1_6, if_neg sw1_7, if_neg sw1_8, if_pos sw1_9])) (hret () _ _ trivial dX5_count_138)
  refine g_tout hX 139 dX5_count_1 (tsw_out (hi := 9) (by decide) (fun v hv => match v, hv with | 0, _ => sw1_0 | 1, _ => sw1_1 | 2, _ => sw1_2 | 3, _ => sw1_3 | 4, _ => sw1_4 | 5, _ => sw1_5 | 6, _ => sw1_6 | 7, _ => sw1_7 | 8, _ => sw1_8 | 9, _ => sw1_9 | v + 10, hv => absurd hv (by omega))) (by decide) ?_
  refine g_iconst hX ((-1)) dX5_count_139 rfl ?_
  exact g_eq rfl rfl (congrArg (fun z => [Value.int z]) (by show _ = cntV C (hN S) (pz V) (pz U) z x0; rw [cntV, if_neg sw1_0, if_neg sw1_1, if_neg sw1_2, if_neg sw1_3, if_neg sw1_4, if_neg sw1_5, if_neg sw1_6, if_neg sw1_7, if_neg sw1_8, if_neg sw1_9])) (hret () _ _ trivial dX5_count_140)
