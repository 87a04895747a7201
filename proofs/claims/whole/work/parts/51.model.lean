set_option maxHeartbeats 4000000 in
set_option maxRecDepth 100000 in
theorem c_X0_init (l : Launch) (E : EV) (p : Nat)  : KV l yX0_init wsX0_init (rmA 1 6 54) E (σ := Nat → Nat) [.ref p] ([(p, .inr (0, [.int (nI 0), .int (nI 0), .int (nI 0), .int (nI 0), .int (nI 0), .null, .null, .null, .null, .null, .null]))]) (fun u => u 0 = p) (fun u => fw E u FC0) 6 54 := by
  refine KV.of (cc := cX0_init) (maxL := 1) rfl rfl rfl (fun x hX hin hret hnL => ?_)
  replace hX : CX x l cX0_init RX0 wsX0_init E (rmA 1 6 54) := hX
  show GG x 0 0 ([(p, .inr (0, [.int (nI 0), .int (nI 0), .int (nI 0), .int (nI 0), .int (nI 0), .null, .null, .null, .null, .null, .null]))]) 0 [(0, .ref p)] []
  have inRX0 : ∀ w ∈ wsX00, w ∈ wsX0_init := by decide +kernel
  have fl15 : Cond.fieldLink RX0 15 "LieForce$Force" "kinds" "[I" ∈ wsX0_init := by decide +kernel
  have fl19 : Cond.fieldLink RX0 19 "LieForce$Force" "firsts" "[I" ∈ wsX0_init := by decide +kernel
  have fl22 : Cond.fieldLink RX0 22 "LieForce$Force" "seconds" "[I" ∈ wsX0_init := by decide +kernel
  have fl25 : Cond.fieldLink RX0 25 "LieForce$Force" "persons" "[I" ∈ wsX0_init := by decide +kernel
  have fl28 : Cond.fieldLink RX0 28 "LieForce$Force" "served" "[I" ∈ wsX0_init := by decide +kernel
  have fl31 : Cond.fieldLink RX0 31 "LieForce$Force" "soWorlds" "[J" ∈ wsX0_init := by decide +kernel
  have fl9 : Cond.fieldLink RX0 9 "LieForce$Force" "term" "I" ∈ wsX0_init := by decide +kernel
  refine g_aload_n hX dX0_init_0 0 rfl ?_
  refine g_obj hX (by decide +kernel) (by decide +kernel) (by decide +kernel) rfl dX0_init_1 ?_
  refine g_aload_n hX dX0_init_4 0 rfl ?_
  refine g_iconst hX (nI 5) dX0_init_5 rfl ?_
  refine g_put hX ([(p, .inr (0, [.int (nI 0), .int (nI 0), .int (nI 0), .int (nI 0), .int (nI 5), .null, .null, .null, .null, .null, .null]))]) 0 inRX0 tyX0_ok nmX0 rfl rfl 4 rfl fl9 rfl rfl rfl rfl rfl dX0_init_6 rfl ?_
  refine g_aload_n hX dX0_init_9 0 rfl ?_
  refine g_bipush hX (nI 9) dX0_init_10 rfl ?_
  refine g_newa hX (9, .inl (fun j => nI (Z0 j))) 0 rfl (by decide +kernel) rfl (fun c => by first | (rw [vp_cell_i]; rfl) | (rw [vp_cell_l]; rfl)) (by decide) (by rw [nI_clamp (by decide)]) (Nat.le_of_ble_eq_true rfl) ⟨Nat.le_of_ble_eq_true rfl, Nat.le_of_ble_eq_true rfl⟩ dX0_init_12 (fun q12_7 => ?_)
  refine g_eq (ws' := ([(p, .inr (0, [.int (nI 0), .int (nI 0), .int (nI 0), .int (nI 0), .int (nI 5), .null, .null, .null, .null, .null, .null]))]) ++ ([(q12_7, .inl (E.2.1 0, 9, .inl (fun j => nI (Z0 j))))])) rfl rfl rfl ?_
  refine g_putF hX (([(p, .inr (0, [.int (nI 0), .int (nI 0), .int (nI 0), .int (nI 0), .int (nI 5), .ref q12_7, .null, .null, .null, .null, .null]))]) ++ ([(q12_7, .inl (E.2.1 0, 9, .inl (fun j => nI (Z0 j))))])) 0 hin inRX0 tyX0_ok nmX0 rfl rfl 5 rfl fl15 rfl rfl rfl rfl rfl rfl dX0_init_14 rfl ?_
  refine g_aload_n hX dX0_init_17 0 rfl ?_
  refine g_bipush hX (nI 9) dX0_init_18 rfl ?_
  refine g_newa hX (9, .inl (fun j => nI (Z0 j))) 0 rfl (by decide +kernel) rfl (fun c => by first | (rw [vp_cell_i]; rfl) | (rw [vp_cell_l]; rfl)) (by decide) (by rw [nI_clamp (by decide)]) (Nat.le_of_ble_eq_true rfl) ⟨Nat.le_of_ble_eq_true rfl, Nat.le_of_ble_eq_true rfl⟩ dX0_init_20 (fun q20_12 => ?_)
  refine g_eq (ws' := ([(p, .inr (0, [.int (nI 0), .int (nI 0), .int (nI 0), .int (nI 0), .int (nI 5), .ref q12_7, .null, .null, .null, .null, .null]))] ++ ([(q12_7, .inl (E.2.1 0, 9, .inl (fun j => nI (Z0 j))))] ++ ([(q20_12, .inl (E.2.1 0, 9, .inl (fun j => nI (Z0 j))))])))) rfl rfl rfl ?_
  refine g_putF hX (([(p, .inr (0, [.int (nI 0), .int (nI 0), .int (nI 0), .int (nI 0), .int (nI 5), .ref q12_7, .ref q20_12, .null, .null, .null, .null]))] ++ ([(q12_7, .inl (E.2.1 0, 9, .inl (fun j => nI (Z0 j))))] ++ ([(q20_12, .inl (E.2.1 0, 9, .inl (fun j => nI (Z0 j))))])))) 0 hin inRX0 tyX0_ok nmX0 rfl rfl 6 rfl fl19 rfl rfl rfl rfl rfl rfl dX0_init_22 rfl ?_
  refine g_aload_n hX dX0_init_25 0 rfl ?_
  refine g_bipush hX (nI 9) dX0_init_26 rfl ?_
  refine g_newa hX (9, .inl (fun j => nI (Z0 j))) 0 rfl (by decide +kernel) rfl (fun c => by first | (rw [vp_cell_i]; rfl) | (rw [vp_cell_l]; rfl)) (by decide) (by rw [nI_clamp (by decide)]) (Nat.le_of_ble_eq_true rfl) ⟨Nat.le_of_ble_eq_true rfl, Nat.le_of_ble_eq_true rfl⟩ dX0_init_28 (fun q28_17 => ?_)
  refine g_eq (ws' := ([(p, .inr (0, [.int (nI 0), .int (nI 0), .int (nI 0), .int (nI 0), .int (nI 5), .ref q12_7, .ref q20_12, .null, .null, .null, .null]))] ++ ([(q12_7, .inl (E.2.1 0, 9, .inl (fun j => nI (Z0 j))))] ++ ([(q20_12, .inl (E.2.1 0, 9, .inl (fun j => nI (Z0 j))))] ++ ([(q28_17, .inl (E.2.1 0, 9, .inl (fun j => nI (Z0 j))))]))))) rfl rfl rfl ?_
  refine g_putF hX (([(p, .inr (0, [.int (nI 0), .int (nI 0), .int (nI 0), .int (nI 0), .int (nI 5), .ref q12_7, .ref q20_12, .ref q28_17, .null, .null, .null]))] ++ ([(q12_7, .inl (E.2.1 0, 9, .inl (fun j => nI (Z0 j))))] ++ ([(q20_12, .inl (E.2.1 0, 9, .inl (fun j => nI (Z0 j))))] ++ ([(q28_17, .inl (E.2.1 0, 9, .inl (fun j => nI (Z0 j))))]))))) 0 hin inRX0 tyX0_ok nmX0 rfl rfl 7 rfl fl22 rfl rfl rfl rfl rfl rfl dX0_init_30 rfl ?_
  refine g_aload_n hX dX0_init_33 0 rfl ?_
  refine g_bipush hX (nI 9) dX0_init_34 rfl ?_
  refine g_newa hX (9, .inl (fun j => nI (Z0 j))) 0 rfl (by decide +kernel) rfl (fun c => by first | (rw [vp_cell_i]; rfl) | (rw [vp_cell_l]; rfl)) (by decide) (by rw [nI_clamp (by decide)]) (Nat.le_of_ble_eq_true rfl) ⟨Nat.le_of_ble_eq_true rfl, Nat.le_of_ble_eq_true rfl⟩ dX0_init_36 (fun q36_22 => ?_)
  refine g_eq (ws' := ([(p, .inr (0, [.int (nI 0), .int (nI 0), .int (nI 0), .int (nI 0), .int (nI 5), .ref q12_7, .ref q20_12, .ref q28_17, .null, .null, .null]))] ++ ([(q12_7, .inl (E.2.1 0, 9, .inl (fun j => nI (Z0 j))))] ++ ([(q20_12, .inl (E.2.1 0, 9, .inl (fun j => nI (Z0 j))))] ++ ([(q28_17, .inl (E.2.1 0, 9, .inl (fun j => nI (Z0 j))))] ++ ([(q36_22, .inl (E.2.1 0, 9, .inl (fun j => nI (Z0 j))))])))))) rfl rfl rfl ?_
  refine g_putF hX (([(p, .inr (0, [.int (nI 0), .int (nI 0), .int (nI 0), .int (nI 0), .int (nI 5), .ref q12_7, .ref q20_12, .ref q28_17, .ref q36_22, .null, .null]))] ++ ([(q12_7, .inl (E.2.1 0, 9, .inl (fun j => nI (Z0 j))))] ++ ([(q20_12, .inl (E.2.1 0, 9, .inl (fun j => nI (Z0 j))))] ++ ([(q28_17, .inl (E.2.1 0, 9, .inl (fun j => nI (Z0 j))))] ++ ([(q36_22, .inl (E.2.1 0, 9, .inl (fun j => nI (Z0 j))))])))))) 0 hin inRX0 tyX0_ok nmX0 rfl rfl 8 rfl fl25 rfl rfl rfl rfl rfl rfl dX0_init_38 rfl ?_
  refine g_aload_n hX dX0_init_41 0 rfl ?_
  refine g_bipush hX (nI 9) dX0_init_42 rfl ?_
  refine g_newa hX (9, .inl (fun j => nI (Z0 j))) 0 rfl (by decide +kernel) rfl (fun c => by first | (rw [vp_cell_i]; rfl) | (rw [vp_cell_l]; rfl)) (by decide) (by rw [nI_clamp (by decide)]) (Nat.le_of_ble_eq_true rfl) ⟨Nat.le_of_ble_eq_true rfl, Nat.le_of_ble_eq_true rfl⟩ dX0_init_44 (fun q44_27 => ?_)
  refine g_eq (ws' := ([(p, .inr (0, [.int (nI 0), .int (nI 0), .int (nI 0), .int (nI 0), .int (nI 5), .ref q12_7, .ref q20_12, .ref q28_17, .ref q36_22, .null, .null]))] ++ ([(q12_7, .inl (E.2.1 0, 9, .inl (fun j => nI (Z0 j))))] ++ ([(q20_12, .inl (E.2.1 0, 9, .inl (fun j => nI (Z0 j))))] ++ ([(q28_17, .inl (E.2.1 0, 9, .inl (fun j => nI (Z0 j))))] ++ ([(q36_22, .inl (E.2.1 0, 9, .inl (fun j => nI (Z0 j))))] ++ ([(q44_27, .inl (E.2.1 0, 9, .inl (fun j => nI (Z0 j))))]))))))) rfl rfl rfl ?_
  refine g_putF hX (([(p, .inr (0, [.int (nI 0), .int (nI 0), .int (nI 0), .int (nI 0), .int (nI 5), .ref q12_7, .ref q20_12, .ref q28_17, .ref q36_22, .ref q44_27, .null]))] ++ ([(q12_7, .inl (E.2.1 0, 9, .inl (fun j => nI (Z0 j))))] ++ ([(q20_12, .inl (E.2.1 0, 9, .inl (fun j => nI (Z0 j))))] ++ ([(q28_17, .inl (E.2.1 0, 9, .inl (fun j => nI (Z0 j))))] ++ ([(q36_22, .inl (E.2.1 0, 9, .inl (fun j => nI (Z0 j))))] ++ ([(q44_27, .inl (E.2.1 0, 9, .inl (fun j => nI (Z0 j))))]))))))) 0 hin inRX0 tyX0_ok nmX0 rfl rfl 9 rfl fl28 rfl rfl rfl rfl rfl rfl dX0_init_46 rfl ?_
  refine g_aload_n hX dX0_init_49 0 rfl ?_
  refine g_bipush hX (nI 9) dX0_init_50 rfl ?_
  refine g_newa hX (9, .inr (.inl (fun j => lN (Z0 j)))) 1 rfl (by decide +kernel) rfl (fun c => by first | (rw [vp_cell_i]; rfl) | (rw [vp_cell_l]; rfl)) (by decide) (by rw [nI_clamp (by decide)]) (Nat.le_of_ble_eq_true rfl) ⟨Nat.le_of_ble_eq_true rfl, Nat.le_of_ble_eq_true rfl⟩ dX0_init_52 (fun q52_32 => ?_)
  refine g_eq (ws' := ([(p, .inr (0, [.int (nI 0), .int (nI 0), .int (nI 0), .int (nI 0), .int (nI 5), .ref q12_7, .ref q20_12, .ref q28_17, .ref q36_22, .ref q44_27, .null]))] ++ ([(q12_7, .inl (E.2.1 0, 9, .inl (fun j => nI (Z0 j))))] ++ ([(q20_12, .inl (E.2.1 0, 9, .inl (fun j => nI (Z0 j))))] ++ ([(q28_17, .inl (E.2.1 0, 9, .inl (fun j => nI (Z0 j))))] ++ ([(q36_22, .inl (E.2.1 0, 9, .inl (fun j => nI (Z0 j))))] ++ ([(q44_27, .inl (E.2.1 0, 9, .inl (fun j => nI (Z0 j))))] ++ ([(q52_32, .inl (E.2.1 1, 9, .inr (.inl (fun j => lN (Z0 j)))))])))))))) rfl rfl rfl ?_
  refine g_putF hX (([(p, .inr (0, [.int (nI 0), .int (nI 0), .int (nI 0), .int (nI 0), .int (nI 5), .ref q12_7, .ref q20_12, .ref q28_17, .ref q36_22, .ref q44_27, .ref q52_32]))] ++ ([(q12_7, .inl (E.2.1 0, 9, .inl (fun j => nI (Z0 j))))] ++ ([(q20_12, .inl (E.2.1 0, 9, .inl (fun j => nI (Z0 j))))] ++ ([(q28_17, .inl (E.2.1 0, 9, .inl (fun j => nI (Z0 j))))] ++ ([(q36_22, .inl (E.2.1 0, 9, .inl (fun j => nI (Z0 j))))] ++ ([(q44_27, .inl (E.2.1 0, 9, .inl (fun j => nI (Z0 j))))] ++ ([(q52_32, .inl (E.2.1 1, 9, .inr (.inl (fun j => lN (Z0 j)))))])))))))) 0 hin inRX0 tyX0_ok nmX0 rfl rfl 10 rfl fl31 rfl rfl rfl rfl rfl rfl dX0_init_54 rfl ?_
  refine g_widen (k' := 6) (n' := 54) (Nat.le_refl _) (Nat.le_refl _) ?_
  exact g_eq (show (([(p, .inr (0, [.int (nI 0), .int (nI 0), .int (nI 0), .int (nI 0), .int (nI 5), .ref q12_7, .ref q20_12, .ref q28_17, .ref q36_22, .ref q44_27, .ref q52_32]))] ++ ([(q12_7, .inl (E.2.1 0, 9, .inl (fun j => nI (Z0 j))))] ++ ([(q20_12, .inl (E.2.1 0, 9, .inl (fun j => nI (Z0 j))))] ++ ([(q28_17, .inl (E.2.1 0, 9, .inl (fun j => nI (Z0 j))))] ++ ([(q36_22, .inl (E.2.1 0, 9, .inl (fun j => nI (Z0 j))))] ++ ([(q44_27, .inl (E.2.1 0, 9, .inl (fun j => nI (Z0 j))))] ++ ([(q52_32, .inl (E.2.1 1, 9, .inr (.inl (fun j => lN (Z0 j)))))]))))))) : va_W) = fw E (adr [p, q12_7, q20_12, q28_17, q36_22, q44_27, q52_32]) FC0 from rfl) rfl rfl (hret (adr [p, q12_7, q20_12, q28_17, q36_22, q44_27, q52_32]) _ _ rfl dX0_init_57)
set_option maxHeartbeats 4000000 in
set_option maxRecDepth 100000 in
theorem c_X1_init (l : Launch) (E : EV) (p : Nat)  : KV l yX1_init wsX1_init (rmA 1 2 128) E (σ := Nat → Nat) [.ref p] ([(p, .inr (1, [.null, .null]))]) (fun u => u 0 = p) (fun u => gw E u GC0) 2 128 := by
  refine KV.of (cc := cX1_init) (maxL := 1) rfl rfl rfl (fun x hX hin hret hnL => ?_)
  replace hX : CX x l cX1_init RX1 wsX1_init E (rmA 1 2 128) := hX
  show GG x 0 0 ([(p, .inr (1, [.null, .null]))]) 0 [(0, .ref p)] []
  have inRX1 : ∀ w ∈ wsX10, w ∈ wsX1_init := by decide +kernel
  have fl15 : Cond.fieldLink RX1 15 "LieForce$Game" "best" "[I" ∈ wsX1_init := by decide +kernel
  have fl9 : Cond.fieldLink RX1 9 "LieForce$Game" "behindTurn" "[I" ∈ wsX1_init := by decide +kernel
  refine g_aload_n hX dX1_init_0 0 rfl ?_
  refine g_obj hX (by decide +kernel) (by decide +kernel) (by decide +kernel) rfl dX1_init_1 ?_
  refine g_aload_n hX dX1_init_4 0 rfl ?_
  refine g_bipush hX (nI 64) dX1_init_5 rfl ?_
  refine g_newa hX (64, .inl (fun j => nI (Z0 j))) 0 rfl (by decide +kernel) rfl (fun c => by first | (rw [vp_cell_i]; rfl) | (rw [vp_cell_l]; rfl)) (by decide) (by rw [nI_clamp (by decide)]) (Nat.le_of_ble_eq_true rfl) ⟨Nat.le_of_ble_eq_true rfl, Nat.le_of_ble_eq_true rfl⟩ dX1_init_7 (fun q7_4 => ?_)
  refine g_eq (ws' := ([(p, .inr (1, [.null, .null]))]) ++ ([(q7_4, .inl (E.2.1 0, 64, .inl (fun j => nI (Z0 j))))])) rfl rfl rfl ?_
  refine g_putF hX (([(p, .inr (1, [.ref q7_4, .null]))]) ++ ([(q7_4, .inl (E.2.1 0, 64, .inl (fun j => nI (Z0 j))))])) 0 hin inRX1 tyX1_ok nmX1 rfl rfl 0 rfl fl9 rfl rfl rfl rfl rfl rfl dX1_init_9 rfl ?_
  refine g_aload_n hX dX1_init_12 0 rfl ?_
  refine g_bipush hX (nI 64) dX1_init_13 rfl ?_
  refine g_newa hX (64, .inl (fun j => nI (Z0 j))) 0 rfl (by decide +kernel) rfl (fun c => by first | (rw [vp_cell_i]; rfl) | (rw [vp_cell_l]; rfl)) (by decide) (by rw [nI_clamp (by decide)]) (Nat.le_of_ble_eq_true rfl) ⟨Nat.le_of_ble_eq_true rfl, Nat.le_of_ble_eq_true rfl⟩ dX1_init_15 (fun q15_9 => ?_)
  refine g_eq (ws' := ([(p, .inr (1, [.ref q7_4, .null]))] ++ ([(q7_4, .inl (E.2.1 0, 64, .inl (fun j => nI (Z0 j))))] ++ ([(q15_9, .inl (E.2.1 0, 64, .inl (fun j => nI (Z0 j))))])))) rfl rfl rfl ?_
  refine g_putF hX (([(p, .inr (1, [.ref q7_4, .ref q15_9]))] ++ ([(q7_4, .inl (E.2.1 0, 64, .inl (fun j => nI (Z0 j))))] ++ ([(q15_9, .inl (E.2.1 0, 64, .inl (fun j => nI (Z0 j))))])))) 0 hin inRX1 tyX1_ok nmX1 rfl rfl 1 rfl fl15 rfl rfl rfl rfl rfl rfl dX1_init_17 rfl ?_
  refine g_widen (k' := 2) (n' := 128) (Nat.le_refl _) (Nat.le_refl _) ?_
  exact g_eq (show (([(p, .inr (1, [.ref q7_4, .ref q15_9]))] ++ ([(q7_4, .inl (E.2.1 0, 64, .inl (fun j => nI (Z0 j))))] ++ ([(q15_9, .inl (E.2.1 0, 64, .inl (fun j => nI (Z0 j))))]))) : va_W) = gw E (adr [p, q7_4, q15_9]) GC0 from rfl) rfl rfl (hret (adr [p, q7_4, q15_9]) _ _ rfl dX1_init_20)
set_option maxHeartbeats 4000000 in
set_option maxRecDepth 100000 in
theorem c_X3_init (l : Launch) (E : EV) (p : Nat)  : KV l yX3_init wsX3_init (rmA 1 1 4) E (σ := Nat → Nat) [.ref p] ([(p, .inr (3, [.null]))]) (fun u => u 0 = p) (fun u => rw_ E u Z0) 1 4 := by
  refine KV.of (cc := cX3_init) (maxL := 1) rfl rfl rfl (fun x hX hin hret hnL => ?_)
  replace hX : CX x l cX3_init RX3 wsX3_init E (rmA 1 1 4) := hX
  show GG x 0 0 ([(p, .inr (3, [.null]))]) 0 [(0, .ref p)] []
  have inRX3 : ∀ w ∈ wsX30, w ∈ wsX3_init := by decide +kernel
  have fl11 : Cond.fieldLink RX3 11 "LieForce$Reader" "numbers" "[I" ∈ wsX3_init := by decide +kernel
  refine g_aload_n hX dX3_init_0 0 rfl ?_
  refine g_obj hX (by decide +kernel) (by decide +kernel) (by decide +kernel) rfl dX3_init_1 ?_
  refine g_aload_n hX dX3_init_4 0 rfl ?_
  refine g_iconst hX (nI 4) dX3_init_5 rfl ?_
  refine g_newa hX (4, .inl (fun j => nI (Z0 j))) 0 rfl (by decide +kernel) rfl (fun c => by first | (rw [vp_cell_i]; rfl) | (rw [vp_cell_l]; rfl)) (by decide) (by rw [nI_clamp (by decide)]) (Nat.le_of_ble_eq_true rfl) ⟨Nat.le_of_ble_eq_true rfl, Nat.le_of_ble_eq_true rfl⟩ dX3_init_6 (fun q6_4 => ?_)
  refine g_eq (ws' := ([(p, .inr (3, [.null]))]) ++ ([(q6_4, .inl (E.2.1 0, 4, .inl (fun j => nI (Z0 j))))])) rfl rfl rfl ?_
  refine g_putF hX (([(p, .inr (3, [.ref q6_4]))]) ++ ([(q6_4, .inl (E.2.1 0, 4, .inl (fun j => nI (Z0 j))))])) 0 hin inRX3 tyX3_ok nmX3 rfl rfl 0 rfl fl11 rfl rfl rfl rfl rfl rfl dX3_init_8 rfl ?_
  refine g_widen (k' := 1) (n' := 4) (Nat.le_refl _) (Nat.le_refl _) ?_
  exact g_eq (show (([(p, .inr (3, [.ref q6_4]))]) ++ ([(q6_4, .inl (E.2.1 0, 4, .inl (fun j => nI (Z0 j))))]) : va_W) = rw_ E (adr [p, q6_4]) Z0 from rfl) rfl rfl (hret (adr [p, q6_4]) _ _ rfl dX3_init_11)
set_option maxHeartbeats 4000000 in
set_option maxRecDepth 100000 in
theorem c_X4_init (l : Launch) (E : EV) (p : Nat)  : KV l yX4_init wsX4_init (rmA 1 2 12) E (σ := Nat → Nat) [.ref p] ([(p, .inr (4, [.null, .null, .int (nI 0)]))]) (fun u => u 0 = p) (fun u => sw E u SC0) 2 12 := by
  refine KV.of (cc := cX4_init) (maxL := 1) rfl rfl rfl (fun x hX hin hret hnL => ?_)
  replace hX : CX x l cX4_init RX4 wsX4_init E (rmA 1 2 12) := hX
  show GG x 0 0 ([(p, .inr (4, [.null, .null, .int (nI 0)]))]) 0 [(0, .ref p)] []
  have inRX4 : ∀ w ∈ wsX40, w ∈ wsX4_init := by decide +kernel
  have fl15 : Cond.fieldLink RX4 15 "LieForce$Sight" "has" "[Z" ∈ wsX4_init := by decide +kernel
  have fl9 : Cond.fieldLink RX4 9 "LieForce$Sight" "seen" "[I" ∈ wsX4_init := by decide +kernel
  refine g_aload_n hX dX4_init_0 0 rfl ?_
  refine g_obj hX (by decide +kernel) (by decide +kernel) (by decide +kernel) rfl dX4_init_1 ?_
  refine g_aload_n hX dX4_init_4 0 rfl ?_
  refine g_bipush hX (nI 6) dX4_init_5 rfl ?_
  refine g_newa hX (6, .inl (fun j => nI (Z0 j))) 0 rfl (by decide +kernel) rfl (fun c => by first | (rw [vp_cell_i]; rfl) | (rw [vp_cell_l]; rfl)) (by decide) (by rw [nI_clamp (by decide)]) (Nat.le_of_ble_eq_true rfl) ⟨Nat.le_of_ble_eq_true rfl, Nat.le_of_ble_eq_true rfl⟩ dX4_init_7 (fun q7_4 => ?_)
  refine g_eq (ws' := ([(p, .inr (4, [.null, .null, .int (nI 0)]))]) ++ ([(q7_4, .inl (E.2.1 0, 6, .inl (fun j => nI (Z0 j))))])) rfl rfl rfl ?_
  refine g_putF hX (([(p, .inr (4, [.ref q7_4, .null, .int (nI 0)]))]) ++ ([(q7_4, .inl (E.2.1 0, 6, .inl (fun j => nI (Z0 j))))])) 0 hin inRX4 tyX4_ok nmX4 rfl rfl 0 rfl fl9 rfl rfl rfl rfl rfl rfl dX4_init_9 rfl ?_
  refine g_aload_n hX dX4_init_12 0 rfl ?_
  refine g_bipush hX (nI 6) dX4_init_13 rfl ?_
  refine g_newa hX (6, .inl (fun j => bI (ZF j))) 3 rfl (by decide +kernel) rfl (fun c => by first | (rw [vp_cell_i]; rfl) | (rw [vp_cell_l]; rfl)) (by decide) (by rw [nI_clamp (by decide)]) (Nat.le_of_ble_eq_true rfl) ⟨Nat.le_of_ble_eq_true rfl, Nat.le_of_ble_eq_true rfl⟩ dX4_init_15 (fun q15_9 => ?_)
  refine g_eq (ws' := ([(p, .inr (4, [.ref q7_4, .null, .int (nI 0)]))] ++ ([(q7_4, .inl (E.2.1 0, 6, .inl (fun j => nI (Z0 j))))] ++ ([(q15_9, .inl (E.2.1 3, 6, .inl (fun j => bI (ZF j))))])))) rfl rfl rfl ?_
  refine g_putF hX (([(p, .inr (4, [.ref q7_4, .ref q15_9, .int (nI 0)]))] ++ ([(q7_4, .inl (E.2.1 0, 6, .inl (fun j => nI (Z0 j))))] ++ ([(q15_9, .inl (E.2.1 3, 6, .inl (fun j => bI (ZF j))))])))) 0 hin inRX4 tyX4_ok nmX4 rfl rfl 1 rfl fl15 rfl rfl rfl rfl rfl rfl dX4_init_17 rfl ?_
  refine g_widen (k' := 2) (n' := 12) (Nat.le_refl _) (Nat.le_refl _) ?_
  exact g_eq (show (([(p, .inr (4, [.ref q7_4, .ref q15_9, .int (nI 0)]))] ++ ([(q7_4, .inl (E.2.1 0, 6, .inl (fun j => nI (Z0 j))))] ++ ([(q15_9, .inl (E.2.1 3, 6, .inl (fun j => bI (ZF j))))]))) : va_W) = sw E (adr [p, q7_4, q15_9]) SC0 from rfl) rfl rfl (hret (adr [p, q7_4, q15_9]) _ _ rfl dX4_init_20)
