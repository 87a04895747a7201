set_option maxHeartbeats 4000000 in
set_option maxRecDepth 100000 in
theorem c_X2_clear8_x (l : Launch) (E : EV) (h : Nat → Nat) (q : Nat → Nat → Nat) (Q : Nat → FC) (z : Nat)  : KV l yX2_clear wsX2_clear (rmA 0 0 0) E (σ := Unit) [.ref (h 0)] (([(h 0, .inr (2, [.ref (h 1), .int (nI z)]))] ++ ([(h 1, .inl (E.2.1 4, 8, .inr (.inr (.inr (.inr (fun j => ([(q 0) 0, (q 1) 0, (q 2) 0, (q 3) 0, (q 4) 0, (q 5) 0, (q 6) 0, (q 7) 0] : List Nat)[j]?))))))] ++ (fw E (q 0) (Q 0) ++ (fw E (q 1) (Q 1) ++ (fw E (q 2) (Q 2) ++ (fw E (q 3) (Q 3) ++ (fw E (q 4) (Q 4) ++ (fw E (q 5) (Q 5) ++ (fw E (q 6) (Q 6) ++ (fw E (q 7) (Q 7)))))))))))) (fun _ => True) (fun _ => pw8 E h (mkPV 0 q Q)) 0 0 := by
  refine KV.of (cc := cX2_clear) (maxL := 1) rfl rfl rfl (fun x hX hin hret hnL => ?_)
  replace hX : CX x l cX2_clear RX2 wsX2_clear E (rmA 0 0 0) := hX
  show GG x 0 0 (([(h 0, .inr (2, [.ref (h 1), .int (nI z)]))] ++ ([(h 1, .inl (E.2.1 4, 8, .inr (.inr (.inr (.inr (fun j => ([(q 0) 0, (q 1) 0, (q 2) 0, (q 3) 0, (q 4) 0, (q 5) 0, (q 6) 0, (q 7) 0] : List Nat)[j]?))))))] ++ (fw E (q 0) (Q 0) ++ (fw E (q 1) (Q 1) ++ (fw E (q 2) (Q 2) ++ (fw E (q 3) (Q 3) ++ (fw E (q 4) (Q 4) ++ (fw E (q 5) (Q 5) ++ (fw E (q 6) (Q 6) ++ (fw E (q 7) (Q 7)))))))))))) 0 [(0, .ref (h 0))] []
  have inRX2 : ∀ w ∈ wsX20, w ∈ wsX2_clear := by decide +kernel
  have fl16 : Cond.fieldLink RX2 16 "LieForce$Pile" "size" "I" ∈ wsX2_clear := by decide +kernel
  refine g_aload_n hX dX2_clear_0 0 rfl ?_
  refine g_iconst hX (nI 0) dX2_clear_1 rfl ?_
  refine g_put hX (([(h 0, .inr (2, [.ref (h 1), .int (nI 0)]))] ++ ([(h 1, .inl (E.2.1 4, 8, .inr (.inr (.inr (.inr (fun j => ([(q 0) 0, (q 1) 0, (q 2) 0, (q 3) 0, (q 4) 0, (q 5) 0, (q 6) 0, (q 7) 0] : List Nat)[j]?))))))] ++ (fw E (q 0) (Q 0) ++ (fw E (q 1) (Q 1) ++ (fw E (q 2) (Q 2) ++ (fw E (q 3) (Q 3) ++ (fw E (q 4) (Q 4) ++ (fw E (q 5) (Q 5) ++ (fw E (q 6) (Q 6) ++ (fw E (q 7) (Q 7)))))))))))) 0 inRX2 tyX2_ok nmX2 rfl rfl 1 rfl fl16 rfl rfl rfl rfl rfl dX2_clear_2 rfl ?_
  exact g_eq (show (([(h 0, .inr (2, [.ref (h 1), .int (nI 0)]))] ++ ([(h 1, .inl (E.2.1 4, 8, .inr (.inr (.inr (.inr (fun j => ([(q 0) 0, (q 1) 0, (q 2) 0, (q 3) 0, (q 4) 0, (q 5) 0, (q 6) 0, (q 7) 0] : List Nat)[j]?))))))] ++ (fw E (q 0) (Q 0) ++ (fw E (q 1) (Q 1) ++ (fw E (q 2) (Q 2) ++ (fw E (q 3) (Q 3) ++ (fw E (q 4) (Q 4) ++ (fw E (q 5) (Q 5) ++ (fw E (q 6) (Q 6) ++ (fw E (q 7) (Q 7))))))))))) : va_W) = pw8 E h (mkPV 0 q Q) from rfl) rfl rfl (hret () _ _ trivial dX2_clear_5)
set_option maxHeartbeats 4000000 in
set_option maxRecDepth 100000 in
theorem c_X2_add8_0 (l : Launch) (E : EV) (h : Nat → Nat) (q : Nat → Nat → Nat) (Q : Nat → FC) (d : Nat → Nat) (C : FC)  : KV l yX2_add wsX2_add (rmA 2 0 0) E (σ := Unit) [.ref (h 0), .ref (d 0)] (([(h 0, .inr (2, [.ref (h 1), .int (nI 0)]))] ++ ([(h 1, .inl (E.2.1 4, 8, .inr (.inr (.inr (.inr (fun j => ([(q 0) 0, (q 1) 0, (q 2) 0, (q 3) 0, (q 4) 0, (q 5) 0, (q 6) 0, (q 7) 0] : List Nat)[j]?))))))] ++ (fw E (q 0) (Q 0) ++ (fw E (q 1) (Q 1) ++ (fw E (q 2) (Q 2) ++ (fw E (q 3) (Q 3) ++ (fw E (q 4) (Q 4) ++ (fw E (q 5) (Q 5) ++ (fw E (q 6) (Q 6) ++ (fw E (q 7) (Q 7) ++ (fw E d C)))))))))))) (fun _ => True) (fun _ => pw8 E h (mkPV 1 q (va_up Q 0 C)) ++ fw E d C) 0 0 := by
  refine KV.of (cc := cX2_add) (maxL := 2) rfl rfl rfl (fun x hX hin hret hnL => ?_)
  replace hX : CX x l cX2_add RX2 wsX2_add E (rmA 2 0 0) := hX
  show GG x 0 0 (([(h 0, .inr (2, [.ref (h 1), .int (nI 0)]))] ++ ([(h 1, .inl (E.2.1 4, 8, .inr (.inr (.inr (.inr (fun j => ([(q 0) 0, (q 1) 0, (q 2) 0, (q 3) 0, (q 4) 0, (q 5) 0, (q 6) 0, (q 7) 0] : List Nat)[j]?))))))] ++ (fw E (q 0) (Q 0) ++ (fw E (q 1) (Q 1) ++ (fw E (q 2) (Q 2) ++ (fw E (q 3) (Q 3) ++ (fw E (q 4) (Q 4) ++ (fw E (q 5) (Q 5) ++ (fw E (q 6) (Q 6) ++ (fw E (q 7) (Q 7) ++ (fw E d C)))))))))))) 0 [(0, .ref (h 0)), (1, .ref (d 0))] []
  have inRX2 : ∀ w ∈ wsX20, w ∈ wsX2_add := by decide +kernel
  have fl16 : Cond.fieldLink RX2 16 "LieForce$Pile" "size" "I" ∈ wsX2_add := by decide +kernel
  have fl9 : Cond.fieldLink RX2 9 "LieForce$Pile" "stood" "[LLieForce$Force;" ∈ wsX2_add := by decide +kernel
  refine g_aload_n hX dX2_add_0 0 rfl ?_
  refine g_get hX (v := .ref (h 1)) 0 inRX2 rfl rfl 0 rfl fl9 rfl rfl dX2_add_1 ?_
  refine g_alen hX (nI 8) 1 4 rfl rfl rfl dX2_add_4 ?_
  refine g_if_ne hX 9 dX2_add_5 (by decide) (fun _ => ?_) (fun c5 => by first | exact absurd c5 (by decide) | exact absurd (by decide) c5)
  refine g_aload_n hX dX2_add_9 0 rfl ?_
  refine g_get hX (v := .int (nI 0)) 0 inRX2 rfl rfl 1 rfl fl16 rfl rfl dX2_add_10 ?_
  refine g_aload_n hX dX2_add_13 0 rfl ?_
  refine g_get hX (v := .ref (h 1)) 0 inRX2 rfl rfl 0 rfl fl9 rfl rfl dX2_add_14 ?_
  refine g_alen hX (nI 8) 1 4 rfl rfl rfl dX2_add_17 ?_
  refine g_icmp_lt hX 25 dX2_add_18 (by decide) (fun _ => ?_) (fun c18 => by first | exact absurd c18 (by decide) | exact absurd (by decide) c18)
  refine g_aload_n hX dX2_add_25 0 rfl ?_
  refine g_get hX (v := .ref (h 1)) 0 inRX2 rfl rfl 0 rfl fl9 rfl rfl dX2_add_26 ?_
  refine g_aload_n hX dX2_add_29 0 rfl ?_
  refine g_get hX (v := .int (nI 0)) 0 inRX2 rfl rfl 1 rfl fl16 rfl rfl dX2_add_30 ?_
  refine g_aald hX (.ref ((q 0) 0)) 1 4 rfl rfl (vp_in_nI (by decide) (by decide)) (by rw [nI_clamp (by decide)]; rfl) dX2_add_33 ?_
  refine g_aload_n hX dX2_add_34 1 rfl ?_
  have hc35 : CUT (([(h 0, .inr (2, [.ref (h 1), .int (nI 0)]))] ++ ([(h 1, .inl (E.2.1 4, 8, .inr (.inr (.inr (.inr (fun j => ([(q 0) 0, (q 1) 0, (q 2) 0, (q 3) 0, (q 4) 0, (q 5) 0, (q 6) 0, (q 7) 0] : List Nat)[j]?))))))] ++ (fw E (q 0) (Q 0) ++ (fw E (q 1) (Q 1) ++ (fw E (q 2) (Q 2) ++ (fw E (q 3) (Q 3) ++ (fw E (q 4) (Q 4) ++ (fw E (q 5) (Q 5) ++ (fw E (q 6) (Q 6) ++ (fw E (q 7) (Q 7) ++ (fw E d C)))))))))))) ((fw E (q 0) (Q 0)) ++ (fw E d C)) (([(h 0, .inr (2, [.ref (h 1), .int (nI 0)]))] ++ ([(h 1, .inl (E.2.1 4, 8, .inr (.inr (.inr (.inr (fun j => ([(q 0) 0, (q 1) 0, (q 2) 0, (q 3) 0, (q 4) 0, (q 5) 0, (q 6) 0, (q 7) 0] : List Nat)[j]?))))))] ++ (fw E (q 1) (Q 1) ++ (fw E (q 2) (Q 2) ++ (fw E (q 3) (Q 3) ++ (fw E (q 4) (Q 4) ++ (fw E (q 5) (Q 5) ++ (fw E (q 6) (Q 6) ++ (fw E (q 7) (Q 7))))))))))) [2, 3, 4, 5, 6, 7, 8, 58, 59, 60, 61, 62, 63, 64] [0, 1, 9, 10, 11, 12, 13, 14, 15, 16, 17, 18, 19, 20, 21, 22, 23, 24, 25, 26, 27, 28, 29, 30, 31, 32, 33, 34, 35, 36, 37, 38, 39, 40, 41, 42, 43, 44, 45, 46, 47, 48, 49, 50, 51, 52, 53, 54, 55, 56, 57] := ⟨rfl, rfl, rfl, rfl, rfl⟩
  refine g_VV hX hc35 [.ref (d 0)] [] (c_X0_copy l E (q 0) (Q 0) d C) gX2_add_X0_copy calX0_copy rfl rfl rfl rfl 2 rfl rfl rfl rfl dX2_add_35 rfl ⟨Nat.zero_le _, Nat.zero_le _⟩ (fun _ => ([(h 0, .inr (2, [.ref (h 1), .int (nI 0)]))] ++ ([(h 1, .inl (E.2.1 4, 8, .inr (.inr (.inr (.inr (fun j => ([(q 0) 0, (q 1) 0, (q 2) 0, (q 3) 0, (q 4) 0, (q 5) 0, (q 6) 0, (q 7) 0] : List Nat)[j]?))))))] ++ (fw E (q 0) C ++ (fw E (q 1) (Q 1) ++ (fw E (q 2) (Q 2) ++ (fw E (q 3) (Q 3) ++ (fw E (q 4) (Q 4) ++ (fw E (q 5) (Q 5) ++ (fw E (q 6) (Q 6) ++ (fw E (q 7) (Q 7) ++ (fw E d C)))))))))))) [0, 1, 51, 52, 53, 54, 55, 56, 57, 2, 3, 4, 5, 6, 7, 8, 9, 10, 11, 12, 13, 14, 15, 16, 17, 18, 19, 20, 21, 22, 23, 24, 25, 26, 27, 28, 29, 30, 31, 32, 33, 34, 35, 36, 37, 38, 39, 40, 41, 42, 43, 44, 45, 46, 47, 48, 49, 50, 58, 59, 60, 61, 62, 63, 64] rfl (fun _ => rfl) (fun _ hu35 => ?_)
  refine g_aload_n hX dX2_add_38 0 rfl ?_
  refine g_dup hX dX2_add_39 rfl ?_
  refine g_get hX (v := .int (nI 0)) 0 inRX2 rfl rfl 1 rfl fl16 rfl rfl dX2_add_40 ?_
  refine g_iconst hX (nI 1) dX2_add_43 rfl ?_
  refine g_iadd hX (nI (0 + 1)) dX2_add_44 (nI_add _ _) ?_
  refine g_put hX (([(h 0, .inr (2, [.ref (h 1), .int (nI 1)]))] ++ ([(h 1, .inl (E.2.1 4, 8, .inr (.inr (.inr (.inr (fun j => ([(q 0) 0, (q 1) 0, (q 2) 0, (q 3) 0, (q 4) 0, (q 5) 0, (q 6) 0, (q 7) 0] : List Nat)[j]?))))))] ++ (fw E (q 0) C ++ (fw E (q 1) (Q 1) ++ (fw E (q 2) (Q 2) ++ (fw E (q 3) (Q 3) ++ (fw E (q 4) (Q 4) ++ (fw E (q 5) (Q 5) ++ (fw E (q 6) (Q 6) ++ (fw E (q 7) (Q 7) ++ (fw E d C)))))))))))) 0 inRX2 tyX2_ok nmX2 rfl rfl 1 rfl fl16 rfl rfl rfl rfl rfl dX2_add_45 rfl ?_
  exact g_eq (show (([(h 0, .inr (2, [.ref (h 1), .int (nI 1)]))] ++ ([(h 1, .inl (E.2.1 4, 8, .inr (.inr (.inr (.inr (fun j => ([(q 0) 0, (q 1) 0, (q 2) 0, (q 3) 0, (q 4) 0, (q 5) 0, (q 6) 0, (q 7) 0] : List Nat)[j]?))))))] ++ (fw E (q 0) C ++ (fw E (q 1) (Q 1) ++ (fw E (q 2) (Q 2) ++ (fw E (q 3) (Q 3) ++ (fw E (q 4) (Q 4) ++ (fw E (q 5) (Q 5) ++ (fw E (q 6) (Q 6) ++ (fw E (q 7) (Q 7) ++ (fw E d C))))))))))) : va_W) = pw8 E h (mkPV 1 q (va_up Q 0 C)) ++ fw E d C from rfl) rfl rfl (hret () _ _ trivial dX2_add_48)
set_option maxHeartbeats 4000000 in
set_option maxRecDepth 100000 in
theorem c_X2_add8_1 (l : Launch) (E : EV) (h : Nat → Nat) (q : Nat → Nat → Nat) (Q : Nat → FC) (d : Nat → Nat) (C : FC)  : KV l yX2_add wsX2_add (rmA 2 0 0) E (σ := Unit) [.ref (h 0), .ref (d 0)] (([(h 0, .inr (2, [.ref (h 1), .int (nI 1)]))] ++ ([(h 1, .inl (E.2.1 4, 8, .inr (.inr (.inr (.inr (fun j => ([(q 0) 0, (q 1) 0, (q 2) 0, (q 3) 0, (q 4) 0, (q 5) 0, (q 6) 0, (q 7) 0] : List Nat)[j]?))))))] ++ (fw E (q 0) (Q 0) ++ (fw E (q 1) (Q 1) ++ (fw E (q 2) (Q 2) ++ (fw E (q 3) (Q 3) ++ (fw E (q 4) (Q 4) ++ (fw E (q 5) (Q 5) ++ (fw E (q 6) (Q 6) ++ (fw E (q 7) (Q 7) ++ (fw E d C)))))))))))) (fun _ => True) (fun _ => pw8 E h (mkPV 2 q (va_up Q 1 C)) ++ fw E d C) 0 0 := by
  refine KV.of (cc := cX2_add) (maxL := 2) rfl rfl rfl (fun x hX hin hret hnL => ?_)
  replace hX : CX x l cX2_add RX2 wsX2_add E (rmA 2 0 0) := hX
  show GG x 0 0 (([(h 0, .inr (2, [.ref (h 1), .int (nI 1)]))] ++ ([(h 1, .inl (E.2.1 4, 8, .inr (.inr (.inr (.inr (fun j => ([(q 0) 0, (q 1) 0, (q 2) 0, (q 3) 0, (q 4) 0, (q 5) 0, (q 6) 0, (q 7) 0] : List Nat)[j]?))))))] ++ (fw E (q 0) (Q 0) ++ (fw E (q 1) (Q 1) ++ (fw E (q 2) (Q 2) ++ (fw E (q 3) (Q 3) ++ (fw E (q 4) (Q 4) ++ (fw E (q 5) (Q 5) ++ (fw E (q 6) (Q 6) ++ (fw E (q 7) (Q 7) ++ (fw E d C)))))))))))) 0 [(0, .ref (h 0)), (1, .ref (d 0))] []
  have inRX2 : ∀ w ∈ wsX20, w ∈ wsX2_add := by decide +kernel
  have fl16 : Cond.fieldLink RX2 16 "LieForce$Pile" "size" "I" ∈ wsX2_add := by decide +kernel
  have fl9 : Cond.fieldLink RX2 9 "LieForce$Pile" "stood" "[LLieForce$Force;" ∈ wsX2_add := by decide +kernel
  refine g_aload_n hX dX2_add_0 0 rfl ?_
  refine g_get hX (v := .ref (h 1)) 0 inRX2 rfl rfl 0 rfl fl9 rfl rfl dX2_add_1 ?_
  refine g_alen hX (nI 8) 1 4 rfl rfl rfl dX2_add_4 ?_
  refine g_if_ne hX 9 dX2_add_5 (by decide) (fun _ => ?_) (fun c5 => by first | exact absurd c5 (by decide) | exact absurd (by decide) c5)
  refine g_aload_n hX dX2_add_9 0 rfl ?_
  refine g_get hX (v := .int (nI 1)) 0 inRX2 rfl rfl 1 rfl fl16 rfl rfl dX2_add_10 ?_
  refine g_aload_n hX dX2_add_13 0 rfl ?_
  refine g_get hX (v := .ref (h 1)) 0 inRX2 rfl rfl 0 rfl fl9 rfl rfl dX2_add_14 ?_
  refine g_alen hX (nI 8) 1 4 rfl rfl rfl dX2_add_17 ?_
  refine g_icmp_lt hX 25 dX2_add_18 (by decide) (fun _ => ?_) (fun c18 => by first | exact absurd c18 (by decide) | exact absurd (by decide) c18)
  refine g_aload_n hX dX2_add_25 0 rfl ?_
  refine g_get hX (v := .ref (h 1)) 0 inRX2 rfl rfl 0 rfl fl9 rfl rfl dX2_add_26 ?_
  refine g_aload_n hX dX2_add_29 0 rfl ?_
  refine g_get hX (v := .int (nI 1)) 0 inRX2 rfl rfl 1 rfl fl16 rfl rfl dX2_add_30 ?_
  refine g_aald hX (.ref ((q 1) 0)) 1 4 rfl rfl (vp_in_nI (by decide) (by decide)) (by rw [nI_clamp (by decide)]; rfl) dX2_add_33 ?_
  refine g_aload_n hX dX2_add_34 1 rfl ?_
  have hc35 : CUT (([(h 0, .inr (2, [.ref (h 1), .int (nI 1)]))] ++ ([(h 1, .inl (E.2.1 4, 8, .inr (.inr (.inr (.inr (fun j => ([(q 0) 0, (q 1) 0, (q 2) 0, (q 3) 0, (q 4) 0, (q 5) 0, (q 6) 0, (q 7) 0] : List Nat)[j]?))))))] ++ (fw E (q 0) (Q 0) ++ (fw E (q 1) (Q 1) ++ (fw E (q 2) (Q 2) ++ (fw E (q 3) (Q 3) ++ (fw E (q 4) (Q 4) ++ (fw E (q 5) (Q 5) ++ (fw E (q 6) (Q 6) ++ (fw E (q 7) (Q 7) ++ (fw E d C)))))))))))) ((fw E (q 1) (Q 1)) ++ (fw E d C)) (([(h 0, .inr (2, [.ref (h 1), .int (nI 1)]))] ++ ([(h 1, .inl (E.2.1 4, 8, .inr (.inr (.inr (.inr (fun j => ([(q 0) 0, (q 1) 0, (q 2) 0, (q 3) 0, (q 4) 0, (q 5) 0, (q 6) 0, (q 7) 0] : List Nat)[j]?))))))] ++ (fw E (q 0) (Q 0) ++ (fw E (q 2) (Q 2) ++ (fw E (q 3) (Q 3) ++ (fw E (q 4) (Q 4) ++ (fw E (q 5) (Q 5) ++ (fw E (q 6) (Q 6) ++ (fw E (q 7) (Q 7))))))))))) [9, 10, 11, 12, 13, 14, 15, 58, 59, 60, 61, 62, 63, 64] [0, 1, 2, 3, 4, 5, 6, 7, 8, 16, 17, 18, 19, 20, 21, 22, 23, 24, 25, 26, 27, 28, 29, 30, 31, 32, 33, 34, 35, 36, 37, 38, 39, 40, 41, 42, 43, 44, 45, 46, 47, 48, 49, 50, 51, 52, 53, 54, 55, 56, 57] := ⟨rfl, rfl, rfl, rfl, rfl⟩
  refine g_VV hX hc35 [.ref (d 0)] [] (c_X0_copy l E (q 1) (Q 1) d C) gX2_add_X0_copy calX0_copy rfl rfl rfl rfl 9 rfl rfl rfl rfl dX2_add_35 rfl ⟨Nat.zero_le _, Nat.zero_le _⟩ (fun _ => ([(h 0, .inr (2, [.ref (h 1), .int (nI 1)]))] ++ ([(h 1, .inl (E.2.1 4, 8, .inr (.inr (.inr (.inr (fun j => ([(q 0) 0, (q 1) 0, (q 2) 0, (q 3) 0, (q 4) 0, (q 5) 0, (q 6) 0, (q 7) 0] : List Nat)[j]?))))))] ++ (fw E (q 0) (Q 0) ++ (fw E (q 1) C ++ (fw E (q 2) (Q 2) ++ (fw E (q 3) (Q 3) ++ (fw E (q 4) (Q 4) ++ (fw E (q 5) (Q 5) ++ (fw E (q 6) (Q 6) ++ (fw E (q 7) (Q 7) ++ (fw E d C)))))))))))) [0, 1, 2, 3, 4, 5, 6, 7, 8, 51, 52, 53, 54, 55, 56, 57, 9, 10, 11, 12, 13, 14, 15, 16, 17, 18, 19, 20, 21, 22, 23, 24, 25, 26, 27, 28, 29, 30, 31, 32, 33, 34, 35, 36, 37, 38, 39, 40, 41, 42, 43, 44, 45, 46, 47, 48, 49, 50, 58, 59, 60, 61, 62, 63, 64] rfl (fun _ => rfl) (fun _ hu35 => ?_)
  refine g_aload_n hX dX2_add_38 0 rfl ?_
  refine g_dup hX dX2_add_39 rfl ?_
  refine g_get hX (v := .int (nI 1)) 0 inRX2 rfl rfl 1 rfl fl16 rfl rfl dX2_add_40 ?_
  refine g_iconst hX (nI 1) dX2_add_43 rfl ?_
  refine g_iadd hX (nI (1 + 1)) dX2_add_44 (nI_add _ _) ?_
  refine g_put hX (([(h 0, .inr (2, [.ref (h 1), .int (nI 2)]))] ++ ([(h 1, .inl (E.2.1 4, 8, .inr (.inr (.inr (.inr (fun j => ([(q 0) 0, (q 1) 0, (q 2) 0, (q 3) 0, (q 4) 0, (q 5) 0, (q 6) 0, (q 7) 0] : List Nat)[j]?))))))] ++ (fw E (q 0) (Q 0) ++ (fw E (q 1) C ++ (fw E (q 2) (Q 2) ++ (fw E (q 3) (Q 3) ++ (fw E (q 4) (Q 4) ++ (fw E (q 5) (Q 5) ++ (fw E (q 6) (Q 6) ++ (fw E (q 7) (Q 7) ++ (fw E d C)))))))))))) 0 inRX2 tyX2_ok nmX2 rfl rfl 1 rfl fl16 rfl rfl rfl rfl rfl dX2_add_45 rfl ?_
  exact g_eq (show (([(h 0, .inr (2, [.ref (h 1), .int (nI 2)]))] ++ ([(h 1, .inl (E.2.1 4, 8, .inr (.inr (.inr (.inr (fun j => ([(q 0) 0, (q 1) 0, (q 2) 0, (q 3) 0, (q 4) 0, (q 5) 0, (q 6) 0, (q 7) 0] : List Nat)[j]?))))))] ++ (fw E (q 0) (Q 0) ++ (fw E (q 1) C ++ (fw E (q 2) (Q 2) ++ (fw E (q 3) (Q 3) ++ (fw E (q 4) (Q 4) ++ (fw E (q 5) (Q 5) ++ (fw E (q 6) (Q 6) ++ (fw E (q 7) (Q 7) ++ (fw E d C))))))))))) : va_W) = pw8 E h (mkPV 2 q (va_up Q 1 C)) ++ fw E d C from rfl) rfl rfl (hret () _ _ trivial dX2_add_48)
set_option maxHeartbeats 4000000 in
set_option maxRecDepth 100000 in
theorem c_X2_add8_2 (l : Launch) (E : EV) (h : Nat → Nat) (q : Nat → Nat → Nat) (Q : Nat → FC) (d : Nat → Nat) (C : FC)  : KV l yX2_add wsX2_add (rmA 2 0 0) E (σ := Unit) [.ref (h 0), .ref (d 0)] (([(h 0, .inr (2, [.ref (h 1), .int (nI 2)]))] ++ ([(h 1, .inl (E.2.1 4, 8, .inr (.inr (.inr (.inr (fun j => ([(q 0) 0, (q 1) 0, (q 2) 0, (q 3) 0, (q 4) 0, (q 5) 0, (q 6) 0, (q 7) 0] : List Nat)[j]?))))))] ++ (fw E (q 0) (Q 0) ++ (fw E (q 1) (Q 1) ++ (fw E (q 2) (Q 2) ++ (fw E (q 3) (Q 3) ++ (fw E (q 4) (Q 4) ++ (fw E (q 5) (Q 5) ++ (fw E (q 6) (Q 6) ++ (fw E (q 7) (Q 7) ++ (fw E d C)))))))))))) (fun _ => True) (fun _ => pw8 E h (mkPV 3 q (va_up Q 2 C)) ++ fw E d C) 0 0 := by
  refine KV.of (cc := cX2_add) (maxL := 2) rfl rfl rfl (fun x hX hin hret hnL => ?_)
  replace hX : CX x l cX2_add RX2 wsX2_add E (rmA 2 0 0) := hX
  show GG x 0 0 (([(h 0, .inr (2, [.ref (h 1), .int (nI 2)]))] ++ ([(h 1, .inl (E.2.1 4, 8, .inr (.inr (.inr (.inr (fun j => ([(q 0) 0, (q 1) 0, (q 2) 0, (q 3) 0, (q 4) 0, (q 5) 0, (q 6) 0, (q 7) 0] : List Nat)[j]?))))))] ++ (fw E (q 0) (Q 0) ++ (fw E (q 1) (Q 1) ++ (fw E (q 2) (Q 2) ++ (fw E (q 3) (Q 3) ++ (fw E (q 4) (Q 4) ++ (fw E (q 5) (Q 5) ++ (fw E (q 6) (Q 6) ++ (fw E (q 7) (Q 7) ++ (fw E d C)))))))))))) 0 [(0, .ref (h 0)), (1, .ref (d 0))] []
  have inRX2 : ∀ w ∈ wsX20, w ∈ wsX2_add := by decide +kernel
  have fl16 : Cond.fieldLink RX2 16 "LieForce$Pile" "size" "I" ∈ wsX2_add := by decide +kernel
  have fl9 : Cond.fieldLink RX2 9 "LieForce$Pile" "stood" "[LLieForce$Force;" ∈ wsX2_add := by decide +kernel
  refine g_aload_n hX dX2_add_0 0 rfl ?_
  refine g_get hX (v := .ref (h 1)) 0 inRX2 rfl rfl 0 rfl fl9 rfl rfl dX2_add_1 ?_
  refine g_alen hX (nI 8) 1 4 rfl rfl rfl dX2_add_4 ?_
  refine g_if_ne hX 9 dX2_add_5 (by decide) (fun _ => ?_) (fun c5 => by first | exact absurd c5 (by decide) | exact absurd (by decide) c5)
  refine g_aload_n hX dX2_add_9 0 rfl ?_
  refine g_get hX (v := .int (nI 2)) 0 inRX2 rfl rfl 1 rfl fl16 rfl rfl dX2_add_10 ?_
  refine g_aload_n hX dX2_add_13 0 rfl ?_
  refine g_get hX (v := .ref (h 1)) 0 inRX2 rfl rfl 0 rfl fl9 rfl rfl dX2_add_14 ?_
  refine g_alen hX (nI 8) 1 4 rfl rfl rfl dX2_add_17 ?_
  refine g_icmp_lt hX 25 dX2_add_18 (by decide) (fun _ => ?_) (fun c18 => by first | exact absurd c18 (by decide) | exact absurd (by decide) c18)
  refine g_aload_n hX dX2_add_25 0 rfl ?_
  refine g_get hX (v := .ref (h 1)) 0 inRX2 rfl rfl 0 rfl fl9 rfl rfl dX2_add_26 ?_
  refine g_aload_n hX dX2_add_29 0 rfl ?_
  refine g_get hX (v := .int (nI 2)) 0 inRX2 rfl rfl 1 rfl fl16 rfl rfl dX2_add_30 ?_
  refine g_aald hX (.ref ((q 2) 0)) 1 4 rfl rfl (vp_in_nI (by decide) (by decide)) (by rw [nI_clamp (by decide)]; rfl) dX2_add_33 ?_
  refine g_aload_n hX dX2_add_34 1 rfl ?_
  have hc35 : CUT (([(h 0, .inr (2, [.ref (h 1), .int (nI 2)]))] ++ ([(h 1, .inl (E.2.1 4, 8, .inr (.inr (.inr (.inr (fun j => ([(q 0) 0, (q 1) 0, (q 2) 0, (q 3) 0, (q 4) 0, (q 5) 0, (q 6) 0, (q 7) 0] : List Nat)[j]?))))))] ++ (fw E (q 0) (Q 0) ++ (fw E (q 1) (Q 1) ++ (fw E (q 2) (Q 2) ++ (fw E (q 3) (Q 3) ++ (fw E (q 4) (Q 4) ++ (fw E (q 5) (Q 5) ++ (fw E (q 6) (Q 6) ++ (fw E (q 7) (Q 7) ++ (fw E d C)))))))))))) ((fw E (q 2) (Q 2)) ++ (fw E d C)) (([(h 0, .inr (2, [.ref (h 1), .int (nI 2)]))] ++ ([(h 1, .inl (E.2.1 4, 8, .inr (.inr (.inr (.inr (fun j => ([(q 0) 0, (q 1) 0, (q 2) 0, (q 3) 0, (q 4) 0, (q 5) 0, (q 6) 0, (q 7) 0] : List Nat)[j]?))))))] ++ (fw E (q 0) (Q 0) ++ (fw E (q 1) (Q 1) ++ (fw E (q 3) (Q 3) ++ (fw E (q 4) (Q 4) ++ (fw E (q 5) (Q 5) ++ (fw E (q 6) (Q 6) ++ (fw E (q 7) (Q 7))))))))))) [16, 17, 18, 19, 20, 21, 22, 58, 59, 60, 61, 62, 63, 64] [0, 1, 2, 3, 4, 5, 6, 7, 8, 9, 10, 11, 12, 13, 14, 15, 23, 24, 25, 26, 27, 28, 29, 30, 31, 32, 33, 34, 35, 36, 37, 38, 39, 40, 41, 42, 43, 44, 45, 46, 47, 48, 49, 50, 51, 52, 53, 54, 55, 56, 57] := ⟨rfl, rfl, rfl, rfl, rfl⟩
  refine g_VV hX hc35 [.ref (d 0)] [] (c_X0_copy l E (q 2) (Q 2) d C) gX2_add_X0_copy calX0_copy rfl rfl rfl rfl 16 rfl rfl rfl rfl dX2_add_35 rfl ⟨Nat.zero_le _, Nat.zero_le _⟩ (fun _ => ([(h 0, .inr (2, [.ref (h 1), .int (nI 2)]))] ++ ([(h 1, .inl (E.2.1 4, 8, .inr (.inr (.inr (.inr (fun j => ([(q 0) 0, (q 1) 0, (q 2) 0, (q 3) 0, (q 4) 0, (q 5) 0, (q 6) 0, (q 7) 0] : List Nat)[j]?))))))] ++ (fw E (q 0) (Q 0) ++ (fw E (q 1) (Q 1) ++ (fw E (q 2) C ++ (fw E (q 3) (Q 3) ++ (fw E (q 4) (Q 4) ++ (fw E (q 5) (Q 5) ++ (fw E (q 6) (Q 6) ++ (fw E (q 7) (Q 7) ++ (fw E d C)))))))))))) [0, 1, 2, 3, 4, 5, 6, 7, 8, 9, 10, 11, 12, 13, 14, 15, 51, 52, 53, 54, 55, 56, 57, 16, 17, 18, 19, 20, 21, 22, 23, 24, 25, 26, 27, 28, 29, 30, 31, 32, 33, 34, 35, 36, 37, 38, 39, 40, 41, 42, 43, 44, 45, 46, 47, 48, 49, 50, 58, 59, 60, 61, 62, 63, 64] rfl (fun _ => rfl) (fun _ hu35 => ?_)
  refine g_aload_n hX dX2_add_38 0 rfl ?_
  refine g_dup hX dX2_add_39 rfl ?_
  refine g_get hX (v := .int (nI 2)) 0 inRX2 rfl rfl 1 rfl fl16 rfl rfl dX2_add_40 ?_
  refine g_iconst hX (nI 1) dX2_add_43 rfl ?_
  refine g_iadd hX (nI (2 + 1)) dX2_add_44 (nI_add _ _) ?_
  refine g_put hX (([(h 0, .inr (2, [.ref (h 1), .int (nI 3)]))] ++ ([(h 1, .inl (E.2.1 4, 8, .inr (.inr (.inr (.inr (fun j => ([(q 0) 0, (q 1) 0, (q 2) 0, (q 3) 0, (q 4) 0, (q 5) 0, (q 6) 0, (q 7) 0] : List Nat)[j]?))))))] ++ (fw E (q 0) (Q 0) ++ (fw E (q 1) (Q 1) ++ (fw E (q 2) C ++ (fw E (q 3) (Q 3) ++ (fw E (q 4) (Q 4) ++ (fw E (q 5) (Q 5) ++ (fw E (q 6) (Q 6) ++ (fw E (q 7) (Q 7) ++ (fw E d C)))))))))))) 0 inRX2 tyX2_ok nmX2 rfl rfl 1 rfl fl16 rfl rfl rfl rfl rfl dX2_add_45 rfl ?_
  exact g_eq (show (([(h 0, .inr (2, [.ref (h 1), .int (nI 3)]))] ++ ([(h 1, .inl (E.2.1 4, 8, .inr (.inr (.inr (.inr (fun j => ([(q 0) 0, (q 1) 0, (q 2) 0, (q 3) 0, (q 4) 0, (q 5) 0, (q 6) 0, (q 7) 0] : List Nat)[j]?))))))] ++ (fw E (q 0) (Q 0) ++ (fw E (q 1) (Q 1) ++ (fw E (q 2) C ++ (fw E (q 3) (Q 3) ++ (fw E (q 4) (Q 4) ++ (fw E (q 5) (Q 5) ++ (fw E (q 6) (Q 6) ++ (fw E (q 7) (Q 7) ++ (fw E d C))))))))))) : va_W) = pw8 E h (mkPV 3 q (va_up Q 2 C)) ++ fw E d C from rfl) rfl rfl (hret () _ _ trivial dX2_add_48)
set_option maxHeartbeats 4000000 in
set_option maxRecDepth 100000 in
theorem c_X2_add8_3 (l : Launch) (E : EV) (h : Nat → Nat) (q : Nat → Nat → Nat) (Q : Nat → FC) (d : Nat → Nat) (C : FC)  : KV l yX2_add wsX2_add (rmA 2 0 0) E (σ := Unit) [.ref (h 0), .ref (d 0)] (([(h 0, .inr (2, [.ref (h 1), .int (nI 3)]))] ++ ([(h 1, .inl (E.2.1 4, 8, .inr (.inr (.inr (.inr (fun j => ([(q 0) 0, (q 1) 0, (q 2) 0, (q 3) 0, (q 4) 0, (q 5) 0, (q 6) 0, (q 7) 0] : List Nat)[j]?))))))] ++ (fw E (q 0) (Q 0) ++ (fw E (q 1) (Q 1) ++ (fw E (q 2) (Q 2) ++ (fw E (q 3) (Q 3) ++ (fw E (q 4) (Q 4) ++ (fw E (q 5) (Q 5) ++ (fw E (q 6) (Q 6) ++ (fw E (q 7) (Q 7) ++ (fw E d C)))))))))))) (fun _ => True) (fun _ => pw8 E h (mkPV 4 q (va_up Q 3 C)) ++ fw E d C) 0 0 := by
  refine KV.of (cc := cX2_add) (maxL := 2) rfl rfl rfl (fun x hX hin hret hnL => ?_)
  replace hX : CX x l cX2_add RX2 wsX2_add E (rmA 2 0 0) := hX
  show GG x 0 0 (([(h 0, .inr (2, [.ref (h 1), .int (nI 3)]))] ++ ([(h 1, .inl (E.2.1 4, 8, .inr (.inr (.inr (.inr (fun j => ([(q 0) 0, (q 1) 0, (q 2) 0, (q 3) 0, (q 4) 0, (q 5) 0, (q 6) 0, (q 7) 0] : List Nat)[j]?))))))] ++ (fw E (q 0) (Q 0) ++ (fw E (q 1) (Q 1) ++ (fw E (q 2) (Q 2) ++ (fw E (q 3) (Q 3) ++ (fw E (q 4) (Q 4) ++ (fw E (q 5) (Q 5) ++ (fw E (q 6) (Q 6) ++ (fw E (q 7) (Q 7) ++ (fw E d C)))))))))))) 0 [(0, .ref (h 0)), (1, .ref (d 0))] []
  have inRX2 : ∀ w ∈ wsX20, w ∈ wsX2_add := by decide +kernel
  have fl16 : Cond.fieldLink RX2 16 "LieForce$Pile" "size" "I" ∈ wsX2_add := by decide +kernel
  have fl9 : Cond.fieldLink RX2 9 "LieForce$Pile" "stood" "[LLieForce$Force;" ∈ wsX2_add := by decide +kernel
  refine g_aload_n hX dX2_add_0 0 rfl ?_
  refine g_get hX (v := .ref (h 1)) 0 inRX2 rfl rfl 0 rfl fl9 rfl rfl dX2_add_1 ?_
  refine g_alen hX (nI 8) 1 4 rfl rfl rfl dX2_add_4 ?_
  refine g_if_ne hX 9 dX2_add_5 (by decide) (fun _ => ?_) (fun c5 => by first | exact absurd c5 (by decide) | exact absurd (by decide) c5)
  refine g_aload_n hX dX2_add_9 0 rfl ?_
  refine g_get hX (v := .int (nI 3)) 0 inRX2 rfl rfl 1 rfl fl16 rfl rfl dX2_add_10 ?_
  refine g_aload_n hX dX2_add_13 0 rfl ?_
  refine g_get hX (v := .ref (h 1)) 0 inRX2 rfl rfl 0 rfl fl9 rfl rfl dX2_add_14 ?_
  refine g_alen hX (nI 8) 1 4 rfl rfl rfl dX2_add_17 ?_
  refine g_icmp_lt hX 25 dX2_add_18 (by decide) (fun _ => ?_) (fun c18 => by first | exact absurd c18 (by decide) | exact absurd (by decide) c18)
  refine g_aload_n hX dX2_add_25 0 rfl ?_
  refine g_get hX (v := .ref (h 1)) 0 inRX2 rfl rfl 0 rfl fl9 rfl rfl dX2_add_26 ?_
  refine g_aload_n hX dX2_add_29 0 rfl ?_
  refine g_get hX (v := .int (nI 3)) 0 inRX2 rfl rfl 1 rfl fl16 rfl rfl dX2_add_30 ?_
  refine g_aald hX (.ref ((q 3) 0)) 1 4 rfl rfl (vp_in_nI (by decide) (by decide)) (by rw [nI_clamp (by decide)]; rfl) dX2_add_33 ?_
  refine g_aload_n hX dX2_add_34 1 rfl ?_
  have hc35 : CUT (([(h 0, .inr (2, [.ref (h 1), .int (nI 3)]))] ++ ([(h 1, .inl (E.2.1 4, 8, .inr (.inr (.inr (.inr (fun j => ([(q 0) 0, (q 1) 0, (q 2) 0, (q 3) 0, (q 4) 0, (q 5) 0, (q 6) 0, (q 7) 0] : List Nat)[j]?))))))] ++ (fw E (q 0) (Q 0) ++ (fw E (q 1) (Q 1) ++ (fw E (q 2) (Q 2) ++ (fw E (q 3) (Q 3) ++ (fw E (q 4) (Q 4) ++ (fw E (q 5) (Q 5) ++ (fw E (q 6) (Q 6) ++ (fw E (q 7) (Q 7) ++ (fw E d C)))))))))))) ((fw E (q 3) (Q 3)) ++ (fw E d C)) (([(h 0, .inr (2, [.ref (h 1), .int (nI 3)]))] ++ ([(h 1, .inl (E.2.1 4, 8, .inr (.inr (.inr (.inr (fun j => ([(q 0) 0, (q 1) 0, (q 2) 0, (q 3) 0, (q 4) 0, (q 5) 0, (q 6) 0, (q 7) 0] : List Nat)[j]?))))))] ++ (fw E (q 0) (Q 0) ++ (fw E (q 1) (Q 1) ++ (fw E (q 2) (Q 2) ++ (fw E (q 4) (Q 4) ++ (fw E (q 5) (Q 5) ++ (fw E (q 6) (Q 6) ++ (fw E (q 7) (Q 7))))))))))) [23, 24, 25, 26, 27, 28, 29, 58, 59, 60, 61, 62, 63, 64] [0, 1, 2, 3, 4, 5, 6, 7, 8, 9, 10, 11, 12, 13, 14, 15, 16, 17, 18, 19, 20, 21, 22, 30, 31, 32, 33, 34, 35, 36, 37, 38, 39, 40, 41, 42, 43, 44, 45, 46, 47, 48, 49, 50, 51, 52, 53, 54, 55, 56, 57] := ⟨rfl, rfl, rfl, rfl, rfl⟩
  refine g_VV hX hc35 [.ref (d 0)] [] (c_X0_copy l E (q 3) (Q 3) d C) gX2_add_X0_copy calX0_copy rfl rfl rfl rfl 23 rfl rfl rfl rfl dX2_add_35 rfl ⟨Nat.zero_le _, Nat.zero_le _⟩ (fun _ => ([(h 0, .inr (2, [.ref (h 1), .int (nI 3)]))] ++ ([(h 1, .inl (E.2.1 4, 8, .inr (.inr (.inr (.inr (fun j => ([(q 0) 0, (q 1) 0, (q 2) 0, (q 3) 0, (q 4) 0, (q 5) 0, (q 6) 0, (q 7) 0] : List Nat)[j]?))))))] ++ (fw E (q 0) (Q 0) ++ (fw E (q 1) (Q 1) ++ (fw E (q 2) (Q 2) ++ (fw E (q 3) C ++ (fw E (q 4) (Q 4) ++ (fw E (q 5) (Q 5) ++ (fw E (q 6) (Q 6) ++ (fw E (q 7) (Q 7) ++ (fw E d C)))))))))))) [0, 1, 2, 3, 4, 5, 6, 7, 8, 9, 10, 11, 12, 13, 14, 15, 16, 17, 18, 19, 20, 21, 22, 51, 52, 53, 54, 55, 56, 57, 23, 24, 25, 26, 27, 28, 29, 30, 31, 32, 33, 34, 35, 36, 37, 38, 39, 40, 41, 42, 43, 44, 45, 46, 47, 48, 49, 50, 58, 59, 60, 61, 62, 63, 64] rfl (fun _ => rfl) (fun _ hu35 => ?_)
  refine g_aload_n hX dX2_add_38 0 rfl ?_
  refine g_dup hX dX2_add_39 rfl ?_
  refine g_get hX (v := .int (nI 3)) 0 inRX2 rfl rfl 1 rfl fl16 rfl rfl dX2_add_40 ?_
  refine g_iconst hX (nI 1) dX2_add_43 rfl ?_
  refine g_iadd hX (nI (3 + 1)) dX2_add_44 (nI_add _ _) ?_
  refine g_put hX (([(h 0, .inr (2, [.ref (h 1), .int (nI 4)]))] ++ ([(h 1, .inl (E.2.1 4, 8, .inr (.inr (.inr (.inr (fun j => ([(q 0) 0, (q 1) 0, (q 2) 0, (q 3) 0, (q 4) 0, (q 5) 0, (q 6) 0, (q 7) 0] : List Nat)[j]?))))))] ++ (fw E (q 0) (Q 0) ++ (fw E (q 1) (Q 1) ++ (fw E (q 2) (Q 2) ++ (fw E (q 3) C ++ (fw E (q 4) (Q 4) ++ (fw E (q 5) (Q 5) ++ (fw E (q 6) (Q 6) ++ (fw E (q 7) (Q 7) ++ (fw E d C)))))))))))) 0 inRX2 tyX2_ok nmX2 rfl rfl 1 rfl fl16 rfl rfl rfl rfl rfl dX2_add_45 rfl ?_
  exact g_eq (show (([(h 0, .inr (2, [.ref (h 1), .int (nI 4)]))] ++ ([(h 1, .inl (E.2.1 4, 8, .inr (.inr (.inr (.inr (fun j => ([(q 0) 0, (q 1) 0, (q 2) 0, (q 3) 0, (q 4) 0, (q 5) 0, (q 6) 0, (q 7) 0] : List Nat)[j]?))))))] ++ (fw E (q 0) (Q 0) ++ (fw E (q 1) (Q 1) ++ (fw E (q 2) (Q 2) ++ (fw E (q 3) C ++ (fw E (q 4) (Q 4) ++ (fw E (q 5) (Q 5) ++ (fw E (q 6) (Q 6) ++ (fw E (q 7) (Q 7) ++ (fw E d C))))))))))) : va_W) = pw8 E h (mkPV 4 q (va_up Q 3 C)) ++ fw E d C from rfl) rfl rfl (hret () _ _ trivial dX2_add_48)
set_option maxHeartbeats 4000000 in
set_option maxRecDepth 100000 in
theorem c_X2_add8_4 (l : Launch) (E : EV) (h : Nat → Nat) (q : Nat → Nat → Nat) (Q : Nat → FC) (d : Nat → Nat) (C : FC)  : KV l yX2_add wsX2_add (rmA 2 0 0) E (σ := Unit) [.ref (h 0), .ref (d 0)] (([(h 0, .inr (2, [.ref (h 1), .int (nI 4)]))] ++ ([(h 1, .inl (E.2.1 4, 8, .inr (.inr (.inr (.inr (fun j => ([(q 0) 0, (q 1) 0, (q 2) 0, (q 3) 0, (q 4) 0, (q 5) 0, (q 6) 0, (q 7) 0] : List Nat)[j]?))))))] ++ (fw E (q 0) (Q 0) ++ (fw E (q 1) (Q 1) ++ (fw E (q 2) (Q 2) ++ (fw E (q 3) (Q 3) ++ (fw E (q 4) (Q 4) ++ (fw E (q 5) (Q 5) ++ (fw E (q 6) (Q 6) ++ (fw E (q 7) (Q 7) ++ (fw E d C)))))))))))) (fun _ => True) (fun _ => pw8 E h (mkPV 5 q (va_up Q 4 C)) ++ fw E d C) 0 0 := by
  refine KV.of (cc := cX2_add) (maxL := 2) rfl rfl rfl (fun x hX hin hret hnL => ?_)
  replace hX : CX x l cX2_add RX2 wsX2_add E (rmA 2 0 0) := hX
  show GG x 0 0 (([(h 0, .inr (2, [.ref (h 1), .int (nI 4)]))] ++ ([(h 1, .inl (E.2.1 4, 8, .inr (.inr (.inr (.inr (fun j => ([(q 0) 0, (q 1) 0, (q 2) 0, (q 3) 0, (q 4) 0, (q 5) 0, (q 6) 0, (q 7) 0] : List Nat)[j]?))))))] ++ (fw E (q 0) (Q 0) ++ (fw E (q 1) (Q 1) ++ (fw E (q 2) (Q 2) ++ (fw E (q 3) (Q 3) ++ (fw E (q 4) (Q 4) ++ (fw E (q 5) (Q 5) ++ (fw E (q 6) (Q 6) ++ (fw E (q 7) (Q 7) ++ (fw E d C)))))))))))) 0 [(0, .ref (h 0)), (1, .ref (d 0))] []
  have inRX2 : ∀ w ∈ wsX20, w ∈ wsX2_add := by decide +kernel
  have fl16 : Cond.fieldLink RX2 16 "LieForce$Pile" "size" "I" ∈ wsX2_add := by decide +kernel
  have fl9 : Cond.fieldLink RX2 9 "LieForce$Pile" "stood" "[LLieForce$Force;" ∈ wsX2_add := by decide +kernel
  refine g_aload_n hX dX2_add_0 0 rfl ?_
  refine g_get hX (v := .ref (h 1)) 0 inRX2 rfl rfl 0 rfl fl9 rfl rfl dX2_add_1 ?_
  refine g_alen hX (nI 8) 1 4 rfl rfl rfl dX2_add_4 ?_
  refine g_if_ne hX 9 dX2_add_5 (by decide) (fun _ => ?_) (fun c5 => by first | exact absurd c5 (by decide) | exact absurd (by decide) c5)
  refine g_aload_n hX dX2_add_9 0 rfl ?_
  refine g_get hX (v := .int (nI 4)) 0 inRX2 rfl rfl 1 rfl fl16 rfl rfl dX2_add_10 ?_
  refine g_aload_n hX dX2_add_13 0 rfl ?_
  refine g_get hX (v := .ref (h 1)) 0 inRX2 rfl rfl 0 rfl fl9 rfl rfl dX2_add_14 ?_
  refine g_alen hX (nI 8) 1 4 rfl rfl rfl dX2_add_17 ?_
  refine g_icmp_lt hX 25 dX2_add_18 (by decide) (fun _ => ?_) (fun c18 => by first | exact absurd c18 (by decide) | exact absurd (by decide) c18)
  refine g_aload_n hX dX2_add_25 0 rfl ?_
  refine g_get hX (v := .ref (h 1)) 0 inRX2 rfl rfl 0 rfl fl9 rfl rfl dX2_add_26 ?_
  refine g_aload_n hX dX2_add_29 0 rfl ?_
  refine g_get hX (v := .int (nI 4)) 0 inRX2 rfl rfl 1 rfl fl16 rfl rfl dX2_add_30 ?_
  refine g_aald hX (.ref ((q 4) 0)) 1 4 rfl rfl (vp_in_nI (by decide) (by decide)) (by rw [nI_clamp (by decide)]; rfl) dX2_add_33 ?_
  refine g_aload_n hX dX2_add_34 1 rfl ?_
  have hc35 : CUT (([(h 0, .inr (2, [.ref (h 1), .int (nI 4)]))] ++ ([(h 1, .inl (E.2.1 4, 8, .inr (.inr (.inr (.inr (fun j => ([(q 0) 0, (q 1) 0, (q 2) 0, (q 3) 0, (q 4) 0, (q 5) 0, (q 6) 0, (q 7) 0] : List Nat)[j]?))))))] ++ (fw E (q 0) (Q 0) ++ (fw E (q 1) (Q 1) ++ (fw E (q 2) (Q 2) ++ (fw E (q 3) (Q 3) ++ (fw E (q 4) (Q 4) ++ (fw E (q 5) (Q 5) ++ (fw E (q 6) (Q 6) ++ (fw E (q 7) (Q 7) ++ (fw E d C)))))))))))) ((fw E (q 4) (Q 4)) ++ (fw E d C)) (([(h 0, .inr (2, [.ref (h 1), .int (nI 4)]))] ++ ([(h 1, .inl (E.2.1 4, 8, .inr (.inr (.inr (.inr (fun j => ([(q 0) 0, (q 1) 0, (q 2) 0, (q 3) 0, (q 4) 0, (q 5) 0, (q 6) 0, (q 7) 0] : List Nat)[j]?))))))] ++ (fw E (q 0) (Q 0) ++ (fw E (q 1) (Q 1) ++ (fw E (q 2) (Q 2) ++ (fw E (q 3) (Q 3) ++ (fw E (q 5) (Q 5) ++ (fw E (q 6) (Q 6) ++ (fw E (q 7) (Q 7))))))))))) [30, 31, 32, 33, 34, 35, 36, 58, 59, 60, 61, 62, 63, 64] [0, 1, 2, 3, 4, 5, 6, 7, 8, 9, 10, 11, 12, 13, 14, 15, 16, 17, 18, 19, 20, 21, 22, 23, 24, 25, 26, 27, 28, 29, 37, 38, 39, 40, 41, 42, 43, 44, 45, 46, 47, 48, 49, 50, 51, 52, 53, 54, 55, 56, 57] := ⟨rfl, rfl, rfl, rfl, rfl⟩
  refine g_VV hX hc35 [.ref (d 0)] [] (c_X0_copy l E (q 4) (Q 4) d C) gX2_add_X0_copy calX0_copy rfl rfl rfl rfl 30 rfl rfl rfl rfl dX2_add_35 rfl ⟨Nat.zero_le _, Nat.zero_le _⟩ (fun _ => ([(h 0, .inr (2, [.ref (h 1), .int (nI 4)]))] ++ ([(h 1, .inl (E.2.1 4, 8, .inr (.inr (.inr (.inr (fun j => ([(q 0) 0, (q 1) 0, (q 2) 0, (q 3) 0, (q 4) 0, (q 5) 0, (q 6) 0, (q 7) 0] : List Nat)[j]?))))))] ++ (fw E (q 0) (Q 0) ++ (fw E (q 1) (Q 1) ++ (fw E (q 2) (Q 2) ++ (fw E (q 3) (Q 3) ++ (fw E (q 4) C ++ (fw E (q 5) (Q 5) ++ (fw E (q 6) (Q 6) ++ (fw E (q 7) (Q 7) ++ (fw E d C)))))))))))) [0, 1, 2, 3, 4, 5, 6, 7, 8, 9, 10, 11, 12, 13, 14, 15, 16, 17, 18, 19, 20, 21, 22, 23, 24, 25, 26, 27, 28, 29, 51, 52, 53, 54, 55, 56, 57, 30, 31, 32, 33, 34, 35, 36, 37, 38, 39, 40, 41, 42, 43, 44, 45, 46, 47, 48, 49, 50, 58, 59, 60, 61, 62, 63, 64] rfl (fun _ => rfl) (fun _ hu35 => ?_)
  refine g_aload_n hX dX2_add_38 0 rfl ?_
  refine g_dup hX dX2_add_39 rfl ?_
  refine g_get hX (v := .int (nI 4)) 0 inRX2 rfl rfl 1 rfl fl16 rfl rfl dX2_add_40 ?_
  refine g_iconst hX (nI 1) dX2_add_43 rfl ?_
  refine g_iadd hX (nI (4 + 1)) dX2_add_44 (nI_add _ _) ?_
  refine g_put hX (([(h 0, .inr (2, [.ref (h 1), .int (nI 5)]))] ++ ([(h 1, .inl (E.2.1 4, 8, .inr (.inr (.inr (.inr (fun j => ([(q 0) 0, (q 1) 0, (q 2) 0, (q 3) 0, (q 4) 0, (q 5) 0, (q 6) 0, (q 7) 0] : List Nat)[j]?))))))] ++ (fw E (q 0) (Q 0) ++ (fw E (q 1) (Q 1) ++ (fw E (q 2) (Q 2) ++ (fw E (q 3) (Q 3) ++ (fw E (q 4) C ++ (fw E (q 5) (Q 5) ++ (fw E (q 6) (Q 6) ++ (fw E (q 7) (Q 7) ++ (fw E d C)))))))))))) 0 inRX2 tyX2_ok nmX2 rfl rfl 1 rfl fl16 rfl rfl rfl rfl rfl dX2_add_45 rfl ?_
  exact g_eq (show (([(h 0, .inr (2, [.ref (h 1), .int (nI 5)]))] ++ ([(h 1, .inl (E.2.1 4, 8, .inr (.inr (.inr (.inr (fun j => ([(q 0) 0, (q 1) 0, (q 2) 0, (q 3) 0, (q 4) 0, (q 5) 0, (q 6) 0, (q 7) 0] : List Nat)[j]?))))))] ++ (fw E (q 0) (Q 0) ++ (fw E (q 1) (Q 1) ++ (fw E (q 2) (Q 2) ++ (fw E (q 3) (Q 3) ++ (fw E (q 4) C ++ (fw E (q 5) (Q 5) ++ (fw E (q 6) (Q 6) ++ (fw E (q 7) (Q 7) ++ (fw E d C))))))))))) : va_W) = pw8 E h (mkPV 5 q (va_up Q 4 C)) ++ fw E d C from rfl) rfl rfl (hret () _ _ trivial dX2_add_48)
set_option maxHeartbeats 4000000 in
set_option maxRecDepth 100000 in
theorem c_X2_add8_5 (l : Launch) (E : EV) (h : Nat → Nat) (q : Nat → Nat → Nat) (Q : Nat → FC) (d : Nat → Nat) (C : FC)  : KV l yX2_add wsX2_add (rmA 2 0 0) E (σ := Unit) [.ref (h 0), .ref (d 0)] (([(h 0, .inr (2, [.ref (h 1), .int (nI 5)]))] ++ ([(h 1, .inl (E.2.1 4, 8, .inr (.inr (.inr (.inr (fun j => ([(q 0) 0, (q 1) 0, (q 2) 0, (q 3) 0, (q 4) 0, (q 5) 0, (q 6) 0, (q 7) 0] : List Nat)[j]?))))))] ++ (fw E (q 0) (Q 0) ++ (fw E (q 1) (Q 1) ++ (fw E (q 2) (Q 2) ++ (fw E (q 3) (Q 3) ++ (fw E (q 4) (Q 4) ++ (fw E (q 5) (Q 5) ++ (fw E (q 6) (Q 6) ++ (fw E (q 7) (Q 7) ++ (fw E d C)))))))))))) (fun _ => True) (fun _ => pw8 E h (mkPV 6 q (va_up Q 5 C)) ++ fw E d C) 0 0 := by
  refine KV.of (cc := cX2_add) (maxL := 2) rfl rfl rfl (fun x hX hin hret hnL => ?_)
  replace hX : CX x l cX2_add RX2 wsX2_add E (rmA 2 0 0) := hX
  show GG x 0 0 (([(h 0, .inr (2, [.ref (h 1), .int (nI 5)]))] ++ ([(h 1, .inl (E.2.1 4, 8, .inr (.inr (.inr (.inr (fun j => ([(q 0) 0, (q 1) 0, (q 2) 0, (q 3) 0, (q 4) 0, (q 5) 0, (q 6) 0, (q 7) 0] : List Nat)[j]?))))))] ++ (fw E (q 0) (Q 0) ++ (fw E (q 1) (Q 1) ++ (fw E (q 2) (Q 2) ++ (fw E (q 3) (Q 3) ++ (fw E (q 4) (Q 4) ++ (fw E (q 5) (Q 5) ++ (fw E (q 6) (Q 6) ++ (fw E (q 7) (Q 7) ++ (fw E d C)))))))))))) 0 [(0, .ref (h 0)), (1, .ref (d 0))] []
  have inRX2 : ∀ w ∈ wsX20, w ∈ wsX2_add := by decide +kernel
  have fl16 : Cond.fieldLink RX2 16 "LieForce$Pile" "size" "I" ∈ wsX2_add := by decide +kernel
  have fl9 : Cond.fieldLink RX2 9 "LieForce$Pile" "stood" "[LLieForce$Force;" ∈ wsX2_add := by decide +kernel
  refine g_aload_n hX dX2_add_0 0 rfl ?_
  refine g_get hX (v := .ref (h 1)) 0 inRX2 rfl rfl 0 rfl fl9 rfl rfl dX2_add_1 ?_
  refine g_alen hX (nI 8) 1 4 rfl rfl rfl dX2_add_4 ?_
  refine g_if_ne hX 9 dX2_add_5 (by decide) (fun _ => ?_) (fun c5 => by first | exact absurd c5 (by decide) | exact absurd (by decide) c5)
  refine g_aload_n hX dX2_add_9 0 rfl ?_
  refine g_get hX (v := .int (nI 5)) 0 inRX2 rfl rfl 1 rfl fl16 rfl rfl dX2_add_10 ?_
  refine g_aload_n hX dX2_add_13 0 rfl ?_
  refine g_get hX (v := .ref (h 1)) 0 inRX2 rfl rfl 0 rfl fl9 rfl rfl dX2_add_14 ?_
  refine g_alen hX (nI 8) 1 4 rfl rfl rfl dX2_add_17 ?_
  refine g_icmp_lt hX 25 dX2_add_18 (by decide) (fun _ => ?_) (fun c18 => by first | exact absurd c18 (by decide) | exact absurd (by decide) c18)
  refine g_aload_n hX dX2_add_25 0 rfl ?_
  refine g_get hX (v := .ref (h 1)) 0 inRX2 rfl rfl 0 rfl fl9 rfl rfl dX2_add_26 ?_
  refine g_aload_n hX dX2_add_29 0 rfl ?_
  refine g_get hX (v := .int (nI 5)) 0 inRX2 rfl rfl 1 rfl fl16 rfl rfl dX2_add_30 ?_
  refine g_aald hX (.ref ((q 5) 0)) 1 4 rfl rfl (vp_in_nI (by decide) (by decide)) (by rw [nI_clamp (by decide)]; rfl) dX2_add_33 ?_
  refine g_aload_n hX dX2_add_34 1 rfl ?_
  have hc35 : CUT (([(h 0, .inr (2, [.ref (h 1), .int (nI 5)]))] ++ ([(h 1, .inl (E.2.1 4, 8, .inr (.inr (.inr (.inr (fun j => ([(q 0) 0, (q 1) 0, (q 2) 0, (q 3) 0, (q 4) 0, (q 5) 0, (q 6) 0, (q 7) 0] : List Nat)[j]?))))))] ++ (fw E (q 0) (Q 0) ++ (fw E (q 1) (Q 1) ++ (fw E (q 2) (Q 2) ++ (fw E (q 3) (Q 3) ++ (fw E (q 4) (Q 4) ++ (fw E (q 5) (Q 5) ++ (fw E (q 6) (Q 6) ++ (fw E (q 7) (Q 7) ++ (fw E d C)))))))))))) ((fw E (q 5) (Q 5)) ++ (fw E d C)) (([(h 0, .inr (2, [.ref (h 1), .int (nI 5)]))] ++ ([(h 1, .inl (E.2.1 4, 8, .inr (.inr (.inr (.inr (fun j => ([(q 0) 0, (q 1) 0, (q 2) 0, (q 3) 0, (q 4) 0, (q 5) 0, (q 6) 0, (q 7) 0] : List Nat)[j]?))))))] ++ (fw E (q 0) (Q 0) ++ (fw E (q 1) (Q 1) ++ (fw E (q 2) (Q 2) ++ (fw E (q 3) (Q 3) ++ (fw E (q 4) (Q 4) ++ (fw E (q 6) (Q 6) ++ (fw E (q 7) (Q 7))))))))))) [37, 38, 39, 40, 41, 42, 43, 58, 59, 60, 61, 62, 63, 64] [0, 1, 2, 3, 4, 5, 6, 7, 8, 9, 10, 11, 12, 13, 14, 15, 16, 17, 18, 19, 20, 21, 22, 23, 24, 25, 26, 27, 28, 29, 30, 31, 32, 33, 34, 35, 36, 44, 45, 46, 47, 48, 49, 50, 51, 52, 53, 54, 55, 56, 57] := ⟨rfl, rfl, rfl, rfl, rfl⟩
  refine g_VV hX hc35 [.ref (d 0)] [] (c_X0_copy l E (q 5) (Q 5) d C) gX2_add_X0_copy calX0_copy rfl rfl rfl rfl 37 rfl rfl rfl rfl dX2_add_35 rfl ⟨Nat.zero_le _, Nat.zero_le _⟩ (fun _ => ([(h 0, .inr (2, [.ref (h 1), .int (nI 5)]))] ++ ([(h 1, .inl (E.2.1 4, 8, .inr (.inr (.inr (.inr (fun j => ([(q 0) 0, (q 1) 0, (q 2) 0, (q 3) 0, (q 4) 0, (q 5) 0, (q 6) 0, (q 7) 0] : List Nat)[j]?))))))] ++ (fw E (q 0) (Q 0) ++ (fw E (q 1) (Q 1) ++ (fw E (q 2) (Q 2) ++ (fw E (q 3) (Q 3) ++ (fw E (q 4) (Q 4) ++ (fw E (q 5) C ++ (fw E (q 6) (Q 6) ++ (fw E (q 7) (Q 7) ++ (fw E d C)))))))))))) [0, 1, 2, 3, 4, 5, 6, 7, 8, 9, 10, 11, 12, 13, 14, 15, 16, 17, 18, 19, 20, 21, 22, 23, 24, 25, 26, 27, 28, 29, 30, 31, 32, 33, 34, 35, 36, 51, 52, 53, 54, 55, 56, 57, 37, 38, 39, 40, 41, 42, 43, 44, 45, 46, 47, 48, 49, 50, 58, 59, 60, 61, 62, 63, 64] rfl (fun _ => rfl) (fun _ hu35 => ?_)
  refine g_aload_n hX dX2_add_38 0 rfl ?_
  refine g_dup hX dX2_add_39 rfl ?_
  refine g_get hX (v := .int (nI 5)) 0 inRX2 rfl rfl 1 rfl fl16 rfl rfl dX2_add_40 ?_
  refine g_iconst hX (nI 1) dX2_add_43 rfl ?_
  refine g_iadd hX (nI (5 + 1)) dX2_add_44 (nI_add _ _) ?_
  refine g_put hX (([(h 0, .inr (2, [.ref (h 1), .int (nI 6)]))] ++ ([(h 1, .inl (E.2.1 4, 8, .inr (.inr (.inr (.inr (fun j => ([(q 0) 0, (q 1) 0, (q 2) 0, (q 3) 0, (q 4) 0, (q 5) 0, (q 6) 0, (q 7) 0] : List Nat)[j]?))))))] ++ (fw E (q 0) (Q 0) ++ (fw E (q 1) (Q 1) ++ (fw E (q 2) (Q 2) ++ (fw E (q 3) (Q 3) ++ (fw E (q 4) (Q 4) ++ (fw E (q 5) C ++ (fw E (q 6) (Q 6) ++ (fw E (q 7) (Q 7) ++ (fw E d C)))))))))))) 0 inRX2 tyX2_ok nmX2 rfl rfl 1 rfl fl16 rfl rfl rfl rfl rfl dX2_add_45 rfl ?_
  exact g_eq (show (([(h 0, .inr (2, [.ref (h 1), .int (nI 6)]))] ++ ([(h 1, .inl (E.2.1 4, 8, .inr (.inr (.inr (.inr (fun j => ([(q 0) 0, (q 1) 0, (q 2) 0, (q 3) 0, (q 4) 0, (q 5) 0, (q 6) 0, (q 7) 0] : List Nat)[j]?))))))] ++ (fw E (q 0) (Q 0) ++ (fw E (q 1) (Q 1) ++ (fw E (q 2) (Q 2) ++ (fw E (q 3) (Q 3) ++ (fw E (q 4) (Q 4) ++ (fw E (q 5) C ++ (fw E (q 6) (Q 6) ++ (fw E (q 7) (Q 7) ++ (fw E d C))))))))))) : va_W) = pw8 E h (mkPV 6 q (va_up Q 5 C)) ++ fw E d C from rfl) rfl rfl (hret () _ _ trivial dX2_add_48)
set_option maxHeartbeats 4000000 in
set_option maxRecDepth 100000 in
theorem c_X2_add8_6 (l : Launch) (E : EV) (h : Nat → Nat) (q : Nat → Nat → Nat) (Q : Nat → FC) (d : Nat → Nat) (C : FC)  : KV l yX2_add wsX2_add (rmA 2 0 0) E (σ := Unit) [.ref (h 0), .ref (d 0)] (([(h 0, .inr (2, [.ref (h 1), .int (nI 6)]))] ++ ([(h 1, .inl (E.2.1 4, 8, .inr (.inr (.inr (.inr (fun j => ([(q 0) 0, (q 1) 0, (q 2) 0, (q 3) 0, (q 4) 0, (q 5) 0, (q 6) 0, (q 7) 0] : List Nat)[j]?))))))] ++ (fw E (q 0) (Q 0) ++ (fw E (q 1) (Q 1) ++ (fw E (q 2) (Q 2) ++ (fw E (q 3) (Q 3) ++ (fw E (q 4) (Q 4) ++ (fw E (q 5) (Q 5) ++ (fw E (q 6) (Q 6) ++ (fw E (q 7) (Q 7) ++ (fw E d C)))))))))))) (fun _ => True) (fun _ => pw8 E h (mkPV 7 q (va_up Q 6 C)) ++ fw E d C) 0 0 := by
  refine KV.of (cc := cX2_add) (maxL := 2) rfl rfl rfl (fun x hX hin hret hnL => ?_)
  replace hX : CX x l cX2_add RX2 wsX2_add E (rmA 2 0 0) := hX
  show GG x 0 0 (([(h 0, .inr (2, [.ref (h 1), .int (nI 6)]))] ++ ([(h 1, .inl (E.2.1 4, 8, .inr (.inr (.inr (.inr (fun j => ([(q 0) 0, (q 1) 0, (q 2) 0, (q 3) 0, (q 4) 0, (q 5) 0, (q 6) 0, (q 7) 0] : List Nat)[j]?))))))] ++ (fw E (q 0) (Q 0) ++ (fw E (q 1) (Q 1) ++ (fw E (q 2) (Q 2) ++ (fw E (q 3) (Q 3) ++ (fw E (q 4) (Q 4) ++ (fw E (q 5) (Q 5) ++ (fw E (q 6) (Q 6) ++ (fw E (q 7) (Q 7) ++ (fw E d C)))))))))))) 0 [(0, .ref (h 0)), (1, .ref (d 0))] []
  have inRX2 : ∀ w ∈ wsX20, w ∈ wsX2_add := by decide +kernel
  have fl16 : Cond.fieldLink RX2 16 "LieForce$Pile" "size" "I" ∈ wsX2_add := by decide +kernel
  have fl9 : Cond.fieldLink RX2 9 "LieForce$Pile" "stood" "[LLieForce$Force;" ∈ wsX2_add := by decide +kernel
  refine g_aload_n hX dX2_add_0 0 rfl ?_
  refine g_get hX (v := .ref (h 1)) 0 inRX2 rfl rfl 0 rfl fl9 rfl rfl dX2_add_1 ?_
  refine g_alen hX (nI 8) 1 4 rfl rfl rfl dX2_add_4 ?_
  refine g_if_ne hX 9 dX2_add_5 (by decide) (fun _ => ?_) (fun c5 => by first | exact absurd c5 (by decide) | exact absurd (by decide) c5)
  refine g_aload_n hX dX2_add_9 0 rfl ?_
  refine g_get hX (v := .int (nI 6)) 0 inRX2 rfl rfl 1 rfl fl16 rfl rfl dX2_add_10 ?_
  refine g_aload_n hX dX2_add_13 0 rfl ?_
  refine g_get hX (v := .ref (h 1)) 0 inRX2 rfl rfl 0 rfl fl9 rfl rfl dX2_add_14 ?_
  refine g_alen hX (nI 8) 1 4 rfl rfl rfl dX2_add_17 ?_
  refine g_icmp_lt hX 25 dX2_add_18 (by decide) (fun _ => ?_) (fun c18 => by first | exact absurd c18 (by decide) | exact absurd (by decide) c18)
  refine g_aload_n hX dX2_add_25 0 rfl ?_
  refine g_get hX (v := .ref (h 1)) 0 inRX2 rfl rfl 0 rfl fl9 rfl rfl dX2_add_26 ?_
  refine g_aload_n hX dX2_add_29 0 rfl ?_
  refine g_get hX (v := .int (nI 6)) 0 inRX2 rfl rfl 1 rfl fl16 rfl rfl dX2_add_30 ?_
  refine g_aald hX (.ref ((q 6) 0)) 1 4 rfl rfl (vp_in_nI (by decide) (by decide)) (by rw [nI_clamp (by decide)]; rfl) dX2_add_33 ?_
  refine g_aload_n hX dX2_add_34 1 rfl ?_
  have hc35 : CUT (([(h 0, .inr (2, [.ref (h 1), .int (nI 6)]))] ++ ([(h 1, .inl (E.2.1 4, 8, .inr (.inr (.inr (.inr (fun j => ([(q 0) 0, (q 1) 0, (q 2) 0, (q 3) 0, (q 4) 0, (q 5) 0, (q 6) 0, (q 7) 0] : List Nat)[j]?))))))] ++ (fw E (q 0) (Q 0) ++ (fw E (q 1) (Q 1) ++ (fw E (q 2) (Q 2) ++ (fw E (q 3) (Q 3) ++ (fw E (q 4) (Q 4) ++ (fw E (q 5) (Q 5) ++ (fw E (q 6) (Q 6) ++ (fw E (q 7) (Q 7) ++ (fw E d C)))))))))))) ((fw E (q 6) (Q 6)) ++ (fw E d C)) (([(h 0, .inr (2, [.ref (h 1), .int (nI 6)]))] ++ ([(h 1, .inl (E.2.1 4, 8, .inr (.inr (.inr (.inr (fun j => ([(q 0) 0, (q 1) 0, (q 2) 0, (q 3) 0, (q 4) 0, (q 5) 0, (q 6) 0, (q 7) 0] : List Nat)[j]?))))))] ++ (fw E (q 0) (Q 0) ++ (fw E (q 1) (Q 1) ++ (fw E (q 2) (Q 2) ++ (fw E (q 3) (Q 3) ++ (fw E (q 4) (Q 4) ++ (fw E (q 5) (Q 5) ++ (fw E (q 7) (Q 7))))))))))) [44, 45, 46, 47, 48, 49, 50, 58, 59, 60, 61, 62, 63, 64] [0, 1, 2, 3, 4, 5, 6, 7, 8, 9, 10, 11, 12, 13, 14, 15, 16, 17, 18, 19, 20, 21, 22, 23, 24, 25, 26, 27, 28, 29, 30, 31, 32, 33, 34, 35, 36, 37, 38, 39, 40, 41, 42, 43, 51, 52, 53, 54, 55, 56, 57] := ⟨rfl, rfl, rfl, rfl, rfl⟩
  refine g_VV hX hc35 [.ref (d 0)] [] (c_X0_copy l E (q 6) (Q 6) d C) gX2_add_X0_copy calX0_copy rfl rfl rfl rfl 44 rfl rfl rfl rfl dX2_add_35 rfl ⟨Nat.zero_le _, Nat.zero_le _⟩ (fun _ => ([(h 0, .inr (2, [.ref (h 1), .int (nI 6)]))] ++ ([(h 1, .inl (E.2.1 4, 8, .inr (.inr (.inr (.inr (fun j => ([(q 0) 0, (q 1) 0, (q 2) 0, (q 3) 0, (q 4) 0, (q 5) 0, (q 6) 0, (q 7) 0] : List Nat)[j]?))))))] ++ (fw E (q 0) (Q 0) ++ (fw E (q 1) (Q 1) ++ (fw E (q 2) (Q 2) ++ (fw E (q 3) (Q 3) ++ (fw E (q 4) (Q 4) ++ (fw E (q 5) (Q 5) ++ (fw E (q 6) C ++ (fw E (q 7) (Q 7) ++ (fw E d C)))))))))))) [0, 1, 2, 3, 4, 5, 6, 7, 8, 9, 10, 11, 12, 13, 14, 15, 16, 17, 18, 19, 20, 21, 22, 23, 24, 25, 26, 27, 28, 29, 30, 31, 32, 33, 34, 35, 36, 37, 38, 39, 40, 41, 42, 43, 51, 52, 53, 54, 55, 56, 57, 44, 45, 46, 47, 48, 49, 50, 58, 59, 60, 61, 62, 63, 64] rfl (fun _ => rfl) (fun _ hu35 => ?_)
  refine g_aload_n hX dX2_add_38 0 rfl ?_
  refine g_dup hX dX2_add_39 rfl ?_
  refine g_get hX (v := .int (nI 6)) 0 inRX2 rfl rfl 1 rfl fl16 rfl rfl dX2_add_40 ?_
  refine g_iconst hX (nI 1) dX2_add_43 rfl ?_
  refine g_iadd hX (nI (6 + 1)) dX2_add_44 (nI_add _ _) ?_
  refine g_put hX (([(h 0, .inr (2, [.ref (h 1), .int (nI 7)]))] ++ ([(h 1, .inl (E.2.1 4, 8, .inr (.inr (.inr (.inr (fun j => ([(q 0) 0, (q 1) 0, (q 2) 0, (q 3) 0, (q 4) 0, (q 5) 0, (q 6) 0, (q 7) 0] : List Nat)[j]?))))))] ++ (fw E (q 0) (Q 0) ++ (fw E (q 1) (Q 1) ++ (fw E (q 2) (Q 2) ++ (fw E (q 3) (Q 3) ++ (fw E (q 4) (Q 4) ++ (fw E (q 5) (Q 5) ++ (fw E (q 6) C ++ (fw E (q 7) (Q 7) ++ (fw E d C)))))))))))) 0 inRX2 tyX2_ok nmX2 rfl rfl 1 rfl fl16 rfl rfl rfl rfl rfl dX2_add_45 rfl ?_
  exact g_eq (show (([(h 0, .inr (2, [.ref (h 1), .int (nI 7)]))] ++ ([(h 1, .inl (E.2.1 4, 8, .inr (.inr (.inr (.inr (fun j => ([(q 0) 0, (q 1) 0, (q 2) 0, (q 3) 0, (q 4) 0, (q 5) 0, (q 6) 0, (q 7) 0] : List Nat)[j]?))))))] ++ (fw E (q 0) (Q 0) ++ (fw E (q 1) (Q 1) ++ (fw E (q 2) (Q 2) ++ (fw E (q 3) (Q 3) ++ (fw E (q 4) (Q 4) ++ (fw E (q 5) (Q 5) ++ (fw E (q 6) C ++ (fw E (q 7) (Q 7) ++ (fw E d C))))))))))) : va_W) = pw8 E h (mkPV 7 q (va_up Q 6 C)) ++ fw E d C from rfl) rfl rfl (hret () _ _ trivial dX2_add_48)
set_option maxHeartbeats 4000000 in
set_option maxRecDepth 100000 in
theorem c_X2_add8_7 (l : Launch) (E : EV) (h : Nat → Nat) (q : Nat → Nat → Nat) (Q : Nat → FC) (d : Nat → Nat) (C : FC)  : KV l yX2_add wsX2_add (rmA 2 0 0) E (σ := Unit) [.ref (h 0), .ref (d 0)] (([(h 0, .inr (2, [.ref (h 1), .int (nI 7)]))] ++ ([(h 1, .inl (E.2.1 4, 8, .inr (.inr (.inr (.inr (fun j => ([(q 0) 0, (q 1) 0, (q 2) 0, (q 3) 0, (q 4) 0, (q 5) 0, (q 6) 0, (q 7) 0] : List Nat)[j]?))))))] ++ (fw E (q 0) (Q 0) ++ (fw E (q 1) (Q 1) ++ (fw E (q 2) (Q 2) ++ (fw E (q 3) (Q 3) ++ (fw E (q 4) (Q 4) ++ (fw E (q 5) (Q 5) ++ (fw E (q 6) (Q 6) ++ (fw E (q 7) (Q 7) ++ (fw E d C)))))))))))) (fun _ => True) (fun _ => pw8 E h (mkPV 8 q (va_up Q 7 C)) ++ fw E d C) 0 0 := by
  refine KV.of (cc := cX2_add) (maxL := 2) rfl rfl rfl (fun x hX hin hret hnL => ?_)
  replace hX : CX x l cX2_add RX2 wsX2_add E (rmA 2 0 0) := hX
  show GG x 0 0 (([(h 0, .inr (2, [.ref (h 1), .int (nI 7)]))] ++ ([(h 1, .inl (E.2.1 4, 8, .inr (.inr (.inr (.inr (fun j => ([(q 0) 0, (q 1) 0, (q 2) 0, (q 3) 0, (q 4) 0, (q 5) 0, (q 6) 0, (q 7) 0] : List Nat)[j]?))))))] ++ (fw E (q 0) (Q 0) ++ (fw E (q 1) (Q 1) ++ (fw E (q 2) (Q 2) ++ (fw E (q 3) (Q 3) ++ (fw E (q 4) (Q 4) ++ (fw E (q 5) (Q 5) ++ (fw E (q 6) (Q 6) ++ (fw E (q 7) (Q 7) ++ (fw E d C)))))))))))) 0 [(0, .ref (h 0)), (1, .ref (d 0))] []
  have inRX2 : ∀ w ∈ wsX20, w ∈ wsX2_add := by decide +kernel
  have fl16 : Cond.fieldLink RX2 16 "LieForce$Pile" "size" "I" ∈ wsX2_add := by decide +kernel
  have fl9 : Cond.fieldLink RX2 9 "LieForce$Pile" "stood" "[LLieForce$Force;" ∈ wsX2_add := by decide +kernel
  refine g_aload_n hX dX2_add_0 0 rfl ?_
  refine g_get hX (v := .ref (h 1)) 0 inRX2 rfl rfl 0 rfl fl9 rfl rfl dX2_add_1 ?_
  refine g_alen hX (nI 8) 1 4 rfl rfl rfl dX2_add_4 ?_
  refine g_if_ne hX 9 dX2_add_5 (by decide) (fun _ => ?_) (fun c5 => by first | exact absurd c5 (by decide) | exact absurd (by decide) c5)
  refine g_aload_n hX dX2_add_9 0 rfl ?_
  refine g_get hX (v := .int (nI 7)) 0 inRX2 rfl rfl 1 rfl fl16 rfl rfl dX2_add_10 ?_
  refine g_aload_n hX dX2_add_13 0 rfl ?_
  refine g_get hX (v := .ref (h 1)) 0 inRX2 rfl rfl 0 rfl fl9 rfl rfl dX2_add_14 ?_
  refine g_alen hX (nI 8) 1 4 rfl rfl rfl dX2_add_17 ?_
  refine g_icmp_lt hX 25 dX2_add_18 (by decide) (fun _ => ?_) (fun c18 => by first | exact absurd c18 (by decide) | exact absurd (by decide) c18)
  refine g_aload_n hX dX2_add_25 0 rfl ?_
  refine g_get hX (v := .ref (h 1)) 0 inRX2 rfl rfl 0 rfl fl9 rfl rfl dX2_add_26 ?_
  refine g_aload_n hX dX2_add_29 0 rfl ?_
  refine g_get hX (v := .int (nI 7)) 0 inRX2 rfl rfl 1 rfl fl16 rfl rfl dX2_add_30 ?_
  refine g_aald hX (.ref ((q 7) 0)) 1 4 rfl rfl (vp_in_nI (by decide) (by decide)) (by rw [nI_clamp (by decide)]; rfl) dX2_add_33 ?_
  refine g_aload_n hX dX2_add_34 1 rfl ?_
  have hc35 : CUT (([(h 0, .inr (2, [.ref (h 1), .int (nI 7)]))] ++ ([(h 1, .inl (E.2.1 4, 8, .inr (.inr (.inr (.inr (fun j => ([(q 0) 0, (q 1) 0, (q 2) 0, (q 3) 0, (q 4) 0, (q 5) 0, (q 6) 0, (q 7) 0] : List Nat)[j]?))))))] ++ (fw E (q 0) (Q 0) ++ (fw E (q 1) (Q 1) ++ (fw E (q 2) (Q 2) ++ (fw E (q 3) (Q 3) ++ (fw E (q 4) (Q 4) ++ (fw E (q 5) (Q 5) ++ (fw E (q 6) (Q 6) ++ (fw E (q 7) (Q 7) ++ (fw E d C)))))))))))) ((fw E (q 7) (Q 7)) ++ (fw E d C)) (([(h 0, .inr (2, [.ref (h 1), .int (nI 7)]))] ++ ([(h 1, .inl (E.2.1 4, 8, .inr (.inr (.inr (.inr (fun j => ([(q 0) 0, (q 1) 0, (q 2) 0, (q 3) 0, (q 4) 0, (q 5) 0, (q 6) 0, (q 7) 0] : List Nat)[j]?))))))] ++ (fw E (q 0) (Q 0) ++ (fw E (q 1) (Q 1) ++ (fw E (q 2) (Q 2) ++ (fw E (q 3) (Q 3) ++ (fw E (q 4) (Q 4) ++ (fw E (q 5) (Q 5) ++ (fw E (q 6) (Q 6))))))))))) [51, 52, 53, 54, 55, 56, 57, 58, 59, 60, 61, 62, 63, 64] [0, 1, 2, 3, 4, 5, 6, 7, 8, 9, 10, 11, 12, 13, 14, 15, 16, 17, 18, 19, 20, 21, 22, 23, 24, 25, 26, 27, 28, 29, 30, 31, 32, 33, 34, 35, 36, 37, 38, 39, 40, 41, 42, 43, 44, 45, 46, 47, 48, 49, 50] := ⟨rfl, rfl, rfl, rfl, rfl⟩
  refine g_VV hX hc35 [.ref (d 0)] [] (c_X0_copy l E (q 7) (Q 7) d C) gX2_add_X0_copy calX0_copy rfl rfl rfl rfl 51 rfl rfl rfl rfl dX2_add_35 rfl ⟨Nat.zero_le _, Nat.zero_le _⟩ (fun _ => ([(h 0, .inr (2, [.ref (h 1), .int (nI 7)]))] ++ ([(h 1, .inl (E.2.1 4, 8, .inr (.inr (.inr (.inr (fun j => ([(q 0) 0, (q 1) 0, (q 2) 0, (q 3) 0, (q 4) 0, (q 5) 0, (q 6) 0, (q 7) 0] : List Nat)[j]?))))))] ++ (fw E (q 0) (Q 0) ++ (fw E (q 1) (Q 1) ++ (fw E (q 2) (Q 2) ++ (fw E (q 3) (Q 3) ++ (fw E (q 4) (Q 4) ++ (fw E (q 5) (Q 5) ++ (fw E (q 6) (Q 6) ++ (fw E (q 7) C ++ (fw E d C)))))))))))) [0, 1, 2, 3, 4, 5, 6, 7, 8, 9, 10, 11, 12, 13, 14, 15, 16, 17, 18, 19, 20, 21, 22, 23, 24, 25, 26, 27, 28, 29, 30, 31, 32, 33, 34, 35, 36, 37, 38, 39, 40, 41, 42, 43, 44, 45, 46, 47, 48, 49, 50, 51, 52, 53, 54, 55, 56, 57, 58, 59, 60, 61, 62, 63, 64] rfl (fun _ => rfl) (fun _ hu35 => ?_)
  refine g_aload_n hX dX2_add_38 0 rfl ?_
  refine g_dup hX dX2_add_39 rfl ?_
  refine g_get hX (v := .int (nI 7)) 0 inRX2 rfl rfl 1 rfl fl16 rfl rfl dX2_add_40 ?_
  refine g_iconst hX (nI 1) dX2_add_43 rfl ?_
  refine g_iadd hX (nI (7 + 1)) dX2_add_44 (nI_add _ _) ?_
  refine g_put hX (([(h 0, .inr (2, [.ref (h 1), .int (nI 8)]))] ++ ([(h 1, .inl (E.2.1 4, 8, .inr (.inr (.inr (.inr (fun j => ([(q 0) 0, (q 1) 0, (q 2) 0, (q 3) 0, (q 4) 0, (q 5) 0, (q 6) 0, (q 7) 0] : List Nat)[j]?))))))] ++ (fw E (q 0) (Q 0) ++ (fw E (q 1) (Q 1) ++ (fw E (q 2) (Q 2) ++ (fw E (q 3) (Q 3) ++ (fw E (q 4) (Q 4) ++ (fw E (q 5) (Q 5) ++ (fw E (q 6) (Q 6) ++ (fw E (q 7) C ++ (fw E d C)))))))))))) 0 inRX2 tyX2_ok nmX2 rfl rfl 1 rfl fl16 rfl rfl rfl rfl rfl dX2_add_45 rfl ?_
  exact g_eq (show (([(h 0, .inr (2, [.ref (h 1), .int (nI 8)]))] ++ ([(h 1, .inl (E.2.1 4, 8, .inr (.inr (.inr (.inr (fun j => ([(q 0) 0, (q 1) 0, (q 2) 0, (q 3) 0, (q 4) 0, (q 5) 0, (q 6) 0, (q 7) 0] : List Nat)[j]?))))))] ++ (fw E (q 0) (Q 0) ++ (fw E (q 1) (Q 1) ++ (fw E (q 2) (Q 2) ++ (fw E (q 3) (Q 3) ++ (fw E (q 4) (Q 4) ++ (fw E (q 5) (Q 5) ++ (fw E (q 6) (Q 6) ++ (fw E (q 7) C ++ (fw E d C))))))))))) : va_W) = pw8 E h (mkPV 8 q (va_up Q 7 C)) ++ fw E d C from rfl) rfl rfl (hret () _ _ trivial dX2_add_48)
set_option maxHeartbeats 4000000 in
set_option maxRecDepth 100000 in
theorem c_X2_takeLast8_0 (l : Launch) (E : EV) (h : Nat → Nat) (q : Nat → Nat → Nat) (Q : Nat → FC) (d : Nat → Nat) (C : FC)  : KI l yX2_takeLast wsX2_takeLast (rmA 1 0 0) E (σ := Unit) [.ref (h 0), .ref (d 0)] (([(h 0, .inr (2, [.ref (h 1), .int (nI 0)]))] ++ ([(h 1, .inl (E.2.1 4, 8, .inr (.inr (.inr (.inr (fun j => ([(q 0) 0, (q 1) 0, (q 2) 0, (q 3) 0, (q 4) 0, (q 5) 0, (q 6) 0, (q 7) 0] : List Nat)[j]?))))))] ++ (fw E (q 0) (Q 0) ++ (fw E (q 1) (Q 1) ++ (fw E (q 2) (Q 2) ++ (fw E (q 3) (Q 3) ++ (fw E (q 4) (Q 4) ++ (fw E (q 5) (Q 5) ++ (fw E (q 6) (Q 6) ++ (fw E (q 7) (Q 7) ++ (fw E d C)))))))))))) (fun _ => True) (fun _ => bI false) (fun _ => pw8 E h (mkPV 0 q Q) ++ fw E d (C)) 0 0 := by
  refine KI.of (cc := cX2_takeLast) (maxL := 2) (ty := .boolean) (hnar := fun _ _ => nar_b _) rfl rfl rfl (fun x hX hin hret hnL => ?_)
  replace hX : CX x l cX2_takeLast RX2 wsX2_takeLast E (rmA 1 0 0) := hX
  show GG x 0 0 (([(h 0, .inr (2, [.ref (h 1), .int (nI 0)]))] ++ ([(h 1, .inl (E.2.1 4, 8, .inr (.inr (.inr (.inr (fun j => ([(q 0) 0, (q 1) 0, (q 2) 0, (q 3) 0, (q 4) 0, (q 5) 0, (q 6) 0, (q 7) 0] : List Nat)[j]?))))))] ++ (fw E (q 0) (Q 0) ++ (fw E (q 1) (Q 1) ++ (fw E (q 2) (Q 2) ++ (fw E (q 3) (Q 3) ++ (fw E (q 4) (Q 4) ++ (fw E (q 5) (Q 5) ++ (fw E (q 6) (Q 6) ++ (fw E (q 7) (Q 7) ++ (fw E d C)))))))))))) 0 [(0, .ref (h 0)), (1, .ref (d 0))] []
  have inRX2 : ∀ w ∈ wsX20, w ∈ wsX2_takeLast := by decide +kernel
  have fl16 : Cond.fieldLink RX2 16 "LieForce$Pile" "size" "I" ∈ wsX2_takeLast := by decide +kernel
  refine g_aload_n hX dX2_takeLast_0 0 rfl ?_
  refine g_get hX (v := .int (nI 0)) 0 inRX2 rfl rfl 1 rfl fl16 rfl rfl dX2_takeLast_1 ?_
  refine g_if_le hX 19 dX2_takeLast_4 (by decide) (fun _ => ?_) (fun c4 => by first | exact absurd c4 (by decide) | exact absurd (by decide) c4)
  refine g_iconst hX (nI 0) dX2_takeLast_19 rfl ?_
  exact g_eq (show (([(h 0, .inr (2, [.ref (h 1), .int (nI 0)]))] ++ ([(h 1, .inl (E.2.1 4, 8, .inr (.inr (.inr (.inr (fun j => ([(q 0) 0, (q 1) 0, (q 2) 0, (q 3) 0, (q 4) 0, (q 5) 0, (q 6) 0, (q 7) 0] : List Nat)[j]?))))))] ++ (fw E (q 0) (Q 0) ++ (fw E (q 1) (Q 1) ++ (fw E (q 2) (Q 2) ++ (fw E (q 3) (Q 3) ++ (fw E (q 4) (Q 4) ++ (fw E (q 5) (Q 5) ++ (fw E (q 6) (Q 6) ++ (fw E (q 7) (Q 7) ++ (fw E d C))))))))))) : va_W) = pw8 E h (mkPV 0 q Q) ++ fw E d (C) from rfl) rfl rfl (hret () _ _ trivial dX2_takeLast_20)
set_option maxHeartbeats 4000000 in
set_option maxRecDepth 100000 in
theorem c_X2_takeLast8_1 (l : Launch) (E : EV) (h : Nat → Nat) (q : Nat → Nat → Nat) (Q : Nat → FC) (d : Nat → Nat) (C : FC)  : KI l yX2_takeLast wsX2_takeLast (rmA 1 0 0) E (σ := Unit) [.ref (h 0), .ref (d 0)] (([(h 0, .inr (2, [.ref (h 1), .int (nI 1)]))] ++ ([(h 1, .inl (E.2.1 4, 8, .inr (.inr (.inr (.inr (fun j => ([(q 0) 0, (q 1) 0, (q 2) 0, (q 3) 0, (q 4) 0, (q 5) 0, (q 6) 0, (q 7) 0] : List Nat)[j]?))))))] ++ (fw E (q 0) (Q 0) ++ (fw E (q 1) (Q 1) ++ (fw E (q 2) (Q 2) ++ (fw E (q 3) (Q 3) ++ (fw E (q 4) (Q 4) ++ (fw E (q 5) (Q 5) ++ (fw E (q 6) (Q 6) ++ (fw E (q 7) (Q 7) ++ (fw E d C)))))))))))) (fun _ => True) (fun _ => bI true) (fun _ => pw8 E h (mkPV 0 q Q) ++ fw E d (Q 0)) 0 0 := by
  refine KI.of (cc := cX2_takeLast) (maxL := 2) (ty := .boolean) (hnar := fun _ _ => nar_b _) rfl rfl rfl (fun x hX hin hret hnL => ?_)
  replace hX : CX x l cX2_takeLast RX2 wsX2_takeLast E (rmA 1 0 0) := hX
  show GG x 0 0 (([(h 0, .inr (2, [.ref (h 1), .int (nI 1)]))] ++ ([(h 1, .inl (E.2.1 4, 8, .inr (.inr (.inr (.inr (fun j => ([(q 0) 0, (q 1) 0, (q 2) 0, (q 3) 0, (q 4) 0, (q 5) 0, (q 6) 0, (q 7) 0] : List Nat)[j]?))))))] ++ (fw E (q 0) (Q 0) ++ (fw E (q 1) (Q 1) ++ (fw E (q 2) (Q 2) ++ (fw E (q 3) (Q 3) ++ (fw E (q 4) (Q 4) ++ (fw E (q 5) (Q 5) ++ (fw E (q 6) (Q 6) ++ (fw E (q 7) (Q 7) ++ (fw E d C)))))))))))) 0 [(0, .ref (h 0)), (1, .ref (d 0))] []
  have inRX2 : ∀ w ∈ wsX20, w ∈ wsX2_takeLast := by decide +kernel
  have fl16 : Cond.fieldLink RX2 16 "LieForce$Pile" "size" "I" ∈ wsX2_takeLast := by decide +kernel
  have fl9 : Cond.fieldLink RX2 9 "LieForce$Pile" "stood" "[LLieForce$Force;" ∈ wsX2_takeLast := by decide +kernel
  refine g_aload_n hX dX2_takeLast_0 0 rfl ?_
  refine g_get hX (v := .int (nI 1)) 0 inRX2 rfl rfl 1 rfl fl16 rfl rfl dX2_takeLast_1 ?_
  refine g_if_le hX 19 dX2_takeLast_4 (by decide) (fun c4 => by first | exact absurd c4 (by decide) | exact absurd (by decide) c4) (fun _ => ?_)
  refine g_aload_n hX dX2_takeLast_7 0 rfl ?_
  refine g_get hX (v := .int (nI 1)) 0 inRX2 rfl rfl 1 rfl fl16 rfl rfl dX2_takeLast_8 ?_
  refine g_aload_n hX dX2_takeLast_11 0 rfl ?_
  refine g_get hX (v := .ref (h 1)) 0 inRX2 rfl rfl 0 rfl fl9 rfl rfl dX2_takeLast_12 ?_
  refine g_alen hX (nI 8) 1 4 rfl rfl rfl dX2_takeLast_15 ?_
  refine g_icmp_le hX 21 dX2_takeLast_16 (by decide) (fun _ => ?_) (fun c16 => by first | exact absurd c16 (by decide) | exact absurd (by decide) c16)
  refine g_aload_n hX dX2_takeLast_21 0 rfl ?_
  refine g_dup hX dX2_takeLast_22 rfl ?_
  refine g_get hX (v := .int (nI 1)) 0 inRX2 rfl rfl 1 rfl fl16 rfl rfl dX2_takeLast_23 ?_
  refine g_iconst hX (nI 1) dX2_takeLast_26 rfl ?_
  refine g_isub hX (nI (1 - 1)) dX2_takeLast_27 (pk_sub (by omega)) ?_
  refine g_put hX (([(h 0, .inr (2, [.ref (h 1), .int (nI 0)]))] ++ ([(h 1, .inl (E.2.1 4, 8, .inr (.inr (.inr (.inr (fun j => ([(q 0) 0, (q 1) 0, (q 2) 0, (q 3) 0, (q 4) 0, (q 5) 0, (q 6) 0, (q 7) 0] : List Nat)[j]?))))))] ++ (fw E (q 0) (Q 0) ++ (fw E (q 1) (Q 1) ++ (fw E (q 2) (Q 2) ++ (fw E (q 3) (Q 3) ++ (fw E (q 4) (Q 4) ++ (fw E (q 5) (Q 5) ++ (fw E (q 6) (Q 6) ++ (fw E (q 7) (Q 7) ++ (fw E d C)))))))))))) 0 inRX2 tyX2_ok nmX2 rfl rfl 1 rfl fl16 rfl rfl rfl rfl rfl dX2_takeLast_28 rfl ?_
  refine g_aload_n hX dX2_takeLast_31 1 rfl ?_
  refine g_aload_n hX dX2_takeLast_32 0 rfl ?_
  refine g_get hX (v := .ref (h 1)) 0 inRX2 rfl rfl 0 rfl fl9 rfl rfl dX2_takeLast_33 ?_
  refine g_aload_n hX dX2_takeLast_36 0 rfl ?_
  refine g_get hX (v := .int (nI 0)) 0 inRX2 rfl rfl 1 rfl fl16 rfl rfl dX2_takeLast_37 ?_
  refine g_aald hX (.ref ((q 0) 0)) 1 4 rfl rfl (vp_in_nI (by decide) (by decide)) (by rw [nI_clamp (by decide)]; rfl) dX2_takeLast_40 ?_
  have hc41 : CUT (([(h 0, .inr (2, [.ref (h 1), .int (nI 0)]))] ++ ([(h 1, .inl (E.2.1 4, 8, .inr (.inr (.inr (.inr (fun j => ([(q 0) 0, (q 1) 0, (q 2) 0, (q 3) 0, (q 4) 0, (q 5) 0, (q 6) 0, (q 7) 0] : List Nat)[j]?))))))] ++ (fw E (q 0) (Q 0) ++ (fw E (q 1) (Q 1) ++ (fw E (q 2) (Q 2) ++ (fw E (q 3) (Q 3) ++ (fw E (q 4) (Q 4) ++ (fw E (q 5) (Q 5) ++ (fw E (q 6) (Q 6) ++ (fw E (q 7) (Q 7) ++ (fw E d C)))))))))))) ((fw E d C) ++ (fw E (q 0) (Q 0))) (([(h 0, .inr (2, [.ref (h 1), .int (nI 0)]))] ++ ([(h 1, .inl (E.2.1 4, 8, .inr (.inr (.inr (.inr (fun j => ([(q 0) 0, (q 1) 0, (q 2) 0, (q 3) 0, (q 4) 0, (q 5) 0, (q 6) 0, (q 7) 0] : List Nat)[j]?))))))] ++ (fw E (q 1) (Q 1) ++ (fw E (q 2) (Q 2) ++ (fw E (q 3) (Q 3) ++ (fw E (q 4) (Q 4) ++ (fw E (q 5) (Q 5) ++ (fw E (q 6) (Q 6) ++ (fw E (q 7) (Q 7))))))))))) [58, 59, 60, 61, 62, 63, 64, 2, 3, 4, 5, 6, 7, 8] [0, 1, 9, 10, 11, 12, 13, 14, 15, 16, 17, 18, 19, 20, 21, 22, 23, 24, 25, 26, 27, 28, 29, 30, 31, 32, 33, 34, 35, 36, 37, 38, 39, 40, 41, 42, 43, 44, 45, 46, 47, 48, 49, 50, 51, 52, 53, 54, 55, 56, 57] := ⟨rfl, rfl, rfl, rfl, rfl⟩
  refine g_VV hX hc41 [.ref ((q 0) 0)] [] (c_X0_copy l E d C (q 0) (Q 0)) gX2_takeLast_X0_copy calX0_copy rfl rfl rfl rfl 58 rfl rfl rfl rfl dX2_takeLast_41 rfl ⟨Nat.zero_le _, Nat.zero_le _⟩ (fun _ => ([(h 0, .inr (2, [.ref (h 1), .int (nI 0)]))] ++ ([(h 1, .inl (E.2.1 4, 8, .inr (.inr (.inr (.inr (fun j => ([(q 0) 0, (q 1) 0, (q 2) 0, (q 3) 0, (q 4) 0, (q 5) 0, (q 6) 0, (q 7) 0] : List Nat)[j]?))))))] ++ (fw E (q 0) (Q 0) ++ (fw E (q 1) (Q 1) ++ (fw E (q 2) (Q 2) ++ (fw E (q 3) (Q 3) ++ (fw E (q 4) (Q 4) ++ (fw E (q 5) (Q 5) ++ (fw E (q 6) (Q 6) ++ (fw E (q 7) (Q 7) ++ (fw E d (Q 0))))))))))))) [0, 1, 58, 59, 60, 61, 62, 63, 64, 2, 3, 4, 5, 6, 7, 8, 9, 10, 11, 12, 13, 14, 15, 16, 17, 18, 19, 20, 21, 22, 23, 24, 25, 26, 27, 28, 29, 30, 31, 32, 33, 34, 35, 36, 37, 38, 39, 40, 41, 42, 43, 44, 45, 46, 47, 48, 49, 50, 51, 52, 53, 54, 55, 56, 57] rfl (fun _ => rfl) (fun _ hu41 => ?_)
  refine g_iconst hX (nI 1) dX2_takeLast_44 rfl ?_
  exact g_eq (show (([(h 0, .inr (2, [.ref (h 1), .int (nI 0)]))] ++ ([(h 1, .inl (E.2.1 4, 8, .inr (.inr (.inr (.inr (fun j => ([(q 0) 0, (q 1) 0, (q 2) 0, (q 3) 0, (q 4) 0, (q 5) 0, (q 6) 0, (q 7) 0] : List Nat)[j]?))))))] ++ (fw E (q 0) (Q 0) ++ (fw E (q 1) (Q 1) ++ (fw E (q 2) (Q 2) ++ (fw E (q 3) (Q 3) ++ (fw E (q 4) (Q 4) ++ (fw E (q 5) (Q 5) ++ (fw E (q 6) (Q 6) ++ (fw E (q 7) (Q 7) ++ (fw E d (Q 0)))))))))))) : va_W) = pw8 E h (mkPV 0 q Q) ++ fw E d (Q 0) from rfl) rfl rfl (hret () _ _ trivial dX2_takeLast_45)
set_option maxHeartbeats 4000000 in
set_option maxRecDepth 100000 in
theorem c_X2_takeLast8_2 (l : Launch) (E : EV) (h : Nat → Nat) (q : Nat → Nat → Nat) (Q : Nat → FC) (d : Nat → Nat) (C : FC)  : KI l yX2_takeLast wsX2_takeLast (rmA 1 0 0) E (σ := Unit) [.ref (h 0), .ref (d 0)] (([(h 0, .inr (2, [.ref (h 1), .int (nI 2)]))] ++ ([(h 1, .inl (E.2.1 4, 8, .inr (.inr (.inr (.inr (fun j => ([(q 0) 0, (q 1) 0, (q 2) 0, (q 3) 0, (q 4) 0, (q 5) 0, (q 6) 0, (q 7) 0] : List Nat)[j]?))))))] ++ (fw E (q 0) (Q 0) ++ (fw E (q 1) (Q 1) ++ (fw E (q 2) (Q 2) ++ (fw E (q 3) (Q 3) ++ (fw E (q 4) (Q 4) ++ (fw E (q 5) (Q 5) ++ (fw E (q 6) (Q 6) ++ (fw E (q 7) (Q 7) ++ (fw E d C)))))))))))) (fun _ => True) (fun _ => bI true) (fun _ => pw8 E h (mkPV 1 q Q) ++ fw E d (Q 1)) 0 0 := by
  refine KI.of (cc := cX2_takeLast) (maxL := 2) (ty := .boolean) (hnar := fun _ _ => nar_b _) rfl rfl rfl (fun x hX hin hret hnL => ?_)
  replace hX : CX x l cX2_takeLast RX2 wsX2_takeLast E (rmA 1 0 0) := hX
  show GG x 0 0 (([(h 0, .inr (2, [.ref (h 1), .int (nI 2)]))] ++ ([(h 1, .inl (E.2.1 4, 8, .inr (.inr (.inr (.inr (fun j => ([(q 0) 0, (q 1) 0, (q 2) 0, (q 3) 0, (q 4) 0, (q 5) 0, (q 6) 0, (q 7) 0] : List Nat)[j]?))))))] ++ (fw E (q 0) (Q 0) ++ (fw E (q 1) (Q 1) ++ (fw E (q 2) (Q 2) ++ (fw E (q 3) (Q 3) ++ (fw E (q 4) (Q 4) ++ (fw E (q 5) (Q 5) ++ (fw E (q 6) (Q 6) ++ (fw E (q 7) (Q 7) ++ (fw E d C)))))))))))) 0 [(0, .ref (h 0)), (1, .ref (d 0))] []
  have inRX2 : ∀ w ∈ wsX20, w ∈ wsX2_takeLast := by decide +kernel
  have fl16 : Cond.fieldLink RX2 16 "LieForce$Pile" "size" "I" ∈ wsX2_takeLast := by decide +kernel
  have fl9 : Cond.fieldLink RX2 9 "LieForce$Pile" "stood" "[LLieForce$Force;" ∈ wsX2_takeLast := by decide +kernel
  refine g_aload_n hX dX2_takeLast_0 0 rfl ?_
  refine g_get hX (v := .int (nI 2)) 0 inRX2 rfl rfl 1 rfl fl16 rfl rfl dX2_takeLast_1 ?_
  refine g_if_le hX 19 dX2_takeLast_4 (by decide) (fun c4 => by first | exact absurd c4 (by decide) | exact absurd (by decide) c4) (fun _ => ?_)
  refine g_aload_n hX dX2_takeLast_7 0 rfl ?_
  refine g_get hX (v := .int (nI 2)) 0 inRX2 rfl rfl 1 rfl fl16 rfl rfl dX2_takeLast_8 ?_
  refine g_aload_n hX dX2_takeLast_11 0 rfl ?_
  refine g_get hX (v := .ref (h 1)) 0 inRX2 rfl rfl 0 rfl fl9 rfl rfl dX2_takeLast_12 ?_
  refine g_alen hX (nI 8) 1 4 rfl rfl rfl dX2_takeLast_15 ?_
  refine g_icmp_le hX 21 dX2_takeLast_16 (by decide) (fun _ => ?_) (fun c16 => by first | exact absurd c16 (by decide) | exact absurd (by decide) c16)
  refine g_aload_n hX dX2_takeLast_21 0 rfl ?_
  refine g_dup hX dX2_takeLast_22 rfl ?_
  refine g_get hX (v := .int (nI 2)) 0 inRX2 rfl rfl 1 rfl fl16 rfl rfl dX2_takeLast_23 ?_
  refine g_iconst hX (nI 1) dX2_takeLast_26 rfl ?_
  refine g_isub hX (nI (2 - 1)) dX2_takeLast_27 (pk_sub (by omega)) ?_
  refine g_put hX (([(h 0, .inr (2, [.ref (h 1), .int (nI 1)]))] ++ ([(h 1, .inl (E.2.1 4, 8, .inr (.inr (.inr (.inr (fun j => ([(q 0) 0, (q 1) 0, (q 2) 0, (q 3) 0, (q 4) 0, (q 5) 0, (q 6) 0, (q 7) 0] : List Nat)[j]?))))))] ++ (fw E (q 0) (Q 0) ++ (fw E (q 1) (Q 1) ++ (fw E (q 2) (Q 2) ++ (fw E (q 3) (Q 3) ++ (fw E (q 4) (Q 4) ++ (fw E (q 5) (Q 5) ++ (fw E (q 6) (Q 6) ++ (fw E (q 7) (Q 7) ++ (fw E d C)))))))))))) 0 inRX2 tyX2_ok nmX2 rfl rfl 1 rfl fl16 rfl rfl rfl rfl rfl dX2_takeLast_28 rfl ?_
  refine g_aload_n hX dX2_takeLast_31 1 rfl ?_
  refine g_aload_n hX dX2_takeLast_32 0 rfl ?_
  refine g_get hX (v := .ref (h 1)) 0 inRX2 rfl rfl 0 rfl fl9 rfl rfl dX2_takeLast_33 ?_
  refine g_aload_n hX dX2_takeLast_36 0 rfl ?_
  refine g_get hX (v := .int (nI 1)) 0 inRX2 rfl rfl 1 rfl fl16 rfl rfl dX2_takeLast_37 ?_
  refine g_aald hX (.ref ((q 1) 0)) 1 4 rfl rfl (vp_in_nI (by decide) (by decide)) (by rw [nI_clamp (by decide)]; rfl) dX2_takeLast_40 ?_
  have hc41 : CUT (([(h 0, .inr (2, [.ref (h 1), .int (nI 1)]))] ++ ([(h 1, .inl (E.2.1 4, 8, .inr (.inr (.inr (.inr (fun j => ([(q 0) 0, (q 1) 0, (q 2) 0, (q 3) 0, (q 4) 0, (q 5) 0, (q 6) 0, (q 7) 0] : List Nat)[j]?))))))] ++ (fw E (q 0) (Q 0) ++ (fw E (q 1) (Q 1) ++ (fw E (q 2) (Q 2) ++ (fw E (q 3) (Q 3) ++ (fw E (q 4) (Q 4) ++ (fw E (q 5) (Q 5) ++ (fw E (q 6) (Q 6) ++ (fw E (q 7) (Q 7) ++ (fw E d C)))))))))))) ((fw E d C) ++ (fw E (q 1) (Q 1))) (([(h 0, .inr (2, [.ref (h 1), .int (nI 1)]))] ++ ([(h 1, .inl (E.2.1 4, 8, .inr (.inr (.inr (.inr (fun j => ([(q 0) 0, (q 1) 0, (q 2) 0, (q 3) 0, (q 4) 0, (q 5) 0, (q 6) 0, (q 7) 0] : List Nat)[j]?))))))] ++ (fw E (q 0) (Q 0) ++ (fw E (q 2) (Q 2) ++ (fw E (q 3) (Q 3) ++ (fw E (q 4) (Q 4) ++ (fw E (q 5) (Q 5) ++ (fw E (q 6) (Q 6) ++ (fw E (q 7) (Q 7))))))))))) [58, 59, 60, 61, 62, 63, 64, 9, 10, 11, 12, 13, 14, 15] [0, 1, 2, 3, 4, 5, 6, 7, 8, 16, 17, 18, 19, 20, 21, 22, 23, 24, 25, 26, 27, 28, 29, 30, 31, 32, 33, 34, 35, 36, 37, 38, 39, 40, 41, 42, 43, 44, 45, 46, 47, 48, 49, 50, 51, 52, 53, 54, 55, 56, 57] := ⟨rfl, rfl, rfl, rfl, rfl⟩
  refine g_VV hX hc41 [.ref ((q 1) 0)] [] (c_X0_copy l E d C (q 1) (Q 1)) gX2_takeLast_X0_copy calX0_copy rfl rfl rfl rfl 58 rfl rfl rfl rfl dX2_takeLast_41 rfl ⟨Nat.zero_le _, Nat.zero_le _⟩ (fun _ => ([(h 0, .inr (2, [.ref (h 1), .int (nI 1)]))] ++ ([(h 1, .inl (E.2.1 4, 8, .inr (.inr (.inr (.inr (fun j => ([(q 0) 0, (q 1) 0, (q 2) 0, (q 3) 0, (q 4) 0, (q 5) 0, (q 6) 0, (q 7) 0] : List Nat)[j]?))))))] ++ (fw E (q 0) (Q 0) ++ (fw E (q 1) (Q 1) ++ (fw E (q 2) (Q 2) ++ (fw E (q 3) (Q 3) ++ (fw E (q 4) (Q 4) ++ (fw E (q 5) (Q 5) ++ (fw E (q 6) (Q 6) ++ (fw E (q 7) (Q 7) ++ (fw E d (Q 1))))))))))))) [0, 1, 2, 3, 4, 5, 6, 7, 8, 58, 59, 60, 61, 62, 63, 64, 9, 10, 11, 12, 13, 14, 15, 16, 17, 18, 19, 20, 21, 22, 23, 24, 25, 26, 27, 28, 29, 30, 31, 32, 33, 34, 35, 36, 37, 38, 39, 40, 41, 42, 43, 44, 45, 46, 47, 48, 49, 50, 51, 52, 53, 54, 55, 56, 57] rfl (fun _ => rfl) (fun _ hu41 => ?_)
  refine g_iconst hX (nI 1) dX2_takeLast_44 rfl ?_
  exact g_eq (show (([(h 0, .inr (2, [.ref (h 1), .int (nI 1)]))] ++ ([(h 1, .inl (E.2.1 4, 8, .inr (.inr (.inr (.inr (fun j => ([(q 0) 0, (q 1) 0, (q 2) 0, (q 3) 0, (q 4) 0, (q 5) 0, (q 6) 0, (q 7) 0] : List Nat)[j]?))))))] ++ (fw E (q 0) (Q 0) ++ (fw E (q 1) (Q 1) ++ (fw E (q 2) (Q 2) ++ (fw E (q 3) (Q 3) ++ (fw E (q 4) (Q 4) ++ (fw E (q 5) (Q 5) ++ (fw E (q 6) (Q 6) ++ (fw E (q 7) (Q 7) ++ (fw E d (Q 1)))))))))))) : va_W) = pw8 E h (mkPV 1 q Q) ++ fw E d (Q 1) from rfl) rfl rfl (hret () _ _ trivial dX2_takeLast_45)
set_option maxHeartbeats 4000000 in
set_option maxRecDepth 100000 in
theorem c_X2_takeLast8_3 (l : Launch) (E : EV) (h : Nat → Nat) (q : Nat → Nat → Nat) (Q : Nat → FC) (d : Nat → Nat) (C : FC)  : KI l yX2_takeLast wsX2_takeLast (rmA 1 0 0) E (σ := Unit) [.ref (h 0), .ref (d 0)] (([(h 0, .inr (2, [.ref (h 1), .int (nI 3)]))] ++ ([(h 1, .inl (E.2.1 4, 8, .inr (.inr (.inr (.inr (fun j => ([(q 0) 0, (q 1) 0, (q 2) 0, (q 3) 0, (q 4) 0, (q 5) 0, (q 6) 0, (q 7) 0] : List Nat)[j]?))))))] ++ (fw E (q 0) (Q 0) ++ (fw E (q 1) (Q 1) ++ (fw E (q 2) (Q 2) ++ (fw E (q 3) (Q 3) ++ (fw E (q 4) (Q 4) ++ (fw E (q 5) (Q 5) ++ (fw E (q 6) (Q 6) ++ (fw E (q 7) (Q 7) ++ (fw E d C)))))))))))) (fun _ => True) (fun _ => bI true) (fun _ => pw8 E h (mkPV 2 q Q) ++ fw E d (Q 2)) 0 0 := by
  refine KI.of (cc := cX2_takeLast) (maxL := 2) (ty := .boolean) (hnar := fun _ _ => nar_b _) rfl rfl rfl (fun x hX hin hret hnL => ?_)
  replace hX : CX x l cX2_takeLast RX2 wsX2_takeLast E (rmA 1 0 0) := hX
  show GG x 0 0 (([(h 0, .inr (2, [.ref (h 1), .int (nI 3)]))] ++ ([(h 1, .inl (E.2.1 4, 8, .inr (.inr (.inr (.inr (fun j => ([(q 0) 0, (q 1) 0, (q 2) 0, (q 3) 0, (q 4) 0, (q 5) 0, (q 6) 0, (q 7) 0] : List Nat)[j]?))))))] ++ (fw E (q 0) (Q 0) ++ (fw E (q 1) (Q 1) ++ (fw E (q 2) (Q 2) ++ (fw E (q 3) (Q 3) ++ (fw E (q 4) (Q 4) ++ (fw E (q 5) (Q 5) ++ (fw E (q 6) (Q 6) ++ (fw E (q 7) (Q 7) ++ (fw E d C)))))))))))) 0 [(0, .ref (h 0)), (1, .ref (d 0))] []
  have inRX2 : ∀ w ∈ wsX20, w ∈ wsX2_takeLast := by decide +kernel
  have fl16 : Cond.fieldLink RX2 16 "LieForce$Pile" "size" "I" ∈ wsX2_takeLast := by decide +kernel
  have fl9 : Cond.fieldLink RX2 9 "LieForce$Pile" "stood" "[LLieForce$Force;" ∈ wsX2_takeLast := by decide +kernel
  refine g_aload_n hX dX2_takeLast_0 0 rfl ?_
  refine g_get hX (v := .int (nI 3)) 0 inRX2 rfl rfl 1 rfl fl16 rfl rfl dX2_takeLast_1 ?_
  refine g_if_le hX 19 dX2_takeLast_4 (by decide) (fun c4 => by first | exact absurd c4 (by decide) | exact absurd (by decide) c4) (fun _ => ?_)
  refine g_aload_n hX dX2_takeLast_7 0 rfl ?_
  refine g_get hX (v := .int (nI 3)) 0 inRX2 rfl rfl 1 rfl fl16 rfl rfl dX2_takeLast_8 ?_
  refine g_aload_n hX dX2_takeLast_11 0 rfl ?_
  refine g_get hX (v := .ref (h 1)) 0 inRX2 rfl rfl 0 rfl fl9 rfl rfl dX2_takeLast_12 ?_
  refine g_alen hX (nI 8) 1 4 rfl rfl rfl dX2_takeLast_15 ?_
  refine g_icmp_le hX 21 dX2_takeLast_16 (by decide) (fun _ => ?_) (fun c16 => by first | exact absurd c16 (by decide) | exact absurd (by decide) c16)
  refine g_aload_n hX dX2_takeLast_21 0 rfl ?_
  refine g_dup hX dX2_takeLast_22 rfl ?_
  refine g_get hX (v := .int (nI 3)) 0 inRX2 rfl rfl 1 rfl fl16 rfl rfl dX2_takeLast_23 ?_
  refine g_iconst hX (nI 1) dX2_takeLast_26 rfl ?_
  refine g_isub hX (nI (3 - 1)) dX2_takeLast_27 (pk_sub (by omega)) ?_
  refine g_put hX (([(h 0, .inr (2, [.ref (h 1), .int (nI 2)]))] ++ ([(h 1, .inl (E.2.1 4, 8, .inr (.inr (.inr (.inr (fun j => ([(q 0) 0, (q 1) 0, (q 2) 0, (q 3) 0, (q 4) 0, (q 5) 0, (q 6) 0, (q 7) 0] : List Nat)[j]?))))))] ++ (fw E (q 0) (Q 0) ++ (fw E (q 1) (Q 1) ++ (fw E (q 2) (Q 2) ++ (fw E (q 3) (Q 3) ++ (fw E (q 4) (Q 4) ++ (fw E (q 5) (Q 5) ++ (fw E (q 6) (Q 6) ++ (fw E (q 7) (Q 7) ++ (fw E d C)))))))))))) 0 inRX2 tyX2_ok nmX2 rfl rfl 1 rfl fl16 rfl rfl rfl rfl rfl dX2_takeLast_28 rfl ?_
  refine g_aload_n hX dX2_takeLast_31 1 rfl ?_
  refine g_aload_n hX dX2_takeLast_32 0 rfl ?_
  refine g_get hX (v := .ref (h 1)) 0 inRX2 rfl rfl 0 rfl fl9 rfl rfl dX2_takeLast_33 ?_
  refine g_aload_n hX dX2_takeLast_36 0 rfl ?_
  refine g_get hX (v := .int (nI 2)) 0 inRX2 rfl rfl 1 rfl fl16 rfl rfl dX2_takeLast_37 ?_
  refine g_aald hX (.ref ((q 2) 0)) 1 4 rfl rfl (vp_in_nI (by decide) (by decide)) (by rw [nI_clamp (by decide)]; rfl) dX2_takeLast_40 ?_
  have hc41 : CUT (([(h 0, .inr (2, [.ref (h 1), .int (nI 2)]))] ++ ([(h 1, .inl (E.2.1 4, 8, .inr (.inr (.inr (.inr (fun j => ([(q 0) 0, (q 1) 0, (q 2) 0, (q 3) 0, (q 4) 0, (q 5) 0, (q 6) 0, (q 7) 0] : List Nat)[j]?))))))] ++ (fw E (q 0) (Q 0) ++ (fw E (q 1) (Q 1) ++ (fw E (q 2) (Q 2) ++ (fw E (q 3) (Q 3) ++ (fw E (q 4) (Q 4) ++ (fw E (q 5) (Q 5) ++ (fw E (q 6) (Q 6) ++ (fw E (q 7) (Q 7) ++ (fw E d C)))))))))))) ((fw E d C) ++ (fw E (q 2) (Q 2))) (([(h 0, .inr (2, [.ref (h 1), .int (nI 2)]))] ++ ([(h 1, .inl (E.2.1 4, 8, .inr (.inr (.inr (.inr (fun j => ([(q 0) 0, (q 1) 0, (q 2) 0, (q 3) 0, (q 4) 0, (q 5) 0, (q 6) 0, (q 7) 0] : List Nat)[j]?))))))] ++ (fw E (q 0) (Q 0) ++ (fw E (q 1) (Q 1) ++ (fw E (q 3) (Q 3) ++ (fw E (q 4) (Q 4) ++ (fw E (q 5) (Q 5) ++ (fw E (q 6) (Q 6) ++ (fw E (q 7) (Q 7))))))))))) [58, 59, 60, 61, 62, 63, 64, 16, 17, 18, 19, 20, 21, 22] [0, 1, 2, 3, 4, 5, 6, 7, 8, 9, 10, 11, 12, 13, 14, 15, 23, 24, 25, 26, 27, 28, 29, 30, 31, 32, 33, 34, 35, 36, 37, 38, 39, 40, 41, 42, 43, 44, 45, 46, 47, 48, 49, 50, 51, 52, 53, 54, 55, 56, 57] := ⟨rfl, rfl, rfl, rfl, rfl⟩
  refine g_VV hX hc41 [.ref ((q 2) 0)] [] (c_X0_copy l E d C (q 2) (Q 2)) gX2_takeLast_X0_copy calX0_copy rfl rfl rfl rfl 58 rfl rfl rfl rfl dX2_takeLast_41 rfl ⟨Nat.zero_le _, Nat.zero_le _⟩ (fun _ => ([(h 0, .inr (2, [.ref (h 1), .int (nI 2)]))] ++ ([(h 1, .inl (E.2.1 4, 8, .inr (.inr (.inr (.inr (fun j => ([(q 0) 0, (q 1) 0, (q 2) 0, (q 3) 0, (q 4) 0, (q 5) 0, (q 6) 0, (q 7) 0] : List Nat)[j]?))))))] ++ (fw E (q 0) (Q 0) ++ (fw E (q 1) (Q 1) ++ (fw E (q 2) (Q 2) ++ (fw E (q 3) (Q 3) ++ (fw E (q 4) (Q 4) ++ (fw E (q 5) (Q 5) ++ (fw E (q 6) (Q 6) ++ (fw E (q 7) (Q 7) ++ (fw E d (Q 2))))))))))))) [0, 1, 2, 3, 4, 5, 6, 7, 8, 9, 10, 11, 12, 13, 14, 15, 58, 59, 60, 61, 62, 63, 64, 16, 17, 18, 19, 20, 21, 22, 23, 24, 25, 26, 27, 28, 29, 30, 31, 32, 33, 34, 35, 36, 37, 38, 39, 40, 41, 42, 43, 44, 45, 46, 47, 48, 49, 50, 51, 52, 53, 54, 55, 56, 57] rfl (fun _ => rfl) (fun _ hu41 => ?_)
  refine g_iconst hX (nI 1) dX2_takeLast_44 rfl ?_
  exact g_eq (show (([(h 0, .inr (2, [.ref (h 1), .int (nI 2)]))] ++ ([(h 1, .inl (E.2.1 4, 8, .inr (.inr (.inr (.inr (fun j => ([(q 0) 0, (q 1) 0, (q 2) 0, (q 3) 0, (q 4) 0, (q 5) 0, (q 6) 0, (q 7) 0] : List Nat)[j]?))))))] ++ (fw E (q 0) (Q 0) ++ (fw E (q 1) (Q 1) ++ (fw E (q 2) (Q 2) ++ (fw E (q 3) (Q 3) ++ (fw E (q 4) (Q 4) ++ (fw E (q 5) (Q 5) ++ (fw E (q 6) (Q 6) ++ (fw E (q 7) (Q 7) ++ (fw E d (Q 2)))))))))))) : va_W) = pw8 E h (mkPV 2 q Q) ++ fw E d (Q 2) from rfl) rfl rfl (hret () _ _ trivial dX2_takeLast_45)
set_option maxHeartbeats 4000000 in
set_option maxRecDepth 100000 in
theorem c_X2_takeLast8_4 (l : Launch) (E : EV) (h : Nat → Nat) (q : Nat → Nat → Nat) (Q : Nat → FC) (d : Nat → Nat) (C : FC)  : KI l yX2_takeLast wsX2_takeLast (rmA 1 0 0) E (σ := Unit) [.ref (h 0), .ref (d 0)] (([(h 0, .inr (2, [.ref (h 1), .int (nI 4)]))] ++ ([(h 1, .inl (E.2.1 4, 8, .inr (.inr (.inr (.inr (fun j => ([(q 0) 0, (q 1) 0, (q 2) 0, (q 3) 0, (q 4) 0, (q 5) 0, (q 6) 0, (q 7) 0] : List Nat)[j]?))))))] ++ (fw E (q 0) (Q 0) ++ (fw E (q 1) (Q 1) ++ (fw E (q 2) (Q 2) ++ (fw E (q 3) (Q 3) ++ (fw E (q 4) (Q 4) ++ (fw E (q 5) (Q 5) ++ (fw E (q 6) (Q 6) ++ (fw E (q 7) (Q 7) ++ (fw E d C)))))))))))) (fun _ => True) (fun _ => bI true) (fun _ => pw8 E h (mkPV 3 q Q) ++ fw E d (Q 3)) 0 0 := by
  refine KI.of (cc := cX2_takeLast) (maxL := 2) (ty := .boolean) (hnar := fun _ _ => nar_b _) rfl rfl rfl (fun x hX hin hret hnL => ?_)
  replace hX : CX x l cX2_takeLast RX2 wsX2_takeLast E (rmA 1 0 0) := hX
  show GG x 0 0 (([(h 0, .inr (2, [.ref (h 1), .int (nI 4)]))] ++ ([(h 1, .inl (E.2.1 4, 8, .inr (.inr (.inr (.inr (fun j => ([(q 0) 0, (q 1) 0, (q 2) 0, (q 3) 0, (q 4) 0, (q 5) 0, (q 6) 0, (q 7) 0] : List Nat)[j]?))))))] ++ (fw E (q 0) (Q 0) ++ (fw E (q 1) (Q 1) ++ (fw E (q 2) (Q 2) ++ (fw E (q 3) (Q 3) ++ (fw E (q 4) (Q 4) ++ (fw E (q 5) (Q 5) ++ (fw E (q 6) (Q 6) ++ (fw E (q 7) (Q 7) ++ (fw E d C)))))))))))) 0 [(0, .ref (h 0)), (1, .ref (d 0))] []
  have inRX2 : ∀ w ∈ wsX20, w ∈ wsX2_takeLast := by decide +kernel
  have fl16 : Cond.fieldLink RX2 16 "LieForce$Pile" "size" "I" ∈ wsX2_takeLast := by decide +kernel
  have fl9 : Cond.fieldLink RX2 9 "LieForce$Pile" "stood" "[LLieForce$Force;" ∈ wsX2_takeLast := by decide +kernel
  refine g_aload_n hX dX2_takeLast_0 0 rfl ?_
  refine g_get hX (v := .int (nI 4)) 0 inRX2 rfl rfl 1 rfl fl16 rfl rfl dX2_takeLast_1 ?_
  refine g_if_le hX 19 dX2_takeLast_4 (by decide) (fun c4 => by first | exact absurd c4 (by decide) | exact absurd (by decide) c4) (fun _ => ?_)
  refine g_aload_n hX dX2_takeLast_7 0 rfl ?_
  refine g_get hX (v := .int (nI 4)) 0 inRX2 rfl rfl 1 rfl fl16 rfl rfl dX2_takeLast_8 ?_
  refine g_aload_n hX dX2_takeLast_11 0 rfl ?_
  refine g_get hX (v := .ref (h 1)) 0 inRX2 rfl rfl 0 rfl fl9 rfl rfl dX2_takeLast_12 ?_
  refine g_alen hX (nI 8) 1 4 rfl rfl rfl dX2_takeLast_15 ?_
  refine g_icmp_le hX 21 dX2_takeLast_16 (by decide) (fun _ => ?_) (fun c16 => by first | exact absurd c16 (by decide) | exact absurd (by decide) c16)
  refine g_aload_n hX dX2_takeLast_21 0 rfl ?_
  refine g_dup hX dX2_takeLast_22 rfl ?_
  refine g_get hX (v := .int (nI 4)) 0 inRX2 rfl rfl 1 rfl fl16 rfl rfl dX2_takeLast_23 ?_
  refine g_iconst hX (nI 1) dX2_takeLast_26 rfl ?_
  refine g_isub hX (nI (4 - 1)) dX2_takeLast_27 (pk_sub (by omega)) ?_
  refine g_put hX (([(h 0, .inr (2, [.ref (h 1), .int (nI 3)]))] ++ ([(h 1, .inl (E.2.1 4, 8, .inr (.inr (.inr (.inr (fun j => ([(q 0) 0, (q 1) 0, (q 2) 0, (q 3) 0, (q 4) 0, (q 5) 0, (q 6) 0, (q 7) 0] : List Nat)[j]?))))))] ++ (fw E (q 0) (Q 0) ++ (fw E (q 1) (Q 1) ++ (fw E (q 2) (Q 2) ++ (fw E (q 3) (Q 3) ++ (fw E (q 4) (Q 4) ++ (fw E (q 5) (Q 5) ++ (fw E (q 6) (Q 6) ++ (fw E (q 7) (Q 7) ++ (fw E d C)))))))))))) 0 inRX2 tyX2_ok nmX2 rfl rfl 1 rfl fl16 rfl rfl rfl rfl rfl dX2_takeLast_28 rfl ?_
  refine g_aload_n hX dX2_takeLast_31 1 rfl ?_
  refine g_aload_n hX dX2_takeLast_32 0 rfl ?_
  refine g_get hX (v := .ref (h 1)) 0 inRX2 rfl rfl 0 rfl fl9 rfl rfl dX2_takeLast_33 ?_
  refine g_aload_n hX dX2_takeLast_36 0 rfl ?_
  refine g_get hX (v := .int (nI 3)) 0 inRX2 rfl rfl 1 rfl fl16 rfl rfl dX2_takeLast_37 ?_
  refine g_aald hX (.ref ((q 3) 0)) 1 4 rfl rfl (vp_in_nI (by decide) (by decide)) (by rw [nI_clamp (by decide)]; rfl) dX2_takeLast_40 ?_
  have hc41 : CUT (([(h 0, .inr (2, [.ref (h 1), .int (nI 3)]))] ++ ([(h 1, .inl (E.2.1 4, 8, .inr (.inr (.inr (.inr (fun j => ([(q 0) 0, (q 1) 0, (q 2) 0, (q 3) 0, (q 4) 0, (q 5) 0, (q 6) 0, (q 7) 0] : List Nat)[j]?))))))] ++ (fw E (q 0) (Q 0) ++ (fw E (q 1) (Q 1) ++ (fw E (q 2) (Q 2) ++ (fw E (q 3) (Q 3) ++ (fw E (q 4) (Q 4) ++ (fw E (q 5) (Q 5) ++ (fw E (q 6) (Q 6) ++ (fw E (q 7) (Q 7) ++ (fw E d C)))))))))))) ((fw E d C) ++ (fw E (q 3) (Q 3))) (([(h 0, .inr (2, [.ref (h 1), .int (nI 3)]))] ++ ([(h 1, .inl (E.2.1 4, 8, .inr (.inr (.inr (.inr (fun j => ([(q 0) 0, (q 1) 0, (q 2) 0, (q 3) 0, (q 4) 0, (q 5) 0, (q 6) 0, (q 7) 0] : List Nat)[j]?))))))] ++ (fw E (q 0) (Q 0) ++ (fw E (q 1) (Q 1) ++ (fw E (q 2) (Q 2) ++ (fw E (q 4) (Q 4) ++ (fw E (q 5) (Q 5) ++ (fw E (q 6) (Q 6) ++ (fw E (q 7) (Q 7))))))))))) [58, 59, 60, 61, 62, 63, 64, 23, 24, 25, 26, 27, 28, 29] [0, 1, 2, 3, 4, 5, 6, 7, 8, 9, 10, 11, 12, 13, 14, 15, 16, 17, 18, 19, 20, 21, 22, 30, 31, 32, 33, 34, 35, 36, 37, 38, 39, 40, 41, 42, 43, 44, 45, 46, 47, 48, 49, 50, 51, 52, 53, 54, 55, 56, 57] := ⟨rfl, rfl, rfl, rfl, rfl⟩
  refine g_VV hX hc41 [.ref ((q 3) 0)] [] (c_X0_copy l E d C (q 3) (Q 3)) gX2_takeLast_X0_copy calX0_copy rfl rfl rfl rfl 58 rfl rfl rfl rfl dX2_takeLast_41 rfl ⟨Nat.zero_le _, Nat.zero_le _⟩ (fun _ => ([(h 0, .inr (2, [.ref (h 1), .int (nI 3)]))] ++ ([(h 1, .inl (E.2.1 4, 8, .inr (.inr (.inr (.inr (fun j => ([(q 0) 0, (q 1) 0, (q 2) 0, (q 3) 0, (q 4) 0, (q 5) 0, (q 6) 0, (q 7) 0] : List Nat)[j]?))))))] ++ (fw E (q 0) (Q 0) ++ (fw E (q 1) (Q 1) ++ (fw E (q 2) (Q 2) ++ (fw E (q 3) (Q 3) ++ (fw E (q 4) (Q 4) ++ (fw E (q 5) (Q 5) ++ (fw E (q 6) (Q 6) ++ (fw E (q 7) (Q 7) ++ (fw E d (Q 3))))))))))))) [0, 1, 2, 3, 4, 5, 6, 7, 8, 9, 10, 11, 12, 13, 14, 15, 16, 17, 18, 19, 20, 21, 22, 58, 59, 60, 61, 62, 63, 64, 23, 24, 25, 26, 27, 28, 29, 30, 31, 32, 33, 34, 35, 36, 37, 38, 39, 40, 41, 42, 43, 44, 45, 46, 47, 48, 49, 50, 51, 52, 53, 54, 55, 56, 57] rfl (fun _ => rfl) (fun _ hu41 => ?_)
  refine g_iconst hX (nI 1) dX2_takeLast_44 rfl ?_
  exact g_eq (show (([(h 0, .inr (2, [.ref (h 1), .int (nI 3)]))] ++ ([(h 1, .inl (E.2.1 4, 8, .inr (.inr (.inr (.inr (fun j => ([(q 0) 0, (q 1) 0, (q 2) 0, (q 3) 0, (q 4) 0, (q 5) 0, (q 6) 0, (q 7) 0] : List Nat)[j]?))))))] ++ (fw E (q 0) (Q 0) ++ (fw E (q 1) (Q 1) ++ (fw E (q 2) (Q 2) ++ (fw E (q 3) (Q 3) ++ (fw E (q 4) (Q 4) ++ (fw E (q 5) (Q 5) ++ (fw E (q 6) (Q 6) ++ (fw E (q 7) (Q 7) ++ (fw E d (Q 3)))))))))))) : va_W) = pw8 E h (mkPV 3 q Q) ++ fw E d (Q 3) from rfl) rfl rfl (hret () _ _ trivial dX2_takeLast_45)
set_option maxHeartbeats 4000000 in
set_option maxRecDepth 100000 in
theorem c_X2_takeLast8_5 (l : Launch) (E : EV) (h : Nat → Nat) (q : Nat → Nat → Nat) (Q : Nat → FC) (d : Nat → Nat) (C : FC)  : KI l yX2_takeLast wsX2_takeLast (rmA 1 0 0) E (σ := Unit) [.ref (h 0), .ref (d 0)] (([(h 0, .inr (2, [.ref (h 1), .int (nI 5)]))] ++ ([(h 1, .inl (E.2.1 4, 8, .inr (.inr (.inr (.inr (fun j => ([(q 0) 0, (q 1) 0, (q 2) 0, (q 3) 0, (q 4) 0, (q 5) 0, (q 6) 0, (q 7) 0] : List Nat)[j]?))))))] ++ (fw E (q 0) (Q 0) ++ (fw E (q 1) (Q 1) ++ (fw E (q 2) (Q 2) ++ (fw E (q 3) (Q 3) ++ (fw E (q 4) (Q 4) ++ (fw E (q 5) (Q 5) ++ (fw E (q 6) (Q 6) ++ (fw E (q 7) (Q 7) ++ (fw E d C)))))))))))) (fun _ => True) (fun _ => bI true) (fun _ => pw8 E h (mkPV 4 q Q) ++ fw E d (Q 4)) 0 0 := by
  refine KI.of (cc := cX2_takeLast) (maxL := 2) (ty := .boolean) (hnar := fun _ _ => nar_b _) rfl rfl rfl (fun x hX hin hret hnL => ?_)
  replace hX : CX x l cX2_takeLast RX2 wsX2_takeLast E (rmA 1 0 0) := hX
  show GG x 0 0 (([(h 0, .inr (2, [.ref (h 1), .int (nI 5)]))] ++ ([(h 1, .inl (E.2.1 4, 8, .inr (.inr (.inr (.inr (fun j => ([(q 0) 0, (q 1) 0, (q 2) 0, (q 3) 0, (q 4) 0, (q 5) 0, (q 6) 0, (q 7) 0] : List Nat)[j]?))))))] ++ (fw E (q 0) (Q 0) ++ (fw E (q 1) (Q 1) ++ (fw E (q 2) (Q 2) ++ (fw E (q 3) (Q 3) ++ (fw E (q 4) (Q 4) ++ (fw E (q 5) (Q 5) ++ (fw E (q 6) (Q 6) ++ (fw E (q 7) (Q 7) ++ (fw E d C)))))))))))) 0 [(0, .ref (h 0)), (1, .ref (d 0))] []
  have inRX2 : ∀ w ∈ wsX20, w ∈ wsX2_takeLast := by decide +kernel
  have fl16 : Cond.fieldLink RX2 16 "LieForce$Pile" "size" "I" ∈ wsX2_takeLast := by decide +kernel
  have fl9 : Cond.fieldLink RX2 9 "LieForce$Pile" "stood" "[LLieForce$Force;" ∈ wsX2_takeLast := by decide +kernel
  refine g_aload_n hX dX2_takeLast_0 0 rfl ?_
  refine g_get hX (v := .int (nI 5)) 0 inRX2 rfl rfl 1 rfl fl16 rfl rfl dX2_takeLast_1 ?_
  refine g_if_le hX 19 dX2_takeLast_4 (by decide) (fun c4 => by first | exact absurd c4 (by decide) | exact absurd (by decide) c4) (fun _ => ?_)
  refine g_aload_n hX dX2_takeLast_7 0 rfl ?_
  refine g_get hX (v := .int (nI 5)) 0 inRX2 rfl rfl 1 rfl fl16 rfl rfl dX2_takeLast_8 ?_
  refine g_aload_n hX dX2_takeLast_11 0 rfl ?_
  refine g_get hX (v := .ref (h 1)) 0 inRX2 rfl rfl 0 rfl fl9 rfl rfl dX2_takeLast_12 ?_
  refine g_alen hX (nI 8) 1 4 rfl rfl rfl dX2_takeLast_15 ?_
  refine g_icmp_le hX 21 dX2_takeLast_16 (by decide) (fun _ => ?_) (fun c16 => by first | exact absurd c16 (by decide) | exact absurd (by decide) c16)
  refine g_aload_n hX dX2_takeLast_21 0 rfl ?_
  refine g_dup hX dX2_takeLast_22 rfl ?_
  refine g_get hX (v := .int (nI 5)) 0 inRX2 rfl rfl 1 rfl fl16 rfl rfl dX2_takeLast_23 ?_
  refine g_iconst hX (nI 1) dX2_takeLast_26 rfl ?_
  refine g_isub hX (nI (5 - 1)) dX2_takeLast_27 (pk_sub (by omega)) ?_
  refine g_put hX (([(h 0, .inr (2, [.ref (h 1), .int (nI 4)]))] ++ ([(h 1, .inl (E.2.1 4, 8, .inr (.inr (.inr (.inr (fun j => ([(q 0) 0, (q 1) 0, (q 2) 0, (q 3) 0, (q 4) 0, (q 5) 0, (q 6) 0, (q 7) 0] : List Nat)[j]?))))))] ++ (fw E (q 0) (Q 0) ++ (fw E (q 1) (Q 1) ++ (fw E (q 2) (Q 2) ++ (fw E (q 3) (Q 3) ++ (fw E (q 4) (Q 4) ++ (fw E (q 5) (Q 5) ++ (fw E (q 6) (Q 6) ++ (fw E (q 7) (Q 7) ++ (fw E d C)))))))))))) 0 inRX2 tyX2_ok nmX2 rfl rfl 1 rfl fl16 rfl rfl rfl rfl rfl dX2_takeLast_28 rfl ?_
  refine g_aload_n hX dX2_takeLast_31 1 rfl ?_
  refine g_aload_n hX dX2_takeLast_32 0 rfl ?_
  refine g_get hX (v := .ref (h 1)) 0 inRX2 rfl rfl 0 rfl fl9 rfl rfl dX2_takeLast_33 ?_
  refine g_aload_n hX dX2_takeLast_36 0 rfl ?_
  refine g_get hX (v := .int (nI 4)) 0 inRX2 rfl rfl 1 rfl fl16 rfl rfl dX2_takeLast_37 ?_
  refine g_aald hX (.ref ((q 4) 0)) 1 4 rfl rfl (vp_in_nI (by decide) (by decide)) (by rw [nI_clamp (by decide)]; rfl) dX2_takeLast_40 ?_
  have hc41 : CUT (([(h 0, .inr (2, [.ref (h 1), .int (nI 4)]))] ++ ([(h 1, .inl (E.2.1 4, 8, .inr (.inr (.inr (.inr (fun j => ([(q 0) 0, (q 1) 0, (q 2) 0, (q 3) 0, (q 4) 0, (q 5) 0, (q 6) 0, (q 7) 0] : List Nat)[j]?))))))] ++ (fw E (q 0) (Q 0) ++ (fw E (q 1) (Q 1) ++ (fw E (q 2) (Q 2) ++ (fw E (q 3) (Q 3) ++ (fw E (q 4) (Q 4) ++ (fw E (q 5) (Q 5) ++ (fw E (q 6) (Q 6) ++ (fw E (q 7) (Q 7) ++ (fw E d C)))))))))))) ((fw E d C) ++ (fw E (q 4) (Q 4))) (([(h 0, .inr (2, [.ref (h 1), .int (nI 4)]))] ++ ([(h 1, .inl (E.2.1 4, 8, .inr (.inr (.inr (.inr (fun j => ([(q 0) 0, (q 1) 0, (q 2) 0, (q 3) 0, (q 4) 0, (q 5) 0, (q 6) 0, (q 7) 0] : List Nat)[j]?))))))] ++ (fw E (q 0) (Q 0) ++ (fw E (q 1) (Q 1) ++ (fw E (q 2) (Q 2) ++ (fw E (q 3) (Q 3) ++ (fw E (q 5) (Q 5) ++ (fw E (q 6) (Q 6) ++ (fw E (q 7) (Q 7))))))))))) [58, 59, 60, 61, 62, 63, 64, 30, 31, 32, 33, 34, 35, 36] [0, 1, 2, 3, 4, 5, 6, 7, 8, 9, 10, 11, 12, 13, 14, 15, 16, 17, 18, 19, 20, 21, 22, 23, 24, 25, 26, 27, 28, 29, 37, 38, 39, 40, 41, 42, 43, 44, 45, 46, 47, 48, 49, 50, 51, 52, 53, 54, 55, 56, 57] := ⟨rfl, rfl, rfl, rfl, rfl⟩
  refine g_VV hX hc41 [.ref ((q 4) 0)] [] (c_X0_copy l E d C (q 4) (Q 4)) gX2_takeLast_X0_copy calX0_copy rfl rfl rfl rfl 58 rfl rfl rfl rfl dX2_takeLast_41 rfl ⟨Nat.zero_le _, Nat.zero_le _⟩ (fun _ => ([(h 0, .inr (2, [.ref (h 1), .int (nI 4)]))] ++ ([(h 1, .inl (E.2.1 4, 8, .inr (.inr (.inr (.inr (fun j => ([(q 0) 0, (q 1) 0, (q 2) 0, (q 3) 0, (q 4) 0, (q 5) 0, (q 6) 0, (q 7) 0] : List Nat)[j]?))))))] ++ (fw E (q 0) (Q 0) ++ (fw E (q 1) (Q 1) ++ (fw E (q 2) (Q 2) ++ (fw E (q 3) (Q 3) ++ (fw E (q 4) (Q 4) ++ (fw E (q 5) (Q 5) ++ (fw E (q 6) (Q 6) ++ (fw E (q 7) (Q 7) ++ (fw E d (Q 4))))))))))))) [0, 1, 2, 3, 4, 5, 6, 7, 8, 9, 10, 11, 12, 13, 14, 15, 16, 17, 18, 19, 20, 21, 22, 23, 24, 25, 26, 27, 28, 29, 58, 59, 60, 61, 62, 63, 64, 30, 31, 32, 33, 34, 35, 36, 37, 38, 39, 40, 41, 42, 43, 44, 45, 46, 47, 48, 49, 50, 51, 52, 53, 54, 55, 56, 57] rfl (fun _ => rfl) (fun _ hu41 => ?_)
  refine g_iconst hX (nI 1) dX2_takeLast_44 rfl ?_
  exact g_eq (show (([(h 0, .inr (2, [.ref (h 1), .int (nI 4)]))] ++ ([(h 1, .inl (E.2.1 4, 8, .inr (.inr (.inr (.inr (fun j => ([(q 0) 0, (q 1) 0, (q 2) 0, (q 3) 0, (q 4) 0, (q 5) 0, (q 6) 0, (q 7) 0] : List Nat)[j]?))))))] ++ (fw E (q 0) (Q 0) ++ (fw E (q 1) (Q 1) ++ (fw E (q 2) (Q 2) ++ (fw E (q 3) (Q 3) ++ (fw E (q 4) (Q 4) ++ (fw E (q 5) (Q 5) ++ (fw E (q 6) (Q 6) ++ (fw E (q 7) (Q 7) ++ (fw E d (Q 4)))))))))))) : va_W) = pw8 E h (mkPV 4 q Q) ++ fw E d (Q 4) from rfl) rfl rfl (hret () _ _ trivial dX2_takeLast_45)
set_option maxHeartbeats 4000000 in
set_option maxRecDepth 100000 in
theorem c_X2_takeLast8_6 (l : Launch) (E : EV) (h : Nat → Nat) (q : Nat → Nat → Nat) (Q : Nat → FC) (d : Nat → Nat) (C : FC)  : KI l yX2_takeLast wsX2_takeLast (rmA 1 0 0) E (σ := Unit) [.ref (h 0), .ref (d 0)] (([(h 0, .inr (2, [.ref (h 1), .int (nI 6)]))] ++ ([(h 1, .inl (E.2.1 4, 8, .inr (.inr (.inr (.inr (fun j => ([(q 0) 0, (q 1) 0, (q 2) 0, (q 3) 0, (q 4) 0, (q 5) 0, (q 6) 0, (q 7) 0] : List Nat)[j]?))))))] ++ (fw E (q 0) (Q 0) ++ (fw E (q 1) (Q 1) ++ (fw E (q 2) (Q 2) ++ (fw E (q 3) (Q 3) ++ (fw E (q 4) (Q 4) ++ (fw E (q 5) (Q 5) ++ (fw E (q 6) (Q 6) ++ (fw E (q 7) (Q 7) ++ (fw E d C)))))))))))) (fun _ => True) (fun _ => bI true) (fun _ => pw8 E h (mkPV 5 q Q) ++ fw E d (Q 5)) 0 0 := by
  refine KI.of (cc := cX2_takeLast) (maxL := 2) (ty := .boolean) (hnar := fun _ _ => nar_b _) rfl rfl rfl (fun x hX hin hret hnL => ?_)
  replace hX : CX x l cX2_takeLast RX2 wsX2_takeLast E (rmA 1 0 0) := hX
  show GG x 0 0 (([(h 0, .inr (2, [.ref (h 1), .int (nI 6)]))] ++ ([(h 1, .inl (E.2.1 4, 8, .inr (.inr (.inr (.inr (fun j => ([(q 0) 0, (q 1) 0, (q 2) 0, (q 3) 0, (q 4) 0, (q 5) 0, (q 6) 0, (q 7) 0] : List Nat)[j]?))))))] ++ (fw E (q 0) (Q 0) ++ (fw E (q 1) (Q 1) ++ (fw E (q 2) (Q 2) ++ (fw E (q 3) (Q 3) ++ (fw E (q 4) (Q 4) ++ (fw E (q 5) (Q 5) ++ (fw E (q 6) (Q 6) ++ (fw E (q 7) (Q 7) ++ (fw E d C)))))))))))) 0 [(0, .ref (h 0)), (1, .ref (d 0))] []
  have inRX2 : ∀ w ∈ wsX20, w ∈ wsX2_takeLast := by decide +kernel
  have fl16 : Cond.fieldLink RX2 16 "LieForce$Pile" "size" "I" ∈ wsX2_takeLast := by decide +kernel
  have fl9 : Cond.fieldLink RX2 9 "LieForce$Pile" "stood" "[LLieForce$Force;" ∈ wsX2_takeLast := by decide +kernel
  refine g_aload_n hX dX2_takeLast_0 0 rfl ?_
  refine g_get hX (v := .int (nI 6)) 0 inRX2 rfl rfl 1 rfl fl16 rfl rfl dX2_takeLast_1 ?_
  refine g_if_le hX 19 dX2_takeLast_4 (by decide) (fun c4 => by first | exact absurd c4 (by decide) | exact absurd (by decide) c4) (fun _ => ?_)
  refine g_aload_n hX dX2_takeLast_7 0 rfl ?_
  refine g_get hX (v := .int (nI 6)) 0 inRX2 rfl rfl 1 rfl fl16 rfl rfl dX2_takeLast_8 ?_
  refine g_aload_n hX dX2_takeLast_11 0 rfl ?_
  refine g_get hX (v := .ref (h 1)) 0 inRX2 rfl rfl 0 rfl fl9 rfl rfl dX2_takeLast_12 ?_
  refine g_alen hX (nI 8) 1 4 rfl rfl rfl dX2_takeLast_15 ?_
  refine g_icmp_le hX 21 dX2_takeLast_16 (by decide) (fun _ => ?_) (fun c16 => by first | exact absurd c16 (by decide) | exact absurd (by decide) c16)
  refine g_aload_n hX dX2_takeLast_21 0 rfl ?_
  refine g_dup hX dX2_takeLast_22 rfl ?_
  refine g_get hX (v := .int (nI 6)) 0 inRX2 rfl rfl 1 rfl fl16 rfl rfl dX2_takeLast_23 ?_
  refine g_iconst hX (nI 1) dX2_takeLast_26 rfl ?_
  refine g_isub hX (nI (6 - 1)) dX2_takeLast_27 (pk_sub (by omega)) ?_
  refine g_put hX (([(h 0, .inr (2, [.ref (h 1), .int (nI 5)]))] ++ ([(h 1, .inl (E.2.1 4, 8, .inr (.inr (.inr (.inr (fun j => ([(q 0) 0, (q 1) 0, (q 2) 0, (q 3) 0, (q 4) 0, (q 5) 0, (q 6) 0, (q 7) 0] : List Nat)[j]?))))))] ++ (fw E (q 0) (Q 0) ++ (fw E (q 1) (Q 1) ++ (fw E (q 2) (Q 2) ++ (fw E (q 3) (Q 3) ++ (fw E (q 4) (Q 4) ++ (fw E (q 5) (Q 5) ++ (fw E (q 6) (Q 6) ++ (fw E (q 7) (Q 7) ++ (fw E d C)))))))))))) 0 inRX2 tyX2_ok nmX2 rfl rfl 1 rfl fl16 rfl rfl rfl rfl rfl dX2_takeLast_28 rfl ?_
  refine g_aload_n hX dX2_takeLast_31 1 rfl ?_
  refine g_aload_n hX dX2_takeLast_32 0 rfl ?_
  refine g_get hX (v := .ref (h 1)) 0 inRX2 rfl rfl 0 rfl fl9 rfl rfl dX2_takeLast_33 ?_
  refine g_aload_n hX dX2_takeLast_36 0 rfl ?_
  refine g_get hX (v := .int (nI 5)) 0 inRX2 rfl rfl 1 rfl fl16 rfl rfl dX2_takeLast_37 ?_
  refine g_aald hX (.ref ((q 5) 0)) 1 4 rfl rfl (vp_in_nI (by decide) (by decide)) (by rw [nI_clamp (by decide)]; rfl) dX2_takeLast_40 ?_
  have hc41 : CUT (([(h 0, .inr (2, [.ref (h 1), .int (nI 5)]))] ++ ([(h 1, .inl (E.2.1 4, 8, .inr (.inr (.inr (.inr (fun j => ([(q 0) 0, (q 1) 0, (q 2) 0, (q 3) 0, (q 4) 0, (q 5) 0, (q 6) 0, (q 7) 0] : List Nat)[j]?))))))] ++ (fw E (q 0) (Q 0) ++ (fw E (q 1) (Q 1) ++ (fw E (q 2) (Q 2) ++ (fw E (q 3) (Q 3) ++ (fw E (q 4) (Q 4) ++ (fw E (q 5) (Q 5) ++ (fw E (q 6) (Q 6) ++ (fw E (q 7) (Q 7) ++ (fw E d C)))))))))))) ((fw E d C) ++ (fw E (q 5) (Q 5))) (([(h 0, .inr (2, [.ref (h 1), .int (nI 5)]))] ++ ([(h 1, .inl (E.2.1 4, 8, .inr (.inr (.inr (.inr (fun j => ([(q 0) 0, (q 1) 0, (q 2) 0, (q 3) 0, (q 4) 0, (q 5) 0, (q 6) 0, (q 7) 0] : List Nat)[j]?))))))] ++ (fw E (q 0) (Q 0) ++ (fw E (q 1) (Q 1) ++ (fw E (q 2) (Q 2) ++ (fw E (q 3) (Q 3) ++ (fw E (q 4) (Q 4) ++ (fw E (q 6) (Q 6) ++ (fw E (q 7) (Q 7))))))))))) [58, 59, 60, 61, 62, 63, 64, 37, 38, 39, 40, 41, 42, 43] [0, 1, 2, 3, 4, 5, 6, 7, 8, 9, 10, 11, 12, 13, 14, 15, 16, 17, 18, 19, 20, 21, 22, 23, 24, 25, 26, 27, 28, 29, 30, 31, 32, 33, 34, 35, 36, 44, 45, 46, 47, 48, 49, 50, 51, 52, 53, 54, 55, 56, 57] := ⟨rfl, rfl, rfl, rfl, rfl⟩
  refine g_VV hX hc41 [.ref ((q 5) 0)] [] (c_X0_copy l E d C (q 5) (Q 5)) gX2_takeLast_X0_copy calX0_copy rfl rfl rfl rfl 58 rfl rfl rfl rfl dX2_takeLast_41 rfl ⟨Nat.zero_le _, Nat.zero_le _⟩ (fun _ => ([(h 0, .inr (2, [.ref (h 1), .int (nI 5)]))] ++ ([(h 1, .inl (E.2.1 4, 8, .inr (.inr (.inr (.inr (fun j => ([(q 0) 0, (q 1) 0, (q 2) 0, (q 3) 0, (q 4) 0, (q 5) 0, (q 6) 0, (q 7) 0] : List Nat)[j]?))))))] ++ (fw E (q 0) (Q 0) ++ (fw E (q 1) (Q 1) ++ (fw E (q 2) (Q 2) ++ (fw E (q 3) (Q 3) ++ (fw E (q 4) (Q 4) ++ (fw E (q 5) (Q 5) ++ (fw E (q 6) (Q 6) ++ (fw E (q 7) (Q 7) ++ (fw E d (Q 5))))))))))))) [0, 1, 2, 3, 4, 5, 6, 7, 8, 9, 10, 11, 12, 13, 14, 15, 16, 17, 18, 19, 20, 21, 22, 23, 24, 25, 26, 27, 28, 29, 30, 31, 32, 33, 34, 35, 36, 58, 59, 60, 61, 62, 63, 64, 37, 38, 39, 40, 41, 42, 43, 44, 45, 46, 47, 48, 49, 50, 51, 52, 53, 54, 55, 56, 57] rfl (fun _ => rfl) (fun _ hu41 => ?_)
  refine g_iconst hX (nI 1) dX2_takeLast_44 rfl ?_
  exact g_eq (show (([(h 0, .inr (2, [.ref (h 1), .int (nI 5)]))] ++ ([(h 1, .inl (E.2.1 4, 8, .inr (.inr (.inr (.inr (fun j => ([(q 0) 0, (q 1) 0, (q 2) 0, (q 3) 0, (q 4) 0, (q 5) 0, (q 6) 0, (q 7) 0] : List Nat)[j]?))))))] ++ (fw E (q 0) (Q 0) ++ (fw E (q 1) (Q 1) ++ (fw E (q 2) (Q 2) ++ (fw E (q 3) (Q 3) ++ (fw E (q 4) (Q 4) ++ (fw E (q 5) (Q 5) ++ (fw E (q 6) (Q 6) ++ (fw E (q 7) (Q 7) ++ (fw E d (Q 5)))))))))))) : va_W) = pw8 E h (mkPV 5 q Q) ++ fw E d (Q 5) from rfl) rfl rfl (hret () _ _ trivial dX2_takeLast_45)
set_option maxHeartbeats 4000000 in
set_option maxRecDepth 100000 in
theorem c_X2_takeLast8_7 (l : Launch) (E : EV) (h : Nat → Nat) (q : Nat → Nat → Nat) (Q : Nat → FC) (d : Nat → Nat) (C : FC)  : KI l yX2_takeLast wsX2_takeLast (rmA 1 0 0) E (σ := Unit) [.ref (h 0), .ref (d 0)] (([(h 0, .inr (2, [.ref (h 1), .int (nI 7)]))] ++ ([(h 1, .inl (E.2.1 4, 8, .inr (.inr (.inr (.inr (fun j => ([(q 0) 0, (q 1) 0, (q 2) 0, (q 3) 0, (q 4) 0, (q 5) 0, (q 6) 0, (q 7) 0] : List Nat)[j]?))))))] ++ (fw E (q 0) (Q 0) ++ (fw E (q 1) (Q 1) ++ (fw E (q 2) (Q 2) ++ (fw E (q 3) (Q 3) ++ (fw E (q 4) (Q 4) ++ (fw E (q 5) (Q 5) ++ (fw E (q 6) (Q 6) ++ (fw E (q 7) (Q 7) ++ (fw E d C)))))))))))) (fun _ => True) (fun _ => bI true) (fun _ => pw8 E h (mkPV 6 q Q) ++ fw E d (Q 6)) 0 0 := by
  refine KI.of (cc := cX2_takeLast) (maxL := 2) (ty := .boolean) (hnar := fun _ _ => nar_b _) rfl rfl rfl (fun x hX hin hret hnL => ?_)
  replace hX : CX x l cX2_takeLast RX2 wsX2_takeLast E (rmA 1 0 0) := hX
  show GG x 0 0 (([(h 0, .inr (2, [.ref (h 1), .int (nI 7)]))] ++ ([(h 1, .inl (E.2.1 4, 8, .inr (.inr (.inr (.inr (fun j => ([(q 0) 0, (q 1) 0, (q 2) 0, (q 3) 0, (q 4) 0, (q 5) 0, (q 6) 0, (q 7) 0] : List Nat)[j]?))))))] ++ (fw E (q 0) (Q 0) ++ (fw E (q 1) (Q 1) ++ (fw E (q 2) (Q 2) ++ (fw E (q 3) (Q 3) ++ (fw E (q 4) (Q 4) ++ (fw E (q 5) (Q 5) ++ (fw E (q 6) (Q 6) ++ (fw E (q 7) (Q 7) ++ (fw E d C)))))))))))) 0 [(0, .ref (h 0)), (1, .ref (d 0))] []
  have inRX2 : ∀ w ∈ wsX20, w ∈ wsX2_takeLast := by decide +kernel
  have fl16 : Cond.fieldLink RX2 16 "LieForce$Pile" "size" "I" ∈ wsX2_takeLast := by decide +kernel
  have fl9 : Cond.fieldLink RX2 9 "LieForce$Pile" "stood" "[LLieForce$Force;" ∈ wsX2_takeLast := by decide +kernel
  refine g_aload_n hX dX2_takeLast_0 0 rfl ?_
  refine g_get hX (v := .int (nI 7)) 0 inRX2 rfl rfl 1 rfl fl16 rfl rfl dX2_takeLast_1 ?_
  refine g_if_le hX 19 dX2_takeLast_4 (by decide) (fun c4 => by first | exact absurd c4 (by decide) | exact absurd (by decide) c4) (fun _ => ?_)
  refine g_aload_n hX dX2_takeLast_7 0 rfl ?_
  refine g_get hX (v := .int (nI 7)) 0 inRX2 rfl rfl 1 rfl fl16 rfl rfl dX2_takeLast_8 ?_
  refine g_aload_n hX dX2_takeLast_11 0 rfl ?_
  refine g_get hX (v := .ref (h 1)) 0 inRX2 rfl rfl 0 rfl fl9 rfl rfl dX2_takeLast_12 ?_
  refine g_alen hX (nI 8) 1 4 rfl rfl rfl dX2_takeLast_15 ?_
  refine g_icmp_le hX 21 dX2_takeLast_16 (by decide) (fun _ => ?_) (fun c16 => by first | exact absurd c16 (by decide) | exact absurd (by decide) c16)
  refine g_aload_n hX dX2_takeLast_21 0 rfl ?_
  refine g_dup hX dX2_takeLast_22 rfl ?_
  refine g_get hX (v := .int (nI 7)) 0 inRX2 rfl rfl 1 rfl fl16 rfl rfl dX2_takeLast_23 ?_
  refine g_iconst hX (nI 1) dX2_takeLast_26 rfl ?_
  refine g_isub hX (nI (7 - 1)) dX2_takeLast_27 (pk_sub (by omega)) ?_
  refine g_put hX (([(h 0, .inr (2, [.ref (h 1), .int (nI 6)]))] ++ ([(h 1, .inl (E.2.1 4, 8, .inr (.inr (.inr (.inr (fun j => ([(q 0) 0, (q 1) 0, (q 2) 0, (q 3) 0, (q 4) 0, (q 5) 0, (q 6) 0, (q 7) 0] : List Nat)[j]?))))))] ++ (fw E (q 0) (Q 0) ++ (fw E (q 1) (Q 1) ++ (fw E (q 2) (Q 2) ++ (fw E (q 3) (Q 3) ++ (fw E (q 4) (Q 4) ++ (fw E (q 5) (Q 5) ++ (fw E (q 6) (Q 6) ++ (fw E (q 7) (Q 7) ++ (fw E d C)))))))))))) 0 inRX2 tyX2_ok nmX2 rfl rfl 1 rfl fl16 rfl rfl rfl rfl rfl dX2_takeLast_28 rfl ?_
  refine g_aload_n hX dX2_takeLast_31 1 rfl ?_
  refine g_aload_n hX dX2_takeLast_32 0 rfl ?_
  refine g_get hX (v := .ref (h 1)) 0 inRX2 rfl rfl 0 rfl fl9 rfl rfl dX2_takeLast_33 ?_
  refine g_aload_n hX dX2_takeLast_36 0 rfl ?_
  refine g_get hX (v := .int (nI 6)) 0 inRX2 rfl rfl 1 rfl fl16 rfl rfl dX2_takeLast_37 ?_
  refine g_aald hX (.ref ((q 6) 0)) 1 4 rfl rfl (vp_in_nI (by decide) (by decide)) (by rw [nI_clamp (by decide)]; rfl) dX2_takeLast_40 ?_
  have hc41 : CUT (([(h 0, .inr (2, [.ref (h 1), .int (nI 6)]))] ++ ([(h 1, .inl (E.2.1 4, 8, .inr (.inr (.inr (.inr (fun j => ([(q 0) 0, (q 1) 0, (q 2) 0, (q 3) 0, (q 4) 0, (q 5) 0, (q 6) 0, (q 7) 0] : List Nat)[j]?))))))] ++ (fw E (q 0) (Q 0) ++ (fw E (q 1) (Q 1) ++ (fw E (q 2) (Q 2) ++ (fw E (q 3) (Q 3) ++ (fw E (q 4) (Q 4) ++ (fw E (q 5) (Q 5) ++ (fw E (q 6) (Q 6) ++ (fw E (q 7) (Q 7) ++ (fw E d C)))))))))))) ((fw E d C) ++ (fw E (q 6) (Q 6))) (([(h 0, .inr (2, [.ref (h 1), .int (nI 6)]))] ++ ([(h 1, .inl (E.2.1 4, 8, .inr (.inr (.inr (.inr (fun j => ([(q 0) 0, (q 1) 0, (q 2) 0, (q 3) 0, (q 4) 0, (q 5) 0, (q 6) 0, (q 7) 0] : List Nat)[j]?))))))] ++ (fw E (q 0) (Q 0) ++ (fw E (q 1) (Q 1) ++ (fw E (q 2) (Q 2) ++ (fw E (q 3) (Q 3) ++ (fw E (q 4) (Q 4) ++ (fw E (q 5) (Q 5) ++ (fw E (q 7) (Q 7))))))))))) [58, 59, 60, 61, 62, 63, 64, 44, 45, 46, 47, 48, 49, 50] [0, 1, 2, 3, 4, 5, 6, 7, 8, 9, 10, 11, 12, 13, 14, 15, 16, 17, 18, 19, 20, 21, 22, 23, 24, 25, 26, 27, 28, 29, 30, 31, 32, 33, 34, 35, 36, 37, 38, 39, 40, 41, 42, 43, 51, 52, 53, 54, 55, 56, 57] := ⟨rfl, rfl, rfl, rfl, rfl⟩
  refine g_VV hX hc41 [.ref ((q 6) 0)] [] (c_X0_copy l E d C (q 6) (Q 6)) gX2_takeLast_X0_copy calX0_copy rfl rfl rfl rfl 58 rfl rfl rfl rfl dX2_takeLast_41 rfl ⟨Nat.zero_le _, Nat.zero_le _⟩ (fun _ => ([(h 0, .inr (2, [.ref (h 1), .int (nI 6)]))] ++ ([(h 1, .inl (E.2.1 4, 8, .inr (.inr (.inr (.inr (fun j => ([(q 0) 0, (q 1) 0, (q 2) 0, (q 3) 0, (q 4) 0, (q 5) 0, (q 6) 0, (q 7) 0] : List Nat)[j]?))))))] ++ (fw E (q 0) (Q 0) ++ (fw E (q 1) (Q 1) ++ (fw E (q 2) (Q 2) ++ (fw E (q 3) (Q 3) ++ (fw E (q 4) (Q 4) ++ (fw E (q 5) (Q 5) ++ (fw E (q 6) (Q 6) ++ (fw E (q 7) (Q 7) ++ (fw E d (Q 6))))))))))))) [0, 1, 2, 3, 4, 5, 6, 7, 8, 9, 10, 11, 12, 13, 14, 15, 16, 17, 18, 19, 20, 21, 22, 23, 24, 25, 26, 27, 28, 29, 30, 31, 32, 33, 34, 35, 36, 37, 38, 39, 40, 41, 42, 43, 58, 59, 60, 61, 62, 63, 64, 44, 45, 46, 47, 48, 49, 50, 51, 52, 53, 54, 55, 56, 57] rfl (fun _ => rfl) (fun _ hu41 => ?_)
  refine g_iconst hX (nI 1) dX2_takeLast_44 rfl ?_
  exact g_eq (show (([(h 0, .inr (2, [.ref (h 1), .int (nI 6)]))] ++ ([(h 1, .inl (E.2.1 4, 8, .inr (.inr (.inr (.inr (fun j => ([(q 0) 0, (q 1) 0, (q 2) 0, (q 3) 0, (q 4) 0, (q 5) 0, (q 6) 0, (q 7) 0] : List Nat)[j]?))))))] ++ (fw E (q 0) (Q 0) ++ (fw E (q 1) (Q 1) ++ (fw E (q 2) (Q 2) ++ (fw E (q 3) (Q 3) ++ (fw E (q 4) (Q 4) ++ (fw E (q 5) (Q 5) ++ (fw E (q 6) (Q 6) ++ (fw E (q 7) (Q 7) ++ (fw E d (Q 6)))))))))))) : va_W) = pw8 E h (mkPV 6 q Q) ++ fw E d (Q 6) from rfl) rfl rfl (hret () _ _ trivial dX2_takeLast_45)
set_option maxHeartbeats 4000000 in
set_option maxRecDepth 100000 in
theorem c_X2_takeLast8_8 (l : Launch) (E : EV) (h : Nat → Nat) (q : Nat → Nat → Nat) (Q : Nat → FC) (d : Nat → Nat) (C : FC)  : KI l yX2_takeLast wsX2_takeLast (rmA 1 0 0) E (σ := Unit) [.ref (h 0), .ref (d 0)] (([(h 0, .inr (2, [.ref (h 1), .int (nI 8)]))] ++ ([(h 1, .inl (E.2.1 4, 8, .inr (.inr (.inr (.inr (fun j => ([(q 0) 0, (q 1) 0, (q 2) 0, (q 3) 0, (q 4) 0, (q 5) 0, (q 6) 0, (q 7) 0] : List Nat)[j]?))))))] ++ (fw E (q 0) (Q 0) ++ (fw E (q 1) (Q 1) ++ (fw E (q 2) (Q 2) ++ (fw E (q 3) (Q 3) ++ (fw E (q 4) (Q 4) ++ (fw E (q 5) (Q 5) ++ (fw E (q 6) (Q 6) ++ (fw E (q 7) (Q 7) ++ (fw E d C)))))))))))) (fun _ => True) (fun _ => bI true) (fun _ => pw8 E h (mkPV 7 q Q) ++ fw E d (Q 7)) 0 0 := by
  refine KI.of (cc := cX2_takeLast) (maxL := 2) (ty := .boolean) (hnar := fun _ _ => nar_b _) rfl rfl rfl (fun x hX hin hret hnL => ?_)
  replace hX : CX x l cX2_takeLast RX2 wsX2_takeLast E (rmA 1 0 0) := hX
  show GG x 0 0 (([(h 0, .inr (2, [.ref (h 1), .int (nI 8)]))] ++ ([(h 1, .inl (E.2.1 4, 8, .inr (.inr (.inr (.inr (fun j => ([(q 0) 0, (q 1) 0, (q 2) 0, (q 3) 0, (q 4) 0, (q 5) 0, (q 6) 0, (q 7) 0] : List Nat)[j]?))))))] ++ (fw E (q 0) (Q 0) ++ (fw E (q 1) (Q 1) ++ (fw E (q 2) (Q 2) ++ (fw E (q 3) (Q 3) ++ (fw E (q 4) (Q 4) ++ (fw E (q 5) (Q 5) ++ (fw E (q 6) (Q 6) ++ (fw E (q 7) (Q 7) ++ (fw E d C)))))))))))) 0 [(0, .ref (h 0)), (1, .ref (d 0))] []
  have inRX2 : ∀ w ∈ wsX20, w ∈ wsX2_takeLast := by decide +kernel
  have fl16 : Cond.fieldLink RX2 16 "LieForce$Pile" "size" "I" ∈ wsX2_takeLast := by decide +kernel
  have fl9 : Cond.fieldLink RX2 9 "LieForce$Pile" "stood" "[LLieForce$Force;" ∈ wsX2_takeLast := by decide +kernel
  refine g_aload_n hX dX2_takeLast_0 0 rfl ?_
  refine g_get hX (v := .int (nI 8)) 0 inRX2 rfl rfl 1 rfl fl16 rfl rfl dX2_takeLast_1 ?_
  refine g_if_le hX 19 dX2_takeLast_4 (by decide) (fun c4 => by first | exact absurd c4 (by decide) | exact absurd (by decide) c4) (fun _ => ?_)
  refine g_aload_n hX dX2_takeLast_7 0 rfl ?_
  refine g_get hX (v := .int (nI 8)) 0 inRX2 rfl rfl 1 rfl fl16 rfl rfl dX2_takeLast_8 ?_
  refine g_aload_n hX dX2_takeLast_11 0 rfl ?_
  refine g_get hX (v := .ref (h 1)) 0 inRX2 rfl rfl 0 rfl fl9 rfl rfl dX2_takeLast_12 ?_
  refine g_alen hX (nI 8) 1 4 rfl rfl rfl dX2_takeLast_15 ?_
  refine g_icmp_le hX 21 dX2_takeLast_16 (by decide) (fun _ => ?_) (fun c16 => by first | exact absurd c16 (by decide) | exact absurd (by decide) c16)
  refine g_aload_n hX dX2_takeLast_21 0 rfl ?_
  refine g_dup hX dX2_takeLast_22 rfl ?_
  refine g_get hX (v := .int (nI 8)) 0 inRX2 rfl rfl 1 rfl fl16 rfl rfl dX2_takeLast_23 ?_
  refine g_iconst hX (nI 1) dX2_takeLast_26 rfl ?_
  refine g_isub hX (nI (8 - 1)) dX2_takeLast_27 (pk_sub (by omega)) ?_
  refine g_put hX (([(h 0, .inr (2, [.ref (h 1), .int (nI 7)]))] ++ ([(h 1, .inl (E.2.1 4, 8, .inr (.inr (.inr (.inr (fun j => ([(q 0) 0, (q 1) 0, (q 2) 0, (q 3) 0, (q 4) 0, (q 5) 0, (q 6) 0, (q 7) 0] : List Nat)[j]?))))))] ++ (fw E (q 0) (Q 0) ++ (fw E (q 1) (Q 1) ++ (fw E (q 2) (Q 2) ++ (fw E (q 3) (Q 3) ++ (fw E (q 4) (Q 4) ++ (fw E (q 5) (Q 5) ++ (fw E (q 6) (Q 6) ++ (fw E (q 7) (Q 7) ++ (fw E d C)))))))))))) 0 inRX2 tyX2_ok nmX2 rfl rfl 1 rfl fl16 rfl rfl rfl rfl rfl dX2_takeLast_28 rfl ?_
  refine g_aload_n hX dX2_takeLast_31 1 rfl ?_
  refine g_aload_n hX dX2_takeLast_32 0 rfl ?_
  refine g_get hX (v := .ref (h 1)) 0 inRX2 rfl rfl 0 rfl fl9 rfl rfl dX2_takeLast_33 ?_
  refine g_aload_n hX dX2_takeLast_36 0 rfl ?_
  refine g_get hX (v := .int (nI 7)) 0 inRX2 rfl rfl 1 rfl fl16 rfl rfl dX2_takeLast_37 ?_
  refine g_aald hX (.ref ((q 7) 0)) 1 4 rfl rfl (vp_in_nI (by decide) (by decide)) (by rw [nI_clamp (by decide)]; rfl) dX2_takeLast_40 ?_
  have hc41 : CUT (([(h 0, .inr (2, [.ref (h 1), .int (nI 7)]))] ++ ([(h 1, .inl (E.2.1 4, 8, .inr (.inr (.inr (.inr (fun j => ([(q 0) 0, (q 1) 0, (q 2) 0, (q 3) 0, (q 4) 0, (q 5) 0, (q 6) 0, (q 7) 0] : List Nat)[j]?))))))] ++ (fw E (q 0) (Q 0) ++ (fw E (q 1) (Q 1) ++ (fw E (q 2) (Q 2) ++ (fw E (q 3) (Q 3) ++ (fw E (q 4) (Q 4) ++ (fw E (q 5) (Q 5) ++ (fw E (q 6) (Q 6) ++ (fw E (q 7) (Q 7) ++ (fw E d C)))))))))))) ((fw E d C) ++ (fw E (q 7) (Q 7))) (([(h 0, .inr (2, [.ref (h 1), .int (nI 7)]))] ++ ([(h 1, .inl (E.2.1 4, 8, .inr (.inr (.inr (.inr (fun j => ([(q 0) 0, (q 1) 0, (q 2) 0, (q 3) 0, (q 4) 0, (q 5) 0, (q 6) 0, (q 7) 0] : List Nat)[j]?))))))] ++ (fw E (q 0) (Q 0) ++ (fw E (q 1) (Q 1) ++ (fw E (q 2) (Q 2) ++ (fw E (q 3) (Q 3) ++ (fw E (q 4) (Q 4) ++ (fw E (q 5) (Q 5) ++ (fw E (q 6) (Q 6))))))))))) [58, 59, 60, 61, 62, 63, 64, 51, 52, 53, 54, 55, 56, 57] [0, 1, 2, 3, 4, 5, 6, 7, 8, 9, 10, 11, 12, 13, 14, 15, 16, 17, 18, 19, 20, 21, 22, 23, 24, 25, 26, 27, 28, 29, 30, 31, 32, 33, 34, 35, 36, 37, 38, 39, 40, 41, 42, 43, 44, 45, 46, 47, 48, 49, 50] := ⟨rfl, rfl, rfl, rfl, rfl⟩
  refine g_VV hX hc41 [.ref ((q 7) 0)] [] (c_X0_copy l E d C (q 7) (Q 7)) gX2_takeLast_X0_copy calX0_copy rfl rfl rfl rfl 58 rfl rfl rfl rfl dX2_takeLast_41 rfl ⟨Nat.zero_le _, Nat.zero_le _⟩ (fun _ => ([(h 0, .inr (2, [.ref (h 1), .int (nI 7)]))] ++ ([(h 1, .inl (E.2.1 4, 8, .inr (.inr (.inr (.inr (fun j => ([(q 0) 0, (q 1) 0, (q 2) 0, (q 3) 0, (q 4) 0, (q 5) 0, (q 6) 0, (q 7) 0] : List Nat)[j]?))))))] ++ (fw E (q 0) (Q 0) ++ (fw E (q 1) (Q 1) ++ (fw E (q 2) (Q 2) ++ (fw E (q 3) (Q 3) ++ (fw E (q 4) (Q 4) ++ (fw E (q 5) (Q 5) ++ (fw E (q 6) (Q 6) ++ (fw E (q 7) (Q 7) ++ (fw E d (Q 7))))))))))))) [0, 1, 2, 3, 4, 5, 6, 7, 8, 9, 10, 11, 12, 13, 14, 15, 16, 17, 18, 19, 20, 21, 22, 23, 24, 25, 26, 27, 28, 29, 30, 31, 32, 33, 34, 35, 36, 37, 38, 39, 40, 41, 42, 43, 44, 45, 46, 47, 48, 49, 50, 58, 59, 60, 61, 62, 63, 64, 51, 52, 53, 54, 55, 56, 57] rfl (fun _ => rfl) (fun _ hu41 => ?_)
  refine g_iconst hX (nI 1) dX2_takeLast_44 rfl ?_
  exact g_eq (show (([(h 0, .inr (2, [.ref (h 1), .int (nI 7)]))] ++ ([(h 1, .inl (E.2.1 4, 8, .inr (.inr (.inr (.inr (fun j => ([(q 0) 0, (q 1) 0, (q 2) 0, (q 3) 0, (q 4) 0, (q 5) 0, (q 6) 0, (q 7) 0] : List Nat)[j]?))))))] ++ (fw E (q 0) (Q 0) ++ (fw E (q 1) (Q 1) ++ (fw E (q 2) (Q 2) ++ (fw E (q 3) (Q 3) ++ (fw E (q 4) (Q 4) ++ (fw E (q 5) (Q 5) ++ (fw E (q 6) (Q 6) ++ (fw E (q 7) (Q 7) ++ (fw E d (Q 7)))))))))))) : va_W) = pw8 E h (mkPV 7 q Q) ++ fw E d (Q 7) from rfl) rfl rfl (hret () _ _ trivial dX2_takeLast_45)
set_option maxHeartbeats 4000000 in
set_option maxRecDepth 100000 in
theorem c_X2_clear2_x (l : Launch) (E : EV) (h : Nat → Nat) (q : Nat → Nat → Nat) (Q : Nat → FC) (z : Nat)  : KV l yX2_clear wsX2_clear (rmA 0 0 0) E (σ := Unit) [.ref (h 0)] (([(h 0, .inr (2, [.ref (h 1), .int (nI z)]))] ++ ([(h 1, .inl (E.2.1 4, 2, .inr (.inr (.inr (.inr (fun j => ([(q 0) 0, (q 1) 0] : List Nat)[j]?))))))] ++ (fw E (q 0) (Q 0) ++ (fw E (q 1) (Q 1)))))) (fun _ => True) (fun _ => pw2 E h (mkPV 0 q Q)) 0 0 := by
  refine KV.of (cc := cX2_clear) (maxL := 1) rfl rfl rfl (fun x hX hin hret hnL => ?_)
  replace hX : CX x l cX2_clear RX2 wsX2_clear E (rmA 0 0 0) := hX
  show GG x 0 0 (([(h 0, .inr (2, [.ref (h 1), .int (nI z)]))] ++ ([(h 1, .inl (E.2.1 4, 2, .inr (.inr (.inr (.inr (fun j => ([(q 0) 0, (q 1) 0] : List Nat)[j]?))))))] ++ (fw E (q 0) (Q 0) ++ (fw E (q 1) (Q 1)))))) 0 [(0, .ref (h 0))] []
  have inRX2 : ∀ w ∈ wsX20, w ∈ wsX2_clear := by decide +kernel
  have fl16 : Cond.fieldLink RX2 16 "LieForce$Pile" "size" "I" ∈ wsX2_clear := by decide +kernel
  refine g_aload_n hX dX2_clear_0 0 rfl ?_
  refine g_iconst hX (nI 0) dX2_clear_1 rfl ?_
  refine g_put hX (([(h 0, .inr (2, [.ref (h 1), .int (nI 0)]))] ++ ([(h 1, .inl (E.2.1 4, 2, .inr (.inr (.inr (.inr (fun j => ([(q 0) 0, (q 1) 0] : List Nat)[j]?))))))] ++ (fw E (q 0) (Q 0) ++ (fw E (q 1) (Q 1)))))) 0 inRX2 tyX2_ok nmX2 rfl rfl 1 rfl fl16 rfl rfl rfl rfl rfl dX2_clear_2 rfl ?_
  exact g_eq (show (([(h 0, .inr (2, [.ref (h 1), .int (nI 0)]))] ++ ([(h 1, .inl (E.2.1 4, 2, .inr (.inr (.inr (.inr (fun j => ([(q 0) 0, (q 1) 0] : List Nat)[j]?))))))] ++ (fw E (q 0) (Q 0) ++ (fw E (q 1) (Q 1))))) : va_W) = pw2 E h (mkPV 0 q Q) from rfl) rfl rfl (hret () _ _ trivial dX2_clear_5)
set_option maxHeartbeats 4000000 in
set_option maxRecDepth 100000 in
theorem c_X2_add2_0 (l : Launch) (E : EV) (h : Nat → Nat) (q : Nat → Nat → Nat) (Q : Nat → FC) (d : Nat → Nat) (C : FC)  : KV l yX2_add wsX2_add (rmA 2 0 0) E (σ := Unit) [.ref (h 0), .ref (d 0)] (([(h 0, .inr (2, [.ref (h 1), .int (nI 0)]))] ++ ([(h 1, .inl (E.2.1 4, 2, .inr (.inr (.inr (.inr (fun j => ([(q 0) 0, (q 1) 0] : List Nat)[j]?))))))] ++ (fw E (q 0) (Q 0) ++ (fw E (q 1) (Q 1) ++ (fw E d C)))))) (fun _ => True) (fun _ => pw2 E h (mkPV 1 q (va_up Q 0 C)) ++ fw E d C) 0 0 := by
  refine KV.of (cc := cX2_add) (maxL := 2) rfl rfl rfl (fun x hX hin hret hnL => ?_)
  replace hX : CX x l cX2_add RX2 wsX2_add E (rmA 2 0 0) := hX
  show GG x 0 0 (([(h 0, .inr (2, [.ref (h 1), .int (nI 0)]))] ++ ([(h 1, .inl (E.2.1 4, 2, .inr (.inr (.inr (.inr (fun j => ([(q 0) 0, (q 1) 0] : List Nat)[j]?))))))] ++ (fw E (q 0) (Q 0) ++ (fw E (q 1) (Q 1) ++ (fw E d C)))))) 0 [(0, .ref (h 0)), (1, .ref (d 0))] []
  have inRX2 : ∀ w ∈ wsX20, w ∈ wsX2_add := by decide +kernel
  have fl16 : Cond.fieldLink RX2 16 "LieForce$Pile" "size" "I" ∈ wsX2_add := by decide +kernel
  have fl9 : Cond.fieldLink RX2 9 "LieForce$Pile" "stood" "[LLieForce$Force;" ∈ wsX2_add := by decide +kernel
  refine g_aload_n hX dX2_add_0 0 rfl ?_
  refine g_get hX (v := .ref (h 1)) 0 inRX2 rfl rfl 0 rfl fl9 rfl rfl dX2_add_1 ?_
  refine g_alen hX (nI 2) 1 4 rfl rfl rfl dX2_add_4 ?_
  refine g_if_ne hX 9 dX2_add_5 (by decide) (fun _ => ?_) (fun c5 => by first | exact absurd c5 (by decide) | exact absurd (by decide) c5)
  refine g_aload_n hX dX2_add_9 0 rfl ?_
  refine g_get hX (v := .int (nI 0)) 0 inRX2 rfl rfl 1 rfl fl16 rfl rfl dX2_add_10 ?_
  refine g_aload_n hX dX2_add_13 0 rfl ?_
  refine g_get hX (v := .ref (h 1)) 0 inRX2 rfl rfl 0 rfl fl9 rfl rfl dX2_add_14 ?_
  refine g_alen hX (nI 2) 1 4 rfl rfl rfl dX2_add_17 ?_
  refine g_icmp_lt hX 25 dX2_add_18 (by decide) (fun _ => ?_) (fun c18 => by first | exact absurd c18 (by decide) | exact absurd (by decide) c18)
  refine g_aload_n hX dX2_add_25 0 rfl ?_
  refine g_get hX (v := .ref (h 1)) 0 inRX2 rfl rfl 0 rfl fl9 rfl rfl dX2_add_26 ?_
  refine g_aload_n hX dX2_add_29 0 rfl ?_
  refine g_get hX (v := .int (nI 0)) 0 inRX2 rfl rfl 1 rfl fl16 rfl rfl dX2_add_30 ?_
  refine g_aald hX (.ref ((q 0) 0)) 1 4 rfl rfl (vp_in_nI (by decide) (by decide)) (by rw [nI_clamp (by decide)]; rfl) dX2_add_33 ?_
  refine g_aload_n hX dX2_add_34 1 rfl ?_
  have hc35 : CUT (([(h 0, .inr (2, [.ref (h 1), .int (nI 0)]))] ++ ([(h 1, .inl (E.2.1 4, 2, .inr (.inr (.inr (.inr (fun j => ([(q 0) 0, (q 1) 0] : List Nat)[j]?))))))] ++ (fw E (q 0) (Q 0) ++ (fw E (q 1) (Q 1) ++ (fw E d C)))))) ((fw E (q 0) (Q 0)) ++ (fw E d C)) (([(h 0, .inr (2, [.ref (h 1), .int (nI 0)]))] ++ ([(h 1, .inl (E.2.1 4, 2, .inr (.inr (.inr (.inr (fun j => ([(q 0) 0, (q 1) 0] : List Nat)[j]?))))))] ++ (fw E (q 1) (Q 1))))) [2, 3, 4, 5, 6, 7, 8, 16, 17, 18, 19, 20, 21, 22] [0, 1, 9, 10, 11, 12, 13, 14, 15] := ⟨rfl, rfl, rfl, rfl, rfl⟩
  refine g_VV hX hc35 [.ref (d 0)] [] (c_X0_copy l E (q 0) (Q 0) d C) gX2_add_X0_copy calX0_copy rfl rfl rfl rfl 2 rfl rfl rfl rfl dX2_add_35 rfl ⟨Nat.zero_le _, Nat.zero_le _⟩ (fun _ => ([(h 0, .inr (2, [.ref (h 1), .int (nI 0)]))] ++ ([(h 1, .inl (E.2.1 4, 2, .inr (.inr (.inr (.inr (fun j => ([(q 0) 0, (q 1) 0] : List Nat)[j]?))))))] ++ (fw E (q 0) C ++ (fw E (q 1) (Q 1) ++ (fw E d C)))))) [0, 1, 9, 10, 11, 12, 13, 14, 15, 2, 3, 4, 5, 6, 7, 8, 16, 17, 18, 19, 20, 21, 22] rfl (fun _ => rfl) (fun _ hu35 => ?_)
  refine g_aload_n hX dX2_add_38 0 rfl ?_
  refine g_dup hX dX2_add_39 rfl ?_
  refine g_get hX (v := .int (nI 0)) 0 inRX2 rfl rfl 1 rfl fl16 rfl rfl dX2_add_40 ?_
  refine g_iconst hX (nI 1) dX2_add_43 rfl ?_
  refine g_iadd hX (nI (0 + 1)) dX2_add_44 (nI_add _ _) ?_
  refine g_put hX (([(h 0, .inr (2, [.ref (h 1), .int (nI 1)]))] ++ ([(h 1, .inl (E.2.1 4, 2, .inr (.inr (.inr (.inr (fun j => ([(q 0) 0, (q 1) 0] : List Nat)[j]?))))))] ++ (fw E (q 0) C ++ (fw E (q 1) (Q 1) ++ (fw E d C)))))) 0 inRX2 tyX2_ok nmX2 rfl rfl 1 rfl fl16 rfl rfl rfl rfl rfl dX2_add_45 rfl ?_
  exact g_eq (show (([(h 0, .inr (2, [.ref (h 1), .int (nI 1)]))] ++ ([(h 1, .inl (E.2.1 4, 2, .inr (.inr (.inr (.inr (fun j => ([(q 0) 0, (q 1) 0] : List Nat)[j]?))))))] ++ (fw E (q 0) C ++ (fw E (q 1) (Q 1) ++ (fw E d C))))) : va_W) = pw2 E h (mkPV 1 q (va_up Q 0 C)) ++ fw E d C from rfl) rfl rfl (hret () _ _ trivial dX2_add_48)
set_option maxHeartbeats 4000000 in
set_option maxRecDepth 100000 in
theorem c_X2_add2_1 (l : Launch) (E : EV) (h : Nat → Nat) (q : Nat → Nat → Nat) (Q : Nat → FC) (d : Nat → Nat) (C : FC)  : KV l yX2_add wsX2_add (rmA 2 0 0) E (σ := Unit) [.ref (h 0), .ref (d 0)] (([(h 0, .inr (2, [.ref (h 1), .int (nI 1)]))] ++ ([(h 1, .inl (E.2.1 4, 2, .inr (.inr (.inr (.inr (fun j => ([(q 0) 0, (q 1) 0] : List Nat)[j]?))))))] ++ (fw E (q 0) (Q 0) ++ (fw E (q 1) (Q 1) ++ (fw E d C)))))) (fun _ => True) (fun _ => pw2 E h (mkPV 2 q (va_up Q 1 C)) ++ fw E d C) 0 0 := by
  refine KV.of (cc := cX2_add) (maxL := 2) rfl rfl rfl (fun x hX hin hret hnL => ?_)
  replace hX : CX x l cX2_add RX2 wsX2_add E (rmA 2 0 0) := hX
  show GG x 0 0 (([(h 0, .inr (2, [.ref (h 1), .int (nI 1)]))] ++ ([(h 1, .inl (E.2.1 4, 2, .inr (.inr (.inr (.inr (fun j => ([(q 0) 0, (q 1) 0] : List Nat)[j]?))))))] ++ (fw E (q 0) (Q 0) ++ (fw E (q 1) (Q 1) ++ (fw E d C)))))) 0 [(0, .ref (h 0)), (1, .ref (d 0))] []
  have inRX2 : ∀ w ∈ wsX20, w ∈ wsX2_add := by decide +kernel
  have fl16 : Cond.fieldLink RX2 16 "LieForce$Pile" "size" "I" ∈ wsX2_add := by decide +kernel
  have fl9 : Cond.fieldLink RX2 9 "LieForce$Pile" "stood" "[LLieForce$Force;" ∈ wsX2_add := by decide +kernel
  refine g_aload_n hX dX2_add_0 0 rfl ?_
  refine g_get hX (v := .ref (h 1)) 0 inRX2 rfl rfl 0 rfl fl9 rfl rfl dX2_add_1 ?_
  refine g_alen hX (nI 2) 1 4 rfl rfl rfl dX2_add_4 ?_
  refine g_if_ne hX 9 dX2_add_5 (by decide) (fun _ => ?_) (fun c5 => by first | exact absurd c5 (by decide) | exact absurd (by decide) c5)
  refine g_aload_n hX dX2_add_9 0 rfl ?_
  refine g_get hX (v := .int (nI 1)) 0 inRX2 rfl rfl 1 rfl fl16 rfl rfl dX2_add_10 ?_
  refine g_aload_n hX dX2_add_13 0 rfl ?_
  refine g_get hX (v := .ref (h 1)) 0 inRX2 rfl rfl 0 rfl fl9 rfl rfl dX2_add_14 ?_
  refine g_alen hX (nI 2) 1 4 rfl rfl rfl dX2_add_17 ?_
  refine g_icmp_lt hX 25 dX2_add_18 (by decide) (fun _ => ?_) (fun c18 => by first | exact absurd c18 (by decide) | exact absurd (by decide) c18)
  refine g_aload_n hX dX2_add_25 0 rfl ?_
  refine g_get hX (v := .ref (h 1)) 0 inRX2 rfl rfl 0 rfl fl9 rfl rfl dX2_add_26 ?_
  refine g_aload_n hX dX2_add_29 0 rfl ?_
  refine g_get hX (v := .int (nI 1)) 0 inRX2 rfl rfl 1 rfl fl16 rfl rfl dX2_add_30 ?_
  refine g_aald hX (.ref ((q 1) 0)) 1 4 rfl rfl (vp_in_nI (by decide) (by decide)) (by rw [nI_clamp (by decide)]; rfl) dX2_add_33 ?_
  refine g_aload_n hX dX2_add_34 1 rfl ?_
  have hc35 : CUT (([(h 0, .inr (2, [.ref (h 1), .int (nI 1)]))] ++ ([(h 1, .inl (E.2.1 4, 2, .inr (.inr (.inr (.inr (fun j => ([(q 0) 0, (q 1) 0] : List Nat)[j]?))))))] ++ (fw E (q 0) (Q 0) ++ (fw E (q 1) (Q 1) ++ (fw E d C)))))) ((fw E (q 1) (Q 1)) ++ (fw E d C)) (([(h 0, .inr (2, [.ref (h 1), .int (nI 1)]))] ++ ([(h 1, .inl (E.2.1 4, 2, .inr (.inr (.inr (.inr (fun j => ([(q 0) 0, (q 1) 0] : List Nat)[j]?))))))] ++ (fw E (q 0) (Q 0))))) [9, 10, 11, 12, 13, 14, 15, 16, 17, 18, 19, 20, 21, 22] [0, 1, 2, 3, 4, 5, 6, 7, 8] := ⟨rfl, rfl, rfl, rfl, rfl⟩
  refine g_VV hX hc35 [.ref (d 0)] [] (c_X0_copy l E (q 1) (Q 1) d C) gX2_add_X0_copy calX0_copy rfl rfl rfl rfl 9 rfl rfl rfl rfl dX2_add_35 rfl ⟨Nat.zero_le _, Nat.zero_le _⟩ (fun _ => ([(h 0, .inr (2, [.ref (h 1), .int (nI 1)]))] ++ ([(h 1, .inl (E.2.1 4, 2, .inr (.inr (.inr (.inr (fun j => ([(q 0) 0, (q 1) 0] : List Nat)[j]?))))))] ++ (fw E (q 0) (Q 0) ++ (fw E (q 1) C ++ (fw E d C)))))) [0, 1, 2, 3, 4, 5, 6, 7, 8, 9, 10, 11, 12, 13, 14, 15, 16, 17, 18, 19, 20, 21, 22] rfl (fun _ => rfl) (fun _ hu35 => ?_)
  refine g_aload_n hX dX2_add_38 0 rfl ?_
  refine g_dup hX dX2_add_39 rfl ?_
  refine g_get hX (v := .int (nI 1)) 0 inRX2 rfl rfl 1 rfl fl16 rfl rfl dX2_add_40 ?_
  refine g_iconst hX (nI 1) dX2_add_43 rfl ?_
  refine g_iadd hX (nI (1 + 1)) dX2_add_44 (nI_add _ _) ?_
  refine g_put hX (([(h 0, .inr (2, [.ref (h 1), .int (nI 2)]))] ++ ([(h 1, .inl (E.2.1 4, 2, .inr (.inr (.inr (.inr (fun j => ([(q 0) 0, (q 1) 0] : List Nat)[j]?))))))] ++ (fw E (q 0) (Q 0) ++ (fw E (q 1) C ++ (fw E d C)))))) 0 inRX2 tyX2_ok nmX2 rfl rfl 1 rfl fl16 rfl rfl rfl rfl rfl dX2_add_45 rfl ?_
  exact g_eq (show (([(h 0, .inr (2, [.ref (h 1), .int (nI 2)]))] ++ ([(h 1, .inl (E.2.1 4, 2, .inr (.inr (.inr (.inr (fun j => ([(q 0) 0, (q 1) 0] : List Nat)[j]?))))))] ++ (fw E (q 0) (Q 0) ++ (fw E (q 1) C ++ (fw E d C))))) : va_W) = pw2 E h (mkPV 2 q (va_up Q 1 C)) ++ fw E d C from rfl) rfl rfl (hret () _ _ trivial dX2_add_48)
set_option maxHeartbeats 4000000 in
set_option maxRecDepth 100000 in
theorem c_X2_takeLast2_0 (l : Launch) (E : EV) (h : Nat → Nat) (q : Nat → Nat → Nat) (Q : Nat → FC) (d : Nat → Nat) (C : FC)  : KI l yX2_takeLast wsX2_takeLast (rmA 1 0 0) E (σ := Unit) [.ref (h 0), .ref (d 0)] (([(h 0, .inr (2, [.ref (h 1), .int (nI 0)]))] ++ ([(h 1, .inl (E.2.1 4, 2, .inr (.inr (.inr (.inr (fun j => ([(q 0) 0, (q 1) 0] : List Nat)[j]?))))))] ++ (fw E (q 0) (Q 0) ++ (fw E (q 1) (Q 1) ++ (fw E d C)))))) (fun _ => True) (fun _ => bI false) (fun _ => pw2 E h (mkPV 0 q Q) ++ fw E d (C)) 0 0 := by
  refine KI.of (cc := cX2_takeLast) (maxL := 2) (ty := .boolean) (hnar := fun _ _ => nar_b _) rfl rfl rfl (fun x hX hin hret hnL => ?_)
  replace hX : CX x l cX2_takeLast RX2 wsX2_takeLast E (rmA 1 0 0) := hX
  show GG x 0 0 (([(h 0, .inr (2, [.ref (h 1), .int (nI 0)]))] ++ ([(h 1, .inl (E.2.1 4, 2, .inr (.inr (.inr (.inr (fun j => ([(q 0) 0, (q 1) 0] : List Nat)[j]?))))))] ++ (fw E (q 0) (Q 0) ++ (fw E (q 1) (Q 1) ++ (fw E d C)))))) 0 [(0, .ref (h 0)), (1, .ref (d 0))] []
  have inRX2 : ∀ w ∈ wsX20, w ∈ wsX2_takeLast := by decide +kernel
  have fl16 : Cond.fieldLink RX2 16 "LieForce$Pile" "size" "I" ∈ wsX2_takeLast := by decide +kernel
  refine g_aload_n hX dX2_takeLast_0 0 rfl ?_
  refine g_get hX (v := .int (nI 0)) 0 inRX2 rfl rfl 1 rfl fl16 rfl rfl dX2_takeLast_1 ?_
  refine g_if_le hX 19 dX2_takeLast_4 (by decide) (fun _ => ?_) (fun c4 => by first | exact absurd c4 (by decide) | exact absurd (by decide) c4)
  refine g_iconst hX (nI 0) dX2_takeLast_19 rfl ?_
  exact g_eq (show (([(h 0, .inr (2, [.ref (h 1), .int (nI 0)]))] ++ ([(h 1, .inl (E.2.1 4, 2, .inr (.inr (.inr (.inr (fun j => ([(q 0) 0, (q 1) 0] : List Nat)[j]?))))))] ++ (fw E (q 0) (Q 0) ++ (fw E (q 1) (Q 1) ++ (fw E d C))))) : va_W) = pw2 E h (mkPV 0 q Q) ++ fw E d (C) from rfl) rfl rfl (hret () _ _ trivial dX2_takeLast_20)
set_option maxHeartbeats 4000000 in
set_option maxRecDepth 100000 in
theorem c_X2_takeLast2_1 (l : Launch) (E : EV) (h : Nat → Nat) (q : Nat → Nat → Nat) (Q : Nat → FC) (d : Nat → Nat) (C : FC)  : KI l yX2_takeLast wsX2_takeLast (rmA 1 0 0) E (σ := Unit) [.ref (h 0), .ref (d 0)] (([(h 0, .inr (2, [.ref (h 1), .int (nI 1)]))] ++ ([(h 1, .inl (E.2.1 4, 2, .inr (.inr (.inr (.inr (fun j => ([(q 0) 0, (q 1) 0] : List Nat)[j]?))))))] ++ (fw E (q 0) (Q 0) ++ (fw E (q 1) (Q 1) ++ (fw E d C)))))) (fun _ => True) (fun _ => bI true) (fun _ => pw2 E h (mkPV 0 q Q) ++ fw E d (Q 0)) 0 0 := by
  refine KI.of (cc := cX2_takeLast) (maxL := 2) (ty := .boolean) (hnar := fun _ _ => nar_b _) rfl rfl rfl (fun x hX hin hret hnL => ?_)
  replace hX : CX x l cX2_takeLast RX2 wsX2_takeLast E (rmA 1 0 0) := hX
  show GG x 0 0 (([(h 0, .inr (2, [.ref (h 1), .int (nI 1)]))] ++ ([(h 1, .inl (E.2.1 4, 2, .inr (.inr (.inr (.inr (fun j => ([(q 0) 0, (q 1) 0] : List Nat)[j]?))))))] ++ (fw E (q 0) (Q 0) ++ (fw E (q 1) (Q 1) ++ (fw E d C)))))) 0 [(0, .ref (h 0)), (1, .ref (d 0))] []
  have inRX2 : ∀ w ∈ wsX20, w ∈ wsX2_takeLast := by decide +kernel
  have fl16 : Cond.fieldLink RX2 16 "LieForce$Pile" "size" "I" ∈ wsX2_takeLast := by decide +kernel
  have fl9 : Cond.fieldLink RX2 9 "LieForce$Pile" "stood" "[LLieForce$Force;" ∈ wsX2_takeLast := by decide +kernel
  refine g_aload_n hX dX2_takeLast_0 0 rfl ?_
  refine g_get hX (v := .int (nI 1)) 0 inRX2 rfl rfl 1 rfl fl16 rfl rfl dX2_takeLast_1 ?_
  refine g_if_le hX 19 dX2_takeLast_4 (by decide) (fun c4 => by first | exact absurd c4 (by decide) | exact absurd (by decide) c4) (fun _ => ?_)
  refine g_aload_n hX dX2_takeLast_7 0 rfl ?_
  refine g_get hX (v := .int (nI 1)) 0 inRX2 rfl rfl 1 rfl fl16 rfl rfl dX2_takeLast_8 ?_
  refine g_aload_n hX dX2_takeLast_11 0 rfl ?_
  refine g_get hX (v := .ref (h 1)) 0 inRX2 rfl rfl 0 rfl fl9 rfl rfl dX2_takeLast_12 ?_
  refine g_alen hX (nI 2) 1 4 rfl rfl rfl dX2_takeLast_15 ?_
  refine g_icmp_le hX 21 dX2_takeLast_16 (by decide) (fun _ => ?_) (fun c16 => by first | exact absurd c16 (by decide) | exact absurd (by decide) c16)
  refine g_aload_n hX dX2_takeLast_21 0 rfl ?_
  refine g_dup hX dX2_takeLast_22 rfl ?_
  refine g_get hX (v := .int (nI 1)) 0 inRX2 rfl rfl 1 rfl fl16 rfl rfl dX2_takeLast_23 ?_
  refine g_iconst hX (nI 1) dX2_takeLast_26 rfl ?_
  refine g_isub hX (nI (1 - 1)) dX2_takeLast_27 (pk_sub (by omega)) ?_
  refine g_put hX (([(h 0, .inr (2, [.ref (h 1), .int (nI 0)]))] ++ ([(h 1, .inl (E.2.1 4, 2, .inr (.inr (.inr (.inr (fun j => ([(q 0) 0, (q 1) 0] : List Nat)[j]?))))))] ++ (fw E (q 0) (Q 0) ++ (fw E (q 1) (Q 1) ++ (fw E d C)))))) 0 inRX2 tyX2_ok nmX2 rfl rfl 1 rfl fl16 rfl rfl rfl rfl rfl dX2_takeLast_28 rfl ?_
  refine g_aload_n hX dX2_takeLast_31 1 rfl ?_
  refine g_aload_n hX dX2_takeLast_32 0 rfl ?_
  refine g_get hX (v := .ref (h 1)) 0 inRX2 rfl rfl 0 rfl fl9 rfl rfl dX2_takeLast_33 ?_
  refine g_aload_n hX dX2_takeLast_36 0 rfl ?_
  refine g_get hX (v := .int (nI 0)) 0 inRX2 rfl rfl 1 rfl fl16 rfl rfl dX2_takeLast_37 ?_
  refine g_aald hX (.ref ((q 0) 0)) 1 4 rfl rfl (vp_in_nI (by decide) (by decide)) (by rw [nI_clamp (by decide)]; rfl) dX2_takeLast_40 ?_
  have hc41 : CUT (([(h 0, .inr (2, [.ref (h 1), .int (nI 0)]))] ++ ([(h 1, .inl (E.2.1 4, 2, .inr (.inr (.inr (.inr (fun j => ([(q 0) 0, (q 1) 0] : List Nat)[j]?))))))] ++ (fw E (q 0) (Q 0) ++ (fw E (q 1) (Q 1) ++ (fw E d C)))))) ((fw E d C) ++ (fw E (q 0) (Q 0))) (([(h 0, .inr (2, [.ref (h 1), .int (nI 0)]))] ++ ([(h 1, .inl (E.2.1 4, 2, .inr (.inr (.inr (.inr (fun j => ([(q 0) 0, (q 1) 0] : List Nat)[j]?))))))] ++ (fw E (q 1) (Q 1))))) [16, 17, 18, 19, 20, 21, 22, 2, 3, 4, 5, 6, 7, 8] [0, 1, 9, 10, 11, 12, 13, 14, 15] := ⟨rfl, rfl, rfl, rfl, rfl⟩
  refine g_VV hX hc41 [.ref ((q 0) 0)] [] (c_X0_copy l E d C (q 0) (Q 0)) gX2_takeLast_X0_copy calX0_copy rfl rfl rfl rfl 16 rfl rfl rfl rfl dX2_takeLast_41 rfl ⟨Nat.zero_le _, Nat.zero_le _⟩ (fun _ => ([(h 0, .inr (2, [.ref (h 1), .int (nI 0)]))] ++ ([(h 1, .inl (E.2.1 4, 2, .inr (.inr (.inr (.inr (fun j => ([(q 0) 0, (q 1) 0] : List Nat)[j]?))))))] ++ (fw E (q 0) (Q 0) ++ (fw E (q 1) (Q 1) ++ (fw E d (Q 0))))))) [0, 1, 16, 17, 18, 19, 20, 21, 22, 2, 3, 4, 5, 6, 7, 8, 9, 10, 11, 12, 13, 14, 15] rfl (fun _ => rfl) (fun _ hu41 => ?_)
  refine g_iconst hX (nI 1) dX2_takeLast_44 rfl ?_
  exact g_eq (show (([(h 0, .inr (2, [.ref (h 1), .int (nI 0)]))] ++ ([(h 1, .inl (E.2.1 4, 2, .inr (.inr (.inr (.inr (fun j => ([(q 0) 0, (q 1) 0] : List Nat)[j]?))))))] ++ (fw E (q 0) (Q 0) ++ (fw E (q 1) (Q 1) ++ (fw E d (Q 0)))))) : va_W) = pw2 E h (mkPV 0 q Q) ++ fw E d (Q 0) from rfl) rfl rfl (hret () _ _ trivial dX2_takeLast_45)
set_option maxHeartbeats 4000000 in
set_option maxRecDepth 100000 in
theorem c_X2_takeLast2_2 (l : Launch) (E : EV) (h : Nat → Nat) (q : Nat → Nat → Nat) (Q : Nat → FC) (d : Nat → Nat) (C : FC)  : KI l yX2_takeLast wsX2_takeLast (rmA 1 0 0) E (σ := Unit) [.ref (h 0), .ref (d 0)] (([(h 0, .inr (2, [.ref (h 1), .int (nI 2)]))] ++ ([(h 1, .inl (E.2.1 4, 2, .inr (.inr (.inr (.inr (fun j => ([(q 0) 0, (q 1) 0] : List Nat)[j]?))))))] ++ (fw E (q 0) (Q 0) ++ (fw E (q 1) (Q 1) ++ (fw E d C)))))) (fun _ => True) (fun _ => bI true) (fun _ => pw2 E h (mkPV 1 q Q) ++ fw E d (Q 1)) 0 0 := by
  refine KI.of (cc := cX2_takeLast) (maxL := 2) (ty := .boolean) (hnar := fun _ _ => nar_b _) rfl rfl rfl (fun x hX hin hret hnL => ?_)
  replace hX : CX x l cX2_takeLast RX2 wsX2_takeLast E (rmA 1 0 0) := hX
  show GG x 0 0 (([(h 0, .inr (2, [.ref (h 1), .int (nI 2)]))] ++ ([(h 1, .inl (E.2.1 4, 2, .inr (.inr (.inr (.inr (fun j => ([(q 0) 0, (q 1) 0] : List Nat)[j]?))))))] ++ (fw E (q 0) (Q 0) ++ (fw E (q 1) (Q 1) ++ (fw E d C)))))) 0 [(0, .ref (h 0)), (1, .ref (d 0))] []
  have inRX2 : ∀ w ∈ wsX20, w ∈ wsX2_takeLast := by decide +kernel
  have fl16 : Cond.fieldLink RX2 16 "LieForce$Pile" "size" "I" ∈ wsX2_takeLast := by decide +kernel
  have fl9 : Cond.fieldLink RX2 9 "LieForce$Pile" "stood" "[LLieForce$Force;" ∈ wsX2_takeLast := by decide +kernel
  refine g_aload_n hX dX2_takeLast_0 0 rfl ?_
  refine g_get hX (v := .int (nI 2)) 0 inRX2 rfl rfl 1 rfl fl16 rfl rfl dX2_takeLast_1 ?_
  refine g_if_le hX 19 dX2_takeLast_4 (by decide) (fun c4 => by first | exact absurd c4 (by decide) | exact absurd (by decide) c4) (fun _ => ?_)
  refine g_aload_n hX dX2_takeLast_7 0 rfl ?_
  refine g_get hX (v := .int (nI 2)) 0 inRX2 rfl rfl 1 rfl fl16 rfl rfl dX2_takeLast_8 ?_
  refine g_aload_n hX dX2_takeLast_11 0 rfl ?_
  refine g_get hX (v := .ref (h 1)) 0 inRX2 rfl rfl 0 rfl fl9 rfl rfl dX2_takeLast_12 ?_
  refine g_alen hX (nI 2) 1 4 rfl rfl rfl dX2_takeLast_15 ?_
  refine g_icmp_le hX 21 dX2_takeLast_16 (by decide) (fun _ => ?_) (fun c16 => by first | exact absurd c16 (by decide) | exact absurd (by decide) c16)
  refine g_aload_n hX dX2_takeLast_21 0 rfl ?_
  refine g_dup hX dX2_takeLast_22 rfl ?_
  refine g_get hX (v := .int (nI 2)) 0 inRX2 rfl rfl 1 rfl fl16 rfl rfl dX2_takeLast_23 ?_
  refine g_iconst hX (nI 1) dX2_takeLast_26 rfl ?_
  refine g_isub hX (nI (2 - 1)) dX2_takeLast_27 (pk_sub (by omega)) ?_
  refine g_put hX (([(h 0, .inr (2, [.ref (h 1), .int (nI 1)]))] ++ ([(h 1, .inl (E.2.1 4, 2, .inr (.inr (.inr (.inr (fun j => ([(q 0) 0, (q 1) 0] : List Nat)[j]?))))))] ++ (fw E (q 0) (Q 0) ++ (fw E (q 1) (Q 1) ++ (fw E d C)))))) 0 inRX2 tyX2_ok nmX2 rfl rfl 1 rfl fl16 rfl rfl rfl rfl rfl dX2_takeLast_28 rfl ?_
  refine g_aload_n hX dX2_takeLast_31 1 rfl ?_
  refine g_aload_n hX dX2_takeLast_32 0 rfl ?_
  refine g_get hX (v := .ref (h 1)) 0 inRX2 rfl rfl 0 rfl fl9 rfl rfl dX2_takeLast_33 ?_
  refine g_aload_n hX dX2_takeLast_36 0 rfl ?_
  refine g_get hX (v := .int (nI 1)) 0 inRX2 rfl rfl 1 rfl fl16 rfl rfl dX2_takeLast_37 ?_
  refine g_aald hX (.ref ((q 1) 0)) 1 4 rfl rfl (vp_in_nI (by decide) (by decide)) (by rw [nI_clamp (by decide)]; rfl) dX2_takeLast_40 ?_
  have hc41 : CUT (([(h 0, .inr (2, [.ref (h 1), .int (nI 1)]))] ++ ([(h 1, .inl (E.2.1 4, 2, .inr (.inr (.inr (.inr (fun j => ([(q 0) 0, (q 1) 0] : List Nat)[j]?))))))] ++ (fw E (q 0) (Q 0) ++ (fw E (q 1) (Q 1) ++ (fw E d C)))))) ((fw E d C) ++ (fw E (q 1) (Q 1))) (([(h 0, .inr (2, [.ref (h 1), .int (nI 1)]))] ++ ([(h 1, .inl (E.2.1 4, 2, .inr (.inr (.inr (.inr (fun j => ([(q 0) 0, (q 1) 0] : List Nat)[j]?))))))] ++ (fw E (q 0) (Q 0))))) [16, 17, 18, 19, 20, 21, 22, 9, 10, 11, 12, 13, 14, 15] [0, 1, 2, 3, 4, 5, 6, 7, 8] := ⟨rfl, rfl, rfl, rfl, rfl⟩
  refine g_VV hX hc41 [.ref ((q 1) 0)] [] (c_X0_copy l E d C (q 1) (Q 1)) gX2_takeLast_X0_copy calX0_copy rfl rfl rfl rfl 16 rfl rfl rfl rfl dX2_takeLast_41 rfl ⟨Nat.zero_le _, Nat.zero_le _⟩ (fun _ => ([(h 0, .inr (2, [.ref (h 1), .int (nI 1)]))] ++ ([(h 1, .inl (E.2.1 4, 2, .inr (.inr (.inr (.inr (fun j => ([(q 0) 0, (q 1) 0] : List Nat)[j]?))))))] ++ (fw E (q 0) (Q 0) ++ (fw E (q 1) (Q 1) ++ (fw E d (Q 1))))))) [0, 1, 2, 3, 4, 5, 6, 7, 8, 16, 17, 18, 19, 20, 21, 22, 9, 10, 11, 12, 13, 14, 15] rfl (fun _ => rfl) (fun _ hu41 => ?_)
  refine g_iconst hX (nI 1) dX2_takeLast_44 rfl ?_
  exact g_eq (show (([(h 0, .inr (2, [.ref (h 1), .int (nI 1)]))] ++ ([(h 1, .inl (E.2.1 4, 2, .inr (.inr (.inr (.inr (fun j => ([(q 0) 0, (q 1) 0] : List Nat)[j]?))))))] ++ (fw E (q 0) (Q 0) ++ (fw E (q 1) (Q 1) ++ (fw E d (Q 1)))))) : va_W) = pw2 E h (mkPV 1 q Q) ++ fw E d (Q 1) from rfl) rfl rfl (hret () _ _ trivial dX2_takeLast_45)
set_option maxHeartbeats 4000000 in
set_option maxRecDepth 100000 in
theorem c_X2_dropOldest8_x (l : Launch) (E : EV) (h : Nat → Nat) (q : Nat → Nat → Nat) (Q : Nat → FC)  : KV l yX2_dropOldest wsX2_dropOldest (rmA 0 0 0) E (σ := Unit) [.ref (h 0)] (([(h 0, .inr (2, [.ref (h 1), .int (nI 8)]))] ++ ([(h 1, .inl (E.2.1 4, 8, .inr (.inr (.inr (.inr (fun j => ([(q 0) 0, (q 1) 0, (q 2) 0, (q 3) 0, (q 4) 0, (q 5) 0, (q 6) 0, (q 7) 0] : List Nat)[j]?))))))] ++ (fw E (q 0) (Q 0) ++ (fw E (q 1) (Q 1) ++ (fw E (q 2) (Q 2) ++ (fw E (q 3) (Q 3) ++ (fw E (q 4) (Q 4) ++ (fw E (q 5) (Q 5) ++ (fw E (q 6) (Q 6) ++ (fw E (q 7) (Q 7)))))))))))) (fun _ => True) (fun _ => pw8 E h (mkPV 7 (rotP 7 q) (rotP 7 Q))) 0 0 := by
  refine KV.of (cc := cX2_dropOldest) (maxL := 4) rfl rfl rfl (fun x hX hin hret hnL => ?_)
  replace hX : CX x l cX2_dropOldest RX2 wsX2_dropOldest E (rmA 0 0 0) := hX
  show GG x 0 0 (([(h 0, .inr (2, [.ref (h 1), .int (nI 8)]))] ++ ([(h 1, .inl (E.2.1 4, 8, .inr (.inr (.inr (.inr (fun j => ([(q 0) 0, (q 1) 0, (q 2) 0, (q 3) 0, (q 4) 0, (q 5) 0, (q 6) 0, (q 7) 0] : List Nat)[j]?))))))] ++ (fw E (q 0) (Q 0) ++ (fw E (q 1) (Q 1) ++ (fw E (q 2) (Q 2) ++ (fw E (q 3) (Q 3) ++ (fw E (q 4) (Q 4) ++ (fw E (q 5) (Q 5) ++ (fw E (q 6) (Q 6) ++ (fw E (q 7) (Q 7)))))))))))) 0 [(0, .ref (h 0))] []
  have inRX2 : ∀ w ∈ wsX20, w ∈ wsX2_dropOldest := by decide +kernel
  have fl16 : Cond.fieldLink RX2 16 "LieForce$Pile" "size" "I" ∈ wsX2_dropOldest := by decide +kernel
  have fl9 : Cond.fieldLink RX2 9 "LieForce$Pile" "stood" "[LLieForce$Force;" ∈ wsX2_dropOldest := by decide +kernel
  refine g_aload_n hX dX2_dropOldest_0 0 rfl ?_
  refine g_get hX (v := .ref (h 1)) 0 inRX2 rfl rfl 0 rfl fl9 rfl rfl dX2_dropOldest_1 ?_
  refine g_alen hX (nI 8) 1 4 rfl rfl rfl dX2_dropOldest_4 ?_
  refine g_iconst hX (nI 1) dX2_dropOldest_5 rfl ?_
  refine g_isub hX (nI (8 - 1)) dX2_dropOldest_6 (pk_sub (by omega)) ?_
  refine g_istore_n hX (j := 1) [(1, .int (nI 7)), (0, .ref (h 0))] dX2_dropOldest_7 rfl (by rw [hnL]; rfl) rfl ?_
  refine g_iload_n hX dX2_dropOldest_8 0 rfl ?_
  refine g_if_ge hX 13 dX2_dropOldest_9 (by decide) (fun _ => ?_) (fun c9 => by first | exact absurd c9 (by decide) | exact absurd (by decide) c9)
  refine g_aload_n hX dX2_dropOldest_13 1 rfl ?_
  refine g_get hX (v := .ref (h 1)) 0 inRX2 rfl rfl 0 rfl fl9 rfl rfl dX2_dropOldest_14 ?_
  refine g_iconst hX (nI 0) dX2_dropOldest_17 rfl ?_
  refine g_aald hX (.ref ((q 0) 0)) 1 4 rfl rfl (vp_in_nI (by decide) (by decide)) (by rw [nI_clamp (by decide)]; rfl) dX2_dropOldest_18 ?_
  refine g_astore_n hX (j := 2) [(2, .ref ((q 0) 0)), (1, .int (nI 7)), (0, .ref (h 0))] dX2_dropOldest_19 rfl (by rw [hnL]; rfl) rfl ?_
  refine g_iconst hX (nI 0) dX2_dropOldest_20 rfl ?_
  refine g_istore_n hX (j := 3) [(3, .int (nI 0)), (2, .ref ((q 0) 0)), (1, .int (nI 7)), (0, .ref (h 0))] dX2_dropOldest_21 rfl (by rw [hnL]; rfl) rfl ?_
  refine g_iload_n hX dX2_dropOldest_22 0 rfl ?_
  refine g_iload_n hX dX2_dropOldest_23 2 rfl ?_
  refine g_icmp_ge hX 47 dX2_dropOldest_24 (by decide) (fun c24 => by first | exact absurd c24 (by decide) | exact absurd (by decide) c24) (fun _ => ?_)
  refine g_aload_n hX dX2_dropOldest_27 3 rfl ?_
  refine g_get hX (v := .ref (h 1)) 0 inRX2 rfl rfl 0 rfl fl9 rfl rfl dX2_dropOldest_28 ?_
  refine g_iload_n hX dX2_dropOldest_31 0 rfl ?_
  refine g_aload_n hX dX2_dropOldest_32 3 rfl ?_
  refine g_get hX (v := .ref (h 1)) 0 inRX2 rfl rfl 0 rfl fl9 rfl rfl dX2_dropOldest_33 ?_
  refine g_iload_n hX dX2_dropOldest_36 0 rfl ?_
  refine g_iconst hX (nI 1) dX2_dropOldest_37 rfl ?_
  refine g_iadd hX (nI (0 + 1)) dX2_dropOldest_38 (nI_add _ _) ?_
  refine g_aald hX (.ref ((q 1) 0)) 1 4 rfl rfl (vp_in_nI (by decide) (by decide)) (by rw [nI_clamp (by decide)]; rfl) dX2_dropOldest_39 ?_
  refine g_aast hX (r := (RX0, TX0, 11)) (fun j => ([(q 1) 0, (q 1) 0, (q 2) 0, (q 3) 0, (q 4) 0, (q 5) 0, (q 6) 0, (q 7) 0] : List Nat)[j]?) (([(h 0, .inr (2, [.ref (h 1), .int (nI 8)]))] ++ ([(h 1, .inl (E.2.1 4, 8, .inr (.inr (.inr (.inr (fun j => ([(q 1) 0, (q 1) 0, (q 2) 0, (q 3) 0, (q 4) 0, (q 5) 0, (q 6) 0, (q 7) 0] : List Nat)[j]?))))))] ++ (fw E (q 0) (Q 0) ++ (fw E (q 1) (Q 1) ++ (fw E (q 2) (Q 2) ++ (fw E (q 3) (Q 3) ++ (fw E (q 4) (Q 4) ++ (fw E (q 5) (Q 5) ++ (fw E (q 6) (Q 6) ++ (fw E (q 7) (Q 7)))))))))))) 1 4 9 rfl rfl rfl rfl (vp_in_nI (by decide) (by decide)) (lf_set (L := ([(q 0) 0, (q 1) 0, (q 2) 0, (q 3) 0, (q 4) 0, (q 5) 0, (q 6) 0, (q 7) 0] : List Nat)) (i := 0) (Nat.le_of_ble_eq_true rfl) (by decide)) dX2_dropOldest_40 rfl ?_
  refine g_iinc hX (j := 3) (nI (0 + 1)) [(3, .int (nI (0 + 1))), (2, .ref ((q 0) 0)), (1, .int (nI 7)), (0, .ref (h 0))] dX2_dropOldest_41 0 rfl (iinc_n _ _) (by rw [hnL]; rfl) rfl ?_
  refine g_goto hX 22 dX2_dropOldest_44 (by decide) ?_
  refine g_iload_n hX dX2_dropOldest_22 0 rfl ?_
  refine g_iload_n hX dX2_dropOldest_23 2 rfl ?_
  refine g_icmp_ge hX 47 dX2_dropOldest_24 (by decide) (fun c24 => by first | exact absurd c24 (by decide) | exact absurd (by decide) c24) (fun _ => ?_)
  refine g_aload_n hX dX2_dropOldest_27 3 rfl ?_
  refine g_get hX (v := .ref (h 1)) 0 inRX2 rfl rfl 0 rfl fl9 rfl rfl dX2_dropOldest_28 ?_
  refine g_iload_n hX dX2_dropOldest_31 0 rfl ?_
  refine g_aload_n hX dX2_dropOldest_32 3 rfl ?_
  refine g_get hX (v := .ref (h 1)) 0 inRX2 rfl rfl 0 rfl fl9 rfl rfl dX2_dropOldest_33 ?_
  refine g_iload_n hX dX2_dropOldest_36 0 rfl ?_
  refine g_iconst hX (nI 1) dX2_dropOldest_37 rfl ?_
  refine g_iadd hX (nI (1 + 1)) dX2_dropOldest_38 (nI_add _ _) ?_
  refine g_aald hX (.ref ((q 2) 0)) 1 4 rfl rfl (vp_in_nI (by decide) (by decide)) (by rw [nI_clamp (by decide)]; rfl) dX2_dropOldest_39 ?_
  refine g_aast hX (r := (RX0, TX0, 11)) (fun j => ([(q 1) 0, (q 2) 0, (q 2) 0, (q 3) 0, (q 4) 0, (q 5) 0, (q 6) 0, (q 7) 0] : List Nat)[j]?) (([(h 0, .inr (2, [.ref (h 1), .int (nI 8)]))] ++ ([(h 1, .inl (E.2.1 4, 8, .inr (.inr (.inr (.inr (fun j => ([(q 1) 0, (q 2) 0, (q 2) 0, (q 3) 0, (q 4) 0, (q 5) 0, (q 6) 0, (q 7) 0] : List Nat)[j]?))))))] ++ (fw E (q 0) (Q 0) ++ (fw E (q 1) (Q 1) ++ (fw E (q 2) (Q 2) ++ (fw E (q 3) (Q 3) ++ (fw E (q 4) (Q 4) ++ (fw E (q 5) (Q 5) ++ (fw E (q 6) (Q 6) ++ (fw E (q 7) (Q 7)))))))))))) 1 4 16 rfl rfl rfl rfl (vp_in_nI (by decide) (by decide)) (lf_set (L := ([(q 1) 0, (q 1) 0, (q 2) 0, (q 3) 0, (q 4) 0, (q 5) 0, (q 6) 0, (q 7) 0] : List Nat)) (i := 1) (Nat.le_of_ble_eq_true rfl) (by decide)) dX2_dropOldest_40 rfl ?_
  refine g_iinc hX (j := 3) (nI (1 + 1)) [(3, .int (nI (1 + 1))), (2, .ref ((q 0) 0)), (1, .int (nI 7)), (0, .ref (h 0))] dX2_dropOldest_41 0 rfl (iinc_n _ _) (by rw [hnL]; rfl) rfl ?_
  refine g_goto hX 22 dX2_dropOldest_44 (by decide) ?_
  refine g_iload_n hX dX2_dropOldest_22 0 rfl ?_
  refine g_iload_n hX dX2_dropOldest_23 2 rfl ?_
  refine g_icmp_ge hX 47 dX2_dropOldest_24 (by decide) (fun c24 => by first | exact absurd c24 (by decide) | exact absurd (by decide) c24) (fun _ => ?_)
  refine g_aload_n hX dX2_dropOldest_27 3 rfl ?_
  refine g_get hX (v := .ref (h 1)) 0 inRX2 rfl rfl 0 rfl fl9 rfl rfl dX2_dropOldest_28 ?_
  refine g_iload_n hX dX2_dropOldest_31 0 rfl ?_
  refine g_aload_n hX dX2_dropOldest_32 3 rfl ?_
  refine g_get hX (v := .ref (h 1)) 0 inRX2 rfl rfl 0 rfl fl9 rfl rfl dX2_dropOldest_33 ?_
  refine g_iload_n hX dX2_dropOldest_36 0 rfl ?_
  refine g_iconst hX (nI 1) dX2_dropOldest_37 rfl ?_
  refine g_iadd hX (nI (2 + 1)) dX2_dropOldest_38 (nI_add _ _) ?_
  refine g_aald hX (.ref ((q 3) 0)) 1 4 rfl rfl (vp_in_nI (by decide) (by decide)) (by rw [nI_clamp (by decide)]; rfl) dX2_dropOldest_39 ?_
  refine g_aast hX (r := (RX0, TX0, 11)) (fun j => ([(q 1) 0, (q 2) 0, (q 3) 0, (q 3) 0, (q 4) 0, (q 5) 0, (q 6) 0, (q 7) 0] : List Nat)[j]?) (([(h 0, .inr (2, [.ref (h 1), .int (nI 8)]))] ++ ([(h 1, .inl (E.2.1 4, 8, .inr (.inr (.inr (.inr (fun j => ([(q 1) 0, (q 2) 0, (q 3) 0, (q 3) 0, (q 4) 0, (q 5) 0, (q 6) 0, (q 7) 0] : List Nat)[j]?))))))] ++ (fw E (q 0) (Q 0) ++ (fw E (q 1) (Q 1) ++ (fw E (q 2) (Q 2) ++ (fw E (q 3) (Q 3) ++ (fw E (q 4) (Q 4) ++ (fw E (q 5) (Q 5) ++ (fw E (q 6) (Q 6) ++ (fw E (q 7) (Q 7)))))))))))) 1 4 23 rfl rfl rfl rfl (vp_in_nI (by decide) (by decide)) (lf_set (L := ([(q 1) 0, (q 2) 0, (q 2) 0, (q 3) 0, (q 4) 0, (q 5) 0, (q 6) 0, (q 7) 0] : List Nat)) (i := 2) (Nat.le_of_ble_eq_true rfl) (by decide)) dX2_dropOldest_40 rfl ?_
  refine g_iinc hX (j := 3) (nI (2 + 1)) [(3, .int (nI (2 + 1))), (2, .ref ((q 0) 0)), (1, .int (nI 7)), (0, .ref (h 0))] dX2_dropOldest_41 0 rfl (iinc_n _ _) (by rw [hnL]; rfl) rfl ?_
  refine g_goto hX 22 dX2_dropOldest_44 (by decide) ?_
  refine g_iload_n hX dX2_dropOldest_22 0 rfl ?_
  refine g_iload_n hX dX2_dropOldest_23 2 rfl ?_
  refine g_icmp_ge hX 47 dX2_dropOldest_24 (by decide) (fun c24 => by first | exact absurd c24 (by decide) | exact absurd (by decide) c24) (fun _ => ?_)
  refine g_aload_n hX dX2_dropOldest_27 3 rfl ?_
  refine g_get hX (v := .ref (h 1)) 0 inRX2 rfl rfl 0 rfl fl9 rfl rfl dX2_dropOldest_28 ?_
  refine g_iload_n hX dX2_dropOldest_31 0 rfl ?_
  refine g_aload_n hX dX2_dropOldest_32 3 rfl ?_
  refine g_get hX (v := .ref (h 1)) 0 inRX2 rfl rfl 0 rfl fl9 rfl rfl dX2_dropOldest_33 ?_
  refine g_iload_n hX dX2_dropOldest_36 0 rfl ?_
  refine g_iconst hX (nI 1) dX2_dropOldest_37 rfl ?_
  refine g_iadd hX (nI (3 + 1)) dX2_dropOldest_38 (nI_add _ _) ?_
  refine g_aald hX (.ref ((q 4) 0)) 1 4 rfl rfl (vp_in_nI (by decide) (by decide)) (by rw [nI_clamp (by decide)]; rfl) dX2_dropOldest_39 ?_
  refine g_aast hX (r := (RX0, TX0, 11)) (fun j => ([(q 1) 0, (q 2) 0, (q 3) 0, (q 4) 0, (q 4) 0, (q 5) 0, (q 6) 0, (q 7) 0] : List Nat)[j]?) (([(h 0, .inr (2, [.ref (h 1), .int (nI 8)]))] ++ ([(h 1, .inl (E.2.1 4, 8, .inr (.inr (.inr (.inr (fun j => ([(q 1) 0, (q 2) 0, (q 3) 0, (q 4) 0, (q 4) 0, (q 5) 0, (q 6) 0, (q 7) 0] : List Nat)[j]?))))))] ++ (fw E (q 0) (Q 0) ++ (fw E (q 1) (Q 1) ++ (fw E (q 2) (Q 2) ++ (fw E (q 3) (Q 3) ++ (fw E (q 4) (Q 4) ++ (fw E (q 5) (Q 5) ++ (fw E (q 6) (Q 6) ++ (fw E (q 7) (Q 7)))))))))))) 1 4 30 rfl rfl rfl rfl (vp_in_nI (by decide) (by decide)) (lf_set (L := ([(q 1) 0, (q 2) 0, (q 3) 0, (q 3) 0, (q 4) 0, (q 5) 0, (q 6) 0, (q 7) 0] : List Nat)) (i := 3) (Nat.le_of_ble_eq_true rfl) (by decide)) dX2_dropOldest_40 rfl ?_
  refine g_iinc hX (j := 3) (nI (3 + 1)) [(3, .int (nI (3 + 1))), (2, .ref ((q 0) 0)), (1, .int (nI 7)), (0, .ref (h 0))] dX2_dropOldest_41 0 rfl (iinc_n _ _) (by rw [hnL]; rfl) rfl ?_
  refine g_goto hX 22 dX2_dropOldest_44 (by decide) ?_
  refine g_iload_n hX dX2_dropOldest_22 0 rfl ?_
  refine g_iload_n hX dX2_dropOldest_23 2 rfl ?_
  refine g_icmp_ge hX 47 dX2_dropOldest_24 (by decide) (fun c24 => by first | exact absurd c24 (by decide) | exact absurd (by decide) c24) (fun _ => ?_)
  refine g_aload_n hX dX2_dropOldest_27 3 rfl ?_
  refine g_get hX (v := .ref (h 1)) 0 inRX2 rfl rfl 0 rfl fl9 rfl rfl dX2_dropOldest_28 ?_
  refine g_iload_n hX dX2_dropOldest_31 0 rfl ?_
  refine g_aload_n hX dX2_dropOldest_32 3 rfl ?_
  refine g_get hX (v := .ref (h 1)) 0 inRX2 rfl rfl 0 rfl fl9 rfl rfl dX2_dropOldest_33 ?_
  refine g_iload_n hX dX2_dropOldest_36 0 rfl ?_
  refine g_iconst hX (nI 1) dX2_dropOldest_37 rfl ?_
  refine g_iadd hX (nI (4 + 1)) dX2_dropOldest_38 (nI_add _ _) ?_
  refine g_aald hX (.ref ((q 5) 0)) 1 4 rfl rfl (vp_in_nI (by decide) (by decide)) (by rw [nI_clamp (by decide)]; rfl) dX2_dropOldest_39 ?_
  refine g_aast hX (r := (RX0, TX0, 11)) (fun j => ([(q 1) 0, (q 2) 0, (q 3) 0, (q 4) 0, (q 5) 0, (q 5) 0, (q 6) 0, (q 7) 0] : List Nat)[j]?) (([(h 0, .inr (2, [.ref (h 1), .int (nI 8)]))] ++ ([(h 1, .inl (E.2.1 4, 8, .inr (.inr (.inr (.inr (fun j => ([(q 1) 0, (q 2) 0, (q 3) 0, (q 4) 0, (q 5) 0, (q 5) 0, (q 6) 0, (q 7) 0] : List Nat)[j]?))))))] ++ (fw E (q 0) (Q 0) ++ (fw E (q 1) (Q 1) ++ (fw E (q 2) (Q 2) ++ (fw E (q 3) (Q 3) ++ (fw E (q 4) (Q 4) ++ (fw E (q 5) (Q 5) ++ (fw E (q 6) (Q 6) ++ (fw E (q 7) (Q 7)))))))))))) 1 4 37 rfl rfl rfl rfl (vp_in_nI (by decide) (by decide)) (lf_set (L := ([(q 1) 0, (q 2) 0, (q 3) 0, (q 4) 0, (q 4) 0, (q 5) 0, (q 6) 0, (q 7) 0] : List Nat)) (i := 4) (Nat.le_of_ble_eq_true rfl) (by decide)) dX2_dropOldest_40 rfl ?_
  refine g_iinc hX (j := 3) (nI (4 + 1)) [(3, .int (nI (4 + 1))), (2, .ref ((q 0) 0)), (1, .int (nI 7)), (0, .ref (h 0))] dX2_dropOldest_41 0 rfl (iinc_n _ _) (by rw [hnL]; rfl) rfl ?_
  refine g_goto hX 22 dX2_dropOldest_44 (by decide) ?_
  refine g_iload_n hX dX2_dropOldest_22 0 rfl ?_
  refine g_iload_n hX dX2_dropOldest_23 2 rfl ?_
  refine g_icmp_ge hX 47 dX2_dropOldest_24 (by decide) (fun c24 => by first | exact absurd c24 (by decide) | exact absurd (by decide) c24) (fun _ => ?_)
  refine g_aload_n hX dX2_dropOldest_27 3 rfl ?_
  refine g_get hX (v := .ref (h 1)) 0 inRX2 rfl rfl 0 rfl fl9 rfl rfl dX2_dropOldest_28 ?_
  refine g_iload_n hX dX2_dropOldest_31 0 rfl ?_
  refine g_aload_n hX dX2_dropOldest_32 3 rfl ?_
  refine g_get hX (v := .ref (h 1)) 0 inRX2 rfl rfl 0 rfl fl9 rfl rfl dX2_dropOldest_33 ?_
  refine g_iload_n hX dX2_dropOldest_36 0 rfl ?_
  refine g_iconst hX (nI 1) dX2_dropOldest_37 rfl ?_
  refine g_iadd hX (nI (5 + 1)) dX2_dropOldest_38 (nI_add _ _) ?_
  refine g_aald hX (.ref ((q 6) 0)) 1 4 rfl rfl (vp_in_nI (by decide) (by decide)) (by rw [nI_clamp (by decide)]; rfl) dX2_dropOldest_39 ?_
  refine g_aast hX (r := (RX0, TX0, 11)) (fun j => ([(q 1) 0, (q 2) 0, (q 3) 0, (q 4) 0, (q 5) 0, (q 6) 0, (q 6) 0, (q 7) 0] : List Nat)[j]?) (([(h 0, .inr (2, [.ref (h 1), .int (nI 8)]))] ++ ([(h 1, .inl (E.2.1 4, 8, .inr (.inr (.inr (.inr (fun j => ([(q 1) 0, (q 2) 0, (q 3) 0, (q 4) 0, (q 5) 0, (q 6) 0, (q 6) 0, (q 7) 0] : List Nat)[j]?))))))] ++ (fw E (q 0) (Q 0) ++ (fw E (q 1) (Q 1) ++ (fw E (q 2) (Q 2) ++ (fw E (q 3) (Q 3) ++ (fw E (q 4) (Q 4) ++ (fw E (q 5) (Q 5) ++ (fw E (q 6) (Q 6) ++ (fw E (q 7) (Q 7)))))))))))) 1 4 44 rfl rfl rfl rfl (vp_in_nI (by decide) (by decide)) (lf_set (L := ([(q 1) 0, (q 2) 0, (q 3) 0, (q 4) 0, (q 5) 0, (q 5) 0, (q 6) 0, (q 7) 0] : List Nat)) (i := 5) (Nat.le_of_ble_eq_true rfl) (by decide)) dX2_dropOldest_40 rfl ?_
  refine g_iinc hX (j := 3) (nI (5 + 1)) [(3, .int (nI (5 + 1))), (2, .ref ((q 0) 0)), (1, .int (nI 7)), (0, .ref (h 0))] dX2_dropOldest_41 0 rfl (iinc_n _ _) (by rw [hnL]; rfl) rfl ?_
  refine g_goto hX 22 dX2_dropOldest_44 (by decide) ?_
  refine g_iload_n hX dX2_dropOldest_22 0 rfl ?_
  refine g_iload_n hX dX2_dropOldest_23 2 rfl ?_
  refine g_icmp_ge hX 47 dX2_dropOldest_24 (by decide) (fun c24 => by first | exact absurd c24 (by decide) | exact absurd (by decide) c24) (fun _ => ?_)
  refine g_aload_n hX dX2_dropOldest_27 3 rfl ?_
  refine g_get hX (v := .ref (h 1)) 0 inRX2 rfl rfl 0 rfl fl9 rfl rfl dX2_dropOldest_28 ?_
  refine g_iload_n hX dX2_dropOldest_31 0 rfl ?_
  refine g_aload_n hX dX2_dropOldest_32 3 rfl ?_
  refine g_get hX (v := .ref (h 1)) 0 inRX2 rfl rfl 0 rfl fl9 rfl rfl dX2_dropOldest_33 ?_
  refine g_iload_n hX dX2_dropOldest_36 0 rfl ?_
  refine g_iconst hX (nI 1) dX2_dropOldest_37 rfl ?_
  refine g_iadd hX (nI (6 + 1)) dX2_dropOldest_38 (nI_add _ _) ?_
  refine g_aald hX (.ref ((q 7) 0)) 1 4 rfl rfl (vp_in_nI (by decide) (by decide)) (by rw [nI_clamp (by decide)]; rfl) dX2_dropOldest_39 ?_
  refine g_aast hX (r := (RX0, TX0, 11)) (fun j => ([(q 1) 0, (q 2) 0, (q 3) 0, (q 4) 0, (q 5) 0, (q 6) 0, (q 7) 0, (q 7) 0] : List Nat)[j]?) (([(h 0, .inr (2, [.ref (h 1), .int (nI 8)]))] ++ ([(h 1, .inl (E.2.1 4, 8, .inr (.inr (.inr (.inr (fun j => ([(q 1) 0, (q 2) 0, (q 3) 0, (q 4) 0, (q 5) 0, (q 6) 0, (q 7) 0, (q 7) 0] : List Nat)[j]?))))))] ++ (fw E (q 0) (Q 0) ++ (fw E (q 1) (Q 1) ++ (fw E (q 2) (Q 2) ++ (fw E (q 3) (Q 3) ++ (fw E (q 4) (Q 4) ++ (fw E (q 5) (Q 5) ++ (fw E (q 6) (Q 6) ++ (fw E (q 7) (Q 7)))))))))))) 1 4 51 rfl rfl rfl rfl (vp_in_nI (by decide) (by decide)) (lf_set (L := ([(q 1) 0, (q 2) 0, (q 3) 0, (q 4) 0, (q 5) 0, (q 6) 0, (q 6) 0, (q 7) 0] : List Nat)) (i := 6) (Nat.le_of_ble_eq_true rfl) (by decide)) dX2_dropOldest_40 rfl ?_
  refine g_iinc hX (j := 3) (nI (6 + 1)) [(3, .int (nI (6 + 1))), (2, .ref ((q 0) 0)), (1, .int (nI 7)), (0, .ref (h 0))] dX2_dropOldest_41 0 rfl (iinc_n _ _) (by rw [hnL]; rfl) rfl ?_
  refine g_goto hX 22 dX2_dropOldest_44 (by decide) ?_
  refine g_iload_n hX dX2_dropOldest_22 0 rfl ?_
  refine g_iload_n hX dX2_dropOldest_23 2 rfl ?_
  refine g_icmp_ge hX 47 dX2_dropOldest_24 (by decide) (fun _ => ?_) (fun c24 => by first | exact absurd c24 (by decide) | exact absurd (by decide) c24)
  refine g_aload_n hX dX2_dropOldest_47 3 rfl ?_
  refine g_get hX (v := .ref (h 1)) 0 inRX2 rfl rfl 0 rfl fl9 rfl rfl dX2_dropOldest_48 ?_
  refine g_iload_n hX dX2_dropOldest_51 2 rfl ?_
  refine g_aload_n hX dX2_dropOldest_52 1 rfl ?_
  refine g_aast hX (r := (RX0, TX0, 11)) (fun j => ([(q 1) 0, (q 2) 0, (q 3) 0, (q 4) 0, (q 5) 0, (q 6) 0, (q 7) 0, (q 0) 0] : List Nat)[j]?) (([(h 0, .inr (2, [.ref (h 1), .int (nI 8)]))] ++ ([(h 1, .inl (E.2.1 4, 8, .inr (.inr (.inr (.inr (fun j => ([(q 1) 0, (q 2) 0, (q 3) 0, (q 4) 0, (q 5) 0, (q 6) 0, (q 7) 0, (q 0) 0] : List Nat)[j]?))))))] ++ (fw E (q 0) (Q 0) ++ (fw E (q 1) (Q 1) ++ (fw E (q 2) (Q 2) ++ (fw E (q 3) (Q 3) ++ (fw E (q 4) (Q 4) ++ (fw E (q 5) (Q 5) ++ (fw E (q 6) (Q 6) ++ (fw E (q 7) (Q 7)))))))))))) 1 4 2 rfl rfl rfl rfl (vp_in_nI (by decide) (by decide)) (lf_set (L := ([(q 1) 0, (q 2) 0, (q 3) 0, (q 4) 0, (q 5) 0, (q 6) 0, (q 7) 0, (q 7) 0] : List Nat)) (i := 7) (Nat.le_of_ble_eq_true rfl) (by decide)) dX2_dropOldest_53 rfl ?_
  refine g_aload_n hX dX2_dropOldest_54 3 rfl ?_
  refine g_iload_n hX dX2_dropOldest_55 2 rfl ?_
  refine g_put hX (([(h 0, .inr (2, [.ref (h 1), .int (nI 7)]))] ++ ([(h 1, .inl (E.2.1 4, 8, .inr (.inr (.inr (.inr (fun j => ([(q 1) 0, (q 2) 0, (q 3) 0, (q 4) 0, (q 5) 0, (q 6) 0, (q 7) 0, (q 0) 0] : List Nat)[j]?))))))] ++ (fw E (q 0) (Q 0) ++ (fw E (q 1) (Q 1) ++ (fw E (q 2) (Q 2) ++ (fw E (q 3) (Q 3) ++ (fw E (q 4) (Q 4) ++ (fw E (q 5) (Q 5) ++ (fw E (q 6) (Q 6) ++ (fw E (q 7) (Q 7)))))))))))) 0 inRX2 tyX2_ok nmX2 rfl rfl 1 rfl fl16 rfl rfl rfl rfl rfl dX2_dropOldest_56 rfl ?_
  refine g_ws (pw8 E h (mkPV 7 (rotP 7 q) (rotP 7 Q))) [0, 1, 9, 10, 11, 12, 13, 14, 15, 16, 17, 18, 19, 20, 21, 22, 23, 24, 25, 26, 27, 28, 29, 30, 31, 32, 33, 34, 35, 36, 37, 38, 39, 40, 41, 42, 43, 44, 45, 46, 47, 48, 49, 50, 51, 52, 53, 54, 55, 56, 57, 2, 3, 4, 5, 6, 7, 8] (by decide +kernel) rfl ?_
  exact hret () _ _ trivial dX2_dropOldest_59
set_option maxHeartbeats 4000000 in
set_option maxRecDepth 100000 in
theorem c_X2_dropOldest (l : Launch) (E : EV) (h : Nat → Nat) (q : Nat → Nat → Nat) (Q : Nat → FC)  : KV l yX2_dropOldest wsX2_dropOldest (rmN 0) E (σ := Unit) [.ref (h 0)] (pw8 E h (mkPV 8 q Q)) (fun _ => True) (fun _ => pw8 E h (mkPV 7 (rotP 7 q) (rotP 7 Q))) 0 0 := by
  exact c_X2_dropOldest8_x l E h q Q
set_option maxHeartbeats 4000000 in
set_option maxRecDepth 100000 in
theorem c_X2_add8_8 (l : Launch) (E : EV) (h : Nat → Nat) (q : Nat → Nat → Nat) (Q : Nat → FC) (d : Nat → Nat) (C : FC)  : KV l yX2_add wsX2_add (rmA 2 0 0) E (σ := Unit) [.ref (h 0), .ref (d 0)] ((pw8 E h (mkPV 8 q Q)) ++ (fw E d C)) (fun _ => True) (fun _ => pw8 E h (mkPV 8 (rotP 7 q) (va_up (rotP 7 Q) 7 C)) ++ fw E d C) 0 0 := by
  refine KV.of (cc := cX2_add) (maxL := 2) rfl rfl rfl (fun x hX hin hret hnL => ?_)
  replace hX : CX x l cX2_add RX2 wsX2_add E (rmA 2 0 0) := hX
  show GG x 0 0 ((pw8 E h (mkPV 8 q Q)) ++ (fw E d C)) 0 [(0, .ref (h 0)), (1, .ref (d 0))] []
  have inRX2 : ∀ w ∈ wsX20, w ∈ wsX2_add := by decide +kernel
  have fl16 : Cond.fieldLink RX2 16 "LieForce$Pile" "size" "I" ∈ wsX2_add := by decide +kernel
  have fl9 : Cond.fieldLink RX2 9 "LieForce$Pile" "stood" "[LLieForce$Force;" ∈ wsX2_add := by decide +kernel
  refine g_aload_n hX dX2_add_0 0 rfl ?_
  refine g_get hX (v := .ref (h 1)) 0 inRX2 rfl rfl 0 rfl fl9 rfl rfl dX2_add_1 ?_
  refine g_alen hX (nI 8) 1 4 rfl rfl rfl dX2_add_4 ?_
  refine g_if_ne hX 9 dX2_add_5 (by decide) (fun _ => ?_) (fun c5 => by first | exact absurd c5 (by decide) | exact absurd (by decide) c5)
  refine g_aload_n hX dX2_add_9 0 rfl ?_
  refine g_get hX (v := .int (nI 8)) 0 inRX2 rfl rfl 1 rfl fl16 rfl rfl dX2_add_10 ?_
  refine g_aload_n hX dX2_add_13 0 rfl ?_
  refine g_get hX (v := .ref (h 1)) 0 inRX2 rfl rfl 0 rfl fl9 rfl rfl dX2_add_14 ?_
  refine g_alen hX (nI 8) 1 4 rfl rfl rfl dX2_add_17 ?_
  refine g_icmp_lt hX 25 dX2_add_18 (by decide) (fun c18 => by first | exact absurd c18 (by decide) | exact absurd (by decide) c18) (fun _ => ?_)
  refine g_aload_n hX dX2_add_21 0 rfl ?_
  have hc22 : CUT ((pw8 E h (mkPV 8 q Q)) ++ (fw E d C)) (pw8 E h (mkPV 8 q Q)) (fw E d C) [0, 1, 2, 3, 4, 5, 6, 7, 8, 9, 10, 11, 12, 13, 14, 15, 16, 17, 18, 19, 20, 21, 22, 23, 24, 25, 26, 27, 28, 29, 30, 31, 32, 33, 34, 35, 36, 37, 38, 39, 40, 41, 42, 43, 44, 45, 46, 47, 48, 49, 50, 51, 52, 53, 54, 55, 56, 57] [58, 59, 60, 61, 62, 63, 64] := ⟨rfl, rfl, rfl, rfl, rfl⟩
  refine g_VV hX hc22 [] [] (c_X2_dropOldest l E h q Q) gX2_add_X2_dropOldest calX2_dropOldest rfl rfl rfl rfl 0 rfl rfl rfl rfl dX2_add_22 rfl ⟨Nat.zero_le _, Nat.zero_le _⟩ (fun _ => (pw8 E h (mkPV 7 (rotP 7 q) (rotP 7 Q))) ++ (fw E d C)) [7, 8, 9, 10, 11, 12, 13, 14, 15, 16, 17, 18, 19, 20, 21, 22, 23, 24, 25, 26, 27, 28, 29, 30, 31, 32, 33, 34, 35, 36, 37, 38, 39, 40, 41, 42, 43, 44, 45, 46, 47, 48, 49, 50, 51, 52, 53, 54, 55, 56, 57, 58, 59, 60, 61, 62, 63, 64, 0, 1, 2, 3, 4, 5, 6] rfl (fun _ => rfl) (fun _ hu22 => ?_)
  refine g_eq (ws' := ([(h 0, .inr (2, [.ref (h 1), .int (nI 7)]))] ++ ([(h 1, .inl (E.2.1 4, 8, .inr (.inr (.inr (.inr (fun j => ([((rotP 7 q) 0) 0, ((rotP 7 q) 1) 0, ((rotP 7 q) 2) 0, ((rotP 7 q) 3) 0, ((rotP 7 q) 4) 0, ((rotP 7 q) 5) 0, ((rotP 7 q) 6) 0, ((rotP 7 q) 7) 0] : List Nat)[j]?))))))] ++ (fw E ((rotP 7 q) 0) ((rotP 7 Q) 0) ++ (fw E ((rotP 7 q) 1) ((rotP 7 Q) 1) ++ (fw E ((rotP 7 q) 2) ((rotP 7 Q) 2) ++ (fw E ((rotP 7 q) 3) ((rotP 7 Q) 3) ++ (fw E ((rotP 7 q) 4) ((rotP 7 Q) 4) ++ (fw E ((rotP 7 q) 5) ((rotP 7 Q) 5) ++ (fw E ((rotP 7 q) 6) ((rotP 7 Q) 6) ++ (fw E ((rotP 7 q) 7) ((rotP 7 Q) 7) ++ (fw E d C)))))))))))) rfl rfl rfl ?_
  refine g_aload_n hX dX2_add_25 0 rfl ?_
  refine g_get hX (v := .ref (h 1)) 0 inRX2 rfl rfl 0 rfl fl9 rfl rfl dX2_add_26 ?_
  refine g_aload_n hX dX2_add_29 0 rfl ?_
  refine g_get hX (v := .int (nI 7)) 0 inRX2 rfl rfl 1 rfl fl16 rfl rfl dX2_add_30 ?_
  refine g_aald hX (.ref (((rotP 7 q) 7) 0)) 1 4 rfl rfl (vp_in_nI (by decide) (by decide)) (by rw [nI_clamp (by decide)]; rfl) dX2_add_33 ?_
  refine g_aload_n hX dX2_add_34 1 rfl ?_
  have hc35 : CUT (([(h 0, .inr (2, [.ref (h 1), .int (nI 7)]))] ++ ([(h 1, .inl (E.2.1 4, 8, .inr (.inr (.inr (.inr (fun j => ([((rotP 7 q) 0) 0, ((rotP 7 q) 1) 0, ((rotP 7 q) 2) 0, ((rotP 7 q) 3) 0, ((rotP 7 q) 4) 0, ((rotP 7 q) 5) 0, ((rotP 7 q) 6) 0, ((rotP 7 q) 7) 0] : List Nat)[j]?))))))] ++ (fw E ((rotP 7 q) 0) ((rotP 7 Q) 0) ++ (fw E ((rotP 7 q) 1) ((rotP 7 Q) 1) ++ (fw E ((rotP 7 q) 2) ((rotP 7 Q) 2) ++ (fw E ((rotP 7 q) 3) ((rotP 7 Q) 3) ++ (fw E ((rotP 7 q) 4) ((rotP 7 Q) 4) ++ (fw E ((rotP 7 q) 5) ((rotP 7 Q) 5) ++ (fw E ((rotP 7 q) 6) ((rotP 7 Q) 6) ++ (fw E ((rotP 7 q) 7) ((rotP 7 Q) 7) ++ (fw E d C)))))))))))) ((fw E ((rotP 7 q) 7) ((rotP 7 Q) 7)) ++ (fw E d C)) (([(h 0, .inr (2, [.ref (h 1), .int (nI 7)]))] ++ ([(h 1, .inl (E.2.1 4, 8, .inr (.inr (.inr (.inr (fun j => ([((rotP 7 q) 0) 0, ((rotP 7 q) 1) 0, ((rotP 7 q) 2) 0, ((rotP 7 q) 3) 0, ((rotP 7 q) 4) 0, ((rotP 7 q) 5) 0, ((rotP 7 q) 6) 0, ((rotP 7 q) 7) 0] : List Nat)[j]?))))))] ++ (fw E ((rotP 7 q) 0) ((rotP 7 Q) 0) ++ (fw E ((rotP 7 q) 1) ((rotP 7 Q) 1) ++ (fw E ((rotP 7 q) 2) ((rotP 7 Q) 2) ++ (fw E ((rotP 7 q) 3) ((rotP 7 Q) 3) ++ (fw E ((rotP 7 q) 4) ((rotP 7 Q) 4) ++ (fw E ((rotP 7 q) 5) ((rotP 7 Q) 5) ++ (fw E ((rotP 7 q) 6) ((rotP 7 Q) 6))))))))))) [51, 52, 53, 54, 55, 56, 57, 58, 59, 60, 61, 62, 63, 64] [0, 1, 2, 3, 4, 5, 6, 7, 8, 9, 10, 11, 12, 13, 14, 15, 16, 17, 18, 19, 20, 21, 22, 23, 24, 25, 26, 27, 28, 29, 30, 31, 32, 33, 34, 35, 36, 37, 38, 39, 40, 41, 42, 43, 44, 45, 46, 47, 48, 49, 50] := ⟨rfl, rfl, rfl, rfl, rfl⟩
  refine g_VV hX hc35 [.ref (d 0)] [] (c_X0_copy l E ((rotP 7 q) 7) ((rotP 7 Q) 7) d C) gX2_add_X0_copy calX0_copy rfl rfl rfl rfl 51 rfl rfl rfl rfl dX2_add_35 rfl ⟨Nat.zero_le _, Nat.zero_le _⟩ (fun _ => ([(h 0, .inr (2, [.ref (h 1), .int (nI 7)]))] ++ ([(h 1, .inl (E.2.1 4, 8, .inr (.inr (.inr (.inr (fun j => ([((rotP 7 q) 0) 0, ((rotP 7 q) 1) 0, ((rotP 7 q) 2) 0, ((rotP 7 q) 3) 0, ((rotP 7 q) 4) 0, ((rotP 7 q) 5) 0, ((rotP 7 q) 6) 0, ((rotP 7 q) 7) 0] : List Nat)[j]?))))))] ++ (fw E ((rotP 7 q) 0) ((rotP 7 Q) 0) ++ (fw E ((rotP 7 q) 1) ((rotP 7 Q) 1) ++ (fw E ((rotP 7 q) 2) ((rotP 7 Q) 2) ++ (fw E ((rotP 7 q) 3) ((rotP 7 Q) 3) ++ (fw E ((rotP 7 q) 4) ((rotP 7 Q) 4) ++ (fw E ((rotP 7 q) 5) ((rotP 7 Q) 5) ++ (fw E ((rotP 7 q) 6) ((rotP 7 Q) 6) ++ (fw E ((rotP 7 q) 7) C ++ (fw E d C)))))))))))) [0, 1, 2, 3, 4, 5, 6, 7, 8, 9, 10, 11, 12, 13, 14, 15, 16, 17, 18, 19, 20, 21, 22, 23, 24, 25, 26, 27, 28, 29, 30, 31, 32, 33, 34, 35, 36, 37, 38, 39, 40, 41, 42, 43, 44, 45, 46, 47, 48, 49, 50, 51, 52, 53, 54, 55, 56, 57, 58, 59, 60, 61, 62, 63, 64] rfl (fun _ => rfl) (fun _ hu35 => ?_)
  refine g_aload_n hX dX2_add_38 0 rfl ?_
  refine g_dup hX dX2_add_39 rfl ?_
  refine g_get hX (v := .int (nI 7)) 0 inRX2 rfl rfl 1 rfl fl16 rfl rfl dX2_add_40 ?_
  refine g_iconst hX (nI 1) dX2_add_43 rfl ?_
  refine g_iadd hX (nI (7 + 1)) dX2_add_44 (nI_add _ _) ?_
  refine g_put hX (([(h 0, .inr (2, [.ref (h 1), .int (nI 8)]))] ++ ([(h 1, .inl (E.2.1 4, 8, .inr (.inr (.inr (.inr (fun j => ([((rotP 7 q) 0) 0, ((rotP 7 q) 1) 0, ((rotP 7 q) 2) 0, ((rotP 7 q) 3) 0, ((rotP 7 q) 4) 0, ((rotP 7 q) 5) 0, ((rotP 7 q) 6) 0, ((rotP 7 q) 7) 0] : List Nat)[j]?))))))] ++ (fw E ((rotP 7 q) 0) ((rotP 7 Q) 0) ++ (fw E ((rotP 7 q) 1) ((rotP 7 Q) 1) ++ (fw E ((rotP 7 q) 2) ((rotP 7 Q) 2) ++ (fw E ((rotP 7 q) 3) ((rotP 7 Q) 3) ++ (fw E ((rotP 7 q) 4) ((rotP 7 Q) 4) ++ (fw E ((rotP 7 q) 5) ((rotP 7 Q) 5) ++ (fw E ((rotP 7 q) 6) ((rotP 7 Q) 6) ++ (fw E ((rotP 7 q) 7) C ++ (fw E d C)))))))))))) 0 inRX2 tyX2_ok nmX2 rfl rfl 1 rfl fl16 rfl rfl rfl rfl rfl dX2_add_45 rfl ?_
  exact g_eq (show (([(h 0, .inr (2, [.ref (h 1), .int (nI 8)]))] ++ ([(h 1, .inl (E.2.1 4, 8, .inr (.inr (.inr (.inr (fun j => ([((rotP 7 q) 0) 0, ((rotP 7 q) 1) 0, ((rotP 7 q) 2) 0, ((rotP 7 q) 3) 0, ((rotP 7 q) 4) 0, ((rotP 7 q) 5) 0, ((rotP 7 q) 6) 0, ((rotP 7 q) 7) 0] : List Nat)[j]?))))))] ++ (fw E ((rotP 7 q) 0) ((rotP 7 Q) 0) ++ (fw E ((rotP 7 q) 1) ((rotP 7 Q) 1) ++ (fw E ((rotP 7 q) 2) ((rotP 7 Q) 2) ++ (fw E ((rotP 7 q) 3) ((rotP 7 Q) 3) ++ (fw E ((rotP 7 q) 4) ((rotP 7 Q) 4) ++ (fw E ((rotP 7 q) 5) ((rotP 7 Q) 5) ++ (fw E ((rotP 7 q) 6) ((rotP 7 Q) 6) ++ (fw E ((rotP 7 q) 7) C ++ (fw E d C))))))))))) : va_W) = pw8 E h (mkPV 8 (rotP 7 q) (va_up (rotP 7 Q) 7 C)) ++ fw E d C from rfl) rfl rfl (hret () _ _ trivial dX2_add_48)
set_option maxHeartbeats 4000000 in
set_option maxRecDepth 100000 in
theorem c_X2_clear8 (l : Launch) (E : EV) (h : Nat → Nat) (V : PV)  : KV l yX2_clear wsX2_clear (rmN 0) E (σ := Unit) [.ref (h 0)] (pw8 E h V) (fun _ => True) (fun _ => pw8 E h (pclr V)) 0 0 := by
  obtain ⟨z, q, Q⟩ := V
  exact c_X2_clear8_x l E h q Q z
set_option maxHeartbeats 4000000 in
set_option maxRecDepth 100000 in
theorem c_X2_add8 (l : Launch) (E : EV) (h : Nat → Nat) (V : PV) (d : Nat → Nat) (C : FC) (hz : pz V ≤ 8) : KV l yX2_add wsX2_add (rmN 2) E (σ := Unit) [.ref (h 0), .ref (d 0)] ((pw8 E h V) ++ (fw E d C)) (fun _ => True) (fun _ => (pw8 E h (padd8 V C)) ++ (fw E d C)) 0 0 := by
  obtain ⟨z, q, Q⟩ := V
  have hz2 : z = 0 ∨ z = 1 ∨ z = 2 ∨ z = 3 ∨ z = 4 ∨ z = 5 ∨ z = 6 ∨ z = 7 ∨ z = 8 := by have h : z ≤ 8 := hz; omega
  rcases hz2 with rfl | rfl | rfl | rfl | rfl | rfl | rfl | rfl | rfl
  · exact c_X2_add8_0 l E h q Q d C
  · exact c_X2_add8_1 l E h q Q d C
  · exact c_X2_add8_2 l E h q Q d C
  · exact c_X2_add8_3 l E h q Q d C
  · exact c_X2_add8_4 l E h q Q d C
  · exact c_X2_add8_5 l E h q Q d C
  · exact c_X2_add8_6 l E h q Q d C
  · exact c_X2_add8_7 l E h q Q d C
  · exact c_X2_add8_8 l E h q Q d C
set_option maxHeartbeats 4000000 in
set_option maxRecDepth 100000 in
theorem c_X2_takeLast8_n (l : Launch) (E : EV) (h : Nat → Nat) (V : PV) (d : Nat → Nat) (C : FC) (hz : pz V = 0) : KI l yX2_takeLast wsX2_takeLast (rmN 1) E (σ := Unit) [.ref (h 0), .ref (d 0)] ((pw8 E h V) ++ (fw E d C)) (fun _ => True) (fun _ => (bI false)) (fun _ => (pw8 E h V) ++ (fw E d C)) 0 0 := by
  obtain ⟨z, q, Q⟩ := V
  obtain rfl : z = 0 := hz
  exact c_X2_takeLast8_0 l E h q Q d C
set_option maxHeartbeats 4000000 in
set_option maxRecDepth 100000 in
theorem c_X2_takeLast8_y (l : Launch) (E : EV) (h : Nat → Nat) (V : PV) (d : Nat → Nat) (C : FC) (h0 : 0 < pz V) (hz : pz V ≤ 8) : KI l yX2_takeLast wsX2_takeLast (rmN 1) E (σ := Unit) [.ref (h 0), .ref (d 0)] ((pw8 E h V) ++ (fw E d C)) (fun _ => True) (fun _ => (bI true)) (fun _ => (pw8 E h (ptk V)) ++ (fw E d (pQ V (pz V - 1)))) 0 0 := by
  obtain ⟨z, q, Q⟩ := V
  have hz2 : z = 1 ∨ z = 2 ∨ z = 3 ∨ z = 4 ∨ z = 5 ∨ z = 6 ∨ z = 7 ∨ z = 8 := by have h : z ≤ 8 := hz; have h2 : 0 < z := h0; omega
  rcases hz2 with rfl | rfl | rfl | rfl | rfl | rfl | rfl | rfl
  · exact c_X2_takeLast8_1 l E h q Q d C
  · exact c_X2_takeLast8_2 l E h q Q d C
  · exact c_X2_takeLast8_3 l E h q Q d C
  · exact c_X2_takeLast8_4 l E h q Q d C
  · exact c_X2_takeLast8_5 l E h q Q d C
  · exact c_X2_takeLast8_6 l E h q Q d C
  · exact c_X2_takeLast8_7 l E h q Q d C
  · exact c_X2_takeLast8_8 l E h q Q d C
set_option maxHeartbeats 4000000 in
set_option maxRecDepth 100000 in
theorem c_X2_clear2 (l : Launch) (E : EV) (h : Nat → Nat) (V : PV)  : KV l yX2_clear wsX2_clear (rmN 0) E (σ := Unit) [.ref (h 0)] (pw2 E h V) (fun _ => True) (fun _ => pw2 E h (pclr V)) 0 0 := by
  obtain ⟨z, q, Q⟩ := V
  exact c_X2_clear2_x l E h q Q z
set_option maxHeartbeats 4000000 in
set_option maxRecDepth 100000 in
theorem c_X2_add2 (l : Launch) (E : EV) (h : Nat → Nat) (V : PV) (d : Nat → Nat) (C : FC) (hz : pz V < 2) : KV l yX2_add wsX2_add (rmN 2) E (σ := Unit) [.ref (h 0), .ref (d 0)] ((pw2 E h V) ++ (fw E d C)) (fun _ => True) (fun _ => (pw2 E h (padd2 V C)) ++ (fw E d C)) 0 0 := by
  obtain ⟨z, q, Q⟩ := V
  have hz2 : z = 0 ∨ z = 1 := by have h : z < 2 := hz; omega
  rcases hz2 with rfl | rfl
  · exact c_X2_add2_0 l E h q Q d C
  · exact c_X2_add2_1 l E h q Q d C
set_option maxHeartbeats 4000000 in
set_option maxRecDepth 100000 in
theorem c_X2_takeLast2_n (l : Launch) (E : EV) (h : Nat → Nat) (V : PV) (d : Nat → Nat) (C : FC) (hz : pz V = 0) : KI l yX2_takeLast wsX2_takeLast (rmN 1) E (σ := Unit) [.ref (h 0), .ref (d 0)] ((pw2 E h V) ++ (fw E d C)) (fun _ => True) (fun _ => (bI false)) (fun _ => (pw2 E h V) ++ (fw E d C)) 0 0 := by
  obtain ⟨z, q, Q⟩ := V
  obtain rfl : z = 0 := hz
  exact c_X2_takeLast2_0 l E h q Q d C
set_option maxHeartbeats 4000000 in
set_option maxRecDepth 100000 in
theorem c_X2_takeLast2_y (l : Launch) (E : EV) (h : Nat → Nat) (V : PV) (d : Nat → Nat) (C : FC) (h0 : 0 < pz V) (hz : pz V ≤ 2) : KI l yX2_takeLast wsX2_takeLast (rmN 1) E (σ := Unit) [.ref (h 0), .ref (d 0)] ((pw2 E h V) ++ (fw E d C)) (fun _ => True) (fun _ => (bI true)) (fun _ => (pw2 E h (ptk V)) ++ (fw E d (pQ V (pz V - 1)))) 0 0 := by
  obtain ⟨z, q, Q⟩ := V
  have hz2 : z = 1 ∨ z = 2 := by have h : z ≤ 2 := hz; have h2 : 0 < z := h0; omega
  rcases hz2 with rfl | rfl
  · exact c_X2_takeLast2_1 l E h q Q d C
  · exact c_X2_takeLast2_2 l E h q Q d C
set_option maxHeartbeats 4000000 in
set_option maxRecDepth 100000 in
theorem c_X2_init8 (l : Launch) (E : EV) (p : Nat)  : KV2 l yX2_init wsX2_init (rmA 2 57 528) E (σ := (Nat → Nat) × (Nat → Nat → Nat)) [.ref p, .int (nI 8)] ([(p, .inr (2, [.null, .int (nI 0)]))]) (fun u => u.1 0 = p) (fun u => pw8 E u.1 (mkPV 0 u.2 (fun _ => FC0))) 57 528 := by
  refine KV2.of (cc := cX2_init) (maxL := 3) rfl rfl rfl (fun x hX hin hret hnL hAO => ?_)
  replace hX : CX x l cX2_init RX2 wsX2_init E (rmA 2 57 528) := hX
  show GG x 0 0 ([(p, .inr (2, [.null, .int (nI 0)]))]) 0 [(0, .ref p), (1, .int (nI 8))] []
  have inRX0 : ∀ w ∈ wsX00, w ∈ wsX2_init := by decide +kernel
  have inRX2 : ∀ w ∈ wsX20, w ∈ wsX2_init := by decide +kernel
  have fl9 : Cond.fieldLink RX2 9 "LieForce$Pile" "stood" "[LLieForce$Force;" ∈ wsX2_init := by decide +kernel
  refine g_aload_n hX dX2_init_0 0 rfl ?_
  refine g_obj hX (by decide +kernel) (by decide +kernel) (by decide +kernel) rfl dX2_init_1 ?_
  refine g_aload_n hX dX2_init_4 0 rfl ?_
  refine g_iload_n hX dX2_init_5 1 rfl ?_
  refine g_if_ge hX 13 dX2_init_6 (by decide) (fun _ => ?_) (fun c6 => by first | exact absurd c6 (by decide) | exact absurd (by decide) c6)
  refine g_iload_n hX dX2_init_13 1 rfl ?_
  refine g_newq hX (CN := RX0) 4 (by decide +kernel) hAO rfl (by decide) (by rw [nI_clamp (by decide)]) (Nat.le_of_ble_eq_true rfl) ⟨Nat.le_of_ble_eq_true rfl, Nat.le_of_ble_eq_true rfl⟩ dX2_init_14 (fun q14_6 => ?_)
  refine g_eq (ws' := ([(p, .inr (2, [.null, .int (nI 0)]))]) ++ ([(q14_6, .inl (E.2.1 4, 8, .inr (.inr (.inr (.inr (fun j => ([] : List Nat)[j]?))))))])) rfl rfl rfl ?_
  refine g_putF hX (([(p, .inr (2, [.ref q14_6, .int (nI 0)]))]) ++ ([(q14_6, .inl (E.2.1 4, 8, .inr (.inr (.inr (.inr (fun j => ([] : List Nat)[j]?))))))])) 0 hin inRX2 tyX2_ok nmX2 rfl rfl 0 rfl fl9 rfl rfl rfl rfl rfl rfl dX2_init_17 rfl ?_
  refine g_iconst hX (nI 0) dX2_init_20 rfl ?_
  refine g_istore_n hX (j := 2) [(2, .int (nI 0)), (0, .ref p), (1, .int (nI 8))] dX2_init_21 rfl (by rw [hnL]; rfl) rfl ?_
  refine g_iload_n hX dX2_init_22 0 rfl ?_
  refine g_aload_n hX dX2_init_23 1 rfl ?_
  refine g_get hX (v := .ref q14_6) 0 inRX2 rfl rfl 0 rfl fl9 rfl rfl dX2_init_24 ?_
  refine g_alen hX (nI 8) 1 4 rfl rfl rfl dX2_init_27 ?_
  refine g_icmp_ge hX 50 dX2_init_28 (by decide) (fun c28 => by first | exact absurd c28 (by decide) | exact absurd (by decide) c28) (fun _ => ?_)
  refine g_aload_n hX dX2_init_31 1 rfl ?_
  refine g_get hX (v := .ref q14_6) 0 inRX2 rfl rfl 0 rfl fl9 rfl rfl dX2_init_32 ?_
  refine g_iload_n hX dX2_init_35 0 rfl ?_
  refine g_new hX (ci := 0) [.int (nI 0), .int (nI 0), .int (nI 0), .int (nI 0), .int (nI 0), .null, .null, .null, .null, .null, .null] inRX0 tyX0_ok (by decide +kernel) (by decide +kernel) (by decide +kernel) rfl (fun j hj => by rcases (show j = 0 ∨ j = 1 ∨ j = 2 ∨ j = 3 ∨ j = 4 ∨ j = 5 ∨ j = 6 ∨ j = 7 ∨ j = 8 ∨ j = 9 ∨ j = 10 by omega) with rfl | rfl | rfl | rfl | rfl | rfl | rfl | rfl | rfl | rfl | rfl <;> rfl) ⟨Nat.le_of_ble_eq_true rfl, Nat.le_of_ble_eq_true rfl⟩ dX2_init_36 (fun q36_19 => ?_)
  refine g_eq (ws' := ([(p, .inr (2, [.ref q14_6, .int (nI 0)]))] ++ ([(q14_6, .inl (E.2.1 4, 8, .inr (.inr (.inr (.inr (fun j => ([] : List Nat)[j]?))))))] ++ ([(q36_19, .inr (0, [.int (nI 0), .int (nI 0), .int (nI 0), .int (nI 0), .int (nI 0), .null, .null, .null, .null, .null, .null]))])))) rfl rfl rfl ?_
  refine g_dup hX dX2_init_39 rfl ?_
  have hc40_22 : CUT (([(p, .inr (2, [.ref q14_6, .int (nI 0)]))] ++ ([(q14_6, .inl (E.2.1 4, 8, .inr (.inr (.inr (.inr (fun j => ([] : List Nat)[j]?))))))] ++ ([(q36_19, .inr (0, [.int (nI 0), .int (nI 0), .int (nI 0), .int (nI 0), .int (nI 0), .null, .null, .null, .null, .null, .null]))])))) ([(q36_19, .inr (0, [.int (nI 0), .int (nI 0), .int (nI 0), .int (nI 0), .int (nI 0), .null, .null, .null, .null, .null, .null]))]) (([(p, .inr (2, [.ref q14_6, .int (nI 0)]))]) ++ ([(q14_6, .inl (E.2.1 4, 8, .inr (.inr (.inr (.inr (fun j => ([] : List Nat)[j]?))))))])) [2] [0, 1] := ⟨rfl, rfl, rfl, rfl, rfl⟩
  refine g_JVa hX hc40_22 [] [.ref q36_19, .int (nI 0), .ref q14_6] (c_X0_init l E q36_19) gX2_init_X0_init_n15 calX0_init rfl rfl (by decide +kernel) (by decide +kernel) (by decide +kernel) rfl rfl rfl dX2_init_40 rfl ⟨Nat.le_of_ble_eq_true rfl, Nat.le_of_ble_eq_true rfl⟩ (fun u40_22 => ([(p, .inr (2, [.ref q14_6, .int (nI 0)]))] ++ ([(q14_6, .inl (E.2.1 4, 8, .inr (.inr (.inr (.inr (fun j => ([] : List Nat)[j]?))))))] ++ (fw E u40_22 FC0)))) [0, 1, 2, 3, 4, 5, 6, 7, 8] rfl (fun _ => rfl) (fun u40_22 hu40_22 => ?_)
  replace hu40_22 : u40_22 0 = q36_19 := hu40_22
  subst hu40_22
  refine g_aast hX (r := (RX0, TX0, 11)) (fun j => ([u40_22 0] : List Nat)[j]?) (([(p, .inr (2, [.ref q14_6, .int (nI 0)]))] ++ ([(q14_6, .inl (E.2.1 4, 8, .inr (.inr (.inr (.inr (fun j => ([u40_22 0] : List Nat)[j]?))))))] ++ (fw E u40_22 FC0)))) 1 4 2 rfl rfl rfl rfl (vp_in_nI (by decide) (by decide)) (lf_push (L := ([] : List Nat)) (Nat.le_of_ble_eq_true rfl)) dX2_init_43 rfl ?_
  refine g_iinc hX (j := 2) (nI (0 + 1)) [(2, .int (nI (0 + 1))), (0, .ref p), (1, .int (nI 8))] dX2_init_44 0 rfl (iinc_n _ _) (by rw [hnL]; rfl) rfl ?_
  refine g_goto hX 22 dX2_init_47 (by decide) ?_
  refine g_iload_n hX dX2_init_22 0 rfl ?_
  refine g_aload_n hX dX2_init_23 1 rfl ?_
  refine g_get hX (v := .ref q14_6) 0 inRX2 rfl rfl 0 rfl fl9 rfl rfl dX2_init_24 ?_
  refine g_alen hX (nI 8) 1 4 rfl rfl rfl dX2_init_27 ?_
  refine g_icmp_ge hX 50 dX2_init_28 (by decide) (fun c28 => by first | exact absurd c28 (by decide) | exact absurd (by decide) c28) (fun _ => ?_)
  refine g_aload_n hX dX2_init_31 1 rfl ?_
  refine g_get hX (v := .ref q14_6) 0 inRX2 rfl rfl 0 rfl fl9 rfl rfl dX2_init_32 ?_
  refine g_iload_n hX dX2_init_35 0 rfl ?_
  refine g_new hX (ci := 0) [.int (nI 0), .int (nI 0), .int (nI 0), .int (nI 0), .int (nI 0), .null, .null, .null, .null, .null, .null] inRX0 tyX0_ok (by decide +kernel) (by decide +kernel) (by decide +kernel) rfl (fun j hj => by rcases (show j = 0 ∨ j = 1 ∨ j = 2 ∨ j = 3 ∨ j = 4 ∨ j = 5 ∨ j = 6 ∨ j = 7 ∨ j = 8 ∨ j = 9 ∨ j = 10 by omega) with rfl | rfl | rfl | rfl | rfl | rfl | rfl | rfl | rfl | rfl | rfl <;> rfl) ⟨Nat.le_of_ble_eq_true rfl, Nat.le_of_ble_eq_true rfl⟩ dX2_init_36 (fun q36_37 => ?_)
  refine g_eq (ws' := ([(p, .inr (2, [.ref q14_6, .int (nI 0)]))] ++ ([(q14_6, .inl (E.2.1 4, 8, .inr (.inr (.inr (.inr (fun j => ([u40_22 0] : List Nat)[j]?))))))] ++ (fw E u40_22 FC0 ++ ([(q36_37, .inr (0, [.int (nI 0), .int (nI 0), .int (nI 0), .int (nI 0), .int (nI 0), .null, .null, .null, .null, .null, .null]))]))))) rfl rfl rfl ?_
  refine g_dup hX dX2_init_39 rfl ?_
  have hc40_40 : CUT (([(p, .inr (2, [.ref q14_6, .int (nI 0)]))] ++ ([(q14_6, .inl (E.2.1 4, 8, .inr (.inr (.inr (.inr (fun j => ([u40_22 0] : List Nat)[j]?))))))] ++ (fw E u40_22 FC0 ++ ([(q36_37, .inr (0, [.int (nI 0), .int (nI 0), .int (nI 0), .int (nI 0), .int (nI 0), .null, .null, .null, .null, .null, .null]))]))))) ([(q36_37, .inr (0, [.int (nI 0), .int (nI 0), .int (nI 0), .int (nI 0), .int (nI 0), .null, .null, .null, .null, .null, .null]))]) (([(p, .inr (2, [.ref q14_6, .int (nI 0)]))] ++ ([(q14_6, .inl (E.2.1 4, 8, .inr (.inr (.inr (.inr (fun j => ([u40_22 0] : List Nat)[j]?))))))] ++ (fw E u40_22 FC0)))) [9] [0, 1, 2, 3, 4, 5, 6, 7, 8] := ⟨rfl, rfl, rfl, rfl, rfl⟩
  refine g_JVa hX hc40_40 [] [.ref q36_37, .int (nI 1), .ref q14_6] (c_X0_init l E q36_37) gX2_init_X0_init_n15 calX0_init rfl rfl (by decide +kernel) (by decide +kernel) (by decide +kernel) rfl rfl rfl dX2_init_40 rfl ⟨Nat.le_of_ble_eq_true rfl, Nat.le_of_ble_eq_true rfl⟩ (fun u40_40 => ([(p, .inr (2, [.ref q14_6, .int (nI 0)]))] ++ ([(q14_6, .inl (E.2.1 4, 8, .inr (.inr (.inr (.inr (fun j => ([u40_22 0] : List Nat)[j]?))))))] ++ (fw E u40_22 FC0 ++ (fw E u40_40 FC0))))) [0, 1, 2, 3, 4, 5, 6, 7, 8, 9, 10, 11, 12, 13, 14, 15] rfl (fun _ => rfl) (fun u40_40 hu40_40 => ?_)
  replace hu40_40 : u40_40 0 = q36_37 := hu40_40
  subst hu40_40
  refine g_aast hX (r := (RX0, TX0, 11)) (fun j => ([u40_22 0, u40_40 0] : List Nat)[j]?) (([(p, .inr (2, [.ref q14_6, .int (nI 0)]))] ++ ([(q14_6, .inl (E.2.1 4, 8, .inr (.inr (.inr (.inr (fun j => ([u40_22 0, u40_40 0] : List Nat)[j]?))))))] ++ (fw E u40_22 FC0 ++ (fw E u40_40 FC0))))) 1 4 9 rfl rfl rfl rfl (vp_in_nI (by decide) (by decide)) (lf_push (L := ([u40_22 0] : List Nat)) (Nat.le_of_ble_eq_true rfl)) dX2_init_43 rfl ?_
  refine g_iinc hX (j := 2) (nI (1 + 1)) [(2, .int (nI (1 + 1))), (0, .ref p), (1, .int (nI 8))] dX2_init_44 0 rfl (iinc_n _ _) (by rw [hnL]; rfl) rfl ?_
  refine g_goto hX 22 dX2_init_47 (by decide) ?_
  refine g_iload_n hX dX2_init_22 0 rfl ?_
  refine g_aload_n hX dX2_init_23 1 rfl ?_
  refine g_get hX (v := .ref q14_6) 0 inRX2 rfl rfl 0 rfl fl9 rfl rfl dX2_init_24 ?_
  refine g_alen hX (nI 8) 1 4 rfl rfl rfl dX2_init_27 ?_
  refine g_icmp_ge hX 50 dX2_init_28 (by decide) (fun c28 => by first | exact absurd c28 (by decide) | exact absurd (by decide) c28) (fun _ => ?_)
  refine g_aload_n hX dX2_init_31 1 rfl ?_
  refine g_get hX (v := .ref q14_6) 0 inRX2 rfl rfl 0 rfl fl9 rfl rfl dX2_init_32 ?_
  refine g_iload_n hX dX2_init_35 0 rfl ?_
  refine g_new hX (ci := 0) [.int (nI 0), .int (nI 0), .int (nI 0), .int (nI 0), .int (nI 0), .null, .null, .null, .null, .null, .null] inRX0 tyX0_ok (by decide +kernel) (by decide +kernel) (by decide +kernel) rfl (fun j hj => by rcases (show j = 0 ∨ j = 1 ∨ j = 2 ∨ j = 3 ∨ j = 4 ∨ j = 5 ∨ j = 6 ∨ j = 7 ∨ j = 8 ∨ j = 9 ∨ j = 10 by omega) with rfl | rfl | rfl | rfl | rfl | rfl | rfl | rfl | rfl | rfl | rfl <;> rfl) ⟨Nat.le_of_ble_eq_true rfl, Nat.le_of_ble_eq_true rfl⟩ dX2_init_36 (fun q36_55 => ?_)
  refine g_eq (ws' := ([(p, .inr (2, [.ref q14_6, .int (nI 0)]))] ++ ([(q14_6, .inl (E.2.1 4, 8, .inr (.inr (.inr (.inr (fun j => ([u40_22 0, u40_40 0] : List Nat)[j]?))))))] ++ (fw E u40_22 FC0 ++ (fw E u40_40 FC0 ++ ([(q36_55, .inr (0, [.int (nI 0), .int (nI 0), .int (nI 0), .int (nI 0), .int (nI 0), .null, .null, .null, .null, .null, .null]))])))))) rfl rfl rfl ?_
  refine g_dup hX dX2_init_39 rfl ?_
  have hc40_58 : CUT (([(p, .inr (2, [.ref q14_6, .int (nI 0)]))] ++ ([(q14_6, .inl (E.2.1 4, 8, .inr (.inr (.inr (.inr (fun j => ([u40_22 0, u40_40 0] : List Nat)[j]?))))))] ++ (fw E u40_22 FC0 ++ (fw E u40_40 FC0 ++ ([(q36_55, .inr (0, [.int (nI 0), .int (nI 0), .int (nI 0), .int (nI 0), .int (nI 0), .null, .null, .null, .null, .null, .null]))])))))) ([(q36_55, .inr (0, [.int (nI 0), .int (nI 0), .int (nI 0), .int (nI 0), .int (nI 0), .null, .null, .null, .null, .null, .null]))]) (([(p, .inr (2, [.ref q14_6, .int (nI 0)]))] ++ ([(q14_6, .inl (E.2.1 4, 8, .inr (.inr (.inr (.inr (fun j => ([u40_22 0, u40_40 0] : List Nat)[j]?))))))] ++ (fw E u40_22 FC0 ++ (fw E u40_40 FC0))))) [16] [0, 1, 2, 3, 4, 5, 6, 7, 8, 9, 10, 11, 12, 13, 14, 15] := ⟨rfl, rfl, rfl, rfl, rfl⟩
  refine g_JVa hX hc40_58 [] [.ref q36_55, .int (nI 2), .ref q14_6] (c_X0_init l E q36_55) gX2_init_X0_init_n15 calX0_init rfl rfl (by decide +kernel) (by decide +kernel) (by decide +kernel) rfl rfl rfl dX2_init_40 rfl ⟨Nat.le_of_ble_eq_true rfl, Nat.le_of_ble_eq_true rfl⟩ (fun u40_58 => ([(p, .inr (2, [.ref q14_6, .int (nI 0)]))] ++ ([(q14_6, .inl (E.2.1 4, 8, .inr (.inr (.inr (.inr (fun j => ([u40_22 0, u40_40 0] : List Nat)[j]?))))))] ++ (fw E u40_22 FC0 ++ (fw E u40_40 FC0 ++ (fw E u40_58 FC0)))))) [0, 1, 2, 3, 4, 5, 6, 7, 8, 9, 10, 11, 12, 13, 14, 15, 16, 17, 18, 19, 20, 21, 22] rfl (fun _ => rfl) (fun u40_58 hu40_58 => ?_)
  replace hu40_58 : u40_58 0 = q36_55 := hu40_58
  subst hu40_58
  refine g_aast hX (r := (RX0, TX0, 11)) (fun j => ([u40_22 0, u40_40 0, u40_58 0] : List Nat)[j]?) (([(p, .inr (2, [.ref q14_6, .int (nI 0)]))] ++ ([(q14_6, .inl (E.2.1 4, 8, .inr (.inr (.inr (.inr (fun j => ([u40_22 0, u40_40 0, u40_58 0] : List Nat)[j]?))))))] ++ (fw E u40_22 FC0 ++ (fw E u40_40 FC0 ++ (fw E u40_58 FC0)))))) 1 4 16 rfl rfl rfl rfl (vp_in_nI (by decide) (by decide)) (lf_push (L := ([u40_22 0, u40_40 0] : List Nat)) (Nat.le_of_ble_eq_true rfl)) dX2_init_43 rfl ?_
  refine g_iinc hX (j := 2) (nI (2 + 1)) [(2, .int (nI (2 + 1))), (0, .ref p), (1, .int (nI 8))] dX2_init_44 0 rfl (iinc_n _ _) (by rw [hnL]; rfl) rfl ?_
  refine g_goto hX 22 dX2_init_47 (by decide) ?_
  refine g_iload_n hX dX2_init_22 0 rfl ?_
  refine g_aload_n hX dX2_init_23 1 rfl ?_
  refine g_get hX (v := .ref q14_6) 0 inRX2 rfl rfl 0 rfl fl9 rfl rfl dX2_init_24 ?_
  refine g_alen hX (nI 8) 1 4 rfl rfl rfl dX2_init_27 ?_
  refine g_icmp_ge hX 50 dX2_init_28 (by decide) (fun c28 => by first | exact absurd c28 (by decide) | exact absurd (by decide) c28) (fun _ => ?_)
  refine g_aload_n hX dX2_init_31 1 rfl ?_
  refine g_get hX (v := .ref q14_6) 0 inRX2 rfl rfl 0 rfl fl9 rfl rfl dX2_init_32 ?_
  refine g_iload_n hX dX2_init_35 0 rfl ?_
  refine g_new hX (ci := 0) [.int (nI 0), .int (nI 0), .int (nI 0), .int (nI 0), .int (nI 0), .null, .null, .null, .null, .null, .null] inRX0 tyX0_ok (by decide +kernel) (by decide +kernel) (by decide +kernel) rfl (fun j hj => by rcases (show j = 0 ∨ j = 1 ∨ j = 2 ∨ j = 3 ∨ j = 4 ∨ j = 5 ∨ j = 6 ∨ j = 7 ∨ j = 8 ∨ j = 9 ∨ j = 10 by omega) with rfl | rfl | rfl | rfl | rfl | rfl | rfl | rfl | rfl | rfl | rfl <;> rfl) ⟨Nat.le_of_ble_eq_true rfl, Nat.le_of_ble_eq_true rfl⟩ dX2_init_36 (fun q36_73 => ?_)
  refine g_eq (ws' := ([(p, .inr (2, [.ref q14_6, .int (nI 0)]))] ++ ([(q14_6, .inl (E.2.1 4, 8, .inr (.inr (.inr (.inr (fun j => ([u40_22 0, u40_40 0, u40_58 0] : List Nat)[j]?))))))] ++ (fw E u40_22 FC0 ++ (fw E u40_40 FC0 ++ (fw E u40_58 FC0 ++ ([(q36_73, .inr (0, [.int (nI 0), .int (nI 0), .int (nI 0), .int (nI 0), .int (nI 0), .null, .null, .null, .null, .null, .null]))]))))))) rfl rfl rfl ?_
  refine g_dup hX dX2_init_39 rfl ?_
  have hc40_76 : CUT (([(p, .inr (2, [.ref q14_6, .int (nI 0)]))] ++ ([(q14_6, .inl (E.2.1 4, 8, .inr (.inr (.inr (.inr (fun j => ([u40_22 0, u40_40 0, u40_58 0] : List Nat)[j]?))))))] ++ (fw E u40_22 FC0 ++ (fw E u40_40 FC0 ++ (fw E u40_58 FC0 ++ ([(q36_73, .inr (0, [.int (nI 0), .int (nI 0), .int (nI 0), .int (nI 0), .int (nI 0), .null, .null, .null, .null, .null, .null]))]))))))) ([(q36_73, .inr (0, [.int (nI 0), .int (nI 0), .int (nI 0), .int (nI 0), .int (nI 0), .null, .null, .null, .null, .null, .null]))]) (([(p, .inr (2, [.ref q14_6, .int (nI 0)]))] ++ ([(q14_6, .inl (E.2.1 4, 8, .inr (.inr (.inr (.inr (fun j => ([u40_22 0, u40_40 0, u40_58 0] : List Nat)[j]?))))))] ++ (fw E u40_22 FC0 ++ (fw E u40_40 FC0 ++ (fw E u40_58 FC0)))))) [23] [0, 1, 2, 3, 4, 5, 6, 7, 8, 9, 10, 11, 12, 13, 14, 15, 16, 17, 18, 19, 20, 21, 22] := ⟨rfl, rfl, rfl, rfl, rfl⟩
  refine g_JVa hX hc40_76 [] [.ref q36_73, .int (nI 3), .ref q14_6] (c_X0_init l E q36_73) gX2_init_X0_init_n15 calX0_init rfl rfl (by decide +kernel) (by decide +kernel) (by decide +kernel) rfl rfl rfl dX2_init_40 rfl ⟨Nat.le_of_ble_eq_true rfl, Nat.le_of_ble_eq_true rfl⟩ (fun u40_76 => ([(p, .inr (2, [.ref q14_6, .int (nI 0)]))] ++ ([(q14_6, .inl (E.2.1 4, 8, .inr (.inr (.inr (.inr (fun j => ([u40_22 0, u40_40 0, u40_58 0] : List Nat)[j]?))))))] ++ (fw E u40_22 FC0 ++ (fw E u40_40 FC0 ++ (fw E u40_58 FC0 ++ (fw E u40_76 FC0))))))) [0, 1, 2, 3, 4, 5, 6, 7, 8, 9, 10, 11, 12, 13, 14, 15, 16, 17, 18, 19, 20, 21, 22, 23, 24, 25, 26, 27, 28, 29] rfl (fun _ => rfl) (fun u40_76 hu40_76 => ?_)
  replace hu40_76 : u40_76 0 = q36_73 := hu40_76
  subst hu40_76
  refine g_aast hX (r := (RX0, TX0, 11)) (fun j => ([u40_22 0, u40_40 0, u40_58 0, u40_76 0] : List Nat)[j]?) (([(p, .inr (2, [.ref q14_6, .int (nI 0)]))] ++ ([(q14_6, .inl (E.2.1 4, 8, .inr (.inr (.inr (.inr (fun j => ([u40_22 0, u40_40 0, u40_58 0, u40_76 0] : List Nat)[j]?))))))] ++ (fw E u40_22 FC0 ++ (fw E u40_40 FC0 ++ (fw E u40_58 FC0 ++ (fw E u40_76 FC0))))))) 1 4 23 rfl rfl rfl rfl (vp_in_nI (by decide) (by decide)) (lf_push (L := ([u40_22 0, u40_40 0, u40_58 0] : List Nat)) (Nat.le_of_ble_eq_true rfl)) dX2_init_43 rfl ?_
  refine g_iinc hX (j := 2) (nI (3 + 1)) [(2, .int (nI (3 + 1))), (0, .ref p), (1, .int (nI 8))] dX2_init_44 0 rfl (iinc_n _ _) (by rw [hnL]; rfl) rfl ?_
  refine g_goto hX 22 dX2_init_47 (by decide) ?_
  refine g_iload_n hX dX2_init_22 0 rfl ?_
  refine g_aload_n hX dX2_init_23 1 rfl ?_
  refine g_get hX (v := .ref q14_6) 0 inRX2 rfl rfl 0 rfl fl9 rfl rfl dX2_init_24 ?_
  refine g_alen hX (nI 8) 1 4 rfl rfl rfl dX2_init_27 ?_
  refine g_icmp_ge hX 50 dX2_init_28 (by decide) (fun c28 => by first | exact absurd c28 (by decide) | exact absurd (by decide) c28) (fun _ => ?_)
  refine g_aload_n hX dX2_init_31 1 rfl ?_
  refine g_get hX (v := .ref q14_6) 0 inRX2 rfl rfl 0 rfl fl9 rfl rfl dX2_init_32 ?_
  refine g_iload_n hX dX2_init_35 0 rfl ?_
  refine g_new hX (ci := 0) [.int (nI 0), .int (nI 0), .int (nI 0), .int (nI 0), .int (nI 0), .null, .null, .null, .null, .null, .null] inRX0 tyX0_ok (by decide +kernel) (by decide +kernel) (by decide +kernel) rfl (fun j hj => by rcases (show j = 0 ∨ j = 1 ∨ j = 2 ∨ j = 3 ∨ j = 4 ∨ j = 5 ∨ j = 6 ∨ j = 7 ∨ j = 8 ∨ j = 9 ∨ j = 10 by omega) with rfl | rfl | rfl | rfl | rfl | rfl | rfl | rfl | rfl | rfl | rfl <;> rfl) ⟨Nat.le_of_ble_eq_true rfl, Nat.le_of_ble_eq_true rfl⟩ dX2_init_36 (fun q36_91 => ?_)
  refine g_eq (ws' := ([(p, .inr (2, [.ref q14_6, .int (nI 0)]))] ++ ([(q14_6, .inl (E.2.1 4, 8, .inr (.inr (.inr (.inr (fun j => ([u40_22 0, u40_40 0, u40_58 0, u40_76 0] : List Nat)[j]?))))))] ++ (fw E u40_22 FC0 ++ (fw E u40_40 FC0 ++ (fw E u40_58 FC0 ++ (fw E u40_76 FC0 ++ ([(q36_91, .inr (0, [.int (nI 0), .int (nI 0), .int (nI 0), .int (nI 0), .int (nI 0), .null, .null, .null, .null, .null, .null]))])))))))) rfl rfl rfl ?_
  refine g_dup hX dX2_init_39 rfl ?_
  have hc40_94 : CUT (([(p, .inr (2, [.ref q14_6, .int (nI 0)]))] ++ ([(q14_6, .inl (E.2.1 4, 8, .inr (.inr (.inr (.inr (fun j => ([u40_22 0, u40_40 0, u40_58 0, u40_76 0] : List Nat)[j]?))))))] ++ (fw E u40_22 FC0 ++ (fw E u40_40 FC0 ++ (fw E u40_58 FC0 ++ (fw E u40_76 FC0 ++ ([(q36_91, .inr (0, [.int (nI 0), .int (nI 0), .int (nI 0), .int (nI 0), .int (nI 0), .null, .null, .null, .null, .null, .null]))])))))))) ([(q36_91, .inr (0, [.int (nI 0), .int (nI 0), .int (nI 0), .int (nI 0), .int (nI 0), .null, .null, .null, .null, .null, .null]))]) (([(p, .inr (2, [.ref q14_6, .int (nI 0)]))] ++ ([(q14_6, .inl (E.2.1 4, 8, .inr (.inr (.inr (.inr (fun j => ([u40_22 0, u40_40 0, u40_58 0, u40_76 0] : List Nat)[j]?))))))] ++ (fw E u40_22 FC0 ++ (fw E u40_40 FC0 ++ (fw E u40_58 FC0 ++ (fw E u40_76 FC0))))))) [30] [0, 1, 2, 3, 4, 5, 6, 7, 8, 9, 10, 11, 12, 13, 14, 15, 16, 17, 18, 19, 20, 21, 22, 23, 24, 25, 26, 27, 28, 29] := ⟨rfl, rfl, rfl, rfl, rfl⟩
  refine g_JVa hX hc40_94 [] [.ref q36_91, .int (nI 4), .ref q14_6] (c_X0_init l E q36_91) gX2_init_X0_init_n15 calX0_init rfl rfl (by decide +kernel) (by decide +kernel) (by decide +kernel) rfl rfl rfl dX2_init_40 rfl ⟨Nat.le_of_ble_eq_true rfl, Nat.le_of_ble_eq_true rfl⟩ (fun u40_94 => ([(p, .inr (2, [.ref q14_6, .int (nI 0)]))] ++ ([(q14_6, .inl (E.2.1 4, 8, .inr (.inr (.inr (.inr (fun j => ([u40_22 0, u40_40 0, u40_58 0, u40_76 0] : List Nat)[j]?))))))] ++ (fw E u40_22 FC0 ++ (fw E u40_40 FC0 ++ (fw E u40_58 FC0 ++ (fw E u40_76 FC0 ++ (fw E u40_94 FC0)))))))) [0, 1, 2, 3, 4, 5, 6, 7, 8, 9, 10, 11, 12, 13, 14, 15, 16, 17, 18, 19, 20, 21, 22, 23, 24, 25, 26, 27, 28, 29, 30, 31, 32, 33, 34, 35, 36] rfl (fun _ => rfl) (fun u40_94 hu40_94 => ?_)
  replace hu40_94 : u40_94 0 = q36_91 := hu40_94
  subst hu40_94
  refine g_aast hX (r := (RX0, TX0, 11)) (fun j => ([u40_22 0, u40_40 0, u40_58 0, u40_76 0, u40_94 0] : List Nat)[j]?) (([(p, .inr (2, [.ref q14_6, .int (nI 0)]))] ++ ([(q14_6, .inl (E.2.1 4, 8, .inr (.inr (.inr (.inr (fun j => ([u40_22 0, u40_40 0, u40_58 0, u40_76 0, u40_94 0] : List Nat)[j]?))))))] ++ (fw E u40_22 FC0 ++ (fw E u40_40 FC0 ++ (fw E u40_58 FC0 ++ (fw E u40_76 FC0 ++ (fw E u40_94 FC0)))))))) 1 4 30 rfl rfl rfl rfl (vp_in_nI (by decide) (by decide)) (lf_push (L := ([u40_22 0, u40_40 0, u40_58 0, u40_76 0] : List Nat)) (Nat.le_of_ble_eq_true rfl)) dX2_init_43 rfl ?_
  refine g_iinc hX (j := 2) (nI (4 + 1)) [(2, .int (nI (4 + 1))), (0, .ref p), (1, .int (nI 8))] dX2_init_44 0 rfl (iinc_n _ _) (by rw [hnL]; rfl) rfl ?_
  refine g_goto hX 22 dX2_init_47 (by decide) ?_
  refine g_iload_n hX dX2_init_22 0 rfl ?_
  refine g_aload_n hX dX2_init_23 1 rfl ?_
  refine g_get hX (v := .ref q14_6) 0 inRX2 rfl rfl 0 rfl fl9 rfl rfl dX2_init_24 ?_
  refine g_alen hX (nI 8) 1 4 rfl rfl rfl dX2_init_27 ?_
  refine g_icmp_ge hX 50 dX2_init_28 (by decide) (fun c28 => by first | exact absurd c28 (by decide) | exact absurd (by decide) c28) (fun _ => ?_)
  refine g_aload_n hX dX2_init_31 1 rfl ?_
  refine g_get hX (v := .ref q14_6) 0 inRX2 rfl rfl 0 rfl fl9 rfl rfl dX2_init_32 ?_
  refine g_iload_n hX dX2_init_35 0 rfl ?_
  refine g_new hX (ci := 0) [.int (nI 0), .int (nI 0), .int (nI 0), .int (nI 0), .int (nI 0), .null, .null, .null, .null, .null, .null] inRX0 tyX0_ok (by decide +kernel) (by decide +kernel) (by decide +kernel) rfl (fun j hj => by rcases (show j = 0 ∨ j = 1 ∨ j = 2 ∨ j = 3 ∨ j = 4 ∨ j = 5 ∨ j = 6 ∨ j = 7 ∨ j = 8 ∨ j = 9 ∨ j = 10 by omega) with rfl | rfl | rfl | rfl | rfl | rfl | rfl | rfl | rfl | rfl | rfl <;> rfl) ⟨Nat.le_of_ble_eq_true rfl, Nat.le_of_ble_eq_true rfl⟩ dX2_init_36 (fun q36_109 => ?_)
  refine g_eq (ws' := ([(p, .inr (2, [.ref q14_6, .int (nI 0)]))] ++ ([(q14_6, .inl (E.2.1 4, 8, .inr (.inr (.inr (.inr (fun j => ([u40_22 0, u40_40 0, u40_58 0, u40_76 0, u40_94 0] : List Nat)[j]?))))))] ++ (fw E u40_22 FC0 ++ (fw E u40_40 FC0 ++ (fw E u40_58 FC0 ++ (fw E u40_76 FC0 ++ (fw E u40_94 FC0 ++ ([(q36_109, .inr (0, [.int (nI 0), .int (nI 0), .int (nI 0), .int (nI 0), .int (nI 0), .null, .null, .null, .null, .null, .null]))]))))))))) rfl rfl rfl ?_
  refine g_dup hX dX2_init_39 rfl ?_
  have hc40_112 : CUT (([(p, .inr (2, [.ref q14_6, .int (nI 0)]))] ++ ([(q14_6, .inl (E.2.1 4, 8, .inr (.inr (.inr (.inr (fun j => ([u40_22 0, u40_40 0, u40_58 0, u40_76 0, u40_94 0] : List Nat)[j]?))))))] ++ (fw E u40_22 FC0 ++ (fw E u40_40 FC0 ++ (fw E u40_58 FC0 ++ (fw E u40_76 FC0 ++ (fw E u40_94 FC0 ++ ([(q36_109, .inr (0, [.int (nI 0), .int (nI 0), .int (nI 0), .int (nI 0), .int (nI 0), .null, .null, .null, .null, .null, .null]))]))))))))) ([(q36_109, .inr (0, [.int (nI 0), .int (nI 0), .int (nI 0), .int (nI 0), .int (nI 0), .null, .null, .null, .null, .null, .null]))]) (([(p, .inr (2, [.ref q14_6, .int (nI 0)]))] ++ ([(q14_6, .inl (E.2.1 4, 8, .inr (.inr (.inr (.inr (fun j => ([u40_22 0, u40_40 0, u40_58 0, u40_76 0, u40_94 0] : List Nat)[j]?))))))] ++ (fw E u40_22 FC0 ++ (fw E u40_40 FC0 ++ (fw E u40_58 FC0 ++ (fw E u40_76 FC0 ++ (fw E u40_94 FC0)))))))) [37] [0, 1, 2, 3, 4, 5, 6, 7, 8, 9, 10, 11, 12, 13, 14, 15, 16, 17, 18, 19, 20, 21, 22, 23, 24, 25, 26, 27, 28, 29, 30, 31, 32, 33, 34, 35, 36] := ⟨rfl, rfl, rfl, rfl, rfl⟩
  refine g_JVa hX hc40_112 [] [.ref q36_109, .int (nI 5), .ref q14_6] (c_X0_init l E q36_109) gX2_init_X0_init_n15 calX0_init rfl rfl (by decide +kernel) (by decide +kernel) (by decide +kernel) rfl rfl rfl dX2_init_40 rfl ⟨Nat.le_of_ble_eq_true rfl, Nat.le_of_ble_eq_true rfl⟩ (fun u40_112 => ([(p, .inr (2, [.ref q14_6, .int (nI 0)]))] ++ ([(q14_6, .inl (E.2.1 4, 8, .inr (.inr (.inr (.inr (fun j => ([u40_22 0, u40_40 0, u40_58 0, u40_76 0, u40_94 0] : List Nat)[j]?))))))] ++ (fw E u40_22 FC0 ++ (fw E u40_40 FC0 ++ (fw E u40_58 FC0 ++ (fw E u40_76 FC0 ++ (fw E u40_94 FC0 ++ (fw E u40_112 FC0))))))))) [0, 1, 2, 3, 4, 5, 6, 7, 8, 9, 10, 11, 12, 13, 14, 15, 16, 17, 18, 19, 20, 21, 22, 23, 24, 25, 26, 27, 28, 29, 30, 31, 32, 33, 34, 35, 36, 37, 38, 39, 40, 41, 42, 43] rfl (fun _ => rfl) (fun u40_112 hu40_112 => ?_)
  replace hu40_112 : u40_112 0 = q36_109 := hu40_112
  subst hu40_112
  refine g_aast hX (r := (RX0, TX0, 11)) (fun j => ([u40_22 0, u40_40 0, u40_58 0, u40_76 0, u40_94 0, u40_112 0] : List Nat)[j]?) (([(p, .inr (2, [.ref q14_6, .int (nI 0)]))] ++ ([(q14_6, .inl (E.2.1 4, 8, .inr (.inr (.inr (.inr (fun j => ([u40_22 0, u40_40 0, u40_58 0, u40_76 0, u40_94 0, u40_112 0] : List Nat)[j]?))))))] ++ (fw E u40_22 FC0 ++ (fw E u40_40 FC0 ++ (fw E u40_58 FC0 ++ (fw E u40_76 FC0 ++ (fw E u40_94 FC0 ++ (fw E u40_112 FC0))))))))) 1 4 37 rfl rfl rfl rfl (vp_in_nI (by decide) (by decide)) (lf_push (L := ([u40_22 0, u40_40 0, u40_58 0, u40_76 0, u40_94 0] : List Nat)) (Nat.le_of_ble_eq_true rfl)) dX2_init_43 rfl ?_
  refine g_iinc hX (j := 2) (nI (5 + 1)) [(2, .int (nI (5 + 1))), (0, .ref p), (1, .int (nI 8))] dX2_init_44 0 rfl (iinc_n _ _) (by rw [hnL]; rfl) rfl ?_
  refine g_goto hX 22 dX2_init_47 (by decide) ?_
  refine g_iload_n hX dX2_init_22 0 rfl ?_
  refine g_aload_n hX dX2_init_23 1 rfl ?_
  refine g_get hX (v := .ref q14_6) 0 inRX2 rfl rfl 0 rfl fl9 rfl rfl dX2_init_24 ?_
  refine g_alen hX (nI 8) 1 4 rfl rfl rfl dX2_init_27 ?_
  refine g_icmp_ge hX 50 dX2_init_28 (by decide) (fun c28 => by first | exact absurd c28 (by decide) | exact absurd (by decide) c28) (fun _ => ?_)
  refine g_aload_n hX dX2_init_31 1 rfl ?_
  refine g_get hX (v := .ref q14_6) 0 inRX2 rfl rfl 0 rfl fl9 rfl rfl dX2_init_32 ?_
  refine g_iload_n hX dX2_init_35 0 rfl ?_
  refine g_new hX (ci := 0) [.int (nI 0), .int (nI 0), .int (nI 0), .int (nI 0), .int (nI 0), .null, .null, .null, .null, .null, .null] inRX0 tyX0_ok (by decide +kernel) (by decide +kernel) (by decide +kernel) rfl (fun j hj => by rcases (show j = 0 ∨ j = 1 ∨ j = 2 ∨ j = 3 ∨ j = 4 ∨ j = 5 ∨ j = 6 ∨ j = 7 ∨ j = 8 ∨ j = 9 ∨ j = 10 by omega) with rfl | rfl | rfl | rfl | rfl | rfl | rfl | rfl | rfl | rfl | rfl <;> rfl) ⟨Nat.le_of_ble_eq_true rfl, Nat.le_of_ble_eq_true rfl⟩ dX2_init_36 (fun q36_127 => ?_)
  refine g_eq (ws' := ([(p, .inr (2, [.ref q14_6, .int (nI 0)]))] ++ ([(q14_6, .inl (E.2.1 4, 8, .inr (.inr (.inr (.inr (fun j => ([u40_22 0, u40_40 0, u40_58 0, u40_76 0, u40_94 0, u40_112 0] : List Nat)[j]?))))))] ++ (fw E u40_22 FC0 ++ (fw E u40_40 FC0 ++ (fw E u40_58 FC0 ++ (fw E u40_76 FC0 ++ (fw E u40_94 FC0 ++ (fw E u40_112 FC0 ++ ([(q36_127, .inr (0, [.int (nI 0), .int (nI 0), .int (nI 0), .int (nI 0), .int (nI 0), .null, .null, .null, .null, .null, .null]))])))))))))) rfl rfl rfl ?_
  refine g_dup hX dX2_init_39 rfl ?_
  have hc40_130 : CUT (([(p, .inr (2, [.ref q14_6, .int (nI 0)]))] ++ ([(q14_6, .inl (E.2.1 4, 8, .inr (.inr (.inr (.inr (fun j => ([u40_22 0, u40_40 0, u40_58 0, u40_76 0, u40_94 0, u40_112 0] : List Nat)[j]?))))))] ++ (fw E u40_22 FC0 ++ (fw E u40_40 FC0 ++ (fw E u40_58 FC0 ++ (fw E u40_76 FC0 ++ (fw E u40_94 FC0 ++ (fw E u40_112 FC0 ++ ([(q36_127, .inr (0, [.int (nI 0), .int (nI 0), .int (nI 0), .int (nI 0), .int (nI 0), .null, .null, .null, .null, .null, .null]))])))))))))) ([(q36_127, .inr (0, [.int (nI 0), .int (nI 0), .int (nI 0), .int (nI 0), .int (nI 0), .null, .null, .null, .null, .null, .null]))]) (([(p, .inr (2, [.ref q14_6, .int (nI 0)]))] ++ ([(q14_6, .inl (E.2.1 4, 8, .inr (.inr (.inr (.inr (fun j => ([u40_22 0, u40_40 0, u40_58 0, u40_76 0, u40_94 0, u40_112 0] : List Nat)[j]?))))))] ++ (fw E u40_22 FC0 ++ (fw E u40_40 FC0 ++ (fw E u40_58 FC0 ++ (fw E u40_76 FC0 ++ (fw E u40_94 FC0 ++ (fw E u40_112 FC0))))))))) [44] [0, 1, 2, 3, 4, 5, 6, 7, 8, 9, 10, 11, 12, 13, 14, 15, 16, 17, 18, 19, 20, 21, 22, 23, 24, 25, 26, 27, 28, 29, 30, 31, 32, 33, 34, 35, 36, 37, 38, 39, 40, 41, 42, 43] := ⟨rfl, rfl, rfl, rfl, rfl⟩
  refine g_JVa hX hc40_130 [] [.ref q36_127, .int (nI 6), .ref q14_6] (c_X0_init l E q36_127) gX2_init_X0_init_n15 calX0_init rfl rfl (by decide +kernel) (by decide +kernel) (by decide +kernel) rfl rfl rfl dX2_init_40 rfl ⟨Nat.le_of_ble_eq_true rfl, Nat.le_of_ble_eq_true rfl⟩ (fun u40_130 => ([(p, .inr (2, [.ref q14_6, .int (nI 0)]))] ++ ([(q14_6, .inl (E.2.1 4, 8, .inr (.inr (.inr (.inr (fun j => ([u40_22 0, u40_40 0, u40_58 0, u40_76 0, u40_94 0, u40_112 0] : List Nat)[j]?))))))] ++ (fw E u40_22 FC0 ++ (fw E u40_40 FC0 ++ (fw E u40_58 FC0 ++ (fw E u40_76 FC0 ++ (fw E u40_94 FC0 ++ (fw E u40_112 FC0 ++ (fw E u40_130 FC0)))))))))) [0, 1, 2, 3, 4, 5, 6, 7, 8, 9, 10, 11, 12, 13, 14, 15, 16, 17, 18, 19, 20, 21, 22, 23, 24, 25, 26, 27, 28, 29, 30, 31, 32, 33, 34, 35, 36, 37, 38, 39, 40, 41, 42, 43, 44, 45, 46, 47, 48, 49, 50] rfl (fun _ => rfl) (fun u40_130 hu40_130 => ?_)
  replace hu40_130 : u40_130 0 = q36_127 := hu40_130
  subst hu40_130
  refine g_aast hX (r := (RX0, TX0, 11)) (fun j => ([u40_22 0, u40_40 0, u40_58 0, u40_76 0, u40_94 0, u40_112 0, u40_130 0] : List Nat)[j]?) (([(p, .inr (2, [.ref q14_6, .int (nI 0)]))] ++ ([(q14_6, .inl (E.2.1 4, 8, .inr (.inr (.inr (.inr (fun j => ([u40_22 0, u40_40 0, u40_58 0, u40_76 0, u40_94 0, u40_112 0, u40_130 0] : List Nat)[j]?))))))] ++ (fw E u40_22 FC0 ++ (fw E u40_40 FC0 ++ (fw E u40_58 FC0 ++ (fw E u40_76 FC0 ++ (fw E u40_94 FC0 ++ (fw E u40_112 FC0 ++ (fw E u40_130 FC0)))))))))) 1 4 44 rfl rfl rfl rfl (vp_in_nI (by decide) (by decide)) (lf_push (L := ([u40_22 0, u40_40 0, u40_58 0, u40_76 0, u40_94 0, u40_112 0] : List Nat)) (Nat.le_of_ble_eq_true rfl)) dX2_init_43 rfl ?_
  refine g_iinc hX (j := 2) (nI (6 + 1)) [(2, .int (nI (6 + 1))), (0, .ref p), (1, .int (nI 8))] dX2_init_44 0 rfl (iinc_n _ _) (by rw [hnL]; rfl) rfl ?_
  refine g_goto hX 22 dX2_init_47 (by decide) ?_
  refine g_iload_n hX dX2_init_22 0 rfl ?_
  refine g_aload_n hX dX2_init_23 1 rfl ?_
  refine g_get hX (v := .ref q14_6) 0 inRX2 rfl rfl 0 rfl fl9 rfl rfl dX2_init_24 ?_
  refine g_alen hX (nI 8) 1 4 rfl rfl rfl dX2_init_27 ?_
  refine g_icmp_ge hX 50 dX2_init_28 (by decide) (fun c28 => by first | exact absurd c28 (by decide) | exact absurd (by decide) c28) (fun _ => ?_)
  refine g_aload_n hX dX2_init_31 1 rfl ?_
  refine g_get hX (v := .ref q14_6) 0 inRX2 rfl rfl 0 rfl fl9 rfl rfl dX2_init_32 ?_
  refine g_iload_n hX dX2_init_35 0 rfl ?_
  refine g_new hX (ci := 0) [.int (nI 0), .int (nI 0), .int (nI 0), .int (nI 0), .int (nI 0), .null, .null, .null, .null, .null, .null] inRX0 tyX0_ok (by decide +kernel) (by decide +kernel) (by decide +kernel) rfl (fun j hj => by rcases (show j = 0 ∨ j = 1 ∨ j = 2 ∨ j = 3 ∨ j = 4 ∨ j = 5 ∨ j = 6 ∨ j = 7 ∨ j = 8 ∨ j = 9 ∨ j = 10 by omega) with rfl | rfl | rfl | rfl | rfl | rfl | rfl | rfl | rfl | rfl | rfl <;> rfl) ⟨Nat.le_of_ble_eq_true rfl, Nat.le_of_ble_eq_true rfl⟩ dX2_init_36 (fun q36_145 => ?_)
  refine g_eq (ws' := ([(p, .inr (2, [.ref q14_6, .int (nI 0)]))] ++ ([(q14_6, .inl (E.2.1 4, 8, .inr (.inr (.inr (.inr (fun j => ([u40_22 0, u40_40 0, u40_58 0, u40_76 0, u40_94 0, u40_112 0, u40_130 0] : List Nat)[j]?))))))] ++ (fw E u40_22 FC0 ++ (fw E u40_40 FC0 ++ (fw E u40_58 FC0 ++ (fw E u40_76 FC0 ++ (fw E u40_94 FC0 ++ (fw E u40_112 FC0 ++ (fw E u40_130 FC0 ++ ([(q36_145, .inr (0, [.int (nI 0), .int (nI 0), .int (nI 0), .int (nI 0), .int (nI 0), .null, .null, .null, .null, .null, .null]))]))))))))))) rfl rfl rfl ?_
  refine g_dup hX dX2_init_39 rfl ?_
  have hc40_148 : CUT (([(p, .inr (2, [.ref q14_6, .int (nI 0)]))] ++ ([(q14_6, .inl (E.2.1 4, 8, .inr (.inr (.inr (.inr (fun j => ([u40_22 0, u40_40 0, u40_58 0, u40_76 0, u40_94 0, u40_112 0, u40_130 0] : List Nat)[j]?))))))] ++ (fw E u40_22 FC0 ++ (fw E u40_40 FC0 ++ (fw E u40_58 FC0 ++ (fw E u40_76 FC0 ++ (fw E u40_94 FC0 ++ (fw E u40_112 FC0 ++ (fw E u40_130 FC0 ++ ([(q36_145, .inr (0, [.int (nI 0), .int (nI 0), .int (nI 0), .int (nI 0), .int (nI 0), .null, .null, .null, .null, .null, .null]))]))))))))))) ([(q36_145, .inr (0, [.int (nI 0), .int (nI 0), .int (nI 0), .int (nI 0), .int (nI 0), .null, .null, .null, .null, .null, .null]))]) (([(p, .inr (2, [.ref q14_6, .int (nI 0)]))] ++ ([(q14_6, .inl (E.2.1 4, 8, .inr (.inr (.inr (.inr (fun j => ([u40_22 0, u40_40 0, u40_58 0, u40_76 0, u40_94 0, u40_112 0, u40_130 0] : List Nat)[j]?))))))] ++ (fw E u40_22 FC0 ++ (fw E u40_40 FC0 ++ (fw E u40_58 FC0 ++ (fw E u40_76 FC0 ++ (fw E u40_94 FC0 ++ (fw E u40_112 FC0 ++ (fw E u40_130 FC0)))))))))) [51] [0, 1, 2, 3, 4, 5, 6, 7, 8, 9, 10, 11, 12, 13, 14, 15, 16, 17, 18, 19, 20, 21, 22, 23, 24, 25, 26, 27, 28, 29, 30, 31, 32, 33, 34, 35, 36, 37, 38, 39, 40, 41, 42, 43, 44, 45, 46, 47, 48, 49, 50] := ⟨rfl, rfl, rfl, rfl, rfl⟩
  refine g_JVa hX hc40_148 [] [.ref q36_145, .int (nI 7), .ref q14_6] (c_X0_init l E q36_145) gX2_init_X0_init_n15 calX0_init rfl rfl (by decide +kernel) (by decide +kernel) (by decide +kernel) rfl rfl rfl dX2_init_40 rfl ⟨Nat.le_of_ble_eq_true rfl, Nat.le_of_ble_eq_true rfl⟩ (fun u40_148 => ([(p, .inr (2, [.ref q14_6, .int (nI 0)]))] ++ ([(q14_6, .inl (E.2.1 4, 8, .inr (.inr (.inr (.inr (fun j => ([u40_22 0, u40_40 0, u40_58 0, u40_76 0, u40_94 0, u40_112 0, u40_130 0] : List Nat)[j]?))))))] ++ (fw E u40_22 FC0 ++ (fw E u40_40 FC0 ++ (fw E u40_58 FC0 ++ (fw E u40_76 FC0 ++ (fw E u40_94 FC0 ++ (fw E u40_112 FC0 ++ (fw E u40_130 FC0 ++ (fw E u40_148 FC0))))))))))) [0, 1, 2, 3, 4, 5, 6, 7, 8, 9, 10, 11, 12, 13, 14, 15, 16, 17, 18, 19, 20, 21, 22, 23, 24, 25, 26, 27, 28, 29, 30, 31, 32, 33, 34, 35, 36, 37, 38, 39, 40, 41, 42, 43, 44, 45, 46, 47, 48, 49, 50, 51, 52, 53, 54, 55, 56, 57] rfl (fun _ => rfl) (fun u40_148 hu40_148 => ?_)
  replace hu40_148 : u40_148 0 = q36_145 := hu40_148
  subst hu40_148
  refine g_aast hX (r := (RX0, TX0, 11)) (fun j => ([u40_22 0, u40_40 0, u40_58 0, u40_76 0, u40_94 0, u40_112 0, u40_130 0, u40_148 0] : List Nat)[j]?) (([(p, .inr (2, [.ref q14_6, .int (nI 0)]))] ++ ([(q14_6, .inl (E.2.1 4, 8, .inr (.inr (.inr (.inr (fun j => ([u40_22 0, u40_40 0, u40_58 0, u40_76 0, u40_94 0, u40_112 0, u40_130 0, u40_148 0] : List Nat)[j]?))))))] ++ (fw E u40_22 FC0 ++ (fw E u40_40 FC0 ++ (fw E u40_58 FC0 ++ (fw E u40_76 FC0 ++ (fw E u40_94 FC0 ++ (fw E u40_112 FC0 ++ (fw E u40_130 FC0 ++ (fw E u40_148 FC0))))))))))) 1 4 51 rfl rfl rfl rfl (vp_in_nI (by decide) (by decide)) (lf_push (L := ([u40_22 0, u40_40 0, u40_58 0, u40_76 0, u40_94 0, u40_112 0, u40_130 0] : List Nat)) (Nat.le_of_ble_eq_true rfl)) dX2_init_43 rfl ?_
  refine g_iinc hX (j := 2) (nI (7 + 1)) [(2, .int (nI (7 + 1))), (0, .ref p), (1, .int (nI 8))] dX2_init_44 0 rfl (iinc_n _ _) (by rw [hnL]; rfl) rfl ?_
  refine g_goto hX 22 dX2_init_47 (by decide) ?_
  refine g_iload_n hX dX2_init_22 0 rfl ?_
  refine g_aload_n hX dX2_init_23 1 rfl ?_
  refine g_get hX (v := .ref q14_6) 0 inRX2 rfl rfl 0 rfl fl9 rfl rfl dX2_init_24 ?_
  refine g_alen hX (nI 8) 1 4 rfl rfl rfl dX2_init_27 ?_
  refine g_icmp_ge hX 50 dX2_init_28 (by decide) (fun _ => ?_) (fun c28 => by first | exact absurd c28 (by decide) | exact absurd (by decide) c28)
  refine g_widen (k' := 57) (n' := 528) (Nat.le_refl _) (Nat.le_refl _) ?_
  exact g_eq (show (([(p, .inr (2, [.ref q14_6, .int (nI 0)]))] ++ ([(q14_6, .inl (E.2.1 4, 8, .inr (.inr (.inr (.inr (fun j => ([u40_22 0, u40_40 0, u40_58 0, u40_76 0, u40_94 0, u40_112 0, u40_130 0, u40_148 0] : List Nat)[j]?))))))] ++ (fw E u40_22 FC0 ++ (fw E u40_40 FC0 ++ (fw E u40_58 FC0 ++ (fw E u40_76 FC0 ++ (fw E u40_94 FC0 ++ (fw E u40_112 FC0 ++ (fw E u40_130 FC0 ++ (fw E u40_148 FC0)))))))))) : va_W) = pw8 E (adr [p, q14_6]) (mkPV 0 (adl [u40_22, u40_40, u40_58, u40_76, u40_94, u40_112, u40_130, u40_148]) (fun _ => FC0)) from rfl) rfl rfl (hret ((adr [p, q14_6]), (adl [u40_22, u40_40, u40_58, u40_76, u40_94, u40_112, u40_130, u40_148])) _ _ rfl dX2_init_50)
set_option maxHeartbeats 4000000 in
set_option maxRecDepth 100000 in
theorem c_X2_init2 (l : Launch) (E : EV) (p : Nat)  : KV2 l yX2_init wsX2_init (rmA 2 15 132) E (σ := (Nat → Nat) × (Nat → Nat → Nat)) [.ref p, .int (nI 2)] ([(p, .inr (2, [.null, .int (nI 0)]))]) (fun u => u.1 0 = p) (fun u => pw2 E u.1 (mkPV 0 u.2 (fun _ => FC0))) 15 132 := by
  refine KV2.of (cc := cX2_init) (maxL := 3) rfl rfl rfl (fun x hX hin hret hnL hAO => ?_)
  replace hX : CX x l cX2_init RX2 wsX2_init E (rmA 2 15 132) := hX
  show GG x 0 0 ([(p, .inr (2, [.null, .int (nI 0)]))]) 0 [(0, .ref p), (1, .int (nI 2))] []
  have inRX0 : ∀ w ∈ wsX00, w ∈ wsX2_init := by decide +kernel
  have inRX2 : ∀ w ∈ wsX20, w ∈ wsX2_init := by decide +kernel
  have fl9 : Cond.fieldLink RX2 9 "LieForce$Pile" "stood" "[LLieForce$Force;" ∈ wsX2_init := by decide +kernel
  refine g_aload_n hX dX2_init_0 0 rfl ?_
  refine g_obj hX (by decide +kernel) (by decide +kernel) (by decide +kernel) rfl dX2_init_1 ?_
  refine g_aload_n hX dX2_init_4 0 rfl ?_
  refine g_iload_n hX dX2_init_5 1 rfl ?_
  refine g_if_ge hX 13 dX2_init_6 (by decide) (fun _ => ?_) (fun c6 => by first | exact absurd c6 (by decide) | exact absurd (by decide) c6)
  refine g_iload_n hX dX2_init_13 1 rfl ?_
  refine g_newq hX (CN := RX0) 4 (by decide +kernel) hAO rfl (by decide) (by rw [nI_clamp (by decide)]) (Nat.le_of_ble_eq_true rfl) ⟨Nat.le_of_ble_eq_true rfl, Nat.le_of_ble_eq_true rfl⟩ dX2_init_14 (fun q14_6 => ?_)
  refine g_eq (ws' := ([(p, .inr (2, [.null, .int (nI 0)]))]) ++ ([(q14_6, .inl (E.2.1 4, 2, .inr (.inr (.inr (.inr (fun j => ([] : List Nat)[j]?))))))])) rfl rfl rfl ?_
  refine g_putF hX (([(p, .inr (2, [.ref q14_6, .int (nI 0)]))]) ++ ([(q14_6, .inl (E.2.1 4, 2, .inr (.inr (.inr (.inr (fun j => ([] : List Nat)[j]?))))))])) 0 hin inRX2 tyX2_ok nmX2 rfl rfl 0 rfl fl9 rfl rfl rfl rfl rfl rfl dX2_init_17 rfl ?_
  refine g_iconst hX (nI 0) dX2_init_20 rfl ?_
  refine g_istore_n hX (j := 2) [(2, .int (nI 0)), (0, .ref p), (1, .int (nI 2))] dX2_init_21 rfl (by rw [hnL]; rfl) rfl ?_
  refine g_iload_n hX dX2_init_22 0 rfl ?_
  refine g_aload_n hX dX2_init_23 1 rfl ?_
  refine g_get hX (v := .ref q14_6) 0 inRX2 rfl rfl 0 rfl fl9 rfl rfl dX2_init_24 ?_
  refine g_alen hX (nI 2) 1 4 rfl rfl rfl dX2_init_27 ?_
  refine g_icmp_ge hX 50 dX2_init_28 (by decide) (fun c28 => by first | exact absurd c28 (by decide) | exact absurd (by decide) c28) (fun _ => ?_)
  refine g_aload_n hX dX2_init_31 1 rfl ?_
  refine g_get hX (v := .ref q14_6) 0 inRX2 rfl rfl 0 rfl fl9 rfl rfl dX2_init_32 ?_
  refine g_iload_n hX dX2_init_35 0 rfl ?_
  refine g_new hX (ci := 0) [.int (nI 0), .int (nI 0), .int (nI 0), .int (nI 0), .int (nI 0), .null, .null, .null, .null, .null, .null] inRX0 tyX0_ok (by decide +kernel) (by decide +kernel) (by decide +kernel) rfl (fun j hj => by rcases (show j = 0 ∨ j = 1 ∨ j = 2 ∨ j = 3 ∨ j = 4 ∨ j = 5 ∨ j = 6 ∨ j = 7 ∨ j = 8 ∨ j = 9 ∨ j = 10 by omega) with rfl | rfl | rfl | rfl | rfl | rfl | rfl | rfl | rfl | rfl | rfl <;> rfl) ⟨Nat.le_of_ble_eq_true rfl, Nat.le_of_ble_eq_true rfl⟩ dX2_init_36 (fun q36_19 => ?_)
  refine g_eq (ws' := ([(p, .inr (2, [.ref q14_6, .int (nI 0)]))] ++ ([(q14_6, .inl (E.2.1 4, 2, .inr (.inr (.inr (.inr (fun j => ([] : List Nat)[j]?))))))] ++ ([(q36_19, .inr (0, [.int (nI 0), .int (nI 0), .int (nI 0), .int (nI 0), .int (nI 0), .null, .null, .null, .null, .null, .null]))])))) rfl rfl rfl ?_
  refine g_dup hX dX2_init_39 rfl ?_
  have hc40_22 : CUT (([(p, .inr (2, [.ref q14_6, .int (nI 0)]))] ++ ([(q14_6, .inl (E.2.1 4, 2, .inr (.inr (.inr (.inr (fun j => ([] : List Nat)[j]?))))))] ++ ([(q36_19, .inr (0, [.int (nI 0), .int (nI 0), .int (nI 0), .int (nI 0), .int (nI 0), .null, .null, .null, .null, .null, .null]))])))) ([(q36_19, .inr (0, [.int (nI 0), .int (nI 0), .int (nI 0), .int (nI 0), .int (nI 0), .null, .null, .null, .null, .null, .null]))]) (([(p, .inr (2, [.ref q14_6, .int (nI 0)]))]) ++ ([(q14_6, .inl (E.2.1 4, 2, .inr (.inr (.inr (.inr (fun j => ([] : List Nat)[j]?))))))])) [2] [0, 1] := ⟨rfl, rfl, rfl, rfl, rfl⟩
  refine g_JVa hX hc40_22 [] [.ref q36_19, .int (nI 0), .ref q14_6] (c_X0_init l E q36_19) gX2_init_X0_init_n15 calX0_init rfl rfl (by decide +kernel) (by decide +kernel) (by decide +kernel) rfl rfl rfl dX2_init_40 rfl ⟨Nat.le_of_ble_eq_true rfl, Nat.le_of_ble_eq_true rfl⟩ (fun u40_22 => ([(p, .inr (2, [.ref q14_6, .int (nI 0)]))] ++ ([(q14_6, .inl (E.2.1 4, 2, .inr (.inr (.inr (.inr (fun j => ([] : List Nat)[j]?))))))] ++ (fw E u40_22 FC0)))) [0, 1, 2, 3, 4, 5, 6, 7, 8] rfl (fun _ => rfl) (fun u40_22 hu40_22 => ?_)
  replace hu40_22 : u40_22 0 = q36_19 := hu40_22
  subst hu40_22
  refine g_aast hX (r := (RX0, TX0, 11)) (fun j => ([u40_22 0] : List Nat)[j]?) (([(p, .inr (2, [.ref q14_6, .int (nI 0)]))] ++ ([(q14_6, .inl (E.2.1 4, 2, .inr (.inr (.inr (.inr (fun j => ([u40_22 0] : List Nat)[j]?))))))] ++ (fw E u40_22 FC0)))) 1 4 2 rfl rfl rfl rfl (vp_in_nI (by decide) (by decide)) (lf_push (L := ([] : List Nat)) (Nat.le_of_ble_eq_true rfl)) dX2_init_43 rfl ?_
  refine g_iinc hX (j := 2) (nI (0 + 1)) [(2, .int (nI (0 + 1))), (0, .ref p), (1, .int (nI 2))] dX2_init_44 0 rfl (iinc_n _ _) (by rw [hnL]; rfl) rfl ?_
  refine g_goto hX 22 dX2_init_47 (by decide) ?_
  refine g_iload_n hX dX2_init_22 0 rfl ?_
  refine g_aload_n hX dX2_init_23 1 rfl ?_
  refine g_get hX (v := .ref q14_6) 0 inRX2 rfl rfl 0 rfl fl9 rfl rfl dX2_init_24 ?_
  refine g_alen hX (nI 2) 1 4 rfl rfl rfl dX2_init_27 ?_
  refine g_icmp_ge hX 50 dX2_init_28 (by decide) (fun c28 => by first | exact absurd c28 (by decide) | exact absurd (by decide) c28) (fun _ => ?_)
  refine g_aload_n hX dX2_init_31 1 rfl ?_
  refine g_get hX (v := .ref q14_6) 0 inRX2 rfl rfl 0 rfl fl9 rfl rfl dX2_init_32 ?_
  refine g_iload_n hX dX2_init_35 0 rfl ?_
  refine g_new hX (ci := 0) [.int (nI 0), .int (nI 0), .int (nI 0), .int (nI 0), .int (nI 0), .null, .null, .null, .null, .null, .null] inRX0 tyX0_ok (by decide +kernel) (by decide +kernel) (by decide +kernel) rfl (fun j hj => by rcases (show j = 0 ∨ j = 1 ∨ j = 2 ∨ j = 3 ∨ j = 4 ∨ j = 5 ∨ j = 6 ∨ j = 7 ∨ j = 8 ∨ j = 9 ∨ j = 10 by omega) with rfl | rfl | rfl | rfl | rfl | rfl | rfl | rfl | rfl | rfl | rfl <;> rfl) ⟨Nat.le_of_ble_eq_true rfl, Nat.le_of_ble_eq_true rfl⟩ dX2_init_36 (fun q36_37 => ?_)
  refine g_eq (ws' := ([(p, .inr (2, [.ref q14_6, .int (nI 0)]))] ++ ([(q14_6, .inl (E.2.1 4, 2, .inr (.inr (.inr (.inr (fun j => ([u40_22 0] : List Nat)[j]?))))))] ++ (fw E u40_22 FC0 ++ ([(q36_37, .inr (0, [.int (nI 0), .int (nI 0), .int (nI 0), .int (nI 0), .int (nI 0), .null, .null, .null, .null, .null, .null]))]))))) rfl rfl rfl ?_
  refine g_dup hX dX2_init_39 rfl ?_
  have hc40_40 : CUT (([(p, .inr (2, [.ref q14_6, .int (nI 0)]))] ++ ([(q14_6, .inl (E.2.1 4, 2, .inr (.inr (.inr (.inr (fun j => ([u40_22 0] : List Nat)[j]?))))))] ++ (fw E u40_22 FC0 ++ ([(q36_37, .inr (0, [.int (nI 0), .int (nI 0), .int (nI 0), .int (nI 0), .int (nI 0), .null, .null, .null, .null, .null, .null]))]))))) ([(q36_37, .inr (0, [.int (nI 0), .int (nI 0), .int (nI 0), .int (nI 0), .int (nI 0), .null, .null, .null, .null, .null, .null]))]) (([(p, .inr (2, [.ref q14_6, .int (nI 0)]))] ++ ([(q14_6, .inl (E.2.1 4, 2, .inr (.inr (.inr (.inr (fun j => ([u40_22 0] : List Nat)[j]?))))))] ++ (fw E u40_22 FC0)))) [9] [0, 1, 2, 3, 4, 5, 6, 7, 8] := ⟨rfl, rfl, rfl, rfl, rfl⟩
  refine g_JVa hX hc40_40 [] [.ref q36_37, .int (nI 1), .ref q14_6] (c_X0_init l E q36_37) gX2_init_X0_init_n15 calX0_init rfl rfl (by decide +kernel) (by decide +kernel) (by decide +kernel) rfl rfl rfl dX2_init_40 rfl ⟨Nat.le_of_ble_eq_true rfl, Nat.le_of_ble_eq_true rfl⟩ (fun u40_40 => ([(p, .inr (2, [.ref q14_6, .int (nI 0)]))] ++ ([(q14_6, .inl (E.2.1 4, 2, .inr (.inr (.inr (.inr (fun j => ([u40_22 0] : List Nat)[j]?))))))] ++ (fw E u40_22 FC0 ++ (fw E u40_40 FC0))))) [0, 1, 2, 3, 4, 5, 6, 7, 8, 9, 10, 11, 12, 13, 14, 15] rfl (fun _ => rfl) (fun u40_40 hu40_40 => ?_)
  replace hu40_40 : u40_40 0 = q36_37 := hu40_40
  subst hu40_40
  refine g_aast hX (r := (RX0, TX0, 11)) (fun j => ([u40_22 0, u40_40 0] : List Nat)[j]?) (([(p, .inr (2, [.ref q14_6, .int (nI 0)]))] ++ ([(q14_6, .inl (E.2.1 4, 2, .inr (.inr (.inr (.inr (fun j => ([u40_22 0, u40_40 0] : List Nat)[j]?))))))] ++ (fw E u40_22 FC0 ++ (fw E u40_40 FC0))))) 1 4 9 rfl rfl rfl rfl (vp_in_nI (by decide) (by decide)) (lf_push (L := ([u40_22 0] : List Nat)) (Nat.le_of_ble_eq_true rfl)) dX2_init_43 rfl ?_
  refine g_iinc hX (j := 2) (nI (1 + 1)) [(2, .int (nI (1 + 1))), (0, .ref p), (1, .int (nI 2))] dX2_init_44 0 rfl (iinc_n _ _) (by rw [hnL]; rfl) rfl ?_
  refine g_goto hX 22 dX2_init_47 (by decide) ?_
  refine g_iload_n hX dX2_init_22 0 rfl ?_
  refine g_aload_n hX dX2_init_23 1 rfl ?_
  refine g_get hX (v := .ref q14_6) 0 inRX2 rfl rfl 0 rfl fl9 rfl rfl dX2_init_24 ?_
  refine g_alen hX (nI 2) 1 4 rfl rfl rfl dX2_init_27 ?_
  refine g_icmp_ge hX 50 dX2_init_28 (by decide) (fun _ => ?_) (fun c28 => by first | exact absurd c28 (by decide) | exact absurd (by decide) c28)
  refine g_widen (k' := 15) (n' := 132) (Nat.le_refl _) (Nat.le_refl _) ?_
  exact g_eq (show (([(p, .inr (2, [.ref q14_6, .int (nI 0)]))] ++ ([(q14_6, .inl (E.2.1 4, 2, .inr (.inr (.inr (.inr (fun j => ([u40_22 0, u40_40 0] : List Nat)[j]?))))))] ++ (fw E u40_22 FC0 ++ (fw E u40_40 FC0)))) : va_W) = pw2 E (adr [p, q14_6]) (mkPV 0 (adl [u40_22, u40_40]) (fun _ => FC0)) from rfl) rfl rfl (hret ((adr [p, q14_6]), (adl [u40_22, u40_40])) _ _ rfl dX2_init_50)
