section LAWS
variable {x : GX} {l : Launch} {E : EV} {b L : Nat} {xs : Nat → Int32} {kk nn t i : Nat} {ae ab ar an af ah ak ax ag a : Nat → Nat}
variable {z : Nat} {tx : Nat → Nat} {R : RC} {C : FC} {D : FC} {V : PV} {U : PV} {S : SC} {G : GC} {M : MV}
set_option maxHeartbeats 4000000 in
set_option maxRecDepth 100000 in
theorem lc_core  (hc : LCX x l E b L xs kk nn t i) (hI : INV t z tx R C V U S M) (nx : NX x E ae ab ar an af ah ak ax ag a b kk nn t i)  : GG x kk nn (LWM E ae ab ar an af ah ak ax ag a z tx R C D V U S G M) 496 [(0, .ref b), (1, .ref (ae 0)), (2, .ref (a 0)), (3, .int (nI i))] [] := by
  obtain ⟨hX, hSX, hkk, hnn, hit, hi5, hL3⟩ := hc
  obtain ⟨⟨hz, htx, hmX, hmL, hRq⟩, ⟨hN1, hD, hSr, hTm⟩, hE, ⟨hv1, hv2, hv3⟩, ⟨hu1, hu2, hu3⟩⟩ := id hI
  have hm : 30 * t < 2 ^ 29 := by omega
  have hC := hD.1.1
  obtain ⟨h9, h64, h512, hTq, hIq⟩ := id hC
  have hSK := hD.1.2
  have hV := DI_VB hD (by omega)
  have htx2 : ∀ j, tx j < 2 ^ 16 := fun j => by have := htx j; omega
  have hmX2 : ∀ j, mX M j < 128 := by rw [hmX]; exact htx
  have h6 : hN S ≤ 6 := hE.2.1
  have hs9 : ∀ j, j < hN S → hS S j < 9 := fun j hj => (hE.2.2 j hj).2.2
  show GG x kk nn ((lfo E ae ab ar an af ah ak ax ag z ++ (tw E ab 200 tx ++ (rw_ E ar R ++ (fw E an C ++ (fw E af D ++ (pw8 E ah V ++ (pw2 E ak U ++ (sw E ax S ++ (gw E ag G ++ (mw E a M))))))))))) 496 [(0, .ref b), (1, .ref (ae 0)), (2, .ref (a 0)), (3, .int (nI i))] []
  refine g_aload_n hX dL_law_496 1 rfl ?_
  have hc497 : CUT ((lfo E ae ab ar an af ah ak ax ag z ++ (tw E ab 200 tx ++ (rw_ E ar R ++ (fw E an C ++ (fw E af D ++ (pw8 E ah V ++ (pw2 E ak U ++ (sw E ax S ++ (gw E ag G ++ (mw E a M))))))))))) ((lfo E ae ab ar an af ah ak ax ag z) ++ (fw E an C)) ((tw E ab 200 tx ++ (rw_ E ar R ++ (fw E af D ++ (pw8 E ah V ++ (pw2 E ak U ++ (sw E ax S ++ (gw E ag G ++ (mw E a M))))))))) [0, 4, 5, 6, 7, 8, 9, 10] [1, 2, 3, 11, 12, 13, 14, 15, 16, 17, 18, 19, 20, 21, 22, 23, 24, 25, 26, 27, 28, 29, 30, 31, 32, 33, 34, 35, 36, 37, 38, 39, 40, 41, 42, 43, 44, 45, 46, 47, 48, 49, 50, 51, 52, 53, 54, 55, 56, 57, 58, 59, 60, 61, 62, 63, 64, 65, 66, 67, 68, 69, 70, 71, 72, 73, 74, 75, 76, 77, 78, 79, 80, 81, 82, 83, 84, 85, 86, 87, 88, 89, 90, 91, 92, 93, 94, 95, 96, 97, 98, 99, 100, 101, 102, 103, 104, 105, 106, 107, 108, 109, 110] := ⟨rfl, rfl, rfl, rfl, rfl⟩
  refine g_VI hX hc497 [] [] (c_X5_core l E ae ab ar an af ah ak ax ag z C (by first | assumption | omega)) gL_law_X5_core calX5_core rfl rfl rfl rfl 0 rfl rfl rfl rfl dL_law_497 rfl ⟨hkk, hnn⟩ (fun _ => (lfo E ae ab ar an af ah ak ax ag z ++ (tw E ab 200 tx ++ (rw_ E ar R ++ (fw E an C ++ (fw E af D ++ (pw8 E ah V ++ (pw2 E ak U ++ (sw E ax S ++ (gw E ag G ++ (mw E a M))))))))))) [103, 0, 1, 2, 104, 105, 106, 107, 108, 109, 110, 3, 4, 5, 6, 7, 8, 9, 10, 11, 12, 13, 14, 15, 16, 17, 18, 19, 20, 21, 22, 23, 24, 25, 26, 27, 28, 29, 30, 31, 32, 33, 34, 35, 36, 37, 38, 39, 40, 41, 42, 43, 44, 45, 46, 47, 48, 49, 50, 51, 52, 53, 54, 55, 56, 57, 58, 59, 60, 61, 62, 63, 64, 65, 66, 67, 68, 69, 70, 71, 72, 73, 74, 75, 76, 77, 78, 79, 80, 81, 82, 83, 84, 85, 86, 87, 88, 89, 90, 91, 92, 93, 94, 95, 96, 97, 98, 99, 100, 101, 102] rfl (fun _ => rfl) (fun _ hu497 => ?_)
  refine g_aload_n hX dL_law_500 2 rfl ?_
  have hc501 : CUT ((lfo E ae ab ar an af ah ak ax ag z ++ (tw E ab 200 tx ++ (rw_ E ar R ++ (fw E an C ++ (fw E af D ++ (pw8 E ah V ++ (pw2 E ak U ++ (sw E ax S ++ (gw E ag G ++ (mw E a M))))))))))) (mw E a M) ((lfo E ae ab ar an af ah ak ax ag z ++ (tw E ab 200 tx ++ (rw_ E ar R ++ (fw E an C ++ (fw E af D ++ (pw8 E ah V ++ (pw2 E ak U ++ (sw E ax S ++ (gw E ag G)))))))))) [98, 99, 100, 101, 102, 103, 104, 105, 106, 107, 108, 109, 110] [0, 1, 2, 3, 4, 5, 6, 7, 8, 9, 10, 11, 12, 13, 14, 15, 16, 17, 18, 19, 20, 21, 22, 23, 24, 25, 26, 27, 28, 29, 30, 31, 32, 33, 34, 35, 36, 37, 38, 39, 40, 41, 42, 43, 44, 45, 46, 47, 48, 49, 50, 51, 52, 53, 54, 55, 56, 57, 58, 59, 60, 61, 62, 63, 64, 65, 66, 67, 68, 69, 70, 71, 72, 73, 74, 75, 76, 77, 78, 79, 80, 81, 82, 83, 84, 85, 86, 87, 88, 89, 90, 91, 92, 93, 94, 95, 96, 97] := ⟨rfl, rfl, rfl, rfl, rfl⟩
  refine g_VI hX hc501 [] [.int (oI (minN none (coreP C) (stM C + 1)).1)] (c_X6_core l E a M C (30 * t) (by first | assumption | omega) (by first | assumption | omega) (by first | assumption | omega) (by first | assumption | omega) (by first | assumption | omega)) gL_law_X6_core calX6_core rfl rfl rfl rfl 98 rfl rfl rfl rfl dL_law_501 rfl ⟨hkk, hnn⟩ (fun u501 => (lfo E ae ab ar an af ah ak ax ag z ++ (tw E ab 200 tx ++ (rw_ E ar R ++ (fw E an C ++ (fw E af D ++ (pw8 E ah V ++ (pw2 E ak U ++ (sw E ax S ++ (gw E ag G ++ (mw E a u501))))))))))) [0, 1, 2, 3, 4, 5, 6, 7, 8, 9, 10, 11, 12, 13, 14, 15, 16, 17, 18, 19, 20, 21, 22, 23, 24, 25, 26, 27, 28, 29, 30, 31, 32, 33, 34, 35, 36, 37, 38, 39, 40, 41, 42, 43, 44, 45, 46, 47, 48, 49, 50, 51, 52, 53, 54, 55, 56, 57, 58, 59, 60, 61, 62, 63, 64, 65, 66, 67, 68, 69, 70, 71, 72, 73, 74, 75, 76, 77, 78, 79, 80, 81, 82, 83, 84, 85, 86, 87, 88, 89, 90, 91, 92, 93, 94, 95, 96, 97, 98, 99, 100, 101, 102, 103, 104, 105, 106, 107, 108, 109, 110] rfl (fun _ => rfl) (fun u501 hu501 => ?_)
  refine g_icmp_eq hX 857 dL_law_504 (by decide) (fun _ => ?_) (fun c => (c (E_core h9)).elim)
  exact nx z tx R C D V U S G u501 (INV_KS hI hu501)
set_option maxHeartbeats 4000000 in
set_option maxRecDepth 100000 in
theorem lc_cut  (hc : LCX x l E b L xs kk nn t i) (hI : INV t z tx R C V U S M) (nx : NX x E ae ab ar an af ah ak ax ag a b kk nn t i)  : GG x kk nn (LWM E ae ab ar an af ah ak ax ag a z tx R C D V U S G M) 509 [(0, .ref b), (1, .ref (ae 0)), (2, .ref (a 0)), (3, .int (nI i))] [] := by
  obtain ⟨hX, hSX, hkk, hnn, hit, hi5, hL3⟩ := hc
  obtain ⟨⟨hz, htx, hmX, hmL, hRq⟩, ⟨hN1, hD, hSr, hTm⟩, hE, ⟨hv1, hv2, hv3⟩, ⟨hu1, hu2, hu3⟩⟩ := id hI
  have hm : 30 * t < 2 ^ 29 := by omega
  have hC := hD.1.1
  obtain ⟨h9, h64, h512, hTq, hIq⟩ := id hC
  have hSK := hD.1.2
  have hV := DI_VB hD (by omega)
  have htx2 : ∀ j, tx j < 2 ^ 16 := fun j => by have := htx j; omega
  have hmX2 : ∀ j, mX M j < 128 := by rw [hmX]; exact htx
  have h6 : hN S ≤ 6 := hE.2.1
  have hs9 : ∀ j, j < hN S → hS S j < 9 := fun j hj => (hE.2.2 j hj).2.2
  show GG x kk nn ((lfo E ae ab ar an af ah ak ax ag z ++ (tw E ab 200 tx ++ (rw_ E ar R ++ (fw E an C ++ (fw E af D ++ (pw8 E ah V ++ (pw2 E ak U ++ (sw E ax S ++ (gw E ag G ++ (mw E a M))))))))))) 509 [(0, .ref b), (1, .ref (ae 0)), (2, .ref (a 0)), (3, .int (nI i))] []
  refine g_aload_n hX dL_law_509 1 rfl ?_
  have hc510 : CUT ((lfo E ae ab ar an af ah ak ax ag z ++ (tw E ab 200 tx ++ (rw_ E ar R ++ (fw E an C ++ (fw E af D ++ (pw8 E ah V ++ (pw2 E ak U ++ (sw E ax S ++ (gw E ag G ++ (mw E a M))))))))))) ((lfo E ae ab ar an af ah ak ax ag z) ++ (fw E an C)) ((tw E ab 200 tx ++ (rw_ E ar R ++ (fw E af D ++ (pw8 E ah V ++ (pw2 E ak U ++ (sw E ax S ++ (gw E ag G ++ (mw E a M))))))))) [0, 4, 5, 6, 7, 8, 9, 10] [1, 2, 3, 11, 12, 13, 14, 15, 16, 17, 18, 19, 20, 21, 22, 23, 24, 25, 26, 27, 28, 29, 30, 31, 32, 33, 34, 35, 36, 37, 38, 39, 40, 41, 42, 43, 44, 45, 46, 47, 48, 49, 50, 51, 52, 53, 54, 55, 56, 57, 58, 59, 60, 61, 62, 63, 64, 65, 66, 67, 68, 69, 70, 71, 72, 73, 74, 75, 76, 77, 78, 79, 80, 81, 82, 83, 84, 85, 86, 87, 88, 89, 90, 91, 92, 93, 94, 95, 96, 97, 98, 99, 100, 101, 102, 103, 104, 105, 106, 107, 108, 109, 110] := ⟨rfl, rfl, rfl, rfl, rfl⟩
  refine g_VI hX hc510 [] [] (c_X5_cut l E ae ab ar an af ah ak ax ag z C (by first | assumption | omega)) gL_law_X5_cut calX5_cut rfl rfl rfl rfl 0 rfl rfl rfl rfl dL_law_510 rfl ⟨hkk, hnn⟩ (fun _ => (lfo E ae ab ar an af ah ak ax ag z ++ (tw E ab 200 tx ++ (rw_ E ar R ++ (fw E an C ++ (fw E af D ++ (pw8 E ah V ++ (pw2 E ak U ++ (sw E ax S ++ (gw E ag G ++ (mw E a M))))))))))) [103, 0, 1, 2, 104, 105, 106, 107, 108, 109, 110, 3, 4, 5, 6, 7, 8, 9, 10, 11, 12, 13, 14, 15, 16, 17, 18, 19, 20, 21, 22, 23, 24, 25, 26, 27, 28, 29, 30, 31, 32, 33, 34, 35, 36, 37, 38, 39, 40, 41, 42, 43, 44, 45, 46, 47, 48, 49, 50, 51, 52, 53, 54, 55, 56, 57, 58, 59, 60, 61, 62, 63, 64, 65, 66, 67, 68, 69, 70, 71, 72, 73, 74, 75, 76, 77, 78, 79, 80, 81, 82, 83, 84, 85, 86, 87, 88, 89, 90, 91, 92, 93, 94, 95, 96, 97, 98, 99, 100, 101, 102] rfl (fun _ => rfl) (fun _ hu510 => ?_)
  refine g_aload_n hX dL_law_513 2 rfl ?_
  have hc514 : CUT ((lfo E ae ab ar an af ah ak ax ag z ++ (tw E ab 200 tx ++ (rw_ E ar R ++ (fw E an C ++ (fw E af D ++ (pw8 E ah V ++ (pw2 E ak U ++ (sw E ax S ++ (gw E ag G ++ (mw E a M))))))))))) (mw E a M) ((lfo E ae ab ar an af ah ak ax ag z ++ (tw E ab 200 tx ++ (rw_ E ar R ++ (fw E an C ++ (fw E af D ++ (pw8 E ah V ++ (pw2 E ak U ++ (sw E ax S ++ (gw E ag G)))))))))) [98, 99, 100, 101, 102, 103, 104, 105, 106, 107, 108, 109, 110] [0, 1, 2, 3, 4, 5, 6, 7, 8, 9, 10, 11, 12, 13, 14, 15, 16, 17, 18, 19, 20, 21, 22, 23, 24, 25, 26, 27, 28, 29, 30, 31, 32, 33, 34, 35, 36, 37, 38, 39, 40, 41, 42, 43, 44, 45, 46, 47, 48, 49, 50, 51, 52, 53, 54, 55, 56, 57, 58, 59, 60, 61, 62, 63, 64, 65, 66, 67, 68, 69, 70, 71, 72, 73, 74, 75, 76, 77, 78, 79, 80, 81, 82, 83, 84, 85, 86, 87, 88, 89, 90, 91, 92, 93, 94, 95, 96, 97] := ⟨rfl, rfl, rfl, rfl, rfl⟩
  refine g_VI hX hc514 [] [.int (oI (minN (some (stM C)) (cutP C) (stM C + 1)).1)] (c_X6_cut l E a M C (30 * t) (by first | assumption | omega) (by first | assumption | omega) (by first | assumption | omega) (by first | assumption | omega) (by first | assumption | omega)) gL_law_X6_cut calX6_cut rfl rfl rfl rfl 98 rfl rfl rfl rfl dL_law_514 rfl ⟨hkk, hnn⟩ (fun u514 => (lfo E ae ab ar an af ah ak ax ag z ++ (tw E ab 200 tx ++ (rw_ E ar R ++ (fw E an C ++ (fw E af D ++ (pw8 E ah V ++ (pw2 E ak U ++ (sw E ax S ++ (gw E ag G ++ (mw E a u514))))))))))) [0, 1, 2, 3, 4, 5, 6, 7, 8, 9, 10, 11, 12, 13, 14, 15, 16, 17, 18, 19, 20, 21, 22, 23, 24, 25, 26, 27, 28, 29, 30, 31, 32, 33, 34, 35, 36, 37, 38, 39, 40, 41, 42, 43, 44, 45, 46, 47, 48, 49, 50, 51, 52, 53, 54, 55, 56, 57, 58, 59, 60, 61, 62, 63, 64, 65, 66, 67, 68, 69, 70, 71, 72, 73, 74, 75, 76, 77, 78, 79, 80, 81, 82, 83, 84, 85, 86, 87, 88, 89, 90, 91, 92, 93, 94, 95, 96, 97, 98, 99, 100, 101, 102, 103, 104, 105, 106, 107, 108, 109, 110] rfl (fun _ => rfl) (fun u514 hu514 => ?_)
  refine g_icmp_eq hX 857 dL_law_517 (by decide) (fun _ => ?_) (fun c => (c (E_cut h9)).elim)
  exact nx z tx R C D V U S G u514 (INV_KS hI hu514)
set_option maxHeartbeats 4000000 in
set_option maxRecDepth 100000 in
theorem lc_truest_n  (hc : LCX x l E b L xs kk nn t i) (hI : INV t z tx R C V U S M) (nx : NX x E ae ab ar an af ah ak ax ag a b kk nn t i) (hx : win (xs (i + 1)) (nI 0) (nI 1) = false) : GG x kk nn (LWM E ae ab ar an af ah ak ax ag a z tx R C D V U S G M) 522 [(0, .ref b), (1, .ref (ae 0)), (2, .ref (a 0)), (3, .int (nI i))] [] := by
  obtain ⟨hX, hSX, hkk, hnn, hit, hi5, hL3⟩ := hc
  obtain ⟨⟨hz, htx, hmX, hmL, hRq⟩, ⟨hN1, hD, hSr, hTm⟩, hE, ⟨hv1, hv2, hv3⟩, ⟨hu1, hu2, hu3⟩⟩ := id hI
  have hm : 30 * t < 2 ^ 29 := by omega
  have hC := hD.1.1
  obtain ⟨h9, h64, h512, hTq, hIq⟩ := id hC
  have hSK := hD.1.2
  have hV := DI_VB hD (by omega)
  have htx2 : ∀ j, tx j < 2 ^ 16 := fun j => by have := htx j; omega
  have hmX2 : ∀ j, mX M j < 128 := by rw [hmX]; exact htx
  have h6 : hN S ≤ 6 := hE.2.1
  have hs9 : ∀ j, j < hN S → hS S j < 9 := fun j hj => (hE.2.2 j hj).2.2
  show GG x kk nn ((lfo E ae ab ar an af ah ak ax ag z ++ (tw E ab 200 tx ++ (rw_ E ar R ++ (fw E an C ++ (fw E af D ++ (pw8 E ah V ++ (pw2 E ak U ++ (sw E ax S ++ (gw E ag G ++ (mw E a M))))))))))) 522 [(0, .ref b), (1, .ref (ae 0)), (2, .ref (a 0)), (3, .int (nI i))] []
  refine g_aload_n hX dL_law_522 1 rfl ?_
  refine g_aload_n hX dL_law_523 0 rfl ?_
  refine g_iload_n hX dL_law_524 3 rfl ?_
  refine g_iconst hX (nI 1) dL_law_525 rfl ?_
  refine g_iadd hX (nI (i + 1)) dL_law_526 (nI_add _ _) ?_
  refine g_sld hX hSX (i := i + 1) ((xs (i + 1))) (by omega) (by omega) rfl dL_law_527 ?_
  have hc528 : CUT ((lfo E ae ab ar an af ah ak ax ag z ++ (tw E ab 200 tx ++ (rw_ E ar R ++ (fw E an C ++ (fw E af D ++ (pw8 E ah V ++ (pw2 E ak U ++ (sw E ax S ++ (gw E ag G ++ (mw E a M))))))))))) (lfo E ae ab ar an af ah ak ax ag z) ((tw E ab 200 tx ++ (rw_ E ar R ++ (fw E an C ++ (fw E af D ++ (pw8 E ah V ++ (pw2 E ak U ++ (sw E ax S ++ (gw E ag G ++ (mw E a M)))))))))) [0] [1, 2, 3, 4, 5, 6, 7, 8, 9, 10, 11, 12, 13, 14, 15, 16, 17, 18, 19, 20, 21, 22, 23, 24, 25, 26, 27, 28, 29, 30, 31, 32, 33, 34, 35, 36, 37, 38, 39, 40, 41, 42, 43, 44, 45, 46, 47, 48, 49, 50, 51, 52, 53, 54, 55, 56, 57, 58, 59, 60, 61, 62, 63, 64, 65, 66, 67, 68, 69, 70, 71, 72, 73, 74, 75, 76, 77, 78, 79, 80, 81, 82, 83, 84, 85, 86, 87, 88, 89, 90, 91, 92, 93, 94, 95, 96, 97, 98, 99, 100, 101, 102, 103, 104, 105, 106, 107, 108, 109, 110] := ⟨rfl, rfl, rfl, rfl, rfl⟩
  refine g_VI hX hc528 [.int (xs (i + 1))] [] (c_X5_truest_n l E ae ab ar an af ah ak ax ag z (xs (i + 1)) (by first | assumption | omega)) gL_law_X5_truest calX5_truest rfl rfl rfl rfl 0 rfl rfl rfl rfl dL_law_528 rfl ⟨hkk, hnn⟩ (fun _ => (lfo E ae ab ar an af ah ak ax ag z ++ (tw E ab 200 tx ++ (rw_ E ar R ++ (fw E an C ++ (fw E af D ++ (pw8 E ah V ++ (pw2 E ak U ++ (sw E ax S ++ (gw E ag G ++ (mw E a M))))))))))) [110, 0, 1, 2, 3, 4, 5, 6, 7, 8, 9, 10, 11, 12, 13, 14, 15, 16, 17, 18, 19, 20, 21, 22, 23, 24, 25, 26, 27, 28, 29, 30, 31, 32, 33, 34, 35, 36, 37, 38, 39, 40, 41, 42, 43, 44, 45, 46, 47, 48, 49, 50, 51, 52, 53, 54, 55, 56, 57, 58, 59, 60, 61, 62, 63, 64, 65, 66, 67, 68, 69, 70, 71, 72, 73, 74, 75, 76, 77, 78, 79, 80, 81, 82, 83, 84, 85, 86, 87, 88, 89, 90, 91, 92, 93, 94, 95, 96, 97, 98, 99, 100, 101, 102, 103, 104, 105, 106, 107, 108, 109] rfl (fun _ => rfl) (fun _ hu528 => ?_)
  refine g_aload_n hX dL_law_531 2 rfl ?_
  refine g_aload_n hX dL_law_532 0 rfl ?_
  refine g_iload_n hX dL_law_533 3 rfl ?_
  refine g_iconst hX (nI 1) dL_law_534 rfl ?_
  refine g_iadd hX (nI (i + 1)) dL_law_535 (nI_add _ _) ?_
  refine g_sld hX hSX (i := i + 1) ((xs (i + 1))) (by omega) (by omega) rfl dL_law_536 ?_
  have hc537 : CUT ((lfo E ae ab ar an af ah ak ax ag z ++ (tw E ab 200 tx ++ (rw_ E ar R ++ (fw E an C ++ (fw E af D ++ (pw8 E ah V ++ (pw2 E ak U ++ (sw E ax S ++ (gw E ag G ++ (mw E a M))))))))))) (mw E a M) ((lfo E ae ab ar an af ah ak ax ag z ++ (tw E ab 200 tx ++ (rw_ E ar R ++ (fw E an C ++ (fw E af D ++ (pw8 E ah V ++ (pw2 E ak U ++ (sw E ax S ++ (gw E ag G)))))))))) [98, 99, 100, 101, 102, 103, 104, 105, 106, 107, 108, 109, 110] [0, 1, 2, 3, 4, 5, 6, 7, 8, 9, 10, 11, 12, 13, 14, 15, 16, 17, 18, 19, 20, 21, 22, 23, 24, 25, 26, 27, 28, 29, 30, 31, 32, 33, 34, 35, 36, 37, 38, 39, 40, 41, 42, 43, 44, 45, 46, 47, 48, 49, 50, 51, 52, 53, 54, 55, 56, 57, 58, 59, 60, 61, 62, 63, 64, 65, 66, 67, 68, 69, 70, 71, 72, 73, 74, 75, 76, 77, 78, 79, 80, 81, 82, 83, 84, 85, 86, 87, 88, 89, 90, 91, 92, 93, 94, 95, 96, 97] := ⟨rfl, rfl, rfl, rfl, rfl⟩
  refine g_VI hX hc537 [.int (xs (i + 1))] [.int (-1)] (c_X6_truest_n l E a M C (30 * t) (xs (i + 1)) (by first | assumption | omega) (by first | assumption | omega) (by first | assumption | omega) (by first | assumption | omega) (by first | assumption | omega) (by first | assumption | omega)) gL_law_X6_truest calX6_truest rfl rfl rfl rfl 98 rfl rfl rfl rfl dL_law_537 rfl ⟨hkk, hnn⟩ (fun u537 => (lfo E ae ab ar an af ah ak ax ag z ++ (tw E ab 200 tx ++ (rw_ E ar R ++ (fw E an C ++ (fw E af D ++ (pw8 E ah V ++ (pw2 E ak U ++ (sw E ax S ++ (gw E ag G ++ (mw E a u537))))))))))) [0, 1, 2, 3, 4, 5, 6, 7, 8, 9, 10, 11, 12, 13, 14, 15, 16, 17, 18, 19, 20, 21, 22, 23, 24, 25, 26, 27, 28, 29, 30, 31, 32, 33, 34, 35, 36, 37, 38, 39, 40, 41, 42, 43, 44, 45, 46, 47, 48, 49, 50, 51, 52, 53, 54, 55, 56, 57, 58, 59, 60, 61, 62, 63, 64, 65, 66, 67, 68, 69, 70, 71, 72, 73, 74, 75, 76, 77, 78, 79, 80, 81, 82, 83, 84, 85, 86, 87, 88, 89, 90, 91, 92, 93, 94, 95, 96, 97, 98, 99, 100, 101, 102, 103, 104, 105, 106, 107, 108, 109, 110] rfl (fun _ => rfl) (fun u537 hu537 => ?_)
  refine g_icmp_eq hX 857 dL_law_540 (by decide) (fun _ => ?_) (fun c => (c (rfl)).elim)
  exact nx z tx R C D V U S G u537 (INV_KS hI hu537)
set_option maxHeartbeats 4000000 in
set_option maxRecDepth 100000 in
theorem lc_truest_y (q : Nat) (hc : LCX x l E b L xs kk nn t i) (hI : INV t z tx R C V U S M) (nx : NX x E ae ab ar an af ah ak ax ag a b kk nn t i) (e1 : xs (i + 1) = nI q) (hq : q ≤ 1) : GG x kk nn (LWM E ae ab ar an af ah ak ax ag a z tx R C D V U S G M) 522 [(0, .ref b), (1, .ref (ae 0)), (2, .ref (a 0)), (3, .int (nI i))] [] := by
  obtain ⟨hX, hSX, hkk, hnn, hit, hi5, hL3⟩ := hc
  obtain ⟨⟨hz, htx, hmX, hmL, hRq⟩, ⟨hN1, hD, hSr, hTm⟩, hE, ⟨hv1, hv2, hv3⟩, ⟨hu1, hu2, hu3⟩⟩ := id hI
  have hm : 30 * t < 2 ^ 29 := by omega
  have hC := hD.1.1
  obtain ⟨h9, h64, h512, hTq, hIq⟩ := id hC
  have hSK := hD.1.2
  have hV := DI_VB hD (by omega)
  have htx2 : ∀ j, tx j < 2 ^ 16 := fun j => by have := htx j; omega
  have hmX2 : ∀ j, mX M j < 128 := by rw [hmX]; exact htx
  have h6 : hN S ≤ 6 := hE.2.1
  have hs9 : ∀ j, j < hN S → hS S j < 9 := fun j hj => (hE.2.2 j hj).2.2
  show GG x kk nn ((lfo E ae ab ar an af ah ak ax ag z ++ (tw E ab 200 tx ++ (rw_ E ar R ++ (fw E an C ++ (fw E af D ++ (pw8 E ah V ++ (pw2 E ak U ++ (sw E ax S ++ (gw E ag G ++ (mw E a M))))))))))) 522 [(0, .ref b), (1, .ref (ae 0)), (2, .ref (a 0)), (3, .int (nI i))] []
  refine g_aload_n hX dL_law_522 1 rfl ?_
  refine g_aload_n hX dL_law_523 0 rfl ?_
  refine g_iload_n hX dL_law_524 3 rfl ?_
  refine g_iconst hX (nI 1) dL_law_525 rfl ?_
  refine g_iadd hX (nI (i + 1)) dL_law_526 (nI_add _ _) ?_
  refine g_sld hX hSX (i := i + 1) (nI q) (by omega) (by omega) e1 dL_law_527 ?_
  have hc528 : CUT ((lfo E ae ab ar an af ah ak ax ag z ++ (tw E ab 200 tx ++ (rw_ E ar R ++ (fw E an C ++ (fw E af D ++ (pw8 E ah V ++ (pw2 E ak U ++ (sw E ax S ++ (gw E ag G ++ (mw E a M))))))))))) ((lfo E ae ab ar an af ah ak ax ag z) ++ (fw E an C)) ((tw E ab 200 tx ++ (rw_ E ar R ++ (fw E af D ++ (pw8 E ah V ++ (pw2 E ak U ++ (sw E ax S ++ (gw E ag G ++ (mw E a M))))))))) [0, 4, 5, 6, 7, 8, 9, 10] [1, 2, 3, 11, 12, 13, 14, 15, 16, 17, 18, 19, 20, 21, 22, 23, 24, 25, 26, 27, 28, 29, 30, 31, 32, 33, 34, 35, 36, 37, 38, 39, 40, 41, 42, 43, 44, 45, 46, 47, 48, 49, 50, 51, 52, 53, 54, 55, 56, 57, 58, 59, 60, 61, 62, 63, 64, 65, 66, 67, 68, 69, 70, 71, 72, 73, 74, 75, 76, 77, 78, 79, 80, 81, 82, 83, 84, 85, 86, 87, 88, 89, 90, 91, 92, 93, 94, 95, 96, 97, 98, 99, 100, 101, 102, 103, 104, 105, 106, 107, 108, 109, 110] := ⟨rfl, rfl, rfl, rfl, rfl⟩
  refine g_VI hX hc528 [.int (nI q)] [] (c_X5_truest_y l E ae ab ar an af ah ak ax ag z C q (by first | assumption | omega) (by first | assumption | omega)) gL_law_X5_truest calX5_truest rfl rfl rfl rfl 0 rfl rfl rfl rfl dL_law_528 rfl ⟨hkk, hnn⟩ (fun _ => (lfo E ae ab ar an af ah ak ax ag z ++ (tw E ab 200 tx ++ (rw_ E ar R ++ (fw E an C ++ (fw E af D ++ (pw8 E ah V ++ (pw2 E ak U ++ (sw E ax S ++ (gw E ag G ++ (mw E a M))))))))))) [103, 0, 1, 2, 104, 105, 106, 107, 108, 109, 110, 3, 4, 5, 6, 7, 8, 9, 10, 11, 12, 13, 14, 15, 16, 17, 18, 19, 20, 21, 22, 23, 24, 25, 26, 27, 28, 29, 30, 31, 32, 33, 34, 35, 36, 37, 38, 39, 40, 41, 42, 43, 44, 45, 46, 47, 48, 49, 50, 51, 52, 53, 54, 55, 56, 57, 58, 59, 60, 61, 62, 63, 64, 65, 66, 67, 68, 69, 70, 71, 72, 73, 74, 75, 76, 77, 78, 79, 80, 81, 82, 83, 84, 85, 86, 87, 88, 89, 90, 91, 92, 93, 94, 95, 96, 97, 98, 99, 100, 101, 102] rfl (fun _ => rfl) (fun _ hu528 => ?_)
  refine g_aload_n hX dL_law_531 2 rfl ?_
  refine g_aload_n hX dL_law_532 0 rfl ?_
  refine g_iload_n hX dL_law_533 3 rfl ?_
  refine g_iconst hX (nI 1) dL_law_534 rfl ?_
  refine g_iadd hX (nI (i + 1)) dL_law_535 (nI_add _ _) ?_
  refine g_sld hX hSX (i := i + 1) (nI q) (by omega) (by omega) e1 dL_law_536 ?_
  have hc537 : CUT ((lfo E ae ab ar an af ah ak ax ag z ++ (tw E ab 200 tx ++ (rw_ E ar R ++ (fw E an C ++ (fw E af D ++ (pw8 E ah V ++ (pw2 E ak U ++ (sw E ax S ++ (gw E ag G ++ (mw E a M))))))))))) (mw E a M) ((lfo E ae ab ar an af ah ak ax ag z ++ (tw E ab 200 tx ++ (rw_ E ar R ++ (fw E an C ++ (fw E af D ++ (pw8 E ah V ++ (pw2 E ak U ++ (sw E ax S ++ (gw E ag G)))))))))) [98, 99, 100, 101, 102, 103, 104, 105, 106, 107, 108, 109, 110] [0, 1, 2, 3, 4, 5, 6, 7, 8, 9, 10, 11, 12, 13, 14, 15, 16, 17, 18, 19, 20, 21, 22, 23, 24, 25, 26, 27, 28, 29, 30, 31, 32, 33, 34, 35, 36, 37, 38, 39, 40, 41, 42, 43, 44, 45, 46, 47, 48, 49, 50, 51, 52, 53, 54, 55, 56, 57, 58, 59, 60, 61, 62, 63, 64, 65, 66, 67, 68, 69, 70, 71, 72, 73, 74, 75, 76, 77, 78, 79, 80, 81, 82, 83, 84, 85, 86, 87, 88, 89, 90, 91, 92, 93, 94, 95, 96, 97] := ⟨rfl, rfl, rfl, rfl, rfl⟩
  refine g_VI hX hc537 [.int (nI q)] [.int (if q = 0 then (trX C 64).1 else nI (trX C 64).2)] (c_X6_truest_y l E a M C (30 * t) q (by first | assumption | omega) (by first | assumption | omega) (by first | assumption | omega) (by first | assumption | omega) (by first | assumption | omega) (by first | assumption | omega)) gL_law_X6_truest calX6_truest rfl rfl rfl rfl 98 rfl rfl rfl rfl dL_law_537 rfl ⟨hkk, hnn⟩ (fun u537 => (lfo E ae ab ar an af ah ak ax ag z ++ (tw E ab 200 tx ++ (rw_ E ar R ++ (fw E an C ++ (fw E af D ++ (pw8 E ah V ++ (pw2 E ak U ++ (sw E ax S ++ (gw E ag G ++ (mw E a u537))))))))))) [0, 1, 2, 3, 4, 5, 6, 7, 8, 9, 10, 11, 12, 13, 14, 15, 16, 17, 18, 19, 20, 21, 22, 23, 24, 25, 26, 27, 28, 29, 30, 31, 32, 33, 34, 35, 36, 37, 38, 39, 40, 41, 42, 43, 44, 45, 46, 47, 48, 49, 50, 51, 52, 53, 54, 55, 56, 57, 58, 59, 60, 61, 62, 63, 64, 65, 66, 67, 68, 69, 70, 71, 72, 73, 74, 75, 76, 77, 78, 79, 80, 81, 82, 83, 84, 85, 86, 87, 88, 89, 90, 91, 92, 93, 94, 95, 96, 97, 98, 99, 100, 101, 102, 103, 104, 105, 106, 107, 108, 109, 110] rfl (fun _ => rfl) (fun u537 hu537 => ?_)
  refine g_icmp_eq hX 857 dL_law_540 (by decide) (fun _ => ?_) (fun c => (c (E_truest h9 q)).elim)
  exact nx z tx R C D V U S G u537 (INV_KS hI hu537)
set_option maxHeartbeats 4000000 in
set_option maxRecDepth 100000 in
theorem lc_married  (hc : LCX x l E b L xs kk nn t i) (hI : INV t z tx R C V U S M) (nx : NX x E ae ab ar an af ah ak ax ag a b kk nn t i)  : GG x kk nn (LWM E ae ab ar an af ah ak ax ag a z tx R C D V U S G M) 545 [(0, .ref b), (1, .ref (ae 0)), (2, .ref (a 0)), (3, .int (nI i))] [] := by
  obtain ⟨hX, hSX, hkk, hnn, hit, hi5, hL3⟩ := hc
  obtain ⟨⟨hz, htx, hmX, hmL, hRq⟩, ⟨hN1, hD, hSr, hTm⟩, hE, ⟨hv1, hv2, hv3⟩, ⟨hu1, hu2, hu3⟩⟩ := id hI
  have hm : 30 * t < 2 ^ 29 := by omega
  have hC := hD.1.1
  obtain ⟨h9, h64, h512, hTq, hIq⟩ := id hC
  have hSK := hD.1.2
  have hV := DI_VB hD (by omega)
  have htx2 : ∀ j, tx j < 2 ^ 16 := fun j => by have := htx j; omega
  have hmX2 : ∀ j, mX M j < 128 := by rw [hmX]; exact htx
  have h6 : hN S ≤ 6 := hE.2.1
  have hs9 : ∀ j, j < hN S → hS S j < 9 := fun j hj => (hE.2.2 j hj).2.2
  show GG x kk nn ((lfo E ae ab ar an af ah ak ax ag z ++ (tw E ab 200 tx ++ (rw_ E ar R ++ (fw E an C ++ (fw E af D ++ (pw8 E ah V ++ (pw2 E ak U ++ (sw E ax S ++ (gw E ag G ++ (mw E a M))))))))))) 545 [(0, .ref b), (1, .ref (ae 0)), (2, .ref (a 0)), (3, .int (nI i))] []
  refine g_aload_n hX dL_law_545 1 rfl ?_
  have hc546 : CUT ((lfo E ae ab ar an af ah ak ax ag z ++ (tw E ab 200 tx ++ (rw_ E ar R ++ (fw E an C ++ (fw E af D ++ (pw8 E ah V ++ (pw2 E ak U ++ (sw E ax S ++ (gw E ag G ++ (mw E a M))))))))))) ((lfo E ae ab ar an af ah ak ax ag z) ++ (fw E an C)) ((tw E ab 200 tx ++ (rw_ E ar R ++ (fw E af D ++ (pw8 E ah V ++ (pw2 E ak U ++ (sw E ax S ++ (gw E ag G ++ (mw E a M))))))))) [0, 4, 5, 6, 7, 8, 9, 10] [1, 2, 3, 11, 12, 13, 14, 15, 16, 17, 18, 19, 20, 21, 22, 23, 24, 25, 26, 27, 28, 29, 30, 31, 32, 33, 34, 35, 36, 37, 38, 39, 40, 41, 42, 43, 44, 45, 46, 47, 48, 49, 50, 51, 52, 53, 54, 55, 56, 57, 58, 59, 60, 61, 62, 63, 64, 65, 66, 67, 68, 69, 70, 71, 72, 73, 74, 75, 76, 77, 78, 79, 80, 81, 82, 83, 84, 85, 86, 87, 88, 89, 90, 91, 92, 93, 94, 95, 96, 97, 98, 99, 100, 101, 102, 103, 104, 105, 106, 107, 108, 109, 110] := ⟨rfl, rfl, rfl, rfl, rfl⟩
  refine g_VI hX hc546 [] [] (c_X5_married l E ae ab ar an af ah ak ax ag z C (by first | assumption | omega)) gL_law_X5_married calX5_married rfl rfl rfl rfl 0 rfl rfl rfl rfl dL_law_546 rfl ⟨hkk, hnn⟩ (fun _ => (lfo E ae ab ar an af ah ak ax ag z ++ (tw E ab 200 tx ++ (rw_ E ar R ++ (fw E an C ++ (fw E af D ++ (pw8 E ah V ++ (pw2 E ak U ++ (sw E ax S ++ (gw E ag G ++ (mw E a M))))))))))) [103, 0, 1, 2, 104, 105, 106, 107, 108, 109, 110, 3, 4, 5, 6, 7, 8, 9, 10, 11, 12, 13, 14, 15, 16, 17, 18, 19, 20, 21, 22, 23, 24, 25, 26, 27, 28, 29, 30, 31, 32, 33, 34, 35, 36, 37, 38, 39, 40, 41, 42, 43, 44, 45, 46, 47, 48, 49, 50, 51, 52, 53, 54, 55, 56, 57, 58, 59, 60, 61, 62, 63, 64, 65, 66, 67, 68, 69, 70, 71, 72, 73, 74, 75, 76, 77, 78, 79, 80, 81, 82, 83, 84, 85, 86, 87, 88, 89, 90, 91, 92, 93, 94, 95, 96, 97, 98, 99, 100, 101, 102] rfl (fun _ => rfl) (fun _ hu546 => ?_)
  refine g_aload_n hX dL_law_549 2 rfl ?_
  have hc550 : CUT ((lfo E ae ab ar an af ah ak ax ag z ++ (tw E ab 200 tx ++ (rw_ E ar R ++ (fw E an C ++ (fw E af D ++ (pw8 E ah V ++ (pw2 E ak U ++ (sw E ax S ++ (gw E ag G ++ (mw E a M))))))))))) (mw E a M) ((lfo E ae ab ar an af ah ak ax ag z ++ (tw E ab 200 tx ++ (rw_ E ar R ++ (fw E an C ++ (fw E af D ++ (pw8 E ah V ++ (pw2 E ak U ++ (sw E ax S ++ (gw E ag G)))))))))) [98, 99, 100, 101, 102, 103, 104, 105, 106, 107, 108, 109, 110] [0, 1, 2, 3, 4, 5, 6, 7, 8, 9, 10, 11, 12, 13, 14, 15, 16, 17, 18, 19, 20, 21, 22, 23, 24, 25, 26, 27, 28, 29, 30, 31, 32, 33, 34, 35, 36, 37, 38, 39, 40, 41, 42, 43, 44, 45, 46, 47, 48, 49, 50, 51, 52, 53, 54, 55, 56, 57, 58, 59, 60, 61, 62, 63, 64, 65, 66, 67, 68, 69, 70, 71, 72, 73, 74, 75, 76, 77, 78, 79, 80, 81, 82, 83, 84, 85, 86, 87, 88, 89, 90, 91, 92, 93, 94, 95, 96, 97] := ⟨rfl, rfl, rfl, rfl, rfl⟩
  refine g_VI hX hc550 [] [.int (nI (mpF C ((cN C)) (lieM C ((cF C))) 0))] (c_X6_married l E a M C (30 * t) (by first | assumption | omega) (by first | assumption | omega) (by first | assumption | omega) (by first | assumption | omega) (by first | assumption | omega)) gL_law_X6_married calX6_married rfl rfl rfl rfl 98 rfl rfl rfl rfl dL_law_550 rfl ⟨hkk, hnn⟩ (fun u550 => (lfo E ae ab ar an af ah ak ax ag z ++ (tw E ab 200 tx ++ (rw_ E ar R ++ (fw E an C ++ (fw E af D ++ (pw8 E ah V ++ (pw2 E ak U ++ (sw E ax S ++ (gw E ag G ++ (mw E a u550))))))))))) [0, 1, 2, 3, 4, 5, 6, 7, 8, 9, 10, 11, 12, 13, 14, 15, 16, 17, 18, 19, 20, 21, 22, 23, 24, 25, 26, 27, 28, 29, 30, 31, 32, 33, 34, 35, 36, 37, 38, 39, 40, 41, 42, 43, 44, 45, 46, 47, 48, 49, 50, 51, 52, 53, 54, 55, 56, 57, 58, 59, 60, 61, 62, 63, 64, 65, 66, 67, 68, 69, 70, 71, 72, 73, 74, 75, 76, 77, 78, 79, 80, 81, 82, 83, 84, 85, 86, 87, 88, 89, 90, 91, 92, 93, 94, 95, 96, 97, 98, 99, 100, 101, 102, 103, 104, 105, 106, 107, 108, 109, 110] rfl (fun _ => rfl) (fun u550 hu550 => ?_)
  refine g_icmp_eq hX 857 dL_law_553 (by decide) (fun _ => ?_) (fun c => (c (rfl)).elim)
  exact nx z tx R C D V U S G u550 (INV_KS hI hu550)
set_option maxHeartbeats 4000000 in
set_option maxRecDepth 100000 in
theorem lc_trial_n  (hc : LCX x l E b L xs kk nn t i) (hI : INV t z tx R C V U S M) (nx : NX x E ae ab ar an af ah ak ax ag a b kk nn t i) (hx : (win (xs (i + 1)) (nI 1) (nI 4) && win (xs (i + 2)) (nI 0) (nI 1)) = false) : GG x kk nn (LWM E ae ab ar an af ah ak ax ag a z tx R C D V U S G M) 558 [(0, .ref b), (1, .ref (ae 0)), (2, .ref (a 0)), (3, .int (nI i))] [] := by
  obtain ⟨hX, hSX, hkk, hnn, hit, hi5, hL3⟩ := hc
  obtain ⟨⟨hz, htx, hmX, hmL, hRq⟩, ⟨hN1, hD, hSr, hTm⟩, hE, ⟨hv1, hv2, hv3⟩, ⟨hu1, hu2, hu3⟩⟩ := id hI
  have hm : 30 * t < 2 ^ 29 := by omega
  have hC := hD.1.1
  obtain ⟨h9, h64, h512, hTq, hIq⟩ := id hC
  have hSK := hD.1.2
  have hV := DI_VB hD (by omega)
  have htx2 : ∀ j, tx j < 2 ^ 16 := fun j => by have := htx j; omega
  have hmX2 : ∀ j, mX M j < 128 := by rw [hmX]; exact htx
  have h6 : hN S ≤ 6 := hE.2.1
  have hs9 : ∀ j, j < hN S → hS S j < 9 := fun j hj => (hE.2.2 j hj).2.2
  show GG x kk nn ((lfo E ae ab ar an af ah ak ax ag z ++ (tw E ab 200 tx ++ (rw_ E ar R ++ (fw E an C ++ (fw E af D ++ (pw8 E ah V ++ (pw2 E ak U ++ (sw E ax S ++ (gw E ag G ++ (mw E a M))))))))))) 558 [(0, .ref b), (1, .ref (ae 0)), (2, .ref (a 0)), (3, .int (nI i))] []
  refine g_aload_n hX dL_law_558 1 rfl ?_
  refine g_aload_n hX dL_law_559 0 rfl ?_
  refine g_iload_n hX dL_law_560 3 rfl ?_
  refine g_iconst hX (nI 1) dL_law_561 rfl ?_
  refine g_iadd hX (nI (i + 1)) dL_law_562 (nI_add _ _) ?_
  refine g_sld hX hSX (i := i + 1) ((xs (i + 1))) (by omega) (by omega) rfl dL_law_563 ?_
  refine g_aload_n hX dL_law_564 0 rfl ?_
  refine g_iload_n hX dL_law_565 3 rfl ?_
  refine g_iconst hX (nI 2) dL_law_566 rfl ?_
  refine g_iadd hX (nI (i + 2)) dL_law_567 (nI_add _ _) ?_
  refine g_sld hX hSX (i := i + 2) ((xs (i + 2))) (by omega) (by omega) rfl dL_law_568 ?_
  have hc569 : CUT ((lfo E ae ab ar an af ah ak ax ag z ++ (tw E ab 200 tx ++ (rw_ E ar R ++ (fw E an C ++ (fw E af D ++ (pw8 E ah V ++ (pw2 E ak U ++ (sw E ax S ++ (gw E ag G ++ (mw E a M))))))))))) (lfo E ae ab ar an af ah ak ax ag z) ((tw E ab 200 tx ++ (rw_ E ar R ++ (fw E an C ++ (fw E af D ++ (pw8 E ah V ++ (pw2 E ak U ++ (sw E ax S ++ (gw E ag G ++ (mw E a M)))))))))) [0] [1, 2, 3, 4, 5, 6, 7, 8, 9, 10, 11, 12, 13, 14, 15, 16, 17, 18, 19, 20, 21, 22, 23, 24, 25, 26, 27, 28, 29, 30, 31, 32, 33, 34, 35, 36, 37, 38, 39, 40, 41, 42, 43, 44, 45, 46, 47, 48, 49, 50, 51, 52, 53, 54, 55, 56, 57, 58, 59, 60, 61, 62, 63, 64, 65, 66, 67, 68, 69, 70, 71, 72, 73, 74, 75, 76, 77, 78, 79, 80, 81, 82, 83, 84, 85, 86, 87, 88, 89, 90, 91, 92, 93, 94, 95, 96, 97, 98, 99, 100, 101, 102, 103, 104, 105, 106, 107, 108, 109, 110] := ⟨rfl, rfl, rfl, rfl, rfl⟩
  refine g_VI hX hc569 [.int (xs (i + 1)), .int (xs (i + 2))] [] (c_X5_trial_n l E ae ab ar an af ah ak ax ag z (xs (i + 1)) (xs (i + 2)) (by first | assumption | omega)) gL_law_X5_trial calX5_trial rfl rfl rfl rfl 0 rfl rfl rfl rfl dL_law_569 rfl ⟨hkk, hnn⟩ (fun _ => (lfo E ae ab ar an af ah ak ax ag z ++ (tw E ab 200 tx ++ (rw_ E ar R ++ (fw E an C ++ (fw E af D ++ (pw8 E ah V ++ (pw2 E ak U ++ (sw E ax S ++ (gw E ag G ++ (mw E a M))))))))))) [110, 0, 1, 2, 3, 4, 5, 6, 7, 8, 9, 10, 11, 12, 13, 14, 15, 16, 17, 18, 19, 20, 21, 22, 23, 24, 25, 26, 27, 28, 29, 30, 31, 32, 33, 34, 35, 36, 37, 38, 39, 40, 41, 42, 43, 44, 45, 46, 47, 48, 49, 50, 51, 52, 53, 54, 55, 56, 57, 58, 59, 60, 61, 62, 63, 64, 65, 66, 67, 68, 69, 70, 71, 72, 73, 74, 75, 76, 77, 78, 79, 80, 81, 82, 83, 84, 85, 86, 87, 88, 89, 90, 91, 92, 93, 94, 95, 96, 97, 98, 99, 100, 101, 102, 103, 104, 105, 106, 107, 108, 109] rfl (fun _ => rfl) (fun _ hu569 => ?_)
  refine g_aload_n hX dL_law_572 2 rfl ?_
  refine g_aload_n hX dL_law_573 0 rfl ?_
  refine g_iload_n hX dL_law_574 3 rfl ?_
  refine g_iconst hX (nI 1) dL_law_575 rfl ?_
  refine g_iadd hX (nI (i + 1)) dL_law_576 (nI_add _ _) ?_
  refine g_sld hX hSX (i := i + 1) ((xs (i + 1))) (by omega) (by omega) rfl dL_law_577 ?_
  refine g_aload_n hX dL_law_578 0 rfl ?_
  refine g_iload_n hX dL_law_579 3 rfl ?_
  refine g_iconst hX (nI 2) dL_law_580 rfl ?_
  refine g_iadd hX (nI (i + 2)) dL_law_581 (nI_add _ _) ?_
  refine g_sld hX hSX (i := i + 2) ((xs (i + 2))) (by omega) (by omega) rfl dL_law_582 ?_
  have hc583 : CUT ((lfo E ae ab ar an af ah ak ax ag z ++ (tw E ab 200 tx ++ (rw_ E ar R ++ (fw E an C ++ (fw E af D ++ (pw8 E ah V ++ (pw2 E ak U ++ (sw E ax S ++ (gw E ag G ++ (mw E a M))))))))))) (mw E a M) ((lfo E ae ab ar an af ah ak ax ag z ++ (tw E ab 200 tx ++ (rw_ E ar R ++ (fw E an C ++ (fw E af D ++ (pw8 E ah V ++ (pw2 E ak U ++ (sw E ax S ++ (gw E ag G)))))))))) [98, 99, 100, 101, 102, 103, 104, 105, 106, 107, 108, 109, 110] [0, 1, 2, 3, 4, 5, 6, 7, 8, 9, 10, 11, 12, 13, 14, 15, 16, 17, 18, 19, 20, 21, 22, 23, 24, 25, 26, 27, 28, 29, 30, 31, 32, 33, 34, 35, 36, 37, 38, 39, 40, 41, 42, 43, 44, 45, 46, 47, 48, 49, 50, 51, 52, 53, 54, 55, 56, 57, 58, 59, 60, 61, 62, 63, 64, 65, 66, 67, 68, 69, 70, 71, 72, 73, 74, 75, 76, 77, 78, 79, 80, 81, 82, 83, 84, 85, 86, 87, 88, 89, 90, 91, 92, 93, 94, 95, 96, 97] := ⟨rfl, rfl, rfl, rfl, rfl⟩
  refine g_VI hX hc583 [.int (xs (i + 1)), .int (xs (i + 2))] [.int (-1)] (c_X6_trial_n l E a M C (30 * t) (xs (i + 1)) (xs (i + 2)) (by first | assumption | omega) (by first | assumption | omega) (by first | assumption | omega) (by first | assumption | omega) (by first | assumption | omega) (by first | assumption | omega)) gL_law_X6_trial calX6_trial rfl rfl rfl rfl 98 rfl rfl rfl rfl dL_law_583 rfl ⟨hkk, hnn⟩ (fun u583 => (lfo E ae ab ar an af ah ak ax ag z ++ (tw E ab 200 tx ++ (rw_ E ar R ++ (fw E an C ++ (fw E af D ++ (pw8 E ah V ++ (pw2 E ak U ++ (sw E ax S ++ (gw E ag G ++ (mw E a u583))))))))))) [0, 1, 2, 3, 4, 5, 6, 7, 8, 9, 10, 11, 12, 13, 14, 15, 16, 17, 18, 19, 20, 21, 22, 23, 24, 25, 26, 27, 28, 29, 30, 31, 32, 33, 34, 35, 36, 37, 38, 39, 40, 41, 42, 43, 44, 45, 46, 47, 48, 49, 50, 51, 52, 53, 54, 55, 56, 57, 58, 59, 60, 61, 62, 63, 64, 65, 66, 67, 68, 69, 70, 71, 72, 73, 74, 75, 76, 77, 78, 79, 80, 81, 82, 83, 84, 85, 86, 87, 88, 89, 90, 91, 92, 93, 94, 95, 96, 97, 98, 99, 100, 101, 102, 103, 104, 105, 106, 107, 108, 109, 110] rfl (fun _ => rfl) (fun u583 hu583 => ?_)
  refine g_icmp_eq hX 857 dL_law_586 (by decide) (fun _ => ?_) (fun c => (c (rfl)).elim)
  exact nx z tx R C D V U S G u583 (INV_KS hI hu583)
set_option maxHeartbeats 4000000 in
set_option maxRecDepth 100000 in
theorem lc_trial_y (n : Nat) (p : Nat) (hc : LCX x l E b L xs kk nn t i) (hI : INV t z tx R C V U S M) (nx : NX x E ae ab ar an af ah ak ax ag a b kk nn t i) (e1 : xs (i + 1) = nI n) (e2 : xs (i + 2) = nI p) (hn1 : 1 ≤ n) (hn4 : n ≤ 4) (hp : p ≤ 1) : GG x kk nn (LWM E ae ab ar an af ah ak ax ag a z tx R C D V U S G M) 558 [(0, .ref b), (1, .ref (ae 0)), (2, .ref (a 0)), (3, .int (nI i))] [] := by
  obtain ⟨hX, hSX, hkk, hnn, hit, hi5, hL3⟩ := hc
  obtain ⟨⟨hz, htx, hmX, hmL, hRq⟩, ⟨hN1, hD, hSr, hTm⟩, hE, ⟨hv1, hv2, hv3⟩, ⟨hu1, hu2, hu3⟩⟩ := id hI
  have hm : 30 * t < 2 ^ 29 := by omega
  have hC := hD.1.1
  obtain ⟨h9, h64, h512, hTq, hIq⟩ := id hC
  have hSK := hD.1.2
  have hV := DI_VB hD (by omega)
  have htx2 : ∀ j, tx j < 2 ^ 16 := fun j => by have := htx j; omega
  have hmX2 : ∀ j, mX M j < 128 := by rw [hmX]; exact htx
  have h6 : hN S ≤ 6 := hE.2.1
  have hs9 : ∀ j, j < hN S → hS S j < 9 := fun j hj => (hE.2.2 j hj).2.2
  show GG x kk nn ((lfo E ae ab ar an af ah ak ax ag z ++ (tw E ab 200 tx ++ (rw_ E ar R ++ (fw E an C ++ (fw E af D ++ (pw8 E ah V ++ (pw2 E ak U ++ (sw E ax S ++ (gw E ag G ++ (mw E a M))))))))))) 558 [(0, .ref b), (1, .ref (ae 0)), (2, .ref (a 0)), (3, .int (nI i))] []
  refine g_aload_n hX dL_law_558 1 rfl ?_
  refine g_aload_n hX dL_law_559 0 rfl ?_
  refine g_iload_n hX dL_law_560 3 rfl ?_
  refine g_iconst hX (nI 1) dL_law_561 rfl ?_
  refine g_iadd hX (nI (i + 1)) dL_law_562 (nI_add _ _) ?_
  refine g_sld hX hSX (i := i + 1) (nI n) (by omega) (by omega) e1 dL_law_563 ?_
  refine g_aload_n hX dL_law_564 0 rfl ?_
  refine g_iload_n hX dL_law_565 3 rfl ?_
  refine g_iconst hX (nI 2) dL_law_566 rfl ?_
  refine g_iadd hX (nI (i + 2)) dL_law_567 (nI_add _ _) ?_
  refine g_sld hX hSX (i := i + 2) (nI p) (by omega) (by omega) e2 dL_law_568 ?_
  have hc569 : CUT ((lfo E ae ab ar an af ah ak ax ag z ++ (tw E ab 200 tx ++ (rw_ E ar R ++ (fw E an C ++ (fw E af D ++ (pw8 E ah V ++ (pw2 E ak U ++ (sw E ax S ++ (gw E ag G ++ (mw E a M))))))))))) ((lfo E ae ab ar an af ah ak ax ag z ++ (fw E an C ++ (gw E ag G)))) ((tw E ab 200 tx ++ (rw_ E ar R ++ (fw E af D ++ (pw8 E ah V ++ (pw2 E ak U ++ (sw E ax S ++ (mw E a M)))))))) [0, 4, 5, 6, 7, 8, 9, 10, 95, 96, 97] [1, 2, 3, 11, 12, 13, 14, 15, 16, 17, 18, 19, 20, 21, 22, 23, 24, 25, 26, 27, 28, 29, 30, 31, 32, 33, 34, 35, 36, 37, 38, 39, 40, 41, 42, 43, 44, 45, 46, 47, 48, 49, 50, 51, 52, 53, 54, 55, 56, 57, 58, 59, 60, 61, 62, 63, 64, 65, 66, 67, 68, 69, 70, 71, 72, 73, 74, 75, 76, 77, 78, 79, 80, 81, 82, 83, 84, 85, 86, 87, 88, 89, 90, 91, 92, 93, 94, 98, 99, 100, 101, 102, 103, 104, 105, 106, 107, 108, 109, 110] := ⟨rfl, rfl, rfl, rfl, rfl⟩
  refine g_VI hX hc569 [.int (nI n), .int (nI p)] [] (c_X5_trial_y l E ae ab ar an af ah ak ax ag z C G n p (by first | assumption | omega) (by first | assumption | omega) (by first | assumption | omega) (by first | assumption | omega)) gL_law_X5_trial calX5_trial rfl rfl rfl rfl 0 rfl rfl rfl rfl dL_law_569 rfl ⟨hkk, hnn⟩ (fun _ => (lfo E ae ab ar an af ah ak ax ag z ++ (tw E ab 200 tx ++ (rw_ E ar R ++ (fw E an C ++ (fw E af D ++ (pw8 E ah V ++ (pw2 E ak U ++ (sw E ax S ++ (gw E ag (mkGC (lvF C n (n - 1)) (lvF C n n)) ++ (mw E a M))))))))))) [100, 0, 1, 2, 101, 102, 103, 104, 105, 106, 107, 3, 4, 5, 6, 7, 8, 9, 10, 11, 12, 13, 14, 15, 16, 17, 18, 19, 20, 21, 22, 23, 24, 25, 26, 27, 28, 29, 30, 31, 32, 33, 34, 35, 36, 37, 38, 39, 40, 41, 42, 43, 44, 45, 46, 47, 48, 49, 50, 51, 52, 53, 54, 55, 56, 57, 58, 59, 60, 61, 62, 63, 64, 65, 66, 67, 68, 69, 70, 71, 72, 73, 74, 75, 76, 77, 78, 79, 80, 81, 82, 83, 84, 85, 86, 108, 109, 110, 87, 88, 89, 90, 91, 92, 93, 94, 95, 96, 97, 98, 99] rfl (fun _ => rfl) (fun _ hu569 => ?_)
  refine g_aload_n hX dL_law_572 2 rfl ?_
  refine g_aload_n hX dL_law_573 0 rfl ?_
  refine g_iload_n hX dL_law_574 3 rfl ?_
  refine g_iconst hX (nI 1) dL_law_575 rfl ?_
  refine g_iadd hX (nI (i + 1)) dL_law_576 (nI_add _ _) ?_
  refine g_sld hX hSX (i := i + 1) (nI n) (by omega) (by omega) e1 dL_law_577 ?_
  refine g_aload_n hX dL_law_578 0 rfl ?_
  refine g_iload_n hX dL_law_579 3 rfl ?_
  refine g_iconst hX (nI 2) dL_law_580 rfl ?_
  refine g_iadd hX (nI (i + 2)) dL_law_581 (nI_add _ _) ?_
  refine g_sld hX hSX (i := i + 2) (nI p) (by omega) (by omega) e2 dL_law_582 ?_
  have hc583 : CUT ((lfo E ae ab ar an af ah ak ax ag z ++ (tw E ab 200 tx ++ (rw_ E ar R ++ (fw E an C ++ (fw E af D ++ (pw8 E ah V ++ (pw2 E ak U ++ (sw E ax S ++ (gw E ag (mkGC (lvF C n (n - 1)) (lvF C n n)) ++ (mw E a M))))))))))) (mw E a M) ((lfo E ae ab ar an af ah ak ax ag z ++ (tw E ab 200 tx ++ (rw_ E ar R ++ (fw E an C ++ (fw E af D ++ (pw8 E ah V ++ (pw2 E ak U ++ (sw E ax S ++ (gw E ag (mkGC (lvF C n (n - 1)) (lvF C n n)))))))))))) [98, 99, 100, 101, 102, 103, 104, 105, 106, 107, 108, 109, 110] [0, 1, 2, 3, 4, 5, 6, 7, 8, 9, 10, 11, 12, 13, 14, 15, 16, 17, 18, 19, 20, 21, 22, 23, 24, 25, 26, 27, 28, 29, 30, 31, 32, 33, 34, 35, 36, 37, 38, 39, 40, 41, 42, 43, 44, 45, 46, 47, 48, 49, 50, 51, 52, 53, 54, 55, 56, 57, 58, 59, 60, 61, 62, 63, 64, 65, 66, 67, 68, 69, 70, 71, 72, 73, 74, 75, 76, 77, 78, 79, 80, 81, 82, 83, 84, 85, 86, 87, 88, 89, 90, 91, 92, 93, 94, 95, 96, 97] := ⟨rfl, rfl, rfl, rfl, rfl⟩
  refine g_VI hX hc583 [.int (nI n), .int (nI p)] [.int (if p = 0 then nI (lvF C n n ((cF C))) else oI (fmO (mkGC (lvF C n (n - 1)) (lvF C n n)) ((cF C))))] (c_X6_trial_y l E a M C (30 * t) n p (by first | assumption | omega) (by first | assumption | omega) (by first | assumption | omega) (by first | assumption | omega) (by first | assumption | omega) (by first | assumption | omega) (by first | assumption | omega) (by first | assumption | omega)) gL_law_X6_trial calX6_trial rfl rfl rfl rfl 98 rfl rfl rfl rfl dL_law_583 rfl ⟨hkk, hnn⟩ (fun u583 => (lfo E ae ab ar an af ah ak ax ag z ++ (tw E ab 200 tx ++ (rw_ E ar R ++ (fw E an C ++ (fw E af D ++ (pw8 E ah V ++ (pw2 E ak U ++ (sw E ax S ++ (gw E ag (mkGC (lvF C n (n - 1)) (lvF C n n)) ++ (mw E a u583))))))))))) [0, 1, 2, 3, 4, 5, 6, 7, 8, 9, 10, 11, 12, 13, 14, 15, 16, 17, 18, 19, 20, 21, 22, 23, 24, 25, 26, 27, 28, 29, 30, 31, 32, 33, 34, 35, 36, 37, 38, 39, 40, 41, 42, 43, 44, 45, 46, 47, 48, 49, 50, 51, 52, 53, 54, 55, 56, 57, 58, 59, 60, 61, 62, 63, 64, 65, 66, 67, 68, 69, 70, 71, 72, 73, 74, 75, 76, 77, 78, 79, 80, 81, 82, 83, 84, 85, 86, 87, 88, 89, 90, 91, 92, 93, 94, 95, 96, 97, 98, 99, 100, 101, 102, 103, 104, 105, 106, 107, 108, 109, 110] rfl (fun _ => rfl) (fun u583 hu583 => ?_)
  refine g_icmp_eq hX 857 dL_law_586 (by decide) (fun _ => ?_) (fun c => (c (E_trial hn1)).elim)
  exact nx z tx R C D V U S (mkGC (lvF C n (n - 1)) (lvF C n n)) u583 (INV_KS hI hu583)
set_option maxHeartbeats 4000000 in
set_option maxRecDepth 100000 in
theorem lc_see_n0  (hc : LCX x l E b L xs kk nn t i) (hI : INV t z tx R C V U S M) (nx : NX x E ae ab ar an af ah ak ax ag a b kk nn t i) (e9 : xs (i + 2) = 0) (hx : win (xs (i + 1)) (nI 0) (nI (cN C - 1)) = false) : GG x kk nn (LWM E ae ab ar an af ah ak ax ag a z tx R C D V U S G M) 591 [(0, .ref b), (1, .ref (ae 0)), (2, .ref (a 0)), (3, .int (nI i))] [] := by
  obtain ⟨hX, hSX, hkk, hnn, hit, hi5, hL3⟩ := hc
  obtain ⟨⟨hz, htx, hmX, hmL, hRq⟩, ⟨hN1, hD, hSr, hTm⟩, hE, ⟨hv1, hv2, hv3⟩, ⟨hu1, hu2, hu3⟩⟩ := id hI
  have hm : 30 * t < 2 ^ 29 := by omega
  have hC := hD.1.1
  obtain ⟨h9, h64, h512, hTq, hIq⟩ := id hC
  have hSK := hD.1.2
  have hV := DI_VB hD (by omega)
  have htx2 : ∀ j, tx j < 2 ^ 16 := fun j => by have := htx j; omega
  have hmX2 : ∀ j, mX M j < 128 := by rw [hmX]; exact htx
  have h6 : hN S ≤ 6 := hE.2.1
  have hs9 : ∀ j, j < hN S → hS S j < 9 := fun j hj => (hE.2.2 j hj).2.2
  show GG x kk nn ((lfo E ae ab ar an af ah ak ax ag z ++ (tw E ab 200 tx ++ (rw_ E ar R ++ (fw E an C ++ (fw E af D ++ (pw8 E ah V ++ (pw2 E ak U ++ (sw E ax S ++ (gw E ag G ++ (mw E a M))))))))))) 591 [(0, .ref b), (1, .ref (ae 0)), (2, .ref (a 0)), (3, .int (nI i))] []
  refine g_aload_n hX dL_law_591 1 rfl ?_
  refine g_aload_n hX dL_law_592 0 rfl ?_
  refine g_iload_n hX dL_law_593 3 rfl ?_
  refine g_iconst hX (nI 1) dL_law_594 rfl ?_
  refine g_iadd hX (nI (i + 1)) dL_law_595 (nI_add _ _) ?_
  refine g_sld hX hSX (i := i + 1) ((xs (i + 1))) (by omega) (by omega) rfl dL_law_596 ?_
  refine g_aload_n hX dL_law_597 0 rfl ?_
  refine g_iload_n hX dL_law_598 3 rfl ?_
  refine g_iconst hX (nI 2) dL_law_599 rfl ?_
  refine g_iadd hX (nI (i + 2)) dL_law_600 (nI_add _ _) ?_
  refine g_sld hX hSX (i := i + 2) ((xs (i + 2))) (by omega) (by omega) rfl dL_law_601 ?_
  refine g_if_eq hX 609 dL_law_602 (by decide) (fun c602 => ?_) (fun c602 => ?_)
  · skip
    refine g_iconst hX (nI 0) dL_law_609 rfl ?_
    have hc610 : CUT ((lfo E ae ab ar an af ah ak ax ag z ++ (tw E ab 200 tx ++ (rw_ E ar R ++ (fw E an C ++ (fw E af D ++ (pw8 E ah V ++ (pw2 E ak U ++ (sw E ax S ++ (gw E ag G ++ (mw E a M))))))))))) ((lfo E ae ab ar an af ah ak ax ag z) ++ (fw E an C)) ((tw E ab 200 tx ++ (rw_ E ar R ++ (fw E af D ++ (pw8 E ah V ++ (pw2 E ak U ++ (sw E ax S ++ (gw E ag G ++ (mw E a M))))))))) [0, 4, 5, 6, 7, 8, 9, 10] [1, 2, 3, 11, 12, 13, 14, 15, 16, 17, 18, 19, 20, 21, 22, 23, 24, 25, 26, 27, 28, 29, 30, 31, 32, 33, 34, 35, 36, 37, 38, 39, 40, 41, 42, 43, 44, 45, 46, 47, 48, 49, 50, 51, 52, 53, 54, 55, 56, 57, 58, 59, 60, 61, 62, 63, 64, 65, 66, 67, 68, 69, 70, 71, 72, 73, 74, 75, 76, 77, 78, 79, 80, 81, 82, 83, 84, 85, 86, 87, 88, 89, 90, 91, 92, 93, 94, 95, 96, 97, 98, 99, 100, 101, 102, 103, 104, 105, 106, 107, 108, 109, 110] := ⟨rfl, rfl, rfl, rfl, rfl⟩
    refine g_VI hX hc610 [.int (xs (i + 1)), .int (nI 0)] [] (c_X5_see_n l E ae ab ar an af ah ak ax ag z C (xs (i + 1)) false (by first | assumption | omega) (by first | assumption | omega) (by first | assumption | omega)) gL_law_X5_see calX5_see rfl rfl rfl rfl 0 rfl rfl rfl rfl dL_law_610 rfl ⟨hkk, hnn⟩ (fun _ => (lfo E ae ab ar an af ah ak ax ag z ++ (tw E ab 200 tx ++ (rw_ E ar R ++ (fw E an C ++ (fw E af D ++ (pw8 E ah V ++ (pw2 E ak U ++ (sw E ax S ++ (gw E ag G ++ (mw E a M))))))))))) [103, 0, 1, 2, 104, 105, 106, 107, 108, 109, 110, 3, 4, 5, 6, 7, 8, 9, 10, 11, 12, 13, 14, 15, 16, 17, 18, 19, 20, 21, 22, 23, 24, 25, 26, 27, 28, 29, 30, 31, 32, 33, 34, 35, 36, 37, 38, 39, 40, 41, 42, 43, 44, 45, 46, 47, 48, 49, 50, 51, 52, 53, 54, 55, 56, 57, 58, 59, 60, 61, 62, 63, 64, 65, 66, 67, 68, 69, 70, 71, 72, 73, 74, 75, 76, 77, 78, 79, 80, 81, 82, 83, 84, 85, 86, 87, 88, 89, 90, 91, 92, 93, 94, 95, 96, 97, 98, 99, 100, 101, 102] rfl (fun _ => rfl) (fun _ hu610 => ?_)
    refine g_aload_n hX dL_law_613 2 rfl ?_
    refine g_aload_n hX dL_law_614 0 rfl ?_
    refine g_iload_n hX dL_law_615 3 rfl ?_
    refine g_iconst hX (nI 1) dL_law_616 rfl ?_
    refine g_iadd hX (nI (i + 1)) dL_law_617 (nI_add _ _) ?_
    refine g_sld hX hSX (i := i + 1) ((xs (i + 1))) (by omega) (by omega) rfl dL_law_618 ?_
    refine g_aload_n hX dL_law_619 0 rfl ?_
    refine g_iload_n hX dL_law_620 3 rfl ?_
    refine g_iconst hX (nI 2) dL_law_621 rfl ?_
    refine g_iadd hX (nI (i + 2)) dL_law_622 (nI_add _ _) ?_
    refine g_sld hX hSX (i := i + 2) ((xs (i + 2))) (by omega) (by omega) rfl dL_law_623 ?_
    refine g_if_eq hX 631 dL_law_624 (by decide) (fun c624 => ?_) (fun c624 => ?_)
    · skip
      refine g_iconst hX (nI 0) dL_law_631 rfl ?_
      have hc632 : CUT ((lfo E ae ab ar an af ah ak ax ag z ++ (tw E ab 200 tx ++ (rw_ E ar R ++ (fw E an C ++ (fw E af D ++ (pw8 E ah V ++ (pw2 E ak U ++ (sw E ax S ++ (gw E ag G ++ (mw E a M))))))))))) (mw E a M) ((lfo E ae ab ar an af ah ak ax ag z ++ (tw E ab 200 tx ++ (rw_ E ar R ++ (fw E an C ++ (fw E af D ++ (pw8 E ah V ++ (pw2 E ak U ++ (sw E ax S ++ (gw E ag G)))))))))) [98, 99, 100, 101, 102, 103, 104, 105, 106, 107, 108, 109, 110] [0, 1, 2, 3, 4, 5, 6, 7, 8, 9, 10, 11, 12, 13, 14, 15, 16, 17, 18, 19, 20, 21, 22, 23, 24, 25, 26, 27, 28, 29, 30, 31, 32, 33, 34, 35, 36, 37, 38, 39, 40, 41, 42, 43, 44, 45, 46, 47, 48, 49, 50, 51, 52, 53, 54, 55, 56, 57, 58, 59, 60, 61, 62, 63, 64, 65, 66, 67, 68, 69, 70, 71, 72, 73, 74, 75, 76, 77, 78, 79, 80, 81, 82, 83, 84, 85, 86, 87, 88, 89, 90, 91, 92, 93, 94, 95, 96, 97] := ⟨rfl, rfl, rfl, rfl, rfl⟩
      refine g_VI hX hc632 [.int (xs (i + 1)), .int (nI 0)] [.int (-1)] (c_X6_see_n l E a M C (30 * t) (xs (i + 1)) false (by first | assumption | omega) (by first | assumption | omega) (by first | assumption | omega) (by first | assumption | omega) (by first | assumption | omega) (by first | assumption | omega)) gL_law_X6_see calX6_see rfl rfl rfl rfl 98 rfl rfl rfl rfl dL_law_632 rfl ⟨hkk, hnn⟩ (fun u632 => (lfo E ae ab ar an af ah ak ax ag z ++ (tw E ab 200 tx ++ (rw_ E ar R ++ (fw E an C ++ (fw E af D ++ (pw8 E ah V ++ (pw2 E ak U ++ (sw E ax S ++ (gw E ag G ++ (mw E a u632))))))))))) [0, 1, 2, 3, 4, 5, 6, 7, 8, 9, 10, 11, 12, 13, 14, 15, 16, 17, 18, 19, 20, 21, 22, 23, 24, 25, 26, 27, 28, 29, 30, 31, 32, 33, 34, 35, 36, 37, 38, 39, 40, 41, 42, 43, 44, 45, 46, 47, 48, 49, 50, 51, 52, 53, 54, 55, 56, 57, 58, 59, 60, 61, 62, 63, 64, 65, 66, 67, 68, 69, 70, 71, 72, 73, 74, 75, 76, 77, 78, 79, 80, 81, 82, 83, 84, 85, 86, 87, 88, 89, 90, 91, 92, 93, 94, 95, 96, 97, 98, 99, 100, 101, 102, 103, 104, 105, 106, 107, 108, 109, 110] rfl (fun _ => rfl) (fun u632 hu632 => ?_)
      refine g_icmp_eq hX 857 dL_law_635 (by decide) (fun _ => ?_) (fun c => (c (rfl)).elim)
      exact nx z tx R C D V U S G u632 (INV_KS hI hu632)
    · skip
      exact absurd e9 c624
  · skip
    exact absurd e9 c602
set_option maxHeartbeats 4000000 in
set_option maxRecDepth 100000 in
theorem lc_see_f0 (s : Nat) (hc : LCX x l E b L xs kk nn t i) (hI : INV t z tx R C V U S M) (nx : NX x E ae ab ar an af ah ak ax ag a b kk nn t i) (e9 : xs (i + 2) = 0) (e1 : xs (i + 1) = nI s) (hs : s < cN C) (hf : hN S = 6) : GG x kk nn (LWM E ae ab ar an af ah ak ax ag a z tx R C D V U S G M) 591 [(0, .ref b), (1, .ref (ae 0)), (2, .ref (a 0)), (3, .int (nI i))] [] := by
  obtain ⟨hX, hSX, hkk, hnn, hit, hi5, hL3⟩ := hc
  obtain ⟨⟨hz, htx, hmX, hmL, hRq⟩, ⟨hN1, hD, hSr, hTm⟩, hE, ⟨hv1, hv2, hv3⟩, ⟨hu1, hu2, hu3⟩⟩ := id hI
  have hm : 30 * t < 2 ^ 29 := by omega
  have hC := hD.1.1
  obtain ⟨h9, h64, h512, hTq, hIq⟩ := id hC
  have hSK := hD.1.2
  have hV := DI_VB hD (by omega)
  have htx2 : ∀ j, tx j < 2 ^ 16 := fun j => by have := htx j; omega
  have hmX2 : ∀ j, mX M j < 128 := by rw [hmX]; exact htx
  have h6 : hN S ≤ 6 := hE.2.1
  have hs9 : ∀ j, j < hN S → hS S j < 9 := fun j hj => (hE.2.2 j hj).2.2
  show GG x kk nn ((lfo E ae ab ar an af ah ak ax ag z ++ (tw E ab 200 tx ++ (rw_ E ar R ++ (fw E an C ++ (fw E af D ++ (pw8 E ah V ++ (pw2 E ak U ++ (sw E ax S ++ (gw E ag G ++ (mw E a M))))))))))) 591 [(0, .ref b), (1, .ref (ae 0)), (2, .ref (a 0)), (3, .int (nI i))] []
  refine g_aload_n hX dL_law_591 1 rfl ?_
  refine g_aload_n hX dL_law_592 0 rfl ?_
  refine g_iload_n hX dL_law_593 3 rfl ?_
  refine g_iconst hX (nI 1) dL_law_594 rfl ?_
  refine g_iadd hX (nI (i + 1)) dL_law_595 (nI_add _ _) ?_
  refine g_sld hX hSX (i := i + 1) (nI s) (by omega) (by omega) e1 dL_law_596 ?_
  refine g_aload_n hX dL_law_597 0 rfl ?_
  refine g_iload_n hX dL_law_598 3 rfl ?_
  refine g_iconst hX (nI 2) dL_law_599 rfl ?_
  refine g_iadd hX (nI (i + 2)) dL_law_600 (nI_add _ _) ?_
  refine g_sld hX hSX (i := i + 2) ((xs (i + 2))) (by omega) (by omega) rfl dL_law_601 ?_
  refine g_if_eq hX 609 dL_law_602 (by decide) (fun c602 => ?_) (fun c602 => ?_)
  · skip
    refine g_iconst hX (nI 0) dL_law_609 rfl ?_
    have hc610 : CUT ((lfo E ae ab ar an af ah ak ax ag z ++ (tw E ab 200 tx ++ (rw_ E ar R ++ (fw E an C ++ (fw E af D ++ (pw8 E ah V ++ (pw2 E ak U ++ (sw E ax S ++ (gw E ag G ++ (mw E a M))))))))))) ((lfo E ae ab ar an af ah ak ax ag z ++ (fw E an C ++ (sw E ax S)))) ((tw E ab 200 tx ++ (rw_ E ar R ++ (fw E af D ++ (pw8 E ah V ++ (pw2 E ak U ++ (gw E ag G ++ (mw E a M)))))))) [0, 4, 5, 6, 7, 8, 9, 10, 92, 93, 94] [1, 2, 3, 11, 12, 13, 14, 15, 16, 17, 18, 19, 20, 21, 22, 23, 24, 25, 26, 27, 28, 29, 30, 31, 32, 33, 34, 35, 36, 37, 38, 39, 40, 41, 42, 43, 44, 45, 46, 47, 48, 49, 50, 51, 52, 53, 54, 55, 56, 57, 58, 59, 60, 61, 62, 63, 64, 65, 66, 67, 68, 69, 70, 71, 72, 73, 74, 75, 76, 77, 78, 79, 80, 81, 82, 83, 84, 85, 86, 87, 88, 89, 90, 91, 95, 96, 97, 98, 99, 100, 101, 102, 103, 104, 105, 106, 107, 108, 109, 110] := ⟨rfl, rfl, rfl, rfl, rfl⟩
    refine g_VI hX hc610 [.int (nI s), .int (nI 0)] [] (c_X5_see_f l E ae ab ar an af ah ak ax ag z C S s false (by first | assumption | omega) (by first | assumption | omega) (by first | assumption | omega) (by first | assumption | omega)) gL_law_X5_see calX5_see rfl rfl rfl rfl 0 rfl rfl rfl rfl dL_law_610 rfl ⟨hkk, hnn⟩ (fun _ => (lfo E ae ab ar an af ah ak ax ag z ++ (tw E ab 200 tx ++ (rw_ E ar R ++ (fw E an C ++ (fw E af D ++ (pw8 E ah V ++ (pw2 E ak U ++ (sw E ax S ++ (gw E ag G ++ (mw E a M))))))))))) [100, 0, 1, 2, 101, 102, 103, 104, 105, 106, 107, 3, 4, 5, 6, 7, 8, 9, 10, 11, 12, 13, 14, 15, 16, 17, 18, 19, 20, 21, 22, 23, 24, 25, 26, 27, 28, 29, 30, 31, 32, 33, 34, 35, 36, 37, 38, 39, 40, 41, 42, 43, 44, 45, 46, 47, 48, 49, 50, 51, 52, 53, 54, 55, 56, 57, 58, 59, 60, 61, 62, 63, 64, 65, 66, 67, 68, 69, 70, 71, 72, 73, 74, 75, 76, 77, 78, 79, 80, 81, 82, 83, 108, 109, 110, 84, 85, 86, 87, 88, 89, 90, 91, 92, 93, 94, 95, 96, 97, 98, 99] rfl (fun _ => rfl) (fun _ hu610 => ?_)
    refine g_aload_n hX dL_law_613 2 rfl ?_
    refine g_aload_n hX dL_law_614 0 rfl ?_
    refine g_iload_n hX dL_law_615 3 rfl ?_
    refine g_iconst hX (nI 1) dL_law_616 rfl ?_
    refine g_iadd hX (nI (i + 1)) dL_law_617 (nI_add _ _) ?_
    refine g_sld hX hSX (i := i + 1) (nI s) (by omega) (by omega) e1 dL_law_618 ?_
    refine g_aload_n hX dL_law_619 0 rfl ?_
    refine g_iload_n hX dL_law_620 3 rfl ?_
    refine g_iconst hX (nI 2) dL_law_621 rfl ?_
    refine g_iadd hX (nI (i + 2)) dL_law_622 (nI_add _ _) ?_
    refine g_sld hX hSX (i := i + 2) ((xs (i + 2))) (by omega) (by omega) rfl dL_law_623 ?_
    refine g_if_eq hX 631 dL_law_624 (by decide) (fun c624 => ?_) (fun c624 => ?_)
    · skip
      refine g_iconst hX (nI 0) dL_law_631 rfl ?_
      have hc632 : CUT ((lfo E ae ab ar an af ah ak ax ag z ++ (tw E ab 200 tx ++ (rw_ E ar R ++ (fw E an C ++ (fw E af D ++ (pw8 E ah V ++ (pw2 E ak U ++ (sw E ax S ++ (gw E ag G ++ (mw E a M))))))))))) (mw E a M) ((lfo E ae ab ar an af ah ak ax ag z ++ (tw E ab 200 tx ++ (rw_ E ar R ++ (fw E an C ++ (fw E af D ++ (pw8 E ah V ++ (pw2 E ak U ++ (sw E ax S ++ (gw E ag G)))))))))) [98, 99, 100, 101, 102, 103, 104, 105, 106, 107, 108, 109, 110] [0, 1, 2, 3, 4, 5, 6, 7, 8, 9, 10, 11, 12, 13, 14, 15, 16, 17, 18, 19, 20, 21, 22, 23, 24, 25, 26, 27, 28, 29, 30, 31, 32, 33, 34, 35, 36, 37, 38, 39, 40, 41, 42, 43, 44, 45, 46, 47, 48, 49, 50, 51, 52, 53, 54, 55, 56, 57, 58, 59, 60, 61, 62, 63, 64, 65, 66, 67, 68, 69, 70, 71, 72, 73, 74, 75, 76, 77, 78, 79, 80, 81, 82, 83, 84, 85, 86, 87, 88, 89, 90, 91, 92, 93, 94, 95, 96, 97] := ⟨rfl, rfl, rfl, rfl, rfl⟩
      refine g_VI hX hc632 [.int (nI s), .int (nI 0)] [.int (-3)] (c_X6_see_f l E a M C (30 * t) s false (by first | assumption | omega) (by first | assumption | omega) (by first | assumption | omega) (by first | assumption | omega) (by first | assumption | omega) (by first | assumption | omega) (hE.1.trans hf)) gL_law_X6_see calX6_see rfl rfl rfl rfl 98 rfl rfl rfl rfl dL_law_632 rfl ⟨hkk, hnn⟩ (fun u632 => (lfo E ae ab ar an af ah ak ax ag z ++ (tw E ab 200 tx ++ (rw_ E ar R ++ (fw E an C ++ (fw E af D ++ (pw8 E ah V ++ (pw2 E ak U ++ (sw E ax S ++ (gw E ag G ++ (mw E a u632))))))))))) [0, 1, 2, 3, 4, 5, 6, 7, 8, 9, 10, 11, 12, 13, 14, 15, 16, 17, 18, 19, 20, 21, 22, 23, 24, 25, 26, 27, 28, 29, 30, 31, 32, 33, 34, 35, 36, 37, 38, 39, 40, 41, 42, 43, 44, 45, 46, 47, 48, 49, 50, 51, 52, 53, 54, 55, 56, 57, 58, 59, 60, 61, 62, 63, 64, 65, 66, 67, 68, 69, 70, 71, 72, 73, 74, 75, 76, 77, 78, 79, 80, 81, 82, 83, 84, 85, 86, 87, 88, 89, 90, 91, 92, 93, 94, 95, 96, 97, 98, 99, 100, 101, 102, 103, 104, 105, 106, 107, 108, 109, 110] rfl (fun _ => rfl) (fun u632 hu632 => ?_)
      refine g_icmp_eq hX 857 dL_law_635 (by decide) (fun _ => ?_) (fun c => (c (rfl)).elim)
      exact nx z tx R C D V U S G u632 (INV_KS hI hu632)
    · skip
      exact absurd e9 c624
  · skip
    exact absurd e9 c602
set_option maxHeartbeats 4000000 in
set_option maxRecDepth 100000 in
theorem lc_see_y0 (s : Nat) (hc : LCX x l E b L xs kk nn t i) (hI : INV t z tx R C V U S M) (nx : NX x E ae ab ar an af ah ak ax ag a b kk nn t i) (e9 : xs (i + 2) = 0) (e1 : xs (i + 1) = nI s) (hs : s < cN C) (hf : hN S < 6) : GG x kk nn (LWM E ae ab ar an af ah ak ax ag a z tx R C D V U S G M) 591 [(0, .ref b), (1, .ref (ae 0)), (2, .ref (a 0)), (3, .int (nI i))] [] := by
  obtain ⟨hX, hSX, hkk, hnn, hit, hi5, hL3⟩ := hc
  obtain ⟨⟨hz, htx, hmX, hmL, hRq⟩, ⟨hN1, hD, hSr, hTm⟩, hE, ⟨hv1, hv2, hv3⟩, ⟨hu1, hu2, hu3⟩⟩ := id hI
  have hm : 30 * t < 2 ^ 29 := by omega
  have hC := hD.1.1
  obtain ⟨h9, h64, h512, hTq, hIq⟩ := id hC
  have hSK := hD.1.2
  have hV := DI_VB hD (by omega)
  have htx2 : ∀ j, tx j < 2 ^ 16 := fun j => by have := htx j; omega
  have hmX2 : ∀ j, mX M j < 128 := by rw [hmX]; exact htx
  have h6 : hN S ≤ 6 := hE.2.1
  have hs9 : ∀ j, j < hN S → hS S j < 9 := fun j hj => (hE.2.2 j hj).2.2
  show GG x kk nn ((lfo E ae ab ar an af ah ak ax ag z ++ (tw E ab 200 tx ++ (rw_ E ar R ++ (fw E an C ++ (fw E af D ++ (pw8 E ah V ++ (pw2 E ak U ++ (sw E ax S ++ (gw E ag G ++ (mw E a M))))))))))) 591 [(0, .ref b), (1, .ref (ae 0)), (2, .ref (a 0)), (3, .int (nI i))] []
  refine g_aload_n hX dL_law_591 1 rfl ?_
  refine g_aload_n hX dL_law_592 0 rfl ?_
  refine g_iload_n hX dL_law_593 3 rfl ?_
  refine g_iconst hX (nI 1) dL_law_594 rfl ?_
  refine g_iadd hX (nI (i + 1)) dL_law_595 (nI_add _ _) ?_
  refine g_sld hX hSX (i := i + 1) (nI s) (by omega) (by omega) e1 dL_law_596 ?_
  refine g_aload_n hX dL_law_597 0 rfl ?_
  refine g_iload_n hX dL_law_598 3 rfl ?_
  refine g_iconst hX (nI 2) dL_law_599 rfl ?_
  refine g_iadd hX (nI (i + 2)) dL_law_600 (nI_add _ _) ?_
  refine g_sld hX hSX (i := i + 2) ((xs (i + 2))) (by omega) (by omega) rfl dL_law_601 ?_
  refine g_if_eq hX 609 dL_law_602 (by decide) (fun c602 => ?_) (fun c602 => ?_)
  · skip
    refine g_iconst hX (nI 0) dL_law_609 rfl ?_
    have hc610 : CUT ((lfo E ae ab ar an af ah ak ax ag z ++ (tw E ab 200 tx ++ (rw_ E ar R ++ (fw E an C ++ (fw E af D ++ (pw8 E ah V ++ (pw2 E ak U ++ (sw E ax S ++ (gw E ag G ++ (mw E a M))))))))))) ((lfo E ae ab ar an af ah ak ax ag z ++ (fw E an C ++ (sw E ax S)))) ((tw E ab 200 tx ++ (rw_ E ar R ++ (fw E af D ++ (pw8 E ah V ++ (pw2 E ak U ++ (gw E ag G ++ (mw E a M)))))))) [0, 4, 5, 6, 7, 8, 9, 10, 92, 93, 94] [1, 2, 3, 11, 12, 13, 14, 15, 16, 17, 18, 19, 20, 21, 22, 23, 24, 25, 26, 27, 28, 29, 30, 31, 32, 33, 34, 35, 36, 37, 38, 39, 40, 41, 42, 43, 44, 45, 46, 47, 48, 49, 50, 51, 52, 53, 54, 55, 56, 57, 58, 59, 60, 61, 62, 63, 64, 65, 66, 67, 68, 69, 70, 71, 72, 73, 74, 75, 76, 77, 78, 79, 80, 81, 82, 83, 84, 85, 86, 87, 88, 89, 90, 91, 95, 96, 97, 98, 99, 100, 101, 102, 103, 104, 105, 106, 107, 108, 109, 110] := ⟨rfl, rfl, rfl, rfl, rfl⟩
    refine g_VI hX hc610 [.int (nI s), .int (nI 0)] [] (c_X5_see_y l E ae ab ar an af ah ak ax ag z C S s false (by first | assumption | omega) (by first | assumption | omega) (by first | assumption | omega) (by first | assumption | omega)) gL_law_X5_see calX5_see rfl rfl rfl rfl 0 rfl rfl rfl rfl dL_law_610 rfl ⟨hkk, hnn⟩ (fun _ => (lfo E ae ab ar an af ah ak ax ag z ++ (tw E ab 200 tx ++ (rw_ E ar R ++ (fw E an C ++ (fw E af D ++ (pw8 E ah V ++ (pw2 E ak U ++ (sw E ax (mkSC ((hN S) + 1) (va_up ((hS S)) ((hN S)) s) (va_up ((hH S)) ((hN S)) false)) ++ (gw E ag G ++ (mw E a M))))))))))) [100, 0, 1, 2, 101, 102, 103, 104, 105, 106, 107, 3, 4, 5, 6, 7, 8, 9, 10, 11, 12, 13, 14, 15, 16, 17, 18, 19, 20, 21, 22, 23, 24, 25, 26, 27, 28, 29, 30, 31, 32, 33, 34, 35, 36, 37, 38, 39, 40, 41, 42, 43, 44, 45, 46, 47, 48, 49, 50, 51, 52, 53, 54, 55, 56, 57, 58, 59, 60, 61, 62, 63, 64, 65, 66, 67, 68, 69, 70, 71, 72, 73, 74, 75, 76, 77, 78, 79, 80, 81, 82, 83, 108, 109, 110, 84, 85, 86, 87, 88, 89, 90, 91, 92, 93, 94, 95, 96, 97, 98, 99] rfl (fun _ => rfl) (fun _ hu610 => ?_)
    refine g_aload_n hX dL_law_613 2 rfl ?_
    refine g_aload_n hX dL_law_614 0 rfl ?_
    refine g_iload_n hX dL_law_615 3 rfl ?_
    refine g_iconst hX (nI 1) dL_law_616 rfl ?_
    refine g_iadd hX (nI (i + 1)) dL_law_617 (nI_add _ _) ?_
    refine g_sld hX hSX (i := i + 1) (nI s) (by omega) (by omega) e1 dL_law_618 ?_
    refine g_aload_n hX dL_law_619 0 rfl ?_
    refine g_iload_n hX dL_law_620 3 rfl ?_
    refine g_iconst hX (nI 2) dL_law_621 rfl ?_
    refine g_iadd hX (nI (i + 2)) dL_law_622 (nI_add _ _) ?_
    refine g_sld hX hSX (i := i + 2) ((xs (i + 2))) (by omega) (by omega) rfl dL_law_623 ?_
    refine g_if_eq hX 631 dL_law_624 (by decide) (fun c624 => ?_) (fun c624 => ?_)
    · skip
      refine g_iconst hX (nI 0) dL_law_631 rfl ?_
      have hc632 : CUT ((lfo E ae ab ar an af ah ak ax ag z ++ (tw E ab 200 tx ++ (rw_ E ar R ++ (fw E an C ++ (fw E af D ++ (pw8 E ah V ++ (pw2 E ak U ++ (sw E ax (mkSC ((hN S) + 1) (va_up ((hS S)) ((hN S)) s) (va_up ((hH S)) ((hN S)) false)) ++ (gw E ag G ++ (mw E a M))))))))))) (mw E a M) ((lfo E ae ab ar an af ah ak ax ag z ++ (tw E ab 200 tx ++ (rw_ E ar R ++ (fw E an C ++ (fw E af D ++ (pw8 E ah V ++ (pw2 E ak U ++ (sw E ax (mkSC ((hN S) + 1) (va_up ((hS S)) ((hN S)) s) (va_up ((hH S)) ((hN S)) false)) ++ (gw E ag G)))))))))) [98, 99, 100, 101, 102, 103, 104, 105, 106, 107, 108, 109, 110] [0, 1, 2, 3, 4, 5, 6, 7, 8, 9, 10, 11, 12, 13, 14, 15, 16, 17, 18, 19, 20, 21, 22, 23, 24, 25, 26, 27, 28, 29, 30, 31, 32, 33, 34, 35, 36, 37, 38, 39, 40, 41, 42, 43, 44, 45, 46, 47, 48, 49, 50, 51, 52, 53, 54, 55, 56, 57, 58, 59, 60, 61, 62, 63, 64, 65, 66, 67, 68, 69, 70, 71, 72, 73, 74, 75, 76, 77, 78, 79, 80, 81, 82, 83, 84, 85, 86, 87, 88, 89, 90, 91, 92, 93, 94, 95, 96, 97] := ⟨rfl, rfl, rfl, rfl, rfl⟩
      refine g_VI hX hc632 [.int (nI s), .int (nI 0)] [.int (nI ((hN S) + 1))] (c_X6_see_y l E a M C s false (by first | assumption | omega) hSr.1 (by first | assumption | omega) (by rw [hE.1]; exact hf)) gL_law_X6_see calX6_see rfl rfl rfl rfl 98 rfl rfl rfl rfl dL_law_632 rfl ⟨hkk, hnn⟩ (fun _ => (lfo E ae ab ar an af ah ak ax ag z ++ (tw E ab 200 tx ++ (rw_ E ar R ++ (fw E an C ++ (fw E af D ++ (pw8 E ah V ++ (pw2 E ak U ++ (sw E ax (mkSC ((hN S) + 1) (va_up ((hS S)) ((hN S)) s) (va_up ((hH S)) ((hN S)) false)) ++ (gw E ag G ++ (mw E a (mkMV (mT M) (mS M) (mA M) (mW M) (mK M) (mP M) ((mE M) + 1) (va_up (va_up ((mN M)) (2 * (mE M)) s) (2 * (mE M) + 1) false.toNat) (mX M) (mL M) (mI M) (mD M) (mR M) (mM M) (mO M) (mF M) (mU M) (mQ M) (mZ M) (mG M) (mH M))))))))))))) [0, 1, 2, 3, 4, 5, 6, 7, 8, 9, 10, 11, 12, 13, 14, 15, 16, 17, 18, 19, 20, 21, 22, 23, 24, 25, 26, 27, 28, 29, 30, 31, 32, 33, 34, 35, 36, 37, 38, 39, 40, 41, 42, 43, 44, 45, 46, 47, 48, 49, 50, 51, 52, 53, 54, 55, 56, 57, 58, 59, 60, 61, 62, 63, 64, 65, 66, 67, 68, 69, 70, 71, 72, 73, 74, 75, 76, 77, 78, 79, 80, 81, 82, 83, 84, 85, 86, 87, 88, 89, 90, 91, 92, 93, 94, 95, 96, 97, 98, 99, 100, 101, 102, 103, 104, 105, 106, 107, 108, 109, 110] rfl (fun _ => rfl) (fun _ hu632 => ?_)
      refine g_icmp_eq hX 857 dL_law_635 (by decide) (fun _ => ?_) (fun c => (c (by rw [hE.1])).elim)
      exact nx z tx R C D V U (mkSC ((hN S) + 1) (va_up ((hS S)) ((hN S)) s) (va_up ((hH S)) ((hN S)) false)) G (mkMV (mT M) (mS M) (mA M) (mW M) (mK M) (mP M) ((mE M) + 1) (va_up (va_up ((mN M)) (2 * (mE M)) s) (2 * (mE M) + 1) false.toNat) (mX M) (mL M) (mI M) (mD M) (mR M) (mM M) (mO M) (mF M) (mU M) (mQ M) (mZ M) (mG M) (mH M)) (INV_es hI (ES_add hE hf (by omega) rfl rfl) rfl rfl rfl rfl rfl rfl rfl rfl)
    · skip
      exact absurd e9 c624
  · skip
    exact absurd e9 c602
set_option maxHeartbeats 4000000 in
set_option maxRecDepth 100000 in
theorem lc_see_n1  (hc : LCX x l E b L xs kk nn t i) (hI : INV t z tx R C V U S M) (nx : NX x E ae ab ar an af ah ak ax ag a b kk nn t i) (e9 : ¬ xs (i + 2) = 0) (hx : win (xs (i + 1)) (nI 0) (nI (cN C - 1)) = false) : GG x kk nn (LWM E ae ab ar an af ah ak ax ag a z tx R C D V U S G M) 591 [(0, .ref b), (1, .ref (ae 0)), (2, .ref (a 0)), (3, .int (nI i))] [] := by
  obtain ⟨hX, hSX, hkk, hnn, hit, hi5, hL3⟩ := hc
  obtain ⟨⟨hz, htx, hmX, hmL, hRq⟩, ⟨hN1, hD, hSr, hTm⟩, hE, ⟨hv1, hv2, hv3⟩, ⟨hu1, hu2, hu3⟩⟩ := id hI
  have hm : 30 * t < 2 ^ 29 := by omega
  have hC := hD.1.1
  obtain ⟨h9, h64, h512, hTq, hIq⟩ := id hC
  have hSK := hD.1.2
  have hV := DI_VB hD (by omega)
  have htx2 : ∀ j, tx j < 2 ^ 16 := fun j => by have := htx j; omega
  have hmX2 : ∀ j, mX M j < 128 := by rw [hmX]; exact htx
  have h6 : hN S ≤ 6 := hE.2.1
  have hs9 : ∀ j, j < hN S → hS S j < 9 := fun j hj => (hE.2.2 j hj).2.2
  show GG x kk nn ((lfo E ae ab ar an af ah ak ax ag z ++ (tw E ab 200 tx ++ (rw_ E ar R ++ (fw E an C ++ (fw E af D ++ (pw8 E ah V ++ (pw2 E ak U ++ (sw E ax S ++ (gw E ag G ++ (mw E a M))))))))))) 591 [(0, .ref b), (1, .ref (ae 0)), (2, .ref (a 0)), (3, .int (nI i))] []
  refine g_aload_n hX dL_law_591 1 rfl ?_
  refine g_aload_n hX dL_law_592 0 rfl ?_
  refine g_iload_n hX dL_law_593 3 rfl ?_
  refine g_iconst hX (nI 1) dL_law_594 rfl ?_
  refine g_iadd hX (nI (i + 1)) dL_law_595 (nI_add _ _) ?_
  refine g_sld hX hSX (i := i + 1) ((xs (i + 1))) (by omega) (by omega) rfl dL_law_596 ?_
  refine g_aload_n hX dL_law_597 0 rfl ?_
  refine g_iload_n hX dL_law_598 3 rfl ?_
  refine g_iconst hX (nI 2) dL_law_599 rfl ?_
  refine g_iadd hX (nI (i + 2)) dL_law_600 (nI_add _ _) ?_
  refine g_sld hX hSX (i := i + 2) ((xs (i + 2))) (by omega) (by omega) rfl dL_law_601 ?_
  refine g_if_eq hX 609 dL_law_602 (by decide) (fun c602 => ?_) (fun c602 => ?_)
  · skip
    exact absurd c602 e9
  · skip
    refine g_iconst hX (nI 1) dL_law_605 rfl ?_
    refine g_goto hX 610 dL_law_606 (by decide) ?_
    have hc610 : CUT ((lfo E ae ab ar an af ah ak ax ag z ++ (tw E ab 200 tx ++ (rw_ E ar R ++ (fw E an C ++ (fw E af D ++ (pw8 E ah V ++ (pw2 E ak U ++ (sw E ax S ++ (gw E ag G ++ (mw E a M))))))))))) ((lfo E ae ab ar an af ah ak ax ag z) ++ (fw E an C)) ((tw E ab 200 tx ++ (rw_ E ar R ++ (fw E af D ++ (pw8 E ah V ++ (pw2 E ak U ++ (sw E ax S ++ (gw E ag G ++ (mw E a M))))))))) [0, 4, 5, 6, 7, 8, 9, 10] [1, 2, 3, 11, 12, 13, 14, 15, 16, 17, 18, 19, 20, 21, 22, 23, 24, 25, 26, 27, 28, 29, 30, 31, 32, 33, 34, 35, 36, 37, 38, 39, 40, 41, 42, 43, 44, 45, 46, 47, 48, 49, 50, 51, 52, 53, 54, 55, 56, 57, 58, 59, 60, 61, 62, 63, 64, 65, 66, 67, 68, 69, 70, 71, 72, 73, 74, 75, 76, 77, 78, 79, 80, 81, 82, 83, 84, 85, 86, 87, 88, 89, 90, 91, 92, 93, 94, 95, 96, 97, 98, 99, 100, 101, 102, 103, 104, 105, 106, 107, 108, 109, 110] := ⟨rfl, rfl, rfl, rfl, rfl⟩
    refine g_VI hX hc610 [.int (xs (i + 1)), .int (nI 1)] [] (c_X5_see_n l E ae ab ar an af ah ak ax ag z C (xs (i + 1)) true (by first | assumption | omega) (by first | assumption | omega) (by first | assumption | omega)) gL_law_X5_see calX5_see rfl rfl rfl rfl 0 rfl rfl rfl rfl dL_law_610 rfl ⟨hkk, hnn⟩ (fun _ => (lfo E ae ab ar an af ah ak ax ag z ++ (tw E ab 200 tx ++ (rw_ E ar R ++ (fw E an C ++ (fw E af D ++ (pw8 E ah V ++ (pw2 E ak U ++ (sw E ax S ++ (gw E ag G ++ (mw E a M))))))))))) [103, 0, 1, 2, 104, 105, 106, 107, 108, 109, 110, 3, 4, 5, 6, 7, 8, 9, 10, 11, 12, 13, 14, 15, 16, 17, 18, 19, 20, 21, 22, 23, 24, 25, 26, 27, 28, 29, 30, 31, 32, 33, 34, 35, 36, 37, 38, 39, 40, 41, 42, 43, 44, 45, 46, 47, 48, 49, 50, 51, 52, 53, 54, 55, 56, 57, 58, 59, 60, 61, 62, 63, 64, 65, 66, 67, 68, 69, 70, 71, 72, 73, 74, 75, 76, 77, 78, 79, 80, 81, 82, 83, 84, 85, 86, 87, 88, 89, 90, 91, 92, 93, 94, 95, 96, 97, 98, 99, 100, 101, 102] rfl (fun _ => rfl) (fun _ hu610 => ?_)
    refine g_aload_n hX dL_law_613 2 rfl ?_
    refine g_aload_n hX dL_law_614 0 rfl ?_
    refine g_iload_n hX dL_law_615 3 rfl ?_
    refine g_iconst hX (nI 1) dL_law_616 rfl ?_
    refine g_iadd hX (nI (i + 1)) dL_law_617 (nI_add _ _) ?_
    refine g_sld hX hSX (i := i + 1) ((xs (i + 1))) (by omega) (by omega) rfl dL_law_618 ?_
    refine g_aload_n hX dL_law_619 0 rfl ?_
    refine g_iload_n hX dL_law_620 3 rfl ?_
    refine g_iconst hX (nI 2) dL_law_621 rfl ?_
    refine g_iadd hX (nI (i + 2)) dL_law_622 (nI_add _ _) ?_
    refine g_sld hX hSX (i := i + 2) ((xs (i + 2))) (by omega) (by omega) rfl dL_law_623 ?_
    refine g_if_eq hX 631 dL_law_624 (by decide) (fun c624 => ?_) (fun c624 => ?_)
    · skip
      exact absurd c624 e9
    · skip
      refine g_iconst hX (nI 1) dL_law_627 rfl ?_
      refine g_goto hX 632 dL_law_628 (by decide) ?_
      have hc632 : CUT ((lfo E ae ab ar an af ah ak ax ag z ++ (tw E ab 200 tx ++ (rw_ E ar R ++ (fw E an C ++ (fw E af D ++ (pw8 E ah V ++ (pw2 E ak U ++ (sw E ax S ++ (gw E ag G ++ (mw E a M))))))))))) (mw E a M) ((lfo E ae ab ar an af ah ak ax ag z ++ (tw E ab 200 tx ++ (rw_ E ar R ++ (fw E an C ++ (fw E af D ++ (pw8 E ah V ++ (pw2 E ak U ++ (sw E ax S ++ (gw E ag G)))))))))) [98, 99, 100, 101, 102, 103, 104, 105, 106, 107, 108, 109, 110] [0, 1, 2, 3, 4, 5, 6, 7, 8, 9, 10, 11, 12, 13, 14, 15, 16, 17, 18, 19, 20, 21, 22, 23, 24, 25, 26, 27, 28, 29, 30, 31, 32, 33, 34, 35, 36, 37, 38, 39, 40, 41, 42, 43, 44, 45, 46, 47, 48, 49, 50, 51, 52, 53, 54, 55, 56, 57, 58, 59, 60, 61, 62, 63, 64, 65, 66, 67, 68, 69, 70, 71, 72, 73, 74, 75, 76, 77, 78, 79, 80, 81, 82, 83, 84, 85, 86, 87, 88, 89, 90, 91, 92, 93, 94, 95, 96, 97] := ⟨rfl, rfl, rfl, rfl, rfl⟩
      refine g_VI hX hc632 [.int (xs (i + 1)), .int (nI 1)] [.int (-1)] (c_X6_see_n l E a M C (30 * t) (xs (i + 1)) true (by first | assumption | omega) (by first | assumption | omega) (by first | assumption | omega) (by first | assumption | omega) (by first | assumption | omega) (by first | assumption | omega)) gL_law_X6_see calX6_see rfl rfl rfl rfl 98 rfl rfl rfl rfl dL_law_632 rfl ⟨hkk, hnn⟩ (fun u632 => (lfo E ae ab ar an af ah ak ax ag z ++ (tw E ab 200 tx ++ (rw_ E ar R ++ (fw E an C ++ (fw E af D ++ (pw8 E ah V ++ (pw2 E ak U ++ (sw E ax S ++ (gw E ag G ++ (mw E a u632))))))))))) [0, 1, 2, 3, 4, 5, 6, 7, 8, 9, 10, 11, 12, 13, 14, 15, 16, 17, 18, 19, 20, 21, 22, 23, 24, 25, 26, 27, 28, 29, 30, 31, 32, 33, 34, 35, 36, 37, 38, 39, 40, 41, 42, 43, 44, 45, 46, 47, 48, 49, 50, 51, 52, 53, 54, 55, 56, 57, 58, 59, 60, 61, 62, 63, 64, 65, 66, 67, 68, 69, 70, 71, 72, 73, 74, 75, 76, 77, 78, 79, 80, 81, 82, 83, 84, 85, 86, 87, 88, 89, 90, 91, 92, 93, 94, 95, 96, 97, 98, 99, 100, 101, 102, 103, 104, 105, 106, 107, 108, 109, 110] rfl (fun _ => rfl) (fun u632 hu632 => ?_)
      refine g_icmp_eq hX 857 dL_law_635 (by decide) (fun _ => ?_) (fun c => (c (rfl)).elim)
      exact nx z tx R C D V U S G u632 (INV_KS hI hu632)
set_option maxHeartbeats 4000000 in
set_option maxRecDepth 100000 in
theorem lc_see_f1 (s : Nat) (hc : LCX x l E b L xs kk nn t i) (hI : INV t z tx R C V U S M) (nx : NX x E ae ab ar an af ah ak ax ag a b kk nn t i) (e9 : ¬ xs (i + 2) = 0) (e1 : xs (i + 1) = nI s) (hs : s < cN C) (hf : hN S = 6) : GG x kk nn (LWM E ae ab ar an af ah ak ax ag a z tx R C D V U S G M) 591 [(0, .ref b), (1, .ref (ae 0)), (2, .ref (a 0)), (3, .int (nI i))] [] := by
  obtain ⟨hX, hSX, hkk, hnn, hit, hi5, hL3⟩ := hc
  obtain ⟨⟨hz, htx, hmX, hmL, hRq⟩, ⟨hN1, hD, hSr, hTm⟩, hE, ⟨hv1, hv2, hv3⟩, ⟨hu1, hu2, hu3⟩⟩ := id hI
  have hm : 30 * t < 2 ^ 29 := by omega
  have hC := hD.1.1
  obtain ⟨h9, h64, h512, hTq, hIq⟩ := id hC
  have hSK := hD.1.2
  have hV := DI_VB hD (by omega)
  have htx2 : ∀ j, tx j < 2 ^ 16 := fun j => by have := htx j; omega
  have hmX2 : ∀ j, mX M j < 128 := by rw [hmX]; exact htx
  have h6 : hN S ≤ 6 := hE.2.1
  have hs9 : ∀ j, j < hN S → hS S j < 9 := fun j hj => (hE.2.2 j hj).2.2
  show GG x kk nn ((lfo E ae ab ar an af ah ak ax ag z ++ (tw E ab 200 tx ++ (rw_ E ar R ++ (fw E an C ++ (fw E af D ++ (pw8 E ah V ++ (pw2 E ak U ++ (sw E ax S ++ (gw E ag G ++ (mw E a M))))))))))) 591 [(0, .ref b), (1, .ref (ae 0)), (2, .ref (a 0)), (3, .int (nI i))] []
  refine g_aload_n hX dL_law_591 1 rfl ?_
  refine g_aload_n hX dL_law_592 0 rfl ?_
  refine g_iload_n hX dL_law_593 3 rfl ?_
  refine g_iconst hX (nI 1) dL_law_594 rfl ?_
  refine g_iadd hX (nI (i + 1)) dL_law_595 (nI_add _ _) ?_
  refine g_sld hX hSX (i := i + 1) (nI s) (by omega) (by omega) e1 dL_law_596 ?_
  refine g_aload_n hX dL_law_597 0 rfl ?_
  refine g_iload_n hX dL_law_598 3 rfl ?_
  refine g_iconst hX (nI 2) dL_law_599 rfl ?_
  refine g_iadd hX (nI (i + 2)) dL_law_600 (nI_add _ _) ?_
  refine g_sld hX hSX (i := i + 2) ((xs (i + 2))) (by omega) (by omega) rfl dL_law_601 ?_
  refine g_if_eq hX 609 dL_law_602 (by decide) (fun c602 => ?_) (fun c602 => ?_)
  · skip
    exact absurd c602 e9
  · skip
    refine g_iconst hX (nI 1) dL_law_605 rfl ?_
    refine g_goto hX 610 dL_law_606 (by decide) ?_
    have hc610 : CUT ((lfo E ae ab ar an af ah ak ax ag z ++ (tw E ab 200 tx ++ (rw_ E ar R ++ (fw E an C ++ (fw E af D ++ (pw8 E ah V ++ (pw2 E ak U ++ (sw E ax S ++ (gw E ag G ++ (mw E a M))))))))))) ((lfo E ae ab ar an af ah ak ax ag z ++ (fw E an C ++ (sw E ax S)))) ((tw E ab 200 tx ++ (rw_ E ar R ++ (fw E af D ++ (pw8 E ah V ++ (pw2 E ak U ++ (gw E ag G ++ (mw E a M)))))))) [0, 4, 5, 6, 7, 8, 9, 10, 92, 93, 94] [1, 2, 3, 11, 12, 13, 14, 15, 16, 17, 18, 19, 20, 21, 22, 23, 24, 25, 26, 27, 28, 29, 30, 31, 32, 33, 34, 35, 36, 37, 38, 39, 40, 41, 42, 43, 44, 45, 46, 47, 48, 49, 50, 51, 52, 53, 54, 55, 56, 57, 58, 59, 60, 61, 62, 63, 64, 65, 66, 67, 68, 69, 70, 71, 72, 73, 74, 75, 76, 77, 78, 79, 80, 81, 82, 83, 84, 85, 86, 87, 88, 89, 90, 91, 95, 96, 97, 98, 99, 100, 101, 102, 103, 104, 105, 106, 107, 108, 109, 110] := ⟨rfl, rfl, rfl, rfl, rfl⟩
    refine g_VI hX hc610 [.int (nI s), .int (nI 1)] [] (c_X5_see_f l E ae ab ar an af ah ak ax ag z C S s true (by first | assumption | omega) (by first | assumption | omega) (by first | assumption | omega) (by first | assumption | omega)) gL_law_X5_see calX5_see rfl rfl rfl rfl 0 rfl rfl rfl rfl dL_law_610 rfl ⟨hkk, hnn⟩ (fun _ => (lfo E ae ab ar an af ah ak ax ag z ++ (tw E ab 200 tx ++ (rw_ E ar R ++ (fw E an C ++ (fw E af D ++ (pw8 E ah V ++ (pw2 E ak U ++ (sw E ax S ++ (gw E ag G ++ (mw E a M))))))))))) [100, 0, 1, 2, 101, 102, 103, 104, 105, 106, 107, 3, 4, 5, 6, 7, 8, 9, 10, 11, 12, 13, 14, 15, 16, 17, 18, 19, 20, 21, 22, 23, 24, 25, 26, 27, 28, 29, 30, 31, 32, 33, 34, 35, 36, 37, 38, 39, 40, 41, 42, 43, 44, 45, 46, 47, 48, 49, 50, 51, 52, 53, 54, 55, 56, 57, 58, 59, 60, 61, 62, 63, 64, 65, 66, 67, 68, 69, 70, 71, 72, 73, 74, 75, 76, 77, 78, 79, 80, 81, 82, 83, 108, 109, 110, 84, 85, 86, 87, 88, 89, 90, 91, 92, 93, 94, 95, 96, 97, 98, 99] rfl (fun _ => rfl) (fun _ hu610 => ?_)
    refine g_aload_n hX dL_law_613 2 rfl ?_
    refine g_aload_n hX dL_law_614 0 rfl ?_
    refine g_iload_n hX dL_law_615 3 rfl ?_
    refine g_iconst hX (nI 1) dL_law_616 rfl ?_
    refine g_iadd hX (nI (i + 1)) dL_law_617 (nI_add _ _) ?_
    refine g_sld hX hSX (i := i + 1) (nI s) (by omega) (by omega) e1 dL_law_618 ?_
    refine g_aload_n hX dL_law_619 0 rfl ?_
    refine g_iload_n hX dL_law_620 3 rfl ?_
    refine g_iconst hX (nI 2) dL_law_621 rfl ?_
    refine g_iadd hX (nI (i + 2)) dL_law_622 (nI_add _ _) ?_
    refine g_sld hX hSX (i := i + 2) ((xs (i + 2))) (by omega) (by omega) rfl dL_law_623 ?_
    refine g_if_eq hX 631 dL_law_624 (by decide) (fun c624 => ?_) (fun c624 => ?_)
    · skip
      exact absurd c624 e9
    · skip
      refine g_iconst hX (nI 1) dL_law_627 rfl ?_
      refine g_goto hX 632 dL_law_628 (by decide) ?_
      have hc632 : CUT ((lfo E ae ab ar an af ah ak ax ag z ++ (tw E ab 200 tx ++ (rw_ E ar R ++ (fw E an C ++ (fw E af D ++ (pw8 E ah V ++ (pw2 E ak U ++ (sw E ax S ++ (gw E ag G ++ (mw E a M))))))))))) (mw E a M) ((lfo E ae ab ar an af ah ak ax ag z ++ (tw E ab 200 tx ++ (rw_ E ar R ++ (fw E an C ++ (fw E af D ++ (pw8 E ah V ++ (pw2 E ak U ++ (sw E ax S ++ (gw E ag G)))))))))) [98, 99, 100, 101, 102, 103, 104, 105, 106, 107, 108, 109, 110] [0, 1, 2, 3, 4, 5, 6, 7, 8, 9, 10, 11, 12, 13, 14, 15, 16, 17, 18, 19, 20, 21, 22, 23, 24, 25, 26, 27, 28, 29, 30, 31, 32, 33, 34, 35, 36, 37, 38, 39, 40, 41, 42, 43, 44, 45, 46, 47, 48, 49, 50, 51, 52, 53, 54, 55, 56, 57, 58, 59, 60, 61, 62, 63, 64, 65, 66, 67, 68, 69, 70, 71, 72, 73, 74, 75, 76, 77, 78, 79, 80, 81, 82, 83, 84, 85, 86, 87, 88, 89, 90, 91, 92, 93, 94, 95, 96, 97] := ⟨rfl, rfl, rfl, rfl, rfl⟩
      refine g_VI hX hc632 [.int (nI s), .int (nI 1)] [.int (-3)] (c_X6_see_f l E a M C (30 * t) s true (by first | assumption | omega) (by first | assumption | omega) (by first | assumption | omega) (by first | assumption | omega) (by first | assumption | omega) (by first | assumption | omega) (hE.1.trans hf)) gL_law_X6_see calX6_see rfl rfl rfl rfl 98 rfl rfl rfl rfl dL_law_632 rfl ⟨hkk, hnn⟩ (fun u632 => (lfo E ae ab ar an af ah ak ax ag z ++ (tw E ab 200 tx ++ (rw_ E ar R ++ (fw E an C ++ (fw E af D ++ (pw8 E ah V ++ (pw2 E ak U ++ (sw E ax S ++ (gw E ag G ++ (mw E a u632))))))))))) [0, 1, 2, 3, 4, 5, 6, 7, 8, 9, 10, 11, 12, 13, 14, 15, 16, 17, 18, 19, 20, 21, 22, 23, 24, 25, 26, 27, 28, 29, 30, 31, 32, 33, 34, 35, 36, 37, 38, 39, 40, 41, 42, 43, 44, 45, 46, 47, 48, 49, 50, 51, 52, 53, 54, 55, 56, 57, 58, 59, 60, 61, 62, 63, 64, 65, 66, 67, 68, 69, 70, 71, 72, 73, 74, 75, 76, 77, 78, 79, 80, 81, 82, 83, 84, 85, 86, 87, 88, 89, 90, 91, 92, 93, 94, 95, 96, 97, 98, 99, 100, 101, 102, 103, 104, 105, 106, 107, 108, 109, 110] rfl (fun _ => rfl) (fun u632 hu632 => ?_)
      refine g_icmp_eq hX 857 dL_law_635 (by decide) (fun _ => ?_) (fun c => (c (rfl)).elim)
      exact nx z tx R C D V U S G u632 (INV_KS hI hu632)
set_option maxHeartbeats 4000000 in
set_option maxRecDepth 100000 in
theorem lc_see_y1 (s : Nat) (hc : LCX x l E b L xs kk nn t i) (hI : INV t z tx R C V U S M) (nx : NX x E ae ab ar an af ah ak ax ag a b kk nn t i) (e9 : ¬ xs (i + 2) = 0) (e1 : xs (i + 1) = nI s) (hs : s < cN C) (hf : hN S < 6) : GG x kk nn (LWM E ae ab ar an af ah ak ax ag a z tx R C D V U S G M) 591 [(0, .ref b), (1, .ref (ae 0)), (2, .ref (a 0)), (3, .int (nI i))] [] := by
  obtain ⟨hX, hSX, hkk, hnn, hit, hi5, hL3⟩ := hc
  obtain ⟨⟨hz, htx, hmX, hmL, hRq⟩, ⟨hN1, hD, hSr, hTm⟩, hE, ⟨hv1, hv2, hv3⟩, ⟨hu1, hu2, hu3⟩⟩ := id hI
  have hm : 30 * t < 2 ^ 29 := by omega
  have hC := hD.1.1
  obtain ⟨h9, h64, h512, hTq, hIq⟩ := id hC
  have hSK := hD.1.2
  have hV := DI_VB hD (by omega)
  have htx2 : ∀ j, tx j < 2 ^ 16 := fun j => by have := htx j; omega
  have hmX2 : ∀ j, mX M j < 128 := by rw [hmX]; exact htx
  have h6 : hN S ≤ 6 := hE.2.1
  have hs9 : ∀ j, j < hN S → hS S j < 9 := fun j hj => (hE.2.2 j hj).2.2
  show GG x kk nn ((lfo E ae ab ar an af ah ak ax ag z ++ (tw E ab 200 tx ++ (rw_ E ar R ++ (fw E an C ++ (fw E af D ++ (pw8 E ah V ++ (pw2 E ak U ++ (sw E ax S ++ (gw E ag G ++ (mw E a M))))))))))) 591 [(0, .ref b), (1, .ref (ae 0)), (2, .ref (a 0)), (3, .int (nI i))] []
  refine g_aload_n hX dL_law_591 1 rfl ?_
  refine g_aload_n hX dL_law_592 0 rfl ?_
  refine g_iload_n hX dL_law_593 3 rfl ?_
  refine g_iconst hX (nI 1) dL_law_594 rfl ?_
  refine g_iadd hX (nI (i + 1)) dL_law_595 (nI_add _ _) ?_
  refine g_sld hX hSX (i := i + 1) (nI s) (by omega) (by omega) e1 dL_law_596 ?_
  refine g_aload_n hX dL_law_597 0 rfl ?_
  refine g_iload_n hX dL_law_598 3 rfl ?_
  refine g_iconst hX (nI 2) dL_law_599 rfl ?_
  refine g_iadd hX (nI (i + 2)) dL_law_600 (nI_add _ _) ?_
  refine g_sld hX hSX (i := i + 2) ((xs (i + 2))) (by omega) (by omega) rfl dL_law_601 ?_
  refine g_if_eq hX 609 dL_law_602 (by decide) (fun c602 => ?_) (fun c602 => ?_)
  · skip
    exact absurd c602 e9
  · skip
    refine g_iconst hX (nI 1) dL_law_605 rfl ?_
    refine g_goto hX 610 dL_law_606 (by decide) ?_
    have hc610 : CUT ((lfo E ae ab ar an af ah ak ax ag z ++ (tw E ab 200 tx ++ (rw_ E ar R ++ (fw E an C ++ (fw E af D ++ (pw8 E ah V ++ (pw2 E ak U ++ (sw E ax S ++ (gw E ag G ++ (mw E a M))))))))))) ((lfo E ae ab ar an af ah ak ax ag z ++ (fw E an C ++ (sw E ax S)))) ((tw E ab 200 tx ++ (rw_ E ar R ++ (fw E af D ++ (pw8 E ah V ++ (pw2 E ak U ++ (gw E ag G ++ (mw E a M)))))))) [0, 4, 5, 6, 7, 8, 9, 10, 92, 93, 94] [1, 2, 3, 11, 12, 13, 14, 15, 16, 17, 18, 19, 20, 21, 22, 23, 24, 25, 26, 27, 28, 29, 30, 31, 32, 33, 34, 35, 36, 37, 38, 39, 40, 41, 42, 43, 44, 45, 46, 47, 48, 49, 50, 51, 52, 53, 54, 55, 56, 57, 58, 59, 60, 61, 62, 63, 64, 65, 66, 67, 68, 69, 70, 71, 72, 73, 74, 75, 76, 77, 78, 79, 80, 81, 82, 83, 84, 85, 86, 87, 88, 89, 90, 91, 95, 96, 97, 98, 99, 100, 101, 102, 103, 104, 105, 106, 107, 108, 109, 110] := ⟨rfl, rfl, rfl, rfl, rfl⟩
    refine g_VI hX hc610 [.int (nI s), .int (nI 1)] [] (c_X5_see_y l E ae ab ar an af ah ak ax ag z C S s true (by first | assumption | omega) (by first | assumption | omega) (by first | assumption | omega) (by first | assumption | omega)) gL_law_X5_see calX5_see rfl rfl rfl rfl 0 rfl rfl rfl rfl dL_law_610 rfl ⟨hkk, hnn⟩ (fun _ => (lfo E ae ab ar an af ah ak ax ag z ++ (tw E ab 200 tx ++ (rw_ E ar R ++ (fw E an C ++ (fw E af D ++ (pw8 E ah V ++ (pw2 E ak U ++ (sw E ax (mkSC ((hN S) + 1) (va_up ((hS S)) ((hN S)) s) (va_up ((hH S)) ((hN S)) true)) ++ (gw E ag G ++ (mw E a M))))))))))) [100, 0, 1, 2, 101, 102, 103, 104, 105, 106, 107, 3, 4, 5, 6, 7, 8, 9, 10, 11, 12, 13, 14, 15, 16, 17, 18, 19, 20, 21, 22, 23, 24, 25, 26, 27, 28, 29, 30, 31, 32, 33, 34, 35, 36, 37, 38, 39, 40, 41, 42, 43, 44, 45, 46, 47, 48, 49, 50, 51, 52, 53, 54, 55, 56, 57, 58, 59, 60, 61, 62, 63, 64, 65, 66, 67, 68, 69, 70, 71, 72, 73, 74, 75, 76, 77, 78, 79, 80, 81, 82, 83, 108, 109, 110, 84, 85, 86, 87, 88, 89, 90, 91, 92, 93, 94, 95, 96, 97, 98, 99] rfl (fun _ => rfl) (fun _ hu610 => ?_)
    refine g_aload_n hX dL_law_613 2 rfl ?_
    refine g_aload_n hX dL_law_614 0 rfl ?_
    refine g_iload_n hX dL_law_615 3 rfl ?_
    refine g_iconst hX (nI 1) dL_law_616 rfl ?_
    refine g_iadd hX (nI (i + 1)) dL_law_617 (nI_add _ _) ?_
    refine g_sld hX hSX (i := i + 1) (nI s) (by omega) (by omega) e1 dL_law_618 ?_
    refine g_aload_n hX dL_law_619 0 rfl ?_
    refine g_iload_n hX dL_law_620 3 rfl ?_
    refine g_iconst hX (nI 2) dL_law_621 rfl ?_
    refine g_iadd hX (nI (i + 2)) dL_law_622 (nI_add _ _) ?_
    refine g_sld hX hSX (i := i + 2) ((xs (i + 2))) (by omega) (by omega) rfl dL_law_623 ?_
    refine g_if_eq hX 631 dL_law_624 (by decide) (fun c624 => ?_) (fun c624 => ?_)
    · skip
      exact absurd c624 e9
    · skip
      refine g_iconst hX (nI 1) dL_law_627 rfl ?_
      refine g_goto hX 632 dL_law_628 (by decide) ?_
      have hc632 : CUT ((lfo E ae ab ar an af ah ak ax ag z ++ (tw E ab 200 tx ++ (rw_ E ar R ++ (fw E an C ++ (fw E af D ++ (pw8 E ah V ++ (pw2 E ak U ++ (sw E ax (mkSC ((hN S) + 1) (va_up ((hS S)) ((hN S)) s) (va_up ((hH S)) ((hN S)) true)) ++ (gw E ag G ++ (mw E a M))))))))))) (mw E a M) ((lfo E ae ab ar an af ah ak ax ag z ++ (tw E ab 200 tx ++ (rw_ E ar R ++ (fw E an C ++ (fw E af D ++ (pw8 E ah V ++ (pw2 E ak U ++ (sw E ax (mkSC ((hN S) + 1) (va_up ((hS S)) ((hN S)) s) (va_up ((hH S)) ((hN S)) true)) ++ (gw E ag G)))))))))) [98, 99, 100, 101, 102, 103, 104, 105, 106, 107, 108, 109, 110] [0, 1, 2, 3, 4, 5, 6, 7, 8, 9, 10, 11, 12, 13, 14, 15, 16, 17, 18, 19, 20, 21, 22, 23, 24, 25, 26, 27, 28, 29, 30, 31, 32, 33, 34, 35, 36, 37, 38, 39, 40, 41, 42, 43, 44, 45, 46, 47, 48, 49, 50, 51, 52, 53, 54, 55, 56, 57, 58, 59, 60, 61, 62, 63, 64, 65, 66, 67, 68, 69, 70, 71, 72, 73, 74, 75, 76, 77, 78, 79, 80, 81, 82, 83, 84, 85, 86, 87, 88, 89, 90, 91, 92, 93, 94, 95, 96, 97] := ⟨rfl, rfl, rfl, rfl, rfl⟩
      refine g_VI hX hc632 [.int (nI s), .int (nI 1)] [.int (nI ((hN S) + 1))] (c_X6_see_y l E a M C s true (by first | assumption | omega) hSr.1 (by first | assumption | omega) (by rw [hE.1]; exact hf)) gL_law_X6_see calX6_see rfl rfl rfl rfl 98 rfl rfl rfl rfl dL_law_632 rfl ⟨hkk, hnn⟩ (fun _ => (lfo E ae ab ar an af ah ak ax ag z ++ (tw E ab 200 tx ++ (rw_ E ar R ++ (fw E an C ++ (fw E af D ++ (pw8 E ah V ++ (pw2 E ak U ++ (sw E ax (mkSC ((hN S) + 1) (va_up ((hS S)) ((hN S)) s) (va_up ((hH S)) ((hN S)) true)) ++ (gw E ag G ++ (mw E a (mkMV (mT M) (mS M) (mA M) (mW M) (mK M) (mP M) ((mE M) + 1) (va_up (va_up ((mN M)) (2 * (mE M)) s) (2 * (mE M) + 1) true.toNat) (mX M) (mL M) (mI M) (mD M) (mR M) (mM M) (mO M) (mF M) (mU M) (mQ M) (mZ M) (mG M) (mH M))))))))))))) [0, 1, 2, 3, 4, 5, 6, 7, 8, 9, 10, 11, 12, 13, 14, 15, 16, 17, 18, 19, 20, 21, 22, 23, 24, 25, 26, 27, 28, 29, 30, 31, 32, 33, 34, 35, 36, 37, 38, 39, 40, 41, 42, 43, 44, 45, 46, 47, 48, 49, 50, 51, 52, 53, 54, 55, 56, 57, 58, 59, 60, 61, 62, 63, 64, 65, 66, 67, 68, 69, 70, 71, 72, 73, 74, 75, 76, 77, 78, 79, 80, 81, 82, 83, 84, 85, 86, 87, 88, 89, 90, 91, 92, 93, 94, 95, 96, 97, 98, 99, 100, 101, 102, 103, 104, 105, 106, 107, 108, 109, 110] rfl (fun _ => rfl) (fun _ hu632 => ?_)
      refine g_icmp_eq hX 857 dL_law_635 (by decide) (fun _ => ?_) (fun c => (c (by rw [hE.1])).elim)
      exact nx z tx R C D V U (mkSC ((hN S) + 1) (va_up ((hS S)) ((hN S)) s) (va_up ((hH S)) ((hN S)) true)) G (mkMV (mT M) (mS M) (mA M) (mW M) (mK M) (mP M) ((mE M) + 1) (va_up (va_up ((mN M)) (2 * (mE M)) s) (2 * (mE M) + 1) true.toNat) (mX M) (mL M) (mI M) (mD M) (mR M) (mM M) (mO M) (mF M) (mU M) (mQ M) (mZ M) (mG M) (mH M)) (INV_es hI (ES_add hE hf (by omega) rfl rfl) rfl rfl rfl rfl rfl rfl rfl rfl)
set_option maxHeartbeats 4000000 in
set_option maxRecDepth 100000 in
theorem lc_forget  (hc : LCX x l E b L xs kk nn t i) (hI : INV t z tx R C V U S M) (nx : NX x E ae ab ar an af ah ak ax ag a b kk nn t i)  : GG x kk nn (LWM E ae ab ar an af ah ak ax ag a z tx R C D V U S G M) 640 [(0, .ref b), (1, .ref (ae 0)), (2, .ref (a 0)), (3, .int (nI i))] [] := by
  obtain ⟨hX, hSX, hkk, hnn, hit, hi5, hL3⟩ := hc
  obtain ⟨⟨hz, htx, hmX, hmL, hRq⟩, ⟨hN1, hD, hSr, hTm⟩, hE, ⟨hv1, hv2, hv3⟩, ⟨hu1, hu2, hu3⟩⟩ := id hI
  have hm : 30 * t < 2 ^ 29 := by omega
  have hC := hD.1.1
  obtain ⟨h9, h64, h512, hTq, hIq⟩ := id hC
  have hSK := hD.1.2
  have hV := DI_VB hD (by omega)
  have htx2 : ∀ j, tx j < 2 ^ 16 := fun j => by have := htx j; omega
  have hmX2 : ∀ j, mX M j < 128 := by rw [hmX]; exact htx
  have h6 : hN S ≤ 6 := hE.2.1
  have hs9 : ∀ j, j < hN S → hS S j < 9 := fun j hj => (hE.2.2 j hj).2.2
  show GG x kk nn ((lfo E ae ab ar an af ah ak ax ag z ++ (tw E ab 200 tx ++ (rw_ E ar R ++ (fw E an C ++ (fw E af D ++ (pw8 E ah V ++ (pw2 E ak U ++ (sw E ax S ++ (gw E ag G ++ (mw E a M))))))))))) 640 [(0, .ref b), (1, .ref (ae 0)), (2, .ref (a 0)), (3, .int (nI i))] []
  refine g_aload_n hX dL_law_640 1 rfl ?_
  have hc641 : CUT ((lfo E ae ab ar an af ah ak ax ag z ++ (tw E ab 200 tx ++ (rw_ E ar R ++ (fw E an C ++ (fw E af D ++ (pw8 E ah V ++ (pw2 E ak U ++ (sw E ax S ++ (gw E ag G ++ (mw E a M))))))))))) ((lfo E ae ab ar an af ah ak ax ag z) ++ (sw E ax S)) ((tw E ab 200 tx ++ (rw_ E ar R ++ (fw E an C ++ (fw E af D ++ (pw8 E ah V ++ (pw2 E ak U ++ (gw E ag G ++ (mw E a M))))))))) [0, 92, 93, 94] [1, 2, 3, 4, 5, 6, 7, 8, 9, 10, 11, 12, 13, 14, 15, 16, 17, 18, 19, 20, 21, 22, 23, 24, 25, 26, 27, 28, 29, 30, 31, 32, 33, 34, 35, 36, 37, 38, 39, 40, 41, 42, 43, 44, 45, 46, 47, 48, 49, 50, 51, 52, 53, 54, 55, 56, 57, 58, 59, 60, 61, 62, 63, 64, 65, 66, 67, 68, 69, 70, 71, 72, 73, 74, 75, 76, 77, 78, 79, 80, 81, 82, 83, 84, 85, 86, 87, 88, 89, 90, 91, 95, 96, 97, 98, 99, 100, 101, 102, 103, 104, 105, 106, 107, 108, 109, 110] := ⟨rfl, rfl, rfl, rfl, rfl⟩
  refine g_VI hX hc641 [] [] (c_X5_forget l E ae ab ar an af ah ak ax ag z S) gL_law_X5_forget calX5_forget rfl rfl rfl rfl 0 rfl rfl rfl rfl dL_law_641 rfl ⟨hkk, hnn⟩ (fun _ => (lfo E ae ab ar an af ah ak ax ag z ++ (tw E ab 200 tx ++ (rw_ E ar R ++ (fw E an C ++ (fw E af D ++ (pw8 E ah V ++ (pw2 E ak U ++ (sw E ax (shN S 0) ++ (gw E ag G ++ (mw E a M))))))))))) [107, 0, 1, 2, 3, 4, 5, 6, 7, 8, 9, 10, 11, 12, 13, 14, 15, 16, 17, 18, 19, 20, 21, 22, 23, 24, 25, 26, 27, 28, 29, 30, 31, 32, 33, 34, 35, 36, 37, 38, 39, 40, 41, 42, 43, 44, 45, 46, 47, 48, 49, 50, 51, 52, 53, 54, 55, 56, 57, 58, 59, 60, 61, 62, 63, 64, 65, 66, 67, 68, 69, 70, 71, 72, 73, 74, 75, 76, 77, 78, 79, 80, 81, 82, 83, 84, 85, 86, 87, 88, 89, 90, 108, 109, 110, 91, 92, 93, 94, 95, 96, 97, 98, 99, 100, 101, 102, 103, 104, 105, 106] rfl (fun _ => rfl) (fun _ hu641 => ?_)
  refine g_aload_n hX dL_law_644 2 rfl ?_
  have hc645 : CUT ((lfo E ae ab ar an af ah ak ax ag z ++ (tw E ab 200 tx ++ (rw_ E ar R ++ (fw E an C ++ (fw E af D ++ (pw8 E ah V ++ (pw2 E ak U ++ (sw E ax (shN S 0) ++ (gw E ag G ++ (mw E a M))))))))))) (mw E a M) ((lfo E ae ab ar an af ah ak ax ag z ++ (tw E ab 200 tx ++ (rw_ E ar R ++ (fw E an C ++ (fw E af D ++ (pw8 E ah V ++ (pw2 E ak U ++ (sw E ax (shN S 0) ++ (gw E ag G)))))))))) [98, 99, 100, 101, 102, 103, 104, 105, 106, 107, 108, 109, 110] [0, 1, 2, 3, 4, 5, 6, 7, 8, 9, 10, 11, 12, 13, 14, 15, 16, 17, 18, 19, 20, 21, 22, 23, 24, 25, 26, 27, 28, 29, 30, 31, 32, 33, 34, 35, 36, 37, 38, 39, 40, 41, 42, 43, 44, 45, 46, 47, 48, 49, 50, 51, 52, 53, 54, 55, 56, 57, 58, 59, 60, 61, 62, 63, 64, 65, 66, 67, 68, 69, 70, 71, 72, 73, 74, 75, 76, 77, 78, 79, 80, 81, 82, 83, 84, 85, 86, 87, 88, 89, 90, 91, 92, 93, 94, 95, 96, 97] := ⟨rfl, rfl, rfl, rfl, rfl⟩
  refine g_VI hX hc645 [] [.int (nI (hN S))] (c_X6_forget l E a M) gL_law_X6_forget calX6_forget rfl rfl rfl rfl 98 rfl rfl rfl rfl dL_law_645 rfl ⟨hkk, hnn⟩ (fun _ => (lfo E ae ab ar an af ah ak ax ag z ++ (tw E ab 200 tx ++ (rw_ E ar R ++ (fw E an C ++ (fw E af D ++ (pw8 E ah V ++ (pw2 E ak U ++ (sw E ax (shN S 0) ++ (gw E ag G ++ (mw E a (mkMV (mT M) (mS M) (mA M) (mW M) (mK M) (mP M) 0 (mN M) (mX M) (mL M) (mI M) (mD M) (mR M) (mM M) (mO M) (mF M) (mU M) (mQ M) (mZ M) (mG M) (mH M))))))))))))) [0, 1, 2, 3, 4, 5, 6, 7, 8, 9, 10, 11, 12, 13, 14, 15, 16, 17, 18, 19, 20, 21, 22, 23, 24, 25, 26, 27, 28, 29, 30, 31, 32, 33, 34, 35, 36, 37, 38, 39, 40, 41, 42, 43, 44, 45, 46, 47, 48, 49, 50, 51, 52, 53, 54, 55, 56, 57, 58, 59, 60, 61, 62, 63, 64, 65, 66, 67, 68, 69, 70, 71, 72, 73, 74, 75, 76, 77, 78, 79, 80, 81, 82, 83, 84, 85, 86, 87, 88, 89, 90, 91, 92, 93, 94, 95, 96, 97, 98, 99, 100, 101, 102, 103, 104, 105, 106, 107, 108, 109, 110] rfl (fun _ => rfl) (fun _ hu645 => ?_)
  refine g_icmp_eq hX 857 dL_law_648 (by decide) (fun _ => ?_) (fun c => (c (by rw [hE.1])).elim)
  exact nx z tx R C D V U (shN S 0) G (mkMV (mT M) (mS M) (mA M) (mW M) (mK M) (mP M) 0 (mN M) (mX M) (mL M) (mI M) (mD M) (mR M) (mM M) (mO M) (mF M) (mU M) (mQ M) (mZ M) (mG M) (mH M)) (INV_es hI (ES_0 rfl) rfl rfl rfl rfl rfl rfl rfl rfl)
end LAWS
