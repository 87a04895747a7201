section LAWS
variable {x : GX} {l : Launch} {E : EV} {b L : Nat} {xs : Nat → Int32} {kk nn t i : Nat} {ae ab ar an af ah ak ax ag a : Nat → Nat}
variable {z : Nat} {tx : Nat → Nat} {R : RC} {C : FC} {D : FC} {V : PV} {U : PV} {S : SC} {G : GC} {M : MV}
set_option maxHeartbeats 4000000 in
set_option maxRecDepth 100000 in
theorem lc_worlds_n  (hc : LCX x l E b L xs kk nn t i) (hI : INV t z tx R C V U S M) (nx : NX x E ae ab ar an af ah ak ax ag a b kk nn t i) (hx : win (xs (i + 1)) (nI 0) (nI 1) = false) : GG x kk nn (LWM E ae ab ar an af ah ak ax ag a z tx R C D V U S G M) 653 [(0, .ref b), (1, .ref (ae 0)), (2, .ref (a 0)), (3, .int (nI i))] [] := by
  obtain ⟨hX, hSX, hkk, hnn, hit, hi5, hL3⟩ := hc
  obtain ⟨⟨hz, htx, hmX, hmL, hRq⟩, ⟨hN1, hD, hSr, hTm⟩, hE, ⟨hv1, hv2, hv3⟩, ⟨hu1, hu2, hu3⟩⟩ := id hI
  have hm : 30 * t < 2 ^ 29 := by omega
  have hC := hD.1.1
  obtain ⟨h9, h64, h512, hTq, hIq⟩ := id hC
  have hSK := hD.1.2
  have hV := DI_VB hD (by omega)
  have htx2 : ∀ j, tx j < 2 ^ 16 := fun j => by have := htx j; omega
  have hmX2 : ∀ j, mX M j < 128 := by rw [hmX]; exact htx
  have h6 : hN S ≤ 6 := hE.2.1
  have hs9 : ∀ j, j < hN S → hS S j < 9 := fun j hj => (hE.2.2 j hj).2.2
  show GG x kk nn ((lfo E ae ab ar an af ah ak ax ag z ++ (tw E ab 200 tx ++ (rw_ E ar R ++ (fw E an C ++ (fw E af D ++ (pw8 E ah V ++ (pw2 E ak U ++ (sw E ax S ++ (gw E ag G ++ (mw E a M))))))))))) 653 [(0, .ref b), (1, .ref (ae 0)), (2, .ref (a 0)), (3, .int (nI i))] []
  refine g_aload_n hX dL_law_653 1 rfl ?_
  refine g_aload_n hX dL_law_654 0 rfl ?_
  refine g_iload_n hX dL_law_655 3 rfl ?_
  refine g_iconst hX (nI 1) dL_law_656 rfl ?_
  refine g_iadd hX (nI (i + 1)) dL_law_657 (nI_add _ _) ?_
  refine g_sld hX hSX (i := i + 1) ((xs (i + 1))) (by omega) (by omega) rfl dL_law_658 ?_
  have hc659 : CUT ((lfo E ae ab ar an af ah ak ax ag z ++ (tw E ab 200 tx ++ (rw_ E ar R ++ (fw E an C ++ (fw E af D ++ (pw8 E ah V ++ (pw2 E ak U ++ (sw E ax S ++ (gw E ag G ++ (mw E a M))))))))))) (lfo E ae ab ar an af ah ak ax ag z) ((tw E ab 200 tx ++ (rw_ E ar R ++ (fw E an C ++ (fw E af D ++ (pw8 E ah V ++ (pw2 E ak U ++ (sw E ax S ++ (gw E ag G ++ (mw E a M)))))))))) [0] [1, 2, 3, 4, 5, 6, 7, 8, 9, 10, 11, 12, 13, 14, 15, 16, 17, 18, 19, 20, 21, 22, 23, 24, 25, 26, 27, 28, 29, 30, 31, 32, 33, 34, 35, 36, 37, 38, 39, 40, 41, 42, 43, 44, 45, 46, 47, 48, 49, 50, 51, 52, 53, 54, 55, 56, 57, 58, 59, 60, 61, 62, 63, 64, 65, 66, 67, 68, 69, 70, 71, 72, 73, 74, 75, 76, 77, 78, 79, 80, 81, 82, 83, 84, 85, 86, 87, 88, 89, 90, 91, 92, 93, 94, 95, 96, 97, 98, 99, 100, 101, 102, 103, 104, 105, 106, 107, 108, 109, 110] := ⟨rfl, rfl, rfl, rfl, rfl⟩
  refine g_VI hX hc659 [.int (xs (i + 1))] [] (c_X5_worlds_n l E ae ab ar an af ah ak ax ag z (xs (i + 1)) (by first | assumption | omega)) gL_law_X5_worlds calX5_worlds rfl rfl rfl rfl 0 rfl rfl rfl rfl dL_law_659 rfl ⟨hkk, hnn⟩ (fun _ => (lfo E ae ab ar an af ah ak ax ag z ++ (tw E ab 200 tx ++ (rw_ E ar R ++ (fw E an C ++ (fw E af D ++ (pw8 E ah V ++ (pw2 E ak U ++ (sw E ax S ++ (gw E ag G ++ (mw E a M))))))))))) [110, 0, 1, 2, 3, 4, 5, 6, 7, 8, 9, 10, 11, 12, 13, 14, 15, 16, 17, 18, 19, 20, 21, 22, 23, 24, 25, 26, 27, 28, 29, 30, 31, 32, 33, 34, 35, 36, 37, 38, 39, 40, 41, 42, 43, 44, 45, 46, 47, 48, 49, 50, 51, 52, 53, 54, 55, 56, 57, 58, 59, 60, 61, 62, 63, 64, 65, 66, 67, 68, 69, 70, 71, 72, 73, 74, 75, 76, 77, 78, 79, 80, 81, 82, 83, 84, 85, 86, 87, 88, 89, 90, 91, 92, 93, 94, 95, 96, 97, 98, 99, 100, 101, 102, 103, 104, 105, 106, 107, 108, 109] rfl (fun _ => rfl) (fun _ hu659 => ?_)
  refine g_aload_n hX dL_law_662 2 rfl ?_
  refine g_aload_n hX dL_law_663 0 rfl ?_
  refine g_iload_n hX dL_law_664 3 rfl ?_
  refine g_iconst hX (nI 1) dL_law_665 rfl ?_
  refine g_iadd hX (nI (i + 1)) dL_law_666 (nI_add _ _) ?_
  refine g_sld hX hSX (i := i + 1) ((xs (i + 1))) (by omega) (by omega) rfl dL_law_667 ?_
  have hc668 : CUT ((lfo E ae ab ar an af ah ak ax ag z ++ (tw E ab 200 tx ++ (rw_ E ar R ++ (fw E an C ++ (fw E af D ++ (pw8 E ah V ++ (pw2 E ak U ++ (sw E ax S ++ (gw E ag G ++ (mw E a M))))))))))) (mw E a M) ((lfo E ae ab ar an af ah ak ax ag z ++ (tw E ab 200 tx ++ (rw_ E ar R ++ (fw E an C ++ (fw E af D ++ (pw8 E ah V ++ (pw2 E ak U ++ (sw E ax S ++ (gw E ag G)))))))))) [98, 99, 100, 101, 102, 103, 104, 105, 106, 107, 108, 109, 110] [0, 1, 2, 3, 4, 5, 6, 7, 8, 9, 10, 11, 12, 13, 14, 15, 16, 17, 18, 19, 20, 21, 22, 23, 24, 25, 26, 27, 28, 29, 30, 31, 32, 33, 34, 35, 36, 37, 38, 39, 40, 41, 42, 43, 44, 45, 46, 47, 48, 49, 50, 51, 52, 53, 54, 55, 56, 57, 58, 59, 60, 61, 62, 63, 64, 65, 66, 67, 68, 69, 70, 71, 72, 73, 74, 75, 76, 77, 78, 79, 80, 81, 82, 83, 84, 85, 86, 87, 88, 89, 90, 91, 92, 93, 94, 95, 96, 97] := ⟨rfl, rfl, rfl, rfl, rfl⟩
  refine g_VI hX hc668 [.int (xs (i + 1))] [.int (-1)] (c_X6_worlds_n l E a M C (30 * t) (xs (i + 1)) (by first | assumption | omega) (by first | assumption | omega) (by first | assumption | omega) (by first | assumption | omega) (by first | assumption | omega) (by first | assumption | omega)) gL_law_X6_worlds calX6_worlds rfl rfl rfl rfl 98 rfl rfl rfl rfl dL_law_668 rfl ⟨hkk, hnn⟩ (fun u668 => (lfo E ae ab ar an af ah ak ax ag z ++ (tw E ab 200 tx ++ (rw_ E ar R ++ (fw E an C ++ (fw E af D ++ (pw8 E ah V ++ (pw2 E ak U ++ (sw E ax S ++ (gw E ag G ++ (mw E a u668))))))))))) [0, 1, 2, 3, 4, 5, 6, 7, 8, 9, 10, 11, 12, 13, 14, 15, 16, 17, 18, 19, 20, 21, 22, 23, 24, 25, 26, 27, 28, 29, 30, 31, 32, 33, 34, 35, 36, 37, 38, 39, 40, 41, 42, 43, 44, 45, 46, 47, 48, 49, 50, 51, 52, 53, 54, 55, 56, 57, 58, 59, 60, 61, 62, 63, 64, 65, 66, 67, 68, 69, 70, 71, 72, 73, 74, 75, 76, 77, 78, 79, 80, 81, 82, 83, 84, 85, 86, 87, 88, 89, 90, 91, 92, 93, 94, 95, 96, 97, 98, 99, 100, 101, 102, 103, 104, 105, 106, 107, 108, 109, 110] rfl (fun _ => rfl) (fun u668 hu668 => ?_)
  refine g_icmp_eq hX 857 dL_law_671 (by decide) (fun _ => ?_) (fun c => (c (rfl)).elim)
  exact nx z tx R C D V U S G u668 (INV_KS hI hu668)
set_option maxHeartbeats 4000000 in
set_option maxRecDepth 100000 in
theorem lc_worlds_y (q : Nat) (hc : LCX x l E b L xs kk nn t i) (hI : INV t z tx R C V U S M) (nx : NX x E ae ab ar an af ah ak ax ag a b kk nn t i) (e1 : xs (i + 1) = nI q) (hq : q ≤ 1) : GG x kk nn (LWM E ae ab ar an af ah ak ax ag a z tx R C D V U S G M) 653 [(0, .ref b), (1, .ref (ae 0)), (2, .ref (a 0)), (3, .int (nI i))] [] := by
  obtain ⟨hX, hSX, hkk, hnn, hit, hi5, hL3⟩ := hc
  obtain ⟨⟨hz, htx, hmX, hmL, hRq⟩, ⟨hN1, hD, hSr, hTm⟩, hE, ⟨hv1, hv2, hv3⟩, ⟨hu1, hu2, hu3⟩⟩ := id hI
  have hm : 30 * t < 2 ^ 29 := by omega
  have hC := hD.1.1
  obtain ⟨h9, h64, h512, hTq, hIq⟩ := id hC
  have hSK := hD.1.2
  have hV := DI_VB hD (by omega)
  have htx2 : ∀ j, tx j < 2 ^ 16 := fun j => by have := htx j; omega
  have hmX2 : ∀ j, mX M j < 128 := by rw [hmX]; exact htx
  have h6 : hN S ≤ 6 := hE.2.1
  have hs9 : ∀ j, j < hN S → hS S j < 9 := fun j hj => (hE.2.2 j hj).2.2
  show GG x kk nn ((lfo E ae ab ar an af ah ak ax ag z ++ (tw E ab 200 tx ++ (rw_ E ar R ++ (fw E an C ++ (fw E af D ++ (pw8 E ah V ++ (pw2 E ak U ++ (sw E ax S ++ (gw E ag G ++ (mw E a M))))))))))) 653 [(0, .ref b), (1, .ref (ae 0)), (2, .ref (a 0)), (3, .int (nI i))] []
  refine g_aload_n hX dL_law_653 1 rfl ?_
  refine g_aload_n hX dL_law_654 0 rfl ?_
  refine g_iload_n hX dL_law_655 3 rfl ?_
  refine g_iconst hX (nI 1) dL_law_656 rfl ?_
  refine g_iadd hX (nI (i + 1)) dL_law_657 (nI_add _ _) ?_
  refine g_sld hX hSX (i := i + 1) (nI q) (by omega) (by omega) e1 dL_law_658 ?_
  have hc659 : CUT ((lfo E ae ab ar an af ah ak ax ag z ++ (tw E ab 200 tx ++ (rw_ E ar R ++ (fw E an C ++ (fw E af D ++ (pw8 E ah V ++ (pw2 E ak U ++ (sw E ax S ++ (gw E ag G ++ (mw E a M))))))))))) ((lfo E ae ab ar an af ah ak ax ag z ++ (fw E an C ++ (sw E ax S)))) ((tw E ab 200 tx ++ (rw_ E ar R ++ (fw E af D ++ (pw8 E ah V ++ (pw2 E ak U ++ (gw E ag G ++ (mw E a M)))))))) [0, 4, 5, 6, 7, 8, 9, 10, 92, 93, 94] [1, 2, 3, 11, 12, 13, 14, 15, 16, 17, 18, 19, 20, 21, 22, 23, 24, 25, 26, 27, 28, 29, 30, 31, 32, 33, 34, 35, 36, 37, 38, 39, 40, 41, 42, 43, 44, 45, 46, 47, 48, 49, 50, 51, 52, 53, 54, 55, 56, 57, 58, 59, 60, 61, 62, 63, 64, 65, 66, 67, 68, 69, 70, 71, 72, 73, 74, 75, 76, 77, 78, 79, 80, 81, 82, 83, 84, 85, 86, 87, 88, 89, 90, 91, 95, 96, 97, 98, 99, 100, 101, 102, 103, 104, 105, 106, 107, 108, 109, 110] := ⟨rfl, rfl, rfl, rfl, rfl⟩
  refine g_VI hX hc659 [.int (nI q)] [] (c_X5_worlds_y l E ae ab ar an af ah ak ax ag z C S q (by first | assumption | omega) (by first | assumption | omega) (by first | assumption | omega) (by first | assumption | omega)) gL_law_X5_worlds calX5_worlds rfl rfl rfl rfl 0 rfl rfl rfl rfl dL_law_659 rfl ⟨hkk, hnn⟩ (fun _ => (lfo E ae ab ar an af ah ak ax ag z ++ (tw E ab 200 tx ++ (rw_ E ar R ++ (fw E an C ++ (fw E af D ++ (pw8 E ah V ++ (pw2 E ak U ++ (sw E ax S ++ (gw E ag G ++ (mw E a M))))))))))) [100, 0, 1, 2, 101, 102, 103, 104, 105, 106, 107, 3, 4, 5, 6, 7, 8, 9, 10, 11, 12, 13, 14, 15, 16, 17, 18, 19, 20, 21, 22, 23, 24, 25, 26, 27, 28, 29, 30, 31, 32, 33, 34, 35, 36, 37, 38, 39, 40, 41, 42, 43, 44, 45, 46, 47, 48, 49, 50, 51, 52, 53, 54, 55, 56, 57, 58, 59, 60, 61, 62, 63, 64, 65, 66, 67, 68, 69, 70, 71, 72, 73, 74, 75, 76, 77, 78, 79, 80, 81, 82, 83, 108, 109, 110, 84, 85, 86, 87, 88, 89, 90, 91, 92, 93, 94, 95, 96, 97, 98, 99] rfl (fun _ => rfl) (fun _ hu659 => ?_)
  refine g_aload_n hX dL_law_662 2 rfl ?_
  refine g_aload_n hX dL_law_663 0 rfl ?_
  refine g_iload_n hX dL_law_664 3 rfl ?_
  refine g_iconst hX (nI 1) dL_law_665 rfl ?_
  refine g_iadd hX (nI (i + 1)) dL_law_666 (nI_add _ _) ?_
  refine g_sld hX hSX (i := i + 1) (nI q) (by omega) (by omega) e1 dL_law_667 ?_
  have hc668 : CUT ((lfo E ae ab ar an af ah ak ax ag z ++ (tw E ab 200 tx ++ (rw_ E ar R ++ (fw E an C ++ (fw E af D ++ (pw8 E ah V ++ (pw2 E ak U ++ (sw E ax S ++ (gw E ag G ++ (mw E a M))))))))))) (mw E a M) ((lfo E ae ab ar an af ah ak ax ag z ++ (tw E ab 200 tx ++ (rw_ E ar R ++ (fw E an C ++ (fw E af D ++ (pw8 E ah V ++ (pw2 E ak U ++ (sw E ax S ++ (gw E ag G)))))))))) [98, 99, 100, 101, 102, 103, 104, 105, 106, 107, 108, 109, 110] [0, 1, 2, 3, 4, 5, 6, 7, 8, 9, 10, 11, 12, 13, 14, 15, 16, 17, 18, 19, 20, 21, 22, 23, 24, 25, 26, 27, 28, 29, 30, 31, 32, 33, 34, 35, 36, 37, 38, 39, 40, 41, 42, 43, 44, 45, 46, 47, 48, 49, 50, 51, 52, 53, 54, 55, 56, 57, 58, 59, 60, 61, 62, 63, 64, 65, 66, 67, 68, 69, 70, 71, 72, 73, 74, 75, 76, 77, 78, 79, 80, 81, 82, 83, 84, 85, 86, 87, 88, 89, 90, 91, 92, 93, 94, 95, 96, 97] := ⟨rfl, rfl, rfl, rfl, rfl⟩
  refine g_VI hX hc668 [.int (nI q)] [.int (if q = 0 then nI (cnt (asW C S ((hN S))).testBit 64) else oI (fst (asW C S ((hN S))).testBit 0 64))] (c_X6_worlds_y l E a M C (30 * t) S q (by first | assumption | omega) (by first | assumption | omega) (by first | assumption | omega) (by first | assumption | omega) (by first | assumption | omega) (by first | assumption | omega) (by first | assumption | omega)) gL_law_X6_worlds calX6_worlds rfl rfl rfl rfl 98 rfl rfl rfl rfl dL_law_668 rfl ⟨hkk, hnn⟩ (fun u668 => (lfo E ae ab ar an af ah ak ax ag z ++ (tw E ab 200 tx ++ (rw_ E ar R ++ (fw E an C ++ (fw E af D ++ (pw8 E ah V ++ (pw2 E ak U ++ (sw E ax S ++ (gw E ag G ++ (mw E a u668))))))))))) [0, 1, 2, 3, 4, 5, 6, 7, 8, 9, 10, 11, 12, 13, 14, 15, 16, 17, 18, 19, 20, 21, 22, 23, 24, 25, 26, 27, 28, 29, 30, 31, 32, 33, 34, 35, 36, 37, 38, 39, 40, 41, 42, 43, 44, 45, 46, 47, 48, 49, 50, 51, 52, 53, 54, 55, 56, 57, 58, 59, 60, 61, 62, 63, 64, 65, 66, 67, 68, 69, 70, 71, 72, 73, 74, 75, 76, 77, 78, 79, 80, 81, 82, 83, 84, 85, 86, 87, 88, 89, 90, 91, 92, 93, 94, 95, 96, 97, 98, 99, 100, 101, 102, 103, 104, 105, 106, 107, 108, 109, 110] rfl (fun _ => rfl) (fun u668 hu668 => ?_)
  refine g_icmp_eq hX 857 dL_law_671 (by decide) (fun _ => ?_) (fun c => (c (E_worlds hC q)).elim)
  exact nx z tx R C D V U S G u668 (INV_KS hI hu668)
set_option maxHeartbeats 4000000 in
set_option maxRecDepth 100000 in
theorem lc_must_n  (hc : LCX x l E b L xs kk nn t i) (hI : INV t z tx R C V U S M) (nx : NX x E ae ab ar an af ah ak ax ag a b kk nn t i) (hx : win (xs (i + 1)) (nI 0) (nI 5) = false) : GG x kk nn (LWM E ae ab ar an af ah ak ax ag a z tx R C D V U S G M) 676 [(0, .ref b), (1, .ref (ae 0)), (2, .ref (a 0)), (3, .int (nI i))] [] := by
  obtain ⟨hX, hSX, hkk, hnn, hit, hi5, hL3⟩ := hc
  obtain ⟨⟨hz, htx, hmX, hmL, hRq⟩, ⟨hN1, hD, hSr, hTm⟩, hE, ⟨hv1, hv2, hv3⟩, ⟨hu1, hu2, hu3⟩⟩ := id hI
  have hm : 30 * t < 2 ^ 29 := by omega
  have hC := hD.1.1
  obtain ⟨h9, h64, h512, hTq, hIq⟩ := id hC
  have hSK := hD.1.2
  have hV := DI_VB hD (by omega)
  have htx2 : ∀ j, tx j < 2 ^ 16 := fun j => by have := htx j; omega
  have hmX2 : ∀ j, mX M j < 128 := by rw [hmX]; exact htx
  have h6 : hN S ≤ 6 := hE.2.1
  have hs9 : ∀ j, j < hN S → hS S j < 9 := fun j hj => (hE.2.2 j hj).2.2
  show GG x kk nn ((lfo E ae ab ar an af ah ak ax ag z ++ (tw E ab 200 tx ++ (rw_ E ar R ++ (fw E an C ++ (fw E af D ++ (pw8 E ah V ++ (pw2 E ak U ++ (sw E ax S ++ (gw E ag G ++ (mw E a M))))))))))) 676 [(0, .ref b), (1, .ref (ae 0)), (2, .ref (a 0)), (3, .int (nI i))] []
  refine g_aload_n hX dL_law_676 1 rfl ?_
  refine g_aload_n hX dL_law_677 0 rfl ?_
  refine g_iload_n hX dL_law_678 3 rfl ?_
  refine g_iconst hX (nI 1) dL_law_679 rfl ?_
  refine g_iadd hX (nI (i + 1)) dL_law_680 (nI_add _ _) ?_
  refine g_sld hX hSX (i := i + 1) ((xs (i + 1))) (by omega) (by omega) rfl dL_law_681 ?_
  have hc682 : CUT ((lfo E ae ab ar an af ah ak ax ag z ++ (tw E ab 200 tx ++ (rw_ E ar R ++ (fw E an C ++ (fw E af D ++ (pw8 E ah V ++ (pw2 E ak U ++ (sw E ax S ++ (gw E ag G ++ (mw E a M))))))))))) (lfo E ae ab ar an af ah ak ax ag z) ((tw E ab 200 tx ++ (rw_ E ar R ++ (fw E an C ++ (fw E af D ++ (pw8 E ah V ++ (pw2 E ak U ++ (sw E ax S ++ (gw E ag G ++ (mw E a M)))))))))) [0] [1, 2, 3, 4, 5, 6, 7, 8, 9, 10, 11, 12, 13, 14, 15, 16, 17, 18, 19, 20, 21, 22, 23, 24, 25, 26, 27, 28, 29, 30, 31, 32, 33, 34, 35, 36, 37, 38, 39, 40, 41, 42, 43, 44, 45, 46, 47, 48, 49, 50, 51, 52, 53, 54, 55, 56, 57, 58, 59, 60, 61, 62, 63, 64, 65, 66, 67, 68, 69, 70, 71, 72, 73, 74, 75, 76, 77, 78, 79, 80, 81, 82, 83, 84, 85, 86, 87, 88, 89, 90, 91, 92, 93, 94, 95, 96, 97, 98, 99, 100, 101, 102, 103, 104, 105, 106, 107, 108, 109, 110] := ⟨rfl, rfl, rfl, rfl, rfl⟩
  refine g_VI hX hc682 [.int (xs (i + 1))] [] (c_X5_must_n l E ae ab ar an af ah ak ax ag z (xs (i + 1)) (by first | assumption | omega)) gL_law_X5_must calX5_must rfl rfl rfl rfl 0 rfl rfl rfl rfl dL_law_682 rfl ⟨hkk, hnn⟩ (fun _ => (lfo E ae ab ar an af ah ak ax ag z ++ (tw E ab 200 tx ++ (rw_ E ar R ++ (fw E an C ++ (fw E af D ++ (pw8 E ah V ++ (pw2 E ak U ++ (sw E ax S ++ (gw E ag G ++ (mw E a M))))))))))) [110, 0, 1, 2, 3, 4, 5, 6, 7, 8, 9, 10, 11, 12, 13, 14, 15, 16, 17, 18, 19, 20, 21, 22, 23, 24, 25, 26, 27, 28, 29, 30, 31, 32, 33, 34, 35, 36, 37, 38, 39, 40, 41, 42, 43, 44, 45, 46, 47, 48, 49, 50, 51, 52, 53, 54, 55, 56, 57, 58, 59, 60, 61, 62, 63, 64, 65, 66, 67, 68, 69, 70, 71, 72, 73, 74, 75, 76, 77, 78, 79, 80, 81, 82, 83, 84, 85, 86, 87, 88, 89, 90, 91, 92, 93, 94, 95, 96, 97, 98, 99, 100, 101, 102, 103, 104, 105, 106, 107, 108, 109] rfl (fun _ => rfl) (fun _ hu682 => ?_)
  refine g_aload_n hX dL_law_685 2 rfl ?_
  refine g_aload_n hX dL_law_686 0 rfl ?_
  refine g_iload_n hX dL_law_687 3 rfl ?_
  refine g_iconst hX (nI 1) dL_law_688 rfl ?_
  refine g_iadd hX (nI (i + 1)) dL_law_689 (nI_add _ _) ?_
  refine g_sld hX hSX (i := i + 1) ((xs (i + 1))) (by omega) (by omega) rfl dL_law_690 ?_
  have hc691 : CUT ((lfo E ae ab ar an af ah ak ax ag z ++ (tw E ab 200 tx ++ (rw_ E ar R ++ (fw E an C ++ (fw E af D ++ (pw8 E ah V ++ (pw2 E ak U ++ (sw E ax S ++ (gw E ag G ++ (mw E a M))))))))))) (mw E a M) ((lfo E ae ab ar an af ah ak ax ag z ++ (tw E ab 200 tx ++ (rw_ E ar R ++ (fw E an C ++ (fw E af D ++ (pw8 E ah V ++ (pw2 E ak U ++ (sw E ax S ++ (gw E ag G)))))))))) [98, 99, 100, 101, 102, 103, 104, 105, 106, 107, 108, 109, 110] [0, 1, 2, 3, 4, 5, 6, 7, 8, 9, 10, 11, 12, 13, 14, 15, 16, 17, 18, 19, 20, 21, 22, 23, 24, 25, 26, 27, 28, 29, 30, 31, 32, 33, 34, 35, 36, 37, 38, 39, 40, 41, 42, 43, 44, 45, 46, 47, 48, 49, 50, 51, 52, 53, 54, 55, 56, 57, 58, 59, 60, 61, 62, 63, 64, 65, 66, 67, 68, 69, 70, 71, 72, 73, 74, 75, 76, 77, 78, 79, 80, 81, 82, 83, 84, 85, 86, 87, 88, 89, 90, 91, 92, 93, 94, 95, 96, 97] := ⟨rfl, rfl, rfl, rfl, rfl⟩
  refine g_VI hX hc691 [.int (xs (i + 1))] [.int (-1)] (c_X6_must_n l E a M C (30 * t) (xs (i + 1)) (by first | assumption | omega) (by first | assumption | omega) (by first | assumption | omega) (by first | assumption | omega) (by first | assumption | omega) (by first | assumption | omega)) gL_law_X6_must calX6_must rfl rfl rfl rfl 98 rfl rfl rfl rfl dL_law_691 rfl ⟨hkk, hnn⟩ (fun u691 => (lfo E ae ab ar an af ah ak ax ag z ++ (tw E ab 200 tx ++ (rw_ E ar R ++ (fw E an C ++ (fw E af D ++ (pw8 E ah V ++ (pw2 E ak U ++ (sw E ax S ++ (gw E ag G ++ (mw E a u691))))))))))) [0, 1, 2, 3, 4, 5, 6, 7, 8, 9, 10, 11, 12, 13, 14, 15, 16, 17, 18, 19, 20, 21, 22, 23, 24, 25, 26, 27, 28, 29, 30, 31, 32, 33, 34, 35, 36, 37, 38, 39, 40, 41, 42, 43, 44, 45, 46, 47, 48, 49, 50, 51, 52, 53, 54, 55, 56, 57, 58, 59, 60, 61, 62, 63, 64, 65, 66, 67, 68, 69, 70, 71, 72, 73, 74, 75, 76, 77, 78, 79, 80, 81, 82, 83, 84, 85, 86, 87, 88, 89, 90, 91, 92, 93, 94, 95, 96, 97, 98, 99, 100, 101, 102, 103, 104, 105, 106, 107, 108, 109, 110] rfl (fun _ => rfl) (fun u691 hu691 => ?_)
  refine g_icmp_eq hX 857 dL_law_694 (by decide) (fun _ => ?_) (fun c => (c (rfl)).elim)
  exact nx z tx R C D V U S G u691 (INV_KS hI hu691)
set_option maxHeartbeats 4000000 in
set_option maxRecDepth 100000 in
theorem lc_must_y (k : Nat) (hc : LCX x l E b L xs kk nn t i) (hI : INV t z tx R C V U S M) (nx : NX x E ae ab ar an af ah ak ax ag a b kk nn t i) (e1 : xs (i + 1) = nI k) (hk : k < 6) : GG x kk nn (LWM E ae ab ar an af ah ak ax ag a z tx R C D V U S G M) 676 [(0, .ref b), (1, .ref (ae 0)), (2, .ref (a 0)), (3, .int (nI i))] [] := by
  obtain ⟨hX, hSX, hkk, hnn, hit, hi5, hL3⟩ := hc
  obtain ⟨⟨hz, htx, hmX, hmL, hRq⟩, ⟨hN1, hD, hSr, hTm⟩, hE, ⟨hv1, hv2, hv3⟩, ⟨hu1, hu2, hu3⟩⟩ := id hI
  have hm : 30 * t < 2 ^ 29 := by omega
  have hC := hD.1.1
  obtain ⟨h9, h64, h512, hTq, hIq⟩ := id hC
  have hSK := hD.1.2
  have hV := DI_VB hD (by omega)
  have htx2 : ∀ j, tx j < 2 ^ 16 := fun j => by have := htx j; omega
  have hmX2 : ∀ j, mX M j < 128 := by rw [hmX]; exact htx
  have h6 : hN S ≤ 6 := hE.2.1
  have hs9 : ∀ j, j < hN S → hS S j < 9 := fun j hj => (hE.2.2 j hj).2.2
  show GG x kk nn ((lfo E ae ab ar an af ah ak ax ag z ++ (tw E ab 200 tx ++ (rw_ E ar R ++ (fw E an C ++ (fw E af D ++ (pw8 E ah V ++ (pw2 E ak U ++ (sw E ax S ++ (gw E ag G ++ (mw E a M))))))))))) 676 [(0, .ref b), (1, .ref (ae 0)), (2, .ref (a 0)), (3, .int (nI i))] []
  refine g_aload_n hX dL_law_676 1 rfl ?_
  refine g_aload_n hX dL_law_677 0 rfl ?_
  refine g_iload_n hX dL_law_678 3 rfl ?_
  refine g_iconst hX (nI 1) dL_law_679 rfl ?_
  refine g_iadd hX (nI (i + 1)) dL_law_680 (nI_add _ _) ?_
  refine g_sld hX hSX (i := i + 1) (nI k) (by omega) (by omega) e1 dL_law_681 ?_
  have hc682 : CUT ((lfo E ae ab ar an af ah ak ax ag z ++ (tw E ab 200 tx ++ (rw_ E ar R ++ (fw E an C ++ (fw E af D ++ (pw8 E ah V ++ (pw2 E ak U ++ (sw E ax S ++ (gw E ag G ++ (mw E a M))))))))))) ((lfo E ae ab ar an af ah ak ax ag z ++ (fw E an C ++ (sw E ax S)))) ((tw E ab 200 tx ++ (rw_ E ar R ++ (fw E af D ++ (pw8 E ah V ++ (pw2 E ak U ++ (gw E ag G ++ (mw E a M)))))))) [0, 4, 5, 6, 7, 8, 9, 10, 92, 93, 94] [1, 2, 3, 11, 12, 13, 14, 15, 16, 17, 18, 19, 20, 21, 22, 23, 24, 25, 26, 27, 28, 29, 30, 31, 32, 33, 34, 35, 36, 37, 38, 39, 40, 41, 42, 43, 44, 45, 46, 47, 48, 49, 50, 51, 52, 53, 54, 55, 56, 57, 58, 59, 60, 61, 62, 63, 64, 65, 66, 67, 68, 69, 70, 71, 72, 73, 74, 75, 76, 77, 78, 79, 80, 81, 82, 83, 84, 85, 86, 87, 88, 89, 90, 91, 95, 96, 97, 98, 99, 100, 101, 102, 103, 104, 105, 106, 107, 108, 109, 110] := ⟨rfl, rfl, rfl, rfl, rfl⟩
  refine g_VI hX hc682 [.int (nI k)] [] (c_X5_must_y l E ae ab ar an af ah ak ax ag z C S k (by first | assumption | omega) (by first | assumption | omega) (by first | assumption | omega) (by first | assumption | omega)) gL_law_X5_must calX5_must rfl rfl rfl rfl 0 rfl rfl rfl rfl dL_law_682 rfl ⟨hkk, hnn⟩ (fun _ => (lfo E ae ab ar an af ah ak ax ag z ++ (tw E ab 200 tx ++ (rw_ E ar R ++ (fw E an C ++ (fw E af D ++ (pw8 E ah V ++ (pw2 E ak U ++ (sw E ax S ++ (gw E ag G ++ (mw E a M))))))))))) [100, 0, 1, 2, 101, 102, 103, 104, 105, 106, 107, 3, 4, 5, 6, 7, 8, 9, 10, 11, 12, 13, 14, 15, 16, 17, 18, 19, 20, 21, 22, 23, 24, 25, 26, 27, 28, 29, 30, 31, 32, 33, 34, 35, 36, 37, 38, 39, 40, 41, 42, 43, 44, 45, 46, 47, 48, 49, 50, 51, 52, 53, 54, 55, 56, 57, 58, 59, 60, 61, 62, 63, 64, 65, 66, 67, 68, 69, 70, 71, 72, 73, 74, 75, 76, 77, 78, 79, 80, 81, 82, 83, 108, 109, 110, 84, 85, 86, 87, 88, 89, 90, 91, 92, 93, 94, 95, 96, 97, 98, 99] rfl (fun _ => rfl) (fun _ hu682 => ?_)
  refine g_aload_n hX dL_law_685 2 rfl ?_
  refine g_aload_n hX dL_law_686 0 rfl ?_
  refine g_iload_n hX dL_law_687 3 rfl ?_
  refine g_iconst hX (nI 1) dL_law_688 rfl ?_
  refine g_iadd hX (nI (i + 1)) dL_law_689 (nI_add _ _) ?_
  refine g_sld hX hSX (i := i + 1) (nI k) (by omega) (by omega) e1 dL_law_690 ?_
  have hc691 : CUT ((lfo E ae ab ar an af ah ak ax ag z ++ (tw E ab 200 tx ++ (rw_ E ar R ++ (fw E an C ++ (fw E af D ++ (pw8 E ah V ++ (pw2 E ak U ++ (sw E ax S ++ (gw E ag G ++ (mw E a M))))))))))) (mw E a M) ((lfo E ae ab ar an af ah ak ax ag z ++ (tw E ab 200 tx ++ (rw_ E ar R ++ (fw E an C ++ (fw E af D ++ (pw8 E ah V ++ (pw2 E ak U ++ (sw E ax S ++ (gw E ag G)))))))))) [98, 99, 100, 101, 102, 103, 104, 105, 106, 107, 108, 109, 110] [0, 1, 2, 3, 4, 5, 6, 7, 8, 9, 10, 11, 12, 13, 14, 15, 16, 17, 18, 19, 20, 21, 22, 23, 24, 25, 26, 27, 28, 29, 30, 31, 32, 33, 34, 35, 36, 37, 38, 39, 40, 41, 42, 43, 44, 45, 46, 47, 48, 49, 50, 51, 52, 53, 54, 55, 56, 57, 58, 59, 60, 61, 62, 63, 64, 65, 66, 67, 68, 69, 70, 71, 72, 73, 74, 75, 76, 77, 78, 79, 80, 81, 82, 83, 84, 85, 86, 87, 88, 89, 90, 91, 92, 93, 94, 95, 96, 97] := ⟨rfl, rfl, rfl, rfl, rfl⟩
  refine g_VI hX hc691 [.int (nI k)] [.int (mustX (asW C S ((hN S))) k)] (c_X6_must_y l E a M C (30 * t) S k (by first | assumption | omega) (by first | assumption | omega) (by first | assumption | omega) (by first | assumption | omega) (by first | assumption | omega) (by first | assumption | omega) (by first | assumption | omega)) gL_law_X6_must calX6_must rfl rfl rfl rfl 98 rfl rfl rfl rfl dL_law_691 rfl ⟨hkk, hnn⟩ (fun u691 => (lfo E ae ab ar an af ah ak ax ag z ++ (tw E ab 200 tx ++ (rw_ E ar R ++ (fw E an C ++ (fw E af D ++ (pw8 E ah V ++ (pw2 E ak U ++ (sw E ax S ++ (gw E ag G ++ (mw E a u691))))))))))) [0, 1, 2, 3, 4, 5, 6, 7, 8, 9, 10, 11, 12, 13, 14, 15, 16, 17, 18, 19, 20, 21, 22, 23, 24, 25, 26, 27, 28, 29, 30, 31, 32, 33, 34, 35, 36, 37, 38, 39, 40, 41, 42, 43, 44, 45, 46, 47, 48, 49, 50, 51, 52, 53, 54, 55, 56, 57, 58, 59, 60, 61, 62, 63, 64, 65, 66, 67, 68, 69, 70, 71, 72, 73, 74, 75, 76, 77, 78, 79, 80, 81, 82, 83, 84, 85, 86, 87, 88, 89, 90, 91, 92, 93, 94, 95, 96, 97, 98, 99, 100, 101, 102, 103, 104, 105, 106, 107, 108, 109, 110] rfl (fun _ => rfl) (fun u691 hu691 => ?_)
  refine g_icmp_eq hX 857 dL_law_694 (by decide) (fun _ => ?_) (fun c => (c (E_must hC hk)).elim)
  exact nx z tx R C D V U S G u691 (INV_KS hI hu691)
set_option maxHeartbeats 4000000 in
set_option maxRecDepth 100000 in
theorem lc_liars_n  (hc : LCX x l E b L xs kk nn t i) (hI : INV t z tx R C V U S M) (nx : NX x E ae ab ar an af ah ak ax ag a b kk nn t i) (hx : win (xs (i + 1)) (nI 0) (nI 1) = false) : GG x kk nn (LWM E ae ab ar an af ah ak ax ag a z tx R C D V U S G M) 699 [(0, .ref b), (1, .ref (ae 0)), (2, .ref (a 0)), (3, .int (nI i))] [] := by
  obtain ⟨hX, hSX, hkk, hnn, hit, hi5, hL3⟩ := hc
  obtain ⟨⟨hz, htx, hmX, hmL, hRq⟩, ⟨hN1, hD, hSr, hTm⟩, hE, ⟨hv1, hv2, hv3⟩, ⟨hu1, hu2, hu3⟩⟩ := id hI
  have hm : 30 * t < 2 ^ 29 := by omega
  have hC := hD.1.1
  obtain ⟨h9, h64, h512, hTq, hIq⟩ := id hC
  have hSK := hD.1.2
  have hV := DI_VB hD (by omega)
  have htx2 : ∀ j, tx j < 2 ^ 16 := fun j => by have := htx j; omega
  have hmX2 : ∀ j, mX M j < 128 := by rw [hmX]; exact htx
  have h6 : hN S ≤ 6 := hE.2.1
  have hs9 : ∀ j, j < hN S → hS S j < 9 := fun j hj => (hE.2.2 j hj).2.2
  show GG x kk nn ((lfo E ae ab ar an af ah ak ax ag z ++ (tw E ab 200 tx ++ (rw_ E ar R ++ (fw E an C ++ (fw E af D ++ (pw8 E ah V ++ (pw2 E ak U ++ (sw E ax S ++ (gw E ag G ++ (mw E a M))))))))))) 699 [(0, .ref b), (1, .ref (ae 0)), (2, .ref (a 0)), (3, .int (nI i))] []
  refine g_aload_n hX dL_law_699 1 rfl ?_
  refine g_aload_n hX dL_law_700 0 rfl ?_
  refine g_iload_n hX dL_law_701 3 rfl ?_
  refine g_iconst hX (nI 1) dL_law_702 rfl ?_
  refine g_iadd hX (nI (i + 1)) dL_law_703 (nI_add _ _) ?_
  refine g_sld hX hSX (i := i + 1) ((xs (i + 1))) (by omega) (by omega) rfl dL_law_704 ?_
  have hc705 : CUT ((lfo E ae ab ar an af ah ak ax ag z ++ (tw E ab 200 tx ++ (rw_ E ar R ++ (fw E an C ++ (fw E af D ++ (pw8 E ah V ++ (pw2 E ak U ++ (sw E ax S ++ (gw E ag G ++ (mw E a M))))))))))) (lfo E ae ab ar an af ah ak ax ag z) ((tw E ab 200 tx ++ (rw_ E ar R ++ (fw E an C ++ (fw E af D ++ (pw8 E ah V ++ (pw2 E ak U ++ (sw E ax S ++ (gw E ag G ++ (mw E a M)))))))))) [0] [1, 2, 3, 4, 5, 6, 7, 8, 9, 10, 11, 12, 13, 14, 15, 16, 17, 18, 19, 20, 21, 22, 23, 24, 25, 26, 27, 28, 29, 30, 31, 32, 33, 34, 35, 36, 37, 38, 39, 40, 41, 42, 43, 44, 45, 46, 47, 48, 49, 50, 51, 52, 53, 54, 55, 56, 57, 58, 59, 60, 61, 62, 63, 64, 65, 66, 67, 68, 69, 70, 71, 72, 73, 74, 75, 76, 77, 78, 79, 80, 81, 82, 83, 84, 85, 86, 87, 88, 89, 90, 91, 92, 93, 94, 95, 96, 97, 98, 99, 100, 101, 102, 103, 104, 105, 106, 107, 108, 109, 110] := ⟨rfl, rfl, rfl, rfl, rfl⟩
  refine g_VI hX hc705 [.int (xs (i + 1))] [] (c_X5_liars_n l E ae ab ar an af ah ak ax ag z (xs (i + 1)) (by first | assumption | omega)) gL_law_X5_liars calX5_liars rfl rfl rfl rfl 0 rfl rfl rfl rfl dL_law_705 rfl ⟨hkk, hnn⟩ (fun _ => (lfo E ae ab ar an af ah ak ax ag z ++ (tw E ab 200 tx ++ (rw_ E ar R ++ (fw E an C ++ (fw E af D ++ (pw8 E ah V ++ (pw2 E ak U ++ (sw E ax S ++ (gw E ag G ++ (mw E a M))))))))))) [110, 0, 1, 2, 3, 4, 5, 6, 7, 8, 9, 10, 11, 12, 13, 14, 15, 16, 17, 18, 19, 20, 21, 22, 23, 24, 25, 26, 27, 28, 29, 30, 31, 32, 33, 34, 35, 36, 37, 38, 39, 40, 41, 42, 43, 44, 45, 46, 47, 48, 49, 50, 51, 52, 53, 54, 55, 56, 57, 58, 59, 60, 61, 62, 63, 64, 65, 66, 67, 68, 69, 70, 71, 72, 73, 74, 75, 76, 77, 78, 79, 80, 81, 82, 83, 84, 85, 86, 87, 88, 89, 90, 91, 92, 93, 94, 95, 96, 97, 98, 99, 100, 101, 102, 103, 104, 105, 106, 107, 108, 109] rfl (fun _ => rfl) (fun _ hu705 => ?_)
  refine g_aload_n hX dL_law_708 2 rfl ?_
  refine g_aload_n hX dL_law_709 0 rfl ?_
  refine g_iload_n hX dL_law_710 3 rfl ?_
  refine g_iconst hX (nI 1) dL_law_711 rfl ?_
  refine g_iadd hX (nI (i + 1)) dL_law_712 (nI_add _ _) ?_
  refine g_sld hX hSX (i := i + 1) ((xs (i + 1))) (by omega) (by omega) rfl dL_law_713 ?_
  have hc714 : CUT ((lfo E ae ab ar an af ah ak ax ag z ++ (tw E ab 200 tx ++ (rw_ E ar R ++ (fw E an C ++ (fw E af D ++ (pw8 E ah V ++ (pw2 E ak U ++ (sw E ax S ++ (gw E ag G ++ (mw E a M))))))))))) (mw E a M) ((lfo E ae ab ar an af ah ak ax ag z ++ (tw E ab 200 tx ++ (rw_ E ar R ++ (fw E an C ++ (fw E af D ++ (pw8 E ah V ++ (pw2 E ak U ++ (sw E ax S ++ (gw E ag G)))))))))) [98, 99, 100, 101, 102, 103, 104, 105, 106, 107, 108, 109, 110] [0, 1, 2, 3, 4, 5, 6, 7, 8, 9, 10, 11, 12, 13, 14, 15, 16, 17, 18, 19, 20, 21, 22, 23, 24, 25, 26, 27, 28, 29, 30, 31, 32, 33, 34, 35, 36, 37, 38, 39, 40, 41, 42, 43, 44, 45, 46, 47, 48, 49, 50, 51, 52, 53, 54, 55, 56, 57, 58, 59, 60, 61, 62, 63, 64, 65, 66, 67, 68, 69, 70, 71, 72, 73, 74, 75, 76, 77, 78, 79, 80, 81, 82, 83, 84, 85, 86, 87, 88, 89, 90, 91, 92, 93, 94, 95, 96, 97] := ⟨rfl, rfl, rfl, rfl, rfl⟩
  refine g_VI hX hc714 [.int (xs (i + 1))] [.int (-1)] (c_X6_liars_n l E a M C (30 * t) (xs (i + 1)) (by first | assumption | omega) (by first | assumption | omega) (by first | assumption | omega) (by first | assumption | omega) (by first | assumption | omega) (by first | assumption | omega)) gL_law_X6_liars calX6_liars rfl rfl rfl rfl 98 rfl rfl rfl rfl dL_law_714 rfl ⟨hkk, hnn⟩ (fun u714 => (lfo E ae ab ar an af ah ak ax ag z ++ (tw E ab 200 tx ++ (rw_ E ar R ++ (fw E an C ++ (fw E af D ++ (pw8 E ah V ++ (pw2 E ak U ++ (sw E ax S ++ (gw E ag G ++ (mw E a u714))))))))))) [0, 1, 2, 3, 4, 5, 6, 7, 8, 9, 10, 11, 12, 13, 14, 15, 16, 17, 18, 19, 20, 21, 22, 23, 24, 25, 26, 27, 28, 29, 30, 31, 32, 33, 34, 35, 36, 37, 38, 39, 40, 41, 42, 43, 44, 45, 46, 47, 48, 49, 50, 51, 52, 53, 54, 55, 56, 57, 58, 59, 60, 61, 62, 63, 64, 65, 66, 67, 68, 69, 70, 71, 72, 73, 74, 75, 76, 77, 78, 79, 80, 81, 82, 83, 84, 85, 86, 87, 88, 89, 90, 91, 92, 93, 94, 95, 96, 97, 98, 99, 100, 101, 102, 103, 104, 105, 106, 107, 108, 109, 110] rfl (fun _ => rfl) (fun u714 hu714 => ?_)
  refine g_icmp_eq hX 857 dL_law_717 (by decide) (fun _ => ?_) (fun c => (c (rfl)).elim)
  exact nx z tx R C D V U S G u714 (INV_KS hI hu714)
set_option maxHeartbeats 4000000 in
set_option maxRecDepth 100000 in
theorem lc_liars_y (q : Nat) (hc : LCX x l E b L xs kk nn t i) (hI : INV t z tx R C V U S M) (nx : NX x E ae ab ar an af ah ak ax ag a b kk nn t i) (e1 : xs (i + 1) = nI q) (hq : q ≤ 1) : GG x kk nn (LWM E ae ab ar an af ah ak ax ag a z tx R C D V U S G M) 699 [(0, .ref b), (1, .ref (ae 0)), (2, .ref (a 0)), (3, .int (nI i))] [] := by
  obtain ⟨hX, hSX, hkk, hnn, hit, hi5, hL3⟩ := hc
  obtain ⟨⟨hz, htx, hmX, hmL, hRq⟩, ⟨hN1, hD, hSr, hTm⟩, hE, ⟨hv1, hv2, hv3⟩, ⟨hu1, hu2, hu3⟩⟩ := id hI
  have hm : 30 * t < 2 ^ 29 := by omega
  have hC := hD.1.1
  obtain ⟨h9, h64, h512, hTq, hIq⟩ := id hC
  have hSK := hD.1.2
  have hV := DI_VB hD (by omega)
  have htx2 : ∀ j, tx j < 2 ^ 16 := fun j => by have := htx j; omega
  have hmX2 : ∀ j, mX M j < 128 := by rw [hmX]; exact htx
  have h6 : hN S ≤ 6 := hE.2.1
  have hs9 : ∀ j, j < hN S → hS S j < 9 := fun j hj => (hE.2.2 j hj).2.2
  show GG x kk nn ((lfo E ae ab ar an af ah ak ax ag z ++ (tw E ab 200 tx ++ (rw_ E ar R ++ (fw E an C ++ (fw E af D ++ (pw8 E ah V ++ (pw2 E ak U ++ (sw E ax S ++ (gw E ag G ++ (mw E a M))))))))))) 699 [(0, .ref b), (1, .ref (ae 0)), (2, .ref (a 0)), (3, .int (nI i))] []
  refine g_aload_n hX dL_law_699 1 rfl ?_
  refine g_aload_n hX dL_law_700 0 rfl ?_
  refine g_iload_n hX dL_law_701 3 rfl ?_
  refine g_iconst hX (nI 1) dL_law_702 rfl ?_
  refine g_iadd hX (nI (i + 1)) dL_law_703 (nI_add _ _) ?_
  refine g_sld hX hSX (i := i + 1) (nI q) (by omega) (by omega) e1 dL_law_704 ?_
  have hc705 : CUT ((lfo E ae ab ar an af ah ak ax ag z ++ (tw E ab 200 tx ++ (rw_ E ar R ++ (fw E an C ++ (fw E af D ++ (pw8 E ah V ++ (pw2 E ak U ++ (sw E ax S ++ (gw E ag G ++ (mw E a M))))))))))) ((lfo E ae ab ar an af ah ak ax ag z ++ (fw E an C ++ (sw E ax S)))) ((tw E ab 200 tx ++ (rw_ E ar R ++ (fw E af D ++ (pw8 E ah V ++ (pw2 E ak U ++ (gw E ag G ++ (mw E a M)))))))) [0, 4, 5, 6, 7, 8, 9, 10, 92, 93, 94] [1, 2, 3, 11, 12, 13, 14, 15, 16, 17, 18, 19, 20, 21, 22, 23, 24, 25, 26, 27, 28, 29, 30, 31, 32, 33, 34, 35, 36, 37, 38, 39, 40, 41, 42, 43, 44, 45, 46, 47, 48, 49, 50, 51, 52, 53, 54, 55, 56, 57, 58, 59, 60, 61, 62, 63, 64, 65, 66, 67, 68, 69, 70, 71, 72, 73, 74, 75, 76, 77, 78, 79, 80, 81, 82, 83, 84, 85, 86, 87, 88, 89, 90, 91, 95, 96, 97, 98, 99, 100, 101, 102, 103, 104, 105, 106, 107, 108, 109, 110] := ⟨rfl, rfl, rfl, rfl, rfl⟩
  refine g_VI hX hc705 [.int (nI q)] [] (c_X5_liars_y l E ae ab ar an af ah ak ax ag z C S q (by first | assumption | omega) (by first | assumption | omega) (by first | assumption | omega) (by first | assumption | omega)) gL_law_X5_liars calX5_liars rfl rfl rfl rfl 0 rfl rfl rfl rfl dL_law_705 rfl ⟨hkk, hnn⟩ (fun _ => (lfo E ae ab ar an af ah ak ax ag z ++ (tw E ab 200 tx ++ (rw_ E ar R ++ (fw E an C ++ (fw E af D ++ (pw8 E ah V ++ (pw2 E ak U ++ (sw E ax S ++ (gw E ag G ++ (mw E a M))))))))))) [100, 0, 1, 2, 101, 102, 103, 104, 105, 106, 107, 3, 4, 5, 6, 7, 8, 9, 10, 11, 12, 13, 14, 15, 16, 17, 18, 19, 20, 21, 22, 23, 24, 25, 26, 27, 28, 29, 30, 31, 32, 33, 34, 35, 36, 37, 38, 39, 40, 41, 42, 43, 44, 45, 46, 47, 48, 49, 50, 51, 52, 53, 54, 55, 56, 57, 58, 59, 60, 61, 62, 63, 64, 65, 66, 67, 68, 69, 70, 71, 72, 73, 74, 75, 76, 77, 78, 79, 80, 81, 82, 83, 108, 109, 110, 84, 85, 86, 87, 88, 89, 90, 91, 92, 93, 94, 95, 96, 97, 98, 99] rfl (fun _ => rfl) (fun _ hu705 => ?_)
  refine g_aload_n hX dL_law_708 2 rfl ?_
  refine g_aload_n hX dL_law_709 0 rfl ?_
  refine g_iload_n hX dL_law_710 3 rfl ?_
  refine g_iconst hX (nI 1) dL_law_711 rfl ?_
  refine g_iadd hX (nI (i + 1)) dL_law_712 (nI_add _ _) ?_
  refine g_sld hX hSX (i := i + 1) (nI q) (by omega) (by omega) e1 dL_law_713 ?_
  have hc714 : CUT ((lfo E ae ab ar an af ah ak ax ag z ++ (tw E ab 200 tx ++ (rw_ E ar R ++ (fw E an C ++ (fw E af D ++ (pw8 E ah V ++ (pw2 E ak U ++ (sw E ax S ++ (gw E ag G ++ (mw E a M))))))))))) (mw E a M) ((lfo E ae ab ar an af ah ak ax ag z ++ (tw E ab 200 tx ++ (rw_ E ar R ++ (fw E an C ++ (fw E af D ++ (pw8 E ah V ++ (pw2 E ak U ++ (sw E ax S ++ (gw E ag G)))))))))) [98, 99, 100, 101, 102, 103, 104, 105, 106, 107, 108, 109, 110] [0, 1, 2, 3, 4, 5, 6, 7, 8, 9, 10, 11, 12, 13, 14, 15, 16, 17, 18, 19, 20, 21, 22, 23, 24, 25, 26, 27, 28, 29, 30, 31, 32, 33, 34, 35, 36, 37, 38, 39, 40, 41, 42, 43, 44, 45, 46, 47, 48, 49, 50, 51, 52, 53, 54, 55, 56, 57, 58, 59, 60, 61, 62, 63, 64, 65, 66, 67, 68, 69, 70, 71, 72, 73, 74, 75, 76, 77, 78, 79, 80, 81, 82, 83, 84, 85, 86, 87, 88, 89, 90, 91, 92, 93, 94, 95, 96, 97] := ⟨rfl, rfl, rfl, rfl, rfl⟩
  refine g_VI hX hc714 [.int (nI q)] [.int (if (lxX C (asW C S ((hN S))) 64).2 = none then -4 else if q = 0 then nI (lxX C (asW C S ((hN S))) 64).1 else oI (lxX C (asW C S ((hN S))) 64).2)] (c_X6_liars_y l E a M C (30 * t) S q (by first | assumption | omega) (by first | assumption | omega) (by first | assumption | omega) (by first | assumption | omega) (by first | assumption | omega) (by first | assumption | omega) (by first | assumption | omega)) gL_law_X6_liars calX6_liars rfl rfl rfl rfl 98 rfl rfl rfl rfl dL_law_714 rfl ⟨hkk, hnn⟩ (fun u714 => (lfo E ae ab ar an af ah ak ax ag z ++ (tw E ab 200 tx ++ (rw_ E ar R ++ (fw E an C ++ (fw E af D ++ (pw8 E ah V ++ (pw2 E ak U ++ (sw E ax S ++ (gw E ag G ++ (mw E a u714))))))))))) [0, 1, 2, 3, 4, 5, 6, 7, 8, 9, 10, 11, 12, 13, 14, 15, 16, 17, 18, 19, 20, 21, 22, 23, 24, 25, 26, 27, 28, 29, 30, 31, 32, 33, 34, 35, 36, 37, 38, 39, 40, 41, 42, 43, 44, 45, 46, 47, 48, 49, 50, 51, 52, 53, 54, 55, 56, 57, 58, 59, 60, 61, 62, 63, 64, 65, 66, 67, 68, 69, 70, 71, 72, 73, 74, 75, 76, 77, 78, 79, 80, 81, 82, 83, 84, 85, 86, 87, 88, 89, 90, 91, 92, 93, 94, 95, 96, 97, 98, 99, 100, 101, 102, 103, 104, 105, 106, 107, 108, 109, 110] rfl (fun _ => rfl) (fun u714 hu714 => ?_)
  refine g_icmp_eq hX 857 dL_law_717 (by decide) (fun _ => ?_) (fun c => (c (E_liars hC q)).elim)
  exact nx z tx R C D V U S G u714 (INV_KS hI hu714)
set_option maxHeartbeats 4000000 in
set_option maxRecDepth 100000 in
theorem lc_chance_n  (hc : LCX x l E b L xs kk nn t i) (hI : INV t z tx R C V U S M) (nx : NX x E ae ab ar an af ah ak ax ag a b kk nn t i) (hx : (win (xs (i + 1)) (nI 0) (nI 9) && win (xs (i + 2)) (nI 0) (nI 10) && win (xs (i + 3)) (nI 0) (nI 1)) = false) : GG x kk nn (LWM E ae ab ar an af ah ak ax ag a z tx R C D V U S G M) 722 [(0, .ref b), (1, .ref (ae 0)), (2, .ref (a 0)), (3, .int (nI i))] [] := by
  obtain ⟨hX, hSX, hkk, hnn, hit, hi5, hL3⟩ := hc
  obtain ⟨⟨hz, htx, hmX, hmL, hRq⟩, ⟨hN1, hD, hSr, hTm⟩, hE, ⟨hv1, hv2, hv3⟩, ⟨hu1, hu2, hu3⟩⟩ := id hI
  have hm : 30 * t < 2 ^ 29 := by omega
  have hC := hD.1.1
  obtain ⟨h9, h64, h512, hTq, hIq⟩ := id hC
  have hSK := hD.1.2
  have hV := DI_VB hD (by omega)
  have htx2 : ∀ j, tx j < 2 ^ 16 := fun j => by have := htx j; omega
  have hmX2 : ∀ j, mX M j < 128 := by rw [hmX]; exact htx
  have h6 : hN S ≤ 6 := hE.2.1
  have hs9 : ∀ j, j < hN S → hS S j < 9 := fun j hj => (hE.2.2 j hj).2.2
  show GG x kk nn ((lfo E ae ab ar an af ah ak ax ag z ++ (tw E ab 200 tx ++ (rw_ E ar R ++ (fw E an C ++ (fw E af D ++ (pw8 E ah V ++ (pw2 E ak U ++ (sw E ax S ++ (gw E ag G ++ (mw E a M))))))))))) 722 [(0, .ref b), (1, .ref (ae 0)), (2, .ref (a 0)), (3, .int (nI i))] []
  refine g_aload_n hX dL_law_722 1 rfl ?_
  refine g_aload_n hX dL_law_723 0 rfl ?_
  refine g_iload_n hX dL_law_724 3 rfl ?_
  refine g_iconst hX (nI 1) dL_law_725 rfl ?_
  refine g_iadd hX (nI (i + 1)) dL_law_726 (nI_add _ _) ?_
  refine g_sld hX hSX (i := i + 1) ((xs (i + 1))) (by omega) (by omega) rfl dL_law_727 ?_
  refine g_aload_n hX dL_law_728 0 rfl ?_
  refine g_iload_n hX dL_law_729 3 rfl ?_
  refine g_iconst hX (nI 2) dL_law_730 rfl ?_
  refine g_iadd hX (nI (i + 2)) dL_law_731 (nI_add _ _) ?_
  refine g_sld hX hSX (i := i + 2) ((xs (i + 2))) (by omega) (by omega) rfl dL_law_732 ?_
  refine g_aload_n hX dL_law_733 0 rfl ?_
  refine g_iload_n hX dL_law_734 3 rfl ?_
  refine g_iconst hX (nI 3) dL_law_735 rfl ?_
  refine g_iadd hX (nI (i + 3)) dL_law_736 (nI_add _ _) ?_
  refine g_sld hX hSX (i := i + 3) ((xs (i + 3))) (by omega) (by omega) rfl dL_law_737 ?_
  have hc738 : CUT ((lfo E ae ab ar an af ah ak ax ag z ++ (tw E ab 200 tx ++ (rw_ E ar R ++ (fw E an C ++ (fw E af D ++ (pw8 E ah V ++ (pw2 E ak U ++ (sw E ax S ++ (gw E ag G ++ (mw E a M))))))))))) (lfo E ae ab ar an af ah ak ax ag z) ((tw E ab 200 tx ++ (rw_ E ar R ++ (fw E an C ++ (fw E af D ++ (pw8 E ah V ++ (pw2 E ak U ++ (sw E ax S ++ (gw E ag G ++ (mw E a M)))))))))) [0] [1, 2, 3, 4, 5, 6, 7, 8, 9, 10, 11, 12, 13, 14, 15, 16, 17, 18, 19, 20, 21, 22, 23, 24, 25, 26, 27, 28, 29, 30, 31, 32, 33, 34, 35, 36, 37, 38, 39, 40, 41, 42, 43, 44, 45, 46, 47, 48, 49, 50, 51, 52, 53, 54, 55, 56, 57, 58, 59, 60, 61, 62, 63, 64, 65, 66, 67, 68, 69, 70, 71, 72, 73, 74, 75, 76, 77, 78, 79, 80, 81, 82, 83, 84, 85, 86, 87, 88, 89, 90, 91, 92, 93, 94, 95, 96, 97, 98, 99, 100, 101, 102, 103, 104, 105, 106, 107, 108, 109, 110] := ⟨rfl, rfl, rfl, rfl, rfl⟩
  refine g_VI hX hc738 [.int (xs (i + 1)), .int (xs (i + 2)), .int (xs (i + 3))] [] (c_X5_chance_n l E ae ab ar an af ah ak ax ag z (xs (i + 1)) (xs (i + 2)) (xs (i + 3)) (by first | assumption | omega)) gL_law_X5_chance calX5_chance rfl rfl rfl rfl 0 rfl rfl rfl rfl dL_law_738 rfl ⟨hkk, hnn⟩ (fun _ => (lfo E ae ab ar an af ah ak ax ag z ++ (tw E ab 200 tx ++ (rw_ E ar R ++ (fw E an C ++ (fw E af D ++ (pw8 E ah V ++ (pw2 E ak U ++ (sw E ax S ++ (gw E ag G ++ (mw E a M))))))))))) [110, 0, 1, 2, 3, 4, 5, 6, 7, 8, 9, 10, 11, 12, 13, 14, 15, 16, 17, 18, 19, 20, 21, 22, 23, 24, 25, 26, 27, 28, 29, 30, 31, 32, 33, 34, 35, 36, 37, 38, 39, 40, 41, 42, 43, 44, 45, 46, 47, 48, 49, 50, 51, 52, 53, 54, 55, 56, 57, 58, 59, 60, 61, 62, 63, 64, 65, 66, 67, 68, 69, 70, 71, 72, 73, 74, 75, 76, 77, 78, 79, 80, 81, 82, 83, 84, 85, 86, 87, 88, 89, 90, 91, 92, 93, 94, 95, 96, 97, 98, 99, 100, 101, 102, 103, 104, 105, 106, 107, 108, 109] rfl (fun _ => rfl) (fun _ hu738 => ?_)
  refine g_aload_n hX dL_law_741 2 rfl ?_
  refine g_aload_n hX dL_law_742 0 rfl ?_
  refine g_iload_n hX dL_law_743 3 rfl ?_
  refine g_iconst hX (nI 1) dL_law_744 rfl ?_
  refine g_iadd hX (nI (i + 1)) dL_law_745 (nI_add _ _) ?_
  refine g_sld hX hSX (i := i + 1) ((xs (i + 1))) (by omega) (by omega) rfl dL_law_746 ?_
  refine g_aload_n hX dL_law_747 0 rfl ?_
  refine g_iload_n hX dL_law_748 3 rfl ?_
  refine g_iconst hX (nI 2) dL_law_749 rfl ?_
  refine g_iadd hX (nI (i + 2)) dL_law_750 (nI_add _ _) ?_
  refine g_sld hX hSX (i := i + 2) ((xs (i + 2))) (by omega) (by omega) rfl dL_law_751 ?_
  refine g_aload_n hX dL_law_752 0 rfl ?_
  refine g_iload_n hX dL_law_753 3 rfl ?_
  refine g_iconst hX (nI 3) dL_law_754 rfl ?_
  refine g_iadd hX (nI (i + 3)) dL_law_755 (nI_add _ _) ?_
  refine g_sld hX hSX (i := i + 3) ((xs (i + 3))) (by omega) (by omega) rfl dL_law_756 ?_
  have hc757 : CUT ((lfo E ae ab ar an af ah ak ax ag z ++ (tw E ab 200 tx ++ (rw_ E ar R ++ (fw E an C ++ (fw E af D ++ (pw8 E ah V ++ (pw2 E ak U ++ (sw E ax S ++ (gw E ag G ++ (mw E a M))))))))))) (mw E a M) ((lfo E ae ab ar an af ah ak ax ag z ++ (tw E ab 200 tx ++ (rw_ E ar R ++ (fw E an C ++ (fw E af D ++ (pw8 E ah V ++ (pw2 E ak U ++ (sw E ax S ++ (gw E ag G)))))))))) [98, 99, 100, 101, 102, 103, 104, 105, 106, 107, 108, 109, 110] [0, 1, 2, 3, 4, 5, 6, 7, 8, 9, 10, 11, 12, 13, 14, 15, 16, 17, 18, 19, 20, 21, 22, 23, 24, 25, 26, 27, 28, 29, 30, 31, 32, 33, 34, 35, 36, 37, 38, 39, 40, 41, 42, 43, 44, 45, 46, 47, 48, 49, 50, 51, 52, 53, 54, 55, 56, 57, 58, 59, 60, 61, 62, 63, 64, 65, 66, 67, 68, 69, 70, 71, 72, 73, 74, 75, 76, 77, 78, 79, 80, 81, 82, 83, 84, 85, 86, 87, 88, 89, 90, 91, 92, 93, 94, 95, 96, 97] := ⟨rfl, rfl, rfl, rfl, rfl⟩
  refine g_VI hX hc757 [.int (xs (i + 1)), .int (xs (i + 2)), .int (xs (i + 3))] [.int (-1)] (c_X6_chance_n l E a M C (30 * t) (xs (i + 1)) (xs (i + 2)) (xs (i + 3)) (by first | assumption | omega) (by first | assumption | omega) (by first | assumption | omega) (by first | assumption | omega) (by first | assumption | omega) (by first | assumption | omega)) gL_law_X6_chance calX6_chance rfl rfl rfl rfl 98 rfl rfl rfl rfl dL_law_757 rfl ⟨hkk, hnn⟩ (fun u757 => (lfo E ae ab ar an af ah ak ax ag z ++ (tw E ab 200 tx ++ (rw_ E ar R ++ (fw E an C ++ (fw E af D ++ (pw8 E ah V ++ (pw2 E ak U ++ (sw E ax S ++ (gw E ag G ++ (mw E a u757))))))))))) [0, 1, 2, 3, 4, 5, 6, 7, 8, 9, 10, 11, 12, 13, 14, 15, 16, 17, 18, 19, 20, 21, 22, 23, 24, 25, 26, 27, 28, 29, 30, 31, 32, 33, 34, 35, 36, 37, 38, 39, 40, 41, 42, 43, 44, 45, 46, 47, 48, 49, 50, 51, 52, 53, 54, 55, 56, 57, 58, 59, 60, 61, 62, 63, 64, 65, 66, 67, 68, 69, 70, 71, 72, 73, 74, 75, 76, 77, 78, 79, 80, 81, 82, 83, 84, 85, 86, 87, 88, 89, 90, 91, 92, 93, 94, 95, 96, 97, 98, 99, 100, 101, 102, 103, 104, 105, 106, 107, 108, 109, 110] rfl (fun _ => rfl) (fun u757 hu757 => ?_)
  refine g_icmp_eq hX 857 dL_law_760 (by decide) (fun _ => ?_) (fun c => (c (rfl)).elim)
  exact nx z tx R C D V U S G u757 (INV_KS hI hu757)
set_option maxHeartbeats 4000000 in
set_option maxRecDepth 100000 in
theorem lc_chance_y (k : Nat) (w : Nat) (p : Nat) (hc : LCX x l E b L xs kk nn t i) (hI : INV t z tx R C V U S M) (nx : NX x E ae ab ar an af ah ak ax ag a b kk nn t i) (e1 : xs (i + 1) = nI k) (e2 : xs (i + 2) = nI w) (e3 : xs (i + 3) = nI p) (hk : k ≤ 9) (hxx : w ≤ 10) (hp : p ≤ 1) : GG x kk nn (LWM E ae ab ar an af ah ak ax ag a z tx R C D V U S G M) 722 [(0, .ref b), (1, .ref (ae 0)), (2, .ref (a 0)), (3, .int (nI i))] [] := by
  obtain ⟨hX, hSX, hkk, hnn, hit, hi5, hL3⟩ := hc
  obtain ⟨⟨hz, htx, hmX, hmL, hRq⟩, ⟨hN1, hD, hSr, hTm⟩, hE, ⟨hv1, hv2, hv3⟩, ⟨hu1, hu2, hu3⟩⟩ := id hI
  have hm : 30 * t < 2 ^ 29 := by omega
  have hC := hD.1.1
  obtain ⟨h9, h64, h512, hTq, hIq⟩ := id hC
  have hSK := hD.1.2
  have hV := DI_VB hD (by omega)
  have htx2 : ∀ j, tx j < 2 ^ 16 := fun j => by have := htx j; omega
  have hmX2 : ∀ j, mX M j < 128 := by rw [hmX]; exact htx
  have h6 : hN S ≤ 6 := hE.2.1
  have hs9 : ∀ j, j < hN S → hS S j < 9 := fun j hj => (hE.2.2 j hj).2.2
  show GG x kk nn ((lfo E ae ab ar an af ah ak ax ag z ++ (tw E ab 200 tx ++ (rw_ E ar R ++ (fw E an C ++ (fw E af D ++ (pw8 E ah V ++ (pw2 E ak U ++ (sw E ax S ++ (gw E ag G ++ (mw E a M))))))))))) 722 [(0, .ref b), (1, .ref (ae 0)), (2, .ref (a 0)), (3, .int (nI i))] []
  refine g_aload_n hX dL_law_722 1 rfl ?_
  refine g_aload_n hX dL_law_723 0 rfl ?_
  refine g_iload_n hX dL_law_724 3 rfl ?_
  refine g_iconst hX (nI 1) dL_law_725 rfl ?_
  refine g_iadd hX (nI (i + 1)) dL_law_726 (nI_add _ _) ?_
  refine g_sld hX hSX (i := i + 1) (nI k) (by omega) (by omega) e1 dL_law_727 ?_
  refine g_aload_n hX dL_law_728 0 rfl ?_
  refine g_iload_n hX dL_law_729 3 rfl ?_
  refine g_iconst hX (nI 2) dL_law_730 rfl ?_
  refine g_iadd hX (nI (i + 2)) dL_law_731 (nI_add _ _) ?_
  refine g_sld hX hSX (i := i + 2) (nI w) (by omega) (by omega) e2 dL_law_732 ?_
  refine g_aload_n hX dL_law_733 0 rfl ?_
  refine g_iload_n hX dL_law_734 3 rfl ?_
  refine g_iconst hX (nI 3) dL_law_735 rfl ?_
  refine g_iadd hX (nI (i + 3)) dL_law_736 (nI_add _ _) ?_
  refine g_sld hX hSX (i := i + 3) (nI p) (by omega) (by omega) e3 dL_law_737 ?_
  have hc738 : CUT ((lfo E ae ab ar an af ah ak ax ag z ++ (tw E ab 200 tx ++ (rw_ E ar R ++ (fw E an C ++ (fw E af D ++ (pw8 E ah V ++ (pw2 E ak U ++ (sw E ax S ++ (gw E ag G ++ (mw E a M))))))))))) ((lfo E ae ab ar an af ah ak ax ag z) ++ (fw E an C)) ((tw E ab 200 tx ++ (rw_ E ar R ++ (fw E af D ++ (pw8 E ah V ++ (pw2 E ak U ++ (sw E ax S ++ (gw E ag G ++ (mw E a M))))))))) [0, 4, 5, 6, 7, 8, 9, 10] [1, 2, 3, 11, 12, 13, 14, 15, 16, 17, 18, 19, 20, 21, 22, 23, 24, 25, 26, 27, 28, 29, 30, 31, 32, 33, 34, 35, 36, 37, 38, 39, 40, 41, 42, 43, 44, 45, 46, 47, 48, 49, 50, 51, 52, 53, 54, 55, 56, 57, 58, 59, 60, 61, 62, 63, 64, 65, 66, 67, 68, 69, 70, 71, 72, 73, 74, 75, 76, 77, 78, 79, 80, 81, 82, 83, 84, 85, 86, 87, 88, 89, 90, 91, 92, 93, 94, 95, 96, 97, 98, 99, 100, 101, 102, 103, 104, 105, 106, 107, 108, 109, 110] := ⟨rfl, rfl, rfl, rfl, rfl⟩
  refine g_VI hX hc738 [.int (nI k), .int (nI w), .int (nI p)] [] (c_X5_chance_y l E ae ab ar an af ah ak ax ag z C k w p (by first | assumption | omega) (by first | assumption | omega) (by first | assumption | omega) (by first | assumption | omega)) gL_law_X5_chance calX5_chance rfl rfl rfl rfl 0 rfl rfl rfl rfl dL_law_738 rfl ⟨hkk, hnn⟩ (fun _ => (lfo E ae ab ar an af ah ak ax ag z ++ (tw E ab 200 tx ++ (rw_ E ar R ++ (fw E an C ++ (fw E af D ++ (pw8 E ah V ++ (pw2 E ak U ++ (sw E ax S ++ (gw E ag G ++ (mw E a M))))))))))) [103, 0, 1, 2, 104, 105, 106, 107, 108, 109, 110, 3, 4, 5, 6, 7, 8, 9, 10, 11, 12, 13, 14, 15, 16, 17, 18, 19, 20, 21, 22, 23, 24, 25, 26, 27, 28, 29, 30, 31, 32, 33, 34, 35, 36, 37, 38, 39, 40, 41, 42, 43, 44, 45, 46, 47, 48, 49, 50, 51, 52, 53, 54, 55, 56, 57, 58, 59, 60, 61, 62, 63, 64, 65, 66, 67, 68, 69, 70, 71, 72, 73, 74, 75, 76, 77, 78, 79, 80, 81, 82, 83, 84, 85, 86, 87, 88, 89, 90, 91, 92, 93, 94, 95, 96, 97, 98, 99, 100, 101, 102] rfl (fun _ => rfl) (fun _ hu738 => ?_)
  refine g_aload_n hX dL_law_741 2 rfl ?_
  refine g_aload_n hX dL_law_742 0 rfl ?_
  refine g_iload_n hX dL_law_743 3 rfl ?_
  refine g_iconst hX (nI 1) dL_law_744 rfl ?_
  refine g_iadd hX (nI (i + 1)) dL_law_745 (nI_add _ _) ?_
  refine g_sld hX hSX (i := i + 1) (nI k) (by omega) (by omega) e1 dL_law_746 ?_
  refine g_aload_n hX dL_law_747 0 rfl ?_
  refine g_iload_n hX dL_law_748 3 rfl ?_
  refine g_iconst hX (nI 2) dL_law_749 rfl ?_
  refine g_iadd hX (nI (i + 2)) dL_law_750 (nI_add _ _) ?_
  refine g_sld hX hSX (i := i + 2) (nI w) (by omega) (by omega) e2 dL_law_751 ?_
  refine g_aload_n hX dL_law_752 0 rfl ?_
  refine g_iload_n hX dL_law_753 3 rfl ?_
  refine g_iconst hX (nI 3) dL_law_754 rfl ?_
  refine g_iadd hX (nI (i + 3)) dL_law_755 (nI_add _ _) ?_
  refine g_sld hX hSX (i := i + 3) (nI p) (by omega) (by omega) e3 dL_law_756 ?_
  have hc757 : CUT ((lfo E ae ab ar an af ah ak ax ag z ++ (tw E ab 200 tx ++ (rw_ E ar R ++ (fw E an C ++ (fw E af D ++ (pw8 E ah V ++ (pw2 E ak U ++ (sw E ax S ++ (gw E ag G ++ (mw E a M))))))))))) (mw E a M) ((lfo E ae ab ar an af ah ak ax ag z ++ (tw E ab 200 tx ++ (rw_ E ar R ++ (fw E an C ++ (fw E af D ++ (pw8 E ah V ++ (pw2 E ak U ++ (sw E ax S ++ (gw E ag G)))))))))) [98, 99, 100, 101, 102, 103, 104, 105, 106, 107, 108, 109, 110] [0, 1, 2, 3, 4, 5, 6, 7, 8, 9, 10, 11, 12, 13, 14, 15, 16, 17, 18, 19, 20, 21, 22, 23, 24, 25, 26, 27, 28, 29, 30, 31, 32, 33, 34, 35, 36, 37, 38, 39, 40, 41, 42, 43, 44, 45, 46, 47, 48, 49, 50, 51, 52, 53, 54, 55, 56, 57, 58, 59, 60, 61, 62, 63, 64, 65, 66, 67, 68, 69, 70, 71, 72, 73, 74, 75, 76, 77, 78, 79, 80, 81, 82, 83, 84, 85, 86, 87, 88, 89, 90, 91, 92, 93, 94, 95, 96, 97] := ⟨rfl, rfl, rfl, rfl, rfl⟩
  refine g_VI hX hc757 [.int (nI k), .int (nI w), .int (nI p)] [.int (nI (chaV C k w p))] (c_X6_chance_y l E a M C (30 * t) k w p (by first | assumption | omega) (by first | assumption | omega) (by first | assumption | omega) (by first | assumption | omega) (by first | assumption | omega) (by first | assumption | omega) (by first | assumption | omega) (by first | assumption | omega)) gL_law_X6_chance calX6_chance rfl rfl rfl rfl 98 rfl rfl rfl rfl dL_law_757 rfl ⟨hkk, hnn⟩ (fun u757 => (lfo E ae ab ar an af ah ak ax ag z ++ (tw E ab 200 tx ++ (rw_ E ar R ++ (fw E an C ++ (fw E af D ++ (pw8 E ah V ++ (pw2 E ak U ++ (sw E ax S ++ (gw E ag G ++ (mw E a u757))))))))))) [0, 1, 2, 3, 4, 5, 6, 7, 8, 9, 10, 11, 12, 13, 14, 15, 16, 17, 18, 19, 20, 21, 22, 23, 24, 25, 26, 27, 28, 29, 30, 31, 32, 33, 34, 35, 36, 37, 38, 39, 40, 41, 42, 43, 44, 45, 46, 47, 48, 49, 50, 51, 52, 53, 54, 55, 56, 57, 58, 59, 60, 61, 62, 63, 64, 65, 66, 67, 68, 69, 70, 71, 72, 73, 74, 75, 76, 77, 78, 79, 80, 81, 82, 83, 84, 85, 86, 87, 88, 89, 90, 91, 92, 93, 94, 95, 96, 97, 98, 99, 100, 101, 102, 103, 104, 105, 106, 107, 108, 109, 110] rfl (fun _ => rfl) (fun u757 hu757 => ?_)
  refine g_icmp_eq hX 857 dL_law_760 (by decide) (fun _ => ?_) (fun c => (c (rfl)).elim)
  exact nx z tx R C D V U S G u757 (INV_KS hI hu757)
set_option maxHeartbeats 4000000 in
set_option maxRecDepth 100000 in
theorem lc_year_n  (hc : LCX x l E b L xs kk nn t i) (hI : INV t z tx R C V U S M) (nx : NX x E ae ab ar an af ah ak ax ag a b kk nn t i) (hx : (win (xs (i + 1)) (nI 0) (nI 9999) && win (xs (i + 2)) (nI 1) (nI 60) && win (xs (i + 3)) (nI 0) (nI 1)) = false) : GG x kk nn (LWM E ae ab ar an af ah ak ax ag a z tx R C D V U S G M) 765 [(0, .ref b), (1, .ref (ae 0)), (2, .ref (a 0)), (3, .int (nI i))] [] := by
  obtain ⟨hX, hSX, hkk, hnn, hit, hi5, hL3⟩ := hc
  obtain ⟨⟨hz, htx, hmX, hmL, hRq⟩, ⟨hN1, hD, hSr, hTm⟩, hE, ⟨hv1, hv2, hv3⟩, ⟨hu1, hu2, hu3⟩⟩ := id hI
  have hm : 30 * t < 2 ^ 29 := by omega
  have hC := hD.1.1
  obtain ⟨h9, h64, h512, hTq, hIq⟩ := id hC
  have hSK := hD.1.2
  have hV := DI_VB hD (by omega)
  have htx2 : ∀ j, tx j < 2 ^ 16 := fun j => by have := htx j; omega
  have hmX2 : ∀ j, mX M j < 128 := by rw [hmX]; exact htx
  have h6 : hN S ≤ 6 := hE.2.1
  have hs9 : ∀ j, j < hN S → hS S j < 9 := fun j hj => (hE.2.2 j hj).2.2
  show GG x kk nn ((lfo E ae ab ar an af ah ak ax ag z ++ (tw E ab 200 tx ++ (rw_ E ar R ++ (fw E an C ++ (fw E af D ++ (pw8 E ah V ++ (pw2 E ak U ++ (sw E ax S ++ (gw E ag G ++ (mw E a M))))))))))) 765 [(0, .ref b), (1, .ref (ae 0)), (2, .ref (a 0)), (3, .int (nI i))] []
  refine g_aload_n hX dL_law_765 1 rfl ?_
  refine g_aload_n hX dL_law_766 0 rfl ?_
  refine g_iload_n hX dL_law_767 3 rfl ?_
  refine g_iconst hX (nI 1) dL_law_768 rfl ?_
  refine g_iadd hX (nI (i + 1)) dL_law_769 (nI_add _ _) ?_
  refine g_sld hX hSX (i := i + 1) ((xs (i + 1))) (by omega) (by omega) rfl dL_law_770 ?_
  refine g_aload_n hX dL_law_771 0 rfl ?_
  refine g_iload_n hX dL_law_772 3 rfl ?_
  refine g_iconst hX (nI 2) dL_law_773 rfl ?_
  refine g_iadd hX (nI (i + 2)) dL_law_774 (nI_add _ _) ?_
  refine g_sld hX hSX (i := i + 2) ((xs (i + 2))) (by omega) (by omega) rfl dL_law_775 ?_
  refine g_aload_n hX dL_law_776 0 rfl ?_
  refine g_iload_n hX dL_law_777 3 rfl ?_
  refine g_iconst hX (nI 3) dL_law_778 rfl ?_
  refine g_iadd hX (nI (i + 3)) dL_law_779 (nI_add _ _) ?_
  refine g_sld hX hSX (i := i + 3) ((xs (i + 3))) (by omega) (by omega) rfl dL_law_780 ?_
  have hc781 : CUT ((lfo E ae ab ar an af ah ak ax ag z ++ (tw E ab 200 tx ++ (rw_ E ar R ++ (fw E an C ++ (fw E af D ++ (pw8 E ah V ++ (pw2 E ak U ++ (sw E ax S ++ (gw E ag G ++ (mw E a M))))))))))) (lfo E ae ab ar an af ah ak ax ag z) ((tw E ab 200 tx ++ (rw_ E ar R ++ (fw E an C ++ (fw E af D ++ (pw8 E ah V ++ (pw2 E ak U ++ (sw E ax S ++ (gw E ag G ++ (mw E a M)))))))))) [0] [1, 2, 3, 4, 5, 6, 7, 8, 9, 10, 11, 12, 13, 14, 15, 16, 17, 18, 19, 20, 21, 22, 23, 24, 25, 26, 27, 28, 29, 30, 31, 32, 33, 34, 35, 36, 37, 38, 39, 40, 41, 42, 43, 44, 45, 46, 47, 48, 49, 50, 51, 52, 53, 54, 55, 56, 57, 58, 59, 60, 61, 62, 63, 64, 65, 66, 67, 68, 69, 70, 71, 72, 73, 74, 75, 76, 77, 78, 79, 80, 81, 82, 83, 84, 85, 86, 87, 88, 89, 90, 91, 92, 93, 94, 95, 96, 97, 98, 99, 100, 101, 102, 103, 104, 105, 106, 107, 108, 109, 110] := ⟨rfl, rfl, rfl, rfl, rfl⟩
  refine g_VI hX hc781 [.int (xs (i + 1)), .int (xs (i + 2)), .int (xs (i + 3))] [] (c_X5_year_n l E ae ab ar an af ah ak ax ag z (xs (i + 1)) (xs (i + 2)) (xs (i + 3)) (by first | assumption | omega)) gL_law_X5_year calX5_year rfl rfl rfl rfl 0 rfl rfl rfl rfl dL_law_781 rfl ⟨hkk, hnn⟩ (fun _ => (lfo E ae ab ar an af ah ak ax ag z ++ (tw E ab 200 tx ++ (rw_ E ar R ++ (fw E an C ++ (fw E af D ++ (pw8 E ah V ++ (pw2 E ak U ++ (sw E ax S ++ (gw E ag G ++ (mw E a M))))))))))) [110, 0, 1, 2, 3, 4, 5, 6, 7, 8, 9, 10, 11, 12, 13, 14, 15, 16, 17, 18, 19, 20, 21, 22, 23, 24, 25, 26, 27, 28, 29, 30, 31, 32, 33, 34, 35, 36, 37, 38, 39, 40, 41, 42, 43, 44, 45, 46, 47, 48, 49, 50, 51, 52, 53, 54, 55, 56, 57, 58, 59, 60, 61, 62, 63, 64, 65, 66, 67, 68, 69, 70, 71, 72, 73, 74, 75, 76, 77, 78, 79, 80, 81, 82, 83, 84, 85, 86, 87, 88, 89, 90, 91, 92, 93, 94, 95, 96, 97, 98, 99, 100, 101, 102, 103, 104, 105, 106, 107, 108, 109] rfl (fun _ => rfl) (fun _ hu781 => ?_)
  refine g_aload_n hX dL_law_784 2 rfl ?_
  refine g_aload_n hX dL_law_785 0 rfl ?_
  refine g_iload_n hX dL_law_786 3 rfl ?_
  refine g_iconst hX (nI 1) dL_law_787 rfl ?_
  refine g_iadd hX (nI (i + 1)) dL_law_788 (nI_add _ _) ?_
  refine g_sld hX hSX (i := i + 1) ((xs (i + 1))) (by omega) (by omega) rfl dL_law_789 ?_
  refine g_aload_n hX dL_law_790 0 rfl ?_
  refine g_iload_n hX dL_law_791 3 rfl ?_
  refine g_iconst hX (nI 2) dL_law_792 rfl ?_
  refine g_iadd hX (nI (i + 2)) dL_law_793 (nI_add _ _) ?_
  refine g_sld hX hSX (i := i + 2) ((xs (i + 2))) (by omega) (by omega) rfl dL_law_794 ?_
  refine g_aload_n hX dL_law_795 0 rfl ?_
  refine g_iload_n hX dL_law_796 3 rfl ?_
  refine g_iconst hX (nI 3) dL_law_797 rfl ?_
  refine g_iadd hX (nI (i + 3)) dL_law_798 (nI_add _ _) ?_
  refine g_sld hX hSX (i := i + 3) ((xs (i + 3))) (by omega) (by omega) rfl dL_law_799 ?_
  have hc800 : CUT ((lfo E ae ab ar an af ah ak ax ag z ++ (tw E ab 200 tx ++ (rw_ E ar R ++ (fw E an C ++ (fw E af D ++ (pw8 E ah V ++ (pw2 E ak U ++ (sw E ax S ++ (gw E ag G ++ (mw E a M))))))))))) (mw E a M) ((lfo E ae ab ar an af ah ak ax ag z ++ (tw E ab 200 tx ++ (rw_ E ar R ++ (fw E an C ++ (fw E af D ++ (pw8 E ah V ++ (pw2 E ak U ++ (sw E ax S ++ (gw E ag G)))))))))) [98, 99, 100, 101, 102, 103, 104, 105, 106, 107, 108, 109, 110] [0, 1, 2, 3, 4, 5, 6, 7, 8, 9, 10, 11, 12, 13, 14, 15, 16, 17, 18, 19, 20, 21, 22, 23, 24, 25, 26, 27, 28, 29, 30, 31, 32, 33, 34, 35, 36, 37, 38, 39, 40, 41, 42, 43, 44, 45, 46, 47, 48, 49, 50, 51, 52, 53, 54, 55, 56, 57, 58, 59, 60, 61, 62, 63, 64, 65, 66, 67, 68, 69, 70, 71, 72, 73, 74, 75, 76, 77, 78, 79, 80, 81, 82, 83, 84, 85, 86, 87, 88, 89, 90, 91, 92, 93, 94, 95, 96, 97] := ⟨rfl, rfl, rfl, rfl, rfl⟩
  refine g_VI hX hc800 [.int (xs (i + 1)), .int (xs (i + 2)), .int (xs (i + 3))] [.int (-1)] (c_X6_year_n l E a M C (30 * t) (xs (i + 1)) (xs (i + 2)) (xs (i + 3)) (by first | assumption | omega) (by first | assumption | omega) (by first | assumption | omega) (by first | assumption | omega) (by first | assumption | omega) (by first | assumption | omega)) gL_law_X6_year calX6_year rfl rfl rfl rfl 98 rfl rfl rfl rfl dL_law_800 rfl ⟨hkk, hnn⟩ (fun u800 => (lfo E ae ab ar an af ah ak ax ag z ++ (tw E ab 200 tx ++ (rw_ E ar R ++ (fw E an C ++ (fw E af D ++ (pw8 E ah V ++ (pw2 E ak U ++ (sw E ax S ++ (gw E ag G ++ (mw E a u800))))))))))) [0, 1, 2, 3, 4, 5, 6, 7, 8, 9, 10, 11, 12, 13, 14, 15, 16, 17, 18, 19, 20, 21, 22, 23, 24, 25, 26, 27, 28, 29, 30, 31, 32, 33, 34, 35, 36, 37, 38, 39, 40, 41, 42, 43, 44, 45, 46, 47, 48, 49, 50, 51, 52, 53, 54, 55, 56, 57, 58, 59, 60, 61, 62, 63, 64, 65, 66, 67, 68, 69, 70, 71, 72, 73, 74, 75, 76, 77, 78, 79, 80, 81, 82, 83, 84, 85, 86, 87, 88, 89, 90, 91, 92, 93, 94, 95, 96, 97, 98, 99, 100, 101, 102, 103, 104, 105, 106, 107, 108, 109, 110] rfl (fun _ => rfl) (fun u800 hu800 => ?_)
  refine g_icmp_eq hX 857 dL_law_803 (by decide) (fun _ => ?_) (fun c => (c (rfl)).elim)
  exact nx z tx R C D V U S G u800 (INV_KS hI hu800)
set_option maxHeartbeats 4000000 in
set_option maxRecDepth 100000 in
theorem lc_year_y (y : Nat) (n : Nat) (p : Nat) (hc : LCX x l E b L xs kk nn t i) (hI : INV t z tx R C V U S M) (nx : NX x E ae ab ar an af ah ak ax ag a b kk nn t i) (e1 : xs (i + 1) = nI y) (e2 : xs (i + 2) = nI n) (e3 : xs (i + 3) = nI p) (hye : y ≤ 9999) (hn1 : 1 ≤ n) (hn2 : n ≤ 60) (hp : p ≤ 1) : GG x kk nn (LWM E ae ab ar an af ah ak ax ag a z tx R C D V U S G M) 765 [(0, .ref b), (1, .ref (ae 0)), (2, .ref (a 0)), (3, .int (nI i))] [] := by
  obtain ⟨hX, hSX, hkk, hnn, hit, hi5, hL3⟩ := hc
  obtain ⟨⟨hz, htx, hmX, hmL, hRq⟩, ⟨hN1, hD, hSr, hTm⟩, hE, ⟨hv1, hv2, hv3⟩, ⟨hu1, hu2, hu3⟩⟩ := id hI
  have hm : 30 * t < 2 ^ 29 := by omega
  have hC := hD.1.1
  obtain ⟨h9, h64, h512, hTq, hIq⟩ := id hC
  have hSK := hD.1.2
  have hV := DI_VB hD (by omega)
  have htx2 : ∀ j, tx j < 2 ^ 16 := fun j => by have := htx j; omega
  have hmX2 : ∀ j, mX M j < 128 := by rw [hmX]; exact htx
  have h6 : hN S ≤ 6 := hE.2.1
  have hs9 : ∀ j, j < hN S → hS S j < 9 := fun j hj => (hE.2.2 j hj).2.2
  show GG x kk nn ((lfo E ae ab ar an af ah ak ax ag z ++ (tw E ab 200 tx ++ (rw_ E ar R ++ (fw E an C ++ (fw E af D ++ (pw8 E ah V ++ (pw2 E ak U ++ (sw E ax S ++ (gw E ag G ++ (mw E a M))))))))))) 765 [(0, .ref b), (1, .ref (ae 0)), (2, .ref (a 0)), (3, .int (nI i))] []
  refine g_aload_n hX dL_law_765 1 rfl ?_
  refine g_aload_n hX dL_law_766 0 rfl ?_
  refine g_iload_n hX dL_law_767 3 rfl ?_
  refine g_iconst hX (nI 1) dL_law_768 rfl ?_
  refine g_iadd hX (nI (i + 1)) dL_law_769 (nI_add _ _) ?_
  refine g_sld hX hSX (i := i + 1) (nI y) (by omega) (by omega) e1 dL_law_770 ?_
  refine g_aload_n hX dL_law_771 0 rfl ?_
  refine g_iload_n hX dL_law_772 3 rfl ?_
  refine g_iconst hX (nI 2) dL_law_773 rfl ?_
  refine g_iadd hX (nI (i + 2)) dL_law_774 (nI_add _ _) ?_
  refine g_sld hX hSX (i := i + 2) (nI n) (by omega) (by omega) e2 dL_law_775 ?_
  refine g_aload_n hX dL_law_776 0 rfl ?_
  refine g_iload_n hX dL_law_777 3 rfl ?_
  refine g_iconst hX (nI 3) dL_law_778 rfl ?_
  refine g_iadd hX (nI (i + 3)) dL_law_779 (nI_add _ _) ?_
  refine g_sld hX hSX (i := i + 3) (nI p) (by omega) (by omega) e3 dL_law_780 ?_
  have hc781 : CUT ((lfo E ae ab ar an af ah ak ax ag z ++ (tw E ab 200 tx ++ (rw_ E ar R ++ (fw E an C ++ (fw E af D ++ (pw8 E ah V ++ (pw2 E ak U ++ (sw E ax S ++ (gw E ag G ++ (mw E a M))))))))))) ((lfo E ae ab ar an af ah ak ax ag z ++ (fw E an C ++ (fw E af D)))) ((tw E ab 200 tx ++ (rw_ E ar R ++ (pw8 E ah V ++ (pw2 E ak U ++ (sw E ax S ++ (gw E ag G ++ (mw E a M)))))))) [0, 4, 5, 6, 7, 8, 9, 10, 11, 12, 13, 14, 15, 16, 17] [1, 2, 3, 18, 19, 20, 21, 22, 23, 24, 25, 26, 27, 28, 29, 30, 31, 32, 33, 34, 35, 36, 37, 38, 39, 40, 41, 42, 43, 44, 45, 46, 47, 48, 49, 50, 51, 52, 53, 54, 55, 56, 57, 58, 59, 60, 61, 62, 63, 64, 65, 66, 67, 68, 69, 70, 71, 72, 73, 74, 75, 76, 77, 78, 79, 80, 81, 82, 83, 84, 85, 86, 87, 88, 89, 90, 91, 92, 93, 94, 95, 96, 97, 98, 99, 100, 101, 102, 103, 104, 105, 106, 107, 108, 109, 110] := ⟨rfl, rfl, rfl, rfl, rfl⟩
  refine g_VI hX hc781 [.int (nI y), .int (nI n), .int (nI p)] [] (c_X5_year_y l E ae ab ar an af ah ak ax ag z C D (30 * t) y n p (by first | assumption | omega) (by first | assumption | omega) (by first | assumption | omega) (by first | assumption | omega) (by first | assumption | omega) (by first | assumption | omega) (by first | assumption | omega)) gL_law_X5_year calX5_year rfl rfl rfl rfl 0 rfl rfl rfl rfl dL_law_781 rfl ⟨hkk, hnn⟩ (fun _ => (lfo E ae ab ar an af ah ak ax ag z ++ (tw E ab 200 tx ++ (rw_ E ar R ++ (fw E an C ++ (fw E af ((yeN C y n).1) ++ (pw8 E ah V ++ (pw2 E ak U ++ (sw E ax S ++ (gw E ag G ++ (mw E a M))))))))))) [96, 0, 1, 2, 97, 98, 99, 100, 101, 102, 103, 104, 105, 106, 107, 108, 109, 110, 3, 4, 5, 6, 7, 8, 9, 10, 11, 12, 13, 14, 15, 16, 17, 18, 19, 20, 21, 22, 23, 24, 25, 26, 27, 28, 29, 30, 31, 32, 33, 34, 35, 36, 37, 38, 39, 40, 41, 42, 43, 44, 45, 46, 47, 48, 49, 50, 51, 52, 53, 54, 55, 56, 57, 58, 59, 60, 61, 62, 63, 64, 65, 66, 67, 68, 69, 70, 71, 72, 73, 74, 75, 76, 77, 78, 79, 80, 81, 82, 83, 84, 85, 86, 87, 88, 89, 90, 91, 92, 93, 94, 95] rfl (fun _ => rfl) (fun _ hu781 => ?_)
  refine g_aload_n hX dL_law_784 2 rfl ?_
  refine g_aload_n hX dL_law_785 0 rfl ?_
  refine g_iload_n hX dL_law_786 3 rfl ?_
  refine g_iconst hX (nI 1) dL_law_787 rfl ?_
  refine g_iadd hX (nI (i + 1)) dL_law_788 (nI_add _ _) ?_
  refine g_sld hX hSX (i := i + 1) (nI y) (by omega) (by omega) e1 dL_law_789 ?_
  refine g_aload_n hX dL_law_790 0 rfl ?_
  refine g_iload_n hX dL_law_791 3 rfl ?_
  refine g_iconst hX (nI 2) dL_law_792 rfl ?_
  refine g_iadd hX (nI (i + 2)) dL_law_793 (nI_add _ _) ?_
  refine g_sld hX hSX (i := i + 2) (nI n) (by omega) (by omega) e2 dL_law_794 ?_
  refine g_aload_n hX dL_law_795 0 rfl ?_
  refine g_iload_n hX dL_law_796 3 rfl ?_
  refine g_iconst hX (nI 3) dL_law_797 rfl ?_
  refine g_iadd hX (nI (i + 3)) dL_law_798 (nI_add _ _) ?_
  refine g_sld hX hSX (i := i + 3) (nI p) (by omega) (by omega) e3 dL_law_799 ?_
  have hc800 : CUT ((lfo E ae ab ar an af ah ak ax ag z ++ (tw E ab 200 tx ++ (rw_ E ar R ++ (fw E an C ++ (fw E af ((yeN C y n).1) ++ (pw8 E ah V ++ (pw2 E ak U ++ (sw E ax S ++ (gw E ag G ++ (mw E a M))))))))))) (mw E a M) ((lfo E ae ab ar an af ah ak ax ag z ++ (tw E ab 200 tx ++ (rw_ E ar R ++ (fw E an C ++ (fw E af ((yeN C y n).1) ++ (pw8 E ah V ++ (pw2 E ak U ++ (sw E ax S ++ (gw E ag G)))))))))) [98, 99, 100, 101, 102, 103, 104, 105, 106, 107, 108, 109, 110] [0, 1, 2, 3, 4, 5, 6, 7, 8, 9, 10, 11, 12, 13, 14, 15, 16, 17, 18, 19, 20, 21, 22, 23, 24, 25, 26, 27, 28, 29, 30, 31, 32, 33, 34, 35, 36, 37, 38, 39, 40, 41, 42, 43, 44, 45, 46, 47, 48, 49, 50, 51, 52, 53, 54, 55, 56, 57, 58, 59, 60, 61, 62, 63, 64, 65, 66, 67, 68, 69, 70, 71, 72, 73, 74, 75, 76, 77, 78, 79, 80, 81, 82, 83, 84, 85, 86, 87, 88, 89, 90, 91, 92, 93, 94, 95, 96, 97] := ⟨rfl, rfl, rfl, rfl, rfl⟩
  refine g_VI hX hc800 [.int (nI y), .int (nI n), .int (nI p)] [.int (nI (if p = 0 then pop (lieM (yeN C y n).1 (cF (yeN C y n).1)) else (yeN C y n).2))] (c_X6_year_y l E a M C (30 * t) y n p (by first | assumption | omega) (by first | assumption | omega) (by first | assumption | omega) (by first | assumption | omega) (by first | assumption | omega) (by first | assumption | omega) (by first | assumption | omega) (by first | assumption | omega) (by first | assumption | omega)) gL_law_X6_year calX6_year rfl rfl rfl rfl 98 rfl rfl rfl rfl dL_law_800 rfl ⟨hkk, hnn⟩ (fun u800 => (lfo E ae ab ar an af ah ak ax ag z ++ (tw E ab 200 tx ++ (rw_ E ar R ++ (fw E an C ++ (fw E af ((yeN C y n).1) ++ (pw8 E ah V ++ (pw2 E ak U ++ (sw E ax S ++ (gw E ag G ++ (mw E a u800))))))))))) [0, 1, 2, 3, 4, 5, 6, 7, 8, 9, 10, 11, 12, 13, 14, 15, 16, 17, 18, 19, 20, 21, 22, 23, 24, 25, 26, 27, 28, 29, 30, 31, 32, 33, 34, 35, 36, 37, 38, 39, 40, 41, 42, 43, 44, 45, 46, 47, 48, 49, 50, 51, 52, 53, 54, 55, 56, 57, 58, 59, 60, 61, 62, 63, 64, 65, 66, 67, 68, 69, 70, 71, 72, 73, 74, 75, 76, 77, 78, 79, 80, 81, 82, 83, 84, 85, 86, 87, 88, 89, 90, 91, 92, 93, 94, 95, 96, 97, 98, 99, 100, 101, 102, 103, 104, 105, 106, 107, 108, 109, 110] rfl (fun _ => rfl) (fun u800 hu800 => ?_)
  refine g_icmp_eq hX 857 dL_law_803 (by decide) (fun _ => ?_) (fun c => (c (rfl)).elim)
  exact nx z tx R C ((yeN C y n).1) V U S G u800 (INV_KS hI hu800)
set_option maxHeartbeats 4000000 in
set_option maxRecDepth 100000 in
theorem lc_keep_f  (hc : LCX x l E b L xs kk nn t i) (hI : INV t z tx R C V U S M) (nx : NX x E ae ab ar an af ah ak ax ag a b kk nn t i) (h2k : mK M = 2) : GG x kk nn (LWM E ae ab ar an af ah ak ax ag a z tx R C D V U S G M) 808 [(0, .ref b), (1, .ref (ae 0)), (2, .ref (a 0)), (3, .int (nI i))] [] := by
  obtain ⟨hX, hSX, hkk, hnn, hit, hi5, hL3⟩ := hc
  obtain ⟨⟨hz, htx, hmX, hmL, hRq⟩, ⟨hN1, hD, hSr, hTm⟩, hE, ⟨hv1, hv2, hv3⟩, ⟨hu1, hu2, hu3⟩⟩ := id hI
  have hm : 30 * t < 2 ^ 29 := by omega
  have hC := hD.1.1
  obtain ⟨h9, h64, h512, hTq, hIq⟩ := id hC
  have hSK := hD.1.2
  have hV := DI_VB hD (by omega)
  have htx2 : ∀ j, tx j < 2 ^ 16 := fun j => by have := htx j; omega
  have hmX2 : ∀ j, mX M j < 128 := by rw [hmX]; exact htx
  have h6 : hN S ≤ 6 := hE.2.1
  have hs9 : ∀ j, j < hN S → hS S j < 9 := fun j hj => (hE.2.2 j hj).2.2
  show GG x kk nn ((lfo E ae ab ar an af ah ak ax ag z ++ (tw E ab 200 tx ++ (rw_ E ar R ++ (fw E an C ++ (fw E af D ++ (pw8 E ah V ++ (pw2 E ak U ++ (sw E ax S ++ (gw E ag G ++ (mw E a M))))))))))) 808 [(0, .ref b), (1, .ref (ae 0)), (2, .ref (a 0)), (3, .int (nI i))] []
  refine g_aload_n hX dL_law_808 1 rfl ?_
  have hc809 : CUT ((lfo E ae ab ar an af ah ak ax ag z ++ (tw E ab 200 tx ++ (rw_ E ar R ++ (fw E an C ++ (fw E af D ++ (pw8 E ah V ++ (pw2 E ak U ++ (sw E ax S ++ (gw E ag G ++ (mw E a M))))))))))) ((lfo E ae ab ar an af ah ak ax ag z) ++ (pw2 E ak U)) ((tw E ab 200 tx ++ (rw_ E ar R ++ (fw E an C ++ (fw E af D ++ (pw8 E ah V ++ (sw E ax S ++ (gw E ag G ++ (mw E a M))))))))) [0, 76, 77, 78, 79, 80, 81, 82, 83, 84, 85, 86, 87, 88, 89, 90, 91] [1, 2, 3, 4, 5, 6, 7, 8, 9, 10, 11, 12, 13, 14, 15, 16, 17, 18, 19, 20, 21, 22, 23, 24, 25, 26, 27, 28, 29, 30, 31, 32, 33, 34, 35, 36, 37, 38, 39, 40, 41, 42, 43, 44, 45, 46, 47, 48, 49, 50, 51, 52, 53, 54, 55, 56, 57, 58, 59, 60, 61, 62, 63, 64, 65, 66, 67, 68, 69, 70, 71, 72, 73, 74, 75, 92, 93, 94, 95, 96, 97, 98, 99, 100, 101, 102, 103, 104, 105, 106, 107, 108, 109, 110] := ⟨rfl, rfl, rfl, rfl, rfl⟩
  refine g_VI hX hc809 [] [] (c_X5_keep_f l E ae ab ar an af ah ak ax ag z U (by first | assumption | omega)) gL_law_X5_keep calX5_keep rfl rfl rfl rfl 0 rfl rfl rfl rfl dL_law_809 rfl ⟨hkk, hnn⟩ (fun _ => (lfo E ae ab ar an af ah ak ax ag z ++ (tw E ab 200 tx ++ (rw_ E ar R ++ (fw E an C ++ (fw E af D ++ (pw8 E ah V ++ (pw2 E ak U ++ (sw E ax S ++ (gw E ag G ++ (mw E a M))))))))))) [94, 0, 1, 2, 3, 4, 5, 6, 7, 8, 9, 10, 11, 12, 13, 14, 15, 16, 17, 18, 19, 20, 21, 22, 23, 24, 25, 26, 27, 28, 29, 30, 31, 32, 33, 34, 35, 36, 37, 38, 39, 40, 41, 42, 43, 44, 45, 46, 47, 48, 49, 50, 51, 52, 53, 54, 55, 56, 57, 58, 59, 60, 61, 62, 63, 64, 65, 66, 67, 68, 69, 70, 71, 72, 73, 74, 95, 96, 97, 98, 99, 100, 101, 102, 103, 104, 105, 106, 107, 108, 109, 110, 75, 76, 77, 78, 79, 80, 81, 82, 83, 84, 85, 86, 87, 88, 89, 90, 91, 92, 93] rfl (fun _ => rfl) (fun _ hu809 => ?_)
  refine g_aload_n hX dL_law_812 2 rfl ?_
  have hc813 : CUT ((lfo E ae ab ar an af ah ak ax ag z ++ (tw E ab 200 tx ++ (rw_ E ar R ++ (fw E an C ++ (fw E af D ++ (pw8 E ah V ++ (pw2 E ak U ++ (sw E ax S ++ (gw E ag G ++ (mw E a M))))))))))) (mw E a M) ((lfo E ae ab ar an af ah ak ax ag z ++ (tw E ab 200 tx ++ (rw_ E ar R ++ (fw E an C ++ (fw E af D ++ (pw8 E ah V ++ (pw2 E ak U ++ (sw E ax S ++ (gw E ag G)))))))))) [98, 99, 100, 101, 102, 103, 104, 105, 106, 107, 108, 109, 110] [0, 1, 2, 3, 4, 5, 6, 7, 8, 9, 10, 11, 12, 13, 14, 15, 16, 17, 18, 19, 20, 21, 22, 23, 24, 25, 26, 27, 28, 29, 30, 31, 32, 33, 34, 35, 36, 37, 38, 39, 40, 41, 42, 43, 44, 45, 46, 47, 48, 49, 50, 51, 52, 53, 54, 55, 56, 57, 58, 59, 60, 61, 62, 63, 64, 65, 66, 67, 68, 69, 70, 71, 72, 73, 74, 75, 76, 77, 78, 79, 80, 81, 82, 83, 84, 85, 86, 87, 88, 89, 90, 91, 92, 93, 94, 95, 96, 97] := ⟨rfl, rfl, rfl, rfl, rfl⟩
  refine g_VI hX hc813 [] [.int (-3)] (c_X6_keep_f l E a M (by first | assumption | omega)) gL_law_X6_keep calX6_keep rfl rfl rfl rfl 98 rfl rfl rfl rfl dL_law_813 rfl ⟨hkk, hnn⟩ (fun u813 => (lfo E ae ab ar an af ah ak ax ag z ++ (tw E ab 200 tx ++ (rw_ E ar R ++ (fw E an C ++ (fw E af D ++ (pw8 E ah V ++ (pw2 E ak U ++ (sw E ax S ++ (gw E ag G ++ (mw E a u813))))))))))) [0, 1, 2, 3, 4, 5, 6, 7, 8, 9, 10, 11, 12, 13, 14, 15, 16, 17, 18, 19, 20, 21, 22, 23, 24, 25, 26, 27, 28, 29, 30, 31, 32, 33, 34, 35, 36, 37, 38, 39, 40, 41, 42, 43, 44, 45, 46, 47, 48, 49, 50, 51, 52, 53, 54, 55, 56, 57, 58, 59, 60, 61, 62, 63, 64, 65, 66, 67, 68, 69, 70, 71, 72, 73, 74, 75, 76, 77, 78, 79, 80, 81, 82, 83, 84, 85, 86, 87, 88, 89, 90, 91, 92, 93, 94, 95, 96, 97, 98, 99, 100, 101, 102, 103, 104, 105, 106, 107, 108, 109, 110] rfl (fun _ => rfl) (fun u813 hu813 => ?_)
  refine g_icmp_eq hX 857 dL_law_816 (by decide) (fun _ => ?_) (fun c => (c (rfl)).elim)
  exact nx z tx R C D V U S G u813 (INV_KS hI hu813)
set_option maxHeartbeats 4000000 in
set_option maxRecDepth 100000 in
theorem lc_keep_y  (hc : LCX x l E b L xs kk nn t i) (hI : INV t z tx R C V U S M) (nx : NX x E ae ab ar an af ah ak ax ag a b kk nn t i) (h2k : mK M < 2) : GG x kk nn (LWM E ae ab ar an af ah ak ax ag a z tx R C D V U S G M) 808 [(0, .ref b), (1, .ref (ae 0)), (2, .ref (a 0)), (3, .int (nI i))] [] := by
  obtain ⟨hX, hSX, hkk, hnn, hit, hi5, hL3⟩ := hc
  obtain ⟨⟨hz, htx, hmX, hmL, hRq⟩, ⟨hN1, hD, hSr, hTm⟩, hE, ⟨hv1, hv2, hv3⟩, ⟨hu1, hu2, hu3⟩⟩ := id hI
  have hm : 30 * t < 2 ^ 29 := by omega
  have hC := hD.1.1
  obtain ⟨h9, h64, h512, hTq, hIq⟩ := id hC
  have hSK := hD.1.2
  have hV := DI_VB hD (by omega)
  have htx2 : ∀ j, tx j < 2 ^ 16 := fun j => by have := htx j; omega
  have hmX2 : ∀ j, mX M j < 128 := by rw [hmX]; exact htx
  have h6 : hN S ≤ 6 := hE.2.1
  have hs9 : ∀ j, j < hN S → hS S j < 9 := fun j hj => (hE.2.2 j hj).2.2
  show GG x kk nn ((lfo E ae ab ar an af ah ak ax ag z ++ (tw E ab 200 tx ++ (rw_ E ar R ++ (fw E an C ++ (fw E af D ++ (pw8 E ah V ++ (pw2 E ak U ++ (sw E ax S ++ (gw E ag G ++ (mw E a M))))))))))) 808 [(0, .ref b), (1, .ref (ae 0)), (2, .ref (a 0)), (3, .int (nI i))] []
  refine g_aload_n hX dL_law_808 1 rfl ?_
  have hc809 : CUT ((lfo E ae ab ar an af ah ak ax ag z ++ (tw E ab 200 tx ++ (rw_ E ar R ++ (fw E an C ++ (fw E af D ++ (pw8 E ah V ++ (pw2 E ak U ++ (sw E ax S ++ (gw E ag G ++ (mw E a M))))))))))) ((lfo E ae ab ar an af ah ak ax ag z ++ (fw E an C ++ (pw2 E ak U)))) ((tw E ab 200 tx ++ (rw_ E ar R ++ (fw E af D ++ (pw8 E ah V ++ (sw E ax S ++ (gw E ag G ++ (mw E a M)))))))) [0, 4, 5, 6, 7, 8, 9, 10, 76, 77, 78, 79, 80, 81, 82, 83, 84, 85, 86, 87, 88, 89, 90, 91] [1, 2, 3, 11, 12, 13, 14, 15, 16, 17, 18, 19, 20, 21, 22, 23, 24, 25, 26, 27, 28, 29, 30, 31, 32, 33, 34, 35, 36, 37, 38, 39, 40, 41, 42, 43, 44, 45, 46, 47, 48, 49, 50, 51, 52, 53, 54, 55, 56, 57, 58, 59, 60, 61, 62, 63, 64, 65, 66, 67, 68, 69, 70, 71, 72, 73, 74, 75, 92, 93, 94, 95, 96, 97, 98, 99, 100, 101, 102, 103, 104, 105, 106, 107, 108, 109, 110] := ⟨rfl, rfl, rfl, rfl, rfl⟩
  refine g_VI hX hc809 [] [] (c_X5_keep_y l E ae ab ar an af ah ak ax ag z C U (by first | assumption | omega)) gL_law_X5_keep calX5_keep rfl rfl rfl rfl 0 rfl rfl rfl rfl dL_law_809 rfl ⟨hkk, hnn⟩ (fun _ => (lfo E ae ab ar an af ah ak ax ag z ++ (tw E ab 200 tx ++ (rw_ E ar R ++ (fw E an C ++ (fw E af D ++ (pw8 E ah V ++ (pw2 E ak (padd2 U C) ++ (sw E ax S ++ (gw E ag G ++ (mw E a M))))))))))) [87, 0, 1, 2, 88, 89, 90, 91, 92, 93, 94, 3, 4, 5, 6, 7, 8, 9, 10, 11, 12, 13, 14, 15, 16, 17, 18, 19, 20, 21, 22, 23, 24, 25, 26, 27, 28, 29, 30, 31, 32, 33, 34, 35, 36, 37, 38, 39, 40, 41, 42, 43, 44, 45, 46, 47, 48, 49, 50, 51, 52, 53, 54, 55, 56, 57, 58, 59, 60, 61, 62, 63, 64, 65, 66, 67, 95, 96, 97, 98, 99, 100, 101, 102, 103, 104, 105, 106, 107, 108, 109, 110, 68, 69, 70, 71, 72, 73, 74, 75, 76, 77, 78, 79, 80, 81, 82, 83, 84, 85, 86] rfl (fun _ => rfl) (fun _ hu809 => ?_)
  refine g_aload_n hX dL_law_812 2 rfl ?_
  have hc813 : CUT ((lfo E ae ab ar an af ah ak ax ag z ++ (tw E ab 200 tx ++ (rw_ E ar R ++ (fw E an C ++ (fw E af D ++ (pw8 E ah V ++ (pw2 E ak (padd2 U C) ++ (sw E ax S ++ (gw E ag G ++ (mw E a M))))))))))) (mw E a M) ((lfo E ae ab ar an af ah ak ax ag z ++ (tw E ab 200 tx ++ (rw_ E ar R ++ (fw E an C ++ (fw E af D ++ (pw8 E ah V ++ (pw2 E ak (padd2 U C) ++ (sw E ax S ++ (gw E ag G)))))))))) [98, 99, 100, 101, 102, 103, 104, 105, 106, 107, 108, 109, 110] [0, 1, 2, 3, 4, 5, 6, 7, 8, 9, 10, 11, 12, 13, 14, 15, 16, 17, 18, 19, 20, 21, 22, 23, 24, 25, 26, 27, 28, 29, 30, 31, 32, 33, 34, 35, 36, 37, 38, 39, 40, 41, 42, 43, 44, 45, 46, 47, 48, 49, 50, 51, 52, 53, 54, 55, 56, 57, 58, 59, 60, 61, 62, 63, 64, 65, 66, 67, 68, 69, 70, 71, 72, 73, 74, 75, 76, 77, 78, 79, 80, 81, 82, 83, 84, 85, 86, 87, 88, 89, 90, 91, 92, 93, 94, 95, 96, 97] := ⟨rfl, rfl, rfl, rfl, rfl⟩
  refine g_VI hX hc813 [] [.int (nI ((pz U) + 1))] (c_X6_keep_y l E a M (by first | assumption | omega)) gL_law_X6_keep calX6_keep rfl rfl rfl rfl 98 rfl rfl rfl rfl dL_law_813 rfl ⟨hkk, hnn⟩ (fun u813 => (lfo E ae ab ar an af ah ak ax ag z ++ (tw E ab 200 tx ++ (rw_ E ar R ++ (fw E an C ++ (fw E af D ++ (pw8 E ah V ++ (pw2 E ak (padd2 U C) ++ (sw E ax S ++ (gw E ag G ++ (mw E a u813))))))))))) [0, 1, 2, 3, 4, 5, 6, 7, 8, 9, 10, 11, 12, 13, 14, 15, 16, 17, 18, 19, 20, 21, 22, 23, 24, 25, 26, 27, 28, 29, 30, 31, 32, 33, 34, 35, 36, 37, 38, 39, 40, 41, 42, 43, 44, 45, 46, 47, 48, 49, 50, 51, 52, 53, 54, 55, 56, 57, 58, 59, 60, 61, 62, 63, 64, 65, 66, 67, 68, 69, 70, 71, 72, 73, 74, 75, 76, 77, 78, 79, 80, 81, 82, 83, 84, 85, 86, 87, 88, 89, 90, 91, 92, 93, 94, 95, 96, 97, 98, 99, 100, 101, 102, 103, 104, 105, 106, 107, 108, 109, 110] rfl (fun _ => rfl) (fun u813 hu813 => ?_)
  refine g_icmp_eq hX 857 dL_law_816 (by decide) (fun _ => ?_) (fun c => (c (by rw [hu1])).elim)
  exact nx z tx R C D V (padd2 U C) S G u813 (INV_keep hI h2k hu813.1 hu813.2.1 hu813.2.2.1 hu813.2.2.2.1 hu813.2.2.2.2)
set_option maxHeartbeats 4000000 in
set_option maxRecDepth 100000 in
theorem lc_back_n  (hc : LCX x l E b L xs kk nn t i) (hI : INV t z tx R C V U S M) (nx : NX x E ae ab ar an af ah ak ax ag a b kk nn t i) (h0 : mK M = 0) : GG x kk nn (LWM E ae ab ar an af ah ak ax ag a z tx R C D V U S G M) 821 [(0, .ref b), (1, .ref (ae 0)), (2, .ref (a 0)), (3, .int (nI i))] [] := by
  obtain ⟨hX, hSX, hkk, hnn, hit, hi5, hL3⟩ := hc
  obtain ⟨⟨hz, htx, hmX, hmL, hRq⟩, ⟨hN1, hD, hSr, hTm⟩, hE, ⟨hv1, hv2, hv3⟩, ⟨hu1, hu2, hu3⟩⟩ := id hI
  have hm : 30 * t < 2 ^ 29 := by omega
  have hC := hD.1.1
  obtain ⟨h9, h64, h512, hTq, hIq⟩ := id hC
  have hSK := hD.1.2
  have hV := DI_VB hD (by omega)
  have htx2 : ∀ j, tx j < 2 ^ 16 := fun j => by have := htx j; omega
  have hmX2 : ∀ j, mX M j < 128 := by rw [hmX]; exact htx
  have h6 : hN S ≤ 6 := hE.2.1
  have hs9 : ∀ j, j < hN S → hS S j < 9 := fun j hj => (hE.2.2 j hj).2.2
  show GG x kk nn ((lfo E ae ab ar an af ah ak ax ag z ++ (tw E ab 200 tx ++ (rw_ E ar R ++ (fw E an C ++ (fw E af D ++ (pw8 E ah V ++ (pw2 E ak U ++ (sw E ax S ++ (gw E ag G ++ (mw E a M))))))))))) 821 [(0, .ref b), (1, .ref (ae 0)), (2, .ref (a 0)), (3, .int (nI i))] []
  refine g_aload_n hX dL_law_821 1 rfl ?_
  have hc822 : CUT ((lfo E ae ab ar an af ah ak ax ag z ++ (tw E ab 200 tx ++ (rw_ E ar R ++ (fw E an C ++ (fw E af D ++ (pw8 E ah V ++ (pw2 E ak U ++ (sw E ax S ++ (gw E ag G ++ (mw E a M))))))))))) ((lfo E ae ab ar an af ah ak ax ag z ++ (fw E an C ++ (pw2 E ak U)))) ((tw E ab 200 tx ++ (rw_ E ar R ++ (fw E af D ++ (pw8 E ah V ++ (sw E ax S ++ (gw E ag G ++ (mw E a M)))))))) [0, 4, 5, 6, 7, 8, 9, 10, 76, 77, 78, 79, 80, 81, 82, 83, 84, 85, 86, 87, 88, 89, 90, 91] [1, 2, 3, 11, 12, 13, 14, 15, 16, 17, 18, 19, 20, 21, 22, 23, 24, 25, 26, 27, 28, 29, 30, 31, 32, 33, 34, 35, 36, 37, 38, 39, 40, 41, 42, 43, 44, 45, 46, 47, 48, 49, 50, 51, 52, 53, 54, 55, 56, 57, 58, 59, 60, 61, 62, 63, 64, 65, 66, 67, 68, 69, 70, 71, 72, 73, 74, 75, 92, 93, 94, 95, 96, 97, 98, 99, 100, 101, 102, 103, 104, 105, 106, 107, 108, 109, 110] := ⟨rfl, rfl, rfl, rfl, rfl⟩
  refine g_VI hX hc822 [] [] (c_X5_back_n l E ae ab ar an af ah ak ax ag z C U (by first | assumption | omega)) gL_law_X5_back calX5_back rfl rfl rfl rfl 0 rfl rfl rfl rfl dL_law_822 rfl ⟨hkk, hnn⟩ (fun _ => (lfo E ae ab ar an af ah ak ax ag z ++ (tw E ab 200 tx ++ (rw_ E ar R ++ (fw E an C ++ (fw E af D ++ (pw8 E ah V ++ (pw2 E ak U ++ (sw E ax S ++ (gw E ag G ++ (mw E a M))))))))))) [87, 0, 1, 2, 88, 89, 90, 91, 92, 93, 94, 3, 4, 5, 6, 7, 8, 9, 10, 11, 12, 13, 14, 15, 16, 17, 18, 19, 20, 21, 22, 23, 24, 25, 26, 27, 28, 29, 30, 31, 32, 33, 34, 35, 36, 37, 38, 39, 40, 41, 42, 43, 44, 45, 46, 47, 48, 49, 50, 51, 52, 53, 54, 55, 56, 57, 58, 59, 60, 61, 62, 63, 64, 65, 66, 67, 95, 96, 97, 98, 99, 100, 101, 102, 103, 104, 105, 106, 107, 108, 109, 110, 68, 69, 70, 71, 72, 73, 74, 75, 76, 77, 78, 79, 80, 81, 82, 83, 84, 85, 86] rfl (fun _ => rfl) (fun _ hu822 => ?_)
  refine g_aload_n hX dL_law_825 2 rfl ?_
  have hc826 : CUT ((lfo E ae ab ar an af ah ak ax ag z ++ (tw E ab 200 tx ++ (rw_ E ar R ++ (fw E an C ++ (fw E af D ++ (pw8 E ah V ++ (pw2 E ak U ++ (sw E ax S ++ (gw E ag G ++ (mw E a M))))))))))) (mw E a M) ((lfo E ae ab ar an af ah ak ax ag z ++ (tw E ab 200 tx ++ (rw_ E ar R ++ (fw E an C ++ (fw E af D ++ (pw8 E ah V ++ (pw2 E ak U ++ (sw E ax S ++ (gw E ag G)))))))))) [98, 99, 100, 101, 102, 103, 104, 105, 106, 107, 108, 109, 110] [0, 1, 2, 3, 4, 5, 6, 7, 8, 9, 10, 11, 12, 13, 14, 15, 16, 17, 18, 19, 20, 21, 22, 23, 24, 25, 26, 27, 28, 29, 30, 31, 32, 33, 34, 35, 36, 37, 38, 39, 40, 41, 42, 43, 44, 45, 46, 47, 48, 49, 50, 51, 52, 53, 54, 55, 56, 57, 58, 59, 60, 61, 62, 63, 64, 65, 66, 67, 68, 69, 70, 71, 72, 73, 74, 75, 76, 77, 78, 79, 80, 81, 82, 83, 84, 85, 86, 87, 88, 89, 90, 91, 92, 93, 94, 95, 96, 97] := ⟨rfl, rfl, rfl, rfl, rfl⟩
  refine g_VI hX hc826 [] [.int (-2)] (c_X6_back_n l E a M (by first | assumption | omega)) gL_law_X6_back calX6_back rfl rfl rfl rfl 98 rfl rfl rfl rfl dL_law_826 rfl ⟨hkk, hnn⟩ (fun u826 => (lfo E ae ab ar an af ah ak ax ag z ++ (tw E ab 200 tx ++ (rw_ E ar R ++ (fw E an C ++ (fw E af D ++ (pw8 E ah V ++ (pw2 E ak U ++ (sw E ax S ++ (gw E ag G ++ (mw E a u826))))))))))) [0, 1, 2, 3, 4, 5, 6, 7, 8, 9, 10, 11, 12, 13, 14, 15, 16, 17, 18, 19, 20, 21, 22, 23, 24, 25, 26, 27, 28, 29, 30, 31, 32, 33, 34, 35, 36, 37, 38, 39, 40, 41, 42, 43, 44, 45, 46, 47, 48, 49, 50, 51, 52, 53, 54, 55, 56, 57, 58, 59, 60, 61, 62, 63, 64, 65, 66, 67, 68, 69, 70, 71, 72, 73, 74, 75, 76, 77, 78, 79, 80, 81, 82, 83, 84, 85, 86, 87, 88, 89, 90, 91, 92, 93, 94, 95, 96, 97, 98, 99, 100, 101, 102, 103, 104, 105, 106, 107, 108, 109, 110] rfl (fun _ => rfl) (fun u826 hu826 => ?_)
  refine g_icmp_eq hX 857 dL_law_829 (by decide) (fun _ => ?_) (fun c => (c (rfl)).elim)
  exact nx z tx R C D V U S G u826 (INV_KS hI hu826)
set_option maxHeartbeats 4000000 in
set_option maxRecDepth 100000 in
theorem lc_back_y  (hc : LCX x l E b L xs kk nn t i) (hI : INV t z tx R C V U S M) (nx : NX x E ae ab ar an af ah ak ax ag a b kk nn t i) (h0 : 0 < mK M) : GG x kk nn (LWM E ae ab ar an af ah ak ax ag a z tx R C D V U S G M) 821 [(0, .ref b), (1, .ref (ae 0)), (2, .ref (a 0)), (3, .int (nI i))] [] := by
  obtain ⟨hX, hSX, hkk, hnn, hit, hi5, hL3⟩ := hc
  obtain ⟨⟨hz, htx, hmX, hmL, hRq⟩, ⟨hN1, hD, hSr, hTm⟩, hE, ⟨hv1, hv2, hv3⟩, ⟨hu1, hu2, hu3⟩⟩ := id hI
  have hm : 30 * t < 2 ^ 29 := by omega
  have hC := hD.1.1
  obtain ⟨h9, h64, h512, hTq, hIq⟩ := id hC
  have hSK := hD.1.2
  have hV := DI_VB hD (by omega)
  have htx2 : ∀ j, tx j < 2 ^ 16 := fun j => by have := htx j; omega
  have hmX2 : ∀ j, mX M j < 128 := by rw [hmX]; exact htx
  have h6 : hN S ≤ 6 := hE.2.1
  have hs9 : ∀ j, j < hN S → hS S j < 9 := fun j hj => (hE.2.2 j hj).2.2
  have hq := hu3 (mK M - 1) (by omega)
  show GG x kk nn ((lfo E ae ab ar an af ah ak ax ag z ++ (tw E ab 200 tx ++ (rw_ E ar R ++ (fw E an C ++ (fw E af D ++ (pw8 E ah V ++ (pw2 E ak U ++ (sw E ax S ++ (gw E ag G ++ (mw E a M))))))))))) 821 [(0, .ref b), (1, .ref (ae 0)), (2, .ref (a 0)), (3, .int (nI i))] []
  refine g_aload_n hX dL_law_821 1 rfl ?_
  have hc822 : CUT ((lfo E ae ab ar an af ah ak ax ag z ++ (tw E ab 200 tx ++ (rw_ E ar R ++ (fw E an C ++ (fw E af D ++ (pw8 E ah V ++ (pw2 E ak U ++ (sw E ax S ++ (gw E ag G ++ (mw E a M))))))))))) ((lfo E ae ab ar an af ah ak ax ag z ++ (fw E an C ++ (pw8 E ah V ++ (pw2 E ak U))))) ((tw E ab 200 tx ++ (rw_ E ar R ++ (fw E af D ++ (sw E ax S ++ (gw E ag G ++ (mw E a M))))))) [0, 4, 5, 6, 7, 8, 9, 10, 18, 19, 20, 21, 22, 23, 24, 25, 26, 27, 28, 29, 30, 31, 32, 33, 34, 35, 36, 37, 38, 39, 40, 41, 42, 43, 44, 45, 46, 47, 48, 49, 50, 51, 52, 53, 54, 55, 56, 57, 58, 59, 60, 61, 62, 63, 64, 65, 66, 67, 68, 69, 70, 71, 72, 73, 74, 75, 76, 77, 78, 79, 80, 81, 82, 83, 84, 85, 86, 87, 88, 89, 90, 91] [1, 2, 3, 11, 12, 13, 14, 15, 16, 17, 92, 93, 94, 95, 96, 97, 98, 99, 100, 101, 102, 103, 104, 105, 106, 107, 108, 109, 110] := ⟨rfl, rfl, rfl, rfl, rfl⟩
  refine g_VI hX hc822 [] [] (c_X5_back_y l E ae ab ar an af ah ak ax ag z C V U (by first | assumption | omega) (by first | assumption | omega)) gL_law_X5_back calX5_back rfl rfl rfl rfl 0 rfl rfl rfl rfl dL_law_822 rfl ⟨hkk, hnn⟩ (fun _ => (lfo E ae ab ar an af ah ak ax ag z ++ (tw E ab 200 tx ++ (rw_ E ar R ++ (fw E an ((pQ U) ((pz U) - 1)) ++ (fw E af D ++ (pw8 E ah (pclr V) ++ (pw2 E ak (ptk U) ++ (sw E ax S ++ (gw E ag G ++ (mw E a M))))))))))) [29, 0, 1, 2, 30, 31, 32, 33, 34, 35, 36, 3, 4, 5, 6, 7, 8, 9, 37, 38, 39, 40, 41, 42, 43, 44, 45, 46, 47, 48, 49, 50, 51, 52, 53, 54, 55, 56, 57, 58, 59, 60, 61, 62, 63, 64, 65, 66, 67, 68, 69, 70, 71, 72, 73, 74, 75, 76, 77, 78, 79, 80, 81, 82, 83, 84, 85, 86, 87, 88, 89, 90, 91, 92, 93, 94, 95, 96, 97, 98, 99, 100, 101, 102, 103, 104, 105, 106, 107, 108, 109, 110, 10, 11, 12, 13, 14, 15, 16, 17, 18, 19, 20, 21, 22, 23, 24, 25, 26, 27, 28] rfl (fun _ => rfl) (fun _ hu822 => ?_)
  refine g_aload_n hX dL_law_825 2 rfl ?_
  have hc826 : CUT ((lfo E ae ab ar an af ah ak ax ag z ++ (tw E ab 200 tx ++ (rw_ E ar R ++ (fw E an ((pQ U) ((pz U) - 1)) ++ (fw E af D ++ (pw8 E ah (pclr V) ++ (pw2 E ak (ptk U) ++ (sw E ax S ++ (gw E ag G ++ (mw E a M))))))))))) (mw E a M) ((lfo E ae ab ar an af ah ak ax ag z ++ (tw E ab 200 tx ++ (rw_ E ar R ++ (fw E an ((pQ U) ((pz U) - 1)) ++ (fw E af D ++ (pw8 E ah (pclr V) ++ (pw2 E ak (ptk U) ++ (sw E ax S ++ (gw E ag G)))))))))) [98, 99, 100, 101, 102, 103, 104, 105, 106, 107, 108, 109, 110] [0, 1, 2, 3, 4, 5, 6, 7, 8, 9, 10, 11, 12, 13, 14, 15, 16, 17, 18, 19, 20, 21, 22, 23, 24, 25, 26, 27, 28, 29, 30, 31, 32, 33, 34, 35, 36, 37, 38, 39, 40, 41, 42, 43, 44, 45, 46, 47, 48, 49, 50, 51, 52, 53, 54, 55, 56, 57, 58, 59, 60, 61, 62, 63, 64, 65, 66, 67, 68, 69, 70, 71, 72, 73, 74, 75, 76, 77, 78, 79, 80, 81, 82, 83, 84, 85, 86, 87, 88, 89, 90, 91, 92, 93, 94, 95, 96, 97] := ⟨rfl, rfl, rfl, rfl, rfl⟩
  refine g_VI hX hc826 [] [.int (nI ((pz U) - 1))] (c_X6_back_y l E a M (pQ U (pz U - 1)) (by first | assumption | omega) (by first | assumption | omega) (by rw [hu1]; exact hq.2.1.1.1.1) (by rw [hu1]; exact hq.2.2.1)) gL_law_X6_back calX6_back rfl rfl rfl rfl 98 rfl rfl rfl rfl dL_law_826 rfl ⟨hkk, hnn⟩ (fun u826 => (lfo E ae ab ar an af ah ak ax ag z ++ (tw E ab 200 tx ++ (rw_ E ar R ++ (fw E an ((pQ U) ((pz U) - 1)) ++ (fw E af D ++ (pw8 E ah (pclr V) ++ (pw2 E ak (ptk U) ++ (sw E ax S ++ (gw E ag G ++ (mw E a u826))))))))))) [0, 1, 2, 3, 4, 5, 6, 7, 8, 9, 10, 11, 12, 13, 14, 15, 16, 17, 18, 19, 20, 21, 22, 23, 24, 25, 26, 27, 28, 29, 30, 31, 32, 33, 34, 35, 36, 37, 38, 39, 40, 41, 42, 43, 44, 45, 46, 47, 48, 49, 50, 51, 52, 53, 54, 55, 56, 57, 58, 59, 60, 61, 62, 63, 64, 65, 66, 67, 68, 69, 70, 71, 72, 73, 74, 75, 76, 77, 78, 79, 80, 81, 82, 83, 84, 85, 86, 87, 88, 89, 90, 91, 92, 93, 94, 95, 96, 97, 98, 99, 100, 101, 102, 103, 104, 105, 106, 107, 108, 109, 110] rfl (fun _ => rfl) (fun u826 hu826 => ?_)
  refine g_icmp_eq hX 857 dL_law_829 (by decide) (fun _ => ?_) (fun c => (c (by rw [hu1])).elim)
  exact nx z tx R ((pQ U) ((pz U) - 1)) D (pclr V) (ptk U) S G u826 (INV_back hI h0 hu826.1 hu826.2.1 hu826.2.2.1 hu826.2.2.2.1 hu826.2.2.2.2)
set_option maxHeartbeats 4000000 in
set_option maxRecDepth 100000 in
theorem lc_count  (hc : LCX x l E b L xs kk nn t i) (hI : INV t z tx R C V U S M) (nx : NX x E ae ab ar an af ah ak ax ag a b kk nn t i)  : GG x kk nn (LWM E ae ab ar an af ah ak ax ag a z tx R C D V U S G M) 834 [(0, .ref b), (1, .ref (ae 0)), (2, .ref (a 0)), (3, .int (nI i))] [] := by
  obtain ⟨hX, hSX, hkk, hnn, hit, hi5, hL3⟩ := hc
  obtain ⟨⟨hz, htx, hmX, hmL, hRq⟩, ⟨hN1, hD, hSr, hTm⟩, hE, ⟨hv1, hv2, hv3⟩, ⟨hu1, hu2, hu3⟩⟩ := id hI
  have hm : 30 * t < 2 ^ 29 := by omega
  have hC := hD.1.1
  obtain ⟨h9, h64, h512, hTq, hIq⟩ := id hC
  have hSK := hD.1.2
  have hV := DI_VB hD (by omega)
  have htx2 : ∀ j, tx j < 2 ^ 16 := fun j => by have := htx j; omega
  have hmX2 : ∀ j, mX M j < 128 := by rw [hmX]; exact htx
  have h6 : hN S ≤ 6 := hE.2.1
  have hs9 : ∀ j, j < hN S → hS S j < 9 := fun j hj => (hE.2.2 j hj).2.2
  show GG x kk nn ((lfo E ae ab ar an af ah ak ax ag z ++ (tw E ab 200 tx ++ (rw_ E ar R ++ (fw E an C ++ (fw E af D ++ (pw8 E ah V ++ (pw2 E ak U ++ (sw E ax S ++ (gw E ag G ++ (mw E a M))))))))))) 834 [(0, .ref b), (1, .ref (ae 0)), (2, .ref (a 0)), (3, .int (nI i))] []
  refine g_aload_n hX dL_law_834 1 rfl ?_
  refine g_aload_n hX dL_law_835 0 rfl ?_
  refine g_iload_n hX dL_law_836 3 rfl ?_
  refine g_iconst hX (nI 1) dL_law_837 rfl ?_
  refine g_iadd hX (nI (i + 1)) dL_law_838 (nI_add _ _) ?_
  refine g_sld hX hSX (i := i + 1) ((xs (i + 1))) (by omega) (by omega) rfl dL_law_839 ?_
  have hc840 : CUT ((lfo E ae ab ar an af ah ak ax ag z ++ (tw E ab 200 tx ++ (rw_ E ar R ++ (fw E an C ++ (fw E af D ++ (pw8 E ah V ++ (pw2 E ak U ++ (sw E ax S ++ (gw E ag G ++ (mw E a M))))))))))) ((lfo E ae ab ar an af ah ak ax ag z ++ (fw E an C ++ (pw8 E ah V ++ (pw2 E ak U ++ (sw E ax S)))))) ((tw E ab 200 tx ++ (rw_ E ar R ++ (fw E af D ++ (gw E ag G ++ (mw E a M)))))) [0, 4, 5, 6, 7, 8, 9, 10, 18, 19, 20, 21, 22, 23, 24, 25, 26, 27, 28, 29, 30, 31, 32, 33, 34, 35, 36, 37, 38, 39, 40, 41, 42, 43, 44, 45, 46, 47, 48, 49, 50, 51, 52, 53, 54, 55, 56, 57, 58, 59, 60, 61, 62, 63, 64, 65, 66, 67, 68, 69, 70, 71, 72, 73, 74, 75, 76, 77, 78, 79, 80, 81, 82, 83, 84, 85, 86, 87, 88, 89, 90, 91, 92, 93, 94] [1, 2, 3, 11, 12, 13, 14, 15, 16, 17, 95, 96, 97, 98, 99, 100, 101, 102, 103, 104, 105, 106, 107, 108, 109, 110] := ⟨rfl, rfl, rfl, rfl, rfl⟩
  refine g_VI hX hc840 [.int (xs (i + 1))] [] (c_X5_count l E ae ab ar an af ah ak ax ag z C V U S (xs (i + 1)) (by first | assumption | omega) (by first | assumption | omega)) gL_law_X5_count calX5_count rfl rfl rfl rfl 0 rfl rfl rfl rfl dL_law_840 rfl ⟨hkk, hnn⟩ (fun _ => (lfo E ae ab ar an af ah ak ax ag z ++ (tw E ab 200 tx ++ (rw_ E ar R ++ (fw E an C ++ (fw E af D ++ (pw8 E ah V ++ (pw2 E ak U ++ (sw E ax S ++ (gw E ag G ++ (mw E a M))))))))))) [26, 0, 1, 2, 27, 28, 29, 30, 31, 32, 33, 3, 4, 5, 6, 7, 8, 9, 34, 35, 36, 37, 38, 39, 40, 41, 42, 43, 44, 45, 46, 47, 48, 49, 50, 51, 52, 53, 54, 55, 56, 57, 58, 59, 60, 61, 62, 63, 64, 65, 66, 67, 68, 69, 70, 71, 72, 73, 74, 75, 76, 77, 78, 79, 80, 81, 82, 83, 84, 85, 86, 87, 88, 89, 90, 91, 92, 93, 94, 95, 96, 97, 98, 99, 100, 101, 102, 103, 104, 105, 106, 107, 108, 109, 110, 10, 11, 12, 13, 14, 15, 16, 17, 18, 19, 20, 21, 22, 23, 24, 25] rfl (fun _ => rfl) (fun _ hu840 => ?_)
  refine g_aload_n hX dL_law_843 2 rfl ?_
  refine g_aload_n hX dL_law_844 0 rfl ?_
  refine g_iload_n hX dL_law_845 3 rfl ?_
  refine g_iconst hX (nI 1) dL_law_846 rfl ?_
  refine g_iadd hX (nI (i + 1)) dL_law_847 (nI_add _ _) ?_
  refine g_sld hX hSX (i := i + 1) ((xs (i + 1))) (by omega) (by omega) rfl dL_law_848 ?_
  have hc849 : CUT ((lfo E ae ab ar an af ah ak ax ag z ++ (tw E ab 200 tx ++ (rw_ E ar R ++ (fw E an C ++ (fw E af D ++ (pw8 E ah V ++ (pw2 E ak U ++ (sw E ax S ++ (gw E ag G ++ (mw E a M))))))))))) (mw E a M) ((lfo E ae ab ar an af ah ak ax ag z ++ (tw E ab 200 tx ++ (rw_ E ar R ++ (fw E an C ++ (fw E af D ++ (pw8 E ah V ++ (pw2 E ak U ++ (sw E ax S ++ (gw E ag G)))))))))) [98, 99, 100, 101, 102, 103, 104, 105, 106, 107, 108, 109, 110] [0, 1, 2, 3, 4, 5, 6, 7, 8, 9, 10, 11, 12, 13, 14, 15, 16, 17, 18, 19, 20, 21, 22, 23, 24, 25, 26, 27, 28, 29, 30, 31, 32, 33, 34, 35, 36, 37, 38, 39, 40, 41, 42, 43, 44, 45, 46, 47, 48, 49, 50, 51, 52, 53, 54, 55, 56, 57, 58, 59, 60, 61, 62, 63, 64, 65, 66, 67, 68, 69, 70, 71, 72, 73, 74, 75, 76, 77, 78, 79, 80, 81, 82, 83, 84, 85, 86, 87, 88, 89, 90, 91, 92, 93, 94, 95, 96, 97] := ⟨rfl, rfl, rfl, rfl, rfl⟩
  refine g_VI hX hc849 [.int (xs (i + 1))] [.int (cntV C ((hN S)) ((pz V)) ((pz U)) z (xs (i + 1)))] (c_X6_count l E a M C (30 * t) (xs (i + 1)) (by first | assumption | omega) (by first | assumption | omega) (by first | assumption | omega) (by first | assumption | omega) (by first | assumption | omega)) gL_law_X6_count calX6_count rfl rfl rfl rfl 98 rfl rfl rfl rfl dL_law_849 rfl ⟨hkk, hnn⟩ (fun u849 => (lfo E ae ab ar an af ah ak ax ag z ++ (tw E ab 200 tx ++ (rw_ E ar R ++ (fw E an C ++ (fw E af D ++ (pw8 E ah V ++ (pw2 E ak U ++ (sw E ax S ++ (gw E ag G ++ (mw E a u849))))))))))) [0, 1, 2, 3, 4, 5, 6, 7, 8, 9, 10, 11, 12, 13, 14, 15, 16, 17, 18, 19, 20, 21, 22, 23, 24, 25, 26, 27, 28, 29, 30, 31, 32, 33, 34, 35, 36, 37, 38, 39, 40, 41, 42, 43, 44, 45, 46, 47, 48, 49, 50, 51, 52, 53, 54, 55, 56, 57, 58, 59, 60, 61, 62, 63, 64, 65, 66, 67, 68, 69, 70, 71, 72, 73, 74, 75, 76, 77, 78, 79, 80, 81, 82, 83, 84, 85, 86, 87, 88, 89, 90, 91, 92, 93, 94, 95, 96, 97, 98, 99, 100, 101, 102, 103, 104, 105, 106, 107, 108, 109, 110] rfl (fun _ => rfl) (fun u849 hu849 => ?_)
  refine g_icmp_eq hX 857 dL_law_852 (by decide) (fun _ => ?_) (fun c => (c (by rw [hE.1, hv1, hu1, hmL])).elim)
  exact nx z tx R C D V U S G u849 (INV_KS hI hu849)
end LAWS
