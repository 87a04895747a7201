section LAWS
variable {x : GX} {l : Launch} {E : EV} {b L : Nat} {xs : Nat → Int32} {kk nn t i : Nat} {ae ab ar an af ah ak ax ag a : Nat → Nat}
variable {z : Nat} {tx : Nat → Nat} {R : RC} {C : FC} {D : FC} {V : PV} {U : PV} {S : SC} {G : GC} {M : MV}
set_option maxHeartbeats 4000000 in
set_option maxRecDepth 100000 in
theorem lc_say_n  (hc : LCX x l E b L xs kk nn t i) (hI : INV t z tx R C V U S M) (nx : NX x E ae ab ar an af ah ak ax ag a b kk nn t i) (hx : (win (xs (i + 1)) (nI 0) (nI 4) && win (xs (i + 2)) (nI 0) (nI 11) && (decide (xs (i + 1) = 0) || win (xs (i + 3)) (nI 0) (nI 11)) && win (xs (i + 4)) (nI 0) (nI 5)) = false) : GG x kk nn (LWM E ae ab ar an af ah ak ax ag a z tx R C D V U S G M) 338 [(0, .ref b), (1, .ref (ae 0)), (2, .ref (a 0)), (3, .int (nI i))] [] := by
  obtain ⟨hX, hSX, hkk, hnn, hit, hi5, hL3⟩ := hc
  obtain ⟨⟨hz, htx, hmX, hmL, hRq⟩, ⟨hN1, hD, hSr, hTm⟩, hE, ⟨hv1, hv2, hv3⟩, ⟨hu1, hu2, hu3⟩⟩ := id hI
  have hm : 30 * t < 2 ^ 29 := by omega
  have hC := hD.1.1
  obtain ⟨h9, h64, h512, hTq, hIq⟩ := id hC
  have hSK := hD.1.2
  have hV := DI_VB hD (by omega)
  have htx2 : ∀ j, tx j < 2 ^ 16 := fun j => by have := htx j; omega
  have hmX2 : ∀ j, mX M j < 128 := by rw [hmX]; exact htx
  have h6 : hN S ≤ 6 := hE.2.1
  have hs9 : ∀ j, j < hN S → hS S j < 9 := fun j hj => (hE.2.2 j hj).2.2
  show GG x kk nn ((lfo E ae ab ar an af ah ak ax ag z ++ (tw E ab 200 tx ++ (rw_ E ar R ++ (fw E an C ++ (fw E af D ++ (pw8 E ah V ++ (pw2 E ak U ++ (sw E ax S ++ (gw E ag G ++ (mw E a M))))))))))) 338 [(0, .ref b), (1, .ref (ae 0)), (2, .ref (a 0)), (3, .int (nI i))] []
  refine g_aload_n hX dL_law_338 1 rfl ?_
  refine g_aload_n hX dL_law_339 0 rfl ?_
  refine g_iload_n hX dL_law_340 3 rfl ?_
  refine g_iconst hX (nI 1) dL_law_341 rfl ?_
  refine g_iadd hX (nI (i + 1)) dL_law_342 (nI_add _ _) ?_
  refine g_sld hX hSX (i := i + 1) ((xs (i + 1))) (by omega) (by omega) rfl dL_law_343 ?_
  refine g_aload_n hX dL_law_344 0 rfl ?_
  refine g_iload_n hX dL_law_345 3 rfl ?_
  refine g_iconst hX (nI 2) dL_law_346 rfl ?_
  refine g_iadd hX (nI (i + 2)) dL_law_347 (nI_add _ _) ?_
  refine g_sld hX hSX (i := i + 2) ((xs (i + 2))) (by omega) (by omega) rfl dL_law_348 ?_
  refine g_aload_n hX dL_law_349 0 rfl ?_
  refine g_iload_n hX dL_law_350 3 rfl ?_
  refine g_iconst hX (nI 3) dL_law_351 rfl ?_
  refine g_iadd hX (nI (i + 3)) dL_law_352 (nI_add _ _) ?_
  refine g_sld hX hSX (i := i + 3) ((xs (i + 3))) (by omega) (by omega) rfl dL_law_353 ?_
  refine g_aload_n hX dL_law_354 0 rfl ?_
  refine g_iload_n hX dL_law_355 3 rfl ?_
  refine g_iconst hX (nI 4) dL_law_356 rfl ?_
  refine g_iadd hX (nI (i + 4)) dL_law_357 (nI_add _ _) ?_
  refine g_sld hX hSX (i := i + 4) ((xs (i + 4))) (by omega) (by omega) rfl dL_law_358 ?_
  have hc359 : CUT ((lfo E ae ab ar an af ah ak ax ag z ++ (tw E ab 200 tx ++ (rw_ E ar R ++ (fw E an C ++ (fw E af D ++ (pw8 E ah V ++ (pw2 E ak U ++ (sw E ax S ++ (gw E ag G ++ (mw E a M))))))))))) (lfo E ae ab ar an af ah ak ax ag z) ((tw E ab 200 tx ++ (rw_ E ar R ++ (fw E an C ++ (fw E af D ++ (pw8 E ah V ++ (pw2 E ak U ++ (sw E ax S ++ (gw E ag G ++ (mw E a M)))))))))) [0] [1, 2, 3, 4, 5, 6, 7, 8, 9, 10, 11, 12, 13, 14, 15, 16, 17, 18, 19, 20, 21, 22, 23, 24, 25, 26, 27, 28, 29, 30, 31, 32, 33, 34, 35, 36, 37, 38, 39, 40, 41, 42, 43, 44, 45, 46, 47, 48, 49, 50, 51, 52, 53, 54, 55, 56, 57, 58, 59, 60, 61, 62, 63, 64, 65, 66, 67, 68, 69, 70, 71, 72, 73, 74, 75, 76, 77, 78, 79, 80, 81, 82, 83, 84, 85, 86, 87, 88, 89, 90, 91, 92, 93, 94, 95, 96, 97, 98, 99, 100, 101, 102, 103, 104, 105, 106, 107, 108, 109, 110] := ⟨rfl, rfl, rfl, rfl, rfl⟩
  refine g_VI hX hc359 [.int (xs (i + 1)), .int (xs (i + 2)), .int (xs (i + 3)), .int (xs (i + 4))] [] (c_X5_say_n l E ae ab ar an af ah ak ax ag z (xs (i + 1)) (xs (i + 2)) (xs (i + 3)) (xs (i + 4)) (by first | assumption | omega)) gL_law_X5_say calX5_say rfl rfl rfl rfl 0 rfl rfl rfl rfl dL_law_359 rfl ⟨hkk, hnn⟩ (fun _ => (lfo E ae ab ar an af ah ak ax ag z ++ (tw E ab 200 tx ++ (rw_ E ar R ++ (fw E an C ++ (fw E af D ++ (pw8 E ah V ++ (pw2 E ak U ++ (sw E ax S ++ (gw E ag G ++ (mw E a M))))))))))) [110, 0, 1, 2, 3, 4, 5, 6, 7, 8, 9, 10, 11, 12, 13, 14, 15, 16, 17, 18, 19, 20, 21, 22, 23, 24, 25, 26, 27, 28, 29, 30, 31, 32, 33, 34, 35, 36, 37, 38, 39, 40, 41, 42, 43, 44, 45, 46, 47, 48, 49, 50, 51, 52, 53, 54, 55, 56, 57, 58, 59, 60, 61, 62, 63, 64, 65, 66, 67, 68, 69, 70, 71, 72, 73, 74, 75, 76, 77, 78, 79, 80, 81, 82, 83, 84, 85, 86, 87, 88, 89, 90, 91, 92, 93, 94, 95, 96, 97, 98, 99, 100, 101, 102, 103, 104, 105, 106, 107, 108, 109] rfl (fun _ => rfl) (fun _ hu359 => ?_)
  refine g_aload_n hX dL_law_362 2 rfl ?_
  refine g_aload_n hX dL_law_363 0 rfl ?_
  refine g_iload_n hX dL_law_364 3 rfl ?_
  refine g_iconst hX (nI 1) dL_law_365 rfl ?_
  refine g_iadd hX (nI (i + 1)) dL_law_366 (nI_add _ _) ?_
  refine g_sld hX hSX (i := i + 1) ((xs (i + 1))) (by omega) (by omega) rfl dL_law_367 ?_
  refine g_aload_n hX dL_law_368 0 rfl ?_
  refine g_iload_n hX dL_law_369 3 rfl ?_
  refine g_iconst hX (nI 2) dL_law_370 rfl ?_
  refine g_iadd hX (nI (i + 2)) dL_law_371 (nI_add _ _) ?_
  refine g_sld hX hSX (i := i + 2) ((xs (i + 2))) (by omega) (by omega) rfl dL_law_372 ?_
  refine g_aload_n hX dL_law_373 0 rfl ?_
  refine g_iload_n hX dL_law_374 3 rfl ?_
  refine g_iconst hX (nI 3) dL_law_375 rfl ?_
  refine g_iadd hX (nI (i + 3)) dL_law_376 (nI_add _ _) ?_
  refine g_sld hX hSX (i := i + 3) ((xs (i + 3))) (by omega) (by omega) rfl dL_law_377 ?_
  refine g_aload_n hX dL_law_378 0 rfl ?_
  refine g_iload_n hX dL_law_379 3 rfl ?_
  refine g_iconst hX (nI 4) dL_law_380 rfl ?_
  refine g_iadd hX (nI (i + 4)) dL_law_381 (nI_add _ _) ?_
  refine g_sld hX hSX (i := i + 4) ((xs (i + 4))) (by omega) (by omega) rfl dL_law_382 ?_
  have hc383 : CUT ((lfo E ae ab ar an af ah ak ax ag z ++ (tw E ab 200 tx ++ (rw_ E ar R ++ (fw E an C ++ (fw E af D ++ (pw8 E ah V ++ (pw2 E ak U ++ (sw E ax S ++ (gw E ag G ++ (mw E a M))))))))))) (mw E a M) ((lfo E ae ab ar an af ah ak ax ag z ++ (tw E ab 200 tx ++ (rw_ E ar R ++ (fw E an C ++ (fw E af D ++ (pw8 E ah V ++ (pw2 E ak U ++ (sw E ax S ++ (gw E ag G)))))))))) [98, 99, 100, 101, 102, 103, 104, 105, 106, 107, 108, 109, 110] [0, 1, 2, 3, 4, 5, 6, 7, 8, 9, 10, 11, 12, 13, 14, 15, 16, 17, 18, 19, 20, 21, 22, 23, 24, 25, 26, 27, 28, 29, 30, 31, 32, 33, 34, 35, 36, 37, 38, 39, 40, 41, 42, 43, 44, 45, 46, 47, 48, 49, 50, 51, 52, 53, 54, 55, 56, 57, 58, 59, 60, 61, 62, 63, 64, 65, 66, 67, 68, 69, 70, 71, 72, 73, 74, 75, 76, 77, 78, 79, 80, 81, 82, 83, 84, 85, 86, 87, 88, 89, 90, 91, 92, 93, 94, 95, 96, 97] := ⟨rfl, rfl, rfl, rfl, rfl⟩
  refine g_VI hX hc383 [.int (xs (i + 1)), .int (xs (i + 2)), .int (xs (i + 3)), .int (xs (i + 4))] [.int (-1)] (c_X6_say_n l E a M C (30 * t) (xs (i + 1)) (xs (i + 2)) (xs (i + 3)) (xs (i + 4)) (by first | assumption | omega) (by first | assumption | omega) (by first | assumption | omega) (by first | assumption | omega) (by first | assumption | omega) (by first | assumption | omega)) gL_law_X6_say calX6_say rfl rfl rfl rfl 98 rfl rfl rfl rfl dL_law_383 rfl ⟨hkk, hnn⟩ (fun u383 => (lfo E ae ab ar an af ah ak ax ag z ++ (tw E ab 200 tx ++ (rw_ E ar R ++ (fw E an C ++ (fw E af D ++ (pw8 E ah V ++ (pw2 E ak U ++ (sw E ax S ++ (gw E ag G ++ (mw E a u383))))))))))) [0, 1, 2, 3, 4, 5, 6, 7, 8, 9, 10, 11, 12, 13, 14, 15, 16, 17, 18, 19, 20, 21, 22, 23, 24, 25, 26, 27, 28, 29, 30, 31, 32, 33, 34, 35, 36, 37, 38, 39, 40, 41, 42, 43, 44, 45, 46, 47, 48, 49, 50, 51, 52, 53, 54, 55, 56, 57, 58, 59, 60, 61, 62, 63, 64, 65, 66, 67, 68, 69, 70, 71, 72, 73, 74, 75, 76, 77, 78, 79, 80, 81, 82, 83, 84, 85, 86, 87, 88, 89, 90, 91, 92, 93, 94, 95, 96, 97, 98, 99, 100, 101, 102, 103, 104, 105, 106, 107, 108, 109, 110] rfl (fun _ => rfl) (fun u383 hu383 => ?_)
  refine g_icmp_eq hX 857 dL_law_386 (by decide) (fun _ => ?_) (fun c => (c (rfl)).elim)
  exact nx z tx R C D V U S G u383 (INV_KS hI hu383)
set_option maxHeartbeats 4000000 in
set_option maxRecDepth 100000 in
theorem lc_say_f (k : Nat) (q : Nat) (q2 : Nat) (p : Nat) (hc : LCX x l E b L xs kk nn t i) (hI : INV t z tx R C V U S M) (nx : NX x E ae ab ar an af ah ak ax ag a b kk nn t i) (e1 : xs (i + 1) = nI k) (e2 : xs (i + 2) = nI q) (e3 : xs (i + 3) = nI q2) (e4 : xs (i + 4) = nI p) (hk : k < 5) (hq : q < 12) (hq2 : k = 0 ∨ q2 < 12) (hp : p < 6) (hNN : cN C = 9) : GG x kk nn (LWM E ae ab ar an af ah ak ax ag a z tx R C D V U S G M) 338 [(0, .ref b), (1, .ref (ae 0)), (2, .ref (a 0)), (3, .int (nI i))] [] := by
  obtain ⟨hX, hSX, hkk, hnn, hit, hi5, hL3⟩ := hc
  obtain ⟨⟨hz, htx, hmX, hmL, hRq⟩, ⟨hN1, hD, hSr, hTm⟩, hE, ⟨hv1, hv2, hv3⟩, ⟨hu1, hu2, hu3⟩⟩ := id hI
  have hm : 30 * t < 2 ^ 29 := by omega
  have hC := hD.1.1
  obtain ⟨h9, h64, h512, hTq, hIq⟩ := id hC
  have hSK := hD.1.2
  have hV := DI_VB hD (by omega)
  have htx2 : ∀ j, tx j < 2 ^ 16 := fun j => by have := htx j; omega
  have hmX2 : ∀ j, mX M j < 128 := by rw [hmX]; exact htx
  have h6 : hN S ≤ 6 := hE.2.1
  have hs9 : ∀ j, j < hN S → hS S j < 9 := fun j hj => (hE.2.2 j hj).2.2
  show GG x kk nn ((lfo E ae ab ar an af ah ak ax ag z ++ (tw E ab 200 tx ++ (rw_ E ar R ++ (fw E an C ++ (fw E af D ++ (pw8 E ah V ++ (pw2 E ak U ++ (sw E ax S ++ (gw E ag G ++ (mw E a M))))))))))) 338 [(0, .ref b), (1, .ref (ae 0)), (2, .ref (a 0)), (3, .int (nI i))] []
  refine g_aload_n hX dL_law_338 1 rfl ?_
  refine g_aload_n hX dL_law_339 0 rfl ?_
  refine g_iload_n hX dL_law_340 3 rfl ?_
  refine g_iconst hX (nI 1) dL_law_341 rfl ?_
  refine g_iadd hX (nI (i + 1)) dL_law_342 (nI_add _ _) ?_
  refine g_sld hX hSX (i := i + 1) (nI k) (by omega) (by omega) e1 dL_law_343 ?_
  refine g_aload_n hX dL_law_344 0 rfl ?_
  refine g_iload_n hX dL_law_345 3 rfl ?_
  refine g_iconst hX (nI 2) dL_law_346 rfl ?_
  refine g_iadd hX (nI (i + 2)) dL_law_347 (nI_add _ _) ?_
  refine g_sld hX hSX (i := i + 2) (nI q) (by omega) (by omega) e2 dL_law_348 ?_
  refine g_aload_n hX dL_law_349 0 rfl ?_
  refine g_iload_n hX dL_law_350 3 rfl ?_
  refine g_iconst hX (nI 3) dL_law_351 rfl ?_
  refine g_iadd hX (nI (i + 3)) dL_law_352 (nI_add _ _) ?_
  refine g_sld hX hSX (i := i + 3) (nI q2) (by omega) (by omega) e3 dL_law_353 ?_
  refine g_aload_n hX dL_law_354 0 rfl ?_
  refine g_iload_n hX dL_law_355 3 rfl ?_
  refine g_iconst hX (nI 4) dL_law_356 rfl ?_
  refine g_iadd hX (nI (i + 4)) dL_law_357 (nI_add _ _) ?_
  refine g_sld hX hSX (i := i + 4) (nI p) (by omega) (by omega) e4 dL_law_358 ?_
  have hc359 : CUT ((lfo E ae ab ar an af ah ak ax ag z ++ (tw E ab 200 tx ++ (rw_ E ar R ++ (fw E an C ++ (fw E af D ++ (pw8 E ah V ++ (pw2 E ak U ++ (sw E ax S ++ (gw E ag G ++ (mw E a M))))))))))) ((lfo E ae ab ar an af ah ak ax ag z) ++ (fw E an C)) ((tw E ab 200 tx ++ (rw_ E ar R ++ (fw E af D ++ (pw8 E ah V ++ (pw2 E ak U ++ (sw E ax S ++ (gw E ag G ++ (mw E a M))))))))) [0, 4, 5, 6, 7, 8, 9, 10] [1, 2, 3, 11, 12, 13, 14, 15, 16, 17, 18, 19, 20, 21, 22, 23, 24, 25, 26, 27, 28, 29, 30, 31, 32, 33, 34, 35, 36, 37, 38, 39, 40, 41, 42, 43, 44, 45, 46, 47, 48, 49, 50, 51, 52, 53, 54, 55, 56, 57, 58, 59, 60, 61, 62, 63, 64, 65, 66, 67, 68, 69, 70, 71, 72, 73, 74, 75, 76, 77, 78, 79, 80, 81, 82, 83, 84, 85, 86, 87, 88, 89, 90, 91, 92, 93, 94, 95, 96, 97, 98, 99, 100, 101, 102, 103, 104, 105, 106, 107, 108, 109, 110] := ⟨rfl, rfl, rfl, rfl, rfl⟩
  refine g_VI hX hc359 [.int (nI k), .int (nI q), .int (nI q2), .int (nI p)] [] (c_X5_say_f l E ae ab ar an af ah ak ax ag z C (30 * t) k q q2 p (by first | assumption | omega) (by first | assumption | omega) hk hq hq2 hp (by first | assumption | omega)) gL_law_X5_say calX5_say rfl rfl rfl rfl 0 rfl rfl rfl rfl dL_law_359 rfl ⟨hkk, hnn⟩ (fun _ => (lfo E ae ab ar an af ah ak ax ag z ++ (tw E ab 200 tx ++ (rw_ E ar R ++ (fw E an C ++ (fw E af D ++ (pw8 E ah V ++ (pw2 E ak U ++ (sw E ax S ++ (gw E ag G ++ (mw E a M))))))))))) [103, 0, 1, 2, 104, 105, 106, 107, 108, 109, 110, 3, 4, 5, 6, 7, 8, 9, 10, 11, 12, 13, 14, 15, 16, 17, 18, 19, 20, 21, 22, 23, 24, 25, 26, 27, 28, 29, 30, 31, 32, 33, 34, 35, 36, 37, 38, 39, 40, 41, 42, 43, 44, 45, 46, 47, 48, 49, 50, 51, 52, 53, 54, 55, 56, 57, 58, 59, 60, 61, 62, 63, 64, 65, 66, 67, 68, 69, 70, 71, 72, 73, 74, 75, 76, 77, 78, 79, 80, 81, 82, 83, 84, 85, 86, 87, 88, 89, 90, 91, 92, 93, 94, 95, 96, 97, 98, 99, 100, 101, 102] rfl (fun _ => rfl) (fun _ hu359 => ?_)
  refine g_aload_n hX dL_law_362 2 rfl ?_
  refine g_aload_n hX dL_law_363 0 rfl ?_
  refine g_iload_n hX dL_law_364 3 rfl ?_
  refine g_iconst hX (nI 1) dL_law_365 rfl ?_
  refine g_iadd hX (nI (i + 1)) dL_law_366 (nI_add _ _) ?_
  refine g_sld hX hSX (i := i + 1) (nI k) (by omega) (by omega) e1 dL_law_367 ?_
  refine g_aload_n hX dL_law_368 0 rfl ?_
  refine g_iload_n hX dL_law_369 3 rfl ?_
  refine g_iconst hX (nI 2) dL_law_370 rfl ?_
  refine g_iadd hX (nI (i + 2)) dL_law_371 (nI_add _ _) ?_
  refine g_sld hX hSX (i := i + 2) (nI q) (by omega) (by omega) e2 dL_law_372 ?_
  refine g_aload_n hX dL_law_373 0 rfl ?_
  refine g_iload_n hX dL_law_374 3 rfl ?_
  refine g_iconst hX (nI 3) dL_law_375 rfl ?_
  refine g_iadd hX (nI (i + 3)) dL_law_376 (nI_add _ _) ?_
  refine g_sld hX hSX (i := i + 3) (nI q2) (by omega) (by omega) e3 dL_law_377 ?_
  refine g_aload_n hX dL_law_378 0 rfl ?_
  refine g_iload_n hX dL_law_379 3 rfl ?_
  refine g_iconst hX (nI 4) dL_law_380 rfl ?_
  refine g_iadd hX (nI (i + 4)) dL_law_381 (nI_add _ _) ?_
  refine g_sld hX hSX (i := i + 4) (nI p) (by omega) (by omega) e4 dL_law_382 ?_
  have hc383 : CUT ((lfo E ae ab ar an af ah ak ax ag z ++ (tw E ab 200 tx ++ (rw_ E ar R ++ (fw E an C ++ (fw E af D ++ (pw8 E ah V ++ (pw2 E ak U ++ (sw E ax S ++ (gw E ag G ++ (mw E a M))))))))))) (mw E a M) ((lfo E ae ab ar an af ah ak ax ag z ++ (tw E ab 200 tx ++ (rw_ E ar R ++ (fw E an C ++ (fw E af D ++ (pw8 E ah V ++ (pw2 E ak U ++ (sw E ax S ++ (gw E ag G)))))))))) [98, 99, 100, 101, 102, 103, 104, 105, 106, 107, 108, 109, 110] [0, 1, 2, 3, 4, 5, 6, 7, 8, 9, 10, 11, 12, 13, 14, 15, 16, 17, 18, 19, 20, 21, 22, 23, 24, 25, 26, 27, 28, 29, 30, 31, 32, 33, 34, 35, 36, 37, 38, 39, 40, 41, 42, 43, 44, 45, 46, 47, 48, 49, 50, 51, 52, 53, 54, 55, 56, 57, 58, 59, 60, 61, 62, 63, 64, 65, 66, 67, 68, 69, 70, 71, 72, 73, 74, 75, 76, 77, 78, 79, 80, 81, 82, 83, 84, 85, 86, 87, 88, 89, 90, 91, 92, 93, 94, 95, 96, 97] := ⟨rfl, rfl, rfl, rfl, rfl⟩
  refine g_VI hX hc383 [.int (nI k), .int (nI q), .int (nI q2), .int (nI p)] [.int (-3)] (c_X6_say_f l E a M C (30 * t) k q q2 p (by first | assumption | omega) (by first | assumption | omega) (by first | assumption | omega) (by first | assumption | omega) (by first | assumption | omega) hk hq hq2 hp (by first | assumption | omega)) gL_law_X6_say calX6_say rfl rfl rfl rfl 98 rfl rfl rfl rfl dL_law_383 rfl ⟨hkk, hnn⟩ (fun u383 => (lfo E ae ab ar an af ah ak ax ag z ++ (tw E ab 200 tx ++ (rw_ E ar R ++ (fw E an C ++ (fw E af D ++ (pw8 E ah V ++ (pw2 E ak U ++ (sw E ax S ++ (gw E ag G ++ (mw E a u383))))))))))) [0, 1, 2, 3, 4, 5, 6, 7, 8, 9, 10, 11, 12, 13, 14, 15, 16, 17, 18, 19, 20, 21, 22, 23, 24, 25, 26, 27, 28, 29, 30, 31, 32, 33, 34, 35, 36, 37, 38, 39, 40, 41, 42, 43, 44, 45, 46, 47, 48, 49, 50, 51, 52, 53, 54, 55, 56, 57, 58, 59, 60, 61, 62, 63, 64, 65, 66, 67, 68, 69, 70, 71, 72, 73, 74, 75, 76, 77, 78, 79, 80, 81, 82, 83, 84, 85, 86, 87, 88, 89, 90, 91, 92, 93, 94, 95, 96, 97, 98, 99, 100, 101, 102, 103, 104, 105, 106, 107, 108, 109, 110] rfl (fun _ => rfl) (fun u383 hu383 => ?_)
  refine g_icmp_eq hX 857 dL_law_386 (by decide) (fun _ => ?_) (fun c => (c (rfl)).elim)
  exact nx z tx R C D V U S G u383 (INV_KS hI hu383)
set_option maxHeartbeats 4000000 in
set_option maxRecDepth 100000 in
theorem lc_say_y (k : Nat) (q : Nat) (q2 : Nat) (p : Nat) (hc : LCX x l E b L xs kk nn t i) (hI : INV t z tx R C V U S M) (nx : NX x E ae ab ar an af ah ak ax ag a b kk nn t i) (e1 : xs (i + 1) = nI k) (e2 : xs (i + 2) = nI q) (e3 : xs (i + 3) = nI q2) (e4 : xs (i + 4) = nI p) (hk : k < 5) (hq : q < 12) (hq2 : k = 0 ∨ q2 < 12) (hp : p < 6) (hNN : cN C < 9) : GG x kk nn (LWM E ae ab ar an af ah ak ax ag a z tx R C D V U S G M) 338 [(0, .ref b), (1, .ref (ae 0)), (2, .ref (a 0)), (3, .int (nI i))] [] := by
  obtain ⟨hX, hSX, hkk, hnn, hit, hi5, hL3⟩ := hc
  obtain ⟨⟨hz, htx, hmX, hmL, hRq⟩, ⟨hN1, hD, hSr, hTm⟩, hE, ⟨hv1, hv2, hv3⟩, ⟨hu1, hu2, hu3⟩⟩ := id hI
  have hm : 30 * t < 2 ^ 29 := by omega
  have hC := hD.1.1
  obtain ⟨h9, h64, h512, hTq, hIq⟩ := id hC
  have hSK := hD.1.2
  have hV := DI_VB hD (by omega)
  have htx2 : ∀ j, tx j < 2 ^ 16 := fun j => by have := htx j; omega
  have hmX2 : ∀ j, mX M j < 128 := by rw [hmX]; exact htx
  have h6 : hN S ≤ 6 := hE.2.1
  have hs9 : ∀ j, j < hN S → hS S j < 9 := fun j hj => (hE.2.2 j hj).2.2
  have hb12 : (if k = 0 then 0 else q2) < 12 := by split <;> omega
  show GG x kk nn ((lfo E ae ab ar an af ah ak ax ag z ++ (tw E ab 200 tx ++ (rw_ E ar R ++ (fw E an C ++ (fw E af D ++ (pw8 E ah V ++ (pw2 E ak U ++ (sw E ax S ++ (gw E ag G ++ (mw E a M))))))))))) 338 [(0, .ref b), (1, .ref (ae 0)), (2, .ref (a 0)), (3, .int (nI i))] []
  refine g_aload_n hX dL_law_338 1 rfl ?_
  refine g_aload_n hX dL_law_339 0 rfl ?_
  refine g_iload_n hX dL_law_340 3 rfl ?_
  refine g_iconst hX (nI 1) dL_law_341 rfl ?_
  refine g_iadd hX (nI (i + 1)) dL_law_342 (nI_add _ _) ?_
  refine g_sld hX hSX (i := i + 1) (nI k) (by omega) (by omega) e1 dL_law_343 ?_
  refine g_aload_n hX dL_law_344 0 rfl ?_
  refine g_iload_n hX dL_law_345 3 rfl ?_
  refine g_iconst hX (nI 2) dL_law_346 rfl ?_
  refine g_iadd hX (nI (i + 2)) dL_law_347 (nI_add _ _) ?_
  refine g_sld hX hSX (i := i + 2) (nI q) (by omega) (by omega) e2 dL_law_348 ?_
  refine g_aload_n hX dL_law_349 0 rfl ?_
  refine g_iload_n hX dL_law_350 3 rfl ?_
  refine g_iconst hX (nI 3) dL_law_351 rfl ?_
  refine g_iadd hX (nI (i + 3)) dL_law_352 (nI_add _ _) ?_
  refine g_sld hX hSX (i := i + 3) (nI q2) (by omega) (by omega) e3 dL_law_353 ?_
  refine g_aload_n hX dL_law_354 0 rfl ?_
  refine g_iload_n hX dL_law_355 3 rfl ?_
  refine g_iconst hX (nI 4) dL_law_356 rfl ?_
  refine g_iadd hX (nI (i + 4)) dL_law_357 (nI_add _ _) ?_
  refine g_sld hX hSX (i := i + 4) (nI p) (by omega) (by omega) e4 dL_law_358 ?_
  have hc359 : CUT ((lfo E ae ab ar an af ah ak ax ag z ++ (tw E ab 200 tx ++ (rw_ E ar R ++ (fw E an C ++ (fw E af D ++ (pw8 E ah V ++ (pw2 E ak U ++ (sw E ax S ++ (gw E ag G ++ (mw E a M))))))))))) ((lfo E ae ab ar an af ah ak ax ag z ++ (fw E an C ++ (pw8 E ah V)))) ((tw E ab 200 tx ++ (rw_ E ar R ++ (fw E af D ++ (pw2 E ak U ++ (sw E ax S ++ (gw E ag G ++ (mw E a M)))))))) [0, 4, 5, 6, 7, 8, 9, 10, 18, 19, 20, 21, 22, 23, 24, 25, 26, 27, 28, 29, 30, 31, 32, 33, 34, 35, 36, 37, 38, 39, 40, 41, 42, 43, 44, 45, 46, 47, 48, 49, 50, 51, 52, 53, 54, 55, 56, 57, 58, 59, 60, 61, 62, 63, 64, 65, 66, 67, 68, 69, 70, 71, 72, 73, 74, 75] [1, 2, 3, 11, 12, 13, 14, 15, 16, 17, 76, 77, 78, 79, 80, 81, 82, 83, 84, 85, 86, 87, 88, 89, 90, 91, 92, 93, 94, 95, 96, 97, 98, 99, 100, 101, 102, 103, 104, 105, 106, 107, 108, 109, 110] := ⟨rfl, rfl, rfl, rfl, rfl⟩
  refine g_VI hX hc359 [.int (nI k), .int (nI q), .int (nI q2), .int (nI p)] [] (c_X5_say_y l E ae ab ar an af ah ak ax ag z C V (30 * t) k q q2 p (by first | assumption | omega) (by first | assumption | omega) (by first | assumption | omega) hk hq hq2 hp (by first | assumption | omega)) gL_law_X5_say calX5_say rfl rfl rfl rfl 0 rfl rfl rfl rfl dL_law_359 rfl ⟨hkk, hnn⟩ (fun _ => (lfo E ae ab ar an af ah ak ax ag z ++ (tw E ab 200 tx ++ (rw_ E ar R ++ (fw E an (addC C k q (if k = 0 then 0 else q2) p) ++ (fw E af D ++ (pw8 E ah (padd8 V C) ++ (pw2 E ak U ++ (sw E ax S ++ (gw E ag G ++ (mw E a M))))))))))) [45, 0, 1, 2, 46, 47, 48, 49, 50, 51, 52, 3, 4, 5, 6, 7, 8, 9, 53, 54, 55, 56, 57, 58, 59, 60, 61, 62, 63, 64, 65, 66, 67, 68, 69, 70, 71, 72, 73, 74, 75, 76, 77, 78, 79, 80, 81, 82, 83, 84, 85, 86, 87, 88, 89, 90, 91, 92, 93, 94, 95, 96, 97, 98, 99, 100, 101, 102, 103, 104, 105, 106, 107, 108, 109, 110, 10, 11, 12, 13, 14, 15, 16, 17, 18, 19, 20, 21, 22, 23, 24, 25, 26, 27, 28, 29, 30, 31, 32, 33, 34, 35, 36, 37, 38, 39, 40, 41, 42, 43, 44] rfl (fun _ => rfl) (fun _ hu359 => ?_)
  refine g_aload_n hX dL_law_362 2 rfl ?_
  refine g_aload_n hX dL_law_363 0 rfl ?_
  refine g_iload_n hX dL_law_364 3 rfl ?_
  refine g_iconst hX (nI 1) dL_law_365 rfl ?_
  refine g_iadd hX (nI (i + 1)) dL_law_366 (nI_add _ _) ?_
  refine g_sld hX hSX (i := i + 1) (nI k) (by omega) (by omega) e1 dL_law_367 ?_
  refine g_aload_n hX dL_law_368 0 rfl ?_
  refine g_iload_n hX dL_law_369 3 rfl ?_
  refine g_iconst hX (nI 2) dL_law_370 rfl ?_
  refine g_iadd hX (nI (i + 2)) dL_law_371 (nI_add _ _) ?_
  refine g_sld hX hSX (i := i + 2) (nI q) (by omega) (by omega) e2 dL_law_372 ?_
  refine g_aload_n hX dL_law_373 0 rfl ?_
  refine g_iload_n hX dL_law_374 3 rfl ?_
  refine g_iconst hX (nI 3) dL_law_375 rfl ?_
  refine g_iadd hX (nI (i + 3)) dL_law_376 (nI_add _ _) ?_
  refine g_sld hX hSX (i := i + 3) (nI q2) (by omega) (by omega) e3 dL_law_377 ?_
  refine g_aload_n hX dL_law_378 0 rfl ?_
  refine g_iload_n hX dL_law_379 3 rfl ?_
  refine g_iconst hX (nI 4) dL_law_380 rfl ?_
  refine g_iadd hX (nI (i + 4)) dL_law_381 (nI_add _ _) ?_
  refine g_sld hX hSX (i := i + 4) (nI p) (by omega) (by omega) e4 dL_law_382 ?_
  have hc383 : CUT ((lfo E ae ab ar an af ah ak ax ag z ++ (tw E ab 200 tx ++ (rw_ E ar R ++ (fw E an (addC C k q (if k = 0 then 0 else q2) p) ++ (fw E af D ++ (pw8 E ah (padd8 V C) ++ (pw2 E ak U ++ (sw E ax S ++ (gw E ag G ++ (mw E a M))))))))))) (mw E a M) ((lfo E ae ab ar an af ah ak ax ag z ++ (tw E ab 200 tx ++ (rw_ E ar R ++ (fw E an (addC C k q (if k = 0 then 0 else q2) p) ++ (fw E af D ++ (pw8 E ah (padd8 V C) ++ (pw2 E ak U ++ (sw E ax S ++ (gw E ag G)))))))))) [98, 99, 100, 101, 102, 103, 104, 105, 106, 107, 108, 109, 110] [0, 1, 2, 3, 4, 5, 6, 7, 8, 9, 10, 11, 12, 13, 14, 15, 16, 17, 18, 19, 20, 21, 22, 23, 24, 25, 26, 27, 28, 29, 30, 31, 32, 33, 34, 35, 36, 37, 38, 39, 40, 41, 42, 43, 44, 45, 46, 47, 48, 49, 50, 51, 52, 53, 54, 55, 56, 57, 58, 59, 60, 61, 62, 63, 64, 65, 66, 67, 68, 69, 70, 71, 72, 73, 74, 75, 76, 77, 78, 79, 80, 81, 82, 83, 84, 85, 86, 87, 88, 89, 90, 91, 92, 93, 94, 95, 96, 97] := ⟨rfl, rfl, rfl, rfl, rfl⟩
  refine g_VI hX hc383 [.int (nI k), .int (nI q), .int (nI q2), .int (nI p)] [.int (nI (cN C))] (c_X6_say_y l E a M C (30 * t) k q q2 p (by first | assumption | omega) (by first | assumption | omega) (by first | assumption | omega) (by first | assumption | omega) (by first | assumption | omega) (by first | assumption | omega) hk hq hq2 hp (by first | assumption | omega)) gL_law_X6_say calX6_say rfl rfl rfl rfl 98 rfl rfl rfl rfl dL_law_383 rfl ⟨hkk, hnn⟩ (fun u383 => (lfo E ae ab ar an af ah ak ax ag z ++ (tw E ab 200 tx ++ (rw_ E ar R ++ (fw E an (addC C k q (if k = 0 then 0 else q2) p) ++ (fw E af D ++ (pw8 E ah (padd8 V C) ++ (pw2 E ak U ++ (sw E ax S ++ (gw E ag G ++ (mw E a u383))))))))))) [0, 1, 2, 3, 4, 5, 6, 7, 8, 9, 10, 11, 12, 13, 14, 15, 16, 17, 18, 19, 20, 21, 22, 23, 24, 25, 26, 27, 28, 29, 30, 31, 32, 33, 34, 35, 36, 37, 38, 39, 40, 41, 42, 43, 44, 45, 46, 47, 48, 49, 50, 51, 52, 53, 54, 55, 56, 57, 58, 59, 60, 61, 62, 63, 64, 65, 66, 67, 68, 69, 70, 71, 72, 73, 74, 75, 76, 77, 78, 79, 80, 81, 82, 83, 84, 85, 86, 87, 88, 89, 90, 91, 92, 93, 94, 95, 96, 97, 98, 99, 100, 101, 102, 103, 104, 105, 106, 107, 108, 109, 110] rfl (fun _ => rfl) (fun u383 hu383 => ?_)
  refine g_icmp_eq hX 857 dL_law_386 (by decide) (fun _ => ?_) (fun c => (c (rfl)).elim)
  exact nx z tx R (addC C k q (if k = 0 then 0 else q2) p) D (padd8 V C) U S G u383 (INV_act hI (DI_up (DI_add hD hNN hk hq hb12 hp) (by omega)) (by rw [add_N]; omega) (by rfl) hu383.1 hu383.2.1 hu383.2.2.1 hu383.2.2.2)
set_option maxHeartbeats 4000000 in
set_option maxRecDepth 100000 in
theorem lc_withdraw_n  (hc : LCX x l E b L xs kk nn t i) (hI : INV t z tx R C V U S M) (nx : NX x E ae ab ar an af ah ak ax ag a b kk nn t i) (hx : win (xs (i + 1)) (nI 0) (nI (cN C - 1)) = false) : GG x kk nn (LWM E ae ab ar an af ah ak ax ag a z tx R C D V U S G M) 391 [(0, .ref b), (1, .ref (ae 0)), (2, .ref (a 0)), (3, .int (nI i))] [] := by
  obtain ⟨hX, hSX, hkk, hnn, hit, hi5, hL3⟩ := hc
  obtain ⟨⟨hz, htx, hmX, hmL, hRq⟩, ⟨hN1, hD, hSr, hTm⟩, hE, ⟨hv1, hv2, hv3⟩, ⟨hu1, hu2, hu3⟩⟩ := id hI
  have hm : 30 * t < 2 ^ 29 := by omega
  have hC := hD.1.1
  obtain ⟨h9, h64, h512, hTq, hIq⟩ := id hC
  have hSK := hD.1.2
  have hV := DI_VB hD (by omega)
  have htx2 : ∀ j, tx j < 2 ^ 16 := fun j => by have := htx j; omega
  have hmX2 : ∀ j, mX M j < 128 := by rw [hmX]; exact htx
  have h6 : hN S ≤ 6 := hE.2.1
  have hs9 : ∀ j, j < hN S → hS S j < 9 := fun j hj => (hE.2.2 j hj).2.2
  show GG x kk nn ((lfo E ae ab ar an af ah ak ax ag z ++ (tw E ab 200 tx ++ (rw_ E ar R ++ (fw E an C ++ (fw E af D ++ (pw8 E ah V ++ (pw2 E ak U ++ (sw E ax S ++ (gw E ag G ++ (mw E a M))))))))))) 391 [(0, .ref b), (1, .ref (ae 0)), (2, .ref (a 0)), (3, .int (nI i))] []
  refine g_aload_n hX dL_law_391 1 rfl ?_
  refine g_aload_n hX dL_law_392 0 rfl ?_
  refine g_iload_n hX dL_law_393 3 rfl ?_
  refine g_iconst hX (nI 1) dL_law_394 rfl ?_
  refine g_iadd hX (nI (i + 1)) dL_law_395 (nI_add _ _) ?_
  refine g_sld hX hSX (i := i + 1) ((xs (i + 1))) (by omega) (by omega) rfl dL_law_396 ?_
  have hc397 : CUT ((lfo E ae ab ar an af ah ak ax ag z ++ (tw E ab 200 tx ++ (rw_ E ar R ++ (fw E an C ++ (fw E af D ++ (pw8 E ah V ++ (pw2 E ak U ++ (sw E ax S ++ (gw E ag G ++ (mw E a M))))))))))) ((lfo E ae ab ar an af ah ak ax ag z) ++ (fw E an C)) ((tw E ab 200 tx ++ (rw_ E ar R ++ (fw E af D ++ (pw8 E ah V ++ (pw2 E ak U ++ (sw E ax S ++ (gw E ag G ++ (mw E a M))))))))) [0, 4, 5, 6, 7, 8, 9, 10] [1, 2, 3, 11, 12, 13, 14, 15, 16, 17, 18, 19, 20, 21, 22, 23, 24, 25, 26, 27, 28, 29, 30, 31, 32, 33, 34, 35, 36, 37, 38, 39, 40, 41, 42, 43, 44, 45, 46, 47, 48, 49, 50, 51, 52, 53, 54, 55, 56, 57, 58, 59, 60, 61, 62, 63, 64, 65, 66, 67, 68, 69, 70, 71, 72, 73, 74, 75, 76, 77, 78, 79, 80, 81, 82, 83, 84, 85, 86, 87, 88, 89, 90, 91, 92, 93, 94, 95, 96, 97, 98, 99, 100, 101, 102, 103, 104, 105, 106, 107, 108, 109, 110] := ⟨rfl, rfl, rfl, rfl, rfl⟩
  refine g_VI hX hc397 [.int (xs (i + 1))] [] (c_X5_withdraw_n l E ae ab ar an af ah ak ax ag z C (xs (i + 1)) (by first | assumption | omega) (by first | assumption | omega) (by first | assumption | omega)) gL_law_X5_withdraw calX5_withdraw rfl rfl rfl rfl 0 rfl rfl rfl rfl dL_law_397 rfl ⟨hkk, hnn⟩ (fun _ => (lfo E ae ab ar an af ah ak ax ag z ++ (tw E ab 200 tx ++ (rw_ E ar R ++ (fw E an C ++ (fw E af D ++ (pw8 E ah V ++ (pw2 E ak U ++ (sw E ax S ++ (gw E ag G ++ (mw E a M))))))))))) [103, 0, 1, 2, 104, 105, 106, 107, 108, 109, 110, 3, 4, 5, 6, 7, 8, 9, 10, 11, 12, 13, 14, 15, 16, 17, 18, 19, 20, 21, 22, 23, 24, 25, 26, 27, 28, 29, 30, 31, 32, 33, 34, 35, 36, 37, 38, 39, 40, 41, 42, 43, 44, 45, 46, 47, 48, 49, 50, 51, 52, 53, 54, 55, 56, 57, 58, 59, 60, 61, 62, 63, 64, 65, 66, 67, 68, 69, 70, 71, 72, 73, 74, 75, 76, 77, 78, 79, 80, 81, 82, 83, 84, 85, 86, 87, 88, 89, 90, 91, 92, 93, 94, 95, 96, 97, 98, 99, 100, 101, 102] rfl (fun _ => rfl) (fun _ hu397 => ?_)
  refine g_aload_n hX dL_law_400 2 rfl ?_
  refine g_aload_n hX dL_law_401 0 rfl ?_
  refine g_iload_n hX dL_law_402 3 rfl ?_
  refine g_iconst hX (nI 1) dL_law_403 rfl ?_
  refine g_iadd hX (nI (i + 1)) dL_law_404 (nI_add _ _) ?_
  refine g_sld hX hSX (i := i + 1) ((xs (i + 1))) (by omega) (by omega) rfl dL_law_405 ?_
  have hc406 : CUT ((lfo E ae ab ar an af ah ak ax ag z ++ (tw E ab 200 tx ++ (rw_ E ar R ++ (fw E an C ++ (fw E af D ++ (pw8 E ah V ++ (pw2 E ak U ++ (sw E ax S ++ (gw E ag G ++ (mw E a M))))))))))) (mw E a M) ((lfo E ae ab ar an af ah ak ax ag z ++ (tw E ab 200 tx ++ (rw_ E ar R ++ (fw E an C ++ (fw E af D ++ (pw8 E ah V ++ (pw2 E ak U ++ (sw E ax S ++ (gw E ag G)))))))))) [98, 99, 100, 101, 102, 103, 104, 105, 106, 107, 108, 109, 110] [0, 1, 2, 3, 4, 5, 6, 7, 8, 9, 10, 11, 12, 13, 14, 15, 16, 17, 18, 19, 20, 21, 22, 23, 24, 25, 26, 27, 28, 29, 30, 31, 32, 33, 34, 35, 36, 37, 38, 39, 40, 41, 42, 43, 44, 45, 46, 47, 48, 49, 50, 51, 52, 53, 54, 55, 56, 57, 58, 59, 60, 61, 62, 63, 64, 65, 66, 67, 68, 69, 70, 71, 72, 73, 74, 75, 76, 77, 78, 79, 80, 81, 82, 83, 84, 85, 86, 87, 88, 89, 90, 91, 92, 93, 94, 95, 96, 97] := ⟨rfl, rfl, rfl, rfl, rfl⟩
  refine g_VI hX hc406 [.int (xs (i + 1))] [.int (-1)] (c_X6_withdraw_n l E a M C (30 * t) (xs (i + 1)) (by first | assumption | omega) (by first | assumption | omega) (by first | assumption | omega) (by first | assumption | omega) (by first | assumption | omega) (by first | assumption | omega)) gL_law_X6_withdraw calX6_withdraw rfl rfl rfl rfl 98 rfl rfl rfl rfl dL_law_406 rfl ⟨hkk, hnn⟩ (fun u406 => (lfo E ae ab ar an af ah ak ax ag z ++ (tw E ab 200 tx ++ (rw_ E ar R ++ (fw E an C ++ (fw E af D ++ (pw8 E ah V ++ (pw2 E ak U ++ (sw E ax S ++ (gw E ag G ++ (mw E a u406))))))))))) [0, 1, 2, 3, 4, 5, 6, 7, 8, 9, 10, 11, 12, 13, 14, 15, 16, 17, 18, 19, 20, 21, 22, 23, 24, 25, 26, 27, 28, 29, 30, 31, 32, 33, 34, 35, 36, 37, 38, 39, 40, 41, 42, 43, 44, 45, 46, 47, 48, 49, 50, 51, 52, 53, 54, 55, 56, 57, 58, 59, 60, 61, 62, 63, 64, 65, 66, 67, 68, 69, 70, 71, 72, 73, 74, 75, 76, 77, 78, 79, 80, 81, 82, 83, 84, 85, 86, 87, 88, 89, 90, 91, 92, 93, 94, 95, 96, 97, 98, 99, 100, 101, 102, 103, 104, 105, 106, 107, 108, 109, 110] rfl (fun _ => rfl) (fun u406 hu406 => ?_)
  refine g_icmp_eq hX 857 dL_law_409 (by decide) (fun _ => ?_) (fun c => (c (rfl)).elim)
  exact nx z tx R C D V U S G u406 (INV_KS hI hu406)
set_option maxHeartbeats 4000000 in
set_option maxRecDepth 100000 in
theorem lc_withdraw_no (s : Nat) (hc : LCX x l E b L xs kk nn t i) (hI : INV t z tx R C V U S M) (nx : NX x E ae ab ar an af ah ak ax ag a b kk nn t i) (e1 : xs (i + 1) = nI s) (hs : s < cN C) (hcw : cwB C s = false) : GG x kk nn (LWM E ae ab ar an af ah ak ax ag a z tx R C D V U S G M) 391 [(0, .ref b), (1, .ref (ae 0)), (2, .ref (a 0)), (3, .int (nI i))] [] := by
  obtain ⟨hX, hSX, hkk, hnn, hit, hi5, hL3⟩ := hc
  obtain ⟨⟨hz, htx, hmX, hmL, hRq⟩, ⟨hN1, hD, hSr, hTm⟩, hE, ⟨hv1, hv2, hv3⟩, ⟨hu1, hu2, hu3⟩⟩ := id hI
  have hm : 30 * t < 2 ^ 29 := by omega
  have hC := hD.1.1
  obtain ⟨h9, h64, h512, hTq, hIq⟩ := id hC
  have hSK := hD.1.2
  have hV := DI_VB hD (by omega)
  have htx2 : ∀ j, tx j < 2 ^ 16 := fun j => by have := htx j; omega
  have hmX2 : ∀ j, mX M j < 128 := by rw [hmX]; exact htx
  have h6 : hN S ≤ 6 := hE.2.1
  have hs9 : ∀ j, j < hN S → hS S j < 9 := fun j hj => (hE.2.2 j hj).2.2
  show GG x kk nn ((lfo E ae ab ar an af ah ak ax ag z ++ (tw E ab 200 tx ++ (rw_ E ar R ++ (fw E an C ++ (fw E af D ++ (pw8 E ah V ++ (pw2 E ak U ++ (sw E ax S ++ (gw E ag G ++ (mw E a M))))))))))) 391 [(0, .ref b), (1, .ref (ae 0)), (2, .ref (a 0)), (3, .int (nI i))] []
  refine g_aload_n hX dL_law_391 1 rfl ?_
  refine g_aload_n hX dL_law_392 0 rfl ?_
  refine g_iload_n hX dL_law_393 3 rfl ?_
  refine g_iconst hX (nI 1) dL_law_394 rfl ?_
  refine g_iadd hX (nI (i + 1)) dL_law_395 (nI_add _ _) ?_
  refine g_sld hX hSX (i := i + 1) (nI s) (by omega) (by omega) e1 dL_law_396 ?_
  have hc397 : CUT ((lfo E ae ab ar an af ah ak ax ag z ++ (tw E ab 200 tx ++ (rw_ E ar R ++ (fw E an C ++ (fw E af D ++ (pw8 E ah V ++ (pw2 E ak U ++ (sw E ax S ++ (gw E ag G ++ (mw E a M))))))))))) ((lfo E ae ab ar an af ah ak ax ag z) ++ (fw E an C)) ((tw E ab 200 tx ++ (rw_ E ar R ++ (fw E af D ++ (pw8 E ah V ++ (pw2 E ak U ++ (sw E ax S ++ (gw E ag G ++ (mw E a M))))))))) [0, 4, 5, 6, 7, 8, 9, 10] [1, 2, 3, 11, 12, 13, 14, 15, 16, 17, 18, 19, 20, 21, 22, 23, 24, 25, 26, 27, 28, 29, 30, 31, 32, 33, 34, 35, 36, 37, 38, 39, 40, 41, 42, 43, 44, 45, 46, 47, 48, 49, 50, 51, 52, 53, 54, 55, 56, 57, 58, 59, 60, 61, 62, 63, 64, 65, 66, 67, 68, 69, 70, 71, 72, 73, 74, 75, 76, 77, 78, 79, 80, 81, 82, 83, 84, 85, 86, 87, 88, 89, 90, 91, 92, 93, 94, 95, 96, 97, 98, 99, 100, 101, 102, 103, 104, 105, 106, 107, 108, 109, 110] := ⟨rfl, rfl, rfl, rfl, rfl⟩
  refine g_VI hX hc397 [.int (nI s)] [] (c_X5_withdraw_no l E ae ab ar an af ah ak ax ag z C (30 * t) s (by first | assumption | omega) (by first | assumption | omega) (by first | assumption | omega) (by first | assumption | omega)) gL_law_X5_withdraw calX5_withdraw rfl rfl rfl rfl 0 rfl rfl rfl rfl dL_law_397 rfl ⟨hkk, hnn⟩ (fun _ => (lfo E ae ab ar an af ah ak ax ag z ++ (tw E ab 200 tx ++ (rw_ E ar R ++ (fw E an C ++ (fw E af D ++ (pw8 E ah V ++ (pw2 E ak U ++ (sw E ax S ++ (gw E ag G ++ (mw E a M))))))))))) [103, 0, 1, 2, 104, 105, 106, 107, 108, 109, 110, 3, 4, 5, 6, 7, 8, 9, 10, 11, 12, 13, 14, 15, 16, 17, 18, 19, 20, 21, 22, 23, 24, 25, 26, 27, 28, 29, 30, 31, 32, 33, 34, 35, 36, 37, 38, 39, 40, 41, 42, 43, 44, 45, 46, 47, 48, 49, 50, 51, 52, 53, 54, 55, 56, 57, 58, 59, 60, 61, 62, 63, 64, 65, 66, 67, 68, 69, 70, 71, 72, 73, 74, 75, 76, 77, 78, 79, 80, 81, 82, 83, 84, 85, 86, 87, 88, 89, 90, 91, 92, 93, 94, 95, 96, 97, 98, 99, 100, 101, 102] rfl (fun _ => rfl) (fun _ hu397 => ?_)
  refine g_aload_n hX dL_law_400 2 rfl ?_
  refine g_aload_n hX dL_law_401 0 rfl ?_
  refine g_iload_n hX dL_law_402 3 rfl ?_
  refine g_iconst hX (nI 1) dL_law_403 rfl ?_
  refine g_iadd hX (nI (i + 1)) dL_law_404 (nI_add _ _) ?_
  refine g_sld hX hSX (i := i + 1) (nI s) (by omega) (by omega) e1 dL_law_405 ?_
  have hc406 : CUT ((lfo E ae ab ar an af ah ak ax ag z ++ (tw E ab 200 tx ++ (rw_ E ar R ++ (fw E an C ++ (fw E af D ++ (pw8 E ah V ++ (pw2 E ak U ++ (sw E ax S ++ (gw E ag G ++ (mw E a M))))))))))) (mw E a M) ((lfo E ae ab ar an af ah ak ax ag z ++ (tw E ab 200 tx ++ (rw_ E ar R ++ (fw E an C ++ (fw E af D ++ (pw8 E ah V ++ (pw2 E ak U ++ (sw E ax S ++ (gw E ag G)))))))))) [98, 99, 100, 101, 102, 103, 104, 105, 106, 107, 108, 109, 110] [0, 1, 2, 3, 4, 5, 6, 7, 8, 9, 10, 11, 12, 13, 14, 15, 16, 17, 18, 19, 20, 21, 22, 23, 24, 25, 26, 27, 28, 29, 30, 31, 32, 33, 34, 35, 36, 37, 38, 39, 40, 41, 42, 43, 44, 45, 46, 47, 48, 49, 50, 51, 52, 53, 54, 55, 56, 57, 58, 59, 60, 61, 62, 63, 64, 65, 66, 67, 68, 69, 70, 71, 72, 73, 74, 75, 76, 77, 78, 79, 80, 81, 82, 83, 84, 85, 86, 87, 88, 89, 90, 91, 92, 93, 94, 95, 96, 97] := ⟨rfl, rfl, rfl, rfl, rfl⟩
  refine g_VI hX hc406 [.int (nI s)] [.int (-2)] (c_X6_withdraw_no l E a M C (30 * t) s (by first | assumption | omega) (by first | assumption | omega) (by first | assumption | omega) (by first | assumption | omega) (by first | assumption | omega) (by first | assumption | omega) (by first | assumption | omega)) gL_law_X6_withdraw calX6_withdraw rfl rfl rfl rfl 98 rfl rfl rfl rfl dL_law_406 rfl ⟨hkk, hnn⟩ (fun u406 => (lfo E ae ab ar an af ah ak ax ag z ++ (tw E ab 200 tx ++ (rw_ E ar R ++ (fw E an C ++ (fw E af D ++ (pw8 E ah V ++ (pw2 E ak U ++ (sw E ax S ++ (gw E ag G ++ (mw E a u406))))))))))) [0, 1, 2, 3, 4, 5, 6, 7, 8, 9, 10, 11, 12, 13, 14, 15, 16, 17, 18, 19, 20, 21, 22, 23, 24, 25, 26, 27, 28, 29, 30, 31, 32, 33, 34, 35, 36, 37, 38, 39, 40, 41, 42, 43, 44, 45, 46, 47, 48, 49, 50, 51, 52, 53, 54, 55, 56, 57, 58, 59, 60, 61, 62, 63, 64, 65, 66, 67, 68, 69, 70, 71, 72, 73, 74, 75, 76, 77, 78, 79, 80, 81, 82, 83, 84, 85, 86, 87, 88, 89, 90, 91, 92, 93, 94, 95, 96, 97, 98, 99, 100, 101, 102, 103, 104, 105, 106, 107, 108, 109, 110] rfl (fun _ => rfl) (fun u406 hu406 => ?_)
  refine g_icmp_eq hX 857 dL_law_409 (by decide) (fun _ => ?_) (fun c => (c (rfl)).elim)
  exact nx z tx R C D V U S G u406 (INV_KS hI hu406)
set_option maxHeartbeats 4000000 in
set_option maxRecDepth 100000 in
theorem lc_withdraw_y (s : Nat) (hc : LCX x l E b L xs kk nn t i) (hI : INV t z tx R C V U S M) (nx : NX x E ae ab ar an af ah ak ax ag a b kk nn t i) (e1 : xs (i + 1) = nI s) (hs : s < cN C) (hcw : cwB C s = true) : GG x kk nn (LWM E ae ab ar an af ah ak ax ag a z tx R C D V U S G M) 391 [(0, .ref b), (1, .ref (ae 0)), (2, .ref (a 0)), (3, .int (nI i))] [] := by
  obtain ⟨hX, hSX, hkk, hnn, hit, hi5, hL3⟩ := hc
  obtain ⟨⟨hz, htx, hmX, hmL, hRq⟩, ⟨hN1, hD, hSr, hTm⟩, hE, ⟨hv1, hv2, hv3⟩, ⟨hu1, hu2, hu3⟩⟩ := id hI
  have hm : 30 * t < 2 ^ 29 := by omega
  have hC := hD.1.1
  obtain ⟨h9, h64, h512, hTq, hIq⟩ := id hC
  have hSK := hD.1.2
  have hV := DI_VB hD (by omega)
  have htx2 : ∀ j, tx j < 2 ^ 16 := fun j => by have := htx j; omega
  have hmX2 : ∀ j, mX M j < 128 := by rw [hmX]; exact htx
  have h6 : hN S ≤ 6 := hE.2.1
  have hs9 : ∀ j, j < hN S → hS S j < 9 := fun j hj => (hE.2.2 j hj).2.2
  show GG x kk nn ((lfo E ae ab ar an af ah ak ax ag z ++ (tw E ab 200 tx ++ (rw_ E ar R ++ (fw E an C ++ (fw E af D ++ (pw8 E ah V ++ (pw2 E ak U ++ (sw E ax S ++ (gw E ag G ++ (mw E a M))))))))))) 391 [(0, .ref b), (1, .ref (ae 0)), (2, .ref (a 0)), (3, .int (nI i))] []
  refine g_aload_n hX dL_law_391 1 rfl ?_
  refine g_aload_n hX dL_law_392 0 rfl ?_
  refine g_iload_n hX dL_law_393 3 rfl ?_
  refine g_iconst hX (nI 1) dL_law_394 rfl ?_
  refine g_iadd hX (nI (i + 1)) dL_law_395 (nI_add _ _) ?_
  refine g_sld hX hSX (i := i + 1) (nI s) (by omega) (by omega) e1 dL_law_396 ?_
  have hc397 : CUT ((lfo E ae ab ar an af ah ak ax ag z ++ (tw E ab 200 tx ++ (rw_ E ar R ++ (fw E an C ++ (fw E af D ++ (pw8 E ah V ++ (pw2 E ak U ++ (sw E ax S ++ (gw E ag G ++ (mw E a M))))))))))) ((lfo E ae ab ar an af ah ak ax ag z ++ (fw E an C ++ (pw8 E ah V)))) ((tw E ab 200 tx ++ (rw_ E ar R ++ (fw E af D ++ (pw2 E ak U ++ (sw E ax S ++ (gw E ag G ++ (mw E a M)))))))) [0, 4, 5, 6, 7, 8, 9, 10, 18, 19, 20, 21, 22, 23, 24, 25, 26, 27, 28, 29, 30, 31, 32, 33, 34, 35, 36, 37, 38, 39, 40, 41, 42, 43, 44, 45, 46, 47, 48, 49, 50, 51, 52, 53, 54, 55, 56, 57, 58, 59, 60, 61, 62, 63, 64, 65, 66, 67, 68, 69, 70, 71, 72, 73, 74, 75] [1, 2, 3, 11, 12, 13, 14, 15, 16, 17, 76, 77, 78, 79, 80, 81, 82, 83, 84, 85, 86, 87, 88, 89, 90, 91, 92, 93, 94, 95, 96, 97, 98, 99, 100, 101, 102, 103, 104, 105, 106, 107, 108, 109, 110] := ⟨rfl, rfl, rfl, rfl, rfl⟩
  refine g_VI hX hc397 [.int (nI s)] [] (c_X5_withdraw_y l E ae ab ar an af ah ak ax ag z C V (30 * t) s (by first | assumption | omega) (by first | assumption | omega) (by first | assumption | omega) (by first | assumption | omega) (by first | assumption | omega)) gL_law_X5_withdraw calX5_withdraw rfl rfl rfl rfl 0 rfl rfl rfl rfl dL_law_397 rfl ⟨hkk, hnn⟩ (fun _ => (lfo E ae ab ar an af ah ak ax ag z ++ (tw E ab 200 tx ++ (rw_ E ar R ++ (fw E an (toC C s) ++ (fw E af D ++ (pw8 E ah (padd8 V C) ++ (pw2 E ak U ++ (sw E ax S ++ (gw E ag G ++ (mw E a M))))))))))) [45, 0, 1, 2, 46, 47, 48, 49, 50, 51, 52, 3, 4, 5, 6, 7, 8, 9, 53, 54, 55, 56, 57, 58, 59, 60, 61, 62, 63, 64, 65, 66, 67, 68, 69, 70, 71, 72, 73, 74, 75, 76, 77, 78, 79, 80, 81, 82, 83, 84, 85, 86, 87, 88, 89, 90, 91, 92, 93, 94, 95, 96, 97, 98, 99, 100, 101, 102, 103, 104, 105, 106, 107, 108, 109, 110, 10, 11, 12, 13, 14, 15, 16, 17, 18, 19, 20, 21, 22, 23, 24, 25, 26, 27, 28, 29, 30, 31, 32, 33, 34, 35, 36, 37, 38, 39, 40, 41, 42, 43, 44] rfl (fun _ => rfl) (fun _ hu397 => ?_)
  refine g_aload_n hX dL_law_400 2 rfl ?_
  refine g_aload_n hX dL_law_401 0 rfl ?_
  refine g_iload_n hX dL_law_402 3 rfl ?_
  refine g_iconst hX (nI 1) dL_law_403 rfl ?_
  refine g_iadd hX (nI (i + 1)) dL_law_404 (nI_add _ _) ?_
  refine g_sld hX hSX (i := i + 1) (nI s) (by omega) (by omega) e1 dL_law_405 ?_
  have hc406 : CUT ((lfo E ae ab ar an af ah ak ax ag z ++ (tw E ab 200 tx ++ (rw_ E ar R ++ (fw E an (toC C s) ++ (fw E af D ++ (pw8 E ah (padd8 V C) ++ (pw2 E ak U ++ (sw E ax S ++ (gw E ag G ++ (mw E a M))))))))))) (mw E a M) ((lfo E ae ab ar an af ah ak ax ag z ++ (tw E ab 200 tx ++ (rw_ E ar R ++ (fw E an (toC C s) ++ (fw E af D ++ (pw8 E ah (padd8 V C) ++ (pw2 E ak U ++ (sw E ax S ++ (gw E ag G)))))))))) [98, 99, 100, 101, 102, 103, 104, 105, 106, 107, 108, 109, 110] [0, 1, 2, 3, 4, 5, 6, 7, 8, 9, 10, 11, 12, 13, 14, 15, 16, 17, 18, 19, 20, 21, 22, 23, 24, 25, 26, 27, 28, 29, 30, 31, 32, 33, 34, 35, 36, 37, 38, 39, 40, 41, 42, 43, 44, 45, 46, 47, 48, 49, 50, 51, 52, 53, 54, 55, 56, 57, 58, 59, 60, 61, 62, 63, 64, 65, 66, 67, 68, 69, 70, 71, 72, 73, 74, 75, 76, 77, 78, 79, 80, 81, 82, 83, 84, 85, 86, 87, 88, 89, 90, 91, 92, 93, 94, 95, 96, 97] := ⟨rfl, rfl, rfl, rfl, rfl⟩
  refine g_VI hX hc406 [.int (nI s)] [.int (nI (pop (lieM (toC C s) (cF (toC C s)))))] (c_X6_withdraw_y l E a M C (30 * t) s (by first | assumption | omega) (by first | assumption | omega) (by first | assumption | omega) (by first | assumption | omega) (by first | assumption | omega) (by first | assumption | omega) (by first | assumption | omega) (by first | assumption | omega)) gL_law_X6_withdraw calX6_withdraw rfl rfl rfl rfl 98 rfl rfl rfl rfl dL_law_406 rfl ⟨hkk, hnn⟩ (fun u406 => (lfo E ae ab ar an af ah ak ax ag z ++ (tw E ab 200 tx ++ (rw_ E ar R ++ (fw E an (toC C s) ++ (fw E af D ++ (pw8 E ah (padd8 V C) ++ (pw2 E ak U ++ (sw E ax S ++ (gw E ag G ++ (mw E a u406))))))))))) [0, 1, 2, 3, 4, 5, 6, 7, 8, 9, 10, 11, 12, 13, 14, 15, 16, 17, 18, 19, 20, 21, 22, 23, 24, 25, 26, 27, 28, 29, 30, 31, 32, 33, 34, 35, 36, 37, 38, 39, 40, 41, 42, 43, 44, 45, 46, 47, 48, 49, 50, 51, 52, 53, 54, 55, 56, 57, 58, 59, 60, 61, 62, 63, 64, 65, 66, 67, 68, 69, 70, 71, 72, 73, 74, 75, 76, 77, 78, 79, 80, 81, 82, 83, 84, 85, 86, 87, 88, 89, 90, 91, 92, 93, 94, 95, 96, 97, 98, 99, 100, 101, 102, 103, 104, 105, 106, 107, 108, 109, 110] rfl (fun _ => rfl) (fun u406 hu406 => ?_)
  refine g_icmp_eq hX 857 dL_law_409 (by decide) (fun _ => ?_) (fun c => (c (rfl)).elim)
  exact nx z tx R (toC C s) D (padd8 V C) U S G u406 (INV_act hI (DI_up (DI_to hD hs) (by omega)) (by exact hN1) (by rfl) hu406.1 hu406.2.1 hu406.2.2.1 hu406.2.2.2)
set_option maxHeartbeats 4000000 in
set_option maxRecDepth 100000 in
theorem lc_turn_n  (hc : LCX x l E b L xs kk nn t i) (hI : INV t z tx R C V U S M) (nx : NX x E ae ab ar an af ah ak ax ag a b kk nn t i) (hx : win (xs (i + 1)) (nI 0) (nI 5) = false) : GG x kk nn (LWM E ae ab ar an af ah ak ax ag a z tx R C D V U S G M) 414 [(0, .ref b), (1, .ref (ae 0)), (2, .ref (a 0)), (3, .int (nI i))] [] := by
  obtain ⟨hX, hSX, hkk, hnn, hit, hi5, hL3⟩ := hc
  obtain ⟨⟨hz, htx, hmX, hmL, hRq⟩, ⟨hN1, hD, hSr, hTm⟩, hE, ⟨hv1, hv2, hv3⟩, ⟨hu1, hu2, hu3⟩⟩ := id hI
  have hm : 30 * t < 2 ^ 29 := by omega
  have hC := hD.1.1
  obtain ⟨h9, h64, h512, hTq, hIq⟩ := id hC
  have hSK := hD.1.2
  have hV := DI_VB hD (by omega)
  have htx2 : ∀ j, tx j < 2 ^ 16 := fun j => by have := htx j; omega
  have hmX2 : ∀ j, mX M j < 128 := by rw [hmX]; exact htx
  have h6 : hN S ≤ 6 := hE.2.1
  have hs9 : ∀ j, j < hN S → hS S j < 9 := fun j hj => (hE.2.2 j hj).2.2
  show GG x kk nn ((lfo E ae ab ar an af ah ak ax ag z ++ (tw E ab 200 tx ++ (rw_ E ar R ++ (fw E an C ++ (fw E af D ++ (pw8 E ah V ++ (pw2 E ak U ++ (sw E ax S ++ (gw E ag G ++ (mw E a M))))))))))) 414 [(0, .ref b), (1, .ref (ae 0)), (2, .ref (a 0)), (3, .int (nI i))] []
  refine g_aload_n hX dL_law_414 1 rfl ?_
  refine g_aload_n hX dL_law_415 0 rfl ?_
  refine g_iload_n hX dL_law_416 3 rfl ?_
  refine g_iconst hX (nI 1) dL_law_417 rfl ?_
  refine g_iadd hX (nI (i + 1)) dL_law_418 (nI_add _ _) ?_
  refine g_sld hX hSX (i := i + 1) ((xs (i + 1))) (by omega) (by omega) rfl dL_law_419 ?_
  have hc420 : CUT ((lfo E ae ab ar an af ah ak ax ag z ++ (tw E ab 200 tx ++ (rw_ E ar R ++ (fw E an C ++ (fw E af D ++ (pw8 E ah V ++ (pw2 E ak U ++ (sw E ax S ++ (gw E ag G ++ (mw E a M))))))))))) (lfo E ae ab ar an af ah ak ax ag z) ((tw E ab 200 tx ++ (rw_ E ar R ++ (fw E an C ++ (fw E af D ++ (pw8 E ah V ++ (pw2 E ak U ++ (sw E ax S ++ (gw E ag G ++ (mw E a M)))))))))) [0] [1, 2, 3, 4, 5, 6, 7, 8, 9, 10, 11, 12, 13, 14, 15, 16, 17, 18, 19, 20, 21, 22, 23, 24, 25, 26, 27, 28, 29, 30, 31, 32, 33, 34, 35, 36, 37, 38, 39, 40, 41, 42, 43, 44, 45, 46, 47, 48, 49, 50, 51, 52, 53, 54, 55, 56, 57, 58, 59, 60, 61, 62, 63, 64, 65, 66, 67, 68, 69, 70, 71, 72, 73, 74, 75, 76, 77, 78, 79, 80, 81, 82, 83, 84, 85, 86, 87, 88, 89, 90, 91, 92, 93, 94, 95, 96, 97, 98, 99, 100, 101, 102, 103, 104, 105, 106, 107, 108, 109, 110] := ⟨rfl, rfl, rfl, rfl, rfl⟩
  refine g_VI hX hc420 [.int (xs (i + 1))] [] (c_X5_turn_n l E ae ab ar an af ah ak ax ag z (xs (i + 1)) (by first | assumption | omega)) gL_law_X5_turn calX5_turn rfl rfl rfl rfl 0 rfl rfl rfl rfl dL_law_420 rfl ⟨hkk, hnn⟩ (fun _ => (lfo E ae ab ar an af ah ak ax ag z ++ (tw E ab 200 tx ++ (rw_ E ar R ++ (fw E an C ++ (fw E af D ++ (pw8 E ah V ++ (pw2 E ak U ++ (sw E ax S ++ (gw E ag G ++ (mw E a M))))))))))) [110, 0, 1, 2, 3, 4, 5, 6, 7, 8, 9, 10, 11, 12, 13, 14, 15, 16, 17, 18, 19, 20, 21, 22, 23, 24, 25, 26, 27, 28, 29, 30, 31, 32, 33, 34, 35, 36, 37, 38, 39, 40, 41, 42, 43, 44, 45, 46, 47, 48, 49, 50, 51, 52, 53, 54, 55, 56, 57, 58, 59, 60, 61, 62, 63, 64, 65, 66, 67, 68, 69, 70, 71, 72, 73, 74, 75, 76, 77, 78, 79, 80, 81, 82, 83, 84, 85, 86, 87, 88, 89, 90, 91, 92, 93, 94, 95, 96, 97, 98, 99, 100, 101, 102, 103, 104, 105, 106, 107, 108, 109] rfl (fun _ => rfl) (fun _ hu420 => ?_)
  refine g_aload_n hX dL_law_423 2 rfl ?_
  refine g_aload_n hX dL_law_424 0 rfl ?_
  refine g_iload_n hX dL_law_425 3 rfl ?_
  refine g_iconst hX (nI 1) dL_law_426 rfl ?_
  refine g_iadd hX (nI (i + 1)) dL_law_427 (nI_add _ _) ?_
  refine g_sld hX hSX (i := i + 1) ((xs (i + 1))) (by omega) (by omega) rfl dL_law_428 ?_
  have hc429 : CUT ((lfo E ae ab ar an af ah ak ax ag z ++ (tw E ab 200 tx ++ (rw_ E ar R ++ (fw E an C ++ (fw E af D ++ (pw8 E ah V ++ (pw2 E ak U ++ (sw E ax S ++ (gw E ag G ++ (mw E a M))))))))))) (mw E a M) ((lfo E ae ab ar an af ah ak ax ag z ++ (tw E ab 200 tx ++ (rw_ E ar R ++ (fw E an C ++ (fw E af D ++ (pw8 E ah V ++ (pw2 E ak U ++ (sw E ax S ++ (gw E ag G)))))))))) [98, 99, 100, 101, 102, 103, 104, 105, 106, 107, 108, 109, 110] [0, 1, 2, 3, 4, 5, 6, 7, 8, 9, 10, 11, 12, 13, 14, 15, 16, 17, 18, 19, 20, 21, 22, 23, 24, 25, 26, 27, 28, 29, 30, 31, 32, 33, 34, 35, 36, 37, 38, 39, 40, 41, 42, 43, 44, 45, 46, 47, 48, 49, 50, 51, 52, 53, 54, 55, 56, 57, 58, 59, 60, 61, 62, 63, 64, 65, 66, 67, 68, 69, 70, 71, 72, 73, 74, 75, 76, 77, 78, 79, 80, 81, 82, 83, 84, 85, 86, 87, 88, 89, 90, 91, 92, 93, 94, 95, 96, 97] := ⟨rfl, rfl, rfl, rfl, rfl⟩
  refine g_VI hX hc429 [.int (xs (i + 1))] [.int (-1)] (c_X6_turn_n l E a M C (30 * t) (xs (i + 1)) (by first | assumption | omega) (by first | assumption | omega) (by first | assumption | omega) (by first | assumption | omega) (by first | assumption | omega) (by first | assumption | omega)) gL_law_X6_turn calX6_turn rfl rfl rfl rfl 98 rfl rfl rfl rfl dL_law_429 rfl ⟨hkk, hnn⟩ (fun u429 => (lfo E ae ab ar an af ah ak ax ag z ++ (tw E ab 200 tx ++ (rw_ E ar R ++ (fw E an C ++ (fw E af D ++ (pw8 E ah V ++ (pw2 E ak U ++ (sw E ax S ++ (gw E ag G ++ (mw E a u429))))))))))) [0, 1, 2, 3, 4, 5, 6, 7, 8, 9, 10, 11, 12, 13, 14, 15, 16, 17, 18, 19, 20, 21, 22, 23, 24, 25, 26, 27, 28, 29, 30, 31, 32, 33, 34, 35, 36, 37, 38, 39, 40, 41, 42, 43, 44, 45, 46, 47, 48, 49, 50, 51, 52, 53, 54, 55, 56, 57, 58, 59, 60, 61, 62, 63, 64, 65, 66, 67, 68, 69, 70, 71, 72, 73, 74, 75, 76, 77, 78, 79, 80, 81, 82, 83, 84, 85, 86, 87, 88, 89, 90, 91, 92, 93, 94, 95, 96, 97, 98, 99, 100, 101, 102, 103, 104, 105, 106, 107, 108, 109, 110] rfl (fun _ => rfl) (fun u429 hu429 => ?_)
  refine g_icmp_eq hX 857 dL_law_432 (by decide) (fun _ => ?_) (fun c => (c (rfl)).elim)
  exact nx z tx R C D V U S G u429 (INV_KS hI hu429)
set_option maxHeartbeats 4000000 in
set_option maxRecDepth 100000 in
theorem lc_turn_y (k : Nat) (hc : LCX x l E b L xs kk nn t i) (hI : INV t z tx R C V U S M) (nx : NX x E ae ab ar an af ah ak ax ag a b kk nn t i) (e1 : xs (i + 1) = nI k) (hk : k < 6) : GG x kk nn (LWM E ae ab ar an af ah ak ax ag a z tx R C D V U S G M) 414 [(0, .ref b), (1, .ref (ae 0)), (2, .ref (a 0)), (3, .int (nI i))] [] := by
  obtain ⟨hX, hSX, hkk, hnn, hit, hi5, hL3⟩ := hc
  obtain ⟨⟨hz, htx, hmX, hmL, hRq⟩, ⟨hN1, hD, hSr, hTm⟩, hE, ⟨hv1, hv2, hv3⟩, ⟨hu1, hu2, hu3⟩⟩ := id hI
  have hm : 30 * t < 2 ^ 29 := by omega
  have hC := hD.1.1
  obtain ⟨h9, h64, h512, hTq, hIq⟩ := id hC
  have hSK := hD.1.2
  have hV := DI_VB hD (by omega)
  have htx2 : ∀ j, tx j < 2 ^ 16 := fun j => by have := htx j; omega
  have hmX2 : ∀ j, mX M j < 128 := by rw [hmX]; exact htx
  have h6 : hN S ≤ 6 := hE.2.1
  have hs9 : ∀ j, j < hN S → hS S j < 9 := fun j hj => (hE.2.2 j hj).2.2
  show GG x kk nn ((lfo E ae ab ar an af ah ak ax ag z ++ (tw E ab 200 tx ++ (rw_ E ar R ++ (fw E an C ++ (fw E af D ++ (pw8 E ah V ++ (pw2 E ak U ++ (sw E ax S ++ (gw E ag G ++ (mw E a M))))))))))) 414 [(0, .ref b), (1, .ref (ae 0)), (2, .ref (a 0)), (3, .int (nI i))] []
  refine g_aload_n hX dL_law_414 1 rfl ?_
  refine g_aload_n hX dL_law_415 0 rfl ?_
  refine g_iload_n hX dL_law_416 3 rfl ?_
  refine g_iconst hX (nI 1) dL_law_417 rfl ?_
  refine g_iadd hX (nI (i + 1)) dL_law_418 (nI_add _ _) ?_
  refine g_sld hX hSX (i := i + 1) (nI k) (by omega) (by omega) e1 dL_law_419 ?_
  have hc420 : CUT ((lfo E ae ab ar an af ah ak ax ag z ++ (tw E ab 200 tx ++ (rw_ E ar R ++ (fw E an C ++ (fw E af D ++ (pw8 E ah V ++ (pw2 E ak U ++ (sw E ax S ++ (gw E ag G ++ (mw E a M))))))))))) ((lfo E ae ab ar an af ah ak ax ag z ++ (fw E an C ++ (pw8 E ah V)))) ((tw E ab 200 tx ++ (rw_ E ar R ++ (fw E af D ++ (pw2 E ak U ++ (sw E ax S ++ (gw E ag G ++ (mw E a M)))))))) [0, 4, 5, 6, 7, 8, 9, 10, 18, 19, 20, 21, 22, 23, 24, 25, 26, 27, 28, 29, 30, 31, 32, 33, 34, 35, 36, 37, 38, 39, 40, 41, 42, 43, 44, 45, 46, 47, 48, 49, 50, 51, 52, 53, 54, 55, 56, 57, 58, 59, 60, 61, 62, 63, 64, 65, 66, 67, 68, 69, 70, 71, 72, 73, 74, 75] [1, 2, 3, 11, 12, 13, 14, 15, 16, 17, 76, 77, 78, 79, 80, 81, 82, 83, 84, 85, 86, 87, 88, 89, 90, 91, 92, 93, 94, 95, 96, 97, 98, 99, 100, 101, 102, 103, 104, 105, 106, 107, 108, 109, 110] := ⟨rfl, rfl, rfl, rfl, rfl⟩
  refine g_VI hX hc420 [.int (nI k)] [] (c_X5_turn_y l E ae ab ar an af ah ak ax ag z C V (30 * t) k (by first | assumption | omega) (by first | assumption | omega) (by first | assumption | omega) (by first | assumption | omega)) gL_law_X5_turn calX5_turn rfl rfl rfl rfl 0 rfl rfl rfl rfl dL_law_420 rfl ⟨hkk, hnn⟩ (fun _ => (lfo E ae ab ar an af ah ak ax ag z ++ (tw E ab 200 tx ++ (rw_ E ar R ++ (fw E an (tuC C k) ++ (fw E af D ++ (pw8 E ah (padd8 V C) ++ (pw2 E ak U ++ (sw E ax S ++ (gw E ag G ++ (mw E a M))))))))))) [45, 0, 1, 2, 46, 47, 48, 49, 50, 51, 52, 3, 4, 5, 6, 7, 8, 9, 53, 54, 55, 56, 57, 58, 59, 60, 61, 62, 63, 64, 65, 66, 67, 68, 69, 70, 71, 72, 73, 74, 75, 76, 77, 78, 79, 80, 81, 82, 83, 84, 85, 86, 87, 88, 89, 90, 91, 92, 93, 94, 95, 96, 97, 98, 99, 100, 101, 102, 103, 104, 105, 106, 107, 108, 109, 110, 10, 11, 12, 13, 14, 15, 16, 17, 18, 19, 20, 21, 22, 23, 24, 25, 26, 27, 28, 29, 30, 31, 32, 33, 34, 35, 36, 37, 38, 39, 40, 41, 42, 43, 44] rfl (fun _ => rfl) (fun _ hu420 => ?_)
  refine g_aload_n hX dL_law_423 2 rfl ?_
  refine g_aload_n hX dL_law_424 0 rfl ?_
  refine g_iload_n hX dL_law_425 3 rfl ?_
  refine g_iconst hX (nI 1) dL_law_426 rfl ?_
  refine g_iadd hX (nI (i + 1)) dL_law_427 (nI_add _ _) ?_
  refine g_sld hX hSX (i := i + 1) (nI k) (by omega) (by omega) e1 dL_law_428 ?_
  have hc429 : CUT ((lfo E ae ab ar an af ah ak ax ag z ++ (tw E ab 200 tx ++ (rw_ E ar R ++ (fw E an (tuC C k) ++ (fw E af D ++ (pw8 E ah (padd8 V C) ++ (pw2 E ak U ++ (sw E ax S ++ (gw E ag G ++ (mw E a M))))))))))) (mw E a M) ((lfo E ae ab ar an af ah ak ax ag z ++ (tw E ab 200 tx ++ (rw_ E ar R ++ (fw E an (tuC C k) ++ (fw E af D ++ (pw8 E ah (padd8 V C) ++ (pw2 E ak U ++ (sw E ax S ++ (gw E ag G)))))))))) [98, 99, 100, 101, 102, 103, 104, 105, 106, 107, 108, 109, 110] [0, 1, 2, 3, 4, 5, 6, 7, 8, 9, 10, 11, 12, 13, 14, 15, 16, 17, 18, 19, 20, 21, 22, 23, 24, 25, 26, 27, 28, 29, 30, 31, 32, 33, 34, 35, 36, 37, 38, 39, 40, 41, 42, 43, 44, 45, 46, 47, 48, 49, 50, 51, 52, 53, 54, 55, 56, 57, 58, 59, 60, 61, 62, 63, 64, 65, 66, 67, 68, 69, 70, 71, 72, 73, 74, 75, 76, 77, 78, 79, 80, 81, 82, 83, 84, 85, 86, 87, 88, 89, 90, 91, 92, 93, 94, 95, 96, 97] := ⟨rfl, rfl, rfl, rfl, rfl⟩
  refine g_VI hX hc429 [.int (nI k)] [.int (nI (pop (lieM (tuC C k) (cF (tuC C k)))))] (c_X6_turn_y l E a M C (30 * t) k (by first | assumption | omega) (by first | assumption | omega) (by first | assumption | omega) (by first | assumption | omega) (by first | assumption | omega) (by first | assumption | omega) (by first | assumption | omega)) gL_law_X6_turn calX6_turn rfl rfl rfl rfl 98 rfl rfl rfl rfl dL_law_429 rfl ⟨hkk, hnn⟩ (fun u429 => (lfo E ae ab ar an af ah ak ax ag z ++ (tw E ab 200 tx ++ (rw_ E ar R ++ (fw E an (tuC C k) ++ (fw E af D ++ (pw8 E ah (padd8 V C) ++ (pw2 E ak U ++ (sw E ax S ++ (gw E ag G ++ (mw E a u429))))))))))) [0, 1, 2, 3, 4, 5, 6, 7, 8, 9, 10, 11, 12, 13, 14, 15, 16, 17, 18, 19, 20, 21, 22, 23, 24, 25, 26, 27, 28, 29, 30, 31, 32, 33, 34, 35, 36, 37, 38, 39, 40, 41, 42, 43, 44, 45, 46, 47, 48, 49, 50, 51, 52, 53, 54, 55, 56, 57, 58, 59, 60, 61, 62, 63, 64, 65, 66, 67, 68, 69, 70, 71, 72, 73, 74, 75, 76, 77, 78, 79, 80, 81, 82, 83, 84, 85, 86, 87, 88, 89, 90, 91, 92, 93, 94, 95, 96, 97, 98, 99, 100, 101, 102, 103, 104, 105, 106, 107, 108, 109, 110] rfl (fun _ => rfl) (fun u429 hu429 => ?_)
  refine g_icmp_eq hX 857 dL_law_432 (by decide) (fun _ => ?_) (fun c => (c (rfl)).elim)
  exact nx z tx R (tuC C k) D (padd8 V C) U S G u429 (INV_act hI (DI_up (DI_tu hD hk) (by omega)) (by rw [tuC_N]; exact hN1) (by rfl) hu429.1 hu429.2.1 hu429.2.2.1 hu429.2.2.2)
set_option maxHeartbeats 4000000 in
set_option maxRecDepth 100000 in
theorem lc_undo_n  (hc : LCX x l E b L xs kk nn t i) (hI : INV t z tx R C V U S M) (nx : NX x E ae ab ar an af ah ak ax ag a b kk nn t i) (h0 : mA M = 0) : GG x kk nn (LWM E ae ab ar an af ah ak ax ag a z tx R C D V U S G M) 437 [(0, .ref b), (1, .ref (ae 0)), (2, .ref (a 0)), (3, .int (nI i))] [] := by
  obtain ⟨hX, hSX, hkk, hnn, hit, hi5, hL3⟩ := hc
  obtain ⟨⟨hz, htx, hmX, hmL, hRq⟩, ⟨hN1, hD, hSr, hTm⟩, hE, ⟨hv1, hv2, hv3⟩, ⟨hu1, hu2, hu3⟩⟩ := id hI
  have hm : 30 * t < 2 ^ 29 := by omega
  have hC := hD.1.1
  obtain ⟨h9, h64, h512, hTq, hIq⟩ := id hC
  have hSK := hD.1.2
  have hV := DI_VB hD (by omega)
  have htx2 : ∀ j, tx j < 2 ^ 16 := fun j => by have := htx j; omega
  have hmX2 : ∀ j, mX M j < 128 := by rw [hmX]; exact htx
  have h6 : hN S ≤ 6 := hE.2.1
  have hs9 : ∀ j, j < hN S → hS S j < 9 := fun j hj => (hE.2.2 j hj).2.2
  show GG x kk nn ((lfo E ae ab ar an af ah ak ax ag z ++ (tw E ab 200 tx ++ (rw_ E ar R ++ (fw E an C ++ (fw E af D ++ (pw8 E ah V ++ (pw2 E ak U ++ (sw E ax S ++ (gw E ag G ++ (mw E a M))))))))))) 437 [(0, .ref b), (1, .ref (ae 0)), (2, .ref (a 0)), (3, .int (nI i))] []
  refine g_aload_n hX dL_law_437 1 rfl ?_
  have hc438 : CUT ((lfo E ae ab ar an af ah ak ax ag z ++ (tw E ab 200 tx ++ (rw_ E ar R ++ (fw E an C ++ (fw E af D ++ (pw8 E ah V ++ (pw2 E ak U ++ (sw E ax S ++ (gw E ag G ++ (mw E a M))))))))))) ((lfo E ae ab ar an af ah ak ax ag z ++ (fw E an C ++ (pw8 E ah V)))) ((tw E ab 200 tx ++ (rw_ E ar R ++ (fw E af D ++ (pw2 E ak U ++ (sw E ax S ++ (gw E ag G ++ (mw E a M)))))))) [0, 4, 5, 6, 7, 8, 9, 10, 18, 19, 20, 21, 22, 23, 24, 25, 26, 27, 28, 29, 30, 31, 32, 33, 34, 35, 36, 37, 38, 39, 40, 41, 42, 43, 44, 45, 46, 47, 48, 49, 50, 51, 52, 53, 54, 55, 56, 57, 58, 59, 60, 61, 62, 63, 64, 65, 66, 67, 68, 69, 70, 71, 72, 73, 74, 75] [1, 2, 3, 11, 12, 13, 14, 15, 16, 17, 76, 77, 78, 79, 80, 81, 82, 83, 84, 85, 86, 87, 88, 89, 90, 91, 92, 93, 94, 95, 96, 97, 98, 99, 100, 101, 102, 103, 104, 105, 106, 107, 108, 109, 110] := ⟨rfl, rfl, rfl, rfl, rfl⟩
  refine g_VI hX hc438 [] [] (c_X5_undo_n l E ae ab ar an af ah ak ax ag z C V (by first | assumption | omega)) gL_law_X5_undo calX5_undo rfl rfl rfl rfl 0 rfl rfl rfl rfl dL_law_438 rfl ⟨hkk, hnn⟩ (fun _ => (lfo E ae ab ar an af ah ak ax ag z ++ (tw E ab 200 tx ++ (rw_ E ar R ++ (fw E an C ++ (fw E af D ++ (pw8 E ah V ++ (pw2 E ak U ++ (sw E ax S ++ (gw E ag G ++ (mw E a M))))))))))) [45, 0, 1, 2, 46, 47, 48, 49, 50, 51, 52, 3, 4, 5, 6, 7, 8, 9, 53, 54, 55, 56, 57, 58, 59, 60, 61, 62, 63, 64, 65, 66, 67, 68, 69, 70, 71, 72, 73, 74, 75, 76, 77, 78, 79, 80, 81, 82, 83, 84, 85, 86, 87, 88, 89, 90, 91, 92, 93, 94, 95, 96, 97, 98, 99, 100, 101, 102, 103, 104, 105, 106, 107, 108, 109, 110, 10, 11, 12, 13, 14, 15, 16, 17, 18, 19, 20, 21, 22, 23, 24, 25, 26, 27, 28, 29, 30, 31, 32, 33, 34, 35, 36, 37, 38, 39, 40, 41, 42, 43, 44] rfl (fun _ => rfl) (fun _ hu438 => ?_)
  refine g_aload_n hX dL_law_441 2 rfl ?_
  have hc442 : CUT ((lfo E ae ab ar an af ah ak ax ag z ++ (tw E ab 200 tx ++ (rw_ E ar R ++ (fw E an C ++ (fw E af D ++ (pw8 E ah V ++ (pw2 E ak U ++ (sw E ax S ++ (gw E ag G ++ (mw E a M))))))))))) (mw E a M) ((lfo E ae ab ar an af ah ak ax ag z ++ (tw E ab 200 tx ++ (rw_ E ar R ++ (fw E an C ++ (fw E af D ++ (pw8 E ah V ++ (pw2 E ak U ++ (sw E ax S ++ (gw E ag G)))))))))) [98, 99, 100, 101, 102, 103, 104, 105, 106, 107, 108, 109, 110] [0, 1, 2, 3, 4, 5, 6, 7, 8, 9, 10, 11, 12, 13, 14, 15, 16, 17, 18, 19, 20, 21, 22, 23, 24, 25, 26, 27, 28, 29, 30, 31, 32, 33, 34, 35, 36, 37, 38, 39, 40, 41, 42, 43, 44, 45, 46, 47, 48, 49, 50, 51, 52, 53, 54, 55, 56, 57, 58, 59, 60, 61, 62, 63, 64, 65, 66, 67, 68, 69, 70, 71, 72, 73, 74, 75, 76, 77, 78, 79, 80, 81, 82, 83, 84, 85, 86, 87, 88, 89, 90, 91, 92, 93, 94, 95, 96, 97] := ⟨rfl, rfl, rfl, rfl, rfl⟩
  refine g_VI hX hc442 [] [.int (-2)] (c_X6_undo_n l E a M (by first | assumption | omega)) gL_law_X6_undo calX6_undo rfl rfl rfl rfl 98 rfl rfl rfl rfl dL_law_442 rfl ⟨hkk, hnn⟩ (fun u442 => (lfo E ae ab ar an af ah ak ax ag z ++ (tw E ab 200 tx ++ (rw_ E ar R ++ (fw E an C ++ (fw E af D ++ (pw8 E ah V ++ (pw2 E ak U ++ (sw E ax S ++ (gw E ag G ++ (mw E a u442))))))))))) [0, 1, 2, 3, 4, 5, 6, 7, 8, 9, 10, 11, 12, 13, 14, 15, 16, 17, 18, 19, 20, 21, 22, 23, 24, 25, 26, 27, 28, 29, 30, 31, 32, 33, 34, 35, 36, 37, 38, 39, 40, 41, 42, 43, 44, 45, 46, 47, 48, 49, 50, 51, 52, 53, 54, 55, 56, 57, 58, 59, 60, 61, 62, 63, 64, 65, 66, 67, 68, 69, 70, 71, 72, 73, 74, 75, 76, 77, 78, 79, 80, 81, 82, 83, 84, 85, 86, 87, 88, 89, 90, 91, 92, 93, 94, 95, 96, 97, 98, 99, 100, 101, 102, 103, 104, 105, 106, 107, 108, 109, 110] rfl (fun _ => rfl) (fun u442 hu442 => ?_)
  refine g_icmp_eq hX 857 dL_law_445 (by decide) (fun _ => ?_) (fun c => (c (rfl)).elim)
  exact nx z tx R C D V U S G u442 (INV_KS hI hu442)
set_option maxHeartbeats 4000000 in
set_option maxRecDepth 100000 in
theorem lc_undo_y  (hc : LCX x l E b L xs kk nn t i) (hI : INV t z tx R C V U S M) (nx : NX x E ae ab ar an af ah ak ax ag a b kk nn t i) (h0 : 0 < mA M) : GG x kk nn (LWM E ae ab ar an af ah ak ax ag a z tx R C D V U S G M) 437 [(0, .ref b), (1, .ref (ae 0)), (2, .ref (a 0)), (3, .int (nI i))] [] := by
  obtain ⟨hX, hSX, hkk, hnn, hit, hi5, hL3⟩ := hc
  obtain ⟨⟨hz, htx, hmX, hmL, hRq⟩, ⟨hN1, hD, hSr, hTm⟩, hE, ⟨hv1, hv2, hv3⟩, ⟨hu1, hu2, hu3⟩⟩ := id hI
  have hm : 30 * t < 2 ^ 29 := by omega
  have hC := hD.1.1
  obtain ⟨h9, h64, h512, hTq, hIq⟩ := id hC
  have hSK := hD.1.2
  have hV := DI_VB hD (by omega)
  have htx2 : ∀ j, tx j < 2 ^ 16 := fun j => by have := htx j; omega
  have hmX2 : ∀ j, mX M j < 128 := by rw [hmX]; exact htx
  have h6 : hN S ≤ 6 := hE.2.1
  have hs9 : ∀ j, j < hN S → hS S j < 9 := fun j hj => (hE.2.2 j hj).2.2
  have hq := hv3 (mA M - 1) (by omega)
  show GG x kk nn ((lfo E ae ab ar an af ah ak ax ag z ++ (tw E ab 200 tx ++ (rw_ E ar R ++ (fw E an C ++ (fw E af D ++ (pw8 E ah V ++ (pw2 E ak U ++ (sw E ax S ++ (gw E ag G ++ (mw E a M))))))))))) 437 [(0, .ref b), (1, .ref (ae 0)), (2, .ref (a 0)), (3, .int (nI i))] []
  refine g_aload_n hX dL_law_437 1 rfl ?_
  have hc438 : CUT ((lfo E ae ab ar an af ah ak ax ag z ++ (tw E ab 200 tx ++ (rw_ E ar R ++ (fw E an C ++ (fw E af D ++ (pw8 E ah V ++ (pw2 E ak U ++ (sw E ax S ++ (gw E ag G ++ (mw E a M))))))))))) ((lfo E ae ab ar an af ah ak ax ag z ++ (fw E an C ++ (pw8 E ah V)))) ((tw E ab 200 tx ++ (rw_ E ar R ++ (fw E af D ++ (pw2 E ak U ++ (sw E ax S ++ (gw E ag G ++ (mw E a M)))))))) [0, 4, 5, 6, 7, 8, 9, 10, 18, 19, 20, 21, 22, 23, 24, 25, 26, 27, 28, 29, 30, 31, 32, 33, 34, 35, 36, 37, 38, 39, 40, 41, 42, 43, 44, 45, 46, 47, 48, 49, 50, 51, 52, 53, 54, 55, 56, 57, 58, 59, 60, 61, 62, 63, 64, 65, 66, 67, 68, 69, 70, 71, 72, 73, 74, 75] [1, 2, 3, 11, 12, 13, 14, 15, 16, 17, 76, 77, 78, 79, 80, 81, 82, 83, 84, 85, 86, 87, 88, 89, 90, 91, 92, 93, 94, 95, 96, 97, 98, 99, 100, 101, 102, 103, 104, 105, 106, 107, 108, 109, 110] := ⟨rfl, rfl, rfl, rfl, rfl⟩
  refine g_VI hX hc438 [] [] (c_X5_undo_y l E ae ab ar an af ah ak ax ag z C V (by first | assumption | omega) (by first | assumption | omega)) gL_law_X5_undo calX5_undo rfl rfl rfl rfl 0 rfl rfl rfl rfl dL_law_438 rfl ⟨hkk, hnn⟩ (fun _ => (lfo E ae ab ar an af ah ak ax ag z ++ (tw E ab 200 tx ++ (rw_ E ar R ++ (fw E an ((pQ V) ((pz V) - 1)) ++ (fw E af D ++ (pw8 E ah (ptk V) ++ (pw2 E ak U ++ (sw E ax S ++ (gw E ag G ++ (mw E a M))))))))))) [45, 0, 1, 2, 46, 47, 48, 49, 50, 51, 52, 3, 4, 5, 6, 7, 8, 9, 53, 54, 55, 56, 57, 58, 59, 60, 61, 62, 63, 64, 65, 66, 67, 68, 69, 70, 71, 72, 73, 74, 75, 76, 77, 78, 79, 80, 81, 82, 83, 84, 85, 86, 87, 88, 89, 90, 91, 92, 93, 94, 95, 96, 97, 98, 99, 100, 101, 102, 103, 104, 105, 106, 107, 108, 109, 110, 10, 11, 12, 13, 14, 15, 16, 17, 18, 19, 20, 21, 22, 23, 24, 25, 26, 27, 28, 29, 30, 31, 32, 33, 34, 35, 36, 37, 38, 39, 40, 41, 42, 43, 44] rfl (fun _ => rfl) (fun _ hu438 => ?_)
  refine g_aload_n hX dL_law_441 2 rfl ?_
  have hc442 : CUT ((lfo E ae ab ar an af ah ak ax ag z ++ (tw E ab 200 tx ++ (rw_ E ar R ++ (fw E an ((pQ V) ((pz V) - 1)) ++ (fw E af D ++ (pw8 E ah (ptk V) ++ (pw2 E ak U ++ (sw E ax S ++ (gw E ag G ++ (mw E a M))))))))))) (mw E a M) ((lfo E ae ab ar an af ah ak ax ag z ++ (tw E ab 200 tx ++ (rw_ E ar R ++ (fw E an ((pQ V) ((pz V) - 1)) ++ (fw E af D ++ (pw8 E ah (ptk V) ++ (pw2 E ak U ++ (sw E ax S ++ (gw E ag G)))))))))) [98, 99, 100, 101, 102, 103, 104, 105, 106, 107, 108, 109, 110] [0, 1, 2, 3, 4, 5, 6, 7, 8, 9, 10, 11, 12, 13, 14, 15, 16, 17, 18, 19, 20, 21, 22, 23, 24, 25, 26, 27, 28, 29, 30, 31, 32, 33, 34, 35, 36, 37, 38, 39, 40, 41, 42, 43, 44, 45, 46, 47, 48, 49, 50, 51, 52, 53, 54, 55, 56, 57, 58, 59, 60, 61, 62, 63, 64, 65, 66, 67, 68, 69, 70, 71, 72, 73, 74, 75, 76, 77, 78, 79, 80, 81, 82, 83, 84, 85, 86, 87, 88, 89, 90, 91, 92, 93, 94, 95, 96, 97] := ⟨rfl, rfl, rfl, rfl, rfl⟩
  refine g_VI hX hc442 [] [.int (nI ((pz V) - 1))] (c_X6_undo_y l E a M (pQ V (pz V - 1)) (by first | assumption | omega) (by first | assumption | omega) (by rw [hv1]; exact hq.2.1.1.1.1) (by rw [hv1]; exact hq.2.2.1)) gL_law_X6_undo calX6_undo rfl rfl rfl rfl 98 rfl rfl rfl rfl dL_law_442 rfl ⟨hkk, hnn⟩ (fun u442 => (lfo E ae ab ar an af ah ak ax ag z ++ (tw E ab 200 tx ++ (rw_ E ar R ++ (fw E an ((pQ V) ((pz V) - 1)) ++ (fw E af D ++ (pw8 E ah (ptk V) ++ (pw2 E ak U ++ (sw E ax S ++ (gw E ag G ++ (mw E a u442))))))))))) [0, 1, 2, 3, 4, 5, 6, 7, 8, 9, 10, 11, 12, 13, 14, 15, 16, 17, 18, 19, 20, 21, 22, 23, 24, 25, 26, 27, 28, 29, 30, 31, 32, 33, 34, 35, 36, 37, 38, 39, 40, 41, 42, 43, 44, 45, 46, 47, 48, 49, 50, 51, 52, 53, 54, 55, 56, 57, 58, 59, 60, 61, 62, 63, 64, 65, 66, 67, 68, 69, 70, 71, 72, 73, 74, 75, 76, 77, 78, 79, 80, 81, 82, 83, 84, 85, 86, 87, 88, 89, 90, 91, 92, 93, 94, 95, 96, 97, 98, 99, 100, 101, 102, 103, 104, 105, 106, 107, 108, 109, 110] rfl (fun _ => rfl) (fun u442 hu442 => ?_)
  refine g_icmp_eq hX 857 dL_law_445 (by decide) (fun _ => ?_) (fun c => (c (by rw [hv1])).elim)
  exact nx z tx R ((pQ V) ((pz V) - 1)) D (ptk V) U S G u442 (INV_undo hI h0 hu442.1 hu442.2.1 hu442.2.2.1 hu442.2.2.2)
set_option maxHeartbeats 4000000 in
set_option maxRecDepth 100000 in
theorem lc_behind_n  (hc : LCX x l E b L xs kk nn t i) (hI : INV t z tx R C V U S M) (nx : NX x E ae ab ar an af ah ak ax ag a b kk nn t i) (hx : win (xs (i + 1)) (nI 0) (nI 60) = false) : GG x kk nn (LWM E ae ab ar an af ah ak ax ag a z tx R C D V U S G M) 450 [(0, .ref b), (1, .ref (ae 0)), (2, .ref (a 0)), (3, .int (nI i))] [] := by
  obtain ⟨hX, hSX, hkk, hnn, hit, hi5, hL3⟩ := hc
  obtain ⟨⟨hz, htx, hmX, hmL, hRq⟩, ⟨hN1, hD, hSr, hTm⟩, hE, ⟨hv1, hv2, hv3⟩, ⟨hu1, hu2, hu3⟩⟩ := id hI
  have hm : 30 * t < 2 ^ 29 := by omega
  have hC := hD.1.1
  obtain ⟨h9, h64, h512, hTq, hIq⟩ := id hC
  have hSK := hD.1.2
  have hV := DI_VB hD (by omega)
  have htx2 : ∀ j, tx j < 2 ^ 16 := fun j => by have := htx j; omega
  have hmX2 : ∀ j, mX M j < 128 := by rw [hmX]; exact htx
  have h6 : hN S ≤ 6 := hE.2.1
  have hs9 : ∀ j, j < hN S → hS S j < 9 := fun j hj => (hE.2.2 j hj).2.2
  show GG x kk nn ((lfo E ae ab ar an af ah ak ax ag z ++ (tw E ab 200 tx ++ (rw_ E ar R ++ (fw E an C ++ (fw E af D ++ (pw8 E ah V ++ (pw2 E ak U ++ (sw E ax S ++ (gw E ag G ++ (mw E a M))))))))))) 450 [(0, .ref b), (1, .ref (ae 0)), (2, .ref (a 0)), (3, .int (nI i))] []
  refine g_aload_n hX dL_law_450 1 rfl ?_
  refine g_aload_n hX dL_law_451 0 rfl ?_
  refine g_iload_n hX dL_law_452 3 rfl ?_
  refine g_iconst hX (nI 1) dL_law_453 rfl ?_
  refine g_iadd hX (nI (i + 1)) dL_law_454 (nI_add _ _) ?_
  refine g_sld hX hSX (i := i + 1) ((xs (i + 1))) (by omega) (by omega) rfl dL_law_455 ?_
  have hc456 : CUT ((lfo E ae ab ar an af ah ak ax ag z ++ (tw E ab 200 tx ++ (rw_ E ar R ++ (fw E an C ++ (fw E af D ++ (pw8 E ah V ++ (pw2 E ak U ++ (sw E ax S ++ (gw E ag G ++ (mw E a M))))))))))) (lfo E ae ab ar an af ah ak ax ag z) ((tw E ab 200 tx ++ (rw_ E ar R ++ (fw E an C ++ (fw E af D ++ (pw8 E ah V ++ (pw2 E ak U ++ (sw E ax S ++ (gw E ag G ++ (mw E a M)))))))))) [0] [1, 2, 3, 4, 5, 6, 7, 8, 9, 10, 11, 12, 13, 14, 15, 16, 17, 18, 19, 20, 21, 22, 23, 24, 25, 26, 27, 28, 29, 30, 31, 32, 33, 34, 35, 36, 37, 38, 39, 40, 41, 42, 43, 44, 45, 46, 47, 48, 49, 50, 51, 52, 53, 54, 55, 56, 57, 58, 59, 60, 61, 62, 63, 64, 65, 66, 67, 68, 69, 70, 71, 72, 73, 74, 75, 76, 77, 78, 79, 80, 81, 82, 83, 84, 85, 86, 87, 88, 89, 90, 91, 92, 93, 94, 95, 96, 97, 98, 99, 100, 101, 102, 103, 104, 105, 106, 107, 108, 109, 110] := ⟨rfl, rfl, rfl, rfl, rfl⟩
  refine g_VI hX hc456 [.int (xs (i + 1))] [] (c_X5_behind_n l E ae ab ar an af ah ak ax ag z (xs (i + 1)) (by first | assumption | omega)) gL_law_X5_behind calX5_behind rfl rfl rfl rfl 0 rfl rfl rfl rfl dL_law_456 rfl ⟨hkk, hnn⟩ (fun _ => (lfo E ae ab ar an af ah ak ax ag z ++ (tw E ab 200 tx ++ (rw_ E ar R ++ (fw E an C ++ (fw E af D ++ (pw8 E ah V ++ (pw2 E ak U ++ (sw E ax S ++ (gw E ag G ++ (mw E a M))))))))))) [110, 0, 1, 2, 3, 4, 5, 6, 7, 8, 9, 10, 11, 12, 13, 14, 15, 16, 17, 18, 19, 20, 21, 22, 23, 24, 25, 26, 27, 28, 29, 30, 31, 32, 33, 34, 35, 36, 37, 38, 39, 40, 41, 42, 43, 44, 45, 46, 47, 48, 49, 50, 51, 52, 53, 54, 55, 56, 57, 58, 59, 60, 61, 62, 63, 64, 65, 66, 67, 68, 69, 70, 71, 72, 73, 74, 75, 76, 77, 78, 79, 80, 81, 82, 83, 84, 85, 86, 87, 88, 89, 90, 91, 92, 93, 94, 95, 96, 97, 98, 99, 100, 101, 102, 103, 104, 105, 106, 107, 108, 109] rfl (fun _ => rfl) (fun _ hu456 => ?_)
  refine g_aload_n hX dL_law_459 2 rfl ?_
  refine g_aload_n hX dL_law_460 0 rfl ?_
  refine g_iload_n hX dL_law_461 3 rfl ?_
  refine g_iconst hX (nI 1) dL_law_462 rfl ?_
  refine g_iadd hX (nI (i + 1)) dL_law_463 (nI_add _ _) ?_
  refine g_sld hX hSX (i := i + 1) ((xs (i + 1))) (by omega) (by omega) rfl dL_law_464 ?_
  have hc465 : CUT ((lfo E ae ab ar an af ah ak ax ag z ++ (tw E ab 200 tx ++ (rw_ E ar R ++ (fw E an C ++ (fw E af D ++ (pw8 E ah V ++ (pw2 E ak U ++ (sw E ax S ++ (gw E ag G ++ (mw E a M))))))))))) (mw E a M) ((lfo E ae ab ar an af ah ak ax ag z ++ (tw E ab 200 tx ++ (rw_ E ar R ++ (fw E an C ++ (fw E af D ++ (pw8 E ah V ++ (pw2 E ak U ++ (sw E ax S ++ (gw E ag G)))))))))) [98, 99, 100, 101, 102, 103, 104, 105, 106, 107, 108, 109, 110] [0, 1, 2, 3, 4, 5, 6, 7, 8, 9, 10, 11, 12, 13, 14, 15, 16, 17, 18, 19, 20, 21, 22, 23, 24, 25, 26, 27, 28, 29, 30, 31, 32, 33, 34, 35, 36, 37, 38, 39, 40, 41, 42, 43, 44, 45, 46, 47, 48, 49, 50, 51, 52, 53, 54, 55, 56, 57, 58, 59, 60, 61, 62, 63, 64, 65, 66, 67, 68, 69, 70, 71, 72, 73, 74, 75, 76, 77, 78, 79, 80, 81, 82, 83, 84, 85, 86, 87, 88, 89, 90, 91, 92, 93, 94, 95, 96, 97] := ⟨rfl, rfl, rfl, rfl, rfl⟩
  refine g_VI hX hc465 [.int (xs (i + 1))] [.int (-1)] (c_X6_behind_n l E a M C (30 * t) (xs (i + 1)) (by first | assumption | omega) (by first | assumption | omega) (by first | assumption | omega) (by first | assumption | omega) (by first | assumption | omega) (by first | assumption | omega)) gL_law_X6_behind calX6_behind rfl rfl rfl rfl 98 rfl rfl rfl rfl dL_law_465 rfl ⟨hkk, hnn⟩ (fun u465 => (lfo E ae ab ar an af ah ak ax ag z ++ (tw E ab 200 tx ++ (rw_ E ar R ++ (fw E an C ++ (fw E af D ++ (pw8 E ah V ++ (pw2 E ak U ++ (sw E ax S ++ (gw E ag G ++ (mw E a u465))))))))))) [0, 1, 2, 3, 4, 5, 6, 7, 8, 9, 10, 11, 12, 13, 14, 15, 16, 17, 18, 19, 20, 21, 22, 23, 24, 25, 26, 27, 28, 29, 30, 31, 32, 33, 34, 35, 36, 37, 38, 39, 40, 41, 42, 43, 44, 45, 46, 47, 48, 49, 50, 51, 52, 53, 54, 55, 56, 57, 58, 59, 60, 61, 62, 63, 64, 65, 66, 67, 68, 69, 70, 71, 72, 73, 74, 75, 76, 77, 78, 79, 80, 81, 82, 83, 84, 85, 86, 87, 88, 89, 90, 91, 92, 93, 94, 95, 96, 97, 98, 99, 100, 101, 102, 103, 104, 105, 106, 107, 108, 109, 110] rfl (fun _ => rfl) (fun u465 hu465 => ?_)
  refine g_icmp_eq hX 857 dL_law_468 (by decide) (fun _ => ?_) (fun c => (c (rfl)).elim)
  exact nx z tx R C D V U S G u465 (INV_KS hI hu465)
set_option maxHeartbeats 4000000 in
set_option maxRecDepth 100000 in
theorem lc_behind_y (n : Nat) (hc : LCX x l E b L xs kk nn t i) (hI : INV t z tx R C V U S M) (nx : NX x E ae ab ar an af ah ak ax ag a b kk nn t i) (e1 : xs (i + 1) = nI n) (hn2 : n ≤ 60) : GG x kk nn (LWM E ae ab ar an af ah ak ax ag a z tx R C D V U S G M) 450 [(0, .ref b), (1, .ref (ae 0)), (2, .ref (a 0)), (3, .int (nI i))] [] := by
  obtain ⟨hX, hSX, hkk, hnn, hit, hi5, hL3⟩ := hc
  obtain ⟨⟨hz, htx, hmX, hmL, hRq⟩, ⟨hN1, hD, hSr, hTm⟩, hE, ⟨hv1, hv2, hv3⟩, ⟨hu1, hu2, hu3⟩⟩ := id hI
  have hm : 30 * t < 2 ^ 29 := by omega
  have hC := hD.1.1
  obtain ⟨h9, h64, h512, hTq, hIq⟩ := id hC
  have hSK := hD.1.2
  have hV := DI_VB hD (by omega)
  have htx2 : ∀ j, tx j < 2 ^ 16 := fun j => by have := htx j; omega
  have hmX2 : ∀ j, mX M j < 128 := by rw [hmX]; exact htx
  have h6 : hN S ≤ 6 := hE.2.1
  have hs9 : ∀ j, j < hN S → hS S j < 9 := fun j hj => (hE.2.2 j hj).2.2
  show GG x kk nn ((lfo E ae ab ar an af ah ak ax ag z ++ (tw E ab 200 tx ++ (rw_ E ar R ++ (fw E an C ++ (fw E af D ++ (pw8 E ah V ++ (pw2 E ak U ++ (sw E ax S ++ (gw E ag G ++ (mw E a M))))))))))) 450 [(0, .ref b), (1, .ref (ae 0)), (2, .ref (a 0)), (3, .int (nI i))] []
  refine g_aload_n hX dL_law_450 1 rfl ?_
  refine g_aload_n hX dL_law_451 0 rfl ?_
  refine g_iload_n hX dL_law_452 3 rfl ?_
  refine g_iconst hX (nI 1) dL_law_453 rfl ?_
  refine g_iadd hX (nI (i + 1)) dL_law_454 (nI_add _ _) ?_
  refine g_sld hX hSX (i := i + 1) (nI n) (by omega) (by omega) e1 dL_law_455 ?_
  have hc456 : CUT ((lfo E ae ab ar an af ah ak ax ag z ++ (tw E ab 200 tx ++ (rw_ E ar R ++ (fw E an C ++ (fw E af D ++ (pw8 E ah V ++ (pw2 E ak U ++ (sw E ax S ++ (gw E ag G ++ (mw E a M))))))))))) ((lfo E ae ab ar an af ah ak ax ag z ++ (fw E an C ++ (fw E af D)))) ((tw E ab 200 tx ++ (rw_ E ar R ++ (pw8 E ah V ++ (pw2 E ak U ++ (sw E ax S ++ (gw E ag G ++ (mw E a M)))))))) [0, 4, 5, 6, 7, 8, 9, 10, 11, 12, 13, 14, 15, 16, 17] [1, 2, 3, 18, 19, 20, 21, 22, 23, 24, 25, 26, 27, 28, 29, 30, 31, 32, 33, 34, 35, 36, 37, 38, 39, 40, 41, 42, 43, 44, 45, 46, 47, 48, 49, 50, 51, 52, 53, 54, 55, 56, 57, 58, 59, 60, 61, 62, 63, 64, 65, 66, 67, 68, 69, 70, 71, 72, 73, 74, 75, 76, 77, 78, 79, 80, 81, 82, 83, 84, 85, 86, 87, 88, 89, 90, 91, 92, 93, 94, 95, 96, 97, 98, 99, 100, 101, 102, 103, 104, 105, 106, 107, 108, 109, 110] := ⟨rfl, rfl, rfl, rfl, rfl⟩
  refine g_VI hX hc456 [.int (nI n)] [] (c_X5_behind_y l E ae ab ar an af ah ak ax ag z C D (30 * t) n (by first | assumption | omega) (by first | assumption | omega) (by first | assumption | omega)) gL_law_X5_behind calX5_behind rfl rfl rfl rfl 0 rfl rfl rfl rfl dL_law_456 rfl ⟨hkk, hnn⟩ (fun _ => (lfo E ae ab ar an af ah ak ax ag z ++ (tw E ab 200 tx ++ (rw_ E ar R ++ (fw E an C ++ (fw E af (dayC C n) ++ (pw8 E ah V ++ (pw2 E ak U ++ (sw E ax S ++ (gw E ag G ++ (mw E a M))))))))))) [96, 0, 1, 2, 97, 98, 99, 100, 101, 102, 103, 104, 105, 106, 107, 108, 109, 110, 3, 4, 5, 6, 7, 8, 9, 10, 11, 12, 13, 14, 15, 16, 17, 18, 19, 20, 21, 22, 23, 24, 25, 26, 27, 28, 29, 30, 31, 32, 33, 34, 35, 36, 37, 38, 39, 40, 41, 42, 43, 44, 45, 46, 47, 48, 49, 50, 51, 52, 53, 54, 55, 56, 57, 58, 59, 60, 61, 62, 63, 64, 65, 66, 67, 68, 69, 70, 71, 72, 73, 74, 75, 76, 77, 78, 79, 80, 81, 82, 83, 84, 85, 86, 87, 88, 89, 90, 91, 92, 93, 94, 95] rfl (fun _ => rfl) (fun _ hu456 => ?_)
  refine g_aload_n hX dL_law_459 2 rfl ?_
  refine g_aload_n hX dL_law_460 0 rfl ?_
  refine g_iload_n hX dL_law_461 3 rfl ?_
  refine g_iconst hX (nI 1) dL_law_462 rfl ?_
  refine g_iadd hX (nI (i + 1)) dL_law_463 (nI_add _ _) ?_
  refine g_sld hX hSX (i := i + 1) (nI n) (by omega) (by omega) e1 dL_law_464 ?_
  have hc465 : CUT ((lfo E ae ab ar an af ah ak ax ag z ++ (tw E ab 200 tx ++ (rw_ E ar R ++ (fw E an C ++ (fw E af (dayC C n) ++ (pw8 E ah V ++ (pw2 E ak U ++ (sw E ax S ++ (gw E ag G ++ (mw E a M))))))))))) (mw E a M) ((lfo E ae ab ar an af ah ak ax ag z ++ (tw E ab 200 tx ++ (rw_ E ar R ++ (fw E an C ++ (fw E af (dayC C n) ++ (pw8 E ah V ++ (pw2 E ak U ++ (sw E ax S ++ (gw E ag G)))))))))) [98, 99, 100, 101, 102, 103, 104, 105, 106, 107, 108, 109, 110] [0, 1, 2, 3, 4, 5, 6, 7, 8, 9, 10, 11, 12, 13, 14, 15, 16, 17, 18, 19, 20, 21, 22, 23, 24, 25, 26, 27, 28, 29, 30, 31, 32, 33, 34, 35, 36, 37, 38, 39, 40, 41, 42, 43, 44, 45, 46, 47, 48, 49, 50, 51, 52, 53, 54, 55, 56, 57, 58, 59, 60, 61, 62, 63, 64, 65, 66, 67, 68, 69, 70, 71, 72, 73, 74, 75, 76, 77, 78, 79, 80, 81, 82, 83, 84, 85, 86, 87, 88, 89, 90, 91, 92, 93, 94, 95, 96, 97] := ⟨rfl, rfl, rfl, rfl, rfl⟩
  refine g_VI hX hc465 [.int (nI n)] [.int (nI (lieM (dayC C n) (cF (dayC C n))))] (c_X6_behind_y l E a M C (30 * t) n (by first | assumption | omega) (by first | assumption | omega) (by first | assumption | omega) (by first | assumption | omega) (by first | assumption | omega) (by first | assumption | omega)) gL_law_X6_behind calX6_behind rfl rfl rfl rfl 98 rfl rfl rfl rfl dL_law_465 rfl ⟨hkk, hnn⟩ (fun u465 => (lfo E ae ab ar an af ah ak ax ag z ++ (tw E ab 200 tx ++ (rw_ E ar R ++ (fw E an C ++ (fw E af (dayC C n) ++ (pw8 E ah V ++ (pw2 E ak U ++ (sw E ax S ++ (gw E ag G ++ (mw E a u465))))))))))) [0, 1, 2, 3, 4, 5, 6, 7, 8, 9, 10, 11, 12, 13, 14, 15, 16, 17, 18, 19, 20, 21, 22, 23, 24, 25, 26, 27, 28, 29, 30, 31, 32, 33, 34, 35, 36, 37, 38, 39, 40, 41, 42, 43, 44, 45, 46, 47, 48, 49, 50, 51, 52, 53, 54, 55, 56, 57, 58, 59, 60, 61, 62, 63, 64, 65, 66, 67, 68, 69, 70, 71, 72, 73, 74, 75, 76, 77, 78, 79, 80, 81, 82, 83, 84, 85, 86, 87, 88, 89, 90, 91, 92, 93, 94, 95, 96, 97, 98, 99, 100, 101, 102, 103, 104, 105, 106, 107, 108, 109, 110] rfl (fun _ => rfl) (fun u465 hu465 => ?_)
  refine g_icmp_eq hX 857 dL_law_468 (by decide) (fun _ => ?_) (fun c => (c (rfl)).elim)
  exact nx z tx R C (dayC C n) V U S G u465 (INV_KS hI hu465)
set_option maxHeartbeats 4000000 in
set_option maxRecDepth 100000 in
theorem lc_fall_n  (hc : LCX x l E b L xs kk nn t i) (hI : INV t z tx R C V U S M) (nx : NX x E ae ab ar an af ah ak ax ag a b kk nn t i) (hx : win (xs (i + 1)) (nI 0) (nI 1) = false) : GG x kk nn (LWM E ae ab ar an af ah ak ax ag a z tx R C D V U S G M) 473 [(0, .ref b), (1, .ref (ae 0)), (2, .ref (a 0)), (3, .int (nI i))] [] := by
  obtain ⟨hX, hSX, hkk, hnn, hit, hi5, hL3⟩ := hc
  obtain ⟨⟨hz, htx, hmX, hmL, hRq⟩, ⟨hN1, hD, hSr, hTm⟩, hE, ⟨hv1, hv2, hv3⟩, ⟨hu1, hu2, hu3⟩⟩ := id hI
  have hm : 30 * t < 2 ^ 29 := by omega
  have hC := hD.1.1
  obtain ⟨h9, h64, h512, hTq, hIq⟩ := id hC
  have hSK := hD.1.2
  have hV := DI_VB hD (by omega)
  have htx2 : ∀ j, tx j < 2 ^ 16 := fun j => by have := htx j; omega
  have hmX2 : ∀ j, mX M j < 128 := by rw [hmX]; exact htx
  have h6 : hN S ≤ 6 := hE.2.1
  have hs9 : ∀ j, j < hN S → hS S j < 9 := fun j hj => (hE.2.2 j hj).2.2
  show GG x kk nn ((lfo E ae ab ar an af ah ak ax ag z ++ (tw E ab 200 tx ++ (rw_ E ar R ++ (fw E an C ++ (fw E af D ++ (pw8 E ah V ++ (pw2 E ak U ++ (sw E ax S ++ (gw E ag G ++ (mw E a M))))))))))) 473 [(0, .ref b), (1, .ref (ae 0)), (2, .ref (a 0)), (3, .int (nI i))] []
  refine g_aload_n hX dL_law_473 1 rfl ?_
  refine g_aload_n hX dL_law_474 0 rfl ?_
  refine g_iload_n hX dL_law_475 3 rfl ?_
  refine g_iconst hX (nI 1) dL_law_476 rfl ?_
  refine g_iadd hX (nI (i + 1)) dL_law_477 (nI_add _ _) ?_
  refine g_sld hX hSX (i := i + 1) ((xs (i + 1))) (by omega) (by omega) rfl dL_law_478 ?_
  have hc479 : CUT ((lfo E ae ab ar an af ah ak ax ag z ++ (tw E ab 200 tx ++ (rw_ E ar R ++ (fw E an C ++ (fw E af D ++ (pw8 E ah V ++ (pw2 E ak U ++ (sw E ax S ++ (gw E ag G ++ (mw E a M))))))))))) (lfo E ae ab ar an af ah ak ax ag z) ((tw E ab 200 tx ++ (rw_ E ar R ++ (fw E an C ++ (fw E af D ++ (pw8 E ah V ++ (pw2 E ak U ++ (sw E ax S ++ (gw E ag G ++ (mw E a M)))))))))) [0] [1, 2, 3, 4, 5, 6, 7, 8, 9, 10, 11, 12, 13, 14, 15, 16, 17, 18, 19, 20, 21, 22, 23, 24, 25, 26, 27, 28, 29, 30, 31, 32, 33, 34, 35, 36, 37, 38, 39, 40, 41, 42, 43, 44, 45, 46, 47, 48, 49, 50, 51, 52, 53, 54, 55, 56, 57, 58, 59, 60, 61, 62, 63, 64, 65, 66, 67, 68, 69, 70, 71, 72, 73, 74, 75, 76, 77, 78, 79, 80, 81, 82, 83, 84, 85, 86, 87, 88, 89, 90, 91, 92, 93, 94, 95, 96, 97, 98, 99, 100, 101, 102, 103, 104, 105, 106, 107, 108, 109, 110] := ⟨rfl, rfl, rfl, rfl, rfl⟩
  refine g_VI hX hc479 [.int (xs (i + 1))] [] (c_X5_fall_n l E ae ab ar an af ah ak ax ag z (xs (i + 1)) (by first | assumption | omega)) gL_law_X5_fall calX5_fall rfl rfl rfl rfl 0 rfl rfl rfl rfl dL_law_479 rfl ⟨hkk, hnn⟩ (fun _ => (lfo E ae ab ar an af ah ak ax ag z ++ (tw E ab 200 tx ++ (rw_ E ar R ++ (fw E an C ++ (fw E af D ++ (pw8 E ah V ++ (pw2 E ak U ++ (sw E ax S ++ (gw E ag G ++ (mw E a M))))))))))) [110, 0, 1, 2, 3, 4, 5, 6, 7, 8, 9, 10, 11, 12, 13, 14, 15, 16, 17, 18, 19, 20, 21, 22, 23, 24, 25, 26, 27, 28, 29, 30, 31, 32, 33, 34, 35, 36, 37, 38, 39, 40, 41, 42, 43, 44, 45, 46, 47, 48, 49, 50, 51, 52, 53, 54, 55, 56, 57, 58, 59, 60, 61, 62, 63, 64, 65, 66, 67, 68, 69, 70, 71, 72, 73, 74, 75, 76, 77, 78, 79, 80, 81, 82, 83, 84, 85, 86, 87, 88, 89, 90, 91, 92, 93, 94, 95, 96, 97, 98, 99, 100, 101, 102, 103, 104, 105, 106, 107, 108, 109] rfl (fun _ => rfl) (fun _ hu479 => ?_)
  refine g_aload_n hX dL_law_482 2 rfl ?_
  refine g_aload_n hX dL_law_483 0 rfl ?_
  refine g_iload_n hX dL_law_484 3 rfl ?_
  refine g_iconst hX (nI 1) dL_law_485 rfl ?_
  refine g_iadd hX (nI (i + 1)) dL_law_486 (nI_add _ _) ?_
  refine g_sld hX hSX (i := i + 1) ((xs (i + 1))) (by omega) (by omega) rfl dL_law_487 ?_
  have hc488 : CUT ((lfo E ae ab ar an af ah ak ax ag z ++ (tw E ab 200 tx ++ (rw_ E ar R ++ (fw E an C ++ (fw E af D ++ (pw8 E ah V ++ (pw2 E ak U ++ (sw E ax S ++ (gw E ag G ++ (mw E a M))))))))))) (mw E a M) ((lfo E ae ab ar an af ah ak ax ag z ++ (tw E ab 200 tx ++ (rw_ E ar R ++ (fw E an C ++ (fw E af D ++ (pw8 E ah V ++ (pw2 E ak U ++ (sw E ax S ++ (gw E ag G)))))))))) [98, 99, 100, 101, 102, 103, 104, 105, 106, 107, 108, 109, 110] [0, 1, 2, 3, 4, 5, 6, 7, 8, 9, 10, 11, 12, 13, 14, 15, 16, 17, 18, 19, 20, 21, 22, 23, 24, 25, 26, 27, 28, 29, 30, 31, 32, 33, 34, 35, 36, 37, 38, 39, 40, 41, 42, 43, 44, 45, 46, 47, 48, 49, 50, 51, 52, 53, 54, 55, 56, 57, 58, 59, 60, 61, 62, 63, 64, 65, 66, 67, 68, 69, 70, 71, 72, 73, 74, 75, 76, 77, 78, 79, 80, 81, 82, 83, 84, 85, 86, 87, 88, 89, 90, 91, 92, 93, 94, 95, 96, 97] := ⟨rfl, rfl, rfl, rfl, rfl⟩
  refine g_VI hX hc488 [.int (xs (i + 1))] [.int (-1)] (c_X6_fall_n l E a M C (30 * t) (xs (i + 1)) (by first | assumption | omega) (by first | assumption | omega) (by first | assumption | omega) (by first | assumption | omega) (by first | assumption | omega) (by first | assumption | omega)) gL_law_X6_fall calX6_fall rfl rfl rfl rfl 98 rfl rfl rfl rfl dL_law_488 rfl ⟨hkk, hnn⟩ (fun u488 => (lfo E ae ab ar an af ah ak ax ag z ++ (tw E ab 200 tx ++ (rw_ E ar R ++ (fw E an C ++ (fw E af D ++ (pw8 E ah V ++ (pw2 E ak U ++ (sw E ax S ++ (gw E ag G ++ (mw E a u488))))))))))) [0, 1, 2, 3, 4, 5, 6, 7, 8, 9, 10, 11, 12, 13, 14, 15, 16, 17, 18, 19, 20, 21, 22, 23, 24, 25, 26, 27, 28, 29, 30, 31, 32, 33, 34, 35, 36, 37, 38, 39, 40, 41, 42, 43, 44, 45, 46, 47, 48, 49, 50, 51, 52, 53, 54, 55, 56, 57, 58, 59, 60, 61, 62, 63, 64, 65, 66, 67, 68, 69, 70, 71, 72, 73, 74, 75, 76, 77, 78, 79, 80, 81, 82, 83, 84, 85, 86, 87, 88, 89, 90, 91, 92, 93, 94, 95, 96, 97, 98, 99, 100, 101, 102, 103, 104, 105, 106, 107, 108, 109, 110] rfl (fun _ => rfl) (fun u488 hu488 => ?_)
  refine g_icmp_eq hX 857 dL_law_491 (by decide) (fun _ => ?_) (fun c => (c (rfl)).elim)
  exact nx z tx R C D V U S G u488 (INV_KS hI hu488)
set_option maxHeartbeats 4000000 in
set_option maxRecDepth 100000 in
theorem lc_fall_y (w : Nat) (hc : LCX x l E b L xs kk nn t i) (hI : INV t z tx R C V U S M) (nx : NX x E ae ab ar an af ah ak ax ag a b kk nn t i) (e1 : xs (i + 1) = nI w) (hw : w ≤ 1) : GG x kk nn (LWM E ae ab ar an af ah ak ax ag a z tx R C D V U S G M) 473 [(0, .ref b), (1, .ref (ae 0)), (2, .ref (a 0)), (3, .int (nI i))] [] := by
  obtain ⟨hX, hSX, hkk, hnn, hit, hi5, hL3⟩ := hc
  obtain ⟨⟨hz, htx, hmX, hmL, hRq⟩, ⟨hN1, hD, hSr, hTm⟩, hE, ⟨hv1, hv2, hv3⟩, ⟨hu1, hu2, hu3⟩⟩ := id hI
  have hm : 30 * t < 2 ^ 29 := by omega
  have hC := hD.1.1
  obtain ⟨h9, h64, h512, hTq, hIq⟩ := id hC
  have hSK := hD.1.2
  have hV := DI_VB hD (by omega)
  have htx2 : ∀ j, tx j < 2 ^ 16 := fun j => by have := htx j; omega
  have hmX2 : ∀ j, mX M j < 128 := by rw [hmX]; exact htx
  have h6 : hN S ≤ 6 := hE.2.1
  have hs9 : ∀ j, j < hN S → hS S j < 9 := fun j hj => (hE.2.2 j hj).2.2
  show GG x kk nn ((lfo E ae ab ar an af ah ak ax ag z ++ (tw E ab 200 tx ++ (rw_ E ar R ++ (fw E an C ++ (fw E af D ++ (pw8 E ah V ++ (pw2 E ak U ++ (sw E ax S ++ (gw E ag G ++ (mw E a M))))))))))) 473 [(0, .ref b), (1, .ref (ae 0)), (2, .ref (a 0)), (3, .int (nI i))] []
  refine g_aload_n hX dL_law_473 1 rfl ?_
  refine g_aload_n hX dL_law_474 0 rfl ?_
  refine g_iload_n hX dL_law_475 3 rfl ?_
  refine g_iconst hX (nI 1) dL_law_476 rfl ?_
  refine g_iadd hX (nI (i + 1)) dL_law_477 (nI_add _ _) ?_
  refine g_sld hX hSX (i := i + 1) (nI w) (by omega) (by omega) e1 dL_law_478 ?_
  have hc479 : CUT ((lfo E ae ab ar an af ah ak ax ag z ++ (tw E ab 200 tx ++ (rw_ E ar R ++ (fw E an C ++ (fw E af D ++ (pw8 E ah V ++ (pw2 E ak U ++ (sw E ax S ++ (gw E ag G ++ (mw E a M))))))))))) ((lfo E ae ab ar an af ah ak ax ag z ++ (fw E an C ++ (fw E af D)))) ((tw E ab 200 tx ++ (rw_ E ar R ++ (pw8 E ah V ++ (pw2 E ak U ++ (sw E ax S ++ (gw E ag G ++ (mw E a M)))))))) [0, 4, 5, 6, 7, 8, 9, 10, 11, 12, 13, 14, 15, 16, 17] [1, 2, 3, 18, 19, 20, 21, 22, 23, 24, 25, 26, 27, 28, 29, 30, 31, 32, 33, 34, 35, 36, 37, 38, 39, 40, 41, 42, 43, 44, 45, 46, 47, 48, 49, 50, 51, 52, 53, 54, 55, 56, 57, 58, 59, 60, 61, 62, 63, 64, 65, 66, 67, 68, 69, 70, 71, 72, 73, 74, 75, 76, 77, 78, 79, 80, 81, 82, 83, 84, 85, 86, 87, 88, 89, 90, 91, 92, 93, 94, 95, 96, 97, 98, 99, 100, 101, 102, 103, 104, 105, 106, 107, 108, 109, 110] := ⟨rfl, rfl, rfl, rfl, rfl⟩
  refine g_VI hX hc479 [.int (nI w)] [] (c_X5_fall_y l E ae ab ar an af ah ak ax ag z C D (30 * t) w (by first | assumption | omega) (by first | assumption | omega) (by first | assumption | omega)) gL_law_X5_fall calX5_fall rfl rfl rfl rfl 0 rfl rfl rfl rfl dL_law_479 rfl ⟨hkk, hnn⟩ (fun u479 => (lfo E ae ab ar an af ah ak ax ag z ++ (tw E ab 200 tx ++ (rw_ E ar R ++ (fw E an C ++ (fw E af u479 ++ (pw8 E ah V ++ (pw2 E ak U ++ (sw E ax S ++ (gw E ag G ++ (mw E a M))))))))))) [96, 0, 1, 2, 97, 98, 99, 100, 101, 102, 103, 104, 105, 106, 107, 108, 109, 110, 3, 4, 5, 6, 7, 8, 9, 10, 11, 12, 13, 14, 15, 16, 17, 18, 19, 20, 21, 22, 23, 24, 25, 26, 27, 28, 29, 30, 31, 32, 33, 34, 35, 36, 37, 38, 39, 40, 41, 42, 43, 44, 45, 46, 47, 48, 49, 50, 51, 52, 53, 54, 55, 56, 57, 58, 59, 60, 61, 62, 63, 64, 65, 66, 67, 68, 69, 70, 71, 72, 73, 74, 75, 76, 77, 78, 79, 80, 81, 82, 83, 84, 85, 86, 87, 88, 89, 90, 91, 92, 93, 94, 95] rfl (fun _ => rfl) (fun u479 hu479 => ?_)
  refine g_aload_n hX dL_law_482 2 rfl ?_
  refine g_aload_n hX dL_law_483 0 rfl ?_
  refine g_iload_n hX dL_law_484 3 rfl ?_
  refine g_iconst hX (nI 1) dL_law_485 rfl ?_
  refine g_iadd hX (nI (i + 1)) dL_law_486 (nI_add _ _) ?_
  refine g_sld hX hSX (i := i + 1) (nI w) (by omega) (by omega) e1 dL_law_487 ?_
  have hc488 : CUT ((lfo E ae ab ar an af ah ak ax ag z ++ (tw E ab 200 tx ++ (rw_ E ar R ++ (fw E an C ++ (fw E af u479 ++ (pw8 E ah V ++ (pw2 E ak U ++ (sw E ax S ++ (gw E ag G ++ (mw E a M))))))))))) (mw E a M) ((lfo E ae ab ar an af ah ak ax ag z ++ (tw E ab 200 tx ++ (rw_ E ar R ++ (fw E an C ++ (fw E af u479 ++ (pw8 E ah V ++ (pw2 E ak U ++ (sw E ax S ++ (gw E ag G)))))))))) [98, 99, 100, 101, 102, 103, 104, 105, 106, 107, 108, 109, 110] [0, 1, 2, 3, 4, 5, 6, 7, 8, 9, 10, 11, 12, 13, 14, 15, 16, 17, 18, 19, 20, 21, 22, 23, 24, 25, 26, 27, 28, 29, 30, 31, 32, 33, 34, 35, 36, 37, 38, 39, 40, 41, 42, 43, 44, 45, 46, 47, 48, 49, 50, 51, 52, 53, 54, 55, 56, 57, 58, 59, 60, 61, 62, 63, 64, 65, 66, 67, 68, 69, 70, 71, 72, 73, 74, 75, 76, 77, 78, 79, 80, 81, 82, 83, 84, 85, 86, 87, 88, 89, 90, 91, 92, 93, 94, 95, 96, 97] := ⟨rfl, rfl, rfl, rfl, rfl⟩
  refine g_VI hX hc488 [.int (nI w)] [.int (falV C w)] (c_X6_fall_y l E a M C (30 * t) w (by first | assumption | omega) (by first | assumption | omega) (by first | assumption | omega) (by first | assumption | omega) (by first | assumption | omega) (by first | assumption | omega)) gL_law_X6_fall calX6_fall rfl rfl rfl rfl 98 rfl rfl rfl rfl dL_law_488 rfl ⟨hkk, hnn⟩ (fun u488 => (lfo E ae ab ar an af ah ak ax ag z ++ (tw E ab 200 tx ++ (rw_ E ar R ++ (fw E an C ++ (fw E af u479 ++ (pw8 E ah V ++ (pw2 E ak U ++ (sw E ax S ++ (gw E ag G ++ (mw E a u488))))))))))) [0, 1, 2, 3, 4, 5, 6, 7, 8, 9, 10, 11, 12, 13, 14, 15, 16, 17, 18, 19, 20, 21, 22, 23, 24, 25, 26, 27, 28, 29, 30, 31, 32, 33, 34, 35, 36, 37, 38, 39, 40, 41, 42, 43, 44, 45, 46, 47, 48, 49, 50, 51, 52, 53, 54, 55, 56, 57, 58, 59, 60, 61, 62, 63, 64, 65, 66, 67, 68, 69, 70, 71, 72, 73, 74, 75, 76, 77, 78, 79, 80, 81, 82, 83, 84, 85, 86, 87, 88, 89, 90, 91, 92, 93, 94, 95, 96, 97, 98, 99, 100, 101, 102, 103, 104, 105, 106, 107, 108, 109, 110] rfl (fun _ => rfl) (fun u488 hu488 => ?_)
  refine g_icmp_eq hX 857 dL_law_491 (by decide) (fun _ => ?_) (fun c => (c (rfl)).elim)
  exact nx z tx R C u479 V U S G u488 (INV_KS hI hu488)
end LAWS
