section LAWS
variable {x : GX} {l : Launch} {E : EV} {b L : Nat} {xs : Nat → Int32} {kk nn t i : Nat} {ae ab ar an af ah ak ax ag a : Nat → Nat}
variable {z : Nat} {tx : Nat → Nat} {R : RC} {C : FC} {D : FC} {V : PV} {U : PV} {S : SC} {G : GC} {M : MV}
set_option maxHeartbeats 4000000 in
set_option maxRecDepth 100000 in
theorem lc_saying_n1  (hc : LCX x l E b L xs kk nn t i) (hI : INV t z tx R C V U S M) (nx : NX x E ae ab ar an af ah ak ax ag a b kk nn t i) (hx : win (xs (i + 1)) (nI 0) (nI (cN C - 1)) = false) : GG x kk nn (LWM E ae ab ar an af ah ak ax ag a z tx R C D V U S G M) 226 [(0, .ref b), (1, .ref (ae 0)), (2, .ref (a 0)), (3, .int (nI i))] [] := by
  obtain ⟨hX, hSX, hkk, hnn, hit, hi5, hL3⟩ := hc
  obtain ⟨⟨hz, htx, hmX, hmL, hRq⟩, ⟨hN1, hD, hSr, hTm⟩, hE, ⟨hv1, hv2, hv3⟩, ⟨hu1, hu2, hu3⟩⟩ := id hI
  have hm : 30 * t < 2 ^ 29 := by omega
  have hC := hD.1.1
  obtain ⟨h9, h64, h512, hTq, hIq⟩ := id hC
  have hSK := hD.1.2
  have hV := DI_VB hD (by omega)
  have htx2 : ∀ j, tx j < 2 ^ 16 := fun j => by have := htx j; omega
  have hmX2 : ∀ j, mX M j < 128 := by rw [hmX]; exact htx
  have h6 : hN S ≤ 6 := hE.2.1
  have hs9 : ∀ j, j < hN S → hS S j < 9 := fun j hj => (hE.2.2 j hj).2.2
  show GG x kk nn ((lfo E ae ab ar an af ah ak ax ag z ++ (tw E ab 200 tx ++ (rw_ E ar R ++ (fw E an C ++ (fw E af D ++ (pw8 E ah V ++ (pw2 E ak U ++ (sw E ax S ++ (gw E ag G ++ (mw E a M))))))))))) 226 [(0, .ref b), (1, .ref (ae 0)), (2, .ref (a 0)), (3, .int (nI i))] []
  refine g_aload_n hX dL_law_226 1 rfl ?_
  refine g_aload_n hX dL_law_227 0 rfl ?_
  refine g_iload_n hX dL_law_228 3 rfl ?_
  refine g_iconst hX (nI 1) dL_law_229 rfl ?_
  refine g_iadd hX (nI (i + 1)) dL_law_230 (nI_add _ _) ?_
  refine g_sld hX hSX (i := i + 1) ((xs (i + 1))) (by omega) (by omega) rfl dL_law_231 ?_
  refine g_aload_n hX dL_law_232 0 rfl ?_
  refine g_iload_n hX dL_law_233 3 rfl ?_
  refine g_iconst hX (nI 2) dL_law_234 rfl ?_
  refine g_iadd hX (nI (i + 2)) dL_law_235 (nI_add _ _) ?_
  refine g_sld hX hSX (i := i + 2) ((xs (i + 2))) (by omega) (by omega) rfl dL_law_236 ?_
  have hc237 : CUT ((lfo E ae ab ar an af ah ak ax ag z ++ (tw E ab 200 tx ++ (rw_ E ar R ++ (fw E an C ++ (fw E af D ++ (pw8 E ah V ++ (pw2 E ak U ++ (sw E ax S ++ (gw E ag G ++ (mw E a M))))))))))) ((lfo E ae ab ar an af ah ak ax ag z) ++ (fw E an C)) ((tw E ab 200 tx ++ (rw_ E ar R ++ (fw E af D ++ (pw8 E ah V ++ (pw2 E ak U ++ (sw E ax S ++ (gw E ag G ++ (mw E a M))))))))) [0, 4, 5, 6, 7, 8, 9, 10] [1, 2, 3, 11, 12, 13, 14, 15, 16, 17, 18, 19, 20, 21, 22, 23, 24, 25, 26, 27, 28, 29, 30, 31, 32, 33, 34, 35, 36, 37, 38, 39, 40, 41, 42, 43, 44, 45, 46, 47, 48, 49, 50, 51, 52, 53, 54, 55, 56, 57, 58, 59, 60, 61, 62, 63, 64, 65, 66, 67, 68, 69, 70, 71, 72, 73, 74, 75, 76, 77, 78, 79, 80, 81, 82, 83, 84, 85, 86, 87, 88, 89, 90, 91, 92, 93, 94, 95, 96, 97, 98, 99, 100, 101, 102, 103, 104, 105, 106, 107, 108, 109, 110] := ⟨rfl, rfl, rfl, rfl, rfl⟩
  refine g_VI hX hc237 [.int (xs (i + 1)), .int (xs (i + 2))] [] (c_X5_saying_n1 l E ae ab ar an af ah ak ax ag z C (xs (i + 1)) (xs (i + 2)) (by first | assumption | omega) (by first | assumption | omega) (by first | assumption | omega)) gL_law_X5_saying calX5_saying rfl rfl rfl rfl 0 rfl rfl rfl rfl dL_law_237 rfl ⟨hkk, hnn⟩ (fun _ => (lfo E ae ab ar an af ah ak ax ag z ++ (tw E ab 200 tx ++ (rw_ E ar R ++ (fw E an C ++ (fw E af D ++ (pw8 E ah V ++ (pw2 E ak U ++ (sw E ax S ++ (gw E ag G ++ (mw E a M))))))))))) [103, 0, 1, 2, 104, 105, 106, 107, 108, 109, 110, 3, 4, 5, 6, 7, 8, 9, 10, 11, 12, 13, 14, 15, 16, 17, 18, 19, 20, 21, 22, 23, 24, 25, 26, 27, 28, 29, 30, 31, 32, 33, 34, 35, 36, 37, 38, 39, 40, 41, 42, 43, 44, 45, 46, 47, 48, 49, 50, 51, 52, 53, 54, 55, 56, 57, 58, 59, 60, 61, 62, 63, 64, 65, 66, 67, 68, 69, 70, 71, 72, 73, 74, 75, 76, 77, 78, 79, 80, 81, 82, 83, 84, 85, 86, 87, 88, 89, 90, 91, 92, 93, 94, 95, 96, 97, 98, 99, 100, 101, 102] rfl (fun _ => rfl) (fun _ hu237 => ?_)
  refine g_aload_n hX dL_law_240 2 rfl ?_
  refine g_aload_n hX dL_law_241 0 rfl ?_
  refine g_iload_n hX dL_law_242 3 rfl ?_
  refine g_iconst hX (nI 1) dL_law_243 rfl ?_
  refine g_iadd hX (nI (i + 1)) dL_law_244 (nI_add _ _) ?_
  refine g_sld hX hSX (i := i + 1) ((xs (i + 1))) (by omega) (by omega) rfl dL_law_245 ?_
  refine g_aload_n hX dL_law_246 0 rfl ?_
  refine g_iload_n hX dL_law_247 3 rfl ?_
  refine g_iconst hX (nI 2) dL_law_248 rfl ?_
  refine g_iadd hX (nI (i + 2)) dL_law_249 (nI_add _ _) ?_
  refine g_sld hX hSX (i := i + 2) ((xs (i + 2))) (by omega) (by omega) rfl dL_law_250 ?_
  have hc251 : CUT ((lfo E ae ab ar an af ah ak ax ag z ++ (tw E ab 200 tx ++ (rw_ E ar R ++ (fw E an C ++ (fw E af D ++ (pw8 E ah V ++ (pw2 E ak U ++ (sw E ax S ++ (gw E ag G ++ (mw E a M))))))))))) (mw E a M) ((lfo E ae ab ar an af ah ak ax ag z ++ (tw E ab 200 tx ++ (rw_ E ar R ++ (fw E an C ++ (fw E af D ++ (pw8 E ah V ++ (pw2 E ak U ++ (sw E ax S ++ (gw E ag G)))))))))) [98, 99, 100, 101, 102, 103, 104, 105, 106, 107, 108, 109, 110] [0, 1, 2, 3, 4, 5, 6, 7, 8, 9, 10, 11, 12, 13, 14, 15, 16, 17, 18, 19, 20, 21, 22, 23, 24, 25, 26, 27, 28, 29, 30, 31, 32, 33, 34, 35, 36, 37, 38, 39, 40, 41, 42, 43, 44, 45, 46, 47, 48, 49, 50, 51, 52, 53, 54, 55, 56, 57, 58, 59, 60, 61, 62, 63, 64, 65, 66, 67, 68, 69, 70, 71, 72, 73, 74, 75, 76, 77, 78, 79, 80, 81, 82, 83, 84, 85, 86, 87, 88, 89, 90, 91, 92, 93, 94, 95, 96, 97] := ⟨rfl, rfl, rfl, rfl, rfl⟩
  refine g_VI hX hc251 [.int (xs (i + 1)), .int (xs (i + 2))] [.int (-1)] (c_X6_saying_n1 l E a M C (30 * t) (xs (i + 1)) (xs (i + 2)) (by first | assumption | omega) (by first | assumption | omega) (by first | assumption | omega) (by first | assumption | omega) (by first | assumption | omega) (by first | assumption | omega)) gL_law_X6_saying calX6_saying rfl rfl rfl rfl 98 rfl rfl rfl rfl dL_law_251 rfl ⟨hkk, hnn⟩ (fun u251 => (lfo E ae ab ar an af ah ak ax ag z ++ (tw E ab 200 tx ++ (rw_ E ar R ++ (fw E an C ++ (fw E af D ++ (pw8 E ah V ++ (pw2 E ak U ++ (sw E ax S ++ (gw E ag G ++ (mw E a u251))))))))))) [0, 1, 2, 3, 4, 5, 6, 7, 8, 9, 10, 11, 12, 13, 14, 15, 16, 17, 18, 19, 20, 21, 22, 23, 24, 25, 26, 27, 28, 29, 30, 31, 32, 33, 34, 35, 36, 37, 38, 39, 40, 41, 42, 43, 44, 45, 46, 47, 48, 49, 50, 51, 52, 53, 54, 55, 56, 57, 58, 59, 60, 61, 62, 63, 64, 65, 66, 67, 68, 69, 70, 71, 72, 73, 74, 75, 76, 77, 78, 79, 80, 81, 82, 83, 84, 85, 86, 87, 88, 89, 90, 91, 92, 93, 94, 95, 96, 97, 98, 99, 100, 101, 102, 103, 104, 105, 106, 107, 108, 109, 110] rfl (fun _ => rfl) (fun u251 hu251 => ?_)
  refine g_icmp_eq hX 857 dL_law_254 (by decide) (fun _ => ?_) (fun c => (c (rfl)).elim)
  exact nx z tx R C D V U S G u251 (INV_KS hI hu251)
set_option maxHeartbeats 4000000 in
set_option maxRecDepth 100000 in
theorem lc_saying_n2 (s : Nat) (hc : LCX x l E b L xs kk nn t i) (hI : INV t z tx R C V U S M) (nx : NX x E ae ab ar an af ah ak ax ag a b kk nn t i) (e1 : xs (i + 1) = nI s) (hs : s < cN C) (hx : win (xs (i + 2)) (nI 0) (nI 6) = false) : GG x kk nn (LWM E ae ab ar an af ah ak ax ag a z tx R C D V U S G M) 226 [(0, .ref b), (1, .ref (ae 0)), (2, .ref (a 0)), (3, .int (nI i))] [] := by
  obtain ⟨hX, hSX, hkk, hnn, hit, hi5, hL3⟩ := hc
  obtain ⟨⟨hz, htx, hmX, hmL, hRq⟩, ⟨hN1, hD, hSr, hTm⟩, hE, ⟨hv1, hv2, hv3⟩, ⟨hu1, hu2, hu3⟩⟩ := id hI
  have hm : 30 * t < 2 ^ 29 := by omega
  have hC := hD.1.1
  obtain ⟨h9, h64, h512, hTq, hIq⟩ := id hC
  have hSK := hD.1.2
  have hV := DI_VB hD (by omega)
  have htx2 : ∀ j, tx j < 2 ^ 16 := fun j => by have := htx j; omega
  have hmX2 : ∀ j, mX M j < 128 := by rw [hmX]; exact htx
  have h6 : hN S ≤ 6 := hE.2.1
  have hs9 : ∀ j, j < hN S → hS S j < 9 := fun j hj => (hE.2.2 j hj).2.2
  show GG x kk nn ((lfo E ae ab ar an af ah ak ax ag z ++ (tw E ab 200 tx ++ (rw_ E ar R ++ (fw E an C ++ (fw E af D ++ (pw8 E ah V ++ (pw2 E ak U ++ (sw E ax S ++ (gw E ag G ++ (mw E a M))))))))))) 226 [(0, .ref b), (1, .ref (ae 0)), (2, .ref (a 0)), (3, .int (nI i))] []
  refine g_aload_n hX dL_law_226 1 rfl ?_
  refine g_aload_n hX dL_law_227 0 rfl ?_
  refine g_iload_n hX dL_law_228 3 rfl ?_
  refine g_iconst hX (nI 1) dL_law_229 rfl ?_
  refine g_iadd hX (nI (i + 1)) dL_law_230 (nI_add _ _) ?_
  refine g_sld hX hSX (i := i + 1) (nI s) (by omega) (by omega) e1 dL_law_231 ?_
  refine g_aload_n hX dL_law_232 0 rfl ?_
  refine g_iload_n hX dL_law_233 3 rfl ?_
  refine g_iconst hX (nI 2) dL_law_234 rfl ?_
  refine g_iadd hX (nI (i + 2)) dL_law_235 (nI_add _ _) ?_
  refine g_sld hX hSX (i := i + 2) ((xs (i + 2))) (by omega) (by omega) rfl dL_law_236 ?_
  have hc237 : CUT ((lfo E ae ab ar an af ah ak ax ag z ++ (tw E ab 200 tx ++ (rw_ E ar R ++ (fw E an C ++ (fw E af D ++ (pw8 E ah V ++ (pw2 E ak U ++ (sw E ax S ++ (gw E ag G ++ (mw E a M))))))))))) ((lfo E ae ab ar an af ah ak ax ag z) ++ (fw E an C)) ((tw E ab 200 tx ++ (rw_ E ar R ++ (fw E af D ++ (pw8 E ah V ++ (pw2 E ak U ++ (sw E ax S ++ (gw E ag G ++ (mw E a M))))))))) [0, 4, 5, 6, 7, 8, 9, 10] [1, 2, 3, 11, 12, 13, 14, 15, 16, 17, 18, 19, 20, 21, 22, 23, 24, 25, 26, 27, 28, 29, 30, 31, 32, 33, 34, 35, 36, 37, 38, 39, 40, 41, 42, 43, 44, 45, 46, 47, 48, 49, 50, 51, 52, 53, 54, 55, 56, 57, 58, 59, 60, 61, 62, 63, 64, 65, 66, 67, 68, 69, 70, 71, 72, 73, 74, 75, 76, 77, 78, 79, 80, 81, 82, 83, 84, 85, 86, 87, 88, 89, 90, 91, 92, 93, 94, 95, 96, 97, 98, 99, 100, 101, 102, 103, 104, 105, 106, 107, 108, 109, 110] := ⟨rfl, rfl, rfl, rfl, rfl⟩
  refine g_VI hX hc237 [.int (nI s), .int (xs (i + 2))] [] (c_X5_saying_t l E ae ab ar an af ah ak ax ag z C s (xs (i + 2)) (by first | assumption | omega) (by first | assumption | omega) (by first | assumption | omega) (by first | assumption | omega) (by first | assumption | omega)) gL_law_X5_saying calX5_saying rfl rfl rfl rfl 0 rfl rfl rfl rfl dL_law_237 rfl ⟨hkk, hnn⟩ (fun _ => (lfo E ae ab ar an af ah ak ax ag z ++ (tw E ab 200 tx ++ (rw_ E ar R ++ (fw E an C ++ (fw E af D ++ (pw8 E ah V ++ (pw2 E ak U ++ (sw E ax S ++ (gw E ag G ++ (mw E a M))))))))))) [103, 0, 1, 2, 104, 105, 106, 107, 108, 109, 110, 3, 4, 5, 6, 7, 8, 9, 10, 11, 12, 13, 14, 15, 16, 17, 18, 19, 20, 21, 22, 23, 24, 25, 26, 27, 28, 29, 30, 31, 32, 33, 34, 35, 36, 37, 38, 39, 40, 41, 42, 43, 44, 45, 46, 47, 48, 49, 50, 51, 52, 53, 54, 55, 56, 57, 58, 59, 60, 61, 62, 63, 64, 65, 66, 67, 68, 69, 70, 71, 72, 73, 74, 75, 76, 77, 78, 79, 80, 81, 82, 83, 84, 85, 86, 87, 88, 89, 90, 91, 92, 93, 94, 95, 96, 97, 98, 99, 100, 101, 102] rfl (fun _ => rfl) (fun _ hu237 => ?_)
  refine g_aload_n hX dL_law_240 2 rfl ?_
  refine g_aload_n hX dL_law_241 0 rfl ?_
  refine g_iload_n hX dL_law_242 3 rfl ?_
  refine g_iconst hX (nI 1) dL_law_243 rfl ?_
  refine g_iadd hX (nI (i + 1)) dL_law_244 (nI_add _ _) ?_
  refine g_sld hX hSX (i := i + 1) (nI s) (by omega) (by omega) e1 dL_law_245 ?_
  refine g_aload_n hX dL_law_246 0 rfl ?_
  refine g_iload_n hX dL_law_247 3 rfl ?_
  refine g_iconst hX (nI 2) dL_law_248 rfl ?_
  refine g_iadd hX (nI (i + 2)) dL_law_249 (nI_add _ _) ?_
  refine g_sld hX hSX (i := i + 2) ((xs (i + 2))) (by omega) (by omega) rfl dL_law_250 ?_
  have hc251 : CUT ((lfo E ae ab ar an af ah ak ax ag z ++ (tw E ab 200 tx ++ (rw_ E ar R ++ (fw E an C ++ (fw E af D ++ (pw8 E ah V ++ (pw2 E ak U ++ (sw E ax S ++ (gw E ag G ++ (mw E a M))))))))))) (mw E a M) ((lfo E ae ab ar an af ah ak ax ag z ++ (tw E ab 200 tx ++ (rw_ E ar R ++ (fw E an C ++ (fw E af D ++ (pw8 E ah V ++ (pw2 E ak U ++ (sw E ax S ++ (gw E ag G)))))))))) [98, 99, 100, 101, 102, 103, 104, 105, 106, 107, 108, 109, 110] [0, 1, 2, 3, 4, 5, 6, 7, 8, 9, 10, 11, 12, 13, 14, 15, 16, 17, 18, 19, 20, 21, 22, 23, 24, 25, 26, 27, 28, 29, 30, 31, 32, 33, 34, 35, 36, 37, 38, 39, 40, 41, 42, 43, 44, 45, 46, 47, 48, 49, 50, 51, 52, 53, 54, 55, 56, 57, 58, 59, 60, 61, 62, 63, 64, 65, 66, 67, 68, 69, 70, 71, 72, 73, 74, 75, 76, 77, 78, 79, 80, 81, 82, 83, 84, 85, 86, 87, 88, 89, 90, 91, 92, 93, 94, 95, 96, 97] := ⟨rfl, rfl, rfl, rfl, rfl⟩
  refine g_VI hX hc251 [.int (nI s), .int (xs (i + 2))] [.int (syV C s (xs (i + 2)))] (c_X6_saying_n2 l E a M C (30 * t) s (xs (i + 2)) (by first | assumption | omega) (by first | assumption | omega) (by first | assumption | omega) (by first | assumption | omega) (by first | assumption | omega) (by first | assumption | omega) (by first | assumption | omega)) gL_law_X6_saying calX6_saying rfl rfl rfl rfl 98 rfl rfl rfl rfl dL_law_251 rfl ⟨hkk, hnn⟩ (fun u251 => (lfo E ae ab ar an af ah ak ax ag z ++ (tw E ab 200 tx ++ (rw_ E ar R ++ (fw E an C ++ (fw E af D ++ (pw8 E ah V ++ (pw2 E ak U ++ (sw E ax S ++ (gw E ag G ++ (mw E a u251))))))))))) [0, 1, 2, 3, 4, 5, 6, 7, 8, 9, 10, 11, 12, 13, 14, 15, 16, 17, 18, 19, 20, 21, 22, 23, 24, 25, 26, 27, 28, 29, 30, 31, 32, 33, 34, 35, 36, 37, 38, 39, 40, 41, 42, 43, 44, 45, 46, 47, 48, 49, 50, 51, 52, 53, 54, 55, 56, 57, 58, 59, 60, 61, 62, 63, 64, 65, 66, 67, 68, 69, 70, 71, 72, 73, 74, 75, 76, 77, 78, 79, 80, 81, 82, 83, 84, 85, 86, 87, 88, 89, 90, 91, 92, 93, 94, 95, 96, 97, 98, 99, 100, 101, 102, 103, 104, 105, 106, 107, 108, 109, 110] rfl (fun _ => rfl) (fun u251 hu251 => ?_)
  refine g_icmp_eq hX 857 dL_law_254 (by decide) (fun _ => ?_) (fun c => (c (sy_n hx)).elim)
  exact nx z tx R C D V U S G u251 (INV_KS hI hu251)
set_option maxHeartbeats 4000000 in
set_option maxRecDepth 100000 in
theorem lc_saying_y (s : Nat) (w : Nat) (hc : LCX x l E b L xs kk nn t i) (hI : INV t z tx R C V U S M) (nx : NX x E ae ab ar an af ah ak ax ag a b kk nn t i) (e1 : xs (i + 1) = nI s) (e2 : xs (i + 2) = nI w) (hs : s < cN C) (hw : w < 7) : GG x kk nn (LWM E ae ab ar an af ah ak ax ag a z tx R C D V U S G M) 226 [(0, .ref b), (1, .ref (ae 0)), (2, .ref (a 0)), (3, .int (nI i))] [] := by
  obtain ⟨hX, hSX, hkk, hnn, hit, hi5, hL3⟩ := hc
  obtain ⟨⟨hz, htx, hmX, hmL, hRq⟩, ⟨hN1, hD, hSr, hTm⟩, hE, ⟨hv1, hv2, hv3⟩, ⟨hu1, hu2, hu3⟩⟩ := id hI
  have hm : 30 * t < 2 ^ 29 := by omega
  have hC := hD.1.1
  obtain ⟨h9, h64, h512, hTq, hIq⟩ := id hC
  have hSK := hD.1.2
  have hV := DI_VB hD (by omega)
  have htx2 : ∀ j, tx j < 2 ^ 16 := fun j => by have := htx j; omega
  have hmX2 : ∀ j, mX M j < 128 := by rw [hmX]; exact htx
  have h6 : hN S ≤ 6 := hE.2.1
  have hs9 : ∀ j, j < hN S → hS S j < 9 := fun j hj => (hE.2.2 j hj).2.2
  show GG x kk nn ((lfo E ae ab ar an af ah ak ax ag z ++ (tw E ab 200 tx ++ (rw_ E ar R ++ (fw E an C ++ (fw E af D ++ (pw8 E ah V ++ (pw2 E ak U ++ (sw E ax S ++ (gw E ag G ++ (mw E a M))))))))))) 226 [(0, .ref b), (1, .ref (ae 0)), (2, .ref (a 0)), (3, .int (nI i))] []
  refine g_aload_n hX dL_law_226 1 rfl ?_
  refine g_aload_n hX dL_law_227 0 rfl ?_
  refine g_iload_n hX dL_law_228 3 rfl ?_
  refine g_iconst hX (nI 1) dL_law_229 rfl ?_
  refine g_iadd hX (nI (i + 1)) dL_law_230 (nI_add _ _) ?_
  refine g_sld hX hSX (i := i + 1) (nI s) (by omega) (by omega) e1 dL_law_231 ?_
  refine g_aload_n hX dL_law_232 0 rfl ?_
  refine g_iload_n hX dL_law_233 3 rfl ?_
  refine g_iconst hX (nI 2) dL_law_234 rfl ?_
  refine g_iadd hX (nI (i + 2)) dL_law_235 (nI_add _ _) ?_
  refine g_sld hX hSX (i := i + 2) (nI w) (by omega) (by omega) e2 dL_law_236 ?_
  have hc237 : CUT ((lfo E ae ab ar an af ah ak ax ag z ++ (tw E ab 200 tx ++ (rw_ E ar R ++ (fw E an C ++ (fw E af D ++ (pw8 E ah V ++ (pw2 E ak U ++ (sw E ax S ++ (gw E ag G ++ (mw E a M))))))))))) ((lfo E ae ab ar an af ah ak ax ag z) ++ (fw E an C)) ((tw E ab 200 tx ++ (rw_ E ar R ++ (fw E af D ++ (pw8 E ah V ++ (pw2 E ak U ++ (sw E ax S ++ (gw E ag G ++ (mw E a M))))))))) [0, 4, 5, 6, 7, 8, 9, 10] [1, 2, 3, 11, 12, 13, 14, 15, 16, 17, 18, 19, 20, 21, 22, 23, 24, 25, 26, 27, 28, 29, 30, 31, 32, 33, 34, 35, 36, 37, 38, 39, 40, 41, 42, 43, 44, 45, 46, 47, 48, 49, 50, 51, 52, 53, 54, 55, 56, 57, 58, 59, 60, 61, 62, 63, 64, 65, 66, 67, 68, 69, 70, 71, 72, 73, 74, 75, 76, 77, 78, 79, 80, 81, 82, 83, 84, 85, 86, 87, 88, 89, 90, 91, 92, 93, 94, 95, 96, 97, 98, 99, 100, 101, 102, 103, 104, 105, 106, 107, 108, 109, 110] := ⟨rfl, rfl, rfl, rfl, rfl⟩
  refine g_VI hX hc237 [.int (nI s), .int (nI w)] [] (c_X5_saying_t l E ae ab ar an af ah ak ax ag z C s (nI w) (by first | assumption | omega) (by first | assumption | omega) (by first | assumption | omega) (by first | assumption | omega) (by first | assumption | omega)) gL_law_X5_saying calX5_saying rfl rfl rfl rfl 0 rfl rfl rfl rfl dL_law_237 rfl ⟨hkk, hnn⟩ (fun _ => (lfo E ae ab ar an af ah ak ax ag z ++ (tw E ab 200 tx ++ (rw_ E ar R ++ (fw E an C ++ (fw E af D ++ (pw8 E ah V ++ (pw2 E ak U ++ (sw E ax S ++ (gw E ag G ++ (mw E a M))))))))))) [103, 0, 1, 2, 104, 105, 106, 107, 108, 109, 110, 3, 4, 5, 6, 7, 8, 9, 10, 11, 12, 13, 14, 15, 16, 17, 18, 19, 20, 21, 22, 23, 24, 25, 26, 27, 28, 29, 30, 31, 32, 33, 34, 35, 36, 37, 38, 39, 40, 41, 42, 43, 44, 45, 46, 47, 48, 49, 50, 51, 52, 53, 54, 55, 56, 57, 58, 59, 60, 61, 62, 63, 64, 65, 66, 67, 68, 69, 70, 71, 72, 73, 74, 75, 76, 77, 78, 79, 80, 81, 82, 83, 84, 85, 86, 87, 88, 89, 90, 91, 92, 93, 94, 95, 96, 97, 98, 99, 100, 101, 102] rfl (fun _ => rfl) (fun _ hu237 => ?_)
  refine g_aload_n hX dL_law_240 2 rfl ?_
  refine g_aload_n hX dL_law_241 0 rfl ?_
  refine g_iload_n hX dL_law_242 3 rfl ?_
  refine g_iconst hX (nI 1) dL_law_243 rfl ?_
  refine g_iadd hX (nI (i + 1)) dL_law_244 (nI_add _ _) ?_
  refine g_sld hX hSX (i := i + 1) (nI s) (by omega) (by omega) e1 dL_law_245 ?_
  refine g_aload_n hX dL_law_246 0 rfl ?_
  refine g_iload_n hX dL_law_247 3 rfl ?_
  refine g_iconst hX (nI 2) dL_law_248 rfl ?_
  refine g_iadd hX (nI (i + 2)) dL_law_249 (nI_add _ _) ?_
  refine g_sld hX hSX (i := i + 2) (nI w) (by omega) (by omega) e2 dL_law_250 ?_
  have hc251 : CUT ((lfo E ae ab ar an af ah ak ax ag z ++ (tw E ab 200 tx ++ (rw_ E ar R ++ (fw E an C ++ (fw E af D ++ (pw8 E ah V ++ (pw2 E ak U ++ (sw E ax S ++ (gw E ag G ++ (mw E a M))))))))))) (mw E a M) ((lfo E ae ab ar an af ah ak ax ag z ++ (tw E ab 200 tx ++ (rw_ E ar R ++ (fw E an C ++ (fw E af D ++ (pw8 E ah V ++ (pw2 E ak U ++ (sw E ax S ++ (gw E ag G)))))))))) [98, 99, 100, 101, 102, 103, 104, 105, 106, 107, 108, 109, 110] [0, 1, 2, 3, 4, 5, 6, 7, 8, 9, 10, 11, 12, 13, 14, 15, 16, 17, 18, 19, 20, 21, 22, 23, 24, 25, 26, 27, 28, 29, 30, 31, 32, 33, 34, 35, 36, 37, 38, 39, 40, 41, 42, 43, 44, 45, 46, 47, 48, 49, 50, 51, 52, 53, 54, 55, 56, 57, 58, 59, 60, 61, 62, 63, 64, 65, 66, 67, 68, 69, 70, 71, 72, 73, 74, 75, 76, 77, 78, 79, 80, 81, 82, 83, 84, 85, 86, 87, 88, 89, 90, 91, 92, 93, 94, 95, 96, 97] := ⟨rfl, rfl, rfl, rfl, rfl⟩
  refine g_VI hX hc251 [.int (nI s), .int (nI w)] [.int (syV C s (nI w))] (c_X6_saying_y l E a M C (30 * t) s w (by first | assumption | omega) (by first | assumption | omega) (by first | assumption | omega) (by first | assumption | omega) (by first | assumption | omega) (by first | assumption | omega) (by first | assumption | omega)) gL_law_X6_saying calX6_saying rfl rfl rfl rfl 98 rfl rfl rfl rfl dL_law_251 rfl ⟨hkk, hnn⟩ (fun u251 => (lfo E ae ab ar an af ah ak ax ag z ++ (tw E ab 200 tx ++ (rw_ E ar R ++ (fw E an C ++ (fw E af D ++ (pw8 E ah V ++ (pw2 E ak U ++ (sw E ax S ++ (gw E ag G ++ (mw E a u251))))))))))) [0, 1, 2, 3, 4, 5, 6, 7, 8, 9, 10, 11, 12, 13, 14, 15, 16, 17, 18, 19, 20, 21, 22, 23, 24, 25, 26, 27, 28, 29, 30, 31, 32, 33, 34, 35, 36, 37, 38, 39, 40, 41, 42, 43, 44, 45, 46, 47, 48, 49, 50, 51, 52, 53, 54, 55, 56, 57, 58, 59, 60, 61, 62, 63, 64, 65, 66, 67, 68, 69, 70, 71, 72, 73, 74, 75, 76, 77, 78, 79, 80, 81, 82, 83, 84, 85, 86, 87, 88, 89, 90, 91, 92, 93, 94, 95, 96, 97, 98, 99, 100, 101, 102, 103, 104, 105, 106, 107, 108, 109, 110] rfl (fun _ => rfl) (fun u251 hu251 => ?_)
  refine g_icmp_eq hX 857 dL_law_254 (by decide) (fun _ => ?_) (fun c => (c (sy_y hw)).elim)
  exact nx z tx R C D V U S G u251 (INV_KS hI hu251)
set_option maxHeartbeats 4000000 in
set_option maxRecDepth 100000 in
theorem lc_fact_n  (hc : LCX x l E b L xs kk nn t i) (hI : INV t z tx R C V U S M) (nx : NX x E ae ab ar an af ah ak ax ag a b kk nn t i) (hx : win (xs (i + 1)) (nI 0) (nI 5) = false) : GG x kk nn (LWM E ae ab ar an af ah ak ax ag a z tx R C D V U S G M) 259 [(0, .ref b), (1, .ref (ae 0)), (2, .ref (a 0)), (3, .int (nI i))] [] := by
  obtain ⟨hX, hSX, hkk, hnn, hit, hi5, hL3⟩ := hc
  obtain ⟨⟨hz, htx, hmX, hmL, hRq⟩, ⟨hN1, hD, hSr, hTm⟩, hE, ⟨hv1, hv2, hv3⟩, ⟨hu1, hu2, hu3⟩⟩ := id hI
  have hm : 30 * t < 2 ^ 29 := by omega
  have hC := hD.1.1
  obtain ⟨h9, h64, h512, hTq, hIq⟩ := id hC
  have hSK := hD.1.2
  have hV := DI_VB hD (by omega)
  have htx2 : ∀ j, tx j < 2 ^ 16 := fun j => by have := htx j; omega
  have hmX2 : ∀ j, mX M j < 128 := by rw [hmX]; exact htx
  have h6 : hN S ≤ 6 := hE.2.1
  have hs9 : ∀ j, j < hN S → hS S j < 9 := fun j hj => (hE.2.2 j hj).2.2
  show GG x kk nn ((lfo E ae ab ar an af ah ak ax ag z ++ (tw E ab 200 tx ++ (rw_ E ar R ++ (fw E an C ++ (fw E af D ++ (pw8 E ah V ++ (pw2 E ak U ++ (sw E ax S ++ (gw E ag G ++ (mw E a M))))))))))) 259 [(0, .ref b), (1, .ref (ae 0)), (2, .ref (a 0)), (3, .int (nI i))] []
  refine g_aload_n hX dL_law_259 1 rfl ?_
  refine g_aload_n hX dL_law_260 0 rfl ?_
  refine g_iload_n hX dL_law_261 3 rfl ?_
  refine g_iconst hX (nI 1) dL_law_262 rfl ?_
  refine g_iadd hX (nI (i + 1)) dL_law_263 (nI_add _ _) ?_
  refine g_sld hX hSX (i := i + 1) ((xs (i + 1))) (by omega) (by omega) rfl dL_law_264 ?_
  have hc265 : CUT ((lfo E ae ab ar an af ah ak ax ag z ++ (tw E ab 200 tx ++ (rw_ E ar R ++ (fw E an C ++ (fw E af D ++ (pw8 E ah V ++ (pw2 E ak U ++ (sw E ax S ++ (gw E ag G ++ (mw E a M))))))))))) ((lfo E ae ab ar an af ah ak ax ag z) ++ (fw E an C)) ((tw E ab 200 tx ++ (rw_ E ar R ++ (fw E af D ++ (pw8 E ah V ++ (pw2 E ak U ++ (sw E ax S ++ (gw E ag G ++ (mw E a M))))))))) [0, 4, 5, 6, 7, 8, 9, 10] [1, 2, 3, 11, 12, 13, 14, 15, 16, 17, 18, 19, 20, 21, 22, 23, 24, 25, 26, 27, 28, 29, 30, 31, 32, 33, 34, 35, 36, 37, 38, 39, 40, 41, 42, 43, 44, 45, 46, 47, 48, 49, 50, 51, 52, 53, 54, 55, 56, 57, 58, 59, 60, 61, 62, 63, 64, 65, 66, 67, 68, 69, 70, 71, 72, 73, 74, 75, 76, 77, 78, 79, 80, 81, 82, 83, 84, 85, 86, 87, 88, 89, 90, 91, 92, 93, 94, 95, 96, 97, 98, 99, 100, 101, 102, 103, 104, 105, 106, 107, 108, 109, 110] := ⟨rfl, rfl, rfl, rfl, rfl⟩
  refine g_VI hX hc265 [.int (xs (i + 1))] [] (c_X5_fact_n l E ae ab ar an af ah ak ax ag z C (xs (i + 1)) (by first | assumption | omega)) gL_law_X5_fact calX5_fact rfl rfl rfl rfl 0 rfl rfl rfl rfl dL_law_265 rfl ⟨hkk, hnn⟩ (fun _ => (lfo E ae ab ar an af ah ak ax ag z ++ (tw E ab 200 tx ++ (rw_ E ar R ++ (fw E an C ++ (fw E af D ++ (pw8 E ah V ++ (pw2 E ak U ++ (sw E ax S ++ (gw E ag G ++ (mw E a M))))))))))) [103, 0, 1, 2, 104, 105, 106, 107, 108, 109, 110, 3, 4, 5, 6, 7, 8, 9, 10, 11, 12, 13, 14, 15, 16, 17, 18, 19, 20, 21, 22, 23, 24, 25, 26, 27, 28, 29, 30, 31, 32, 33, 34, 35, 36, 37, 38, 39, 40, 41, 42, 43, 44, 45, 46, 47, 48, 49, 50, 51, 52, 53, 54, 55, 56, 57, 58, 59, 60, 61, 62, 63, 64, 65, 66, 67, 68, 69, 70, 71, 72, 73, 74, 75, 76, 77, 78, 79, 80, 81, 82, 83, 84, 85, 86, 87, 88, 89, 90, 91, 92, 93, 94, 95, 96, 97, 98, 99, 100, 101, 102] rfl (fun _ => rfl) (fun _ hu265 => ?_)
  refine g_aload_n hX dL_law_268 2 rfl ?_
  refine g_aload_n hX dL_law_269 0 rfl ?_
  refine g_iload_n hX dL_law_270 3 rfl ?_
  refine g_iconst hX (nI 1) dL_law_271 rfl ?_
  refine g_iadd hX (nI (i + 1)) dL_law_272 (nI_add _ _) ?_
  refine g_sld hX hSX (i := i + 1) ((xs (i + 1))) (by omega) (by omega) rfl dL_law_273 ?_
  have hc274 : CUT ((lfo E ae ab ar an af ah ak ax ag z ++ (tw E ab 200 tx ++ (rw_ E ar R ++ (fw E an C ++ (fw E af D ++ (pw8 E ah V ++ (pw2 E ak U ++ (sw E ax S ++ (gw E ag G ++ (mw E a M))))))))))) (mw E a M) ((lfo E ae ab ar an af ah ak ax ag z ++ (tw E ab 200 tx ++ (rw_ E ar R ++ (fw E an C ++ (fw E af D ++ (pw8 E ah V ++ (pw2 E ak U ++ (sw E ax S ++ (gw E ag G)))))))))) [98, 99, 100, 101, 102, 103, 104, 105, 106, 107, 108, 109, 110] [0, 1, 2, 3, 4, 5, 6, 7, 8, 9, 10, 11, 12, 13, 14, 15, 16, 17, 18, 19, 20, 21, 22, 23, 24, 25, 26, 27, 28, 29, 30, 31, 32, 33, 34, 35, 36, 37, 38, 39, 40, 41, 42, 43, 44, 45, 46, 47, 48, 49, 50, 51, 52, 53, 54, 55, 56, 57, 58, 59, 60, 61, 62, 63, 64, 65, 66, 67, 68, 69, 70, 71, 72, 73, 74, 75, 76, 77, 78, 79, 80, 81, 82, 83, 84, 85, 86, 87, 88, 89, 90, 91, 92, 93, 94, 95, 96, 97] := ⟨rfl, rfl, rfl, rfl, rfl⟩
  refine g_VI hX hc274 [.int (xs (i + 1))] [.int (-1)] (c_X6_fact_n l E a M (xs (i + 1)) (by first | assumption | omega)) gL_law_X6_fact calX6_fact rfl rfl rfl rfl 98 rfl rfl rfl rfl dL_law_274 rfl ⟨hkk, hnn⟩ (fun _ => (lfo E ae ab ar an af ah ak ax ag z ++ (tw E ab 200 tx ++ (rw_ E ar R ++ (fw E an C ++ (fw E af D ++ (pw8 E ah V ++ (pw2 E ak U ++ (sw E ax S ++ (gw E ag G ++ (mw E a M))))))))))) [0, 1, 2, 3, 4, 5, 6, 7, 8, 9, 10, 11, 12, 13, 14, 15, 16, 17, 18, 19, 20, 21, 22, 23, 24, 25, 26, 27, 28, 29, 30, 31, 32, 33, 34, 35, 36, 37, 38, 39, 40, 41, 42, 43, 44, 45, 46, 47, 48, 49, 50, 51, 52, 53, 54, 55, 56, 57, 58, 59, 60, 61, 62, 63, 64, 65, 66, 67, 68, 69, 70, 71, 72, 73, 74, 75, 76, 77, 78, 79, 80, 81, 82, 83, 84, 85, 86, 87, 88, 89, 90, 91, 92, 93, 94, 95, 96, 97, 98, 99, 100, 101, 102, 103, 104, 105, 106, 107, 108, 109, 110] rfl (fun _ => rfl) (fun _ hu274 => ?_)
  refine g_icmp_eq hX 857 dL_law_277 (by decide) (fun _ => ?_) (fun c => (c (rfl)).elim)
  exact nx z tx R C D V U S G M (INV_up hI)
set_option maxHeartbeats 4000000 in
set_option maxRecDepth 100000 in
theorem lc_fact_y (k : Nat) (hc : LCX x l E b L xs kk nn t i) (hI : INV t z tx R C V U S M) (nx : NX x E ae ab ar an af ah ak ax ag a b kk nn t i) (e1 : xs (i + 1) = nI k) (hk : k < 6) : GG x kk nn (LWM E ae ab ar an af ah ak ax ag a z tx R C D V U S G M) 259 [(0, .ref b), (1, .ref (ae 0)), (2, .ref (a 0)), (3, .int (nI i))] [] := by
  obtain ⟨hX, hSX, hkk, hnn, hit, hi5, hL3⟩ := hc
  obtain ⟨⟨hz, htx, hmX, hmL, hRq⟩, ⟨hN1, hD, hSr, hTm⟩, hE, ⟨hv1, hv2, hv3⟩, ⟨hu1, hu2, hu3⟩⟩ := id hI
  have hm : 30 * t < 2 ^ 29 := by omega
  have hC := hD.1.1
  obtain ⟨h9, h64, h512, hTq, hIq⟩ := id hC
  have hSK := hD.1.2
  have hV := DI_VB hD (by omega)
  have htx2 : ∀ j, tx j < 2 ^ 16 := fun j => by have := htx j; omega
  have hmX2 : ∀ j, mX M j < 128 := by rw [hmX]; exact htx
  have h6 : hN S ≤ 6 := hE.2.1
  have hs9 : ∀ j, j < hN S → hS S j < 9 := fun j hj => (hE.2.2 j hj).2.2
  show GG x kk nn ((lfo E ae ab ar an af ah ak ax ag z ++ (tw E ab 200 tx ++ (rw_ E ar R ++ (fw E an C ++ (fw E af D ++ (pw8 E ah V ++ (pw2 E ak U ++ (sw E ax S ++ (gw E ag G ++ (mw E a M))))))))))) 259 [(0, .ref b), (1, .ref (ae 0)), (2, .ref (a 0)), (3, .int (nI i))] []
  refine g_aload_n hX dL_law_259 1 rfl ?_
  refine g_aload_n hX dL_law_260 0 rfl ?_
  refine g_iload_n hX dL_law_261 3 rfl ?_
  refine g_iconst hX (nI 1) dL_law_262 rfl ?_
  refine g_iadd hX (nI (i + 1)) dL_law_263 (nI_add _ _) ?_
  refine g_sld hX hSX (i := i + 1) (nI k) (by omega) (by omega) e1 dL_law_264 ?_
  have hc265 : CUT ((lfo E ae ab ar an af ah ak ax ag z ++ (tw E ab 200 tx ++ (rw_ E ar R ++ (fw E an C ++ (fw E af D ++ (pw8 E ah V ++ (pw2 E ak U ++ (sw E ax S ++ (gw E ag G ++ (mw E a M))))))))))) ((lfo E ae ab ar an af ah ak ax ag z) ++ (fw E an C)) ((tw E ab 200 tx ++ (rw_ E ar R ++ (fw E af D ++ (pw8 E ah V ++ (pw2 E ak U ++ (sw E ax S ++ (gw E ag G ++ (mw E a M))))))))) [0, 4, 5, 6, 7, 8, 9, 10] [1, 2, 3, 11, 12, 13, 14, 15, 16, 17, 18, 19, 20, 21, 22, 23, 24, 25, 26, 27, 28, 29, 30, 31, 32, 33, 34, 35, 36, 37, 38, 39, 40, 41, 42, 43, 44, 45, 46, 47, 48, 49, 50, 51, 52, 53, 54, 55, 56, 57, 58, 59, 60, 61, 62, 63, 64, 65, 66, 67, 68, 69, 70, 71, 72, 73, 74, 75, 76, 77, 78, 79, 80, 81, 82, 83, 84, 85, 86, 87, 88, 89, 90, 91, 92, 93, 94, 95, 96, 97, 98, 99, 100, 101, 102, 103, 104, 105, 106, 107, 108, 109, 110] := ⟨rfl, rfl, rfl, rfl, rfl⟩
  refine g_VI hX hc265 [.int (nI k)] [] (c_X5_fact_y l E ae ab ar an af ah ak ax ag z C k (by first | assumption | omega) (by first | assumption | omega)) gL_law_X5_fact calX5_fact rfl rfl rfl rfl 0 rfl rfl rfl rfl dL_law_265 rfl ⟨hkk, hnn⟩ (fun _ => (lfo E ae ab ar an af ah ak ax ag z ++ (tw E ab 200 tx ++ (rw_ E ar R ++ (fw E an C ++ (fw E af D ++ (pw8 E ah V ++ (pw2 E ak U ++ (sw E ax S ++ (gw E ag G ++ (mw E a M))))))))))) [103, 0, 1, 2, 104, 105, 106, 107, 108, 109, 110, 3, 4, 5, 6, 7, 8, 9, 10, 11, 12, 13, 14, 15, 16, 17, 18, 19, 20, 21, 22, 23, 24, 25, 26, 27, 28, 29, 30, 31, 32, 33, 34, 35, 36, 37, 38, 39, 40, 41, 42, 43, 44, 45, 46, 47, 48, 49, 50, 51, 52, 53, 54, 55, 56, 57, 58, 59, 60, 61, 62, 63, 64, 65, 66, 67, 68, 69, 70, 71, 72, 73, 74, 75, 76, 77, 78, 79, 80, 81, 82, 83, 84, 85, 86, 87, 88, 89, 90, 91, 92, 93, 94, 95, 96, 97, 98, 99, 100, 101, 102] rfl (fun _ => rfl) (fun _ hu265 => ?_)
  refine g_aload_n hX dL_law_268 2 rfl ?_
  refine g_aload_n hX dL_law_269 0 rfl ?_
  refine g_iload_n hX dL_law_270 3 rfl ?_
  refine g_iconst hX (nI 1) dL_law_271 rfl ?_
  refine g_iadd hX (nI (i + 1)) dL_law_272 (nI_add _ _) ?_
  refine g_sld hX hSX (i := i + 1) (nI k) (by omega) (by omega) e1 dL_law_273 ?_
  have hc274 : CUT ((lfo E ae ab ar an af ah ak ax ag z ++ (tw E ab 200 tx ++ (rw_ E ar R ++ (fw E an C ++ (fw E af D ++ (pw8 E ah V ++ (pw2 E ak U ++ (sw E ax S ++ (gw E ag G ++ (mw E a M))))))))))) (mw E a M) ((lfo E ae ab ar an af ah ak ax ag z ++ (tw E ab 200 tx ++ (rw_ E ar R ++ (fw E an C ++ (fw E af D ++ (pw8 E ah V ++ (pw2 E ak U ++ (sw E ax S ++ (gw E ag G)))))))))) [98, 99, 100, 101, 102, 103, 104, 105, 106, 107, 108, 109, 110] [0, 1, 2, 3, 4, 5, 6, 7, 8, 9, 10, 11, 12, 13, 14, 15, 16, 17, 18, 19, 20, 21, 22, 23, 24, 25, 26, 27, 28, 29, 30, 31, 32, 33, 34, 35, 36, 37, 38, 39, 40, 41, 42, 43, 44, 45, 46, 47, 48, 49, 50, 51, 52, 53, 54, 55, 56, 57, 58, 59, 60, 61, 62, 63, 64, 65, 66, 67, 68, 69, 70, 71, 72, 73, 74, 75, 76, 77, 78, 79, 80, 81, 82, 83, 84, 85, 86, 87, 88, 89, 90, 91, 92, 93, 94, 95, 96, 97] := ⟨rfl, rfl, rfl, rfl, rfl⟩
  refine g_VI hX hc274 [.int (nI k)] [.int (bI (((cF C)).testBit k))] (c_X6_fact_y l E a M C k (by first | assumption | omega) hSr.1 (by first | assumption | omega)) gL_law_X6_fact calX6_fact rfl rfl rfl rfl 98 rfl rfl rfl rfl dL_law_274 rfl ⟨hkk, hnn⟩ (fun _ => (lfo E ae ab ar an af ah ak ax ag z ++ (tw E ab 200 tx ++ (rw_ E ar R ++ (fw E an C ++ (fw E af D ++ (pw8 E ah V ++ (pw2 E ak U ++ (sw E ax S ++ (gw E ag G ++ (mw E a M))))))))))) [0, 1, 2, 3, 4, 5, 6, 7, 8, 9, 10, 11, 12, 13, 14, 15, 16, 17, 18, 19, 20, 21, 22, 23, 24, 25, 26, 27, 28, 29, 30, 31, 32, 33, 34, 35, 36, 37, 38, 39, 40, 41, 42, 43, 44, 45, 46, 47, 48, 49, 50, 51, 52, 53, 54, 55, 56, 57, 58, 59, 60, 61, 62, 63, 64, 65, 66, 67, 68, 69, 70, 71, 72, 73, 74, 75, 76, 77, 78, 79, 80, 81, 82, 83, 84, 85, 86, 87, 88, 89, 90, 91, 92, 93, 94, 95, 96, 97, 98, 99, 100, 101, 102, 103, 104, 105, 106, 107, 108, 109, 110] rfl (fun _ => rfl) (fun _ hu274 => ?_)
  refine g_icmp_eq hX 857 dL_law_277 (by decide) (fun _ => ?_) (fun c => (c (rfl)).elim)
  exact nx z tx R C D V U S G M (INV_up hI)
set_option maxHeartbeats 4000000 in
set_option maxRecDepth 100000 in
theorem lc_clash_n1  (hc : LCX x l E b L xs kk nn t i) (hI : INV t z tx R C V U S M) (nx : NX x E ae ab ar an af ah ak ax ag a b kk nn t i) (hx : win (xs (i + 1)) (nI 0) (nI (cN C - 1)) = false) : GG x kk nn (LWM E ae ab ar an af ah ak ax ag a z tx R C D V U S G M) 282 [(0, .ref b), (1, .ref (ae 0)), (2, .ref (a 0)), (3, .int (nI i))] [] := by
  obtain ⟨hX, hSX, hkk, hnn, hit, hi5, hL3⟩ := hc
  obtain ⟨⟨hz, htx, hmX, hmL, hRq⟩, ⟨hN1, hD, hSr, hTm⟩, hE, ⟨hv1, hv2, hv3⟩, ⟨hu1, hu2, hu3⟩⟩ := id hI
  have hm : 30 * t < 2 ^ 29 := by omega
  have hC := hD.1.1
  obtain ⟨h9, h64, h512, hTq, hIq⟩ := id hC
  have hSK := hD.1.2
  have hV := DI_VB hD (by omega)
  have htx2 : ∀ j, tx j < 2 ^ 16 := fun j => by have := htx j; omega
  have hmX2 : ∀ j, mX M j < 128 := by rw [hmX]; exact htx
  have h6 : hN S ≤ 6 := hE.2.1
  have hs9 : ∀ j, j < hN S → hS S j < 9 := fun j hj => (hE.2.2 j hj).2.2
  show GG x kk nn ((lfo E ae ab ar an af ah ak ax ag z ++ (tw E ab 200 tx ++ (rw_ E ar R ++ (fw E an C ++ (fw E af D ++ (pw8 E ah V ++ (pw2 E ak U ++ (sw E ax S ++ (gw E ag G ++ (mw E a M))))))))))) 282 [(0, .ref b), (1, .ref (ae 0)), (2, .ref (a 0)), (3, .int (nI i))] []
  refine g_aload_n hX dL_law_282 1 rfl ?_
  refine g_aload_n hX dL_law_283 0 rfl ?_
  refine g_iload_n hX dL_law_284 3 rfl ?_
  refine g_iconst hX (nI 1) dL_law_285 rfl ?_
  refine g_iadd hX (nI (i + 1)) dL_law_286 (nI_add _ _) ?_
  refine g_sld hX hSX (i := i + 1) ((xs (i + 1))) (by omega) (by omega) rfl dL_law_287 ?_
  refine g_aload_n hX dL_law_288 0 rfl ?_
  refine g_iload_n hX dL_law_289 3 rfl ?_
  refine g_iconst hX (nI 2) dL_law_290 rfl ?_
  refine g_iadd hX (nI (i + 2)) dL_law_291 (nI_add _ _) ?_
  refine g_sld hX hSX (i := i + 2) ((xs (i + 2))) (by omega) (by omega) rfl dL_law_292 ?_
  have hc293 : CUT ((lfo E ae ab ar an af ah ak ax ag z ++ (tw E ab 200 tx ++ (rw_ E ar R ++ (fw E an C ++ (fw E af D ++ (pw8 E ah V ++ (pw2 E ak U ++ (sw E ax S ++ (gw E ag G ++ (mw E a M))))))))))) ((lfo E ae ab ar an af ah ak ax ag z) ++ (fw E an C)) ((tw E ab 200 tx ++ (rw_ E ar R ++ (fw E af D ++ (pw8 E ah V ++ (pw2 E ak U ++ (sw E ax S ++ (gw E ag G ++ (mw E a M))))))))) [0, 4, 5, 6, 7, 8, 9, 10] [1, 2, 3, 11, 12, 13, 14, 15, 16, 17, 18, 19, 20, 21, 22, 23, 24, 25, 26, 27, 28, 29, 30, 31, 32, 33, 34, 35, 36, 37, 38, 39, 40, 41, 42, 43, 44, 45, 46, 47, 48, 49, 50, 51, 52, 53, 54, 55, 56, 57, 58, 59, 60, 61, 62, 63, 64, 65, 66, 67, 68, 69, 70, 71, 72, 73, 74, 75, 76, 77, 78, 79, 80, 81, 82, 83, 84, 85, 86, 87, 88, 89, 90, 91, 92, 93, 94, 95, 96, 97, 98, 99, 100, 101, 102, 103, 104, 105, 106, 107, 108, 109, 110] := ⟨rfl, rfl, rfl, rfl, rfl⟩
  refine g_VI hX hc293 [.int (xs (i + 1)), .int (xs (i + 2))] [] (c_X5_clash_n1 l E ae ab ar an af ah ak ax ag z C (xs (i + 1)) (xs (i + 2)) (by first | assumption | omega) (by first | assumption | omega) (by first | assumption | omega)) gL_law_X5_clash calX5_clash rfl rfl rfl rfl 0 rfl rfl rfl rfl dL_law_293 rfl ⟨hkk, hnn⟩ (fun _ => (lfo E ae ab ar an af ah ak ax ag z ++ (tw E ab 200 tx ++ (rw_ E ar R ++ (fw E an C ++ (fw E af D ++ (pw8 E ah V ++ (pw2 E ak U ++ (sw E ax S ++ (gw E ag G ++ (mw E a M))))))))))) [103, 0, 1, 2, 104, 105, 106, 107, 108, 109, 110, 3, 4, 5, 6, 7, 8, 9, 10, 11, 12, 13, 14, 15, 16, 17, 18, 19, 20, 21, 22, 23, 24, 25, 26, 27, 28, 29, 30, 31, 32, 33, 34, 35, 36, 37, 38, 39, 40, 41, 42, 43, 44, 45, 46, 47, 48, 49, 50, 51, 52, 53, 54, 55, 56, 57, 58, 59, 60, 61, 62, 63, 64, 65, 66, 67, 68, 69, 70, 71, 72, 73, 74, 75, 76, 77, 78, 79, 80, 81, 82, 83, 84, 85, 86, 87, 88, 89, 90, 91, 92, 93, 94, 95, 96, 97, 98, 99, 100, 101, 102] rfl (fun _ => rfl) (fun _ hu293 => ?_)
  refine g_aload_n hX dL_law_296 2 rfl ?_
  refine g_aload_n hX dL_law_297 0 rfl ?_
  refine g_iload_n hX dL_law_298 3 rfl ?_
  refine g_iconst hX (nI 1) dL_law_299 rfl ?_
  refine g_iadd hX (nI (i + 1)) dL_law_300 (nI_add _ _) ?_
  refine g_sld hX hSX (i := i + 1) ((xs (i + 1))) (by omega) (by omega) rfl dL_law_301 ?_
  refine g_aload_n hX dL_law_302 0 rfl ?_
  refine g_iload_n hX dL_law_303 3 rfl ?_
  refine g_iconst hX (nI 2) dL_law_304 rfl ?_
  refine g_iadd hX (nI (i + 2)) dL_law_305 (nI_add _ _) ?_
  refine g_sld hX hSX (i := i + 2) ((xs (i + 2))) (by omega) (by omega) rfl dL_law_306 ?_
  have hc307 : CUT ((lfo E ae ab ar an af ah ak ax ag z ++ (tw E ab 200 tx ++ (rw_ E ar R ++ (fw E an C ++ (fw E af D ++ (pw8 E ah V ++ (pw2 E ak U ++ (sw E ax S ++ (gw E ag G ++ (mw E a M))))))))))) (mw E a M) ((lfo E ae ab ar an af ah ak ax ag z ++ (tw E ab 200 tx ++ (rw_ E ar R ++ (fw E an C ++ (fw E af D ++ (pw8 E ah V ++ (pw2 E ak U ++ (sw E ax S ++ (gw E ag G)))))))))) [98, 99, 100, 101, 102, 103, 104, 105, 106, 107, 108, 109, 110] [0, 1, 2, 3, 4, 5, 6, 7, 8, 9, 10, 11, 12, 13, 14, 15, 16, 17, 18, 19, 20, 21, 22, 23, 24, 25, 26, 27, 28, 29, 30, 31, 32, 33, 34, 35, 36, 37, 38, 39, 40, 41, 42, 43, 44, 45, 46, 47, 48, 49, 50, 51, 52, 53, 54, 55, 56, 57, 58, 59, 60, 61, 62, 63, 64, 65, 66, 67, 68, 69, 70, 71, 72, 73, 74, 75, 76, 77, 78, 79, 80, 81, 82, 83, 84, 85, 86, 87, 88, 89, 90, 91, 92, 93, 94, 95, 96, 97] := ⟨rfl, rfl, rfl, rfl, rfl⟩
  refine g_VI hX hc307 [.int (xs (i + 1)), .int (xs (i + 2))] [.int (-1)] (c_X6_clash_n1 l E a M C (30 * t) (xs (i + 1)) (xs (i + 2)) (by first | assumption | omega) (by first | assumption | omega) (by first | assumption | omega) (by first | assumption | omega) (by first | assumption | omega) (by first | assumption | omega)) gL_law_X6_clash calX6_clash rfl rfl rfl rfl 98 rfl rfl rfl rfl dL_law_307 rfl ⟨hkk, hnn⟩ (fun u307 => (lfo E ae ab ar an af ah ak ax ag z ++ (tw E ab 200 tx ++ (rw_ E ar R ++ (fw E an C ++ (fw E af D ++ (pw8 E ah V ++ (pw2 E ak U ++ (sw E ax S ++ (gw E ag G ++ (mw E a u307))))))))))) [0, 1, 2, 3, 4, 5, 6, 7, 8, 9, 10, 11, 12, 13, 14, 15, 16, 17, 18, 19, 20, 21, 22, 23, 24, 25, 26, 27, 28, 29, 30, 31, 32, 33, 34, 35, 36, 37, 38, 39, 40, 41, 42, 43, 44, 45, 46, 47, 48, 49, 50, 51, 52, 53, 54, 55, 56, 57, 58, 59, 60, 61, 62, 63, 64, 65, 66, 67, 68, 69, 70, 71, 72, 73, 74, 75, 76, 77, 78, 79, 80, 81, 82, 83, 84, 85, 86, 87, 88, 89, 90, 91, 92, 93, 94, 95, 96, 97, 98, 99, 100, 101, 102, 103, 104, 105, 106, 107, 108, 109, 110] rfl (fun _ => rfl) (fun u307 hu307 => ?_)
  refine g_icmp_eq hX 857 dL_law_310 (by decide) (fun _ => ?_) (fun c => (c (rfl)).elim)
  exact nx z tx R C D V U S G u307 (INV_KS hI hu307)
set_option maxHeartbeats 4000000 in
set_option maxRecDepth 100000 in
theorem lc_clash_n2 (s : Nat) (hc : LCX x l E b L xs kk nn t i) (hI : INV t z tx R C V U S M) (nx : NX x E ae ab ar an af ah ak ax ag a b kk nn t i) (e1 : xs (i + 1) = nI s) (hs : s < cN C) (hx : win (xs (i + 2)) (nI 0) (nI (cN C - 1)) = false) : GG x kk nn (LWM E ae ab ar an af ah ak ax ag a z tx R C D V U S G M) 282 [(0, .ref b), (1, .ref (ae 0)), (2, .ref (a 0)), (3, .int (nI i))] [] := by
  obtain ⟨hX, hSX, hkk, hnn, hit, hi5, hL3⟩ := hc
  obtain ⟨⟨hz, htx, hmX, hmL, hRq⟩, ⟨hN1, hD, hSr, hTm⟩, hE, ⟨hv1, hv2, hv3⟩, ⟨hu1, hu2, hu3⟩⟩ := id hI
  have hm : 30 * t < 2 ^ 29 := by omega
  have hC := hD.1.1
  obtain ⟨h9, h64, h512, hTq, hIq⟩ := id hC
  have hSK := hD.1.2
  have hV := DI_VB hD (by omega)
  have htx2 : ∀ j, tx j < 2 ^ 16 := fun j => by have := htx j; omega
  have hmX2 : ∀ j, mX M j < 128 := by rw [hmX]; exact htx
  have h6 : hN S ≤ 6 := hE.2.1
  have hs9 : ∀ j, j < hN S → hS S j < 9 := fun j hj => (hE.2.2 j hj).2.2
  show GG x kk nn ((lfo E ae ab ar an af ah ak ax ag z ++ (tw E ab 200 tx ++ (rw_ E ar R ++ (fw E an C ++ (fw E af D ++ (pw8 E ah V ++ (pw2 E ak U ++ (sw E ax S ++ (gw E ag G ++ (mw E a M))))))))))) 282 [(0, .ref b), (1, .ref (ae 0)), (2, .ref (a 0)), (3, .int (nI i))] []
  refine g_aload_n hX dL_law_282 1 rfl ?_
  refine g_aload_n hX dL_law_283 0 rfl ?_
  refine g_iload_n hX dL_law_284 3 rfl ?_
  refine g_iconst hX (nI 1) dL_law_285 rfl ?_
  refine g_iadd hX (nI (i + 1)) dL_law_286 (nI_add _ _) ?_
  refine g_sld hX hSX (i := i + 1) (nI s) (by omega) (by omega) e1 dL_law_287 ?_
  refine g_aload_n hX dL_law_288 0 rfl ?_
  refine g_iload_n hX dL_law_289 3 rfl ?_
  refine g_iconst hX (nI 2) dL_law_290 rfl ?_
  refine g_iadd hX (nI (i + 2)) dL_law_291 (nI_add _ _) ?_
  refine g_sld hX hSX (i := i + 2) ((xs (i + 2))) (by omega) (by omega) rfl dL_law_292 ?_
  have hc293 : CUT ((lfo E ae ab ar an af ah ak ax ag z ++ (tw E ab 200 tx ++ (rw_ E ar R ++ (fw E an C ++ (fw E af D ++ (pw8 E ah V ++ (pw2 E ak U ++ (sw E ax S ++ (gw E ag G ++ (mw E a M))))))))))) ((lfo E ae ab ar an af ah ak ax ag z) ++ (fw E an C)) ((tw E ab 200 tx ++ (rw_ E ar R ++ (fw E af D ++ (pw8 E ah V ++ (pw2 E ak U ++ (sw E ax S ++ (gw E ag G ++ (mw E a M))))))))) [0, 4, 5, 6, 7, 8, 9, 10] [1, 2, 3, 11, 12, 13, 14, 15, 16, 17, 18, 19, 20, 21, 22, 23, 24, 25, 26, 27, 28, 29, 30, 31, 32, 33, 34, 35, 36, 37, 38, 39, 40, 41, 42, 43, 44, 45, 46, 47, 48, 49, 50, 51, 52, 53, 54, 55, 56, 57, 58, 59, 60, 61, 62, 63, 64, 65, 66, 67, 68, 69, 70, 71, 72, 73, 74, 75, 76, 77, 78, 79, 80, 81, 82, 83, 84, 85, 86, 87, 88, 89, 90, 91, 92, 93, 94, 95, 96, 97, 98, 99, 100, 101, 102, 103, 104, 105, 106, 107, 108, 109, 110] := ⟨rfl, rfl, rfl, rfl, rfl⟩
  refine g_VI hX hc293 [.int (nI s), .int (xs (i + 2))] [] (c_X5_clash_n2 l E ae ab ar an af ah ak ax ag z C s (xs (i + 2)) (by first | assumption | omega) (by first | assumption | omega) (by first | assumption | omega) (by first | assumption | omega)) gL_law_X5_clash calX5_clash rfl rfl rfl rfl 0 rfl rfl rfl rfl dL_law_293 rfl ⟨hkk, hnn⟩ (fun _ => (lfo E ae ab ar an af ah ak ax ag z ++ (tw E ab 200 tx ++ (rw_ E ar R ++ (fw E an C ++ (fw E af D ++ (pw8 E ah V ++ (pw2 E ak U ++ (sw E ax S ++ (gw E ag G ++ (mw E a M))))))))))) [103, 0, 1, 2, 104, 105, 106, 107, 108, 109, 110, 3, 4, 5, 6, 7, 8, 9, 10, 11, 12, 13, 14, 15, 16, 17, 18, 19, 20, 21, 22, 23, 24, 25, 26, 27, 28, 29, 30, 31, 32, 33, 34, 35, 36, 37, 38, 39, 40, 41, 42, 43, 44, 45, 46, 47, 48, 49, 50, 51, 52, 53, 54, 55, 56, 57, 58, 59, 60, 61, 62, 63, 64, 65, 66, 67, 68, 69, 70, 71, 72, 73, 74, 75, 76, 77, 78, 79, 80, 81, 82, 83, 84, 85, 86, 87, 88, 89, 90, 91, 92, 93, 94, 95, 96, 97, 98, 99, 100, 101, 102] rfl (fun _ => rfl) (fun _ hu293 => ?_)
  refine g_aload_n hX dL_law_296 2 rfl ?_
  refine g_aload_n hX dL_law_297 0 rfl ?_
  refine g_iload_n hX dL_law_298 3 rfl ?_
  refine g_iconst hX (nI 1) dL_law_299 rfl ?_
  refine g_iadd hX (nI (i + 1)) dL_law_300 (nI_add _ _) ?_
  refine g_sld hX hSX (i := i + 1) (nI s) (by omega) (by omega) e1 dL_law_301 ?_
  refine g_aload_n hX dL_law_302 0 rfl ?_
  refine g_iload_n hX dL_law_303 3 rfl ?_
  refine g_iconst hX (nI 2) dL_law_304 rfl ?_
  refine g_iadd hX (nI (i + 2)) dL_law_305 (nI_add _ _) ?_
  refine g_sld hX hSX (i := i + 2) ((xs (i + 2))) (by omega) (by omega) rfl dL_law_306 ?_
  have hc307 : CUT ((lfo E ae ab ar an af ah ak ax ag z ++ (tw E ab 200 tx ++ (rw_ E ar R ++ (fw E an C ++ (fw E af D ++ (pw8 E ah V ++ (pw2 E ak U ++ (sw E ax S ++ (gw E ag G ++ (mw E a M))))))))))) (mw E a M) ((lfo E ae ab ar an af ah ak ax ag z ++ (tw E ab 200 tx ++ (rw_ E ar R ++ (fw E an C ++ (fw E af D ++ (pw8 E ah V ++ (pw2 E ak U ++ (sw E ax S ++ (gw E ag G)))))))))) [98, 99, 100, 101, 102, 103, 104, 105, 106, 107, 108, 109, 110] [0, 1, 2, 3, 4, 5, 6, 7, 8, 9, 10, 11, 12, 13, 14, 15, 16, 17, 18, 19, 20, 21, 22, 23, 24, 25, 26, 27, 28, 29, 30, 31, 32, 33, 34, 35, 36, 37, 38, 39, 40, 41, 42, 43, 44, 45, 46, 47, 48, 49, 50, 51, 52, 53, 54, 55, 56, 57, 58, 59, 60, 61, 62, 63, 64, 65, 66, 67, 68, 69, 70, 71, 72, 73, 74, 75, 76, 77, 78, 79, 80, 81, 82, 83, 84, 85, 86, 87, 88, 89, 90, 91, 92, 93, 94, 95, 96, 97] := ⟨rfl, rfl, rfl, rfl, rfl⟩
  refine g_VI hX hc307 [.int (nI s), .int (xs (i + 2))] [.int (-1)] (c_X6_clash_n2 l E a M C (30 * t) s (xs (i + 2)) (by first | assumption | omega) (by first | assumption | omega) (by first | assumption | omega) (by first | assumption | omega) (by first | assumption | omega) (by first | assumption | omega) (by first | assumption | omega)) gL_law_X6_clash calX6_clash rfl rfl rfl rfl 98 rfl rfl rfl rfl dL_law_307 rfl ⟨hkk, hnn⟩ (fun u307 => (lfo E ae ab ar an af ah ak ax ag z ++ (tw E ab 200 tx ++ (rw_ E ar R ++ (fw E an C ++ (fw E af D ++ (pw8 E ah V ++ (pw2 E ak U ++ (sw E ax S ++ (gw E ag G ++ (mw E a u307))))))))))) [0, 1, 2, 3, 4, 5, 6, 7, 8, 9, 10, 11, 12, 13, 14, 15, 16, 17, 18, 19, 20, 21, 22, 23, 24, 25, 26, 27, 28, 29, 30, 31, 32, 33, 34, 35, 36, 37, 38, 39, 40, 41, 42, 43, 44, 45, 46, 47, 48, 49, 50, 51, 52, 53, 54, 55, 56, 57, 58, 59, 60, 61, 62, 63, 64, 65, 66, 67, 68, 69, 70, 71, 72, 73, 74, 75, 76, 77, 78, 79, 80, 81, 82, 83, 84, 85, 86, 87, 88, 89, 90, 91, 92, 93, 94, 95, 96, 97, 98, 99, 100, 101, 102, 103, 104, 105, 106, 107, 108, 109, 110] rfl (fun _ => rfl) (fun u307 hu307 => ?_)
  refine g_icmp_eq hX 857 dL_law_310 (by decide) (fun _ => ?_) (fun c => (c (rfl)).elim)
  exact nx z tx R C D V U S G u307 (INV_KS hI hu307)
set_option maxHeartbeats 4000000 in
set_option maxRecDepth 100000 in
theorem lc_clash_n3 (s : Nat) (q : Nat) (hc : LCX x l E b L xs kk nn t i) (hI : INV t z tx R C V U S M) (nx : NX x E ae ab ar an af ah ak ax ag a b kk nn t i) (e1 : xs (i + 1) = nI s) (e2 : xs (i + 2) = nI q) (hs : s < cN C) (ht : q < cN C) (he : s = q) : GG x kk nn (LWM E ae ab ar an af ah ak ax ag a z tx R C D V U S G M) 282 [(0, .ref b), (1, .ref (ae 0)), (2, .ref (a 0)), (3, .int (nI i))] [] := by
  obtain ⟨hX, hSX, hkk, hnn, hit, hi5, hL3⟩ := hc
  obtain ⟨⟨hz, htx, hmX, hmL, hRq⟩, ⟨hN1, hD, hSr, hTm⟩, hE, ⟨hv1, hv2, hv3⟩, ⟨hu1, hu2, hu3⟩⟩ := id hI
  have hm : 30 * t < 2 ^ 29 := by omega
  have hC := hD.1.1
  obtain ⟨h9, h64, h512, hTq, hIq⟩ := id hC
  have hSK := hD.1.2
  have hV := DI_VB hD (by omega)
  have htx2 : ∀ j, tx j < 2 ^ 16 := fun j => by have := htx j; omega
  have hmX2 : ∀ j, mX M j < 128 := by rw [hmX]; exact htx
  have h6 : hN S ≤ 6 := hE.2.1
  have hs9 : ∀ j, j < hN S → hS S j < 9 := fun j hj => (hE.2.2 j hj).2.2
  show GG x kk nn ((lfo E ae ab ar an af ah ak ax ag z ++ (tw E ab 200 tx ++ (rw_ E ar R ++ (fw E an C ++ (fw E af D ++ (pw8 E ah V ++ (pw2 E ak U ++ (sw E ax S ++ (gw E ag G ++ (mw E a M))))))))))) 282 [(0, .ref b), (1, .ref (ae 0)), (2, .ref (a 0)), (3, .int (nI i))] []
  refine g_aload_n hX dL_law_282 1 rfl ?_
  refine g_aload_n hX dL_law_283 0 rfl ?_
  refine g_iload_n hX dL_law_284 3 rfl ?_
  refine g_iconst hX (nI 1) dL_law_285 rfl ?_
  refine g_iadd hX (nI (i + 1)) dL_law_286 (nI_add _ _) ?_
  refine g_sld hX hSX (i := i + 1) (nI s) (by omega) (by omega) e1 dL_law_287 ?_
  refine g_aload_n hX dL_law_288 0 rfl ?_
  refine g_iload_n hX dL_law_289 3 rfl ?_
  refine g_iconst hX (nI 2) dL_law_290 rfl ?_
  refine g_iadd hX (nI (i + 2)) dL_law_291 (nI_add _ _) ?_
  refine g_sld hX hSX (i := i + 2) (nI q) (by omega) (by omega) e2 dL_law_292 ?_
  have hc293 : CUT ((lfo E ae ab ar an af ah ak ax ag z ++ (tw E ab 200 tx ++ (rw_ E ar R ++ (fw E an C ++ (fw E af D ++ (pw8 E ah V ++ (pw2 E ak U ++ (sw E ax S ++ (gw E ag G ++ (mw E a M))))))))))) ((lfo E ae ab ar an af ah ak ax ag z) ++ (fw E an C)) ((tw E ab 200 tx ++ (rw_ E ar R ++ (fw E af D ++ (pw8 E ah V ++ (pw2 E ak U ++ (sw E ax S ++ (gw E ag G ++ (mw E a M))))))))) [0, 4, 5, 6, 7, 8, 9, 10] [1, 2, 3, 11, 12, 13, 14, 15, 16, 17, 18, 19, 20, 21, 22, 23, 24, 25, 26, 27, 28, 29, 30, 31, 32, 33, 34, 35, 36, 37, 38, 39, 40, 41, 42, 43, 44, 45, 46, 47, 48, 49, 50, 51, 52, 53, 54, 55, 56, 57, 58, 59, 60, 61, 62, 63, 64, 65, 66, 67, 68, 69, 70, 71, 72, 73, 74, 75, 76, 77, 78, 79, 80, 81, 82, 83, 84, 85, 86, 87, 88, 89, 90, 91, 92, 93, 94, 95, 96, 97, 98, 99, 100, 101, 102, 103, 104, 105, 106, 107, 108, 109, 110] := ⟨rfl, rfl, rfl, rfl, rfl⟩
  refine g_VI hX hc293 [.int (nI s), .int (nI q)] [] (c_X5_clash_n3 l E ae ab ar an af ah ak ax ag z C s q (by first | assumption | omega) (by first | assumption | omega) hs ht (by first | assumption | omega)) gL_law_X5_clash calX5_clash rfl rfl rfl rfl 0 rfl rfl rfl rfl dL_law_293 rfl ⟨hkk, hnn⟩ (fun _ => (lfo E ae ab ar an af ah ak ax ag z ++ (tw E ab 200 tx ++ (rw_ E ar R ++ (fw E an C ++ (fw E af D ++ (pw8 E ah V ++ (pw2 E ak U ++ (sw E ax S ++ (gw E ag G ++ (mw E a M))))))))))) [103, 0, 1, 2, 104, 105, 106, 107, 108, 109, 110, 3, 4, 5, 6, 7, 8, 9, 10, 11, 12, 13, 14, 15, 16, 17, 18, 19, 20, 21, 22, 23, 24, 25, 26, 27, 28, 29, 30, 31, 32, 33, 34, 35, 36, 37, 38, 39, 40, 41, 42, 43, 44, 45, 46, 47, 48, 49, 50, 51, 52, 53, 54, 55, 56, 57, 58, 59, 60, 61, 62, 63, 64, 65, 66, 67, 68, 69, 70, 71, 72, 73, 74, 75, 76, 77, 78, 79, 80, 81, 82, 83, 84, 85, 86, 87, 88, 89, 90, 91, 92, 93, 94, 95, 96, 97, 98, 99, 100, 101, 102] rfl (fun _ => rfl) (fun _ hu293 => ?_)
  refine g_aload_n hX dL_law_296 2 rfl ?_
  refine g_aload_n hX dL_law_297 0 rfl ?_
  refine g_iload_n hX dL_law_298 3 rfl ?_
  refine g_iconst hX (nI 1) dL_law_299 rfl ?_
  refine g_iadd hX (nI (i + 1)) dL_law_300 (nI_add _ _) ?_
  refine g_sld hX hSX (i := i + 1) (nI s) (by omega) (by omega) e1 dL_law_301 ?_
  refine g_aload_n hX dL_law_302 0 rfl ?_
  refine g_iload_n hX dL_law_303 3 rfl ?_
  refine g_iconst hX (nI 2) dL_law_304 rfl ?_
  refine g_iadd hX (nI (i + 2)) dL_law_305 (nI_add _ _) ?_
  refine g_sld hX hSX (i := i + 2) (nI q) (by omega) (by omega) e2 dL_law_306 ?_
  have hc307 : CUT ((lfo E ae ab ar an af ah ak ax ag z ++ (tw E ab 200 tx ++ (rw_ E ar R ++ (fw E an C ++ (fw E af D ++ (pw8 E ah V ++ (pw2 E ak U ++ (sw E ax S ++ (gw E ag G ++ (mw E a M))))))))))) (mw E a M) ((lfo E ae ab ar an af ah ak ax ag z ++ (tw E ab 200 tx ++ (rw_ E ar R ++ (fw E an C ++ (fw E af D ++ (pw8 E ah V ++ (pw2 E ak U ++ (sw E ax S ++ (gw E ag G)))))))))) [98, 99, 100, 101, 102, 103, 104, 105, 106, 107, 108, 109, 110] [0, 1, 2, 3, 4, 5, 6, 7, 8, 9, 10, 11, 12, 13, 14, 15, 16, 17, 18, 19, 20, 21, 22, 23, 24, 25, 26, 27, 28, 29, 30, 31, 32, 33, 34, 35, 36, 37, 38, 39, 40, 41, 42, 43, 44, 45, 46, 47, 48, 49, 50, 51, 52, 53, 54, 55, 56, 57, 58, 59, 60, 61, 62, 63, 64, 65, 66, 67, 68, 69, 70, 71, 72, 73, 74, 75, 76, 77, 78, 79, 80, 81, 82, 83, 84, 85, 86, 87, 88, 89, 90, 91, 92, 93, 94, 95, 96, 97] := ⟨rfl, rfl, rfl, rfl, rfl⟩
  refine g_VI hX hc307 [.int (nI s), .int (nI q)] [.int (-1)] (c_X6_clash_n3 l E a M C (30 * t) s q (by first | assumption | omega) (by first | assumption | omega) (by first | assumption | omega) (by first | assumption | omega) (by first | assumption | omega) hs ht (by first | assumption | omega)) gL_law_X6_clash calX6_clash rfl rfl rfl rfl 98 rfl rfl rfl rfl dL_law_307 rfl ⟨hkk, hnn⟩ (fun u307 => (lfo E ae ab ar an af ah ak ax ag z ++ (tw E ab 200 tx ++ (rw_ E ar R ++ (fw E an C ++ (fw E af D ++ (pw8 E ah V ++ (pw2 E ak U ++ (sw E ax S ++ (gw E ag G ++ (mw E a u307))))))))))) [0, 1, 2, 3, 4, 5, 6, 7, 8, 9, 10, 11, 12, 13, 14, 15, 16, 17, 18, 19, 20, 21, 22, 23, 24, 25, 26, 27, 28, 29, 30, 31, 32, 33, 34, 35, 36, 37, 38, 39, 40, 41, 42, 43, 44, 45, 46, 47, 48, 49, 50, 51, 52, 53, 54, 55, 56, 57, 58, 59, 60, 61, 62, 63, 64, 65, 66, 67, 68, 69, 70, 71, 72, 73, 74, 75, 76, 77, 78, 79, 80, 81, 82, 83, 84, 85, 86, 87, 88, 89, 90, 91, 92, 93, 94, 95, 96, 97, 98, 99, 100, 101, 102, 103, 104, 105, 106, 107, 108, 109, 110] rfl (fun _ => rfl) (fun u307 hu307 => ?_)
  refine g_icmp_eq hX 857 dL_law_310 (by decide) (fun _ => ?_) (fun c => (c (rfl)).elim)
  exact nx z tx R C D V U S G u307 (INV_KS hI hu307)
set_option maxHeartbeats 4000000 in
set_option maxRecDepth 100000 in
theorem lc_clash_y (s : Nat) (q : Nat) (hc : LCX x l E b L xs kk nn t i) (hI : INV t z tx R C V U S M) (nx : NX x E ae ab ar an af ah ak ax ag a b kk nn t i) (e1 : xs (i + 1) = nI s) (e2 : xs (i + 2) = nI q) (hs : s < cN C) (ht : q < cN C) (he : ¬ s = q) : GG x kk nn (LWM E ae ab ar an af ah ak ax ag a z tx R C D V U S G M) 282 [(0, .ref b), (1, .ref (ae 0)), (2, .ref (a 0)), (3, .int (nI i))] [] := by
  obtain ⟨hX, hSX, hkk, hnn, hit, hi5, hL3⟩ := hc
  obtain ⟨⟨hz, htx, hmX, hmL, hRq⟩, ⟨hN1, hD, hSr, hTm⟩, hE, ⟨hv1, hv2, hv3⟩, ⟨hu1, hu2, hu3⟩⟩ := id hI
  have hm : 30 * t < 2 ^ 29 := by omega
  have hC := hD.1.1
  obtain ⟨h9, h64, h512, hTq, hIq⟩ := id hC
  have hSK := hD.1.2
  have hV := DI_VB hD (by omega)
  have htx2 : ∀ j, tx j < 2 ^ 16 := fun j => by have := htx j; omega
  have hmX2 : ∀ j, mX M j < 128 := by rw [hmX]; exact htx
  have h6 : hN S ≤ 6 := hE.2.1
  have hs9 : ∀ j, j < hN S → hS S j < 9 := fun j hj => (hE.2.2 j hj).2.2
  show GG x kk nn ((lfo E ae ab ar an af ah ak ax ag z ++ (tw E ab 200 tx ++ (rw_ E ar R ++ (fw E an C ++ (fw E af D ++ (pw8 E ah V ++ (pw2 E ak U ++ (sw E ax S ++ (gw E ag G ++ (mw E a M))))))))))) 282 [(0, .ref b), (1, .ref (ae 0)), (2, .ref (a 0)), (3, .int (nI i))] []
  refine g_aload_n hX dL_law_282 1 rfl ?_
  refine g_aload_n hX dL_law_283 0 rfl ?_
  refine g_iload_n hX dL_law_284 3 rfl ?_
  refine g_iconst hX (nI 1) dL_law_285 rfl ?_
  refine g_iadd hX (nI (i + 1)) dL_law_286 (nI_add _ _) ?_
  refine g_sld hX hSX (i := i + 1) (nI s) (by omega) (by omega) e1 dL_law_287 ?_
  refine g_aload_n hX dL_law_288 0 rfl ?_
  refine g_iload_n hX dL_law_289 3 rfl ?_
  refine g_iconst hX (nI 2) dL_law_290 rfl ?_
  refine g_iadd hX (nI (i + 2)) dL_law_291 (nI_add _ _) ?_
  refine g_sld hX hSX (i := i + 2) (nI q) (by omega) (by omega) e2 dL_law_292 ?_
  have hc293 : CUT ((lfo E ae ab ar an af ah ak ax ag z ++ (tw E ab 200 tx ++ (rw_ E ar R ++ (fw E an C ++ (fw E af D ++ (pw8 E ah V ++ (pw2 E ak U ++ (sw E ax S ++ (gw E ag G ++ (mw E a M))))))))))) ((lfo E ae ab ar an af ah ak ax ag z) ++ (fw E an C)) ((tw E ab 200 tx ++ (rw_ E ar R ++ (fw E af D ++ (pw8 E ah V ++ (pw2 E ak U ++ (sw E ax S ++ (gw E ag G ++ (mw E a M))))))))) [0, 4, 5, 6, 7, 8, 9, 10] [1, 2, 3, 11, 12, 13, 14, 15, 16, 17, 18, 19, 20, 21, 22, 23, 24, 25, 26, 27, 28, 29, 30, 31, 32, 33, 34, 35, 36, 37, 38, 39, 40, 41, 42, 43, 44, 45, 46, 47, 48, 49, 50, 51, 52, 53, 54, 55, 56, 57, 58, 59, 60, 61, 62, 63, 64, 65, 66, 67, 68, 69, 70, 71, 72, 73, 74, 75, 76, 77, 78, 79, 80, 81, 82, 83, 84, 85, 86, 87, 88, 89, 90, 91, 92, 93, 94, 95, 96, 97, 98, 99, 100, 101, 102, 103, 104, 105, 106, 107, 108, 109, 110] := ⟨rfl, rfl, rfl, rfl, rfl⟩
  refine g_VI hX hc293 [.int (nI s), .int (nI q)] [] (c_X5_clash_y l E ae ab ar an af ah ak ax ag z C s q (by first | assumption | omega) (by first | assumption | omega) hs ht (by first | assumption | omega)) gL_law_X5_clash calX5_clash rfl rfl rfl rfl 0 rfl rfl rfl rfl dL_law_293 rfl ⟨hkk, hnn⟩ (fun _ => (lfo E ae ab ar an af ah ak ax ag z ++ (tw E ab 200 tx ++ (rw_ E ar R ++ (fw E an C ++ (fw E af D ++ (pw8 E ah V ++ (pw2 E ak U ++ (sw E ax S ++ (gw E ag G ++ (mw E a M))))))))))) [103, 0, 1, 2, 104, 105, 106, 107, 108, 109, 110, 3, 4, 5, 6, 7, 8, 9, 10, 11, 12, 13, 14, 15, 16, 17, 18, 19, 20, 21, 22, 23, 24, 25, 26, 27, 28, 29, 30, 31, 32, 33, 34, 35, 36, 37, 38, 39, 40, 41, 42, 43, 44, 45, 46, 47, 48, 49, 50, 51, 52, 53, 54, 55, 56, 57, 58, 59, 60, 61, 62, 63, 64, 65, 66, 67, 68, 69, 70, 71, 72, 73, 74, 75, 76, 77, 78, 79, 80, 81, 82, 83, 84, 85, 86, 87, 88, 89, 90, 91, 92, 93, 94, 95, 96, 97, 98, 99, 100, 101, 102] rfl (fun _ => rfl) (fun _ hu293 => ?_)
  refine g_aload_n hX dL_law_296 2 rfl ?_
  refine g_aload_n hX dL_law_297 0 rfl ?_
  refine g_iload_n hX dL_law_298 3 rfl ?_
  refine g_iconst hX (nI 1) dL_law_299 rfl ?_
  refine g_iadd hX (nI (i + 1)) dL_law_300 (nI_add _ _) ?_
  refine g_sld hX hSX (i := i + 1) (nI s) (by omega) (by omega) e1 dL_law_301 ?_
  refine g_aload_n hX dL_law_302 0 rfl ?_
  refine g_iload_n hX dL_law_303 3 rfl ?_
  refine g_iconst hX (nI 2) dL_law_304 rfl ?_
  refine g_iadd hX (nI (i + 2)) dL_law_305 (nI_add _ _) ?_
  refine g_sld hX hSX (i := i + 2) (nI q) (by omega) (by omega) e2 dL_law_306 ?_
  have hc307 : CUT ((lfo E ae ab ar an af ah ak ax ag z ++ (tw E ab 200 tx ++ (rw_ E ar R ++ (fw E an C ++ (fw E af D ++ (pw8 E ah V ++ (pw2 E ak U ++ (sw E ax S ++ (gw E ag G ++ (mw E a M))))))))))) (mw E a M) ((lfo E ae ab ar an af ah ak ax ag z ++ (tw E ab 200 tx ++ (rw_ E ar R ++ (fw E an C ++ (fw E af D ++ (pw8 E ah V ++ (pw2 E ak U ++ (sw E ax S ++ (gw E ag G)))))))))) [98, 99, 100, 101, 102, 103, 104, 105, 106, 107, 108, 109, 110] [0, 1, 2, 3, 4, 5, 6, 7, 8, 9, 10, 11, 12, 13, 14, 15, 16, 17, 18, 19, 20, 21, 22, 23, 24, 25, 26, 27, 28, 29, 30, 31, 32, 33, 34, 35, 36, 37, 38, 39, 40, 41, 42, 43, 44, 45, 46, 47, 48, 49, 50, 51, 52, 53, 54, 55, 56, 57, 58, 59, 60, 61, 62, 63, 64, 65, 66, 67, 68, 69, 70, 71, 72, 73, 74, 75, 76, 77, 78, 79, 80, 81, 82, 83, 84, 85, 86, 87, 88, 89, 90, 91, 92, 93, 94, 95, 96, 97] := ⟨rfl, rfl, rfl, rfl, rfl⟩
  refine g_VI hX hc307 [.int (nI s), .int (nI q)] [.int (bI (clB C s q))] (c_X6_clash_y l E a M C (30 * t) s q (by first | assumption | omega) (by first | assumption | omega) (by first | assumption | omega) (by first | assumption | omega) (by first | assumption | omega) hs ht (by first | assumption | omega)) gL_law_X6_clash calX6_clash rfl rfl rfl rfl 98 rfl rfl rfl rfl dL_law_307 rfl ⟨hkk, hnn⟩ (fun u307 => (lfo E ae ab ar an af ah ak ax ag z ++ (tw E ab 200 tx ++ (rw_ E ar R ++ (fw E an C ++ (fw E af D ++ (pw8 E ah V ++ (pw2 E ak U ++ (sw E ax S ++ (gw E ag G ++ (mw E a u307))))))))))) [0, 1, 2, 3, 4, 5, 6, 7, 8, 9, 10, 11, 12, 13, 14, 15, 16, 17, 18, 19, 20, 21, 22, 23, 24, 25, 26, 27, 28, 29, 30, 31, 32, 33, 34, 35, 36, 37, 38, 39, 40, 41, 42, 43, 44, 45, 46, 47, 48, 49, 50, 51, 52, 53, 54, 55, 56, 57, 58, 59, 60, 61, 62, 63, 64, 65, 66, 67, 68, 69, 70, 71, 72, 73, 74, 75, 76, 77, 78, 79, 80, 81, 82, 83, 84, 85, 86, 87, 88, 89, 90, 91, 92, 93, 94, 95, 96, 97, 98, 99, 100, 101, 102, 103, 104, 105, 106, 107, 108, 109, 110] rfl (fun _ => rfl) (fun u307 hu307 => ?_)
  refine g_icmp_eq hX 857 dL_law_310 (by decide) (fun _ => ?_) (fun c => (c (rfl)).elim)
  exact nx z tx R C D V U S G u307 (INV_KS hI hu307)
set_option maxHeartbeats 4000000 in
set_option maxRecDepth 100000 in
theorem lc_pass_n  (hc : LCX x l E b L xs kk nn t i) (hI : INV t z tx R C V U S M) (nx : NX x E ae ab ar an af ah ak ax ag a b kk nn t i) (hx : win (xs (i + 1)) (nI 1) (nI 30) = false) : GG x kk nn (LWM E ae ab ar an af ah ak ax ag a z tx R C D V U S G M) 315 [(0, .ref b), (1, .ref (ae 0)), (2, .ref (a 0)), (3, .int (nI i))] [] := by
  obtain ⟨hX, hSX, hkk, hnn, hit, hi5, hL3⟩ := hc
  obtain ⟨⟨hz, htx, hmX, hmL, hRq⟩, ⟨hN1, hD, hSr, hTm⟩, hE, ⟨hv1, hv2, hv3⟩, ⟨hu1, hu2, hu3⟩⟩ := id hI
  have hm : 30 * t < 2 ^ 29 := by omega
  have hC := hD.1.1
  obtain ⟨h9, h64, h512, hTq, hIq⟩ := id hC
  have hSK := hD.1.2
  have hV := DI_VB hD (by omega)
  have htx2 : ∀ j, tx j < 2 ^ 16 := fun j => by have := htx j; omega
  have hmX2 : ∀ j, mX M j < 128 := by rw [hmX]; exact htx
  have h6 : hN S ≤ 6 := hE.2.1
  have hs9 : ∀ j, j < hN S → hS S j < 9 := fun j hj => (hE.2.2 j hj).2.2
  show GG x kk nn ((lfo E ae ab ar an af ah ak ax ag z ++ (tw E ab 200 tx ++ (rw_ E ar R ++ (fw E an C ++ (fw E af D ++ (pw8 E ah V ++ (pw2 E ak U ++ (sw E ax S ++ (gw E ag G ++ (mw E a M))))))))))) 315 [(0, .ref b), (1, .ref (ae 0)), (2, .ref (a 0)), (3, .int (nI i))] []
  refine g_aload_n hX dL_law_315 1 rfl ?_
  refine g_aload_n hX dL_law_316 0 rfl ?_
  refine g_iload_n hX dL_law_317 3 rfl ?_
  refine g_iconst hX (nI 1) dL_law_318 rfl ?_
  refine g_iadd hX (nI (i + 1)) dL_law_319 (nI_add _ _) ?_
  refine g_sld hX hSX (i := i + 1) ((xs (i + 1))) (by omega) (by omega) rfl dL_law_320 ?_
  have hc321 : CUT ((lfo E ae ab ar an af ah ak ax ag z ++ (tw E ab 200 tx ++ (rw_ E ar R ++ (fw E an C ++ (fw E af D ++ (pw8 E ah V ++ (pw2 E ak U ++ (sw E ax S ++ (gw E ag G ++ (mw E a M))))))))))) (lfo E ae ab ar an af ah ak ax ag z) ((tw E ab 200 tx ++ (rw_ E ar R ++ (fw E an C ++ (fw E af D ++ (pw8 E ah V ++ (pw2 E ak U ++ (sw E ax S ++ (gw E ag G ++ (mw E a M)))))))))) [0] [1, 2, 3, 4, 5, 6, 7, 8, 9, 10, 11, 12, 13, 14, 15, 16, 17, 18, 19, 20, 21, 22, 23, 24, 25, 26, 27, 28, 29, 30, 31, 32, 33, 34, 35, 36, 37, 38, 39, 40, 41, 42, 43, 44, 45, 46, 47, 48, 49, 50, 51, 52, 53, 54, 55, 56, 57, 58, 59, 60, 61, 62, 63, 64, 65, 66, 67, 68, 69, 70, 71, 72, 73, 74, 75, 76, 77, 78, 79, 80, 81, 82, 83, 84, 85, 86, 87, 88, 89, 90, 91, 92, 93, 94, 95, 96, 97, 98, 99, 100, 101, 102, 103, 104, 105, 106, 107, 108, 109, 110] := ⟨rfl, rfl, rfl, rfl, rfl⟩
  refine g_VI hX hc321 [.int (xs (i + 1))] [] (c_X5_pass_n l E ae ab ar an af ah ak ax ag z (xs (i + 1)) (by first | assumption | omega)) gL_law_X5_pass calX5_pass rfl rfl rfl rfl 0 rfl rfl rfl rfl dL_law_321 rfl ⟨hkk, hnn⟩ (fun _ => (lfo E ae ab ar an af ah ak ax ag z ++ (tw E ab 200 tx ++ (rw_ E ar R ++ (fw E an C ++ (fw E af D ++ (pw8 E ah V ++ (pw2 E ak U ++ (sw E ax S ++ (gw E ag G ++ (mw E a M))))))))))) [110, 0, 1, 2, 3, 4, 5, 6, 7, 8, 9, 10, 11, 12, 13, 14, 15, 16, 17, 18, 19, 20, 21, 22, 23, 24, 25, 26, 27, 28, 29, 30, 31, 32, 33, 34, 35, 36, 37, 38, 39, 40, 41, 42, 43, 44, 45, 46, 47, 48, 49, 50, 51, 52, 53, 54, 55, 56, 57, 58, 59, 60, 61, 62, 63, 64, 65, 66, 67, 68, 69, 70, 71, 72, 73, 74, 75, 76, 77, 78, 79, 80, 81, 82, 83, 84, 85, 86, 87, 88, 89, 90, 91, 92, 93, 94, 95, 96, 97, 98, 99, 100, 101, 102, 103, 104, 105, 106, 107, 108, 109] rfl (fun _ => rfl) (fun _ hu321 => ?_)
  refine g_aload_n hX dL_law_324 2 rfl ?_
  refine g_aload_n hX dL_law_325 0 rfl ?_
  refine g_iload_n hX dL_law_326 3 rfl ?_
  refine g_iconst hX (nI 1) dL_law_327 rfl ?_
  refine g_iadd hX (nI (i + 1)) dL_law_328 (nI_add _ _) ?_
  refine g_sld hX hSX (i := i + 1) ((xs (i + 1))) (by omega) (by omega) rfl dL_law_329 ?_
  have hc330 : CUT ((lfo E ae ab ar an af ah ak ax ag z ++ (tw E ab 200 tx ++ (rw_ E ar R ++ (fw E an C ++ (fw E af D ++ (pw8 E ah V ++ (pw2 E ak U ++ (sw E ax S ++ (gw E ag G ++ (mw E a M))))))))))) (mw E a M) ((lfo E ae ab ar an af ah ak ax ag z ++ (tw E ab 200 tx ++ (rw_ E ar R ++ (fw E an C ++ (fw E af D ++ (pw8 E ah V ++ (pw2 E ak U ++ (sw E ax S ++ (gw E ag G)))))))))) [98, 99, 100, 101, 102, 103, 104, 105, 106, 107, 108, 109, 110] [0, 1, 2, 3, 4, 5, 6, 7, 8, 9, 10, 11, 12, 13, 14, 15, 16, 17, 18, 19, 20, 21, 22, 23, 24, 25, 26, 27, 28, 29, 30, 31, 32, 33, 34, 35, 36, 37, 38, 39, 40, 41, 42, 43, 44, 45, 46, 47, 48, 49, 50, 51, 52, 53, 54, 55, 56, 57, 58, 59, 60, 61, 62, 63, 64, 65, 66, 67, 68, 69, 70, 71, 72, 73, 74, 75, 76, 77, 78, 79, 80, 81, 82, 83, 84, 85, 86, 87, 88, 89, 90, 91, 92, 93, 94, 95, 96, 97] := ⟨rfl, rfl, rfl, rfl, rfl⟩
  refine g_VI hX hc330 [.int (xs (i + 1))] [.int (-1)] (c_X6_pass_n l E a M C (30 * t) (xs (i + 1)) (by first | assumption | omega) (by first | assumption | omega) (by first | assumption | omega) (by first | assumption | omega) (by first | assumption | omega) (by first | assumption | omega)) gL_law_X6_pass calX6_pass rfl rfl rfl rfl 98 rfl rfl rfl rfl dL_law_330 rfl ⟨hkk, hnn⟩ (fun u330 => (lfo E ae ab ar an af ah ak ax ag z ++ (tw E ab 200 tx ++ (rw_ E ar R ++ (fw E an C ++ (fw E af D ++ (pw8 E ah V ++ (pw2 E ak U ++ (sw E ax S ++ (gw E ag G ++ (mw E a u330))))))))))) [0, 1, 2, 3, 4, 5, 6, 7, 8, 9, 10, 11, 12, 13, 14, 15, 16, 17, 18, 19, 20, 21, 22, 23, 24, 25, 26, 27, 28, 29, 30, 31, 32, 33, 34, 35, 36, 37, 38, 39, 40, 41, 42, 43, 44, 45, 46, 47, 48, 49, 50, 51, 52, 53, 54, 55, 56, 57, 58, 59, 60, 61, 62, 63, 64, 65, 66, 67, 68, 69, 70, 71, 72, 73, 74, 75, 76, 77, 78, 79, 80, 81, 82, 83, 84, 85, 86, 87, 88, 89, 90, 91, 92, 93, 94, 95, 96, 97, 98, 99, 100, 101, 102, 103, 104, 105, 106, 107, 108, 109, 110] rfl (fun _ => rfl) (fun u330 hu330 => ?_)
  refine g_icmp_eq hX 857 dL_law_333 (by decide) (fun _ => ?_) (fun c => (c (rfl)).elim)
  exact nx z tx R C D V U S G u330 (INV_KS hI hu330)
set_option maxHeartbeats 4000000 in
set_option maxRecDepth 100000 in
theorem lc_pass_y (n : Nat) (hc : LCX x l E b L xs kk nn t i) (hI : INV t z tx R C V U S M) (nx : NX x E ae ab ar an af ah ak ax ag a b kk nn t i) (e1 : xs (i + 1) = nI n) (hn1 : 1 ≤ n) (hn2 : n ≤ 30) : GG x kk nn (LWM E ae ab ar an af ah ak ax ag a z tx R C D V U S G M) 315 [(0, .ref b), (1, .ref (ae 0)), (2, .ref (a 0)), (3, .int (nI i))] [] := by
  obtain ⟨hX, hSX, hkk, hnn, hit, hi5, hL3⟩ := hc
  obtain ⟨⟨hz, htx, hmX, hmL, hRq⟩, ⟨hN1, hD, hSr, hTm⟩, hE, ⟨hv1, hv2, hv3⟩, ⟨hu1, hu2, hu3⟩⟩ := id hI
  have hm : 30 * t < 2 ^ 29 := by omega
  have hC := hD.1.1
  obtain ⟨h9, h64, h512, hTq, hIq⟩ := id hC
  have hSK := hD.1.2
  have hV := DI_VB hD (by omega)
  have htx2 : ∀ j, tx j < 2 ^ 16 := fun j => by have := htx j; omega
  have hmX2 : ∀ j, mX M j < 128 := by rw [hmX]; exact htx
  have h6 : hN S ≤ 6 := hE.2.1
  have hs9 : ∀ j, j < hN S → hS S j < 9 := fun j hj => (hE.2.2 j hj).2.2
  show GG x kk nn ((lfo E ae ab ar an af ah ak ax ag z ++ (tw E ab 200 tx ++ (rw_ E ar R ++ (fw E an C ++ (fw E af D ++ (pw8 E ah V ++ (pw2 E ak U ++ (sw E ax S ++ (gw E ag G ++ (mw E a M))))))))))) 315 [(0, .ref b), (1, .ref (ae 0)), (2, .ref (a 0)), (3, .int (nI i))] []
  refine g_aload_n hX dL_law_315 1 rfl ?_
  refine g_aload_n hX dL_law_316 0 rfl ?_
  refine g_iload_n hX dL_law_317 3 rfl ?_
  refine g_iconst hX (nI 1) dL_law_318 rfl ?_
  refine g_iadd hX (nI (i + 1)) dL_law_319 (nI_add _ _) ?_
  refine g_sld hX hSX (i := i + 1) (nI n) (by omega) (by omega) e1 dL_law_320 ?_
  have hc321 : CUT ((lfo E ae ab ar an af ah ak ax ag z ++ (tw E ab 200 tx ++ (rw_ E ar R ++ (fw E an C ++ (fw E af D ++ (pw8 E ah V ++ (pw2 E ak U ++ (sw E ax S ++ (gw E ag G ++ (mw E a M))))))))))) ((lfo E ae ab ar an af ah ak ax ag z ++ (fw E an C ++ (pw8 E ah V)))) ((tw E ab 200 tx ++ (rw_ E ar R ++ (fw E af D ++ (pw2 E ak U ++ (sw E ax S ++ (gw E ag G ++ (mw E a M)))))))) [0, 4, 5, 6, 7, 8, 9, 10, 18, 19, 20, 21, 22, 23, 24, 25, 26, 27, 28, 29, 30, 31, 32, 33, 34, 35, 36, 37, 38, 39, 40, 41, 42, 43, 44, 45, 46, 47, 48, 49, 50, 51, 52, 53, 54, 55, 56, 57, 58, 59, 60, 61, 62, 63, 64, 65, 66, 67, 68, 69, 70, 71, 72, 73, 74, 75] [1, 2, 3, 11, 12, 13, 14, 15, 16, 17, 76, 77, 78, 79, 80, 81, 82, 83, 84, 85, 86, 87, 88, 89, 90, 91, 92, 93, 94, 95, 96, 97, 98, 99, 100, 101, 102, 103, 104, 105, 106, 107, 108, 109, 110] := ⟨rfl, rfl, rfl, rfl, rfl⟩
  refine g_VI hX hc321 [.int (nI n)] [] (c_X5_pass_y l E ae ab ar an af ah ak ax ag z C V (30 * t) n (by first | assumption | omega) (by first | assumption | omega) (by first | assumption | omega) (by first | assumption | omega) (by first | assumption | omega)) gL_law_X5_pass calX5_pass rfl rfl rfl rfl 0 rfl rfl rfl rfl dL_law_321 rfl ⟨hkk, hnn⟩ (fun _ => (lfo E ae ab ar an af ah ak ax ag z ++ (tw E ab 200 tx ++ (rw_ E ar R ++ (fw E an (dayC C n) ++ (fw E af D ++ (pw8 E ah (padd8 V C) ++ (pw2 E ak U ++ (sw E ax S ++ (gw E ag G ++ (mw E a M))))))))))) [45, 0, 1, 2, 46, 47, 48, 49, 50, 51, 52, 3, 4, 5, 6, 7, 8, 9, 53, 54, 55, 56, 57, 58, 59, 60, 61, 62, 63, 64, 65, 66, 67, 68, 69, 70, 71, 72, 73, 74, 75, 76, 77, 78, 79, 80, 81, 82, 83, 84, 85, 86, 87, 88, 89, 90, 91, 92, 93, 94, 95, 96, 97, 98, 99, 100, 101, 102, 103, 104, 105, 106, 107, 108, 109, 110, 10, 11, 12, 13, 14, 15, 16, 17, 18, 19, 20, 21, 22, 23, 24, 25, 26, 27, 28, 29, 30, 31, 32, 33, 34, 35, 36, 37, 38, 39, 40, 41, 42, 43, 44] rfl (fun _ => rfl) (fun _ hu321 => ?_)
  refine g_aload_n hX dL_law_324 2 rfl ?_
  refine g_aload_n hX dL_law_325 0 rfl ?_
  refine g_iload_n hX dL_law_326 3 rfl ?_
  refine g_iconst hX (nI 1) dL_law_327 rfl ?_
  refine g_iadd hX (nI (i + 1)) dL_law_328 (nI_add _ _) ?_
  refine g_sld hX hSX (i := i + 1) (nI n) (by omega) (by omega) e1 dL_law_329 ?_
  have hc330 : CUT ((lfo E ae ab ar an af ah ak ax ag z ++ (tw E ab 200 tx ++ (rw_ E ar R ++ (fw E an (dayC C n) ++ (fw E af D ++ (pw8 E ah (padd8 V C) ++ (pw2 E ak U ++ (sw E ax S ++ (gw E ag G ++ (mw E a M))))))))))) (mw E a M) ((lfo E ae ab ar an af ah ak ax ag z ++ (tw E ab 200 tx ++ (rw_ E ar R ++ (fw E an (dayC C n) ++ (fw E af D ++ (pw8 E ah (padd8 V C) ++ (pw2 E ak U ++ (sw E ax S ++ (gw E ag G)))))))))) [98, 99, 100, 101, 102, 103, 104, 105, 106, 107, 108, 109, 110] [0, 1, 2, 3, 4, 5, 6, 7, 8, 9, 10, 11, 12, 13, 14, 15, 16, 17, 18, 19, 20, 21, 22, 23, 24, 25, 26, 27, 28, 29, 30, 31, 32, 33, 34, 35, 36, 37, 38, 39, 40, 41, 42, 43, 44, 45, 46, 47, 48, 49, 50, 51, 52, 53, 54, 55, 56, 57, 58, 59, 60, 61, 62, 63, 64, 65, 66, 67, 68, 69, 70, 71, 72, 73, 74, 75, 76, 77, 78, 79, 80, 81, 82, 83, 84, 85, 86, 87, 88, 89, 90, 91, 92, 93, 94, 95, 96, 97] := ⟨rfl, rfl, rfl, rfl, rfl⟩
  refine g_VI hX hc330 [.int (nI n)] [.int (nI ((cY C) + n))] (c_X6_pass_y l E a M C (30 * t) n (by first | assumption | omega) (by first | assumption | omega) (by first | assumption | omega) (by first | assumption | omega) (by first | assumption | omega) (by first | assumption | omega) (by first | assumption | omega) (by first | assumption | omega)) gL_law_X6_pass calX6_pass rfl rfl rfl rfl 98 rfl rfl rfl rfl dL_law_330 rfl ⟨hkk, hnn⟩ (fun u330 => (lfo E ae ab ar an af ah ak ax ag z ++ (tw E ab 200 tx ++ (rw_ E ar R ++ (fw E an (dayC C n) ++ (fw E af D ++ (pw8 E ah (padd8 V C) ++ (pw2 E ak U ++ (sw E ax S ++ (gw E ag G ++ (mw E a u330))))))))))) [0, 1, 2, 3, 4, 5, 6, 7, 8, 9, 10, 11, 12, 13, 14, 15, 16, 17, 18, 19, 20, 21, 22, 23, 24, 25, 26, 27, 28, 29, 30, 31, 32, 33, 34, 35, 36, 37, 38, 39, 40, 41, 42, 43, 44, 45, 46, 47, 48, 49, 50, 51, 52, 53, 54, 55, 56, 57, 58, 59, 60, 61, 62, 63, 64, 65, 66, 67, 68, 69, 70, 71, 72, 73, 74, 75, 76, 77, 78, 79, 80, 81, 82, 83, 84, 85, 86, 87, 88, 89, 90, 91, 92, 93, 94, 95, 96, 97, 98, 99, 100, 101, 102, 103, 104, 105, 106, 107, 108, 109, 110] rfl (fun _ => rfl) (fun u330 hu330 => ?_)
  refine g_icmp_eq hX 857 dL_law_333 (by decide) (fun _ => ?_) (fun c => (c (rfl)).elim)
  exact nx z tx R (dayC C n) D (padd8 V C) U S G u330 (INV_act hI (DI_up (DI_day hD n) (by omega)) (by rw [day_N]; exact hN1) (by exact day_T C n) hu330.1 hu330.2.1 hu330.2.2.1 hu330.2.2.2)
end LAWS
