section LAWS
variable {x : GX} {l : Launch} {E : EV} {b L : Nat} {xs : Nat → Int32} {kk nn t i : Nat} {ae ab ar an af ah ak ax ag a : Nat → Nat}
variable {z : Nat} {tx : Nat → Nat} {R : RC} {C : FC} {D : FC} {V : PV} {U : PV} {S : SC} {G : GC} {M : MV}
set_option maxHeartbeats 4000000 in
set_option maxRecDepth 100000 in
theorem lc_write_n  (hc : LCX x l E b L xs kk nn t i) (hI : INV t z tx R C V U S M) (nx : NX x E ae ab ar an af ah ak ax ag a b kk nn t i) (hx : win (xs (i + 1)) (nI 32) (nI 126) = false) : GG x kk nn (LWM E ae ab ar an af ah ak ax ag a z tx R C D V U S G M) 164 [(0, .ref b), (1, .ref (ae 0)), (2, .ref (a 0)), (3, .int (nI i))] [] := by
  obtain ⟨hX, hSX, hkk, hnn, hit, hi5, hL3⟩ := hc
  obtain ⟨⟨hz, htx, hmX, hmL, hRq⟩, ⟨hN1, hD, hSr, hTm⟩, hE, ⟨hv1, hv2, hv3⟩, ⟨hu1, hu2, hu3⟩⟩ := id hI
  have hm : 30 * t < 2 ^ 29 := by omega
  have hC := hD.1.1
  obtain ⟨h9, h64, h512, hTq, hIq⟩ := id hC
  have hSK := hD.1.2
  have hV := DI_VB hD (by omega)
  have htx2 : ∀ j, tx j < 2 ^ 16 := fun j => by have := htx j; omega
  have hmX2 : ∀ j, mX M j < 128 := by rw [hmX]; exact htx
  have h6 : hN S ≤ 6 := hE.2.1
  have hs9 : ∀ j, j < hN S → hS S j < 9 := fun j hj => (hE.2.2 j hj).2.2
  show GG x kk nn ((lfo E ae ab ar an af ah ak ax ag z ++ (tw E ab 200 tx ++ (rw_ E ar R ++ (fw E an C ++ (fw E af D ++ (pw8 E ah V ++ (pw2 E ak U ++ (sw E ax S ++ (gw E ag G ++ (mw E a M))))))))))) 164 [(0, .ref b), (1, .ref (ae 0)), (2, .ref (a 0)), (3, .int (nI i))] []
  refine g_aload_n hX dL_law_164 1 rfl ?_
  refine g_aload_n hX dL_law_165 0 rfl ?_
  refine g_iload_n hX dL_law_166 3 rfl ?_
  refine g_iconst hX (nI 1) dL_law_167 rfl ?_
  refine g_iadd hX (nI (i + 1)) dL_law_168 (nI_add _ _) ?_
  refine g_sld hX hSX (i := i + 1) ((xs (i + 1))) (by omega) (by omega) rfl dL_law_169 ?_
  have hc170 : CUT ((lfo E ae ab ar an af ah ak ax ag z ++ (tw E ab 200 tx ++ (rw_ E ar R ++ (fw E an C ++ (fw E af D ++ (pw8 E ah V ++ (pw2 E ak U ++ (sw E ax S ++ (gw E ag G ++ (mw E a M))))))))))) (lfo E ae ab ar an af ah ak ax ag z) ((tw E ab 200 tx ++ (rw_ E ar R ++ (fw E an C ++ (fw E af D ++ (pw8 E ah V ++ (pw2 E ak U ++ (sw E ax S ++ (gw E ag G ++ (mw E a M)))))))))) [0] [1, 2, 3, 4, 5, 6, 7, 8, 9, 10, 11, 12, 13, 14, 15, 16, 17, 18, 19, 20, 21, 22, 23, 24, 25, 26, 27, 28, 29, 30, 31, 32, 33, 34, 35, 36, 37, 38, 39, 40, 41, 42, 43, 44, 45, 46, 47, 48, 49, 50, 51, 52, 53, 54, 55, 56, 57, 58, 59, 60, 61, 62, 63, 64, 65, 66, 67, 68, 69, 70, 71, 72, 73, 74, 75, 76, 77, 78, 79, 80, 81, 82, 83, 84, 85, 86, 87, 88, 89, 90, 91, 92, 93, 94, 95, 96, 97, 98, 99, 100, 101, 102, 103, 104, 105, 106, 107, 108, 109, 110] := ⟨rfl, rfl, rfl, rfl, rfl⟩
  refine g_VI hX hc170 [.int (xs (i + 1))] [] (c_X5_write_n l E ae ab ar an af ah ak ax ag z (xs (i + 1)) (by first | assumption | omega)) gL_law_X5_write calX5_write rfl rfl rfl rfl 0 rfl rfl rfl rfl dL_law_170 rfl ⟨hkk, hnn⟩ (fun _ => (lfo E ae ab ar an af ah ak ax ag z ++ (tw E ab 200 tx ++ (rw_ E ar R ++ (fw E an C ++ (fw E af D ++ (pw8 E ah V ++ (pw2 E ak U ++ (sw E ax S ++ (gw E ag G ++ (mw E a M))))))))))) [110, 0, 1, 2, 3, 4, 5, 6, 7, 8, 9, 10, 11, 12, 13, 14, 15, 16, 17, 18, 19, 20, 21, 22, 23, 24, 25, 26, 27, 28, 29, 30, 31, 32, 33, 34, 35, 36, 37, 38, 39, 40, 41, 42, 43, 44, 45, 46, 47, 48, 49, 50, 51, 52, 53, 54, 55, 56, 57, 58, 59, 60, 61, 62, 63, 64, 65, 66, 67, 68, 69, 70, 71, 72, 73, 74, 75, 76, 77, 78, 79, 80, 81, 82, 83, 84, 85, 86, 87, 88, 89, 90, 91, 92, 93, 94, 95, 96, 97, 98, 99, 100, 101, 102, 103, 104, 105, 106, 107, 108, 109] rfl (fun _ => rfl) (fun _ hu170 => ?_)
  refine g_aload_n hX dL_law_173 2 rfl ?_
  refine g_aload_n hX dL_law_174 0 rfl ?_
  refine g_iload_n hX dL_law_175 3 rfl ?_
  refine g_iconst hX (nI 1) dL_law_176 rfl ?_
  refine g_iadd hX (nI (i + 1)) dL_law_177 (nI_add _ _) ?_
  refine g_sld hX hSX (i := i + 1) ((xs (i + 1))) (by omega) (by omega) rfl dL_law_178 ?_
  have hc179 : CUT ((lfo E ae ab ar an af ah ak ax ag z ++ (tw E ab 200 tx ++ (rw_ E ar R ++ (fw E an C ++ (fw E af D ++ (pw8 E ah V ++ (pw2 E ak U ++ (sw E ax S ++ (gw E ag G ++ (mw E a M))))))))))) (mw E a M) ((lfo E ae ab ar an af ah ak ax ag z ++ (tw E ab 200 tx ++ (rw_ E ar R ++ (fw E an C ++ (fw E af D ++ (pw8 E ah V ++ (pw2 E ak U ++ (sw E ax S ++ (gw E ag G)))))))))) [98, 99, 100, 101, 102, 103, 104, 105, 106, 107, 108, 109, 110] [0, 1, 2, 3, 4, 5, 6, 7, 8, 9, 10, 11, 12, 13, 14, 15, 16, 17, 18, 19, 20, 21, 22, 23, 24, 25, 26, 27, 28, 29, 30, 31, 32, 33, 34, 35, 36, 37, 38, 39, 40, 41, 42, 43, 44, 45, 46, 47, 48, 49, 50, 51, 52, 53, 54, 55, 56, 57, 58, 59, 60, 61, 62, 63, 64, 65, 66, 67, 68, 69, 70, 71, 72, 73, 74, 75, 76, 77, 78, 79, 80, 81, 82, 83, 84, 85, 86, 87, 88, 89, 90, 91, 92, 93, 94, 95, 96, 97] := ⟨rfl, rfl, rfl, rfl, rfl⟩
  refine g_VI hX hc179 [.int (xs (i + 1))] [.int (-1)] (c_X6_write_n l E a M (xs (i + 1)) (by first | assumption | omega)) gL_law_X6_write calX6_write rfl rfl rfl rfl 98 rfl rfl rfl rfl dL_law_179 rfl ⟨hkk, hnn⟩ (fun _ => (lfo E ae ab ar an af ah ak ax ag z ++ (tw E ab 200 tx ++ (rw_ E ar R ++ (fw E an C ++ (fw E af D ++ (pw8 E ah V ++ (pw2 E ak U ++ (sw E ax S ++ (gw E ag G ++ (mw E a M))))))))))) [0, 1, 2, 3, 4, 5, 6, 7, 8, 9, 10, 11, 12, 13, 14, 15, 16, 17, 18, 19, 20, 21, 22, 23, 24, 25, 26, 27, 28, 29, 30, 31, 32, 33, 34, 35, 36, 37, 38, 39, 40, 41, 42, 43, 44, 45, 46, 47, 48, 49, 50, 51, 52, 53, 54, 55, 56, 57, 58, 59, 60, 61, 62, 63, 64, 65, 66, 67, 68, 69, 70, 71, 72, 73, 74, 75, 76, 77, 78, 79, 80, 81, 82, 83, 84, 85, 86, 87, 88, 89, 90, 91, 92, 93, 94, 95, 96, 97, 98, 99, 100, 101, 102, 103, 104, 105, 106, 107, 108, 109, 110] rfl (fun _ => rfl) (fun _ hu179 => ?_)
  refine g_icmp_eq hX 857 dL_law_182 (by decide) (fun _ => ?_) (fun c => (c (rfl)).elim)
  exact nx z tx R C D V U S G M (INV_up hI)
set_option maxHeartbeats 4000000 in
set_option maxRecDepth 100000 in
theorem lc_write_f (n : Nat) (hc : LCX x l E b L xs kk nn t i) (hI : INV t z tx R C V U S M) (nx : NX x E ae ab ar an af ah ak ax ag a b kk nn t i) (e1 : xs (i + 1) = nI n) (hn1 : 32 ≤ n) (hn2 : n ≤ 126) (hzf : z = 200) : GG x kk nn (LWM E ae ab ar an af ah ak ax ag a z tx R C D V U S G M) 164 [(0, .ref b), (1, .ref (ae 0)), (2, .ref (a 0)), (3, .int (nI i))] [] := by
  obtain ⟨hX, hSX, hkk, hnn, hit, hi5, hL3⟩ := hc
  obtain ⟨⟨hz, htx, hmX, hmL, hRq⟩, ⟨hN1, hD, hSr, hTm⟩, hE, ⟨hv1, hv2, hv3⟩, ⟨hu1, hu2, hu3⟩⟩ := id hI
  have hm : 30 * t < 2 ^ 29 := by omega
  have hC := hD.1.1
  obtain ⟨h9, h64, h512, hTq, hIq⟩ := id hC
  have hSK := hD.1.2
  have hV := DI_VB hD (by omega)
  have htx2 : ∀ j, tx j < 2 ^ 16 := fun j => by have := htx j; omega
  have hmX2 : ∀ j, mX M j < 128 := by rw [hmX]; exact htx
  have h6 : hN S ≤ 6 := hE.2.1
  have hs9 : ∀ j, j < hN S → hS S j < 9 := fun j hj => (hE.2.2 j hj).2.2
  show GG x kk nn ((lfo E ae ab ar an af ah ak ax ag z ++ (tw E ab 200 tx ++ (rw_ E ar R ++ (fw E an C ++ (fw E af D ++ (pw8 E ah V ++ (pw2 E ak U ++ (sw E ax S ++ (gw E ag G ++ (mw E a M))))))))))) 164 [(0, .ref b), (1, .ref (ae 0)), (2, .ref (a 0)), (3, .int (nI i))] []
  refine g_aload_n hX dL_law_164 1 rfl ?_
  refine g_aload_n hX dL_law_165 0 rfl ?_
  refine g_iload_n hX dL_law_166 3 rfl ?_
  refine g_iconst hX (nI 1) dL_law_167 rfl ?_
  refine g_iadd hX (nI (i + 1)) dL_law_168 (nI_add _ _) ?_
  refine g_sld hX hSX (i := i + 1) (nI n) (by omega) (by omega) e1 dL_law_169 ?_
  have hc170 : CUT ((lfo E ae ab ar an af ah ak ax ag z ++ (tw E ab 200 tx ++ (rw_ E ar R ++ (fw E an C ++ (fw E af D ++ (pw8 E ah V ++ (pw2 E ak U ++ (sw E ax S ++ (gw E ag G ++ (mw E a M))))))))))) (lfo E ae ab ar an af ah ak ax ag z) ((tw E ab 200 tx ++ (rw_ E ar R ++ (fw E an C ++ (fw E af D ++ (pw8 E ah V ++ (pw2 E ak U ++ (sw E ax S ++ (gw E ag G ++ (mw E a M)))))))))) [0] [1, 2, 3, 4, 5, 6, 7, 8, 9, 10, 11, 12, 13, 14, 15, 16, 17, 18, 19, 20, 21, 22, 23, 24, 25, 26, 27, 28, 29, 30, 31, 32, 33, 34, 35, 36, 37, 38, 39, 40, 41, 42, 43, 44, 45, 46, 47, 48, 49, 50, 51, 52, 53, 54, 55, 56, 57, 58, 59, 60, 61, 62, 63, 64, 65, 66, 67, 68, 69, 70, 71, 72, 73, 74, 75, 76, 77, 78, 79, 80, 81, 82, 83, 84, 85, 86, 87, 88, 89, 90, 91, 92, 93, 94, 95, 96, 97, 98, 99, 100, 101, 102, 103, 104, 105, 106, 107, 108, 109, 110] := ⟨rfl, rfl, rfl, rfl, rfl⟩
  refine g_VI hX hc170 [.int (nI n)] [] (c_X5_write_f l E ae ab ar an af ah ak ax ag z n (by first | assumption | omega) (by first | assumption | omega) (by first | assumption | omega)) gL_law_X5_write calX5_write rfl rfl rfl rfl 0 rfl rfl rfl rfl dL_law_170 rfl ⟨hkk, hnn⟩ (fun _ => (lfo E ae ab ar an af ah ak ax ag z ++ (tw E ab 200 tx ++ (rw_ E ar R ++ (fw E an C ++ (fw E af D ++ (pw8 E ah V ++ (pw2 E ak U ++ (sw E ax S ++ (gw E ag G ++ (mw E a M))))))))))) [110, 0, 1, 2, 3, 4, 5, 6, 7, 8, 9, 10, 11, 12, 13, 14, 15, 16, 17, 18, 19, 20, 21, 22, 23, 24, 25, 26, 27, 28, 29, 30, 31, 32, 33, 34, 35, 36, 37, 38, 39, 40, 41, 42, 43, 44, 45, 46, 47, 48, 49, 50, 51, 52, 53, 54, 55, 56, 57, 58, 59, 60, 61, 62, 63, 64, 65, 66, 67, 68, 69, 70, 71, 72, 73, 74, 75, 76, 77, 78, 79, 80, 81, 82, 83, 84, 85, 86, 87, 88, 89, 90, 91, 92, 93, 94, 95, 96, 97, 98, 99, 100, 101, 102, 103, 104, 105, 106, 107, 108, 109] rfl (fun _ => rfl) (fun _ hu170 => ?_)
  refine g_aload_n hX dL_law_173 2 rfl ?_
  refine g_aload_n hX dL_law_174 0 rfl ?_
  refine g_iload_n hX dL_law_175 3 rfl ?_
  refine g_iconst hX (nI 1) dL_law_176 rfl ?_
  refine g_iadd hX (nI (i + 1)) dL_law_177 (nI_add _ _) ?_
  refine g_sld hX hSX (i := i + 1) (nI n) (by omega) (by omega) e1 dL_law_178 ?_
  have hc179 : CUT ((lfo E ae ab ar an af ah ak ax ag z ++ (tw E ab 200 tx ++ (rw_ E ar R ++ (fw E an C ++ (fw E af D ++ (pw8 E ah V ++ (pw2 E ak U ++ (sw E ax S ++ (gw E ag G ++ (mw E a M))))))))))) (mw E a M) ((lfo E ae ab ar an af ah ak ax ag z ++ (tw E ab 200 tx ++ (rw_ E ar R ++ (fw E an C ++ (fw E af D ++ (pw8 E ah V ++ (pw2 E ak U ++ (sw E ax S ++ (gw E ag G)))))))))) [98, 99, 100, 101, 102, 103, 104, 105, 106, 107, 108, 109, 110] [0, 1, 2, 3, 4, 5, 6, 7, 8, 9, 10, 11, 12, 13, 14, 15, 16, 17, 18, 19, 20, 21, 22, 23, 24, 25, 26, 27, 28, 29, 30, 31, 32, 33, 34, 35, 36, 37, 38, 39, 40, 41, 42, 43, 44, 45, 46, 47, 48, 49, 50, 51, 52, 53, 54, 55, 56, 57, 58, 59, 60, 61, 62, 63, 64, 65, 66, 67, 68, 69, 70, 71, 72, 73, 74, 75, 76, 77, 78, 79, 80, 81, 82, 83, 84, 85, 86, 87, 88, 89, 90, 91, 92, 93, 94, 95, 96, 97] := ⟨rfl, rfl, rfl, rfl, rfl⟩
  refine g_VI hX hc179 [.int (nI n)] [.int (-3)] (c_X6_write_f l E a M n (by first | assumption | omega) (by first | assumption | omega) (by first | assumption | omega)) gL_law_X6_write calX6_write rfl rfl rfl rfl 98 rfl rfl rfl rfl dL_law_179 rfl ⟨hkk, hnn⟩ (fun _ => (lfo E ae ab ar an af ah ak ax ag z ++ (tw E ab 200 tx ++ (rw_ E ar R ++ (fw E an C ++ (fw E af D ++ (pw8 E ah V ++ (pw2 E ak U ++ (sw E ax S ++ (gw E ag G ++ (mw E a M))))))))))) [0, 1, 2, 3, 4, 5, 6, 7, 8, 9, 10, 11, 12, 13, 14, 15, 16, 17, 18, 19, 20, 21, 22, 23, 24, 25, 26, 27, 28, 29, 30, 31, 32, 33, 34, 35, 36, 37, 38, 39, 40, 41, 42, 43, 44, 45, 46, 47, 48, 49, 50, 51, 52, 53, 54, 55, 56, 57, 58, 59, 60, 61, 62, 63, 64, 65, 66, 67, 68, 69, 70, 71, 72, 73, 74, 75, 76, 77, 78, 79, 80, 81, 82, 83, 84, 85, 86, 87, 88, 89, 90, 91, 92, 93, 94, 95, 96, 97, 98, 99, 100, 101, 102, 103, 104, 105, 106, 107, 108, 109, 110] rfl (fun _ => rfl) (fun _ hu179 => ?_)
  refine g_icmp_eq hX 857 dL_law_182 (by decide) (fun _ => ?_) (fun c => (c (rfl)).elim)
  exact nx z tx R C D V U S G M (INV_up hI)
set_option maxHeartbeats 4000000 in
set_option maxRecDepth 100000 in
theorem lc_write_y (n : Nat) (hc : LCX x l E b L xs kk nn t i) (hI : INV t z tx R C V U S M) (nx : NX x E ae ab ar an af ah ak ax ag a b kk nn t i) (e1 : xs (i + 1) = nI n) (hn1 : 32 ≤ n) (hn2 : n ≤ 126) (hzf : z < 200) : GG x kk nn (LWM E ae ab ar an af ah ak ax ag a z tx R C D V U S G M) 164 [(0, .ref b), (1, .ref (ae 0)), (2, .ref (a 0)), (3, .int (nI i))] [] := by
  obtain ⟨hX, hSX, hkk, hnn, hit, hi5, hL3⟩ := hc
  obtain ⟨⟨hz, htx, hmX, hmL, hRq⟩, ⟨hN1, hD, hSr, hTm⟩, hE, ⟨hv1, hv2, hv3⟩, ⟨hu1, hu2, hu3⟩⟩ := id hI
  have hm : 30 * t < 2 ^ 29 := by omega
  have hC := hD.1.1
  obtain ⟨h9, h64, h512, hTq, hIq⟩ := id hC
  have hSK := hD.1.2
  have hV := DI_VB hD (by omega)
  have htx2 : ∀ j, tx j < 2 ^ 16 := fun j => by have := htx j; omega
  have hmX2 : ∀ j, mX M j < 128 := by rw [hmX]; exact htx
  have h6 : hN S ≤ 6 := hE.2.1
  have hs9 : ∀ j, j < hN S → hS S j < 9 := fun j hj => (hE.2.2 j hj).2.2
  show GG x kk nn ((lfo E ae ab ar an af ah ak ax ag z ++ (tw E ab 200 tx ++ (rw_ E ar R ++ (fw E an C ++ (fw E af D ++ (pw8 E ah V ++ (pw2 E ak U ++ (sw E ax S ++ (gw E ag G ++ (mw E a M))))))))))) 164 [(0, .ref b), (1, .ref (ae 0)), (2, .ref (a 0)), (3, .int (nI i))] []
  refine g_aload_n hX dL_law_164 1 rfl ?_
  refine g_aload_n hX dL_law_165 0 rfl ?_
  refine g_iload_n hX dL_law_166 3 rfl ?_
  refine g_iconst hX (nI 1) dL_law_167 rfl ?_
  refine g_iadd hX (nI (i + 1)) dL_law_168 (nI_add _ _) ?_
  refine g_sld hX hSX (i := i + 1) (nI n) (by omega) (by omega) e1 dL_law_169 ?_
  have hc170 : CUT ((lfo E ae ab ar an af ah ak ax ag z ++ (tw E ab 200 tx ++ (rw_ E ar R ++ (fw E an C ++ (fw E af D ++ (pw8 E ah V ++ (pw2 E ak U ++ (sw E ax S ++ (gw E ag G ++ (mw E a M))))))))))) ((lfo E ae ab ar an af ah ak ax ag z) ++ (tw E ab 200 tx)) ((rw_ E ar R ++ (fw E an C ++ (fw E af D ++ (pw8 E ah V ++ (pw2 E ak U ++ (sw E ax S ++ (gw E ag G ++ (mw E a M))))))))) [0, 1] [2, 3, 4, 5, 6, 7, 8, 9, 10, 11, 12, 13, 14, 15, 16, 17, 18, 19, 20, 21, 22, 23, 24, 25, 26, 27, 28, 29, 30, 31, 32, 33, 34, 35, 36, 37, 38, 39, 40, 41, 42, 43, 44, 45, 46, 47, 48, 49, 50, 51, 52, 53, 54, 55, 56, 57, 58, 59, 60, 61, 62, 63, 64, 65, 66, 67, 68, 69, 70, 71, 72, 73, 74, 75, 76, 77, 78, 79, 80, 81, 82, 83, 84, 85, 86, 87, 88, 89, 90, 91, 92, 93, 94, 95, 96, 97, 98, 99, 100, 101, 102, 103, 104, 105, 106, 107, 108, 109, 110] := ⟨rfl, rfl, rfl, rfl, rfl⟩
  refine g_VI hX hc170 [.int (nI n)] [] (c_X5_write_y l E ae ab ar an af ah ak ax ag z tx n (by first | assumption | omega) (by first | assumption | omega) (by first | assumption | omega)) gL_law_X5_write calX5_write rfl rfl rfl rfl 0 rfl rfl rfl rfl dL_law_170 rfl ⟨hkk, hnn⟩ (fun _ => (lfo E ae ab ar an af ah ak ax ag (z + 1) ++ (tw E ab 200 (va_up tx z n) ++ (rw_ E ar R ++ (fw E an C ++ (fw E af D ++ (pw8 E ah V ++ (pw2 E ak U ++ (sw E ax S ++ (gw E ag G ++ (mw E a M))))))))))) [109, 110, 0, 1, 2, 3, 4, 5, 6, 7, 8, 9, 10, 11, 12, 13, 14, 15, 16, 17, 18, 19, 20, 21, 22, 23, 24, 25, 26, 27, 28, 29, 30, 31, 32, 33, 34, 35, 36, 37, 38, 39, 40, 41, 42, 43, 44, 45, 46, 47, 48, 49, 50, 51, 52, 53, 54, 55, 56, 57, 58, 59, 60, 61, 62, 63, 64, 65, 66, 67, 68, 69, 70, 71, 72, 73, 74, 75, 76, 77, 78, 79, 80, 81, 82, 83, 84, 85, 86, 87, 88, 89, 90, 91, 92, 93, 94, 95, 96, 97, 98, 99, 100, 101, 102, 103, 104, 105, 106, 107, 108] rfl (fun _ => rfl) (fun _ hu170 => ?_)
  refine g_aload_n hX dL_law_173 2 rfl ?_
  refine g_aload_n hX dL_law_174 0 rfl ?_
  refine g_iload_n hX dL_law_175 3 rfl ?_
  refine g_iconst hX (nI 1) dL_law_176 rfl ?_
  refine g_iadd hX (nI (i + 1)) dL_law_177 (nI_add _ _) ?_
  refine g_sld hX hSX (i := i + 1) (nI n) (by omega) (by omega) e1 dL_law_178 ?_
  have hc179 : CUT ((lfo E ae ab ar an af ah ak ax ag (z + 1) ++ (tw E ab 200 (va_up tx z n) ++ (rw_ E ar R ++ (fw E an C ++ (fw E af D ++ (pw8 E ah V ++ (pw2 E ak U ++ (sw E ax S ++ (gw E ag G ++ (mw E a M))))))))))) (mw E a M) ((lfo E ae ab ar an af ah ak ax ag (z + 1) ++ (tw E ab 200 (va_up tx z n) ++ (rw_ E ar R ++ (fw E an C ++ (fw E af D ++ (pw8 E ah V ++ (pw2 E ak U ++ (sw E ax S ++ (gw E ag G)))))))))) [98, 99, 100, 101, 102, 103, 104, 105, 106, 107, 108, 109, 110] [0, 1, 2, 3, 4, 5, 6, 7, 8, 9, 10, 11, 12, 13, 14, 15, 16, 17, 18, 19, 20, 21, 22, 23, 24, 25, 26, 27, 28, 29, 30, 31, 32, 33, 34, 35, 36, 37, 38, 39, 40, 41, 42, 43, 44, 45, 46, 47, 48, 49, 50, 51, 52, 53, 54, 55, 56, 57, 58, 59, 60, 61, 62, 63, 64, 65, 66, 67, 68, 69, 70, 71, 72, 73, 74, 75, 76, 77, 78, 79, 80, 81, 82, 83, 84, 85, 86, 87, 88, 89, 90, 91, 92, 93, 94, 95, 96, 97] := ⟨rfl, rfl, rfl, rfl, rfl⟩
  refine g_VI hX hc179 [.int (nI n)] [.int (nI (z + 1))] (c_X6_write_y l E a M n (by first | assumption | omega) (by first | assumption | omega) (by first | assumption | omega)) gL_law_X6_write calX6_write rfl rfl rfl rfl 98 rfl rfl rfl rfl dL_law_179 rfl ⟨hkk, hnn⟩ (fun _ => (lfo E ae ab ar an af ah ak ax ag (z + 1) ++ (tw E ab 200 (va_up tx z n) ++ (rw_ E ar R ++ (fw E an C ++ (fw E af D ++ (pw8 E ah V ++ (pw2 E ak U ++ (sw E ax S ++ (gw E ag G ++ (mw E a (mkMV (mT M) (mS M) (mA M) (mW M) (mK M) (mP M) (mE M) (mN M) (va_up ((mX M)) ((mL M)) n) ((mL M) + 1) (mI M) (mD M) (mR M) (mM M) (mO M) (mF M) (mU M) (mQ M) (mZ M) (mG M) (mH M))))))))))))) [0, 1, 2, 3, 4, 5, 6, 7, 8, 9, 10, 11, 12, 13, 14, 15, 16, 17, 18, 19, 20, 21, 22, 23, 24, 25, 26, 27, 28, 29, 30, 31, 32, 33, 34, 35, 36, 37, 38, 39, 40, 41, 42, 43, 44, 45, 46, 47, 48, 49, 50, 51, 52, 53, 54, 55, 56, 57, 58, 59, 60, 61, 62, 63, 64, 65, 66, 67, 68, 69, 70, 71, 72, 73, 74, 75, 76, 77, 78, 79, 80, 81, 82, 83, 84, 85, 86, 87, 88, 89, 90, 91, 92, 93, 94, 95, 96, 97, 98, 99, 100, 101, 102, 103, 104, 105, 106, 107, 108, 109, 110] rfl (fun _ => rfl) (fun _ hu179 => ?_)
  refine g_icmp_eq hX 857 dL_law_182 (by decide) (fun _ => ?_) (fun c => (c (by rw [hmL])).elim)
  exact nx (z + 1) (va_up tx z n) R C D V U S G (mkMV (mT M) (mS M) (mA M) (mW M) (mK M) (mP M) (mE M) (mN M) (va_up ((mX M)) ((mL M)) n) ((mL M) + 1) (mI M) (mD M) (mR M) (mM M) (mO M) (mF M) (mU M) (mQ M) (mZ M) (mG M) (mH M)) (INV_tx hI (by show va_up (mX M) (mL M) n = _; rw [hmX, hmL]) (by show mL M + 1 = _; rw [hmL]) (by omega) (fun j => by by_cases q : j = z; (subst q; rw [va_up_self]; omega); (rw [va_up_ne _ _ q]; exact htx j)) rfl rfl rfl rfl rfl rfl rfl rfl)
set_option maxHeartbeats 4000000 in
set_option maxRecDepth 100000 in
theorem lc_wipe  (hc : LCX x l E b L xs kk nn t i) (hI : INV t z tx R C V U S M) (nx : NX x E ae ab ar an af ah ak ax ag a b kk nn t i)  : GG x kk nn (LWM E ae ab ar an af ah ak ax ag a z tx R C D V U S G M) 187 [(0, .ref b), (1, .ref (ae 0)), (2, .ref (a 0)), (3, .int (nI i))] [] := by
  obtain ⟨hX, hSX, hkk, hnn, hit, hi5, hL3⟩ := hc
  obtain ⟨⟨hz, htx, hmX, hmL, hRq⟩, ⟨hN1, hD, hSr, hTm⟩, hE, ⟨hv1, hv2, hv3⟩, ⟨hu1, hu2, hu3⟩⟩ := id hI
  have hm : 30 * t < 2 ^ 29 := by omega
  have hC := hD.1.1
  obtain ⟨h9, h64, h512, hTq, hIq⟩ := id hC
  have hSK := hD.1.2
  have hV := DI_VB hD (by omega)
  have htx2 : ∀ j, tx j < 2 ^ 16 := fun j => by have := htx j; omega
  have hmX2 : ∀ j, mX M j < 128 := by rw [hmX]; exact htx
  have h6 : hN S ≤ 6 := hE.2.1
  have hs9 : ∀ j, j < hN S → hS S j < 9 := fun j hj => (hE.2.2 j hj).2.2
  show GG x kk nn ((lfo E ae ab ar an af ah ak ax ag z ++ (tw E ab 200 tx ++ (rw_ E ar R ++ (fw E an C ++ (fw E af D ++ (pw8 E ah V ++ (pw2 E ak U ++ (sw E ax S ++ (gw E ag G ++ (mw E a M))))))))))) 187 [(0, .ref b), (1, .ref (ae 0)), (2, .ref (a 0)), (3, .int (nI i))] []
  refine g_aload_n hX dL_law_187 1 rfl ?_
  have hc188 : CUT ((lfo E ae ab ar an af ah ak ax ag z ++ (tw E ab 200 tx ++ (rw_ E ar R ++ (fw E an C ++ (fw E af D ++ (pw8 E ah V ++ (pw2 E ak U ++ (sw E ax S ++ (gw E ag G ++ (mw E a M))))))))))) (lfo E ae ab ar an af ah ak ax ag z) ((tw E ab 200 tx ++ (rw_ E ar R ++ (fw E an C ++ (fw E af D ++ (pw8 E ah V ++ (pw2 E ak U ++ (sw E ax S ++ (gw E ag G ++ (mw E a M)))))))))) [0] [1, 2, 3, 4, 5, 6, 7, 8, 9, 10, 11, 12, 13, 14, 15, 16, 17, 18, 19, 20, 21, 22, 23, 24, 25, 26, 27, 28, 29, 30, 31, 32, 33, 34, 35, 36, 37, 38, 39, 40, 41, 42, 43, 44, 45, 46, 47, 48, 49, 50, 51, 52, 53, 54, 55, 56, 57, 58, 59, 60, 61, 62, 63, 64, 65, 66, 67, 68, 69, 70, 71, 72, 73, 74, 75, 76, 77, 78, 79, 80, 81, 82, 83, 84, 85, 86, 87, 88, 89, 90, 91, 92, 93, 94, 95, 96, 97, 98, 99, 100, 101, 102, 103, 104, 105, 106, 107, 108, 109, 110] := ⟨rfl, rfl, rfl, rfl, rfl⟩
  refine g_VI hX hc188 [] [] (c_X5_wipe l E ae ab ar an af ah ak ax ag z) gL_law_X5_wipe calX5_wipe rfl rfl rfl rfl 0 rfl rfl rfl rfl dL_law_188 rfl ⟨hkk, hnn⟩ (fun _ => (lfo E ae ab ar an af ah ak ax ag 0 ++ (tw E ab 200 tx ++ (rw_ E ar R ++ (fw E an C ++ (fw E af D ++ (pw8 E ah V ++ (pw2 E ak U ++ (sw E ax S ++ (gw E ag G ++ (mw E a M))))))))))) [110, 0, 1, 2, 3, 4, 5, 6, 7, 8, 9, 10, 11, 12, 13, 14, 15, 16, 17, 18, 19, 20, 21, 22, 23, 24, 25, 26, 27, 28, 29, 30, 31, 32, 33, 34, 35, 36, 37, 38, 39, 40, 41, 42, 43, 44, 45, 46, 47, 48, 49, 50, 51, 52, 53, 54, 55, 56, 57, 58, 59, 60, 61, 62, 63, 64, 65, 66, 67, 68, 69, 70, 71, 72, 73, 74, 75, 76, 77, 78, 79, 80, 81, 82, 83, 84, 85, 86, 87, 88, 89, 90, 91, 92, 93, 94, 95, 96, 97, 98, 99, 100, 101, 102, 103, 104, 105, 106, 107, 108, 109] rfl (fun _ => rfl) (fun _ hu188 => ?_)
  refine g_aload_n hX dL_law_191 2 rfl ?_
  have hc192 : CUT ((lfo E ae ab ar an af ah ak ax ag 0 ++ (tw E ab 200 tx ++ (rw_ E ar R ++ (fw E an C ++ (fw E af D ++ (pw8 E ah V ++ (pw2 E ak U ++ (sw E ax S ++ (gw E ag G ++ (mw E a M))))))))))) (mw E a M) ((lfo E ae ab ar an af ah ak ax ag 0 ++ (tw E ab 200 tx ++ (rw_ E ar R ++ (fw E an C ++ (fw E af D ++ (pw8 E ah V ++ (pw2 E ak U ++ (sw E ax S ++ (gw E ag G)))))))))) [98, 99, 100, 101, 102, 103, 104, 105, 106, 107, 108, 109, 110] [0, 1, 2, 3, 4, 5, 6, 7, 8, 9, 10, 11, 12, 13, 14, 15, 16, 17, 18, 19, 20, 21, 22, 23, 24, 25, 26, 27, 28, 29, 30, 31, 32, 33, 34, 35, 36, 37, 38, 39, 40, 41, 42, 43, 44, 45, 46, 47, 48, 49, 50, 51, 52, 53, 54, 55, 56, 57, 58, 59, 60, 61, 62, 63, 64, 65, 66, 67, 68, 69, 70, 71, 72, 73, 74, 75, 76, 77, 78, 79, 80, 81, 82, 83, 84, 85, 86, 87, 88, 89, 90, 91, 92, 93, 94, 95, 96, 97] := ⟨rfl, rfl, rfl, rfl, rfl⟩
  refine g_VI hX hc192 [] [.int (nI z)] (c_X6_wipe l E a M) gL_law_X6_wipe calX6_wipe rfl rfl rfl rfl 98 rfl rfl rfl rfl dL_law_192 rfl ⟨hkk, hnn⟩ (fun _ => (lfo E ae ab ar an af ah ak ax ag 0 ++ (tw E ab 200 tx ++ (rw_ E ar R ++ (fw E an C ++ (fw E af D ++ (pw8 E ah V ++ (pw2 E ak U ++ (sw E ax S ++ (gw E ag G ++ (mw E a (mkMV (mT M) (mS M) (mA M) (mW M) (mK M) (mP M) (mE M) (mN M) (mX M) 0 (mI M) (mD M) (mR M) (mM M) (mO M) (mF M) (mU M) (mQ M) (mZ M) (mG M) (mH M))))))))))))) [0, 1, 2, 3, 4, 5, 6, 7, 8, 9, 10, 11, 12, 13, 14, 15, 16, 17, 18, 19, 20, 21, 22, 23, 24, 25, 26, 27, 28, 29, 30, 31, 32, 33, 34, 35, 36, 37, 38, 39, 40, 41, 42, 43, 44, 45, 46, 47, 48, 49, 50, 51, 52, 53, 54, 55, 56, 57, 58, 59, 60, 61, 62, 63, 64, 65, 66, 67, 68, 69, 70, 71, 72, 73, 74, 75, 76, 77, 78, 79, 80, 81, 82, 83, 84, 85, 86, 87, 88, 89, 90, 91, 92, 93, 94, 95, 96, 97, 98, 99, 100, 101, 102, 103, 104, 105, 106, 107, 108, 109, 110] rfl (fun _ => rfl) (fun _ hu192 => ?_)
  refine g_icmp_eq hX 857 dL_law_195 (by decide) (fun _ => ?_) (fun c => (c (by rw [hmL])).elim)
  exact nx 0 tx R C D V U S G (mkMV (mT M) (mS M) (mA M) (mW M) (mK M) (mP M) (mE M) (mN M) (mX M) 0 (mI M) (mD M) (mR M) (mM M) (mO M) (mF M) (mU M) (mQ M) (mZ M) (mG M) (mH M)) (INV_tx hI hmX rfl (Nat.zero_le _) htx rfl rfl rfl rfl rfl rfl rfl rfl)
set_option maxHeartbeats 4000000 in
set_option maxRecDepth 100000 in
theorem lc_fault  (hc : LCX x l E b L xs kk nn t i) (hI : INV t z tx R C V U S M) (nx : NX x E ae ab ar an af ah ak ax ag a b kk nn t i)  : GG x kk nn (LWM E ae ab ar an af ah ak ax ag a z tx R C D V U S G M) 200 [(0, .ref b), (1, .ref (ae 0)), (2, .ref (a 0)), (3, .int (nI i))] [] := by
  obtain ⟨hX, hSX, hkk, hnn, hit, hi5, hL3⟩ := hc
  obtain ⟨⟨hz, htx, hmX, hmL, hRq⟩, ⟨hN1, hD, hSr, hTm⟩, hE, ⟨hv1, hv2, hv3⟩, ⟨hu1, hu2, hu3⟩⟩ := id hI
  have hm : 30 * t < 2 ^ 29 := by omega
  have hC := hD.1.1
  obtain ⟨h9, h64, h512, hTq, hIq⟩ := id hC
  have hSK := hD.1.2
  have hV := DI_VB hD (by omega)
  have htx2 : ∀ j, tx j < 2 ^ 16 := fun j => by have := htx j; omega
  have hmX2 : ∀ j, mX M j < 128 := by rw [hmX]; exact htx
  have h6 : hN S ≤ 6 := hE.2.1
  have hs9 : ∀ j, j < hN S → hS S j < 9 := fun j hj => (hE.2.2 j hj).2.2
  show GG x kk nn ((lfo E ae ab ar an af ah ak ax ag z ++ (tw E ab 200 tx ++ (rw_ E ar R ++ (fw E an C ++ (fw E af D ++ (pw8 E ah V ++ (pw2 E ak U ++ (sw E ax S ++ (gw E ag G ++ (mw E a M))))))))))) 200 [(0, .ref b), (1, .ref (ae 0)), (2, .ref (a 0)), (3, .int (nI i))] []
  refine g_aload_n hX dL_law_200 1 rfl ?_
  have hc201 : CUT ((lfo E ae ab ar an af ah ak ax ag z ++ (tw E ab 200 tx ++ (rw_ E ar R ++ (fw E an C ++ (fw E af D ++ (pw8 E ah V ++ (pw2 E ak U ++ (sw E ax S ++ (gw E ag G ++ (mw E a M))))))))))) ((lfo E ae ab ar an af ah ak ax ag z ++ (tw E ab 200 tx ++ (rw_ E ar R ++ (fw E af D))))) ((fw E an C ++ (pw8 E ah V ++ (pw2 E ak U ++ (sw E ax S ++ (gw E ag G ++ (mw E a M))))))) [0, 1, 2, 3, 11, 12, 13, 14, 15, 16, 17] [4, 5, 6, 7, 8, 9, 10, 18, 19, 20, 21, 22, 23, 24, 25, 26, 27, 28, 29, 30, 31, 32, 33, 34, 35, 36, 37, 38, 39, 40, 41, 42, 43, 44, 45, 46, 47, 48, 49, 50, 51, 52, 53, 54, 55, 56, 57, 58, 59, 60, 61, 62, 63, 64, 65, 66, 67, 68, 69, 70, 71, 72, 73, 74, 75, 76, 77, 78, 79, 80, 81, 82, 83, 84, 85, 86, 87, 88, 89, 90, 91, 92, 93, 94, 95, 96, 97, 98, 99, 100, 101, 102, 103, 104, 105, 106, 107, 108, 109, 110] := ⟨rfl, rfl, rfl, rfl, rfl⟩
  refine g_VI hX hc201 [] [] (c_X5_fault l E ae ab ar an af ah ak ax ag z tx R D (by first | assumption | omega) (by first | assumption | omega) (by first | assumption | omega)) gL_law_X5_fault calX5_fault rfl rfl rfl rfl 0 rfl rfl rfl rfl dL_law_201 rfl ⟨hkk, hnn⟩ (fun _ => (lfo E ae ab ar an af ah ak ax ag z ++ (tw E ab 200 tx ++ (rw_ E ar ((rdA tx z 200 0 R (emC D)).2.1) ++ (fw E an C ++ (fw E af ((rdA tx z 200 0 R (emC D)).2.2) ++ (pw8 E ah V ++ (pw2 E ak U ++ (sw E ax S ++ (gw E ag G ++ (mw E a M))))))))))) [100, 101, 102, 103, 0, 1, 2, 3, 4, 5, 6, 104, 105, 106, 107, 108, 109, 110, 7, 8, 9, 10, 11, 12, 13, 14, 15, 16, 17, 18, 19, 20, 21, 22, 23, 24, 25, 26, 27, 28, 29, 30, 31, 32, 33, 34, 35, 36, 37, 38, 39, 40, 41, 42, 43, 44, 45, 46, 47, 48, 49, 50, 51, 52, 53, 54, 55, 56, 57, 58, 59, 60, 61, 62, 63, 64, 65, 66, 67, 68, 69, 70, 71, 72, 73, 74, 75, 76, 77, 78, 79, 80, 81, 82, 83, 84, 85, 86, 87, 88, 89, 90, 91, 92, 93, 94, 95, 96, 97, 98, 99] rfl (fun _ => rfl) (fun _ hu201 => ?_)
  refine g_aload_n hX dL_law_204 2 rfl ?_
  have hc205 : CUT ((lfo E ae ab ar an af ah ak ax ag z ++ (tw E ab 200 tx ++ (rw_ E ar ((rdA tx z 200 0 R (emC D)).2.1) ++ (fw E an C ++ (fw E af ((rdA tx z 200 0 R (emC D)).2.2) ++ (pw8 E ah V ++ (pw2 E ak U ++ (sw E ax S ++ (gw E ag G ++ (mw E a M))))))))))) (mw E a M) ((lfo E ae ab ar an af ah ak ax ag z ++ (tw E ab 200 tx ++ (rw_ E ar ((rdA tx z 200 0 R (emC D)).2.1) ++ (fw E an C ++ (fw E af ((rdA tx z 200 0 R (emC D)).2.2) ++ (pw8 E ah V ++ (pw2 E ak U ++ (sw E ax S ++ (gw E ag G)))))))))) [98, 99, 100, 101, 102, 103, 104, 105, 106, 107, 108, 109, 110] [0, 1, 2, 3, 4, 5, 6, 7, 8, 9, 10, 11, 12, 13, 14, 15, 16, 17, 18, 19, 20, 21, 22, 23, 24, 25, 26, 27, 28, 29, 30, 31, 32, 33, 34, 35, 36, 37, 38, 39, 40, 41, 42, 43, 44, 45, 46, 47, 48, 49, 50, 51, 52, 53, 54, 55, 56, 57, 58, 59, 60, 61, 62, 63, 64, 65, 66, 67, 68, 69, 70, 71, 72, 73, 74, 75, 76, 77, 78, 79, 80, 81, 82, 83, 84, 85, 86, 87, 88, 89, 90, 91, 92, 93, 94, 95, 96, 97] := ⟨rfl, rfl, rfl, rfl, rfl⟩
  refine g_VI hX hc205 [] [.int (oI (rdA tx z 200 0 R (emC D)).1)] (c_X6_fault l E a M D (by first | assumption | omega) (by first | assumption | omega)) gL_law_X6_fault calX6_fault rfl rfl rfl rfl 98 rfl rfl rfl rfl dL_law_205 rfl ⟨hkk, hnn⟩ (fun u205 => (lfo E ae ab ar an af ah ak ax ag z ++ (tw E ab 200 tx ++ (rw_ E ar ((rdA tx z 200 0 R (emC D)).2.1) ++ (fw E an C ++ (fw E af ((rdA tx z 200 0 R (emC D)).2.2) ++ (pw8 E ah V ++ (pw2 E ak U ++ (sw E ax S ++ (gw E ag G ++ (mw E a u205))))))))))) [0, 1, 2, 3, 4, 5, 6, 7, 8, 9, 10, 11, 12, 13, 14, 15, 16, 17, 18, 19, 20, 21, 22, 23, 24, 25, 26, 27, 28, 29, 30, 31, 32, 33, 34, 35, 36, 37, 38, 39, 40, 41, 42, 43, 44, 45, 46, 47, 48, 49, 50, 51, 52, 53, 54, 55, 56, 57, 58, 59, 60, 61, 62, 63, 64, 65, 66, 67, 68, 69, 70, 71, 72, 73, 74, 75, 76, 77, 78, 79, 80, 81, 82, 83, 84, 85, 86, 87, 88, 89, 90, 91, 92, 93, 94, 95, 96, 97, 98, 99, 100, 101, 102, 103, 104, 105, 106, 107, 108, 109, 110] rfl (fun _ => rfl) (fun u205 hu205 => ?_)
  refine g_icmp_eq hX 857 dL_law_208 (by decide) (fun _ => ?_) (fun c => (c (by rw [hmX, hmL]; exact congrArg oI (rd_tx _ _ _ _).1)).elim)
  exact nx z tx ((rdA tx z 200 0 R (emC D)).2.1) C ((rdA tx z 200 0 R (emC D)).2.2) V U S G u205 (INV_R (INV_KS hI hu205.1) (rdA_q _ _ _ _ hRq))
set_option maxHeartbeats 4000000 in
set_option maxRecDepth 100000 in
theorem lc_lay_n  (hc : LCX x l E b L xs kk nn t i) (hI : INV t z tx R C V U S M) (nx : NX x E ae ab ar an af ah ak ax ag a b kk nn t i) (hno : (txA tx z 200 0 (emC D)).1 = none → cN (txA tx z 200 0 (emC D)).2 = 0) : GG x kk nn (LWM E ae ab ar an af ah ak ax ag a z tx R C D V U S G M) 213 [(0, .ref b), (1, .ref (ae 0)), (2, .ref (a 0)), (3, .int (nI i))] [] := by
  obtain ⟨hX, hSX, hkk, hnn, hit, hi5, hL3⟩ := hc
  obtain ⟨⟨hz, htx, hmX, hmL, hRq⟩, ⟨hN1, hD, hSr, hTm⟩, hE, ⟨hv1, hv2, hv3⟩, ⟨hu1, hu2, hu3⟩⟩ := id hI
  have hm : 30 * t < 2 ^ 29 := by omega
  have hC := hD.1.1
  obtain ⟨h9, h64, h512, hTq, hIq⟩ := id hC
  have hSK := hD.1.2
  have hV := DI_VB hD (by omega)
  have htx2 : ∀ j, tx j < 2 ^ 16 := fun j => by have := htx j; omega
  have hmX2 : ∀ j, mX M j < 128 := by rw [hmX]; exact htx
  have h6 : hN S ≤ 6 := hE.2.1
  have hs9 : ∀ j, j < hN S → hS S j < 9 := fun j hj => (hE.2.2 j hj).2.2
  have hrt := rd_tx (tx := tx) (n := z) 200 0 R (emC D)
  have ht1 : (txA (mX M) (mL M) 200 0 (emC D)).1 = (txA tx z 200 0 (emC D)).1 := by rw [hmX, hmL]
  have ht2 : (txA (mX M) (mL M) 200 0 (emC D)).2 = (txA tx z 200 0 (emC D)).2 := by rw [hmX, hmL]
  show GG x kk nn ((lfo E ae ab ar an af ah ak ax ag z ++ (tw E ab 200 tx ++ (rw_ E ar R ++ (fw E an C ++ (fw E af D ++ (pw8 E ah V ++ (pw2 E ak U ++ (sw E ax S ++ (gw E ag G ++ (mw E a M))))))))))) 213 [(0, .ref b), (1, .ref (ae 0)), (2, .ref (a 0)), (3, .int (nI i))] []
  refine g_aload_n hX dL_law_213 1 rfl ?_
  have hc214 : CUT ((lfo E ae ab ar an af ah ak ax ag z ++ (tw E ab 200 tx ++ (rw_ E ar R ++ (fw E an C ++ (fw E af D ++ (pw8 E ah V ++ (pw2 E ak U ++ (sw E ax S ++ (gw E ag G ++ (mw E a M))))))))))) ((lfo E ae ab ar an af ah ak ax ag z ++ (tw E ab 200 tx ++ (rw_ E ar R ++ (fw E af D))))) ((fw E an C ++ (pw8 E ah V ++ (pw2 E ak U ++ (sw E ax S ++ (gw E ag G ++ (mw E a M))))))) [0, 1, 2, 3, 11, 12, 13, 14, 15, 16, 17] [4, 5, 6, 7, 8, 9, 10, 18, 19, 20, 21, 22, 23, 24, 25, 26, 27, 28, 29, 30, 31, 32, 33, 34, 35, 36, 37, 38, 39, 40, 41, 42, 43, 44, 45, 46, 47, 48, 49, 50, 51, 52, 53, 54, 55, 56, 57, 58, 59, 60, 61, 62, 63, 64, 65, 66, 67, 68, 69, 70, 71, 72, 73, 74, 75, 76, 77, 78, 79, 80, 81, 82, 83, 84, 85, 86, 87, 88, 89, 90, 91, 92, 93, 94, 95, 96, 97, 98, 99, 100, 101, 102, 103, 104, 105, 106, 107, 108, 109, 110] := ⟨rfl, rfl, rfl, rfl, rfl⟩
  refine g_VI hX hc214 [] [] (c_X5_lay_n l E ae ab ar an af ah ak ax ag z tx R D (by first | assumption | omega) (by first | assumption | omega) (by first | assumption | omega) (fun q => by rw [hrt.2 (hrt.1.symm.trans q)]; exact hno (hrt.1.symm.trans q))) gL_law_X5_lay calX5_lay rfl rfl rfl rfl 0 rfl rfl rfl rfl dL_law_214 rfl ⟨hkk, hnn⟩ (fun _ => (lfo E ae ab ar an af ah ak ax ag z ++ (tw E ab 200 tx ++ (rw_ E ar ((rdA tx z 200 0 R (emC D)).2.1) ++ (fw E an C ++ (fw E af ((rdA tx z 200 0 R (emC D)).2.2) ++ (pw8 E ah V ++ (pw2 E ak U ++ (sw E ax S ++ (gw E ag G ++ (mw E a M))))))))))) [100, 101, 102, 103, 0, 1, 2, 3, 4, 5, 6, 104, 105, 106, 107, 108, 109, 110, 7, 8, 9, 10, 11, 12, 13, 14, 15, 16, 17, 18, 19, 20, 21, 22, 23, 24, 25, 26, 27, 28, 29, 30, 31, 32, 33, 34, 35, 36, 37, 38, 39, 40, 41, 42, 43, 44, 45, 46, 47, 48, 49, 50, 51, 52, 53, 54, 55, 56, 57, 58, 59, 60, 61, 62, 63, 64, 65, 66, 67, 68, 69, 70, 71, 72, 73, 74, 75, 76, 77, 78, 79, 80, 81, 82, 83, 84, 85, 86, 87, 88, 89, 90, 91, 92, 93, 94, 95, 96, 97, 98, 99] rfl (fun _ => rfl) (fun _ hu214 => ?_)
  refine g_aload_n hX dL_law_217 2 rfl ?_
  have hc218 : CUT ((lfo E ae ab ar an af ah ak ax ag z ++ (tw E ab 200 tx ++ (rw_ E ar ((rdA tx z 200 0 R (emC D)).2.1) ++ (fw E an C ++ (fw E af ((rdA tx z 200 0 R (emC D)).2.2) ++ (pw8 E ah V ++ (pw2 E ak U ++ (sw E ax S ++ (gw E ag G ++ (mw E a M))))))))))) (mw E a M) ((lfo E ae ab ar an af ah ak ax ag z ++ (tw E ab 200 tx ++ (rw_ E ar ((rdA tx z 200 0 R (emC D)).2.1) ++ (fw E an C ++ (fw E af ((rdA tx z 200 0 R (emC D)).2.2) ++ (pw8 E ah V ++ (pw2 E ak U ++ (sw E ax S ++ (gw E ag G)))))))))) [98, 99, 100, 101, 102, 103, 104, 105, 106, 107, 108, 109, 110] [0, 1, 2, 3, 4, 5, 6, 7, 8, 9, 10, 11, 12, 13, 14, 15, 16, 17, 18, 19, 20, 21, 22, 23, 24, 25, 26, 27, 28, 29, 30, 31, 32, 33, 34, 35, 36, 37, 38, 39, 40, 41, 42, 43, 44, 45, 46, 47, 48, 49, 50, 51, 52, 53, 54, 55, 56, 57, 58, 59, 60, 61, 62, 63, 64, 65, 66, 67, 68, 69, 70, 71, 72, 73, 74, 75, 76, 77, 78, 79, 80, 81, 82, 83, 84, 85, 86, 87, 88, 89, 90, 91, 92, 93, 94, 95, 96, 97] := ⟨rfl, rfl, rfl, rfl, rfl⟩
  refine g_VI hX hc218 [] [.int (-2)] (c_X6_lay_n l E a M D (by first | assumption | omega) (by first | assumption | omega) (fun q => by rw [ht2]; exact hno (ht1.symm.trans q))) gL_law_X6_lay calX6_lay rfl rfl rfl rfl 98 rfl rfl rfl rfl dL_law_218 rfl ⟨hkk, hnn⟩ (fun u218 => (lfo E ae ab ar an af ah ak ax ag z ++ (tw E ab 200 tx ++ (rw_ E ar ((rdA tx z 200 0 R (emC D)).2.1) ++ (fw E an C ++ (fw E af ((rdA tx z 200 0 R (emC D)).2.2) ++ (pw8 E ah V ++ (pw2 E ak U ++ (sw E ax S ++ (gw E ag G ++ (mw E a u218))))))))))) [0, 1, 2, 3, 4, 5, 6, 7, 8, 9, 10, 11, 12, 13, 14, 15, 16, 17, 18, 19, 20, 21, 22, 23, 24, 25, 26, 27, 28, 29, 30, 31, 32, 33, 34, 35, 36, 37, 38, 39, 40, 41, 42, 43, 44, 45, 46, 47, 48, 49, 50, 51, 52, 53, 54, 55, 56, 57, 58, 59, 60, 61, 62, 63, 64, 65, 66, 67, 68, 69, 70, 71, 72, 73, 74, 75, 76, 77, 78, 79, 80, 81, 82, 83, 84, 85, 86, 87, 88, 89, 90, 91, 92, 93, 94, 95, 96, 97, 98, 99, 100, 101, 102, 103, 104, 105, 106, 107, 108, 109, 110] rfl (fun _ => rfl) (fun u218 hu218 => ?_)
  refine g_icmp_eq hX 857 dL_law_221 (by decide) (fun _ => ?_) (fun c => (c (rfl)).elim)
  exact nx z tx ((rdA tx z 200 0 R (emC D)).2.1) C ((rdA tx z 200 0 R (emC D)).2.2) V U S G u218 (INV_R (INV_KS hI hu218) (rdA_q _ _ _ _ hRq))
set_option maxHeartbeats 4000000 in
set_option maxRecDepth 100000 in
theorem lc_lay_y  (hc : LCX x l E b L xs kk nn t i) (hI : INV t z tx R C V U S M) (nx : NX x E ae ab ar an af ah ak ax ag a b kk nn t i) (hyes : (txA tx z 200 0 (emC D)).1 = none) (hpos : 0 < cN (txA tx z 200 0 (emC D)).2) : GG x kk nn (LWM E ae ab ar an af ah ak ax ag a z tx R C D V U S G M) 213 [(0, .ref b), (1, .ref (ae 0)), (2, .ref (a 0)), (3, .int (nI i))] [] := by
  obtain ⟨hX, hSX, hkk, hnn, hit, hi5, hL3⟩ := hc
  obtain ⟨⟨hz, htx, hmX, hmL, hRq⟩, ⟨hN1, hD, hSr, hTm⟩, hE, ⟨hv1, hv2, hv3⟩, ⟨hu1, hu2, hu3⟩⟩ := id hI
  have hm : 30 * t < 2 ^ 29 := by omega
  have hC := hD.1.1
  obtain ⟨h9, h64, h512, hTq, hIq⟩ := id hC
  have hSK := hD.1.2
  have hV := DI_VB hD (by omega)
  have htx2 : ∀ j, tx j < 2 ^ 16 := fun j => by have := htx j; omega
  have hmX2 : ∀ j, mX M j < 128 := by rw [hmX]; exact htx
  have h6 : hN S ≤ 6 := hE.2.1
  have hs9 : ∀ j, j < hN S → hS S j < 9 := fun j hj => (hE.2.2 j hj).2.2
  have hrt := rd_tx (tx := tx) (n := z) 200 0 R (emC D)
  have ht1 : (txA (mX M) (mL M) 200 0 (emC D)).1 = (txA tx z 200 0 (emC D)).1 := by rw [hmX, hmL]
  have ht2 : (txA (mX M) (mL M) 200 0 (emC D)).2 = (txA tx z 200 0 (emC D)).2 := by rw [hmX, hmL]
  have hfd : (rdA tx z 200 0 R (emC D)).2.2 = (txA tx z 200 0 (emC D)).2 := hrt.2 hyes
  have hft : (rdA tx z 200 0 R (emC D)).2.2 = (txA (mX M) (mL M) 200 0 (emC D)).2 := hfd.trans ht2.symm
  show GG x kk nn ((lfo E ae ab ar an af ah ak ax ag z ++ (tw E ab 200 tx ++ (rw_ E ar R ++ (fw E an C ++ (fw E af D ++ (pw8 E ah V ++ (pw2 E ak U ++ (sw E ax S ++ (gw E ag G ++ (mw E a M))))))))))) 213 [(0, .ref b), (1, .ref (ae 0)), (2, .ref (a 0)), (3, .int (nI i))] []
  refine g_aload_n hX dL_law_213 1 rfl ?_
  have hc214 : CUT ((lfo E ae ab ar an af ah ak ax ag z ++ (tw E ab 200 tx ++ (rw_ E ar R ++ (fw E an C ++ (fw E af D ++ (pw8 E ah V ++ (pw2 E ak U ++ (sw E ax S ++ (gw E ag G ++ (mw E a M))))))))))) ((lfo E ae ab ar an af ah ak ax ag z ++ (tw E ab 200 tx ++ (rw_ E ar R ++ (fw E an C ++ (fw E af D ++ (pw8 E ah V ++ (pw2 E ak U ++ (sw E ax S))))))))) ((gw E ag G) ++ (mw E a M)) [0, 1, 2, 3, 4, 5, 6, 7, 8, 9, 10, 11, 12, 13, 14, 15, 16, 17, 18, 19, 20, 21, 22, 23, 24, 25, 26, 27, 28, 29, 30, 31, 32, 33, 34, 35, 36, 37, 38, 39, 40, 41, 42, 43, 44, 45, 46, 47, 48, 49, 50, 51, 52, 53, 54, 55, 56, 57, 58, 59, 60, 61, 62, 63, 64, 65, 66, 67, 68, 69, 70, 71, 72, 73, 74, 75, 76, 77, 78, 79, 80, 81, 82, 83, 84, 85, 86, 87, 88, 89, 90, 91, 92, 93, 94] [95, 96, 97, 98, 99, 100, 101, 102, 103, 104, 105, 106, 107, 108, 109, 110] := ⟨rfl, rfl, rfl, rfl, rfl⟩
  refine g_VI hX hc214 [] [] (c_X5_lay_y l E ae ab ar an af ah ak ax ag z tx R C D V U S (by first | assumption | omega) (by first | assumption | omega) (by first | assumption | omega) (hrt.1.trans hyes) (by rw [hfd]; exact hpos)) gL_law_X5_lay calX5_lay rfl rfl rfl rfl 0 rfl rfl rfl rfl dL_law_214 rfl ⟨hkk, hnn⟩ (fun _ => (lfo E ae ab ar an af ah ak ax ag z ++ (tw E ab 200 tx ++ (rw_ E ar ((rdA tx z 200 0 R (emC D)).2.1) ++ (fw E an ((rdA tx z 200 0 R (emC D)).2.2) ++ (fw E af ((rdA tx z 200 0 R (emC D)).2.2) ++ (pw8 E ah (pclr V) ++ (pw2 E ak (pclr U) ++ (sw E ax (shN S 0) ++ (gw E ag G ++ (mw E a M))))))))))) [16, 17, 18, 19, 20, 21, 22, 23, 24, 25, 26, 27, 28, 29, 30, 31, 32, 33, 34, 35, 36, 37, 38, 39, 40, 41, 42, 43, 44, 45, 46, 47, 48, 49, 50, 51, 52, 53, 54, 55, 56, 57, 58, 59, 60, 61, 62, 63, 64, 65, 66, 67, 68, 69, 70, 71, 72, 73, 74, 75, 76, 77, 78, 79, 80, 81, 82, 83, 84, 85, 86, 87, 88, 89, 90, 91, 92, 93, 94, 95, 96, 97, 98, 99, 100, 101, 102, 103, 104, 105, 106, 107, 108, 109, 110, 0, 1, 2, 3, 4, 5, 6, 7, 8, 9, 10, 11, 12, 13, 14, 15] rfl (fun _ => rfl) (fun _ hu214 => ?_)
  refine g_aload_n hX dL_law_217 2 rfl ?_
  have hc218 : CUT ((lfo E ae ab ar an af ah ak ax ag z ++ (tw E ab 200 tx ++ (rw_ E ar ((rdA tx z 200 0 R (emC D)).2.1) ++ (fw E an ((rdA tx z 200 0 R (emC D)).2.2) ++ (fw E af ((rdA tx z 200 0 R (emC D)).2.2) ++ (pw8 E ah (pclr V) ++ (pw2 E ak (pclr U) ++ (sw E ax (shN S 0) ++ (gw E ag G ++ (mw E a M))))))))))) (mw E a M) ((lfo E ae ab ar an af ah ak ax ag z ++ (tw E ab 200 tx ++ (rw_ E ar ((rdA tx z 200 0 R (emC D)).2.1) ++ (fw E an ((rdA tx z 200 0 R (emC D)).2.2) ++ (fw E af ((rdA tx z 200 0 R (emC D)).2.2) ++ (pw8 E ah (pclr V) ++ (pw2 E ak (pclr U) ++ (sw E ax (shN S 0) ++ (gw E ag G)))))))))) [98, 99, 100, 101, 102, 103, 104, 105, 106, 107, 108, 109, 110] [0, 1, 2, 3, 4, 5, 6, 7, 8, 9, 10, 11, 12, 13, 14, 15, 16, 17, 18, 19, 20, 21, 22, 23, 24, 25, 26, 27, 28, 29, 30, 31, 32, 33, 34, 35, 36, 37, 38, 39, 40, 41, 42, 43, 44, 45, 46, 47, 48, 49, 50, 51, 52, 53, 54, 55, 56, 57, 58, 59, 60, 61, 62, 63, 64, 65, 66, 67, 68, 69, 70, 71, 72, 73, 74, 75, 76, 77, 78, 79, 80, 81, 82, 83, 84, 85, 86, 87, 88, 89, 90, 91, 92, 93, 94, 95, 96, 97] := ⟨rfl, rfl, rfl, rfl, rfl⟩
  refine g_VI hX hc218 [] [.int (nI (cN ((rdA tx z 200 0 R (emC D)).2.2)))] (c_X6_lay_y l E a M D (by first | assumption | omega) (by first | assumption | omega) (ht1.trans hyes) (by rw [ht2]; exact hpos)) gL_law_X6_lay calX6_lay rfl rfl rfl rfl 98 rfl rfl rfl rfl dL_law_218 rfl ⟨hkk, hnn⟩ (fun u218 => (lfo E ae ab ar an af ah ak ax ag z ++ (tw E ab 200 tx ++ (rw_ E ar ((rdA tx z 200 0 R (emC D)).2.1) ++ (fw E an ((rdA tx z 200 0 R (emC D)).2.2) ++ (fw E af ((rdA tx z 200 0 R (emC D)).2.2) ++ (pw8 E ah (pclr V) ++ (pw2 E ak (pclr U) ++ (sw E ax (shN S 0) ++ (gw E ag G ++ (mw E a u218))))))))))) [0, 1, 2, 3, 4, 5, 6, 7, 8, 9, 10, 11, 12, 13, 14, 15, 16, 17, 18, 19, 20, 21, 22, 23, 24, 25, 26, 27, 28, 29, 30, 31, 32, 33, 34, 35, 36, 37, 38, 39, 40, 41, 42, 43, 44, 45, 46, 47, 48, 49, 50, 51, 52, 53, 54, 55, 56, 57, 58, 59, 60, 61, 62, 63, 64, 65, 66, 67, 68, 69, 70, 71, 72, 73, 74, 75, 76, 77, 78, 79, 80, 81, 82, 83, 84, 85, 86, 87, 88, 89, 90, 91, 92, 93, 94, 95, 96, 97, 98, 99, 100, 101, 102, 103, 104, 105, 106, 107, 108, 109, 110] rfl (fun _ => rfl) (fun u218 hu218 => ?_)
  refine g_icmp_eq hX 857 dL_law_221 (by decide) (fun _ => ?_) (fun c => (c (by rw [hft])).elim)
  exact nx z tx ((rdA tx z 200 0 R (emC D)).2.1) ((rdA tx z 200 0 R (emC D)).2.2) ((rdA tx z 200 0 R (emC D)).2.2) (pclr V) (pclr U) (shN S 0) G u218 (INV_lay hI (rdA_q _ _ _ _ hRq) (rd_RI (hrt.1.trans hyes)) (by rw [hfd]; exact hpos) (by rw [hft]; exact hu218))
end LAWS
