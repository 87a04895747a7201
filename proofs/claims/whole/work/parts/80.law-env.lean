/-! what the Statement gives of the start, as the walk wants it -/
theorem wof_mem : ∀ j, j < 6 → Cond.eq (.elem (.static "LieForce" "WORLDS_OF_FACT" "[J") (.int (Int32.ofNat j))) (.long (wofL.getD j 0)) ∈ flatC (Jvm.Cond.and given_1 narrow_1) := by decide +kernel
theorem str_mem : ∀ j, j < 85 → Cond.eq (.elem (.field (.string "LieForce" 60) "java/lang/String" "value" "[B") (.int (Int32.ofNat j))) (.int (firstBy.getD j 0)) ∈ flatC (Jvm.Cond.and given_1 narrow_1) := by decide +kernel
theorem nest_mem : ∀ q ∈ nestT, Cond.methodLinkNest q.1 q.2.1 q.2.2 "LieForce" ∈ lw_tbl := by decide +kernel
theorem law_arr {s : State} {b : Nat} (hts : ∀ w ∈ lw_tbl, w.before #[Value.ref b] s = true) : ∃ f : Nat → ClassId, (ArrOfT s (f 0) .int ∧ va_RA s (f 0) .int) ∧ (ArrOfT s (f 1) .long ∧ va_RA s (f 1) .long) ∧ (ArrOfT s (f 2) .char ∧ va_RA s (f 2) .char) ∧ (ArrOfT s (f 3) .boolean ∧ va_RA s (f 3) .boolean) ∧ (ArrOfT s (f 4) (.object "LieForce$Force") ∧ va_RA s (f 4) (.object "LieForce$Force")) := by
  obtain ⟨c0, k0, p0, h1, h2, h3⟩ := Cond.arrayClass_spec (hts (.arrayClass .int) (by decide +kernel))
  obtain ⟨c1, k1, p1, i1, i2, i3⟩ := Cond.arrayClass_spec (hts (.arrayClass .long) (by decide +kernel))
  obtain ⟨c2, k2, p2, j1, j2, j3⟩ := Cond.arrayClass_spec (hts (.arrayClass .char) (by decide +kernel))
  obtain ⟨c3, k3, p3, m1, m2, m3⟩ := Cond.arrayClass_spec (hts (.arrayClass .boolean) (by decide +kernel))
  obtain ⟨p4, c4, k4, n1, n2, n3, n4, n5⟩ := Cond.arrayOver_spec (hts (.arrayOver (.object "LieForce$Force")) (by decide +kernel))
  exact ⟨fun k => if k = 0 then c0 else if k = 1 then c1 else if k = 2 then c2 else if k = 3 then c3 else c4, ⟨fun n z => ⟨fun k h => (by cases h), k0, h2, p0, h3⟩, h1⟩, ⟨fun n z => ⟨fun k h => (by cases h), k1, i2, p1, i3⟩, i1⟩, ⟨fun n z => ⟨fun k h => (by cases h), k2, j2, p2, j3⟩, j1⟩, ⟨fun n z => ⟨fun k h => (by cases h), k3, m2, p3, m3⟩, m1⟩, ⟨fun n z => ⟨fun k h => (by cases h), k4, n3, p4, n4⟩, k4, p4, n3, n4, n1, n5⟩⟩
theorem law_cls {s : State} {b : Nat} (hts : ∀ w ∈ lw_tbl, w.before #[Value.ref b] s = true) : ∃ (dC : Nat → ClassId) (dI : Nat → Nat → Nat), ∀ (k : Nat) (q : vw_C), vwCl[k]? = some q → u_Kn s q.1 q.2.1 q.2.2 (dC k) (dI k) := by
  obtain ⟨c0, i0, k0⟩ := u_known (C := RX0) (T := TX0) (N := 11) (n := 11) hts inX0 (hts (.instantiable RX0 11) (by decide +kernel))
  obtain ⟨c1, i1, k1⟩ := u_known (C := RX1) (T := TX1) (N := 2) (n := 2) hts inX1 (hts (.instantiable RX1 2) (by decide +kernel))
  obtain ⟨c2, i2, k2⟩ := u_known (C := RX2) (T := TX2) (N := 2) (n := 2) hts inX2 (hts (.instantiable RX2 2) (by decide +kernel))
  obtain ⟨c3, i3, k3⟩ := u_known (C := RX3) (T := TX3) (N := 1) (n := 1) hts inX3 (hts (.instantiable RX3 1) (by decide +kernel))
  obtain ⟨c4, i4, k4⟩ := u_known (C := RX4) (T := TX4) (N := 3) (n := 3) hts inX4 (hts (.instantiable RX4 3) (by decide +kernel))
  obtain ⟨c5, i5, k5⟩ := u_known (C := RX5) (T := TX5) (N := 9) (n := 9) hts inX5 (hts (.instantiable RX5 9) (by decide +kernel))
  obtain ⟨c6, i6, k6⟩ := u_known (C := RX6) (T := TX6) (N := 21) (n := 21) hts inX6 (hts (.instantiable RX6 21) (by decide +kernel))
  refine ⟨fun k => if k = 0 then c0 else if k = 1 then c1 else if k = 2 then c2 else if k = 3 then c3 else if k = 4 then c4 else if k = 5 then c5 else c6, fun k => if k = 0 then i0 else if k = 1 then i1 else if k = 2 then i2 else if k = 3 then i3 else if k = 4 then i4 else if k = 5 then i5 else i6, ?_⟩
  intro k q hq
  match k, hq with
  | 0, hq => cases hq; exact k0
  | 1, hq => cases hq; exact k1
  | 2, hq => cases hq; exact k2
  | 3, hq => cases hq; exact k3
  | 4, hq => cases hq; exact k4
  | 5, hq => cases hq; exact k5
  | 6, hq => cases hq; exact k6
  | k + 7, hq => simp [vwCl] at hq
set_option maxRecDepth 20000 in
theorem law_env {s : State} {b : Nat} (hts : ∀ w ∈ lw_tbl, w.before #[Value.ref b] s = true) (hgv : (Jvm.Cond.and given_1 narrow_1).before #[Value.ref b] s = true) : ∃ E : EV, va_K E.1 vwCl (tysE E) s ∧ SV E (fun q => s.heap.size ≤ q) s s.heap := by
  have hs := flat_of_before _ hgv
  have hA : ∀ a : Nat, a < s.heap.size → ¬ (fun q : Nat => s.heap.size ≤ q) a := fun a h q => absurd h (Nat.not_lt.mpr q)
  obtain ⟨f, r0, r1, r2, r3, r4⟩ := law_arr hts
  obtain ⟨dC, dI, hKc⟩ := law_cls hts
  obtain ⟨t, ht, hT⟩ := va_Tof (args := #[Value.ref b]) (s := s) (tm := (.static "LieForce" "WORLDS_OF_FACT" "[J")) (ty := .long) (N := 6) (f := wofV) (A := fun q => s.heap.size ≤ q) (by decide) (hs (.arrayOf (.static "LieForce" "WORLDS_OF_FACT" "[J") .long) (by decide +kernel)) (va_eqt (hs (.eq (.length (.static "LieForce" "WORLDS_OF_FACT" "[J")) (.int 6)) (by decide +kernel))) (fun j hj => va_eqtl (hs _ (wof_mem j hj))) hA
  have hZ := va_Zof (hts (.laysStatic "LieForce" "WORLDS_OF_FACT" "[J") (by decide +kernel)) (hts (.initialized "LieForce") (by decide +kernel)) ht hA
  have hCS := va_Zof (hts (.laysStatic "java/lang/String" "COMPACT_STRINGS" "Z") (by decide +kernel)) (hts (.initialized "java/lang/String") (by decide +kernel)) (va_eqt (hs (.eq (.static "java/lang/String" "COMPACT_STRINGS" "Z") (.int 1)) (by decide +kernel))) hA
  obtain ⟨adK, adV, hSt, hEv⟩ := vk_Sof (args := #[Value.ref b]) (s := s) (N := 1) (tm := fun _ => .string "LieForce" 60) (len := [85]) (byt := [firstBy]) (A := fun q => s.heap.size ≤ q) (fun i hi => by
      obtain rfl : i = 0 := by omega
      decide) (fun i hi => hs (.exactly (.string "LieForce" 60) "java/lang/String") (by decide +kernel)) (fun i hi => hs (.eq (.field (.string "LieForce" 60) "java/lang/String" "coder" "B") (.int 0)) (by decide +kernel)) (fun i hi => hs (.arrayOf (.field (.string "LieForce" 60) "java/lang/String" "value" "[B") .byte) (by decide +kernel)) (fun i hi => by
      obtain rfl : i = 0 := by omega
      exact hs (.eq (.length (.field (.string "LieForce" 60) "java/lang/String" "value" "[B")) (.int 85)) (by decide +kernel)) (fun i hi j hj => by
      obtain rfl : i = 0 := by omega
      exact hs _ (str_mem j hj)) (fun i j hi hj hij => absurd (show i = j by omega) hij) hA
  refine ⟨((dC, dI), f, t, adK, adV), ⟨hKc, fun k q hq => ?_⟩, ⟨hZ, hT, hCS, hSt⟩, vk_R.of (hts (.stringRef "LieForce" 60 firstTx) (by decide +kernel)) (hEv 0 (by decide)), fun q hq => va_Nw.of rfl (hts _ (nest_mem q hq))⟩
  match k, hq with
  | 0, hq => cases hq; exact r0
  | 1, hq => cases hq; exact r1
  | 2, hq => cases hq; exact r2
  | 3, hq => cases hq; exact r3
  | 4, hq => cases hq; exact r4
  | k + 5, hq => simp [tysE] at hq
