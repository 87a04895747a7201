/-! further rows over GG -/
theorem g_ldcw {x : GX} {l0 : Launch} {cc : ByteArray} {own : String} {Ts : List Cond} {E : EV} {rm : Room} {k n : Nat} {ws : va_W} {pc : Nat} {lv : List (Nat × Value)} {st : List Value} (C : CX x l0 cc own Ts E rm) {v : Int32} {i : Nat} (d : decode cc pc = .ok (.ldc_w i, 3)) (h : Cond.constant own i v ∈ Ts) (g : GG x k n ws (pc + 3) lv (.int v :: st)) : GG x k n ws pc lv st := by
  obtain ⟨p, l, e, R, s, m, args, below, meth, c, D, A, nL, Q⟩ := x
  obtain ⟨hx, hb, hml, hown, hts, hK, hA, hR, hDE, hSV, hl0⟩ := C
  exact fun H locs ls hP hD hS hl => lv_ldcw hx hb hown (hts _ h) d (g H locs ls hP hD hS hl)
theorem g_mmax {x : GX} {l0 : Launch} {cc : ByteArray} {own : String} {Ts : List Cond} {E : EV} {rm : Room} {k n : Nat} {ws : va_W} {pc : Nat} {lv : List (Nat × Value)} {st : List Value} (C : CX x l0 cc own Ts E rm) {a b : Int32} (v : Int32) {i : Nat} (hv : (if a < b then b else a) = v) (h1 : Cond.methodLink own i Lib.Math.max.name ∈ Ts) (h2 : Cond.static Lib.Math.max.name ∈ Ts) (h3 : Cond.initialized "java/lang/Math" ∈ Ts) (h4 : Cond.code Lib.Math.max.name Lib.Math.max.code 2 (some .int) ∈ Ts) (hf : 1 ≤ rm.frames) (hl9 : (st.map fun v => v.category).sum + 13 ≤ rm.locals) (hc : k ≤ rm.cells) (hs : n ≤ rm.slots) (d : decode cc pc = .ok (.invokestatic i, 3)) (g : GG x k n ws (pc + 3) lv (.int v :: st)) : GG x k n ws pc lv (.int b :: .int a :: st) := by
  obtain ⟨p, l, e, R, s, m, args, below, meth, c, D, A, nL, Q⟩ := x
  obtain ⟨hx, hb, hml, hown, hts, hK, hA, hR, hDE, hSV, hl0⟩ := C
  subst hv
  subst hR
  exact fun H locs ls hP hD hS hl => va_mmax hx hb (hml.trans hl.1.symm) hown (hts _ h1) (hts _ h2) (hts _ h3) (hts _ h4) hf hl9 hc hs d (g H locs ls hP hD hS hl)
theorem g_mmin {x : GX} {l0 : Launch} {cc : ByteArray} {own : String} {Ts : List Cond} {E : EV} {rm : Room} {k n : Nat} {ws : va_W} {pc : Nat} {lv : List (Nat × Value)} {st : List Value} (C : CX x l0 cc own Ts E rm) {a b : Int32} (v : Int32) {i : Nat} (hv : (if b < a then b else a) = v) (h1 : Cond.methodLink own i Lib.Math.min.name ∈ Ts) (h2 : Cond.static Lib.Math.min.name ∈ Ts) (h3 : Cond.initialized "java/lang/Math" ∈ Ts) (h4 : Cond.code Lib.Math.min.name Lib.Math.min.code 2 (some .int) ∈ Ts) (hf : 1 ≤ rm.frames) (hl9 : (st.map fun v => v.category).sum + 13 ≤ rm.locals) (hc : k ≤ rm.cells) (hs : n ≤ rm.slots) (d : decode cc pc = .ok (.invokestatic i, 3)) (g : GG x k n ws (pc + 3) lv (.int v :: st)) : GG x k n ws pc lv (.int b :: .int a :: st) := by
  obtain ⟨p, l, e, R, s, m, args, below, meth, c, D, A, nL, Q⟩ := x
  obtain ⟨hx, hb, hml, hown, hts, hK, hA, hR, hDE, hSV, hl0⟩ := C
  subst hv
  subst hR
  exact fun H locs ls hP hD hS hl => va_mmin hx hb (hml.trans hl.1.symm) hown (hts _ h1) (hts _ h2) (hts _ h3) (hts _ h4) hf hl9 hc hs d (g H locs ls hP hD hS hl)
/-- an array's contents count below its length alone -/
theorem arrV_congr {cA : ClassId} {N : Nat} {f f' : Nat → Value} (h : ∀ j, j < N → f j = f' j) : arrV cA N f = arrV cA N f' := by
  unfold arrV
  congr 1
  apply congrArg
  funext j
  exact h j.val j.isLt
theorem va_P_re {D : va_G} {cl : List vw_C} {ws : va_W} {H : Heap} (hP : va_P D cl ws H) (q0 : Nat) {a : Nat} {e e' : va_E} (he : ws[q0]? = some (a, e)) (h : va_at D cl (a, e) H → va_at D cl (a, e') H) : va_P D cl (ws.set q0 (a, e')) H := by
  have hl := (List.getElem?_eq_some_iff.mp he).1
  intro k q hk
  by_cases hkp : k = q0
  · subst hkp
    rw [List.getElem?_set_self hl] at hk
    cases hk
    exact h (hP k _ he)
  · rw [List.getElem?_set_ne (Ne.symm hkp)] at hk
    exact hP k q hk
theorem g_rei {x : GX} {k n : Nat} {ws : va_W} {pc : Nat} {lv : List (Nat × Value)} {st : List Value} (q0 : Nat) {a N : Nat} {cA : ClassId} {f : Nat → Int32} (f' : Nat → Int32) (ws' : va_W) (he : ws[q0]? = some (a, .inl (cA, N, .inl f))) (h : ∀ j, j < N → f j = f' j) (hw : ws.set q0 (a, .inl (cA, N, .inl f')) = ws') (g : GG x k n ws' pc lv st) : GG x k n ws pc lv st := by
  obtain ⟨p, l, e, R, s, m, args, below, meth, c, D, A, nL, Q⟩ := x
  subst hw
  intro H locs ls hP hD hS hl
  refine g H locs ls (va_P_re hP q0 he (fun z => ?_)) (hD.set he) hS hl
  have z1 : H[a]? = some (vp_cell cA (N, .inl f)) := z
  show H[a]? = some (vp_cell cA (N, .inl f'))
  rw [z1, vp_cell_i, vp_cell_i]
  exact congrArg some (arrV_congr (fun j hj => congrArg Value.int (h j hj)))
theorem g_rel {x : GX} {k n : Nat} {ws : va_W} {pc : Nat} {lv : List (Nat × Value)} {st : List Value} (q0 : Nat) {a N : Nat} {cA : ClassId} {f : Nat → Int64} (f' : Nat → Int64) (ws' : va_W) (he : ws[q0]? = some (a, .inl (cA, N, .inr (.inl f)))) (h : ∀ j, j < N → f j = f' j) (hw : ws.set q0 (a, .inl (cA, N, .inr (.inl f'))) = ws') (g : GG x k n ws' pc lv st) : GG x k n ws pc lv st := by
  obtain ⟨p, l, e, R, s, m, args, below, meth, c, D, A, nL, Q⟩ := x
  subst hw
  intro H locs ls hP hD hS hl
  refine g H locs ls (va_P_re hP q0 he (fun z => ?_)) (hD.set he) hS hl
  have z1 : H[a]? = some (vp_cell cA (N, .inr (.inl f))) := z
  show H[a]? = some (vp_cell cA (N, .inr (.inl f')))
  rw [z1, vp_cell_l, vp_cell_l]
  exact congrArg some (arrV_congr (fun j hj => congrArg Value.long (h j hj)))
theorem tsw_out {x : Int32} {hi : Nat} (h : hi < 2 ^ 31) (hx : ∀ v, v ≤ hi → ¬ x = nI v) : x.toInt < 0 ∨ (hi : Int) < x.toInt := by
  by_cases q : x < 0
  · left
    have := Int32.lt_iff_toInt_lt.mp q
    simpa using this
  · right
    obtain ⟨j, hj, rfl⟩ := nI_of q
    rw [nI_toInt hj]
    have : ¬ j ≤ hi := fun z => hx j z rfl
    omega
