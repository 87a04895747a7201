/-! further rows over GG -/
theorem g_ldcw {x : GX} {l0 : Launch} {cc : ByteArray} {own : String} {Ts : List Cond} {E : EV} {rm : Room} {k n : Nat} {ws : va_W} {pc : Nat} {lv : List (Nat × Value)} {st : List Value} (C : CX x l0 cc own Ts E rm) {v : Int32} {i : Nat} (d : decode cc pc = .ok (.ldc_w i, 3)) (h : Cond.constant own i v ∈ Ts) (g : GG x k n ws (pc + 3) lv (.int v :: st)) : GG x k n ws pc lv st := by
  obtain ⟨p, l, e, R, s, m, args, below, meth, c, D, A, nL, Q⟩ := x
  obtain ⟨hx, hb, hml, hown, hts, hK, hA, hR, hDE, hSV, hl0⟩ := C
  exact fun H locs ls hP hD hS hl => lv_ldcw hx hb hown (hts _ h) d (g H locs ls hP hD hS hl)
