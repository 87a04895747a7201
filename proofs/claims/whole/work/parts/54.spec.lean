
/-! the text constant and its letters -/
def ftL : List Nat := [102, 48, 59, 102, 50, 59, 102, 53, 59, 115, 48, 44, 49, 44, 48, 44, 48, 59, 115, 49, 44, 48, 44, 51, 44, 49, 59, 115, 50, 44, 55, 44, 52, 44, 50, 59, 115, 51, 44, 48, 44, 49, 44, 48, 59, 115, 52, 44, 50, 44, 53, 44, 51, 59, 115, 49, 44, 52, 44, 49, 44, 49, 59, 115, 48, 44, 49, 48, 44, 48, 44, 52, 59, 115, 51, 44, 50, 44, 56, 44, 50, 59, 114, 51, 59]
def ftx (j : Nat) : Nat := ftL.getD j 0
theorem ft_by : ∀ j, j < 85 → firstBy.getD j 0 = nI (ftx j) := by decide +kernel
theorem ft_128 : ∀ j, j < 85 → ftx j < 128 := by decide +kernel
theorem ftx_lt (j : Nat) : ftx j < 2 ^ 16 := by
  by_cases h : j < 85
  · have := ft_128 j h; omega
  · rw [ftx, List.getD_eq_getElem?_getD, List.getElem?_eq_none (by show 85 ≤ j; omega)]; decide
theorem b255 : ∀ v, v < 128 → nI v &&& nI 255 = nI v := by decide +kernel
theorem i2c_n : ∀ v, v < 128 → ((nI v).toUInt32 % 65536).toInt32 = nI v := by decide +kernel
theorem cnar : ∀ v, v < 128 → vp_nar .char (nI v) = nI v := by decide +kernel
theorem ast_c {g : Nat → Nat} {i v : Nat} (h : i < 2 ^ 31) (hv : v < 128) : upd (fun j => nI (g j)) (nI i).toNatClampNeg (vp_nar .char (nI v)) = fun j => nI (va_up g i v j) := by
  rw [cnar v hv]; exact ast_n h
section STRS
variable {x : GX} {l0 : Launch} {cc : ByteArray} {own : String} {Ts : List Cond} {E : EV} {rm : Room} {k n : Nat} {ws : va_W} {pc : Nat} {lv : List (Nat × Value)} {st : List Value}
theorem g_cs (C : CX x l0 cc own Ts E rm) {i : Nat} (hlink : Cond.fieldLink own i "java/lang/String" "COMPACT_STRINGS" "Z" ∈ Ts) (d : decode cc pc = .ok (.getstatic i, 3)) (g : GG x k n ws (pc + 3) lv (.int (nI 1) :: st)) : GG x k n ws pc lv st := by
  obtain ⟨p, l, e, R, s, m, args, below, meth, c, D, A, nL, Q⟩ := x
  obtain ⟨hx, hb, hml, hown, hts, hK, hA, hR, hDE, hSV, hl0⟩ := C
  exact fun H locs ls hP hD hS hl => va_gets hx hb hSV.1.2.2.1 hS hown (hts _ hlink) (fun _ h9 => h9) d (g H locs ls hP hD hS hl)
theorem g_scod (C : CX x l0 cc own Ts E rm) {i : Nat} (hlink : Cond.fieldLink own i "java/lang/String" "coder" "B" ∈ Ts) (d : decode cc pc = .ok (.getfield i, 3)) (g : GG x k n ws (pc + 3) lv (.int (nI 0) :: st)) : GG x k n ws pc lv (.ref (E.2.2.2.1 0) :: st) := by
  obtain ⟨p, l, e, R, s, m, args, below, meth, c, D, A, nL, Q⟩ := x
  obtain ⟨hx, hb, hml, hown, hts, hK, hA, hR, hDE, hSV, hl0⟩ := C
  exact fun H locs ls hP hD hS hl => vk_getf hx hb (hSV.1.2.2.2.1 0 (by decide)).2.1 hS hown (hts _ hlink) (fun _ h9 => h9) d (g H locs ls hP hD hS hl)
theorem g_sval (C : CX x l0 cc own Ts E rm) {i : Nat} (hlink : Cond.fieldLink own i "java/lang/String" "value" "[B" ∈ Ts) (d : decode cc pc = .ok (.getfield i, 3)) (g : GG x k n ws (pc + 3) lv (.ref (E.2.2.2.2 0) :: st)) : GG x k n ws pc lv (.ref (E.2.2.2.1 0) :: st) := by
  obtain ⟨p, l, e, R, s, m, args, below, meth, c, D, A, nL, Q⟩ := x
  obtain ⟨hx, hb, hml, hown, hts, hK, hA, hR, hDE, hSV, hl0⟩ := C
  exact fun H locs ls hP hD hS hl => vk_getf hx hb (hSV.1.2.2.2.1 0 (by decide)).2.2.1 hS hown (hts _ hlink) (fun _ h9 => h9) d (g H locs ls hP hD hS hl)
theorem g_slen (C : CX x l0 cc own Ts E rm) (d : decode cc pc = .ok (.arraylength, 1)) (g : GG x k n ws (pc + 1) lv (.int (nI 85) :: st)) : GG x k n ws pc lv (.ref (E.2.2.2.2 0) :: st) := by
  obtain ⟨p, l, e, R, s, m, args, below, meth, c, D, A, nL, Q⟩ := x
  obtain ⟨hx, hb, hml, hown, hts, hK, hA, hR, hDE, hSV, hl0⟩ := C
  exact fun H locs ls hP hD hS hl => va_tlen hx hb (hSV.1.2.2.2.1 0 (by decide)).2.2.2 hS rfl d (g H locs ls hP hD hS hl)
theorem g_sbald (C : CX x l0 cc own Ts E rm) {i : Nat} (hi : i < 85) (d : decode cc pc = .ok (.baload, 1)) (g : GG x k n ws (pc + 1) lv (.int (nI (ftx i)) :: st)) : GG x k n ws pc lv (.int (nI i) :: .ref (E.2.2.2.2 0) :: st) := by
  obtain ⟨p, l, e, R, s, m, args, below, meth, c, D, A, nL, Q⟩ := x
  obtain ⟨hx, hb, hml, hown, hts, hK, hA, hR, hDE, hSV, hl0⟩ := C
  exact fun H locs ls hP hD hS hl => va_tb hx hb (hSV.1.2.2.2.1 0 (by decide)).2.2.2 hS (show vp_in (nI i) 85 from vp_in_nI hi (by decide)) (v := .int (nI (ftx i))) (by rw [nI_clamp (by omega)]; exact congrArg Value.int (ft_by i hi)) d (g H locs ls hP hD hS hl)
variable {y : MethodName} {bytes : ByteArray} {maxL mc ms index : Nat} {ret : Option FieldType} {wc ws' : List Cond} {rm' : Room} {Qc : Nat → Array Value → State → Outcome → State → Prop} {pre wr : va_W} {isC isR : List Nat}
theorem g_runVs (C : CX x l0 cc own Ts E rm) (hcut : CUT ws pre wr isC isR) (As rest : List Value) (hM : ∀ sz : Nat, Met l0 y wc rm' (va_Pc (.ref (E.2.2.2.1 0) :: As) (PRE E pre sz)) (Qc sz) mc ms (va_A pre sz)) (hG : GoodIn Ts (wsV own index "java/lang/String" y wc)) (hw : wc = Cond.code y bytes maxL ret :: ws') (hrc : rm'.cells = mc) (hrs : rm'.slots = ms) (hd : y.cls = "java/lang/String" ∧ y.cls ≠ "java/lang/invoke/MethodHandle" ∧ y.cls ≠ "java/lang/invoke/VarHandle" ∧ (parseMethodDescriptor y.desc).map (fun d => d.parameters.length) = some As.length) (hRm : decide (rm'.frames + 1 ≤ rm.frames ∧ 8 + (maxL + 11) + rm'.locals ≤ rm.locals) = true) (hst : st = As.reverse ++ .ref (E.2.2.2.1 0) :: rest) (d : decode cc pc = .ok (.invokevirtual index, 3)) (hcat : decide ((rest.map fun v => v.category).sum ≤ 8) = true) (hf : k + mc ≤ rm.cells ∧ n + ms ≤ rm.slots) : RN x k n ws pc lv st rest (Value.ref (E.2.2.2.1 0) :: As).toArray pre Qc mc ms := by
  obtain ⟨p, l, e, R, s, m, args, below, meth, c, D, A, nL, Q⟩ := x
  obtain ⟨hx, hb, hml, hown, hts, hK, hA, hR, hDE, hSV, hl0⟩ := C
  subst hDE
  subst hl0
  intro H locs ls hP hD hS hl
  have hPc := part_P hP isC hcut.1
  have hDc := hD.sub isC hcut.2.2.1 hcut.1
  have hFc := va_free (wc := pre) hD hS hA isC hcut.1
  exact va_runV (As := As) (rest := rest) ⟨hx, hb, hml, hown, hts⟩ (hM H.size) (cwV As.length hts hG hw hrc hrs hd (by rw [hR]; exact of_decide_eq_true hRm)) ⟨PRE.blind, vk_recv hSV.1.2.2.2 (by decide) hS, fun U hU hW => ⟨rfl, by rw [hU], by rw [hU]; exact hPc, va_K.moved hW.alike hK, hDc.weaken (fun _ _ _ _ => trivial), by rw [hU]; exact SZ.moved hW.alike ((hSV.1.kept hS.2.1).narrow hFc), SN.warm hW hSV.2⟩⟩ rfl rfl hl.1 hst (lv_room (of_decide_eq_true hcat)) d (by rw [hR]; exact hf)
end STRS

