/-! GG: the machine at a pc, with the world ws, the locals lv, the stack st, comes to its end Q; all that stays the same in a method lies in x -/
abbrev GX : Type := Program × Launch × Env × Room × State × MethodId × Array Value × List Frame × Method × Code × va_G × (Nat → Prop) × Nat × (State → Prop)
/-- what stays the same in a run: where the classes lie, the array classes, the array WORLDS_OF_FACT, the text constant and its bytes -/
abbrev EV : Type := va_G × (Nat → ClassId) × Nat × (Nat → Nat) × (Nat → Nat)
def tysE (E : EV) : List (ClassId × FieldType) := [(E.2.1 0, .int), (E.2.1 1, .long), (E.2.1 2, .char), (E.2.1 3, .boolean), (E.2.1 4, .object "LieForce$Force")]
def wofL : List Int64 := [-6148914691236517206, -3689348814741910324, -1085102592571150096, -71777214294589696, -281470681808896, -4294967296]
def wofV (j : Nat) : Value := .long (wofL.getD j 0)
def firstTx : String := "f0;f2;f5;s0,1,0,0;s1,0,3,1;s2,7,4,2;s3,0,1,0;s4,2,5,3;s1,4,1,1;s0,10,0,4;s3,2,8,2;r3;"
def firstBy : List Int32 := [102, 48, 59, 102, 50, 59, 102, 53, 59, 115, 48, 44, 49, 44, 48, 44, 48, 59, 115, 49, 44, 48, 44, 51, 44, 49, 59, 115, 50, 44, 55, 44, 52, 44, 50, 59, 115, 51, 44, 48, 44, 49, 44, 48, 59, 115, 52, 44, 50, 44, 53, 44, 51, 59, 115, 49, 44, 52, 44, 49, 44, 49, 59, 115, 48, 44, 49, 48, 44, 48, 44, 52, 59, 115, 51, 44, 50, 44, 56, 44, 50, 59, 114, 51, 59]
/-- links across the nest: own class, place, method; the host is LieForce -/
def nestT : List (String × Nat × MethodName) := [("LieForce", 15, ⟨"LieForce$Reader", "<init>", "()V"⟩), ("LieForce", 30, ⟨"LieForce$Force", "<init>", "()V"⟩), ("LieForce$Force", 97, ⟨"LieForce", "isFact", "(I)Z"⟩), ("LieForce$Force", 55, ⟨"LieForce", "isAmong", "(JI)Z"⟩), ("LieForce$Reader", 50, ⟨"LieForce", "isFact", "(I)Z"⟩), ("LieForce$Reader", 57, ⟨"LieForce", "isWithin", "(III)Z"⟩), ("LieForce$Reader", 61, ⟨"LieForce", "isSaying", "(IIII)Z"⟩), ("LieForce$Force", 47, ⟨"LieForce", "worldsOfSaying", "(III)J"⟩), ("LieForce$Pile", 15, ⟨"LieForce$Force", "<init>", "()V"⟩), ("LieForce", 48, ⟨"LieForce$Sight", "<init>", "()V"⟩), ("LieForce", 55, ⟨"LieForce$Game", "<init>", "()V"⟩), ("LieForce$Force", 88, ⟨"LieForce", "isBitOf", "(II)Z"⟩), ("LieForce$Game", 45, ⟨"LieForce", "isWithin", "(III)Z"⟩), ("LieForce$Force", 93, ⟨"LieForce", "asNumber", "(Z)I"⟩)]
def GG (x : GX) (k n : Nat) (ws : va_W) (pc : Nat) (lv : List (Nat × Value)) (st : List Value) : Prop := match x with
  | (p, l, e, R, s, m, args, below, meth, c, D, A, nL, Q) => ∀ (H : Heap) (locs : List Loc) (ls : Array Slot), va_P D vwCl ws H → va_D A ws → va_S A s.heap H locs → lv_has ls nL lv → W p l e R s m args below meth c H locs k n Q (F0 m pc ls st)
def SZ (E : EV) (A : Nat → Prop) (U : State) (H : Heap) : Prop := va_Z "LieForce" "WORLDS_OF_FACT" "[J" (.ref E.2.2.1) A U H ∧ va_T .long E.2.2.1 6 wofV A U H ∧ va_Z "java/lang/String" "COMPACT_STRINGS" "Z" (.int 1) A U H ∧ vk_S 1 [85] [firstBy] E.2.2.2.1 E.2.2.2.2 A U H
def SN (E : EV) (U : State) : Prop := vk_R "LieForce" 60 firstTx (E.2.2.2.1 0) U ∧ ∀ q ∈ nestT, va_Nw (.methodLinkNest q.1 q.2.1 q.2.2 "LieForce") U
def SV (E : EV) (A : Nat → Prop) (U : State) (H : Heap) : Prop := SZ E A U H ∧ SN E U
theorem SZ.moved {E : EV} {A : Nat → Prop} {u U : State} {H : Heap} (hvm : u.vm.Alike U.vm) (h : SZ E A u H) : SZ E A U H := ⟨h.1.moved hvm, h.2.1.moved hvm, h.2.2.1.moved hvm, h.2.2.2.moved hvm⟩
theorem SZ.kept {E : EV} {A : Nat → Prop} {U : State} {H H1 : Heap} (h : SZ E A U H) (hq : ∀ a : Nat, a < H.size → ¬ A a → H1[a]? = H[a]?) : SZ E A U H1 := ⟨h.1.kept hq, h.2.1.kept hq, h.2.2.1.kept hq, h.2.2.2.kept hq⟩
theorem SZ.narrow {E : EV} {A B : Nat → Prop} {U : State} {H : Heap} (h : SZ E A U H) (hAB : ∀ q, B q → A q) : SZ E B U H := ⟨h.1.narrow hAB, h.2.1.narrow hAB, h.2.2.1.narrow hAB, h.2.2.2.narrow hAB⟩
theorem SN.warm {E : EV} {s U : State} (hW : s.WarmedH U.vm) (h : SN E s) : SN E U := ⟨h.1.warm hW, fun q hq => (h.2 q hq).warmM hW⟩
theorem SN.same {E : EV} {u U : State} (hv : U.vm = u.vm) (h : SN E u) : SN E U := ⟨h.1.same hv, fun q hq => va_Nw.same rfl hv.symm (h.2 q hq)⟩
def CX (x : GX) (l0 : Launch) (cc : ByteArray) (own : String) (Ts : List Cond) (E : EV) (rm : Room) : Prop := match x with
  | (p, l, _, R, s, m, args, _, _, c, D, A, nL, _) => p.tables.exec = Jvm.exec ∧ c.code = cc ∧ c.maxLocals = nL ∧ s.vm.findClass own = some m.cls ∧ (∀ w ∈ Ts, w.before args s = true) ∧ va_K D vwCl (tysE E) s ∧ (∀ q, s.heap.size ≤ q → A q) ∧ R = rm ∧ D = E.1 ∧ SV E A s s.heap ∧ l = l0
def c_nL (x : GX) : Nat := x.2.2.2.2.2.2.2.2.2.2.2.2.1
section GLIB
variable {x : GX} {l0 : Launch} {cc : ByteArray} {own : String} {Ts : List Cond} {E : EV} {rm : Room} {k n : Nat} {ws : va_W} {pc : Nat} {lv : List (Nat × Value)} {st : List Value}
theorem g_iconst (C : CX x l0 cc own Ts E rm) {z : Int} (v : Int32) (d : decode cc pc = .ok (.iconst z, 1)) (h : Int32.ofInt z = v) (g : GG x k n ws (pc + 1) lv (.int v :: st)) : GG x k n ws pc lv (st) := by
  obtain ⟨p, l, e, R, s, m, args, below, meth, c, D, A, nL, Q⟩ := x
  obtain ⟨hx, hb, hml, hown, hts, hK, hA, hR, hDE, hSV, hl0⟩ := C
  exact fun H locs ls hP hD hS hl => lv_iconst hx hb d h (g H locs ls hP hD hS hl)
theorem g_bipush (C : CX x l0 cc own Ts E rm) {z : Int} (v : Int32) (d : decode cc pc = .ok (.bipush z, 2)) (h : (Int8.ofInt z).toInt32 = v) (g : GG x k n ws (pc + 2) lv (.int v :: st)) : GG x k n ws pc lv (st) := by
  obtain ⟨p, l, e, R, s, m, args, below, meth, c, D, A, nL, Q⟩ := x
  obtain ⟨hx, hb, hml, hown, hts, hK, hA, hR, hDE, hSV, hl0⟩ := C
  exact fun H locs ls hP hD hS hl => lv_bipush hx hb d h (g H locs ls hP hD hS hl)
theorem g_sipush (C : CX x l0 cc own Ts E rm) {z : Int} (v : Int32) (d : decode cc pc = .ok (.sipush z, 3)) (h : (Int16.ofInt z).toInt32 = v) (g : GG x k n ws (pc + 3) lv (.int v :: st)) : GG x k n ws pc lv (st) := by
  obtain ⟨p, l, e, R, s, m, args, below, meth, c, D, A, nL, Q⟩ := x
  obtain ⟨hx, hb, hml, hown, hts, hK, hA, hR, hDE, hSV, hl0⟩ := C
  exact fun H locs ls hP hD hS hl => lv_sipush hx hb d h (g H locs ls hP hD hS hl)
theorem g_lconst (C : CX x l0 cc own Ts E rm) {z : Fin 2} (v : Int64) (d : decode cc pc = .ok (.lconst z, 1)) (h : Int64.ofNat (z : Nat) = v) (g : GG x k n ws (pc + 1) lv (.long v :: st)) : GG x k n ws pc lv (st) := by
  obtain ⟨p, l, e, R, s, m, args, below, meth, c, D, A, nL, Q⟩ := x
  obtain ⟨hx, hb, hml, hown, hts, hK, hA, hR, hDE, hSV, hl0⟩ := C
  exact fun H locs ls hP hD hS hl => lv_lconst hx hb d h (g H locs ls hP hD hS hl)
theorem g_ldc (C : CX x l0 cc own Ts E rm) {v : Int32} {i : Nat} (d : decode cc pc = .ok (.ldc i, 2)) (h : Cond.constant own i v ∈ Ts) (g : GG x k n ws (pc + 2) lv (.int v :: st)) : GG x k n ws pc lv (st) := by
  obtain ⟨p, l, e, R, s, m, args, below, meth, c, D, A, nL, Q⟩ := x
  obtain ⟨hx, hb, hml, hown, hts, hK, hA, hR, hDE, hSV, hl0⟩ := C
  exact fun H locs ls hP hD hS hl => lv_ldc hx hb hown (hts _ h) d (g H locs ls hP hD hS hl)
theorem g_ldc2 (C : CX x l0 cc own Ts E rm) {v : Int64} {i : Nat} (d : decode cc pc = .ok (.ldc2_w i, 3)) (h : Cond.constantLong own i v ∈ Ts) (g : GG x k n ws (pc + 3) lv (.long v :: st)) : GG x k n ws pc lv (st) := by
  obtain ⟨p, l, e, R, s, m, args, below, meth, c, D, A, nL, Q⟩ := x
  obtain ⟨hx, hb, hml, hown, hts, hK, hA, hR, hDE, hSV, hl0⟩ := C
  exact fun H locs ls hP hD hS hl => lv_ldc2 hx hb hown (hts _ h) d (g H locs ls hP hD hS hl)
theorem g_iload_n (C : CX x l0 cc own Ts E rm) {j : Fin 4} {v : Int32} (d : decode cc pc = .ok (.iload_n j, 1)) (q : Nat) (h : lv[q]? = some ((j : Nat), .int v)) (g : GG x k n ws (pc + 1) lv (.int v :: st)) : GG x k n ws pc lv (st) := by
  obtain ⟨p, l, e, R, s, m, args, below, meth, c, D, A, nL, Q⟩ := x
  obtain ⟨hx, hb, hml, hown, hts, hK, hA, hR, hDE, hSV, hl0⟩ := C
  exact fun H locs ls hP hD hS hl => lv_iload_n hx hb d rfl (lv_at hl q h) (g H locs ls hP hD hS hl)
theorem g_iload (C : CX x l0 cc own Ts E rm) {j : Nat} {v : Int32} (d : decode cc pc = .ok (.iload j, 2)) (q : Nat) (h : lv[q]? = some (j, .int v)) (g : GG x k n ws (pc + 2) lv (.int v :: st)) : GG x k n ws pc lv (st) := by
  obtain ⟨p, l, e, R, s, m, args, below, meth, c, D, A, nL, Q⟩ := x
  obtain ⟨hx, hb, hml, hown, hts, hK, hA, hR, hDE, hSV, hl0⟩ := C
  exact fun H locs ls hP hD hS hl => lv_iload hx hb d (lv_at hl q h) (g H locs ls hP hD hS hl)
theorem g_istore_n (C : CX x l0 cc own Ts E rm) {jj : Fin 4} {j : Nat} {v : Int32} (lv' : List (Nat × Value)) (d : decode cc pc = .ok (.istore_n jj, 1)) (hi : (jj : Nat) = j) (hn : decide (j < c_nL x) = true) (h : (j, Value.int v) :: lv.filter (fun q => !(q.1 == j) && !(q.1 + 1 == j && q.2.category == 2)) = lv') (g : GG x k n ws (pc + 1) lv' st) : GG x k n ws pc lv (.int v :: st) := by
  obtain ⟨p, l, e, R, s, m, args, below, meth, c, D, A, nL, Q⟩ := x
  obtain ⟨hx, hb, hml, hown, hts, hK, hA, hR, hDE, hSV, hl0⟩ := C
  exact fun H locs ls hP hD hS hl => lv_istore_n hx hb d hi hl (of_decide_eq_true hn) h (fun ls hl => g H locs ls hP hD hS hl)
theorem g_istore (C : CX x l0 cc own Ts E rm)  {j : Nat} {v : Int32} (lv' : List (Nat × Value)) (d : decode cc pc = .ok (.istore j, 2)) (hn : decide (j < c_nL x) = true) (h : (j, Value.int v) :: lv.filter (fun q => !(q.1 == j) && !(q.1 + 1 == j && q.2.category == 2)) = lv') (g : GG x k n ws (pc + 2) lv' st) : GG x k n ws pc lv (.int v :: st) := by
  obtain ⟨p, l, e, R, s, m, args, below, meth, c, D, A, nL, Q⟩ := x
  obtain ⟨hx, hb, hml, hown, hts, hK, hA, hR, hDE, hSV, hl0⟩ := C
  exact fun H locs ls hP hD hS hl => lv_istore hx hb d hl (of_decide_eq_true hn) h (fun ls hl => g H locs ls hP hD hS hl)
theorem g_lload_n (C : CX x l0 cc own Ts E rm) {j : Fin 4} {v : Int64} (d : decode cc pc = .ok (.lload_n j, 1)) (q : Nat) (h : lv[q]? = some ((j : Nat), .long v)) (g : GG x k n ws (pc + 1) lv (.long v :: st)) : GG x k n ws pc lv (st) := by
  obtain ⟨p, l, e, R, s, m, args, below, meth, c, D, A, nL, Q⟩ := x
  obtain ⟨hx, hb, hml, hown, hts, hK, hA, hR, hDE, hSV, hl0⟩ := C
  exact fun H locs ls hP hD hS hl => lv_lload_n hx hb d rfl (lv_at hl q h) (g H locs ls hP hD hS hl)
theorem g_lload (C : CX x l0 cc own Ts E rm) {j : Nat} {v : Int64} (d : decode cc pc = .ok (.lload j, 2)) (q : Nat) (h : lv[q]? = some (j, .long v)) (g : GG x k n ws (pc + 2) lv (.long v :: st)) : GG x k n ws pc lv (st) := by
  obtain ⟨p, l, e, R, s, m, args, below, meth, c, D, A, nL, Q⟩ := x
  obtain ⟨hx, hb, hml, hown, hts, hK, hA, hR, hDE, hSV, hl0⟩ := C
  exact fun H locs ls hP hD hS hl => lv_lload hx hb d (lv_at hl q h) (g H locs ls hP hD hS hl)
theorem g_lstore_n (C : CX x l0 cc own Ts E rm) {jj : Fin 4} {j : Nat} {v : Int64} (lv' : List (Nat × Value)) (d : decode cc pc = .ok (.lstore_n jj, 1)) (hi : (jj : Nat) = j) (hn : decide (j + 1 < c_nL x) = true) (h : (j, Value.long v) :: lv.filter (fun q => !(q.1 == j) && (!(q.1 == j + 1) && !(q.1 + 1 == j && q.2.category == 2))) = lv') (g : GG x k n ws (pc + 1) lv' st) : GG x k n ws pc lv (.long v :: st) := by
  obtain ⟨p, l, e, R, s, m, args, below, meth, c, D, A, nL, Q⟩ := x
  obtain ⟨hx, hb, hml, hown, hts, hK, hA, hR, hDE, hSV, hl0⟩ := C
  exact fun H locs ls hP hD hS hl => lv_lstore_n hx hb d hi hl (of_decide_eq_true hn) h (fun ls hl => g H locs ls hP hD hS hl)
theorem g_lstore (C : CX x l0 cc own Ts E rm)  {j : Nat} {v : Int64} (lv' : List (Nat × Value)) (d : decode cc pc = .ok (.lstore j, 2)) (hn : decide (j + 1 < c_nL x) = true) (h : (j, Value.long v) :: lv.filter (fun q => !(q.1 == j) && (!(q.1 == j + 1) && !(q.1 + 1 == j && q.2.category == 2))) = lv') (g : GG x k n ws (pc + 2) lv' st) : GG x k n ws pc lv (.long v :: st) := by
  obtain ⟨p, l, e, R, s, m, args, below, meth, c, D, A, nL, Q⟩ := x
  obtain ⟨hx, hb, hml, hown, hts, hK, hA, hR, hDE, hSV, hl0⟩ := C
  exact fun H locs ls hP hD hS hl => lv_lstore hx hb d hl (of_decide_eq_true hn) h (fun ls hl => g H locs ls hP hD hS hl)
theorem g_aload_n (C : CX x l0 cc own Ts E rm) {j : Fin 4} {v : Nat} (d : decode cc pc = .ok (.aload_n j, 1)) (q : Nat) (h : lv[q]? = some ((j : Nat), .ref v)) (g : GG x k n ws (pc + 1) lv (.ref v :: st)) : GG x k n ws pc lv (st) := by
  obtain ⟨p, l, e, R, s, m, args, below, meth, c, D, A, nL, Q⟩ := x
  obtain ⟨hx, hb, hml, hown, hts, hK, hA, hR, hDE, hSV, hl0⟩ := C
  exact fun H locs ls hP hD hS hl => lv_aload_n hx hb d rfl (lv_at hl q h) (g H locs ls hP hD hS hl)
theorem g_aload (C : CX x l0 cc own Ts E rm) {j : Nat} {v : Nat} (d : decode cc pc = .ok (.aload j, 2)) (q : Nat) (h : lv[q]? = some (j, .ref v)) (g : GG x k n ws (pc + 2) lv (.ref v :: st)) : GG x k n ws pc lv (st) := by
  obtain ⟨p, l, e, R, s, m, args, below, meth, c, D, A, nL, Q⟩ := x
  obtain ⟨hx, hb, hml, hown, hts, hK, hA, hR, hDE, hSV, hl0⟩ := C
  exact fun H locs ls hP hD hS hl => lv_aload hx hb d (lv_at hl q h) (g H locs ls hP hD hS hl)
theorem g_astore_n (C : CX x l0 cc own Ts E rm) {jj : Fin 4} {j : Nat} {v : Nat} (lv' : List (Nat × Value)) (d : decode cc pc = .ok (.astore_n jj, 1)) (hi : (jj : Nat) = j) (hn : decide (j < c_nL x) = true) (h : (j, Value.ref v) :: lv.filter (fun q => !(q.1 == j) && !(q.1 + 1 == j && q.2.category == 2)) = lv') (g : GG x k n ws (pc + 1) lv' st) : GG x k n ws pc lv (.ref v :: st) := by
  obtain ⟨p, l, e, R, s, m, args, below, meth, c, D, A, nL, Q⟩ := x
  obtain ⟨hx, hb, hml, hown, hts, hK, hA, hR, hDE, hSV, hl0⟩ := C
  exact fun H locs ls hP hD hS hl => lv_astore_n hx hb d hi hl (of_decide_eq_true hn) h (fun ls hl => g H locs ls hP hD hS hl)
theorem g_astore (C : CX x l0 cc own Ts E rm)  {j : Nat} {v : Nat} (lv' : List (Nat × Value)) (d : decode cc pc = .ok (.astore j, 2)) (hn : decide (j < c_nL x) = true) (h : (j, Value.ref v) :: lv.filter (fun q => !(q.1 == j) && !(q.1 + 1 == j && q.2.category == 2)) = lv') (g : GG x k n ws (pc + 2) lv' st) : GG x k n ws pc lv (.ref v :: st) := by
  obtain ⟨p, l, e, R, s, m, args, below, meth, c, D, A, nL, Q⟩ := x
  obtain ⟨hx, hb, hml, hown, hts, hK, hA, hR, hDE, hSV, hl0⟩ := C
  exact fun H locs ls hP hD hS hl => lv_astore hx hb d hl (of_decide_eq_true hn) h (fun ls hl => g H locs ls hP hD hS hl)
theorem g_iinc (C : CX x l0 cc own Ts E rm) {j : Nat} {z : Int} {a : Int32} (v : Int32) (lv' : List (Nat × Value)) (d : decode cc pc = .ok (.iinc j z, 3)) (q : Nat) (hq : lv[q]? = some (j, .int a)) (hv : a + Int32.ofInt z = v) (hn : decide (j < c_nL x) = true) (h : (j, Value.int v) :: lv.filter (fun q => !(q.1 == j) && !(q.1 + 1 == j && q.2.category == 2)) = lv') (g : GG x k n ws (pc + 3) lv' st) : GG x k n ws pc lv st := by
  obtain ⟨p, l, e, R, s, m, args, below, meth, c, D, A, nL, Q⟩ := x
  obtain ⟨hx, hb, hml, hown, hts, hK, hA, hR, hDE, hSV, hl0⟩ := C
  exact fun H locs ls hP hD hS hl => lv_iinc hx hb d hl hq hv (of_decide_eq_true hn) h (fun ls hl => g H locs ls hP hD hS hl)
theorem g_iadd (C : CX x l0 cc own Ts E rm) {a b : Int32} (v : Int32) (d : decode cc pc = .ok (.iadd, 1)) (h : a + b = v) (g : GG x k n ws (pc + 1) lv (.int v :: st)) : GG x k n ws pc lv (.int b :: .int a :: st) := by
  obtain ⟨p, l, e, R, s, m, args, below, meth, c, D, A, nL, Q⟩ := x
  obtain ⟨hx, hb, hml, hown, hts, hK, hA, hR, hDE, hSV, hl0⟩ := C
  subst h
  exact fun H locs ls hP hD hS hl => lv_iadd hx hb d (g H locs ls hP hD hS hl)
theorem g_isub (C : CX x l0 cc own Ts E rm) {a b : Int32} (v : Int32) (d : decode cc pc = .ok (.isub, 1)) (h : a - b = v) (g : GG x k n ws (pc + 1) lv (.int v :: st)) : GG x k n ws pc lv (.int b :: .int a :: st) := by
  obtain ⟨p, l, e, R, s, m, args, below, meth, c, D, A, nL, Q⟩ := x
  obtain ⟨hx, hb, hml, hown, hts, hK, hA, hR, hDE, hSV, hl0⟩ := C
  subst h
  exact fun H locs ls hP hD hS hl => lv_isub hx hb d (g H locs ls hP hD hS hl)
theorem g_imul (C : CX x l0 cc own Ts E rm) {a b : Int32} (v : Int32) (d : decode cc pc = .ok (.imul, 1)) (h : a * b = v) (g : GG x k n ws (pc + 1) lv (.int v :: st)) : GG x k n ws pc lv (.int b :: .int a :: st) := by
  obtain ⟨p, l, e, R, s, m, args, below, meth, c, D, A, nL, Q⟩ := x
  obtain ⟨hx, hb, hml, hown, hts, hK, hA, hR, hDE, hSV, hl0⟩ := C
  subst h
  exact fun H locs ls hP hD hS hl => lv_imul hx hb d (g H locs ls hP hD hS hl)
theorem g_iand (C : CX x l0 cc own Ts E rm) {a b : Int32} (v : Int32) (d : decode cc pc = .ok (.iand, 1)) (h : a &&& b = v) (g : GG x k n ws (pc + 1) lv (.int v :: st)) : GG x k n ws pc lv (.int b :: .int a :: st) := by
  obtain ⟨p, l, e, R, s, m, args, below, meth, c, D, A, nL, Q⟩ := x
  obtain ⟨hx, hb, hml, hown, hts, hK, hA, hR, hDE, hSV, hl0⟩ := C
  subst h
  exact fun H locs ls hP hD hS hl => lv_iand hx hb d (g H locs ls hP hD hS hl)
theorem g_ior (C : CX x l0 cc own Ts E rm) {a b : Int32} (v : Int32) (d : decode cc pc = .ok (.ior, 1)) (h : a ||| b = v) (g : GG x k n ws (pc + 1) lv (.int v :: st)) : GG x k n ws pc lv (.int b :: .int a :: st) := by
  obtain ⟨p, l, e, R, s, m, args, below, meth, c, D, A, nL, Q⟩ := x
  obtain ⟨hx, hb, hml, hown, hts, hK, hA, hR, hDE, hSV, hl0⟩ := C
  subst h
  exact fun H locs ls hP hD hS hl => lv_ior hx hb d (g H locs ls hP hD hS hl)
theorem g_ixor (C : CX x l0 cc own Ts E rm) {a b : Int32} (v : Int32) (d : decode cc pc = .ok (.ixor, 1)) (h : a ^^^ b = v) (g : GG x k n ws (pc + 1) lv (.int v :: st)) : GG x k n ws pc lv (.int b :: .int a :: st) := by
  obtain ⟨p, l, e, R, s, m, args, below, meth, c, D, A, nL, Q⟩ := x
  obtain ⟨hx, hb, hml, hown, hts, hK, hA, hR, hDE, hSV, hl0⟩ := C
  subst h
  exact fun H locs ls hP hD hS hl => lv_ixor hx hb d (g H locs ls hP hD hS hl)
theorem g_ishl (C : CX x l0 cc own Ts E rm) {a b : Int32} (v : Int32) (d : decode cc pc = .ok (.ishl, 1)) (h : a <<< (b &&& 31) = v) (g : GG x k n ws (pc + 1) lv (.int v :: st)) : GG x k n ws pc lv (.int b :: .int a :: st) := by
  obtain ⟨p, l, e, R, s, m, args, below, meth, c, D, A, nL, Q⟩ := x
  obtain ⟨hx, hb, hml, hown, hts, hK, hA, hR, hDE, hSV, hl0⟩ := C
  subst h
  exact fun H locs ls hP hD hS hl => lv_ishl hx hb d (g H locs ls hP hD hS hl)
theorem g_ishr (C : CX x l0 cc own Ts E rm) {a b : Int32} (v : Int32) (d : decode cc pc = .ok (.ishr, 1)) (h : a >>> (b &&& 31) = v) (g : GG x k n ws (pc + 1) lv (.int v :: st)) : GG x k n ws pc lv (.int b :: .int a :: st) := by
  obtain ⟨p, l, e, R, s, m, args, below, meth, c, D, A, nL, Q⟩ := x
  obtain ⟨hx, hb, hml, hown, hts, hK, hA, hR, hDE, hSV, hl0⟩ := C
  subst h
  exact fun H locs ls hP hD hS hl => lv_ishr hx hb d (g H locs ls hP hD hS hl)
theorem g_idiv (C : CX x l0 cc own Ts E rm) {a b : Int32} (v : Int32) (d : decode cc pc = .ok (.idiv, 1)) (h0 : ¬ b = 0) (h : a / b = v) (g : GG x k n ws (pc + 1) lv (.int v :: st)) : GG x k n ws pc lv (.int b :: .int a :: st) := by
  obtain ⟨p, l, e, R, s, m, args, below, meth, c, D, A, nL, Q⟩ := x
  obtain ⟨hx, hb, hml, hown, hts, hK, hA, hR, hDE, hSV, hl0⟩ := C
  subst h
  exact fun H locs ls hP hD hS hl => lv_idiv hx hb d h0 (g H locs ls hP hD hS hl)
theorem g_irem (C : CX x l0 cc own Ts E rm) {a b : Int32} (v : Int32) (d : decode cc pc = .ok (.irem, 1)) (h0 : ¬ b = 0) (h : a - a / b * b = v) (g : GG x k n ws (pc + 1) lv (.int v :: st)) : GG x k n ws pc lv (.int b :: .int a :: st) := by
  obtain ⟨p, l, e, R, s, m, args, below, meth, c, D, A, nL, Q⟩ := x
  obtain ⟨hx, hb, hml, hown, hts, hK, hA, hR, hDE, hSV, hl0⟩ := C
  subst h
  exact fun H locs ls hP hD hS hl => lv_irem hx hb d h0 (g H locs ls hP hD hS hl)
theorem g_iushr (C : CX x l0 cc own Ts E rm) {a b : Int32} (v : Int32) (d : decode cc pc = .ok (.iushr, 1)) (h : (a.toUInt32 >>> (b.toUInt32 &&& Int32.toUInt32 31)).toInt32 = v) (g : GG x k n ws (pc + 1) lv (.int v :: st)) : GG x k n ws pc lv (.int b :: .int a :: st) := by
  obtain ⟨p, l, e, R, s, m, args, below, meth, c, D, A, nL, Q⟩ := x
  obtain ⟨hx, hb, hml, hown, hts, hK, hA, hR, hDE, hSV, hl0⟩ := C
  exact fun H locs ls hP hD hS hl => lv_iushr hx hb d h (g H locs ls hP hD hS hl)
theorem g_ladd (C : CX x l0 cc own Ts E rm) {a b : Int64} (v : Int64) (d : decode cc pc = .ok (.ladd, 1)) (h : a + b = v) (g : GG x k n ws (pc + 1) lv (.long v :: st)) : GG x k n ws pc lv (.long b :: .long a :: st) := by
  obtain ⟨p, l, e, R, s, m, args, below, meth, c, D, A, nL, Q⟩ := x
  obtain ⟨hx, hb, hml, hown, hts, hK, hA, hR, hDE, hSV, hl0⟩ := C
  subst h
  exact fun H locs ls hP hD hS hl => lv_ladd hx hb d (g H locs ls hP hD hS hl)
theorem g_lsub (C : CX x l0 cc own Ts E rm) {a b : Int64} (v : Int64) (d : decode cc pc = .ok (.lsub, 1)) (h : a - b = v) (g : GG x k n ws (pc + 1) lv (.long v :: st)) : GG x k n ws pc lv (.long b :: .long a :: st) := by
  obtain ⟨p, l, e, R, s, m, args, below, meth, c, D, A, nL, Q⟩ := x
  obtain ⟨hx, hb, hml, hown, hts, hK, hA, hR, hDE, hSV, hl0⟩ := C
  subst h
  exact fun H locs ls hP hD hS hl => lv_lsub hx hb d (g H locs ls hP hD hS hl)
theorem g_lmul (C : CX x l0 cc own Ts E rm) {a b : Int64} (v : Int64) (d : decode cc pc = .ok (.lmul, 1)) (h : a * b = v) (g : GG x k n ws (pc + 1) lv (.long v :: st)) : GG x k n ws pc lv (.long b :: .long a :: st) := by
  obtain ⟨p, l, e, R, s, m, args, below, meth, c, D, A, nL, Q⟩ := x
  obtain ⟨hx, hb, hml, hown, hts, hK, hA, hR, hDE, hSV, hl0⟩ := C
  subst h
  exact fun H locs ls hP hD hS hl => lv_lmul hx hb d (g H locs ls hP hD hS hl)
theorem g_land (C : CX x l0 cc own Ts E rm) {a b : Int64} (v : Int64) (d : decode cc pc = .ok (.land, 1)) (h : a &&& b = v) (g : GG x k n ws (pc + 1) lv (.long v :: st)) : GG x k n ws pc lv (.long b :: .long a :: st) := by
  obtain ⟨p, l, e, R, s, m, args, below, meth, c, D, A, nL, Q⟩ := x
  obtain ⟨hx, hb, hml, hown, hts, hK, hA, hR, hDE, hSV, hl0⟩ := C
  subst h
  exact fun H locs ls hP hD hS hl => lv_land hx hb d (g H locs ls hP hD hS hl)
theorem g_lor (C : CX x l0 cc own Ts E rm) {a b : Int64} (v : Int64) (d : decode cc pc = .ok (.lor, 1)) (h : a ||| b = v) (g : GG x k n ws (pc + 1) lv (.long v :: st)) : GG x k n ws pc lv (.long b :: .long a :: st) := by
  obtain ⟨p, l, e, R, s, m, args, below, meth, c, D, A, nL, Q⟩ := x
  obtain ⟨hx, hb, hml, hown, hts, hK, hA, hR, hDE, hSV, hl0⟩ := C
  subst h
  exact fun H locs ls hP hD hS hl => lv_lor hx hb d (g H locs ls hP hD hS hl)
theorem g_lxor (C : CX x l0 cc own Ts E rm) {a b : Int64} (v : Int64) (d : decode cc pc = .ok (.lxor, 1)) (h : a ^^^ b = v) (g : GG x k n ws (pc + 1) lv (.long v :: st)) : GG x k n ws pc lv (.long b :: .long a :: st) := by
  obtain ⟨p, l, e, R, s, m, args, below, meth, c, D, A, nL, Q⟩ := x
  obtain ⟨hx, hb, hml, hown, hts, hK, hA, hR, hDE, hSV, hl0⟩ := C
  subst h
  exact fun H locs ls hP hD hS hl => lv_lxor hx hb d (g H locs ls hP hD hS hl)
theorem g_lrem (C : CX x l0 cc own Ts E rm) {a b : Int64} (v : Int64) (d : decode cc pc = .ok (.lrem, 1)) (h0 : ¬ b = 0) (h : a - a / b * b = v) (g : GG x k n ws (pc + 1) lv (.long v :: st)) : GG x k n ws pc lv (.long b :: .long a :: st) := by
  obtain ⟨p, l, e, R, s, m, args, below, meth, c, D, A, nL, Q⟩ := x
  obtain ⟨hx, hb, hml, hown, hts, hK, hA, hR, hDE, hSV, hl0⟩ := C
  subst h
  exact fun H locs ls hP hD hS hl => lv_lrem hx hb d h0 (g H locs ls hP hD hS hl)
theorem g_lushr (C : CX x l0 cc own Ts E rm) {a : Int64} {b : Int32} (v : Int64) (d : decode cc pc = .ok (.lushr, 1)) (h : (a.toUInt64 >>> (b.toInt64.toUInt64 &&& Int64.toUInt64 63)).toInt64 = v) (g : GG x k n ws (pc + 1) lv (.long v :: st)) : GG x k n ws pc lv (.int b :: .long a :: st) := by
  obtain ⟨p, l, e, R, s, m, args, below, meth, c, D, A, nL, Q⟩ := x
  obtain ⟨hx, hb, hml, hown, hts, hK, hA, hR, hDE, hSV, hl0⟩ := C
  exact fun H locs ls hP hD hS hl => lv_lushr hx hb d h (g H locs ls hP hD hS hl)
theorem g_lcmp (C : CX x l0 cc own Ts E rm) {a b : Int64} (v : Int32) (d : decode cc pc = .ok (.lcmp, 1)) (h : lg_cmp a b = v) (g : GG x k n ws (pc + 1) lv (.int v :: st)) : GG x k n ws pc lv (.long b :: .long a :: st) := by
  obtain ⟨p, l, e, R, s, m, args, below, meth, c, D, A, nL, Q⟩ := x
  obtain ⟨hx, hb, hml, hown, hts, hK, hA, hR, hDE, hSV, hl0⟩ := C
  subst h
  exact fun H locs ls hP hD hS hl => W.lcmp hx hb d (g H locs ls hP hD hS hl)
theorem g_i2l (C : CX x l0 cc own Ts E rm) {a : Int32} (v : Int64) (d : decode cc pc = .ok (.i2l, 1)) (h : a.toInt64 = v) (g : GG x k n ws (pc + 1) lv (.long v :: st)) : GG x k n ws pc lv (.int a :: st) := by
  obtain ⟨p, l, e, R, s, m, args, below, meth, c, D, A, nL, Q⟩ := x
  obtain ⟨hx, hb, hml, hown, hts, hK, hA, hR, hDE, hSV, hl0⟩ := C
  exact fun H locs ls hP hD hS hl => lv_i2l hx hb d h (g H locs ls hP hD hS hl)
theorem g_l2i (C : CX x l0 cc own Ts E rm) {a : Int64} (v : Int32) (d : decode cc pc = .ok (.l2i, 1)) (h : a.toInt32 = v) (g : GG x k n ws (pc + 1) lv (.int v :: st)) : GG x k n ws pc lv (.long a :: st) := by
  obtain ⟨p, l, e, R, s, m, args, below, meth, c, D, A, nL, Q⟩ := x
  obtain ⟨hx, hb, hml, hown, hts, hK, hA, hR, hDE, hSV, hl0⟩ := C
  exact fun H locs ls hP hD hS hl => lv_l2i hx hb d h (g H locs ls hP hD hS hl)
theorem g_i2c (C : CX x l0 cc own Ts E rm) {a : Int32} (v : Int32) (d : decode cc pc = .ok (.i2c, 1)) (h : (a.toUInt32 % 65536).toInt32 = v) (g : GG x k n ws (pc + 1) lv (.int v :: st)) : GG x k n ws pc lv (.int a :: st) := by
  obtain ⟨p, l, e, R, s, m, args, below, meth, c, D, A, nL, Q⟩ := x
  obtain ⟨hx, hb, hml, hown, hts, hK, hA, hR, hDE, hSV, hl0⟩ := C
  exact fun H locs ls hP hD hS hl => lv_i2c hx hb d h (g H locs ls hP hD hS hl)
theorem g_dup (C : CX x l0 cc own Ts E rm) {v : Value} (d : decode cc pc = .ok (.dup, 1)) (h : v.category = 1) (g : GG x k n ws (pc + 1) lv (v :: v :: st)) : GG x k n ws pc lv (v :: st) := by
  obtain ⟨p, l, e, R, s, m, args, below, meth, c, D, A, nL, Q⟩ := x
  obtain ⟨hx, hb, hml, hown, hts, hK, hA, hR, hDE, hSV, hl0⟩ := C
  exact fun H locs ls hP hD hS hl => lv_dup hx hb d h (g H locs ls hP hD hS hl)
theorem g_dup2 (C : CX x l0 cc own Ts E rm) {v w : Value} (d : decode cc pc = .ok (.dup2, 1)) (h : v.category = 1) (h2 : w.category = 1) (g : GG x k n ws (pc + 1) lv (v :: w :: v :: w :: st)) : GG x k n ws pc lv (v :: w :: st) := by
  obtain ⟨p, l, e, R, s, m, args, below, meth, c, D, A, nL, Q⟩ := x
  obtain ⟨hx, hb, hml, hown, hts, hK, hA, hR, hDE, hSV, hl0⟩ := C
  exact fun H locs ls hP hD hS hl => lv_dup2_11 hx hb d h h2 (g H locs ls hP hD hS hl)
theorem g_pop (C : CX x l0 cc own Ts E rm) {v : Value} (d : decode cc pc = .ok (.pop, 1)) (h : v.category = 1) (g : GG x k n ws (pc + 1) lv (st)) : GG x k n ws pc lv (v :: st) := by
  obtain ⟨p, l, e, R, s, m, args, below, meth, c, D, A, nL, Q⟩ := x
  obtain ⟨hx, hb, hml, hown, hts, hK, hA, hR, hDE, hSV, hl0⟩ := C
  exact fun H locs ls hP hD hS hl => lv_pop hx hb d h (g H locs ls hP hD hS hl)
theorem g_if_eq (C : CX x l0 cc own Ts E rm) {a : Int32} {off : Int} (tgt : Nat) (d : decode cc pc = .ok (.ifCond .eq off, 3)) (ht : (pc : Int) + off = (tgt : Int)) (kt : a = 0 → GG x k n ws tgt lv st) (kf : ¬ a = 0 → GG x k n ws (pc + 3) lv st) : GG x k n ws pc lv (.int a :: st) := by
  obtain ⟨p, l, e, R, s, m, args, below, meth, c, D, A, nL, Q⟩ := x
  obtain ⟨hx, hb, hml, hown, hts, hK, hA, hR, hDE, hSV, hl0⟩ := C
  exact fun H locs ls hP hD hS hl => lv_if_eq hx hb d ht (fun q => kt q H locs ls hP hD hS hl) (fun q => kf q H locs ls hP hD hS hl)
theorem g_icmp_eq (C : CX x l0 cc own Ts E rm) {a b : Int32} {off : Int} (tgt : Nat) (d : decode cc pc = .ok (.if_icmp .eq off, 3)) (ht : (pc : Int) + off = (tgt : Int)) (kt : a = b → GG x k n ws tgt lv st) (kf : ¬ a = b → GG x k n ws (pc + 3) lv st) : GG x k n ws pc lv (.int b :: .int a :: st) := by
  obtain ⟨p, l, e, R, s, m, args, below, meth, c, D, A, nL, Q⟩ := x
  obtain ⟨hx, hb, hml, hown, hts, hK, hA, hR, hDE, hSV, hl0⟩ := C
  exact fun H locs ls hP hD hS hl => lv_icmp_eq hx hb d ht (fun q => kt q H locs ls hP hD hS hl) (fun q => kf q H locs ls hP hD hS hl)
theorem g_if_ne (C : CX x l0 cc own Ts E rm) {a : Int32} {off : Int} (tgt : Nat) (d : decode cc pc = .ok (.ifCond .ne off, 3)) (ht : (pc : Int) + off = (tgt : Int)) (kt : ¬ a = 0 → GG x k n ws tgt lv st) (kf : a = 0 → GG x k n ws (pc + 3) lv st) : GG x k n ws pc lv (.int a :: st) := by
  obtain ⟨p, l, e, R, s, m, args, below, meth, c, D, A, nL, Q⟩ := x
  obtain ⟨hx, hb, hml, hown, hts, hK, hA, hR, hDE, hSV, hl0⟩ := C
  exact fun H locs ls hP hD hS hl => lv_if_ne hx hb d ht (fun q => kt q H locs ls hP hD hS hl) (fun q => kf q H locs ls hP hD hS hl)
theorem g_icmp_ne (C : CX x l0 cc own Ts E rm) {a b : Int32} {off : Int} (tgt : Nat) (d : decode cc pc = .ok (.if_icmp .ne off, 3)) (ht : (pc : Int) + off = (tgt : Int)) (kt : ¬ a = b → GG x k n ws tgt lv st) (kf : a = b → GG x k n ws (pc + 3) lv st) : GG x k n ws pc lv (.int b :: .int a :: st) := by
  obtain ⟨p, l, e, R, s, m, args, below, meth, c, D, A, nL, Q⟩ := x
  obtain ⟨hx, hb, hml, hown, hts, hK, hA, hR, hDE, hSV, hl0⟩ := C
  exact fun H locs ls hP hD hS hl => lv_icmp_ne hx hb d ht (fun q => kt q H locs ls hP hD hS hl) (fun q => kf q H locs ls hP hD hS hl)
theorem g_if_lt (C : CX x l0 cc own Ts E rm) {a : Int32} {off : Int} (tgt : Nat) (d : decode cc pc = .ok (.ifCond .lt off, 3)) (ht : (pc : Int) + off = (tgt : Int)) (kt : a < 0 → GG x k n ws tgt lv st) (kf : ¬ a < 0 → GG x k n ws (pc + 3) lv st) : GG x k n ws pc lv (.int a :: st) := by
  obtain ⟨p, l, e, R, s, m, args, below, meth, c, D, A, nL, Q⟩ := x
  obtain ⟨hx, hb, hml, hown, hts, hK, hA, hR, hDE, hSV, hl0⟩ := C
  exact fun H locs ls hP hD hS hl => lv_if_lt hx hb d ht (fun q => kt q H locs ls hP hD hS hl) (fun q => kf q H locs ls hP hD hS hl)
theorem g_icmp_lt (C : CX x l0 cc own Ts E rm) {a b : Int32} {off : Int} (tgt : Nat) (d : decode cc pc = .ok (.if_icmp .lt off, 3)) (ht : (pc : Int) + off = (tgt : Int)) (kt : a < b → GG x k n ws tgt lv st) (kf : ¬ a < b → GG x k n ws (pc + 3) lv st) : GG x k n ws pc lv (.int b :: .int a :: st) := by
  obtain ⟨p, l, e, R, s, m, args, below, meth, c, D, A, nL, Q⟩ := x
  obtain ⟨hx, hb, hml, hown, hts, hK, hA, hR, hDE, hSV, hl0⟩ := C
  exact fun H locs ls hP hD hS hl => lv_icmp_lt hx hb d ht (fun q => kt q H locs ls hP hD hS hl) (fun q => kf q H locs ls hP hD hS hl)
theorem g_if_ge (C : CX x l0 cc own Ts E rm) {a : Int32} {off : Int} (tgt : Nat) (d : decode cc pc = .ok (.ifCond .ge off, 3)) (ht : (pc : Int) + off = (tgt : Int)) (kt : 0 ≤ a → GG x k n ws tgt lv st) (kf : ¬ 0 ≤ a → GG x k n ws (pc + 3) lv st) : GG x k n ws pc lv (.int a :: st) := by
  obtain ⟨p, l, e, R, s, m, args, below, meth, c, D, A, nL, Q⟩ := x
  obtain ⟨hx, hb, hml, hown, hts, hK, hA, hR, hDE, hSV, hl0⟩ := C
  exact fun H locs ls hP hD hS hl => lv_if_ge hx hb d ht (fun q => kt q H locs ls hP hD hS hl) (fun q => kf q H locs ls hP hD hS hl)
theorem g_icmp_ge (C : CX x l0 cc own Ts E rm) {a b : Int32} {off : Int} (tgt : Nat) (d : decode cc pc = .ok (.if_icmp .ge off, 3)) (ht : (pc : Int) + off = (tgt : Int)) (kt : b ≤ a → GG x k n ws tgt lv st) (kf : ¬ b ≤ a → GG x k n ws (pc + 3) lv st) : GG x k n ws pc lv (.int b :: .int a :: st) := by
  obtain ⟨p, l, e, R, s, m, args, below, meth, c, D, A, nL, Q⟩ := x
  obtain ⟨hx, hb, hml, hown, hts, hK, hA, hR, hDE, hSV, hl0⟩ := C
  exact fun H locs ls hP hD hS hl => lv_icmp_ge hx hb d ht (fun q => kt q H locs ls hP hD hS hl) (fun q => kf q H locs ls hP hD hS hl)
theorem g_if_gt (C : CX x l0 cc own Ts E rm) {a : Int32} {off : Int} (tgt : Nat) (d : decode cc pc = .ok (.ifCond .gt off, 3)) (ht : (pc : Int) + off = (tgt : Int)) (kt : 0 < a → GG x k n ws tgt lv st) (kf : ¬ 0 < a → GG x k n ws (pc + 3) lv st) : GG x k n ws pc lv (.int a :: st) := by
  obtain ⟨p, l, e, R, s, m, args, below, meth, c, D, A, nL, Q⟩ := x
  obtain ⟨hx, hb, hml, hown, hts, hK, hA, hR, hDE, hSV, hl0⟩ := C
  exact fun H locs ls hP hD hS hl => lv_if_gt hx hb d ht (fun q => kt q H locs ls hP hD hS hl) (fun q => kf q H locs ls hP hD hS hl)
theorem g_icmp_gt (C : CX x l0 cc own Ts E rm) {a b : Int32} {off : Int} (tgt : Nat) (d : decode cc pc = .ok (.if_icmp .gt off, 3)) (ht : (pc : Int) + off = (tgt : Int)) (kt : b < a → GG x k n ws tgt lv st) (kf : ¬ b < a → GG x k n ws (pc + 3) lv st) : GG x k n ws pc lv (.int b :: .int a :: st) := by
  obtain ⟨p, l, e, R, s, m, args, below, meth, c, D, A, nL, Q⟩ := x
  obtain ⟨hx, hb, hml, hown, hts, hK, hA, hR, hDE, hSV, hl0⟩ := C
  exact fun H locs ls hP hD hS hl => lv_icmp_gt hx hb d ht (fun q => kt q H locs ls hP hD hS hl) (fun q => kf q H locs ls hP hD hS hl)
theorem g_if_le (C : CX x l0 cc own Ts E rm) {a : Int32} {off : Int} (tgt : Nat) (d : decode cc pc = .ok (.ifCond .le off, 3)) (ht : (pc : Int) + off = (tgt : Int)) (kt : a ≤ 0 → GG x k n ws tgt lv st) (kf : ¬ a ≤ 0 → GG x k n ws (pc + 3) lv st) : GG x k n ws pc lv (.int a :: st) := by
  obtain ⟨p, l, e, R, s, m, args, below, meth, c, D, A, nL, Q⟩ := x
  obtain ⟨hx, hb, hml, hown, hts, hK, hA, hR, hDE, hSV, hl0⟩ := C
  exact fun H locs ls hP hD hS hl => lv_if_le hx hb d ht (fun q => kt q H locs ls hP hD hS hl) (fun q => kf q H locs ls hP hD hS hl)
theorem g_icmp_le (C : CX x l0 cc own Ts E rm) {a b : Int32} {off : Int} (tgt : Nat) (d : decode cc pc = .ok (.if_icmp .le off, 3)) (ht : (pc : Int) + off = (tgt : Int)) (kt : a ≤ b → GG x k n ws tgt lv st) (kf : ¬ a ≤ b → GG x k n ws (pc + 3) lv st) : GG x k n ws pc lv (.int b :: .int a :: st) := by
  obtain ⟨p, l, e, R, s, m, args, below, meth, c, D, A, nL, Q⟩ := x
  obtain ⟨hx, hb, hml, hown, hts, hK, hA, hR, hDE, hSV, hl0⟩ := C
  exact fun H locs ls hP hD hS hl => lv_icmp_le hx hb d ht (fun q => kt q H locs ls hP hD hS hl) (fun q => kf q H locs ls hP hD hS hl)
theorem g_goto (C : CX x l0 cc own Ts E rm) {off : Int} (tgt : Nat) (d : decode cc pc = .ok (.goto off, 3)) (ht : (pc : Int) + off = (tgt : Int)) (g : GG x k n ws tgt lv st) : GG x k n ws pc lv st := by
  obtain ⟨p, l, e, R, s, m, args, below, meth, c, D, A, nL, Q⟩ := x
  obtain ⟨hx, hb, hml, hown, hts, hK, hA, hR, hDE, hSV, hl0⟩ := C
  exact fun H locs ls hP hD hS hl => lv_goto hx hb d ht (g H locs ls hP hD hS hl)
theorem g_tin (C : CX x l0 cc own Ts E rm) {dflt lo hi : Int} {offs : Array Int} {len : Nat} {a : Int32} {off : Int} (tgt : Nat) (d : decode cc pc = .ok (.tableswitch dflt lo hi offs, len)) (h1 : ¬ a.toInt < lo) (h2 : ¬ hi < a.toInt) (ho : offs[(a.toInt - lo).toNat]? = some off) (ht : (pc : Int) + off = (tgt : Int)) (g : GG x k n ws tgt lv st) : GG x k n ws pc lv (.int a :: st) := by
  obtain ⟨p, l, e, R, s, m, args, below, meth, c, D, A, nL, Q⟩ := x
  obtain ⟨hx, hb, hml, hown, hts, hK, hA, hR, hDE, hSV, hl0⟩ := C
  exact fun H locs ls hP hD hS hl => lv_tableIn hx hb d h1 h2 ho ht (g H locs ls hP hD hS hl)
theorem g_tout (C : CX x l0 cc own Ts E rm) {dflt lo hi : Int} {offs : Array Int} {len : Nat} {a : Int32} (tgt : Nat) (d : decode cc pc = .ok (.tableswitch dflt lo hi offs, len)) (h : a.toInt < lo ∨ hi < a.toInt) (ht : (pc : Int) + dflt = (tgt : Int)) (g : GG x k n ws tgt lv st) : GG x k n ws pc lv (.int a :: st) := by
  obtain ⟨p, l, e, R, s, m, args, below, meth, c, D, A, nL, Q⟩ := x
  obtain ⟨hx, hb, hml, hown, hts, hK, hA, hR, hDE, hSV, hl0⟩ := C
  exact fun H locs ls hP hD hS hl => lv_tableOut hx hb d h ht (g H locs ls hP hD hS hl)
theorem g_lookup (C : CX x l0 cc own Ts E rm) {dflt : Int} {ps : Array (Int × Int)} {len : Nat} {a : Int32} {off : Int} (tgt : Nat) (d : decode cc pc = .ok (.lookupswitch dflt ps, len)) (hp : (ps.toList.zip (ps.toList.drop 1)).all (fun (a, next) => a.1 < next.1) = true) (ho : Op.lookupswitch.offset ps.toList dflt a.toInt = off) (ht : (pc : Int) + off = (tgt : Int)) (g : GG x k n ws tgt lv st) : GG x k n ws pc lv (.int a :: st) := by
  obtain ⟨p, l, e, R, s, m, args, below, meth, c, D, A, nL, Q⟩ := x
  obtain ⟨hx, hb, hml, hown, hts, hK, hA, hR, hDE, hSV, hl0⟩ := C
  exact fun H locs ls hP hD hS hl => lv_lookup hx hb d hp ho ht (g H locs ls hP hD hS hl)
theorem g_get (C : CX x l0 cc own Ts E rm) {ref CN : String} {T : u_T} {N ci i a : Nat} {fs : List Value} {v : Value} (q0 : Nat) (hin : ∀ w ∈ u_ws CN T N, w ∈ Ts) (he : ws[q0]? = some (a, .inr (ci, fs))) (hc : vwCl[ci]? = some (CN, T, N)) (f : Nat) (hk : decide (f < N) = true) (hlink : Cond.fieldLink own i ref (T f).2.1 (T f).2.2.1 ∈ Ts) (href : (T f).1 = ref) (hv : fs[f]? = some v) (d : decode cc pc = .ok (.getfield i, 3)) (g : GG x k n ws (pc + 3) lv (v :: st)) : GG x k n ws pc lv (.ref a :: st) := by
  obtain ⟨p, l, e, R, s, m, args, below, meth, c, D, A, nL, Q⟩ := x
  obtain ⟨hx, hb, hml, hown, hts, hK, hA, hR, hDE, hSV, hl0⟩ := C
  subst href
  exact fun H locs ls hP hD hS hl => va_get hx hb hts hin hown hK hP q0 he hc f (of_decide_eq_true hk) (hts _ hlink) (fun _ h9 => h9) hv d (g H locs ls hP hD hS hl)
theorem g_put (C : CX x l0 cc own Ts E rm) {ref CN : String} {T : u_T} {N ci i a : Nat} {fs : List Value} {v : Value} {ty0 : Nat → FieldType} (ws' : va_W) (q0 : Nat) (hin : ∀ w ∈ u_ws CN T N, w ∈ Ts) (hty : ∀ k, k < N → parseFieldDescriptor (T k).2.2.1 = some (ty0 k)) (hnm : ∀ a, a < N → ∀ b, b < N → a ≠ b → (T a).2.1 ≠ (T b).2.1) (he : ws[q0]? = some (a, .inr (ci, fs))) (hc : vwCl[ci]? = some (CN, T, N)) (f : Nat) (hk : decide (f < N) = true) (hlink : Cond.fieldLink own i ref (T f).2.1 (T f).2.2.1 ∈ Ts) (href : (T f).1 = ref) (hfin : (T f).2.2.2 = false) (hn : narrow (ty0 f) v = v) (hfit : fits (ty0 f) v = true) (hfl : decide (f < fs.length) = true) (d : decode cc pc = .ok (.putfield i, 3)) (hw : ws.set q0 (a, .inr (ci, fs.set f v)) = ws') (g : GG x k n ws' (pc + 3) lv st) : GG x k n ws pc lv (v :: .ref a :: st) := by
  obtain ⟨p, l, e, R, s, m, args, below, meth, c, D, A, nL, Q⟩ := x
  obtain ⟨hx, hb, hml, hown, hts, hK, hA, hR, hDE, hSV, hl0⟩ := C
  subst href
  subst hw
  exact fun H locs ls hP hD hS hl => va_put hx hb hts hin ty0 hty hnm hown hK hP hD hS q0 he hc f (of_decide_eq_true hk) (hts _ hlink) (fun _ h9 => h9) hfin (hty f (of_decide_eq_true hk)) hn hfit (of_decide_eq_true hfl) d (fun H1 locs1 hP hD hS => g H1 locs1 ls hP hD hS hl)
theorem g_iald (C : CX x l0 cc own Ts E rm) {a N : Nat} {cA : ClassId} {f : Nat → Int32} {i : Int32} (v : Int32) (q0 t0 : Nat) (he : ws[q0]? = some (a, .inl (cA, N, .inl f))) (ht : (tysE E)[t0]? = some (cA, .int)) (hi : vp_in i N) (hv : f i.toNatClampNeg = v) (d : decode cc pc = .ok (.iaload, 1)) (g : GG x k n ws (pc + 1) lv (.int v :: st)) : GG x k n ws pc lv (.int i :: .ref a :: st) := by
  obtain ⟨p, l, e, R, s, m, args, below, meth, c, D, A, nL, Q⟩ := x
  obtain ⟨hx, hb, hml, hown, hts, hK, hA, hR, hDE, hSV, hl0⟩ := C
  subst hv
  exact fun H locs ls hP hD hS hl => va_iald hx hb hK hP q0 t0 he ht hi d (g H locs ls hP hD hS hl)
theorem g_iast (C : CX x l0 cc own Ts E rm) {a N : Nat} {cA : ClassId} {f : Nat → Int32} {i : Int32} {y : Int32} (f' : Nat → Int32) (ws' : va_W) (q0 t0 : Nat) (he : ws[q0]? = some (a, .inl (cA, N, .inl f))) (ht : (tysE E)[t0]? = some (cA, .int)) (hi : vp_in i N) (hf : upd f i.toNatClampNeg y = f') (d : decode cc pc = .ok (.iastore, 1)) (hw : ws.set q0 (a, .inl (cA, N, .inl f')) = ws') (g : GG x k n ws' (pc + 1) lv st) : GG x k n ws pc lv (.int y :: .int i :: .ref a :: st) := by
  obtain ⟨p, l, e, R, s, m, args, below, meth, c, D, A, nL, Q⟩ := x
  obtain ⟨hx, hb, hml, hown, hts, hK, hA, hR, hDE, hSV, hl0⟩ := C
  subst hf
  subst hw
  exact fun H locs ls hP hD hS hl => va_iast hx hb hK hP hD hS q0 t0 he ht hi d (fun H1 locs1 hP hD hS => g H1 locs1 ls hP hD hS hl)
theorem g_zald (C : CX x l0 cc own Ts E rm) {a N : Nat} {cA : ClassId} {f : Nat → Int32} {i : Int32} (v : Int32) (q0 t0 : Nat) (he : ws[q0]? = some (a, .inl (cA, N, .inl f))) (ht : (tysE E)[t0]? = some (cA, .boolean)) (hi : vp_in i N) (hv : f i.toNatClampNeg = v) (d : decode cc pc = .ok (.baload, 1)) (g : GG x k n ws (pc + 1) lv (.int v :: st)) : GG x k n ws pc lv (.int i :: .ref a :: st) := by
  obtain ⟨p, l, e, R, s, m, args, below, meth, c, D, A, nL, Q⟩ := x
  obtain ⟨hx, hb, hml, hown, hts, hK, hA, hR, hDE, hSV, hl0⟩ := C
  subst hv
  exact fun H locs ls hP hD hS hl => va_zald hx hb hK hP q0 t0 he ht hi d (g H locs ls hP hD hS hl)
theorem g_zast (C : CX x l0 cc own Ts E rm) {a N : Nat} {cA : ClassId} {f : Nat → Int32} {i : Int32} {y : Int32} (f' : Nat → Int32) (ws' : va_W) (q0 t0 : Nat) (he : ws[q0]? = some (a, .inl (cA, N, .inl f))) (ht : (tysE E)[t0]? = some (cA, .boolean)) (hi : vp_in i N) (hf : upd f i.toNatClampNeg (vp_nar .boolean y) = f') (d : decode cc pc = .ok (.bastore, 1)) (hw : ws.set q0 (a, .inl (cA, N, .inl f')) = ws') (g : GG x k n ws' (pc + 1) lv st) : GG x k n ws pc lv (.int y :: .int i :: .ref a :: st) := by
  obtain ⟨p, l, e, R, s, m, args, below, meth, c, D, A, nL, Q⟩ := x
  obtain ⟨hx, hb, hml, hown, hts, hK, hA, hR, hDE, hSV, hl0⟩ := C
  subst hf
  subst hw
  exact fun H locs ls hP hD hS hl => va_zast hx hb hK hP hD hS q0 t0 he ht hi d (fun H1 locs1 hP hD hS => g H1 locs1 ls hP hD hS hl)
theorem g_cald (C : CX x l0 cc own Ts E rm) {a N : Nat} {cA : ClassId} {f : Nat → Int32} {i : Int32} (v : Int32) (q0 t0 : Nat) (he : ws[q0]? = some (a, .inl (cA, N, .inl f))) (ht : (tysE E)[t0]? = some (cA, .char)) (hi : vp_in i N) (hv : f i.toNatClampNeg = v) (d : decode cc pc = .ok (.caload, 1)) (g : GG x k n ws (pc + 1) lv (.int v :: st)) : GG x k n ws pc lv (.int i :: .ref a :: st) := by
  obtain ⟨p, l, e, R, s, m, args, below, meth, c, D, A, nL, Q⟩ := x
  obtain ⟨hx, hb, hml, hown, hts, hK, hA, hR, hDE, hSV, hl0⟩ := C
  subst hv
  exact fun H locs ls hP hD hS hl => va_cald hx hb hK hP q0 t0 he ht hi d (g H locs ls hP hD hS hl)
theorem g_cast (C : CX x l0 cc own Ts E rm) {a N : Nat} {cA : ClassId} {f : Nat → Int32} {i : Int32} {y : Int32} (f' : Nat → Int32) (ws' : va_W) (q0 t0 : Nat) (he : ws[q0]? = some (a, .inl (cA, N, .inl f))) (ht : (tysE E)[t0]? = some (cA, .char)) (hi : vp_in i N) (hf : upd f i.toNatClampNeg (vp_nar .char y) = f') (d : decode cc pc = .ok (.castore, 1)) (hw : ws.set q0 (a, .inl (cA, N, .inl f')) = ws') (g : GG x k n ws' (pc + 1) lv st) : GG x k n ws pc lv (.int y :: .int i :: .ref a :: st) := by
  obtain ⟨p, l, e, R, s, m, args, below, meth, c, D, A, nL, Q⟩ := x
  obtain ⟨hx, hb, hml, hown, hts, hK, hA, hR, hDE, hSV, hl0⟩ := C
  subst hf
  subst hw
  exact fun H locs ls hP hD hS hl => va_cast hx hb hK hP hD hS q0 t0 he ht hi d (fun H1 locs1 hP hD hS => g H1 locs1 ls hP hD hS hl)
theorem g_lald (C : CX x l0 cc own Ts E rm) {a N : Nat} {cA : ClassId} {f : Nat → Int64} {i : Int32} (v : Int64) (q0 t0 : Nat) (he : ws[q0]? = some (a, .inl (cA, N, .inr (.inl f)))) (ht : (tysE E)[t0]? = some (cA, .long)) (hi : vp_in i N) (hv : f i.toNatClampNeg = v) (d : decode cc pc = .ok (.laload, 1)) (g : GG x k n ws (pc + 1) lv (.long v :: st)) : GG x k n ws pc lv (.int i :: .ref a :: st) := by
  obtain ⟨p, l, e, R, s, m, args, below, meth, c, D, A, nL, Q⟩ := x
  obtain ⟨hx, hb, hml, hown, hts, hK, hA, hR, hDE, hSV, hl0⟩ := C
  subst hv
  exact fun H locs ls hP hD hS hl => va_lald hx hb hK hP q0 t0 he ht hi d (g H locs ls hP hD hS hl)
theorem g_last (C : CX x l0 cc own Ts E rm) {a N : Nat} {cA : ClassId} {f : Nat → Int64} {i : Int32} {y : Int64} (f' : Nat → Int64) (ws' : va_W) (q0 t0 : Nat) (he : ws[q0]? = some (a, .inl (cA, N, .inr (.inl f)))) (ht : (tysE E)[t0]? = some (cA, .long)) (hi : vp_in i N) (hf : vp_updL f i.toNatClampNeg y = f') (d : decode cc pc = .ok (.lastore, 1)) (hw : ws.set q0 (a, .inl (cA, N, .inr (.inl f'))) = ws') (g : GG x k n ws' (pc + 1) lv st) : GG x k n ws pc lv (.long y :: .int i :: .ref a :: st) := by
  obtain ⟨p, l, e, R, s, m, args, below, meth, c, D, A, nL, Q⟩ := x
  obtain ⟨hx, hb, hml, hown, hts, hK, hA, hR, hDE, hSV, hl0⟩ := C
  subst hf
  subst hw
  exact fun H locs ls hP hD hS hl => va_last hx hb hK hP hD hS q0 t0 he ht hi d (fun H1 locs1 hP hD hS => g H1 locs1 ls hP hD hS hl)
theorem g_alen (C : CX x l0 cc own Ts E rm) {a : Nat} {cA : ClassId} {y : vp_A} {ty : FieldType} (v : Int32) (q0 t0 : Nat) (he : ws[q0]? = some (a, .inl (cA, y))) (ht : (tysE E)[t0]? = some (cA, ty)) (hv : Int32.ofNat y.1 = v) (d : decode cc pc = .ok (.arraylength, 1)) (g : GG x k n ws (pc + 1) lv (.int v :: st)) : GG x k n ws pc lv (.ref a :: st) := by
  obtain ⟨p, l, e, R, s, m, args, below, meth, c, D, A, nL, Q⟩ := x
  obtain ⟨hx, hb, hml, hown, hts, hK, hA, hR, hDE, hSV, hl0⟩ := C
  exact fun H locs ls hP hD hS hl => va_alen hx hb hK hP q0 t0 he ht hv d (g H locs ls hP hD hS hl)
theorem g_aald (C : CX x l0 cc own Ts E rm) {a N : Nat} {cA : ClassId} {CN : String} {f : Nat → Option Nat} {i : Int32} (v : Value) (q0 t0 : Nat) (he : ws[q0]? = some (a, .inl (cA, N, .inr (.inr (.inr (.inr f)))))) (ht : (tysE E)[t0]? = some (cA, .object CN)) (hi : vp_in i N) (hv : va_rf (f i.toNatClampNeg) = v) (d : decode cc pc = .ok (.aaload, 1)) (g : GG x k n ws (pc + 1) lv (v :: st)) : GG x k n ws pc lv (.int i :: .ref a :: st) := by
  obtain ⟨p, l, e, R, s, m, args, below, meth, c, D, A, nL, Q⟩ := x
  obtain ⟨hx, hb, hml, hown, hts, hK, hA, hR, hDE, hSV, hl0⟩ := C
  subst hv
  exact fun H locs ls hP hD hS hl => va_aldq hx hb hK hP q0 t0 he ht hi d (g H locs ls hP hD hS hl)
theorem g_aast (C : CX x l0 cc own Ts E rm) {a N ci y : Nat} {cA : ClassId} {r : vw_C} {vs : List Value} {f : Nat → Option Nat} {i : Int32} (f' : Nat → Option Nat) (ws' : va_W) (q0 t0 qk : Nat) (he : ws[q0]? = some (a, .inl (cA, N, .inr (.inr (.inr (.inr f)))))) (ht : (tysE E)[t0]? = some (cA, .object r.1)) (hy : ws[qk]? = some (y, .inr (ci, vs))) (hc : vwCl[ci]? = some r) (hi : vp_in i N) (hf : va_up f i.toNatClampNeg (some y) = f') (d : decode cc pc = .ok (.aastore, 1)) (hw : ws.set q0 (a, .inl (cA, N, .inr (.inr (.inr (.inr f'))))) = ws') (g : GG x k n ws' (pc + 1) lv st) : GG x k n ws pc lv (.ref y :: .int i :: .ref a :: st) := by
  obtain ⟨p, l, e, R, s, m, args, below, meth, c, D, A, nL, Q⟩ := x
  obtain ⟨hx, hb, hml, hown, hts, hK, hA, hR, hDE, hSV, hl0⟩ := C
  subst hf
  subst hw
  exact fun H locs ls hP hD hS hl => va_astq hx hb hK hP hD hS q0 t0 qk ci he ht hy hc hi d (fun H1 locs1 hP hD hS => g H1 locs1 ls hP hD hS hl)
theorem g_wof (C : CX x l0 cc own Ts E rm) {i : Nat} (hlink : Cond.fieldLink own i "LieForce" "WORLDS_OF_FACT" "[J" ∈ Ts) (d : decode cc pc = .ok (.getstatic i, 3)) (g : GG x k n ws (pc + 3) lv (.ref E.2.2.1 :: st)) : GG x k n ws pc lv st := by
  obtain ⟨p, l, e, R, s, m, args, below, meth, c, D, A, nL, Q⟩ := x
  obtain ⟨hx, hb, hml, hown, hts, hK, hA, hR, hDE, hSV, hl0⟩ := C
  exact fun H locs ls hP hD hS hl => va_gets hx hb hSV.1.1 hS hown (hts _ hlink) (fun _ h9 => h9) d (g H locs ls hP hD hS hl)
theorem g_wofl (C : CX x l0 cc own Ts E rm) {i : Int32} (v : Int64) (hi : vp_in i 6) (hv : wofL.getD i.toNatClampNeg 0 = v) (d : decode cc pc = .ok (.laload, 1)) (g : GG x k n ws (pc + 1) lv (.long v :: st)) : GG x k n ws pc lv (.int i :: .ref E.2.2.1 :: st) := by
  obtain ⟨p, l, e, R, s, m, args, below, meth, c, D, A, nL, Q⟩ := x
  obtain ⟨hx, hb, hml, hown, hts, hK, hA, hR, hDE, hSV, hl0⟩ := C
  subst hv
  exact fun H locs ls hP hD hS hl => va_tl hx hb hSV.1.2.1 hS hi rfl d (g H locs ls hP hD hS hl)
/-- the same world in another order, or a part of it is never dropped: places -/
theorem g_ws (ws' : va_W) (is : List Nat) (hn : va_nd is = true) (h : is.map (fun i => ws[i]?) = ws'.map some) (g : GG x k n ws' pc lv st) : GG x k n ws pc lv st := by
  obtain ⟨p, l, e, R, s, m, args, below, meth, c, D, A, nL, Q⟩ := x
  intro H locs ls hP hD hS hl
  refine g H locs ls (fun k q hk => ?_) (hD.sub is hn h) hS hl
  have h1 : (is.map (fun i => ws[i]?))[k]? = some (some q) := by rw [h, List.getElem?_map, hk]; rfl
  rw [List.getElem?_map] at h1
  cases hi : is[k]? with
  | none => rw [hi] at h1; cases h1
  | some i => rw [hi] at h1; exact hP i q (Option.some.inj h1)
theorem g_lv (lv' : List (Nat × Value)) (ks : List Nat) (h : lv_pick lv ks = lv') (g : GG x k n ws pc lv' st) : GG x k n ws pc lv st := by
  obtain ⟨p, l, e, R, s, m, args, below, meth, c, D, A, nL, Q⟩ := x
  exact fun H locs ls hP hD hS hl => g H locs ls hP hD hS (lv_sub hl ks h)
theorem g_widen {k' n' : Nat} (h1 : k ≤ k') (h2 : n ≤ n') (g : GG x k' n' ws pc lv st) : GG x k n ws pc lv st := by
  obtain ⟨p, l, e, R, s, m, args, below, meth, c, D, A, nL, Q⟩ := x
  exact fun H locs ls hP hD hS hl => W.widen h1 h2 (g H locs ls hP hD hS hl)
theorem g_eq {ws' : va_W} {lv' : List (Nat × Value)} {st' : List Value} (h1 : ws = ws') (h2 : lv = lv') (h3 : st = st') (g : GG x k n ws' pc lv' st') : GG x k n ws pc lv st := by
  subst h1; subst h2; subst h3; exact g
end GLIB
