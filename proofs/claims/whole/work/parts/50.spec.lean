/-! rows that make: new, arrays, constructors; the array class of the forces -/
def xS (x : GX) : State := x.2.2.2.2.1
theorem ra_uni {U : State} {c1 c2 : ClassId} {ty : FieldType} (h1 : va_RA U c1 ty) (h2 : va_RA U c2 ty) : c1 = c2 := by
  cases ty with
  | object C =>
    obtain ⟨_, _, _, _, _, a⟩ := h1
    obtain ⟨_, _, _, _, _, b⟩ := h2
    exact Option.some.inj (a.symm.trans b)
  | _ => exact Option.some.inj (Eq.trans (Eq.symm h1) h2)
section ALLOC
variable {x : GX} {l0 : Launch} {cc : ByteArray} {own : String} {Ts : List Cond} {E : EV} {rm : Room} {k n : Nat} {ws : va_W} {pc : Nat} {lv : List (Nat × Value)} {st : List Value}
theorem g_newa (C : CX x l0 cc own Ts E rm) {atype : ArrayType} {ty : FieldType} {cA : ClassId} {i : Int32} {N : Nat} (a0 : vp_A) (t0 : Nat) (hty : newarray.typeOf atype = ty) (harr : Cond.arrayClass ty ∈ Ts) (ht : (tysE E)[t0]? = some (cA, ty)) (ha : ∀ c : ClassId, vp_cell c a0 = arrV c N (fun _ => defaultValue ty)) (hn : ¬ i < 0) (hN : i.toNatClampNeg = N) (hby : N * componentBytes ty ≤ 536870912) (hf : k + 1 ≤ rm.cells ∧ n + N ≤ rm.slots) (d : decode cc pc = .ok (.newarray atype, 2)) (kk : ∀ q : Nat, GG x (k + 1) (n + N) (ws ++ [(q, .inl (cA, a0))]) (pc + 2) lv (.ref q :: st)) : GG x k n ws pc lv (.int i :: st) := by
  obtain ⟨p, l, e, R, s, m, args, below, meth, c, D, A, nL, Q⟩ := x
  obtain ⟨hx, hb, hml, hown, hts, hK, hA, hR, hDE, hSV, hl0⟩ := C
  subst hty
  subst hR
  intro H locs ls hP hD hS hl
  refine va_newa hx hb (hts _ harr) rfl hK hP hD hS hA ha hn hN hby hf.1 hf.2 d (fun q cB H1 hK1 hP1 hD1 hS1 => ?_)
  have h1 := (hK.2 t0 _ ht).2
  have h2 := (hK1.2 5 (cB, newarray.typeOf atype) rfl).2
  obtain rfl : cB = cA := ra_uni h2 h1
  exact kk q H1 locs ls hP1 hD1 hS1 hl
theorem g_newq (C : CX x l0 cc own Ts E rm) {CN : String} {cA : ClassId} {i : Int32} {N index : Nat} (t0 : Nat) (hcl : Cond.classLink own index CN ∈ Ts) (hover : va_AO CN (xS x)) (ht : (tysE E)[t0]? = some (cA, .object CN)) (hn : ¬ i < 0) (hN : i.toNatClampNeg = N) (hby : N * 4 ≤ 536870912) (hf : k + 1 ≤ rm.cells ∧ n + N ≤ rm.slots) (d : decode cc pc = .ok (.anewarray index, 3)) (kk : ∀ q : Nat, GG x (k + 1) (n + N) (ws ++ [(q, .inl (cA, N, .inr (.inr (.inr (.inr (fun _ => none))))))]) (pc + 3) lv (.ref q :: st)) : GG x k n ws pc lv (.int i :: st) := by
  obtain ⟨p, l, e, R, s, m, args, below, meth, c, D, A, nL, Q⟩ := x
  obtain ⟨hx, hb, hml, hown, hts, hK, hA, hR, hDE, hSV, hl0⟩ := C
  subst hR
  intro H locs ls hP hD hS hl
  refine va_newq hx hb hown (hts _ hcl) hover hK hP hD hS hA hn hN hby hf.1 hf.2 d (fun q cB H1 hK1 hP1 hD1 hS1 => ?_)
  have h1 := (hK.2 t0 _ ht).2
  have h2 := (hK1.2 5 (cB, .object CN) rfl).2
  obtain rfl : cB = cA := ra_uni h2 h1
  exact kk q H1 locs ls hP1 hD1 hS1 hl
theorem g_new (C : CX x l0 cc own Ts E rm) {CN : String} {T : u_T} {N ci index : Nat} {ty0 : Nat → FieldType} (fs : List Value) (hin : ∀ w ∈ u_ws CN T N, w ∈ Ts) (hty : ∀ k, k < N → parseFieldDescriptor (T k).2.2.1 = some (ty0 k)) (hcl : Cond.classLink own index CN ∈ Ts) (hinst : Cond.instantiable CN N ∈ Ts) (hini : Cond.initialized CN ∈ Ts) (hc : vwCl[ci]? = some (CN, T, N)) (hfs : ∀ j, j < N → defaultValue (ty0 j) = vp_V fs j) (hf : k + 1 ≤ rm.cells ∧ n + N ≤ rm.slots) (d : decode cc pc = .ok (.new index, 3)) (kk : ∀ q : Nat, GG x (k + 1) (n + N) (ws ++ [(q, .inr (ci, fs))]) (pc + 3) lv (.ref q :: st)) : GG x k n ws pc lv st := by
  obtain ⟨p, l, e, R, s, m, args, below, meth, c, D, A, nL, Q⟩ := x
  obtain ⟨hx, hb, hml, hown, hts, hK, hA, hR, hDE, hSV, hl0⟩ := C
  subst hR
  intro H locs ls hP hD hS hl
  exact va_new hx hb hts hin ty0 hty hown (hts _ hcl) (hts _ hinst) (hts _ hini) hK hP hD hS hA hc hfs hf.1 hf.2 d (fun q H1 hP1 hD1 hS1 => kk q H1 locs ls hP1 hD1 hS1 hl)
theorem g_obj (C : CX x l0 cc own Ts E rm) {a index : Nat} (hlink : Cond.methodLink own index objectInit ∈ Ts) (hinst : Cond.instanceMethod objectInit ∈ Ts) (hcode : Cond.code objectInit ⟨#[0xb1]⟩ 1 none ∈ Ts) (hf : decide (1 ≤ rm.frames ∧ 12 ≤ rm.locals) = true) (d : decode cc pc = .ok (.invokespecial index, 3)) (g : GG x k n ws (pc + 3) lv []) : GG x k n ws pc lv [.ref a] := by
  obtain ⟨p, l, e, R, s, m, args, below, meth, c, D, A, nL, Q⟩ := x
  obtain ⟨hx, hb, hml, hown, hts, hK, hA, hR, hDE, hSV, hl0⟩ := C
  subst hR
  intro H locs ls hP hD hS hl
  have h := of_decide_eq_true hf
  refine W.objInit hx hb hown (hts _ hlink) (hts _ hinst) (hts _ hcode) rfl (by rw [hml]; exact hl.1) rfl d h.1 (Nat.le_trans (Nat.le_of_ble_eq_true rfl) h.2) ?_
  exact W.eq (g2 := F0 m (pc + 3) ls []) rfl (g H locs ls hP hD hS hl)
theorem g_putF (C : CX x l0 cc own Ts E rm) {ref CN : String} {T : u_T} {N ci i a : Nat} {fs : List Value} {v : Value} {ty0 : Nat → FieldType} (ws' : va_W) (q0 : Nat) (hnm0 : xName x = "<init>") (hin : ∀ w ∈ u_ws CN T N, w ∈ Ts) (hty : ∀ k, k < N → parseFieldDescriptor (T k).2.2.1 = some (ty0 k)) (hnm : ∀ a, a < N → ∀ b, b < N → a ≠ b → (T a).2.1 ≠ (T b).2.1) (he : ws[q0]? = some (a, .inr (ci, fs))) (hc : vwCl[ci]? = some (CN, T, N)) (f : Nat) (hk : decide (f < N) = true) (hlink : Cond.fieldLink own i ref (T f).2.1 (T f).2.2.1 ∈ Ts) (href : (T f).1 = ref) (hdecl : (T f).1 = own) (hfin : (T f).2.2.2 = true) (hn : narrow (ty0 f) v = v) (hfit : fits (ty0 f) v = true) (hfl : decide (f < fs.length) = true) (d : decode cc pc = .ok (.putfield i, 3)) (hw : ws.set q0 (a, .inr (ci, fs.set f v)) = ws') (g : GG x k n ws' (pc + 3) lv st) : GG x k n ws pc lv (v :: .ref a :: st) := by
  obtain ⟨p, l, e, R, s, m, args, below, meth, c, D, A, nL, Q⟩ := x
  obtain ⟨hx, hb, hml, hown, hts, hK, hA, hR, hDE, hSV, hl0⟩ := C
  subst href
  subst hw
  exact fun H locs ls hP hD hS hl => va_putF hx hb hts hin ty0 hty hnm hown hK hP hD hS q0 he hc f (of_decide_eq_true hk) (hts _ hlink) (fun _ h9 => h9) hfin hnm0 hdecl (hty f (of_decide_eq_true hk)) hn hfit (of_decide_eq_true hfl) d (fun H1 locs1 hP hD hS => g H1 locs1 ls hP hD hS hl)
theorem g_ldcS (C : CX x l0 cc "LieForce" Ts E rm) (d : decode cc pc = .ok (.ldc 60, 2)) (g : GG x k n ws (pc + 2) lv (.ref (E.2.2.2.1 0) :: st)) : GG x k n ws pc lv st := by
  obtain ⟨p, l, e, R, s, m, args, below, meth, c, D, A, nL, Q⟩ := x
  obtain ⟨hx, hb, hml, hown, hts, hK, hA, hR, hDE, hSV, hl0⟩ := C
  exact fun H locs ls hP hD hS hl => va_ldcS hx hb hown hSV.2.1 d (g H locs ls hP hD hS hl)
end ALLOC
/-! contracts of constructors that make an array of forces: KV2 -/
def PRE2 (E : EV) (pre : va_W) (sz : Nat) (U : State) : Prop := PRE E pre sz U ∧ va_AO RX0 U
theorem PRE2.blind {E : EV} {pre : va_W} {sz : Nat} {As : List Value} : FrameBlind (va_Pc As (PRE2 E pre sz)) := fun a U g mk q => by
  obtain ⟨q0, q1, q2⟩ := q
  obtain ⟨r0, r1⟩ := PRE.blind (E := E) (pre := pre) (sz := sz) (As := As) a U g mk ⟨q0, q1⟩
  exact ⟨r0, r1, va_AO.moved (u := U) (U := U.calling g mk a) (Vm.Alike.refl U.vm) q2⟩
def KV2 (l : Launch) (y : MethodName) (wc : List Cond) (rm : Room) (E : EV) {σ : Type} (As : List Value) (pre : va_W) (post : σ → Prop) (w : σ → va_W) (mc ms : Nat) : Prop := ∀ sz : Nat, Met l y wc rm (va_Pc As (PRE2 E pre sz)) (va_Qv (fun (u : σ) => post u) (fun u => PO E (va_A pre sz) (w u)) (va_A pre sz)) mc ms (va_A pre sz)
theorem KV2.of {l : Launch} {y : MethodName} {wc : List Cond} {rm : Room} {E : EV} {σ : Type} {As : List Value} {pre : va_W} {post : σ → Prop} {w : σ → va_W} {mc ms maxL : Nat} {cc : ByteArray} {ws' : List Cond} (hy : plainName y.cls = true) (hw : wc = Cond.code y cc maxL none :: ws') (hlen : decide ((lg_sl As).length ≤ maxL) = true) (body : ∀ x : GX, CX x l cc y.cls wc E rm → xName x = y.name → RTV x cc mc ms post w → c_nL x = maxL → va_AO RX0 (xS x) → GG x 0 0 pre 0 (lv_args 0 As) []) : KV2 l y wc rm E As pre post w mc ms := by
  intro sz
  refine Met.ofW (cc := cc) (maxL := maxL) (ret := none) hy hw ?_
  intro p e s m args below meth c s₁ B hml hv
  obtain ⟨rfl, ⟨hsz, hP, hK, hD0, hSV⟩, hAO⟩ := hv
  subst hsz
  have hD := hD0.self (sz := s.heap.size)
  have hl := lv_entry As (n := maxL) (of_decide_eq_true hlen)
  rw [lg_entry_eq]
  generalize (lg_sl As ++ List.replicate (maxL - (lg_sl As).length) Slot.unset).toArray = ls at hl ⊢
  refine body (p, l, e, (headSpec wc rm).room, s, m, As.toArray, below, meth, c, E.1, va_A pre s.heap.size, maxL, MQ below (va_Qv (fun (u : σ) => post u) (fun u => PO E (va_A pre s.heap.size) (w u)) (va_A pre s.heap.size)) As.toArray s mc ms (va_A pre s.heap.size)) (CX.mk B.exec B.bytes hml (findClass_of_methodNamed B.named) (atoms_spec (ws := wc) B.pre) hK (fun q h => Or.inr h) rfl rfl hSV) (name_of_methodNamed B.named B.method).1 ?_ rfl hAO s.heap [] ls hP hD va_S.rf hl
  intro u pc lv hpo d H locs ls hP hD hS hl
  exact W.vret B.exec B.bytes B.returns (fun t ht hW => ⟨⟨u, rfl, hpo, by rw [ht]; exact hP, va_K.moved hW.alike hK, hD⟩, hS.F ht⟩) hS.2.2 d B.notSynchronized
section CALLS2
variable {x : GX} {l0 : Launch} {cc : ByteArray} {own : String} {Ts : List Cond} {E : EV} {rm : Room} {k n : Nat} {ws : va_W} {pc : Nat} {lv : List (Nat × Value)} {st : List Value}
variable {y : MethodName} {bytes : ByteArray} {maxL mc ms index : Nat} {wc : List Cond} {rm' : Room} {b : Nat} {pre wr : va_W} {isC isR : List Nat}
theorem g_IV2 (C : CX x l0 cc own Ts E rm) (hAO : va_AO RX0 (xS x)) (hcut : CUT ws pre wr isC isR) {σ : Type} {post : σ → Prop} {w : σ → va_W} (As rest : List Value) (hM : KV2 l0 y wc rm' E (.ref b :: As) pre post w mc ms) (hG : GoodIn Ts wc) (hcal : CAL y wc bytes maxL none As.length) (hrc : rm'.cells = mc) (hrs : rm'.slots = ms) (hin : Cond.initialized y.cls ∈ Ts) (hli : Cond.methodLink own index y ∈ Ts) (him : Cond.instanceMethod y ∈ Ts) (hy1 : y.name = "<init>") (hRm : decide (rm'.frames + 1 ≤ rm.frames ∧ 8 + (maxL + 11) + rm'.locals ≤ rm.locals) = true) (hst : st = As.reverse ++ .ref b :: rest) (d : decode cc pc = .ok (.invokespecial index, 3)) (hcat : decide ((rest.map fun v => v.category).sum ≤ 8) = true) (hf : k + mc ≤ rm.cells ∧ n + ms ≤ rm.slots) (wn : σ → va_W) (is2 : List Nat) (hn2 : va_nd is2 = true) (hN : ∀ u, is2.map (fun i => (wr ++ w u)[i]?) = (wn u).map some) (kk : ∀ u, post u → GG x (k + mc) (n + ms) (wn u) (pc + 3) lv (rest)) : GG x k n ws pc lv st := by
  refine g_callV C hcut wn is2 (a := (Value.ref b :: As).toArray) (rest := rest) (mc := mc) (ms := ms) ?_ hn2 hN kk
  obtain ⟨p, l, e, R, s, m, args, below, meth, c, D, A, nL, Q⟩ := x
  obtain ⟨hx, hb, hml, hown, hts, hK, hA, hR, hDE, hSV, hl0⟩ := C
  subst hDE
  subst hl0
  intro H locs ls hP hD hS hl
  have hPc := part_P hP isC hcut.1
  have hDc := hD.sub isC hcut.2.2.1 hcut.1
  have hFc := va_free (wc := pre) hD hS hA isC hcut.1
  exact va_runI (As := As) (rest := rest) ⟨hx, hb, hml, hown, hts⟩ (hM H.size) (cwI As.length hts hG hcal.1.choose_spec hrc hrs (hts _ hin) (hts _ hli) (hts _ him) hy1 hcal.2 (by rw [hR]; exact of_decide_eq_true hRm)) ⟨PRE2.blind, fun U hU hW => ⟨rfl, ⟨by rw [hU], by rw [hU]; exact hPc, va_K.moved hW.alike hK, hDc.weaken (fun _ _ _ _ => trivial), by rw [hU]; exact SZ.moved hW.alike ((hSV.1.kept hS.2.1).narrow hFc), SN.warm hW hSV.2⟩, va_AO.moved hW.alike hAO⟩⟩ rfl rfl hl.1 hst (lv_room (of_decide_eq_true hcat)) d (by rw [hR]; exact hf)
end CALLS2


def ZF : Nat → Bool := fun _ => false
def adr (L : List Nat) (i : Nat) : Nat := L.getD i 0
def FC0 : FC := mkFC 0 0 0 0 5 Z0 Z0 Z0 Z0 Z0 Z0
theorem lf_set {L : List Nat} {i y : Nat} (h : i < L.length) (hi : i < 2 ^ 31) : va_up (fun j => L[j]?) (nI i).toNatClampNeg (some y) = fun j => (L.set i y)[j]? := by
  rw [nI_clamp hi]
  funext j
  by_cases q : j = i
  · subst q; rw [va_up_self, List.getElem?_set_self h]
  · rw [va_up_ne _ _ q, List.getElem?_set_ne (Ne.symm q)]
theorem lf_push {L : List Nat} {y : Nat} (hi : L.length < 2 ^ 31) : va_up (fun j => L[j]?) (nI L.length).toNatClampNeg (some y) = fun j => (L ++ [y])[j]? := by
  rw [nI_clamp hi]
  funext j
  by_cases q : j = L.length
  · subst q; rw [va_up_self, List.getElem?_append_right (Nat.le_refl _), Nat.sub_self]; rfl
  · rw [va_up_ne _ _ q]
    by_cases c : j < L.length
    · rw [List.getElem?_append_left c]
    · rw [List.getElem?_append_right (by omega), List.getElem?_eq_none (by omega), List.getElem?_eq_none (by show 1 ≤ _; omega)]


def GC0 : GC := mkGC Z0 Z0
def SC0 : SC := mkSC 0 Z0 ZF

