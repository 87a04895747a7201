
/-- the first force -/
def F1 : FC := (rdA ftx 85 200 0 Z0 (emC FC0)).2.2
def D8 : FC := addC (addC (addC (addC (addC (addC (addC (addC (sF (emC FC0) 37) 0 1 0 0) 1 0 3 1) 2 7 4 2) 3 0 1 0) 4 2 5 3) 1 4 1 1) 0 10 0 4) 3 2 8 2
theorem F1_n : cF F1 = 37 ∧ cN F1 = 8 ∧ cG F1 = 0 ∧ cY F1 = 0 ∧ cT F1 = 3 := by decide +kernel
theorem F1_D8 : ∀ s, s < 8 → cK F1 s = cK D8 s ∧ cA F1 s = cA D8 s ∧ cB F1 s = cB D8 s ∧ cP F1 s = cP D8 s := by decide +kernel
theorem F1_no : (txA ftx 85 200 0 (emC FC0)).1 = none := by decide +kernel
theorem F1_RI : RI F1 := by
  have h := (rd_tx (tx := ftx) (n := 85) 200 0 Z0 (emC FC0)).2 F1_no
  rw [show F1 = (txA ftx 85 200 0 (emC FC0)).2 from h]
  exact RI_tx 200 0 _ (RI_em FC0)
theorem RR_ext {D C : FC} {z : Nat → Int32} (h : RR D z) (h0 : cF C = cF D) (h1 : cY C = cY D) (h2 : cN C = cN D) (h3 : cG C = cG D) (h4 : ∀ s, s < cN D → cK C s = cK D s ∧ cA C s = cA D s ∧ cB C s = cB D s ∧ cP C s = cP D s) : RR C z := by
  obtain ⟨⟨a, b, c, d, g⟩, e⟩ := h
  refine ⟨⟨by rw [h0]; exact a, by rw [h1]; exact b, by rw [h2]; exact c, by rw [h3]; exact d, fun s hs => ?_⟩, fun s hs => e s (by omega)⟩
  rw [h2] at hs
  obtain ⟨k1, k2, k3, k4⟩ := h4 s hs
  rw [k1, k2, k3, k4]
  exact g s hs
theorem RR_tu0 {C : FC} {z : Nat → Int32} {g : Nat} (h : RR C z) : RR (sF C g) (va_up z 0 (nI g)) := ⟨RB_tu h.1, fun s hs => (va_up_ne _ _ (by omega)).trans (h.2 s hs)⟩
theorem putR_2 {f : Nat → Int32} {N k a b p : Nat} : putR f N k a b p 2 = nI (N + 1) := by unfold putR; rw [va_up_self]
theorem F1_RR {z : Nat → Int32} (h : RR D8 z) : RR F1 z := RR_ext h (F1_n.1.trans (by decide)) (F1_n.2.2.2.1.trans (by decide)) (F1_n.2.1.trans (by decide)) (F1_n.2.2.1.trans (by decide)) (fun s hs => F1_D8 s hs)
def ZI : Nat → Int32 := fun _ => 0
def M0 : MV := mkMV 0 ZI 0 ZI 0 ZI 0 Z0 Z0 0 0 Z0 ZI 0 ZI 0 0 Z0 Z0 Z0 Z0
/-- the object of the class -/
def lfo (E : EV) (e b r d f h i s g : Nat → Nat) (z : Nat) : va_W := [(e 0, .inr (5, [.ref (b 0), .int (nI z), .ref (r 0), .ref (d 0), .ref (f 0), .ref (h 0), .ref (i 0), .ref (s 0), .ref (g 0)]))]
def LW (E : EV) (e b r d f h i s g : Nat → Nat) (z : Nat) (tx : Nat → Nat) (R : RC) (C D : FC) (V U : PV) (S : SC) (G : GC) : va_W := lfo E e b r d f h i s g z ++ (tw E b 200 tx ++ (rw_ E r R ++ (fw E d C ++ (fw E f D ++ (pw8 E h V ++ (pw2 E i U ++ (sw E s S ++ gw E g G)))))))
def MIn (M : MV) : Prop := mX M = Z0 ∧ mL M = 0 ∧ RW F1 (mS M) ∧ mT M = 3 ∧ mA M = 0 ∧ mK M = 0 ∧ mE M = 0

