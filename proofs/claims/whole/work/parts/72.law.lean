
/-! the law: what holds between two calls -/
theorem DI_up {C : FC} {m n : Nat} (h : DI C m) (hm : m ≤ n) : DI C n := ⟨h.1, h.2.1, h.2.2.1, Nat.le_trans h.2.2.2 hm⟩
/-- a force, as a row of the reference keeps it -/
def PG (Q : FC) (t : Nat) (M : MV) (row : Nat → Int32) : Prop := 1 ≤ cN Q ∧ DI Q (30 * t) ∧ RW Q row ∧ cT Q = mT M
theorem PG_up {Q : FC} {t : Nat} {M u : MV} {row row' : Nat → Int32} (h : PG Q t M row) (hT : mT u = mT M) (hr : RW Q row → RW Q row') : PG Q (t + 1) u row' := ⟨h.1, DI_up h.2.1 (by omega), hr h.2.2.1, h.2.2.2.trans hT.symm⟩
def INV (t z : Nat) (tx : Nat → Nat) (R : RC) (C : FC) (V U : PV) (S : SC) (M : MV) : Prop :=
  (z ≤ 200 ∧ (∀ j, tx j < 128) ∧ mX M = tx ∧ mL M = z ∧ ∀ j, R j < 100) ∧ PG C t M (mS M) ∧ ES M S ∧ (pz V = mA M ∧ mA M ≤ 8 ∧ ∀ j, j < mA M → PG (pQ V j) t M (rwO (mW M) j)) ∧ (pz U = mK M ∧ mK M ≤ 2 ∧ ∀ j, j < mK M → PG (pQ U j) t M (rwO (mP M) j))
section INVS
variable {t z : Nat} {tx : Nat → Nat} {R : RC} {C : FC} {V U : PV} {S : SC} {M u : MV}
theorem INV_R (h : INV t z tx R C V U S M) {R2 : RC} (hR : ∀ j, R2 j < 100) : INV t z tx R2 C V U S M := ⟨⟨h.1.1, h.1.2.1, h.1.2.2.1, h.1.2.2.2.1, hR⟩, h.2⟩
theorem INV_tx (h : INV t z tx R C V U S M) {z2 : Nat} {tx2 : Nat → Nat} (hX : mX u = tx2) (hL : mL u = z2) (hz : z2 ≤ 200) (ht : ∀ j, tx2 j < 128) (k1 : mT u = mT M) (k2 : mS u = mS M) (k3 : mA u = mA M) (k4 : mW u = mW M) (k5 : mK u = mK M) (k6 : mP u = mP M) (k7 : mE u = mE M) (k8 : mN u = mN M) : INV (t + 1) z2 tx2 R C V U S u := by
  obtain ⟨⟨h1, h2, h3, h4, h5⟩, hP, ⟨e1, e2, e3⟩, ⟨v1, v2, v3⟩, ⟨w1, w2, w3⟩⟩ := h
  refine ⟨⟨hz, ht, hX, hL, h5⟩, PG_up hP k1 (fun q => by rw [k2]; exact q), ⟨k7.trans e1, e2, fun i hi => by rw [k8]; exact e3 i hi⟩, ⟨v1.trans k3.symm, by rw [k3]; exact v2, fun j hj => ?_⟩, ⟨w1.trans k5.symm, by rw [k5]; exact w2, fun j hj => ?_⟩⟩
  · rw [k3] at hj; exact PG_up (v3 j hj) k1 (fun q => by rw [k4]; exact q)
  · rw [k5] at hj; exact PG_up (w3 j hj) k1 (fun q => by rw [k6]; exact q)
theorem INV_KS (h : INV t z tx R C V U S M) (k : KS M u) : INV (t + 1) z tx R C V U S u := by
  obtain ⟨⟨a1, a2, a3, a4, a5, a6, a7⟩, ⟨b1, b2⟩, c⟩ := k
  exact INV_tx h (a1.trans h.1.2.2.1) (a2.trans h.1.2.2.2.1) h.1.1 h.1.2.1 a7 c b1 b2 a5 a6 a3 a4
theorem INV_up (h : INV t z tx R C V U S M) : INV (t + 1) z tx R C V U S M := INV_tx h h.1.2.2.1 h.1.2.2.2.1 h.1.1 h.1.2.1 rfl rfl rfl rfl rfl rfl rfl rfl
theorem INV_es (h : INV t z tx R C V U S M) {S2 : SC} (hE : ES u S2) (a1 : mX u = mX M) (a2 : mL u = mL M) (k1 : mT u = mT M) (k2 : mS u = mS M) (k3 : mA u = mA M) (k4 : mW u = mW M) (k5 : mK u = mK M) (k6 : mP u = mP M) : INV (t + 1) z tx R C V U S2 u := by
  obtain ⟨⟨h1, h2, h3, h4, h5⟩, hP, ⟨e1, e2, e3⟩, ⟨v1, v2, v3⟩, ⟨w1, w2, w3⟩⟩ := h
  refine ⟨⟨h1, h2, a1.trans h3, a2.trans h4, h5⟩, PG_up hP k1 (fun q => by rw [k2]; exact q), hE, ⟨v1.trans k3.symm, by rw [k3]; exact v2, fun j hj => ?_⟩, ⟨w1.trans k5.symm, by rw [k5]; exact w2, fun j hj => ?_⟩⟩
  · rw [k3] at hj; exact PG_up (v3 j hj) k1 (fun q => by rw [k4]; exact q)
  · rw [k5] at hj; exact PG_up (w3 j hj) k1 (fun q => by rw [k6]; exact q)
theorem ES_add (h : ES M S) {s : Nat} {q : Bool} (h6 : hN S < 6) (hs : s < 9) (h1 : mE u = mE M + 1) (h2 : mN u = va_up (va_up (mN M) (2 * mE M) s) (2 * mE M + 1) q.toNat) : ES u (mkSC (hN S + 1) (va_up (hS S) (hN S) s) (va_up (hH S) (hN S) q)) := by
  obtain ⟨e1, e2, e3⟩ := h
  refine ⟨by rw [h1, e1]; rfl, (by show hN S + 1 ≤ 6; omega), fun i hi => ?_⟩
  have hi2 : i < hN S + 1 := hi
  show mN u (2 * i) = va_up (hS S) (hN S) s i ∧ mN u (2 * i + 1) = (va_up (hH S) (hN S) q i).toNat ∧ va_up (hS S) (hN S) s i < 9
  rw [h2, e1]
  by_cases c : i = hN S
  · subst c
    rw [va_up_ne _ _ (by omega), va_up_self, va_up_self, va_up_self, va_up_self]
    exact ⟨rfl, rfl, hs⟩
  · obtain ⟨g1, g2, g3⟩ := e3 i (by omega)
    refine ⟨(va_up_ne _ _ (by omega)).trans ((va_up_ne _ _ (by omega)).trans (g1.trans (va_up_ne _ _ c).symm)), (va_up_ne _ _ (by omega)).trans ((va_up_ne _ _ (by omega)).trans (g2.trans (congrArg Bool.toNat (va_up_ne _ _ c).symm))), ?_⟩
    rw [va_up_ne _ _ c]; exact g3
theorem ES_0 (h1 : mE u = 0) : ES u (shN S 0) := ⟨h1, Nat.zero_le _, fun i hi => absurd hi (Nat.not_lt_zero _)⟩
theorem padd_8 {V : PV} {C : FC} (h : pz V = 8) : padd8 V C = mkPV 8 (rotP 7 (pq V)) (va_up (rotP 7 (pQ V)) 7 C) := by rw [padd8, if_pos h]
theorem padd_n {V : PV} {C : FC} (h : ¬ pz V = 8) : padd8 V C = mkPV (pz V + 1) (pq V) (va_up (pQ V) (pz V) C) := by rw [padd8, if_neg h]
theorem INV_act (h : INV t z tx R C V U S M) {C2 : FC} (hC : DI C2 (30 * (t + 1))) (hN : 1 ≤ cN C2) (hT : cT C2 = cT C) (k : KP M u) (hS2 : RW C2 (mS u)) (hA : mA u = (if mA M = 8 then 8 else mA M + 1)) (hW : mW u = wasR (mA M) (mW M) (mS M)) : INV (t + 1) z tx R C2 (padd8 V C) U S u := by
  obtain ⟨⟨h1, h2, h3, h4, h5⟩, hP, ⟨e1, e2, e3⟩, ⟨v1, v2, v3⟩, ⟨w1, w2, w3⟩⟩ := h
  obtain ⟨a1, a2, a3, a4, a5, a6, a7⟩ := k
  refine ⟨⟨h1, h2, a1.trans h3, a2.trans h4, h5⟩, ⟨hN, hC, hS2, hT.trans (hP.2.2.2.trans a7.symm)⟩, ⟨a3.trans e1, e2, fun i hi => by rw [a4]; exact e3 i hi⟩, ?_, ⟨w1.trans a5.symm, by rw [a5]; exact w2, fun j hj => ?_⟩⟩
  · by_cases c : mA M = 8
    · rw [if_pos c] at hA
      rw [wasR, if_pos c] at hW
      rw [padd_8 (v1.trans c), hA, hW]
      refine ⟨rfl, Nat.le_refl _, fun j hj => ?_⟩
      show PG (va_up (rotP 7 (pQ V)) 7 C j) (t + 1) u _
      by_cases q : j = 7
      · subst q; rw [va_up_self]
        exact PG_up hP a7 (fun y => RW_new hP.2.1.1.1.1 y)
      · rw [va_up_ne _ _ q, rotP, if_neg q]
        have hp := v3 (j + 1) (by omega)
        exact PG_up hp a7 (fun y => RW_old hp.2.1.1.1.1 (by omega) (RW_sh hp.2.1.1.1.1 (by omega) y))
    · rw [if_neg c] at hA
      rw [wasR, if_neg c] at hW
      rw [padd_n (fun y => c (v1.symm.trans y)), hA, hW, v1]
      refine ⟨rfl, by omega, fun j hj => ?_⟩
      show PG (va_up (pQ V) (mA M) C j) (t + 1) u _
      by_cases q : j = mA M
      · subst q; rw [va_up_self]
        exact PG_up hP a7 (fun y => RW_new hP.2.1.1.1.1 y)
      · rw [va_up_ne _ _ q]
        have hp := v3 j (by omega)
        exact PG_up hp a7 (fun y => RW_old hp.2.1.1.1.1 (by omega) y)
  · rw [a5] at hj; exact PG_up (w3 j hj) a7 (fun q => by rw [a6]; exact q)
theorem INV_undo (h : INV t z tx R C V U S M) (h0 : 0 < mA M) (k : KP M u) (hS2 : RW (pQ V (pz V - 1)) (mS u)) (hA : mA u = mA M - 1) (hW : mW u = mW M) : INV (t + 1) z tx R (pQ V (pz V - 1)) (ptk V) U S u := by
  obtain ⟨⟨h1, h2, h3, h4, h5⟩, hP, ⟨e1, e2, e3⟩, ⟨v1, v2, v3⟩, ⟨w1, w2, w3⟩⟩ := h
  obtain ⟨a1, a2, a3, a4, a5, a6, a7⟩ := k
  have hp := v3 (mA M - 1) (by omega)
  rw [v1] at hS2 ⊢
  refine ⟨⟨h1, h2, a1.trans h3, a2.trans h4, h5⟩, PG_up hp a7 (fun _ => hS2), ⟨a3.trans e1, e2, fun i hi => by rw [a4]; exact e3 i hi⟩, ⟨?_, by omega, fun j hj => ?_⟩, ⟨w1.trans a5.symm, by rw [a5]; exact w2, fun j hj => ?_⟩⟩
  · show pz V - 1 = _; omega
  · show PG (pQ V j) (t + 1) u _
    rw [hW]; exact PG_up (v3 j (by omega)) a7 id
  · rw [a5] at hj; exact PG_up (w3 j hj) a7 (fun q => by rw [a6]; exact q)
theorem INV_keep (h : INV t z tx R C V U S M) (h2k : mK M < 2) (k : mX u = mX M ∧ mL u = mL M ∧ mE u = mE M ∧ mN u = mN M ∧ mT u = mT M) (ka : KA M u) (hs : mS u = mS M) (hK : mK u = mK M + 1) (hPp : mP u = cpR (mP M) (mS M) (49 * mK M) 0) : INV (t + 1) z tx R C V (padd2 U C) S u := by
  obtain ⟨⟨h1, h2, h3, h4, h5⟩, hP, ⟨e1, e2, e3⟩, ⟨v1, v2, v3⟩, ⟨w1, w2, w3⟩⟩ := h
  obtain ⟨a1, a2, a3, a4, a7⟩ := k
  obtain ⟨b1, b2⟩ := ka
  refine ⟨⟨h1, h2, a1.trans h3, a2.trans h4, h5⟩, PG_up hP a7 (fun q => by rw [hs]; exact q), ⟨a3.trans e1, e2, fun i hi => by rw [a4]; exact e3 i hi⟩, ⟨v1.trans b1.symm, by rw [b1]; exact v2, fun j hj => ?_⟩, ⟨?_, by omega, fun j hj => ?_⟩⟩
  · rw [b1] at hj; exact PG_up (v3 j hj) a7 (fun q => by rw [b2]; exact q)
  · show pz U + 1 = _; omega
  · show PG (va_up (pQ U) (pz U) C j) (t + 1) u _
    rw [hPp, w1]
    by_cases q : j = mK M
    · subst q; rw [va_up_self]
      exact PG_up hP a7 (fun y => RW_new hP.2.1.1.1.1 y)
    · rw [va_up_ne _ _ q]
      have hp := w3 j (by omega)
      exact PG_up hp a7 (fun y => RW_old hp.2.1.1.1.1 (by omega) y)
theorem INV_back (h : INV t z tx R C V U S M) (h0 : 0 < mK M) (k : mX u = mX M ∧ mL u = mL M ∧ mE u = mE M ∧ mN u = mN M ∧ mT u = mT M) (hS2 : RW (pQ U (pz U - 1)) (mS u)) (hA : mA u = 0) (hK : mK u = mK M - 1) (hPp : mP u = mP M) : INV (t + 1) z tx R (pQ U (pz U - 1)) (pclr V) (ptk U) S u := by
  obtain ⟨⟨h1, h2, h3, h4, h5⟩, hP, ⟨e1, e2, e3⟩, ⟨v1, v2, v3⟩, ⟨w1, w2, w3⟩⟩ := h
  obtain ⟨a1, a2, a3, a4, a7⟩ := k
  have hp := w3 (mK M - 1) (by omega)
  rw [w1] at hS2 ⊢
  refine ⟨⟨h1, h2, a1.trans h3, a2.trans h4, h5⟩, PG_up hp a7 (fun _ => hS2), ⟨a3.trans e1, e2, fun i hi => by rw [a4]; exact e3 i hi⟩, ⟨hA.symm, by omega, fun j hj => absurd hj (by omega)⟩, ⟨?_, by omega, fun j hj => ?_⟩⟩
  · show pz U - 1 = _; omega
  · show PG (pQ U j) (t + 1) u _
    rw [hPp]; exact PG_up (w3 j (by omega)) a7 id
theorem INV_lay (h : INV t z tx R C V U S M) {C2 : FC} {R2 : RC} (hR : ∀ j, R2 j < 100) (hI : RI C2) (hN : 0 < cN C2) (k : mX u = mX M ∧ mL u = mL M ∧ RW C2 (mS u) ∧ mT u = cT C2 ∧ mA u = 0 ∧ mK u = 0 ∧ mE u = 0) : INV (t + 1) z tx R2 C2 (pclr V) (pclr U) (shN S 0) u := by
  obtain ⟨⟨h1, h2, h3, h4, h5⟩, hP, -, -, -⟩ := h
  obtain ⟨a1, a2, a3, a4, a5, a6, a7⟩ := k
  obtain ⟨i1, i2, i3, i4⟩ := hI
  refine ⟨⟨h1, h2, a1.trans h3, a2.trans h4, hR⟩, ⟨hN, ⟨i1, fun s hs => by rw [i4 s hs]; exact Nat.zero_le _, fun s hs _ => i4 s hs, by omega⟩, a3, a4.symm⟩, ES_0 a7, ⟨a5.symm, by omega, fun j hj => absurd hj (by omega)⟩, ⟨a6.symm, by omega, fun j hj => absurd hj (by omega)⟩⟩
end INVS
theorem rdA_q {tx : Nat → Nat} {n : Nat} : ∀ k p (R : Nat → Nat) D, (∀ j, R j < 100) → ∀ j, (rdA tx n k p R D).2.1 j < 100
  | 0, _, _, _, h => h
  | k + 1, p, R, D, h => by
    by_cases c : p < n
    · have h2 := (rdN_ok (tx := tx) (n := n) (due := nof (oI (letO tx n p))) (at_ := p + 1) h).1
      cases h1 : (rdN tx n (nof (oI (letO tx n p))) (p + 1) R).1 with
      | none => rw [rdA_none c h1]; exact h2
      | some p2 =>
        cases h3 : (putO (oI (letO tx n p)) (rdN tx n (nof (oI (letO tx n p))) (p + 1) R).2 D).1 with
        | false => rw [rdA_bad c h1 h3]; exact h2
        | true => rw [rdA_ok c h1 h3]; exact rdA_q k _ _ _ h2
    · rw [rdA_end c]; exact h
theorem INV_0 {M : MV} {q q2 : Nat → Nat → Nat} (h : mX M = Z0 ∧ mL M = 0 ∧ RW F1 (mS M) ∧ mT M = cT F1 ∧ mA M = 0 ∧ mK M = 0 ∧ mE M = 0) : INV 0 0 Z0 Z0 F1 (mkPV 0 q (fun _ => FC0)) (mkPV 0 q2 (fun _ => FC0)) SC0 M := by
  obtain ⟨h1, h2, h3, h4, h5, h6, h7⟩ := h
  obtain ⟨i1, i2, i3, i4⟩ := F1_RI
  refine ⟨⟨Nat.zero_le _, fun j => Nat.lt_trans (Z0_100 j) (by decide), h1, h2, Z0_100⟩, ⟨by rw [F1_n.2.1]; decide, ⟨i1, fun s hs => by rw [i4 s hs]; exact Nat.zero_le _, fun s hs _ => i4 s hs, by rw [i3]; exact Nat.zero_le _⟩, h3, h4.symm⟩, ⟨h7, Nat.zero_le _, fun i hi => absurd hi (Nat.not_lt_zero _)⟩, ⟨h5.symm, by omega, fun j hj => absurd hj (by omega)⟩, ⟨h6.symm, by omega, fun j hj => absurd hj (by omega)⟩⟩
/-! the law's own script -/
def SX (x : GX) (b L : Nat) (xs : Nat → Int32) : Prop := match x with
  | (p, l, e, R, s, m, args, below, meth, c, D, A, nL, Q) => va_X b L xs s s.heap ∧ b < s.heap.size ∧ ¬ A b
section SCR
variable {x : GX} {l0 : Launch} {cc : ByteArray} {own : String} {Ts : List Cond} {E : EV} {rm : Room} {k n : Nat} {ws : va_W} {pc : Nat} {lv : List (Nat × Value)} {st : List Value} {b L : Nat} {xs : Nat → Int32}
theorem g_sld (C : CX x l0 cc own Ts E rm) (h : SX x b L xs) {i : Nat} (v : Int32) (hi : i < L) (hL : L < 2 ^ 31) (hv : xs i = v) (d : decode cc pc = .ok (.iaload, 1)) (g : GG x k n ws (pc + 1) lv (.int v :: st)) : GG x k n ws pc lv (.int (nI i) :: .ref b :: st) := by
  obtain ⟨p, l, e, R, s, m, args, below, meth, c, D, A, nL, Q⟩ := x
  obtain ⟨hx, hb, hml, hown, hts, hK, hA, hR, hDE, hSV, hl0⟩ := C
  obtain ⟨h1, h2, h3⟩ := h
  intro H locs ls hP hD hS hl
  refine va_sld hx hb h1 h2 h3 hS (vp_in_nI hi hL) d ?_
  rw [nI_clamp (by omega), hv]
  exact g H locs ls hP hD hS hl
theorem g_slenL (C : CX x l0 cc own Ts E rm) (h : SX x b L xs) (d : decode cc pc = .ok (.arraylength, 1)) (g : GG x k n ws (pc + 1) lv (.int (nI L) :: st)) : GG x k n ws pc lv (.ref b :: st) := by
  obtain ⟨p, l, e, R, s, m, args, below, meth, c, D, A, nL, Q⟩ := x
  obtain ⟨hx, hb, hml, hown, hts, hK, hA, hR, hDE, hSV, hl0⟩ := C
  obtain ⟨h1, h2, h3⟩ := h
  exact fun H locs ls hP hD hS hl => va_slen hx hb h1 h2 h3 hS d (g H locs ls hP hD hS hl)
end SCR

def LWM (E : EV) (ae ab ar an af ah ak ax ag a : Nat → Nat) (z : Nat) (tx : Nat → Nat) (R : RC) (C : FC) (D : FC) (V : PV) (U : PV) (S : SC) (G : GC) (M : MV) : va_W := (lfo E ae ab ar an af ah ak ax ag z ++ (tw E ab 200 tx ++ (rw_ E ar R ++ (fw E an C ++ (fw E af D ++ (pw8 E ah V ++ (pw2 E ak U ++ (sw E ax S ++ (gw E ag G ++ (mw E a M))))))))))
def LCX (x : GX) (l : Launch) (E : EV) (b L : Nat) (xs : Nat → Int32) (kk nn t i : Nat) : Prop := CX x l cL_law RL wsL_law E room_1 ∧ SX x b L xs ∧ kk ≤ room_1.cells ∧ nn ≤ room_1.slots ∧ i = 5 * t ∧ i + 5 ≤ L ∧ L ≤ 320
def NX (x : GX) (E : EV) (ae ab ar an af ah ak ax ag a : Nat → Nat) (b kk nn t i : Nat) : Prop := ∀ (z : Nat) (tx : Nat → Nat) (R : RC) (C : FC) (D : FC) (V : PV) (U : PV) (S : SC) (G : GC) (M : MV), INV (t + 1) z tx R C V U S M → GG x kk nn (LWM E ae ab ar an af ah ak ax ag a z tx R C D V U S G M) 857 [(0, .ref b), (1, .ref (ae 0)), (2, .ref (a 0)), (3, .int (nI i))] []
