abbrev GC : Type := (Nat → Nat) × (Nat → Nat)
def gB (C : GC) : Nat → Nat := C.1
def sgB (C : GC) (z : Nat → Nat) : GC := (z, C.2)
def gT (C : GC) : Nat → Nat := C.2
def sgT (C : GC) (z : Nat → Nat) : GC := (C.1, z)
def mkGC (z0 : Nat → Nat) (z1 : Nat → Nat) : GC := (z0, z1)
def gw (E : EV) (a : Nat → Nat) (C : GC) : va_W := [(a 0, .inr (1, [.ref (a 1), .ref (a 2)])), (a 1, .inl (E.2.1 0, 64, .inl (fun j => nI (gB C j)))), (a 2, .inl (E.2.1 0, 64, .inl (fun j => nI (gT C j))))]
theorem atGame_0 (E : EV) (a : Nat → Nat) (z0 : Nat → Nat) (z1 : Nat → Nat) : (gw E a (mkGC z0 z1))[0]? = some (a 0, .inr (1, [.ref (a 1), .ref (a 2)])) := rfl
theorem atGame_1 (E : EV) (a : Nat → Nat) (z0 : Nat → Nat) (z1 : Nat → Nat) : (gw E a (mkGC z0 z1))[1]? = some (a 1, .inl (E.2.1 0, 64, .inl (fun j => nI (z0 j)))) := rfl
theorem stGame_1 (E : EV) (a : Nat → Nat) (z0 : Nat → Nat) (z1 : Nat → Nat) (v : Nat → Nat) : List.set (gw E a (mkGC z0 z1)) 1 (a 1, .inl (E.2.1 0, 64, .inl (fun j => nI (v j)))) = gw E a (mkGC v z1) := rfl
theorem atGame_2 (E : EV) (a : Nat → Nat) (z0 : Nat → Nat) (z1 : Nat → Nat) : (gw E a (mkGC z0 z1))[2]? = some (a 2, .inl (E.2.1 0, 64, .inl (fun j => nI (z1 j)))) := rfl
theorem stGame_2 (E : EV) (a : Nat → Nat) (z0 : Nat → Nat) (z1 : Nat → Nat) (v : Nat → Nat) : List.set (gw E a (mkGC z0 z1)) 2 (a 2, .inl (E.2.1 0, 64, .inl (fun j => nI (v j)))) = gw E a (mkGC z0 v) := rfl
theorem atRGame_0 (E : EV) (a : Nat → Nat) (z0 : Nat → Nat) (z1 : Nat → Nat) (R : va_W) : (gw E a (mkGC z0 z1) ++ R)[0]? = some (a 0, .inr (1, [.ref (a 1), .ref (a 2)])) := rfl
theorem atRGame_1 (E : EV) (a : Nat → Nat) (z0 : Nat → Nat) (z1 : Nat → Nat) (R : va_W) : (gw E a (mkGC z0 z1) ++ R)[1]? = some (a 1, .inl (E.2.1 0, 64, .inl (fun j => nI (z0 j)))) := rfl
theorem stRGame_1 (E : EV) (a : Nat → Nat) (z0 : Nat → Nat) (z1 : Nat → Nat) (R : va_W) (v : Nat → Nat) : List.set (gw E a (mkGC z0 z1) ++ R) 1 (a 1, .inl (E.2.1 0, 64, .inl (fun j => nI (v j)))) = gw E a (mkGC v z1) ++ R := rfl
theorem atRGame_2 (E : EV) (a : Nat → Nat) (z0 : Nat → Nat) (z1 : Nat → Nat) (R : va_W) : (gw E a (mkGC z0 z1) ++ R)[2]? = some (a 2, .inl (E.2.1 0, 64, .inl (fun j => nI (z1 j)))) := rfl
theorem stRGame_2 (E : EV) (a : Nat → Nat) (z0 : Nat → Nat) (z1 : Nat → Nat) (R : va_W) (v : Nat → Nat) : List.set (gw E a (mkGC z0 z1) ++ R) 2 (a 2, .inl (E.2.1 0, 64, .inl (fun j => nI (v j)))) = gw E a (mkGC z0 v) ++ R := rfl

abbrev SC : Type := Nat × (Nat → Nat) × (Nat → Bool)
def hN (C : SC) : Nat := C.1
def shN (C : SC) (z : Nat) : SC := (z, C.2.1, C.2.2)
def hS (C : SC) : Nat → Nat := C.2.1
def shS (C : SC) (z : Nat → Nat) : SC := (C.1, z, C.2.2)
def hH (C : SC) : Nat → Bool := C.2.2
def shH (C : SC) (z : Nat → Bool) : SC := (C.1, C.2.1, z)
def mkSC (z0 : Nat) (z1 : Nat → Nat) (z2 : Nat → Bool) : SC := (z0, z1, z2)
def sw (E : EV) (a : Nat → Nat) (C : SC) : va_W := [(a 0, .inr (4, [.ref (a 1), .ref (a 2), .int (nI (hN C))])), (a 1, .inl (E.2.1 0, 6, .inl (fun j => nI (hS C j)))), (a 2, .inl (E.2.1 3, 6, .inl (fun j => bI (hH C j))))]
theorem atSight_0 (E : EV) (a : Nat → Nat) (z0 : Nat) (z1 : Nat → Nat) (z2 : Nat → Bool) : (sw E a (mkSC z0 z1 z2))[0]? = some (a 0, .inr (4, [.ref (a 1), .ref (a 2), .int (nI z0)])) := rfl
theorem stSight_0_2 (E : EV) (a : Nat → Nat) (z0 : Nat) (z1 : Nat → Nat) (z2 : Nat → Bool) (v : Nat) : List.set (sw E a (mkSC z0 z1 z2)) 0 (a 0, .inr (4, List.set [.ref (a 1), .ref (a 2), .int (nI z0)] 2 (.int (nI v)))) = sw E a (mkSC v z1 z2) := rfl
theorem atSight_1 (E : EV) (a : Nat → Nat) (z0 : Nat) (z1 : Nat → Nat) (z2 : Nat → Bool) : (sw E a (mkSC z0 z1 z2))[1]? = some (a 1, .inl (E.2.1 0, 6, .inl (fun j => nI (z1 j)))) := rfl
theorem stSight_1 (E : EV) (a : Nat → Nat) (z0 : Nat) (z1 : Nat → Nat) (z2 : Nat → Bool) (v : Nat → Nat) : List.set (sw E a (mkSC z0 z1 z2)) 1 (a 1, .inl (E.2.1 0, 6, .inl (fun j => nI (v j)))) = sw E a (mkSC z0 v z2) := rfl
theorem atSight_2 (E : EV) (a : Nat → Nat) (z0 : Nat) (z1 : Nat → Nat) (z2 : Nat → Bool) : (sw E a (mkSC z0 z1 z2))[2]? = some (a 2, .inl (E.2.1 3, 6, .inl (fun j => bI (z2 j)))) := rfl
theorem stSight_2 (E : EV) (a : Nat → Nat) (z0 : Nat) (z1 : Nat → Nat) (z2 : Nat → Bool) (v : Nat → Bool) : List.set (sw E a (mkSC z0 z1 z2)) 2 (a 2, .inl (E.2.1 3, 6, .inl (fun j => bI (v j)))) = sw E a (mkSC z0 z1 v) := rfl
theorem atRSight_0 (E : EV) (a : Nat → Nat) (z0 : Nat) (z1 : Nat → Nat) (z2 : Nat → Bool) (R : va_W) : (sw E a (mkSC z0 z1 z2) ++ R)[0]? = some (a 0, .inr (4, [.ref (a 1), .ref (a 2), .int (nI z0)])) := rfl
theorem stRSight_0_2 (E : EV) (a : Nat → Nat) (z0 : Nat) (z1 : Nat → Nat) (z2 : Nat → Bool) (R : va_W) (v : Nat) : List.set (sw E a (mkSC z0 z1 z2) ++ R) 0 (a 0, .inr (4, List.set [.ref (a 1), .ref (a 2), .int (nI z0)] 2 (.int (nI v)))) = sw E a (mkSC v z1 z2) ++ R := rfl
theorem atRSight_1 (E : EV) (a : Nat → Nat) (z0 : Nat) (z1 : Nat → Nat) (z2 : Nat → Bool) (R : va_W) : (sw E a (mkSC z0 z1 z2) ++ R)[1]? = some (a 1, .inl (E.2.1 0, 6, .inl (fun j => nI (z1 j)))) := rfl
theorem stRSight_1 (E : EV) (a : Nat → Nat) (z0 : Nat) (z1 : Nat → Nat) (z2 : Nat → Bool) (R : va_W) (v : Nat → Nat) : List.set (sw E a (mkSC z0 z1 z2) ++ R) 1 (a 1, .inl (E.2.1 0, 6, .inl (fun j => nI (v j)))) = sw E a (mkSC z0 v z2) ++ R := rfl
theorem atRSight_2 (E : EV) (a : Nat → Nat) (z0 : Nat) (z1 : Nat → Nat) (z2 : Nat → Bool) (R : va_W) : (sw E a (mkSC z0 z1 z2) ++ R)[2]? = some (a 2, .inl (E.2.1 3, 6, .inl (fun j => bI (z2 j)))) := rfl
theorem stRSight_2 (E : EV) (a : Nat → Nat) (z0 : Nat) (z1 : Nat → Nat) (z2 : Nat → Bool) (R : va_W) (v : Nat → Bool) : List.set (sw E a (mkSC z0 z1 z2) ++ R) 2 (a 2, .inl (E.2.1 3, 6, .inl (fun j => bI (v j)))) = sw E a (mkSC z0 z1 v) ++ R := rfl


def wtB (G : GC) (w : Nat) : Nat := gB G w
def bsF (q : Bool) (h : Nat → Nat) (w : Nat) : Nat → Nat
  | 0 => h w
  | k + 1 => if q then max (bsF q h w k) (h (w ^^^ 1 <<< k)) else min (bsF q h w k) (h (w ^^^ 1 <<< k))
theorem bsF_le {q : Bool} {h : Nat → Nat} {m : Nat} (hm : ∀ w, w < 64 → h w ≤ m) {w : Nat} (hw : w < 64) : ∀ k, k ≤ 6 → bsF q h w k ≤ m
  | 0, _ => hm w hw
  | k + 1, hk => by
    have h1 := bsF_le (q := q) hm hw k (by omega)
    have h2 := hm (w ^^^ 1 <<< k) (xor_bit_lt (m := 6) hw (by omega))
    rw [bsF]
    split
    · exact Nat.max_le.mpr ⟨h1, h2⟩
    · exact Nat.le_trans (Nat.min_le_left _ _) h1
def lvF (C : FC) (n : Nat) : Nat → Nat → Nat
  | 0, w => pop (lieM C w)
  | k + 1, w => bsF (decide ((n - (k + 1)) % 2 = 0)) (lvF C n k) w 6
theorem pop_lieM {C : FC} (h9 : cN C ≤ 9) (w : Nat) : pop (lieM C w) ≤ 9 := pop9 _ (lieM_lt h9 w)
theorem lvF_le {C : FC} (h9 : cN C ≤ 9) (n : Nat) : ∀ k w, w < 64 → lvF C n k w ≤ 9
  | 0, w, _ => pop_lieM h9 w
  | k + 1, w, hw => by
    rw [lvF]
    exact bsF_le (fun w hw => lvF_le h9 n k w hw) hw 6 (Nat.le_refl _)
/-- the first move: none, if it is as good as any, else the lowest -/
def fmO (G : GC) (w : Nat) : Option Nat := if gB G w = gT G w then none else fst (fun f => decide (gB G (w ^^^ 1 <<< f) = gT G w)) 0 6
def GB9 (h : Nat → Nat) : Prop := ∀ w, w < 64 → h w ≤ 9
def asW (C : FC) (S : SC) : Nat → Nat
  | 0 => 18446744073709551615
  | k + 1 => asW C S k &&& (if hH S k then plW C (hS S k) else 2 ^ 64 - (plW C (hS S k) + 1))
theorem plW_lt (C : FC) (s : Nat) (hW : ∀ i, i < cN C → cP C i < 6 ∧ cW C i < 2 ^ 64) : plW C s < 2 ^ 64 := by
  unfold plW
  split
  · omega
  · decide
theorem asW_lt (C : FC) (S : SC) : ∀ k, asW C S k < 2 ^ 64
  | 0 => by simp [asW]
  | k + 1 => by rw [asW]; exact Nat.lt_of_le_of_lt Nat.and_le_left (asW_lt C S k)


theorem lvF_step {C : FC} {n i j : Nat} (hi : 1 ≤ i) : bsF (decide ((n - i) % 2 = 0)) (lvF C n (i - 1)) j 6 = lvF C n i j := by
  obtain ⟨k, rfl⟩ : ∃ k, i = k + 1 := ⟨i - 1, by omega⟩
  rfl

