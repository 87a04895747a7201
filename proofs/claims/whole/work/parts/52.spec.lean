
/-! piles: size, where the forces lie (the oldest first), the forces -/
abbrev PV : Type := Nat × (Nat → Nat → Nat) × (Nat → FC)
def pz (V : PV) : Nat := V.1
def pq (V : PV) : Nat → Nat → Nat := V.2.1
def pQ (V : PV) : Nat → FC := V.2.2
def mkPV (z : Nat) (q : Nat → Nat → Nat) (Q : Nat → FC) : PV := (z, q, Q)
def adl (L : List (Nat → Nat)) (j : Nat) : Nat → Nat := L.getD j (fun _ => 0)
def rotP (n : Nat) {α : Type} (f : Nat → α) : Nat → α := fun j => if j = n then f 0 else f (j + 1)

def pw8 (E : EV) (h : Nat → Nat) (V : PV) : va_W := ([(h 0, .inr (2, [.ref (h 1), .int (nI (pz V))]))] ++ ([(h 1, .inl (E.2.1 4, 8, .inr (.inr (.inr (.inr (fun j => ([((pq V) 0) 0, ((pq V) 1) 0, ((pq V) 2) 0, ((pq V) 3) 0, ((pq V) 4) 0, ((pq V) 5) 0, ((pq V) 6) 0, ((pq V) 7) 0] : List Nat)[j]?))))))] ++ (fw E ((pq V) 0) ((pQ V) 0) ++ (fw E ((pq V) 1) ((pQ V) 1) ++ (fw E ((pq V) 2) ((pQ V) 2) ++ (fw E ((pq V) 3) ((pQ V) 3) ++ (fw E ((pq V) 4) ((pQ V) 4) ++ (fw E ((pq V) 5) ((pQ V) 5) ++ (fw E ((pq V) 6) ((pQ V) 6) ++ (fw E ((pq V) 7) ((pQ V) 7)))))))))))
def pw2 (E : EV) (h : Nat → Nat) (V : PV) : va_W := ([(h 0, .inr (2, [.ref (h 1), .int (nI (pz V))]))] ++ ([(h 1, .inl (E.2.1 4, 2, .inr (.inr (.inr (.inr (fun j => ([((pq V) 0) 0, ((pq V) 1) 0] : List Nat)[j]?))))))] ++ (fw E ((pq V) 0) ((pQ V) 0) ++ (fw E ((pq V) 1) ((pQ V) 1)))))

def padd8 (V : PV) (C : FC) : PV := if pz V = 8 then mkPV 8 (rotP 7 (pq V)) (va_up (rotP 7 (pQ V)) 7 C) else mkPV (pz V + 1) (pq V) (va_up (pQ V) (pz V) C)
def padd2 (V : PV) (C : FC) : PV := mkPV (pz V + 1) (pq V) (va_up (pQ V) (pz V) C)
def pclr (V : PV) : PV := mkPV 0 (pq V) (pQ V)
def ptk (V : PV) : PV := mkPV (pz V - 1) (pq V) (pQ V)


def IPost (p : Nat) (u : (Nat → Nat) × (Nat → Nat → Nat)) : Prop := u.1 0 = p

