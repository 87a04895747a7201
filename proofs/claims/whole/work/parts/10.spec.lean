theorem atForce_0 (E : EV) (a : Nat → Nat) (z0 : Nat) (z1 : Nat) (z2 : Nat) (z3 : Nat) (z4 : Nat) (z5 : Nat → Nat) (z6 : Nat → Nat) (z7 : Nat → Nat) (z8 : Nat → Nat) (z9 : Nat → Nat) (z10 : Nat → Nat) : (fw E a (mkFC z0 z1 z2 z3 z4 z5 z6 z7 z8 z9 z10))[0]? = some (a 0, .inr (0, [.int (nI z0), .int (nI z1), .int (nI z2), .int (nI z3), .int (nI z4), .ref (a 1), .ref (a 2), .ref (a 3), .ref (a 4), .ref (a 5), .ref (a 6)])) := rfl
theorem stForce_0_0 (E : EV) (a : Nat → Nat) (z0 : Nat) (z1 : Nat) (z2 : Nat) (z3 : Nat) (z4 : Nat) (z5 : Nat → Nat) (z6 : Nat → Nat) (z7 : Nat → Nat) (z8 : Nat → Nat) (z9 : Nat → Nat) (z10 : Nat → Nat) (v : Nat) : List.set (fw E a (mkFC z0 z1 z2 z3 z4 z5 z6 z7 z8 z9 z10)) 0 (a 0, .inr (0, List.set [.int (nI z0), .int (nI z1), .int (nI z2), .int (nI z3), .int (nI z4), .ref (a 1), .ref (a 2), .ref (a 3), .ref (a 4), .ref (a 5), .ref (a 6)] 0 (.int (nI v)))) = fw E a (mkFC v z1 z2 z3 z4 z5 z6 z7 z8 z9 z10) := rfl
theorem stForce_0_1 (E : EV) (a : Nat → Nat) (z0 : Nat) (z1 : Nat) (z2 : Nat) (z3 : Nat) (z4 : Nat) (z5 : Nat → Nat) (z6 : Nat → Nat) (z7 : Nat → Nat) (z8 : Nat → Nat) (z9 : Nat → Nat) (z10 : Nat → Nat) (v : Nat) : List.set (fw E a (mkFC z0 z1 z2 z3 z4 z5 z6 z7 z8 z9 z10)) 0 (a 0, .inr (0, List.set [.int (nI z0), .int (nI z1), .int (nI z2), .int (nI z3), .int (nI z4), .ref (a 1), .ref (a 2), .ref (a 3), .ref (a 4), .ref (a 5), .ref (a 6)] 1 (.int (nI v)))) = fw E a (mkFC z0 v z2 z3 z4 z5 z6 z7 z8 z9 z10) := rfl
theorem stForce_0_2 (E : EV) (a : Nat → Nat) (z0 : Nat) (z1 : Nat) (z2 : Nat) (z3 : Nat) (z4 : Nat) (z5 : Nat → Nat) (z6 : Nat → Nat) (z7 : Nat → Nat) (z8 : Nat → Nat) (z9 : Nat → Nat) (z10 : Nat → Nat) (v : Nat) : List.set (fw E a (mkFC z0 z1 z2 z3 z4 z5 z6 z7 z8 z9 z10)) 0 (a 0, .inr (0, List.set [.int (nI z0), .int (nI z1), .int (nI z2), .int (nI z3), .int (nI z4), .ref (a 1), .ref (a 2), .ref (a 3), .ref (a 4), .ref (a 5), .ref (a 6)] 2 (.int (nI v)))) = fw E a (mkFC z0 z1 v z3 z4 z5 z6 z7 z8 z9 z10) := rfl
theorem stForce_0_3 (E : EV) (a : Nat → Nat) (z0 : Nat) (z1 : Nat) (z2 : Nat) (z3 : Nat) (z4 : Nat) (z5 : Nat → Nat) (z6 : Nat → Nat) (z7 : Nat → Nat) (z8 : Nat → Nat) (z9 : Nat → Nat) (z10 : Nat → Nat) (v : Nat) : List.set (fw E a (mkFC z0 z1 z2 z3 z4 z5 z6 z7 z8 z9 z10)) 0 (a 0, .inr (0, List.set [.int (nI z0), .int (nI z1), .int (nI z2), .int (nI z3), .int (nI z4), .ref (a 1), .ref (a 2), .ref (a 3), .ref (a 4), .ref (a 5), .ref (a 6)] 3 (.int (nI v)))) = fw E a (mkFC z0 z1 z2 v z4 z5 z6 z7 z8 z9 z10) := rfl
theorem stForce_0_4 (E : EV) (a : Nat → Nat) (z0 : Nat) (z1 : Nat) (z2 : Nat) (z3 : Nat) (z4 : Nat) (z5 : Nat → Nat) (z6 : Nat → Nat) (z7 : Nat → Nat) (z8 : Nat → Nat) (z9 : Nat → Nat) (z10 : Nat → Nat) (v : Nat) : List.set (fw E a (mkFC z0 z1 z2 z3 z4 z5 z6 z7 z8 z9 z10)) 0 (a 0, .inr (0, List.set [.int (nI z0), .int (nI z1), .int (nI z2), .int (nI z3), .int (nI z4), .ref (a 1), .ref (a 2), .ref (a 3), .ref (a 4), .ref (a 5), .ref (a 6)] 4 (.int (nI v)))) = fw E a (mkFC z0 z1 z2 z3 v z5 z6 z7 z8 z9 z10) := rfl
theorem atForce_1 (E : EV) (a : Nat → Nat) (z0 : Nat) (z1 : Nat) (z2 : Nat) (z3 : Nat) (z4 : Nat) (z5 : Nat → Nat) (z6 : Nat → Nat) (z7 : Nat → Nat) (z8 : Nat → Nat) (z9 : Nat → Nat) (z10 : Nat → Nat) : (fw E a (mkFC z0 z1 z2 z3 z4 z5 z6 z7 z8 z9 z10))[1]? = some (a 1, .inl (E.2.1 0, 9, .inl (fun j => nI (z5 j)))) := rfl
theorem stForce_1 (E : EV) (a : Nat → Nat) (z0 : Nat) (z1 : Nat) (z2 : Nat) (z3 : Nat) (z4 : Nat) (z5 : Nat → Nat) (z6 : Nat → Nat) (z7 : Nat → Nat) (z8 : Nat → Nat) (z9 : Nat → Nat) (z10 : Nat → Nat) (v : Nat → Nat) : List.set (fw E a (mkFC z0 z1 z2 z3 z4 z5 z6 z7 z8 z9 z10)) 1 (a 1, .inl (E.2.1 0, 9, .inl (fun j => nI (v j)))) = fw E a (mkFC z0 z1 z2 z3 z4 v z6 z7 z8 z9 z10) := rfl
theorem atForce_2 (E : EV) (a : Nat → Nat) (z0 : Nat) (z1 : Nat) (z2 : Nat) (z3 : Nat) (z4 : Nat) (z5 : Nat → Nat) (z6 : Nat → Nat) (z7 : Nat → Nat) (z8 : Nat → Nat) (z9 : Nat → Nat) (z10 : Nat → Nat) : (fw E a (mkFC z0 z1 z2 z3 z4 z5 z6 z7 z8 z9 z10))[2]? = some (a 2, .inl (E.2.1 0, 9, .inl (fun j => nI (z6 j)))) := rfl
theorem stForce_2 (E : EV) (a : Nat → Nat) (z0 : Nat) (z1 : Nat) (z2 : Nat) (z3 : Nat) (z4 : Nat) (z5 : Nat → Nat) (z6 : Nat → Nat) (z7 : Nat → Nat) (z8 : Nat → Nat) (z9 : Nat → Nat) (z10 : Nat → Nat) (v : Nat → Nat) : List.set (fw E a (mkFC z0 z1 z2 z3 z4 z5 z6 z7 z8 z9 z10)) 2 (a 2, .inl (E.2.1 0, 9, .inl (fun j => nI (v j)))) = fw E a (mkFC z0 z1 z2 z3 z4 z5 v z7 z8 z9 z10) := rfl
theorem atForce_3 (E : EV) (a : Nat → Nat) (z0 : Nat) (z1 : Nat) (z2 : Nat) (z3 : Nat) (z4 : Nat) (z5 : Nat → Nat) (z6 : Nat → Nat) (z7 : Nat → Nat) (z8 : Nat → Nat) (z9 : Nat → Nat) (z10 : Nat → Nat) : (fw E a (mkFC z0 z1 z2 z3 z4 z5 z6 z7 z8 z9 z10))[3]? = some (a 3, .inl (E.2.1 0, 9, .inl (fun j => nI (z7 j)))) := rfl
theorem stForce_3 (E : EV) (a : Nat → Nat) (z0 : Nat) (z1 : Nat) (z2 : Nat) (z3 : Nat) (z4 : Nat) (z5 : Nat → Nat) (z6 : Nat → Nat) (z7 : Nat → Nat) (z8 : Nat → Nat) (z9 : Nat → Nat) (z10 : Nat → Nat) (v : Nat → Nat) : List.set (fw E a (mkFC z0 z1 z2 z3 z4 z5 z6 z7 z8 z9 z10)) 3 (a 3, .inl (E.2.1 0, 9, .inl (fun j => nI (v j)))) = fw E a (mkFC z0 z1 z2 z3 z4 z5 z6 v z8 z9 z10) := rfl
theorem atForce_4 (E : EV) (a : Nat → Nat) (z0 : Nat) (z1 : Nat) (z2 : Nat) (z3 : Nat) (z4 : Nat) (z5 : Nat → Nat) (z6 : Nat → Nat) (z7 : Nat → Nat) (z8 : Nat → Nat) (z9 : Nat → Nat) (z10 : Nat → Nat) : (fw E a (mkFC z0 z1 z2 z3 z4 z5 z6 z7 z8 z9 z10))[4]? = some (a 4, .inl (E.2.1 0, 9, .inl (fun j => nI (z8 j)))) := rfl
theorem stForce_4 (E : EV) (a : Nat → Nat) (z0 : Nat) (z1 : Nat) (z2 : Nat) (z3 : Nat) (z4 : Nat) (z5 : Nat → Nat) (z6 : Nat → Nat) (z7 : Nat → Nat) (z8 : Nat → Nat) (z9 : Nat → Nat) (z10 : Nat → Nat) (v : Nat → Nat) : List.set (fw E a (mkFC z0 z1 z2 z3 z4 z5 z6 z7 z8 z9 z10)) 4 (a 4, .inl (E.2.1 0, 9, .inl (fun j => nI (v j)))) = fw E a (mkFC z0 z1 z2 z3 z4 z5 z6 z7 v z9 z10) := rfl
theorem atForce_5 (E : EV) (a : Nat → Nat) (z0 : Nat) (z1 : Nat) (z2 : Nat) (z3 : Nat) (z4 : Nat) (z5 : Nat → Nat) (z6 : Nat → Nat) (z7 : Nat → Nat) (z8 : Nat → Nat) (z9 : Nat → Nat) (z10 : Nat → Nat) : (fw E a (mkFC z0 z1 z2 z3 z4 z5 z6 z7 z8 z9 z10))[5]? = some (a 5, .inl (E.2.1 0, 9, .inl (fun j => nI (z9 j)))) := rfl
theorem stForce_5 (E : EV) (a : Nat → Nat) (z0 : Nat) (z1 : Nat) (z2 : Nat) (z3 : Nat) (z4 : Nat) (z5 : Nat → Nat) (z6 : Nat → Nat) (z7 : Nat → Nat) (z8 : Nat → Nat) (z9 : Nat → Nat) (z10 : Nat → Nat) (v : Nat → Nat) : List.set (fw E a (mkFC z0 z1 z2 z3 z4 z5 z6 z7 z8 z9 z10)) 5 (a 5, .inl (E.2.1 0, 9, .inl (fun j => nI (v j)))) = fw E a (mkFC z0 z1 z2 z3 z4 z5 z6 z7 z8 v z10) := rfl
theorem atForce_6 (E : EV) (a : Nat → Nat) (z0 : Nat) (z1 : Nat) (z2 : Nat) (z3 : Nat) (z4 : Nat) (z5 : Nat → Nat) (z6 : Nat → Nat) (z7 : Nat → Nat) (z8 : Nat → Nat) (z9 : Nat → Nat) (z10 : Nat → Nat) : (fw E a (mkFC z0 z1 z2 z3 z4 z5 z6 z7 z8 z9 z10))[6]? = some (a 6, .inl (E.2.1 1, 9, .inr (.inl (fun j => lN (z10 j))))) := rfl
theorem stForce_6 (E : EV) (a : Nat → Nat) (z0 : Nat) (z1 : Nat) (z2 : Nat) (z3 : Nat) (z4 : Nat) (z5 : Nat → Nat) (z6 : Nat → Nat) (z7 : Nat → Nat) (z8 : Nat → Nat) (z9 : Nat → Nat) (z10 : Nat → Nat) (v : Nat → Nat) : List.set (fw E a (mkFC z0 z1 z2 z3 z4 z5 z6 z7 z8 z9 z10)) 6 (a 6, .inl (E.2.1 1, 9, .inr (.inl (fun j => lN (v j))))) = fw E a (mkFC z0 z1 z2 z3 z4 z5 z6 z7 z8 z9 v) := rfl
theorem atRForce_0 (E : EV) (a : Nat → Nat) (z0 : Nat) (z1 : Nat) (z2 : Nat) (z3 : Nat) (z4 : Nat) (z5 : Nat → Nat) (z6 : Nat → Nat) (z7 : Nat → Nat) (z8 : Nat → Nat) (z9 : Nat → Nat) (z10 : Nat → Nat) (R : va_W) : (fw E a (mkFC z0 z1 z2 z3 z4 z5 z6 z7 z8 z9 z10) ++ R)[0]? = some (a 0, .inr (0, [.int (nI z0), .int (nI z1), .int (nI z2), .int (nI z3), .int (nI z4), .ref (a 1), .ref (a 2), .ref (a 3), .ref (a 4), .ref (a 5), .ref (a 6)])) := rfl
theorem stRForce_0_0 (E : EV) (a : Nat → Nat) (z0 : Nat) (z1 : Nat) (z2 : Nat) (z3 : Nat) (z4 : Nat) (z5 : Nat → Nat) (z6 : Nat → Nat) (z7 : Nat → Nat) (z8 : Nat → Nat) (z9 : Nat → Nat) (z10 : Nat → Nat) (R : va_W) (v : Nat) : List.set (fw E a (mkFC z0 z1 z2 z3 z4 z5 z6 z7 z8 z9 z10) ++ R) 0 (a 0, .inr (0, List.set [.int (nI z0), .int (nI z1), .int (nI z2), .int (nI z3), .int (nI z4), .ref (a 1), .ref (a 2), .ref (a 3), .ref (a 4), .ref (a 5), .ref (a 6)] 0 (.int (nI v)))) = fw E a (mkFC v z1 z2 z3 z4 z5 z6 z7 z8 z9 z10) ++ R := rfl
theorem stRForce_0_1 (E : EV) (a : Nat → Nat) (z0 : Nat) (z1 : Nat) (z2 : Nat) (z3 : Nat) (z4 : Nat) (z5 : Nat → Nat) (z6 : Nat → Nat) (z7 : Nat → Nat) (z8 : Nat → Nat) (z9 : Nat → Nat) (z10 : Nat → Nat) (R : va_W) (v : Nat) : List.set (fw E a (mkFC z0 z1 z2 z3 z4 z5 z6 z7 z8 z9 z10) ++ R) 0 (a 0, .inr (0, List.set [.int (nI z0), .int (nI z1), .int (nI z2), .int (nI z3), .int (nI z4), .ref (a 1), .ref (a 2), .ref (a 3), .ref (a 4), .ref (a 5), .ref (a 6)] 1 (.int (nI v)))) = fw E a (mkFC z0 v z2 z3 z4 z5 z6 z7 z8 z9 z10) ++ R := rfl
theorem stRForce_0_2 (E : EV) (a : Nat → Nat) (z0 : Nat) (z1 : Nat) (z2 : Nat) (z3 : Nat) (z4 : Nat) (z5 : Nat → Nat) (z6 : Nat → Nat) (z7 : Nat → Nat) (z8 : Nat → Nat) (z9 : Nat → Nat) (z10 : Nat → Nat) (R : va_W) (v : Nat) : List.set (fw E a (mkFC z0 z1 z2 z3 z4 z5 z6 z7 z8 z9 z10) ++ R) 0 (a 0, .inr (0, List.set [.int (nI z0), .int (nI z1), .int (nI z2), .int (nI z3), .int (nI z4), .ref (a 1), .ref (a 2), .ref (a 3), .ref (a 4), .ref (a 5), .ref (a 6)] 2 (.int (nI v)))) = fw E a (mkFC z0 z1 v z3 z4 z5 z6 z7 z8 z9 z10) ++ R := rfl
theorem stRForce_0_3 (E : EV) (a : Nat → Nat) (z0 : Nat) (z1 : Nat) (z2 : Nat) (z3 : Nat) (z4 : Nat) (z5 : Nat → Nat) (z6 : Nat → Nat) (z7 : Nat → Nat) (z8 : Nat → Nat) (z9 : Nat → Nat) (z10 : Nat → Nat) (R : va_W) (v : Nat) : List.set (fw E a (mkFC z0 z1 z2 z3 z4 z5 z6 z7 z8 z9 z10) ++ R) 0 (a 0, .inr (0, List.set [.int (nI z0), .int (nI z1), .int (nI z2), .int (nI z3), .int (nI z4), .ref (a 1), .ref (a 2), .ref (a 3), .ref (a 4), .ref (a 5), .ref (a 6)] 3 (.int (nI v)))) = fw E a (mkFC z0 z1 z2 v z4 z5 z6 z7 z8 z9 z10) ++ R := rfl
theorem stRForce_0_4 (E : EV) (a : Nat → Nat) (z0 : Nat) (z1 : Nat) (z2 : Nat) (z3 : Nat) (z4 : Nat) (z5 : Nat → Nat) (z6 : Nat → Nat) (z7 : Nat → Nat) (z8 : Nat → Nat) (z9 : Nat → Nat) (z10 : Nat → Nat) (R : va_W) (v : Nat) : List.set (fw E a (mkFC z0 z1 z2 z3 z4 z5 z6 z7 z8 z9 z10) ++ R) 0 (a 0, .inr (0, List.set [.int (nI z0), .int (nI z1), .int (nI z2), .int (nI z3), .int (nI z4), .ref (a 1), .ref (a 2), .ref (a 3), .ref (a 4), .ref (a 5), .ref (a 6)] 4 (.int (nI v)))) = fw E a (mkFC z0 z1 z2 z3 v z5 z6 z7 z8 z9 z10) ++ R := rfl
theorem atRForce_1 (E : EV) (a : Nat → Nat) (z0 : Nat) (z1 : Nat) (z2 : Nat) (z3 : Nat) (z4 : Nat) (z5 : Nat → Nat) (z6 : Nat → Nat) (z7 : Nat → Nat) (z8 : Nat → Nat) (z9 : Nat → Nat) (z10 : Nat → Nat) (R : va_W) : (fw E a (mkFC z0 z1 z2 z3 z4 z5 z6 z7 z8 z9 z10) ++ R)[1]? = some (a 1, .inl (E.2.1 0, 9, .inl (fun j => nI (z5 j)))) := rfl
theorem stRForce_1 (E : EV) (a : Nat → Nat) (z0 : Nat) (z1 : Nat) (z2 : Nat) (z3 : Nat) (z4 : Nat) (z5 : Nat → Nat) (z6 : Nat → Nat) (z7 : Nat → Nat) (z8 : Nat → Nat) (z9 : Nat → Nat) (z10 : Nat → Nat) (R : va_W) (v : Nat → Nat) : List.set (fw E a (mkFC z0 z1 z2 z3 z4 z5 z6 z7 z8 z9 z10) ++ R) 1 (a 1, .inl (E.2.1 0, 9, .inl (fun j => nI (v j)))) = fw E a (mkFC z0 z1 z2 z3 z4 v z6 z7 z8 z9 z10) ++ R := rfl
theorem atRForce_2 (E : EV) (a : Nat → Nat) (z0 : Nat) (z1 : Nat) (z2 : Nat) (z3 : Nat) (z4 : Nat) (z5 : Nat → Nat) (z6 : Nat → Nat) (z7 : Nat → Nat) (z8 : Nat → Nat) (z9 : Nat → Nat) (z10 : Nat → Nat) (R : va_W) : (fw E a (mkFC z0 z1 z2 z3 z4 z5 z6 z7 z8 z9 z10) ++ R)[2]? = some (a 2, .inl (E.2.1 0, 9, .inl (fun j => nI (z6 j)))) := rfl
theorem stRForce_2 (E : EV) (a : Nat → Nat) (z0 : Nat) (z1 : Nat) (z2 : Nat) (z3 : Nat) (z4 : Nat) (z5 : Nat → Nat) (z6 : Nat → Nat) (z7 : Nat → Nat) (z8 : Nat → Nat) (z9 : Nat → Nat) (z10 : Nat → Nat) (R : va_W) (v : Nat → Nat) : List.set (fw E a (mkFC z0 z1 z2 z3 z4 z5 z6 z7 z8 z9 z10) ++ R) 2 (a 2, .inl (E.2.1 0, 9, .inl (fun j => nI (v j)))) = fw E a (mkFC z0 z1 z2 z3 z4 z5 v z7 z8 z9 z10) ++ R := rfl
theorem atRForce_3 (E : EV) (a : Nat → Nat) (z0 : Nat) (z1 : Nat) (z2 : Nat) (z3 : Nat) (z4 : Nat) (z5 : Nat → Nat) (z6 : Nat → Nat) (z7 : Nat → Nat) (z8 : Nat → Nat) (z9 : Nat → Nat) (z10 : Nat → Nat) (R : va_W) : (fw E a (mkFC z0 z1 z2 z3 z4 z5 z6 z7 z8 z9 z10) ++ R)[3]? = some (a 3, .inl (E.2.1 0, 9, .inl (fun j => nI (z7 j)))) := rfl
theorem stRForce_3 (E : EV) (a : Nat → Nat) (z0 : Nat) (z1 : Nat) (z2 : Nat) (z3 : Nat) (z4 : Nat) (z5 : Nat → Nat) (z6 : Nat → Nat) (z7 : Nat → Nat) (z8 : Nat → Nat) (z9 : Nat → Nat) (z10 : Nat → Nat) (R : va_W) (v : Nat → Nat) : List.set (fw E a (mkFC z0 z1 z2 z3 z4 z5 z6 z7 z8 z9 z10) ++ R) 3 (a 3, .inl (E.2.1 0, 9, .inl (fun j => nI (v j)))) = fw E a (mkFC z0 z1 z2 z3 z4 z5 z6 v z8 z9 z10) ++ R := rfl
theorem atRForce_4 (E : EV) (a : Nat → Nat) (z0 : Nat) (z1 : Nat) (z2 : Nat) (z3 : Nat) (z4 : Nat) (z5 : Nat → Nat) (z6 : Nat → Nat) (z7 : Nat → Nat) (z8 : Nat → Nat) (z9 : Nat → Nat) (z10 : Nat → Nat) (R : va_W) : (fw E a (mkFC z0 z1 z2 z3 z4 z5 z6 z7 z8 z9 z10) ++ R)[4]? = some (a 4, .inl (E.2.1 0, 9, .inl (fun j => nI (z8 j)))) := rfl
theorem stRForce_4 (E : EV) (a : Nat → Nat) (z0 : Nat) (z1 : Nat) (z2 : Nat) (z3 : Nat) (z4 : Nat) (z5 : Nat → Nat) (z6 : Nat → Nat) (z7 : Nat → Nat) (z8 : Nat → Nat) (z9 : Nat → Nat) (z10 : Nat → Nat) (R : va_W) (v : Nat → Nat) : List.set (fw E a (mkFC z0 z1 z2 z3 z4 z5 z6 z7 z8 z9 z10) ++ R) 4 (a 4, .inl (E.2.1 0, 9, .inl (fun j => nI (v j)))) = fw E a (mkFC z0 z1 z2 z3 z4 z5 z6 z7 v z9 z10) ++ R := rfl
theorem atRForce_5 (E : EV) (a : Nat → Nat) (z0 : Nat) (z1 : Nat) (z2 : Nat) (z3 : Nat) (z4 : Nat) (z5 : Nat → Nat) (z6 : Nat → Nat) (z7 : Nat → Nat) (z8 : Nat → Nat) (z9 : Nat → Nat) (z10 : Nat → Nat) (R : va_W) : (fw E a (mkFC z0 z1 z2 z3 z4 z5 z6 z7 z8 z9 z10) ++ R)[5]? = some (a 5, .inl (E.2.1 0, 9, .inl (fun j => nI (z9 j)))) := rfl
theorem stRForce_5 (E : EV) (a : Nat → Nat) (z0 : Nat) (z1 : Nat) (z2 : Nat) (z3 : Nat) (z4 : Nat) (z5 : Nat → Nat) (z6 : Nat → Nat) (z7 : Nat → Nat) (z8 : Nat → Nat) (z9 : Nat → Nat) (z10 : Nat → Nat) (R : va_W) (v : Nat → Nat) : List.set (fw E a (mkFC z0 z1 z2 z3 z4 z5 z6 z7 z8 z9 z10) ++ R) 5 (a 5, .inl (E.2.1 0, 9, .inl (fun j => nI (v j)))) = fw E a (mkFC z0 z1 z2 z3 z4 z5 z6 z7 z8 v z10) ++ R := rfl
theorem atRForce_6 (E : EV) (a : Nat → Nat) (z0 : Nat) (z1 : Nat) (z2 : Nat) (z3 : Nat) (z4 : Nat) (z5 : Nat → Nat) (z6 : Nat → Nat) (z7 : Nat → Nat) (z8 : Nat → Nat) (z9 : Nat → Nat) (z10 : Nat → Nat) (R : va_W) : (fw E a (mkFC z0 z1 z2 z3 z4 z5 z6 z7 z8 z9 z10) ++ R)[6]? = some (a 6, .inl (E.2.1 1, 9, .inr (.inl (fun j => lN (z10 j))))) := rfl
theorem stRForce_6 (E : EV) (a : Nat → Nat) (z0 : Nat) (z1 : Nat) (z2 : Nat) (z3 : Nat) (z4 : Nat) (z5 : Nat → Nat) (z6 : Nat → Nat) (z7 : Nat → Nat) (z8 : Nat → Nat) (z9 : Nat → Nat) (z10 : Nat → Nat) (R : va_W) (v : Nat → Nat) : List.set (fw E a (mkFC z0 z1 z2 z3 z4 z5 z6 z7 z8 z9 z10) ++ R) 6 (a 6, .inl (E.2.1 1, 9, .inr (.inl (fun j => lN (v j))))) = fw E a (mkFC z0 z1 z2 z3 z4 z5 z6 z7 z8 z9 v) ++ R := rfl


def wol (lit : Nat) : Nat := [12297829382473034410, 14757395258967641292, 17361641481138401520, 18374966859414961920, 18446462603027742720, 18446744069414584320, 6148914691236517205, 3689348814741910323, 1085102592571150095, 71777214294589695, 281470681808895, 4294967295].getD lit 0
theorem wol_lo : ∀ q, q < 6 → wofL.getD q 0 = lN (wol q) := by decide +kernel
theorem wol_hi : ∀ q, q < 12 → 6 ≤ q → wofL.getD (q - 6) 0 ^^^ (-1) = lN (wol q) := by decide +kernel
theorem wol_bit : ∀ q, q < 12 → ∀ w, w < 64 → (wol q).testBit w = (if q < 6 then w.testBit q else !w.testBit (q - 6)) := by decide +kernel
theorem wol_lt12 : ∀ q, q < 12 → wol q < 2 ^ 64 := by decide +kernel
def wos (k a b : Nat) : Nat := if k = 1 then wol a &&& wol b else if k = 2 then wol a ||| wol b else if k = 3 then (2 ^ 64 - (wol a + 1)) ||| wol b else if k = 4 then wol a ^^^ wol b else wol a
theorem wos_lt {k a b : Nat} (ha : a < 12) (hb : b < 12) : wos k a b < 2 ^ 64 := by
  have h1 := wol_lt12 a ha
  have h2 := wol_lt12 b hb
  unfold wos
  by_cases q1 : k = 1
  · rw [if_pos q1]; exact and_lt h2
  · rw [if_neg q1]
    by_cases q2 : k = 2
    · rw [if_pos q2]; exact Nat.or_lt_two_pow h1 h2
    · rw [if_neg q2]
      by_cases q3 : k = 3
      · rw [if_pos q3]; exact Nat.or_lt_two_pow (by omega) h2
      · rw [if_neg q3]
        by_cases q4 : k = 4
        · rw [if_pos q4]; exact Nat.xor_lt_two_pow h1 h2
        · rw [if_neg q4]; exact h1
theorem pop6 : ∀ t, t < 64 → pop t ≤ 6 := by decide +kernel
theorem pop9 : ∀ t, t < 512 → pop t ≤ 9 := by decide +kernel
def euc : Nat → Nat → Nat → Nat
  | 0, a, _ => a
  | k + 1, a, b => if b = 0 then a else euc k b (a % b)
def drw (z k : Nat) : Nat := (7919 * z + 6151 * k + 1) * (7919 * z + 6151 * k + 1) % 65521
def addC (C : FC) (k a b p : Nat) : FC := mkFC (cF C) (cN C + 1) (cG C) (cY C) (cT C) (va_up (cK C) (cN C) k) (va_up (cA C) (cN C) a) (va_up (cB C) (cN C) b) (va_up (cP C) (cN C) p) (va_up (cV C) (cN C) 0) (va_up (cW C) (cN C) (wos k a b))
def emC (C : FC) : FC := mkFC 0 0 0 0 5 (cK C) (cA C) (cB C) (cP C) (cV C) (cW C)
def andW (C : FC) (set : Nat) : Nat → Nat
  | 0 => 18446744073709551615
  | k + 1 => if set.testBit k then andW C set k &&& cW C k else andW C set k
theorem andW_lt (C : FC) (set : Nat) : ∀ k, andW C set k < 2 ^ 64
  | 0 => by simp [andW]
  | k + 1 => by
    have h := andW_lt C set k
    rw [andW]
    by_cases q : set.testBit k = true
    · rw [if_pos q]; exact Nat.lt_of_le_of_lt Nat.and_le_left h
    · rw [if_neg q]; exact h
def andB (C : FC) (set : Nat) : Bool := !decide (andW C set (cN C) = 0)
/-- the first of the fewest: the sets below j that p takes -/
def minN (init : Option Nat) (p : Nat → Bool) : Nat → Option Nat × Nat
  | 0 => (init, 10)
  | j + 1 => if p j && decide (pop j < (minN init p j).2) then (some j, pop j) else minN init p j
def coreP (C : FC) (set : Nat) : Bool := decide (andn set (stM C) = 0) && !andB C set
def cutP (C : FC) (set : Nat) : Bool := decide (andn set (stM C) = 0) && andB C (andn (stM C) set)
theorem minN_le (init : Option Nat) (p : Nat → Bool) : ∀ j, j ≤ 512 → (minN init p j).2 ≤ 10
  | 0, _ => Nat.le_refl _
  | j + 1, h => by
    have h1 := minN_le init p j (by omega)
    have h2 := pop9 j (by omega)
    rw [minN]
    split
    · show pop j ≤ 10; omega
    · exact h1
theorem maxI {a b : Nat} (ha : a < 2 ^ 31) (hb : b < 2 ^ 31) : (if nI a < nI b then nI b else nI a) = nI (max a b) := by
  by_cases q : a < b
  · rw [if_pos ((nI_ltI ha hb).mpr q), Nat.max_eq_right (Nat.le_of_lt q)]
  · rw [if_neg (fun z => q ((nI_ltI ha hb).mp z)), Nat.max_eq_left (Nat.le_of_not_lt q)]
theorem minI {a b : Nat} (ha : a < 2 ^ 31) (hb : b < 2 ^ 31) : (if nI b < nI a then nI b else nI a) = nI (min a b) := by
  by_cases q : b < a
  · rw [if_pos ((nI_ltI hb ha).mpr q), Nat.min_eq_right (Nat.le_of_lt q)]
  · rw [if_neg (fun z => q ((nI_ltI hb ha).mp z)), Nat.min_eq_left (Nat.le_of_not_lt q)]
def mxF (q : Nat → Bool) (g : Nat → Nat) (init : Nat) : Nat → Nat → Nat
  | _, 0 => init
  | t, k + 1 => mxF q g (if q t then max init (g t) else init) (t + 1) k
/-- the most pairs of the free ones from s on, k places left -/
def mpF (C : FC) : Nat → Nat → Nat → Nat
  | 0, _, _ => 0
  | k + 1, free, s => if free.testBit s then mxF (fun t => free.testBit t && mmB C s t) (fun t => 1 + mpF C k (andn free (1 <<< t)) (s + 1)) (mpF C k free (s + 1)) (s + 1) k else mpF C k free (s + 1)
theorem mxF_le {q : Nat → Bool} {g : Nat → Nat} {m : Nat} (hg : ∀ t, g t ≤ m) : ∀ k t init, init ≤ m → mxF q g init t k ≤ m
  | 0, _, _, h => h
  | k + 1, t, init, h => by
    rw [mxF]
    refine mxF_le hg k (t + 1) _ ?_
    split
    · exact Nat.max_le.mpr ⟨h, hg t⟩
    · exact h
theorem mpF_le (C : FC) : ∀ k free s, mpF C k free s ≤ k
  | 0, _, _ => Nat.le_refl _
  | k + 1, free, s => by
    have h := mpF_le C k
    rw [mpF]
    split
    · exact mxF_le (fun t => by have := h (andn free (1 <<< t)) (s + 1); omega) _ _ _ (by have := h free (s + 1); omega)
    · have := h free (s + 1); omega


theorem turnF_n (C : FC) (f : Nat) : cN (turnF C f) = cN C := by
  unfold turnF; split <;> rfl
theorem upTo_all {i j : Nat} {f g : Nat → Nat} (h : j < i) : upTo i (fun _ => true) f g j = g j := by simp [upTo, h]
theorem ite_P {α : Type} {P : α → Prop} {c : Prop} [Decidable c] {a b : α} (ha : c → P a) (hb : ¬ c → P b) : P (if c then a else b) := by
  by_cases q : c
  · rw [if_pos q]; exact ha q
  · rw [if_neg q]; exact hb q
theorem rm_lt {a b m : Nat} (h : a < b) (hm : m ≤ 13) : decide ((rmN a).frames + 1 ≤ (rmN b).frames ∧ 8 + (m + 11) + (rmN a).locals ≤ (rmN b).locals) = true := decide_eq_true ⟨h, by show 8 + (m + 11) + 40 * a ≤ 40 * b; omega⟩


theorem mxF_no {q : Nat → Bool} {g : Nat → Nat} {a t m : Nat} (h : t < m) (hq : q t = false) : mxF q g a t (m - t) = mxF q g a (t + 1) (m - (t + 1)) := by
  obtain ⟨k, hk⟩ : ∃ k, m - t = k + 1 := ⟨m - t - 1, by omega⟩
  rw [hk, mxF, if_neg (by simp [hq]), show m - (t + 1) = k by omega]
theorem mxF_yes {q : Nat → Bool} {g : Nat → Nat} {a t m : Nat} (h : t < m) (hq : q t = true) : mxF q g a t (m - t) = mxF q g (max a (g t)) (t + 1) (m - (t + 1)) := by
  obtain ⟨k, hk⟩ : ∃ k, m - t = k + 1 := ⟨m - t - 1, by omega⟩
  rw [hk, mxF, if_pos hq, show m - (t + 1) = k by omega]

