
def yeN (C : FC) (z : Nat) : Nat → FC × Nat
  | 0 => (C, 0)
  | k + 1 => ((passC (drawC (yeN C z k).1 (drw z k))).1, (yeN C z k).2 + (passC (drawC (yeN C z k).1 (drw z k))).2)
theorem DI_turnF {C : FC} {m f : Nat} (h : DI C m) : DI (turnF C f) m := by
  rw [turnF]; exact ite_P (P := fun D => DI D m) (fun q => DI_tu h q) (fun _ => h)
theorem turnF_T (C : FC) (f : Nat) : cT (turnF C f) = cT C := by rw [turnF]; exact ite_P (P := fun D => cT D = cT C) (fun _ => rfl) (fun _ => rfl)
theorem draw_n (C : FC) (d : Nat) : cN (drawC C d) = cN C := by
  have h1 : cN (if d / 8 % 3 = 0 then turnF C (d % 6) else C) = cN C := ite_P (P := fun D => cN D = cN C) (fun _ => turnF_n C _) (fun _ => rfl)
  rw [drawC]
  exact ite_P (P := fun D => cN D = cN C) (fun _ => h1) (fun _ => h1)
theorem draw_T (C : FC) (d : Nat) : cT (drawC C d) = cT C := by
  have h1 : cT (if d / 8 % 3 = 0 then turnF C (d % 6) else C) = cT C := ite_P (P := fun D => cT D = cT C) (fun _ => turnF_T C _) (fun _ => rfl)
  rw [drawC]
  exact ite_P (P := fun D => cT D = cT C) (fun _ => h1) (fun _ => h1)
theorem DI_draw {C : FC} {m d : Nat} (hN : 1 ≤ cN C) (h : DI C m) : DI (drawC C d) m := by
  have h1 : DI (if d / 8 % 3 = 0 then turnF C (d % 6) else C) m := ite_P (P := fun D => DI D m) (fun _ => DI_turnF h) (fun _ => h)
  have h2 : cN (if d / 8 % 3 = 0 then turnF C (d % 6) else C) = cN C := ite_P (P := fun D => cN D = cN C) (fun _ => turnF_n C _) (fun _ => rfl)
  rw [drawC]
  exact ite_P (P := fun D => DI D m) (fun _ => DI_to h1 (by rw [h2]; exact Nat.mod_lt _ (by omega))) (fun _ => h1)
theorem ye_all {C : FC} {m z : Nat} (hN : 1 ≤ cN C) (h : DI C m) : ∀ k, DI (yeN C z k).1 (m + k) ∧ cN (yeN C z k).1 = cN C ∧ cT (yeN C z k).1 = cT C
  | 0 => ⟨h, rfl, rfl⟩
  | k + 1 => by
    obtain ⟨a, b, c⟩ := ye_all (z := z) hN h k
    rw [yeN]
    refine ⟨DI_pass (DI_draw (by omega) a), ?_, ?_⟩
    · show cN (passC _).1 = _; rw [pass_N, draw_n, b]
    · show cT (passC _).1 = _; rw [pass_T, draw_T, c]
theorem dr_1 {C : FC} {d : Nat} (c : d / 8 % 3 = 0) : drawC C d = (if d / 1024 % 5 = 0 ∧ cwB (tuC C (d % 6)) (d / 64 % cN (tuC C (d % 6))) = true then toC (tuC C (d % 6)) (d / 64 % cN (tuC C (d % 6))) else tuC C (d % 6)) := by
  rw [drawC, if_pos c, turnF, if_pos (Nat.mod_lt _ (by decide)), tuC_N]
theorem dr_2 {C : FC} {d : Nat} (c : ¬ d / 8 % 3 = 0) : drawC C d = (if d / 1024 % 5 = 0 ∧ cwB C (d / 64 % cN C) = true then toC C (d / 64 % cN C) else C) := by
  rw [drawC, if_neg c]
theorem drw_lt (z k : Nat) : drw z k < 65521 := Nat.mod_lt _ (by decide)

