
/-! how many bits of 64: byte by byte -/
theorem lN_subL {a b : Nat} (h : b ≤ a) : lN a - lN b = lN (a - b) := by
  have e : lN a = lN (a - b) + lN b := by rw [lN_add, Nat.sub_add_cancel h]
  rw [e, Int64.add_sub_cancel]
def rep (c : Nat) : Nat → Nat
  | 0 => 0
  | k + 1 => c + 256 * rep c k
def byt (g : Nat → Nat) : Nat → Nat → Nat
  | 0, _ => 0
  | k + 1, n => g (n % 256) + 256 * byt g k (n / 256)
theorem and_sp (x y : Nat) : x &&& y = (x % 256 &&& y % 256) + 256 * (x / 256 &&& y / 256) := by
  have h1 : (x &&& y) % 2 ^ 8 = x % 2 ^ 8 &&& y % 2 ^ 8 := Nat.and_mod_two_pow
  have h2 : (x &&& y) / 2 ^ 8 = x / 2 ^ 8 &&& y / 2 ^ 8 := Nat.and_div_two_pow
  have h3 := Nat.mod_add_div (x &&& y) (2 ^ 8)
  rw [h1, h2] at h3
  exact h3.symm
theorem rep_s {c : Nat} (hc : c < 256) (k : Nat) : rep c (k + 1) % 256 = c ∧ rep c (k + 1) / 256 = rep c k := by
  rw [rep]; omega
def f1b (b : Nat) : Nat := b - (b / 2 &&& 85)
def f2b (b : Nat) : Nat := (b &&& 51) + (b / 4 &&& 51)
def f3b (b : Nat) : Nat := (b + b / 16) &&& 15
theorem m85 : ∀ b, b < 256 → ((b / 2 + 128) &&& 85 = b / 2 &&& 85) := by decide +kernel
theorem m51a : ∀ b, b < 256 → ((b / 4 + 64) &&& 51 = b / 4 &&& 51) ∧ ((b / 4 + 128) &&& 51 = b / 4 &&& 51) ∧ ((b / 4 + 192) &&& 51 = b / 4 &&& 51) := by decide +kernel
theorem A1 : ∀ k n, n - (n / 2 &&& rep 85 k) = byt f1b k n ∨ 256 ^ k ≤ n
  | 0, n => by
    by_cases h : n = 0
    · subst h; left; rfl
    · right; rw [Nat.pow_zero]; omega
  | k + 1, n => by
    rcases A1 k (n / 256) with h | h
    · left
      rw [byt, ← h, and_sp (n / 2), (rep_s (by decide) k).1, (rep_s (by decide) k).2]
      have e1 : n / 2 / 256 = n / 256 / 2 := by omega
      have hb : n % 256 < 256 := Nat.mod_lt _ (by decide)
      have e2 : n / 2 % 256 &&& 85 = n % 256 / 2 &&& 85 := by
        by_cases q : n / 256 % 2 = 0
        · rw [show n / 2 % 256 = n % 256 / 2 by omega]
        · rw [show n / 2 % 256 = n % 256 / 2 + 128 by omega, m85 _ hb]
      rw [e1, e2, f1b]
      have l1 : n % 256 / 2 &&& 85 ≤ n % 256 := Nat.le_trans Nat.and_le_left (Nat.div_le_self _ _)
      have l2 : n / 256 / 2 &&& rep 85 k ≤ n / 256 := Nat.le_trans Nat.and_le_left (Nat.div_le_self _ _)
      omega
    · right
      rw [Nat.pow_succ]; omega
theorem A2 : ∀ k n, (n &&& rep 51 k) + (n / 4 &&& rep 51 k) = byt f2b k n
  | 0, n => by rw [rep, Nat.and_zero, Nat.and_zero]; rfl
  | k + 1, n => by
    have h := A2 k (n / 256)
    rw [byt, ← h, and_sp n, and_sp (n / 4), (rep_s (by decide) k).1, (rep_s (by decide) k).2]
    have e1 : n / 4 / 256 = n / 256 / 4 := by omega
    have hb : n % 256 < 256 := Nat.mod_lt _ (by decide)
    obtain ⟨w1, w2, w3⟩ := m51a _ hb
    have e2 : n / 4 % 256 &&& 51 = n % 256 / 4 &&& 51 := by
      have c4 : n / 256 % 4 = 0 ∨ n / 256 % 4 = 1 ∨ n / 256 % 4 = 2 ∨ n / 256 % 4 = 3 := by omega
      rcases c4 with q | q | q | q
      · rw [show n / 4 % 256 = n % 256 / 4 by omega]
      · rw [show n / 4 % 256 = n % 256 / 4 + 64 by omega, w1]
      · rw [show n / 4 % 256 = n % 256 / 4 + 128 by omega, w2]
      · rw [show n / 4 % 256 = n % 256 / 4 + 192 by omega, w3]
    rw [e1, e2, f2b]
    omega
theorem byt_byt {f g : Nat → Nat} (hg : ∀ b, b < 256 → g b < 256) : ∀ k n, byt f k (byt g k n) = byt (fun b => f (g b)) k n
  | 0, _ => rfl
  | k + 1, n => by
    have h := hg (n % 256) (Nat.mod_lt _ (by decide))
    rw [byt, byt, byt, show (g (n % 256) + 256 * byt g k (n / 256)) % 256 = g (n % 256) by omega, show (g (n % 256) + 256 * byt g k (n / 256)) / 256 = byt g k (n / 256) by omega, byt_byt hg k]
theorem byt_lt {g : Nat → Nat} (hg : ∀ b, b < 256 → g b < 256) : ∀ k n, byt g k n < 256 ^ k
  | 0, _ => by rw [byt]; decide
  | k + 1, n => by
    have h := hg (n % 256) (Nat.mod_lt _ (by decide))
    have h2 := byt_lt hg k (n / 256)
    rw [byt, Nat.pow_succ]; omega
def g2 (b : Nat) : Nat := f2b (f1b b)
theorem g2_ok : ∀ b, b < 256 → f1b b < 256 ∧ g2 b ≤ 68 ∧ g2 b % 16 ≤ 4 := by decide +kernel
theorem n15 : ∀ x, x ≤ 72 → ∀ q, q ≤ 4 → (x + 16 * q) &&& 15 = x &&& 15 := by decide +kernel
theorem g2_h : ∀ k n, byt g2 k n % 16 ≤ 4
  | 0, _ => (by show 0 % 16 ≤ 4; decide)
  | k + 1, n => by
    obtain ⟨-, h1, h2⟩ := g2_ok (n % 256) (Nat.mod_lt _ (by decide))
    rw [byt]; omega
theorem A3 : ∀ k n, (byt g2 k n + byt g2 k n / 16) &&& rep 15 k = byt (fun b => f3b (g2 b)) k n
  | 0, n => by rw [rep, Nat.and_zero]; rfl
  | k + 1, n => by
    have h := A3 k (n / 256)
    obtain ⟨-, h1, h2⟩ := g2_ok (n % 256) (Nat.mod_lt _ (by decide))
    have h3 := g2_h k (n / 256)
    rw [byt, byt, ← h]
    generalize byt g2 k (n / 256) = y at h3 ⊢
    generalize hg : g2 (n % 256) = x at h1 h2 ⊢
    have e1 : (x + 256 * y + (x + 256 * y) / 16) % 256 = x + x / 16 + 16 * (y % 16) := by omega
    have e2 : (x + 256 * y + (x + 256 * y) / 16) / 256 = y + y / 16 := by omega
    rw [and_sp, (rep_s (by decide) k).1, (rep_s (by decide) k).2, e1, e2, n15 _ (by omega) _ h3, f3b]
def c8 (b : Nat) : Nat := f3b (g2 b)
theorem c8_ok : ∀ b, b < 256 → c8 b = cnt b.testBit 8 ∧ c8 b ≤ 8 := by decide +kernel
def smb : Nat → Nat → Nat
  | 0, _ => 0
  | k + 1, n => c8 (n % 256) + smb k (n / 256)
theorem cnt_add (p : Nat → Bool) (a : Nat) : ∀ b, cnt p (a + b) = cnt p a + cnt (fun i => p (a + i)) b
  | 0 => rfl
  | b + 1 => by rw [← Nat.add_assoc, cnt, cnt, cnt_add p a b]; omega
theorem cnt_sm : ∀ k n, cnt n.testBit (8 * k) = smb k n
  | 0, _ => rfl
  | k + 1, n => by
    rw [show 8 * (k + 1) = 8 + 8 * k by omega, cnt_add, smb, ← cnt_sm k (n / 256), (c8_ok _ (Nat.mod_lt _ (by decide))).1]
    congr 1
    · exact cnt_congr fun i hi => by
        rw [show 256 = 2 ^ 8 from rfl, Nat.testBit_mod_two_pow, decide_eq_true hi, Bool.true_and]
    · exact cnt_congr fun i _ => by
        rw [show 256 = 2 ^ 8 from rfl, Nat.testBit_div_two_pow, Nat.add_comm]
def b1 (v : Nat) : Nat := v - (v / 2 ^ 1 &&& 6148914691236517205)
def b2 (v : Nat) : Nat := (v &&& 3689348814741910323) + (v / 2 ^ 2 &&& 3689348814741910323)
def b3 (v : Nat) : Nat := (v + v / 2 ^ 4) &&& 1085102592571150095
def b4 (v : Nat) : Nat := v + v / 2 ^ 8
def b5 (v : Nat) : Nat := v + v / 2 ^ 16
def b6 (v : Nat) : Nat := v + v / 2 ^ 32
theorem b1_e {v : Nat} (h : v < 2 ^ 64) : b1 v = byt f1b 8 v := by
  rcases A1 8 v with e | e
  · exact e
  · exact absurd (Nat.le_trans (show 2 ^ 64 ≤ 256 ^ 8 by decide) e) (by omega)
theorem b2_e {v : Nat} (h : v < 2 ^ 64) : b2 (b1 v) = byt g2 8 v := by
  rw [b1_e h]
  exact (A2 8 _).trans (byt_byt (fun b hb => (g2_ok b hb).1) 8 v)
theorem b3_e {v : Nat} (h : v < 2 ^ 64) : b3 (b2 (b1 v)) = byt c8 8 v := by
  rw [b2_e h]; exact A3 8 v
theorem bt_e {v : Nat} (h : v < 2 ^ 64) : b1 v < 2 ^ 64 ∧ b2 (b1 v) < 2 ^ 63 ∧ b3 (b2 (b1 v)) < 2 ^ 60 ∧ b4 (b3 (b2 (b1 v))) < 2 ^ 61 ∧ b5 (b4 (b3 (b2 (b1 v)))) < 2 ^ 62 ∧ b6 (b5 (b4 (b3 (b2 (b1 v))))) &&& 127 = cnt v.testBit 64 := by
  have hc : ∀ b, b < 256 → c8 b ≤ 8 := fun b hb => (c8_ok b hb).2
  have e0 : cnt v.testBit 64 = smb 8 v := cnt_sm 8 v
  have h2 : b2 (b1 v) < 2 ^ 63 := by
    have a1 : (b1 v &&& 3689348814741910323) ≤ 3689348814741910323 := Nat.and_le_right
    have a2 : (b1 v / 2 ^ 2 &&& 3689348814741910323) ≤ 3689348814741910323 := Nat.and_le_right
    rw [b2]; omega
  have h1 : b1 v < 2 ^ 64 := Nat.lt_of_le_of_lt (Nat.sub_le _ _) h
  rw [b3_e h, e0]
  have p0 := hc (v % 256) (Nat.mod_lt _ (by decide))
  have p1 := hc (v / 256 % 256) (Nat.mod_lt _ (by decide))
  have p2 := hc (v / 256 / 256 % 256) (Nat.mod_lt _ (by decide))
  have p3 := hc (v / 256 / 256 / 256 % 256) (Nat.mod_lt _ (by decide))
  have p4 := hc (v / 256 / 256 / 256 / 256 % 256) (Nat.mod_lt _ (by decide))
  have p5 := hc (v / 256 / 256 / 256 / 256 / 256 % 256) (Nat.mod_lt _ (by decide))
  have p6 := hc (v / 256 / 256 / 256 / 256 / 256 / 256 % 256) (Nat.mod_lt _ (by decide))
  have p7 := hc (v / 256 / 256 / 256 / 256 / 256 / 256 / 256 % 256) (Nat.mod_lt _ (by decide))
  have es : smb 8 v = c8 (v % 256) + (c8 (v / 256 % 256) + (c8 (v / 256 / 256 % 256) + (c8 (v / 256 / 256 / 256 % 256) + (c8 (v / 256 / 256 / 256 / 256 % 256) + (c8 (v / 256 / 256 / 256 / 256 / 256 % 256) + (c8 (v / 256 / 256 / 256 / 256 / 256 / 256 % 256) + (c8 (v / 256 / 256 / 256 / 256 / 256 / 256 / 256 % 256) + 0))))))) := rfl
  have eb : byt c8 8 v = c8 (v % 256) + 256 * (c8 (v / 256 % 256) + 256 * (c8 (v / 256 / 256 % 256) + 256 * (c8 (v / 256 / 256 / 256 % 256) + 256 * (c8 (v / 256 / 256 / 256 / 256 % 256) + 256 * (c8 (v / 256 / 256 / 256 / 256 / 256 % 256) + 256 * (c8 (v / 256 / 256 / 256 / 256 / 256 / 256 % 256) + 256 * (c8 (v / 256 / 256 / 256 / 256 / 256 / 256 / 256 % 256) + 256 * 0))))))) := rfl
  rw [es, eb]
  generalize c8 (v % 256) = q0 at p0 ⊢
  generalize c8 (v / 256 % 256) = q1 at p1 ⊢
  generalize c8 (v / 256 / 256 % 256) = q2 at p2 ⊢
  generalize c8 (v / 256 / 256 / 256 % 256) = q3 at p3 ⊢
  generalize c8 (v / 256 / 256 / 256 / 256 % 256) = q4 at p4 ⊢
  generalize c8 (v / 256 / 256 / 256 / 256 / 256 % 256) = q5 at p5 ⊢
  generalize c8 (v / 256 / 256 / 256 / 256 / 256 / 256 % 256) = q6 at p6 ⊢
  generalize c8 (v / 256 / 256 / 256 / 256 / 256 / 256 / 256 % 256) = q7 at p7 ⊢
  clear es eb e0 hc h
  have x4 : b4 (q0 + 256 * (q1 + 256 * (q2 + 256 * (q3 + 256 * (q4 + 256 * (q5 + 256 * (q6 + 256 * (q7 + 256 * 0)))))))) = (q0 + q1) + 256 * ((q1 + q2) + 256 * ((q2 + q3) + 256 * ((q3 + q4) + 256 * ((q4 + q5) + 256 * ((q5 + q6) + 256 * ((q6 + q7) + 256 * q7)))))) := by
    rw [b4, show (q0 + 256 * (q1 + 256 * (q2 + 256 * (q3 + 256 * (q4 + 256 * (q5 + 256 * (q6 + 256 * (q7 + 256 * 0)))))))) / 2 ^ 8 = q1 + 256 * (q2 + 256 * (q3 + 256 * (q4 + 256 * (q5 + 256 * (q6 + 256 * (q7 + 256 * 0)))))) by omega]
    omega
  rw [x4]
  have x5 : b5 ((q0 + q1) + 256 * ((q1 + q2) + 256 * ((q2 + q3) + 256 * ((q3 + q4) + 256 * ((q4 + q5) + 256 * ((q5 + q6) + 256 * ((q6 + q7) + 256 * q7))))))) = (q0 + q1 + q2 + q3) + 256 * ((q1 + q2 + q3 + q4) + 256 * ((q2 + q3 + q4 + q5) + 256 * ((q3 + q4 + q5 + q6) + 256 * ((q4 + q5 + q6 + q7) + 256 * ((q5 + q6 + q7) + 256 * ((q6 + q7) + 256 * q7)))))) := by
    rw [b5, show ((q0 + q1) + 256 * ((q1 + q2) + 256 * ((q2 + q3) + 256 * ((q3 + q4) + 256 * ((q4 + q5) + 256 * ((q5 + q6) + 256 * ((q6 + q7) + 256 * q7))))))) / 2 ^ 16 = (q2 + q3) + 256 * ((q3 + q4) + 256 * ((q4 + q5) + 256 * ((q5 + q6) + 256 * ((q6 + q7) + 256 * q7)))) by omega]
    omega
  rw [x5]
  have x6 : b6 ((q0 + q1 + q2 + q3) + 256 * ((q1 + q2 + q3 + q4) + 256 * ((q2 + q3 + q4 + q5) + 256 * ((q3 + q4 + q5 + q6) + 256 * ((q4 + q5 + q6 + q7) + 256 * ((q5 + q6 + q7) + 256 * ((q6 + q7) + 256 * q7))))))) % 128 = q0 + q1 + q2 + q3 + q4 + q5 + q6 + q7 := by
    rw [b6, show ((q0 + q1 + q2 + q3) + 256 * ((q1 + q2 + q3 + q4) + 256 * ((q2 + q3 + q4 + q5) + 256 * ((q3 + q4 + q5 + q6) + 256 * ((q4 + q5 + q6 + q7) + 256 * ((q5 + q6 + q7) + 256 * ((q6 + q7) + 256 * q7))))))) / 2 ^ 32 = (q4 + q5 + q6 + q7) + 256 * ((q5 + q6 + q7) + 256 * ((q6 + q7) + 256 * q7)) by omega]
    omega
  refine ⟨h1, h2, by omega, by omega, by omega, ?_⟩
  rw [show (127 : Nat) = 2 ^ 7 - 1 from rfl, Nat.and_two_pow_sub_one_eq_mod, show 2 ^ 7 = 128 from rfl, x6]
  omega

