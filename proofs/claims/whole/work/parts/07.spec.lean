theorem wb_tb (n : Nat) : (lN n).toBitVec = BitVec.ofNat 64 n := rfl
theorem wb_inj {a b : Int64} (h : a.toBitVec = b.toBitVec) : a = b := Int64.toBitVec_inj.mp h
theorem wb_tn {n : Nat} (h : n < 2 ^ 64) : (lN n).toBitVec.toNat = n := by rw [wb_tb, BitVec.toNat_ofNat, Nat.mod_eq_of_lt h]
theorem wb_of (x : Int64) : ∃ n, n < 2 ^ 64 ∧ x = lN n := ⟨x.toBitVec.toNat, x.toBitVec.isLt, wb_inj (by rw [wb_tb]; simp)⟩
theorem wb_of32 (x : Int32) : ∃ n, n < 2 ^ 32 ∧ x = nI n := ⟨x.toBitVec.toNat, x.toBitVec.isLt, Int32.toBitVec_inj.mp (by show _ = BitVec.ofNat 32 _; simp)⟩
theorem wb_c : ∀ k, k < 64 → ((nI k).toInt64 &&& 63) = lN k := by decide +kernel
theorem wb_cu : ∀ k, k < 64 → ((nI k).toInt64.toUInt64 &&& Int64.toUInt64 63) = UInt64.ofNat k := by decide +kernel
theorem wb_sm : ∀ k, k < 64 → (BitVec.ofNat 64 k).smod 64 = BitVec.ofNat 64 k := by decide +kernel
theorem wb_pw {a b : Nat} (h : a ≤ b) : 2 ^ b = 2 ^ a * 2 ^ (b - a) := by rw [← Nat.pow_add]; congr 1; omega
theorem wb_lt2 {a b : Nat} (h : a < b) : 2 ^ a < 2 ^ b := Nat.pow_lt_pow_right (by decide) h
theorem wb_mod (n : Nat) : lN n = lN (n % 2 ^ 64) := wb_inj (by rw [wb_tb, wb_tb]; apply BitVec.eq_of_toNat_eq; rw [BitVec.toNat_ofNat, BitVec.toNat_ofNat, Nat.mod_mod])
theorem wb_shr {n k : Nat} (hn : n < 2 ^ 64) (hk : k < 64) : ((lN n).toUInt64 >>> ((nI k).toInt64.toUInt64 &&& Int64.toUInt64 63)).toInt64 = lN (n / 2 ^ k) := by
  rw [wb_cu k hk]
  apply wb_inj
  apply BitVec.eq_of_toNat_eq
  show ((lN n).toUInt64 >>> UInt64.ofNat k).toNat = (BitVec.ofNat 64 _).toNat
  have h1 : (UInt64.ofNat k).toNat = k := by
    show (BitVec.ofNat 64 k).toNat = k
    rw [BitVec.toNat_ofNat, Nat.mod_eq_of_lt (by omega)]
  have h2 : (lN n).toUInt64.toNat = n := wb_tn hn
  rw [UInt64.toNat_shiftRight, h1, h2, Nat.mod_eq_of_lt hk, Nat.shiftRight_eq_div_pow, BitVec.toNat_ofNat, Nat.mod_eq_of_lt (Nat.lt_of_le_of_lt (Nat.div_le_self _ _) hn)]
theorem wb_shl (n : Nat) {k : Nat} (hk : k < 64) : lN n <<< ((nI k).toInt64 &&& 63) = lN (n * 2 ^ k) := by
  rw [wb_c k hk]
  apply wb_inj
  rw [Int64.toBitVec_shiftLeft, wb_tb, wb_tb, wb_tb, wb_sm k hk]
  apply BitVec.eq_of_toNat_eq
  rw [BitVec.shiftLeft_eq', BitVec.toNat_shiftLeft, BitVec.toNat_ofNat, BitVec.toNat_ofNat, BitVec.toNat_ofNat, Nat.mod_eq_of_lt (show k < 2 ^ 64 by omega), Nat.shiftLeft_eq, Nat.mul_mod, Nat.mod_mod, ← Nat.mul_mod]
theorem u_tn {n : Nat} (h : n < 2 ^ 64) : (UInt64.ofNat n).toNat = n := Nat.mod_eq_of_lt h
theorem fb_andL (a b : Nat) : lN a &&& lN b = lN (a &&& b) := by
  apply Int64.toBitVec_inj.1
  show BitVec.ofNat 64 a &&& BitVec.ofNat 64 b = BitVec.ofNat 64 (a &&& b)
  apply BitVec.eq_of_getLsbD_eq
  intro i hi
  simp [hi]
theorem fb_orL (a b : Nat) : lN a ||| lN b = lN (a ||| b) := by
  apply Int64.toBitVec_inj.1
  show BitVec.ofNat 64 a ||| BitVec.ofNat 64 b = BitVec.ofNat 64 (a ||| b)
  apply BitVec.eq_of_getLsbD_eq
  intro i hi
  simp [hi]
theorem fb_xorL (a b : Nat) : lN a ^^^ lN b = lN (a ^^^ b) := by
  apply Int64.toBitVec_inj.1
  show BitVec.ofNat 64 a ^^^ BitVec.ofNat 64 b = BitVec.ofNat 64 (a ^^^ b)
  apply BitVec.eq_of_getLsbD_eq
  intro i hi
  simp [hi]

abbrev FC : Type := Nat × Nat × Nat × Nat × Nat × (Nat → Nat) × (Nat → Nat) × (Nat → Nat) × (Nat → Nat) × (Nat → Nat) × (Nat → Nat)
def cF (C : FC) : Nat := C.1
def sF (C : FC) (z : Nat) : FC := (z, C.2.1, C.2.2.1, C.2.2.2.1, C.2.2.2.2.1, C.2.2.2.2.2.1, C.2.2.2.2.2.2.1, C.2.2.2.2.2.2.2.1, C.2.2.2.2.2.2.2.2.1, C.2.2.2.2.2.2.2.2.2.1, C.2.2.2.2.2.2.2.2.2.2)
def cN (C : FC) : Nat := C.2.1
def sN (C : FC) (z : Nat) : FC := (C.1, z, C.2.2.1, C.2.2.2.1, C.2.2.2.2.1, C.2.2.2.2.2.1, C.2.2.2.2.2.2.1, C.2.2.2.2.2.2.2.1, C.2.2.2.2.2.2.2.2.1, C.2.2.2.2.2.2.2.2.2.1, C.2.2.2.2.2.2.2.2.2.2)
def cG (C : FC) : Nat := C.2.2.1
def sG (C : FC) (z : Nat) : FC := (C.1, C.2.1, z, C.2.2.2.1, C.2.2.2.2.1, C.2.2.2.2.2.1, C.2.2.2.2.2.2.1, C.2.2.2.2.2.2.2.1, C.2.2.2.2.2.2.2.2.1, C.2.2.2.2.2.2.2.2.2.1, C.2.2.2.2.2.2.2.2.2.2)
def cY (C : FC) : Nat := C.2.2.2.1
def sY (C : FC) (z : Nat) : FC := (C.1, C.2.1, C.2.2.1, z, C.2.2.2.2.1, C.2.2.2.2.2.1, C.2.2.2.2.2.2.1, C.2.2.2.2.2.2.2.1, C.2.2.2.2.2.2.2.2.1, C.2.2.2.2.2.2.2.2.2.1, C.2.2.2.2.2.2.2.2.2.2)
def cT (C : FC) : Nat := C.2.2.2.2.1
def sT (C : FC) (z : Nat) : FC := (C.1, C.2.1, C.2.2.1, C.2.2.2.1, z, C.2.2.2.2.2.1, C.2.2.2.2.2.2.1, C.2.2.2.2.2.2.2.1, C.2.2.2.2.2.2.2.2.1, C.2.2.2.2.2.2.2.2.2.1, C.2.2.2.2.2.2.2.2.2.2)
def cK (C : FC) : Nat → Nat := C.2.2.2.2.2.1
def sK (C : FC) (z : Nat → Nat) : FC := (C.1, C.2.1, C.2.2.1, C.2.2.2.1, C.2.2.2.2.1, z, C.2.2.2.2.2.2.1, C.2.2.2.2.2.2.2.1, C.2.2.2.2.2.2.2.2.1, C.2.2.2.2.2.2.2.2.2.1, C.2.2.2.2.2.2.2.2.2.2)
def cA (C : FC) : Nat → Nat := C.2.2.2.2.2.2.1
def sA (C : FC) (z : Nat → Nat) : FC := (C.1, C.2.1, C.2.2.1, C.2.2.2.1, C.2.2.2.2.1, C.2.2.2.2.2.1, z, C.2.2.2.2.2.2.2.1, C.2.2.2.2.2.2.2.2.1, C.2.2.2.2.2.2.2.2.2.1, C.2.2.2.2.2.2.2.2.2.2)
def cB (C : FC) : Nat → Nat := C.2.2.2.2.2.2.2.1
def sB (C : FC) (z : Nat → Nat) : FC := (C.1, C.2.1, C.2.2.1, C.2.2.2.1, C.2.2.2.2.1, C.2.2.2.2.2.1, C.2.2.2.2.2.2.1, z, C.2.2.2.2.2.2.2.2.1, C.2.2.2.2.2.2.2.2.2.1, C.2.2.2.2.2.2.2.2.2.2)
def cP (C : FC) : Nat → Nat := C.2.2.2.2.2.2.2.2.1
def sP (C : FC) (z : Nat → Nat) : FC := (C.1, C.2.1, C.2.2.1, C.2.2.2.1, C.2.2.2.2.1, C.2.2.2.2.2.1, C.2.2.2.2.2.2.1, C.2.2.2.2.2.2.2.1, z, C.2.2.2.2.2.2.2.2.2.1, C.2.2.2.2.2.2.2.2.2.2)
def cV (C : FC) : Nat → Nat := C.2.2.2.2.2.2.2.2.2.1
def sV (C : FC) (z : Nat → Nat) : FC := (C.1, C.2.1, C.2.2.1, C.2.2.2.1, C.2.2.2.2.1, C.2.2.2.2.2.1, C.2.2.2.2.2.2.1, C.2.2.2.2.2.2.2.1, C.2.2.2.2.2.2.2.2.1, z, C.2.2.2.2.2.2.2.2.2.2)
def cW (C : FC) : Nat → Nat := C.2.2.2.2.2.2.2.2.2.2
def sW (C : FC) (z : Nat → Nat) : FC := (C.1, C.2.1, C.2.2.1, C.2.2.2.1, C.2.2.2.2.1, C.2.2.2.2.2.1, C.2.2.2.2.2.2.1, C.2.2.2.2.2.2.2.1, C.2.2.2.2.2.2.2.2.1, C.2.2.2.2.2.2.2.2.2.1, z)
def mkFC (z0 : Nat) (z1 : Nat) (z2 : Nat) (z3 : Nat) (z4 : Nat) (z5 : Nat → Nat) (z6 : Nat → Nat) (z7 : Nat → Nat) (z8 : Nat → Nat) (z9 : Nat → Nat) (z10 : Nat → Nat) : FC := (z0, z1, z2, z3, z4, z5, z6, z7, z8, z9, z10)
def fw (E : EV) (a : Nat → Nat) (C : FC) : va_W := [(a 0, .inr (0, [.int (nI (cF C)), .int (nI (cN C)), .int (nI (cG C)), .int (nI (cY C)), .int (nI (cT C)), .ref (a 1), .ref (a 2), .ref (a 3), .ref (a 4), .ref (a 5), .ref (a 6)])), (a 1, .inl (E.2.1 0, 9, .inl (fun j => nI (cK C j)))), (a 2, .inl (E.2.1 0, 9, .inl (fun j => nI (cA C j)))), (a 3, .inl (E.2.1 0, 9, .inl (fun j => nI (cB C j)))), (a 4, .inl (E.2.1 0, 9, .inl (fun j => nI (cP C j)))), (a 5, .inl (E.2.1 0, 9, .inl (fun j => nI (cV C j)))), (a 6, .inl (E.2.1 1, 9, .inr (.inl (fun j => lN (cW C j)))))]


/-- what holds of a force in a run -/
def FO (C : FC) : Prop := cN C ≤ 9 ∧ cF C < 64 ∧ cG C < 512 ∧ cT C < 2 ^ 20 ∧ ∀ i, i < cN C → cP C i < 6 ∧ cW C i < 2 ^ 64
def VB (C : FC) : Prop := ∀ i, i < cN C → cV C i < 2 ^ 31
def win (x lo hi : Int32) : Bool := !decide (x < lo) && !decide (hi < x)
def thB (C : FC) (s : Int32) : Bool := !decide (s < 0) && !decide (nI (cN C) ≤ s) && !decide (nI 9 ≤ s)
theorem thB_n {C : FC} {s : Nat} (hC : FO C) (hs : s < 2 ^ 31) : thB C (nI s) = decide (s < cN C) := by
  have h9 := hC.1
  have h1 : decide (nI s < 0) = false := decide_eq_false (nI_pos hs)
  have h2 : decide (nI (cN C) ≤ nI s) = decide (cN C ≤ s) := decide_eq_decide.mpr (nI_leI (by omega) hs)
  have h3 : decide (nI 9 ≤ nI s) = decide (9 ≤ s) := decide_eq_decide.mpr (nI_leI (by omega) hs)
  rw [thB, h1, h2, h3]
  by_cases q : s < cN C
  · have a : ¬ cN C ≤ s := by omega
    have b : ¬ 9 ≤ s := by omega
    simp [q, a, b]
  · have a : cN C ≤ s := by omega
    simp [q, a]
def pmB (C : FC) (s : Nat) : Bool := !(cG C).testBit s && !(cW C s).testBit (cF C)
def hsB (C : FC) (s : Nat) : Bool := pmB C s && decide (cT C ≤ cV C s)
def cwB (C : FC) (s : Nat) : Bool := !(cG C).testBit s && !hsB C s
def clB (C : FC) (s t : Nat) : Bool := decide (cW C s &&& cW C t = 0)
def mmB (C : FC) (s t : Nat) : Bool := !decide (cP C s = cP C t) && !clB C s t
def liB (C : FC) (w s : Nat) : Bool := !(cG C).testBit s && !(cW C s).testBit w
def lieM (C : FC) (w : Nat) : Nat := bitsOf (liB C w) (cN C)
theorem lcmp_l {a b : Nat} (ha : a < 2 ^ 64) (hb : b < 2 ^ 64) : lg_cmp (lN a) (lN b) = 0 ↔ a = b := by
  have e : lN a = lN b ↔ a = b := ⟨fun h => by rw [← wb_tn ha, ← wb_tn hb, h], fun h => by rw [h]⟩
  unfold lg_cmp
  by_cases q : a = b
  · subst q
    have : ¬ (lN a > lN a) := by simp
    simp [this]
  · have n : ¬ lN a = lN b := fun h => q (e.mp h)
    rw [if_neg n]
    constructor
    · intro h
      by_cases g : lN a > lN b
      · rw [if_pos g] at h; exact absurd h (by decide)
      · rw [if_neg g] at h; exact absurd h (by decide)
    · intro h; exact absurd h q
theorem tb_and1 {n k : Nat} : n / 2 ^ k &&& 1 = 1 ↔ n.testBit k = true := by
  rw [Nat.and_one_is_mod]
  have := Nat.toNat_testBit n k
  rw [← this]
  cases n.testBit k <;> simp
theorem and_lt {a b m : Nat} (h : b < m) : a &&& b < m := Nat.lt_of_le_of_lt Nat.and_le_right h


theorem bNf {b : Bool} (h : ¬ b = false) : b = true := by cases b <;> simp_all
theorem bNt {b : Bool} (h : ¬ b = true) : b = false := by cases b <;> simp_all
theorem bret_t {c : Bool} (h : c = true) : nI 1 = bI c := by rw [h]; rfl
theorem bret_f {c : Bool} (h : c = false) : nI 0 = bI c := by rw [h]; rfl


/-- a without the bits of b, below 2^31 -/
def andn (a b : Nat) : Nat := bitsOf (fun i => a.testBit i && !b.testBit i) 31
theorem tb_hi {a i n : Nat} (h : a < 2 ^ n) (hi : n ≤ i) : a.testBit i = false := Nat.testBit_lt_two_pow (Nat.lt_of_lt_of_le h (Nat.pow_le_pow_right (by decide) hi))
theorem andn_bit {a : Nat} (b : Nat) (h : a < 2 ^ 31) (i : Nat) : (andn a b).testBit i = (a.testBit i && !b.testBit i) := by
  rw [andn, bitsOf_bit]
  by_cases q : i < 31
  · simp [q]
  · rw [tb_hi h (by omega)]; simp
theorem andn_lt {a : Nat} (b : Nat) {n : Nat} (h : a < 2 ^ n) (hn : n ≤ 31) : andn a b < 2 ^ n := by
  have h2 : a < 2 ^ 31 := Nat.lt_of_lt_of_le h (Nat.pow_le_pow_right (by decide) hn)
  apply Nat.lt_pow_two_of_testBit
  intro i hi
  rw [andn_bit b h2, tb_hi h hi, Bool.false_and]
theorem and_not {a b : Nat} (h : a < 2 ^ 31) : nI a &&& (nI b ^^^ (-1)) = nI (andn a b) := by
  apply Int32.toBitVec_inj.1
  show BitVec.ofNat 32 a &&& (BitVec.ofNat 32 b ^^^ BitVec.allOnes 32) = BitVec.ofNat 32 (andn a b)
  apply BitVec.eq_of_getLsbD_eq
  intro i hi
  simp only [BitVec.getLsbD_and, BitVec.getLsbD_xor, BitVec.getLsbD_ofNat, BitVec.getLsbD_allOnes, andn_bit b h, hi, decide_true, Bool.true_and, Bool.xor_true]
theorem nadd_nb (a : Nat) (b : Bool) : nI a + bI b = nI (a + b.toNat) := by rw [bI_n, nI_add]
theorem nadd_bn (b : Bool) (a : Nat) : bI b + nI a = nI (b.toNat + a) := by rw [bI_n, nI_add]
theorem nadd_bb (b c : Bool) : bI b + bI c = nI (b.toNat + c.toNat) := by rw [bI_n, bI_n, nI_add]
theorem lxor_m1 {a : Nat} (h : a < 2 ^ 64) : lN a ^^^ (-1) = lN (2 ^ 64 - (a + 1)) := by
  apply wb_inj
  show BitVec.ofNat 64 a ^^^ BitVec.allOnes 64 = BitVec.ofNat 64 (2 ^ 64 - (a + 1))
  apply BitVec.eq_of_getLsbD_eq
  intro i hi
  simp only [BitVec.getLsbD_xor, BitVec.getLsbD_ofNat, BitVec.getLsbD_allOnes, Nat.testBit_two_pow_sub_succ h, hi, decide_true, Bool.true_and, Bool.xor_true]
def upTo (j : Nat) (p : Nat → Bool) (f g : Nat → Nat) : Nat → Nat := fun i => if decide (i < j) && p i then g i else f i
theorem upTo_0 {p : Nat → Bool} {f g : Nat → Nat} : f = upTo 0 p f g := by funext i; simp [upTo]
theorem upTo_self {j : Nat} {p : Nat → Bool} {f g : Nat → Nat} : upTo j p f g j = f j := by simp [upTo]
theorem upTo_put {j v : Nat} {p : Nat → Bool} {f g : Nat → Nat} (hp : p j = true) (hv : v = g j) : va_up (upTo j p f g) j v = upTo (j + 1) p f g := by
  funext i
  by_cases q : i = j
  · subst q; simp [va_up, upTo, hp, hv]
  · have e : decide (i < j + 1) = decide (i < j) := by apply decide_eq_decide.mpr; omega
    simp [va_up, upTo, q, e]
theorem upTo_skip {j : Nat} {p : Nat → Bool} {f g : Nat → Nat} (hp : p j = false) : upTo j p f g = upTo (j + 1) p f g := by
  funext i
  by_cases q : i = j
  · subst q; simp [upTo, hp]
  · have e : decide (i < j + 1) = decide (i < j) := by apply decide_eq_decide.mpr; omega
    simp [upTo, e]
/-- the first place from i on, k places looked at -/
def fst (p : Nat → Bool) : Nat → Nat → Option Nat
  | _, 0 => none
  | i, k + 1 => if p i then some i else fst p (i + 1) k
theorem fst_done {p : Nat → Bool} {i m : Nat} (h : m ≤ i) : fst p i (m - i) = none := by rw [Nat.sub_eq_zero_of_le h]; rfl
theorem fst_hit {p : Nat → Bool} {i m : Nat} (h : i < m) (hp : p i = true) : fst p i (m - i) = some i := by
  obtain ⟨k, hk⟩ : ∃ k, m - i = k + 1 := ⟨m - i - 1, by omega⟩
  rw [hk, fst, if_pos hp]
theorem fst_step {p : Nat → Bool} {i m : Nat} (h : i < m) (hp : p i = false) : fst p i (m - i) = fst p (i + 1) (m - (i + 1)) := by
  obtain ⟨k, hk⟩ : ∃ k, m - i = k + 1 := ⟨m - i - 1, by omega⟩
  rw [hk, fst, if_neg (by simp [hp]), show m - (i + 1) = k by omega]
theorem fst_some {p : Nat → Bool} : ∀ {k i t : Nat}, fst p i k = some t → i ≤ t ∧ t < i + k ∧ p t = true ∧ ∀ j, i ≤ j → j < t → p j = false
  | 0, i, t, h => by cases h
  | k + 1, i, t, h => by
    rw [fst] at h
    by_cases q : p i = true
    · rw [if_pos q] at h; cases h
      exact ⟨Nat.le_refl _, by omega, q, fun j h1 h2 => absurd h2 (by omega)⟩
    · rw [if_neg q] at h
      obtain ⟨a, b, c, d⟩ := fst_some h
      refine ⟨by omega, by omega, c, fun j h1 h2 => ?_⟩
      by_cases e : j = i
      · subst e; simpa using q
      · exact d j (by omega) h2
theorem fst_none {p : Nat → Bool} : ∀ {k i : Nat}, fst p i k = none → ∀ j, i ≤ j → j < i + k → p j = false
  | 0, i, _, j, h1, h2 => absurd h2 (by omega)
  | k + 1, i, h, j, h1, h2 => by
    rw [fst] at h
    by_cases q : p i = true
    · rw [if_pos q] at h; cases h
    · rw [if_neg q] at h
      by_cases e : j = i
      · subst e; simpa using q
      · exact fst_none h j (by omega) (by omega)
def oI : Option Nat → Int32
  | none => -4
  | some t => nI t
theorem oI_n {o : Option Nat} (h : ∀ t, o = some t → t < 2 ^ 31) : oI o = (-4) ↔ o = none := by
  cases o with
  | none => simp [oI]
  | some t =>
    constructor
    · intro e
      have h1 := nI_pos (h t rfl)
      have e2 : nI t = -4 := e
      rw [e2] at h1
      exact absurd (by decide) h1
    · intro e; cases e
/-! the force: what its methods answer -/
def stM (C : FC) : Nat := andn (1 <<< cN C - 1) (cG C)
def soM (C : FC) (w : Nat) : Nat := andn (stM C) (lieM C w)
def liM (C : FC) (w : Nat) : Nat → Nat
  | 0 => 0
  | k + 1 => liM C w k ||| (if liB C w k then 1 <<< cP C k else 0)
def plW (C : FC) (s : Nat) : Nat := if decide (s < cN C) && !(cG C).testBit s then 2 ^ 64 - (cW C s + 1) else 0
def toC (C : FC) (s : Nat) : FC := sV (sG C (cG C ||| 1 <<< s)) (va_up (cV C) s 0)
def tuC (C : FC) (f : Nat) : FC := sV (sF C (cF C ^^^ 1 <<< f)) (upTo (cN C) (fun s => !pmB (sF C (cF C ^^^ 1 <<< f)) s) (cV C) (fun _ => 0))
def turnF (C : FC) (f : Nat) : FC := if f < 6 then tuC C f else C
def serC (C : FC) : FC := sV (sY C (cY C + 1)) (upTo (cN C) (pmB C) (cV C) (fun s => cV C s + 1))
def mateO (C : FC) (s : Nat) : Option Nat := if hsB C s then fst (fun t => hsB C t && clB C s t) (s + 1) (cN C - (s + 1)) else none
def firO (C : FC) : Option Nat := fst (fun s => (mateO C s).isSome) 0 (cN C)
def fallStep (q : FC × Nat) (s : Nat) : FC × Nat := match mateO q.1 s with
  | none => q
  | some t => (toC (toC q.1 s) t, q.2 + 2)
def fallN (C : FC) : Nat → FC × Nat
  | 0 => (C, 0)
  | j + 1 => fallStep (fallN C j) j
def passC (C : FC) : FC × Nat := fallN (serC C) (cN C)
def drawC (C : FC) (d : Nat) : FC :=
  let D := if d / 8 % 3 = 0 then turnF C (d % 6) else C
  if d / 1024 % 5 = 0 ∧ cwB D (d / 64 % cN C) = true then toC D (d / 64 % cN C) else D
theorem one_shl {k : Nat} : 1 ≤ 1 <<< k := by rw [Nat.one_shiftLeft]; exact Nat.one_le_two_pow
theorem shl_lt {k m : Nat} (h : k < m) : 1 <<< k < 2 ^ m := by rw [Nat.one_shiftLeft]; exact Nat.pow_lt_pow_right (by decide) h
theorem full_lt {k m : Nat} (h : k ≤ m) : 1 <<< k - 1 < 2 ^ m := by
  rw [Nat.one_shiftLeft]
  have := Nat.pow_le_pow_right (n := 2) (by decide) h
  have := Nat.two_pow_pos k
  omega
theorem full_bit (k i : Nat) : (1 <<< k - 1).testBit i = decide (i < k) := by rw [Nat.one_shiftLeft, Nat.testBit_two_pow_sub_one]
theorem stM_lt {C : FC} (h9 : cN C ≤ 9) : stM C < 512 := andn_lt (n := 9) _ (full_lt h9) (by decide)
theorem stM_bit {C : FC} (h9 : cN C ≤ 9) (i : Nat) : (stM C).testBit i = (decide (i < cN C) && !(cG C).testBit i) := by
  rw [stM, andn_bit _ (full_lt (by omega)), full_bit]
theorem lieM_lt {C : FC} (h9 : cN C ≤ 9) (w : Nat) : lieM C w < 512 := Nat.lt_of_lt_of_le (bitsOf_lt _ _) (Nat.pow_le_pow_right (n := 2) (by decide) h9)
theorem lieM_bit (C : FC) (w i : Nat) : (lieM C w).testBit i = (decide (i < cN C) && liB C w i) := bitsOf_bit _ _ _
theorem soM_lt {C : FC} (h9 : cN C ≤ 9) (w : Nat) : soM C w < 512 := andn_lt (n := 9) _ (stM_lt h9) (by decide)
theorem liM_lt {C : FC} (w : Nat) : ∀ {k : Nat}, (∀ i, i < k → cP C i < 6) → liM C w k < 64
  | 0, _ => by simp [liM]
  | k + 1, h => by
    have h1 := liM_lt (C := C) w (k := k) (fun i hi => h i (by omega))
    rw [liM]
    refine Nat.or_lt_two_pow (n := 6) h1 ?_
    by_cases q : liB C w k = true
    · rw [if_pos q]; exact shl_lt (h k (by omega))
    · rw [if_neg q]; decide
theorem FO_sV {C : FC} {f : Nat → Nat} (h : FO C) : FO (sV C f) := h
theorem FO_sF {C : FC} {f : Nat} (h : FO C) (hf : f < 64) : FO (sF C f) := ⟨h.1, hf, h.2.2⟩
theorem FO_sG {C : FC} {f : Nat} (h : FO C) (hf : f < 512) : FO (sG C f) := ⟨h.1, h.2.1, hf, h.2.2.2⟩
theorem FO_sY {C : FC} {f : Nat} (h : FO C) : FO (sY C f) := h
theorem or_bit_lt {g s m : Nat} (hg : g < 2 ^ m) (hs : s < m) : g ||| 1 <<< s < 2 ^ m := Nat.or_lt_two_pow hg (shl_lt hs)
theorem xor_bit_lt {g s m : Nat} (hg : g < 2 ^ m) (hs : s < m) : g ^^^ 1 <<< s < 2 ^ m := Nat.xor_lt_two_pow hg (shl_lt hs)
theorem FO_toC {C : FC} {s : Nat} (h : FO C) (hs : s < cN C) : FO (toC C s) := FO_sV (FO_sG h (or_bit_lt (m := 9) h.2.2.1 (by have := h.1; omega)))
theorem FO_tuC {C : FC} {f : Nat} (h : FO C) (hf : f < 6) : FO (tuC C f) := FO_sV (FO_sF h (xor_bit_lt (m := 6) h.2.1 hf))
theorem FO_turnF {C : FC} {f : Nat} (h : FO C) : FO (turnF C f) := by
  unfold turnF; by_cases q : f < 6
  · rw [if_pos q]; exact FO_tuC h q
  · rw [if_neg q]; exact h
theorem FO_serC {C : FC} (h : FO C) : FO (serC C) := h
theorem VB_toC {C : FC} {s : Nat} (h : VB C) : VB (toC C s) := fun i hi => by
  show va_up (cV C) s 0 i < 2 ^ 31
  by_cases q : i = s
  · subst q; rw [va_up_self]; decide
  · rw [va_up_ne _ _ q]; exact h i hi
theorem mate_lt {C : FC} {s t : Nat} (h : mateO C s = some t) : s < t ∧ t < cN C ∧ hsB C s = true ∧ hsB C t = true ∧ clB C s t = true := by
  unfold mateO at h
  by_cases q : hsB C s = true
  · rw [if_pos q] at h
    obtain ⟨a, b, c, -⟩ := fst_some h
    simp only [Bool.and_eq_true] at c
    exact ⟨by omega, by omega, q, c.1, c.2⟩
  · rw [if_neg q] at h; cases h
theorem fallN_n (C : FC) : ∀ j, cN (fallN C j).1 = cN C
  | 0 => rfl
  | j + 1 => by
    have h := fallN_n C j
    rw [fallN, fallStep]
    split
    · exact h
    · exact h
theorem fallN_ok {C : FC} (hC : FO C) (hV : VB C) : ∀ j, FO (fallN C j).1 ∧ VB (fallN C j).1
  | 0 => ⟨hC, hV⟩
  | j + 1 => by
    obtain ⟨h1, h2⟩ := fallN_ok hC hV j
    rw [fallN, fallStep]
    split
    · exact ⟨h1, h2⟩
    · next t ht =>
      obtain ⟨a, b, -⟩ := mate_lt ht
      exact ⟨FO_toC (FO_toC h1 (by omega)) b, VB_toC (VB_toC h2)⟩

