/-! pure rows: ints that are small naturals, bools as ints, bits -/
def bI (b : Bool) : Int32 := if b then 1 else 0
theorem bI_t : bI true = nI 1 := rfl
theorem bI_f : bI false = nI 0 := rfl
theorem bI_0 {b : Bool} : bI b = 0 ↔ b = false := by cases b <;> decide
theorem bI_1 {b : Bool} : bI b = nI 1 ↔ b = true := by cases b <;> decide
theorem bI_00 {b : Bool} : bI b = nI 0 ↔ b = false := by cases b <;> decide
theorem bI_inj {b c : Bool} : bI b = bI c ↔ b = c := by cases b <;> cases c <;> decide
theorem bI_n (b : Bool) : bI b = nI b.toNat := by cases b <;> rfl
theorem nar_b (b : Bool) : narrow .boolean (.int (bI b)) = .int (bI b) := by cases b <;> rfl
theorem bNot {b : Bool} {c : Bool} (h : ¬ b = c) : b = !c := by cases b <;> cases c <;> simp_all
theorem nz_eq {n : Nat} (h : n < 2 ^ 31) : nI n = 0 ↔ n = 0 := nI_eq (b := 0) h (by decide)
theorem nz_lt {n : Nat} (h : n < 2 ^ 31) : nI n < 0 ↔ False := ⟨fun z => nI_pos h z, False.elim⟩
theorem nz_ge {n : Nat} (h : n < 2 ^ 31) : 0 ≤ nI n ↔ True := ⟨fun _ => trivial, fun _ => nI_pos' h⟩
theorem nz_gt {n : Nat} (h : n < 2 ^ 31) : 0 < nI n ↔ 0 < n := nI_ltI (a := 0) (by decide) h
theorem nz_le {n : Nat} (h : n < 2 ^ 31) : nI n ≤ 0 ↔ n = 0 := (nI_leI (b := 0) h (by decide)).trans ⟨fun z => Nat.le_zero.mp z, fun z => Nat.le_of_eq z⟩
theorem iinc_n (a k : Nat) : nI a + Int32.ofInt k = nI (a + k) := by
  rw [← nI_add]; rfl
theorem iinc_d {a : Nat} (h : 1 ≤ a) : nI a + Int32.ofInt (-1) = nI (a - 1) := by
  obtain ⟨b, rfl⟩ : ∃ b, a = b + 1 := ⟨a - 1, by omega⟩
  exact pk_m1 b
theorem ald_n {α : Type} {g : Nat → α} {i : Nat} (h : i < 2 ^ 31) : g (nI i).toNatClampNeg = g i := by rw [nI_clamp h]
theorem ast_n {g : Nat → Nat} {i v : Nat} (h : i < 2 ^ 31) : upd (fun j => nI (g j)) (nI i).toNatClampNeg (nI v) = fun j => nI (va_up g i v j) := by
  rw [nI_clamp h]; funext j; simp only [upd, va_up]; by_cases q : j = i <;> simp [q]
theorem ast_r {g : Nat → Int32} {i : Nat} {v : Int32} (h : i < 2 ^ 31) : upd g (nI i).toNatClampNeg v = va_up g i v := by
  rw [nI_clamp h]; funext j; simp only [upd, va_up]
theorem ast_l {g : Nat → Nat} {i v : Nat} (h : i < 2 ^ 31) : vp_updL (fun j => lN (g j)) (nI i).toNatClampNeg (lN v) = fun j => lN (va_up g i v j) := by
  rw [nI_clamp h]; funext j; simp only [vp_updL, va_up]; by_cases q : j = i <;> simp [q]
theorem ast_b {g : Nat → Bool} {i : Nat} {v : Bool} (h : i < 2 ^ 31) : upd (fun j => bI (g j)) (nI i).toNatClampNeg (vp_nar .boolean (bI v)) = fun j => bI (va_up g i v j) := by
  have e : vp_nar .boolean (bI v) = bI v := by cases v <;> rfl
  rw [nI_clamp h, e]; funext j; simp only [upd, va_up]; by_cases q : j = i <;> simp [q]
theorem fa_and (a b : Nat) : nI a &&& nI b = nI (a &&& b) := by
  apply Int32.toBitVec_inj.1
  show BitVec.ofNat 32 a &&& BitVec.ofNat 32 b = BitVec.ofNat 32 (a &&& b)
  apply BitVec.eq_of_getLsbD_eq
  intro i hi
  simp [hi]
theorem fa_or (a b : Nat) : nI a ||| nI b = nI (a ||| b) := by
  apply Int32.toBitVec_inj.1
  show BitVec.ofNat 32 a ||| BitVec.ofNat 32 b = BitVec.ofNat 32 (a ||| b)
  apply BitVec.eq_of_getLsbD_eq
  intro i hi
  simp [hi]
theorem fb_xorI (a b : Nat) : nI a ^^^ nI b = nI (a ^^^ b) := by
  apply Int32.toBitVec_inj.1
  show BitVec.ofNat 32 a ^^^ BitVec.ofNat 32 b = BitVec.ofNat 32 (a ^^^ b)
  apply BitVec.eq_of_getLsbD_eq
  intro i hi
  simp [hi]
theorem s_l : ∀ n, n < 32 → ((nI n &&& 31).toBitVec.smod 32).toNat = n := by decide +kernel
theorem sh_l (a : Nat) {b : Nat} (h : b < 32) : nI a <<< (nI b &&& 31) = nI (a <<< b) := by
  apply Int32.toBitVec_inj.1
  apply BitVec.eq_of_toNat_eq
  rw [pk_shl (nI a) (nI b &&& 31) b (s_l b h)]
  show (BitVec.ofNat 32 a).toNat * 2 ^ b % 2 ^ 32 = (BitVec.ofNat 32 (a <<< b)).toNat
  rw [BitVec.toNat_ofNat, BitVec.toNat_ofNat, Nat.shiftLeft_eq, Nat.mod_mul_mod]
theorem sh_r {a b : Nat} (ha : a < 2 ^ 31) (h : b < 32) : nI a >>> (nI b &&& 31) = nI (a >>> b) := by
  rw [pk_shrN ha _ b (s_l b h), Nat.shiftRight_eq_div_pow]
theorem and1_b (a b : Nat) : nI (a >>> b) &&& nI 1 = bI (a.testBit b) := by
  rw [fa_and, bI_n, Nat.and_one_is_mod, Nat.toNat_testBit, Nat.shiftRight_eq_div_pow]
/-- a set out of a predicate, the places below n -/
def bitsOf (p : Nat → Bool) : Nat → Nat
  | 0 => 0
  | n + 1 => bitsOf p n ||| (if p n then 1 <<< n else 0)
theorem bitsOf_lt (p : Nat → Bool) : ∀ n, bitsOf p n < 2 ^ n
  | 0 => by simp [bitsOf]
  | n + 1 => by
    have h := bitsOf_lt p n
    have h2 : 2 ^ n < 2 ^ (n + 1) := Nat.pow_lt_pow_right (by decide) (Nat.lt_succ_self n)
    rw [bitsOf]
    refine Nat.or_lt_two_pow (Nat.lt_trans h h2) ?_
    by_cases q : p n
    · rw [if_pos q, Nat.one_shiftLeft]; exact h2
    · rw [if_neg q]; exact Nat.two_pow_pos _
theorem bitsOf_bit (p : Nat → Bool) : ∀ n i, (bitsOf p n).testBit i = (decide (i < n) && p i)
  | 0, i => by simp [bitsOf]
  | n + 1, i => by
    rw [bitsOf, Nat.testBit_or, bitsOf_bit p n i]
    by_cases q : p n
    · rw [if_pos q, Nat.one_shiftLeft, Nat.testBit_two_pow]
      by_cases e : n = i
      · subst e; simp [q]
      · have : decide (i < n + 1) = decide (i < n) := by apply decide_eq_decide.mpr; omega
        simp [this, e]
    · rw [if_neg q, Nat.zero_testBit, Bool.or_false]
      by_cases e : n = i
      · subst e; simp [q]
      · have : decide (i < n + 1) = decide (i < n) := by apply decide_eq_decide.mpr; omega
        rw [this]
/-- how many places below n -/
def cnt (p : Nat → Bool) : Nat → Nat
  | 0 => 0
  | n + 1 => cnt p n + (p n).toNat
theorem cnt_le (p : Nat → Bool) : ∀ n, cnt p n ≤ n
  | 0 => Nat.le_refl _
  | n + 1 => by have := cnt_le p n; have : (p n).toNat ≤ 1 := Bool.toNat_le _; rw [cnt]; omega
theorem cnt_congr {p q : Nat → Bool} : ∀ {n : Nat}, (∀ i, i < n → p i = q i) → cnt p n = cnt q n
  | 0, _ => rfl
  | n + 1, h => by rw [cnt, cnt, cnt_congr (fun i hi => h i (Nat.lt_succ_of_lt hi)), h n (Nat.lt_succ_self n)]
def pop (v : Nat) : Nat := cnt v.testBit 64
