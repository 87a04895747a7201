
def bcs1 (i : Int32) : Int32 := i - ((i.toUInt32 >>> ((nI 1).toUInt32 &&& Int32.toUInt32 31)).toInt32 &&& nI 1431655765)
def bcs2 (i : Int32) : Int32 := (i &&& nI 858993459) + ((i.toUInt32 >>> ((nI 2).toUInt32 &&& Int32.toUInt32 31)).toInt32 &&& nI 858993459)
def bcs3 (i : Int32) : Int32 := (i + (i.toUInt32 >>> ((nI 4).toUInt32 &&& Int32.toUInt32 31)).toInt32) &&& nI 252645135
def bcs4 (i : Int32) : Int32 := i + (i.toUInt32 >>> ((nI 8).toUInt32 &&& Int32.toUInt32 31)).toInt32
def bcs5 (i : Int32) : Int32 := i + (i.toUInt32 >>> ((nI 16).toUInt32 &&& Int32.toUInt32 31)).toInt32
theorem bcJ_ok : ∀ v, v < 512 → bcs5 (bcs4 (bcs3 (bcs2 (bcs1 (nI v))))) &&& nI 63 = nI (pop v) := by decide +kernel
theorem win_n {a lo hi : Nat} (ha : a < 2 ^ 31) (hl : lo < 2 ^ 31) (hh : hi < 2 ^ 31) : win (nI a) (nI lo) (nI hi) = (decide (lo ≤ a) && decide (a ≤ hi)) := by
  have h1 : decide (nI a < nI lo) = decide (a < lo) := decide_eq_decide.mpr (nI_ltI ha hl)
  have h2 : decide (nI hi < nI a) = decide (hi < a) := decide_eq_decide.mpr (nI_ltI hh ha)
  rw [win, h1, h2]
  by_cases q : a < lo <;> by_cases z : hi < a <;> simp [q, z] <;> omega

