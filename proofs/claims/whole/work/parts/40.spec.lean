
def trF (h : Nat → Nat) (w : Nat) : Nat → Option Nat
  | 0 => none
  | k + 1 => if bsF true h w k < h (w ^^^ 1 <<< k) then some k else trF h w k
theorem bsF_congr {q : Bool} {h g : Nat → Nat} (e : ∀ x, x < 64 → h x = g x) {w : Nat} (hw : w < 64) : ∀ k, k ≤ 6 → bsF q h w k = bsF q g w k
  | 0, _ => e w hw
  | k + 1, hk => by rw [bsF, bsF, bsF_congr e hw k (by omega), e _ (xor_bit_lt (m := 6) hw (by omega))]
theorem trF_congr {h g : Nat → Nat} (e : ∀ x, x < 64 → h x = g x) {w : Nat} (hw : w < 64) : ∀ k, k ≤ 6 → trF h w k = trF g w k
  | 0, _ => rfl
  | k + 1, hk => by rw [trF, trF, bsF_congr e hw k (by omega), e _ (xor_bit_lt (m := 6) hw (by omega)), trF_congr e hw k (by omega)]
def LV (C : FC) (n j : Nat) (f : Nat → Nat) : Prop := ∀ x, x < 64 → f x = lvF C n j x
theorem LV_9 {C : FC} {n j : Nat} {f : Nat → Nat} (h9 : cN C ≤ 9) (h : LV C n j f) {x : Nat} (hx : x < 64) : f x ≤ 9 := by rw [h x hx]; exact lvF_le h9 n j x hx
theorem bs9 {C : FC} {n j : Nat} {f : Nat → Nat} (h9 : cN C ≤ 9) (h : LV C n j f) {q : Bool} {x k : Nat} (hx : x < 64) (hk : k ≤ 6) : bsF q f x k ≤ 9 := bsF_le (fun _ hw => LV_9 h9 h hw) hx k hk
theorem up_st {g z : Nat → Nat} {i v : Nat} (h : ∀ x, x < i → z x = g x) (e : v = g i) : ∀ x, x < i + 1 → va_up z i v x = g x := fun x hx => by
  by_cases q : x = i
  · subst q; rw [va_up_self]; exact e
  · rw [va_up_ne _ _ q]; exact h x (by omega)
theorem lv_fin {C : FC} {n t : Nat} {z : Nat → Nat} (hn : 1 ≤ n) (h0 : t = 0) (hz : LV C n (n - 1 - t) z) (hF : cF C < 64) : bsF true z (cF C) 6 = lvF C n n (cF C) ∧ trF z (cF C) 6 = trF (lvF C n (n - 1)) (cF C) 6 := by
  subst h0
  rw [Nat.sub_zero] at hz
  refine ⟨?_, trF_congr hz hF 6 (Nat.le_refl _)⟩
  obtain ⟨k, rfl⟩ : ∃ k, n = k + 1 := ⟨n - 1, by omega⟩
  rw [lvF, Nat.sub_self]
  exact bsF_congr hz hF 6 (Nat.le_refl _)
theorem lv_st {C : FC} {n t : Nat} {z y : Nat → Nat} (h1 : 1 ≤ t) (h2 : t ≤ n - 1) (hz : LV C n (n - 1 - t) z) (hy : ∀ x, x < 64 → y x = bsF (decide (t % 2 = 0)) z x 6) : LV C n (n - 1 - (t - 1)) y := fun x hx => by
  rw [hy x hx, show n - 1 - (t - 1) = (n - 1 - t) + 1 by omega, lvF, show n - (n - 1 - t + 1) = t by omega]
  exact bsF_congr hz hx 6 (Nat.le_refl _)

