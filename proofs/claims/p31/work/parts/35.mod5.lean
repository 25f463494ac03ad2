/-! THE REFERENCE: what holds of a row; thinking, a step, a look. -/
def iG (g : Nat → Nat) : Prop := (2 ≤ g 0 ∧ g 0 ≤ 8 ∧ g 1 ≤ g 0 ∧ 1 ≤ g 4 ∧ g 4 ≤ 99 ∧ 1 ≤ g 5 ∧ g 5 ≤ 9 ∧ g 6 ≤ 9 ∧ g 7 ≤ 1000000 ∧ g 10 ≤ 8) ∧ (∀ p, p < 8 → g (12 + p) < 8) ∧ (∀ p, p < g 0 → g (12 + p) < g 0) ∧ (∀ p q, p < g 0 → q < g 0 → g (12 + p) = g (12 + q) → p = q) ∧ (∀ p, p < 8 → g (28 + p) ≤ 1) ∧ (∀ p, p ≤ 8 → g (36 + p) ≤ 1000000) ∧ 0 < g (36 + g 1)
theorem iG_rg {g : Nat → Nat} (H : iG g) : ∀ p, p < 8 → rg g p ≤ 1 := fun p hp => H.2.2.2.2.1 _ (H.2.1 p hp)
theorem tri_28 : ∀ n, n ≤ 8 → ∀ k, k ≤ n → tri k + tri (n - k) ≤ 28 := by decide
theorem mSum_le {f : Nat → Nat} {B : Nat} : ∀ m, (∀ p, p < m → f p ≤ B) → mSum f m ≤ m * B := by
  intro m
  induction m with
  | zero => exact fun _ => Nat.zero_le _
  | succ m ih =>
    intro h
    have h1 := ih (fun p hp => h p (Nat.lt_succ_of_lt hp))
    have h2 := h m (Nat.lt_succ_self m)
    rw [show mSum f (m + 1) = mSum f m + f m from rfl, Nat.add_mul]
    omega
theorem gWon_lt {n p : Nat} {r f : Nat → Nat} {c s : Nat} (hn : n ≤ 8) (hc : c ≤ 9) (hs : s ≤ 9) (hf : ∀ p, p ≤ n → f p ≤ 1000000) (hp : p ≤ n) : gWon n r f c s p < 2 ^ 31 - 1 := by
  have h1 : wSw r n ≤ 28 := tri_28 n hn _ (wC_le r n)
  have h2 := hf p hp
  have h3 := hf n (Nat.le_refl n)
  have h4 := mSum_le (f := f) (B := 1000000) n (fun p hp => hf p (Nat.le_of_lt hp))
  have h5 : s * n ≤ 9 * 8 := Nat.mul_le_mul hs hn
  have h6 : f n * s ≤ 1000000 * 9 := Nat.mul_le_mul h3 hs
  have h9 : mSum f n ≤ 8000000 := by omega
  unfold gWon
  by_cases e : p < n
  · rw [if_pos e]
    have h7 : s * (n - 1) ≤ 9 * 8 := Nat.mul_le_mul hs (by omega)
    have h8 : f p * (wSw r n - (wK r p n - 1) + c + s * (n - 1) + s * n) ≤ 1000000 * 181 := Nat.mul_le_mul h2 (by omega)
    have h10 := (wL_in (r := r) (f := f) e).2
    omega
  · rw [if_neg e]
    have h8 : f n * (wSw r n + c + s * n) ≤ 1000000 * 109 := Nat.mul_le_mul h3 (by omega)
    have h10 : mSum f n * s ≤ 8000000 * 9 := Nat.mul_le_mul h9 hs
    omega
theorem mMix_lt {a b t p : Nat} {f : Nat → Nat} (ht : t ≤ 100) (ha : f a ≤ 1000000) (hb : f b ≤ 1000000) (hp : f p ≤ 1000000) : mMix a b t f p < 2 ^ 31 - 1 := by
  have h1 : f a * (100 - t) ≤ 1000000 * 100 := Nat.mul_le_mul ha (by omega)
  have h2 : f b * (100 - t) ≤ 1000000 * 100 := Nat.mul_le_mul hb (by omega)
  have h3 : f a * t ≤ 1000000 * 100 := Nat.mul_le_mul ha ht
  have h4 : f b * t ≤ 1000000 * 100 := Nat.mul_le_mul hb ht
  unfold mMix updN
  split
  · omega
  · split
    · omega
    · show f p * 100 < _
      omega
theorem gRaw_lt {bl : Bool} {k a b : Nat} {g : Nat → Nat} (H : iG g) (hab : k < 2 → a < g 0 ∧ b < g 0) : ∀ p, p ≤ g 0 → gRaw bl k a b g p < 2 ^ 31 - 1 := by
  intro p hp
  obtain ⟨⟨_, h8, _, _, h4, _, h5, h6, _, _⟩, _, _, _, _, hB, _⟩ := H
  have hB2 : ∀ p, p ≤ g 0 → gF g p ≤ 1000000 := fun p hp => hB p (by omega)
  unfold gRaw
  split
  · next e =>
    obtain ⟨ha, hb⟩ := hab (by omega)
    have h1 := hB2 a (by omega)
    have h2 := hB2 b (by omega)
    have h3 := hB2 p hp
    unfold updN
    split
    · omega
    · split <;> omega
  · split
    · exact gWon_lt h8 h5 h6 hB2 hp
    · split
      · next e =>
        obtain ⟨ha, hb⟩ := hab e.1
        exact mMix_lt (by omega) (hB2 a (by omega)) (hB2 b (by omega)) (hB2 p hp)
      · have := hB2 p hp
        omega
section M5
variable {E : xEn} {z : Nat → Option va_E} {x n w : Nat} {S : xSt} {g : Nat → Nat} {T : Nat → Int64}
theorem updN_12 {g : Nat → Nat} {v p : Nat} : updN g 1 v (12 + p) = g (12 + p) := if_neg (by omega)
theorem gInc_n {k p : Nat} {g : Nat → Nat} (h : p ≠ k) : gInc k g p = g p := if_neg h
theorem gSw1_n {a b p : Nat} {g : Nat → Nat} (ha : p ≠ 12 + a) (hb : p ≠ 12 + b) : gSw1 a b g p = g p := by
  unfold gSw1
  rw [updN_n hb, updN_n ha]
theorem gSt1_0 {k a b : Nat} {g : Nat → Nat} : gSt1 k a b g 0 = g 0 := by
  unfold gSt1 gSwp
  split
  · rw [gInc_n (by omega), gInc_n (by omega), gSw1_n (by omega) (by omega), updN_n (by omega)]
  · rw [updN_n (by omega)]
end M5
