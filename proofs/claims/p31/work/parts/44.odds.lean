/-! THE ODDS: a value of codes; on both sides. -/
def jI (z : Int) : Int32 := Int32.ofInt z
theorem jI_N (k : Nat) : nI k = jI (k : Int) := Int32.ofInt_eq_ofNat.symm
theorem jI_T {z : Int} (h1 : -2147483648 ≤ z) (h2 : z < 2147483648) : (jI z).toInt = z := Int32.toInt_ofInt_of_le (by omega) (by omega)
theorem lI_T {z : Int} (h1 : -9223372036854775808 ≤ z) (h2 : z < 9223372036854775808) : (lI z).toInt = z := Int64.toInt_ofInt_of_le (by omega) (by omega)
theorem jI_L {z : Int} (h1 : -2147483648 ≤ z) (h2 : z < 2147483648) : (jI z).toInt64 = lI z := by
  rw [← Int64.ofInt_int32ToInt, jI_T h1 h2]
  rfl
theorem lI_J {z : Int} (h1 : -9223372036854775808 ≤ z) (h2 : z < 9223372036854775808) : (lI z).toInt32 = jI z := by
  rw [← Int32.ofInt_int64ToInt, lI_T h1 h2]
  rfl
theorem jI_le {a b : Int} (h1 : -2147483648 ≤ a) (h2 : a < 2147483648) (h3 : -2147483648 ≤ b) (h4 : b < 2147483648) : jI a ≤ jI b ↔ a ≤ b := by
  rw [Int32.le_iff_toInt_le, jI_T h1 h2, jI_T h3 h4]
theorem jI_lt {a b : Int} (h1 : -2147483648 ≤ a) (h2 : a < 2147483648) (h3 : -2147483648 ≤ b) (h4 : b < 2147483648) : jI a < jI b ↔ a < b := by
  rw [Int32.lt_iff_toInt_lt, jI_T h1 h2, jI_T h3 h4]
theorem jI_eq {a b : Int} (h1 : -2147483648 ≤ a) (h2 : a < 2147483648) (h3 : -2147483648 ≤ b) (h4 : b < 2147483648) : jI a = jI b ↔ a = b := by
  rw [← Int32.toInt_inj, jI_T h1 h2, jI_T h3 h4]
theorem lI_le {a b : Int} (h1 : -4611686018427387904 ≤ a) (h2 : a ≤ 4611686018427387904) (h3 : -4611686018427387904 ≤ b) (h4 : b ≤ 4611686018427387904) : lI a ≤ lI b ↔ a ≤ b := by
  rw [Int64.le_iff_toInt_le, lI_T (by omega) (by omega), lI_T (by omega) (by omega)]
theorem lI_lt {a b : Int} (h1 : -4611686018427387904 ≤ a) (h2 : a ≤ 4611686018427387904) (h3 : -4611686018427387904 ≤ b) (h4 : b ≤ 4611686018427387904) : lI a < lI b ↔ a < b := by
  rw [Int64.lt_iff_toInt_lt, lI_T (by omega) (by omega), lI_T (by omega) (by omega)]
theorem lI_eq {a b : Int} (h1 : -4611686018427387904 ≤ a) (h2 : a ≤ 4611686018427387904) (h3 : -4611686018427387904 ≤ b) (h4 : b ≤ 4611686018427387904) : lI a = lI b ↔ a = b := by
  rw [← Int64.toInt_inj, lI_T (by omega) (by omega), lI_T (by omega) (by omega)]
theorem lzL_t {α : Sort _} {a b : Int} {A B : α} (h : a ≤ b) (h1 : a.natAbs ≤ 4611686018427387904) (h2 : b.natAbs ≤ 4611686018427387904) : (if lg_cmp (lI a) (lI b) ≤ nI 0 then A else B) = A := if_pos ((lg_cmp_le _ _).2 ((lI_le (by omega) (by omega) (by omega) (by omega)).2 h))
theorem lzL_f {α : Sort _} {a b : Int} {A B : α} (h : ¬ a ≤ b) (h1 : a.natAbs ≤ 4611686018427387904) (h2 : b.natAbs ≤ 4611686018427387904) : (if lg_cmp (lI a) (lI b) ≤ nI 0 then A else B) = B := if_neg (fun z => h ((lI_le (by omega) (by omega) (by omega) (by omega)).1 ((lg_cmp_le _ _).1 z)))
theorem lzG_t {α : Sort _} {a b : Int} {A B : α} (h : b ≤ a) (h1 : a.natAbs ≤ 4611686018427387904) (h2 : b.natAbs ≤ 4611686018427387904) : (if nI 0 ≤ lg_cmp (lI a) (lI b) then A else B) = A := if_pos ((lg_cmp_ge _ _).2 ((lI_le (by omega) (by omega) (by omega) (by omega)).2 h))
theorem lzG_f {α : Sort _} {a b : Int} {A B : α} (h : ¬ b ≤ a) (h1 : a.natAbs ≤ 4611686018427387904) (h2 : b.natAbs ≤ 4611686018427387904) : (if nI 0 ≤ lg_cmp (lI a) (lI b) then A else B) = B := if_neg (fun z => h ((lI_le (by omega) (by omega) (by omega) (by omega)).1 ((lg_cmp_ge _ _).1 z)))
theorem lzE_t {α : Sort _} {a b : Int} {A B : α} (h : a = b) : (if lg_cmp (lI a) (lI b) = nI 0 then A else B) = A := if_pos ((lg_cmp_eq _ _).2 (by rw [h]))
theorem lzE_f {α : Sort _} {a b : Int} {A B : α} (h : ¬ a = b) (h1 : a.natAbs ≤ 4611686018427387904) (h2 : b.natAbs ≤ 4611686018427387904) : (if lg_cmp (lI a) (lI b) = nI 0 then A else B) = B := if_neg (fun z => h ((lI_eq (by omega) (by omega) (by omega) (by omega)).1 ((lg_cmp_eq _ _).1 z)))
theorem tdiv_le {a b : Int} {M : Nat} (h : a.natAbs ≤ M) : (a.tdiv b).natAbs ≤ M := by
  rw [Int.natAbs_tdiv]
  exact Nat.le_trans (Nat.div_le_self _ _) h
theorem mul_le {a b : Int} (h : a.natAbs ≤ 2147483648) (h2 : b.natAbs ≤ 2147483648) : (a * b).natAbs ≤ 4611686018427387904 := by
  rw [Int.natAbs_mul]
  exact Nat.mul_le_mul h h2
theorem lI_div {a b : Int} (ha : a.natAbs ≤ 2147483648) (hb : b.natAbs ≤ 2147483648) : lI a / lI b = lI (a.tdiv b) := by
  have h1 : Int64.minValue.toInt = -9223372036854775808 := by decide
  have h2 : Int64.maxValue.toInt = 9223372036854775807 := by decide
  exact (Int64.ofInt_tdiv (by omega) (by omega) (by omega) (by omega)).symm
theorem jI_div {a b : Int} (h1 : -2147483648 ≤ a) (h2 : a < 2147483648) (h3 : -2147483648 ≤ b) (h4 : b < 2147483648) : jI a / jI b = jI (a.tdiv b) := by
  have e1 : Int32.minValue.toInt = -2147483648 := by decide
  have e2 : Int32.maxValue.toInt = 2147483647 := by decide
  exact (Int32.ofInt_tdiv (by omega) (by omega) (by omega) (by omega)).symm
def updZ (st : Nat → Int) (k : Nat) (v : Int) : Nat → Int := fun p => if p = k then v else st p
def gFact (g : Nat → Nat) (p v : Nat) : Nat := if v = 0 then g 0 else if v = 1 then g 2 else if v = 2 then g 3 else gF g p * 100 / mSum (gF g) (g 0 + 1)
def clampZ (z : Int) : Int := if z ≤ 1000000 then (if -1000000 ≤ z then z else -1000000) else 1000000
def exZ (op : Nat) (a b : Int) : Int := if op = 2 then a + b else if op = 3 then a - b else if op = 4 then a * b else if b = 0 then 0 else a.tdiv b
def gPush (g : Nat → Nat) (p i : Nat) : Nat := if g (61 + 2 * i) = 0 then g (61 + 2 * i + 1) else gFact g p (g (61 + 2 * i + 1))
def gEv (g : Nat → Nat) (p : Nat) : Nat → Nat → Nat → (Nat → Int) → Int
  | 0, _, _, st => st 0
  | k + 1, i, dp, st => if g (61 + 2 * i) ≤ 1 then gEv g p k (i + 1) (dp + 1) (updZ st dp (gPush g p i : Int)) else gEv g p k (i + 1) (dp - 1) (updZ st (dp - 2) (clampZ (exZ (g (61 + 2 * i)) (st (dp - 2)) (st (dp - 1)))))
def lim9 (z : Int) : Nat := if 0 ≤ z then (if z ≤ 9 then z.toNat else 9) else 0
def gOdds (g : Nat → Nat) (p : Nat) : Nat := if g 11 = 0 then g 0 - 1 else lim9 (gEv g p (g 11) 0 0 (fun _ => 0))
def fOk (g : Nat → Nat) : Nat → Nat → Nat → Prop
  | 0, _, dp => dp = 1
  | k + 1, i, dp => (g (61 + 2 * i) ≤ 1 ∧ dp < 11 ∧ (g (61 + 2 * i) = 0 → g (61 + 2 * i + 1) ≤ 9999) ∧ (g (61 + 2 * i) = 1 → g (61 + 2 * i + 1) ≤ 3) ∧ fOk g k (i + 1) (dp + 1)) ∨ (2 ≤ g (61 + 2 * i) ∧ g (61 + 2 * i) ≤ 5 ∧ 2 ≤ dp ∧ fOk g k (i + 1) (dp - 1))
def iFo (g : Nat → Nat) : Prop := g 11 ≤ 500 ∧ (g 11 ≠ 0 → fOk g (g 11) 0 0)
def bZ (z : Int) : Prop := -1000000 ≤ z ∧ z < 2147483648
theorem clampZ_b (z : Int) : bZ (clampZ z) := by
  unfold clampZ bZ
  split
  · split <;> omega
  · omega
theorem exZ_b {op : Nat} {a b : Int} (ha : bZ a) (hb : bZ b) : (exZ op a b).natAbs ≤ 4611686018427387904 := by
  unfold bZ at ha hb
  unfold exZ
  split
  · omega
  · split
    · omega
    · split
      · exact mul_le (by omega) (by omega)
      · split
        · exact Nat.zero_le _
        · have := tdiv_le (a := a) (b := b) (M := 2147483648) (by omega)
          omega
def iT (g : Nat → Nat) : Prop := g 2 < 2147483648 ∧ g 3 < 2147483648
theorem mSum_pos {g : Nat → Nat} (H : iG g) : 0 < mSum (gF g) (g 0 + 1) ∧ mSum (gF g) (g 0 + 1) ≤ 9000000 := by
  obtain ⟨⟨_, h8, h1, _⟩, _, _, _, _, hB, h0⟩ := H
  have h2 := mSum_in (f := gF g) (p := g 1) (g 0 + 1) (by omega)
  have h3 := mSum_le (f := gF g) (B := 1000000) (g 0 + 1) (fun p hp => hB p (by omega))
  have h0 : 0 < gF g (g 1) := h0
  have : (g 0 + 1) * 1000000 ≤ 9 * 1000000 := Nat.mul_le_mul_right _ (by omega)
  omega
theorem gFact_lt {g : Nat → Nat} (H : iG g) (ht : iT g) {p v : Nat} (hp : p < g 0) : gFact g p v < 2147483648 := by
  obtain ⟨⟨_, h8, h1, _⟩, _, _, _, _, hB, h0⟩ := H
  have h2 := hB p (by omega)
  have h2 : gF g p ≤ 1000000 := h2
  have h3 : gF g p * 100 / mSum (gF g) (g 0 + 1) ≤ gF g p * 100 := Nat.div_le_self _ _
  unfold iT at ht
  unfold gFact
  split
  · omega
  · split
    · omega
    · split <;> omega
section OD
variable {E : xEn} {z : Nat → Option va_E} {x n w : Nat} {S : xSt} {g : Nat → Nat} {T P : Nat → Int64}
theorem mP_1 : (mS (sG S 4 P) w g T).1 = S.1 := rfl
theorem mP_4 : (mS (sG S 4 P) w g T).2.2.2.1 4 = P := rfl
theorem mP_s {P' : Nat → Int64} : sG (mS (sG S 4 P) w g T) 4 P' = mS (sG S 4 P') w g T := by
  unfold mS sG sA
  dsimp only
  congr 4
  funext q'
  by_cases h : q' = 4
  · subst h
    rfl
  · simp only [if_neg h]
theorem mP_0 : mS (sG S 4 (S.2.2.2.1 4)) w g T = mS S w g T := by
  have : sG S 4 (S.2.2.2.1 4) = S := by
    unfold sG
    obtain ⟨a, b, c, e, f⟩ := S
    dsimp only
    congr 4
    funext q'
    split
    · next h => rw [h]
    · rfl
  rw [this]
end OD
