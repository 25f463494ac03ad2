/-! THE LAW'S WEIGHTS ARE THE CLASS'S BELIEFS, TIMES A FACTOR. -/
theorem mv_eq : ∀ B, B < 16 → ∀ i, i < 4 → ∀ j, j < 4 → (mvd B i j 8 = B ↔ bbit B i = bbit B j) ∧ mvd B i j 8 < 256 ∧ ∀ p, p < 4 → bbit (mvd B i j 8) p = bbit B (mBall p i j) := by decide +kernel
def alls : Nat → (Nat → Bool) → Bool
  | 0, _ => true
  | n + 1, f => f n && alls n f
theorem alls_in {f : Nat → Bool} : ∀ n, alls n f = true → ∀ i, i < n → f i = true := by
  intro n
  induction n with
  | zero => exact fun _ i h => absurd h (Nat.not_lt_zero i)
  | succ n ih =>
    intro h i hi
    have h1 := Bool.and_eq_true_iff.1 h
    by_cases c : i = n
    · rw [c]; exact h1.1
    · exact ih h1.2 i (by omega)
theorem mv_ne0 : alls 16 (fun B => alls 4 fun a => alls 4 fun b => alls 4 fun i => alls 4 fun j => decide (i ≤ j ∨ bbit B a = bbit B b ∨ (decide (mvd B i j 8 = mvd B a b 8) = decide ((i = a ∧ j = b) ∨ (i = b ∧ j = a)) ∧ B ≠ mvd B a b 8))) = true := by decide +kernel
theorem mv_ne (B : Nat) (hB : B < 16) (a : Nat) (ha : a < 4) (b : Nat) (hb : b < 4) (h : bbit B a ≠ bbit B b) (i : Nat) (hi : i < 4) (j : Nat) (hj : j < 4) (hij : j < i) : (mvd B i j 8 = mvd B a b 8 ↔ ((i = a ∧ j = b) ∨ (i = b ∧ j = a))) ∧ B ≠ mvd B a b 8 := by
  rcases of_decide_eq_true (alls_in _ (alls_in _ (alls_in _ (alls_in _ (alls_in _ mv_ne0 B hB) a ha) b hb) i hi) j hj) with h1 | h1 | h1
  · omega
  · exact absurd h1 h
  · exact ⟨decide_eq_decide.1 h1.1, h1.2⟩
theorem mv_16 : ∀ n, n ≤ 4 → ∀ B, B < 2 ^ n → ∀ i, i < n → ∀ j, j < n → mvd B i j 8 < 2 ^ n := by decide +kernel
section RPS
variable (r f : Nat → Nat) (p : Nat)
def rPr (i : Nat) : Nat → Nat
  | 0 => 0
  | j + 1 => rPr i j + if r i = r j then f (mBall p i j) else 0
def rPs : Nat → Nat
  | 0 => 0
  | i + 1 => rPs i + rPr r f p i i
end RPS
theorem wPs_r {s : Sg} {f r : Nat → Nat} {p n : Nat} (hn : n ≤ 4) (hB : s.2.2.2.1 < 16) (hr : ∀ q, q < n → r q = bbit s.2.2.2.1 q) (hs : s.2.2.2.1 = s.2.2.2.2.1) : ∀ i, i ≤ n → wPs s f p i = rPs r f p i := by
  have h1 : ∀ i, i < n → ∀ j, j ≤ i → wPr s f p i j = rPr r f p i j := by
    intro i hi j
    induction j with
    | zero => exact fun _ => rfl
    | succ j ih =>
      intro hj
      show wPr s f p i j + (if mvd s.2.2.2.1 i j 8 = s.2.2.2.2.1 then f (mBall p i j) else 0) = rPr r f p i j + if r i = r j then f (mBall p i j) else 0
      have hq := (mv_eq _ hB i (by omega) j (by omega)).1
      rw [ih (by omega), ← hs]
      by_cases c : r i = r j
      · rw [if_pos c, if_pos (hq.2 (by rw [← hr i hi, ← hr j (by omega)]; exact c))]
      · rw [if_neg c, if_neg (fun z => c (by rw [hr i hi, hr j (by omega)]; exact hq.1 z))]
  intro i
  induction i with
  | zero => exact fun _ => rfl
  | succ i ih =>
    intro hi
    show wPs s f p i + wPr s f p i i = rPs r f p i + rPr r f p i i
    rw [ih (by omega), h1 i (by omega) i (Nat.le_refl _)]
theorem wPs_x {s : Sg} {f : Nat → Nat} {p n a b : Nat} (hn : n ≤ 4) (hB : s.2.2.2.1 < 16) (ha : a < n) (hb : b < n) (hne : bbit s.2.2.2.1 a ≠ bbit s.2.2.2.1 b) (hs : s.2.2.2.2.1 = mvd s.2.2.2.1 a b 8) : wPs s f p n = f (mBall p a b) := by
  have hab : a ≠ b := fun z => hne (by rw [z])
  have hm : mBall p a b = mBall p b a := by
    unfold mBall
    by_cases h1 : p = a
    · by_cases h2 : p = b
      · omega
      · rw [if_pos h1, if_neg h2, if_pos h1]
    · rw [if_neg h1, if_neg h1]
  have h1 : ∀ i, i < n → ∀ j, j ≤ i → wPr s f p i j = if (i = a ∧ b < j) ∨ (i = b ∧ a < j) then f (mBall p a b) else 0 := by
    intro i hi j
    induction j with
    | zero => exact fun _ => (if_neg (by omega)).symm
    | succ j ih =>
      intro hj
      show wPr s f p i j + (if mvd s.2.2.2.1 i j 8 = s.2.2.2.2.1 then f (mBall p i j) else 0) = _
      have hq := (mv_ne _ hB a (by omega) b (by omega) hne i (by omega) j (by omega) (by omega)).1
      rw [ih (by omega), hs]
      by_cases c : (i = a ∧ j = b) ∨ (i = b ∧ j = a)
      · rw [if_pos (hq.2 c), if_neg (by omega), if_pos (by omega), Nat.zero_add]
        rcases c with ⟨c1, c2⟩ | ⟨c1, c2⟩
        · rw [c1, c2]
        · rw [c1, c2, hm]
      · rw [if_neg (fun z => c (hq.1 z)), Nat.add_zero]
        by_cases c2 : (i = a ∧ b < j) ∨ (i = b ∧ a < j)
        · rw [if_pos c2, if_pos (by omega)]
        · rw [if_neg c2, if_neg (by omega)]
  have h2 : ∀ i, i ≤ n → wPs s f p i = if a < i ∧ b < i then f (mBall p a b) else 0 := by
    intro i
    induction i with
    | zero => exact fun _ => (if_neg (by omega)).symm
    | succ i ih =>
      intro hi
      show wPs s f p i + wPr s f p i i = _
      rw [ih (by omega), h1 i (by omega) i (Nat.le_refl _)]
      by_cases c : (i = a ∧ b < i) ∨ (i = b ∧ a < i)
      · rw [if_pos c, if_neg (by omega), if_pos (by omega), Nat.zero_add]
      · rw [if_neg c, Nat.add_zero]
        by_cases c2 : a < i ∧ b < i
        · rw [if_pos c2, if_pos (by omega)]
        · rw [if_neg c2, if_neg (by omega)]
  rw [h2 n (Nat.le_refl _), if_pos ⟨ha, hb⟩]
theorem bl_n {r f : Nat → Nat} {n c y p : Nat} (hn : 2 ≤ n ∧ n ≤ 4) (hr : ∀ q, q < n → r q ≤ 1) (hp : p ≤ n) : rPs r f p n + c * f p + wHd n y f p n = gWon n r f c y p := by
  have hm : ∀ i, y * f i = f i * y := fun i => Nat.mul_comm _ _
  have hk : ∀ i, c * f i = f i * c := fun i => Nat.mul_comm _ _
  have h2 : ∀ i, y * (2 * f i) = 2 * (f i * y) := fun i => by rw [Nat.mul_left_comm, Nat.mul_comm y]
  have h3 : ∀ i k, f i * (y * k) = f i * y * k := fun i k => (Nat.mul_assoc _ _ _).symm
  have g0 : r 0 = 0 ∨ r 0 = 1 := by have := hr 0 (by omega); omega
  have g1 : r 1 = 0 ∨ r 1 = 1 := by have := hr 1 (by omega); omega
  rcases (show n = 2 ∨ n = 3 ∨ n = 4 by omega) with rfl | rfl | rfl
  · rcases (show p = 0 ∨ p = 1 ∨ p = 2 by omega) with rfl | rfl | rfl <;> rcases g0 with g0 | g0 <;> rcases g1 with g1 | g1 <;>
      (simp [rPs, rPr, wHd, gWon, wSw, wC, wS, wK, wL, mSum, tri, mBall, g0, g1, hm, hk, h2, h3, Nat.mul_add, Nat.add_mul]; try omega)
  · have g2 : r 2 = 0 ∨ r 2 = 1 := by have := hr 2 (by omega); omega
    rcases (show p = 0 ∨ p = 1 ∨ p = 2 ∨ p = 3 by omega) with rfl | rfl | rfl | rfl <;> rcases g0 with g0 | g0 <;> rcases g1 with g1 | g1 <;> rcases g2 with g2 | g2 <;>
      (simp [rPs, rPr, wHd, gWon, wSw, wC, wS, wK, wL, mSum, tri, mBall, g0, g1, g2, hm, hk, h2, h3, Nat.mul_add, Nat.add_mul]; try omega)
  · have g2 : r 2 = 0 ∨ r 2 = 1 := by have := hr 2 (by omega); omega
    have g3 : r 3 = 0 ∨ r 3 = 1 := by have := hr 3 (by omega); omega
    rcases (show p = 0 ∨ p = 1 ∨ p = 2 ∨ p = 3 ∨ p = 4 by omega) with rfl | rfl | rfl | rfl | rfl <;> rcases g0 with g0 | g0 <;> rcases g1 with g1 | g1 <;> rcases g2 with g2 | g2 <;> rcases g3 with g3 | g3 <;>
      (simp [rPs, rPr, wHd, gWon, wSw, wC, wS, wK, wL, mSum, tri, mBall, g0, g1, g2, g3, hm, hk, h2, h3, Nat.mul_add, Nat.add_mul]; try omega)
