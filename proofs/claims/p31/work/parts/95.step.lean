/-! ONE STEP: the law's weights and the class's beliefs. -/
section LIN
variable {s : Sg} {f u : Nat → Nat} {D n t c y p : Nat}
theorem mB_le {p a b n : Nat} (hp : p ≤ n) (ha : a < n) (hb : b < n) : mBall p a b ≤ n := by
  unfold mBall
  split
  · omega
  · split <;> omega
theorem wOp_lin (hu : ∀ q, q ≤ n → u q = f q * D) (hp : p ≤ n) (ha : s.2.1 < n) (hb : s.2.2.1 < n) : wOp t s u p = wOp t s f p * D := by
  have hq := mB_le hp ha hb
  unfold wOp
  rw [hu p hp, hu _ hq]
  repeat' split
  all_goals first | rfl | skip
  · rw [Nat.add_mul, Nat.mul_assoc, Nat.mul_assoc]
  · rw [Nat.mul_assoc]
theorem wPs_lin (hu : ∀ q, q ≤ n → u q = f q * D) (hp : p ≤ n) : ∀ i, i ≤ n → wPs s u p i = wPs s f p i * D := by
  have h1 : ∀ i, i < n → ∀ j, j ≤ i → wPr s u p i j = wPr s f p i j * D := by
    intro i hi j
    induction j with
    | zero => exact fun _ => (Nat.zero_mul D).symm
    | succ j ih =>
      intro hj
      show wPr s u p i j + (if mvd s.2.2.2.1 i j 8 = s.2.2.2.2.1 then u (mBall p i j) else 0) = (wPr s f p i j + (if mvd s.2.2.2.1 i j 8 = s.2.2.2.2.1 then f (mBall p i j) else 0)) * D
      rw [ih (by omega), Nat.add_mul]
      split
      · rw [hu _ (mB_le hp hi (by omega))]
      · rw [Nat.zero_mul]
  intro i
  induction i with
  | zero => exact fun _ => (Nat.zero_mul D).symm
  | succ i ih =>
    intro hi
    show wPs s u p i + wPr s u p i i = (wPs s f p i + wPr s f p i i) * D
    rw [ih (by omega), h1 i (by omega) i (Nat.le_refl _), Nat.add_mul]
theorem wHd_lin (hu : ∀ q, q ≤ n → u q = f q * D) (hp : p ≤ n) : ∀ i, i ≤ n → wHd n y u p i = wHd n y f p i * D := by
  intro i
  induction i with
  | zero => exact fun _ => (Nat.zero_mul D).symm
  | succ i ih =>
    intro hi
    show wHd n y u p i + (if p = n then y * (u n + u i) else y * (if i = p then u p + u n else 2 * u p)) = (wHd n y f p i + (if p = n then y * (f n + f i) else y * (if i = p then f p + f n else 2 * f p))) * D
    rw [ih (by omega), hu n (Nat.le_refl _), hu i (by omega), hu p hp, Nat.add_mul]
    repeat' split
    · rw [Nat.mul_assoc, Nat.add_mul]
    · rw [Nat.mul_assoc, Nat.add_mul]
    · rw [Nat.mul_assoc, Nat.mul_assoc]
theorem wBl_lin (hu : ∀ q, q ≤ n → u q = f q * D) (hp : p ≤ n) : wBl n c y s u p = wBl n c y s f p * D := by
  unfold wBl
  rw [wPs_lin hu hp n (Nat.le_refl _), wHd_lin hu hp n (Nat.le_refl _), hu p hp]
  split
  · rw [Nat.add_mul, Nat.add_mul, Nat.mul_assoc]
  · rfl
end LIN
/-- a sight of the class's step -/
def sgt (k a b B bl : Nat) : Sg := (k, a, b, B, (if k = 0 then mvd B a b 8 else B), bl)
def wSt (n t c y : Nat) (s : Sg) (f : Nat → Nat) (p : Nat) : Nat := if s.2.2.2.2.2 = 0 then wOp t s f p else wBl n c y s f p
theorem ex_B {f : Nat → Nat} {a b p : Nat} : updN (updN f a (f b)) b (f a) p = f (mBall p a b) := by
  unfold updN mBall
  by_cases h1 : p = b
  · rw [if_pos h1]
    by_cases h2 : p = a
    · rw [if_pos h2, ← h1, h2]
    · rw [if_neg h2, if_pos h1]
  · rw [if_neg h1, if_neg h1]
    by_cases h2 : p = a
    · rw [if_pos h2, if_pos h2]
    · rw [if_neg h2, if_neg h2]
section STEP
variable {g : Nat → Nat} {n k a b a' b' B p : Nat} {bl : Bool}
theorem st_raw (hn : 2 ≤ n ∧ n ≤ 4) (g0 : g 0 = n) (hr : ∀ q, q < n → rg g q = bbit B q) (hB : B < 2 ^ n) (ha : a < n) (hb : b < n) (hab : a ≠ b) (hk : k ≤ 4) (h34 : 3 ≤ k → bl = true) (hk2 : k < 2 → a' = a ∧ b' = b) (hp : p ≤ n) :
    wSt n (g 4) (g 5) (g 6) (sgt k a b B bl.toNat) (gF g) p = gRaw bl k a' b' g p := by
  have hB16 : B < 16 := by
    have : 2 ^ n ≤ 2 ^ 4 := Nat.pow_le_pow_right (by omega) hn.2
    omega
  have hra := hr a ha
  have hrb := hr b hb
  unfold wSt
  cases bl with
  | false =>
    have hk3 : k < 3 := by
      by_cases c : k < 3
      · exact c
      · have := h34 (by omega)
        cases this
    rw [if_pos (show (sgt k a b B false.toNat).2.2.2.2.2 = 0 from rfl)]
    unfold wOp sgt
    dsimp only
    by_cases k2 : k = 2
    · rw [if_pos k2, gRaw_no (by omega) (by omega)]
    · obtain ⟨rfl, rfl⟩ := hk2 (by omega)
      rw [if_neg k2]
      by_cases e : bbit B a' = bbit B b'
      · have e' : rg g a' = rg g b' := by rw [hra, hrb]; exact e
        rw [if_pos e, gRaw_mix (by omega) e']
        unfold mMix updN mBall
        by_cases h1 : p = b'
        · rw [if_pos (Or.inr h1), if_pos h1, if_neg (by omega), if_pos h1, h1, Nat.mul_comm, Nat.mul_comm (g 4)]
        · rw [if_neg h1]
          by_cases h2 : p = a'
          · rw [if_pos (Or.inl h2), if_pos h2, if_pos h2, h2, Nat.mul_comm, Nat.mul_comm (g 4), if_neg hab]
          · rw [if_neg (by omega), if_neg h2, Nat.mul_comm, if_neg h1]
      · have e' : rg g a' ≠ rg g b' := by rw [hra, hrb]; exact e
        rw [if_neg e]
        by_cases k0 : k = 0
        · rw [if_pos k0, k0, gRaw_ex e', ex_B]
        · rw [if_neg k0, gRaw_no (by omega) (by omega)]
  | true =>
    rw [if_neg (show ¬ (sgt k a b B true.toNat).2.2.2.2.2 = 0 by show ¬ (1 = 0); omega)]
    unfold wBl
    by_cases c : k = 0 ∧ bbit B a ≠ bbit B b
    · obtain ⟨rfl, rfl⟩ := hk2 (by omega)
      have e' : rg g a' ≠ rg g b' := by rw [hra, hrb]; exact c.2
      have haf : (sgt k a' b' B true.toNat).2.2.2.2.1 = mvd B a' b' 8 := if_pos c.1
      have hne : B ≠ mvd B a' b' 8 := by
        have h1 := mv_ne B hB16 a' (by omega) b' (by omega) c.2
        by_cases q : b' < a'
        · exact (h1 a' (by omega) b' (by omega) q).2
        · exact (h1 b' (by omega) a' (by omega) (by omega)).2
      rw [if_neg (show ¬ (sgt k a' b' B true.toNat).2.2.2.1 = (sgt k a' b' B true.toNat).2.2.2.2.1 by rw [haf]; exact hne), wPs_x hn.2 (show (sgt k a' b' B true.toNat).2.2.2.1 < 16 from hB16) ha hb c.2 haf, c.1, gRaw_ex e', ex_B]
    · have haf : (sgt k a b B true.toNat).2.2.2.1 = (sgt k a b B true.toNat).2.2.2.2.1 := by
        show B = if k = 0 then mvd B a b 8 else B
        by_cases k0 : k = 0
        · rw [if_pos k0]
          have hq : bbit B a = bbit B b := by
            by_cases q : bbit B a = bbit B b
            · exact q
            · exact absurd ⟨k0, q⟩ c
          exact ((mv_eq B hB16 a (by omega) b (by omega)).1.2 hq).symm
        · rw [if_neg k0]
      have hc' : ¬ (k = 0 ∧ rg g a' ≠ rg g b') := by
        rintro ⟨q1, q2⟩
        obtain ⟨rfl, rfl⟩ := hk2 (by omega)
        exact c ⟨q1, by rw [← hra, ← hrb]; exact q2⟩
      rw [if_pos haf, wPs_r hn.2 (show (sgt k a b B true.toNat).2.2.2.1 < 16 from hB16) hr haf n (Nat.le_refl _), gRaw_bl hc', g0]
      exact bl_n hn (fun q hq => by rw [hr q hq]; exact bbit_le _ _) hp
end STEP
/-! how much the sum grows -/
theorem mSum_mo {f h : Nat → Nat} : ∀ i, (∀ p, p < i → f p ≤ h p) → mSum f i ≤ mSum h i := by
  intro i
  induction i with
  | zero => exact fun _ => Nat.le_refl _
  | succ i ih =>
    intro hh
    show mSum f i + f i ≤ mSum h i + h i
    exact Nat.add_le_add (ih (fun p hp => hh p (by omega))) (hh i (by omega))
theorem mMax_sum {f : Nat → Nat} : ∀ i, mMax f i ≤ mSum f i := by
  intro i
  induction i with
  | zero => exact Nat.le_refl _
  | succ i ih =>
    show (if mMax f i < f i then f i else mMax f i) ≤ mSum f i + f i
    split <;> omega
theorem won_sum {r f : Nat → Nat} {n c y : Nat} (hn : 2 ≤ n ∧ n ≤ 4) (hr : ∀ q, q < n → r q ≤ 1) (hc : c ≤ 9) (hy : y ≤ 9) : mSum (gWon n r f c y) (n + 1) ≤ 100 * mSum f (n + 1) := by
  have hcf : ∀ i, f i * c ≤ f i * 9 := fun i => Nat.mul_le_mul_left _ hc
  have hyf : ∀ i, f i * y ≤ f i * 9 := fun i => Nat.mul_le_mul_left _ hy
  have c0 := hcf 0
  have c1 := hcf 1
  have c2 := hcf 2
  have c3 := hcf 3
  have c4 := hcf 4
  have y0 := hyf 0
  have y1 := hyf 1
  have y2 := hyf 2
  have y3 := hyf 3
  have y4 := hyf 4
  have h3 : ∀ i k, f i * (y * k) = f i * y * k := fun i k => (Nat.mul_assoc _ _ _).symm
  have g0 : r 0 = 0 ∨ r 0 = 1 := by have := hr 0 (by omega); omega
  have g1 : r 1 = 0 ∨ r 1 = 1 := by have := hr 1 (by omega); omega
  rcases (show n = 2 ∨ n = 3 ∨ n = 4 by omega) with rfl | rfl | rfl
  · rcases g0 with g0 | g0 <;> rcases g1 with g1 | g1 <;>
      (simp [gWon, wSw, wC, wS, wK, wL, mSum, tri, g0, g1, h3, Nat.mul_add, Nat.add_mul]; try omega)
  · have g2 : r 2 = 0 ∨ r 2 = 1 := by have := hr 2 (by omega); omega
    rcases g0 with g0 | g0 <;> rcases g1 with g1 | g1 <;> rcases g2 with g2 | g2 <;>
      (simp [gWon, wSw, wC, wS, wK, wL, mSum, tri, g0, g1, g2, h3, Nat.mul_add, Nat.add_mul]; try omega)
  · have g2 : r 2 = 0 ∨ r 2 = 1 := by have := hr 2 (by omega); omega
    have g3 : r 3 = 0 ∨ r 3 = 1 := by have := hr 3 (by omega); omega
    rcases g0 with g0 | g0 <;> rcases g1 with g1 | g1 <;> rcases g2 with g2 | g2 <;> rcases g3 with g3 | g3 <;>
      (simp [gWon, wSw, wC, wS, wK, wL, mSum, tri, g0, g1, g2, g3, h3, Nat.mul_add, Nat.add_mul]; try omega)
theorem mix_sum {f : Nat → Nat} {n a b t : Nat} (hn : n ≤ 4) (ht : t ≤ 100) (ha : a < n) (hb : b < n) (hab : a ≠ b) : mSum (mMix a b t f) (n + 1) ≤ 100 * mSum f (n + 1) ∧ mSum (updN (updN f a (f b)) b (f a)) (n + 1) ≤ 100 * mSum f (n + 1) := by
  have hx : ∀ i, f i * (100 - t) + f i * t = f i * 100 := fun i => by rw [← Nat.mul_add, Nat.sub_add_cancel ht]
  have x0 := hx 0
  have x1 := hx 1
  have x2 := hx 2
  have x3 := hx 3
  rcases (show n = 0 ∨ n = 1 ∨ n = 2 ∨ n = 3 ∨ n = 4 by omega) with rfl | rfl | rfl | rfl | rfl
  · omega
  · omega
  · rcases (show (a = 0 ∧ b = 1) ∨ (a = 1 ∧ b = 0) by omega) with ⟨rfl, rfl⟩ | ⟨rfl, rfl⟩ <;> (simp [mMix, mSum, updN, Nat.mul_add]; omega)
  · rcases (show (a = 0 ∧ b = 1) ∨ (a = 1 ∧ b = 0) ∨ (a = 0 ∧ b = 2) ∨ (a = 2 ∧ b = 0) ∨ (a = 1 ∧ b = 2) ∨ (a = 2 ∧ b = 1) by omega) with ⟨rfl, rfl⟩ | ⟨rfl, rfl⟩ | ⟨rfl, rfl⟩ | ⟨rfl, rfl⟩ | ⟨rfl, rfl⟩ | ⟨rfl, rfl⟩ <;> (simp [mMix, mSum, updN, Nat.mul_add]; omega)
  · rcases (show a = 0 ∨ a = 1 ∨ a = 2 ∨ a = 3 by omega) with rfl | rfl | rfl | rfl <;> rcases (show b = 0 ∨ b = 1 ∨ b = 2 ∨ b = 3 by omega) with rfl | rfl | rfl | rfl <;> (first | omega | (simp [mMix, mSum, updN, Nat.mul_add]; omega))
theorem raw_sum {g : Nat → Nat} {n k a b : Nat} {bl : Bool} (I : iG g) (hn : 2 ≤ n ∧ n ≤ 4) (g0 : g 0 = n) (hab : k < 2 → a < n ∧ b < n ∧ a ≠ b) : mSum (gRaw bl k a b g) (n + 1) ≤ 100 * mSum (gF g) (n + 1) := by
  obtain ⟨i1, i2, i3, i4, i5, i6, i7, i8, -⟩ := I.1
  unfold gRaw
  by_cases c : k = 0 ∧ rg g a ≠ rg g b
  · rw [if_pos c]
    obtain ⟨h1, h2, h3⟩ := hab (by omega)
    exact (mix_sum (t := 0) hn.2 (by omega) h1 h2 h3).2
  · rw [if_neg c]
    by_cases e : bl = true
    · rw [if_pos e, g0]
      exact won_sum hn (fun q hq => iG_rg I q (by omega)) i7 i8
    · rw [if_neg e]
      by_cases c2 : k < 2 ∧ rg g a = rg g b
      · rw [if_pos c2]
        obtain ⟨h1, h2, h3⟩ := hab c2.1
        exact (mix_sum hn.2 (by omega) h1 h2 h3).1
      · rw [if_neg c2]
        omega
