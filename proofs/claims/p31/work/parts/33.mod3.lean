/-! THE REFERENCE: a blink; the reduction of beliefs; a step. -/
theorem iS_const (c : Int) : ∀ m, iS (fun _ => c) m = (m : Int) * c := by
  intro m
  induction m with
  | zero => exact (Int.zero_mul c).symm
  | succ m ih =>
    unfold iS
    rw [ih]
    push_cast
    rw [Int.add_mul, Int.one_mul]
theorem iS_nat (f : Nat → Nat) : ∀ m, iS (fun q => (f q : Int)) m = (mSum f m : Int) := by
  intro m
  induction m with
  | zero => rfl
  | succ m ih =>
    unfold iS mSum
    rw [ih]
    push_cast
    rfl
theorem iS_tail (G : Nat → Int) (i : Nat) : ∀ m, i + 1 ≤ m → iS G m - iS G (i + 1) = iS (fun q => if i < q then G q else 0) m := by
  intro m
  induction m with
  | zero => exact fun h => absurd h (Nat.not_succ_le_zero _)
  | succ m ih =>
    intro h
    by_cases e : m = i
    · subst e
      rw [Int.sub_self, iS_congr (G := fun _ => 0) (m + 1) (fun q hq => if_neg (by omega)), iS_zero]
    · have ih := ih (by omega)
      rw [show iS G (m + 1) = iS G m + G m from rfl, show iS (fun q => if i < q then G q else 0) (m + 1) = iS (fun q => if i < q then G q else 0) m + (if i < m then G m else 0) from rfl, ← ih, if_pos (by omega)]
      omega
set_option maxRecDepth 100000 in
theorem bb_x2 : ∀ v, v < 256 → ∀ i, i < 8 → ∀ j, j < 8 → i ≠ j → v ^^^ 2 ^ i ^^^ 2 ^ j ≠ v := by decide +kernel
def bbq (i j a b : Nat) : Bool := !(Nat.blt i j) || (Nat.beq a b || (!(Nat.beq (2 ^ i ^^^ 2 ^ j) (2 ^ a ^^^ 2 ^ b)) || (Nat.beq i (min a b) && Nat.beq j (max a b))))
set_option maxRecDepth 100000 in
theorem bb_q : ∀ m, m < 4096 → bbq (m / 512) (m / 64 % 8) (m / 8 % 8) (m % 8) = true := by decide +kernel
theorem bb_x4 {i j a b : Nat} (hi : i < 8) (hj : j < 8) (ha : a < 8) (hb : b < 8) (hij : i < j) (hab : a ≠ b) (h : 2 ^ i ^^^ 2 ^ j = 2 ^ a ^^^ 2 ^ b) : i = min a b ∧ j = max a b := by
  have hq := bb_q (((i * 8 + j) * 8 + a) * 8 + b) (by omega)
  rw [show (((i * 8 + j) * 8 + a) * 8 + b) / 512 = i by omega, show (((i * 8 + j) * 8 + a) * 8 + b) / 64 % 8 = j by omega, show (((i * 8 + j) * 8 + a) * 8 + b) / 8 % 8 = a by omega, show (((i * 8 + j) * 8 + a) * 8 + b) % 8 = b by omega] at hq
  unfold bbq at hq
  rw [h] at hq
  simp only [Bool.or_eq_true, Bool.and_eq_true, Bool.not_eq_true', Nat.beq_refl, Bool.true_eq_false, false_or] at hq
  rcases hq with hq | hq | hq
  · rw [Nat.blt_eq.mpr hij] at hq
    cases hq
  · exact absurd (Nat.eq_of_beq_eq_true hq) hab
  · exact ⟨Nat.eq_of_beq_eq_true hq.1, Nat.eq_of_beq_eq_true hq.2⟩
theorem xc_self {v i j : Nat} (hv : v < 256) (hi : i < 8) (hj : j < 8) (hij : i ≠ j) : xc v i j = v ↔ bbit v i = bbit v j := by
  unfold xc
  by_cases h : bbit v i = bbit v j
  · rw [if_pos h]
    exact ⟨fun _ => h, fun _ => rfl⟩
  · rw [if_neg h]
    exact ⟨fun e => absurd e (bb_x2 v hv i hi j hj hij), fun e => absurd e h⟩
theorem xor_can {v a b : Nat} (h : v ^^^ a = v ^^^ b) : a = b := by
  have h2 : v ^^^ (v ^^^ a) = v ^^^ (v ^^^ b) := by rw [h]
  rw [← Nat.xor_assoc, ← Nat.xor_assoc, Nat.xor_self, Nat.zero_xor, Nat.zero_xor] at h2
  exact h2
theorem xc_swap {v i j a b : Nat} (hv : v < 256) (hi : i < 8) (hj : j < 8) (ha : a < 8) (hb : b < 8) (hij : i < j) (hab : a ≠ b) (hk : bbit v a ≠ bbit v b) : xc v i j = xc v a b ↔ i = min a b ∧ j = max a b := by
  have hu : xc v a b = v ^^^ 2 ^ a ^^^ 2 ^ b := if_neg hk
  constructor
  · intro h
    by_cases e : bbit v i = bbit v j
    · rw [show xc v i j = v from if_pos e] at h
      exact absurd (hu.symm.trans h.symm) (bb_x2 v hv a ha b hb hab)
    · rw [show xc v i j = v ^^^ 2 ^ i ^^^ 2 ^ j from if_neg e, hu, Nat.xor_assoc, Nat.xor_assoc] at h
      exact bb_x4 hi hj ha hb hij hab (xor_can h)
  · rintro ⟨h1, h2⟩
    rcases Nat.lt_or_gt_of_ne hab with c | c
    · rw [show i = a by omega, show j = b by omega]
    · rw [show i = b by omega, show j = a by omega, hu, show xc v b a = v ^^^ 2 ^ b ^^^ 2 ^ a from if_neg (fun z => hk z.symm), Nat.xor_assoc, Nat.xor_assoc, Nat.xor_comm (2 ^ b)]
theorem pH_like {g : Nat → Nat} (h8 : g 0 ≤ 8) (hr : ∀ p, p < 8 → rg g p ≤ 1) {p i : Nat} (hi : i < g 0) : pH g (gSet g (g 0)) (gSet g (g 0)) p i = iS (fun j => pD (rg g) (gF g) i j p) (g 0) := by
  unfold pH
  rw [iS_tail _ i (g 0) (by omega)]
  refine iS_congr _ (fun q hq => ?_)
  unfold pD pE
  by_cases c : i < q
  · have h1 := xc_self (i := i) (j := q) (gSet_lt g _ h8) (by omega) (by omega) (by omega)
    rw [gSet_bit g hr _ h8 i (by omega), gSet_bit g hr _ h8 q (by omega), if_pos hi, if_pos hq] at h1
    by_cases e : rg g i = rg g q
    · rw [if_pos c, if_pos (h1.2 e), if_pos (show i < q ∧ rg g i = rg g q from ⟨c, e⟩)]
    · rw [if_pos c, if_neg (fun z => e (h1.1 z)), if_neg (fun z => e z.2)]
  · rw [if_neg c, if_neg (fun z => c z.1)]
theorem pH_swap {g : Nat → Nat} (h8 : g 0 ≤ 8) (hr : ∀ p, p < 8 → rg g p ≤ 1) {a b p i : Nat} (ha : a < g 0) (hb : b < g 0) (hab : a ≠ b) (hk : rg g a ≠ rg g b) (hi : i < g 0) :
    pH g (gSet g (g 0)) (xc (gSet g (g 0)) a b) p i = if min a b = i then pE (gF g) (min a b) (max a b) p else 0 := by
  unfold pH
  rw [iS_tail _ i (g 0) (by omega)]
  have hm : max a b < g 0 := by omega
  have h2 : iS (fun q => if i < q then (if xc (gSet g (g 0)) i q = xc (gSet g (g 0)) a b then pE (gF g) i q p else 0) else 0) (g 0) = iS (fun q => if max a b = q then (if min a b = i then pE (gF g) (min a b) (max a b) p else 0) else 0) (g 0) := by
    refine iS_congr _ (fun q hq => ?_)
    by_cases c : i < q
    · have h1 := xc_swap (i := i) (j := q) (a := a) (b := b) (gSet_lt g _ h8) (by omega) (by omega) (by omega) (by omega) c hab (by
        rw [gSet_bit g hr _ h8 a (by omega), gSet_bit g hr _ h8 b (by omega), if_pos ha, if_pos hb]
        exact hk)
      by_cases e : i = min a b ∧ q = max a b
      · rw [if_pos c, if_pos (h1.2 e), if_pos e.2.symm, if_pos e.1.symm, e.1, e.2]
      · rw [if_pos c, if_neg (fun z => e (h1.1 z))]
        by_cases e2 : max a b = q
        · rw [if_pos e2, if_neg (fun z => e ⟨z.symm, e2.symm⟩)]
        · rw [if_neg e2]
    · rw [if_neg c]
      by_cases e2 : max a b = q
      · rw [if_pos e2, if_neg (by omega)]
      · rw [if_neg e2]
  rw [h2, iS_one, if_pos hm]
theorem pK_sum (f : Nat → Nat) (n s p : Nat) : iS (pK f n s p) n = (n : Int) * (2 * (s : Int) * f p) + (if p = n then (s : Int) * ((mSum f n : Int) - (n : Int) * f n) else 0) + (if p < n then (s : Int) * ((f n : Int) - f p) else 0) := by
  unfold pK
  rw [iS_add, iS_add, iS_const, iS_one]
  congr 2
  by_cases e : p = n
  · simp only [if_pos e]
    rw [show (fun q => (s : Int) * ((f q : Int) - f n)) = fun q => ((f q : Int) + (-(f n : Int))) * (s : Int) from funext fun q => by rw [Int.mul_comm]; rfl, iS_mul, iS_add, iS_nat, iS_const, Int.mul_comm]
    congr 1
    rw [Int.mul_neg]
    rfl
  · simp only [if_neg e]
    exact iS_zero n
section M3
variable {E : xEn} {z : Nat → Option va_E} {x n w : Nat} {S : xSt} {g : Nat → Nat} {T : Nat → Int64}
end M3
/-! LONGS -/
theorem nI_z : nI 0 = 0 := rfl
theorem lcE_t {α : Sort _} {a b : Nat} {A B : α} (h : a = b) : (if lg_cmp (lN a) (lN b) = nI 0 then A else B) = A := if_pos ((lg_cmp_eq _ _).2 (by rw [h]))
theorem lcE_f {α : Sort _} {a b : Nat} {A B : α} (h : a ≠ b) (ha : a < 2 ^ 63) (hb : b < 2 ^ 63) : (if lg_cmp (lN a) (lN b) = nI 0 then A else B) = B := if_neg (fun z => h ((pk_lEQ ha hb).1 ((lg_cmp_eq _ _).1 z)))
theorem lcL_t {α : Sort _} {a b : Nat} {A B : α} (h : a ≤ b) (hb : b < 2 ^ 63) : (if lg_cmp (lN a) (lN b) ≤ nI 0 then A else B) = A := if_pos ((lg_cmp_le _ _).2 ((pk_lLE (Nat.lt_of_le_of_lt h hb) hb).2 h))
theorem lcL_f {α : Sort _} {a b : Nat} {A B : α} (h : b < a) (ha : a < 2 ^ 63) : (if lg_cmp (lN a) (lN b) ≤ nI 0 then A else B) = B := if_neg (fun z => Nat.not_le.2 h ((pk_lLE ha (Nat.lt_trans h ha)).1 ((lg_cmp_le _ _).1 z)))
theorem lcG_t {α : Sort _} {a b : Nat} {A B : α} (h : b ≤ a) (ha : a < 2 ^ 63) : (if nI 0 ≤ lg_cmp (lN a) (lN b) then A else B) = A := if_pos ((lg_cmp_ge _ _).2 ((pk_lLE (Nat.lt_of_le_of_lt h ha) ha).2 h))
theorem lcG_f {α : Sort _} {a b : Nat} {A B : α} (h : a < b) (hb : b < 2 ^ 63) : (if nI 0 ≤ lg_cmp (lN a) (lN b) then A else B) = B := if_neg (fun z => Nat.not_le.2 h ((pk_lLE hb (Nat.lt_trans h hb)).1 ((lg_cmp_ge _ _).1 z)))
theorem lz_2 {ρ : Type} {k : Option ρ} : nz (decide (¬ (lN 2) = 0)) k = k := rfl
theorem lz_N {ρ : Type} {b : Nat} {k : Option ρ} (h0 : b ≠ 0) (hb : b < 2 ^ 63) : nz (decide (¬ (lN b) = 0)) k = k := by
  unfold nz
  rw [show decide (¬ (lN b) = 0) = true from decide_eq_true (fun z => h0 ((pk_lEQ hb (by omega)).1 z))]
  rfl
theorem mxL_n {a b : Nat} (ha : a < 2 ^ 63) (hb : b < 2 ^ 63) : mxL (lN a) (lN b) = lN (if a < b then b else a) := by
  unfold mxL
  by_cases h : b < a
  · rw [if_pos ((pk_lLT hb ha).2 h), if_neg (by omega)]
  · rw [if_neg (fun z => h ((pk_lLT hb ha).1 z))]
    by_cases h2 : a < b
    · rw [if_pos h2]
    · rw [if_neg h2, show a = b by omega]
theorem mMax_half (f : Nat → Nat) : ∀ i, mMax (mHalf f) i = if i = 0 then 0 else (mMax f i + 1) / 2 := by
  intro i
  induction i with
  | zero => rfl
  | succ i ih =>
    rw [if_neg (Nat.succ_ne_zero i)]
    unfold mMax
    rw [ih]
    by_cases h0 : i = 0
    · subst h0
      rw [if_pos rfl]
      unfold mHalf mMax
      split <;> split <;> omega
    · rw [if_neg h0]
      unfold mHalf
      split <;> split <;> omega
