/-! MIND: the common divisor, halving, settling, mixing, wondering. -/
theorem nz_2 {ρ : Type} {k : Option ρ} : nz (decide (¬ (nI 2) = 0)) k = k := rfl
theorem nz_nI {ρ : Type} {b : Nat} {k : Option ρ} (h0 : b ≠ 0) (hb : b < 2 ^ 31) : nz (decide (¬ (nI b) = 0)) k = k := by
  unfold nz
  rw [decide_eq_true (nI_ne0 (Nat.pos_of_ne_zero h0) hb)]
  rfl
def mEu : Nat → Nat → Nat → Nat
  | 0, a, _ => a
  | t + 1, a, b => if b = 0 then a else mEu t b (a % b)
theorem mEu_gcd : ∀ k t a b, b < 2 ^ k → 2 * k ≤ t → mEu t a b = Nat.gcd a b := by
  intro k
  induction k with
  | zero =>
    intro t a b hb _
    have hb : b = 0 := by omega
    subst hb
    rw [Nat.gcd_zero_right]
    cases t <;> rfl
  | succ k ih =>
    intro t a b hb ht
    match t, ht with
    | t + 2, ht =>
      unfold mEu
      split
      · next h => rw [h, Nat.gcd_zero_right]
      · next h =>
        have hg : Nat.gcd (a % b) b = Nat.gcd a b := by rw [← Nat.gcd_rec, Nat.gcd_comm]
        unfold mEu
        split
        · next h2 => rw [← hg, h2, Nat.gcd_zero_left]
        · next h2 =>
          have h3 : a % b < b := Nat.mod_lt _ (Nat.pos_of_ne_zero h)
          have h4 : b % (a % b) < a % b := Nat.mod_lt _ (Nat.pos_of_ne_zero h2)
          have h5 := Nat.mod_add_div b (a % b)
          have h6 : 0 < b / (a % b) := Nat.div_pos (Nat.le_of_lt h3) (Nat.pos_of_ne_zero h2)
          have h7 : a % b ≤ (a % b) * (b / (a % b)) := Nat.le_mul_of_pos_right _ h6
          have h8 : 2 ^ (k + 1) = 2 * 2 ^ k := by rw [Nat.pow_succ, Nat.mul_comm]
          rw [ih t (a % b) (b % (a % b)) (by omega) (by omega), Nat.gcd_comm, ← Nat.gcd_rec, Nat.gcd_comm, ← hg, Nat.gcd_comm]
theorem l4_commonDivisor {E : xEn} {σ : xH} (d : Nat) : ∀ t i a b, i + t = 64 → a < 2 ^ 31 → b < 2 ^ 31 → qX4_commonDivisor_7 E d (nI a) (nI b) (nI i) σ = some (.inl (some (.int (nI (mEu t a b)))), σ) := by
  intro t
  induction t with
  | zero =>
    intro i a b hi ha hb
    rw [QX4_commonDivisor_7]
    simp (disch := omega) only [iLE_t, QX4_commonDivisor_34, cI_s, cL_s, cF_s, cD_s, cA_s, cV_s, nI_add, cond_true, cond_false]
    rfl
  | succ t ih =>
    intro i a b hi ha hb
    rw [QX4_commonDivisor_7]
    by_cases h : b = 0
    · subst h
      simp (disch := omega) only [iLE_f, iEQ_t, QX4_commonDivisor_34, cI_s, cL_s, cF_s, cD_s, cA_s, cV_s, nI_add, cond_true, cond_false]
      rfl
    · simp (disch := omega) only [iLE_f, iEQ_f, nz_nI, cI_s, cL_s, cF_s, cD_s, cA_s, cV_s, nI_add, cond_true, cond_false]
      rw [pk_rem ha (Nat.pos_of_ne_zero h) hb, ih (i + 1) b (a % b) (by omega) hb (Nat.lt_trans (Nat.mod_lt _ (Nat.pos_of_ne_zero h)) hb)]
      rw [show mEu (t + 1) a b = if b = 0 then a else mEu t b (a % b) from rfl, if_neg h]
theorem s4_commonDivisor {E : xEn} {σ : xH} (d : Nat) {a b : Nat} (ha : a < 2 ^ 31) (hb : b < 2 ^ 31) : xsem xT E (d + 1) kX4_commonDivisor [.int (nI a), .int (nI b)] σ = some (.inl (some (.int (nI (Nat.gcd a b)))), σ) := by
  rw [eX4_commonDivisor, QX4_commonDivisor_0, l4_commonDivisor d 64 0 a b (by omega) ha hb, mEu_gcd 31 64 a b hb (by omega)]
def mGcd (f : Nat → Nat) : Nat → Nat
  | 0 => 0
  | i + 1 => Nat.gcd (f i) (mGcd f i)
theorem mGcd_dvd {f : Nat → Nat} : ∀ {i p : Nat}, p < i → mGcd f i ∣ f p := by
  intro i
  induction i with
  | zero => exact fun h => absurd h (Nat.not_lt_zero _)
  | succ i ih =>
    intro p h
    rcases Nat.lt_succ_iff_lt_or_eq.1 h with h | h
    · exact Nat.dvd_trans (Nat.gcd_dvd_right _ _) (ih h)
    · subst h
      exact Nat.gcd_dvd_left _ _
theorem mGcd_lt {f : Nat → Nat} {B : Nat} (hB : 0 < B) : ∀ i, (∀ p, p < i → f p < B) → mGcd f i < B := by
  intro i
  induction i with
  | zero => exact fun _ => hB
  | succ i ih =>
    intro h
    unfold mGcd
    rcases Nat.eq_zero_or_pos (f i) with h0 | h0
    · rw [h0, Nat.gcd_zero_left]
      exact ih (fun p hp => h p (Nat.lt_succ_of_lt hp))
    · exact Nat.lt_of_le_of_lt (Nat.gcd_le_left _ h0) (h i (Nat.lt_succ_self i))
theorem mGcd_zero {f : Nat → Nat} {i : Nat} (h : mGcd f i = 0) {p : Nat} (hp : p < i) : f p = 0 := by
  have := mGcd_dvd (f := f) hp
  rw [h] at this
  exact Nat.eq_zero_of_zero_dvd this
def mDiv (pl : Nat) (f : Nat → Nat) : Nat → Nat := fun p => f p / mGcd f pl
def mHalf (f : Nat → Nat) : Nat → Nat := fun p => (f p + 1) / 2
def mHv (pl : Nat) : Nat → (Nat → Nat) → Nat → Nat
  | 0, f => f
  | t + 1, f => if mMax f pl ≤ 1000000 then f else mHv pl t (mHalf f)
def mSettle (pl : Nat) (f : Nat → Nat) : Nat → Nat := mHv pl 32 (mDiv pl f)
section MIND2
variable {E : xEn} {z : Nat → Option va_E} {x : Nat} {sh : Nat → Option xSh} {S : xSt} {n q pl : Nat} {f : Nat → Nat}
theorem l4_div1 (h : sh q = some (sh4 q)) (hb : sh (q + 1) = some (1, 9, [])) (hp : S.1 q 1 = nI pl) (hpl : pl ≤ 9) (hf : ∀ p, p < pl → S.2.1 (q + 1) p = nI (f p)) (hB : ∀ p, p < pl → f p < 2 ^ 31) (d : Nat) :
    ∀ k i, i + k = pl → qX4_divideByCommonDivisor_4 E (d + 1) (x + q) (nI (mGcd f i)) (nI i) (wW E z x sh S, n) = qX4_divideByCommonDivisor_29 E (d + 1) (x + q) (nI (mGcd f pl)) (wW E z x sh S, n) := by
  intro k
  induction k with
  | zero =>
    intro i hi
    have hi : i = pl := hi
    subst hi
    rw [QX4_divideByCommonDivisor_4]
    simp (disch := omega) only [gO_4 h, gR_4_0 h, gI_4_1 h, gP_4_1 h, gI_4_2 h, gP_4_2 h, gI_4_3 h, gP_4_3 h, gI_4_4 h, gP_4_4 h, hp, iLE_t, cI_s, cL_s, cF_s, cD_s, cA_s, cV_s, nI_add, cond_true, cond_false]
  | succ k ih =>
    intro i hi
    rw [QX4_divideByCommonDivisor_4]
    simp (disch := omega) only [gO_4 h, gR_4_0 h, gI_4_1 h, gP_4_1 h, gI_4_2 h, gP_4_2 h, gI_4_3 h, gP_4_3 h, gI_4_4 h, gP_4_4 h, hp, iLE_f, aI_w hb, hf i (by omega), cI_s, cL_s, cF_s, cD_s, cA_s, cV_s, nI_add, cond_true, cond_false]
    rw [s4_commonDivisor d (hB i (by omega)) (mGcd_lt (by omega) i (fun p hp => hB p (by omega)))]
    simp (disch := omega) only [cI_s, cL_s, cF_s, cD_s, cA_s, cV_s, nI_add, cond_true, cond_false]
    exact ih (i + 1) (by omega)
theorem l4_div2 (h : sh q = some (sh4 q)) (hb : sh (q + 1) = some (1, 9, [])) (hp : S.1 q 1 = nI pl) (hpl : pl ≤ 9) (hf : ∀ p, p < pl → S.2.1 (q + 1) p = nI (f p)) (hB : ∀ p, p < pl → f p < 2 ^ 31) {g : Nat} (hg : 1 < g) (hg2 : g < 2 ^ 31) (d : Nat) :
    ∀ k i, i + k = pl → qX4_divideByCommonDivisor_31 E d (x + q) (nI g) (nI i) (wW E z x sh (sA S (q + 1) (vw i (fun p => f p / g) (S.2.1 (q + 1)))), n) = some (.inl none, (wW E z x sh (sA S (q + 1) (vw pl (fun p => f p / g) (S.2.1 (q + 1)))), n)) := by
  intro k
  induction k with
  | zero =>
    intro i hi
    have hi : i = pl := hi
    subst hi
    rw [QX4_divideByCommonDivisor_31]
    simp (disch := omega) only [gO_4 h, gR_4_0 h, gI_4_1 h, gP_4_1 h, gI_4_2 h, gP_4_2 h, gI_4_3 h, gP_4_3 h, gI_4_4 h, gP_4_4 h, sA, hp, iLE_t, QX4_divideByCommonDivisor_60, cI_s, cL_s, cF_s, cD_s, cA_s, cV_s, nI_add, cond_true, cond_false]
  | succ k ih =>
    intro i hi
    rw [QX4_divideByCommonDivisor_31]
    simp (disch := omega) only [gO_4 h, gR_4_0 h, gI_4_1 h, gP_4_1 h, gI_4_2 h, gP_4_2 h, gI_4_3 h, gP_4_3 h, gI_4_4 h, gP_4_4 h, hp, show ∀ S q f, (sA S q f).1 = S.1 from fun _ _ _ => rfl, iLE_f, aI_w hb, sI_w hb, sA_s, sA_sA, vw_out (Nat.le_refl i), hf i (by omega), nz_nI, cI_s, cL_s, cF_s, cD_s, cA_s, cV_s, nI_add, cond_true, cond_false]
    rw [pk_div (hB i (by omega)) (by omega) hg2, show nI (f i / g) = nI ((fun p => f p / g) i) from rfl, vw_succ]
    exact ih (i + 1) (by omega)
theorem s4_divide (h : sh q = some (sh4 q)) (hb : sh (q + 1) = some (1, 9, [])) (hp : S.1 q 1 = nI pl) (hpl : pl ≤ 9) (hf : ∀ p, p < pl → S.2.1 (q + 1) p = nI (f p)) (hB : ∀ p, p < pl → f p < 2 ^ 31) (d : Nat) :
    xsem xT E (d + 2) kX4_divideByCommonDivisor [.ref (x + q)] (wW E z x sh S, n) = some (.inl none, (wW E z x sh (sA S (q + 1) (vw pl (mDiv pl f) (S.2.1 (q + 1)))), n)) := by
  rw [eX4_divideByCommonDivisor, QX4_divideByCommonDivisor_0]
  refine (l4_div1 h hb hp hpl hf hB d pl 0 (Nat.zero_add _)).trans ?_
  rw [QX4_divideByCommonDivisor_29]
  by_cases hg : 1 < mGcd f pl
  · refine Eq.trans ?_ (l4_div2 h hb hp hpl hf hB hg (mGcd_lt (by omega) pl hB) (d + 1) pl 0 (Nat.zero_add _))
    rw [vw_0, sA_self]
  · have he : vw pl (mDiv pl f) (S.2.1 (q + 1)) = S.2.1 (q + 1) := by
      refine vw_self (fun p hp => ?_)
      rw [hf p hp]
      unfold mDiv
      by_cases h0 : mGcd f pl = 0
      · rw [h0, mGcd_zero h0 hp]
      · rw [show mGcd f pl = 1 by omega, Nat.div_one]
    rw [he, sA_self, QX4_divideByCommonDivisor_31]
    have hg2 := mGcd_lt (B := 2 ^ 31) (by omega) pl hB
    by_cases h0 : pl ≤ 0
    · simp (disch := omega) only [gO_4 h, gR_4_0 h, gI_4_1 h, gP_4_1 h, gI_4_2 h, gP_4_2 h, gI_4_3 h, gP_4_3 h, gI_4_4 h, gP_4_4 h, hp, iLE_t, QX4_divideByCommonDivisor_60, cI_s, cL_s, cF_s, cD_s, cA_s, cV_s, nI_add, cond_true, cond_false]
    · simp (disch := omega) only [gO_4 h, gR_4_0 h, gI_4_1 h, gP_4_1 h, gI_4_2 h, gP_4_2 h, gI_4_3 h, gP_4_3 h, gI_4_4 h, gP_4_4 h, hp, iLE_f, iLE_t, QX4_divideByCommonDivisor_60, cI_s, cL_s, cF_s, cD_s, cA_s, cV_s, nI_add, cond_true, cond_false]
theorem l4_halve (h : sh q = some (sh4 q)) (hb : sh (q + 1) = some (1, 9, [])) (hp : S.1 q 1 = nI pl) (hpl : pl ≤ 9) (hf : ∀ p, p < pl → S.2.1 (q + 1) p = nI (f p)) (hB : ∀ p, p < pl → f p < 2 ^ 31 - 1) (d : Nat) :
    ∀ k i, i + k = pl → qX4_halve_2 E d (x + q) (nI i) (wW E z x sh (sA S (q + 1) (vw i (mHalf f) (S.2.1 (q + 1)))), n) = some (.inl none, (wW E z x sh (sA S (q + 1) (vw pl (mHalf f) (S.2.1 (q + 1)))), n)) := by
  intro k
  induction k with
  | zero =>
    intro i hi
    have hi : i = pl := hi
    subst hi
    rw [QX4_halve_2]
    simp (disch := omega) only [gO_4 h, gR_4_0 h, gI_4_1 h, gP_4_1 h, gI_4_2 h, gP_4_2 h, gI_4_3 h, gP_4_3 h, gI_4_4 h, gP_4_4 h, sA, hp, iLE_t, QX4_halve_32, cI_s, cL_s, cF_s, cD_s, cA_s, cV_s, nI_add, cond_true, cond_false]
  | succ k ih =>
    intro i hi
    rw [QX4_halve_2]
    simp (disch := omega) only [gO_4 h, gR_4_0 h, gI_4_1 h, gP_4_1 h, gI_4_2 h, gP_4_2 h, gI_4_3 h, gP_4_3 h, gI_4_4 h, gP_4_4 h, hp, show ∀ S q f, (sA S q f).1 = S.1 from fun _ _ _ => rfl, iLE_f, aI_w hb, sI_w hb, sA_s, sA_sA, vw_out (Nat.le_refl i), hf i (by omega), nz_2, cI_s, cL_s, cF_s, cD_s, cA_s, cV_s, nI_add, cond_true, cond_false]
    have hi2 := hB i (by omega)
    rw [pk_div (by omega) (by omega) (by omega), show nI ((f i + 1) / 2) = nI (mHalf f i) from rfl, vw_succ]
    exact ih (i + 1) (by omega)
theorem s4_halve (h : sh q = some (sh4 q)) (hb : sh (q + 1) = some (1, 9, [])) (hp : S.1 q 1 = nI pl) (hpl : pl ≤ 9) (hf : ∀ p, p < pl → S.2.1 (q + 1) p = nI (f p)) (hB : ∀ p, p < pl → f p < 2 ^ 31 - 1) (d : Nat) :
    xsem xT E (d + 1) kX4_halve [.ref (x + q)] (wW E z x sh S, n) = some (.inl none, (wW E z x sh (sA S (q + 1) (vw pl (mHalf f) (S.2.1 (q + 1)))), n)) := by
  rw [eX4_halve, QX4_halve_0]
  refine Eq.trans ?_ (l4_halve h hb hp hpl hf hB d pl 0 (Nat.zero_add _))
  rw [vw_0, sA_self]
theorem mHalf_lt {f : Nat → Nat} {p : Nat} (h : f p < 2 ^ 31 - 1) : mHalf f p < 2 ^ 31 - 1 := by
  unfold mHalf
  omega
theorem l4_settle (h : sh q = some (sh4 q)) (hb : sh (q + 1) = some (1, 9, [])) (hpl : pl ≤ 9) (d : Nat) :
    ∀ t i (S : xSt) (f : Nat → Nat), i + t = 32 → S.1 q 1 = nI pl → (∀ p, p < pl → S.2.1 (q + 1) p = nI (f p)) → (∀ p, p < pl → f p < 2 ^ 31 - 1) →
      qX4_settle_6 E (d + 1) (x + q) (nI i) (wW E z x sh S, n) = some (.inl none, (wW E z x sh (sA S (q + 1) (vw pl (mHv pl t f) (S.2.1 (q + 1)))), n)) := by
  intro t
  induction t with
  | zero =>
    intro i S f hi hp hf hB
    rw [QX4_settle_6]
    simp (disch := omega) only [iLE_t, QX4_settle_31, cI_s, cL_s, cF_s, cD_s, cA_s, cV_s, nI_add, cond_true, cond_false]
    rw [show mHv pl 0 f = f from rfl, vw_self hf, sA_self]
  | succ t ih =>
    intro i S f hi hp hf hB
    have hm : mMax f pl < 2 ^ 31 := mMax_lt pl (fun p hp => Nat.lt_of_lt_of_le (hB p hp) (by omega)) (by omega)
    rw [QX4_settle_6]
    simp (disch := omega) only [gO_4 h, gR_4_0 h, gI_4_1 h, gP_4_1 h, gI_4_2 h, gP_4_2 h, gI_4_3 h, gP_4_3 h, gI_4_4 h, gP_4_4 h, iLE_f, cI_s, cL_s, cF_s, cD_s, cA_s, cV_s, nI_add, cond_true, cond_false]
    rw [s4_greatest h hb hp hpl hf (fun p hp => Nat.lt_of_lt_of_le (hB p hp) (by omega))]
    unfold mHv
    by_cases hg : mMax f pl ≤ 1000000
    · simp (disch := omega) only [iLE_t, QX4_settle_31, if_pos hg, cI_s, cL_s, cF_s, cD_s, cA_s, cV_s, nI_add, cond_true, cond_false]
      rw [vw_self hf, sA_self]
    · simp (disch := omega) only [gO_4 h, gR_4_0 h, gI_4_1 h, gP_4_1 h, gI_4_2 h, gP_4_2 h, gI_4_3 h, gP_4_3 h, gI_4_4 h, gP_4_4 h, iLE_f, if_neg hg, cI_s, cL_s, cF_s, cD_s, cA_s, cV_s, nI_add, cond_true, cond_false]
      rw [s4_halve h hb hp hpl hf hB]
      simp (disch := omega) only [cI_s, cL_s, cF_s, cD_s, cA_s, cV_s, nI_add, cond_true, cond_false]
      rw [ih (i + 1) (sA S (q + 1) (vw pl (mHalf f) (S.2.1 (q + 1)))) (mHalf f) (by omega) hp (fun p hp => by rw [sA_s, vw_in hp]) (fun p hp => mHalf_lt (hB p hp)), sA_sA, sA_s, vw_vw]
theorem s4_settle (h : sh q = some (sh4 q)) (hb : sh (q + 1) = some (1, 9, [])) (hp : S.1 q 1 = nI pl) (hpl : pl ≤ 9) (hf : ∀ p, p < pl → S.2.1 (q + 1) p = nI (f p)) (hB : ∀ p, p < pl → f p < 2 ^ 31 - 1) (d : Nat) :
    xsem xT E (d + 3) kX4_settle [.ref (x + q)] (wW E z x sh S, n) = some (.inl none, (wW E z x sh (sA S (q + 1) (vw pl (mSettle pl f) (S.2.1 (q + 1)))), n)) := by
  rw [eX4_settle, QX4_settle_0]
  simp (disch := omega) only [gO_4 h, gR_4_0 h, gI_4_1 h, gP_4_1 h, gI_4_2 h, gP_4_2 h, gI_4_3 h, gP_4_3 h, gI_4_4 h, gP_4_4 h, cI_s, cL_s, cF_s, cD_s, cA_s, cV_s, nI_add, cond_true, cond_false]
  rw [s4_divide h hb hp hpl hf (fun p hp => Nat.lt_of_lt_of_le (hB p hp) (by omega))]
  simp (disch := omega) only [cI_s, cL_s, cF_s, cD_s, cA_s, cV_s, nI_add, cond_true, cond_false]
  rw [l4_settle h hb hpl (d + 1) 32 0 _ (mDiv pl f) (by omega) (by exact hp) (fun p hp => by rw [sA_s, vw_in hp]) (fun p hp => Nat.lt_of_le_of_lt (Nat.div_le_self _ _) (hB p hp)), sA_sA, sA_s, vw_vw]
  rfl
end MIND2
