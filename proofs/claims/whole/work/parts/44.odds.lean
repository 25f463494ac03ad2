/-! THE ODDS: a value of codes; on both sides. -/
def jI (z : Int) : Int32 := Int32.ofInt z
theorem jI_N (k : Nat) : nI k = jI (k : Int) := Int32.ofInt_eq_ofNat.symm
theorem jI_T {z : Int} (h1 : -2147483648 ≤ z) (h2 : z < 2147483648) : (jI z).toInt = z := Int32.toInt_ofInt_of_le (by omega) (by omega)
theorem lI_T {z : Int} (h1 : -9223372036854775808 ≤ z) (h2 : z < 9223372036854775808) : (lI z).toInt = z := Int64.toInt_ofInt_of_le (by omega) (by omega)
theorem jI_L {z : Int} (h1 : -2147483648 ≤ z) (h2 : z < 2147483648) : (jI z).toInt64 = lI z := by
  rw [← Int64.ofInt_int32ToInt, jI_T h1 h2]
  rfl
theorem lI_J {z : Int} (h1 : -9223372036854775808 ≤ z) (h2 : z < 9223372036854775808) : (lI z).toInt32 = jI z := by
  rw [← Int32.ofInt_int64ToInt, lI_T h1 h2]
  rfl
theorem jI_le {a b : Int} (h1 : -2147483648 ≤ a) (h2 : a < 2147483648) (h3 : -2147483648 ≤ b) (h4 : b < 2147483648) : jI a ≤ jI b ↔ a ≤ b := by
  rw [Int32.le_iff_toInt_le, jI_T h1 h2, jI_T h3 h4]
theorem jI_lt {a b : Int} (h1 : -2147483648 ≤ a) (h2 : a < 2147483648) (h3 : -2147483648 ≤ b) (h4 : b < 2147483648) : jI a < jI b ↔ a < b := by
  rw [Int32.lt_iff_toInt_lt, jI_T h1 h2, jI_T h3 h4]
theorem jI_eq {a b : Int} (h1 : -2147483648 ≤ a) (h2 : a < 2147483648) (h3 : -2147483648 ≤ b) (h4 : b < 2147483648) : jI a = jI b ↔ a = b := by
  rw [← Int32.toInt_inj, jI_T h1 h2, jI_T h3 h4]
theorem lI_le {a b : Int} (h1 : -4611686018427387904 ≤ a) (h2 : a ≤ 4611686018427387904) (h3 : -4611686018427387904 ≤ b) (h4 : b ≤ 4611686018427387904) : lI a ≤ lI b ↔ a ≤ b := by
  rw [Int64.le_iff_toInt_le, lI_T (by omega) (by omega), lI_T (by omega) (by omega)]
theorem lI_lt {a b : Int} (h1 : -4611686018427387904 ≤ a) (h2 : a ≤ 4611686018427387904) (h3 : -4611686018427387904 ≤ b) (h4 : b ≤ 4611686018427387904) : lI a < lI b ↔ a < b := by
  rw [Int64.lt_iff_toInt_lt, lI_T (by omega) (by omega), lI_T (by omega) (by omega)]
theorem lI_eq {a b : Int} (h1 : -4611686018427387904 ≤ a) (h2 : a ≤ 4611686018427387904) (h3 : -4611686018427387904 ≤ b) (h4 : b ≤ 4611686018427387904) : lI a = lI b ↔ a = b := by
  rw [← Int64.toInt_inj, lI_T (by omega) (by omega), lI_T (by omega) (by omega)]
theorem lzL_t {α : Sort _} {a b : Int} {A B : α} (h : a ≤ b) (h1 : a.natAbs ≤ 4611686018427387904) (h2 : b.natAbs ≤ 4611686018427387904) : (if lg_cmp (lI a) (lI b) ≤ nI 0 then A else B) = A := if_pos ((lg_cmp_le _ _).2 ((lI_le (by omega) (by omega) (by omega) (by omega)).2 h))
theorem lzL_f {α : Sort _} {a b : Int} {A B : α} (h : ¬ a ≤ b) (h1 : a.natAbs ≤ 4611686018427387904) (h2 : b.natAbs ≤ 4611686018427387904) : (if lg_cmp (lI a) (lI b) ≤ nI 0 then A else B) = B := if_neg (fun z => h ((lI_le (by omega) (by omega) (by omega) (by omega)).1 ((lg_cmp_le _ _).1 z)))
theorem lzG_t {α : Sort _} {a b : Int} {A B : α} (h : b ≤ a) (h1 : a.natAbs ≤ 4611686018427387904) (h2 : b.natAbs ≤ 4611686018427387904) : (if nI 0 ≤ lg_cmp (lI a) (lI b) then A else B) = A := if_pos ((lg_cmp_ge _ _).2 ((lI_le (by omega) (by omega) (by omega) (by omega)).2 h))
theorem lzG_f {α : Sort _} {a b : Int} {A B : α} (h : ¬ b ≤ a) (h1 : a.natAbs ≤ 4611686018427387904) (h2 : b.natAbs ≤ 4611686018427387904) : (if nI 0 ≤ lg_cmp (lI a) (lI b) then A else B) = B := if_neg (fun z => h ((lI_le (by omega) (by omega) (by omega) (by omega)).1 ((lg_cmp_ge _ _).1 z)))
theorem lzE_t {α : Sort _} {a b : Int} {A B : α} (h : a = b) : (if lg_cmp (lI a) (lI b) = nI 0 then A else B) = A := if_pos ((lg_cmp_eq _ _).2 (by rw [h]))
theorem lzE_f {α : Sort _} {a b : Int} {A B : α} (h : ¬ a = b) (h1 : a.natAbs ≤ 4611686018427387904) (h2 : b.natAbs ≤ 4611686018427387904) : (if lg_cmp (lI a) (lI b) = nI 0 then A else B) = B := if_neg (fun z => h ((lI_eq (by omega) (by omega) (by omega) (by omega)).1 ((lg_cmp_eq _ _).1 z)))
theorem tdiv_le {a b : Int} {M : Nat} (h : a.natAbs ≤ M) : (a.tdiv b).natAbs ≤ M := by
  rw [Int.natAbs_tdiv]
  exact Nat.le_trans (Nat.div_le_self _ _) h
theorem mul_le {a b : Int} (h : a.natAbs ≤ 2147483648) (h2 : b.natAbs ≤ 2147483648) : (a * b).natAbs ≤ 4611686018427387904 := by
  rw [Int.natAbs_mul]
  exact Nat.mul_le_mul h h2
theorem lI_div {a b : Int} (ha : a.natAbs ≤ 2147483648) (hb : b.natAbs ≤ 2147483648) : lI a / lI b = lI (a.tdiv b) := by
  have h1 : Int64.minValue.toInt = -9223372036854775808 := by decide
  have h2 : Int64.maxValue.toInt = 9223372036854775807 := by decide
  exact (Int64.ofInt_tdiv (by omega) (by omega) (by omega) (by omega)).symm
theorem jI_div {a b : Int} (h1 : -2147483648 ≤ a) (h2 : a < 2147483648) (h3 : -2147483648 ≤ b) (h4 : b < 2147483648) : jI a / jI b = jI (a.tdiv b) := by
  have e1 : Int32.minValue.toInt = -2147483648 := by decide
  have e2 : Int32.maxValue.toInt = 2147483647 := by decide
  exact (Int32.ofInt_tdiv (by omega) (by omega) (by omega) (by omega)).symm
def updZ (st : Nat → Int) (k : Nat) (v : Int) : Nat → Int := fun p => if p = k then v else st p
def gFact (g : Nat → Nat) (p v : Nat) : Nat := if v = 0 then g 0 else if v = 1 then g 2 else if v = 2 then g 3 else gF g p * 100 / mSum (gF g) (g 0 + 1)
def clampZ (z : Int) : Int := if z ≤ 1000000 then (if -1000000 ≤ z then z else -1000000) else 1000000
def exZ (op : Nat) (a b : Int) : Int := if op = 2 then a + b else if op = 3 then a - b else if op = 4 then a * b else if b = 0 then 0 else a.tdiv b
def gPush (g : Nat → Nat) (p i : Nat) : Nat := if g (61 + 2 * i) = 0 then g (61 + 2 * i + 1) else gFact g p (g (61 + 2 * i + 1))
def gEv (g : Nat → Nat) (p : Nat) : Nat → Nat → Nat → (Nat → Int) → Int
  | 0, _, _, st => st 0
  | k + 1, i, dp, st => if g (61 + 2 * i) ≤ 1 then gEv g p k (i + 1) (dp + 1) (updZ st dp (gPush g p i : Int)) else gEv g p k (i + 1) (dp - 1) (updZ st (dp - 2) (clampZ (exZ (g (61 + 2 * i)) (st (dp - 2)) (st (dp - 1)))))
def lim9 (z : Int) : Nat := if 0 ≤ z then (if z ≤ 9 then z.toNat else 9) else 0
def gOdds (g : Nat → Nat) (p : Nat) : Nat := if g 11 = 0 then g 0 - 1 else lim9 (gEv g p (g 11) 0 0 (fun _ => 0))
def fOk (g : Nat → Nat) : Nat → Nat → Nat → Prop
  | 0, _, dp => dp = 1
  | k + 1, i, dp => (g (61 + 2 * i) ≤ 1 ∧ dp < 11 ∧ (g (61 + 2 * i) = 0 → g (61 + 2 * i + 1) ≤ 9999) ∧ (g (61 + 2 * i) = 1 → g (61 + 2 * i + 1) ≤ 3) ∧ fOk g k (i + 1) (dp + 1)) ∨ (2 ≤ g (61 + 2 * i) ∧ g (61 + 2 * i) ≤ 5 ∧ 2 ≤ dp ∧ fOk g k (i + 1) (dp - 1))
def iFo (g : Nat → Nat) : Prop := g 11 ≤ 500 ∧ (g 11 ≠ 0 → fOk g (g 11) 0 0)
def bZ (z : Int) : Prop := -1000000 ≤ z ∧ z < 2147483648
theorem clampZ_b (z : Int) : bZ (clampZ z) := by
  unfold clampZ bZ
  split
  · split <;> omega
  · omega
theorem exZ_b {op : Nat} {a b : Int} (ha : bZ a) (hb : bZ b) : (exZ op a b).natAbs ≤ 4611686018427387904 := by
  unfold bZ at ha hb
  unfold exZ
  split
  · omega
  · split
    · omega
    · split
      · exact mul_le (by omega) (by omega)
      · split
        · exact Nat.zero_le _
        · have := tdiv_le (a := a) (b := b) (M := 2147483648) (by omega)
          omega
def iT (g : Nat → Nat) : Prop := g 2 < 2147483648 ∧ g 3 < 2147483648
theorem mSum_pos {g : Nat → Nat} (H : iG g) : 0 < mSum (gF g) (g 0 + 1) ∧ mSum (gF g) (g 0 + 1) ≤ 9000000 := by
  obtain ⟨⟨_, h8, h1, _⟩, _, _, _, _, hB, h0⟩ := H
  have h2 := mSum_in (f := gF g) (p := g 1) (g 0 + 1) (by omega)
  have h3 := mSum_le (f := gF g) (B := 1000000) (g 0 + 1) (fun p hp => hB p (by omega))
  have h0 : 0 < gF g (g 1) := h0
  have : (g 0 + 1) * 1000000 ≤ 9 * 1000000 := Nat.mul_le_mul_right _ (by omega)
  omega
theorem gFact_lt {g : Nat → Nat} (H : iG g) (ht : iT g) {p v : Nat} (hp : p < g 0) : gFact g p v < 2147483648 := by
  obtain ⟨⟨_, h8, h1, _⟩, _, _, _, _, hB, h0⟩ := H
  have h2 := hB p (by omega)
  have h2 : gF g p ≤ 1000000 := h2
  have h3 : gF g p * 100 / mSum (gF g) (g 0 + 1) ≤ gF g p * 100 := Nat.div_le_self _ _
  unfold iT at ht
  unfold gFact
  split
  · omega
  · split
    · omega
    · split <;> omega
section OD
variable {E : xEn} {x n w : Nat} {S : xSt} {g : Nat → Nat} {T P : Nat → Int64}
theorem mP_1 : (mS (sG S 4 P) w g T).1 = S.1 := rfl
theorem mP_4 : (mS (sG S 4 P) w g T).2.2.2.1 4 = P := rfl
theorem mP_s {P' : Nat → Int64} : sG (mS (sG S 4 P) w g T) 4 P' = mS (sG S 4 P') w g T := by
  unfold mS sG sA
  dsimp only
  congr 4
  funext q'
  by_cases h : q' = 4
  · subst h
    rfl
  · simp only [if_neg h]
theorem mP_0 : mS (sG S 4 (S.2.2.2.1 4)) w g T = mS S w g T := by
  have : sG S 4 (S.2.2.2.1 4) = S := by
    unfold sG
    obtain ⟨a, b, c, e, f⟩ := S
    dsimp only
    congr 4
    funext q'
    split
    · next h => rw [h]
    · rfl
  rw [this]
theorem m_factOf (hw : S.1 0 3 = nI w) (h9 : w ≤ 9) (H : iG g) (ht : iT g) {p v : Nat} (hp : p < g 0) (hv : v ≤ 3) (d : Nat) :
    xsem xT E (d + 4) kX11_factOf [.ref x, .int (nI v), .int (nI p)] (wW E x shM (mS S w g T), n) = some (.inl (some (.long (lN (gFact g p v)))), (wW E x shM (mS S w g T), n)) := by
  obtain ⟨hs0, hs1⟩ := mSum_pos H
  obtain ⟨⟨_, h8, h1, _⟩, _, _, _, _, hB, h0⟩ := H
  have h2 := hB p (by omega)
  unfold iT at ht
  rw [eX11_factOf, QX11_factOf_0]
  have hc : v = 0 ∨ v = 1 ∨ v = 2 ∨ v = 3 := by omega
  rcases hc with h | h | h | h <;> subst h
  · rw [iEQ_t rfl, QX11_factOf_28]
    simp (disch := omega) only [gO_9 hM0, gI_9_0 hM0, gP_9_0 hM0, gR_9_1 hM0, gR_9_2 hM0, gI_9_3 hM0, gP_9_3 hM0, gI_9_4 hM0, gP_9_4 hM0, gR_9_5 hM0, gR_9_6 hM0, gR_9_7 hM0, gI_9_8 hM0, gP_9_8 hM0, gI_9_9 hM0, gP_9_9 hM0, gI_9_10 hM0, gP_9_10 hM0, gI_9_11 hM0, gP_9_11 hM0, gI_9_12 hM0, gP_9_12 hM0, gI_9_13 hM0, gP_9_13 hM0, gI_9_14 hM0, gP_9_14 hM0, gI_9_15 hM0, gP_9_15 hM0, gI_9_16 hM0, gP_9_16 hM0, gR_9_17 hM0, gR_9_18 hM0, gR_9_19 hM0, gR_9_20 hM0, gI_9_21 hM0, gP_9_21 hM0, gI_9_22 hM0, gP_9_22 hM0, gI_9_23 hM0, gP_9_23 hM0, gI_9_24 hM0, gP_9_24 hM0, gR_9_25 hM0, gI_9_26 hM0, gP_9_26 hM0, gI_9_27 hM0, gP_9_27 hM0, gI_9_28 hM0, gP_9_28 hM0, gL_9_29 hM0, gP_9_29 hM0, gL_9_30 hM0, gP_9_30 hM0, m_shells hw h9, nI_l, cI_s, cL_s, cF_s, cD_s, cA_s, cV_s, nI_add, cond_true, cond_false, if_true, if_false]
    rfl
  · simp (disch := omega) only [iEQ_t, iEQ_f, QX11_factOf_34, gO_9 hM0, gI_9_0 hM0, gP_9_0 hM0, gR_9_1 hM0, gR_9_2 hM0, gI_9_3 hM0, gP_9_3 hM0, gI_9_4 hM0, gP_9_4 hM0, gR_9_5 hM0, gR_9_6 hM0, gR_9_7 hM0, gI_9_8 hM0, gP_9_8 hM0, gI_9_9 hM0, gP_9_9 hM0, gI_9_10 hM0, gP_9_10 hM0, gI_9_11 hM0, gP_9_11 hM0, gI_9_12 hM0, gP_9_12 hM0, gI_9_13 hM0, gP_9_13 hM0, gI_9_14 hM0, gP_9_14 hM0, gI_9_15 hM0, gP_9_15 hM0, gI_9_16 hM0, gP_9_16 hM0, gR_9_17 hM0, gR_9_18 hM0, gR_9_19 hM0, gR_9_20 hM0, gI_9_21 hM0, gP_9_21 hM0, gI_9_22 hM0, gP_9_22 hM0, gI_9_23 hM0, gP_9_23 hM0, gI_9_24 hM0, gP_9_24 hM0, gR_9_25 hM0, gI_9_26 hM0, gP_9_26 hM0, gI_9_27 hM0, gP_9_27 hM0, gI_9_28 hM0, gP_9_28 hM0, gL_9_29 hM0, gP_9_29 hM0, gL_9_30 hM0, gP_9_30 hM0, m_get hw h9, nI_l, cI_s, cL_s, cF_s, cD_s, cA_s, cV_s, nI_add, cond_true, cond_false, if_true, if_false]
    rfl
  · simp (disch := omega) only [iEQ_t, iEQ_f, QX11_factOf_41, gO_9 hM0, gI_9_0 hM0, gP_9_0 hM0, gR_9_1 hM0, gR_9_2 hM0, gI_9_3 hM0, gP_9_3 hM0, gI_9_4 hM0, gP_9_4 hM0, gR_9_5 hM0, gR_9_6 hM0, gR_9_7 hM0, gI_9_8 hM0, gP_9_8 hM0, gI_9_9 hM0, gP_9_9 hM0, gI_9_10 hM0, gP_9_10 hM0, gI_9_11 hM0, gP_9_11 hM0, gI_9_12 hM0, gP_9_12 hM0, gI_9_13 hM0, gP_9_13 hM0, gI_9_14 hM0, gP_9_14 hM0, gI_9_15 hM0, gP_9_15 hM0, gI_9_16 hM0, gP_9_16 hM0, gR_9_17 hM0, gR_9_18 hM0, gR_9_19 hM0, gR_9_20 hM0, gI_9_21 hM0, gP_9_21 hM0, gI_9_22 hM0, gP_9_22 hM0, gI_9_23 hM0, gP_9_23 hM0, gI_9_24 hM0, gP_9_24 hM0, gR_9_25 hM0, gI_9_26 hM0, gP_9_26 hM0, gI_9_27 hM0, gP_9_27 hM0, gI_9_28 hM0, gP_9_28 hM0, gL_9_29 hM0, gP_9_29 hM0, gL_9_30 hM0, gP_9_30 hM0, m_get hw h9, nI_l, cI_s, cL_s, cF_s, cD_s, cA_s, cV_s, nI_add, cond_true, cond_false, if_true, if_false]
    rfl
  · simp (disch := omega) only [iEQ_f, QX11_factOf_48, gO_9 hM0, gI_9_0 hM0, gP_9_0 hM0, gR_9_1 hM0, gR_9_2 hM0, gI_9_3 hM0, gP_9_3 hM0, gI_9_4 hM0, gP_9_4 hM0, gR_9_5 hM0, gR_9_6 hM0, gR_9_7 hM0, gI_9_8 hM0, gP_9_8 hM0, gI_9_9 hM0, gP_9_9 hM0, gI_9_10 hM0, gP_9_10 hM0, gI_9_11 hM0, gP_9_11 hM0, gI_9_12 hM0, gP_9_12 hM0, gI_9_13 hM0, gP_9_13 hM0, gI_9_14 hM0, gP_9_14 hM0, gI_9_15 hM0, gP_9_15 hM0, gI_9_16 hM0, gP_9_16 hM0, gR_9_17 hM0, gR_9_18 hM0, gR_9_19 hM0, gR_9_20 hM0, gI_9_21 hM0, gP_9_21 hM0, gI_9_22 hM0, gP_9_22 hM0, gI_9_23 hM0, gP_9_23 hM0, gI_9_24 hM0, gP_9_24 hM0, gR_9_25 hM0, gI_9_26 hM0, gP_9_26 hM0, gI_9_27 hM0, gP_9_27 hM0, gI_9_28 hM0, gP_9_28 hM0, gL_9_29 hM0, gP_9_29 hM0, gL_9_30 hM0, gP_9_30 hM0, m_had hw h9 hB, m_sum hw h9 h8 hB, cI_s, cL_s, cF_s, cD_s, cA_s, cV_s, nI_add, cond_true, cond_false, if_true, if_false]
    rw [lz_N (by omega) (by omega), lN_mul, pk_lDiv (by omega) (by omega) (by omega)]
    rfl
theorem lm_clamp {P' : Nat → Int64} (z : Int) (hz : z.natAbs ≤ 4611686018427387904) {m : Nat} (hm : m < 500) (x1 x3 : Int32) (d : Nat) :
    qX11_oddsOf_171 E d x x1 (nI (m + 1)) x3 (lI z) (wW E x shM (mS (sG S 4 P') w g T), n) = qX11_oddsOf_213 E d x x1 (nI (m + 1)) x3 (wW E x shM (mS (sG S 4 (vp_updL P' m (lI (clampZ z)))) w g T), n) := by
  have e1 : (lN 1000000) = lI 1000000 := lI_N _
  have e2 : (-1000000 : Int64) = lI (-1000000) := rfl
  rw [QX11_oddsOf_171, e1]
  unfold clampZ
  simp (disch := omega) only [gO_9 hM0, gI_9_0 hM0, gP_9_0 hM0, gR_9_1 hM0, gR_9_2 hM0, gI_9_3 hM0, gP_9_3 hM0, gI_9_4 hM0, gP_9_4 hM0, gR_9_5 hM0, gR_9_6 hM0, gR_9_7 hM0, gI_9_8 hM0, gP_9_8 hM0, gI_9_9 hM0, gP_9_9 hM0, gI_9_10 hM0, gP_9_10 hM0, gI_9_11 hM0, gP_9_11 hM0, gI_9_12 hM0, gP_9_12 hM0, gI_9_13 hM0, gP_9_13 hM0, gI_9_14 hM0, gP_9_14 hM0, gI_9_15 hM0, gP_9_15 hM0, gI_9_16 hM0, gP_9_16 hM0, gR_9_17 hM0, gR_9_18 hM0, gR_9_19 hM0, gR_9_20 hM0, gI_9_21 hM0, gP_9_21 hM0, gI_9_22 hM0, gP_9_22 hM0, gI_9_23 hM0, gP_9_23 hM0, gI_9_24 hM0, gP_9_24 hM0, gR_9_25 hM0, gI_9_26 hM0, gP_9_26 hM0, gI_9_27 hM0, gP_9_27 hM0, gI_9_28 hM0, gP_9_28 hM0, gL_9_29 hM0, gP_9_29 hM0, gL_9_30 hM0, gP_9_30 hM0, cI_s, cL_s, cF_s, cD_s, cA_s, cV_s, nI_add, cond_true, cond_false, if_true, if_false]
  by_cases c1 : z ≤ 1000000
  · rw [if_pos c1, lzL_t c1 hz (by decide), QX11_oddsOf_195, e2]
    by_cases c2 : -1000000 ≤ z
    · rw [if_pos c2, lzG_t c2 hz (by decide)]
      simp (disch := omega) only [QX11_oddsOf_210, QX11_oddsOf_212, pk_sub, Nat.add_sub_cancel, sL_w hM4, mP_4, mP_s, cI_s, cL_s, cF_s, cD_s, cA_s, cV_s, nI_add, cond_true, cond_false, if_true, if_false]
    · rw [if_neg c2, lzG_f c2 hz (by decide)]
      simp (disch := omega) only [QX11_oddsOf_212, pk_sub, Nat.add_sub_cancel, sL_w hM4, mP_4, mP_s, cI_s, cL_s, cF_s, cD_s, cA_s, cV_s, nI_add, cond_true, cond_false, if_true, if_false]
  · rw [if_neg c1, lzL_f c1 hz (by decide)]
    simp (disch := omega) only [QX11_oddsOf_212, pk_sub, Nat.add_sub_cancel, sL_w hM4, mP_4, mP_s, cI_s, cL_s, cF_s, cD_s, cA_s, cV_s, nI_add, cond_true, cond_false, if_true, if_false]
theorem lm_odds (hw : S.1 0 3 = nI w) (h9 : w ≤ 9) (H : iG g) (ht : iT g) (h11 : g 11 ≤ 500) {p : Nat} (hp : p < g 0) (d : Nat) :
    ∀ k i dp (st : Nat → Int) (P : Nat → Int64), i + k = g 11 → dp ≤ i → fOk g k i dp → (∀ j, bZ (st j)) → (∀ j, j < dp → P j = lI (st j)) →
      ∃ P', qX11_oddsOf_20 E (d + 4) x (nI p) (nI dp) (nI i) (wW E x shM (mS (sG S 4 P) w g T), n) = qX11_oddsOf_219 E (d + 4) x (wW E x shM (mS (sG S 4 P') w g T), n) ∧ P' 0 = lI (gEv g p k i dp st) ∧ bZ (gEv g p k i dp st) := by
  intro k
  have hw' : ∀ P, (sG S 4 P).1 0 3 = nI w := fun _ => hw
  induction k with
  | zero =>
    intro i dp st P hi hdp hf hb hP
    have hi : i = g 11 := hi
    have hf : dp = 1 := hf
    refine ⟨P, ?_, hP 0 (by omega), hb 0⟩
    rw [QX11_oddsOf_20]
    simp (disch := omega) only [gO_9 hM0, gI_9_0 hM0, gP_9_0 hM0, gR_9_1 hM0, gR_9_2 hM0, gI_9_3 hM0, gP_9_3 hM0, gI_9_4 hM0, gP_9_4 hM0, gR_9_5 hM0, gR_9_6 hM0, gR_9_7 hM0, gI_9_8 hM0, gP_9_8 hM0, gI_9_9 hM0, gP_9_9 hM0, gI_9_10 hM0, gP_9_10 hM0, gI_9_11 hM0, gP_9_11 hM0, gI_9_12 hM0, gP_9_12 hM0, gI_9_13 hM0, gP_9_13 hM0, gI_9_14 hM0, gP_9_14 hM0, gI_9_15 hM0, gP_9_15 hM0, gI_9_16 hM0, gP_9_16 hM0, gR_9_17 hM0, gR_9_18 hM0, gR_9_19 hM0, gR_9_20 hM0, gI_9_21 hM0, gP_9_21 hM0, gI_9_22 hM0, gP_9_22 hM0, gI_9_23 hM0, gP_9_23 hM0, gI_9_24 hM0, gP_9_24 hM0, gR_9_25 hM0, gI_9_26 hM0, gP_9_26 hM0, gI_9_27 hM0, gP_9_27 hM0, gI_9_28 hM0, gP_9_28 hM0, gL_9_29 hM0, gP_9_29 hM0, gL_9_30 hM0, gP_9_30 hM0, m_get (hw' _) h9, iLE_t, cI_s, cL_s, cF_s, cD_s, cA_s, cV_s, nI_add, cond_true, cond_false, if_true, if_false]
  | succ k ih =>
    intro i dp st P hi hdp hf hb hP
    rw [show gEv g p (k + 1) i dp st = if g (61 + 2 * i) ≤ 1 then gEv g p k (i + 1) (dp + 1) (updZ st dp (gPush g p i : Int)) else gEv g p k (i + 1) (dp - 1) (updZ st (dp - 2) (clampZ (exZ (g (61 + 2 * i)) (st (dp - 2)) (st (dp - 1))))) from rfl]
    rcases hf with ⟨f1, f2, f3, f3', f4⟩ | ⟨f1, f2, f3, f4⟩
    · rw [if_pos f1]
      have hlt : gPush g p i < 2147483648 := by
        unfold gPush
        split
        · next e => have := f3 e; omega
        · exact gFact_lt H ht hp
      obtain ⟨P', h1, h2, h3⟩ := ih (i + 1) (dp + 1) (updZ st dp (gPush g p i : Int)) (vp_updL P dp (lN (gPush g p i))) (by omega) (by omega) f4 (fun j => by
        unfold updZ
        split
        · unfold bZ; omega
        · exact hb j) (fun j hj => by
        unfold updZ vp_updL
        split
        · exact lI_N _
        · exact hP j (by omega))
      refine ⟨P', ?_, h2, h3⟩
      rw [← h1, QX11_oddsOf_20]
      unfold gPush at hlt ⊢
      by_cases e0 : g (61 + 2 * i) = 0
      · rw [if_pos e0] at hlt ⊢
        simp (disch := omega) only [gO_9 hM0, gI_9_0 hM0, gP_9_0 hM0, gR_9_1 hM0, gR_9_2 hM0, gI_9_3 hM0, gP_9_3 hM0, gI_9_4 hM0, gP_9_4 hM0, gR_9_5 hM0, gR_9_6 hM0, gR_9_7 hM0, gI_9_8 hM0, gP_9_8 hM0, gI_9_9 hM0, gP_9_9 hM0, gI_9_10 hM0, gP_9_10 hM0, gI_9_11 hM0, gP_9_11 hM0, gI_9_12 hM0, gP_9_12 hM0, gI_9_13 hM0, gP_9_13 hM0, gI_9_14 hM0, gP_9_14 hM0, gI_9_15 hM0, gP_9_15 hM0, gI_9_16 hM0, gP_9_16 hM0, gR_9_17 hM0, gR_9_18 hM0, gR_9_19 hM0, gR_9_20 hM0, gI_9_21 hM0, gP_9_21 hM0, gI_9_22 hM0, gP_9_22 hM0, gI_9_23 hM0, gP_9_23 hM0, gI_9_24 hM0, gP_9_24 hM0, gR_9_25 hM0, gI_9_26 hM0, gP_9_26 hM0, gI_9_27 hM0, gP_9_27 hM0, gI_9_28 hM0, gP_9_28 hM0, gL_9_29 hM0, gP_9_29 hM0, gL_9_30 hM0, gP_9_30 hM0, m_get (hw' _) h9, iLE_f, pk_mul, iLT_f, iEQ_t e0, QX11_oddsOf_85, sL_w hM4, mP_4, mP_s, nI_l, QX11_oddsOf_213, cI_s, cL_s, cF_s, cD_s, cA_s, cV_s, nI_add, cond_true, cond_false, if_true, if_false]
      · rw [if_neg e0]
        have hv := f3' (by omega)
        simp (disch := omega) only [gO_9 hM0, gI_9_0 hM0, gP_9_0 hM0, gR_9_1 hM0, gR_9_2 hM0, gI_9_3 hM0, gP_9_3 hM0, gI_9_4 hM0, gP_9_4 hM0, gR_9_5 hM0, gR_9_6 hM0, gR_9_7 hM0, gI_9_8 hM0, gP_9_8 hM0, gI_9_9 hM0, gP_9_9 hM0, gI_9_10 hM0, gP_9_10 hM0, gI_9_11 hM0, gP_9_11 hM0, gI_9_12 hM0, gP_9_12 hM0, gI_9_13 hM0, gP_9_13 hM0, gI_9_14 hM0, gP_9_14 hM0, gI_9_15 hM0, gP_9_15 hM0, gI_9_16 hM0, gP_9_16 hM0, gR_9_17 hM0, gR_9_18 hM0, gR_9_19 hM0, gR_9_20 hM0, gI_9_21 hM0, gP_9_21 hM0, gI_9_22 hM0, gP_9_22 hM0, gI_9_23 hM0, gP_9_23 hM0, gI_9_24 hM0, gP_9_24 hM0, gR_9_25 hM0, gI_9_26 hM0, gP_9_26 hM0, gI_9_27 hM0, gP_9_27 hM0, gI_9_28 hM0, gP_9_28 hM0, gL_9_29 hM0, gP_9_29 hM0, gL_9_30 hM0, gP_9_30 hM0, m_get (hw' _) h9, iLE_f, pk_mul, iLT_f, iEQ_f e0, QX11_oddsOf_78, cI_s, cL_s, cF_s, cD_s, cA_s, cV_s, nI_add, cond_true, cond_false, if_true, if_false]
        rw [m_factOf (hw' _) h9 H ht hp hv]
        simp (disch := omega) only [QX11_oddsOf_85, sL_w hM4, mP_4, mP_s, QX11_oddsOf_213, cI_s, cL_s, cF_s, cD_s, cA_s, cV_s, nI_add, cond_true, cond_false, if_true, if_false]
    · obtain ⟨m, rfl⟩ : ∃ m, dp = m + 2 := ⟨dp - 2, by omega⟩
      rw [if_neg (by omega), show m + 2 - 2 = m by omega, show m + 2 - 1 = m + 1 by omega]
      have hA := hb m
      have hB := hb (m + 1)
      have hE := exZ_b (op := g (61 + 2 * i)) hA hB
      obtain ⟨P', h1, h2, h3⟩ := ih (i + 1) (m + 1) (updZ st m (clampZ (exZ (g (61 + 2 * i)) (st m) (st (m + 1))))) (vp_updL P m (lI (clampZ (exZ (g (61 + 2 * i)) (st m) (st (m + 1)))))) (by omega) (by omega) f4 (fun j => by
        unfold updZ
        split
        · exact clampZ_b _
        · exact hb j) (fun j hj => by
        unfold updZ vp_updL
        split
        · rfl
        · exact hP j (by omega))
      refine ⟨P', ?_, h2, h3⟩
      have hc := lm_clamp (E := E) (x := x) (n := n) (w := w) (S := S) (g := g) (T := T) (P' := P) _ hE (m := m) (by omega) (nI p) (nI i) (d + 4)
      rw [QX11_oddsOf_213, nI_add] at hc
      rw [← h1, ← hc, QX11_oddsOf_20]
      have hp1 := hP m (by omega)
      have hp2 := hP (m + 1) (by omega)
      simp (disch := omega) only [gO_9 hM0, gI_9_0 hM0, gP_9_0 hM0, gR_9_1 hM0, gR_9_2 hM0, gI_9_3 hM0, gP_9_3 hM0, gI_9_4 hM0, gP_9_4 hM0, gR_9_5 hM0, gR_9_6 hM0, gR_9_7 hM0, gI_9_8 hM0, gP_9_8 hM0, gI_9_9 hM0, gP_9_9 hM0, gI_9_10 hM0, gP_9_10 hM0, gI_9_11 hM0, gP_9_11 hM0, gI_9_12 hM0, gP_9_12 hM0, gI_9_13 hM0, gP_9_13 hM0, gI_9_14 hM0, gP_9_14 hM0, gI_9_15 hM0, gP_9_15 hM0, gI_9_16 hM0, gP_9_16 hM0, gR_9_17 hM0, gR_9_18 hM0, gR_9_19 hM0, gR_9_20 hM0, gI_9_21 hM0, gP_9_21 hM0, gI_9_22 hM0, gP_9_22 hM0, gI_9_23 hM0, gP_9_23 hM0, gI_9_24 hM0, gP_9_24 hM0, gR_9_25 hM0, gI_9_26 hM0, gP_9_26 hM0, gI_9_27 hM0, gP_9_27 hM0, gI_9_28 hM0, gP_9_28 hM0, gL_9_29 hM0, gP_9_29 hM0, gL_9_30 hM0, gP_9_30 hM0, m_get (hw' _) h9, iLE_f, pk_mul, iLT_t, QX11_oddsOf_92, pk_m1, pk_sub, Nat.add_sub_cancel, aL_w hM4, mP_4, hp1, hp2, cI_s, cL_s, cF_s, cD_s, cA_s, cV_s, nI_add, cond_true, cond_false, if_true, if_false]
      unfold bZ at hA hB
      unfold exZ
      by_cases o2 : g (61 + 2 * i) = 2
      · rw [iEQ_t o2, if_pos o2, lI_add]
      · rw [iEQ_f o2 (by omega) (by omega), if_neg o2, QX11_oddsOf_127]
        by_cases o3 : g (61 + 2 * i) = 3
        · rw [iEQ_t o3, if_pos o3, lI_sub]
        · rw [iEQ_f o3 (by omega) (by omega), if_neg o3, QX11_oddsOf_141]
          by_cases o4 : g (61 + 2 * i) = 4
          · rw [iEQ_t o4, if_pos o4, lI_mul]
          · rw [iEQ_f o4 (by omega) (by omega), if_neg o4, QX11_oddsOf_155]
            rw [show (lN 0) = lI 0 from lI_N 0]
            by_cases oz : st (m + 1) = 0
            · rw [if_pos oz, lzE_t oz]
            · have hz : ¬ lI (st (m + 1)) = lI 0 := fun h => oz ((lI_eq (by omega) (by omega) (by omega) (by omega)).1 h)
              rw [if_neg oz, lzE_f oz (by omega) (by decide), QX11_oddsOf_166, lI_div (by omega) (by omega)]
              unfold nz
              rw [show decide (¬ lI (st (m + 1)) = 0) = true from decide_eq_true hz]
              rfl
theorem m_oddsOf (hw : S.1 0 3 = nI w) (h9 : w ≤ 9) (H : iG g) (ht : iT g) (hf : iFo g) {p : Nat} (hp : p < g 0) (d : Nat) :
    ∃ P, xsem xT E (d + 5) kX11_oddsOf [.ref x, .int (nI p)] (wW E x shM (mS S w g T), n) = some (.inl (some (.int (nI (gOdds g p)))), (wW E x shM (mS (sG S 4 P) w g T), n)) := by
  have h8 := H.1.2.1
  have h2 := H.1.1
  have h11 := hf.1
  unfold gOdds
  by_cases e : g 11 = 0
  · refine ⟨S.2.2.2.1 4, ?_⟩
    rw [mP_0, if_pos e, eX11_oddsOf, QX11_oddsOf_0]
    simp (disch := omega) only [gO_9 hM0, gI_9_0 hM0, gP_9_0 hM0, gR_9_1 hM0, gR_9_2 hM0, gI_9_3 hM0, gP_9_3 hM0, gI_9_4 hM0, gP_9_4 hM0, gR_9_5 hM0, gR_9_6 hM0, gR_9_7 hM0, gI_9_8 hM0, gP_9_8 hM0, gI_9_9 hM0, gP_9_9 hM0, gI_9_10 hM0, gP_9_10 hM0, gI_9_11 hM0, gP_9_11 hM0, gI_9_12 hM0, gP_9_12 hM0, gI_9_13 hM0, gP_9_13 hM0, gI_9_14 hM0, gP_9_14 hM0, gI_9_15 hM0, gP_9_15 hM0, gI_9_16 hM0, gP_9_16 hM0, gR_9_17 hM0, gR_9_18 hM0, gR_9_19 hM0, gR_9_20 hM0, gI_9_21 hM0, gP_9_21 hM0, gI_9_22 hM0, gP_9_22 hM0, gI_9_23 hM0, gP_9_23 hM0, gI_9_24 hM0, gP_9_24 hM0, gR_9_25 hM0, gI_9_26 hM0, gP_9_26 hM0, gI_9_27 hM0, gP_9_27 hM0, gI_9_28 hM0, gP_9_28 hM0, gL_9_29 hM0, gP_9_29 hM0, gL_9_30 hM0, gP_9_30 hM0, m_get hw h9, iEQ_t e, m_shells hw h9, pk_sub, cI_s, cL_s, cF_s, cD_s, cA_s, cV_s, nI_add, cond_true, cond_false, if_true, if_false]
  · obtain ⟨P', h3, h4, h5⟩ := lm_odds (E := E) (x := x) (n := n) (T := T) hw h9 H ht hf.1 hp d (g 11) 0 0 (fun _ => 0) (S.2.2.2.1 4) (by omega) (by omega) (hf.2 e) (fun _ => ⟨by omega, by omega⟩) (fun j hj => absurd hj (Nat.not_lt_zero j))
    refine ⟨P', ?_⟩
    rw [mP_0] at h3
    rw [if_neg e, eX11_oddsOf, QX11_oddsOf_0]
    simp (disch := omega) only [gO_9 hM0, gI_9_0 hM0, gP_9_0 hM0, gR_9_1 hM0, gR_9_2 hM0, gI_9_3 hM0, gP_9_3 hM0, gI_9_4 hM0, gP_9_4 hM0, gR_9_5 hM0, gR_9_6 hM0, gR_9_7 hM0, gI_9_8 hM0, gP_9_8 hM0, gI_9_9 hM0, gP_9_9 hM0, gI_9_10 hM0, gP_9_10 hM0, gI_9_11 hM0, gP_9_11 hM0, gI_9_12 hM0, gP_9_12 hM0, gI_9_13 hM0, gP_9_13 hM0, gI_9_14 hM0, gP_9_14 hM0, gI_9_15 hM0, gP_9_15 hM0, gI_9_16 hM0, gP_9_16 hM0, gR_9_17 hM0, gR_9_18 hM0, gR_9_19 hM0, gR_9_20 hM0, gI_9_21 hM0, gP_9_21 hM0, gI_9_22 hM0, gP_9_22 hM0, gI_9_23 hM0, gP_9_23 hM0, gI_9_24 hM0, gP_9_24 hM0, gR_9_25 hM0, gI_9_26 hM0, gP_9_26 hM0, gI_9_27 hM0, gP_9_27 hM0, gI_9_28 hM0, gP_9_28 hM0, gL_9_29 hM0, gP_9_29 hM0, gL_9_30 hM0, gP_9_30 hM0, m_get hw h9, cI_s, cL_s, cF_s, cD_s, cA_s, cV_s, nI_add, cond_true, cond_false, if_true, if_false]
    rw [iEQ_f e (by omega) (by omega), QX11_oddsOf_16]
    rw [h3]
    generalize gEv g p (g 11) 0 0 (fun _ => 0) = z at h4 h5
    unfold bZ at h5
    have e1 : (lN 0) = lI 0 := lI_N _
    have e2 : (lN 9) = lI 9 := lI_N _
    rw [QX11_oddsOf_219]
    simp (disch := omega) only [gO_9 hM0, gI_9_0 hM0, gP_9_0 hM0, gR_9_1 hM0, gR_9_2 hM0, gI_9_3 hM0, gP_9_3 hM0, gI_9_4 hM0, gP_9_4 hM0, gR_9_5 hM0, gR_9_6 hM0, gR_9_7 hM0, gI_9_8 hM0, gP_9_8 hM0, gI_9_9 hM0, gP_9_9 hM0, gI_9_10 hM0, gP_9_10 hM0, gI_9_11 hM0, gP_9_11 hM0, gI_9_12 hM0, gP_9_12 hM0, gI_9_13 hM0, gP_9_13 hM0, gI_9_14 hM0, gP_9_14 hM0, gI_9_15 hM0, gP_9_15 hM0, gI_9_16 hM0, gP_9_16 hM0, gR_9_17 hM0, gR_9_18 hM0, gR_9_19 hM0, gR_9_20 hM0, gI_9_21 hM0, gP_9_21 hM0, gI_9_22 hM0, gP_9_22 hM0, gI_9_23 hM0, gP_9_23 hM0, gI_9_24 hM0, gP_9_24 hM0, gR_9_25 hM0, gI_9_26 hM0, gP_9_26 hM0, gI_9_27 hM0, gP_9_27 hM0, gI_9_28 hM0, gP_9_28 hM0, gL_9_29 hM0, gP_9_29 hM0, gL_9_30 hM0, gP_9_30 hM0, aL_w hM4, mP_4, h4, e1, cI_s, cL_s, cF_s, cD_s, cA_s, cV_s, nI_add, cond_true, cond_false, if_true, if_false]
    unfold lim9
    by_cases c1 : 0 ≤ z
    · rw [if_pos c1, lzG_t c1 (by omega) (by decide), QX11_oddsOf_234]
      simp (disch := omega) only [gO_9 hM0, gI_9_0 hM0, gP_9_0 hM0, gR_9_1 hM0, gR_9_2 hM0, gI_9_3 hM0, gP_9_3 hM0, gI_9_4 hM0, gP_9_4 hM0, gR_9_5 hM0, gR_9_6 hM0, gR_9_7 hM0, gI_9_8 hM0, gP_9_8 hM0, gI_9_9 hM0, gP_9_9 hM0, gI_9_10 hM0, gP_9_10 hM0, gI_9_11 hM0, gP_9_11 hM0, gI_9_12 hM0, gP_9_12 hM0, gI_9_13 hM0, gP_9_13 hM0, gI_9_14 hM0, gP_9_14 hM0, gI_9_15 hM0, gP_9_15 hM0, gI_9_16 hM0, gP_9_16 hM0, gR_9_17 hM0, gR_9_18 hM0, gR_9_19 hM0, gR_9_20 hM0, gI_9_21 hM0, gP_9_21 hM0, gI_9_22 hM0, gP_9_22 hM0, gI_9_23 hM0, gP_9_23 hM0, gI_9_24 hM0, gP_9_24 hM0, gR_9_25 hM0, gI_9_26 hM0, gP_9_26 hM0, gI_9_27 hM0, gP_9_27 hM0, gI_9_28 hM0, gP_9_28 hM0, gL_9_29 hM0, gP_9_29 hM0, gL_9_30 hM0, gP_9_30 hM0, aL_w hM4, mP_4, h4, e2, cI_s, cL_s, cF_s, cD_s, cA_s, cV_s, nI_add, cond_true, cond_false, if_true, if_false]
      by_cases c2 : z ≤ 9
      · rw [if_pos c2, lzL_t c2 (by omega) (by decide), QX11_oddsOf_252]
        simp (disch := omega) only [gO_9 hM0, gI_9_0 hM0, gP_9_0 hM0, gR_9_1 hM0, gR_9_2 hM0, gI_9_3 hM0, gP_9_3 hM0, gI_9_4 hM0, gP_9_4 hM0, gR_9_5 hM0, gR_9_6 hM0, gR_9_7 hM0, gI_9_8 hM0, gP_9_8 hM0, gI_9_9 hM0, gP_9_9 hM0, gI_9_10 hM0, gP_9_10 hM0, gI_9_11 hM0, gP_9_11 hM0, gI_9_12 hM0, gP_9_12 hM0, gI_9_13 hM0, gP_9_13 hM0, gI_9_14 hM0, gP_9_14 hM0, gI_9_15 hM0, gP_9_15 hM0, gI_9_16 hM0, gP_9_16 hM0, gR_9_17 hM0, gR_9_18 hM0, gR_9_19 hM0, gR_9_20 hM0, gI_9_21 hM0, gP_9_21 hM0, gI_9_22 hM0, gP_9_22 hM0, gI_9_23 hM0, gP_9_23 hM0, gI_9_24 hM0, gP_9_24 hM0, gR_9_25 hM0, gI_9_26 hM0, gP_9_26 hM0, gI_9_27 hM0, gP_9_27 hM0, gI_9_28 hM0, gP_9_28 hM0, gL_9_29 hM0, gP_9_29 hM0, gL_9_30 hM0, gP_9_30 hM0, aL_w hM4, mP_4, h4, QX11_oddsOf_259, cI_s, cL_s, cF_s, cD_s, cA_s, cV_s, nI_add, cond_true, cond_false, if_true, if_false]
        rw [lI_J (by omega) (by omega), jI_N, show ((z.toNat : Nat) : Int) = z by omega]
      · rw [if_neg c2, lzL_f c2 (by omega) (by decide), QX11_oddsOf_259]
    · rw [if_neg c1, lzG_f c1 (by omega) (by decide), QX11_oddsOf_259]
end OD
