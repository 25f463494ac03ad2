/-! THE REFERENCE: what holds of a row; thinking, a step, a look. -/
def iG (g : Nat → Nat) : Prop := (2 ≤ g 0 ∧ g 0 ≤ 8 ∧ g 1 ≤ g 0 ∧ 1 ≤ g 4 ∧ g 4 ≤ 99 ∧ 1 ≤ g 5 ∧ g 5 ≤ 9 ∧ g 6 ≤ 9 ∧ g 7 ≤ 1000000 ∧ g 10 ≤ 8) ∧ (∀ p, p < 8 → g (12 + p) < 8) ∧ (∀ p, p < g 0 → g (12 + p) < g 0) ∧ (∀ p q, p < g 0 → q < g 0 → g (12 + p) = g (12 + q) → p = q) ∧ (∀ p, p < 8 → g (28 + p) ≤ 1) ∧ (∀ p, p ≤ 8 → g (36 + p) ≤ 1000000) ∧ 0 < g (36 + g 1)
theorem iG_rg {g : Nat → Nat} (H : iG g) : ∀ p, p < 8 → rg g p ≤ 1 := fun p hp => H.2.2.2.2.1 _ (H.2.1 p hp)
theorem tri_28 : ∀ n, n ≤ 8 → ∀ k, k ≤ n → tri k + tri (n - k) ≤ 28 := by decide
theorem mSum_le {f : Nat → Nat} {B : Nat} : ∀ m, (∀ p, p < m → f p ≤ B) → mSum f m ≤ m * B := by
  intro m
  induction m with
  | zero => exact fun _ => Nat.zero_le _
  | succ m ih =>
    intro h
    have h1 := ih (fun p hp => h p (Nat.lt_succ_of_lt hp))
    have h2 := h m (Nat.lt_succ_self m)
    rw [show mSum f (m + 1) = mSum f m + f m from rfl, Nat.add_mul]
    omega
theorem gWon_lt {n p : Nat} {r f : Nat → Nat} {c s : Nat} (hn : n ≤ 8) (hc : c ≤ 9) (hs : s ≤ 9) (hf : ∀ p, p ≤ n → f p ≤ 1000000) (hp : p ≤ n) : gWon n r f c s p < 2 ^ 31 - 1 := by
  have h1 : wSw r n ≤ 28 := tri_28 n hn _ (wC_le r n)
  have h2 := hf p hp
  have h3 := hf n (Nat.le_refl n)
  have h4 := mSum_le (f := f) (B := 1000000) n (fun p hp => hf p (Nat.le_of_lt hp))
  have h5 : s * n ≤ 9 * 8 := Nat.mul_le_mul hs hn
  have h6 : f n * s ≤ 1000000 * 9 := Nat.mul_le_mul h3 hs
  have h9 : mSum f n ≤ 8000000 := by omega
  unfold gWon
  by_cases e : p < n
  · rw [if_pos e]
    have h7 : s * (n - 1) ≤ 9 * 8 := Nat.mul_le_mul hs (by omega)
    have h8 : f p * (wSw r n - (wK r p n - 1) + c + s * (n - 1) + s * n) ≤ 1000000 * 181 := Nat.mul_le_mul h2 (by omega)
    have h10 := (wL_in (r := r) (f := f) e).2
    omega
  · rw [if_neg e]
    have h8 : f n * (wSw r n + c + s * n) ≤ 1000000 * 109 := Nat.mul_le_mul h3 (by omega)
    have h10 : mSum f n * s ≤ 8000000 * 9 := Nat.mul_le_mul h9 hs
    omega
theorem mMix_lt {a b t p : Nat} {f : Nat → Nat} (ht : t ≤ 100) (ha : f a ≤ 1000000) (hb : f b ≤ 1000000) (hp : f p ≤ 1000000) : mMix a b t f p < 2 ^ 31 - 1 := by
  have h1 : f a * (100 - t) ≤ 1000000 * 100 := Nat.mul_le_mul ha (by omega)
  have h2 : f b * (100 - t) ≤ 1000000 * 100 := Nat.mul_le_mul hb (by omega)
  have h3 : f a * t ≤ 1000000 * 100 := Nat.mul_le_mul ha ht
  have h4 : f b * t ≤ 1000000 * 100 := Nat.mul_le_mul hb ht
  unfold mMix updN
  split
  · omega
  · split
    · omega
    · show f p * 100 < _
      omega
theorem gRaw_lt {bl : Bool} {k a b : Nat} {g : Nat → Nat} (H : iG g) (hab : k < 2 → a < g 0 ∧ b < g 0) : ∀ p, p ≤ g 0 → gRaw bl k a b g p < 2 ^ 31 - 1 := by
  intro p hp
  obtain ⟨⟨_, h8, _, _, h4, _, h5, h6, _, _⟩, _, _, _, _, hB, _⟩ := H
  have hB2 : ∀ p, p ≤ g 0 → gF g p ≤ 1000000 := fun p hp => hB p (by omega)
  unfold gRaw
  split
  · next e =>
    obtain ⟨ha, hb⟩ := hab (by omega)
    have h1 := hB2 a (by omega)
    have h2 := hB2 b (by omega)
    have h3 := hB2 p hp
    unfold updN
    split
    · omega
    · split <;> omega
  · split
    · exact gWon_lt h8 h5 h6 hB2 hp
    · split
      · next e =>
        obtain ⟨ha, hb⟩ := hab e.1
        exact mMix_lt (by omega) (hB2 a (by omega)) (hB2 b (by omega)) (hB2 p hp)
      · have := hB2 p hp
        omega
section M5
variable {E : xEn} {x n w : Nat} {S : xSt} {g : Nat → Nat} {T : Nat → Int64}
theorem m_thinks (hw : S.1 0 3 = nI w) (h9 : w ≤ 9) (H : iG g) {k a b : Nat} (hk : k ≤ 4) (hab : k < 2 → a < g 0 ∧ b < g 0 ∧ a ≠ b) (hst : 2 < k → gBl g = true) (d : Nat) :
    ∃ T', xsem xT E (d + 5) kX11_thinks [.ref x, .int (nI k), .int (nI a), .int (nI b)] (wW E x shM (mS S w g T), n) = some (.inl none, (wW E x shM (mS S w g T'), n)) ∧ ∀ p, p ≤ g 0 → T' p = lN (gThk (gBl g) k a b g p) := by
  have hr := iG_rg H
  have hF := gRaw_lt (bl := gBl g) (k := k) (a := a) (b := b) H (fun z => ⟨(hab z).1, (hab z).2.1⟩)
  obtain ⟨⟨_, h8, _, _, h4, _, h5, h6, _, h10⟩, hs, _, _, _, hB, _⟩ := H
  obtain ⟨T1, h1, h2⟩ := lm_zero (E := E) (x := x) (n := n) (w := w) (S := S) (g := g) hw (nI k) (nI a) (nI b) (d + 4) 9 0 T (by omega) (fun p hp => absurd hp (Nat.not_lt_zero p))
  have h2 : ∀ p, p ≤ g 0 → T1 p = lI 0 := fun p hp => h2 p (by omega)
  have hx : ∃ T2, qX11_thinks_24 E (d + 4) x (nI k) (nI a) (nI b) (wW E x shM (mS S w g T1), n) = qX11_thinks_48 E (d + 4) x (wW E x shM (mS S w g T2), n) ∧ ∀ p, p ≤ g 0 → T2 p = lN (gRaw (gBl g) k a b g p) := by
    cases hbl : gBl g with
    | true =>
      obtain ⟨T2, h3, h4⟩ := m_unseen (E := E) (x := x) (n := n) hw h9 h8 h5 h6 hs hr hB hk (fun z => hab (by omega)) h2 d
      refine ⟨T2, ?_, h4⟩
      rw [QX11_thinks_24]
      simp (disch := omega) only [gO_9 hM0, gI_9_0 hM0, gP_9_0 hM0, gR_9_1 hM0, gR_9_2 hM0, gI_9_3 hM0, gP_9_3 hM0, gI_9_4 hM0, gP_9_4 hM0, gR_9_5 hM0, gR_9_6 hM0, gR_9_7 hM0, gI_9_8 hM0, gP_9_8 hM0, gI_9_9 hM0, gP_9_9 hM0, gI_9_10 hM0, gP_9_10 hM0, gI_9_11 hM0, gP_9_11 hM0, gI_9_12 hM0, gP_9_12 hM0, gI_9_13 hM0, gP_9_13 hM0, gI_9_14 hM0, gP_9_14 hM0, gI_9_15 hM0, gP_9_15 hM0, gI_9_16 hM0, gP_9_16 hM0, gR_9_17 hM0, gR_9_18 hM0, gR_9_19 hM0, gR_9_20 hM0, gI_9_21 hM0, gP_9_21 hM0, gI_9_22 hM0, gP_9_22 hM0, gI_9_23 hM0, gP_9_23 hM0, gI_9_24 hM0, gP_9_24 hM0, gR_9_25 hM0, gI_9_26 hM0, gP_9_26 hM0, gI_9_27 hM0, gP_9_27 hM0, gI_9_28 hM0, gP_9_28 hM0, gL_9_29 hM0, gP_9_29 hM0, gL_9_30 hM0, gP_9_30 hM0, m_blinksNow hw h9 h10, hbl, Bool.toNat_true, iEQ_f, cI_s, cL_s, cF_s, cD_s, cA_s, cV_s, nI_add, cond_true, cond_false, if_true, if_false]
      rw [h3]
      simp (disch := omega) only [cI_s, cL_s, cF_s, cD_s, cA_s, cV_s, nI_add, cond_true, cond_false, if_true, if_false]
    | false =>
      have hk2 : k ≤ 2 := Nat.not_lt.1 (fun z => by rw [hst z] at hbl; cases hbl)
      obtain ⟨T2, h3, h4⟩ := m_seen (E := E) (x := x) (n := n) hw h9 h8 hs hr hB h4 hk2 (fun z => ⟨(hab z).1, (hab z).2.1⟩) h2 d
      refine ⟨T2, ?_, h4⟩
      rw [QX11_thinks_24]
      simp (disch := omega) only [gO_9 hM0, gI_9_0 hM0, gP_9_0 hM0, gR_9_1 hM0, gR_9_2 hM0, gI_9_3 hM0, gP_9_3 hM0, gI_9_4 hM0, gP_9_4 hM0, gR_9_5 hM0, gR_9_6 hM0, gR_9_7 hM0, gI_9_8 hM0, gP_9_8 hM0, gI_9_9 hM0, gP_9_9 hM0, gI_9_10 hM0, gP_9_10 hM0, gI_9_11 hM0, gP_9_11 hM0, gI_9_12 hM0, gP_9_12 hM0, gI_9_13 hM0, gP_9_13 hM0, gI_9_14 hM0, gP_9_14 hM0, gI_9_15 hM0, gP_9_15 hM0, gI_9_16 hM0, gP_9_16 hM0, gR_9_17 hM0, gR_9_18 hM0, gR_9_19 hM0, gR_9_20 hM0, gI_9_21 hM0, gP_9_21 hM0, gI_9_22 hM0, gP_9_22 hM0, gI_9_23 hM0, gP_9_23 hM0, gI_9_24 hM0, gP_9_24 hM0, gR_9_25 hM0, gI_9_26 hM0, gP_9_26 hM0, gI_9_27 hM0, gP_9_27 hM0, gI_9_28 hM0, gP_9_28 hM0, gL_9_29 hM0, gP_9_29 hM0, gL_9_30 hM0, gP_9_30 hM0, m_blinksNow hw h9 h10, hbl, Bool.toNat_false, iEQ_t, QX11_thinks_41, cI_s, cL_s, cF_s, cD_s, cA_s, cV_s, nI_add, cond_true, cond_false, if_true, if_false]
      rw [h3]
      simp (disch := omega) only [cI_s, cL_s, cF_s, cD_s, cA_s, cV_s, nI_add, cond_true, cond_false, if_true, if_false]
  obtain ⟨T2, h3, h4'⟩ := hx
  obtain ⟨T3, h5', h6'⟩ := m_reduces (E := E) (x := x) (n := n) hw h9 h8 hF h4' (d + 1)
  refine ⟨T3, ?_, h6'⟩
  rw [eX11_thinks, QX11_thinks_0, h1, h3, QX11_thinks_48]
  simp (disch := omega) only [gO_9 hM0, gI_9_0 hM0, gP_9_0 hM0, gR_9_1 hM0, gR_9_2 hM0, gI_9_3 hM0, gP_9_3 hM0, gI_9_4 hM0, gP_9_4 hM0, gR_9_5 hM0, gR_9_6 hM0, gR_9_7 hM0, gI_9_8 hM0, gP_9_8 hM0, gI_9_9 hM0, gP_9_9 hM0, gI_9_10 hM0, gP_9_10 hM0, gI_9_11 hM0, gP_9_11 hM0, gI_9_12 hM0, gP_9_12 hM0, gI_9_13 hM0, gP_9_13 hM0, gI_9_14 hM0, gP_9_14 hM0, gI_9_15 hM0, gP_9_15 hM0, gI_9_16 hM0, gP_9_16 hM0, gR_9_17 hM0, gR_9_18 hM0, gR_9_19 hM0, gR_9_20 hM0, gI_9_21 hM0, gP_9_21 hM0, gI_9_22 hM0, gP_9_22 hM0, gI_9_23 hM0, gP_9_23 hM0, gI_9_24 hM0, gP_9_24 hM0, gR_9_25 hM0, gI_9_26 hM0, gP_9_26 hM0, gI_9_27 hM0, gP_9_27 hM0, gI_9_28 hM0, gP_9_28 hM0, gL_9_29 hM0, gP_9_29 hM0, gL_9_30 hM0, gP_9_30 hM0, cI_s, cL_s, cF_s, cD_s, cA_s, cV_s, nI_add, cond_true, cond_false, if_true, if_false]
  rw [h5']
  rfl
theorem lm_believes (hw : S.1 0 3 = nI w) (h9 : w ≤ 9) (h8 : g 0 ≤ 8) {F : Nat → Nat} (hT : ∀ p, p ≤ g 0 → T p = lN (F p)) (d : Nat) :
    ∀ k i, i + k = g 0 + 1 → qX11_believes_2 E (d + 2) x (nI i) (wW E x shM (mS S w (gBel i F g) T), n) = some (.inl none, (wW E x shM (mS S w (gBel (g 0 + 1) F g) T), n)) := by
  intro k
  induction k with
  | zero =>
    intro i hi
    have hi : i = g 0 + 1 := hi
    subst hi
    rw [QX11_believes_2]
    simp (disch := omega) only [gO_9 hM0, gI_9_0 hM0, gP_9_0 hM0, gR_9_1 hM0, gR_9_2 hM0, gI_9_3 hM0, gP_9_3 hM0, gI_9_4 hM0, gP_9_4 hM0, gR_9_5 hM0, gR_9_6 hM0, gR_9_7 hM0, gI_9_8 hM0, gP_9_8 hM0, gI_9_9 hM0, gP_9_9 hM0, gI_9_10 hM0, gP_9_10 hM0, gI_9_11 hM0, gP_9_11 hM0, gI_9_12 hM0, gP_9_12 hM0, gI_9_13 hM0, gP_9_13 hM0, gI_9_14 hM0, gP_9_14 hM0, gI_9_15 hM0, gP_9_15 hM0, gI_9_16 hM0, gP_9_16 hM0, gR_9_17 hM0, gR_9_18 hM0, gR_9_19 hM0, gR_9_20 hM0, gI_9_21 hM0, gP_9_21 hM0, gI_9_22 hM0, gP_9_22 hM0, gI_9_23 hM0, gP_9_23 hM0, gI_9_24 hM0, gP_9_24 hM0, gR_9_25 hM0, gI_9_26 hM0, gP_9_26 hM0, gI_9_27 hM0, gP_9_27 hM0, gI_9_28 hM0, gP_9_28 hM0, gL_9_29 hM0, gP_9_29 hM0, gL_9_30 hM0, gP_9_30 hM0, m_shells hw h9, gBel_n, iLT_t, QX11_believes_31, cI_s, cL_s, cF_s, cD_s, cA_s, cV_s, nI_add, cond_true, cond_false, if_true, if_false]
  | succ k ih =>
    intro i hi
    rw [QX11_believes_2]
    simp (disch := omega) only [gO_9 hM0, gI_9_0 hM0, gP_9_0 hM0, gR_9_1 hM0, gR_9_2 hM0, gI_9_3 hM0, gP_9_3 hM0, gI_9_4 hM0, gP_9_4 hM0, gR_9_5 hM0, gR_9_6 hM0, gR_9_7 hM0, gI_9_8 hM0, gP_9_8 hM0, gI_9_9 hM0, gP_9_9 hM0, gI_9_10 hM0, gP_9_10 hM0, gI_9_11 hM0, gP_9_11 hM0, gI_9_12 hM0, gP_9_12 hM0, gI_9_13 hM0, gP_9_13 hM0, gI_9_14 hM0, gP_9_14 hM0, gI_9_15 hM0, gP_9_15 hM0, gI_9_16 hM0, gP_9_16 hM0, gR_9_17 hM0, gR_9_18 hM0, gR_9_19 hM0, gR_9_20 hM0, gI_9_21 hM0, gP_9_21 hM0, gI_9_22 hM0, gP_9_22 hM0, gI_9_23 hM0, gP_9_23 hM0, gI_9_24 hM0, gP_9_24 hM0, gR_9_25 hM0, gI_9_26 hM0, gP_9_26 hM0, gI_9_27 hM0, gP_9_27 hM0, gI_9_28 hM0, gP_9_28 hM0, gL_9_29 hM0, gP_9_29 hM0, gL_9_30 hM0, gP_9_30 hM0, m_shells hw h9, gBel_n, iLT_f, aL_w hM3, mS_t, hT i (by omega), lN_i, m_put hw h9, gBel_s, cI_s, cL_s, cF_s, cD_s, cA_s, cV_s, nI_add, cond_true, cond_false, if_true, if_false]
    exact ih (i + 1) (by omega)
theorem m_believes (hw : S.1 0 3 = nI w) (h9 : w ≤ 9) (h8 : g 0 ≤ 8) {F : Nat → Nat} (hT : ∀ p, p ≤ g 0 → T p = lN (F p)) (d : Nat) :
    xsem xT E (d + 3) kX11_believes [.ref x] (wW E x shM (mS S w g T), n) = some (.inl none, (wW E x shM (mS S w (gBel (g 0 + 1) F g) T), n)) := by
  have h := lm_believes (E := E) (x := x) (n := n) hw h9 h8 hT d (g 0 + 1) 0 (by omega)
  rw [gBel_0] at h
  rw [eX11_believes, QX11_believes_0]
  exact h
theorem m_ballBehind (hw : S.1 0 3 = nI w) (h9 : w ≤ 9) (H : iG g) {k a b : Nat} (hk : k ≤ 4) (ha : a < 2 ^ 31) (hb : b < 2 ^ 31) (d : Nat) :
    xsem xT E (d + 3) kX11_ballBehind [.ref x, .int (nI k), .int (nI a), .int (nI b)] (wW E x shM (mS S w g T), n) = some (.inl (some (.int (nI (gBall k a b g)))), (wW E x shM (mS S w g T), n)) := by
  obtain ⟨⟨_, h8, h1, _⟩, _⟩ := H
  rw [eX11_ballBehind, QX11_ballBehind_0]
  unfold gBall
  by_cases k3 : k = 3
  · simp (disch := omega) only [gO_9 hM0, gI_9_0 hM0, gP_9_0 hM0, gR_9_1 hM0, gR_9_2 hM0, gI_9_3 hM0, gP_9_3 hM0, gI_9_4 hM0, gP_9_4 hM0, gR_9_5 hM0, gR_9_6 hM0, gR_9_7 hM0, gI_9_8 hM0, gP_9_8 hM0, gI_9_9 hM0, gP_9_9 hM0, gI_9_10 hM0, gP_9_10 hM0, gI_9_11 hM0, gP_9_11 hM0, gI_9_12 hM0, gP_9_12 hM0, gI_9_13 hM0, gP_9_13 hM0, gI_9_14 hM0, gP_9_14 hM0, gI_9_15 hM0, gP_9_15 hM0, gI_9_16 hM0, gP_9_16 hM0, gR_9_17 hM0, gR_9_18 hM0, gR_9_19 hM0, gR_9_20 hM0, gI_9_21 hM0, gP_9_21 hM0, gI_9_22 hM0, gP_9_22 hM0, gI_9_23 hM0, gP_9_23 hM0, gI_9_24 hM0, gP_9_24 hM0, gR_9_25 hM0, gI_9_26 hM0, gP_9_26 hM0, gI_9_27 hM0, gP_9_27 hM0, gI_9_28 hM0, gP_9_28 hM0, gL_9_29 hM0, gP_9_29 hM0, gL_9_30 hM0, gP_9_30 hM0, m_get hw h9, m_shells hw h9, iEQ_t k3, if_pos k3, cI_s, cL_s, cF_s, cD_s, cA_s, cV_s, nI_add, cond_true, cond_false, if_true, if_false]
  · simp (disch := omega) only [gO_9 hM0, gI_9_0 hM0, gP_9_0 hM0, gR_9_1 hM0, gR_9_2 hM0, gI_9_3 hM0, gP_9_3 hM0, gI_9_4 hM0, gP_9_4 hM0, gR_9_5 hM0, gR_9_6 hM0, gR_9_7 hM0, gI_9_8 hM0, gP_9_8 hM0, gI_9_9 hM0, gP_9_9 hM0, gI_9_10 hM0, gP_9_10 hM0, gI_9_11 hM0, gP_9_11 hM0, gI_9_12 hM0, gP_9_12 hM0, gI_9_13 hM0, gP_9_13 hM0, gI_9_14 hM0, gP_9_14 hM0, gI_9_15 hM0, gP_9_15 hM0, gI_9_16 hM0, gP_9_16 hM0, gR_9_17 hM0, gR_9_18 hM0, gR_9_19 hM0, gR_9_20 hM0, gI_9_21 hM0, gP_9_21 hM0, gI_9_22 hM0, gP_9_22 hM0, gI_9_23 hM0, gP_9_23 hM0, gI_9_24 hM0, gP_9_24 hM0, gR_9_25 hM0, gI_9_26 hM0, gP_9_26 hM0, gI_9_27 hM0, gP_9_27 hM0, gI_9_28 hM0, gP_9_28 hM0, gL_9_29 hM0, gP_9_29 hM0, gL_9_30 hM0, gP_9_30 hM0, m_get hw h9, iEQ_f k3, if_neg k3, QX11_ballBehind_17, cI_s, cL_s, cF_s, cD_s, cA_s, cV_s, nI_add, cond_true, cond_false, if_true, if_false]
    by_cases k4 : k = 4
    · simp (disch := omega) only [iEQ_t k4, if_pos k4, cI_s, cL_s, cF_s, cD_s, cA_s, cV_s, nI_add, cond_true, cond_false, if_true, if_false]
    · simp (disch := omega) only [iEQ_f k4, if_neg k4, QX11_ballBehind_24, cI_s, cL_s, cF_s, cD_s, cA_s, cV_s, nI_add, cond_true, cond_false, if_true, if_false]
      by_cases k0 : k = 0
      · simp (disch := omega) only [iEQ_t k0, if_pos k0, QX11_ballBehind_33, cI_s, cL_s, cF_s, cD_s, cA_s, cV_s, nI_add, cond_true, cond_false, if_true, if_false]
        unfold mBall
        by_cases e1 : g 1 = a
        · simp (disch := omega) only [iEQ_t e1, if_pos e1, QX11_ballBehind_55, cI_s, cL_s, cF_s, cD_s, cA_s, cV_s, nI_add, cond_true, cond_false, if_true, if_false]
        · simp (disch := omega) only [iEQ_f e1, if_neg e1, QX11_ballBehind_43, cI_s, cL_s, cF_s, cD_s, cA_s, cV_s, nI_add, cond_true, cond_false, if_true, if_false]
          by_cases e2 : g 1 = b
          · simp (disch := omega) only [iEQ_t e2, if_pos e2, QX11_ballBehind_55, cI_s, cL_s, cF_s, cD_s, cA_s, cV_s, nI_add, cond_true, cond_false, if_true, if_false]
          · simp (disch := omega) only [iEQ_f e2, if_neg e2, QX11_ballBehind_53, QX11_ballBehind_55, cI_s, cL_s, cF_s, cD_s, cA_s, cV_s, nI_add, cond_true, cond_false, if_true, if_false]
      · simp (disch := omega) only [iEQ_f k0, if_neg k0, QX11_ballBehind_55, cI_s, cL_s, cF_s, cD_s, cA_s, cV_s, nI_add, cond_true, cond_false, if_true, if_false]
theorem updN_12 {g : Nat → Nat} {v p : Nat} : updN g 1 v (12 + p) = g (12 + p) := if_neg (by omega)
theorem gInc_n {k p : Nat} {g : Nat → Nat} (h : p ≠ k) : gInc k g p = g p := if_neg h
theorem gSw1_n {a b p : Nat} {g : Nat → Nat} (ha : p ≠ 12 + a) (hb : p ≠ 12 + b) : gSw1 a b g p = g p := by
  unfold gSw1
  rw [updN_n hb, updN_n ha]
theorem gSt1_0 {k a b : Nat} {g : Nat → Nat} : gSt1 k a b g 0 = g 0 := by
  unfold gSt1 gSwp
  split
  · rw [gInc_n (by omega), gInc_n (by omega), gSw1_n (by omega) (by omega), updN_n (by omega)]
  · rw [updN_n (by omega)]
theorem m_steps (hw : S.1 0 3 = nI w) (h9 : w ≤ 9) (H : iG g) {k a b : Nat} (hk : k ≤ 4) (ha : a < 2 ^ 31) (hb : b < 2 ^ 31) (hab : k < 2 → a < g 0 ∧ b < g 0 ∧ a ≠ b) (hst : 2 < k → gBl g = true) (d : Nat) :
    ∃ T', xsem xT E (d + 6) kX11_steps [.ref x, .int (nI k), .int (nI a), .int (nI b)] (wW E x shM (mS S w g T), n) = some (.inl (some (.int (nI (gBl g).toNat))), (wW E x shM (mS S w (gStep (gBl g) k a b g) T'), n)) := by
  obtain ⟨T1, h1, h2⟩ := m_thinks (E := E) (x := x) (n := n) (T := T) hw h9 H hk hab hst d
  have H' := H
  obtain ⟨⟨_, h8, _, _, _, _, _, _, _, h10⟩, hs, _⟩ := H'
  refine ⟨T1, ?_⟩
  have hz := gSt1_0 (k := k) (a := a) (b := b) (g := g)
  have hb3 := m_believes (E := E) (x := x) (n := n) (S := S) (w := w) (g := gSt1 k a b g) (T := T1) (F := gThk (gBl g) k a b g) hw h9 (by omega) (fun p hp => h2 p (by omega)) (d + 2)
  rw [hz] at hb3
  have hf : qX11_steps_109 E (d + 5) x (nI (gBl g).toNat) (wW E x shM (mS S w (gSt1 k a b g) T1), n) = some (.inl (some (.int (nI (gBl g).toNat))), (wW E x shM (mS S w (gStep (gBl g) k a b g) T1), n)) := by
    rw [QX11_steps_109]
    simp (disch := omega) only [gO_9 hM0, gI_9_0 hM0, gP_9_0 hM0, gR_9_1 hM0, gR_9_2 hM0, gI_9_3 hM0, gP_9_3 hM0, gI_9_4 hM0, gP_9_4 hM0, gR_9_5 hM0, gR_9_6 hM0, gR_9_7 hM0, gI_9_8 hM0, gP_9_8 hM0, gI_9_9 hM0, gP_9_9 hM0, gI_9_10 hM0, gP_9_10 hM0, gI_9_11 hM0, gP_9_11 hM0, gI_9_12 hM0, gP_9_12 hM0, gI_9_13 hM0, gP_9_13 hM0, gI_9_14 hM0, gP_9_14 hM0, gI_9_15 hM0, gP_9_15 hM0, gI_9_16 hM0, gP_9_16 hM0, gR_9_17 hM0, gR_9_18 hM0, gR_9_19 hM0, gR_9_20 hM0, gI_9_21 hM0, gP_9_21 hM0, gI_9_22 hM0, gP_9_22 hM0, gI_9_23 hM0, gP_9_23 hM0, gI_9_24 hM0, gP_9_24 hM0, gR_9_25 hM0, gI_9_26 hM0, gP_9_26 hM0, gI_9_27 hM0, gP_9_27 hM0, gI_9_28 hM0, gP_9_28 hM0, gL_9_29 hM0, gP_9_29 hM0, gL_9_30 hM0, gP_9_30 hM0, cI_s, cL_s, cF_s, cD_s, cA_s, cV_s, nI_add, cond_true, cond_false, if_true, if_false]
    rw [hb3]
    simp (disch := omega) only [gO_9 hM0, gI_9_0 hM0, gP_9_0 hM0, gR_9_1 hM0, gR_9_2 hM0, gI_9_3 hM0, gP_9_3 hM0, gI_9_4 hM0, gP_9_4 hM0, gR_9_5 hM0, gR_9_6 hM0, gR_9_7 hM0, gI_9_8 hM0, gP_9_8 hM0, gI_9_9 hM0, gP_9_9 hM0, gI_9_10 hM0, gP_9_10 hM0, gI_9_11 hM0, gP_9_11 hM0, gI_9_12 hM0, gP_9_12 hM0, gI_9_13 hM0, gP_9_13 hM0, gI_9_14 hM0, gP_9_14 hM0, gI_9_15 hM0, gP_9_15 hM0, gI_9_16 hM0, gP_9_16 hM0, gR_9_17 hM0, gR_9_18 hM0, gR_9_19 hM0, gR_9_20 hM0, gI_9_21 hM0, gP_9_21 hM0, gI_9_22 hM0, gP_9_22 hM0, gI_9_23 hM0, gP_9_23 hM0, gI_9_24 hM0, gP_9_24 hM0, gR_9_25 hM0, gI_9_26 hM0, gP_9_26 hM0, gI_9_27 hM0, gP_9_27 hM0, gI_9_28 hM0, gP_9_28 hM0, gL_9_29 hM0, gP_9_29 hM0, gL_9_30 hM0, gP_9_30 hM0, m_get hw h9, m_put hw h9, cI_s, cL_s, cF_s, cD_s, cA_s, cV_s, nI_add, cond_true, cond_false, if_true, if_false]
    cases hbl : gBl g
    · simp (disch := omega) only [Bool.toNat_false, iEQ_t, QX11_steps_141, QX11_steps_142, gO_9 hM0, gI_9_0 hM0, gP_9_0 hM0, gR_9_1 hM0, gR_9_2 hM0, gI_9_3 hM0, gP_9_3 hM0, gI_9_4 hM0, gP_9_4 hM0, gR_9_5 hM0, gR_9_6 hM0, gR_9_7 hM0, gI_9_8 hM0, gP_9_8 hM0, gI_9_9 hM0, gP_9_9 hM0, gI_9_10 hM0, gP_9_10 hM0, gI_9_11 hM0, gP_9_11 hM0, gI_9_12 hM0, gP_9_12 hM0, gI_9_13 hM0, gP_9_13 hM0, gI_9_14 hM0, gP_9_14 hM0, gI_9_15 hM0, gP_9_15 hM0, gI_9_16 hM0, gP_9_16 hM0, gR_9_17 hM0, gR_9_18 hM0, gR_9_19 hM0, gR_9_20 hM0, gI_9_21 hM0, gP_9_21 hM0, gI_9_22 hM0, gP_9_22 hM0, gI_9_23 hM0, gP_9_23 hM0, gI_9_24 hM0, gP_9_24 hM0, gR_9_25 hM0, gI_9_26 hM0, gP_9_26 hM0, gI_9_27 hM0, gP_9_27 hM0, gI_9_28 hM0, gP_9_28 hM0, gL_9_29 hM0, gP_9_29 hM0, gL_9_30 hM0, gP_9_30 hM0, m_put hw h9, xret5_0, cI_s, cL_s, cF_s, cD_s, cA_s, cV_s, nI_add, cond_true, cond_false, if_true, if_false]
      rfl
    · simp (disch := omega) only [Bool.toNat_true, iEQ_f, QX11_steps_142, gO_9 hM0, gI_9_0 hM0, gP_9_0 hM0, gR_9_1 hM0, gR_9_2 hM0, gI_9_3 hM0, gP_9_3 hM0, gI_9_4 hM0, gP_9_4 hM0, gR_9_5 hM0, gR_9_6 hM0, gR_9_7 hM0, gI_9_8 hM0, gP_9_8 hM0, gI_9_9 hM0, gP_9_9 hM0, gI_9_10 hM0, gP_9_10 hM0, gI_9_11 hM0, gP_9_11 hM0, gI_9_12 hM0, gP_9_12 hM0, gI_9_13 hM0, gP_9_13 hM0, gI_9_14 hM0, gP_9_14 hM0, gI_9_15 hM0, gP_9_15 hM0, gI_9_16 hM0, gP_9_16 hM0, gR_9_17 hM0, gR_9_18 hM0, gR_9_19 hM0, gR_9_20 hM0, gI_9_21 hM0, gP_9_21 hM0, gI_9_22 hM0, gP_9_22 hM0, gI_9_23 hM0, gP_9_23 hM0, gI_9_24 hM0, gP_9_24 hM0, gR_9_25 hM0, gI_9_26 hM0, gP_9_26 hM0, gI_9_27 hM0, gP_9_27 hM0, gI_9_28 hM0, gP_9_28 hM0, gL_9_29 hM0, gP_9_29 hM0, gL_9_30 hM0, gP_9_30 hM0, m_put hw h9, xret5_1, cI_s, cL_s, cF_s, cD_s, cA_s, cV_s, nI_add, cond_true, cond_false, if_true, if_false]
      rfl
  rw [eX11_steps, QX11_steps_0, ← hf]
  simp (disch := omega) only [gO_9 hM0, gI_9_0 hM0, gP_9_0 hM0, gR_9_1 hM0, gR_9_2 hM0, gI_9_3 hM0, gP_9_3 hM0, gI_9_4 hM0, gP_9_4 hM0, gR_9_5 hM0, gR_9_6 hM0, gR_9_7 hM0, gI_9_8 hM0, gP_9_8 hM0, gI_9_9 hM0, gP_9_9 hM0, gI_9_10 hM0, gP_9_10 hM0, gI_9_11 hM0, gP_9_11 hM0, gI_9_12 hM0, gP_9_12 hM0, gI_9_13 hM0, gP_9_13 hM0, gI_9_14 hM0, gP_9_14 hM0, gI_9_15 hM0, gP_9_15 hM0, gI_9_16 hM0, gP_9_16 hM0, gR_9_17 hM0, gR_9_18 hM0, gR_9_19 hM0, gR_9_20 hM0, gI_9_21 hM0, gP_9_21 hM0, gI_9_22 hM0, gP_9_22 hM0, gI_9_23 hM0, gP_9_23 hM0, gI_9_24 hM0, gP_9_24 hM0, gR_9_25 hM0, gI_9_26 hM0, gP_9_26 hM0, gI_9_27 hM0, gP_9_27 hM0, gI_9_28 hM0, gP_9_28 hM0, gL_9_29 hM0, gP_9_29 hM0, gL_9_30 hM0, gP_9_30 hM0, m_blinksNow hw h9 h10, cI_s, cL_s, cF_s, cD_s, cA_s, cV_s, nI_add, cond_true, cond_false, if_true, if_false]
  rw [h1]
  simp (disch := omega) only [gO_9 hM0, gI_9_0 hM0, gP_9_0 hM0, gR_9_1 hM0, gR_9_2 hM0, gI_9_3 hM0, gP_9_3 hM0, gI_9_4 hM0, gP_9_4 hM0, gR_9_5 hM0, gR_9_6 hM0, gR_9_7 hM0, gI_9_8 hM0, gP_9_8 hM0, gI_9_9 hM0, gP_9_9 hM0, gI_9_10 hM0, gP_9_10 hM0, gI_9_11 hM0, gP_9_11 hM0, gI_9_12 hM0, gP_9_12 hM0, gI_9_13 hM0, gP_9_13 hM0, gI_9_14 hM0, gP_9_14 hM0, gI_9_15 hM0, gP_9_15 hM0, gI_9_16 hM0, gP_9_16 hM0, gR_9_17 hM0, gR_9_18 hM0, gR_9_19 hM0, gR_9_20 hM0, gI_9_21 hM0, gP_9_21 hM0, gI_9_22 hM0, gP_9_22 hM0, gI_9_23 hM0, gP_9_23 hM0, gI_9_24 hM0, gP_9_24 hM0, gR_9_25 hM0, gI_9_26 hM0, gP_9_26 hM0, gI_9_27 hM0, gP_9_27 hM0, gI_9_28 hM0, gP_9_28 hM0, gL_9_29 hM0, gP_9_29 hM0, gL_9_30 hM0, gP_9_30 hM0, m_ballBehind hw h9 H, m_put hw h9, cI_s, cL_s, cF_s, cD_s, cA_s, cV_s, nI_add, cond_true, cond_false, if_true, if_false]
  unfold gSt1
  by_cases k0 : k = 0
  · obtain ⟨ha2, hb2, _⟩ := hab (by omega)
    have hx := hs a (by omega)
    have hy := hs b (by omega)
    rw [if_pos k0]
    simp (disch := omega) only [iEQ_t k0, m_get hw h9, gO_9 hM0, gI_9_0 hM0, gP_9_0 hM0, gR_9_1 hM0, gR_9_2 hM0, gI_9_3 hM0, gP_9_3 hM0, gI_9_4 hM0, gP_9_4 hM0, gR_9_5 hM0, gR_9_6 hM0, gR_9_7 hM0, gI_9_8 hM0, gP_9_8 hM0, gI_9_9 hM0, gP_9_9 hM0, gI_9_10 hM0, gP_9_10 hM0, gI_9_11 hM0, gP_9_11 hM0, gI_9_12 hM0, gP_9_12 hM0, gI_9_13 hM0, gP_9_13 hM0, gI_9_14 hM0, gP_9_14 hM0, gI_9_15 hM0, gP_9_15 hM0, gI_9_16 hM0, gP_9_16 hM0, gR_9_17 hM0, gR_9_18 hM0, gR_9_19 hM0, gR_9_20 hM0, gI_9_21 hM0, gP_9_21 hM0, gI_9_22 hM0, gP_9_22 hM0, gI_9_23 hM0, gP_9_23 hM0, gI_9_24 hM0, gP_9_24 hM0, gR_9_25 hM0, gI_9_26 hM0, gP_9_26 hM0, gI_9_27 hM0, gP_9_27 hM0, gI_9_28 hM0, gP_9_28 hM0, gL_9_29 hM0, gP_9_29 hM0, gL_9_30 hM0, gP_9_30 hM0, updN_12, m_put hw h9, cI_s, cL_s, cF_s, cD_s, cA_s, cV_s, nI_add, cond_true, cond_false, if_true, if_false]
    unfold gSwp gInc gSw1
    simp only [updN_12]
  · rw [if_neg k0]
    simp (disch := omega) only [iEQ_f k0, cI_s, cL_s, cF_s, cD_s, cA_s, cV_s, nI_add, cond_true, cond_false, if_true, if_false]
end M5
