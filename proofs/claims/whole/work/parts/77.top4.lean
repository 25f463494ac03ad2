/-! CALLS THAT ONLY ASK: suspect, rows, checksum. -/
def cntP (P : Nat → Bool) : Nat → Nat
  | 0 => 0
  | i + 1 => if P i then cntP P i + 1 else cntP P i
theorem cnt_le {P Q : Nat → Bool} : ∀ m, (∀ i, i < m → P i = true → Q i = true) → cntP P m ≤ cntP Q m := by
  intro m
  induction m with
  | zero => exact fun _ => Nat.le_refl _
  | succ m ih =>
    intro h
    have ih := ih (fun i hi => h i (by omega))
    rw [show cntP P (m + 1) = if P m then cntP P m + 1 else cntP P m from rfl, show cntP Q (m + 1) = if Q m then cntP Q m + 1 else cntP Q m from rfl]
    by_cases c : P m = true
    · rw [if_pos c, if_pos (h m (by omega) c)]; omega
    · rw [if_neg c]; split <;> omega
theorem cnt_lt {P Q : Nat → Bool} {j : Nat} (hp : ¬ P j = true) (hq : Q j = true) : ∀ m, j < m → (∀ i, i < m → P i = true → Q i = true) → cntP P m < cntP Q m := by
  intro m
  induction m with
  | zero => exact fun h => absurd h (Nat.not_lt_zero _)
  | succ m ih =>
    intro hj h
    rw [show cntP P (m + 1) = if P m then cntP P m + 1 else cntP P m from rfl, show cntP Q (m + 1) = if Q m then cntP Q m + 1 else cntP Q m from rfl]
    by_cases e : j = m
    · subst e
      rw [if_neg hp, if_pos hq]
      have := cnt_le (P := P) (Q := Q) j (fun i hi => h i (by omega))
      omega
    · have ih := ih (by omega) (fun i hi => h i (by omega))
      by_cases c : P m = true
      · rw [if_pos c, if_pos (h m (by omega) c)]; omega
      · rw [if_neg c]; split <;> omega
theorem mAhead_c (f : Nat → Nat) (p : Nat) : ∀ m, mAhead f p m = cntP (fun i => decide (f p < f i ∨ (f i = f p ∧ i < p))) m := by
  intro m
  induction m with
  | zero => rfl
  | succ m ih =>
    rw [show mAhead f p (m + 1) = if f p < f m ∨ (f m = f p ∧ m < p) then mAhead f p m + 1 else mAhead f p m from rfl, show cntP (fun i => decide (f p < f i ∨ (f i = f p ∧ i < p))) (m + 1) = if decide (f p < f m ∨ (f m = f p ∧ m < p)) = true then cntP (fun i => decide (f p < f i ∨ (f i = f p ∧ i < p))) m + 1 else cntP (fun i => decide (f p < f i ∨ (f i = f p ∧ i < p))) m from rfl, ih]
    by_cases c : f p < f m ∨ (f m = f p ∧ m < p)
    · rw [if_pos c, if_pos (decide_eq_true c)]
    · rw [if_neg c, if_neg (by rw [decide_eq_false c]; decide)]
theorem mCnt_c (f : Nat → Nat) : ∀ m, mCnt f m = cntP (fun i => decide (0 < f i)) m := by
  intro m
  induction m with
  | zero => rfl
  | succ m ih =>
    rw [show mCnt f (m + 1) = if 0 < f m then mCnt f m + 1 else mCnt f m from rfl, show cntP (fun i => decide (0 < f i)) (m + 1) = if decide (0 < f m) = true then cntP (fun i => decide (0 < f i)) m + 1 else cntP (fun i => decide (0 < f i)) m from rfl, ih]
    by_cases c : 0 < f m
    · rw [if_pos c, if_pos (decide_eq_true c)]
    · rw [if_neg c, if_neg (by rw [decide_eq_false c]; decide)]
theorem ahead_lt {f : Nat → Nat} {p m : Nat} (hp : p < m) (h : 0 < f p) : mAhead f p m < mCnt f m := by
  rw [mAhead_c, mCnt_c]
  refine cnt_lt (j := p) ?_ (decide_eq_true h) m hp (fun i _ hi => ?_)
  · rw [decide_eq_false (by omega)]
    decide
  · have := of_decide_eq_true hi
    exact decide_eq_true (by omega)
theorem ahead_ge {f : Nat → Nat} {p m : Nat} (h : f p = 0) : mCnt f m ≤ mAhead f p m := by
  rw [mAhead_c, mCnt_c]
  refine cnt_le m (fun i _ hi => ?_)
  have := of_decide_eq_true hi
  exact decide_eq_true (by omega)
theorem ahead_ex {f : Nat → Nat} : ∀ m k, k < mCnt f m → ∃ p, p < m ∧ 0 < f p ∧ mAhead f p m = k := by
  intro m
  induction m with
  | zero => exact fun k h => absurd h (Nat.not_lt_zero _)
  | succ m ih =>
    intro k hk
    rw [show mCnt f (m + 1) = if 0 < f m then mCnt f m + 1 else mCnt f m from rfl] at hk
    have hs : ∀ p, p < m → mAhead f p (m + 1) = if f p < f m then mAhead f p m + 1 else mAhead f p m := fun p hp => by
      rw [show mAhead f p (m + 1) = if f p < f m ∨ (f m = f p ∧ m < p) then mAhead f p m + 1 else mAhead f p m from rfl]
      by_cases c : f p < f m
      · rw [if_pos c, if_pos (Or.inl c)]
      · rw [if_neg c, if_neg (by omega)]
    by_cases c : 0 < f m
    · rw [if_pos c] at hk
      have hm : mAhead f m (m + 1) = mAhead f m m := by
        rw [show mAhead f m (m + 1) = if f m < f m ∨ (f m = f m ∧ m < m) then mAhead f m m + 1 else mAhead f m m from rfl, if_neg (by omega)]
      by_cases e : k = mAhead f m m
      · exact ⟨m, by omega, c, by rw [hm, e]⟩
      · by_cases hlt : k < mAhead f m m
        · have hle : mAhead f m m ≤ mCnt f m := by
            rw [mAhead_c, mCnt_c]
            refine cnt_le m (fun i _ hi => ?_)
            have := of_decide_eq_true hi
            exact decide_eq_true (by omega)
          obtain ⟨p, p1, p2, p3⟩ := ih k (by omega)
          refine ⟨p, by omega, p2, ?_⟩
          rw [hs p p1, if_neg (fun z => ?_), p3]
          have : mAhead f m m ≤ mAhead f p m := by
            rw [mAhead_c, mAhead_c]
            refine cnt_le m (fun i _ hi => ?_)
            have := of_decide_eq_true hi
            exact decide_eq_true (by omega)
          omega
        · obtain ⟨p, p1, p2, p3⟩ := ih (k - 1) (by omega)
          refine ⟨p, by omega, p2, ?_⟩
          rw [hs p p1]
          by_cases z : f p < f m
          · rw [if_pos z, p3]; omega
          · have : mAhead f p m < mAhead f m m := by
              rw [mAhead_c, mAhead_c]
              refine cnt_lt (j := p) ?_ (decide_eq_true (by omega)) m p1 (fun i _ hi => ?_)
              · rw [decide_eq_false (by omega)]
                decide
              · have := of_decide_eq_true hi
                exact decide_eq_true (by omega)
            omega
    · rw [if_neg c] at hk
      obtain ⟨p, p1, p2, p3⟩ := ih k hk
      refine ⟨p, by omega, p2, ?_⟩
      rw [hs p p1, if_neg (by omega), p3]
theorem mRank_no {f : Nat → Nat} {pl : Nat} {r : Int32} : ∀ k i, (∀ p, i ≤ p → p < i + k → ¬ (0 < f p ∧ nI (mAhead f p pl) = r)) → mRank f pl r k i = -1 := by
  intro k
  induction k with
  | zero => exact fun i _ => rfl
  | succ k ih =>
    intro i h
    rw [show mRank f pl r (k + 1) i = if 0 < f i ∧ nI (mAhead f i pl) = r then nI i else mRank f pl r k (i + 1) from rfl, if_neg (h i (Nat.le_refl _) (by omega))]
    exact ih (i + 1) (fun p a b => h p (by omega) (by omega))
theorem mRank_yes {f : Nat → Nat} {pl p : Nat} {r : Int32} (h : 0 < f p ∧ nI (mAhead f p pl) = r) : ∀ k i, i ≤ p → p < i + k → ∃ q, q < i + k ∧ mRank f pl r k i = nI q := by
  intro k
  induction k with
  | zero => exact fun i a b => by omega
  | succ k ih =>
    intro i a b
    rw [show mRank f pl r (k + 1) i = if 0 < f i ∧ nI (mAhead f i pl) = r then nI i else mRank f pl r k (i + 1) from rfl]
    by_cases c : 0 < f i ∧ nI (mAhead f i pl) = r
    · rw [if_pos c]; exact ⟨i, by omega, rfl⟩
    · rw [if_neg c]
      have : i ≠ p := fun z => c (by rw [z]; exact h)
      obtain ⟨q, h1, h2⟩ := ih (i + 1) (by omega) (by omega)
      exact ⟨q, by omega, h2⟩
theorem mCnt_le (f : Nat → Nat) : ∀ m, mCnt f m ≤ m := by
  intro m
  induction m with
  | zero => exact Nat.le_refl _
  | succ m ih => rw [show mCnt f (m + 1) = if 0 < f m then mCnt f m + 1 else mCnt f m from rfl]; split <;> omega
theorem mAhead_le (f : Nat → Nat) (p : Nat) : ∀ m, mAhead f p m ≤ m := by
  intro m
  induction m with
  | zero => exact Nat.le_refl _
  | succ m ih => rw [show mAhead f p (m + 1) = if f p < f m ∨ (f m = f p ∧ m < p) then mAhead f p m + 1 else mAhead f p m from rfl]; split <;> omega
section T4
variable {E : xEn} {x y n m : Nat} {sh : Nat → Option xSh} {S M : xSt} {Bd : Nat}
theorem lm_sus1 {g : Nat → Nat} {w : Nat} (G : GM M w g) (I : iG g) (a : Int32) {p : Nat} (hp : p ≤ g 0) (u : Nat) : ∀ k i, i + k = g 0 + 1 → qX11_suspect_41 E (u + 2) y a (nI p) (nI (mAhead (gF g) p i)) (nI i) (wW E y shM M, m) = qX11_suspect_100 E (u + 2) y a (nI p) (nI (mAhead (gF g) p (g 0 + 1))) (wW E y shM M, m) := by
  have h8 := I.1.2.1
  have hp1 := I.2.2.2.2.2.1 p (by omega)
  intro k
  induction k with
  | zero =>
    intro i hi
    have hi : i = g 0 + 1 := hi
    subst hi
    rw [QX11_suspect_41]
    simp (disch := omega) only [gO_9 hM0, gI_9_0 hM0, gP_9_0 hM0, gR_9_1 hM0, gR_9_2 hM0, gI_9_3 hM0, gP_9_3 hM0, gI_9_4 hM0, gP_9_4 hM0, gR_9_5 hM0, gR_9_6 hM0, gR_9_7 hM0, gI_9_8 hM0, gP_9_8 hM0, gI_9_9 hM0, gP_9_9 hM0, gI_9_10 hM0, gP_9_10 hM0, gI_9_11 hM0, gP_9_11 hM0, gI_9_12 hM0, gP_9_12 hM0, gI_9_13 hM0, gP_9_13 hM0, gI_9_14 hM0, gP_9_14 hM0, gI_9_15 hM0, gP_9_15 hM0, gI_9_16 hM0, gP_9_16 hM0, gR_9_17 hM0, gR_9_18 hM0, gR_9_19 hM0, gR_9_20 hM0, gI_9_21 hM0, gP_9_21 hM0, gI_9_22 hM0, gP_9_22 hM0, gI_9_23 hM0, gP_9_23 hM0, gI_9_24 hM0, gP_9_24 hM0, gR_9_25 hM0, gI_9_26 hM0, gP_9_26 hM0, gI_9_27 hM0, gP_9_27 hM0, gI_9_28 hM0, gP_9_28 hM0, gL_9_29 hM0, gP_9_29 hM0, gL_9_30 hM0, gP_9_30 hM0, g_shells G, iLT_t, cI_s, cL_s, cF_s, cD_s, cA_s, cV_s, nI_add, cond_true, cond_false, if_true, if_false]
  | succ k ih =>
    intro i hi
    have ih := ih (i + 1) (by omega)
    have hi1 := I.2.2.2.2.2.1 i (by omega)
    have hcmp : (nI 0 < lg_cmp (lN (g (36 + i))) (lN (g (36 + p)))) = (g (36 + p) < g (36 + i)) := by
      refine propext ⟨fun z => ?_, fun z => ?_⟩
      · by_cases c : g (36 + i) ≤ g (36 + p)
        · exact absurd ((lg_cmp_le _ _).2 ((pk_lLE (by omega) (by omega)).2 c)) (Int32.not_le.2 z)
        · omega
      · refine Int32.not_le.1 (fun h1 => ?_)
        have := (pk_lLE (by omega) (by omega)).1 ((lg_cmp_le _ _).1 h1)
        omega
    have ha : mAhead (gF g) p (i + 1) = if g (36 + p) < g (36 + i) ∨ (g (36 + i) = g (36 + p) ∧ i < p) then mAhead (gF g) p i + 1 else mAhead (gF g) p i := rfl
    rw [ha] at ih
    rw [QX11_suspect_41]
    simp (disch := omega) only [gO_9 hM0, gI_9_0 hM0, gP_9_0 hM0, gR_9_1 hM0, gR_9_2 hM0, gI_9_3 hM0, gP_9_3 hM0, gI_9_4 hM0, gP_9_4 hM0, gR_9_5 hM0, gR_9_6 hM0, gR_9_7 hM0, gI_9_8 hM0, gP_9_8 hM0, gI_9_9 hM0, gP_9_9 hM0, gI_9_10 hM0, gP_9_10 hM0, gI_9_11 hM0, gP_9_11 hM0, gI_9_12 hM0, gP_9_12 hM0, gI_9_13 hM0, gP_9_13 hM0, gI_9_14 hM0, gP_9_14 hM0, gI_9_15 hM0, gP_9_15 hM0, gI_9_16 hM0, gP_9_16 hM0, gR_9_17 hM0, gR_9_18 hM0, gR_9_19 hM0, gR_9_20 hM0, gI_9_21 hM0, gP_9_21 hM0, gI_9_22 hM0, gP_9_22 hM0, gI_9_23 hM0, gP_9_23 hM0, gI_9_24 hM0, gP_9_24 hM0, gR_9_25 hM0, gI_9_26 hM0, gP_9_26 hM0, gI_9_27 hM0, gP_9_27 hM0, gI_9_28 hM0, gP_9_28 hM0, gL_9_29 hM0, gP_9_29 hM0, gL_9_30 hM0, gP_9_30 hM0, g_shells G, iLT_f, cI_s, cL_s, cF_s, cD_s, cA_s, cV_s, nI_add, cond_true, cond_false, if_true, if_false]
    rw [g_had G I (show i ≤ 8 by omega)]
    simp (disch := omega) only [gO_9 hM0, gI_9_0 hM0, gP_9_0 hM0, gR_9_1 hM0, gR_9_2 hM0, gI_9_3 hM0, gP_9_3 hM0, gI_9_4 hM0, gP_9_4 hM0, gR_9_5 hM0, gR_9_6 hM0, gR_9_7 hM0, gI_9_8 hM0, gP_9_8 hM0, gI_9_9 hM0, gP_9_9 hM0, gI_9_10 hM0, gP_9_10 hM0, gI_9_11 hM0, gP_9_11 hM0, gI_9_12 hM0, gP_9_12 hM0, gI_9_13 hM0, gP_9_13 hM0, gI_9_14 hM0, gP_9_14 hM0, gI_9_15 hM0, gP_9_15 hM0, gI_9_16 hM0, gP_9_16 hM0, gR_9_17 hM0, gR_9_18 hM0, gR_9_19 hM0, gR_9_20 hM0, gI_9_21 hM0, gP_9_21 hM0, gI_9_22 hM0, gP_9_22 hM0, gI_9_23 hM0, gP_9_23 hM0, gI_9_24 hM0, gP_9_24 hM0, gR_9_25 hM0, gI_9_26 hM0, gP_9_26 hM0, gI_9_27 hM0, gP_9_27 hM0, gI_9_28 hM0, gP_9_28 hM0, gL_9_29 hM0, gP_9_29 hM0, gL_9_30 hM0, gP_9_30 hM0, cI_s, cL_s, cF_s, cD_s, cA_s, cV_s, nI_add, cond_true, cond_false, if_true, if_false]
    rw [g_had G I (show p ≤ 8 by omega)]
    simp (disch := omega) only [hcmp, cI_s, cL_s, cF_s, cD_s, cA_s, cV_s, nI_add, cond_true, cond_false, if_true, if_false]
    by_cases c : g (36 + p) < g (36 + i)
    · rw [if_pos (Or.inl c)] at ih
      rw [if_pos c, QX11_suspect_87, QX11_suspect_92, nI_add, nI_add]
      exact ih
    · rw [if_neg c]
      simp (disch := omega) only [gO_9 hM0, gI_9_0 hM0, gP_9_0 hM0, gR_9_1 hM0, gR_9_2 hM0, gI_9_3 hM0, gP_9_3 hM0, gI_9_4 hM0, gP_9_4 hM0, gR_9_5 hM0, gR_9_6 hM0, gR_9_7 hM0, gI_9_8 hM0, gP_9_8 hM0, gI_9_9 hM0, gP_9_9 hM0, gI_9_10 hM0, gP_9_10 hM0, gI_9_11 hM0, gP_9_11 hM0, gI_9_12 hM0, gP_9_12 hM0, gI_9_13 hM0, gP_9_13 hM0, gI_9_14 hM0, gP_9_14 hM0, gI_9_15 hM0, gP_9_15 hM0, gI_9_16 hM0, gP_9_16 hM0, gR_9_17 hM0, gR_9_18 hM0, gR_9_19 hM0, gR_9_20 hM0, gI_9_21 hM0, gP_9_21 hM0, gI_9_22 hM0, gP_9_22 hM0, gI_9_23 hM0, gP_9_23 hM0, gI_9_24 hM0, gP_9_24 hM0, gR_9_25 hM0, gI_9_26 hM0, gP_9_26 hM0, gI_9_27 hM0, gP_9_27 hM0, gI_9_28 hM0, gP_9_28 hM0, gL_9_29 hM0, gP_9_29 hM0, gL_9_30 hM0, gP_9_30 hM0, cI_s, cL_s, cF_s, cD_s, cA_s, cV_s, nI_add, cond_true, cond_false, if_true, if_false]
      rw [g_had G I (show i ≤ 8 by omega)]
      simp (disch := omega) only [gO_9 hM0, gI_9_0 hM0, gP_9_0 hM0, gR_9_1 hM0, gR_9_2 hM0, gI_9_3 hM0, gP_9_3 hM0, gI_9_4 hM0, gP_9_4 hM0, gR_9_5 hM0, gR_9_6 hM0, gR_9_7 hM0, gI_9_8 hM0, gP_9_8 hM0, gI_9_9 hM0, gP_9_9 hM0, gI_9_10 hM0, gP_9_10 hM0, gI_9_11 hM0, gP_9_11 hM0, gI_9_12 hM0, gP_9_12 hM0, gI_9_13 hM0, gP_9_13 hM0, gI_9_14 hM0, gP_9_14 hM0, gI_9_15 hM0, gP_9_15 hM0, gI_9_16 hM0, gP_9_16 hM0, gR_9_17 hM0, gR_9_18 hM0, gR_9_19 hM0, gR_9_20 hM0, gI_9_21 hM0, gP_9_21 hM0, gI_9_22 hM0, gP_9_22 hM0, gI_9_23 hM0, gP_9_23 hM0, gI_9_24 hM0, gP_9_24 hM0, gR_9_25 hM0, gI_9_26 hM0, gP_9_26 hM0, gI_9_27 hM0, gP_9_27 hM0, gI_9_28 hM0, gP_9_28 hM0, gL_9_29 hM0, gP_9_29 hM0, gL_9_30 hM0, gP_9_30 hM0, cI_s, cL_s, cF_s, cD_s, cA_s, cV_s, nI_add, cond_true, cond_false, if_true, if_false]
      rw [g_had G I (show p ≤ 8 by omega)]
      simp (disch := omega) only [cI_s, cL_s, cF_s, cD_s, cA_s, cV_s, nI_add, cond_true, cond_false, if_true, if_false]
      by_cases c2 : g (36 + i) = g (36 + p)
      · rw [lcE_t c2]
        by_cases c3 : i < p
        · rw [if_pos (Or.inr ⟨c2, c3⟩)] at ih
          rw [iLE_f c3 (by omega), QX11_suspect_87, QX11_suspect_92, nI_add, nI_add]
          exact ih
        · rw [if_neg (by omega)] at ih
          rw [iLE_t (by omega) (by omega), QX11_suspect_91, QX11_suspect_92, nI_add, nI_add, Nat.add_zero]
          exact ih
      · rw [if_neg (by omega)] at ih
        rw [lcE_f c2 (by omega) (by omega), QX11_suspect_91, QX11_suspect_92, nI_add, nI_add, Nat.add_zero]
        exact ih
theorem lm_sus2 {g : Nat → Nat} {w : Nat} (G : GM M w g) (I : iG g) {r : Nat} (hr : r < mCnt (gF g) (g 0 + 1)) (u : Nat) : ∀ k i, i + k = g 0 + 1 → qX11_suspect_28 E (u + 2) y (nI r) (nI i) (wW E y shM M, m) = some (.inl (some (.int (mRank (gF g) (g 0 + 1) (nI r) k i))), (wW E y shM M, m)) := by
  have h8 := I.1.2.1
  have hcl := mCnt_le (gF g) (g 0 + 1)
  intro k
  induction k with
  | zero =>
    intro i hi
    have hi : i = g 0 + 1 := hi
    subst hi
    rw [QX11_suspect_28]
    simp (disch := omega) only [gO_9 hM0, gI_9_0 hM0, gP_9_0 hM0, gR_9_1 hM0, gR_9_2 hM0, gI_9_3 hM0, gP_9_3 hM0, gI_9_4 hM0, gP_9_4 hM0, gR_9_5 hM0, gR_9_6 hM0, gR_9_7 hM0, gI_9_8 hM0, gP_9_8 hM0, gI_9_9 hM0, gP_9_9 hM0, gI_9_10 hM0, gP_9_10 hM0, gI_9_11 hM0, gP_9_11 hM0, gI_9_12 hM0, gP_9_12 hM0, gI_9_13 hM0, gP_9_13 hM0, gI_9_14 hM0, gP_9_14 hM0, gI_9_15 hM0, gP_9_15 hM0, gI_9_16 hM0, gP_9_16 hM0, gR_9_17 hM0, gR_9_18 hM0, gR_9_19 hM0, gR_9_20 hM0, gI_9_21 hM0, gP_9_21 hM0, gI_9_22 hM0, gP_9_22 hM0, gI_9_23 hM0, gP_9_23 hM0, gI_9_24 hM0, gP_9_24 hM0, gR_9_25 hM0, gI_9_26 hM0, gP_9_26 hM0, gI_9_27 hM0, gP_9_27 hM0, gI_9_28 hM0, gP_9_28 hM0, gL_9_29 hM0, gP_9_29 hM0, gL_9_30 hM0, gP_9_30 hM0, g_shells G, iLT_t, QX11_suspect_113, cI_s, cL_s, cF_s, cD_s, cA_s, cV_s, nI_add, cond_true, cond_false, if_true, if_false]
    rfl
  | succ k ih =>
    intro i hi
    have ih := ih (i + 1) (by omega)
    have hal := mAhead_le (gF g) i (g 0 + 1)
    have h41 := lm_sus1 (E := E) (y := y) (m := m) G I (nI r) (p := i) (by omega) u (g 0 + 1) 0 (by omega)
    rw [QX11_suspect_28]
    simp (disch := omega) only [gO_9 hM0, gI_9_0 hM0, gP_9_0 hM0, gR_9_1 hM0, gR_9_2 hM0, gI_9_3 hM0, gP_9_3 hM0, gI_9_4 hM0, gP_9_4 hM0, gR_9_5 hM0, gR_9_6 hM0, gR_9_7 hM0, gI_9_8 hM0, gP_9_8 hM0, gI_9_9 hM0, gP_9_9 hM0, gI_9_10 hM0, gP_9_10 hM0, gI_9_11 hM0, gP_9_11 hM0, gI_9_12 hM0, gP_9_12 hM0, gI_9_13 hM0, gP_9_13 hM0, gI_9_14 hM0, gP_9_14 hM0, gI_9_15 hM0, gP_9_15 hM0, gI_9_16 hM0, gP_9_16 hM0, gR_9_17 hM0, gR_9_18 hM0, gR_9_19 hM0, gR_9_20 hM0, gI_9_21 hM0, gP_9_21 hM0, gI_9_22 hM0, gP_9_22 hM0, gI_9_23 hM0, gP_9_23 hM0, gI_9_24 hM0, gP_9_24 hM0, gR_9_25 hM0, gI_9_26 hM0, gP_9_26 hM0, gI_9_27 hM0, gP_9_27 hM0, gI_9_28 hM0, gP_9_28 hM0, gL_9_29 hM0, gP_9_29 hM0, gL_9_30 hM0, gP_9_30 hM0, g_shells G, iLT_f, cI_s, cL_s, cF_s, cD_s, cA_s, cV_s, nI_add, cond_true, cond_false, if_true, if_false]
    rw [show nI 0 = nI (mAhead (gF g) i 0) from rfl] at h41 ⊢
    rw [show nI (mAhead (gF g) i 0) = nI 0 from rfl] at h41 ⊢
    rw [h41, QX11_suspect_100, show mRank (gF g) (g 0 + 1) (nI r) (k + 1) i = if 0 < gF g i ∧ nI (mAhead (gF g) i (g 0 + 1)) = nI r then nI i else mRank (gF g) (g 0 + 1) (nI r) k (i + 1) from rfl]
    by_cases c : mAhead (gF g) i (g 0 + 1) = r
    · have hpos : 0 < gF g i := by
        by_cases z : gF g i = 0
        · have := ahead_ge (m := g 0 + 1) z
          omega
        · omega
      rw [iEQ_t c, if_pos ⟨hpos, by rw [c]⟩]
    · rw [iEQ_f c (by omega) (by omega), if_neg (fun z => c ((nI_eq (by omega) (by omega)).1 z.2)), QX11_suspect_107, nI_add]
      exact ih
theorem T_suspect (hc : hC sh) (R : RR S M Bd) (a : Int32) (d u : Nat) : oT E x y n m sh [3] Bd 0 (xsem xT E (d + 4) kX10_suspect [.ref x, .int a] (wW E x sh S, n)) (xsem xT E (u + 4) kX11_suspect [.ref y, .int a] (wW E y shM M, m)) := by
  obtain ⟨gs, w, un, tx, len, RGh, RIh⟩ := R
  obtain ⟨c5, c6, c3, c4, hw, hun⟩ := RGh.1
  obtain ⟨P, G, I, F, t2, t3⟩ := RGh.2 0 (Nat.zero_le _)
  rw [ix_0 hw] at P G
  generalize gs 0 = g at P G I F t2 t3
  have b0 := hc.1
  have hG := hc.2.2.2.2.2.2 w hw
  have b2 := hG.1
  have b5 := hG.2.1
  have b4 := hG.2.2.2.2.1
  have b6 := hG.2.2.2.2.2.2.1
  have b9 := hG.2.2.2.2.2.2.2.2.2.1
  have h2 := I.1.1
  have h8 := I.1.2.1
  have hgm := fun d => c_game (E := E) (x := x) (n := n) hc c5 hw d
  have GZ := GM_Z c3 hw G
  have b41 : sh (27 + 12 * w + 4 + 1) = some (1, 9, []) := hG.2.2.2.2.2.1
  have hcl := mCnt_le (gF g) (g 0 + 1)
  have hB : ∀ p, p < g 0 + 1 → gF g p < 2 ^ 31 := fun p hp => by have := I.2.2.2.2.2.1 p (by omega); show g (36 + p) < _; omega
  have hrk := fun r => s4_rank (E := E) (x := x) (n := n) (S := S) (f := gF g) (pl := g 0 + 1) b4 b41 P.2.1.1 (by omega) (fun p hp => P.2.1.2.2.2.2 p (by omega)) hB r (d + 1)
  have hcpos : 1 ≤ mCnt (gF g) (g 0 + 1) := by
    have := ahead_lt (f := gF g) (p := g 1) (m := g 0 + 1) (by have := I.1.2.2.1; omega) I.2.2.2.2.2.2
    omega
  rcases i32_c a (b := mCnt (gF g) (g 0 + 1)) (by omega) with ⟨r, hr, rfl⟩ | h
  · obtain ⟨p, p1, p2, p3⟩ := ahead_ex (g 0 + 1) r hr
    obtain ⟨q, q1, q2⟩ := mRank_yes (f := gF g) (pl := g 0 + 1) (p := p) (r := nI r) ⟨p2, by rw [p3]⟩ (g 0 + 1) 0 (by omega) (by omega)
    refine oT_ok (RR_ro RGh RIh frm_rf frU_Z) (v := .int (mRank (gF g) (g 0 + 1) (nI r) (g 0 + 1) 0)) ?_ ?_ mZ_0
    · rw [eX10_suspect, QX10_suspect_0]
      simp (disch := omega) only [ble_t, Bool.and_self, gO_8 b0, gR_8_0 b0, gR_8_1 b0, gR_8_2 b0, gR_8_3 b0, gR_8_4 b0, gI_8_5 b0, gP_8_5 b0, gI_8_6 b0, gP_8_6 b0, hgm, gO_2 b2, gR_2_0 b2, gR_2_1 b2, gR_2_2 b2, gR_2_3 b2, gI_2_4 b2, gP_2_4 b2, gI_2_5 b2, gP_2_5 b2, gI_2_6 b2, gP_2_6 b2, gI_2_7 b2, gP_2_7 b2, gI_2_8 b2, gP_2_8 b2, gO_4 b4, gR_4_0 b4, gI_4_1 b4, gP_4_1 b4, gI_4_2 b4, gP_4_2 b4, gI_4_3 b4, gP_4_3 b4, gI_4_4 b4, gP_4_4 b4, cI_s, cL_s, cF_s, cD_s, cA_s, cV_s, nI_add, cond_true, cond_false, if_true, if_false]
      rw [hrk, q2]
      simp (disch := omega) only [iLE_t, QX10_suspect_27, cI_s, cL_s, cF_s, cD_s, cA_s, cV_s, nI_add, cond_true, cond_false, if_true, if_false]
    · rw [eX11_suspect, QX11_suspect_0]
      simp (disch := omega) only [gO_9 hM0, gI_9_0 hM0, gP_9_0 hM0, gR_9_1 hM0, gR_9_2 hM0, gI_9_3 hM0, gP_9_3 hM0, gI_9_4 hM0, gP_9_4 hM0, gR_9_5 hM0, gR_9_6 hM0, gR_9_7 hM0, gI_9_8 hM0, gP_9_8 hM0, gI_9_9 hM0, gP_9_9 hM0, gI_9_10 hM0, gP_9_10 hM0, gI_9_11 hM0, gP_9_11 hM0, gI_9_12 hM0, gP_9_12 hM0, gI_9_13 hM0, gP_9_13 hM0, gI_9_14 hM0, gP_9_14 hM0, gI_9_15 hM0, gP_9_15 hM0, gI_9_16 hM0, gP_9_16 hM0, gR_9_17 hM0, gR_9_18 hM0, gR_9_19 hM0, gR_9_20 hM0, gI_9_21 hM0, gP_9_21 hM0, gI_9_22 hM0, gP_9_22 hM0, gI_9_23 hM0, gP_9_23 hM0, gI_9_24 hM0, gP_9_24 hM0, gR_9_25 hM0, gI_9_26 hM0, gP_9_26 hM0, gI_9_27 hM0, gP_9_27 hM0, gI_9_28 hM0, gP_9_28 hM0, gL_9_29 hM0, gP_9_29 hM0, gL_9_30 hM0, gP_9_30 hM0, cI_s, cL_s, cF_s, cD_s, cA_s, cV_s, nI_add, cond_true, cond_false, if_true, if_false]
      rw [show sS M 0 0 (nI 0) = mZ M from rfl, g_believed GZ I]
      simp (disch := omega) only [m_isIn, pk_sub, cI_s, cL_s, cF_s, cD_s, cA_s, cV_s, nI_add, cond_true, cond_false, if_true, if_false]
      rw [isIn_t (show r ≤ mCnt (gF g) (g 0 + 1) - 1 by omega) (by omega)]
      simp (disch := omega) only [gO_9 hM0, gI_9_0 hM0, gP_9_0 hM0, gR_9_1 hM0, gR_9_2 hM0, gI_9_3 hM0, gP_9_3 hM0, gI_9_4 hM0, gP_9_4 hM0, gR_9_5 hM0, gR_9_6 hM0, gR_9_7 hM0, gI_9_8 hM0, gP_9_8 hM0, gI_9_9 hM0, gP_9_9 hM0, gI_9_10 hM0, gP_9_10 hM0, gI_9_11 hM0, gP_9_11 hM0, gI_9_12 hM0, gP_9_12 hM0, gI_9_13 hM0, gP_9_13 hM0, gI_9_14 hM0, gP_9_14 hM0, gI_9_15 hM0, gP_9_15 hM0, gI_9_16 hM0, gP_9_16 hM0, gR_9_17 hM0, gR_9_18 hM0, gR_9_19 hM0, gR_9_20 hM0, gI_9_21 hM0, gP_9_21 hM0, gI_9_22 hM0, gP_9_22 hM0, gI_9_23 hM0, gP_9_23 hM0, gI_9_24 hM0, gP_9_24 hM0, gR_9_25 hM0, gI_9_26 hM0, gP_9_26 hM0, gI_9_27 hM0, gP_9_27 hM0, gI_9_28 hM0, gP_9_28 hM0, gL_9_29 hM0, gP_9_29 hM0, gL_9_30 hM0, gP_9_30 hM0, cI_s, cL_s, cF_s, cD_s, cA_s, cV_s, nI_add, cond_true, cond_false, if_true, if_false]
      rw [m_right1 mZ_0]
      simp (disch := omega) only [iEQ_f, QX11_suspect_26, cI_s, cL_s, cF_s, cD_s, cA_s, cV_s, nI_add, cond_true, cond_false, if_true, if_false]
      exact lm_sus2 GZ I hr (u + 1) (g 0 + 1) 0 (by omega)
  · refine oT_ex (k := 0) (ex := 3) (v := .int (nI 0)) (RR_ro RGh RIh frm_rf (frU_sS frU_Z (by omega))) rfl ?_ ?_ sS_s
    · have hno : mRank (gF g) (g 0 + 1) a (g 0 + 1) 0 = -1 := mRank_no (g 0 + 1) 0 (fun p _ hp z => by
        have h1 := ahead_lt (f := gF g) (p := p) (m := g 0 + 1) (by omega) z.1
        rcases h with h | h
        · rw [← z.2] at h
          exact nI_nlt (Nat.zero_le _) (by omega) h
        · rw [← z.2] at h
          exact nI_ge h1 (by omega) h)
      rw [eX10_suspect, QX10_suspect_0]
      simp (disch := omega) only [ble_t, Bool.and_self, gO_8 b0, gR_8_0 b0, gR_8_1 b0, gR_8_2 b0, gR_8_3 b0, gR_8_4 b0, gI_8_5 b0, gP_8_5 b0, gI_8_6 b0, gP_8_6 b0, hgm, gO_2 b2, gR_2_0 b2, gR_2_1 b2, gR_2_2 b2, gR_2_3 b2, gI_2_4 b2, gP_2_4 b2, gI_2_5 b2, gP_2_5 b2, gI_2_6 b2, gP_2_6 b2, gI_2_7 b2, gP_2_7 b2, gI_2_8 b2, gP_2_8 b2, gO_4 b4, gR_4_0 b4, gI_4_1 b4, gP_4_1 b4, gI_4_2 b4, gP_4_2 b4, gI_4_3 b4, gP_4_3 b4, gI_4_4 b4, gP_4_4 b4, cI_s, cL_s, cF_s, cD_s, cA_s, cV_s, nI_add, cond_true, cond_false, if_true, if_false]
      rw [hrk, hno]
      simp (disch := omega) only [if_neg neg1, ble_t, Bool.and_self, cI_s, cL_s, cF_s, cD_s, cA_s, cV_s, nI_add, cond_true, cond_false, if_true, if_false]
    · rw [eX11_suspect, QX11_suspect_0]
      simp (disch := omega) only [gO_9 hM0, gI_9_0 hM0, gP_9_0 hM0, gR_9_1 hM0, gR_9_2 hM0, gI_9_3 hM0, gP_9_3 hM0, gI_9_4 hM0, gP_9_4 hM0, gR_9_5 hM0, gR_9_6 hM0, gR_9_7 hM0, gI_9_8 hM0, gP_9_8 hM0, gI_9_9 hM0, gP_9_9 hM0, gI_9_10 hM0, gP_9_10 hM0, gI_9_11 hM0, gP_9_11 hM0, gI_9_12 hM0, gP_9_12 hM0, gI_9_13 hM0, gP_9_13 hM0, gI_9_14 hM0, gP_9_14 hM0, gI_9_15 hM0, gP_9_15 hM0, gI_9_16 hM0, gP_9_16 hM0, gR_9_17 hM0, gR_9_18 hM0, gR_9_19 hM0, gR_9_20 hM0, gI_9_21 hM0, gP_9_21 hM0, gI_9_22 hM0, gP_9_22 hM0, gI_9_23 hM0, gP_9_23 hM0, gI_9_24 hM0, gP_9_24 hM0, gR_9_25 hM0, gI_9_26 hM0, gP_9_26 hM0, gI_9_27 hM0, gP_9_27 hM0, gI_9_28 hM0, gP_9_28 hM0, gL_9_29 hM0, gP_9_29 hM0, gL_9_30 hM0, gP_9_30 hM0, cI_s, cL_s, cF_s, cD_s, cA_s, cV_s, nI_add, cond_true, cond_false, if_true, if_false]
      rw [show sS M 0 0 (nI 0) = mZ M from rfl, g_believed GZ I]
      simp (disch := omega) only [m_isIn, pk_sub, cI_s, cL_s, cF_s, cD_s, cA_s, cV_s, nI_add, cond_true, cond_false, if_true, if_false]
      rw [isIn_f (m := mCnt (gF g) (g 0 + 1) - 1) (by rw [show mCnt (gF g) (g 0 + 1) - 1 + 1 = mCnt (gF g) (g 0 + 1) by omega]; exact h) (by omega)]
      simp (disch := omega) only [gO_9 hM0, gI_9_0 hM0, gP_9_0 hM0, gR_9_1 hM0, gR_9_2 hM0, gI_9_3 hM0, gP_9_3 hM0, gI_9_4 hM0, gP_9_4 hM0, gR_9_5 hM0, gR_9_6 hM0, gR_9_7 hM0, gI_9_8 hM0, gP_9_8 hM0, gI_9_9 hM0, gP_9_9 hM0, gI_9_10 hM0, gP_9_10 hM0, gI_9_11 hM0, gP_9_11 hM0, gI_9_12 hM0, gP_9_12 hM0, gI_9_13 hM0, gP_9_13 hM0, gI_9_14 hM0, gP_9_14 hM0, gI_9_15 hM0, gP_9_15 hM0, gI_9_16 hM0, gP_9_16 hM0, gR_9_17 hM0, gR_9_18 hM0, gR_9_19 hM0, gR_9_20 hM0, gI_9_21 hM0, gP_9_21 hM0, gI_9_22 hM0, gP_9_22 hM0, gI_9_23 hM0, gP_9_23 hM0, gI_9_24 hM0, gP_9_24 hM0, gR_9_25 hM0, gI_9_26 hM0, gP_9_26 hM0, gI_9_27 hM0, gP_9_27 hM0, gI_9_28 hM0, gP_9_28 hM0, gL_9_29 hM0, gP_9_29 hM0, gL_9_30 hM0, gP_9_30 hM0, cI_s, cL_s, cF_s, cD_s, cA_s, cV_s, nI_add, cond_true, cond_false, if_true, if_false]
      rw [m_right0 mZ_0 (by omega) (by omega)]
      simp (disch := omega) only [iEQ_t, cI_s, cL_s, cF_s, cD_s, cA_s, cV_s, nI_add, cond_true, cond_false, if_true, if_false]
-- checksum
def fk (v : Nat → Int64) : Nat → Nat → Int64 → Int64
  | 0, _, a => a
  | k + 1, i, a => fk v k (i + 1) (lN 31 * a + v i)
def fkP (g : Nat → Nat) : Nat → Nat → Int64 → Int64
  | 0, _, a => a
  | k + 1, p, a => fkP g k (p + 1) (lN 31 * fk (fun i => (nI (gShell g p i)).toInt64) 4 0 a + lN (g (36 + p)))
theorem c_shellN {q : Nat} {g : Nat → Nat} (hG : hG sh q) (P : pG S q g) (I : iG g) {p k : Nat} (hp : p < g 0) (hk : k < 4) (d : Nat) : xsem xT E (d + 3) kX5_number [.ref (x + (q + 1)), .int (nI p), .int (nI k)] (wW E x sh S, n) = some (.inl (some (.int (nI (gShell g p k)))), (wW E x sh S, n)) := by
  have h8 := I.1.2.1
  have hn := s5_number (E := E) (x := x) (n := n) hG.2.1 hG.2.2.1 hG.2.2.2.1 P.1.1 h8 P.1.2.2.1 (gSet_lt g _ h8) P.1.2.1 (by have := I.1.2.2.1; omega) hp hk d
  rw [hn, P.1.2.2.2.1 p (by omega), P.1.2.2.2.2 p hp, gSet_bit g (iG_rg I) _ h8 p (by omega), if_pos hp]
  unfold gShell
  split
  · rfl
  · split
    · rfl
    · split <;> rfl
theorem lc_ck1 {q : Nat} {g : Nat → Nat} (hG : hG sh q) (P : pG S q g) (I : iG g) (d : Nat) : ∀ k i a, i + k = 13 → qX10_checksum_10 E (d + 3) (x + q) a (nI i) (wW E x sh S, n) = qX10_checksum_37 E (d + 3) (x + q) (fk (fun i => (nI (gTold g i)).toInt64) k i a) (wW E x sh S, n) := by
  have b2 := hG.1
  intro k
  induction k with
  | zero =>
    intro i a hi
    rw [QX10_checksum_10, iLT_t (show 12 < i by omega) (by omega)]
    rfl
  | succ k ih =>
    intro i a hi
    rw [QX10_checksum_10, iLT_f (show i ≤ 12 by omega) (by omega)]
    simp (disch := omega) only [gO_2 b2, gR_2_0 b2, gR_2_1 b2, gR_2_2 b2, gR_2_3 b2, gI_2_4 b2, gP_2_4 b2, gI_2_5 b2, gP_2_5 b2, gI_2_6 b2, gP_2_6 b2, gI_2_7 b2, gP_2_7 b2, gI_2_8 b2, gP_2_8 b2, s2_number hG P I (show i ≤ 12 by omega), cI_s, cL_s, cF_s, cD_s, cA_s, cV_s, nI_add, cond_true, cond_false, if_true, if_false]
    exact ih (i + 1) _ (by omega)
theorem lc_ck2 {q : Nat} {g : Nat → Nat} (hG : hG sh q) (P : pG S q g) (I : iG g) {p : Nat} (hp : p < g 0) (z : Int32) (d : Nat) : ∀ k i a, i + k = 4 → qX10_checksum_59 E (d + 3) (x + q) a z (nI p) (nI i) (wW E x sh S, n) = qX10_checksum_90 E (d + 3) (x + q) (fk (fun i => (nI (gShell g p i)).toInt64) k i a) z (nI p) (wW E x sh S, n) := by
  have b2 := hG.1
  have b5 := hG.2.1
  intro k
  induction k with
  | zero =>
    intro i a hi
    rw [QX10_checksum_59, iLT_t (show 3 < i by omega) (by omega)]
    rfl
  | succ k ih =>
    intro i a hi
    rw [QX10_checksum_59, iLT_f (show i ≤ 3 by omega) (by omega)]
    simp (disch := omega) only [gO_2 b2, gR_2_0 b2, gR_2_1 b2, gR_2_2 b2, gR_2_3 b2, gI_2_4 b2, gP_2_4 b2, gI_2_5 b2, gP_2_5 b2, gI_2_6 b2, gP_2_6 b2, gI_2_7 b2, gP_2_7 b2, gI_2_8 b2, gP_2_8 b2, gO_5 b5, gI_5_0 b5, gP_5_0 b5, gI_5_1 b5, gP_5_1 b5, gI_5_2 b5, gP_5_2 b5, gR_5_3 b5, gR_5_4 b5, cI_s, cL_s, cF_s, cD_s, cA_s, cV_s, nI_add, cond_true, cond_false, if_true, if_false]
    rw [c_shellN hG P I hp (by omega)]
    simp (disch := omega) only [cI_s, cL_s, cF_s, cD_s, cA_s, cV_s, nI_add, cond_true, cond_false, if_true, if_false]
    exact ih (i + 1) _ (by omega)
theorem lc_ck3 {q : Nat} {g : Nat → Nat} (hG : hG sh q) (P : pG S q g) (I : iG g) (d : Nat) : ∀ k p a, p + k = g 0 → qX10_checksum_49 E (d + 3) (x + q) a (nI (g 0)) (nI p) (wW E x sh S, n) = qX10_checksum_114 E (d + 3) (x + q) (fkP g k p a) (nI (g 0)) (wW E x sh S, n) := by
  have b2 := hG.1
  have b4 : sh (q + 4) = some (sh4 (q + 4)) := hG.2.2.2.2.1
  have b41 : sh (q + 4 + 1) = some (1, 9, []) := hG.2.2.2.2.2.1
  have h8 := I.1.2.1
  intro k
  induction k with
  | zero =>
    intro p a hp
    rw [QX10_checksum_49, iLE_t (show g 0 ≤ p by omega) (by omega)]
    rfl
  | succ k ih =>
    intro p a hp
    have hb : S.2.1 (q + 4 + 1) p = nI (g (36 + p)) := P.2.1.2.2.2.2 p (by omega)
    have hB := I.2.2.2.2.2.1 p (by omega)
    rw [QX10_checksum_49, iLE_f (show p < g 0 by omega) (by omega), lc_ck2 hG P I (show p < g 0 by omega) (nI (g 0)) d 4 0 a (by omega), QX10_checksum_90]
    simp (disch := omega) only [gO_2 b2, gR_2_0 b2, gR_2_1 b2, gR_2_2 b2, gR_2_3 b2, gI_2_4 b2, gP_2_4 b2, gI_2_5 b2, gP_2_5 b2, gI_2_6 b2, gP_2_6 b2, gI_2_7 b2, gP_2_7 b2, gI_2_8 b2, gP_2_8 b2, gO_4 b4, gR_4_0 b4, gI_4_1 b4, gP_4_1 b4, gI_4_2 b4, gP_4_2 b4, gI_4_3 b4, gP_4_3 b4, gI_4_4 b4, gP_4_4 b4, aI_w b41, hb, nI_l, cI_s, cL_s, cF_s, cD_s, cA_s, cV_s, nI_add, cond_true, cond_false, if_true, if_false]
    exact ih (p + 1) _ (by omega)
theorem lm_ck1 {g : Nat → Nat} {w : Nat} (G : GM M w g) (I : iG g) (u : Nat) : ∀ k i a, i + k = 13 → qX11_checksum_9 E (u + 4) y a (nI i) (wW E y shM M, m) = qX11_checksum_32 E (u + 4) y (fk (fun i => (nI (gTold g i)).toInt64) k i a) (wW E y shM M, m) := by
  intro k
  induction k with
  | zero =>
    intro i a hi
    rw [QX11_checksum_9, iLE_t (show 13 ≤ i by omega) (by omega)]
    rfl
  | succ k ih =>
    intro i a hi
    rw [QX11_checksum_9, iLE_f (show i < 13 by omega) (by omega)]
    simp (disch := omega) only [gO_9 hM0, gI_9_0 hM0, gP_9_0 hM0, gR_9_1 hM0, gR_9_2 hM0, gI_9_3 hM0, gP_9_3 hM0, gI_9_4 hM0, gP_9_4 hM0, gR_9_5 hM0, gR_9_6 hM0, gR_9_7 hM0, gI_9_8 hM0, gP_9_8 hM0, gI_9_9 hM0, gP_9_9 hM0, gI_9_10 hM0, gP_9_10 hM0, gI_9_11 hM0, gP_9_11 hM0, gI_9_12 hM0, gP_9_12 hM0, gI_9_13 hM0, gP_9_13 hM0, gI_9_14 hM0, gP_9_14 hM0, gI_9_15 hM0, gP_9_15 hM0, gI_9_16 hM0, gP_9_16 hM0, gR_9_17 hM0, gR_9_18 hM0, gR_9_19 hM0, gR_9_20 hM0, gI_9_21 hM0, gP_9_21 hM0, gI_9_22 hM0, gP_9_22 hM0, gI_9_23 hM0, gP_9_23 hM0, gI_9_24 hM0, gP_9_24 hM0, gR_9_25 hM0, gI_9_26 hM0, gP_9_26 hM0, gI_9_27 hM0, gP_9_27 hM0, gI_9_28 hM0, gP_9_28 hM0, gL_9_29 hM0, gP_9_29 hM0, gL_9_30 hM0, gP_9_30 hM0, cI_s, cL_s, cF_s, cD_s, cA_s, cV_s, nI_add, cond_true, cond_false, if_true, if_false]
    rw [g_told G I (by omega)]
    simp (disch := omega) only [eX11_joins, QX11_joins_0, cI_s, cL_s, cF_s, cD_s, cA_s, cV_s, nI_add, cond_true, cond_false, if_true, if_false]
    exact ih (i + 1) _ (by omega)
theorem lm_ck2 {g : Nat → Nat} {w : Nat} (G : GM M w g) (I : iG g) {p : Nat} (hp : p < g 0) (u : Nat) : ∀ k i a, i + k = 4 → qX11_checksum_45 E (u + 4) y a (nI p) (nI i) (wW E y shM M, m) = qX11_checksum_70 E (u + 4) y (fk (fun i => (nI (gShell g p i)).toInt64) k i a) (nI p) (wW E y shM M, m) := by
  intro k
  induction k with
  | zero =>
    intro i a hi
    rw [QX11_checksum_45, iLE_t (show 4 ≤ i by omega) (by omega)]
    rfl
  | succ k ih =>
    intro i a hi
    rw [QX11_checksum_45, iLE_f (show i < 4 by omega) (by omega)]
    simp (disch := omega) only [gO_9 hM0, gI_9_0 hM0, gP_9_0 hM0, gR_9_1 hM0, gR_9_2 hM0, gI_9_3 hM0, gP_9_3 hM0, gI_9_4 hM0, gP_9_4 hM0, gR_9_5 hM0, gR_9_6 hM0, gR_9_7 hM0, gI_9_8 hM0, gP_9_8 hM0, gI_9_9 hM0, gP_9_9 hM0, gI_9_10 hM0, gP_9_10 hM0, gI_9_11 hM0, gP_9_11 hM0, gI_9_12 hM0, gP_9_12 hM0, gI_9_13 hM0, gP_9_13 hM0, gI_9_14 hM0, gP_9_14 hM0, gI_9_15 hM0, gP_9_15 hM0, gI_9_16 hM0, gP_9_16 hM0, gR_9_17 hM0, gR_9_18 hM0, gR_9_19 hM0, gR_9_20 hM0, gI_9_21 hM0, gP_9_21 hM0, gI_9_22 hM0, gP_9_22 hM0, gI_9_23 hM0, gP_9_23 hM0, gI_9_24 hM0, gP_9_24 hM0, gR_9_25 hM0, gI_9_26 hM0, gP_9_26 hM0, gI_9_27 hM0, gP_9_27 hM0, gI_9_28 hM0, gP_9_28 hM0, gL_9_29 hM0, gP_9_29 hM0, gL_9_30 hM0, gP_9_30 hM0, cI_s, cL_s, cF_s, cD_s, cA_s, cV_s, nI_add, cond_true, cond_false, if_true, if_false]
    rw [g_toldS G I hp (by omega)]
    simp (disch := omega) only [eX11_joins, QX11_joins_0, cI_s, cL_s, cF_s, cD_s, cA_s, cV_s, nI_add, cond_true, cond_false, if_true, if_false]
    exact ih (i + 1) _ (by omega)
theorem lm_ck3 {g : Nat → Nat} {w : Nat} (G : GM M w g) (I : iG g) (u : Nat) : ∀ k p a, p + k = g 0 → qX11_checksum_34 E (u + 4) y a (nI p) (wW E y shM M, m) = qX11_checksum_86 E (u + 4) y (fkP g k p a) (wW E y shM M, m) := by
  have h8 := I.1.2.1
  intro k
  induction k with
  | zero =>
    intro p a hp
    rw [QX11_checksum_34]
    simp (disch := omega) only [gO_9 hM0, gI_9_0 hM0, gP_9_0 hM0, gR_9_1 hM0, gR_9_2 hM0, gI_9_3 hM0, gP_9_3 hM0, gI_9_4 hM0, gP_9_4 hM0, gR_9_5 hM0, gR_9_6 hM0, gR_9_7 hM0, gI_9_8 hM0, gP_9_8 hM0, gI_9_9 hM0, gP_9_9 hM0, gI_9_10 hM0, gP_9_10 hM0, gI_9_11 hM0, gP_9_11 hM0, gI_9_12 hM0, gP_9_12 hM0, gI_9_13 hM0, gP_9_13 hM0, gI_9_14 hM0, gP_9_14 hM0, gI_9_15 hM0, gP_9_15 hM0, gI_9_16 hM0, gP_9_16 hM0, gR_9_17 hM0, gR_9_18 hM0, gR_9_19 hM0, gR_9_20 hM0, gI_9_21 hM0, gP_9_21 hM0, gI_9_22 hM0, gP_9_22 hM0, gI_9_23 hM0, gP_9_23 hM0, gI_9_24 hM0, gP_9_24 hM0, gR_9_25 hM0, gI_9_26 hM0, gP_9_26 hM0, gI_9_27 hM0, gP_9_27 hM0, gI_9_28 hM0, gP_9_28 hM0, gL_9_29 hM0, gP_9_29 hM0, gL_9_30 hM0, gP_9_30 hM0, g_shells G, iLE_t (show g 0 ≤ p by omega), cI_s, cL_s, cF_s, cD_s, cA_s, cV_s, nI_add, cond_true, cond_false, if_true, if_false]
    rfl
  | succ k ih =>
    intro p a hp
    rw [QX11_checksum_34]
    simp (disch := omega) only [gO_9 hM0, gI_9_0 hM0, gP_9_0 hM0, gR_9_1 hM0, gR_9_2 hM0, gI_9_3 hM0, gP_9_3 hM0, gI_9_4 hM0, gP_9_4 hM0, gR_9_5 hM0, gR_9_6 hM0, gR_9_7 hM0, gI_9_8 hM0, gP_9_8 hM0, gI_9_9 hM0, gP_9_9 hM0, gI_9_10 hM0, gP_9_10 hM0, gI_9_11 hM0, gP_9_11 hM0, gI_9_12 hM0, gP_9_12 hM0, gI_9_13 hM0, gP_9_13 hM0, gI_9_14 hM0, gP_9_14 hM0, gI_9_15 hM0, gP_9_15 hM0, gI_9_16 hM0, gP_9_16 hM0, gR_9_17 hM0, gR_9_18 hM0, gR_9_19 hM0, gR_9_20 hM0, gI_9_21 hM0, gP_9_21 hM0, gI_9_22 hM0, gP_9_22 hM0, gI_9_23 hM0, gP_9_23 hM0, gI_9_24 hM0, gP_9_24 hM0, gR_9_25 hM0, gI_9_26 hM0, gP_9_26 hM0, gI_9_27 hM0, gP_9_27 hM0, gI_9_28 hM0, gP_9_28 hM0, gL_9_29 hM0, gP_9_29 hM0, gL_9_30 hM0, gP_9_30 hM0, g_shells G, iLE_f (show p < g 0 by omega), cI_s, cL_s, cF_s, cD_s, cA_s, cV_s, nI_add, cond_true, cond_false, if_true, if_false]
    rw [lm_ck2 G I (show p < g 0 by omega) u 4 0 a (by omega), QX11_checksum_70]
    simp (disch := omega) only [gO_9 hM0, gI_9_0 hM0, gP_9_0 hM0, gR_9_1 hM0, gR_9_2 hM0, gI_9_3 hM0, gP_9_3 hM0, gI_9_4 hM0, gP_9_4 hM0, gR_9_5 hM0, gR_9_6 hM0, gR_9_7 hM0, gI_9_8 hM0, gP_9_8 hM0, gI_9_9 hM0, gP_9_9 hM0, gI_9_10 hM0, gP_9_10 hM0, gI_9_11 hM0, gP_9_11 hM0, gI_9_12 hM0, gP_9_12 hM0, gI_9_13 hM0, gP_9_13 hM0, gI_9_14 hM0, gP_9_14 hM0, gI_9_15 hM0, gP_9_15 hM0, gI_9_16 hM0, gP_9_16 hM0, gR_9_17 hM0, gR_9_18 hM0, gR_9_19 hM0, gR_9_20 hM0, gI_9_21 hM0, gP_9_21 hM0, gI_9_22 hM0, gP_9_22 hM0, gI_9_23 hM0, gP_9_23 hM0, gI_9_24 hM0, gP_9_24 hM0, gR_9_25 hM0, gI_9_26 hM0, gP_9_26 hM0, gI_9_27 hM0, gP_9_27 hM0, gI_9_28 hM0, gP_9_28 hM0, gL_9_29 hM0, gP_9_29 hM0, gL_9_30 hM0, gP_9_30 hM0, cI_s, cL_s, cF_s, cD_s, cA_s, cV_s, nI_add, cond_true, cond_false, if_true, if_false]
    rw [g_had G I (by omega)]
    simp (disch := omega) only [eX11_joins, QX11_joins_0, cI_s, cL_s, cF_s, cD_s, cA_s, cV_s, nI_add, cond_true, cond_false, if_true, if_false]
    exact ih (p + 1) _ (by omega)
theorem T_checksum (hc : hC sh) (R : RR S M Bd) (d u : Nat) : oT E x y n m sh [] Bd 1 (xsem xT E (d + 4) kX10_checksum [.ref x] (wW E x sh S, n)) (xsem xT E (u + 5) kX11_checksum [.ref y] (wW E y shM M, m)) := by
  obtain ⟨gs, w, un, tx, len, RGh, RIh⟩ := R
  obtain ⟨c5, c6, c3, c4, hw, hun⟩ := RGh.1
  obtain ⟨P, G, I, F, t2, t3⟩ := RGh.2 0 (Nat.zero_le _)
  rw [ix_0 hw] at P G
  generalize gs 0 = g at P G I F t2 t3
  have b0 := hc.1
  have hG := hc.2.2.2.2.2.2 w hw
  have b2 := hG.1
  have b5 := hG.2.1
  have b4 := hG.2.2.2.2.1
  have b6 := hG.2.2.2.2.2.2.1
  have b9 := hG.2.2.2.2.2.2.2.2.2.1
  have h2 := I.1.1
  have h8 := I.1.2.1
  have hgm := fun d => c_game (E := E) (x := x) (n := n) hc c5 hw d
  have GZ := GM_Z c3 hw G
  have b41 : sh (27 + 12 * w + 4 + 1) = some (1, 9, []) := hG.2.2.2.2.2.1
  have hb : S.2.1 (27 + 12 * w + 4 + 1) (g 0) = nI (g (36 + g 0)) := P.2.1.2.2.2.2 (g 0) (by omega)
  have hB := I.2.2.2.2.2.1 (g 0) (by omega)
  have r0 : S.1 (27 + 12 * w + 1) 0 = nI (g 0) := P.1.1
  refine oT_ok (RR_ro RGh RIh frm_rf frU_Z) (v := .long (lN 31 * fkP g (g 0) 0 (fk (fun i => (nI (gTold g i)).toInt64) 13 0 (lN 0)) + lN (g (36 + g 0)))) ?_ ?_ mZ_0
  · rw [eX10_checksum, QX10_checksum_0]
    simp (disch := omega) only [gO_8 b0, gR_8_0 b0, gR_8_1 b0, gR_8_2 b0, gR_8_3 b0, gR_8_4 b0, gI_8_5 b0, gP_8_5 b0, gI_8_6 b0, gP_8_6 b0, hgm, cI_s, cL_s, cF_s, cD_s, cA_s, cV_s, nI_add, cond_true, cond_false, if_true, if_false]
    rw [lc_ck1 hG P I d 13 0 _ (by omega), QX10_checksum_37]
    simp (disch := omega) only [gO_2 b2, gR_2_0 b2, gR_2_1 b2, gR_2_2 b2, gR_2_3 b2, gI_2_4 b2, gP_2_4 b2, gI_2_5 b2, gP_2_5 b2, gI_2_6 b2, gP_2_6 b2, gI_2_7 b2, gP_2_7 b2, gI_2_8 b2, gP_2_8 b2, gO_5 b5, gI_5_0 b5, gP_5_0 b5, gI_5_1 b5, gP_5_1 b5, gI_5_2 b5, gP_5_2 b5, gR_5_3 b5, gR_5_4 b5, r0, cI_s, cL_s, cF_s, cD_s, cA_s, cV_s, nI_add, cond_true, cond_false, if_true, if_false]
    rw [lc_ck3 hG P I d (g 0) 0 _ (by omega), QX10_checksum_114]
    simp (disch := omega) only [gO_2 b2, gR_2_0 b2, gR_2_1 b2, gR_2_2 b2, gR_2_3 b2, gI_2_4 b2, gP_2_4 b2, gI_2_5 b2, gP_2_5 b2, gI_2_6 b2, gP_2_6 b2, gI_2_7 b2, gP_2_7 b2, gI_2_8 b2, gP_2_8 b2, gO_4 b4, gR_4_0 b4, gI_4_1 b4, gP_4_1 b4, gI_4_2 b4, gP_4_2 b4, gI_4_3 b4, gP_4_3 b4, gI_4_4 b4, gP_4_4 b4, aI_w b41, hb, nI_l, cI_s, cL_s, cF_s, cD_s, cA_s, cV_s, nI_add, cond_true, cond_false, if_true, if_false]
  · rw [eX11_checksum, QX11_checksum_0]
    simp (disch := omega) only [gO_9 hM0, gI_9_0 hM0, gP_9_0 hM0, gR_9_1 hM0, gR_9_2 hM0, gI_9_3 hM0, gP_9_3 hM0, gI_9_4 hM0, gP_9_4 hM0, gR_9_5 hM0, gR_9_6 hM0, gR_9_7 hM0, gI_9_8 hM0, gP_9_8 hM0, gI_9_9 hM0, gP_9_9 hM0, gI_9_10 hM0, gP_9_10 hM0, gI_9_11 hM0, gP_9_11 hM0, gI_9_12 hM0, gP_9_12 hM0, gI_9_13 hM0, gP_9_13 hM0, gI_9_14 hM0, gP_9_14 hM0, gI_9_15 hM0, gP_9_15 hM0, gI_9_16 hM0, gP_9_16 hM0, gR_9_17 hM0, gR_9_18 hM0, gR_9_19 hM0, gR_9_20 hM0, gI_9_21 hM0, gP_9_21 hM0, gI_9_22 hM0, gP_9_22 hM0, gI_9_23 hM0, gP_9_23 hM0, gI_9_24 hM0, gP_9_24 hM0, gR_9_25 hM0, gI_9_26 hM0, gP_9_26 hM0, gI_9_27 hM0, gP_9_27 hM0, gI_9_28 hM0, gP_9_28 hM0, gL_9_29 hM0, gP_9_29 hM0, gL_9_30 hM0, gP_9_30 hM0, cI_s, cL_s, cF_s, cD_s, cA_s, cV_s, nI_add, cond_true, cond_false, if_true, if_false]
    rw [show sS M 0 0 (nI 0) = mZ M from rfl, lm_ck1 GZ I u 13 0 _ (by omega), QX11_checksum_32, lm_ck3 GZ I u (g 0) 0 _ (by omega), QX11_checksum_86]
    simp (disch := omega) only [gO_9 hM0, gI_9_0 hM0, gP_9_0 hM0, gR_9_1 hM0, gR_9_2 hM0, gI_9_3 hM0, gP_9_3 hM0, gI_9_4 hM0, gP_9_4 hM0, gR_9_5 hM0, gR_9_6 hM0, gR_9_7 hM0, gI_9_8 hM0, gP_9_8 hM0, gI_9_9 hM0, gP_9_9 hM0, gI_9_10 hM0, gP_9_10 hM0, gI_9_11 hM0, gP_9_11 hM0, gI_9_12 hM0, gP_9_12 hM0, gI_9_13 hM0, gP_9_13 hM0, gI_9_14 hM0, gP_9_14 hM0, gI_9_15 hM0, gP_9_15 hM0, gI_9_16 hM0, gP_9_16 hM0, gR_9_17 hM0, gR_9_18 hM0, gR_9_19 hM0, gR_9_20 hM0, gI_9_21 hM0, gP_9_21 hM0, gI_9_22 hM0, gP_9_22 hM0, gI_9_23 hM0, gP_9_23 hM0, gI_9_24 hM0, gP_9_24 hM0, gR_9_25 hM0, gI_9_26 hM0, gP_9_26 hM0, gI_9_27 hM0, gP_9_27 hM0, gI_9_28 hM0, gP_9_28 hM0, gL_9_29 hM0, gP_9_29 hM0, gL_9_30 hM0, gP_9_30 hM0, g_shells GZ, cI_s, cL_s, cF_s, cD_s, cA_s, cV_s, nI_add, cond_true, cond_false, if_true, if_false]
    rw [g_had GZ I (by omega)]
    simp (disch := omega) only [eX11_joins, QX11_joins_0, cI_s, cL_s, cF_s, cD_s, cA_s, cV_s, nI_add, cond_true, cond_false, if_true, if_false]
end T4
