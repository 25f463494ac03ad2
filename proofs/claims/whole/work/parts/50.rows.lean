/-! ROWS THAT SO MANY SWAPS MAKE. -/
def rsum (f : Nat → Nat) : Nat → Nat
  | 0 => f 0
  | 1 => f 1
  | k + 2 => f (k + 2) + rsum f k
def rstep (m l : Nat) (f : Nat → Nat) : Nat → Nat := fun d => if 1 ≤ d ∧ d ≤ m then f d + l * f (d - 1) else f d
def rone : Nat → Nat := fun d => if d = 0 then 1 else 0
/-- the class takes all of 1 to 6, the reference only what is needed -/
def rowA : Nat → Nat → Nat
  | 0 => rone
  | k + 1 => rstep 6 (k + 1) (rowA k)
def rowB : Nat → Nat → Nat
  | 0 => rone
  | k + 1 => rstep (k + 1) (k + 1) (rowB k)
theorem row_AB : ∀ k, k ≤ 5 → ∀ d, d ≤ 6 → rowA k d = rowB k d := by decide +kernel
theorem rsum_cg {f f' : Nat → Nat} : ∀ k, (∀ d, d ≤ k → f d = f' d) → rsum f k = rsum f' k ∧ rsum f (k + 1) = rsum f (k + 1) := by
  have : ∀ k, ((∀ d, d ≤ k → f d = f' d) → rsum f k = rsum f' k) ∧ ((∀ d, d ≤ k + 1 → f d = f' d) → rsum f (k + 1) = rsum f' (k + 1)) := by
    intro k
    induction k with
    | zero => exact ⟨fun h => h 0 (Nat.le_refl _), fun h => h 1 (Nat.le_refl _)⟩
    | succ k ih =>
      refine ⟨ih.2, fun h => ?_⟩
      rw [show rsum f (k + 1 + 1) = f (k + 2) + rsum f k from rfl, show rsum f' (k + 1 + 1) = f' (k + 2) + rsum f' k from rfl, h (k + 2) (Nat.le_refl _), ih.1 (fun d hd => h d (by omega))]
  exact fun k h => ⟨(this k).1 h, rfl⟩
def gRows (n k : Nat) : Nat := rsum (rowB (n - 1)) k
theorem nI_m2 (k : Nat) : nI (k + 2) + (-2 : Int32) = nI k := by
  rw [show (-2 : Int32) = (-1) + (-1) from rfl, ← Int32.add_assoc, pk_m1, pk_m1]
theorem neg_lt {z : Int32} (h : z = -2 ∨ z = -1) : z < nI 0 := by
  rcases h with h | h <;> rw [h] <;> decide
section RW1
variable {E : xEn} {x n w : Nat} {S : xSt} {g : Nat → Nat} {T : Nat → Int64}
/-- the reference's row of needs -/
def nS (S : xSt) (f : Nat → Nat) : xSt := sA S 10 (vw 8 f (S.2.1 10))
theorem nS_o {f : Nat → Nat} {q : Nat} (h : q ≠ 10) : (nS S f).2.1 q = S.2.1 q := sA_n h
theorem mN_put {f : Nat → Nat} {d v : Nat} (hd : d < 8) : sA (mS (nS S f) w g T) 10 (upd ((mS (nS S f) w g T).2.1 10) d (nI v)) = mS (nS S (updN f d v)) w g T := by
  unfold mS nS sA sG
  dsimp only
  simp only [if_neg (show ¬ (10 : Nat) = 1 by omega), if_pos, if_neg (show ¬ (1 : Nat) = 10 by omega)]
  congr 2
  funext q
  by_cases e : q = 10
  · subst e
    simp only [if_true, if_neg (show ¬ (10 : Nat) = 1 by omega)]
    exact vw_upd hd
  · simp only [if_neg e]
theorem mN_at {f : Nat → Nat} {d : Nat} (hd : d < 8) : (mS (nS S f) w g T).2.1 10 d = nI (f d) := by
  rw [mS_o (by omega)]
  show (nS S f).2.1 10 d = _
  unfold nS
  rw [sA_s, vw_in hd]
theorem mN_w (f : Nat → Nat) (hw : S.1 0 3 = nI w) : (nS S f).1 0 3 = nI w := hw
theorem lm_rw1 (hw : S.1 0 3 = nI w) (h9 : w ≤ 9) (h8 : g 0 ≤ 8) (s1 : Int32) {m l : Nat} (hl : l + 1 ≤ 8) (hm : m ≤ 7) (d : Nat) :
    ∀ k (f : Nat → Nat), k ≤ 7 → qX11_rows_77 E d x s1 (nI (l + 1)) (nI k) (wW E x shM (mS (nS S f) w g T), n) = qX11_rows_109 E d x s1 (nI (l + 1)) (wW E x shM (mS (nS S (rstep k l f)) w g T), n) := by
  intro k
  induction k with
  | zero =>
    intro f _
    have : rstep 0 l f = f := by
      funext d
      unfold rstep
      rw [if_neg (by omega)]
    rw [this, QX11_rows_77]
    simp (disch := omega) only [iLT_t, cI_s, cL_s, cF_s, cD_s, cA_s, cV_s, nI_add, cond_true, cond_false, if_true, if_false]
  | succ k ih =>
    intro f hk
    have h := ih (updN f (k + 1) (f (k + 1) + l * f k)) (by omega)
    have he : rstep k l (updN f (k + 1) (f (k + 1) + l * f k)) = rstep (k + 1) l f := by
      funext d
      unfold rstep
      by_cases c : 1 ≤ d ∧ d ≤ k
      · rw [if_pos c, if_pos (by omega), updN_n (by omega), updN_n (by omega)]
      · rw [if_neg c]
        by_cases e : d = k + 1
        · subst e
          rw [if_pos (by omega), updN_s, Nat.add_sub_cancel]
        · rw [if_neg (by omega), updN_n e]
    rw [he] at h
    rw [← h, QX11_rows_77]
    simp (disch := omega) only [iLT_f, gO_9 hM0, gI_9_0 hM0, gP_9_0 hM0, gR_9_1 hM0, gR_9_2 hM0, gI_9_3 hM0, gP_9_3 hM0, gI_9_4 hM0, gP_9_4 hM0, gR_9_5 hM0, gR_9_6 hM0, gR_9_7 hM0, gI_9_8 hM0, gP_9_8 hM0, gI_9_9 hM0, gP_9_9 hM0, gI_9_10 hM0, gP_9_10 hM0, gI_9_11 hM0, gP_9_11 hM0, gI_9_12 hM0, gP_9_12 hM0, gI_9_13 hM0, gP_9_13 hM0, gI_9_14 hM0, gP_9_14 hM0, gI_9_15 hM0, gP_9_15 hM0, gI_9_16 hM0, gP_9_16 hM0, gR_9_17 hM0, gR_9_18 hM0, gR_9_19 hM0, gR_9_20 hM0, gI_9_21 hM0, gP_9_21 hM0, gI_9_22 hM0, gP_9_22 hM0, gI_9_23 hM0, gP_9_23 hM0, gI_9_24 hM0, gP_9_24 hM0, gR_9_25 hM0, gI_9_26 hM0, gP_9_26 hM0, gI_9_27 hM0, gP_9_27 hM0, gI_9_28 hM0, gP_9_28 hM0, gL_9_29 hM0, gP_9_29 hM0, gL_9_30 hM0, gP_9_30 hM0, aI_w hM10, mN_at, pk_sub, Nat.add_sub_cancel, pk_mul, sI_w hM10, mN_put, pk_m1, cI_s, cL_s, cF_s, cD_s, cA_s, cV_s, nI_add, cond_true, cond_false, if_true, if_false]
theorem lm_rw2 (hw : S.1 0 3 = nI w) (h9 : w ≤ 9) (h8 : g 0 ≤ 8) (s1 : Int32) (d : Nat) :
    ∀ k i, i + k = g 0 → 1 ≤ i → qX11_rows_65 E (d + 2) x s1 (nI (i + 1)) (wW E x shM (mS (nS S (rowB (i - 1))) w g T), n) = qX11_rows_115 E (d + 2) x s1 (wW E x shM (mS (nS S (rowB (g 0 - 1))) w g T), n) := by
  intro k
  induction k with
  | zero =>
    intro i hi h1
    have hi : i = g 0 := hi
    rw [QX11_rows_65]
    simp (disch := omega) only [gO_9 hM0, gI_9_0 hM0, gP_9_0 hM0, gR_9_1 hM0, gR_9_2 hM0, gI_9_3 hM0, gP_9_3 hM0, gI_9_4 hM0, gP_9_4 hM0, gR_9_5 hM0, gR_9_6 hM0, gR_9_7 hM0, gI_9_8 hM0, gP_9_8 hM0, gI_9_9 hM0, gP_9_9 hM0, gI_9_10 hM0, gP_9_10 hM0, gI_9_11 hM0, gP_9_11 hM0, gI_9_12 hM0, gP_9_12 hM0, gI_9_13 hM0, gP_9_13 hM0, gI_9_14 hM0, gP_9_14 hM0, gI_9_15 hM0, gP_9_15 hM0, gI_9_16 hM0, gP_9_16 hM0, gR_9_17 hM0, gR_9_18 hM0, gR_9_19 hM0, gR_9_20 hM0, gI_9_21 hM0, gP_9_21 hM0, gI_9_22 hM0, gP_9_22 hM0, gI_9_23 hM0, gP_9_23 hM0, gI_9_24 hM0, gP_9_24 hM0, gR_9_25 hM0, gI_9_26 hM0, gP_9_26 hM0, gI_9_27 hM0, gP_9_27 hM0, gI_9_28 hM0, gP_9_28 hM0, gL_9_29 hM0, gP_9_29 hM0, gL_9_30 hM0, gP_9_30 hM0, m_shells (mN_w _ hw) h9, iLT_t, cI_s, cL_s, cF_s, cD_s, cA_s, cV_s, nI_add, cond_true, cond_false, if_true, if_false]
    rw [hi]
  | succ k ih =>
    intro i hi h1
    have h := ih (i + 1) (by omega) (by omega)
    have hb : rowB (i + 1 - 1) = rstep i i (rowB (i - 1)) := by
      obtain ⟨j, rfl⟩ : ∃ j, i = j + 1 := ⟨i - 1, by omega⟩
      rfl
    rw [hb] at h
    rw [← h, QX11_rows_65]
    simp (disch := omega) only [gO_9 hM0, gI_9_0 hM0, gP_9_0 hM0, gR_9_1 hM0, gR_9_2 hM0, gI_9_3 hM0, gP_9_3 hM0, gI_9_4 hM0, gP_9_4 hM0, gR_9_5 hM0, gR_9_6 hM0, gR_9_7 hM0, gI_9_8 hM0, gP_9_8 hM0, gI_9_9 hM0, gP_9_9 hM0, gI_9_10 hM0, gP_9_10 hM0, gI_9_11 hM0, gP_9_11 hM0, gI_9_12 hM0, gP_9_12 hM0, gI_9_13 hM0, gP_9_13 hM0, gI_9_14 hM0, gP_9_14 hM0, gI_9_15 hM0, gP_9_15 hM0, gI_9_16 hM0, gP_9_16 hM0, gR_9_17 hM0, gR_9_18 hM0, gR_9_19 hM0, gR_9_20 hM0, gI_9_21 hM0, gP_9_21 hM0, gI_9_22 hM0, gP_9_22 hM0, gI_9_23 hM0, gP_9_23 hM0, gI_9_24 hM0, gP_9_24 hM0, gR_9_25 hM0, gI_9_26 hM0, gP_9_26 hM0, gI_9_27 hM0, gP_9_27 hM0, gI_9_28 hM0, gP_9_28 hM0, gL_9_29 hM0, gP_9_29 hM0, gL_9_30 hM0, gP_9_30 hM0, m_shells (mN_w _ hw) h9, iLT_f, pk_sub, Nat.add_sub_cancel, cI_s, cL_s, cF_s, cD_s, cA_s, cV_s, nI_add, cond_true, cond_false, if_true, if_false]
    rw [lm_rw1 hw h9 h8 s1 (m := i) (l := i) (by omega) (by omega) (d + 2) i _ (by omega), QX11_rows_109]
    simp (disch := omega) only [cI_s, cL_s, cF_s, cD_s, cA_s, cV_s, nI_add, cond_true, cond_false, if_true, if_false]
theorem lm_rw3 (s1 : Int32) (d : Nat) :
    ∀ k i (f : Nat → Nat), i + k = 8 → (∀ j, j < i → f j = rone j) → ∃ f', qX11_rows_36 E d x s1 (nI i) (wW E x shM (mS (nS S f) w g T), n) = qX11_rows_63 E d x s1 (wW E x shM (mS (nS S f') w g T), n) ∧ ∀ j, j < 8 → f' j = rone j := by
  intro k
  induction k with
  | zero =>
    intro i f hi hf
    have hi : i = 8 := hi
    subst hi
    refine ⟨f, ?_, hf⟩
    rw [QX11_rows_36]
    simp (disch := omega) only [iLE_t, cI_s, cL_s, cF_s, cD_s, cA_s, cV_s, nI_add, cond_true, cond_false, if_true, if_false]
  | succ k ih =>
    intro i f hi hf
    obtain ⟨f', h1, h2⟩ := ih (i + 1) (updN f i (rone i)) (by omega) (fun j hj => by
      by_cases e : j = i
      · rw [e, updN_s]
      · rw [updN_n e]; exact hf j (by omega))
    refine ⟨f', ?_, h2⟩
    rw [← h1, QX11_rows_36]
    unfold rone
    by_cases e : i = 0
    · simp (disch := omega) only [iLE_f, gO_9 hM0, gI_9_0 hM0, gP_9_0 hM0, gR_9_1 hM0, gR_9_2 hM0, gI_9_3 hM0, gP_9_3 hM0, gI_9_4 hM0, gP_9_4 hM0, gR_9_5 hM0, gR_9_6 hM0, gR_9_7 hM0, gI_9_8 hM0, gP_9_8 hM0, gI_9_9 hM0, gP_9_9 hM0, gI_9_10 hM0, gP_9_10 hM0, gI_9_11 hM0, gP_9_11 hM0, gI_9_12 hM0, gP_9_12 hM0, gI_9_13 hM0, gP_9_13 hM0, gI_9_14 hM0, gP_9_14 hM0, gI_9_15 hM0, gP_9_15 hM0, gI_9_16 hM0, gP_9_16 hM0, gR_9_17 hM0, gR_9_18 hM0, gR_9_19 hM0, gR_9_20 hM0, gI_9_21 hM0, gP_9_21 hM0, gI_9_22 hM0, gP_9_22 hM0, gI_9_23 hM0, gP_9_23 hM0, gI_9_24 hM0, gP_9_24 hM0, gR_9_25 hM0, gI_9_26 hM0, gP_9_26 hM0, gI_9_27 hM0, gP_9_27 hM0, gI_9_28 hM0, gP_9_28 hM0, gL_9_29 hM0, gP_9_29 hM0, gL_9_30 hM0, gP_9_30 hM0, iEQ_t e, QX11_rows_56, sI_w hM10, mN_put, if_pos e, cI_s, cL_s, cF_s, cD_s, cA_s, cV_s, nI_add, cond_true, cond_false, if_true, if_false]
    · simp (disch := omega) only [iLE_f, gO_9 hM0, gI_9_0 hM0, gP_9_0 hM0, gR_9_1 hM0, gR_9_2 hM0, gI_9_3 hM0, gP_9_3 hM0, gI_9_4 hM0, gP_9_4 hM0, gR_9_5 hM0, gR_9_6 hM0, gR_9_7 hM0, gI_9_8 hM0, gP_9_8 hM0, gI_9_9 hM0, gP_9_9 hM0, gI_9_10 hM0, gP_9_10 hM0, gI_9_11 hM0, gP_9_11 hM0, gI_9_12 hM0, gP_9_12 hM0, gI_9_13 hM0, gP_9_13 hM0, gI_9_14 hM0, gP_9_14 hM0, gI_9_15 hM0, gP_9_15 hM0, gI_9_16 hM0, gP_9_16 hM0, gR_9_17 hM0, gR_9_18 hM0, gR_9_19 hM0, gR_9_20 hM0, gI_9_21 hM0, gP_9_21 hM0, gI_9_22 hM0, gP_9_22 hM0, gI_9_23 hM0, gP_9_23 hM0, gI_9_24 hM0, gP_9_24 hM0, gR_9_25 hM0, gI_9_26 hM0, gP_9_26 hM0, gI_9_27 hM0, gP_9_27 hM0, gI_9_28 hM0, gP_9_28 hM0, gL_9_29 hM0, gP_9_29 hM0, gL_9_30 hM0, gP_9_30 hM0, iEQ_f e, QX11_rows_55, QX11_rows_56, sI_w hM10, mN_put, if_neg e, cI_s, cL_s, cF_s, cD_s, cA_s, cV_s, nI_add, cond_true, cond_false, if_true, if_false]
theorem nS_cg {f f' : Nat → Nat} (h : ∀ j, j < 8 → f j = f' j) : nS S f = nS S f' := by
  unfold nS
  rw [vw_congr h]
theorem nS_self {f : Nat → Nat} (h : ∀ j, j < 8 → S.2.1 10 j = nI (f j)) : nS S f = S := by
  unfold nS
  rw [vw_self h, sA_self]
theorem lm_rw4 {f : Nat → Nat} (d : Nat) : ∀ k c, k ≤ 6 → qX11_rows_119 E d x (nI c) (nI k) (wW E x shM (mS (nS S f) w g T), n) = some (.inl (some (.int (nI (c + rsum f k)))), (wW E x shM (mS (nS S f) w g T), n)) := by
  have end' : ∀ c (z : Int32), (z = -2 ∨ z = -1) → qX11_rows_119 E d x (nI c) z (wW E x shM (mS (nS S f) w g T), n) = some (.inl (some (.int (nI c))), (wW E x shM (mS (nS S f) w g T), n)) := by
    intro c z hz
    rw [QX11_rows_119, if_pos (neg_lt hz), QX11_rows_138]
  have two : ∀ k, (∀ c, k ≤ 6 → qX11_rows_119 E d x (nI c) (nI k) (wW E x shM (mS (nS S f) w g T), n) = some (.inl (some (.int (nI (c + rsum f k)))), (wW E x shM (mS (nS S f) w g T), n))) ∧ (∀ c, k + 1 ≤ 6 → qX11_rows_119 E d x (nI c) (nI (k + 1)) (wW E x shM (mS (nS S f) w g T), n) = some (.inl (some (.int (nI (c + rsum f (k + 1))))), (wW E x shM (mS (nS S f) w g T), n))) := by
    intro k
    induction k with
    | zero =>
      refine ⟨fun c _ => ?_, fun c _ => ?_⟩
      · rw [QX11_rows_119]
        simp (disch := omega) only [iLT_f, gO_9 hM0, gI_9_0 hM0, gP_9_0 hM0, gR_9_1 hM0, gR_9_2 hM0, gI_9_3 hM0, gP_9_3 hM0, gI_9_4 hM0, gP_9_4 hM0, gR_9_5 hM0, gR_9_6 hM0, gR_9_7 hM0, gI_9_8 hM0, gP_9_8 hM0, gI_9_9 hM0, gP_9_9 hM0, gI_9_10 hM0, gP_9_10 hM0, gI_9_11 hM0, gP_9_11 hM0, gI_9_12 hM0, gP_9_12 hM0, gI_9_13 hM0, gP_9_13 hM0, gI_9_14 hM0, gP_9_14 hM0, gI_9_15 hM0, gP_9_15 hM0, gI_9_16 hM0, gP_9_16 hM0, gR_9_17 hM0, gR_9_18 hM0, gR_9_19 hM0, gR_9_20 hM0, gI_9_21 hM0, gP_9_21 hM0, gI_9_22 hM0, gP_9_22 hM0, gI_9_23 hM0, gP_9_23 hM0, gI_9_24 hM0, gP_9_24 hM0, gR_9_25 hM0, gI_9_26 hM0, gP_9_26 hM0, gI_9_27 hM0, gP_9_27 hM0, gI_9_28 hM0, gP_9_28 hM0, gL_9_29 hM0, gP_9_29 hM0, gL_9_30 hM0, gP_9_30 hM0, aI_w hM10, mN_at, cI_s, cL_s, cF_s, cD_s, cA_s, cV_s, nI_add, cond_true, cond_false, if_true, if_false]
        exact end' _ _ (Or.inl rfl)
      · rw [QX11_rows_119]
        simp (disch := omega) only [iLT_f, gO_9 hM0, gI_9_0 hM0, gP_9_0 hM0, gR_9_1 hM0, gR_9_2 hM0, gI_9_3 hM0, gP_9_3 hM0, gI_9_4 hM0, gP_9_4 hM0, gR_9_5 hM0, gR_9_6 hM0, gR_9_7 hM0, gI_9_8 hM0, gP_9_8 hM0, gI_9_9 hM0, gP_9_9 hM0, gI_9_10 hM0, gP_9_10 hM0, gI_9_11 hM0, gP_9_11 hM0, gI_9_12 hM0, gP_9_12 hM0, gI_9_13 hM0, gP_9_13 hM0, gI_9_14 hM0, gP_9_14 hM0, gI_9_15 hM0, gP_9_15 hM0, gI_9_16 hM0, gP_9_16 hM0, gR_9_17 hM0, gR_9_18 hM0, gR_9_19 hM0, gR_9_20 hM0, gI_9_21 hM0, gP_9_21 hM0, gI_9_22 hM0, gP_9_22 hM0, gI_9_23 hM0, gP_9_23 hM0, gI_9_24 hM0, gP_9_24 hM0, gR_9_25 hM0, gI_9_26 hM0, gP_9_26 hM0, gI_9_27 hM0, gP_9_27 hM0, gI_9_28 hM0, gP_9_28 hM0, gL_9_29 hM0, gP_9_29 hM0, gL_9_30 hM0, gP_9_30 hM0, aI_w hM10, mN_at, cI_s, cL_s, cF_s, cD_s, cA_s, cV_s, nI_add, cond_true, cond_false, if_true, if_false]
        exact end' _ _ (Or.inr rfl)
    | succ k ih =>
      refine ⟨ih.2, fun c hk => ?_⟩
      rw [QX11_rows_119, show k + 1 + 1 = k + 2 from rfl]
      simp (disch := omega) only [iLT_f, gO_9 hM0, gI_9_0 hM0, gP_9_0 hM0, gR_9_1 hM0, gR_9_2 hM0, gI_9_3 hM0, gP_9_3 hM0, gI_9_4 hM0, gP_9_4 hM0, gR_9_5 hM0, gR_9_6 hM0, gR_9_7 hM0, gI_9_8 hM0, gP_9_8 hM0, gI_9_9 hM0, gP_9_9 hM0, gI_9_10 hM0, gP_9_10 hM0, gI_9_11 hM0, gP_9_11 hM0, gI_9_12 hM0, gP_9_12 hM0, gI_9_13 hM0, gP_9_13 hM0, gI_9_14 hM0, gP_9_14 hM0, gI_9_15 hM0, gP_9_15 hM0, gI_9_16 hM0, gP_9_16 hM0, gR_9_17 hM0, gR_9_18 hM0, gR_9_19 hM0, gR_9_20 hM0, gI_9_21 hM0, gP_9_21 hM0, gI_9_22 hM0, gP_9_22 hM0, gI_9_23 hM0, gP_9_23 hM0, gI_9_24 hM0, gP_9_24 hM0, gR_9_25 hM0, gI_9_26 hM0, gP_9_26 hM0, gI_9_27 hM0, gP_9_27 hM0, gI_9_28 hM0, gP_9_28 hM0, gL_9_29 hM0, gP_9_29 hM0, gL_9_30 hM0, gP_9_30 hM0, aI_w hM10, mN_at, nI_m2, cI_s, cL_s, cF_s, cD_s, cA_s, cV_s, nI_add, cond_true, cond_false, if_true, if_false]
      rw [ih.1 _ (by omega), Nat.add_assoc]
      rfl
  exact fun k c hk => (two k).1 c hk
end RW1
