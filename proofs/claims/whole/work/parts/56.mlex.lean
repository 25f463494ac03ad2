/-! THE REFERENCE'S READING OF A TEXT. -/
def mT (M : xSt) (tx : Nat → Nat) (L a : Nat) : Prop := M.1 0 9 = nI L ∧ L ≤ 500 ∧ M.1 0 10 = nI a ∧ a ≤ L ∧ ∀ i, i < L → M.2.1 5 i = nI (tx i) ∧ tx i < 256
def hc (tx : Nat → Nat) (L p : Nat) : Int32 := if p < L then nI (tx p) else -1
theorem sS_self {S : xSt} {q k : Nat} {v : Int32} (h : S.1 q k = v) : sS S q k v = S := by
  unfold sS
  obtain ⟨a, b⟩ := S
  have h : a q k = v := h
  congr 1
  funext q' k'
  dsimp only
  split
  · next c => rw [c.1, c.2, h]
  · rfl
section ML
variable {E : xEn} {x n : Nat} {M : xSt} {L a p : Nat} {tx : Nat → Nat}
theorem mT_at {b : Nat} (h : mT M tx L a) (hb : b ≤ L) : mT (sS M 0 10 (nI b)) tx L b := by
  obtain ⟨h1, h2, h3, h4, h5⟩ := h
  exact ⟨by rw [sS_n (by omega)]; exact h1, h2, sS_s, hb, h5⟩
theorem mT_o {k : Nat} {v : Int32} (h : mT M tx L a) (k1 : k ≠ 9) (k2 : k ≠ 10) : mT (sS M 0 k v) tx L a := by
  obtain ⟨h1, h2, h3, h4, h5⟩ := h
  exact ⟨by rw [sS_n (by omega)]; exact h1, h2, by rw [sS_n (by omega)]; exact h3, h4, h5⟩
theorem mT_A {j : Nat} {f : Nat → Int32} (h : mT M tx L a) (k1 : j ≠ 5) : mT (sA M j f) tx L a := by
  obtain ⟨h1, h2, h3, h4, h5⟩ := h
  exact ⟨h1, h2, h3, h4, fun i hi => by rw [sA_n (by omega)]; exact h5 i hi⟩
theorem m_here38 (h : mT M tx L a) (d : Nat) : qX11_here_38 E d x (wW E x shM M, n) = some (.inl (some (.int (hc tx L a))), (wW E x shM M, n)) := by
  obtain ⟨h1, h2, h3, h4, h5⟩ := h
  unfold hc
  rw [QX11_here_38]
  by_cases c : a < L
  · simp (disch := omega) only [gO_9 hM0, gI_9_0 hM0, gP_9_0 hM0, gR_9_1 hM0, gR_9_2 hM0, gI_9_3 hM0, gP_9_3 hM0, gI_9_4 hM0, gP_9_4 hM0, gR_9_5 hM0, gR_9_6 hM0, gR_9_7 hM0, gI_9_8 hM0, gP_9_8 hM0, gI_9_9 hM0, gP_9_9 hM0, gI_9_10 hM0, gP_9_10 hM0, gI_9_11 hM0, gP_9_11 hM0, gI_9_12 hM0, gP_9_12 hM0, gI_9_13 hM0, gP_9_13 hM0, gI_9_14 hM0, gP_9_14 hM0, gI_9_15 hM0, gP_9_15 hM0, gI_9_16 hM0, gP_9_16 hM0, gR_9_17 hM0, gR_9_18 hM0, gR_9_19 hM0, gR_9_20 hM0, gI_9_21 hM0, gP_9_21 hM0, gI_9_22 hM0, gP_9_22 hM0, gI_9_23 hM0, gP_9_23 hM0, gI_9_24 hM0, gP_9_24 hM0, gR_9_25 hM0, gI_9_26 hM0, gP_9_26 hM0, gI_9_27 hM0, gP_9_27 hM0, gI_9_28 hM0, gP_9_28 hM0, gL_9_29 hM0, gP_9_29 hM0, gL_9_30 hM0, gP_9_30 hM0, h1, h3, iLE_f c, aI_w hM5, (h5 a c).1, QX11_here_62, if_pos c, cI_s, cL_s, cF_s, cD_s, cA_s, cV_s, nI_add, cond_true, cond_false, if_true, if_false]
  · simp (disch := omega) only [gO_9 hM0, gI_9_0 hM0, gP_9_0 hM0, gR_9_1 hM0, gR_9_2 hM0, gI_9_3 hM0, gP_9_3 hM0, gI_9_4 hM0, gP_9_4 hM0, gR_9_5 hM0, gR_9_6 hM0, gR_9_7 hM0, gI_9_8 hM0, gP_9_8 hM0, gI_9_9 hM0, gP_9_9 hM0, gI_9_10 hM0, gP_9_10 hM0, gI_9_11 hM0, gP_9_11 hM0, gI_9_12 hM0, gP_9_12 hM0, gI_9_13 hM0, gP_9_13 hM0, gI_9_14 hM0, gP_9_14 hM0, gI_9_15 hM0, gP_9_15 hM0, gI_9_16 hM0, gP_9_16 hM0, gR_9_17 hM0, gR_9_18 hM0, gR_9_19 hM0, gR_9_20 hM0, gI_9_21 hM0, gP_9_21 hM0, gI_9_22 hM0, gP_9_22 hM0, gI_9_23 hM0, gP_9_23 hM0, gI_9_24 hM0, gP_9_24 hM0, gR_9_25 hM0, gI_9_26 hM0, gP_9_26 hM0, gI_9_27 hM0, gP_9_27 hM0, gI_9_28 hM0, gP_9_28 hM0, gL_9_29 hM0, gP_9_29 hM0, gL_9_30 hM0, gP_9_30 hM0, h1, h3, iLE_t, QX11_here_61, QX11_here_62, if_neg c, cI_s, cL_s, cF_s, cD_s, cA_s, cV_s, nI_add, cond_true, cond_false, if_true, if_false]
theorem lm_here (d : Nat) : ∀ m a (M : xSt), L ≤ a + m → mT M tx L a → qX11_here_0 E d x (wW E x shM M, n) = some (.inl (some (.int (hc tx L (ru tx L 0 m a)))), (wW E x shM (sS M 0 10 (nI (ru tx L 0 m a))), n)) := by
  intro m
  induction m with
  | zero =>
    intro a M hm h
    have h38 := m_here38 (E := E) (x := x) (n := n) h d
    obtain ⟨h1, h2, h3, h4, h5⟩ := h
    rw [QX11_here_0]
    simp (disch := omega) only [gO_9 hM0, gI_9_0 hM0, gP_9_0 hM0, gR_9_1 hM0, gR_9_2 hM0, gI_9_3 hM0, gP_9_3 hM0, gI_9_4 hM0, gP_9_4 hM0, gR_9_5 hM0, gR_9_6 hM0, gR_9_7 hM0, gI_9_8 hM0, gP_9_8 hM0, gI_9_9 hM0, gP_9_9 hM0, gI_9_10 hM0, gP_9_10 hM0, gI_9_11 hM0, gP_9_11 hM0, gI_9_12 hM0, gP_9_12 hM0, gI_9_13 hM0, gP_9_13 hM0, gI_9_14 hM0, gP_9_14 hM0, gI_9_15 hM0, gP_9_15 hM0, gI_9_16 hM0, gP_9_16 hM0, gR_9_17 hM0, gR_9_18 hM0, gR_9_19 hM0, gR_9_20 hM0, gI_9_21 hM0, gP_9_21 hM0, gI_9_22 hM0, gP_9_22 hM0, gI_9_23 hM0, gP_9_23 hM0, gI_9_24 hM0, gP_9_24 hM0, gR_9_25 hM0, gI_9_26 hM0, gP_9_26 hM0, gI_9_27 hM0, gP_9_27 hM0, gI_9_28 hM0, gP_9_28 hM0, gL_9_29 hM0, gP_9_29 hM0, gL_9_30 hM0, gP_9_30 hM0, h1, h3, iLE_t, cI_s, cL_s, cF_s, cD_s, cA_s, cV_s, nI_add, cond_true, cond_false, if_true, if_false]
    rw [h38, show ru tx L 0 0 a = a from rfl, sS_self h3]
  | succ m ih =>
    intro a M hm h
    have h38 := m_here38 (E := E) (x := x) (n := n) h d
    have h' := h
    obtain ⟨h1, h2, h3, h4, h5⟩ := h
    unfold ru
    rw [QX11_here_0]
    by_cases c : a < L
    · have e1 := (h5 a c).1
      have e2 := (h5 a c).2
      have hk : kd (tx a) = 0 ↔ tx a = 32 := by
        unfold kd
        by_cases z : tx a = 32
        · rw [if_pos z]; exact ⟨fun _ => z, fun _ => rfl⟩
        · rw [if_neg z]
          refine ⟨fun y => ?_, fun y => absurd y z⟩
          split at y
          · omega
          · split at y <;> omega
      by_cases z : tx a = 32
      · rw [if_pos ⟨c, hk.2 z⟩]
        have ih := ih (a + 1) (sS M 0 10 (nI (a + 1))) (by omega) (mT_at h' (by omega))
        rw [sS_sS] at ih
        rw [← ih]
        simp (disch := omega) only [gO_9 hM0, gI_9_0 hM0, gP_9_0 hM0, gR_9_1 hM0, gR_9_2 hM0, gI_9_3 hM0, gP_9_3 hM0, gI_9_4 hM0, gP_9_4 hM0, gR_9_5 hM0, gR_9_6 hM0, gR_9_7 hM0, gI_9_8 hM0, gP_9_8 hM0, gI_9_9 hM0, gP_9_9 hM0, gI_9_10 hM0, gP_9_10 hM0, gI_9_11 hM0, gP_9_11 hM0, gI_9_12 hM0, gP_9_12 hM0, gI_9_13 hM0, gP_9_13 hM0, gI_9_14 hM0, gP_9_14 hM0, gI_9_15 hM0, gP_9_15 hM0, gI_9_16 hM0, gP_9_16 hM0, gR_9_17 hM0, gR_9_18 hM0, gR_9_19 hM0, gR_9_20 hM0, gI_9_21 hM0, gP_9_21 hM0, gI_9_22 hM0, gP_9_22 hM0, gI_9_23 hM0, gP_9_23 hM0, gI_9_24 hM0, gP_9_24 hM0, gR_9_25 hM0, gI_9_26 hM0, gP_9_26 hM0, gI_9_27 hM0, gP_9_27 hM0, gI_9_28 hM0, gP_9_28 hM0, gL_9_29 hM0, gP_9_29 hM0, gL_9_30 hM0, gP_9_30 hM0, h1, h3, iLE_f c, aI_w hM5, e1, iEQ_t z, cI_s, cL_s, cF_s, cD_s, cA_s, cV_s, nI_add, cond_true, cond_false, if_true, if_false]
      · rw [if_neg (fun y => z (hk.1 y.2)), sS_self h3]
        simp (disch := omega) only [gO_9 hM0, gI_9_0 hM0, gP_9_0 hM0, gR_9_1 hM0, gR_9_2 hM0, gI_9_3 hM0, gP_9_3 hM0, gI_9_4 hM0, gP_9_4 hM0, gR_9_5 hM0, gR_9_6 hM0, gR_9_7 hM0, gI_9_8 hM0, gP_9_8 hM0, gI_9_9 hM0, gP_9_9 hM0, gI_9_10 hM0, gP_9_10 hM0, gI_9_11 hM0, gP_9_11 hM0, gI_9_12 hM0, gP_9_12 hM0, gI_9_13 hM0, gP_9_13 hM0, gI_9_14 hM0, gP_9_14 hM0, gI_9_15 hM0, gP_9_15 hM0, gI_9_16 hM0, gP_9_16 hM0, gR_9_17 hM0, gR_9_18 hM0, gR_9_19 hM0, gR_9_20 hM0, gI_9_21 hM0, gP_9_21 hM0, gI_9_22 hM0, gP_9_22 hM0, gI_9_23 hM0, gP_9_23 hM0, gI_9_24 hM0, gP_9_24 hM0, gR_9_25 hM0, gI_9_26 hM0, gP_9_26 hM0, gI_9_27 hM0, gP_9_27 hM0, gI_9_28 hM0, gP_9_28 hM0, gL_9_29 hM0, gP_9_29 hM0, gL_9_30 hM0, gP_9_30 hM0, h1, h3, iLE_f c, aI_w hM5, e1, iEQ_f z, cI_s, cL_s, cF_s, cD_s, cA_s, cV_s, nI_add, cond_true, cond_false, if_true, if_false]
        exact h38
    · rw [if_neg (fun y => c y.1), sS_self h3]
      simp (disch := omega) only [gO_9 hM0, gI_9_0 hM0, gP_9_0 hM0, gR_9_1 hM0, gR_9_2 hM0, gI_9_3 hM0, gP_9_3 hM0, gI_9_4 hM0, gP_9_4 hM0, gR_9_5 hM0, gR_9_6 hM0, gR_9_7 hM0, gI_9_8 hM0, gP_9_8 hM0, gI_9_9 hM0, gP_9_9 hM0, gI_9_10 hM0, gP_9_10 hM0, gI_9_11 hM0, gP_9_11 hM0, gI_9_12 hM0, gP_9_12 hM0, gI_9_13 hM0, gP_9_13 hM0, gI_9_14 hM0, gP_9_14 hM0, gI_9_15 hM0, gP_9_15 hM0, gI_9_16 hM0, gP_9_16 hM0, gR_9_17 hM0, gR_9_18 hM0, gR_9_19 hM0, gR_9_20 hM0, gI_9_21 hM0, gP_9_21 hM0, gI_9_22 hM0, gP_9_22 hM0, gI_9_23 hM0, gP_9_23 hM0, gI_9_24 hM0, gP_9_24 hM0, gR_9_25 hM0, gI_9_26 hM0, gP_9_26 hM0, gI_9_27 hM0, gP_9_27 hM0, gI_9_28 hM0, gP_9_28 hM0, gL_9_29 hM0, gP_9_29 hM0, gL_9_30 hM0, gP_9_30 hM0, h1, h3, iLE_t, cI_s, cL_s, cF_s, cD_s, cA_s, cV_s, nI_add, cond_true, cond_false, if_true, if_false]
      exact h38
theorem m_here (h : mT M tx L a) (d : Nat) : xsem xT E (d + 1) kX11_here [.ref x] (wW E x shM M, n) = some (.inl (some (.int (hc tx L (nx tx L a)))), (wW E x shM (sS M 0 10 (nI (nx tx L a))), n)) := by
  rw [eX11_here]
  exact lm_here d 500 a M (by have := h.2.1; omega) h
theorem m_isDigit {σ : xH} (ht : ∀ i, i < L → tx i < 256) (d : Nat) : xsem xT E (d + 1) kX11_isDigit [.int (hc tx L p)] σ = some (.inl (some (.int (nI (if p < L ∧ kd (tx p) = 1 then 1 else 0)))), σ) := by
  rw [eX11_isDigit, QX11_isDigit_0]
  unfold hc
  by_cases c : p < L
  · have := ht p c
    rw [if_pos c]
    unfold kd
    by_cases c1 : 48 ≤ tx p ∧ tx p ≤ 57
    · rw [iLT_f c1.1 (by omega), iLT_f c1.2 (by omega), QX11_isDigit_17, if_pos ⟨c, by rw [if_neg (by omega), if_pos c1]⟩]
      rfl
    · have hx : ¬ (p < L ∧ (if tx p = 32 then 0 else if 48 ≤ tx p ∧ tx p ≤ 57 then 1 else if 97 ≤ tx p ∧ tx p ≤ 122 then 2 else 3) = 1) := by
        rintro ⟨_, z⟩
        split at z
        · omega
        · split at z <;> omega
      rw [if_neg hx]
      by_cases c2 : tx p < 48
      · rw [iLT_t c2 (by omega), QX11_isDigit_16, QX11_isDigit_17]
        rfl
      · rw [iLT_f (by omega) (by omega), iLT_t (by omega) (by omega), QX11_isDigit_16, QX11_isDigit_17]
        rfl
  · rw [if_neg c, if_pos (by decide), if_neg (fun z => c z.1), QX11_isDigit_16, QX11_isDigit_17]
    rfl
theorem m_isLetter {σ : xH} (ht : ∀ i, i < L → tx i < 256) (d : Nat) : xsem xT E (d + 1) kX11_isLetter [.int (hc tx L p)] σ = some (.inl (some (.int (nI (if p < L ∧ kd (tx p) = 2 then 1 else 0)))), σ) := by
  rw [eX11_isLetter, QX11_isLetter_0]
  unfold hc
  by_cases c : p < L
  · have := ht p c
    rw [if_pos c]
    unfold kd
    by_cases c1 : 97 ≤ tx p ∧ tx p ≤ 122
    · rw [iLT_f c1.1 (by omega), iLT_f c1.2 (by omega), QX11_isLetter_17, if_pos ⟨c, by rw [if_neg (by omega), if_neg (by omega), if_pos c1]⟩]
      rfl
    · have hx : ¬ (p < L ∧ (if tx p = 32 then 0 else if 48 ≤ tx p ∧ tx p ≤ 57 then 1 else if 97 ≤ tx p ∧ tx p ≤ 122 then 2 else 3) = 2) := by
        rintro ⟨_, z⟩
        split at z
        · omega
        · split at z
          · omega
          · omega
      rw [if_neg hx]
      by_cases c2 : tx p < 97
      · rw [iLT_t c2 (by omega), QX11_isLetter_16, QX11_isLetter_17]
        rfl
      · rw [iLT_f (by omega) (by omega), iLT_t (by omega) (by omega), QX11_isLetter_16, QX11_isLetter_17]
        rfl
  · rw [if_neg c, if_pos (by decide), if_neg (fun z => c z.1), QX11_isLetter_16, QX11_isLetter_17]
    rfl
theorem m_fails (h0 : M.1 0 11 = nI 0) (c s : Int32) (d : Nat) : xsem xT E (d + 1) kX11_fails [.ref x, .int c, .int s] (wW E x shM M, n) = some (.inl (some (.int (nI 0))), (wW E x shM (sS (sS M 0 11 c) 0 12 s), n)) := by
  rw [eX11_fails, QX11_fails_0]
  simp (disch := omega) only [gO_9 hM0, gI_9_0 hM0, gP_9_0 hM0, gR_9_1 hM0, gR_9_2 hM0, gI_9_3 hM0, gP_9_3 hM0, gI_9_4 hM0, gP_9_4 hM0, gR_9_5 hM0, gR_9_6 hM0, gR_9_7 hM0, gI_9_8 hM0, gP_9_8 hM0, gI_9_9 hM0, gP_9_9 hM0, gI_9_10 hM0, gP_9_10 hM0, gI_9_11 hM0, gP_9_11 hM0, gI_9_12 hM0, gP_9_12 hM0, gI_9_13 hM0, gP_9_13 hM0, gI_9_14 hM0, gP_9_14 hM0, gI_9_15 hM0, gP_9_15 hM0, gI_9_16 hM0, gP_9_16 hM0, gR_9_17 hM0, gR_9_18 hM0, gR_9_19 hM0, gR_9_20 hM0, gI_9_21 hM0, gP_9_21 hM0, gI_9_22 hM0, gP_9_22 hM0, gI_9_23 hM0, gP_9_23 hM0, gI_9_24 hM0, gP_9_24 hM0, gR_9_25 hM0, gI_9_26 hM0, gP_9_26 hM0, gI_9_27 hM0, gP_9_27 hM0, gI_9_28 hM0, gP_9_28 hM0, gL_9_29 hM0, gP_9_29 hM0, gL_9_30 hM0, gP_9_30 hM0, h0, iEQ_t, QX11_fails_9, xret5_0, cI_s, cL_s, cF_s, cD_s, cA_s, cV_s, nI_add, cond_true, cond_false, if_true, if_false]
theorem m_sign_t (h : mT M tx L a) {c : Nat} (hp : nx tx L a < L) (hc2 : tx (nx tx L a) = c) (d : Nat) : xsem xT E (d + 2) kX11_sign [.ref x, .int (nI c)] (wW E x shM M, n) = some (.inl (some (.int (nI 1))), (wW E x shM (sS M 0 10 (nI (nx tx L a + 1))), n)) := by
  rw [eX11_sign, QX11_sign_0]
  simp (disch := omega) only [gO_9 hM0, gI_9_0 hM0, gP_9_0 hM0, gR_9_1 hM0, gR_9_2 hM0, gI_9_3 hM0, gP_9_3 hM0, gI_9_4 hM0, gP_9_4 hM0, gR_9_5 hM0, gR_9_6 hM0, gR_9_7 hM0, gI_9_8 hM0, gP_9_8 hM0, gI_9_9 hM0, gP_9_9 hM0, gI_9_10 hM0, gP_9_10 hM0, gI_9_11 hM0, gP_9_11 hM0, gI_9_12 hM0, gP_9_12 hM0, gI_9_13 hM0, gP_9_13 hM0, gI_9_14 hM0, gP_9_14 hM0, gI_9_15 hM0, gP_9_15 hM0, gI_9_16 hM0, gP_9_16 hM0, gR_9_17 hM0, gR_9_18 hM0, gR_9_19 hM0, gR_9_20 hM0, gI_9_21 hM0, gP_9_21 hM0, gI_9_22 hM0, gP_9_22 hM0, gI_9_23 hM0, gP_9_23 hM0, gI_9_24 hM0, gP_9_24 hM0, gR_9_25 hM0, gI_9_26 hM0, gP_9_26 hM0, gI_9_27 hM0, gP_9_27 hM0, gI_9_28 hM0, gP_9_28 hM0, gL_9_29 hM0, gP_9_29 hM0, gL_9_30 hM0, gP_9_30 hM0, m_here h, cI_s, cL_s, cF_s, cD_s, cA_s, cV_s, nI_add, cond_true, cond_false, if_true, if_false]
  unfold hc
  rw [if_pos hp, hc2, if_pos rfl, QX11_sign_19]
  simp (disch := omega) only [gO_9 hM0, gI_9_0 hM0, gP_9_0 hM0, gR_9_1 hM0, gR_9_2 hM0, gI_9_3 hM0, gP_9_3 hM0, gI_9_4 hM0, gP_9_4 hM0, gR_9_5 hM0, gR_9_6 hM0, gR_9_7 hM0, gI_9_8 hM0, gP_9_8 hM0, gI_9_9 hM0, gP_9_9 hM0, gI_9_10 hM0, gP_9_10 hM0, gI_9_11 hM0, gP_9_11 hM0, gI_9_12 hM0, gP_9_12 hM0, gI_9_13 hM0, gP_9_13 hM0, gI_9_14 hM0, gP_9_14 hM0, gI_9_15 hM0, gP_9_15 hM0, gI_9_16 hM0, gP_9_16 hM0, gR_9_17 hM0, gR_9_18 hM0, gR_9_19 hM0, gR_9_20 hM0, gI_9_21 hM0, gP_9_21 hM0, gI_9_22 hM0, gP_9_22 hM0, gI_9_23 hM0, gP_9_23 hM0, gI_9_24 hM0, gP_9_24 hM0, gR_9_25 hM0, gI_9_26 hM0, gP_9_26 hM0, gI_9_27 hM0, gP_9_27 hM0, gI_9_28 hM0, gP_9_28 hM0, gL_9_29 hM0, gP_9_29 hM0, gL_9_30 hM0, gP_9_30 hM0, sS_s, sS_sS, xret5_1, cI_s, cL_s, cF_s, cD_s, cA_s, cV_s, nI_add, cond_true, cond_false, if_true, if_false]
theorem m_sign_f (h : mT M tx L a) (h0 : M.1 0 11 = nI 0) {c : Nat} (hc1 : c < 128) (hn : ¬ (nx tx L a < L ∧ tx (nx tx L a) = c)) (d : Nat) : xsem xT E (d + 2) kX11_sign [.ref x, .int (nI c)] (wW E x shM M, n) = some (.inl (some (.int (nI 0))), (wW E x shM (sS (sS (sS M 0 10 (nI (nx tx L a))) 0 11 (-2)) 0 12 (nI (nx tx L a))), n)) := by
  have hne : ¬ hc tx L (nx tx L a) = nI c := by
    unfold hc
    split
    · next z =>
      have := (h.2.2.2.2 _ z).2
      exact fun y => hn ⟨z, (nI_eq (by omega) (by omega)).1 y⟩
    · intro y
      have := congrArg Int32.toInt y
      rw [nI_toInt (by omega)] at this
      have e : (-1 : Int32).toInt = -1 := by decide
      omega
  rw [eX11_sign, QX11_sign_0]
  simp (disch := omega) only [gO_9 hM0, gI_9_0 hM0, gP_9_0 hM0, gR_9_1 hM0, gR_9_2 hM0, gI_9_3 hM0, gP_9_3 hM0, gI_9_4 hM0, gP_9_4 hM0, gR_9_5 hM0, gR_9_6 hM0, gR_9_7 hM0, gI_9_8 hM0, gP_9_8 hM0, gI_9_9 hM0, gP_9_9 hM0, gI_9_10 hM0, gP_9_10 hM0, gI_9_11 hM0, gP_9_11 hM0, gI_9_12 hM0, gP_9_12 hM0, gI_9_13 hM0, gP_9_13 hM0, gI_9_14 hM0, gP_9_14 hM0, gI_9_15 hM0, gP_9_15 hM0, gI_9_16 hM0, gP_9_16 hM0, gR_9_17 hM0, gR_9_18 hM0, gR_9_19 hM0, gR_9_20 hM0, gI_9_21 hM0, gP_9_21 hM0, gI_9_22 hM0, gP_9_22 hM0, gI_9_23 hM0, gP_9_23 hM0, gI_9_24 hM0, gP_9_24 hM0, gR_9_25 hM0, gI_9_26 hM0, gP_9_26 hM0, gI_9_27 hM0, gP_9_27 hM0, gI_9_28 hM0, gP_9_28 hM0, gL_9_29 hM0, gP_9_29 hM0, gL_9_30 hM0, gP_9_30 hM0, m_here h, if_neg hne, sS_s, cI_s, cL_s, cF_s, cD_s, cA_s, cV_s, nI_add, cond_true, cond_false, if_true, if_false]
  rw [m_fails (by rw [sS_n (by omega)]; exact h0)]
  simp (disch := omega) only [xret5_0, cI_s, cL_s, cF_s, cD_s, cA_s, cV_s, nI_add, cond_true, cond_false, if_true, if_false]
-- words
def wd (tx : Nat → Nat) (L p j : Nat) : Prop := (xtx j).length = ru tx L 2 500 p - p ∧ sp tx p (xtx j)
theorem hc_at (h : mT M tx L a) {b : Nat} (hb : b < L) : M.2.1 5 b = hc tx L b := by
  unfold hc
  rw [if_pos hb]
  exact (h.2.2.2.2 b hb).1
theorem lm_tk1 (h : mT M tx L a) (E2 : Nat) (d : Nat) : ∀ m i, L ≤ a + i + m → a + i ≤ L → qX11_takes_7 E (d + 1) x E2 (nI i) (wW E x shM M, n) = qX11_takes_43 E (d + 1) x E2 (nI (ru tx L 2 m (a + i) - a)) (wW E x shM M, n) := by
  have ht : ∀ i, i < L → tx i < 256 := fun i hi => (h.2.2.2.2 i hi).2
  have hT := h
  obtain ⟨h1, h2, h3, h4, h5⟩ := h
  intro m
  induction m with
  | zero =>
    intro i hm hi
    rw [QX11_takes_7]
    simp (disch := omega) only [gO_9 hM0, gI_9_0 hM0, gP_9_0 hM0, gR_9_1 hM0, gR_9_2 hM0, gI_9_3 hM0, gP_9_3 hM0, gI_9_4 hM0, gP_9_4 hM0, gR_9_5 hM0, gR_9_6 hM0, gR_9_7 hM0, gI_9_8 hM0, gP_9_8 hM0, gI_9_9 hM0, gP_9_9 hM0, gI_9_10 hM0, gP_9_10 hM0, gI_9_11 hM0, gP_9_11 hM0, gI_9_12 hM0, gP_9_12 hM0, gI_9_13 hM0, gP_9_13 hM0, gI_9_14 hM0, gP_9_14 hM0, gI_9_15 hM0, gP_9_15 hM0, gI_9_16 hM0, gP_9_16 hM0, gR_9_17 hM0, gR_9_18 hM0, gR_9_19 hM0, gR_9_20 hM0, gI_9_21 hM0, gP_9_21 hM0, gI_9_22 hM0, gP_9_22 hM0, gI_9_23 hM0, gP_9_23 hM0, gI_9_24 hM0, gP_9_24 hM0, gR_9_25 hM0, gI_9_26 hM0, gP_9_26 hM0, gI_9_27 hM0, gP_9_27 hM0, gI_9_28 hM0, gP_9_28 hM0, gL_9_29 hM0, gP_9_29 hM0, gL_9_30 hM0, gP_9_30 hM0, h1, h3, iLE_t, cI_s, cL_s, cF_s, cD_s, cA_s, cV_s, nI_add, cond_true, cond_false, if_true, if_false]
    rw [show ru tx L 2 0 (a + i) = a + i from rfl, Nat.add_sub_cancel_left]
  | succ m ih =>
    intro i hm hi
    unfold ru
    rw [QX11_takes_7]
    by_cases c : a + i < L
    · have hk := m_isLetter (E := E) (p := a + i) (σ := (wW E x shM M, n)) ht d
      by_cases c2 : kd (tx (a + i)) = 2
      · rw [if_pos ⟨c, c2⟩, show a + i + 1 = a + (i + 1) by omega, ← ih (i + 1) (by omega) (by omega)]
        simp (disch := omega) only [gO_9 hM0, gI_9_0 hM0, gP_9_0 hM0, gR_9_1 hM0, gR_9_2 hM0, gI_9_3 hM0, gP_9_3 hM0, gI_9_4 hM0, gP_9_4 hM0, gR_9_5 hM0, gR_9_6 hM0, gR_9_7 hM0, gI_9_8 hM0, gP_9_8 hM0, gI_9_9 hM0, gP_9_9 hM0, gI_9_10 hM0, gP_9_10 hM0, gI_9_11 hM0, gP_9_11 hM0, gI_9_12 hM0, gP_9_12 hM0, gI_9_13 hM0, gP_9_13 hM0, gI_9_14 hM0, gP_9_14 hM0, gI_9_15 hM0, gP_9_15 hM0, gI_9_16 hM0, gP_9_16 hM0, gR_9_17 hM0, gR_9_18 hM0, gR_9_19 hM0, gR_9_20 hM0, gI_9_21 hM0, gP_9_21 hM0, gI_9_22 hM0, gP_9_22 hM0, gI_9_23 hM0, gP_9_23 hM0, gI_9_24 hM0, gP_9_24 hM0, gR_9_25 hM0, gI_9_26 hM0, gP_9_26 hM0, gI_9_27 hM0, gP_9_27 hM0, gI_9_28 hM0, gP_9_28 hM0, gL_9_29 hM0, gP_9_29 hM0, gL_9_30 hM0, gP_9_30 hM0, h1, h3, iLE_f, aI_w hM5, hc_at hT c, cI_s, cL_s, cF_s, cD_s, cA_s, cV_s, nI_add, cond_true, cond_false, if_true, if_false]
        rw [hk, if_pos ⟨c, c2⟩]
        simp (disch := omega) only [iEQ_f, cI_s, cL_s, cF_s, cD_s, cA_s, cV_s, nI_add, cond_true, cond_false, if_true, if_false]
      · rw [if_neg (fun z => c2 z.2), Nat.add_sub_cancel_left]
        simp (disch := omega) only [gO_9 hM0, gI_9_0 hM0, gP_9_0 hM0, gR_9_1 hM0, gR_9_2 hM0, gI_9_3 hM0, gP_9_3 hM0, gI_9_4 hM0, gP_9_4 hM0, gR_9_5 hM0, gR_9_6 hM0, gR_9_7 hM0, gI_9_8 hM0, gP_9_8 hM0, gI_9_9 hM0, gP_9_9 hM0, gI_9_10 hM0, gP_9_10 hM0, gI_9_11 hM0, gP_9_11 hM0, gI_9_12 hM0, gP_9_12 hM0, gI_9_13 hM0, gP_9_13 hM0, gI_9_14 hM0, gP_9_14 hM0, gI_9_15 hM0, gP_9_15 hM0, gI_9_16 hM0, gP_9_16 hM0, gR_9_17 hM0, gR_9_18 hM0, gR_9_19 hM0, gR_9_20 hM0, gI_9_21 hM0, gP_9_21 hM0, gI_9_22 hM0, gP_9_22 hM0, gI_9_23 hM0, gP_9_23 hM0, gI_9_24 hM0, gP_9_24 hM0, gR_9_25 hM0, gI_9_26 hM0, gP_9_26 hM0, gI_9_27 hM0, gP_9_27 hM0, gI_9_28 hM0, gP_9_28 hM0, gL_9_29 hM0, gP_9_29 hM0, gL_9_30 hM0, gP_9_30 hM0, h1, h3, iLE_f, aI_w hM5, hc_at hT c, cI_s, cL_s, cF_s, cD_s, cA_s, cV_s, nI_add, cond_true, cond_false, if_true, if_false]
        rw [hk, if_neg (fun z => c2 z.2)]
        simp (disch := omega) only [iEQ_t, cI_s, cL_s, cF_s, cD_s, cA_s, cV_s, nI_add, cond_true, cond_false, if_true, if_false]
    · rw [if_neg (fun z => c z.1), Nat.add_sub_cancel_left]
      simp (disch := omega) only [gO_9 hM0, gI_9_0 hM0, gP_9_0 hM0, gR_9_1 hM0, gR_9_2 hM0, gI_9_3 hM0, gP_9_3 hM0, gI_9_4 hM0, gP_9_4 hM0, gR_9_5 hM0, gR_9_6 hM0, gR_9_7 hM0, gI_9_8 hM0, gP_9_8 hM0, gI_9_9 hM0, gP_9_9 hM0, gI_9_10 hM0, gP_9_10 hM0, gI_9_11 hM0, gP_9_11 hM0, gI_9_12 hM0, gP_9_12 hM0, gI_9_13 hM0, gP_9_13 hM0, gI_9_14 hM0, gP_9_14 hM0, gI_9_15 hM0, gP_9_15 hM0, gI_9_16 hM0, gP_9_16 hM0, gR_9_17 hM0, gR_9_18 hM0, gR_9_19 hM0, gR_9_20 hM0, gI_9_21 hM0, gP_9_21 hM0, gI_9_22 hM0, gP_9_22 hM0, gI_9_23 hM0, gP_9_23 hM0, gI_9_24 hM0, gP_9_24 hM0, gR_9_25 hM0, gI_9_26 hM0, gP_9_26 hM0, gI_9_27 hM0, gP_9_27 hM0, gI_9_28 hM0, gP_9_28 hM0, gL_9_29 hM0, gP_9_29 hM0, gL_9_30 hM0, gP_9_30 hM0, h1, h3, iLE_t, cI_s, cL_s, cF_s, cD_s, cA_s, cV_s, nI_add, cond_true, cond_false, if_true, if_false]
theorem lm_tk2 (h : mT M tx L a) (H : hEn E x) {j : Nat} (hj : j < 27) {m : Nat} (hm : m = (xtx j).length) (hp : a + m ≤ L) (hl : ∀ i, i < m → tx (a + i) < 128) (d : Nat) :
    ∀ k i, i + k = m → (∀ r, r < i → sx (tx (a + r)) = (xtx j).getD r 0) → ((sp tx a (xtx j) → qX11_takes_55 E (d + 4) x (E.2.1 j) (nI m) (nI i) (wW E x shM M, n) = some (.inl (some (.int (nI 1))), (wW E x shM (sS M 0 10 (nI (a + m))), n))) ∧ (¬ sp tx a (xtx j) → qX11_takes_55 E (d + 4) x (E.2.1 j) (nI m) (nI i) (wW E x shM M, n) = some (.inl (some (.int (nI 0))), (wW E x shM M, n)))) := by
  have hT := h
  obtain ⟨h1, h2, h3, h4, h5⟩ := h
  have hxl := xt_len j hj
  intro k
  induction k with
  | zero =>
    intro i hi hr
    have hi : i = m := hi
    have hs : sp tx a (xtx j) := (sp_at _ _).2 (fun r hr2 => hr r (by omega))
    refine ⟨fun _ => ?_, fun z => absurd hs z⟩
    rw [QX11_takes_55]
    simp (disch := omega) only [iLE_t, QX11_takes_87, gO_9 hM0, gI_9_0 hM0, gP_9_0 hM0, gR_9_1 hM0, gR_9_2 hM0, gI_9_3 hM0, gP_9_3 hM0, gI_9_4 hM0, gP_9_4 hM0, gR_9_5 hM0, gR_9_6 hM0, gR_9_7 hM0, gI_9_8 hM0, gP_9_8 hM0, gI_9_9 hM0, gP_9_9 hM0, gI_9_10 hM0, gP_9_10 hM0, gI_9_11 hM0, gP_9_11 hM0, gI_9_12 hM0, gP_9_12 hM0, gI_9_13 hM0, gP_9_13 hM0, gI_9_14 hM0, gP_9_14 hM0, gI_9_15 hM0, gP_9_15 hM0, gI_9_16 hM0, gP_9_16 hM0, gR_9_17 hM0, gR_9_18 hM0, gR_9_19 hM0, gR_9_20 hM0, gI_9_21 hM0, gP_9_21 hM0, gI_9_22 hM0, gP_9_22 hM0, gI_9_23 hM0, gP_9_23 hM0, gI_9_24 hM0, gP_9_24 hM0, gR_9_25 hM0, gI_9_26 hM0, gP_9_26 hM0, gI_9_27 hM0, gP_9_27 hM0, gI_9_28 hM0, gP_9_28 hM0, gL_9_29 hM0, gP_9_29 hM0, gL_9_30 hM0, gP_9_30 hM0, h3, xret5_1, cI_s, cL_s, cF_s, cD_s, cA_s, cV_s, nI_add, cond_true, cond_false, if_true, if_false]
  | succ k ih =>
    intro i hi hr
    have hli := hl i (by omega)
    have hgo : qX11_takes_55 E (d + 4) x (E.2.1 j) (nI m) (nI i) (wW E x shM M, n) = if sx (tx (a + i)) = (xtx j).getD i 0 then qX11_takes_81 E (d + 4) x (E.2.1 j) (nI m) (nI i) (wW E x shM M, n) else some (.inl (some (.int (nI 0))), (wW E x shM M, n)) := by
      rw [QX11_takes_55]
      simp (disch := omega) only [iLE_f, gO_9 hM0, gI_9_0 hM0, gP_9_0 hM0, gR_9_1 hM0, gR_9_2 hM0, gI_9_3 hM0, gP_9_3 hM0, gI_9_4 hM0, gP_9_4 hM0, gR_9_5 hM0, gR_9_6 hM0, gR_9_7 hM0, gI_9_8 hM0, gP_9_8 hM0, gI_9_9 hM0, gP_9_9 hM0, gI_9_10 hM0, gP_9_10 hM0, gI_9_11 hM0, gP_9_11 hM0, gI_9_12 hM0, gP_9_12 hM0, gI_9_13 hM0, gP_9_13 hM0, gI_9_14 hM0, gP_9_14 hM0, gI_9_15 hM0, gP_9_15 hM0, gI_9_16 hM0, gP_9_16 hM0, gR_9_17 hM0, gR_9_18 hM0, gR_9_19 hM0, gR_9_20 hM0, gI_9_21 hM0, gP_9_21 hM0, gI_9_22 hM0, gP_9_22 hM0, gI_9_23 hM0, gP_9_23 hM0, gI_9_24 hM0, gP_9_24 hM0, gR_9_25 hM0, gI_9_26 hM0, gP_9_26 hM0, gI_9_27 hM0, gP_9_27 hM0, gI_9_28 hM0, gP_9_28 hM0, gL_9_29 hM0, gP_9_29 hM0, gL_9_30 hM0, gP_9_30 hM0, h3, aI_w hM5, (h5 (a + i) (by omega)).1, cI_s, cL_s, cF_s, cD_s, cA_s, cV_s, nI_add, cond_true, cond_false, if_true, if_false]
      rw [gO_str H hj, sJ_charAt H hj (show i < (xtx j).length by omega), show sx (tx (a + i)) = nI (tx (a + i)) from if_pos hli]
      simp (disch := omega) only [xret5_0, cI_s, cL_s, cF_s, cD_s, cA_s, cV_s, nI_add, cond_true, cond_false, if_true, if_false]
    rw [hgo]
    by_cases c : sx (tx (a + i)) = (xtx j).getD i 0
    · rw [if_pos c, QX11_takes_81]
      simp (disch := omega) only [cI_s, cL_s, cF_s, cD_s, cA_s, cV_s, nI_add, cond_true, cond_false, if_true, if_false]
      exact ih (i + 1) (by omega) (fun r hr2 => by
        by_cases e : r = i
        · rw [e]; exact c
        · exact hr r (by omega))
    · rw [if_neg c]
      exact ⟨fun z => absurd ((sp_at _ _).1 z i (by omega)) c, fun _ => rfl⟩
theorem lm_takes (h : mT M tx L a) (H : hEn E x) {j : Nat} (hj : j < 27) (d : Nat) :
    (wd tx L (nx tx L a) j → xsem xT E (d + 5) kX11_takes [.ref x, .ref (E.2.1 j)] (wW E x shM M, n) = some (.inl (some (.int (nI 1))), (wW E x shM (sS M 0 10 (nI (ru tx L 2 500 (nx tx L a)))), n))) ∧ (¬ wd tx L (nx tx L a) j → xsem xT E (d + 5) kX11_takes [.ref x, .ref (E.2.1 j)] (wW E x shM M, n) = some (.inl (some (.int (nI 0))), (wW E x shM (sS M 0 10 (nI (nx tx L a))), n))) := by
  have hp := nx_le (tx := tx) h.2.2.2.1
  have hL := h.2.1
  have hge := ru_ge (tx := tx) (L := L) (k := 2) 500 (nx tx L a)
  have hle := ru_le (tx := tx) (L := L) (k := 2) 500 (nx tx L a) hp
  have h' := mT_at h hp
  have hxl := xt_len j hj
  have h7 := lm_tk1 (E := E) (x := x) (n := n) h' (E.2.1 j) (d + 3) 500 0 (by omega) (by omega)
  rw [Nat.add_zero] at h7
  have hgo : xsem xT E (d + 5) kX11_takes [.ref x, .ref (E.2.1 j)] (wW E x shM M, n) = if nI (ru tx L 2 500 (nx tx L a) - nx tx L a) = nI (xtx j).length then qX11_takes_53 E (d + 4) x (E.2.1 j) (nI (ru tx L 2 500 (nx tx L a) - nx tx L a)) (wW E x shM (sS M 0 10 (nI (nx tx L a))), n) else some (.inl (some (.int (nI 0))), (wW E x shM (sS M 0 10 (nI (nx tx L a))), n)) := by
    rw [eX11_takes, QX11_takes_0]
    simp (disch := omega) only [gO_9 hM0, gI_9_0 hM0, gP_9_0 hM0, gR_9_1 hM0, gR_9_2 hM0, gI_9_3 hM0, gP_9_3 hM0, gI_9_4 hM0, gP_9_4 hM0, gR_9_5 hM0, gR_9_6 hM0, gR_9_7 hM0, gI_9_8 hM0, gP_9_8 hM0, gI_9_9 hM0, gP_9_9 hM0, gI_9_10 hM0, gP_9_10 hM0, gI_9_11 hM0, gP_9_11 hM0, gI_9_12 hM0, gP_9_12 hM0, gI_9_13 hM0, gP_9_13 hM0, gI_9_14 hM0, gP_9_14 hM0, gI_9_15 hM0, gP_9_15 hM0, gI_9_16 hM0, gP_9_16 hM0, gR_9_17 hM0, gR_9_18 hM0, gR_9_19 hM0, gR_9_20 hM0, gI_9_21 hM0, gP_9_21 hM0, gI_9_22 hM0, gP_9_22 hM0, gI_9_23 hM0, gP_9_23 hM0, gI_9_24 hM0, gP_9_24 hM0, gR_9_25 hM0, gI_9_26 hM0, gP_9_26 hM0, gI_9_27 hM0, gP_9_27 hM0, gI_9_28 hM0, gP_9_28 hM0, gL_9_29 hM0, gP_9_29 hM0, gL_9_30 hM0, gP_9_30 hM0, m_here h, cI_s, cL_s, cF_s, cD_s, cA_s, cV_s, nI_add, cond_true, cond_false, if_true, if_false]
    rw [h7, QX11_takes_43, gO_str H hj, sJ_length H hj]
    simp (disch := omega) only [xret5_0, Nat.add_zero, cI_s, cL_s, cF_s, cD_s, cA_s, cV_s, nI_add, cond_true, cond_false, if_true, if_false]
  rw [hgo]
  by_cases c : (xtx j).length = ru tx L 2 500 (nx tx L a) - nx tx L a
  · rw [iEQ_t c.symm, QX11_takes_53]
    have hx := lm_tk2 (E := E) (x := x) (n := n) h' H hj c.symm (by omega) (fun i hi => by
      have hk := (ru_in (tx := tx) (L := L) (k := 2) 500 (nx tx L a) (nx tx L a + i) (by omega) (by omega)).2
      unfold kd at hk
      split at hk
      · omega
      · split at hk
        · omega
        · split at hk <;> omega) d (ru tx L 2 500 (nx tx L a) - nx tx L a) 0 (by omega) (fun r hr => absurd hr (Nat.not_lt_zero r))
    rw [sS_sS, show nx tx L a + (ru tx L 2 500 (nx tx L a) - nx tx L a) = ru tx L 2 500 (nx tx L a) by omega] at hx
    exact ⟨fun z => hx.1 z.2, fun z => hx.2 (fun y => z ⟨c, y⟩)⟩
  · rw [iEQ_f (fun z => c z.symm) (by omega) (by omega)]
    exact ⟨fun z => absurd z.1 c, fun _ => rfl⟩
-- numbers
theorem lm_rd (d : Nat) (s1 s2 : Int32) : ∀ m a (M : xSt) v, L ≤ a + m → mT M tx L a → M.1 0 13 = nI v → v ≤ 1000009 →
    ∃ M', qX11_reads_34 E (d + 1) x s1 s2 (wW E x shM M, n) = qX11_reads_113 E (d + 1) x s1 s2 (wW E x shM M', n) ∧ M' = sS (sS M 0 13 (nI (nM tx (ru tx L 1 m a - a) a v))) 0 10 (nI (ru tx L 1 m a)) := by
  intro m
  induction m with
  | zero =>
    intro a M v hm h hv hvl
    refine ⟨_, ?_, rfl⟩
    obtain ⟨h1, h2, h3, h4, h5⟩ := h
    rw [show ru tx L 1 0 a = a from rfl, Nat.sub_self, show nM tx 0 a v = v from rfl, sS_self hv, sS_self h3, QX11_reads_34]
    simp (disch := omega) only [gO_9 hM0, gI_9_0 hM0, gP_9_0 hM0, gR_9_1 hM0, gR_9_2 hM0, gI_9_3 hM0, gP_9_3 hM0, gI_9_4 hM0, gP_9_4 hM0, gR_9_5 hM0, gR_9_6 hM0, gR_9_7 hM0, gI_9_8 hM0, gP_9_8 hM0, gI_9_9 hM0, gP_9_9 hM0, gI_9_10 hM0, gP_9_10 hM0, gI_9_11 hM0, gP_9_11 hM0, gI_9_12 hM0, gP_9_12 hM0, gI_9_13 hM0, gP_9_13 hM0, gI_9_14 hM0, gP_9_14 hM0, gI_9_15 hM0, gP_9_15 hM0, gI_9_16 hM0, gP_9_16 hM0, gR_9_17 hM0, gR_9_18 hM0, gR_9_19 hM0, gR_9_20 hM0, gI_9_21 hM0, gP_9_21 hM0, gI_9_22 hM0, gP_9_22 hM0, gI_9_23 hM0, gP_9_23 hM0, gI_9_24 hM0, gP_9_24 hM0, gR_9_25 hM0, gI_9_26 hM0, gP_9_26 hM0, gI_9_27 hM0, gP_9_27 hM0, gI_9_28 hM0, gP_9_28 hM0, gL_9_29 hM0, gP_9_29 hM0, gL_9_30 hM0, gP_9_30 hM0, h1, h3, iLE_t, cI_s, cL_s, cF_s, cD_s, cA_s, cV_s, nI_add, cond_true, cond_false, if_true, if_false]
  | succ m ih =>
    intro a M v hm h hv hvl
    have ht : ∀ i, i < L → tx i < 256 := fun i hi => (h.2.2.2.2 i hi).2
    have hT := h
    obtain ⟨h1, h2, h3, h4, h5⟩ := h
    refine ⟨_, ?_, rfl⟩
    rw [QX11_reads_34]
    by_cases c : a < L
    · have hk := m_isDigit (E := E) (p := a) (σ := (wW E x shM M, n)) ht d
      by_cases c2 : kd (tx a) = 1
      · have hd : 48 ≤ tx a ∧ tx a ≤ 57 := by
          unfold kd at c2
          split at c2
          · omega
          · split at c2
            · assumption
            · split at c2 <;> omega
        have hge := ru_ge (tx := tx) (L := L) (k := 1) m (a + 1)
        rw [show ru tx L 1 (m + 1) a = ru tx L 1 m (a + 1) from if_pos ⟨c, c2⟩, show ru tx L 1 m (a + 1) - a = (ru tx L 1 m (a + 1) - (a + 1)) + 1 by omega]
        rw [show nM tx ((ru tx L 1 m (a + 1) - (a + 1)) + 1) a v = nM tx (ru tx L 1 m (a + 1) - (a + 1)) (a + 1) (if v ≤ 100000 then 10 * v + tx a - 48 else v) from rfl]
        have hT2 : mT (sS (sS M 0 13 (nI (if v ≤ 100000 then 10 * v + tx a - 48 else v))) 0 10 (nI (a + 1))) tx L (a + 1) := mT_at (mT_o hT (by omega) (by omega)) (by omega)
        obtain ⟨M', e1, e2⟩ := ih (a + 1) _ (if v ≤ 100000 then 10 * v + tx a - 48 else v) (by omega) hT2 (by rw [sS_n (by omega), sS_s]) (by split <;> omega)
        rw [e2] at e1
        have hcom : ∀ (S : xSt) (v1 v2 w1 w2 : Int32), sS (sS (sS (sS S 0 13 v1) 0 10 w1) 0 13 v2) 0 10 w2 = sS (sS S 0 13 v2) 0 10 w2 := by
          intro S v1 v2 w1 w2
          unfold sS
          congr 1
          funext q' k'
          dsimp only
          by_cases z1 : q' = 0 ∧ k' = 10
          · simp only [if_pos z1]
          · by_cases z2 : q' = 0 ∧ k' = 13
            · simp only [if_neg z1, if_pos z2]
            · simp only [if_neg z1, if_neg z2]
        rw [hcom] at e1
        rw [← e1]
        simp (disch := omega) only [gO_9 hM0, gI_9_0 hM0, gP_9_0 hM0, gR_9_1 hM0, gR_9_2 hM0, gI_9_3 hM0, gP_9_3 hM0, gI_9_4 hM0, gP_9_4 hM0, gR_9_5 hM0, gR_9_6 hM0, gR_9_7 hM0, gI_9_8 hM0, gP_9_8 hM0, gI_9_9 hM0, gP_9_9 hM0, gI_9_10 hM0, gP_9_10 hM0, gI_9_11 hM0, gP_9_11 hM0, gI_9_12 hM0, gP_9_12 hM0, gI_9_13 hM0, gP_9_13 hM0, gI_9_14 hM0, gP_9_14 hM0, gI_9_15 hM0, gP_9_15 hM0, gI_9_16 hM0, gP_9_16 hM0, gR_9_17 hM0, gR_9_18 hM0, gR_9_19 hM0, gR_9_20 hM0, gI_9_21 hM0, gP_9_21 hM0, gI_9_22 hM0, gP_9_22 hM0, gI_9_23 hM0, gP_9_23 hM0, gI_9_24 hM0, gP_9_24 hM0, gR_9_25 hM0, gI_9_26 hM0, gP_9_26 hM0, gI_9_27 hM0, gP_9_27 hM0, gI_9_28 hM0, gP_9_28 hM0, gL_9_29 hM0, gP_9_29 hM0, gL_9_30 hM0, gP_9_30 hM0, h1, h3, iLE_f c, aI_w hM5, hc_at hT c, cI_s, cL_s, cF_s, cD_s, cA_s, cV_s, nI_add, cond_true, cond_false, if_true, if_false]
        rw [hk, if_pos ⟨c, c2⟩]
        simp (disch := omega) only [iEQ_f, gO_9 hM0, gI_9_0 hM0, gP_9_0 hM0, gR_9_1 hM0, gR_9_2 hM0, gI_9_3 hM0, gP_9_3 hM0, gI_9_4 hM0, gP_9_4 hM0, gR_9_5 hM0, gR_9_6 hM0, gR_9_7 hM0, gI_9_8 hM0, gP_9_8 hM0, gI_9_9 hM0, gP_9_9 hM0, gI_9_10 hM0, gP_9_10 hM0, gI_9_11 hM0, gP_9_11 hM0, gI_9_12 hM0, gP_9_12 hM0, gI_9_13 hM0, gP_9_13 hM0, gI_9_14 hM0, gP_9_14 hM0, gI_9_15 hM0, gP_9_15 hM0, gI_9_16 hM0, gP_9_16 hM0, gR_9_17 hM0, gR_9_18 hM0, gR_9_19 hM0, gR_9_20 hM0, gI_9_21 hM0, gP_9_21 hM0, gI_9_22 hM0, gP_9_22 hM0, gI_9_23 hM0, gP_9_23 hM0, gI_9_24 hM0, gP_9_24 hM0, gR_9_25 hM0, gI_9_26 hM0, gP_9_26 hM0, gI_9_27 hM0, gP_9_27 hM0, gI_9_28 hM0, gP_9_28 hM0, gL_9_29 hM0, gP_9_29 hM0, gL_9_30 hM0, gP_9_30 hM0, hv, cI_s, cL_s, cF_s, cD_s, cA_s, cV_s, nI_add, cond_true, cond_false, if_true, if_false]
        by_cases c3 : v ≤ 100000
        · rw [iLE_t c3 (by omega), if_pos c3, QX11_reads_77]
          simp (disch := omega) only [gO_9 hM0, gI_9_0 hM0, gP_9_0 hM0, gR_9_1 hM0, gR_9_2 hM0, gI_9_3 hM0, gP_9_3 hM0, gI_9_4 hM0, gP_9_4 hM0, gR_9_5 hM0, gR_9_6 hM0, gR_9_7 hM0, gI_9_8 hM0, gP_9_8 hM0, gI_9_9 hM0, gP_9_9 hM0, gI_9_10 hM0, gP_9_10 hM0, gI_9_11 hM0, gP_9_11 hM0, gI_9_12 hM0, gP_9_12 hM0, gI_9_13 hM0, gP_9_13 hM0, gI_9_14 hM0, gP_9_14 hM0, gI_9_15 hM0, gP_9_15 hM0, gI_9_16 hM0, gP_9_16 hM0, gR_9_17 hM0, gR_9_18 hM0, gR_9_19 hM0, gR_9_20 hM0, gI_9_21 hM0, gP_9_21 hM0, gI_9_22 hM0, gP_9_22 hM0, gI_9_23 hM0, gP_9_23 hM0, gI_9_24 hM0, gP_9_24 hM0, gR_9_25 hM0, gI_9_26 hM0, gP_9_26 hM0, gI_9_27 hM0, gP_9_27 hM0, gI_9_28 hM0, gP_9_28 hM0, gL_9_29 hM0, gP_9_29 hM0, gL_9_30 hM0, gP_9_30 hM0, hv, h3, aI_w hM5, (h5 a c).1, pk_mul, pk_sub, QX11_reads_97, sS_n, cI_s, cL_s, cF_s, cD_s, cA_s, cV_s, nI_add, cond_true, cond_false, if_true, if_false]
        · rw [iLE_f (by omega) (by omega), if_neg c3]
          simp (disch := omega) only [QX11_reads_97, gO_9 hM0, gI_9_0 hM0, gP_9_0 hM0, gR_9_1 hM0, gR_9_2 hM0, gI_9_3 hM0, gP_9_3 hM0, gI_9_4 hM0, gP_9_4 hM0, gR_9_5 hM0, gR_9_6 hM0, gR_9_7 hM0, gI_9_8 hM0, gP_9_8 hM0, gI_9_9 hM0, gP_9_9 hM0, gI_9_10 hM0, gP_9_10 hM0, gI_9_11 hM0, gP_9_11 hM0, gI_9_12 hM0, gP_9_12 hM0, gI_9_13 hM0, gP_9_13 hM0, gI_9_14 hM0, gP_9_14 hM0, gI_9_15 hM0, gP_9_15 hM0, gI_9_16 hM0, gP_9_16 hM0, gR_9_17 hM0, gR_9_18 hM0, gR_9_19 hM0, gR_9_20 hM0, gI_9_21 hM0, gP_9_21 hM0, gI_9_22 hM0, gP_9_22 hM0, gI_9_23 hM0, gP_9_23 hM0, gI_9_24 hM0, gP_9_24 hM0, gR_9_25 hM0, gI_9_26 hM0, gP_9_26 hM0, gI_9_27 hM0, gP_9_27 hM0, gI_9_28 hM0, gP_9_28 hM0, gL_9_29 hM0, gP_9_29 hM0, gL_9_30 hM0, gP_9_30 hM0, sS_n, h3, cI_s, cL_s, cF_s, cD_s, cA_s, cV_s, nI_add, cond_true, cond_false, if_true, if_false]
      · rw [show ru tx L 1 (m + 1) a = a from if_neg (fun z => c2 z.2), Nat.sub_self, show nM tx 0 a v = v from rfl, sS_self hv, sS_self h3]
        simp (disch := omega) only [gO_9 hM0, gI_9_0 hM0, gP_9_0 hM0, gR_9_1 hM0, gR_9_2 hM0, gI_9_3 hM0, gP_9_3 hM0, gI_9_4 hM0, gP_9_4 hM0, gR_9_5 hM0, gR_9_6 hM0, gR_9_7 hM0, gI_9_8 hM0, gP_9_8 hM0, gI_9_9 hM0, gP_9_9 hM0, gI_9_10 hM0, gP_9_10 hM0, gI_9_11 hM0, gP_9_11 hM0, gI_9_12 hM0, gP_9_12 hM0, gI_9_13 hM0, gP_9_13 hM0, gI_9_14 hM0, gP_9_14 hM0, gI_9_15 hM0, gP_9_15 hM0, gI_9_16 hM0, gP_9_16 hM0, gR_9_17 hM0, gR_9_18 hM0, gR_9_19 hM0, gR_9_20 hM0, gI_9_21 hM0, gP_9_21 hM0, gI_9_22 hM0, gP_9_22 hM0, gI_9_23 hM0, gP_9_23 hM0, gI_9_24 hM0, gP_9_24 hM0, gR_9_25 hM0, gI_9_26 hM0, gP_9_26 hM0, gI_9_27 hM0, gP_9_27 hM0, gI_9_28 hM0, gP_9_28 hM0, gL_9_29 hM0, gP_9_29 hM0, gL_9_30 hM0, gP_9_30 hM0, h1, h3, iLE_f c, aI_w hM5, hc_at hT c, cI_s, cL_s, cF_s, cD_s, cA_s, cV_s, nI_add, cond_true, cond_false, if_true, if_false]
        rw [hk, if_neg (fun z => c2 z.2)]
        simp (disch := omega) only [iEQ_t, cI_s, cL_s, cF_s, cD_s, cA_s, cV_s, nI_add, cond_true, cond_false, if_true, if_false]
    · rw [show ru tx L 1 (m + 1) a = a from if_neg (fun z => c z.1), Nat.sub_self, show nM tx 0 a v = v from rfl, sS_self hv, sS_self h3]
      simp (disch := omega) only [gO_9 hM0, gI_9_0 hM0, gP_9_0 hM0, gR_9_1 hM0, gR_9_2 hM0, gI_9_3 hM0, gP_9_3 hM0, gI_9_4 hM0, gP_9_4 hM0, gR_9_5 hM0, gR_9_6 hM0, gR_9_7 hM0, gI_9_8 hM0, gP_9_8 hM0, gI_9_9 hM0, gP_9_9 hM0, gI_9_10 hM0, gP_9_10 hM0, gI_9_11 hM0, gP_9_11 hM0, gI_9_12 hM0, gP_9_12 hM0, gI_9_13 hM0, gP_9_13 hM0, gI_9_14 hM0, gP_9_14 hM0, gI_9_15 hM0, gP_9_15 hM0, gI_9_16 hM0, gP_9_16 hM0, gR_9_17 hM0, gR_9_18 hM0, gR_9_19 hM0, gR_9_20 hM0, gI_9_21 hM0, gP_9_21 hM0, gI_9_22 hM0, gP_9_22 hM0, gI_9_23 hM0, gP_9_23 hM0, gI_9_24 hM0, gP_9_24 hM0, gR_9_25 hM0, gI_9_26 hM0, gP_9_26 hM0, gI_9_27 hM0, gP_9_27 hM0, gI_9_28 hM0, gP_9_28 hM0, gL_9_29 hM0, gP_9_29 hM0, gL_9_30 hM0, gP_9_30 hM0, h1, h3, iLE_t, cI_s, cL_s, cF_s, cD_s, cA_s, cV_s, nI_add, cond_true, cond_false, if_true, if_false]
theorem m_reads_s (h : mT M tx L a) (h0 : M.1 0 11 = nI 0) (lo hi : Int32) (hn : ¬ (nx tx L a < L ∧ kd (tx (nx tx L a)) = 1)) (d : Nat) :
    xsem xT E (d + 2) kX11_reads [.ref x, .int lo, .int hi] (wW E x shM M, n) = some (.inl (some (.int (nI 0))), (wW E x shM (sS (sS (sS M 0 10 (nI (nx tx L a))) 0 11 (-2)) 0 12 (nI (nx tx L a))), n)) := by
  have ht : ∀ i, i < L → tx i < 256 := fun i hi => (h.2.2.2.2 i hi).2
  rw [eX11_reads, QX11_reads_0]
  simp (disch := omega) only [gO_9 hM0, gI_9_0 hM0, gP_9_0 hM0, gR_9_1 hM0, gR_9_2 hM0, gI_9_3 hM0, gP_9_3 hM0, gI_9_4 hM0, gP_9_4 hM0, gR_9_5 hM0, gR_9_6 hM0, gR_9_7 hM0, gI_9_8 hM0, gP_9_8 hM0, gI_9_9 hM0, gP_9_9 hM0, gI_9_10 hM0, gP_9_10 hM0, gI_9_11 hM0, gP_9_11 hM0, gI_9_12 hM0, gP_9_12 hM0, gI_9_13 hM0, gP_9_13 hM0, gI_9_14 hM0, gP_9_14 hM0, gI_9_15 hM0, gP_9_15 hM0, gI_9_16 hM0, gP_9_16 hM0, gR_9_17 hM0, gR_9_18 hM0, gR_9_19 hM0, gR_9_20 hM0, gI_9_21 hM0, gP_9_21 hM0, gI_9_22 hM0, gP_9_22 hM0, gI_9_23 hM0, gP_9_23 hM0, gI_9_24 hM0, gP_9_24 hM0, gR_9_25 hM0, gI_9_26 hM0, gP_9_26 hM0, gI_9_27 hM0, gP_9_27 hM0, gI_9_28 hM0, gP_9_28 hM0, gL_9_29 hM0, gP_9_29 hM0, gL_9_30 hM0, gP_9_30 hM0, m_here h, cI_s, cL_s, cF_s, cD_s, cA_s, cV_s, nI_add, cond_true, cond_false, if_true, if_false]
  rw [m_isDigit ht, if_neg hn]
  simp (disch := omega) only [iEQ_t, gO_9 hM0, gI_9_0 hM0, gP_9_0 hM0, gR_9_1 hM0, gR_9_2 hM0, gI_9_3 hM0, gP_9_3 hM0, gI_9_4 hM0, gP_9_4 hM0, gR_9_5 hM0, gR_9_6 hM0, gR_9_7 hM0, gI_9_8 hM0, gP_9_8 hM0, gI_9_9 hM0, gP_9_9 hM0, gI_9_10 hM0, gP_9_10 hM0, gI_9_11 hM0, gP_9_11 hM0, gI_9_12 hM0, gP_9_12 hM0, gI_9_13 hM0, gP_9_13 hM0, gI_9_14 hM0, gP_9_14 hM0, gI_9_15 hM0, gP_9_15 hM0, gI_9_16 hM0, gP_9_16 hM0, gR_9_17 hM0, gR_9_18 hM0, gR_9_19 hM0, gR_9_20 hM0, gI_9_21 hM0, gP_9_21 hM0, gI_9_22 hM0, gP_9_22 hM0, gI_9_23 hM0, gP_9_23 hM0, gI_9_24 hM0, gP_9_24 hM0, gR_9_25 hM0, gI_9_26 hM0, gP_9_26 hM0, gI_9_27 hM0, gP_9_27 hM0, gI_9_28 hM0, gP_9_28 hM0, gL_9_29 hM0, gP_9_29 hM0, gL_9_30 hM0, gP_9_30 hM0, sS_s, cI_s, cL_s, cF_s, cD_s, cA_s, cV_s, nI_add, cond_true, cond_false, if_true, if_false]
  rw [m_fails (by rw [sS_n (by omega)]; exact h0)]
  simp (disch := omega) only [xret5_0, cI_s, cL_s, cF_s, cD_s, cA_s, cV_s, nI_add, cond_true, cond_false, if_true, if_false]
theorem m_reads_g (h : mT M tx L a) (lo hi : Int32) (hp : nx tx L a < L) (hk : kd (tx (nx tx L a)) = 1) (d : Nat) :
    ∃ M', xsem xT E (d + 2) kX11_reads [.ref x, .int lo, .int hi] (wW E x shM M, n) = qX11_reads_113 E (d + 1) x lo hi (wW E x shM M', n) ∧ mT M' tx L (en tx L (nx tx L a)) ∧ M'.1 0 13 = nI (nM tx (en tx L (nx tx L a) - nx tx L a) (nx tx L a) 0) ∧ M'.1 0 14 = nI (nx tx L a) ∧ (∀ k, k ≠ 10 → k ≠ 13 → k ≠ 14 → M'.1 0 k = M.1 0 k) ∧ (∀ q, q ≠ 0 → M'.1 q = M.1 q) ∧ M'.2 = M.2 := by
  have ht : ∀ i, i < L → tx i < 256 := fun i hi => (h.2.2.2.2 i hi).2
  have hL := h.2.1
  have he : en tx L (nx tx L a) = ru tx L 1 500 (nx tx L a) := by
    unfold en
    rw [if_neg (by omega), hk]
  have h1 := mT_o (k := 13) (v := nI 0) (mT_o (k := 14) (v := nI (nx tx L a)) (mT_at h (Nat.le_of_lt hp)) (by omega) (by omega)) (by omega) (by omega)
  obtain ⟨M', e1, e2⟩ := lm_rd (E := E) (x := x) (n := n) d lo hi 500 (nx tx L a) _ 0 (by omega) h1 sS_s (by omega)
  rw [← he] at e2
  refine ⟨M', ?_, ?_, ?_, ?_, fun k k1 k2 k3 => ?_, fun q hq => ?_, ?_⟩
  · rw [← e1, eX11_reads, QX11_reads_0]
    simp (disch := omega) only [gO_9 hM0, gI_9_0 hM0, gP_9_0 hM0, gR_9_1 hM0, gR_9_2 hM0, gI_9_3 hM0, gP_9_3 hM0, gI_9_4 hM0, gP_9_4 hM0, gR_9_5 hM0, gR_9_6 hM0, gR_9_7 hM0, gI_9_8 hM0, gP_9_8 hM0, gI_9_9 hM0, gP_9_9 hM0, gI_9_10 hM0, gP_9_10 hM0, gI_9_11 hM0, gP_9_11 hM0, gI_9_12 hM0, gP_9_12 hM0, gI_9_13 hM0, gP_9_13 hM0, gI_9_14 hM0, gP_9_14 hM0, gI_9_15 hM0, gP_9_15 hM0, gI_9_16 hM0, gP_9_16 hM0, gR_9_17 hM0, gR_9_18 hM0, gR_9_19 hM0, gR_9_20 hM0, gI_9_21 hM0, gP_9_21 hM0, gI_9_22 hM0, gP_9_22 hM0, gI_9_23 hM0, gP_9_23 hM0, gI_9_24 hM0, gP_9_24 hM0, gR_9_25 hM0, gI_9_26 hM0, gP_9_26 hM0, gI_9_27 hM0, gP_9_27 hM0, gI_9_28 hM0, gP_9_28 hM0, gL_9_29 hM0, gP_9_29 hM0, gL_9_30 hM0, gP_9_30 hM0, m_here h, cI_s, cL_s, cF_s, cD_s, cA_s, cV_s, nI_add, cond_true, cond_false, if_true, if_false]
    rw [m_isDigit ht, if_pos ⟨hp, hk⟩]
    simp (disch := omega) only [iEQ_f, QX11_reads_21, gO_9 hM0, gI_9_0 hM0, gP_9_0 hM0, gR_9_1 hM0, gR_9_2 hM0, gI_9_3 hM0, gP_9_3 hM0, gI_9_4 hM0, gP_9_4 hM0, gR_9_5 hM0, gR_9_6 hM0, gR_9_7 hM0, gI_9_8 hM0, gP_9_8 hM0, gI_9_9 hM0, gP_9_9 hM0, gI_9_10 hM0, gP_9_10 hM0, gI_9_11 hM0, gP_9_11 hM0, gI_9_12 hM0, gP_9_12 hM0, gI_9_13 hM0, gP_9_13 hM0, gI_9_14 hM0, gP_9_14 hM0, gI_9_15 hM0, gP_9_15 hM0, gI_9_16 hM0, gP_9_16 hM0, gR_9_17 hM0, gR_9_18 hM0, gR_9_19 hM0, gR_9_20 hM0, gI_9_21 hM0, gP_9_21 hM0, gI_9_22 hM0, gP_9_22 hM0, gI_9_23 hM0, gP_9_23 hM0, gI_9_24 hM0, gP_9_24 hM0, gR_9_25 hM0, gI_9_26 hM0, gP_9_26 hM0, gI_9_27 hM0, gP_9_27 hM0, gI_9_28 hM0, gP_9_28 hM0, gL_9_29 hM0, gP_9_29 hM0, gL_9_30 hM0, gP_9_30 hM0, sS_s, cI_s, cL_s, cF_s, cD_s, cA_s, cV_s, nI_add, cond_true, cond_false, if_true, if_false]
  · rw [e2]
    exact mT_at (mT_o h1 (by omega) (by omega)) (en_le hp)
  · rw [e2, sS_n (by omega), sS_s]
  · rw [e2, sS_n (by omega), sS_n (by omega), sS_n (by omega), sS_s]
  · rw [e2, sS_n k1, sS_n k2, sS_n k2, sS_n k3, sS_n k1]
  · rw [e2]
    funext k
    rw [sS_nq hq, sS_nq hq, sS_nq hq, sS_nq hq, sS_nq hq]
  · rw [e2]
    rfl
theorem nM_nu (h : mT M tx L a) (hp : p < L) (hk : kd (tx p) = 1) : nM tx (en tx L p - p) p 0 ≤ 1000009 ∧ (nu tx L p < 10000 → nM tx (en tx L p - p) p 0 = nu tx L p) ∧ (nu tx L p = 10000 → 10000 ≤ nM tx (en tx L p - p) p 0) := by
  have hL := h.2.1
  have hx := nCM (tx := tx) (en tx L p - p) p 0 0 (fun j hj => by
    have hkj := en_in (tx := tx) hL hp (by omega) (show p ≤ p + j by omega) (by omega)
    rw [hk] at hkj
    unfold kd at hkj
    split at hkj
    · omega
    · split at hkj
      · assumption
      · split at hkj <;> omega) (by omega) (by omega) (fun _ => rfl) (fun z => by omega)
  have hnu : nu tx L p = nC tx (en tx L p - p) p 0 := by
    unfold nu
    rw [if_pos hp, if_pos hk]
  rw [hnu]
  exact ⟨hx.2.1, hx.2.2.1, hx.2.2.2⟩
end ML
