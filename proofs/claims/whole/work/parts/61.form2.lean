/-! THE ODDS' EXPRESSION: factors, terms, sums. -/
section FP
variable {E : xEn} {x y n m : Nat} {sh : Nat → Option xSh} {L : Nat} {tx : Nat → Nat}
theorem c_var_n (H : hEn E x) {i : Nat} (hi : i < 29) (hn : i < 10 ∨ 13 < i) {σ : xH} (d : Nat) : xsem xT E (d + 1) kX1_variableOf [.ref (E.1 i)] σ = some (.inl (some (.int (nI 0))), σ) := by
  rw [c_var H hi, if_neg (show ¬ i = 10 by omega), if_neg (show ¬ i = 11 by omega), if_neg (show ¬ i = 12 by omega), if_neg (show ¬ i = 13 by omega)]
theorem c_var_v (H : hEn E x) {j : Nat} (hj : j ≤ 3) {σ : xH} (d : Nat) : xsem xT E (d + 1) kX1_variableOf [.ref (E.1 (10 + j))] σ = some (.inl (some (.int (pEnc 1 j))), σ) := by
  rw [c_var H (by omega)]
  have hc : j = 0 ∨ j = 1 ∨ j = 2 ∨ j = 3 := by omega
  rcases hc with h | h | h | h <;> subst h <;> rfl
theorem pEnc_nz {j : Nat} : ¬ pEnc 1 j = nI 0 := by
  unfold pEnc
  rw [if_neg (show ¬ (1 : Nat) = 0 by omega), if_pos rfl]
  split
  · decide
  · split
    · decide
    · split <;> decide
theorem m_var {M : xSt} {p : Nat} (H : hEn E y) (K : mQ M tx L p) {j : Nat} (hj : j ≤ 3) (e : tk tx L p = 10 + j) (u : Nat) :
    ∃ M', qX11_readsFactor_112 E (u + 5) y (wW E y shM M, m) = qX11_readsFactor_182 E (u + 5) y (nI j) (wW E y shM M', m) ∧ mQ M' tx L (ad tx L p) ∧ frR M M' := by
  have K' := mQ_P K
  have hc : j = 0 ∨ j = 1 ∨ j = 2 ∨ j = 3 := by omega
  have hn : ∀ v : Nat, v ≤ 3 → ¬ nI v = (-1 : Int32) := by decide
  have f8 : tk tx L p ≠ 8 + 2 → xsem xT E (u + 5) kX11_takes [.ref y, .ref (E.2.1 8)] (wW E y shM M, m) = some (.inl (some (.int (nI 0))), (wW E y shM (mP M p), m)) := fun z => t_takes_f H K (by omega) (by omega) z u
  have f9 : tk tx L p ≠ 9 + 2 → xsem xT E (u + 5) kX11_takes [.ref y, .ref (E.2.1 9)] (wW E y shM (mP M p), m) = some (.inl (some (.int (nI 0))), (wW E y shM (mP M p), m)) := fun z => by rw [t_takes_f H K' (by omega) (by omega) z, mP_P]
  have f10 : tk tx L p ≠ 10 + 2 → xsem xT E (u + 5) kX11_takes [.ref y, .ref (E.2.1 10)] (wW E y shM (mP M p), m) = some (.inl (some (.int (nI 0))), (wW E y shM (mP M p), m)) := fun z => by rw [t_takes_f H K' (by omega) (by omega) z, mP_P]
  rcases hc with h | h | h | h <;> subst h
  · obtain ⟨M', e1, e2, e3⟩ := t_takes_t (E := E) (x := y) (n := m) (j := 8) H K (by omega) (by omega) (by omega) u
    refine ⟨M', ?_, e2, e3⟩
    rw [QX11_readsFactor_112]
    simp (disch := omega) only [gO_9 hM0, gI_9_0 hM0, gP_9_0 hM0, gR_9_1 hM0, gR_9_2 hM0, gI_9_3 hM0, gP_9_3 hM0, gI_9_4 hM0, gP_9_4 hM0, gR_9_5 hM0, gR_9_6 hM0, gR_9_7 hM0, gI_9_8 hM0, gP_9_8 hM0, gI_9_9 hM0, gP_9_9 hM0, gI_9_10 hM0, gP_9_10 hM0, gI_9_11 hM0, gP_9_11 hM0, gI_9_12 hM0, gP_9_12 hM0, gI_9_13 hM0, gP_9_13 hM0, gI_9_14 hM0, gP_9_14 hM0, gI_9_15 hM0, gP_9_15 hM0, gI_9_16 hM0, gP_9_16 hM0, gR_9_17 hM0, gR_9_18 hM0, gR_9_19 hM0, gR_9_20 hM0, gI_9_21 hM0, gP_9_21 hM0, gI_9_22 hM0, gP_9_22 hM0, gI_9_23 hM0, gP_9_23 hM0, gI_9_24 hM0, gP_9_24 hM0, gR_9_25 hM0, gI_9_26 hM0, gP_9_26 hM0, gI_9_27 hM0, gP_9_27 hM0, gI_9_28 hM0, gP_9_28 hM0, gL_9_29 hM0, gP_9_29 hM0, gL_9_30 hM0, gP_9_30 hM0, cI_s, cL_s, cF_s, cD_s, cA_s, cV_s, nI_add, cond_true, cond_false, if_true, if_false]
    rw [e1]
    simp (disch := omega) only [iEQ_f, cI_s, cL_s, cF_s, cD_s, cA_s, cV_s, nI_add, cond_true, cond_false, if_true, if_false]
    rw [QX11_readsFactor_165, if_neg (hn 0 (by omega))]
  · obtain ⟨M', e1, e2, e3⟩ := t_takes_t (E := E) (x := y) (n := m) (j := 9) H K' (by omega) (by omega) (by omega) u
    refine ⟨M', ?_, e2, frR_tr frR_P e3⟩
    rw [QX11_readsFactor_112]
    simp (disch := omega) only [gO_9 hM0, gI_9_0 hM0, gP_9_0 hM0, gR_9_1 hM0, gR_9_2 hM0, gI_9_3 hM0, gP_9_3 hM0, gI_9_4 hM0, gP_9_4 hM0, gR_9_5 hM0, gR_9_6 hM0, gR_9_7 hM0, gI_9_8 hM0, gP_9_8 hM0, gI_9_9 hM0, gP_9_9 hM0, gI_9_10 hM0, gP_9_10 hM0, gI_9_11 hM0, gP_9_11 hM0, gI_9_12 hM0, gP_9_12 hM0, gI_9_13 hM0, gP_9_13 hM0, gI_9_14 hM0, gP_9_14 hM0, gI_9_15 hM0, gP_9_15 hM0, gI_9_16 hM0, gP_9_16 hM0, gR_9_17 hM0, gR_9_18 hM0, gR_9_19 hM0, gR_9_20 hM0, gI_9_21 hM0, gP_9_21 hM0, gI_9_22 hM0, gP_9_22 hM0, gI_9_23 hM0, gP_9_23 hM0, gI_9_24 hM0, gP_9_24 hM0, gR_9_25 hM0, gI_9_26 hM0, gP_9_26 hM0, gI_9_27 hM0, gP_9_27 hM0, gI_9_28 hM0, gP_9_28 hM0, gL_9_29 hM0, gP_9_29 hM0, gL_9_30 hM0, gP_9_30 hM0, cI_s, cL_s, cF_s, cD_s, cA_s, cV_s, nI_add, cond_true, cond_false, if_true, if_false]
    rw [f8 (by omega)]
    simp (disch := omega) only [iEQ_t, QX11_readsFactor_125, gO_9 hM0, gI_9_0 hM0, gP_9_0 hM0, gR_9_1 hM0, gR_9_2 hM0, gI_9_3 hM0, gP_9_3 hM0, gI_9_4 hM0, gP_9_4 hM0, gR_9_5 hM0, gR_9_6 hM0, gR_9_7 hM0, gI_9_8 hM0, gP_9_8 hM0, gI_9_9 hM0, gP_9_9 hM0, gI_9_10 hM0, gP_9_10 hM0, gI_9_11 hM0, gP_9_11 hM0, gI_9_12 hM0, gP_9_12 hM0, gI_9_13 hM0, gP_9_13 hM0, gI_9_14 hM0, gP_9_14 hM0, gI_9_15 hM0, gP_9_15 hM0, gI_9_16 hM0, gP_9_16 hM0, gR_9_17 hM0, gR_9_18 hM0, gR_9_19 hM0, gR_9_20 hM0, gI_9_21 hM0, gP_9_21 hM0, gI_9_22 hM0, gP_9_22 hM0, gI_9_23 hM0, gP_9_23 hM0, gI_9_24 hM0, gP_9_24 hM0, gR_9_25 hM0, gI_9_26 hM0, gP_9_26 hM0, gI_9_27 hM0, gP_9_27 hM0, gI_9_28 hM0, gP_9_28 hM0, gL_9_29 hM0, gP_9_29 hM0, gL_9_30 hM0, gP_9_30 hM0, cI_s, cL_s, cF_s, cD_s, cA_s, cV_s, nI_add, cond_true, cond_false, if_true, if_false]
    rw [e1]
    simp (disch := omega) only [iEQ_f, cI_s, cL_s, cF_s, cD_s, cA_s, cV_s, nI_add, cond_true, cond_false, if_true, if_false]
    rw [QX11_readsFactor_165, if_neg (hn 1 (by omega))]
  · obtain ⟨M', e1, e2, e3⟩ := t_takes_t (E := E) (x := y) (n := m) (j := 10) H K' (by omega) (by omega) (by omega) u
    refine ⟨M', ?_, e2, frR_tr frR_P e3⟩
    rw [QX11_readsFactor_112]
    simp (disch := omega) only [gO_9 hM0, gI_9_0 hM0, gP_9_0 hM0, gR_9_1 hM0, gR_9_2 hM0, gI_9_3 hM0, gP_9_3 hM0, gI_9_4 hM0, gP_9_4 hM0, gR_9_5 hM0, gR_9_6 hM0, gR_9_7 hM0, gI_9_8 hM0, gP_9_8 hM0, gI_9_9 hM0, gP_9_9 hM0, gI_9_10 hM0, gP_9_10 hM0, gI_9_11 hM0, gP_9_11 hM0, gI_9_12 hM0, gP_9_12 hM0, gI_9_13 hM0, gP_9_13 hM0, gI_9_14 hM0, gP_9_14 hM0, gI_9_15 hM0, gP_9_15 hM0, gI_9_16 hM0, gP_9_16 hM0, gR_9_17 hM0, gR_9_18 hM0, gR_9_19 hM0, gR_9_20 hM0, gI_9_21 hM0, gP_9_21 hM0, gI_9_22 hM0, gP_9_22 hM0, gI_9_23 hM0, gP_9_23 hM0, gI_9_24 hM0, gP_9_24 hM0, gR_9_25 hM0, gI_9_26 hM0, gP_9_26 hM0, gI_9_27 hM0, gP_9_27 hM0, gI_9_28 hM0, gP_9_28 hM0, gL_9_29 hM0, gP_9_29 hM0, gL_9_30 hM0, gP_9_30 hM0, cI_s, cL_s, cF_s, cD_s, cA_s, cV_s, nI_add, cond_true, cond_false, if_true, if_false]
    rw [f8 (by omega)]
    simp (disch := omega) only [iEQ_t, QX11_readsFactor_125, gO_9 hM0, gI_9_0 hM0, gP_9_0 hM0, gR_9_1 hM0, gR_9_2 hM0, gI_9_3 hM0, gP_9_3 hM0, gI_9_4 hM0, gP_9_4 hM0, gR_9_5 hM0, gR_9_6 hM0, gR_9_7 hM0, gI_9_8 hM0, gP_9_8 hM0, gI_9_9 hM0, gP_9_9 hM0, gI_9_10 hM0, gP_9_10 hM0, gI_9_11 hM0, gP_9_11 hM0, gI_9_12 hM0, gP_9_12 hM0, gI_9_13 hM0, gP_9_13 hM0, gI_9_14 hM0, gP_9_14 hM0, gI_9_15 hM0, gP_9_15 hM0, gI_9_16 hM0, gP_9_16 hM0, gR_9_17 hM0, gR_9_18 hM0, gR_9_19 hM0, gR_9_20 hM0, gI_9_21 hM0, gP_9_21 hM0, gI_9_22 hM0, gP_9_22 hM0, gI_9_23 hM0, gP_9_23 hM0, gI_9_24 hM0, gP_9_24 hM0, gR_9_25 hM0, gI_9_26 hM0, gP_9_26 hM0, gI_9_27 hM0, gP_9_27 hM0, gI_9_28 hM0, gP_9_28 hM0, gL_9_29 hM0, gP_9_29 hM0, gL_9_30 hM0, gP_9_30 hM0, cI_s, cL_s, cF_s, cD_s, cA_s, cV_s, nI_add, cond_true, cond_false, if_true, if_false]
    rw [f9 (by omega)]
    simp (disch := omega) only [iEQ_t, QX11_readsFactor_138, gO_9 hM0, gI_9_0 hM0, gP_9_0 hM0, gR_9_1 hM0, gR_9_2 hM0, gI_9_3 hM0, gP_9_3 hM0, gI_9_4 hM0, gP_9_4 hM0, gR_9_5 hM0, gR_9_6 hM0, gR_9_7 hM0, gI_9_8 hM0, gP_9_8 hM0, gI_9_9 hM0, gP_9_9 hM0, gI_9_10 hM0, gP_9_10 hM0, gI_9_11 hM0, gP_9_11 hM0, gI_9_12 hM0, gP_9_12 hM0, gI_9_13 hM0, gP_9_13 hM0, gI_9_14 hM0, gP_9_14 hM0, gI_9_15 hM0, gP_9_15 hM0, gI_9_16 hM0, gP_9_16 hM0, gR_9_17 hM0, gR_9_18 hM0, gR_9_19 hM0, gR_9_20 hM0, gI_9_21 hM0, gP_9_21 hM0, gI_9_22 hM0, gP_9_22 hM0, gI_9_23 hM0, gP_9_23 hM0, gI_9_24 hM0, gP_9_24 hM0, gR_9_25 hM0, gI_9_26 hM0, gP_9_26 hM0, gI_9_27 hM0, gP_9_27 hM0, gI_9_28 hM0, gP_9_28 hM0, gL_9_29 hM0, gP_9_29 hM0, gL_9_30 hM0, gP_9_30 hM0, cI_s, cL_s, cF_s, cD_s, cA_s, cV_s, nI_add, cond_true, cond_false, if_true, if_false]
    rw [e1]
    simp (disch := omega) only [iEQ_f, cI_s, cL_s, cF_s, cD_s, cA_s, cV_s, nI_add, cond_true, cond_false, if_true, if_false]
    rw [QX11_readsFactor_165, if_neg (hn 2 (by omega))]
  · obtain ⟨M', e1, e2, e3⟩ := t_takes_t (E := E) (x := y) (n := m) (j := 11) H K' (by omega) (by omega) (by omega) u
    refine ⟨M', ?_, e2, frR_tr frR_P e3⟩
    rw [QX11_readsFactor_112]
    simp (disch := omega) only [gO_9 hM0, gI_9_0 hM0, gP_9_0 hM0, gR_9_1 hM0, gR_9_2 hM0, gI_9_3 hM0, gP_9_3 hM0, gI_9_4 hM0, gP_9_4 hM0, gR_9_5 hM0, gR_9_6 hM0, gR_9_7 hM0, gI_9_8 hM0, gP_9_8 hM0, gI_9_9 hM0, gP_9_9 hM0, gI_9_10 hM0, gP_9_10 hM0, gI_9_11 hM0, gP_9_11 hM0, gI_9_12 hM0, gP_9_12 hM0, gI_9_13 hM0, gP_9_13 hM0, gI_9_14 hM0, gP_9_14 hM0, gI_9_15 hM0, gP_9_15 hM0, gI_9_16 hM0, gP_9_16 hM0, gR_9_17 hM0, gR_9_18 hM0, gR_9_19 hM0, gR_9_20 hM0, gI_9_21 hM0, gP_9_21 hM0, gI_9_22 hM0, gP_9_22 hM0, gI_9_23 hM0, gP_9_23 hM0, gI_9_24 hM0, gP_9_24 hM0, gR_9_25 hM0, gI_9_26 hM0, gP_9_26 hM0, gI_9_27 hM0, gP_9_27 hM0, gI_9_28 hM0, gP_9_28 hM0, gL_9_29 hM0, gP_9_29 hM0, gL_9_30 hM0, gP_9_30 hM0, cI_s, cL_s, cF_s, cD_s, cA_s, cV_s, nI_add, cond_true, cond_false, if_true, if_false]
    rw [f8 (by omega)]
    simp (disch := omega) only [iEQ_t, QX11_readsFactor_125, gO_9 hM0, gI_9_0 hM0, gP_9_0 hM0, gR_9_1 hM0, gR_9_2 hM0, gI_9_3 hM0, gP_9_3 hM0, gI_9_4 hM0, gP_9_4 hM0, gR_9_5 hM0, gR_9_6 hM0, gR_9_7 hM0, gI_9_8 hM0, gP_9_8 hM0, gI_9_9 hM0, gP_9_9 hM0, gI_9_10 hM0, gP_9_10 hM0, gI_9_11 hM0, gP_9_11 hM0, gI_9_12 hM0, gP_9_12 hM0, gI_9_13 hM0, gP_9_13 hM0, gI_9_14 hM0, gP_9_14 hM0, gI_9_15 hM0, gP_9_15 hM0, gI_9_16 hM0, gP_9_16 hM0, gR_9_17 hM0, gR_9_18 hM0, gR_9_19 hM0, gR_9_20 hM0, gI_9_21 hM0, gP_9_21 hM0, gI_9_22 hM0, gP_9_22 hM0, gI_9_23 hM0, gP_9_23 hM0, gI_9_24 hM0, gP_9_24 hM0, gR_9_25 hM0, gI_9_26 hM0, gP_9_26 hM0, gI_9_27 hM0, gP_9_27 hM0, gI_9_28 hM0, gP_9_28 hM0, gL_9_29 hM0, gP_9_29 hM0, gL_9_30 hM0, gP_9_30 hM0, cI_s, cL_s, cF_s, cD_s, cA_s, cV_s, nI_add, cond_true, cond_false, if_true, if_false]
    rw [f9 (by omega)]
    simp (disch := omega) only [iEQ_t, QX11_readsFactor_138, gO_9 hM0, gI_9_0 hM0, gP_9_0 hM0, gR_9_1 hM0, gR_9_2 hM0, gI_9_3 hM0, gP_9_3 hM0, gI_9_4 hM0, gP_9_4 hM0, gR_9_5 hM0, gR_9_6 hM0, gR_9_7 hM0, gI_9_8 hM0, gP_9_8 hM0, gI_9_9 hM0, gP_9_9 hM0, gI_9_10 hM0, gP_9_10 hM0, gI_9_11 hM0, gP_9_11 hM0, gI_9_12 hM0, gP_9_12 hM0, gI_9_13 hM0, gP_9_13 hM0, gI_9_14 hM0, gP_9_14 hM0, gI_9_15 hM0, gP_9_15 hM0, gI_9_16 hM0, gP_9_16 hM0, gR_9_17 hM0, gR_9_18 hM0, gR_9_19 hM0, gR_9_20 hM0, gI_9_21 hM0, gP_9_21 hM0, gI_9_22 hM0, gP_9_22 hM0, gI_9_23 hM0, gP_9_23 hM0, gI_9_24 hM0, gP_9_24 hM0, gR_9_25 hM0, gI_9_26 hM0, gP_9_26 hM0, gI_9_27 hM0, gP_9_27 hM0, gI_9_28 hM0, gP_9_28 hM0, gL_9_29 hM0, gP_9_29 hM0, gL_9_30 hM0, gP_9_30 hM0, cI_s, cL_s, cF_s, cD_s, cA_s, cV_s, nI_add, cond_true, cond_false, if_true, if_false]
    rw [f10 (by omega)]
    simp (disch := omega) only [iEQ_t, QX11_readsFactor_151, gO_9 hM0, gI_9_0 hM0, gP_9_0 hM0, gR_9_1 hM0, gR_9_2 hM0, gI_9_3 hM0, gP_9_3 hM0, gI_9_4 hM0, gP_9_4 hM0, gR_9_5 hM0, gR_9_6 hM0, gR_9_7 hM0, gI_9_8 hM0, gP_9_8 hM0, gI_9_9 hM0, gP_9_9 hM0, gI_9_10 hM0, gP_9_10 hM0, gI_9_11 hM0, gP_9_11 hM0, gI_9_12 hM0, gP_9_12 hM0, gI_9_13 hM0, gP_9_13 hM0, gI_9_14 hM0, gP_9_14 hM0, gI_9_15 hM0, gP_9_15 hM0, gI_9_16 hM0, gP_9_16 hM0, gR_9_17 hM0, gR_9_18 hM0, gR_9_19 hM0, gR_9_20 hM0, gI_9_21 hM0, gP_9_21 hM0, gI_9_22 hM0, gP_9_22 hM0, gI_9_23 hM0, gP_9_23 hM0, gI_9_24 hM0, gP_9_24 hM0, gR_9_25 hM0, gI_9_26 hM0, gP_9_26 hM0, gI_9_27 hM0, gP_9_27 hM0, gI_9_28 hM0, gP_9_28 hM0, gL_9_29 hM0, gP_9_29 hM0, gL_9_30 hM0, gP_9_30 hM0, cI_s, cL_s, cF_s, cD_s, cA_s, cV_s, nI_add, cond_true, cond_false, if_true, if_false]
    rw [e1]
    simp (disch := omega) only [iEQ_f, cI_s, cL_s, cF_s, cD_s, cA_s, cV_s, nI_add, cond_true, cond_false, if_true, if_false]
    rw [QX11_readsFactor_165, if_neg (hn 3 (by omega))]
theorem m_novar {M : xSt} {p : Nat} (H : hEn E y) (K : mQ M tx L p) (e : tk tx L p < 10 ∨ 13 < tk tx L p) (u : Nat) :
    ∃ M', qX11_readsFactor_112 E (u + 5) y (wW E y shM M, m) = some (.inl (some (.int (nI 0))), (wW E y shM M', m)) ∧ mX M' (-2) p ∧ frR M M' := by
  have K' := mQ_P K
  obtain ⟨M', e1, e2, e3⟩ := t_fail (E := E) (x := y) (n := m) K' (-2) p (u + 4)
  refine ⟨M', ?_, e2, frR_tr frR_P e3⟩
  rw [QX11_readsFactor_112]
  simp (disch := omega) only [gO_9 hM0, gI_9_0 hM0, gP_9_0 hM0, gR_9_1 hM0, gR_9_2 hM0, gI_9_3 hM0, gP_9_3 hM0, gI_9_4 hM0, gP_9_4 hM0, gR_9_5 hM0, gR_9_6 hM0, gR_9_7 hM0, gI_9_8 hM0, gP_9_8 hM0, gI_9_9 hM0, gP_9_9 hM0, gI_9_10 hM0, gP_9_10 hM0, gI_9_11 hM0, gP_9_11 hM0, gI_9_12 hM0, gP_9_12 hM0, gI_9_13 hM0, gP_9_13 hM0, gI_9_14 hM0, gP_9_14 hM0, gI_9_15 hM0, gP_9_15 hM0, gI_9_16 hM0, gP_9_16 hM0, gR_9_17 hM0, gR_9_18 hM0, gR_9_19 hM0, gR_9_20 hM0, gI_9_21 hM0, gP_9_21 hM0, gI_9_22 hM0, gP_9_22 hM0, gI_9_23 hM0, gP_9_23 hM0, gI_9_24 hM0, gP_9_24 hM0, gR_9_25 hM0, gI_9_26 hM0, gP_9_26 hM0, gI_9_27 hM0, gP_9_27 hM0, gI_9_28 hM0, gP_9_28 hM0, gL_9_29 hM0, gP_9_29 hM0, gL_9_30 hM0, gP_9_30 hM0, cI_s, cL_s, cF_s, cD_s, cA_s, cV_s, nI_add, cond_true, cond_false, if_true, if_false]
  rw [t_takes_f H K (by omega) (by omega) (by omega)]
  simp (disch := omega) only [iEQ_t, QX11_readsFactor_125, gO_9 hM0, gI_9_0 hM0, gP_9_0 hM0, gR_9_1 hM0, gR_9_2 hM0, gI_9_3 hM0, gP_9_3 hM0, gI_9_4 hM0, gP_9_4 hM0, gR_9_5 hM0, gR_9_6 hM0, gR_9_7 hM0, gI_9_8 hM0, gP_9_8 hM0, gI_9_9 hM0, gP_9_9 hM0, gI_9_10 hM0, gP_9_10 hM0, gI_9_11 hM0, gP_9_11 hM0, gI_9_12 hM0, gP_9_12 hM0, gI_9_13 hM0, gP_9_13 hM0, gI_9_14 hM0, gP_9_14 hM0, gI_9_15 hM0, gP_9_15 hM0, gI_9_16 hM0, gP_9_16 hM0, gR_9_17 hM0, gR_9_18 hM0, gR_9_19 hM0, gR_9_20 hM0, gI_9_21 hM0, gP_9_21 hM0, gI_9_22 hM0, gP_9_22 hM0, gI_9_23 hM0, gP_9_23 hM0, gI_9_24 hM0, gP_9_24 hM0, gR_9_25 hM0, gI_9_26 hM0, gP_9_26 hM0, gI_9_27 hM0, gP_9_27 hM0, gI_9_28 hM0, gP_9_28 hM0, gL_9_29 hM0, gP_9_29 hM0, gL_9_30 hM0, gP_9_30 hM0, cI_s, cL_s, cF_s, cD_s, cA_s, cV_s, nI_add, cond_true, cond_false, if_true, if_false]
  rw [t_takes_f H K' (by omega) (by omega) (by omega), mP_P]
  simp (disch := omega) only [iEQ_t, QX11_readsFactor_138, gO_9 hM0, gI_9_0 hM0, gP_9_0 hM0, gR_9_1 hM0, gR_9_2 hM0, gI_9_3 hM0, gP_9_3 hM0, gI_9_4 hM0, gP_9_4 hM0, gR_9_5 hM0, gR_9_6 hM0, gR_9_7 hM0, gI_9_8 hM0, gP_9_8 hM0, gI_9_9 hM0, gP_9_9 hM0, gI_9_10 hM0, gP_9_10 hM0, gI_9_11 hM0, gP_9_11 hM0, gI_9_12 hM0, gP_9_12 hM0, gI_9_13 hM0, gP_9_13 hM0, gI_9_14 hM0, gP_9_14 hM0, gI_9_15 hM0, gP_9_15 hM0, gI_9_16 hM0, gP_9_16 hM0, gR_9_17 hM0, gR_9_18 hM0, gR_9_19 hM0, gR_9_20 hM0, gI_9_21 hM0, gP_9_21 hM0, gI_9_22 hM0, gP_9_22 hM0, gI_9_23 hM0, gP_9_23 hM0, gI_9_24 hM0, gP_9_24 hM0, gR_9_25 hM0, gI_9_26 hM0, gP_9_26 hM0, gI_9_27 hM0, gP_9_27 hM0, gI_9_28 hM0, gP_9_28 hM0, gL_9_29 hM0, gP_9_29 hM0, gL_9_30 hM0, gP_9_30 hM0, cI_s, cL_s, cF_s, cD_s, cA_s, cV_s, nI_add, cond_true, cond_false, if_true, if_false]
  rw [t_takes_f H K' (by omega) (by omega) (by omega), mP_P]
  simp (disch := omega) only [iEQ_t, QX11_readsFactor_151, gO_9 hM0, gI_9_0 hM0, gP_9_0 hM0, gR_9_1 hM0, gR_9_2 hM0, gI_9_3 hM0, gP_9_3 hM0, gI_9_4 hM0, gP_9_4 hM0, gR_9_5 hM0, gR_9_6 hM0, gR_9_7 hM0, gI_9_8 hM0, gP_9_8 hM0, gI_9_9 hM0, gP_9_9 hM0, gI_9_10 hM0, gP_9_10 hM0, gI_9_11 hM0, gP_9_11 hM0, gI_9_12 hM0, gP_9_12 hM0, gI_9_13 hM0, gP_9_13 hM0, gI_9_14 hM0, gP_9_14 hM0, gI_9_15 hM0, gP_9_15 hM0, gI_9_16 hM0, gP_9_16 hM0, gR_9_17 hM0, gR_9_18 hM0, gR_9_19 hM0, gR_9_20 hM0, gI_9_21 hM0, gP_9_21 hM0, gI_9_22 hM0, gP_9_22 hM0, gI_9_23 hM0, gP_9_23 hM0, gI_9_24 hM0, gP_9_24 hM0, gR_9_25 hM0, gI_9_26 hM0, gP_9_26 hM0, gI_9_27 hM0, gP_9_27 hM0, gI_9_28 hM0, gP_9_28 hM0, gL_9_29 hM0, gP_9_29 hM0, gL_9_30 hM0, gP_9_30 hM0, cI_s, cL_s, cF_s, cD_s, cA_s, cV_s, nI_add, cond_true, cond_false, if_true, if_false]
  rw [t_takes_f H K' (by omega) (by omega) (by omega), mP_P]
  simp (disch := omega) only [iEQ_t, QX11_readsFactor_164, QX11_readsFactor_165, gO_9 hM0, gI_9_0 hM0, gP_9_0 hM0, gR_9_1 hM0, gR_9_2 hM0, gI_9_3 hM0, gP_9_3 hM0, gI_9_4 hM0, gP_9_4 hM0, gR_9_5 hM0, gR_9_6 hM0, gR_9_7 hM0, gI_9_8 hM0, gP_9_8 hM0, gI_9_9 hM0, gP_9_9 hM0, gI_9_10 hM0, gP_9_10 hM0, gI_9_11 hM0, gP_9_11 hM0, gI_9_12 hM0, gP_9_12 hM0, gI_9_13 hM0, gP_9_13 hM0, gI_9_14 hM0, gP_9_14 hM0, gI_9_15 hM0, gP_9_15 hM0, gI_9_16 hM0, gP_9_16 hM0, gR_9_17 hM0, gR_9_18 hM0, gR_9_19 hM0, gR_9_20 hM0, gI_9_21 hM0, gP_9_21 hM0, gI_9_22 hM0, gP_9_22 hM0, gI_9_23 hM0, gP_9_23 hM0, gI_9_24 hM0, gP_9_24 hM0, gR_9_25 hM0, gI_9_26 hM0, gP_9_26 hM0, gI_9_27 hM0, gP_9_27 hM0, gI_9_28 hM0, gP_9_28 hM0, gL_9_29 hM0, gP_9_29 hM0, gL_9_30 hM0, gP_9_30 hM0, mP_10, cI_s, cL_s, cF_s, cD_s, cA_s, cV_s, nI_add, cond_true, cond_false, if_true, if_false]
  rw [e1]
  simp (disch := omega) only [xret5_0, cI_s, cL_s, cF_s, cD_s, cA_s, cV_s, nI_add, cond_true, cond_false, if_true, if_false]
def okP (E : xEn) (x y n m : Nat) (sh : Nat → Option xSh) (tx : Nat → Nat) (L kc km D D' r B : Nat) : Prop :=
  ∀ S M g p dep s, dep + r = 4 → RF S M tx L g p dep → g 11 + s ≤ p → oF E x y n m sh tx L S M g p dep s (2 * dep + B) 0 1 (xsem xT E D kc [.ref (x + 23), .ref (x + 1), .int (nI dep)] (wW E x sh S, n)) (xsem xT E D' km [.ref y] (wW E y shM M, m))
theorem RF_P {S M : xSt} {g : Nat → Nat} {p dep : Nat} (R : RF S M tx L g p dep) : RF S (mP M p) tx L g p dep :=
  ⟨R.1, mQ_P R.2.1, rd_R R.2.2.1 frR_P, R.2.2.2.1, (frR_P.1 15 (by omega)).trans R.2.2.2.2⟩
theorem RF_I {S S' M M' : xSt} {g : Nat → Nat} {p p' dep : Nat} (R : RF S M tx L g p dep) (f : frI S S') (f' : frR M M') (Q : cQ S' tx L p') (K : mQ M' tx L p') : RF S' M' tx L g p' dep :=
  ⟨Q, K, rd_R R.2.2.1 f', fF_I R.2.2.2.1 f, (f'.1 15 (by omega)).trans R.2.2.2.2⟩
theorem p_fac (h3 : hI sh 1) (hF : sh 23 = some (sh1 23)) (hP : sh 24 = some (1, 500, [])) (H : hEn E x) (H' : hEn E y) {d u r : Nat} (hsum : ∀ r', r = r' + 1 → okP E x y n m sh tx L kX1_readSum kX11_readsSum (d + 3) (u + 7) r' 0) :
    okP E x y n m sh tx L kX1_readFactor kX11_readsFactor (d + 4) (u + 8) r 2 := by
  intro S M g p dep s hr R hs
  have R' := RF_P R
  obtain ⟨Q, K, RR, F, hd⟩ := R
  have K' := mQ_P K
  obtain ⟨hpL, hL, hx, ht⟩ := mQ_le K
  have a3 := h3.1
  have hm15 : (mP M p).1 0 15 = nI dep := R'.2.2.2.2
  have htl := tk_lt (tx := tx) (L := L) (p := p)
  rw [eX1_readFactor, QX1_readFactor_0, eX11_readsFactor, QX11_readsFactor_0]
  by_cases e8 : tk tx L p = 8
  · have hh : hc tx L p = nI 40 := (hc_sg hL ht (i := 8) (by omega) (by omega)).2 e8
    obtain ⟨hp, hc8⟩ := (tk_sg hL ht (i := 8) (by omega) (by omega)).1 e8
    by_cases hd4 : dep = 4
    · obtain ⟨S', a1, a2, a4⟩ := c_fail (E := E) (x := x) (n := n) h3 Q (-6) (d + 2)
      obtain ⟨M', b1, b2, b3⟩ := t_fail (E := E) (x := y) (n := m) K' (-6) p (u + 6)
      refine Or.inr ⟨S', M', ?_, ?_, xF_of a2 b2, frC_I a4, frF_R (frR_tr frR_P b3)⟩
      · simp (disch := omega) only [gO_3 a3, gR_3_0 a3, gI_3_1 a3, gP_3_1 a3, gI_3_2 a3, gP_3_2 a3, gR_3_3 a3, gR_3_4 a3, gR_3_5 a3, gI_3_6 a3, gP_3_6 a3, gI_3_7 a3, gP_3_7 a3, gI_3_8 a3, gP_3_8 a3, gI_3_9 a3, gP_3_9 a3, c_is_t h3 H Q _ e8, iEQ_f, hd4, iLT_f, cI_s, cL_s, cF_s, cD_s, cA_s, cV_s, nI_add, cond_true, cond_false, if_true, if_false]
        rw [a1]
        simp (disch := omega) only [xret5_0, cI_s, cL_s, cF_s, cD_s, cA_s, cV_s, nI_add, cond_true, cond_false, if_true, if_false]
      · simp (disch := omega) only [gO_9 hM0, gI_9_0 hM0, gP_9_0 hM0, gR_9_1 hM0, gR_9_2 hM0, gI_9_3 hM0, gP_9_3 hM0, gI_9_4 hM0, gP_9_4 hM0, gR_9_5 hM0, gR_9_6 hM0, gR_9_7 hM0, gI_9_8 hM0, gP_9_8 hM0, gI_9_9 hM0, gP_9_9 hM0, gI_9_10 hM0, gP_9_10 hM0, gI_9_11 hM0, gP_9_11 hM0, gI_9_12 hM0, gP_9_12 hM0, gI_9_13 hM0, gP_9_13 hM0, gI_9_14 hM0, gP_9_14 hM0, gI_9_15 hM0, gP_9_15 hM0, gI_9_16 hM0, gP_9_16 hM0, gR_9_17 hM0, gR_9_18 hM0, gR_9_19 hM0, gR_9_20 hM0, gI_9_21 hM0, gP_9_21 hM0, gI_9_22 hM0, gP_9_22 hM0, gI_9_23 hM0, gP_9_23 hM0, gI_9_24 hM0, gP_9_24 hM0, gR_9_25 hM0, gI_9_26 hM0, gP_9_26 hM0, gI_9_27 hM0, gP_9_27 hM0, gI_9_28 hM0, gP_9_28 hM0, gL_9_29 hM0, gP_9_29 hM0, gL_9_30 hM0, gP_9_30 hM0, t_here K, hh, hm15, iEQ_t hd4, mP_10, cI_s, cL_s, cF_s, cD_s, cA_s, cV_s, nI_add, cond_true, cond_false, if_true, if_false]
        rw [b1]
        simp (disch := omega) only [xret5_0, cI_s, cL_s, cF_s, cD_s, cA_s, cV_s, nI_add, cond_true, cond_false, if_true, if_false]
    · obtain ⟨S1, a1, a2, a4⟩ := c_advance (E := E) (x := x) (n := n) h3 Q (d + 2)
      have hK1 : mQ (sS (sS (mP M p) 0 15 (nI (dep + 1))) 0 10 (nI (p + 1))) tx L (ad tx L p) := by
        have := mQ_at (b := p + 1) (mQ_o (k := 15) (v := nI (dep + 1)) K' (by omega)) (by omega)
        rw [sg_ad hp (i := 8) (by omega) hc8] at this
        exact this
      have hR1 : RF S1 (sS (sS (mP M p) 0 15 (nI (dep + 1))) 0 10 (nI (p + 1))) tx L g (ad tx L p) (dep + 1) :=
        ⟨a2, hK1, R'.2.2.1, fF_I F a4, by rw [sS_n (by omega), sS_s]⟩
      have hfM : frF M (sS (sS (mP M p) 0 15 (nI (dep + 1))) 0 10 (nI (p + 1))) := ⟨fun k hk => by rw [sS_n (by omega), sS_n (by omega)]; exact frR_P.1 k (by omega), fun _ _ => rfl, rfl⟩
      have hgt := ad_gt (tx := tx) hL hp
      have hcc : ∀ K : xR → xR, True := fun _ => trivial
      have hlc : ∀ r, qX1_readFactor_22 E (d + 3) (x + 23) (x + 1) (nI dep) (wW E x sh S, n) = r → (gO E (wW E x sh S, n) 3 (x + 1) (cI (xthr 1 some) (xsem xT E (d + 3) kX3_is [.ref (x + 1), .ref (E.1 8)] (wW E x sh S, n)) (fun v1 σ1 => if v1 = nI 0 then qX1_readFactor_53 E (d + 3) (x + 23) (x + 1) σ1 else if nI dep < nI 4 then qX1_readFactor_22 E (d + 3) (x + 23) (x + 1) (nI dep) σ1 else gO E σ1 3 (x + 1) (cI (xthr 1 some) (xsem xT E (d + 3) kX3_fail [.ref (x + 1), .int (-6 : Int32)] σ1) (fun v2 σ2 => xiret [5] v2 (some (.inl (some (.int v2)), σ2))))))) = r := by
        intro r hr
        rw [← hr]
        simp (disch := omega) only [gO_3 a3, gR_3_0 a3, gI_3_1 a3, gP_3_1 a3, gI_3_2 a3, gP_3_2 a3, gR_3_3 a3, gR_3_4 a3, gR_3_5 a3, gI_3_6 a3, gP_3_6 a3, gI_3_7 a3, gP_3_7 a3, gI_3_8 a3, gP_3_8 a3, gI_3_9 a3, gP_3_9 a3, c_is_t h3 H Q _ e8, iEQ_f, iLT_t, cI_s, cL_s, cF_s, cD_s, cA_s, cV_s, nI_add, cond_true, cond_false, if_true, if_false]
      rcases hsum (r - 1) (by omega) S1 _ g (ad tx L p) (dep + 1) s (by omega) hR1 (by omega) with ⟨S2, M2, g2, p2, k1, k2, k3, k4, k5, k6, k7, k8⟩ | ⟨S2, M2, k1, k2, k3, k4, k5⟩
      · obtain ⟨Q2, K2, RR2, F2, hd2⟩ := k3
        by_cases e9 : tk tx L p2 = 9
        · obtain ⟨S3, a5, a6, a7⟩ := c_take_t (E := E) (x := x) (n := n) h3 H Q2 (by omega) e9 (d + 1)
          obtain ⟨M3, b5, b6, b7⟩ := t_sign_t (E := E) (x := y) (n := m) K2 (i := 9) (by omega) (by omega) e9 (u + 5)
          have b5 : xsem xT E (u + 7) kX11_sign [.ref y, .int (nI 41)] (wW E y shM M2, m) = some (.inl (some (.int (nI 1))), (wW E y shM M3, m)) := b5
          have h15 : M3.1 0 15 = nI (dep + 1) := (b7.1 15 (by omega)).trans hd2
          obtain ⟨hp2L, _⟩ := mQ_le K2
          have hp2 : p2 < L := by
            by_cases c : p2 < L
            · exact c
            · have := (tk_0 hL (tx := tx)).2 c
              omega
          have hgt2 := ad_gt (tx := tx) hL hp2
          refine Or.inl ⟨S3, sS M3 0 15 (nI dep), g2, ad tx L p2, hlc _ ?_, ?_, ⟨a6, mQ_o b6 (by omega), rd_R (M' := M3) RR2 b7, fF_I F2 a7, sS_s⟩, frC_tr (frC_I a4) (frC_tr k4 (frC_I a7)), ?_, by omega, by omega, seg_lo k8 (by omega)⟩
          · rw [QX1_readFactor_22]
            simp (disch := omega) only [gO_3 a3, gR_3_0 a3, gI_3_1 a3, gP_3_1 a3, gI_3_2 a3, gP_3_2 a3, gR_3_3 a3, gR_3_4 a3, gR_3_5 a3, gI_3_6 a3, gP_3_6 a3, gI_3_7 a3, gP_3_7 a3, gI_3_8 a3, gP_3_8 a3, gI_3_9 a3, gP_3_9 a3, gO_1 hF, gR_1_0 hF, gI_1_1 hF, gP_1_1 hF, gR_1_2 hF, a1, cI_s, cL_s, cF_s, cD_s, cA_s, cV_s, nI_add, cond_true, cond_false, if_true, if_false]
            rw [k1]
            simp (disch := omega) only [iEQ_f, gO_3 a3, gR_3_0 a3, gI_3_1 a3, gP_3_1 a3, gI_3_2 a3, gP_3_2 a3, gR_3_3 a3, gR_3_4 a3, gR_3_5 a3, gI_3_6 a3, gP_3_6 a3, gI_3_7 a3, gP_3_7 a3, gI_3_8 a3, gP_3_8 a3, gI_3_9 a3, gP_3_9 a3, cI_s, cL_s, cF_s, cD_s, cA_s, cV_s, nI_add, cond_true, cond_false, if_true, if_false]
            rw [a5]
            simp (disch := omega) only [iEQ_f, QX1_readFactor_52, xret5_1, cI_s, cL_s, cF_s, cD_s, cA_s, cV_s, nI_add, cond_true, cond_false, if_true, if_false]
          · simp (disch := omega) only [gO_9 hM0, gI_9_0 hM0, gP_9_0 hM0, gR_9_1 hM0, gR_9_2 hM0, gI_9_3 hM0, gP_9_3 hM0, gI_9_4 hM0, gP_9_4 hM0, gR_9_5 hM0, gR_9_6 hM0, gR_9_7 hM0, gI_9_8 hM0, gP_9_8 hM0, gI_9_9 hM0, gP_9_9 hM0, gI_9_10 hM0, gP_9_10 hM0, gI_9_11 hM0, gP_9_11 hM0, gI_9_12 hM0, gP_9_12 hM0, gI_9_13 hM0, gP_9_13 hM0, gI_9_14 hM0, gP_9_14 hM0, gI_9_15 hM0, gP_9_15 hM0, gI_9_16 hM0, gP_9_16 hM0, gR_9_17 hM0, gR_9_18 hM0, gR_9_19 hM0, gR_9_20 hM0, gI_9_21 hM0, gP_9_21 hM0, gI_9_22 hM0, gP_9_22 hM0, gI_9_23 hM0, gP_9_23 hM0, gI_9_24 hM0, gP_9_24 hM0, gR_9_25 hM0, gI_9_26 hM0, gP_9_26 hM0, gI_9_27 hM0, gP_9_27 hM0, gI_9_28 hM0, gP_9_28 hM0, gL_9_29 hM0, gP_9_29 hM0, gL_9_30 hM0, gP_9_30 hM0, t_here K, hh, hm15, iEQ_f, QX11_readsFactor_28, sS_n, mP_10, cI_s, cL_s, cF_s, cD_s, cA_s, cV_s, nI_add, cond_true, cond_false, if_true, if_false]
            rw [k2]
            simp (disch := omega) only [gO_9 hM0, gI_9_0 hM0, gP_9_0 hM0, gR_9_1 hM0, gR_9_2 hM0, gI_9_3 hM0, gP_9_3 hM0, gI_9_4 hM0, gP_9_4 hM0, gR_9_5 hM0, gR_9_6 hM0, gR_9_7 hM0, gI_9_8 hM0, gP_9_8 hM0, gI_9_9 hM0, gP_9_9 hM0, gI_9_10 hM0, gP_9_10 hM0, gI_9_11 hM0, gP_9_11 hM0, gI_9_12 hM0, gP_9_12 hM0, gI_9_13 hM0, gP_9_13 hM0, gI_9_14 hM0, gP_9_14 hM0, gI_9_15 hM0, gP_9_15 hM0, gI_9_16 hM0, gP_9_16 hM0, gR_9_17 hM0, gR_9_18 hM0, gR_9_19 hM0, gR_9_20 hM0, gI_9_21 hM0, gP_9_21 hM0, gI_9_22 hM0, gP_9_22 hM0, gI_9_23 hM0, gP_9_23 hM0, gI_9_24 hM0, gP_9_24 hM0, gR_9_25 hM0, gI_9_26 hM0, gP_9_26 hM0, gI_9_27 hM0, gP_9_27 hM0, gI_9_28 hM0, gP_9_28 hM0, gL_9_29 hM0, gP_9_29 hM0, gL_9_30 hM0, gP_9_30 hM0, iEQ_f, cI_s, cL_s, cF_s, cD_s, cA_s, cV_s, nI_add, cond_true, cond_false, if_true, if_false]
            rw [b5]
            simp (disch := omega) only [gO_9 hM0, gI_9_0 hM0, gP_9_0 hM0, gR_9_1 hM0, gR_9_2 hM0, gI_9_3 hM0, gP_9_3 hM0, gI_9_4 hM0, gP_9_4 hM0, gR_9_5 hM0, gR_9_6 hM0, gR_9_7 hM0, gI_9_8 hM0, gP_9_8 hM0, gI_9_9 hM0, gP_9_9 hM0, gI_9_10 hM0, gP_9_10 hM0, gI_9_11 hM0, gP_9_11 hM0, gI_9_12 hM0, gP_9_12 hM0, gI_9_13 hM0, gP_9_13 hM0, gI_9_14 hM0, gP_9_14 hM0, gI_9_15 hM0, gP_9_15 hM0, gI_9_16 hM0, gP_9_16 hM0, gR_9_17 hM0, gR_9_18 hM0, gR_9_19 hM0, gR_9_20 hM0, gI_9_21 hM0, gP_9_21 hM0, gI_9_22 hM0, gP_9_22 hM0, gI_9_23 hM0, gP_9_23 hM0, gI_9_24 hM0, gP_9_24 hM0, gR_9_25 hM0, gI_9_26 hM0, gP_9_26 hM0, gI_9_27 hM0, gP_9_27 hM0, gI_9_28 hM0, gP_9_28 hM0, gL_9_29 hM0, gP_9_29 hM0, gL_9_30 hM0, gP_9_30 hM0, iEQ_f, QX11_readsFactor_66, h15, pk_sub, Nat.add_sub_cancel, xret5_1, cI_s, cL_s, cF_s, cD_s, cA_s, cV_s, nI_add, cond_true, cond_false, if_true, if_false]
          · exact frF_tr hfM (frF_tr k5 (frF_tr (frF_R b7) ⟨fun k hk => sS_n (by omega), fun _ _ => rfl, rfl⟩))
        · obtain ⟨S3, a5, a6, a7⟩ := c_take_f (E := E) (x := x) (n := n) h3 H Q2 (by omega) e9 (d + 1)
          obtain ⟨M3, b5, b6, b7⟩ := t_sign_f (E := E) (x := y) (n := m) K2 (i := 9) (by omega) (by omega) e9 (u + 5)
          have b5 : xsem xT E (u + 7) kX11_sign [.ref y, .int (nI 41)] (wW E y shM M2, m) = some (.inl (some (.int (nI 0))), (wW E y shM M3, m)) := b5
          refine Or.inr ⟨S3, M3, hlc _ ?_, ?_, xF_of a6 b6, frC_tr (frC_I a4) (frC_tr k4 (frC_I a7)), frF_tr hfM (frF_tr k5 (frF_R b7))⟩
          · rw [QX1_readFactor_22]
            simp (disch := omega) only [gO_3 a3, gR_3_0 a3, gI_3_1 a3, gP_3_1 a3, gI_3_2 a3, gP_3_2 a3, gR_3_3 a3, gR_3_4 a3, gR_3_5 a3, gI_3_6 a3, gP_3_6 a3, gI_3_7 a3, gP_3_7 a3, gI_3_8 a3, gP_3_8 a3, gI_3_9 a3, gP_3_9 a3, gO_1 hF, gR_1_0 hF, gI_1_1 hF, gP_1_1 hF, gR_1_2 hF, a1, cI_s, cL_s, cF_s, cD_s, cA_s, cV_s, nI_add, cond_true, cond_false, if_true, if_false]
            rw [k1]
            simp (disch := omega) only [iEQ_f, gO_3 a3, gR_3_0 a3, gI_3_1 a3, gP_3_1 a3, gI_3_2 a3, gP_3_2 a3, gR_3_3 a3, gR_3_4 a3, gR_3_5 a3, gI_3_6 a3, gP_3_6 a3, gI_3_7 a3, gP_3_7 a3, gI_3_8 a3, gP_3_8 a3, gI_3_9 a3, gP_3_9 a3, cI_s, cL_s, cF_s, cD_s, cA_s, cV_s, nI_add, cond_true, cond_false, if_true, if_false]
            rw [a5]
            simp (disch := omega) only [iEQ_t, QX1_readFactor_51, QX1_readFactor_52, xret5_0, cI_s, cL_s, cF_s, cD_s, cA_s, cV_s, nI_add, cond_true, cond_false, if_true, if_false]
          · simp (disch := omega) only [gO_9 hM0, gI_9_0 hM0, gP_9_0 hM0, gR_9_1 hM0, gR_9_2 hM0, gI_9_3 hM0, gP_9_3 hM0, gI_9_4 hM0, gP_9_4 hM0, gR_9_5 hM0, gR_9_6 hM0, gR_9_7 hM0, gI_9_8 hM0, gP_9_8 hM0, gI_9_9 hM0, gP_9_9 hM0, gI_9_10 hM0, gP_9_10 hM0, gI_9_11 hM0, gP_9_11 hM0, gI_9_12 hM0, gP_9_12 hM0, gI_9_13 hM0, gP_9_13 hM0, gI_9_14 hM0, gP_9_14 hM0, gI_9_15 hM0, gP_9_15 hM0, gI_9_16 hM0, gP_9_16 hM0, gR_9_17 hM0, gR_9_18 hM0, gR_9_19 hM0, gR_9_20 hM0, gI_9_21 hM0, gP_9_21 hM0, gI_9_22 hM0, gP_9_22 hM0, gI_9_23 hM0, gP_9_23 hM0, gI_9_24 hM0, gP_9_24 hM0, gR_9_25 hM0, gI_9_26 hM0, gP_9_26 hM0, gI_9_27 hM0, gP_9_27 hM0, gI_9_28 hM0, gP_9_28 hM0, gL_9_29 hM0, gP_9_29 hM0, gL_9_30 hM0, gP_9_30 hM0, t_here K, hh, hm15, iEQ_f, QX11_readsFactor_28, sS_n, mP_10, cI_s, cL_s, cF_s, cD_s, cA_s, cV_s, nI_add, cond_true, cond_false, if_true, if_false]
            rw [k2]
            simp (disch := omega) only [gO_9 hM0, gI_9_0 hM0, gP_9_0 hM0, gR_9_1 hM0, gR_9_2 hM0, gI_9_3 hM0, gP_9_3 hM0, gI_9_4 hM0, gP_9_4 hM0, gR_9_5 hM0, gR_9_6 hM0, gR_9_7 hM0, gI_9_8 hM0, gP_9_8 hM0, gI_9_9 hM0, gP_9_9 hM0, gI_9_10 hM0, gP_9_10 hM0, gI_9_11 hM0, gP_9_11 hM0, gI_9_12 hM0, gP_9_12 hM0, gI_9_13 hM0, gP_9_13 hM0, gI_9_14 hM0, gP_9_14 hM0, gI_9_15 hM0, gP_9_15 hM0, gI_9_16 hM0, gP_9_16 hM0, gR_9_17 hM0, gR_9_18 hM0, gR_9_19 hM0, gR_9_20 hM0, gI_9_21 hM0, gP_9_21 hM0, gI_9_22 hM0, gP_9_22 hM0, gI_9_23 hM0, gP_9_23 hM0, gI_9_24 hM0, gP_9_24 hM0, gR_9_25 hM0, gI_9_26 hM0, gP_9_26 hM0, gI_9_27 hM0, gP_9_27 hM0, gI_9_28 hM0, gP_9_28 hM0, gL_9_29 hM0, gP_9_29 hM0, gL_9_30 hM0, gP_9_30 hM0, iEQ_f, cI_s, cL_s, cF_s, cD_s, cA_s, cV_s, nI_add, cond_true, cond_false, if_true, if_false]
            rw [b5]
            simp (disch := omega) only [iEQ_t, QX11_readsFactor_64, xret5_0, cI_s, cL_s, cF_s, cD_s, cA_s, cV_s, nI_add, cond_true, cond_false, if_true, if_false]
      · refine Or.inr ⟨S2, M2, hlc _ ?_, ?_, k3, frC_tr (frC_I a4) k4, frF_tr hfM k5⟩
        · rw [QX1_readFactor_22]
          simp (disch := omega) only [gO_3 a3, gR_3_0 a3, gI_3_1 a3, gP_3_1 a3, gI_3_2 a3, gP_3_2 a3, gR_3_3 a3, gR_3_4 a3, gR_3_5 a3, gI_3_6 a3, gP_3_6 a3, gI_3_7 a3, gP_3_7 a3, gI_3_8 a3, gP_3_8 a3, gI_3_9 a3, gP_3_9 a3, gO_1 hF, gR_1_0 hF, gI_1_1 hF, gP_1_1 hF, gR_1_2 hF, a1, cI_s, cL_s, cF_s, cD_s, cA_s, cV_s, nI_add, cond_true, cond_false, if_true, if_false]
          rw [k1]
          simp (disch := omega) only [iEQ_t, QX1_readFactor_51, QX1_readFactor_52, xret5_0, cI_s, cL_s, cF_s, cD_s, cA_s, cV_s, nI_add, cond_true, cond_false, if_true, if_false]
        · simp (disch := omega) only [gO_9 hM0, gI_9_0 hM0, gP_9_0 hM0, gR_9_1 hM0, gR_9_2 hM0, gI_9_3 hM0, gP_9_3 hM0, gI_9_4 hM0, gP_9_4 hM0, gR_9_5 hM0, gR_9_6 hM0, gR_9_7 hM0, gI_9_8 hM0, gP_9_8 hM0, gI_9_9 hM0, gP_9_9 hM0, gI_9_10 hM0, gP_9_10 hM0, gI_9_11 hM0, gP_9_11 hM0, gI_9_12 hM0, gP_9_12 hM0, gI_9_13 hM0, gP_9_13 hM0, gI_9_14 hM0, gP_9_14 hM0, gI_9_15 hM0, gP_9_15 hM0, gI_9_16 hM0, gP_9_16 hM0, gR_9_17 hM0, gR_9_18 hM0, gR_9_19 hM0, gR_9_20 hM0, gI_9_21 hM0, gP_9_21 hM0, gI_9_22 hM0, gP_9_22 hM0, gI_9_23 hM0, gP_9_23 hM0, gI_9_24 hM0, gP_9_24 hM0, gR_9_25 hM0, gI_9_26 hM0, gP_9_26 hM0, gI_9_27 hM0, gP_9_27 hM0, gI_9_28 hM0, gP_9_28 hM0, gL_9_29 hM0, gP_9_29 hM0, gL_9_30 hM0, gP_9_30 hM0, t_here K, hh, hm15, iEQ_f, QX11_readsFactor_28, sS_n, mP_10, cI_s, cL_s, cF_s, cD_s, cA_s, cV_s, nI_add, cond_true, cond_false, if_true, if_false]
          rw [k2]
          simp (disch := omega) only [iEQ_t, QX11_readsFactor_64, xret5_0, cI_s, cL_s, cF_s, cD_s, cA_s, cV_s, nI_add, cond_true, cond_false, if_true, if_false]
  · have hh : ¬ hc tx L p = nI 40 := fun z => e8 ((hc_sg hL ht (i := 8) (by omega) (by omega)).1 z)
    by_cases e1 : tk tx L p = 1
    · obtain ⟨hp, hk⟩ := (tk_1 hL).1 e1
      have hgt := ad_gt (tx := tx) hL hp
      by_cases hr : nu tx L p ≤ 9999
      · obtain ⟨S1, a1, a2, a4⟩ := c_num_t (E := E) (x := x) (n := n) (lo := 0) (hi := 9999) h3 H Q (by omega) e1 (Nat.zero_le _) hr (d + 1)
        obtain ⟨M1, b1, b2, b3, b4, b5⟩ := t_reads_t (E := E) (x := y) (n := m) (lo := 0) (hi := 9999) K' (by omega) (by omega) e1 (Nat.zero_le _) hr (u + 5)
        obtain ⟨S2, M2, c1, c2, c3, c4, c5⟩ := j_put (E := E) (x := x) (y := y) (n := n) (m := m) hF hP (RF_I R' a4 b5 a2 b2) (by omega) 0 (nu tx L p) (w := nI (nu tx L p)) rfl (d + 2) (u + 6)
        refine Or.inl ⟨S2, M2, _, ad tx L p, ?_, ?_, c3, frC_tr (frC_I a4) c4, frF_tr (frF_R (frR_tr frR_P b5)) c5, by rw [gEm_11]; omega, by omega, seg_push (by omega) (by omega) (fun _ => hr) (fun z => by omega)⟩
        · simp (disch := omega) only [gO_3 a3, gR_3_0 a3, gI_3_1 a3, gP_3_1 a3, gI_3_2 a3, gP_3_2 a3, gR_3_3 a3, gR_3_4 a3, gR_3_5 a3, gI_3_6 a3, gP_3_6 a3, gI_3_7 a3, gP_3_7 a3, gI_3_8 a3, gP_3_8 a3, gI_3_9 a3, gP_3_9 a3, c_is_f h3 H Q _ e8, iEQ_t, QX1_readFactor_53, c_token h3 Q, e1, cI_s, cL_s, cF_s, cD_s, cA_s, cV_s, nI_add, cond_true, cond_false, if_true, if_false]
          rw [c_var_n H (i := 1) (by omega) (by omega)]
          simp (disch := omega) only [iEQ_t, gO_3 a3, gR_3_0 a3, gI_3_1 a3, gP_3_1 a3, gI_3_2 a3, gP_3_2 a3, gR_3_3 a3, gR_3_4 a3, gR_3_5 a3, gI_3_6 a3, gP_3_6 a3, gI_3_7 a3, gP_3_7 a3, gI_3_8 a3, gP_3_8 a3, gI_3_9 a3, gP_3_9 a3, cI_s, cL_s, cF_s, cD_s, cA_s, cV_s, nI_add, cond_true, cond_false, if_true, if_false]
          rw [a1]
          simp (disch := omega) only [iLE_t, QX1_readFactor_84, gO_1 hF, gR_1_0 hF, gI_1_1 hF, gP_1_1 hF, gR_1_2 hF, cI_s, cL_s, cF_s, cD_s, cA_s, cV_s, nI_add, cond_true, cond_false, if_true, if_false]
          rw [c1]
          simp (disch := omega) only [xret5_1, cI_s, cL_s, cF_s, cD_s, cA_s, cV_s, nI_add, cond_true, cond_false, if_true, if_false]
        · simp (disch := omega) only [gO_9 hM0, gI_9_0 hM0, gP_9_0 hM0, gR_9_1 hM0, gR_9_2 hM0, gI_9_3 hM0, gP_9_3 hM0, gI_9_4 hM0, gP_9_4 hM0, gR_9_5 hM0, gR_9_6 hM0, gR_9_7 hM0, gI_9_8 hM0, gP_9_8 hM0, gI_9_9 hM0, gP_9_9 hM0, gI_9_10 hM0, gP_9_10 hM0, gI_9_11 hM0, gP_9_11 hM0, gI_9_12 hM0, gP_9_12 hM0, gI_9_13 hM0, gP_9_13 hM0, gI_9_14 hM0, gP_9_14 hM0, gI_9_15 hM0, gP_9_15 hM0, gI_9_16 hM0, gP_9_16 hM0, gR_9_17 hM0, gR_9_18 hM0, gR_9_19 hM0, gR_9_20 hM0, gI_9_21 hM0, gP_9_21 hM0, gI_9_22 hM0, gP_9_22 hM0, gI_9_23 hM0, gP_9_23 hM0, gI_9_24 hM0, gP_9_24 hM0, gR_9_25 hM0, gI_9_26 hM0, gP_9_26 hM0, gI_9_27 hM0, gP_9_27 hM0, gI_9_28 hM0, gP_9_28 hM0, gL_9_29 hM0, gP_9_29 hM0, gL_9_30 hM0, gP_9_30 hM0, t_here K, if_neg hh, QX11_readsFactor_78, t_here' K, t_digit hL ht, if_pos e1, iEQ_f, cI_s, cL_s, cF_s, cD_s, cA_s, cV_s, nI_add, cond_true, cond_false, if_true, if_false]
          rw [b1]
          simp (disch := omega) only [iEQ_f, QX11_readsFactor_101, gO_9 hM0, gI_9_0 hM0, gP_9_0 hM0, gR_9_1 hM0, gR_9_2 hM0, gI_9_3 hM0, gP_9_3 hM0, gI_9_4 hM0, gP_9_4 hM0, gR_9_5 hM0, gR_9_6 hM0, gR_9_7 hM0, gI_9_8 hM0, gP_9_8 hM0, gI_9_9 hM0, gP_9_9 hM0, gI_9_10 hM0, gP_9_10 hM0, gI_9_11 hM0, gP_9_11 hM0, gI_9_12 hM0, gP_9_12 hM0, gI_9_13 hM0, gP_9_13 hM0, gI_9_14 hM0, gP_9_14 hM0, gI_9_15 hM0, gP_9_15 hM0, gI_9_16 hM0, gP_9_16 hM0, gR_9_17 hM0, gR_9_18 hM0, gR_9_19 hM0, gR_9_20 hM0, gI_9_21 hM0, gP_9_21 hM0, gI_9_22 hM0, gP_9_22 hM0, gI_9_23 hM0, gP_9_23 hM0, gI_9_24 hM0, gP_9_24 hM0, gR_9_25 hM0, gI_9_26 hM0, gP_9_26 hM0, gI_9_27 hM0, gP_9_27 hM0, gI_9_28 hM0, gP_9_28 hM0, gL_9_29 hM0, gP_9_29 hM0, gL_9_30 hM0, gP_9_30 hM0, b3, cI_s, cL_s, cF_s, cD_s, cA_s, cV_s, nI_add, cond_true, cond_false, if_true, if_false]
          rw [c2]
          simp (disch := omega) only [xret5_1, cI_s, cL_s, cF_s, cD_s, cA_s, cV_s, nI_add, cond_true, cond_false, if_true, if_false]
      · have hr : ¬ (0 ≤ nu tx L p ∧ nu tx L p ≤ 9999) := fun z => hr z.2
        obtain ⟨S1, a1, a2, a4⟩ := c_num_r (E := E) (x := x) (n := n) (lo := 0) (hi := 9999) h3 H Q (by omega) (by omega) e1 hr (d + 1)
        obtain ⟨M1, b1, b2, b5⟩ := t_reads_r (E := E) (x := y) (n := m) (lo := 0) (hi := 9999) K' (by omega) (by omega) e1 hr (u + 5)
        refine Or.inr ⟨S1, M1, ?_, ?_, xF_of a2 b2, frC_I a4, frF_R (frR_tr frR_P b5)⟩
        · simp (disch := omega) only [gO_3 a3, gR_3_0 a3, gI_3_1 a3, gP_3_1 a3, gI_3_2 a3, gP_3_2 a3, gR_3_3 a3, gR_3_4 a3, gR_3_5 a3, gI_3_6 a3, gP_3_6 a3, gI_3_7 a3, gP_3_7 a3, gI_3_8 a3, gP_3_8 a3, gI_3_9 a3, gP_3_9 a3, c_is_f h3 H Q _ e8, iEQ_t, QX1_readFactor_53, c_token h3 Q, e1, cI_s, cL_s, cF_s, cD_s, cA_s, cV_s, nI_add, cond_true, cond_false, if_true, if_false]
          rw [c_var_n H (i := 1) (by omega) (by omega)]
          simp (disch := omega) only [iEQ_t, gO_3 a3, gR_3_0 a3, gI_3_1 a3, gP_3_1 a3, gI_3_2 a3, gP_3_2 a3, gR_3_3 a3, gR_3_4 a3, gR_3_5 a3, gI_3_6 a3, gP_3_6 a3, gI_3_7 a3, gP_3_7 a3, gI_3_8 a3, gP_3_8 a3, gI_3_9 a3, gP_3_9 a3, cI_s, cL_s, cF_s, cD_s, cA_s, cV_s, nI_add, cond_true, cond_false, if_true, if_false]
          rw [a1]
          simp (disch := omega) only [if_neg (show ¬ nI 0 ≤ (-1 : Int32) by decide), xret5_0, cI_s, cL_s, cF_s, cD_s, cA_s, cV_s, nI_add, cond_true, cond_false, if_true, if_false]
        · simp (disch := omega) only [gO_9 hM0, gI_9_0 hM0, gP_9_0 hM0, gR_9_1 hM0, gR_9_2 hM0, gI_9_3 hM0, gP_9_3 hM0, gI_9_4 hM0, gP_9_4 hM0, gR_9_5 hM0, gR_9_6 hM0, gR_9_7 hM0, gI_9_8 hM0, gP_9_8 hM0, gI_9_9 hM0, gP_9_9 hM0, gI_9_10 hM0, gP_9_10 hM0, gI_9_11 hM0, gP_9_11 hM0, gI_9_12 hM0, gP_9_12 hM0, gI_9_13 hM0, gP_9_13 hM0, gI_9_14 hM0, gP_9_14 hM0, gI_9_15 hM0, gP_9_15 hM0, gI_9_16 hM0, gP_9_16 hM0, gR_9_17 hM0, gR_9_18 hM0, gR_9_19 hM0, gR_9_20 hM0, gI_9_21 hM0, gP_9_21 hM0, gI_9_22 hM0, gP_9_22 hM0, gI_9_23 hM0, gP_9_23 hM0, gI_9_24 hM0, gP_9_24 hM0, gR_9_25 hM0, gI_9_26 hM0, gP_9_26 hM0, gI_9_27 hM0, gP_9_27 hM0, gI_9_28 hM0, gP_9_28 hM0, gL_9_29 hM0, gP_9_29 hM0, gL_9_30 hM0, gP_9_30 hM0, t_here K, if_neg hh, QX11_readsFactor_78, t_here' K, t_digit hL ht, if_pos e1, iEQ_f, cI_s, cL_s, cF_s, cD_s, cA_s, cV_s, nI_add, cond_true, cond_false, if_true, if_false]
          rw [b1]
          simp (disch := omega) only [iEQ_t, xret5_0, cI_s, cL_s, cF_s, cD_s, cA_s, cV_s, nI_add, cond_true, cond_false, if_true, if_false]
    · by_cases ev : 10 ≤ tk tx L p ∧ tk tx L p ≤ 13
      · obtain ⟨j, hj, ej⟩ : ∃ j, j ≤ 3 ∧ tk tx L p = 10 + j := ⟨tk tx L p - 10, by omega, by omega⟩
        have hp : p < L := by
          by_cases c : p < L
          · exact c
          · have := (tk_0 hL (tx := tx)).2 c
            omega
        have hgt := ad_gt (tx := tx) hL hp
        obtain ⟨S1, a1, a2, a4⟩ := c_advance (E := E) (x := x) (n := n) h3 Q (d + 2)
        obtain ⟨M1, b1, b2, b5⟩ := m_var (E := E) (y := y) (m := m) H' K' hj ej (u + 2)
        obtain ⟨S2, M2, c1, c2, c3, c4, c5⟩ := j_put (E := E) (x := x) (y := y) (n := n) (m := m) hF hP (RF_I R' a4 b5 a2 b2) (by omega) 1 j rfl (d + 2) (u + 6)
        refine Or.inl ⟨S2, M2, _, ad tx L p, ?_, ?_, c3, frC_tr (frC_I a4) c4, frF_tr (frF_R (frR_tr frR_P b5)) c5, by rw [gEm_11]; omega, by omega, seg_push (by omega) (by omega) (fun z => by omega) (fun _ => hj)⟩
        · simp (disch := omega) only [gO_3 a3, gR_3_0 a3, gI_3_1 a3, gP_3_1 a3, gI_3_2 a3, gP_3_2 a3, gR_3_3 a3, gR_3_4 a3, gR_3_5 a3, gI_3_6 a3, gP_3_6 a3, gI_3_7 a3, gP_3_7 a3, gI_3_8 a3, gP_3_8 a3, gI_3_9 a3, gP_3_9 a3, c_is_f h3 H Q _ e8, iEQ_t, QX1_readFactor_53, c_token h3 Q, ej, cI_s, cL_s, cF_s, cD_s, cA_s, cV_s, nI_add, cond_true, cond_false, if_true, if_false]
          rw [c_var_v H hj]
          simp (disch := omega) only [if_neg pEnc_nz, QX1_readFactor_80, gO_3 a3, gR_3_0 a3, gI_3_1 a3, gP_3_1 a3, gI_3_2 a3, gP_3_2 a3, gR_3_3 a3, gR_3_4 a3, gR_3_5 a3, gI_3_6 a3, gP_3_6 a3, gI_3_7 a3, gP_3_7 a3, gI_3_8 a3, gP_3_8 a3, gI_3_9 a3, gP_3_9 a3, a1, QX1_readFactor_84, gO_1 hF, gR_1_0 hF, gI_1_1 hF, gP_1_1 hF, gR_1_2 hF, cI_s, cL_s, cF_s, cD_s, cA_s, cV_s, nI_add, cond_true, cond_false, if_true, if_false]
          rw [c1]
          simp (disch := omega) only [xret5_1, cI_s, cL_s, cF_s, cD_s, cA_s, cV_s, nI_add, cond_true, cond_false, if_true, if_false]
        · simp (disch := omega) only [gO_9 hM0, gI_9_0 hM0, gP_9_0 hM0, gR_9_1 hM0, gR_9_2 hM0, gI_9_3 hM0, gP_9_3 hM0, gI_9_4 hM0, gP_9_4 hM0, gR_9_5 hM0, gR_9_6 hM0, gR_9_7 hM0, gI_9_8 hM0, gP_9_8 hM0, gI_9_9 hM0, gP_9_9 hM0, gI_9_10 hM0, gP_9_10 hM0, gI_9_11 hM0, gP_9_11 hM0, gI_9_12 hM0, gP_9_12 hM0, gI_9_13 hM0, gP_9_13 hM0, gI_9_14 hM0, gP_9_14 hM0, gI_9_15 hM0, gP_9_15 hM0, gI_9_16 hM0, gP_9_16 hM0, gR_9_17 hM0, gR_9_18 hM0, gR_9_19 hM0, gR_9_20 hM0, gI_9_21 hM0, gP_9_21 hM0, gI_9_22 hM0, gP_9_22 hM0, gI_9_23 hM0, gP_9_23 hM0, gI_9_24 hM0, gP_9_24 hM0, gR_9_25 hM0, gI_9_26 hM0, gP_9_26 hM0, gI_9_27 hM0, gP_9_27 hM0, gI_9_28 hM0, gP_9_28 hM0, gL_9_29 hM0, gP_9_29 hM0, gL_9_30 hM0, gP_9_30 hM0, t_here K, if_neg hh, QX11_readsFactor_78, t_here' K, t_digit hL ht, if_neg e1, iEQ_t, cI_s, cL_s, cF_s, cD_s, cA_s, cV_s, nI_add, cond_true, cond_false, if_true, if_false]
          rw [b1, QX11_readsFactor_182]
          simp (disch := omega) only [gO_9 hM0, gI_9_0 hM0, gP_9_0 hM0, gR_9_1 hM0, gR_9_2 hM0, gI_9_3 hM0, gP_9_3 hM0, gI_9_4 hM0, gP_9_4 hM0, gR_9_5 hM0, gR_9_6 hM0, gR_9_7 hM0, gI_9_8 hM0, gP_9_8 hM0, gI_9_9 hM0, gP_9_9 hM0, gI_9_10 hM0, gP_9_10 hM0, gI_9_11 hM0, gP_9_11 hM0, gI_9_12 hM0, gP_9_12 hM0, gI_9_13 hM0, gP_9_13 hM0, gI_9_14 hM0, gP_9_14 hM0, gI_9_15 hM0, gP_9_15 hM0, gI_9_16 hM0, gP_9_16 hM0, gR_9_17 hM0, gR_9_18 hM0, gR_9_19 hM0, gR_9_20 hM0, gI_9_21 hM0, gP_9_21 hM0, gI_9_22 hM0, gP_9_22 hM0, gI_9_23 hM0, gP_9_23 hM0, gI_9_24 hM0, gP_9_24 hM0, gR_9_25 hM0, gI_9_26 hM0, gP_9_26 hM0, gI_9_27 hM0, gP_9_27 hM0, gI_9_28 hM0, gP_9_28 hM0, gL_9_29 hM0, gP_9_29 hM0, gL_9_30 hM0, gP_9_30 hM0, cI_s, cL_s, cF_s, cD_s, cA_s, cV_s, nI_add, cond_true, cond_false, if_true, if_false]
          rw [c2]
          simp (disch := omega) only [xret5_1, cI_s, cL_s, cF_s, cD_s, cA_s, cV_s, nI_add, cond_true, cond_false, if_true, if_false]
      · obtain ⟨S1, a1, a2, a4⟩ := c_num_s (E := E) (x := x) (n := n) h3 H Q 0 9999 e1 (d + 1)
        obtain ⟨M1, b1, b2, b5⟩ := m_novar (E := E) (y := y) (m := m) H' K' (by omega) (u + 2)
        refine Or.inr ⟨S1, M1, ?_, ?_, xF_of a2 b2, frC_I a4, frF_R (frR_tr frR_P b5)⟩
        · simp (disch := omega) only [gO_3 a3, gR_3_0 a3, gI_3_1 a3, gP_3_1 a3, gI_3_2 a3, gP_3_2 a3, gR_3_3 a3, gR_3_4 a3, gR_3_5 a3, gI_3_6 a3, gP_3_6 a3, gI_3_7 a3, gP_3_7 a3, gI_3_8 a3, gP_3_8 a3, gI_3_9 a3, gP_3_9 a3, c_is_f h3 H Q _ e8, iEQ_t, QX1_readFactor_53, c_token h3 Q, cI_s, cL_s, cF_s, cD_s, cA_s, cV_s, nI_add, cond_true, cond_false, if_true, if_false]
          rw [c_var_n H htl (by omega)]
          simp (disch := omega) only [iEQ_t, gO_3 a3, gR_3_0 a3, gI_3_1 a3, gP_3_1 a3, gI_3_2 a3, gP_3_2 a3, gR_3_3 a3, gR_3_4 a3, gR_3_5 a3, gI_3_6 a3, gP_3_6 a3, gI_3_7 a3, gP_3_7 a3, gI_3_8 a3, gP_3_8 a3, gI_3_9 a3, gP_3_9 a3, cI_s, cL_s, cF_s, cD_s, cA_s, cV_s, nI_add, cond_true, cond_false, if_true, if_false]
          rw [a1]
          simp (disch := omega) only [if_neg (show ¬ nI 0 ≤ (-1 : Int32) by decide), xret5_0, cI_s, cL_s, cF_s, cD_s, cA_s, cV_s, nI_add, cond_true, cond_false, if_true, if_false]
        · simp (disch := omega) only [gO_9 hM0, gI_9_0 hM0, gP_9_0 hM0, gR_9_1 hM0, gR_9_2 hM0, gI_9_3 hM0, gP_9_3 hM0, gI_9_4 hM0, gP_9_4 hM0, gR_9_5 hM0, gR_9_6 hM0, gR_9_7 hM0, gI_9_8 hM0, gP_9_8 hM0, gI_9_9 hM0, gP_9_9 hM0, gI_9_10 hM0, gP_9_10 hM0, gI_9_11 hM0, gP_9_11 hM0, gI_9_12 hM0, gP_9_12 hM0, gI_9_13 hM0, gP_9_13 hM0, gI_9_14 hM0, gP_9_14 hM0, gI_9_15 hM0, gP_9_15 hM0, gI_9_16 hM0, gP_9_16 hM0, gR_9_17 hM0, gR_9_18 hM0, gR_9_19 hM0, gR_9_20 hM0, gI_9_21 hM0, gP_9_21 hM0, gI_9_22 hM0, gP_9_22 hM0, gI_9_23 hM0, gP_9_23 hM0, gI_9_24 hM0, gP_9_24 hM0, gR_9_25 hM0, gI_9_26 hM0, gP_9_26 hM0, gI_9_27 hM0, gP_9_27 hM0, gI_9_28 hM0, gP_9_28 hM0, gL_9_29 hM0, gP_9_29 hM0, gL_9_30 hM0, gP_9_30 hM0, t_here K, if_neg hh, QX11_readsFactor_78, t_here' K, t_digit hL ht, if_neg e1, iEQ_t, cI_s, cL_s, cF_s, cD_s, cA_s, cV_s, nI_add, cond_true, cond_false, if_true, if_false]
          rw [b1]
theorem p_tl (h3 : hI sh 1) (hF : sh 23 = some (sh1 23)) (hP : sh 24 = some (1, 500, [])) (H : hEn E x) {d u r dep s : Nat} (hf : okP E x y n m sh tx L kX1_readFactor kX11_readsFactor (d + 4) (u + 8) r 2) (hr : dep + r = 4) :
    ∀ k i S M g p, L ≤ p + k → i ≤ p → RF S M tx L g p dep → g 11 + s ≤ p → oF E x y n m sh tx L S M g p dep s (2 * dep + 1) 1 1 (qX1_readTerm_13 E (d + 4) (x + 23) (x + 1) (nI dep) (nI i) (wW E x sh S, n)) (qX11_readsTerm_9 E (u + 8) y (wW E y shM M, m)) := by
  have a3 := h3.1
  -- no such sign
  have hstop : ∀ i S M g p, i ≤ p → RF S M tx L g p dep → g 11 + s ≤ p → tk tx L p ≠ 6 → tk tx L p ≠ 7 → oF E x y n m sh tx L S M g p dep s (2 * dep + 1) 1 1 (qX1_readTerm_13 E (d + 4) (x + 23) (x + 1) (nI dep) (nI i) (wW E x sh S, n)) (qX11_readsTerm_9 E (u + 8) y (wW E y shM M, m)) := by
    intro i S M g p hi R hs e6 e7
    have R' := RF_P R
    obtain ⟨Q, K, RR, F, hd⟩ := R
    obtain ⟨hpL, hL, hx, ht⟩ := mQ_le K
    have h1 : ¬ hc tx L p = nI 42 := fun z => e6 ((hc_sg hL ht (i := 6) (by omega) (by omega)).1 z)
    have h2 : ¬ hc tx L p = nI 47 := fun z => e7 ((hc_sg hL ht (i := 7) (by omega) (by omega)).1 z)
    refine Or.inl ⟨S, mP M p, g, p, ?_, ?_, R', frC_rf, frF_R frR_P, hs, Nat.le_refl _, seg_rf⟩
    · rw [QX1_readTerm_13]
      by_cases c : i < 500
      · simp (disch := omega) only [iLE_f, gO_3 a3, gR_3_0 a3, gI_3_1 a3, gP_3_1 a3, gI_3_2 a3, gP_3_2 a3, gR_3_3 a3, gR_3_4 a3, gR_3_5 a3, gI_3_6 a3, gP_3_6 a3, gI_3_7 a3, gP_3_7 a3, gI_3_8 a3, gP_3_8 a3, gI_3_9 a3, gP_3_9 a3, c_is_f h3 H Q _ e6, c_is_f h3 H Q _ e7, iEQ_t, QX1_readTerm_86, xret5_1, cI_s, cL_s, cF_s, cD_s, cA_s, cV_s, nI_add, cond_true, cond_false, if_true, if_false]
      · simp (disch := omega) only [iLE_t, QX1_readTerm_86, xret5_1, cI_s, cL_s, cF_s, cD_s, cA_s, cV_s, nI_add, cond_true, cond_false, if_true, if_false]
    · rw [QX11_readsTerm_9]
      simp (disch := omega) only [gO_9 hM0, gI_9_0 hM0, gP_9_0 hM0, gR_9_1 hM0, gR_9_2 hM0, gI_9_3 hM0, gP_9_3 hM0, gI_9_4 hM0, gP_9_4 hM0, gR_9_5 hM0, gR_9_6 hM0, gR_9_7 hM0, gI_9_8 hM0, gP_9_8 hM0, gI_9_9 hM0, gP_9_9 hM0, gI_9_10 hM0, gP_9_10 hM0, gI_9_11 hM0, gP_9_11 hM0, gI_9_12 hM0, gP_9_12 hM0, gI_9_13 hM0, gP_9_13 hM0, gI_9_14 hM0, gP_9_14 hM0, gI_9_15 hM0, gP_9_15 hM0, gI_9_16 hM0, gP_9_16 hM0, gR_9_17 hM0, gR_9_18 hM0, gR_9_19 hM0, gR_9_20 hM0, gI_9_21 hM0, gP_9_21 hM0, gI_9_22 hM0, gP_9_22 hM0, gI_9_23 hM0, gP_9_23 hM0, gI_9_24 hM0, gP_9_24 hM0, gR_9_25 hM0, gI_9_26 hM0, gP_9_26 hM0, gI_9_27 hM0, gP_9_27 hM0, gI_9_28 hM0, gP_9_28 hM0, gL_9_29 hM0, gP_9_29 hM0, gL_9_30 hM0, gP_9_30 hM0, t_here K, if_neg h1, t_here' K, if_neg h2, QX11_readsTerm_70, xret5_1, cI_s, cL_s, cF_s, cD_s, cA_s, cV_s, nI_add, cond_true, cond_false, if_true, if_false]
  intro k
  induction k with
  | zero =>
    intro i S M g p hk hi R hs
    have hL := (mQ_le R.2.1).2.1
    have e0 := (tk_0 hL (tx := tx) (p := p)).2 (by omega)
    exact hstop i S M g p hi R hs (by omega) (by omega)
  | succ k ih =>
    intro i S M g p hk hi R hs
    by_cases hop : tk tx L p = 6 ∨ tk tx L p = 7
    · have R' := RF_P R
      obtain ⟨Q, K, RR, F, hd⟩ := R
      have K' := mQ_P K
      obtain ⟨hpL, hL, hx, ht⟩ := mQ_le K
      have hp : p < L := by
        by_cases c : p < L
        · exact c
        · have := (tk_0 hL (tx := tx)).2 c
          omega
      have hgt := ad_gt (tx := tx) hL hp
      obtain ⟨S1, a1, a2, a4⟩ := c_advance (E := E) (x := x) (n := n) h3 Q (d + 3)
      obtain ⟨op, w, hop2, hw, hc3, hm3, hsg⟩ : ∃ op w, (op = 4 ∨ op = 5) ∧ w = pEnc op 0 ∧ qX1_readTerm_13 E (d + 4) (x + 23) (x + 1) (nI dep) (nI i) (wW E x sh S, n) = qX1_readTerm_57 E (d + 4) (x + 23) (x + 1) (nI dep) (nI i) w (wW E x sh S, n) ∧ qX11_readsTerm_9 E (u + 8) y (wW E y shM M, m) = qX11_readsTerm_41 E (u + 8) y (nI op) (wW E y shM (mP M p), m) ∧ nx tx L (p + 1) = ad tx L p := by
        by_cases e6 : tk tx L p = 6
        · have h1 : hc tx L p = nI 42 := (hc_sg hL ht (i := 6) (by omega) (by omega)).2 e6
          refine ⟨4, _, Or.inl rfl, rfl, ?_, ?_, sg_ad hp (i := 6) (by omega) ((tk_sg hL ht (by omega) (by omega)).1 e6).2⟩
          · rw [QX1_readTerm_13]
            simp (disch := omega) only [iLE_f, gO_3 a3, gR_3_0 a3, gI_3_1 a3, gP_3_1 a3, gI_3_2 a3, gP_3_2 a3, gR_3_3 a3, gR_3_4 a3, gR_3_5 a3, gI_3_6 a3, gP_3_6 a3, gI_3_7 a3, gP_3_7 a3, gI_3_8 a3, gP_3_8 a3, gI_3_9 a3, gP_3_9 a3, c_is_t h3 H Q _ e6, iEQ_f, QX1_readTerm_40, cI_s, cL_s, cF_s, cD_s, cA_s, cV_s, nI_add, cond_true, cond_false, if_true, if_false]
            rfl
          · rw [QX11_readsTerm_9]
            simp (disch := omega) only [gO_9 hM0, gI_9_0 hM0, gP_9_0 hM0, gR_9_1 hM0, gR_9_2 hM0, gI_9_3 hM0, gP_9_3 hM0, gI_9_4 hM0, gP_9_4 hM0, gR_9_5 hM0, gR_9_6 hM0, gR_9_7 hM0, gI_9_8 hM0, gP_9_8 hM0, gI_9_9 hM0, gP_9_9 hM0, gI_9_10 hM0, gP_9_10 hM0, gI_9_11 hM0, gP_9_11 hM0, gI_9_12 hM0, gP_9_12 hM0, gI_9_13 hM0, gP_9_13 hM0, gI_9_14 hM0, gP_9_14 hM0, gI_9_15 hM0, gP_9_15 hM0, gI_9_16 hM0, gP_9_16 hM0, gR_9_17 hM0, gR_9_18 hM0, gR_9_19 hM0, gR_9_20 hM0, gI_9_21 hM0, gP_9_21 hM0, gI_9_22 hM0, gP_9_22 hM0, gI_9_23 hM0, gP_9_23 hM0, gI_9_24 hM0, gP_9_24 hM0, gR_9_25 hM0, gI_9_26 hM0, gP_9_26 hM0, gI_9_27 hM0, gP_9_27 hM0, gI_9_28 hM0, gP_9_28 hM0, gL_9_29 hM0, gP_9_29 hM0, gL_9_30 hM0, gP_9_30 hM0, t_here K, h1, QX11_readsTerm_27, t_here' K, cI_s, cL_s, cF_s, cD_s, cA_s, cV_s, nI_add, cond_true, cond_false, if_true, if_false]
        · have e7 : tk tx L p = 7 := by omega
          have h1 : ¬ hc tx L p = nI 42 := fun z => e6 ((hc_sg hL ht (i := 6) (by omega) (by omega)).1 z)
          have h2 : hc tx L p = nI 47 := (hc_sg hL ht (i := 7) (by omega) (by omega)).2 e7
          refine ⟨5, _, Or.inr rfl, rfl, ?_, ?_, sg_ad hp (i := 7) (by omega) ((tk_sg hL ht (by omega) (by omega)).1 e7).2⟩
          · rw [QX1_readTerm_13]
            simp (disch := omega) only [iLE_f, gO_3 a3, gR_3_0 a3, gI_3_1 a3, gP_3_1 a3, gI_3_2 a3, gP_3_2 a3, gR_3_3 a3, gR_3_4 a3, gR_3_5 a3, gI_3_6 a3, gP_3_6 a3, gI_3_7 a3, gP_3_7 a3, gI_3_8 a3, gP_3_8 a3, gI_3_9 a3, gP_3_9 a3, c_is_f h3 H Q _ e6, iEQ_t, c_is_t h3 H Q _ e7, iEQ_f, QX1_readTerm_40, QX1_readTerm_55, cI_s, cL_s, cF_s, cD_s, cA_s, cV_s, nI_add, cond_true, cond_false, if_true, if_false]
            rfl
          · rw [QX11_readsTerm_9]
            simp (disch := omega) only [gO_9 hM0, gI_9_0 hM0, gP_9_0 hM0, gR_9_1 hM0, gR_9_2 hM0, gI_9_3 hM0, gP_9_3 hM0, gI_9_4 hM0, gP_9_4 hM0, gR_9_5 hM0, gR_9_6 hM0, gR_9_7 hM0, gI_9_8 hM0, gP_9_8 hM0, gI_9_9 hM0, gP_9_9 hM0, gI_9_10 hM0, gP_9_10 hM0, gI_9_11 hM0, gP_9_11 hM0, gI_9_12 hM0, gP_9_12 hM0, gI_9_13 hM0, gP_9_13 hM0, gI_9_14 hM0, gP_9_14 hM0, gI_9_15 hM0, gP_9_15 hM0, gI_9_16 hM0, gP_9_16 hM0, gR_9_17 hM0, gR_9_18 hM0, gR_9_19 hM0, gR_9_20 hM0, gI_9_21 hM0, gP_9_21 hM0, gI_9_22 hM0, gP_9_22 hM0, gI_9_23 hM0, gP_9_23 hM0, gI_9_24 hM0, gP_9_24 hM0, gR_9_25 hM0, gI_9_26 hM0, gP_9_26 hM0, gI_9_27 hM0, gP_9_27 hM0, gI_9_28 hM0, gP_9_28 hM0, gL_9_29 hM0, gP_9_29 hM0, gL_9_30 hM0, gP_9_30 hM0, t_here K, if_neg h1, t_here' K, QX11_readsTerm_27, cI_s, cL_s, cF_s, cD_s, cA_s, cV_s, nI_add, cond_true, cond_false, if_true, if_false]
            rw [h2]
            simp (disch := omega) only [iEQ_f, QX11_readsTerm_40, cI_s, cL_s, cF_s, cD_s, cA_s, cV_s, nI_add, cond_true, cond_false, if_true, if_false]
      have hK1 : mQ (sS (mP M p) 0 10 (nI (p + 1))) tx L (ad tx L p) := by
        have := mQ_at (b := p + 1) K' (by omega)
        rw [hsg] at this
        exact this
      have hR1 : RF S1 (sS (mP M p) 0 10 (nI (p + 1))) tx L g (ad tx L p) dep := RF_I R' a4 (frR_S (by omega)) a2 hK1
      have hfM : frF M (sS (mP M p) 0 10 (nI (p + 1))) := frF_R (frR_tr frR_P (frR_S (by omega)))
      rw [hc3, hm3]
      rcases hf S1 _ g (ad tx L p) dep (s + 1) hr hR1 (by omega) with ⟨S2, M2, g2, p2, k1, k2, k3, k4, k5, k6, k7, k8⟩ | ⟨S2, M2, k1, k2, k3, k4, k5⟩
      · have hp2 := (mQ_le k3.2.1).1
        obtain ⟨S3, M3, c1, c2, c3, c4, c5⟩ := j_put (E := E) (x := x) (y := y) (n := n) (m := m) hF hP k3 (by omega) op 0 hw (d + 3) (u + 7)
        have ih := ih (i + 1) S3 M3 _ p2 (by omega) (by omega) c3 (by rw [gEm_11]; omega)
        have hfin := oF_fr (frC_tr (frC_I a4) (frC_tr k4 c4)) (frF_tr hfM (frF_tr k5 c5)) (show p ≤ p2 by omega) (seg_tr (seg_sh k8) (seg_op (by omega) (by omega))) ih
        have ec : qX1_readTerm_57 E (d + 4) (x + 23) (x + 1) (nI dep) (nI i) w (wW E x sh S, n) = qX1_readTerm_13 E (d + 4) (x + 23) (x + 1) (nI dep) (nI (i + 1)) (wW E x sh S3, n) := by
          rw [QX1_readTerm_57]
          simp (disch := omega) only [gO_3 a3, gR_3_0 a3, gI_3_1 a3, gP_3_1 a3, gI_3_2 a3, gP_3_2 a3, gR_3_3 a3, gR_3_4 a3, gR_3_5 a3, gI_3_6 a3, gP_3_6 a3, gI_3_7 a3, gP_3_7 a3, gI_3_8 a3, gP_3_8 a3, gI_3_9 a3, gP_3_9 a3, a1, gO_1 hF, gR_1_0 hF, gI_1_1 hF, gP_1_1 hF, gR_1_2 hF, cI_s, cL_s, cF_s, cD_s, cA_s, cV_s, nI_add, cond_true, cond_false, if_true, if_false]
          rw [k1]
          simp (disch := omega) only [iEQ_f, QX1_readTerm_74, gO_1 hF, gR_1_0 hF, gI_1_1 hF, gP_1_1 hF, gR_1_2 hF, cI_s, cL_s, cF_s, cD_s, cA_s, cV_s, nI_add, cond_true, cond_false, if_true, if_false]
          rw [c1]
          simp (disch := omega) only [cI_s, cL_s, cF_s, cD_s, cA_s, cV_s, nI_add, cond_true, cond_false, if_true, if_false]
        have em : qX11_readsTerm_41 E (u + 8) y (nI op) (wW E y shM (mP M p), m) = qX11_readsTerm_9 E (u + 8) y (wW E y shM M3, m) := by
          rw [QX11_readsTerm_41]
          simp (disch := omega) only [gO_9 hM0, gI_9_0 hM0, gP_9_0 hM0, gR_9_1 hM0, gR_9_2 hM0, gI_9_3 hM0, gP_9_3 hM0, gI_9_4 hM0, gP_9_4 hM0, gR_9_5 hM0, gR_9_6 hM0, gR_9_7 hM0, gI_9_8 hM0, gP_9_8 hM0, gI_9_9 hM0, gP_9_9 hM0, gI_9_10 hM0, gP_9_10 hM0, gI_9_11 hM0, gP_9_11 hM0, gI_9_12 hM0, gP_9_12 hM0, gI_9_13 hM0, gP_9_13 hM0, gI_9_14 hM0, gP_9_14 hM0, gI_9_15 hM0, gP_9_15 hM0, gI_9_16 hM0, gP_9_16 hM0, gR_9_17 hM0, gR_9_18 hM0, gR_9_19 hM0, gR_9_20 hM0, gI_9_21 hM0, gP_9_21 hM0, gI_9_22 hM0, gP_9_22 hM0, gI_9_23 hM0, gP_9_23 hM0, gI_9_24 hM0, gP_9_24 hM0, gR_9_25 hM0, gI_9_26 hM0, gP_9_26 hM0, gI_9_27 hM0, gP_9_27 hM0, gI_9_28 hM0, gP_9_28 hM0, gL_9_29 hM0, gP_9_29 hM0, gL_9_30 hM0, gP_9_30 hM0, mP_10, cI_s, cL_s, cF_s, cD_s, cA_s, cV_s, nI_add, cond_true, cond_false, if_true, if_false]
          rw [k2]
          simp (disch := omega) only [iEQ_f, QX11_readsTerm_61, gO_9 hM0, gI_9_0 hM0, gP_9_0 hM0, gR_9_1 hM0, gR_9_2 hM0, gI_9_3 hM0, gP_9_3 hM0, gI_9_4 hM0, gP_9_4 hM0, gR_9_5 hM0, gR_9_6 hM0, gR_9_7 hM0, gI_9_8 hM0, gP_9_8 hM0, gI_9_9 hM0, gP_9_9 hM0, gI_9_10 hM0, gP_9_10 hM0, gI_9_11 hM0, gP_9_11 hM0, gI_9_12 hM0, gP_9_12 hM0, gI_9_13 hM0, gP_9_13 hM0, gI_9_14 hM0, gP_9_14 hM0, gI_9_15 hM0, gP_9_15 hM0, gI_9_16 hM0, gP_9_16 hM0, gR_9_17 hM0, gR_9_18 hM0, gR_9_19 hM0, gR_9_20 hM0, gI_9_21 hM0, gP_9_21 hM0, gI_9_22 hM0, gP_9_22 hM0, gI_9_23 hM0, gP_9_23 hM0, gI_9_24 hM0, gP_9_24 hM0, gR_9_25 hM0, gI_9_26 hM0, gP_9_26 hM0, gI_9_27 hM0, gP_9_27 hM0, gI_9_28 hM0, gP_9_28 hM0, gL_9_29 hM0, gP_9_29 hM0, gL_9_30 hM0, gP_9_30 hM0, cI_s, cL_s, cF_s, cD_s, cA_s, cV_s, nI_add, cond_true, cond_false, if_true, if_false]
          rw [c2]
          simp (disch := omega) only [cI_s, cL_s, cF_s, cD_s, cA_s, cV_s, nI_add, cond_true, cond_false, if_true, if_false]
        rw [ec, em]
        exact hfin
      · refine Or.inr ⟨S2, M2, ?_, ?_, k3, frC_tr (frC_I a4) k4, frF_tr hfM k5⟩
        · rw [QX1_readTerm_57]
          simp (disch := omega) only [gO_3 a3, gR_3_0 a3, gI_3_1 a3, gP_3_1 a3, gI_3_2 a3, gP_3_2 a3, gR_3_3 a3, gR_3_4 a3, gR_3_5 a3, gI_3_6 a3, gP_3_6 a3, gI_3_7 a3, gP_3_7 a3, gI_3_8 a3, gP_3_8 a3, gI_3_9 a3, gP_3_9 a3, a1, gO_1 hF, gR_1_0 hF, gI_1_1 hF, gP_1_1 hF, gR_1_2 hF, cI_s, cL_s, cF_s, cD_s, cA_s, cV_s, nI_add, cond_true, cond_false, if_true, if_false]
          rw [k1]
          simp (disch := omega) only [iEQ_t, xret5_0, cI_s, cL_s, cF_s, cD_s, cA_s, cV_s, nI_add, cond_true, cond_false, if_true, if_false]
        · rw [QX11_readsTerm_41]
          simp (disch := omega) only [gO_9 hM0, gI_9_0 hM0, gP_9_0 hM0, gR_9_1 hM0, gR_9_2 hM0, gI_9_3 hM0, gP_9_3 hM0, gI_9_4 hM0, gP_9_4 hM0, gR_9_5 hM0, gR_9_6 hM0, gR_9_7 hM0, gI_9_8 hM0, gP_9_8 hM0, gI_9_9 hM0, gP_9_9 hM0, gI_9_10 hM0, gP_9_10 hM0, gI_9_11 hM0, gP_9_11 hM0, gI_9_12 hM0, gP_9_12 hM0, gI_9_13 hM0, gP_9_13 hM0, gI_9_14 hM0, gP_9_14 hM0, gI_9_15 hM0, gP_9_15 hM0, gI_9_16 hM0, gP_9_16 hM0, gR_9_17 hM0, gR_9_18 hM0, gR_9_19 hM0, gR_9_20 hM0, gI_9_21 hM0, gP_9_21 hM0, gI_9_22 hM0, gP_9_22 hM0, gI_9_23 hM0, gP_9_23 hM0, gI_9_24 hM0, gP_9_24 hM0, gR_9_25 hM0, gI_9_26 hM0, gP_9_26 hM0, gI_9_27 hM0, gP_9_27 hM0, gI_9_28 hM0, gP_9_28 hM0, gL_9_29 hM0, gP_9_29 hM0, gL_9_30 hM0, gP_9_30 hM0, mP_10, cI_s, cL_s, cF_s, cD_s, cA_s, cV_s, nI_add, cond_true, cond_false, if_true, if_false]
          rw [k2]
          simp (disch := omega) only [iEQ_t, xret5_0, cI_s, cL_s, cF_s, cD_s, cA_s, cV_s, nI_add, cond_true, cond_false, if_true, if_false]
    · exact hstop i S M g p hi R hs (by omega) (by omega)
theorem p_term (h3 : hI sh 1) (hF : sh 23 = some (sh1 23)) (hP : sh 24 = some (1, 500, [])) (H : hEn E x) {d u r : Nat} (hf : okP E x y n m sh tx L kX1_readFactor kX11_readsFactor (d + 4) (u + 8) r 2) :
    okP E x y n m sh tx L kX1_readTerm kX11_readsTerm (d + 5) (u + 9) r 1 := by
  intro S M g p dep s hr R hs
  have hL := (mQ_le R.2.1).2.1
  rw [eX1_readTerm, QX1_readTerm_0, eX11_readsTerm, QX11_readsTerm_0]
  rcases hf S M g p dep s hr R hs with ⟨S2, M2, g2, p2, k1, k2, k3, k4, k5, k6, k7, k8⟩ | ⟨S2, M2, k1, k2, k3, k4, k5⟩
  · have hl := p_tl (s := s) h3 hF hP H hf hr 500 0 S2 M2 g2 p2 (by omega) (by omega) k3 k6
    have hfin := oF_fr k4 k5 k7 (seg_lo k8 (by omega)) hl
    have ec : gO E (wW E x sh S, n) 1 (x + 23) (cI (xthr 1 some) (xsem xT E (d + 4) kX1_readFactor [.ref (x + 23), .ref (x + 1), .int (nI dep)] (wW E x sh S, n)) (fun v1 σ1 => if v1 = nI 0 then xiret [5] (nI 0) (some (.inl (some (.int (nI 0))), σ1)) else qX1_readTerm_11 E (d + 4) (x + 23) (x + 1) (nI dep) σ1)) = qX1_readTerm_13 E (d + 4) (x + 23) (x + 1) (nI dep) (nI 0) (wW E x sh S2, n) := by
      simp (disch := omega) only [gO_1 hF, gR_1_0 hF, gI_1_1 hF, gP_1_1 hF, gR_1_2 hF, k1, iEQ_f, QX1_readTerm_11, cI_s, cL_s, cF_s, cD_s, cA_s, cV_s, nI_add, cond_true, cond_false, if_true, if_false]
    have em : gO E (wW E y shM M, m) 9 y (cI (xthr 1 some) (xsem xT E (u + 8) kX11_readsFactor [.ref y] (wW E y shM M, m)) (fun v1 σ1 => if v1 = nI 0 then xiret [5] (nI 0) (some (.inl (some (.int (nI 0))), σ1)) else qX11_readsTerm_9 E (u + 8) y σ1)) = qX11_readsTerm_9 E (u + 8) y (wW E y shM M2, m) := by
      simp (disch := omega) only [gO_9 hM0, gI_9_0 hM0, gP_9_0 hM0, gR_9_1 hM0, gR_9_2 hM0, gI_9_3 hM0, gP_9_3 hM0, gI_9_4 hM0, gP_9_4 hM0, gR_9_5 hM0, gR_9_6 hM0, gR_9_7 hM0, gI_9_8 hM0, gP_9_8 hM0, gI_9_9 hM0, gP_9_9 hM0, gI_9_10 hM0, gP_9_10 hM0, gI_9_11 hM0, gP_9_11 hM0, gI_9_12 hM0, gP_9_12 hM0, gI_9_13 hM0, gP_9_13 hM0, gI_9_14 hM0, gP_9_14 hM0, gI_9_15 hM0, gP_9_15 hM0, gI_9_16 hM0, gP_9_16 hM0, gR_9_17 hM0, gR_9_18 hM0, gR_9_19 hM0, gR_9_20 hM0, gI_9_21 hM0, gP_9_21 hM0, gI_9_22 hM0, gP_9_22 hM0, gI_9_23 hM0, gP_9_23 hM0, gI_9_24 hM0, gP_9_24 hM0, gR_9_25 hM0, gI_9_26 hM0, gP_9_26 hM0, gI_9_27 hM0, gP_9_27 hM0, gI_9_28 hM0, gP_9_28 hM0, gL_9_29 hM0, gP_9_29 hM0, gL_9_30 hM0, gP_9_30 hM0, k2, iEQ_f, cI_s, cL_s, cF_s, cD_s, cA_s, cV_s, nI_add, cond_true, cond_false, if_true, if_false]
    rw [ec, em]
    exact hfin
  · refine Or.inr ⟨S2, M2, ?_, ?_, k3, k4, k5⟩
    · simp (disch := omega) only [gO_1 hF, gR_1_0 hF, gI_1_1 hF, gP_1_1 hF, gR_1_2 hF, k1, iEQ_t, xret5_0, cI_s, cL_s, cF_s, cD_s, cA_s, cV_s, nI_add, cond_true, cond_false, if_true, if_false]
    · simp (disch := omega) only [gO_9 hM0, gI_9_0 hM0, gP_9_0 hM0, gR_9_1 hM0, gR_9_2 hM0, gI_9_3 hM0, gP_9_3 hM0, gI_9_4 hM0, gP_9_4 hM0, gR_9_5 hM0, gR_9_6 hM0, gR_9_7 hM0, gI_9_8 hM0, gP_9_8 hM0, gI_9_9 hM0, gP_9_9 hM0, gI_9_10 hM0, gP_9_10 hM0, gI_9_11 hM0, gP_9_11 hM0, gI_9_12 hM0, gP_9_12 hM0, gI_9_13 hM0, gP_9_13 hM0, gI_9_14 hM0, gP_9_14 hM0, gI_9_15 hM0, gP_9_15 hM0, gI_9_16 hM0, gP_9_16 hM0, gR_9_17 hM0, gR_9_18 hM0, gR_9_19 hM0, gR_9_20 hM0, gI_9_21 hM0, gP_9_21 hM0, gI_9_22 hM0, gP_9_22 hM0, gI_9_23 hM0, gP_9_23 hM0, gI_9_24 hM0, gP_9_24 hM0, gR_9_25 hM0, gI_9_26 hM0, gP_9_26 hM0, gI_9_27 hM0, gP_9_27 hM0, gI_9_28 hM0, gP_9_28 hM0, gL_9_29 hM0, gP_9_29 hM0, gL_9_30 hM0, gP_9_30 hM0, k2, iEQ_t, xret5_0, cI_s, cL_s, cF_s, cD_s, cA_s, cV_s, nI_add, cond_true, cond_false, if_true, if_false]
theorem p_sl (h3 : hI sh 1) (hF : sh 23 = some (sh1 23)) (hP : sh 24 = some (1, 500, [])) (H : hEn E x) {d u r dep s : Nat} (hf : okP E x y n m sh tx L kX1_readTerm kX11_readsTerm (d + 4) (u + 8) r 1) (hr : dep + r = 4) :
    ∀ k i S M g p, L ≤ p + k → i ≤ p → RF S M tx L g p dep → g 11 + s ≤ p → oF E x y n m sh tx L S M g p dep s (2 * dep + 0) 1 1 (qX1_readSum_13 E (d + 4) (x + 23) (x + 1) (nI dep) (nI i) (wW E x sh S, n)) (qX11_readsSum_9 E (u + 8) y (wW E y shM M, m)) := by
  have a3 := h3.1
  -- no such sign
  have hstop : ∀ i S M g p, i ≤ p → RF S M tx L g p dep → g 11 + s ≤ p → tk tx L p ≠ 4 → tk tx L p ≠ 5 → oF E x y n m sh tx L S M g p dep s (2 * dep + 0) 1 1 (qX1_readSum_13 E (d + 4) (x + 23) (x + 1) (nI dep) (nI i) (wW E x sh S, n)) (qX11_readsSum_9 E (u + 8) y (wW E y shM M, m)) := by
    intro i S M g p hi R hs e6 e7
    have R' := RF_P R
    obtain ⟨Q, K, RR, F, hd⟩ := R
    obtain ⟨hpL, hL, hx, ht⟩ := mQ_le K
    have h1 : ¬ hc tx L p = nI 43 := fun z => e6 ((hc_sg hL ht (i := 4) (by omega) (by omega)).1 z)
    have h2 : ¬ hc tx L p = nI 45 := fun z => e7 ((hc_sg hL ht (i := 5) (by omega) (by omega)).1 z)
    refine Or.inl ⟨S, mP M p, g, p, ?_, ?_, R', frC_rf, frF_R frR_P, hs, Nat.le_refl _, seg_rf⟩
    · rw [QX1_readSum_13]
      by_cases c : i < 500
      · simp (disch := omega) only [iLE_f, gO_3 a3, gR_3_0 a3, gI_3_1 a3, gP_3_1 a3, gI_3_2 a3, gP_3_2 a3, gR_3_3 a3, gR_3_4 a3, gR_3_5 a3, gI_3_6 a3, gP_3_6 a3, gI_3_7 a3, gP_3_7 a3, gI_3_8 a3, gP_3_8 a3, gI_3_9 a3, gP_3_9 a3, c_is_f h3 H Q _ e6, c_is_f h3 H Q _ e7, iEQ_t, QX1_readSum_85, xret5_1, cI_s, cL_s, cF_s, cD_s, cA_s, cV_s, nI_add, cond_true, cond_false, if_true, if_false]
      · simp (disch := omega) only [iLE_t, QX1_readSum_85, xret5_1, cI_s, cL_s, cF_s, cD_s, cA_s, cV_s, nI_add, cond_true, cond_false, if_true, if_false]
    · rw [QX11_readsSum_9]
      simp (disch := omega) only [gO_9 hM0, gI_9_0 hM0, gP_9_0 hM0, gR_9_1 hM0, gR_9_2 hM0, gI_9_3 hM0, gP_9_3 hM0, gI_9_4 hM0, gP_9_4 hM0, gR_9_5 hM0, gR_9_6 hM0, gR_9_7 hM0, gI_9_8 hM0, gP_9_8 hM0, gI_9_9 hM0, gP_9_9 hM0, gI_9_10 hM0, gP_9_10 hM0, gI_9_11 hM0, gP_9_11 hM0, gI_9_12 hM0, gP_9_12 hM0, gI_9_13 hM0, gP_9_13 hM0, gI_9_14 hM0, gP_9_14 hM0, gI_9_15 hM0, gP_9_15 hM0, gI_9_16 hM0, gP_9_16 hM0, gR_9_17 hM0, gR_9_18 hM0, gR_9_19 hM0, gR_9_20 hM0, gI_9_21 hM0, gP_9_21 hM0, gI_9_22 hM0, gP_9_22 hM0, gI_9_23 hM0, gP_9_23 hM0, gI_9_24 hM0, gP_9_24 hM0, gR_9_25 hM0, gI_9_26 hM0, gP_9_26 hM0, gI_9_27 hM0, gP_9_27 hM0, gI_9_28 hM0, gP_9_28 hM0, gL_9_29 hM0, gP_9_29 hM0, gL_9_30 hM0, gP_9_30 hM0, t_here K, if_neg h1, t_here' K, if_neg h2, QX11_readsSum_70, xret5_1, cI_s, cL_s, cF_s, cD_s, cA_s, cV_s, nI_add, cond_true, cond_false, if_true, if_false]
  intro k
  induction k with
  | zero =>
    intro i S M g p hk hi R hs
    have hL := (mQ_le R.2.1).2.1
    have e0 := (tk_0 hL (tx := tx) (p := p)).2 (by omega)
    exact hstop i S M g p hi R hs (by omega) (by omega)
  | succ k ih =>
    intro i S M g p hk hi R hs
    by_cases hop : tk tx L p = 4 ∨ tk tx L p = 5
    · have R' := RF_P R
      obtain ⟨Q, K, RR, F, hd⟩ := R
      have K' := mQ_P K
      obtain ⟨hpL, hL, hx, ht⟩ := mQ_le K
      have hp : p < L := by
        by_cases c : p < L
        · exact c
        · have := (tk_0 hL (tx := tx)).2 c
          omega
      have hgt := ad_gt (tx := tx) hL hp
      obtain ⟨S1, a1, a2, a4⟩ := c_advance (E := E) (x := x) (n := n) h3 Q (d + 3)
      obtain ⟨op, w, hop2, hw, hc3, hm3, hsg⟩ : ∃ op w, (op = 2 ∨ op = 3) ∧ w = pEnc op 0 ∧ qX1_readSum_13 E (d + 4) (x + 23) (x + 1) (nI dep) (nI i) (wW E x sh S, n) = qX1_readSum_56 E (d + 4) (x + 23) (x + 1) (nI dep) (nI i) w (wW E x sh S, n) ∧ qX11_readsSum_9 E (u + 8) y (wW E y shM M, m) = qX11_readsSum_41 E (u + 8) y (nI op) (wW E y shM (mP M p), m) ∧ nx tx L (p + 1) = ad tx L p := by
        by_cases e6 : tk tx L p = 4
        · have h1 : hc tx L p = nI 43 := (hc_sg hL ht (i := 4) (by omega) (by omega)).2 e6
          refine ⟨2, _, Or.inl rfl, rfl, ?_, ?_, sg_ad hp (i := 4) (by omega) ((tk_sg hL ht (by omega) (by omega)).1 e6).2⟩
          · rw [QX1_readSum_13]
            simp (disch := omega) only [iLE_f, gO_3 a3, gR_3_0 a3, gI_3_1 a3, gP_3_1 a3, gI_3_2 a3, gP_3_2 a3, gR_3_3 a3, gR_3_4 a3, gR_3_5 a3, gI_3_6 a3, gP_3_6 a3, gI_3_7 a3, gP_3_7 a3, gI_3_8 a3, gP_3_8 a3, gI_3_9 a3, gP_3_9 a3, c_is_t h3 H Q _ e6, iEQ_f, QX1_readSum_40, cI_s, cL_s, cF_s, cD_s, cA_s, cV_s, nI_add, cond_true, cond_false, if_true, if_false]
            rfl
          · rw [QX11_readsSum_9]
            simp (disch := omega) only [gO_9 hM0, gI_9_0 hM0, gP_9_0 hM0, gR_9_1 hM0, gR_9_2 hM0, gI_9_3 hM0, gP_9_3 hM0, gI_9_4 hM0, gP_9_4 hM0, gR_9_5 hM0, gR_9_6 hM0, gR_9_7 hM0, gI_9_8 hM0, gP_9_8 hM0, gI_9_9 hM0, gP_9_9 hM0, gI_9_10 hM0, gP_9_10 hM0, gI_9_11 hM0, gP_9_11 hM0, gI_9_12 hM0, gP_9_12 hM0, gI_9_13 hM0, gP_9_13 hM0, gI_9_14 hM0, gP_9_14 hM0, gI_9_15 hM0, gP_9_15 hM0, gI_9_16 hM0, gP_9_16 hM0, gR_9_17 hM0, gR_9_18 hM0, gR_9_19 hM0, gR_9_20 hM0, gI_9_21 hM0, gP_9_21 hM0, gI_9_22 hM0, gP_9_22 hM0, gI_9_23 hM0, gP_9_23 hM0, gI_9_24 hM0, gP_9_24 hM0, gR_9_25 hM0, gI_9_26 hM0, gP_9_26 hM0, gI_9_27 hM0, gP_9_27 hM0, gI_9_28 hM0, gP_9_28 hM0, gL_9_29 hM0, gP_9_29 hM0, gL_9_30 hM0, gP_9_30 hM0, t_here K, h1, QX11_readsSum_27, t_here' K, cI_s, cL_s, cF_s, cD_s, cA_s, cV_s, nI_add, cond_true, cond_false, if_true, if_false]
        · have e7 : tk tx L p = 5 := by omega
          have h1 : ¬ hc tx L p = nI 43 := fun z => e6 ((hc_sg hL ht (i := 4) (by omega) (by omega)).1 z)
          have h2 : hc tx L p = nI 45 := (hc_sg hL ht (i := 5) (by omega) (by omega)).2 e7
          refine ⟨3, _, Or.inr rfl, rfl, ?_, ?_, sg_ad hp (i := 5) (by omega) ((tk_sg hL ht (by omega) (by omega)).1 e7).2⟩
          · rw [QX1_readSum_13]
            simp (disch := omega) only [iLE_f, gO_3 a3, gR_3_0 a3, gI_3_1 a3, gP_3_1 a3, gI_3_2 a3, gP_3_2 a3, gR_3_3 a3, gR_3_4 a3, gR_3_5 a3, gI_3_6 a3, gP_3_6 a3, gI_3_7 a3, gP_3_7 a3, gI_3_8 a3, gP_3_8 a3, gI_3_9 a3, gP_3_9 a3, c_is_f h3 H Q _ e6, iEQ_t, c_is_t h3 H Q _ e7, iEQ_f, QX1_readSum_40, QX1_readSum_54, cI_s, cL_s, cF_s, cD_s, cA_s, cV_s, nI_add, cond_true, cond_false, if_true, if_false]
            rfl
          · rw [QX11_readsSum_9]
            simp (disch := omega) only [gO_9 hM0, gI_9_0 hM0, gP_9_0 hM0, gR_9_1 hM0, gR_9_2 hM0, gI_9_3 hM0, gP_9_3 hM0, gI_9_4 hM0, gP_9_4 hM0, gR_9_5 hM0, gR_9_6 hM0, gR_9_7 hM0, gI_9_8 hM0, gP_9_8 hM0, gI_9_9 hM0, gP_9_9 hM0, gI_9_10 hM0, gP_9_10 hM0, gI_9_11 hM0, gP_9_11 hM0, gI_9_12 hM0, gP_9_12 hM0, gI_9_13 hM0, gP_9_13 hM0, gI_9_14 hM0, gP_9_14 hM0, gI_9_15 hM0, gP_9_15 hM0, gI_9_16 hM0, gP_9_16 hM0, gR_9_17 hM0, gR_9_18 hM0, gR_9_19 hM0, gR_9_20 hM0, gI_9_21 hM0, gP_9_21 hM0, gI_9_22 hM0, gP_9_22 hM0, gI_9_23 hM0, gP_9_23 hM0, gI_9_24 hM0, gP_9_24 hM0, gR_9_25 hM0, gI_9_26 hM0, gP_9_26 hM0, gI_9_27 hM0, gP_9_27 hM0, gI_9_28 hM0, gP_9_28 hM0, gL_9_29 hM0, gP_9_29 hM0, gL_9_30 hM0, gP_9_30 hM0, t_here K, if_neg h1, t_here' K, QX11_readsSum_27, cI_s, cL_s, cF_s, cD_s, cA_s, cV_s, nI_add, cond_true, cond_false, if_true, if_false]
            rw [h2]
            simp (disch := omega) only [iEQ_f, QX11_readsSum_40, cI_s, cL_s, cF_s, cD_s, cA_s, cV_s, nI_add, cond_true, cond_false, if_true, if_false]
      have hK1 : mQ (sS (mP M p) 0 10 (nI (p + 1))) tx L (ad tx L p) := by
        have := mQ_at (b := p + 1) K' (by omega)
        rw [hsg] at this
        exact this
      have hR1 : RF S1 (sS (mP M p) 0 10 (nI (p + 1))) tx L g (ad tx L p) dep := RF_I R' a4 (frR_S (by omega)) a2 hK1
      have hfM : frF M (sS (mP M p) 0 10 (nI (p + 1))) := frF_R (frR_tr frR_P (frR_S (by omega)))
      rw [hc3, hm3]
      rcases hf S1 _ g (ad tx L p) dep (s + 1) hr hR1 (by omega) with ⟨S2, M2, g2, p2, k1, k2, k3, k4, k5, k6, k7, k8⟩ | ⟨S2, M2, k1, k2, k3, k4, k5⟩
      · have hp2 := (mQ_le k3.2.1).1
        obtain ⟨S3, M3, c1, c2, c3, c4, c5⟩ := j_put (E := E) (x := x) (y := y) (n := n) (m := m) hF hP k3 (by omega) op 0 hw (d + 3) (u + 7)
        have ih := ih (i + 1) S3 M3 _ p2 (by omega) (by omega) c3 (by rw [gEm_11]; omega)
        have hfin := oF_fr (frC_tr (frC_I a4) (frC_tr k4 c4)) (frF_tr hfM (frF_tr k5 c5)) (show p ≤ p2 by omega) (seg_tr (seg_sh k8) (seg_op (by omega) (by omega))) ih
        have ec : qX1_readSum_56 E (d + 4) (x + 23) (x + 1) (nI dep) (nI i) w (wW E x sh S, n) = qX1_readSum_13 E (d + 4) (x + 23) (x + 1) (nI dep) (nI (i + 1)) (wW E x sh S3, n) := by
          rw [QX1_readSum_56]
          simp (disch := omega) only [gO_3 a3, gR_3_0 a3, gI_3_1 a3, gP_3_1 a3, gI_3_2 a3, gP_3_2 a3, gR_3_3 a3, gR_3_4 a3, gR_3_5 a3, gI_3_6 a3, gP_3_6 a3, gI_3_7 a3, gP_3_7 a3, gI_3_8 a3, gP_3_8 a3, gI_3_9 a3, gP_3_9 a3, a1, gO_1 hF, gR_1_0 hF, gI_1_1 hF, gP_1_1 hF, gR_1_2 hF, cI_s, cL_s, cF_s, cD_s, cA_s, cV_s, nI_add, cond_true, cond_false, if_true, if_false]
          rw [k1]
          simp (disch := omega) only [iEQ_f, QX1_readSum_73, gO_1 hF, gR_1_0 hF, gI_1_1 hF, gP_1_1 hF, gR_1_2 hF, cI_s, cL_s, cF_s, cD_s, cA_s, cV_s, nI_add, cond_true, cond_false, if_true, if_false]
          rw [c1]
          simp (disch := omega) only [cI_s, cL_s, cF_s, cD_s, cA_s, cV_s, nI_add, cond_true, cond_false, if_true, if_false]
        have em : qX11_readsSum_41 E (u + 8) y (nI op) (wW E y shM (mP M p), m) = qX11_readsSum_9 E (u + 8) y (wW E y shM M3, m) := by
          rw [QX11_readsSum_41]
          simp (disch := omega) only [gO_9 hM0, gI_9_0 hM0, gP_9_0 hM0, gR_9_1 hM0, gR_9_2 hM0, gI_9_3 hM0, gP_9_3 hM0, gI_9_4 hM0, gP_9_4 hM0, gR_9_5 hM0, gR_9_6 hM0, gR_9_7 hM0, gI_9_8 hM0, gP_9_8 hM0, gI_9_9 hM0, gP_9_9 hM0, gI_9_10 hM0, gP_9_10 hM0, gI_9_11 hM0, gP_9_11 hM0, gI_9_12 hM0, gP_9_12 hM0, gI_9_13 hM0, gP_9_13 hM0, gI_9_14 hM0, gP_9_14 hM0, gI_9_15 hM0, gP_9_15 hM0, gI_9_16 hM0, gP_9_16 hM0, gR_9_17 hM0, gR_9_18 hM0, gR_9_19 hM0, gR_9_20 hM0, gI_9_21 hM0, gP_9_21 hM0, gI_9_22 hM0, gP_9_22 hM0, gI_9_23 hM0, gP_9_23 hM0, gI_9_24 hM0, gP_9_24 hM0, gR_9_25 hM0, gI_9_26 hM0, gP_9_26 hM0, gI_9_27 hM0, gP_9_27 hM0, gI_9_28 hM0, gP_9_28 hM0, gL_9_29 hM0, gP_9_29 hM0, gL_9_30 hM0, gP_9_30 hM0, mP_10, cI_s, cL_s, cF_s, cD_s, cA_s, cV_s, nI_add, cond_true, cond_false, if_true, if_false]
          rw [k2]
          simp (disch := omega) only [iEQ_f, QX11_readsSum_61, gO_9 hM0, gI_9_0 hM0, gP_9_0 hM0, gR_9_1 hM0, gR_9_2 hM0, gI_9_3 hM0, gP_9_3 hM0, gI_9_4 hM0, gP_9_4 hM0, gR_9_5 hM0, gR_9_6 hM0, gR_9_7 hM0, gI_9_8 hM0, gP_9_8 hM0, gI_9_9 hM0, gP_9_9 hM0, gI_9_10 hM0, gP_9_10 hM0, gI_9_11 hM0, gP_9_11 hM0, gI_9_12 hM0, gP_9_12 hM0, gI_9_13 hM0, gP_9_13 hM0, gI_9_14 hM0, gP_9_14 hM0, gI_9_15 hM0, gP_9_15 hM0, gI_9_16 hM0, gP_9_16 hM0, gR_9_17 hM0, gR_9_18 hM0, gR_9_19 hM0, gR_9_20 hM0, gI_9_21 hM0, gP_9_21 hM0, gI_9_22 hM0, gP_9_22 hM0, gI_9_23 hM0, gP_9_23 hM0, gI_9_24 hM0, gP_9_24 hM0, gR_9_25 hM0, gI_9_26 hM0, gP_9_26 hM0, gI_9_27 hM0, gP_9_27 hM0, gI_9_28 hM0, gP_9_28 hM0, gL_9_29 hM0, gP_9_29 hM0, gL_9_30 hM0, gP_9_30 hM0, cI_s, cL_s, cF_s, cD_s, cA_s, cV_s, nI_add, cond_true, cond_false, if_true, if_false]
          rw [c2]
          simp (disch := omega) only [cI_s, cL_s, cF_s, cD_s, cA_s, cV_s, nI_add, cond_true, cond_false, if_true, if_false]
        rw [ec, em]
        exact hfin
      · refine Or.inr ⟨S2, M2, ?_, ?_, k3, frC_tr (frC_I a4) k4, frF_tr hfM k5⟩
        · rw [QX1_readSum_56]
          simp (disch := omega) only [gO_3 a3, gR_3_0 a3, gI_3_1 a3, gP_3_1 a3, gI_3_2 a3, gP_3_2 a3, gR_3_3 a3, gR_3_4 a3, gR_3_5 a3, gI_3_6 a3, gP_3_6 a3, gI_3_7 a3, gP_3_7 a3, gI_3_8 a3, gP_3_8 a3, gI_3_9 a3, gP_3_9 a3, a1, gO_1 hF, gR_1_0 hF, gI_1_1 hF, gP_1_1 hF, gR_1_2 hF, cI_s, cL_s, cF_s, cD_s, cA_s, cV_s, nI_add, cond_true, cond_false, if_true, if_false]
          rw [k1]
          simp (disch := omega) only [iEQ_t, xret5_0, cI_s, cL_s, cF_s, cD_s, cA_s, cV_s, nI_add, cond_true, cond_false, if_true, if_false]
        · rw [QX11_readsSum_41]
          simp (disch := omega) only [gO_9 hM0, gI_9_0 hM0, gP_9_0 hM0, gR_9_1 hM0, gR_9_2 hM0, gI_9_3 hM0, gP_9_3 hM0, gI_9_4 hM0, gP_9_4 hM0, gR_9_5 hM0, gR_9_6 hM0, gR_9_7 hM0, gI_9_8 hM0, gP_9_8 hM0, gI_9_9 hM0, gP_9_9 hM0, gI_9_10 hM0, gP_9_10 hM0, gI_9_11 hM0, gP_9_11 hM0, gI_9_12 hM0, gP_9_12 hM0, gI_9_13 hM0, gP_9_13 hM0, gI_9_14 hM0, gP_9_14 hM0, gI_9_15 hM0, gP_9_15 hM0, gI_9_16 hM0, gP_9_16 hM0, gR_9_17 hM0, gR_9_18 hM0, gR_9_19 hM0, gR_9_20 hM0, gI_9_21 hM0, gP_9_21 hM0, gI_9_22 hM0, gP_9_22 hM0, gI_9_23 hM0, gP_9_23 hM0, gI_9_24 hM0, gP_9_24 hM0, gR_9_25 hM0, gI_9_26 hM0, gP_9_26 hM0, gI_9_27 hM0, gP_9_27 hM0, gI_9_28 hM0, gP_9_28 hM0, gL_9_29 hM0, gP_9_29 hM0, gL_9_30 hM0, gP_9_30 hM0, mP_10, cI_s, cL_s, cF_s, cD_s, cA_s, cV_s, nI_add, cond_true, cond_false, if_true, if_false]
          rw [k2]
          simp (disch := omega) only [iEQ_t, xret5_0, cI_s, cL_s, cF_s, cD_s, cA_s, cV_s, nI_add, cond_true, cond_false, if_true, if_false]
    · exact hstop i S M g p hi R hs (by omega) (by omega)
theorem p_sum (h3 : hI sh 1) (hF : sh 23 = some (sh1 23)) (hP : sh 24 = some (1, 500, [])) (H : hEn E x) {d u r : Nat} (hf : okP E x y n m sh tx L kX1_readTerm kX11_readsTerm (d + 4) (u + 8) r 1) :
    okP E x y n m sh tx L kX1_readSum kX11_readsSum (d + 5) (u + 9) r 0 := by
  intro S M g p dep s hr R hs
  have hL := (mQ_le R.2.1).2.1
  rw [eX1_readSum, QX1_readSum_0, eX11_readsSum, QX11_readsSum_0]
  rcases hf S M g p dep s hr R hs with ⟨S2, M2, g2, p2, k1, k2, k3, k4, k5, k6, k7, k8⟩ | ⟨S2, M2, k1, k2, k3, k4, k5⟩
  · have hl := p_sl (s := s) h3 hF hP H hf hr 500 0 S2 M2 g2 p2 (by omega) (by omega) k3 k6
    have hfin := oF_fr k4 k5 k7 (seg_lo k8 (by omega)) hl
    have ec : gO E (wW E x sh S, n) 1 (x + 23) (cI (xthr 1 some) (xsem xT E (d + 4) kX1_readTerm [.ref (x + 23), .ref (x + 1), .int (nI dep)] (wW E x sh S, n)) (fun v1 σ1 => if v1 = nI 0 then xiret [5] (nI 0) (some (.inl (some (.int (nI 0))), σ1)) else qX1_readSum_11 E (d + 4) (x + 23) (x + 1) (nI dep) σ1)) = qX1_readSum_13 E (d + 4) (x + 23) (x + 1) (nI dep) (nI 0) (wW E x sh S2, n) := by
      simp (disch := omega) only [gO_1 hF, gR_1_0 hF, gI_1_1 hF, gP_1_1 hF, gR_1_2 hF, k1, iEQ_f, QX1_readSum_11, cI_s, cL_s, cF_s, cD_s, cA_s, cV_s, nI_add, cond_true, cond_false, if_true, if_false]
    have em : gO E (wW E y shM M, m) 9 y (cI (xthr 1 some) (xsem xT E (u + 8) kX11_readsTerm [.ref y] (wW E y shM M, m)) (fun v1 σ1 => if v1 = nI 0 then xiret [5] (nI 0) (some (.inl (some (.int (nI 0))), σ1)) else qX11_readsSum_9 E (u + 8) y σ1)) = qX11_readsSum_9 E (u + 8) y (wW E y shM M2, m) := by
      simp (disch := omega) only [gO_9 hM0, gI_9_0 hM0, gP_9_0 hM0, gR_9_1 hM0, gR_9_2 hM0, gI_9_3 hM0, gP_9_3 hM0, gI_9_4 hM0, gP_9_4 hM0, gR_9_5 hM0, gR_9_6 hM0, gR_9_7 hM0, gI_9_8 hM0, gP_9_8 hM0, gI_9_9 hM0, gP_9_9 hM0, gI_9_10 hM0, gP_9_10 hM0, gI_9_11 hM0, gP_9_11 hM0, gI_9_12 hM0, gP_9_12 hM0, gI_9_13 hM0, gP_9_13 hM0, gI_9_14 hM0, gP_9_14 hM0, gI_9_15 hM0, gP_9_15 hM0, gI_9_16 hM0, gP_9_16 hM0, gR_9_17 hM0, gR_9_18 hM0, gR_9_19 hM0, gR_9_20 hM0, gI_9_21 hM0, gP_9_21 hM0, gI_9_22 hM0, gP_9_22 hM0, gI_9_23 hM0, gP_9_23 hM0, gI_9_24 hM0, gP_9_24 hM0, gR_9_25 hM0, gI_9_26 hM0, gP_9_26 hM0, gI_9_27 hM0, gP_9_27 hM0, gI_9_28 hM0, gP_9_28 hM0, gL_9_29 hM0, gP_9_29 hM0, gL_9_30 hM0, gP_9_30 hM0, k2, iEQ_f, cI_s, cL_s, cF_s, cD_s, cA_s, cV_s, nI_add, cond_true, cond_false, if_true, if_false]
    rw [ec, em]
    exact hfin
  · refine Or.inr ⟨S2, M2, ?_, ?_, k3, k4, k5⟩
    · simp (disch := omega) only [gO_1 hF, gR_1_0 hF, gI_1_1 hF, gP_1_1 hF, gR_1_2 hF, k1, iEQ_t, xret5_0, cI_s, cL_s, cF_s, cD_s, cA_s, cV_s, nI_add, cond_true, cond_false, if_true, if_false]
    · simp (disch := omega) only [gO_9 hM0, gI_9_0 hM0, gP_9_0 hM0, gR_9_1 hM0, gR_9_2 hM0, gI_9_3 hM0, gP_9_3 hM0, gI_9_4 hM0, gP_9_4 hM0, gR_9_5 hM0, gR_9_6 hM0, gR_9_7 hM0, gI_9_8 hM0, gP_9_8 hM0, gI_9_9 hM0, gP_9_9 hM0, gI_9_10 hM0, gP_9_10 hM0, gI_9_11 hM0, gP_9_11 hM0, gI_9_12 hM0, gP_9_12 hM0, gI_9_13 hM0, gP_9_13 hM0, gI_9_14 hM0, gP_9_14 hM0, gI_9_15 hM0, gP_9_15 hM0, gI_9_16 hM0, gP_9_16 hM0, gR_9_17 hM0, gR_9_18 hM0, gR_9_19 hM0, gR_9_20 hM0, gI_9_21 hM0, gP_9_21 hM0, gI_9_22 hM0, gP_9_22 hM0, gI_9_23 hM0, gP_9_23 hM0, gI_9_24 hM0, gP_9_24 hM0, gR_9_25 hM0, gI_9_26 hM0, gP_9_26 hM0, gI_9_27 hM0, gP_9_27 hM0, gI_9_28 hM0, gP_9_28 hM0, gL_9_29 hM0, gP_9_29 hM0, gL_9_30 hM0, gP_9_30 hM0, k2, iEQ_t, xret5_0, cI_s, cL_s, cF_s, cD_s, cA_s, cV_s, nI_add, cond_true, cond_false, if_true, if_false]
theorem p_all (h3 : hI sh 1) (hF : sh 23 = some (sh1 23)) (hP : sh 24 = some (1, 500, [])) (H : hEn E x) (H' : hEn E y) : ∀ r d u, okP E x y n m sh tx L kX1_readSum kX11_readsSum (d + 3 * r + 6) (u + 3 * r + 10) r 0 := by
  intro r
  induction r with
  | zero =>
    intro d u
    have hf := p_fac (tx := tx) (L := L) (n := n) (m := m) h3 hF hP H H' (d := d) (u := u) (r := 0) (fun r' z => absurd z (by omega))
    exact p_sum (d := d + 1) (u := u + 1) h3 hF hP H (p_term h3 hF hP H hf)
  | succ r ih =>
    intro d u
    have hf := p_fac (tx := tx) (L := L) (n := n) (m := m) h3 hF hP H H' (d := d + 3 * r + 3) (u := u + 3 * r + 3) (r := r + 1) (fun r' z => by
      have : r' = r := by omega
      subst this
      exact ih d u)
    rw [show d + 3 * (r + 1) + 6 = d + 3 * r + 3 + 6 by omega, show u + 3 * (r + 1) + 10 = u + 3 * r + 3 + 10 by omega]
    exact p_sum (d := d + 3 * r + 3 + 1) (u := u + 3 * r + 3 + 1) h3 hF hP H (p_term h3 hF hP H hf)
end FP
