/-! THE CLASS'S INPUT: what readers ask of it. -/
def QI (S : xSt) (q : Nat) (tx : Nat → Nat) (L p : Nat) : Prop := ∃ m k, PI S q tx L m k ∧ ch tx L k = p
def eF (S : xSt) (q : Nat) (c : Int32) (p : Nat) : Prop := S.1 q 8 = c ∧ S.1 q 9 = nI p
section LX3
variable {E : xEn} {z : Nat → Option va_E} {x n : Nat} {sh : Nat → Option xSh} {S : xSt} {q L p : Nat} {tx : Nat → Nat}
theorem QI_le (Q : QI S q tx L p) : p ≤ L ∧ L ≤ 500 ∧ nx tx L p = p := by
  obtain ⟨m, k, ⟨_, _, _, _, _, h⟩, rfl⟩ := Q
  exact ⟨ch_le k, h, ch_nx h k⟩
theorem PI_cg {S' : xSt} {m k : Nat} (h : PI S q tx L m k) (h6 : S'.1 q 6 = S.1 q 6) (h7 : S'.1 q 7 = S.1 q 7) (h3 : S'.2.1 (q + 3) = S.2.1 (q + 3)) (h4 : S'.2.1 (q + 4) = S.2.1 (q + 4)) (h5 : S'.2.2.2.2 (q + 2) = S.2.2.2.2 (q + 2)) : PI S' q tx L m k := by
  obtain ⟨⟨p1, p2⟩, p3, p4⟩ := h
  refine ⟨⟨h6.trans p1, fun i hi => ?_⟩, h7.trans p3, p4⟩
  rw [h3, h4, h5]
  exact p2 i hi
theorem QI_cg {S' : xSt} (h : QI S q tx L p) (h6 : S'.1 q 6 = S.1 q 6) (h7 : S'.1 q 7 = S.1 q 7) (h3 : S'.2.1 (q + 3) = S.2.1 (q + 3)) (h4 : S'.2.1 (q + 4) = S.2.1 (q + 4)) (h5 : S'.2.2.2.2 (q + 2) = S.2.2.2.2 (q + 2)) : QI S' q tx L p := by
  obtain ⟨m, k, h, e⟩ := h
  exact ⟨m, k, PI_cg h h6 h7 h3 h4 h5, e⟩
theorem QI_fr {lo hi : Nat} {S' : xSt} (f : frm lo hi S S') (ho : q + 5 ≤ lo ∨ hi ≤ q) (h : QI S q tx L p) : QI S' q tx L p :=
  QI_cg h (frm_1 f (by omega)) (frm_1 f (by omega)) (frm_2 f (by omega)) (frm_2 f (by omega)) (by rw [f.2])
theorem s3_token (h : hI sh q) (Q : QI S q tx L p) (d : Nat) : xsem xT E (d + 1) kX3_token [.ref (x + q)] (wW E z x sh S, n) = some (.inl (some (.ref (E.1 (tk tx L p)))), (wW E z x sh S, n)) := by
  obtain ⟨m, k, ⟨⟨p1, p2⟩, p3, p4, p5, p6, p7⟩, rfl⟩ := Q
  obtain ⟨a0, a1, a2, a3, a4⟩ := h
  rw [eX3_token, QX3_token_0]
  simp (disch := omega) only [gO_3 a0, gR_3_0 a0, gI_3_1 a0, gP_3_1 a0, gI_3_2 a0, gP_3_2 a0, gR_3_3 a0, gR_3_4 a0, gR_3_5 a0, gI_3_6 a0, gP_3_6 a0, gI_3_7 a0, gP_3_7 a0, gI_3_8 a0, gP_3_8 a0, gI_3_9 a0, gP_3_9 a0, p3, cI_s, cL_s, cF_s, cD_s, cA_s, cV_s, nI_add, cond_true, cond_false, if_true, if_false]
  rw [aQ_w a2 (by omega) (by omega) (p2 k (by omega)).1]
theorem s3_number (h : hI sh q) (Q : QI S q tx L p) (d : Nat) : xsem xT E (d + 1) kX3_number [.ref (x + q)] (wW E z x sh S, n) = some (.inl (some (.int (nI (nu tx L p)))), (wW E z x sh S, n)) := by
  obtain ⟨m, k, ⟨⟨p1, p2⟩, p3, p4, p5, p6, p7⟩, rfl⟩ := Q
  obtain ⟨a0, a1, a2, a3, a4⟩ := h
  rw [eX3_number, QX3_number_0]
  simp (disch := omega) only [gO_3 a0, gR_3_0 a0, gI_3_1 a0, gP_3_1 a0, gI_3_2 a0, gP_3_2 a0, gR_3_3 a0, gR_3_4 a0, gR_3_5 a0, gI_3_6 a0, gP_3_6 a0, gI_3_7 a0, gP_3_7 a0, gI_3_8 a0, gP_3_8 a0, gI_3_9 a0, gP_3_9 a0, p3, aI_w a4, (p2 k (by omega)).2.2, cI_s, cL_s, cF_s, cD_s, cA_s, cV_s, nI_add, cond_true, cond_false, if_true, if_false]
theorem s3_is (h : hI sh q) (H : hEn E z x) (Q : QI S q tx L p) {i : Nat} (hi : i < 29) (d : Nat) : xsem xT E (d + 1) kX3_is [.ref (x + q), .ref (E.1 i)] (wW E z x sh S, n) = some (.inl (some (.int (nI (if tk tx L p = i then 1 else 0)))), (wW E z x sh S, n)) := by
  obtain ⟨m, k, ⟨⟨p1, p2⟩, p3, p4, p5, p6, p7⟩, rfl⟩ := Q
  obtain ⟨a0, a1, a2, a3, a4⟩ := h
  rw [eX3_is, QX3_is_0]
  simp (disch := omega) only [gO_3 a0, gR_3_0 a0, gI_3_1 a0, gP_3_1 a0, gI_3_2 a0, gP_3_2 a0, gR_3_3 a0, gR_3_4 a0, gR_3_5 a0, gI_3_6 a0, gP_3_6 a0, gI_3_7 a0, gP_3_7 a0, gI_3_8 a0, gP_3_8 a0, gI_3_9 a0, gP_3_9 a0, p3, cI_s, cL_s, cF_s, cD_s, cA_s, cV_s, nI_add, cond_true, cond_false, if_true, if_false]
  rw [aQ_w a2 (by omega) (by omega) (p2 k (by omega)).1, bq_t H tk_lt hi]
  by_cases e : tk tx L (ch tx L k) = i
  · rw [decide_eq_true e, cond_true, if_pos e, QX3_is_18]
    rfl
  · rw [decide_eq_false e, cond_false, if_neg e, QX3_is_17, QX3_is_18]
    rfl
theorem s3_advance (h : hI sh q) (Q : QI S q tx L p) (d : Nat) : ∃ S', xsem xT E (d + 1) kX3_advance [.ref (x + q)] (wW E z x sh S, n) = some (.inl none, (wW E z x sh S', n)) ∧ QI S' q tx L (ad tx L p) ∧ frm q (q + 1) S S' ∧ (∀ k, k ≠ 7 → S'.1 q k = S.1 q k) := by
  obtain ⟨m, k, ⟨⟨p1, p2⟩, p3, p4, p5, p6, p7⟩, rfl⟩ := Q
  obtain ⟨a0, a1, a2, a3, a4⟩ := h
  by_cases c : k < m
  · refine ⟨sS S q 7 (nI (k + 1)), ?_, ⟨m, k + 1, ⟨⟨by rw [sS_n (by omega)]; exact p1, p2⟩, sS_s, by omega, p5, p6, p7⟩, rfl⟩, frm_sS (by omega) (by omega), fun j hj => sS_n hj⟩
    rw [eX3_advance, QX3_advance_0]
    simp (disch := omega) only [gO_3 a0, gR_3_0 a0, gI_3_1 a0, gP_3_1 a0, gI_3_2 a0, gP_3_2 a0, gR_3_3 a0, gR_3_4 a0, gR_3_5 a0, gI_3_6 a0, gP_3_6 a0, gI_3_7 a0, gP_3_7 a0, gI_3_8 a0, gP_3_8 a0, gI_3_9 a0, gP_3_9 a0, p1, p3, iLE_f, QX3_advance_23, cI_s, cL_s, cF_s, cD_s, cA_s, cV_s, nI_add, cond_true, cond_false, if_true, if_false]
  · have e : k = m := by omega
    refine ⟨S, ?_, ⟨m, k, ⟨⟨p1, p2⟩, p3, p4, p5, p6, p7⟩, ?_⟩, frm_rf, fun _ _ => rfl⟩
    · rw [eX3_advance, QX3_advance_0]
      simp (disch := omega) only [gO_3 a0, gR_3_0 a0, gI_3_1 a0, gP_3_1 a0, gI_3_2 a0, gP_3_2 a0, gR_3_3 a0, gR_3_4 a0, gR_3_5 a0, gI_3_6 a0, gP_3_6 a0, gI_3_7 a0, gP_3_7 a0, gI_3_8 a0, gP_3_8 a0, gI_3_9 a0, gP_3_9 a0, p1, p3, iLE_t, QX3_advance_23, cI_s, cL_s, cF_s, cD_s, cA_s, cV_s, nI_add, cond_true, cond_false, if_true, if_false]
    · rw [e, p5]
      unfold ad
      rw [if_neg (Nat.lt_irrefl _)]
theorem s3_fail (h : hI sh q) (Q : QI S q tx L p) (c : Int32) (d : Nat) : xsem xT E (d + 1) kX3_fail [.ref (x + q), .int c] (wW E z x sh S, n) = some (.inl (some (.int (nI 0))), (wW E z x sh (sS (sS S q 8 c) q 9 (nI p)), n)) := by
  obtain ⟨m, k, ⟨⟨p1, p2⟩, p3, p4, p5, p6, p7⟩, rfl⟩ := Q
  obtain ⟨a0, a1, a2, a3, a4⟩ := h
  rw [eX3_fail, QX3_fail_0]
  simp (disch := omega) only [gO_3 a0, gR_3_0 a0, gI_3_1 a0, gP_3_1 a0, gI_3_2 a0, gP_3_2 a0, gR_3_3 a0, gR_3_4 a0, gR_3_5 a0, gI_3_6 a0, gP_3_6 a0, gI_3_7 a0, gP_3_7 a0, gI_3_8 a0, gP_3_8 a0, gI_3_9 a0, gP_3_9 a0, cI_s, cL_s, cF_s, cD_s, cA_s, cV_s, nI_add, cond_true, cond_false, if_true, if_false]
  rw [sS_n (by omega), p3]
  simp (disch := omega) only [aI_w a3, sS_a, (p2 k (by omega)).2.1, gO_3 a0, gR_3_0 a0, gI_3_1 a0, gP_3_1 a0, gI_3_2 a0, gP_3_2 a0, gR_3_3 a0, gR_3_4 a0, gR_3_5 a0, gI_3_6 a0, gP_3_6 a0, gI_3_7 a0, gP_3_7 a0, gI_3_8 a0, gP_3_8 a0, gI_3_9 a0, gP_3_9 a0, xret5_0, cI_s, cL_s, cF_s, cD_s, cA_s, cV_s, nI_add, cond_true, cond_false, if_true, if_false]
theorem eF_s {c : Int32} : eF (sS (sS S q 8 c) q 9 (nI p)) q c p := ⟨by rw [sS_n (by omega), sS_s], sS_s⟩
theorem frm_f {c : Int32} : frm q (q + 1) S (sS (sS S q 8 c) q 9 (nI p)) := frm_tr (frm_sS (by omega) (by omega)) (frm_sS (by omega) (by omega))
theorem s3_take_f (h : hI sh q) (H : hEn E z x) (Q : QI S q tx L p) {i : Nat} (hi : i < 29) (e : tk tx L p ≠ i) (d : Nat) : xsem xT E (d + 2) kX3_take [.ref (x + q), .ref (E.1 i)] (wW E z x sh S, n) = some (.inl (some (.int (nI 0))), (wW E z x sh (sS (sS S q 8 (-2)) q 9 (nI p)), n)) := by
  have hf := s3_fail (E := E) (z := z) (x := x) (n := n) h Q (-2) d
  obtain ⟨m, k, ⟨⟨p1, p2⟩, p3, p4, p5, p6, p7⟩, rfl⟩ := Q
  obtain ⟨a0, a1, a2, a3, a4⟩ := h
  rw [eX3_take, QX3_take_0]
  simp (disch := omega) only [gO_3 a0, gR_3_0 a0, gI_3_1 a0, gP_3_1 a0, gI_3_2 a0, gP_3_2 a0, gR_3_3 a0, gR_3_4 a0, gR_3_5 a0, gI_3_6 a0, gP_3_6 a0, gI_3_7 a0, gP_3_7 a0, gI_3_8 a0, gP_3_8 a0, gI_3_9 a0, gP_3_9 a0, p3, cI_s, cL_s, cF_s, cD_s, cA_s, cV_s, nI_add, cond_true, cond_false, if_true, if_false]
  rw [aQ_w a2 (by omega) (by omega) (p2 k (by omega)).1, bq_t H tk_lt hi, decide_eq_false e, cond_false, hf]
  simp (disch := omega) only [xret5_0, cI_s, cL_s, cF_s, cD_s, cA_s, cV_s, nI_add, cond_true, cond_false, if_true, if_false]
theorem s3_take_t (h : hI sh q) (H : hEn E z x) (Q : QI S q tx L p) {i : Nat} (hi : i < 29) (e : tk tx L p = i) (d : Nat) : ∃ S', xsem xT E (d + 2) kX3_take [.ref (x + q), .ref (E.1 i)] (wW E z x sh S, n) = some (.inl (some (.int (nI 1))), (wW E z x sh S', n)) ∧ QI S' q tx L (ad tx L p) ∧ frm q (q + 1) S S' ∧ (∀ k, k ≠ 7 → S'.1 q k = S.1 q k) := by
  obtain ⟨S', h1, h2, h3, h4⟩ := s3_advance (E := E) (z := z) (x := x) (n := n) h Q d
  refine ⟨S', ?_, h2, h3, h4⟩
  obtain ⟨m, k, ⟨⟨p1, p2⟩, p3, p4, p5, p6, p7⟩, rfl⟩ := Q
  obtain ⟨a0, a1, a2, a3, a4⟩ := h
  rw [eX3_take, QX3_take_0]
  simp (disch := omega) only [gO_3 a0, gR_3_0 a0, gI_3_1 a0, gP_3_1 a0, gI_3_2 a0, gP_3_2 a0, gR_3_3 a0, gR_3_4 a0, gR_3_5 a0, gI_3_6 a0, gP_3_6 a0, gI_3_7 a0, gP_3_7 a0, gI_3_8 a0, gP_3_8 a0, gI_3_9 a0, gP_3_9 a0, p3, cI_s, cL_s, cF_s, cD_s, cA_s, cV_s, nI_add, cond_true, cond_false, if_true, if_false]
  rw [aQ_w a2 (by omega) (by omega) (p2 k (by omega)).1, bq_t H tk_lt hi, decide_eq_true e, cond_true, QX3_take_20]
  simp (disch := omega) only [gO_3 a0, gR_3_0 a0, gI_3_1 a0, gP_3_1 a0, gI_3_2 a0, gP_3_2 a0, gR_3_3 a0, gR_3_4 a0, gR_3_5 a0, gI_3_6 a0, gP_3_6 a0, gI_3_7 a0, gP_3_7 a0, gI_3_8 a0, gP_3_8 a0, gI_3_9 a0, gP_3_9 a0, cI_s, cL_s, cF_s, cD_s, cA_s, cV_s, nI_add, cond_true, cond_false, if_true, if_false]
  rw [h1]
  simp (disch := omega) only [xret5_1, cI_s, cL_s, cF_s, cD_s, cA_s, cV_s, nI_add, cond_true, cond_false, if_true, if_false]
theorem s3_num_s (h : hI sh q) (H : hEn E z x) (Q : QI S q tx L p) (lo hi : Nat) (e : tk tx L p ≠ 1) (d : Nat) : xsem xT E (d + 2) kX3_takeNumber [.ref (x + q), .int (nI lo), .int (nI hi)] (wW E z x sh S, n) = some (.inl (some (.int (-1))), (wW E z x sh (sS (sS S q 8 (-2)) q 9 (nI p)), n)) := by
  have hf := s3_fail (E := E) (z := z) (x := x) (n := n) h Q (-2) d
  obtain ⟨m, k, ⟨⟨p1, p2⟩, p3, p4, p5, p6, p7⟩, rfl⟩ := Q
  obtain ⟨a0, a1, a2, a3, a4⟩ := h
  rw [eX3_takeNumber, QX3_takeNumber_0]
  simp (disch := omega) only [gO_3 a0, gR_3_0 a0, gI_3_1 a0, gP_3_1 a0, gI_3_2 a0, gP_3_2 a0, gR_3_3 a0, gR_3_4 a0, gR_3_5 a0, gI_3_6 a0, gP_3_6 a0, gI_3_7 a0, gP_3_7 a0, gI_3_8 a0, gP_3_8 a0, gI_3_9 a0, gP_3_9 a0, p3, aI_w a4, cI_s, cL_s, cF_s, cD_s, cA_s, cV_s, nI_add, cond_true, cond_false, if_true, if_false]
  rw [aQ_w a2 (by omega) (by omega) (p2 k (by omega)).1, bq_t H tk_lt (by omega), decide_eq_false e, cond_false, hf]
  simp (disch := omega) only [cI_s, cL_s, cF_s, cD_s, cA_s, cV_s, nI_add, cond_true, cond_false, if_true, if_false]
theorem s3_num_34 (h : hI sh q) (H : hEn E z x) (Q : QI S q tx L p) (lo hi : Nat) (e : tk tx L p = 1) (d : Nat) : xsem xT E (d + 2) kX3_takeNumber [.ref (x + q), .int (nI lo), .int (nI hi)] (wW E z x sh S, n) = qX3_takeNumber_34 E (d + 1) (x + q) (nI lo) (nI hi) (nI (nu tx L p)) (wW E z x sh S, n) := by
  obtain ⟨m, k, ⟨⟨p1, p2⟩, p3, p4, p5, p6, p7⟩, rfl⟩ := Q
  obtain ⟨a0, a1, a2, a3, a4⟩ := h
  rw [eX3_takeNumber, QX3_takeNumber_0]
  simp (disch := omega) only [gO_3 a0, gR_3_0 a0, gI_3_1 a0, gP_3_1 a0, gI_3_2 a0, gP_3_2 a0, gR_3_3 a0, gR_3_4 a0, gR_3_5 a0, gI_3_6 a0, gP_3_6 a0, gI_3_7 a0, gP_3_7 a0, gI_3_8 a0, gP_3_8 a0, gI_3_9 a0, gP_3_9 a0, p3, aI_w a4, (p2 k (by omega)).2.2, cI_s, cL_s, cF_s, cD_s, cA_s, cV_s, nI_add, cond_true, cond_false, if_true, if_false]
  rw [aQ_w a2 (by omega) (by omega) (p2 k (by omega)).1, bq_t H tk_lt (by omega), decide_eq_true e, cond_true]
theorem s3_num_r (h : hI sh q) (H : hEn E z x) (Q : QI S q tx L p) {lo hi : Nat} (hlo : lo < 2 ^ 31) (hhi : hi < 2 ^ 31) (e : tk tx L p = 1) (hr : ¬ (lo ≤ nu tx L p ∧ nu tx L p ≤ hi)) (d : Nat) : xsem xT E (d + 2) kX3_takeNumber [.ref (x + q), .int (nI lo), .int (nI hi)] (wW E z x sh S, n) = some (.inl (some (.int (-1))), (wW E z x sh (sS (sS S q 8 (-3)) q 9 (nI p)), n)) := by
  have hf := s3_fail (E := E) (z := z) (x := x) (n := n) h Q (-3) d
  have hn := nu_lt (tx := tx) (L := L) (p := p)
  have a0 := h.1
  have h44 : qX3_takeNumber_44 E (d + 1) (x + q) (wW E z x sh S, n) = some (.inl (some (.int (-1))), (wW E z x sh (sS (sS S q 8 (-3)) q 9 (nI p)), n)) := by
    rw [QX3_takeNumber_44]
    simp (disch := omega) only [gO_3 a0, gR_3_0 a0, gI_3_1 a0, gP_3_1 a0, gI_3_2 a0, gP_3_2 a0, gR_3_3 a0, gR_3_4 a0, gR_3_5 a0, gI_3_6 a0, gP_3_6 a0, gI_3_7 a0, gP_3_7 a0, gI_3_8 a0, gP_3_8 a0, gI_3_9 a0, gP_3_9 a0, cI_s, cL_s, cF_s, cD_s, cA_s, cV_s, nI_add, cond_true, cond_false, if_true, if_false]
    rw [hf]
    simp (disch := omega) only [cI_s, cL_s, cF_s, cD_s, cA_s, cV_s, nI_add, cond_true, cond_false, if_true, if_false]
  rw [s3_num_34 h H Q lo hi e, QX3_takeNumber_34]
  by_cases c : nu tx L p < lo
  · rw [iLT_t c hlo]
    exact h44
  · rw [iLT_f (by omega) (by omega), iLE_f (by omega) (by omega)]
    exact h44
theorem s3_num_t (h : hI sh q) (H : hEn E z x) (Q : QI S q tx L p) {lo hi : Nat} (hhi : hi < 2 ^ 31) (e : tk tx L p = 1) (h1 : lo ≤ nu tx L p) (h2 : nu tx L p ≤ hi) (d : Nat) : ∃ S', xsem xT E (d + 2) kX3_takeNumber [.ref (x + q), .int (nI lo), .int (nI hi)] (wW E z x sh S, n) = some (.inl (some (.int (nI (nu tx L p)))), (wW E z x sh S', n)) ∧ QI S' q tx L (ad tx L p) ∧ frm q (q + 1) S S' ∧ (∀ k, k ≠ 7 → S'.1 q k = S.1 q k) := by
  obtain ⟨S', e1, e2, e3, e4⟩ := s3_advance (E := E) (z := z) (x := x) (n := n) h Q d
  have hn := nu_lt (tx := tx) (L := L) (p := p)
  have a0 := h.1
  refine ⟨S', ?_, e2, e3, e4⟩
  rw [s3_num_34 h H Q lo hi e, QX3_takeNumber_34, iLT_f h1 (by omega), iLE_t h2 (by omega), QX3_takeNumber_53]
  simp (disch := omega) only [gO_3 a0, gR_3_0 a0, gI_3_1 a0, gP_3_1 a0, gI_3_2 a0, gP_3_2 a0, gR_3_3 a0, gR_3_4 a0, gR_3_5 a0, gI_3_6 a0, gP_3_6 a0, gI_3_7 a0, gP_3_7 a0, gI_3_8 a0, gP_3_8 a0, gI_3_9 a0, gP_3_9 a0, cI_s, cL_s, cF_s, cD_s, cA_s, cV_s, nI_add, cond_true, cond_false, if_true, if_false]
  rw [e1]
  simp (disch := omega) only [cI_s, cL_s, cF_s, cD_s, cA_s, cV_s, nI_add, cond_true, cond_false, if_true, if_false]
end LX3
