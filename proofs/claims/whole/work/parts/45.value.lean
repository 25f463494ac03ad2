/-! THE ODDS: the class's formula. -/
theorem mnL_I {a b : Int} (ha : a.natAbs ≤ 4611686018427387904) (hb : b.natAbs ≤ 4611686018427387904) : mnL (lI a) (lI b) = lI (if b < a then b else a) := by
  have h := lI_lt (a := b) (b := a) (by omega) (by omega) (by omega) (by omega)
  unfold mnL
  by_cases c : b < a
  · rw [if_pos (h.2 c), if_pos c]
  · have c2 : ¬ lI b < lI a := fun z => c (h.1 z)
    rw [if_neg c2, if_neg c]
theorem mxL_I {a b : Int} (ha : a.natAbs ≤ 4611686018427387904) (hb : b.natAbs ≤ 4611686018427387904) : mxL (lI a) (lI b) = lI (if b < a then a else b) := by
  have h := lI_lt (a := b) (b := a) (by omega) (by omega) (by omega) (by omega)
  unfold mxL
  by_cases c : b < a
  · rw [if_pos (h.2 c), if_pos c]
  · have c2 : ¬ lI b < lI a := fun z => c (h.1 z)
    rw [if_neg c2, if_neg c]
theorem mnI_J {a b : Int} (h1 : -2147483648 ≤ a) (h2 : a < 2147483648) (h3 : -2147483648 ≤ b) (h4 : b < 2147483648) : mnI (jI a) (jI b) = jI (if b < a then b else a) := by
  have h := jI_lt (a := b) (b := a) h3 h4 h1 h2
  unfold mnI
  by_cases c : b < a
  · rw [if_pos (h.2 c), if_pos c]
  · have c2 : ¬ jI b < jI a := fun z => c (h.1 z)
    rw [if_neg c2, if_neg c]
theorem mxI_J {a b : Int} (h1 : -2147483648 ≤ a) (h2 : a < 2147483648) (h3 : -2147483648 ≤ b) (h4 : b < 2147483648) : mxI (jI a) (jI b) = jI (if a < b then b else a) := by
  have h := jI_lt (a := a) (b := b) h1 h2 h3 h4
  unfold mxI
  by_cases c : a < b
  · rw [if_pos (h.2 c), if_pos c]
  · have c2 : ¬ jI a < jI b := fun z => c (h.1 z)
    rw [if_neg c2, if_neg c]
theorem clamp_L {z : Int} (hz : z.natAbs ≤ 4611686018427387904) : (mxL (-1000000 : Int64) (mnL (lI z) (lN 1000000))).toInt32 = jI (clampZ z) := by
  have e1 : (lN 1000000) = lI 1000000 := lI_N _
  have e2 : (-1000000 : Int64) = lI (-1000000) := rfl
  have hb := clampZ_b z
  unfold bZ at hb
  have hy : (if (1000000 : Int) < z then 1000000 else z).natAbs ≤ 4611686018427387904 := by split <;> omega
  rw [← lI_J (z := clampZ z) (by omega) (by omega), e1, e2, mnL_I hz (by decide), mxL_I (by decide) hy]
  refine congrArg (fun v => (lI v).toInt32) ?_
  unfold clampZ
  split <;> split <;> omega
theorem s1_result {E : xEn} {σ : xH} {op v : Nat} {a b : Int} (h2 : 2 ≤ op) (h5 : op ≤ 5) (ha : bZ a) (hb : bZ b) (d : Nat) :
    xsem xT E (d + 1) kX1_result [.int (pEnc op v), .int (jI a), .int (jI b)] σ = some (.inl (some (.int (jI (clampZ (exZ op a b))))), σ) := by
  have hE := exZ_b (op := op) ha hb
  unfold bZ at ha hb
  have hc : op = 2 ∨ op = 3 ∨ op = 4 ∨ op = 5 := by omega
  rw [eX1_result, QX1_result_0]
  rcases hc with h | h | h | h <;> subst h
  · rw [show pEnc 2 v = -1 from rfl, if_pos rfl, QX1_result_57, jI_L (by omega) (by omega), jI_L (by omega) (by omega), lI_add]
    rw [show exZ 2 a b = a + b from rfl] at hE ⊢
    rw [clamp_L hE]
  · rw [show pEnc 3 v = -2 from rfl, if_neg (by decide), QX1_result_14, if_pos rfl, QX1_result_57, jI_L (by omega) (by omega), jI_L (by omega) (by omega), lI_sub]
    rw [show exZ 3 a b = a - b from rfl] at hE ⊢
    rw [clamp_L hE]
  · rw [show pEnc 4 v = -3 from rfl, if_neg (by decide), QX1_result_14, if_neg (by decide), QX1_result_29, if_pos rfl, QX1_result_57, jI_L (by omega) (by omega), jI_L (by omega) (by omega), lI_mul]
    rw [show exZ 4 a b = a * b from rfl] at hE ⊢
    rw [clamp_L hE]
  · rw [show pEnc 5 v = -4 from rfl, if_neg (by decide), QX1_result_14, if_neg (by decide), QX1_result_29, if_neg (by decide), QX1_result_44]
    rw [show exZ 5 a b = if b = 0 then 0 else a.tdiv b from rfl] at hE ⊢
    have e0 : nI 0 = jI 0 := jI_N 0
    rw [e0]
    by_cases z : b = 0
    · rw [if_pos ((jI_eq (by omega) (by omega) (by omega) (by omega)).2 z), QX1_result_56, QX1_result_57, show lN 0 = lI 0 from lI_N 0, if_pos z, clamp_L (by decide)]
    · have hz : ¬ jI b = jI 0 := fun h => z ((jI_eq (by omega) (by omega) (by omega) (by omega)).1 h)
      have ht := tdiv_le (a := a) (b := b) (M := 2147483647) (by omega)
      rw [if_neg z] at hE ⊢
      rw [if_neg hz, QX1_result_52, jI_div (by omega) (by omega) (by omega) (by omega), jI_L (by omega) (by omega)]
      unfold nz
      rw [show decide (¬ jI b = 0) = true from decide_eq_true hz, cond_true, QX1_result_56, QX1_result_57, clamp_L hE]
theorem lim9_J {z : Int} (h : bZ z) : mxI (nI 0) (mnI (jI z) (nI 9)) = nI (lim9 z) := by
  unfold bZ at h
  have e0 : nI 0 = jI 0 := jI_N 0
  have e9 : nI 9 = jI 9 := jI_N 9
  rw [e0, e9, mnI_J (by omega) (by omega) (by omega) (by omega), mxI_J (by omega) (by omega) (by split <;> omega) (by split <;> omega), jI_N]
  refine congrArg jI ?_
  unfold lim9
  by_cases c1 : 0 ≤ z
  · rw [if_pos c1]
    by_cases c2 : z ≤ 9
    · rw [if_pos c2, if_neg (show ¬ 9 < z by omega)]
      split <;> omega
    · rw [if_neg c2, if_pos (show 9 < z by omega), if_pos (by decide)]
      rfl
  · rw [if_neg c1, if_neg (show ¬ 9 < z by omega), if_neg (by omega)]
    rfl
section VAL
variable {E : xEn} {x : Nat} {sh : Nat → Option xSh} {S : xSt} {n q : Nat} {g : Nat → Nat} {R : Nat → Int32}
theorem s1_variable (h : hG sh q) (H : pG S q g) (I : iG g) (ht : iT g) {p v : Nat} (hp : p < g 0) (hv : v ≤ 3) (d : Nat) :
    xsem xT E (d + 2) kX1_variable [.int (pEnc 1 v), .ref (x + q), .int (nI p)] (wW E x sh (sA S (q + 9 + 2) R), n) = some (.inl (some (.int (nI (gFact g p v)))), (wW E x sh (sA S (q + 9 + 2) R), n)) := by
  obtain ⟨a0, a1, a2, a3, a4, a5, a6, a7, a8, a9, a10, a11⟩ := h
  obtain ⟨hs0, hs1⟩ := mSum_pos I
  obtain ⟨⟨r0, r1, _⟩, ⟨m1, m2, m3, m4, mf⟩, P3, _, g4, g5, g6, g7, g8⟩ := H
  obtain ⟨⟨_, h8, h1, _⟩, _, _, _, _, hB, _⟩ := I
  have hf : ∀ p, p < g 0 + 1 → (sA S (q + 9 + 2) R).2.1 (q + 4 + 1) p = nI (gF g p) := fun p hp => by rw [sA_n (by omega)]; exact mf p (by omega)
  have hfp := hB p (by omega)
  rw [eX1_variable, QX1_variable_0]
  have hc : v = 0 ∨ v = 1 ∨ v = 2 ∨ v = 3 := by omega
  rcases hc with h | h | h | h <;> subst h
  · rw [show pEnc 1 0 = -5 from rfl, if_pos rfl]
    simp (disch := omega) only [gO_2 a0, gR_2_0 a0, gR_2_1 a0, gR_2_2 a0, gR_2_3 a0, gI_2_4 a0, gP_2_4 a0, gI_2_5 a0, gP_2_5 a0, gI_2_6 a0, gP_2_6 a0, gI_2_7 a0, gP_2_7 a0, gI_2_8 a0, gP_2_8 a0, gO_5 a1, gI_5_0 a1, gP_5_0 a1, gI_5_1 a1, gP_5_1 a1, gI_5_2 a1, gP_5_2 a1, gR_5_3 a1, gR_5_4 a1, sA_1, r0, cI_s, cL_s, cF_s, cD_s, cA_s, cV_s, nI_add, cond_true, cond_false, if_true, if_false]
    rfl
  · rw [show pEnc 1 1 = -6 from rfl, if_neg (by decide), QX1_variable_14, if_pos rfl]
    simp (disch := omega) only [gO_2 a0, gR_2_0 a0, gR_2_1 a0, gR_2_2 a0, gR_2_3 a0, gI_2_4 a0, gP_2_4 a0, gI_2_5 a0, gP_2_5 a0, gI_2_6 a0, gP_2_6 a0, gI_2_7 a0, gP_2_7 a0, gI_2_8 a0, gP_2_8 a0, sA_1, g4, cI_s, cL_s, cF_s, cD_s, cA_s, cV_s, nI_add, cond_true, cond_false, if_true, if_false]
    rfl
  · rw [show pEnc 1 2 = -7 from rfl, if_neg (by decide), QX1_variable_14, if_neg (by decide), QX1_variable_25, if_pos rfl]
    simp (disch := omega) only [gO_2 a0, gR_2_0 a0, gR_2_1 a0, gR_2_2 a0, gR_2_3 a0, gI_2_4 a0, gP_2_4 a0, gI_2_5 a0, gP_2_5 a0, gI_2_6 a0, gP_2_6 a0, gI_2_7 a0, gP_2_7 a0, gI_2_8 a0, gP_2_8 a0, sA_1, g5, cI_s, cL_s, cF_s, cD_s, cA_s, cV_s, nI_add, cond_true, cond_false, if_true, if_false]
    rfl
  · rw [show pEnc 1 3 = -8 from rfl, if_neg (by decide), QX1_variable_14, if_neg (by decide), QX1_variable_25, if_neg (by decide), QX1_variable_36]
    simp (disch := omega) only [gO_2 a0, gR_2_0 a0, gR_2_1 a0, gR_2_2 a0, gR_2_3 a0, gI_2_4 a0, gP_2_4 a0, gI_2_5 a0, gP_2_5 a0, gI_2_6 a0, gP_2_6 a0, gI_2_7 a0, gP_2_7 a0, gI_2_8 a0, gP_2_8 a0, gO_4 a4, gR_4_0 a4, gI_4_1 a4, gP_4_1 a4, gI_4_2 a4, gP_4_2 a4, gI_4_3 a4, gP_4_3 a4, gI_4_4 a4, gP_4_4 a4, cI_s, cL_s, cF_s, cD_s, cA_s, cV_s, nI_add, cond_true, cond_false, if_true, if_false]
    rw [s4_sum (S := sA S (q + 9 + 2) R) a4 a5 m1 (by omega) hf]
    simp (disch := omega) only [iLE_f, gO_2 a0, gR_2_0 a0, gR_2_1 a0, gR_2_2 a0, gR_2_3 a0, gI_2_4 a0, gP_2_4 a0, gI_2_5 a0, gP_2_5 a0, gI_2_6 a0, gP_2_6 a0, gI_2_7 a0, gP_2_7 a0, gI_2_8 a0, gP_2_8 a0, gO_4 a4, gR_4_0 a4, gI_4_1 a4, gP_4_1 a4, gI_4_2 a4, gP_4_2 a4, gI_4_3 a4, gP_4_3 a4, gI_4_4 a4, gP_4_4 a4, aI_w a5, sA_n, mf p (by omega), nz_nI, pk_mul, pk_div, QX1_variable_66, cI_s, cL_s, cF_s, cD_s, cA_s, cV_s, nI_add, cond_true, cond_false, if_true, if_false]
    rfl
theorem pEnc_num {v : Nat} : pEnc 0 v = nI v := rfl
theorem pEnc_op {op v : Nat} (h2 : 2 ≤ op) (h5 : op ≤ 5) : ¬ (-1 : Int32) < pEnc op v ∧ ¬ pEnc op v < (-4 : Int32) := by
  have hc : op = 2 ∨ op = 3 ∨ op = 4 ∨ op = 5 := by omega
  rcases hc with h | h | h | h <;> subst h
  · rw [show pEnc 2 v = -1 from rfl]; decide
  · rw [show pEnc 3 v = -2 from rfl]; decide
  · rw [show pEnc 4 v = -3 from rfl]; decide
  · rw [show pEnc 5 v = -4 from rfl]; decide
theorem pEnc_var {v : Nat} (h : v ≤ 3) : ¬ (-1 : Int32) < pEnc 1 v ∧ pEnc 1 v < (-4 : Int32) ∧ pEnc 1 v < nI 0 := by
  have hc : v = 0 ∨ v = 1 ∨ v = 2 ∨ v = 3 := by omega
  rcases hc with h | h | h | h <;> subst h <;> decide
theorem num_gt {v : Nat} (h : v ≤ 9999) : (-1 : Int32) < nI v := by
  rw [Int32.lt_iff_toInt_lt, nI_toInt (by omega)]
  have : (-1 : Int32).toInt = -1 := by decide
  omega
theorem l1_push (h : hG sh q) {dp : Nat} (hd : dp < 11) {v i : Nat} (x2 : Int32) (d : Nat) :
    qX1_value_122 E d (x + (q + 9)) (x + q) x2 (nI dp) (nI i) (x + (q + 9 + 2)) (nI dp) (nI v) (wW E x sh (sA S (q + 9 + 2) R), n) = qX1_value_5 E d (x + (q + 9)) (x + q) x2 (nI (dp + 1)) (nI (i + 1)) (wW E x sh (sA S (q + 9 + 2) (upd R dp (nI v))), n) := by
  obtain ⟨a0, a1, a2, a3, a4, a5, a6, a7, a8, a9, a10, a11⟩ := h
  rw [QX1_value_122]
  simp (disch := omega) only [sI_w a11, sA_s, sA_sA, QX1_value_126, cI_s, cL_s, cF_s, cD_s, cA_s, cV_s, nI_add, cond_true, cond_false, if_true, if_false]
theorem l1_value (h : hG sh q) (H : pG S q g) (I : iG g) (ht : iT g) (h11 : g 11 ≤ 500) (hL : S.1 (q + 9) 1 = nI (g 11)) (hC : ∀ k, k < g 11 → S.2.1 (q + 9 + 1) k = pEnc (g (61 + 2 * k)) (g (61 + 2 * k + 1))) {p : Nat} (hp : p < g 0) (d : Nat) :
    ∀ k i dp (st : Nat → Int) (R : Nat → Int32), i + k = g 11 → dp ≤ 11 → fOk g k i dp → (∀ j, bZ (st j)) → (∀ j, j < dp → R j = jI (st j)) →
      ∃ R', qX1_value_5 E (d + 2) (x + (q + 9)) (x + q) (nI p) (nI dp) (nI i) (wW E x sh (sA S (q + 9 + 2) R), n) = qX1_value_132 E (d + 2) (x + (q + 9)) (wW E x sh (sA S (q + 9 + 2) R'), n) ∧ R' 0 = jI (gEv g p k i dp st) ∧ bZ (gEv g p k i dp st) := by
  have hG' := h
  obtain ⟨a0, a1, a2, a3, a4, a5, a6, a7, a8, a9, a10, a11⟩ := h
  intro k
  induction k with
  | zero =>
    intro i dp st R hi hdp hf hb hP
    have hi : i = g 11 := hi
    have hf : dp = 1 := hf
    refine ⟨R, ?_, hP 0 (by omega), hb 0⟩
    rw [QX1_value_5]
    simp (disch := omega) only [gO_1 a9, gR_1_0 a9, gI_1_1 a9, gP_1_1 a9, gR_1_2 a9, sA_1, hL, iLE_t, cI_s, cL_s, cF_s, cD_s, cA_s, cV_s, nI_add, cond_true, cond_false, if_true, if_false]
  | succ k ih =>
    intro i dp st R hi hdp hf hb hP
    have hci := hC i (by omega)
    rw [show gEv g p (k + 1) i dp st = if g (61 + 2 * i) ≤ 1 then gEv g p k (i + 1) (dp + 1) (updZ st dp (gPush g p i : Int)) else gEv g p k (i + 1) (dp - 1) (updZ st (dp - 2) (clampZ (exZ (g (61 + 2 * i)) (st (dp - 2)) (st (dp - 1))))) from rfl]
    rcases hf with ⟨f1, f2, f3, f3', f4⟩ | ⟨f1, f2, f3, f4⟩
    · rw [if_pos f1]
      have hlt : gPush g p i < 2147483648 := by
        unfold gPush
        split
        · next e => have := f3 e; omega
        · exact gFact_lt I ht hp
      obtain ⟨R', h1, h2, h3⟩ := ih (i + 1) (dp + 1) (updZ st dp (gPush g p i : Int)) (upd R dp (nI (gPush g p i))) (by omega) (by omega) f4 (fun j => by
        unfold updZ
        split
        · unfold bZ; omega
        · exact hb j) (fun j hj => by
        unfold updZ upd
        split
        · exact jI_N _
        · exact hP j (by omega))
      refine ⟨R', ?_, h2, h3⟩
      rw [← h1, ← l1_push hG' f2, QX1_value_5]
      simp (disch := omega) only [gO_1 a9, gR_1_0 a9, gI_1_1 a9, gP_1_1 a9, gR_1_2 a9, sA_1, hL, iLE_f, aI_w a10, sA_n, hci, cI_s, cL_s, cF_s, cD_s, cA_s, cV_s, nI_add, cond_true, cond_false, if_true, if_false]
      unfold gPush at hlt ⊢
      by_cases e0 : g (61 + 2 * i) = 0
      · rw [if_pos e0] at hlt ⊢
        rw [e0, pEnc_num, if_pos (num_gt (f3 e0)), QX1_value_40, QX1_value_41]
        simp (disch := omega) only [iEQ_t, QX1_value_86, gO_1 a9, gR_1_0 a9, gI_1_1 a9, gP_1_1 a9, gR_1_2 a9, aN_w a11, iLE_f, iLT_f, cI_s, cL_s, cF_s, cD_s, cA_s, cV_s, nI_add, cond_true, cond_false, if_true, if_false]
      · rw [if_neg e0]
        have e1 : g (61 + 2 * i) = 1 := by omega
        have hv := f3' e1
        obtain ⟨v1, v2, v3⟩ := pEnc_var hv
        rw [e1, if_neg v1, if_pos v2, QX1_value_40, QX1_value_41]
        simp (disch := omega) only [iEQ_t, QX1_value_86, gO_1 a9, gR_1_0 a9, gI_1_1 a9, gP_1_1 a9, gR_1_2 a9, aN_w a11, iLE_f, cI_s, cL_s, cF_s, cD_s, cA_s, cV_s, nI_add, cond_true, cond_false, if_true, if_false]
        rw [if_pos v3, QX1_value_115, s1_variable hG' H I ht hp hv]
        simp (disch := omega) only [cI_s, cL_s, cF_s, cD_s, cA_s, cV_s, nI_add, cond_true, cond_false, if_true, if_false]
    · obtain ⟨m, rfl⟩ : ∃ m, dp = m + 2 := ⟨dp - 2, by omega⟩
      rw [if_neg (by omega), show m + 2 - 2 = m by omega, show m + 2 - 1 = m + 1 by omega]
      have hA := hb m
      have hB := hb (m + 1)
      obtain ⟨R', h1, h2, h3⟩ := ih (i + 1) (m + 1) (updZ st m (clampZ (exZ (g (61 + 2 * i)) (st m) (st (m + 1))))) (upd R m (jI (clampZ (exZ (g (61 + 2 * i)) (st m) (st (m + 1)))))) (by omega) (by omega) f4 (fun j => by
        unfold updZ
        split
        · exact clampZ_b _
        · exact hb j) (fun j hj => by
        unfold updZ upd
        split
        · rfl
        · exact hP j (by omega))
      refine ⟨R', ?_, h2, h3⟩
      obtain ⟨v1, v2⟩ := pEnc_op (v := g (61 + 2 * i + 1)) f1 f2
      have hp1 := hP m (by omega)
      have hp2 := hP (m + 1) (by omega)
      rw [← h1, QX1_value_5]
      simp (disch := omega) only [gO_1 a9, gR_1_0 a9, gI_1_1 a9, gP_1_1 a9, gR_1_2 a9, sA_1, hL, iLE_f, aI_w a10, sA_n, hci, cI_s, cL_s, cF_s, cD_s, cA_s, cV_s, nI_add, cond_true, cond_false, if_true, if_false]
      rw [if_neg v1, if_neg v2, QX1_value_41]
      simp (disch := omega) only [iEQ_f, iLT_f, gO_1 a9, gR_1_0 a9, gI_1_1 a9, gP_1_1 a9, gR_1_2 a9, pk_m1, pk_sub, Nat.add_sub_cancel, aI_w a11, sA_s, hp1, hp2, cI_s, cL_s, cF_s, cD_s, cA_s, cV_s, nI_add, cond_true, cond_false, if_true, if_false]
      rw [s1_result f1 f2 hA hB]
      simp (disch := omega) only [sI_w a11, sA_s, sA_sA, QX1_value_126, cI_s, cL_s, cF_s, cD_s, cA_s, cV_s, nI_add, cond_true, cond_false, if_true, if_false]
theorem s1_value (h : hG sh q) (H : pG S q g) (I : iG g) (ht : iT g) (hf : iFo g) {p : Nat} (hp : p < g 0) (d : Nat) :
    ∃ R, xsem xT E (d + 3) kX1_value [.ref (x + (q + 9)), .ref (x + q), .int (nI p)] (wW E x sh S, n) = some (.inl (some (.int (nI (gOdds g p)))), (wW E x sh (sA S (q + 9 + 2) R), n)) := by
  have hG' := h
  obtain ⟨a0, a1, a2, a3, a4, a5, a6, a7, a8, a9, a10, a11⟩ := h
  have h8 := I.1.2.1
  have g2 := I.1.1
  have P4 := H.2.2.2.1
  have h11 := hf.1
  have hS : sA S (q + 9 + 2) (S.2.1 (q + 9 + 2)) = S := sA_self
  unfold gOdds
  by_cases e : g 11 = 0
  · obtain ⟨c0, c1, c2, c3⟩ := P4.1 e
    refine ⟨upd (upd (upd (S.2.1 (q + 9 + 2)) 0 (nI (g 0))) 1 (nI 1)) 0 (nI (g 0 - 1)), ?_⟩
    rw [if_pos e, eX1_value, QX1_value_0, QX1_value_5]
    simp (disch := omega) only [gO_1 a9, gR_1_0 a9, gI_1_1 a9, gP_1_1 a9, gR_1_2 a9, c0, iLE_f, aI_w a10, c1, cI_s, cL_s, cF_s, cD_s, cA_s, cV_s, nI_add, cond_true, cond_false, if_true, if_false]
    have hz : bZ (g 0 : Int) := ⟨by omega, by omega⟩
    have hv0 := s1_variable (E := E) (x := x) (n := n) (R := S.2.1 (q + 9 + 2)) hG' H I ht hp (show 0 ≤ 3 by omega) d
    rw [hS, show pEnc 1 0 = -5 from rfl, show gFact g p 0 = g 0 from rfl] at hv0
    have hp0 := l1_push (E := E) (x := x) (n := n) (S := S) (R := S.2.1 (q + 9 + 2)) hG' (dp := 0) (by omega) (v := g 0) (i := 0) (nI p) (d + 2)
    rw [hS] at hp0
    rw [if_neg (by decide), if_pos (by decide), QX1_value_40, QX1_value_41]
    simp (disch := omega) only [iEQ_t, QX1_value_86, gO_1 a9, gR_1_0 a9, gI_1_1 a9, gP_1_1 a9, gR_1_2 a9, aN_w a11, iLE_f, cI_s, cL_s, cF_s, cD_s, cA_s, cV_s, nI_add, cond_true, cond_false, if_true, if_false]
    rw [if_pos (by decide), QX1_value_115, hv0]
    simp (disch := omega) only [cI_s, cL_s, cF_s, cD_s, cA_s, cV_s, nI_add, cond_true, cond_false, if_true, if_false]
    rw [hp0, QX1_value_5]
    simp (disch := omega) only [gO_1 a9, gR_1_0 a9, gI_1_1 a9, gP_1_1 a9, gR_1_2 a9, sA_1, c0, iLE_f, aI_w a10, sA_n, c2, cI_s, cL_s, cF_s, cD_s, cA_s, cV_s, nI_add, cond_true, cond_false, if_true, if_false]
    rw [if_pos (by decide), QX1_value_40, QX1_value_41]
    simp (disch := omega) only [iEQ_t, QX1_value_86, gO_1 a9, gR_1_0 a9, gI_1_1 a9, gP_1_1 a9, gR_1_2 a9, aN_w a11, iLE_f, iLT_f, cI_s, cL_s, cF_s, cD_s, cA_s, cV_s, nI_add, cond_true, cond_false, if_true, if_false]
    rw [l1_push hG' (by omega), QX1_value_5]
    simp (disch := omega) only [gO_1 a9, gR_1_0 a9, gI_1_1 a9, gP_1_1 a9, gR_1_2 a9, sA_1, c0, iLE_f, aI_w a10, sA_n, c3, cI_s, cL_s, cF_s, cD_s, cA_s, cV_s, nI_add, cond_true, cond_false, if_true, if_false]
    rw [if_neg (by decide), if_neg (by decide), QX1_value_41]
    have hr := s1_result (E := E) (op := 3) (v := 0) (a := (g 0 : Int)) (b := 1) (σ := (wW E x sh (sA S (q + 9 + 2) (upd (upd (S.2.1 (q + 9 + 2)) 0 (nI (g 0))) 1 (nI 1))), n)) (by omega) (by omega) hz ⟨by omega, by omega⟩ (d + 1)
    have hcl : clampZ (exZ 3 (g 0 : Int) 1) = ((g 0 - 1 : Nat) : Int) := by
      show clampZ ((g 0 : Int) - 1) = _
      unfold clampZ
      rw [if_pos (by omega), if_pos (by omega)]
      omega
    rw [show pEnc 3 0 = -2 from rfl, hcl, ← jI_N, ← jI_N, show jI 1 = nI 1 from (jI_N 1).symm] at hr
    simp (disch := omega) only [iEQ_f, iLT_f, gO_1 a9, gR_1_0 a9, gI_1_1 a9, gP_1_1 a9, gR_1_2 a9, cI_s, cL_s, cF_s, cD_s, cA_s, cV_s, nI_add, cond_true, cond_false, if_true, if_false]
    rw [show (nI 2 + (-1 : Int32)) = nI 1 from rfl, show (nI 1 - nI 1) = nI 0 from rfl]
    simp (disch := omega) only [aI_w a11, sA_s, pk_us, pk_un, cI_s, cL_s, cF_s, cD_s, cA_s, cV_s, nI_add, cond_true, cond_false, if_true, if_false]
    rw [hr]
    simp (disch := omega) only [sI_w a11, sA_s, sA_sA, QX1_value_126, cI_s, cL_s, cF_s, cD_s, cA_s, cV_s, nI_add, cond_true, cond_false, if_true, if_false]
    rw [QX1_value_5]
    simp (disch := omega) only [gO_1 a9, gR_1_0 a9, gI_1_1 a9, gP_1_1 a9, gR_1_2 a9, sA_1, c0, iLE_t, QX1_value_132, aI_w a11, sA_s, pk_us, cI_s, cL_s, cF_s, cD_s, cA_s, cV_s, nI_add, cond_true, cond_false, if_true, if_false]
    rw [jI_N (g 0 - 1), lim9_J ⟨by omega, by omega⟩]
    unfold lim9
    rw [if_pos (by omega), if_pos (by omega), show (((g 0 - 1 : Nat) : Int)).toNat = g 0 - 1 by omega, jI_N]
  · obtain ⟨c0, c1⟩ := P4.2 e
    obtain ⟨R', h3, h4, h5⟩ := l1_value (E := E) (x := x) (n := n) hG' H I ht h11 c0 c1 hp d (g 11) 0 0 (fun _ => 0) (S.2.1 (q + 9 + 2)) (by omega) (by omega) (hf.2 e) (fun _ => ⟨by omega, by omega⟩) (fun j hj => absurd hj (Nat.not_lt_zero j))
    refine ⟨R', ?_⟩
    rw [hS] at h3
    rw [if_neg e, eX1_value, QX1_value_0, h3, QX1_value_132]
    simp (disch := omega) only [gO_1 a9, gR_1_0 a9, gI_1_1 a9, gP_1_1 a9, gR_1_2 a9, aI_w a11, sA_s, h4, cI_s, cL_s, cF_s, cD_s, cA_s, cV_s, nI_add, cond_true, cond_false, if_true, if_false]
    rw [lim9_J h5]
end VAL
