/-! A COMMAND IS DONE, by the class. -/
def frQ (q : Nat) (S S' : xSt) : Prop := (∀ j, j ≠ 6 → (j < q ∨ q + 12 ≤ j) → eqQ S S' j) ∧ (∀ k, k ≠ 5 → S'.1 6 k = S.1 6 k) ∧ S'.2.2 = S.2.2
theorem frQ_rf {q : Nat} {S : xSt} : frQ q S S := ⟨fun _ _ _ => ⟨rfl, rfl⟩, fun _ _ => rfl, rfl⟩
theorem frQ_tr {q : Nat} {S S1 S2 : xSt} (h : frQ q S S1) (h' : frQ q S1 S2) : frQ q S S2 := ⟨fun j a b => ⟨(h'.1 j a b).1.trans (h.1 j a b).1, (h'.1 j a b).2.trans (h.1 j a b).2⟩, fun k a => (h'.2.1 k a).trans (h.2.1 k a), h'.2.2.trans h.2.2⟩
theorem frQ_m {q : Nat} {S S' : xSt} (hq : 7 ≤ q) (h : frm q (q + 12) S S') : frQ q S S' := ⟨fun j _ b => h.1 j b, fun k _ => congrFun (h.1 6 (by omega)).1 k, h.2⟩
theorem frQ_d {q : Nat} {S : xSt} {v : Int32} : frQ q S (sS S 6 5 v) := ⟨fun j a _ => ⟨funext fun k => sS_nq a, rfl⟩, fun k hk => sS_n hk, rfl⟩
section PF2
variable {E : xEn} {x n q : Nat} {sh : Nat → Option xSh} {S : xSt} {g : Nat → Nat}
theorem c_allowed (hG : hG sh q) (H : hEn E x) (P : pG S q g) (I : iG g) {K a b : Nat} (hK : K ≤ 5) (ha : a ≤ 9999) (hb : b ≤ 9999) (d : Nat) :
    (alw K a b g → xsem xT E (d + 4) kX6_isAllowed [.ref (x + q), .ref (E.1 (22 + K)), .int (nI a), .int (nI b)] (wW E x sh S, n) = some (.inl (some (.int (nI 1))), (wW E x sh S, n))) ∧ (¬ alw K a b g → xsem xT E (d + 4) kX6_isAllowed [.ref (x + q), .ref (E.1 (22 + K)), .int (nI a), .int (nI b)] (wW E x sh S, n) = some (.inl (some (.int (nI 0))), (wW E x sh S, n))) := by
  have h8 := I.1.2.1
  have b0 := hG.1
  have b1 := hG.2.1
  have r0 : S.1 (q + 1) 0 = nI (g 0) := P.1.1
  have hc : K ≤ 1 ∨ K = 2 ∨ K = 3 ∨ K = 4 ∨ K = 5 := by omega
  have htwo := s5_hasTwoPlaces (E := E) (x := x) (n := n) (S := S) b1 r0 (by omega) (a := a) (b := b) (by omega) (by omega) (d + 1)
  have hone := s5_hasPlace (E := E) (x := x) (n := n) (S := S) b1 r0 (by omega) (p := a) (by omega) (d + 2)
  rw [eX6_isAllowed, QX6_isAllowed_0, bq_t H (by omega) (by omega), bq_t H (by omega) (by omega)]
  rcases hc with c | c | c | c | c
  · have hhead : ∀ r, qX6_isAllowed_14 E (d + 3) (x + q) (nI a) (nI b) (wW E x sh S, n) = r → (bif decide (22 + K = 22) then qX6_isAllowed_14 E (d + 3) (x + q) (nI a) (nI b) (wW E x sh S, n) else bif decide (22 + K = 23) then qX6_isAllowed_14 E (d + 3) (x + q) (nI a) (nI b) (wW E x sh S, n) else qX6_isAllowed_24 E (d + 3) (x + q) (E.1 (22 + K)) (nI a) (wW E x sh S, n)) = r := by
      intro r hr
      by_cases z : K = 0
      · rw [decide_eq_true (show 22 + K = 22 by omega), cond_true]; exact hr
      · rw [decide_eq_false (show ¬ 22 + K = 22 by omega), cond_false, decide_eq_true (show 22 + K = 23 by omega), cond_true]; exact hr
    refine ⟨fun h => hhead _ ?_, fun h => hhead _ ?_⟩
    · have hx : a ≠ b ∧ a < g 0 ∧ b < g 0 := by
        rcases h with h | h | h | h | h <;> omega
      rw [QX6_isAllowed_14]
      simp (disch := omega) only [gO_2 b0, gR_2_0 b0, gR_2_1 b0, gR_2_2 b0, gR_2_3 b0, gI_2_4 b0, gP_2_4 b0, gI_2_5 b0, gP_2_5 b0, gI_2_6 b0, gP_2_6 b0, gI_2_7 b0, gP_2_7 b0, gI_2_8 b0, gP_2_8 b0, gO_5 b1, gI_5_0 b1, gP_5_0 b1, gI_5_1 b1, gP_5_1 b1, gI_5_2 b1, gP_5_2 b1, gR_5_3 b1, gR_5_4 b1, htwo, if_pos hx, xret5_1, cI_s, cL_s, cF_s, cD_s, cA_s, cV_s, nI_add, cond_true, cond_false, if_true, if_false]
    · have hx : ¬ (a ≠ b ∧ a < g 0 ∧ b < g 0) := fun z => h (Or.inl ⟨c, z.2.1, z.2.2, z.1⟩)
      rw [QX6_isAllowed_14]
      simp (disch := omega) only [gO_2 b0, gR_2_0 b0, gR_2_1 b0, gR_2_2 b0, gR_2_3 b0, gI_2_4 b0, gP_2_4 b0, gI_2_5 b0, gP_2_5 b0, gI_2_6 b0, gP_2_6 b0, gI_2_7 b0, gP_2_7 b0, gI_2_8 b0, gP_2_8 b0, gO_5 b1, gI_5_0 b1, gP_5_0 b1, gI_5_1 b1, gP_5_1 b1, gI_5_2 b1, gP_5_2 b1, gR_5_3 b1, gR_5_4 b1, htwo, if_neg hx, xret5_0, cI_s, cL_s, cF_s, cD_s, cA_s, cV_s, nI_add, cond_true, cond_false, if_true, if_false]
  · subst c
    refine ⟨fun h => ?_, fun h => absurd (Or.inr (Or.inl rfl)) h⟩
    rw [decide_eq_false (by omega), cond_false, decide_eq_false (by omega), cond_false, QX6_isAllowed_24, bq_t H (by omega) (by omega), decide_eq_true (by omega), cond_true]
    simp (disch := omega) only [xret5_1, cI_s, cL_s, cF_s, cD_s, cA_s, cV_s, nI_add, cond_true, cond_false, if_true, if_false]
  · subst c
    have hhead : (bif decide (22 + 3 = 22) then qX6_isAllowed_14 E (d + 3) (x + q) (nI a) (nI b) (wW E x sh S, n) else bif decide (22 + 3 = 23) then qX6_isAllowed_14 E (d + 3) (x + q) (nI a) (nI b) (wW E x sh S, n) else qX6_isAllowed_24 E (d + 3) (x + q) (E.1 (22 + 3)) (nI a) (wW E x sh S, n)) = qX6_isAllowed_33 E (d + 3) (x + q) (E.1 25) (nI a) (wW E x sh S, n) := by
      rw [decide_eq_false (by omega), cond_false, decide_eq_false (by omega), cond_false, QX6_isAllowed_24, bq_t H (by omega) (by omega), decide_eq_false (by omega), cond_false]
    rw [hhead, QX6_isAllowed_33]
    by_cases c1 : a < g 0
    · have hcs := s2_canSteal (E := E) (x := x) (n := n) hG P I c1 d
      refine ⟨fun h => ?_, fun h => ?_⟩
      · have hx : gCanS a g = true := by
          rcases h with h | h | h | h | h
          · omega
          · omega
          · exact h.2.2
          · omega
          · omega
        rw [hx] at hcs
        simp (disch := omega) only [gO_2 b0, gR_2_0 b0, gR_2_1 b0, gR_2_2 b0, gR_2_3 b0, gI_2_4 b0, gP_2_4 b0, gI_2_5 b0, gP_2_5 b0, gI_2_6 b0, gP_2_6 b0, gI_2_7 b0, gP_2_7 b0, gI_2_8 b0, gP_2_8 b0, gO_5 b1, gI_5_0 b1, gP_5_0 b1, gI_5_1 b1, gP_5_1 b1, gI_5_2 b1, gP_5_2 b1, gR_5_3 b1, gR_5_4 b1, hone, if_pos c1, iEQ_f, QX6_isAllowed_46, bq_t H (show 25 < 29 by omega) (show 25 < 29 by omega), cI_s, cL_s, cF_s, cD_s, cA_s, cV_s, nI_add, cond_true, cond_false, if_true, if_false]
        rw [decide_eq_true trivial, cond_true]
        rw [hcs]
        simp (disch := omega) only [Bool.toNat_true, xret5_1, cI_s, cL_s, cF_s, cD_s, cA_s, cV_s, nI_add, cond_true, cond_false, if_true, if_false]
      · have hx : gCanS a g = false := by
          cases z : gCanS a g with
          | true => exact absurd (Or.inr (Or.inr (Or.inl ⟨rfl, c1, z⟩))) h
          | false => rfl
        rw [hx] at hcs
        simp (disch := omega) only [gO_2 b0, gR_2_0 b0, gR_2_1 b0, gR_2_2 b0, gR_2_3 b0, gI_2_4 b0, gP_2_4 b0, gI_2_5 b0, gP_2_5 b0, gI_2_6 b0, gP_2_6 b0, gI_2_7 b0, gP_2_7 b0, gI_2_8 b0, gP_2_8 b0, gO_5 b1, gI_5_0 b1, gP_5_0 b1, gI_5_1 b1, gP_5_1 b1, gI_5_2 b1, gP_5_2 b1, gR_5_3 b1, gR_5_4 b1, hone, if_pos c1, iEQ_f, QX6_isAllowed_46, bq_t H (show 25 < 29 by omega) (show 25 < 29 by omega), cI_s, cL_s, cF_s, cD_s, cA_s, cV_s, nI_add, cond_true, cond_false, if_true, if_false]
        rw [decide_eq_true trivial, cond_true]
        rw [hcs]
        simp (disch := omega) only [Bool.toNat_false, xret5_0, cI_s, cL_s, cF_s, cD_s, cA_s, cV_s, nI_add, cond_true, cond_false, if_true, if_false]
    · refine ⟨fun h => ?_, fun h => ?_⟩
      · exfalso
        rcases h with h | h | h | h | h <;> omega
      · simp (disch := omega) only [gO_2 b0, gR_2_0 b0, gR_2_1 b0, gR_2_2 b0, gR_2_3 b0, gI_2_4 b0, gP_2_4 b0, gI_2_5 b0, gP_2_5 b0, gI_2_6 b0, gP_2_6 b0, gI_2_7 b0, gP_2_7 b0, gI_2_8 b0, gP_2_8 b0, gO_5 b1, gI_5_0 b1, gP_5_0 b1, gI_5_1 b1, gP_5_1 b1, gI_5_2 b1, gP_5_2 b1, gR_5_3 b1, gR_5_4 b1, hone, if_neg c1, iEQ_t, xret5_0, cI_s, cL_s, cF_s, cD_s, cA_s, cV_s, nI_add, cond_true, cond_false, if_true, if_false]
  · subst c
    have hhead : (bif decide (22 + 4 = 22) then qX6_isAllowed_14 E (d + 3) (x + q) (nI a) (nI b) (wW E x sh S, n) else bif decide (22 + 4 = 23) then qX6_isAllowed_14 E (d + 3) (x + q) (nI a) (nI b) (wW E x sh S, n) else qX6_isAllowed_24 E (d + 3) (x + q) (E.1 (22 + 4)) (nI a) (wW E x sh S, n)) = qX6_isAllowed_33 E (d + 3) (x + q) (E.1 26) (nI a) (wW E x sh S, n) := by
      rw [decide_eq_false (by omega), cond_false, decide_eq_false (by omega), cond_false, QX6_isAllowed_24, bq_t H (by omega) (by omega), decide_eq_false (by omega), cond_false]
    rw [hhead, QX6_isAllowed_33]
    have hcs := s2_canPlant (E := E) (x := x) (n := n) hG P I d
    by_cases c1 : a < g 0
    · refine ⟨fun h => ?_, fun h => ?_⟩
      · have hx : gCanS (g 0) g = true := by
          rcases h with h | h | h | h | h
          · omega
          · omega
          · omega
          · exact h.2.2
          · omega
        rw [hx] at hcs
        simp (disch := omega) only [gO_2 b0, gR_2_0 b0, gR_2_1 b0, gR_2_2 b0, gR_2_3 b0, gI_2_4 b0, gP_2_4 b0, gI_2_5 b0, gP_2_5 b0, gI_2_6 b0, gP_2_6 b0, gI_2_7 b0, gP_2_7 b0, gI_2_8 b0, gP_2_8 b0, gO_5 b1, gI_5_0 b1, gP_5_0 b1, gI_5_1 b1, gP_5_1 b1, gI_5_2 b1, gP_5_2 b1, gR_5_3 b1, gR_5_4 b1, hone, if_pos c1, iEQ_f, QX6_isAllowed_46, bq_t H (show 26 < 29 by omega) (show 25 < 29 by omega), cI_s, cL_s, cF_s, cD_s, cA_s, cV_s, nI_add, cond_true, cond_false, if_true, if_false]
        rw [decide_eq_false (by omega), cond_false, QX6_isAllowed_59, bq_t H (by omega) (by omega), decide_eq_false (by omega), cond_false]
        simp (disch := omega) only [gO_2 b0, gR_2_0 b0, gR_2_1 b0, gR_2_2 b0, gR_2_3 b0, gI_2_4 b0, gP_2_4 b0, gI_2_5 b0, gP_2_5 b0, gI_2_6 b0, gP_2_6 b0, gI_2_7 b0, gP_2_7 b0, gI_2_8 b0, gP_2_8 b0, cI_s, cL_s, cF_s, cD_s, cA_s, cV_s, nI_add, cond_true, cond_false, if_true, if_false]
        rw [hcs]
        simp (disch := omega) only [Bool.toNat_true, iEQ_f, QX6_isAllowed_73, QX6_isAllowed_78, xret5_1, cI_s, cL_s, cF_s, cD_s, cA_s, cV_s, nI_add, cond_true, cond_false, if_true, if_false]
      · have hx : gCanS (g 0) g = false := by
          cases z : gCanS (g 0) g with
          | true => exact absurd (Or.inr (Or.inr (Or.inr (Or.inl ⟨rfl, c1, z⟩)))) h
          | false => rfl
        rw [hx] at hcs
        simp (disch := omega) only [gO_2 b0, gR_2_0 b0, gR_2_1 b0, gR_2_2 b0, gR_2_3 b0, gI_2_4 b0, gP_2_4 b0, gI_2_5 b0, gP_2_5 b0, gI_2_6 b0, gP_2_6 b0, gI_2_7 b0, gP_2_7 b0, gI_2_8 b0, gP_2_8 b0, gO_5 b1, gI_5_0 b1, gP_5_0 b1, gI_5_1 b1, gP_5_1 b1, gI_5_2 b1, gP_5_2 b1, gR_5_3 b1, gR_5_4 b1, hone, if_pos c1, iEQ_f, QX6_isAllowed_46, bq_t H (show 26 < 29 by omega) (show 25 < 29 by omega), cI_s, cL_s, cF_s, cD_s, cA_s, cV_s, nI_add, cond_true, cond_false, if_true, if_false]
        rw [decide_eq_false (by omega), cond_false, QX6_isAllowed_59, bq_t H (by omega) (by omega), decide_eq_false (by omega), cond_false]
        simp (disch := omega) only [gO_2 b0, gR_2_0 b0, gR_2_1 b0, gR_2_2 b0, gR_2_3 b0, gI_2_4 b0, gP_2_4 b0, gI_2_5 b0, gP_2_5 b0, gI_2_6 b0, gP_2_6 b0, gI_2_7 b0, gP_2_7 b0, gI_2_8 b0, gP_2_8 b0, cI_s, cL_s, cF_s, cD_s, cA_s, cV_s, nI_add, cond_true, cond_false, if_true, if_false]
        rw [hcs]
        simp (disch := omega) only [Bool.toNat_false, iEQ_t, QX6_isAllowed_77, QX6_isAllowed_78, xret5_0, cI_s, cL_s, cF_s, cD_s, cA_s, cV_s, nI_add, cond_true, cond_false, if_true, if_false]
    · refine ⟨fun h => ?_, fun h => ?_⟩
      · exfalso
        rcases h with h | h | h | h | h <;> omega
      · simp (disch := omega) only [gO_2 b0, gR_2_0 b0, gR_2_1 b0, gR_2_2 b0, gR_2_3 b0, gI_2_4 b0, gP_2_4 b0, gI_2_5 b0, gP_2_5 b0, gI_2_6 b0, gP_2_6 b0, gI_2_7 b0, gP_2_7 b0, gI_2_8 b0, gP_2_8 b0, gO_5 b1, gI_5_0 b1, gP_5_0 b1, gI_5_1 b1, gP_5_1 b1, gI_5_2 b1, gP_5_2 b1, gR_5_3 b1, gR_5_4 b1, hone, if_neg c1, iEQ_t, xret5_0, cI_s, cL_s, cF_s, cD_s, cA_s, cV_s, nI_add, cond_true, cond_false, if_true, if_false]
  · subst c
    have hhead : (bif decide (22 + 5 = 22) then qX6_isAllowed_14 E (d + 3) (x + q) (nI a) (nI b) (wW E x sh S, n) else bif decide (22 + 5 = 23) then qX6_isAllowed_14 E (d + 3) (x + q) (nI a) (nI b) (wW E x sh S, n) else qX6_isAllowed_24 E (d + 3) (x + q) (E.1 (22 + 5)) (nI a) (wW E x sh S, n)) = qX6_isAllowed_33 E (d + 3) (x + q) (E.1 27) (nI a) (wW E x sh S, n) := by
      rw [decide_eq_false (by omega), cond_false, decide_eq_false (by omega), cond_false, QX6_isAllowed_24, bq_t H (by omega) (by omega), decide_eq_false (by omega), cond_false]
    rw [hhead, QX6_isAllowed_33]
    by_cases c1 : a < g 0
    · refine ⟨fun h => ?_, fun h => absurd (Or.inr (Or.inr (Or.inr (Or.inr ⟨rfl, c1⟩)))) h⟩
      simp (disch := omega) only [gO_2 b0, gR_2_0 b0, gR_2_1 b0, gR_2_2 b0, gR_2_3 b0, gI_2_4 b0, gP_2_4 b0, gI_2_5 b0, gP_2_5 b0, gI_2_6 b0, gP_2_6 b0, gI_2_7 b0, gP_2_7 b0, gI_2_8 b0, gP_2_8 b0, gO_5 b1, gI_5_0 b1, gP_5_0 b1, gI_5_1 b1, gP_5_1 b1, gI_5_2 b1, gP_5_2 b1, gR_5_3 b1, gR_5_4 b1, hone, if_pos c1, iEQ_f, QX6_isAllowed_46, bq_t H (show 27 < 29 by omega) (show 25 < 29 by omega), cI_s, cL_s, cF_s, cD_s, cA_s, cV_s, nI_add, cond_true, cond_false, if_true, if_false]
      rw [decide_eq_false (by omega), cond_false, QX6_isAllowed_59, bq_t H (by omega) (by omega), decide_eq_true rfl, cond_true, QX6_isAllowed_73, QX6_isAllowed_78]
      simp (disch := omega) only [xret5_1, cI_s, cL_s, cF_s, cD_s, cA_s, cV_s, nI_add, cond_true, cond_false, if_true, if_false]
    · refine ⟨fun h => ?_, fun h => ?_⟩
      · exfalso
        rcases h with h | h | h | h | h <;> omega
      · simp (disch := omega) only [gO_2 b0, gR_2_0 b0, gR_2_1 b0, gR_2_2 b0, gR_2_3 b0, gI_2_4 b0, gP_2_4 b0, gI_2_5 b0, gP_2_5 b0, gI_2_6 b0, gP_2_6 b0, gI_2_7 b0, gP_2_7 b0, gI_2_8 b0, gP_2_8 b0, gO_5 b1, gI_5_0 b1, gP_5_0 b1, gI_5_1 b1, gP_5_1 b1, gI_5_2 b1, gP_5_2 b1, gR_5_3 b1, gR_5_4 b1, hone, if_neg c1, iEQ_t, xret5_0, cI_s, cL_s, cF_s, cD_s, cA_s, cV_s, nI_add, cond_true, cond_false, if_true, if_false]
theorem c_act (hG : hG sh q) (hq : 7 ≤ q) (H : hEn E x) (P : pG S q g) (I : iG g) {K a b : Nat} (hK : K ≤ 5) (h : alw K a b g) (d : Nat) :
    ∃ S', (bif Nat.beq (E.1 (22 + K)) (E.1 22) then qX6_performOne_71 E (d + 5) (x + q) (E.1 (22 + K)) (nI a) (nI b) (wW E x sh S, n) else bif Nat.beq (E.1 (22 + K)) (E.1 23) then qX6_performOne_71 E (d + 5) (x + q) (E.1 (22 + K)) (nI a) (nI b) (wW E x sh S, n) else qX6_performOne_95 E (d + 5) (x + q) (E.1 (22 + K)) (nI a) (wW E x sh S, n)) = some (.inl (some (.int (nI 1))), (wW E x sh S', n)) ∧ pG S' q (nxt K a b g) ∧ frm q (q + 12) S S' := by
  have b0 := hG.1
  have b1 := hG.2.1
  have h8 := I.1.2.1
  have r0 : S.1 (q + 1) 0 = nI (g 0) := P.1.1
  have r1 : S.1 (q + 1) 1 = nI (g 1) := P.1.2.1
  have hc : K = 0 ∨ K = 1 ∨ K = 2 ∨ K = 3 ∨ K = 4 ∨ K = 5 := by omega
  rw [bq_t H (by omega) (by omega), bq_t H (by omega) (by omega)]
  rcases hc with c | c | c | c | c | c <;> subst c
  · have hx : a < g 0 ∧ b < g 0 ∧ a ≠ b := by
      rcases h with h | h | h | h | h <;> omega
    obtain ⟨S', e1, e2, e3⟩ := s2_makeMove (E := E) (x := x) (n := n) hG P I true hx.1 hx.2.1 hx.2.2 d
    refine ⟨S', ?_, e3, e2⟩
    rw [decide_eq_true (by omega), cond_true, QX6_performOne_71, bq_t H (by omega) (by omega), decide_eq_true (by omega), cond_true, QX6_performOne_84]
    simp (disch := omega) only [gO_2 b0, gR_2_0 b0, gR_2_1 b0, gR_2_2 b0, gR_2_3 b0, gI_2_4 b0, gP_2_4 b0, gI_2_5 b0, gP_2_5 b0, gI_2_6 b0, gP_2_6 b0, gI_2_7 b0, gP_2_7 b0, gI_2_8 b0, gP_2_8 b0, cI_s, cL_s, cF_s, cD_s, cA_s, cV_s, nI_add, cond_true, cond_false, if_true, if_false]
    rw [show nI 1 = nI true.toNat from rfl, e1]
    simp (disch := omega) only [QX6_performOne_163, Bool.toNat_true, xret5_1, cI_s, cL_s, cF_s, cD_s, cA_s, cV_s, nI_add, cond_true, cond_false, if_true, if_false]
  · have hx : a < g 0 ∧ b < g 0 ∧ a ≠ b := by
      rcases h with h | h | h | h | h <;> omega
    obtain ⟨S', e1, e2, e3⟩ := s2_makeMove (E := E) (x := x) (n := n) hG P I false hx.1 hx.2.1 hx.2.2 d
    refine ⟨S', ?_, e3, e2⟩
    rw [decide_eq_false (by omega), cond_false, decide_eq_true (by omega), cond_true, QX6_performOne_71, bq_t H (by omega) (by omega), decide_eq_false (by omega), cond_false, QX6_performOne_83, QX6_performOne_84]
    simp (disch := omega) only [gO_2 b0, gR_2_0 b0, gR_2_1 b0, gR_2_2 b0, gR_2_3 b0, gI_2_4 b0, gP_2_4 b0, gI_2_5 b0, gP_2_5 b0, gI_2_6 b0, gP_2_6 b0, gI_2_7 b0, gP_2_7 b0, gI_2_8 b0, gP_2_8 b0, cI_s, cL_s, cF_s, cD_s, cA_s, cV_s, nI_add, cond_true, cond_false, if_true, if_false]
    rw [show nI 0 = nI false.toNat from rfl, e1]
    simp (disch := omega) only [QX6_performOne_163, xret5_1, cI_s, cL_s, cF_s, cD_s, cA_s, cV_s, nI_add, cond_true, cond_false, if_true, if_false]
  · obtain ⟨S', e1, e2, e3⟩ := s2_makeStill (E := E) (x := x) (n := n) hG P I (k := 2) (a := 0) (b := 0) (by omega) (to := g 1) rfl d
    refine ⟨S', ?_, e3, e2⟩
    rw [decide_eq_false (by omega), cond_false, decide_eq_false (by omega), cond_false, QX6_performOne_95, bq_t H (by omega) (by omega), decide_eq_true (by omega), cond_true]
    simp (disch := omega) only [gO_2 b0, gR_2_0 b0, gR_2_1 b0, gR_2_2 b0, gR_2_3 b0, gI_2_4 b0, gP_2_4 b0, gI_2_5 b0, gP_2_5 b0, gI_2_6 b0, gP_2_6 b0, gI_2_7 b0, gP_2_7 b0, gI_2_8 b0, gP_2_8 b0, gO_5 b1, gI_5_0 b1, gP_5_0 b1, gI_5_1 b1, gP_5_1 b1, gI_5_2 b1, gP_5_2 b1, gR_5_3 b1, gR_5_4 b1, r1, cI_s, cL_s, cF_s, cD_s, cA_s, cV_s, nI_add, cond_true, cond_false, if_true, if_false]
    rw [e1]
    simp (disch := omega) only [QX6_performOne_163, xret5_1, cI_s, cL_s, cF_s, cD_s, cA_s, cV_s, nI_add, cond_true, cond_false, if_true, if_false]
  · obtain ⟨S', e1, e2, e3⟩ := s2_makeStill (E := E) (x := x) (n := n) hG P I (k := 3) (a := a) (b := 0) (by omega) (to := g 0) rfl d
    refine ⟨S', ?_, e3, e2⟩
    rw [decide_eq_false (by omega), cond_false, decide_eq_false (by omega), cond_false, QX6_performOne_95, bq_t H (by omega) (by omega), decide_eq_false (by omega), cond_false, QX6_performOne_117, bq_t H (by omega) (by omega), decide_eq_true (by omega), cond_true]
    simp (disch := omega) only [gO_2 b0, gR_2_0 b0, gR_2_1 b0, gR_2_2 b0, gR_2_3 b0, gI_2_4 b0, gP_2_4 b0, gI_2_5 b0, gP_2_5 b0, gI_2_6 b0, gP_2_6 b0, gI_2_7 b0, gP_2_7 b0, gI_2_8 b0, gP_2_8 b0, gO_5 b1, gI_5_0 b1, gP_5_0 b1, gI_5_1 b1, gP_5_1 b1, gI_5_2 b1, gP_5_2 b1, gR_5_3 b1, gR_5_4 b1, r0, cI_s, cL_s, cF_s, cD_s, cA_s, cV_s, nI_add, cond_true, cond_false, if_true, if_false]
    rw [e1]
    simp (disch := omega) only [QX6_performOne_163, xret5_1, cI_s, cL_s, cF_s, cD_s, cA_s, cV_s, nI_add, cond_true, cond_false, if_true, if_false]
  · obtain ⟨S', e1, e2, e3⟩ := s2_makeStill (E := E) (x := x) (n := n) hG P I (k := 4) (a := a) (b := 0) (by omega) (to := a) rfl d
    refine ⟨S', ?_, e3, e2⟩
    rw [decide_eq_false (by omega), cond_false, decide_eq_false (by omega), cond_false, QX6_performOne_95, bq_t H (by omega) (by omega), decide_eq_false (by omega), cond_false, QX6_performOne_117, bq_t H (by omega) (by omega), decide_eq_false (by omega), cond_false, QX6_performOne_139, bq_t H (by omega) (by omega), decide_eq_true (by omega), cond_true]
    simp (disch := omega) only [gO_2 b0, gR_2_0 b0, gR_2_1 b0, gR_2_2 b0, gR_2_3 b0, gI_2_4 b0, gP_2_4 b0, gI_2_5 b0, gP_2_5 b0, gI_2_6 b0, gP_2_6 b0, gI_2_7 b0, gP_2_7 b0, gI_2_8 b0, gP_2_8 b0, cI_s, cL_s, cF_s, cD_s, cA_s, cV_s, nI_add, cond_true, cond_false, if_true, if_false]
    rw [e1]
    simp (disch := omega) only [QX6_performOne_163, xret5_1, cI_s, cL_s, cF_s, cD_s, cA_s, cV_s, nI_add, cond_true, cond_false, if_true, if_false]
  · have hx : a < g 0 := by
      rcases h with h | h | h | h | h <;> omega
    obtain ⟨S', e1, e2, e3⟩ := s2_lookUnder (E := E) (x := x) (n := n) hG P I hx (d + 1)
    refine ⟨S', ?_, e3, frm_mo e2 (by omega) (by omega)⟩
    rw [decide_eq_false (by omega), cond_false, decide_eq_false (by omega), cond_false, QX6_performOne_95, bq_t H (by omega) (by omega), decide_eq_false (by omega), cond_false, QX6_performOne_117, bq_t H (by omega) (by omega), decide_eq_false (by omega), cond_false, QX6_performOne_139, bq_t H (by omega) (by omega), decide_eq_false (by omega), cond_false, QX6_performOne_156]
    simp (disch := omega) only [gO_2 b0, gR_2_0 b0, gR_2_1 b0, gR_2_2 b0, gR_2_3 b0, gI_2_4 b0, gP_2_4 b0, gI_2_5 b0, gP_2_5 b0, gI_2_6 b0, gP_2_6 b0, gI_2_7 b0, gP_2_7 b0, gI_2_8 b0, gP_2_8 b0, cI_s, cL_s, cF_s, cD_s, cA_s, cV_s, nI_add, cond_true, cond_false, if_true, if_false]
    rw [e1]
    simp (disch := omega) only [QX6_performOne_163, xret5_1, cI_s, cL_s, cF_s, cD_s, cA_s, cV_s, nI_add, cond_true, cond_false, if_true, if_false]
theorem c_one (hG : hG sh q) (h6 : hS6 sh) (hq : 7 ≤ q) (H : hEn E x) (P : pG S q g) (I : iG g) {k K a b dn : Nat} (hk : k < 60) (hK : K ≤ 5) (s7 : S.2.2.2.2 7 k = some (22 + K)) (s8 : S.2.1 8 k = nI a) (s9 : S.2.1 9 k = nI b) (s5 : S.1 6 5 = nI dn) (hdn : dn ≤ 200) (ha : a ≤ 9999) (hb : b ≤ 9999) (d : Nat) :
    (alw K a b g → dn < 200 → ∃ S', xsem xT E (d + 6) kX6_performOne [.ref (x + 6), .ref (x + q), .int (nI k)] (wW E x sh S, n) = some (.inl (some (.int (nI 1))), (wW E x sh S', n)) ∧ pG S' q (nxt K a b g) ∧ S'.1 6 5 = nI (dn + 1) ∧ frQ q S S') ∧ (¬ (alw K a b g ∧ dn < 200) → xsem xT E (d + 6) kX6_performOne [.ref (x + 6), .ref (x + q), .int (nI k)] (wW E x sh S, n) = some (.inl (some (.int (nI 0))), (wW E x sh S, n))) := by
  obtain ⟨b0, b1, b2, b3, b4⟩ := h6
  have b1 : sh (6 + 1) = some (4, 60, []) := b1
  have b2 : sh (6 + 2) = some (1, 60, []) := b2
  have b3 : sh (6 + 3) = some (1, 60, []) := b3
  have s7 : S.2.2.2.2 (6 + 1) k = some (22 + K) := s7
  have s8 : S.2.1 (6 + 2) k = nI a := s8
  have s9 : S.2.1 (6 + 3) k = nI b := s9
  have hal := c_allowed (E := E) (x := x) (n := n) hG H P I hK ha hb (d + 1)
  rw [eX6_performOne, QX6_performOne_0]
  refine ⟨fun h hd => ?_, fun h => ?_⟩
  · have P1 : pG (sS S 6 5 (nI (dn + 1))) q g := pG_fr (frm_sS (lo := 6) (hi := 7) (by omega) (by omega)) (by omega) P
    obtain ⟨S', e1, e2, e3⟩ := c_act (E := E) (x := x) (n := n) hG hq H P1 I hK h d
    refine ⟨S', ?_, e2, ?_, frQ_tr frQ_d (frQ_m hq e3)⟩
    · simp (disch := omega) only [gO_6 b0, gR_6_0 b0, gR_6_1 b0, gR_6_2 b0, gR_6_3 b0, gI_6_4 b0, gP_6_4 b0, gI_6_5 b0, gP_6_5 b0, aI_w b2, aI_w b3, s8, s9, s5, cI_s, cL_s, cF_s, cD_s, cA_s, cV_s, nI_add, cond_true, cond_false, if_true, if_false]
      rw [aQ_w b1 hk (by omega) s7, iLE_f hd (by omega), hal.1 h]
      simp (disch := omega) only [iEQ_f, QX6_performOne_47, gO_6 b0, gR_6_0 b0, gR_6_1 b0, gR_6_2 b0, gR_6_3 b0, gI_6_4 b0, gP_6_4 b0, gI_6_5 b0, gP_6_5 b0, s5, cI_s, cL_s, cF_s, cD_s, cA_s, cV_s, nI_add, cond_true, cond_false, if_true, if_false]
      rw [e1]
    · rw [frm_1 e3 (by omega)]
      exact sS_s
  · simp (disch := omega) only [gO_6 b0, gR_6_0 b0, gR_6_1 b0, gR_6_2 b0, gR_6_3 b0, gI_6_4 b0, gP_6_4 b0, gI_6_5 b0, gP_6_5 b0, aI_w b2, aI_w b3, s8, s9, s5, cI_s, cL_s, cF_s, cD_s, cA_s, cV_s, nI_add, cond_true, cond_false, if_true, if_false]
    rw [aQ_w b1 hk (by omega) s7]
    by_cases hd : dn < 200
    · rw [iLE_f hd (by omega), hal.2 (fun z => h ⟨z, hd⟩)]
      simp (disch := omega) only [iEQ_t, QX6_performOne_45, xret5_0, cI_s, cL_s, cF_s, cD_s, cA_s, cV_s, nI_add, cond_true, cond_false, if_true, if_false]
    · rw [iLE_t (by omega) (by omega), QX6_performOne_45]
      simp (disch := omega) only [xret5_0, cI_s, cL_s, cF_s, cD_s, cA_s, cV_s, nI_add, cond_true, cond_false, if_true, if_false]
end PF2
