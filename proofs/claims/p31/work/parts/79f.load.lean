/-! load, on both sides. -/
section LD
variable {E : xEn} {z : Nat → Option va_E} {x y n m : Nat} {sh : Nat → Option xSh} {S M : xSt} {Bd : Nat}
theorem c_len_t (hc : hC sh) {k len : Nat} (h1 : S.1 1 1 = nI len) (hk : k ≤ len) (hl : len ≤ 500) (d : Nat) : xsem xT E (d + 1) kX10_requireLength [.ref x, .int (nI k)] (wW E z x sh S, n) = some (.inl none, (wW E z x sh S, n)) := by
  have b0 := hc.1
  have a0 : sh 1 = some (sh3 1) := hc.2.1.1
  rw [eX10_requireLength, QX10_requireLength_0, iLT_f (Nat.zero_le _) (by omega)]
  simp (disch := omega) only [gO_8 b0, gR_8_0 b0, gR_8_1 b0, gR_8_2 b0, gR_8_3 b0, gR_8_4 b0, gI_8_5 b0, gP_8_5 b0, gI_8_6 b0, gP_8_6 b0, gO_3 a0, gR_3_0 a0, gI_3_1 a0, gP_3_1 a0, gI_3_2 a0, gP_3_2 a0, gR_3_3 a0, gR_3_4 a0, gR_3_5 a0, gI_3_6 a0, gP_3_6 a0, gI_3_7 a0, gP_3_7 a0, gI_3_8 a0, gP_3_8 a0, gI_3_9 a0, gP_3_9 a0, h1, iLE_t, QX10_requireLength_26, cI_s, cL_s, cF_s, cD_s, cA_s, cV_s, nI_add, cond_true, cond_false, if_true, if_false]
theorem c_len_f (hc : hC sh) {a : Int32} {len : Nat} (h1 : S.1 1 1 = nI len) (hl : len ≤ 500) (h : a < 0 ∨ nI (len + 1) ≤ a) (d : Nat) : xsem xT E (d + 1) kX10_requireLength [.ref x, .int a] (wW E z x sh S, n) = some (.inr (xexc 0), (wW E z x sh S, n)) := by
  have b0 := hc.1
  have a0 : sh 1 = some (sh3 1) := hc.2.1.1
  have h9 : qX10_requireLength_15 E d 0 0 (wW E z x sh S, n) = some (.inr (xexc 0), (wW E z x sh S, n)) := by
    rw [QX10_requireLength_15]
    simp (disch := omega) only [ble_t, Bool.and_self, cI_s, cL_s, cF_s, cD_s, cA_s, cV_s, nI_add, cond_true, cond_false, if_true, if_false]
  rw [eX10_requireLength, QX10_requireLength_0]
  by_cases h0 : a < nI 0
  · rw [if_pos h0, h9]
  · have h2 : ¬ a ≤ nI len := fun z => nI_ge (Nat.lt_succ_self _) (by omega) (Int32.le_trans (h.resolve_left h0) z)
    rw [if_neg h0]
    simp (disch := omega) only [gO_8 b0, gR_8_0 b0, gR_8_1 b0, gR_8_2 b0, gR_8_3 b0, gR_8_4 b0, gI_8_5 b0, gP_8_5 b0, gI_8_6 b0, gP_8_6 b0, gO_3 a0, gR_3_0 a0, gI_3_1 a0, gP_3_1 a0, gI_3_2 a0, gP_3_2 a0, gR_3_3 a0, gR_3_4 a0, gR_3_5 a0, gI_3_6 a0, gP_3_6 a0, gI_3_7 a0, gP_3_7 a0, gI_3_8 a0, gP_3_8 a0, gI_3_9 a0, gP_3_9 a0, h1, if_neg h2, h9, cI_s, cL_s, cF_s, cD_s, cA_s, cV_s, nI_add, cond_true, cond_false, if_true, if_false]
/-- what is appended -/
def RI (S : xSt) (tx : Nat → Nat) (len : Nat) : Prop := S.1 1 1 = nI len ∧ len ≤ 500 ∧ ∀ i, i < len → S.2.1 2 i = sx (tx i) ∧ tx i < 256
/-- what beginning a text changes in the class -/
def frT (S S' : xSt) : Prop := (∀ j, j ≠ 1 → S'.1 j = S.1 j) ∧ (∀ j, j ≠ 4 → j ≠ 5 → S'.2.1 j = S.2.1 j) ∧ (∀ j, j ≠ 3 → S'.2.2.2.2 j = S.2.2.2.2 j)
theorem c_begin (hc : hC sh) (H : hEn E z x) {tx : Nat → Nat} {L len : Nat} (R : RI S tx len) (h : L ≤ len) (d : Nat) :
    ∃ S', xsem xT E (d + 8) kX3_begin [.ref (x + 1), .int (nI L)] (wW E z x sh S, n) = some (.inl none, (wW E z x sh S', n)) ∧ cQ S' tx L (nx tx L 0) ∧ S'.1 1 1 = nI 0 ∧ frT S S' := by
  obtain ⟨S', k, e1, e2, e3, e4, e5, e6, e7, e8⟩ := s3_begin (E := E) (z := z) (x := x) (n := n) hc.2.1 H h R.2.1 R.1 (fun i hi => R.2.2 i (by omega)) d
  exact ⟨S', e1, ⟨⟨k, 0, e2, rfl⟩, e4, e5⟩, e3, e6, fun j a b => e7 j a b, fun j a => e8 j a⟩
end LD
