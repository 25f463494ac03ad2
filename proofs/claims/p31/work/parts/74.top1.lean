/-! WHAT A CALL COMES TO, on both sides: what is asked first. -/
theorem i32_c (a : Int32) {b : Nat} (hb : b < 2 ^ 31) : (∃ p, p < b ∧ a = nI p) ∨ (a < 0 ∨ nI b ≤ a) := by
  by_cases h0 : a < 0
  · exact Or.inr (Or.inl h0)
  · have hz : (0 : Int32).toInt = 0 := by decide
    have h1 : 0 ≤ a.toInt := by
      have := Int32.not_lt.1 h0
      rw [Int32.le_iff_toInt_le, hz] at this
      exact this
    have h2 := Int32.toInt_lt a
    have e : a = nI a.toInt.toNat := by
      rw [← Int32.toInt_inj, nI_toInt (by omega)]
      omega
    by_cases c : a.toInt.toNat < b
    · exact Or.inl ⟨_, c, e⟩
    · refine Or.inr (Or.inr ?_)
      rw [e]
      exact nI_le (by omega) (by omega)
theorem ble_t {a b : Nat} (h : a ≤ b) : Nat.ble a b = true := Nat.ble_eq.mpr h
theorem xthr_5 {ρ : Type} {T : xR → Option ρ} {r : xR} : xthr 5 T r = T r := rfl

section T1
variable {E : xEn} {z : Nat → Option va_E} {x y n m : Nat} {sh : Nat → Option xSh} {S M : xSt} {g : Nat → Nat} {gs : Nat → Nat → Nat} {w un Bd len : Nat} {tx : Nat → Nat}
theorem c_what_t {k last : Nat} (h : k ≤ last) (hl : last < 2 ^ 31) (d : Nat) : xsem xT E (d + 1) kX10_requireWhat [.ref x, .int (nI k), .int (nI last)] (wW E z x sh S, n) = some (.inl none, (wW E z x sh S, n)) := by
  rw [eX10_requireWhat, QX10_requireWhat_0, iLT_f (Nat.zero_le _) (by omega), iLE_t h hl, QX10_requireWhat_20]
theorem c_what_f {a : Int32} {last : Nat} (h : a < 0 ∨ nI (last + 1) ≤ a) (hl : last + 1 < 2 ^ 31) (d : Nat) : xsem xT E (d + 1) kX10_requireWhat [.ref x, .int a, .int (nI last)] (wW E z x sh S, n) = some (.inr (xexc 0), (wW E z x sh S, n)) := by
  have h9 : qX10_requireWhat_9 E d 0 0 (wW E z x sh S, n) = some (.inr (xexc 0), (wW E z x sh S, n)) := by
    rw [QX10_requireWhat_9]
    simp (disch := omega) only [ble_t, Bool.and_self, cI_s, cL_s, cF_s, cD_s, cA_s, cV_s, nI_add, cond_true, cond_false, if_true, if_false]
  rw [eX10_requireWhat, QX10_requireWhat_0]
  by_cases h0 : a < nI 0
  · rw [if_pos h0, h9]
  · have h1 : ¬ a ≤ nI last := by
      intro z
      have h2 := Int32.le_trans (h.resolve_left h0) z
      exact nI_ge (Nat.lt_succ_self _) hl h2
    rw [if_neg h0, if_neg h1, h9]
theorem c_place_t (hc : hC sh) (h5 : S.1 0 5 = nI w) (hw : w < 9) (P : pG S (27 + 12 * w) g) (I : iG g) {p : Nat} (hp : p < g 0) (d : Nat) : xsem xT E (d + 2) kX10_requirePlace [.ref x, .int (nI p)] (wW E z x sh S, n) = some (.inl none, (wW E z x sh S, n)) := by
  have b0 := hc.1
  have hG := hc.2.2.2.2.2.2 w hw
  have b2 := hG.1
  have b5 := hG.2.1
  have h8 := I.1.2.1
  have hgm := c_game (E := E) (z := z) (x := x) (n := n) hc h5 hw d
  have hpl := s5_hasPlace_t (E := E) (z := z) (x := x) (n := n) (S := S) b5 P.1.1 (by omega) hp d
  rw [eX10_requirePlace, QX10_requirePlace_0]
  simp (disch := omega) only [ble_t, Bool.and_self, gO_8 b0, gR_8_0 b0, gR_8_1 b0, gR_8_2 b0, gR_8_3 b0, gR_8_4 b0, gI_8_5 b0, gP_8_5 b0, gI_8_6 b0, gP_8_6 b0, cI_s, cL_s, cF_s, cD_s, cA_s, cV_s, nI_add, cond_true, cond_false, if_true, if_false]
  rw [hgm]
  simp (disch := omega) only [gO_2 b2, gR_2_0 b2, gR_2_1 b2, gR_2_2 b2, gR_2_3 b2, gI_2_4 b2, gP_2_4 b2, gI_2_5 b2, gP_2_5 b2, gI_2_6 b2, gP_2_6 b2, gI_2_7 b2, gP_2_7 b2, gI_2_8 b2, gP_2_8 b2, gO_5 b5, gI_5_0 b5, gP_5_0 b5, gI_5_1 b5, gP_5_1 b5, gI_5_2 b5, gP_5_2 b5, gR_5_3 b5, gR_5_4 b5, cI_s, cL_s, cF_s, cD_s, cA_s, cV_s, nI_add, cond_true, cond_false, if_true, if_false]
  rw [hpl]
  simp (disch := omega) only [iEQ_f, QX10_requirePlace_25, cI_s, cL_s, cF_s, cD_s, cA_s, cV_s, nI_add, cond_true, cond_false, if_true, if_false]
theorem c_place_f (hc : hC sh) (h5 : S.1 0 5 = nI w) (hw : w < 9) (P : pG S (27 + 12 * w) g) {a : Int32} (h : a < 0 ∨ nI (g 0) ≤ a) (d : Nat) : xsem xT E (d + 2) kX10_requirePlace [.ref x, .int a] (wW E z x sh S, n) = some (.inr (xexc 1), (wW E z x sh S, n)) := by
  have b0 := hc.1
  have hG := hc.2.2.2.2.2.2 w hw
  have b2 := hG.1
  have b5 := hG.2.1
  have hgm := c_game (E := E) (z := z) (x := x) (n := n) hc h5 hw d
  have hpl := s5_hasPlace_f (E := E) (z := z) (x := x) (n := n) (S := S) b5 P.1.1 h d
  rw [eX10_requirePlace, QX10_requirePlace_0]
  simp (disch := omega) only [ble_t, Bool.and_self, gO_8 b0, gR_8_0 b0, gR_8_1 b0, gR_8_2 b0, gR_8_3 b0, gR_8_4 b0, gI_8_5 b0, gP_8_5 b0, gI_8_6 b0, gP_8_6 b0, cI_s, cL_s, cF_s, cD_s, cA_s, cV_s, nI_add, cond_true, cond_false, if_true, if_false]
  rw [hgm]
  simp (disch := omega) only [gO_2 b2, gR_2_0 b2, gR_2_1 b2, gR_2_2 b2, gR_2_3 b2, gI_2_4 b2, gP_2_4 b2, gI_2_5 b2, gP_2_5 b2, gI_2_6 b2, gP_2_6 b2, gI_2_7 b2, gP_2_7 b2, gI_2_8 b2, gP_2_8 b2, gO_5 b5, gI_5_0 b5, gP_5_0 b5, gI_5_1 b5, gP_5_1 b5, gI_5_2 b5, gP_5_2 b5, gR_5_3 b5, gR_5_4 b5, cI_s, cL_s, cF_s, cD_s, cA_s, cV_s, nI_add, cond_true, cond_false, if_true, if_false]
  rw [hpl]
  simp (disch := omega) only [iEQ_t, cI_s, cL_s, cF_s, cD_s, cA_s, cV_s, nI_add, cond_true, cond_false, if_true, if_false]
theorem c_hand_t (hc : hC sh) (h5 : S.1 0 5 = nI w) (hw : w < 9) (P : pG S (27 + 12 * w) g) (I : iG g) {p : Nat} (hp : p ≤ g 0) (d : Nat) : xsem xT E (d + 2) kX10_requirePlaceOrHand [.ref x, .int (nI p)] (wW E z x sh S, n) = some (.inl none, (wW E z x sh S, n)) := by
  have b0 := hc.1
  have hG := hc.2.2.2.2.2.2 w hw
  have b2 := hG.1
  have b5 := hG.2.1
  have h8 := I.1.2.1
  have r0 : S.1 (27 + 12 * w + 1) 0 = nI (g 0) := P.1.1
  have hgm := c_game (E := E) (z := z) (x := x) (n := n) hc h5 hw d
  rw [eX10_requirePlaceOrHand, QX10_requirePlaceOrHand_0, iLT_f (Nat.zero_le _) (by omega)]
  simp (disch := omega) only [ble_t, Bool.and_self, gO_8 b0, gR_8_0 b0, gR_8_1 b0, gR_8_2 b0, gR_8_3 b0, gR_8_4 b0, gI_8_5 b0, gP_8_5 b0, gI_8_6 b0, gP_8_6 b0, cI_s, cL_s, cF_s, cD_s, cA_s, cV_s, nI_add, cond_true, cond_false, if_true, if_false]
  rw [hgm]
  simp (disch := omega) only [gO_2 b2, gR_2_0 b2, gR_2_1 b2, gR_2_2 b2, gR_2_3 b2, gI_2_4 b2, gP_2_4 b2, gI_2_5 b2, gP_2_5 b2, gI_2_6 b2, gP_2_6 b2, gI_2_7 b2, gP_2_7 b2, gI_2_8 b2, gP_2_8 b2, gO_5 b5, gI_5_0 b5, gP_5_0 b5, gI_5_1 b5, gP_5_1 b5, gI_5_2 b5, gP_5_2 b5, gR_5_3 b5, gR_5_4 b5, r0, iLE_t, QX10_requirePlaceOrHand_29, cI_s, cL_s, cF_s, cD_s, cA_s, cV_s, nI_add, cond_true, cond_false, if_true, if_false]
theorem c_hand_f (hc : hC sh) (h5 : S.1 0 5 = nI w) (hw : w < 9) (P : pG S (27 + 12 * w) g) (I : iG g) {a : Int32} (h : a < 0 ∨ nI (g 0 + 1) ≤ a) (d : Nat) : xsem xT E (d + 2) kX10_requirePlaceOrHand [.ref x, .int a] (wW E z x sh S, n) = some (.inr (xexc 0), (wW E z x sh S, n)) := by
  have b0 := hc.1
  have hG := hc.2.2.2.2.2.2 w hw
  have b2 := hG.1
  have b5 := hG.2.1
  have h8 := I.1.2.1
  have r0 : S.1 (27 + 12 * w + 1) 0 = nI (g 0) := P.1.1
  have hgm := c_game (E := E) (z := z) (x := x) (n := n) hc h5 hw d
  have h9 : qX10_requirePlaceOrHand_18 E (d + 1) 0 0 (wW E z x sh S, n) = some (.inr (xexc 0), (wW E z x sh S, n)) := by
    rw [QX10_requirePlaceOrHand_18]
    simp (disch := omega) only [ble_t, Bool.and_self, cI_s, cL_s, cF_s, cD_s, cA_s, cV_s, nI_add, cond_true, cond_false, if_true, if_false]
  rw [eX10_requirePlaceOrHand, QX10_requirePlaceOrHand_0]
  by_cases h0 : a < nI 0
  · rw [if_pos h0, h9]
  · have h1 : ¬ a ≤ nI (g 0) := fun z => nI_ge (Nat.lt_succ_self _) (by omega) (Int32.le_trans (h.resolve_left h0) z)
    rw [if_neg h0]
    simp (disch := omega) only [ble_t, Bool.and_self, gO_8 b0, gR_8_0 b0, gR_8_1 b0, gR_8_2 b0, gR_8_3 b0, gR_8_4 b0, gI_8_5 b0, gP_8_5 b0, gI_8_6 b0, gP_8_6 b0, cI_s, cL_s, cF_s, cD_s, cA_s, cV_s, nI_add, cond_true, cond_false, if_true, if_false]
    rw [hgm]
    simp (disch := omega) only [gO_2 b2, gR_2_0 b2, gR_2_1 b2, gR_2_2 b2, gR_2_3 b2, gI_2_4 b2, gP_2_4 b2, gI_2_5 b2, gP_2_5 b2, gI_2_6 b2, gP_2_6 b2, gI_2_7 b2, gP_2_7 b2, gI_2_8 b2, gP_2_8 b2, gO_5 b5, gI_5_0 b5, gP_5_0 b5, gI_5_1 b5, gP_5_1 b5, gI_5_2 b5, gP_5_2 b5, gR_5_3 b5, gR_5_4 b5, r0, if_neg h1, cI_s, cL_s, cF_s, cD_s, cA_s, cV_s, nI_add, cond_true, cond_false, if_true, if_false]
    exact h9
end T1
