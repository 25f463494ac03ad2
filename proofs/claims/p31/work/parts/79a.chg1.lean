/-! CALLS THAT CHANGE: what they have in common. -/
section CH
variable {E : xEn} {z : Nat → Option va_E} {x y n m : Nat} {sh : Nat → Option xSh} {S M : xSt} {Bd : Nat}
theorem c_two_t (hc : hC sh) {w : Nat} {g : Nat → Nat} (h5 : S.1 0 5 = nI w) (hw : w < 9) (P : pG S (27 + 12 * w) g) (I : iG g) {p q : Nat} (hp : p < g 0) (hq : q < g 0) (hne : p ≠ q) (d : Nat) : xsem xT E (d + 3) kX10_requireTwoPlaces [.ref x, .int (nI p), .int (nI q)] (wW E z x sh S, n) = some (.inl none, (wW E z x sh S, n)) := by
  have b0 := hc.1
  have h8 := I.1.2.1
  rw [eX10_requireTwoPlaces, QX10_requireTwoPlaces_0]
  simp (disch := omega) only [ble_t, Bool.and_self, gO_8 b0, gR_8_0 b0, gR_8_1 b0, gR_8_2 b0, gR_8_3 b0, gR_8_4 b0, gI_8_5 b0, gP_8_5 b0, gI_8_6 b0, gP_8_6 b0, cI_s, cL_s, cF_s, cD_s, cA_s, cV_s, nI_add, cond_true, cond_false, if_true, if_false]
  rw [c_place_t hc h5 hw P I hp]
  simp (disch := omega) only [ble_t, Bool.and_self, gO_8 b0, gR_8_0 b0, gR_8_1 b0, gR_8_2 b0, gR_8_3 b0, gR_8_4 b0, gI_8_5 b0, gP_8_5 b0, gI_8_6 b0, gP_8_6 b0, cI_s, cL_s, cF_s, cD_s, cA_s, cV_s, nI_add, cond_true, cond_false, if_true, if_false]
  rw [c_place_t hc h5 hw P I hq]
  simp (disch := omega) only [iEQ_f hne, QX10_requireTwoPlaces_26, cI_s, cL_s, cF_s, cD_s, cA_s, cV_s, nI_add, cond_true, cond_false, if_true, if_false]
theorem c_two_1 (hc : hC sh) {w : Nat} {g : Nat → Nat} (h5 : S.1 0 5 = nI w) (hw : w < 9) (P : pG S (27 + 12 * w) g) {a : Int32} (h : a < 0 ∨ nI (g 0) ≤ a) (b : Int32) (d : Nat) : xsem xT E (d + 3) kX10_requireTwoPlaces [.ref x, .int a, .int b] (wW E z x sh S, n) = some (.inr (xexc 1), (wW E z x sh S, n)) := by
  have b0 := hc.1
  rw [eX10_requireTwoPlaces, QX10_requireTwoPlaces_0]
  simp (disch := omega) only [ble_t, Bool.and_self, gO_8 b0, gR_8_0 b0, gR_8_1 b0, gR_8_2 b0, gR_8_3 b0, gR_8_4 b0, gI_8_5 b0, gP_8_5 b0, gI_8_6 b0, gP_8_6 b0, cI_s, cL_s, cF_s, cD_s, cA_s, cV_s, nI_add, cond_true, cond_false, if_true, if_false]
  rw [c_place_f hc h5 hw P h]
  simp (disch := omega) only [cV_x, cI_s, cL_s, cF_s, cD_s, cA_s, cV_s, nI_add, cond_true, cond_false, if_true, if_false]
theorem c_two_2 (hc : hC sh) {w : Nat} {g : Nat → Nat} (h5 : S.1 0 5 = nI w) (hw : w < 9) (P : pG S (27 + 12 * w) g) (I : iG g) {p : Nat} (hp : p < g 0) {b : Int32} (h : b < 0 ∨ nI (g 0) ≤ b) (d : Nat) : xsem xT E (d + 3) kX10_requireTwoPlaces [.ref x, .int (nI p), .int b] (wW E z x sh S, n) = some (.inr (xexc 1), (wW E z x sh S, n)) := by
  have b0 := hc.1
  rw [eX10_requireTwoPlaces, QX10_requireTwoPlaces_0]
  simp (disch := omega) only [ble_t, Bool.and_self, gO_8 b0, gR_8_0 b0, gR_8_1 b0, gR_8_2 b0, gR_8_3 b0, gR_8_4 b0, gI_8_5 b0, gP_8_5 b0, gI_8_6 b0, gP_8_6 b0, cI_s, cL_s, cF_s, cD_s, cA_s, cV_s, nI_add, cond_true, cond_false, if_true, if_false]
  rw [c_place_t hc h5 hw P I hp]
  simp (disch := omega) only [ble_t, Bool.and_self, gO_8 b0, gR_8_0 b0, gR_8_1 b0, gR_8_2 b0, gR_8_3 b0, gR_8_4 b0, gI_8_5 b0, gP_8_5 b0, gI_8_6 b0, gP_8_6 b0, cI_s, cL_s, cF_s, cD_s, cA_s, cV_s, nI_add, cond_true, cond_false, if_true, if_false]
  rw [c_place_f hc h5 hw P h]
  simp (disch := omega) only [cV_x, cI_s, cL_s, cF_s, cD_s, cA_s, cV_s, nI_add, cond_true, cond_false, if_true, if_false]
theorem c_two_3 (hc : hC sh) {w : Nat} {g : Nat → Nat} (h5 : S.1 0 5 = nI w) (hw : w < 9) (P : pG S (27 + 12 * w) g) (I : iG g) {p : Nat} (hp : p < g 0) (d : Nat) : xsem xT E (d + 3) kX10_requireTwoPlaces [.ref x, .int (nI p), .int (nI p)] (wW E z x sh S, n) = some (.inr (xexc 0), (wW E z x sh S, n)) := by
  have b0 := hc.1
  rw [eX10_requireTwoPlaces, QX10_requireTwoPlaces_0]
  simp (disch := omega) only [ble_t, Bool.and_self, gO_8 b0, gR_8_0 b0, gR_8_1 b0, gR_8_2 b0, gR_8_3 b0, gR_8_4 b0, gI_8_5 b0, gP_8_5 b0, gI_8_6 b0, gP_8_6 b0, cI_s, cL_s, cF_s, cD_s, cA_s, cV_s, nI_add, cond_true, cond_false, if_true, if_false]
  rw [c_place_t hc h5 hw P I hp]
  simp (disch := omega) only [ble_t, Bool.and_self, gO_8 b0, gR_8_0 b0, gR_8_1 b0, gR_8_2 b0, gR_8_3 b0, gR_8_4 b0, gI_8_5 b0, gP_8_5 b0, gI_8_6 b0, gP_8_6 b0, cI_s, cL_s, cF_s, cD_s, cA_s, cV_s, nI_add, cond_true, cond_false, if_true, if_false]
  rw [c_place_t hc h5 hw P I hp]
  simp (disch := omega) only [iEQ_t, ble_t, Bool.and_self, cI_s, cL_s, cF_s, cD_s, cA_s, cV_s, nI_add, cond_true, cond_false, if_true, if_false]
end CH
