/-! CALLS THAT CHANGE: what they have in common. -/
section CH
variable {E : xEn} {x y n m : Nat} {sh : Nat → Option xSh} {S M : xSt} {Bd : Nat}
theorem RR_ch {S1 S2 M2 : xSt} {gs : Nat → Nat → Nat} {w un len Bd' : Nat} {tx : Nat → Nat} {g' : Nat → Nat} (RGh : RG S M gs w un Bd) (RIh : RI S M tx len) (hB : Bd ≤ Bd')
    (a5 : S1.1 0 5 = nI ((w + 1) % 9)) (a6 : S1.1 0 6 = nI (if un < 8 then un + 1 else 8)) (f1 : ∀ j, j ≠ 0 → (j < 27 + 12 * ((w + 1) % 9) ∨ 27 + 12 * ((w + 1) % 9) + 12 ≤ j) → eqQ S S1 j)
    (f2 : frm (27 + 12 * ((w + 1) % 9)) (27 + 12 * ((w + 1) % 9) + 12) S1 S2) (P : pG S2 (27 + 12 * ((w + 1) % 9)) g') (G : GM M2 ((w + 1) % 9) g')
    (m4 : M2.1 0 4 = nI (if un < 8 then un + 1 else 8)) (m8 : M2.1 0 8 = M.1 0 8) (m12 : M2.1 0 12 = M.1 0 12) (mj : M2.2.1 5 = M.2.1 5)
    (mr : ∀ i, (i < 1100 * ((w + 1) % 9) ∨ 1100 * ((w + 1) % 9) + 1100 ≤ i) → M2.2.1 1 i = M.2.1 1 i) (I : iG g') (F : iFo g') (t2 : g' 2 ≤ Bd') (t3 : g' 3 ≤ Bd') : RR S2 M2 Bd' :=
  ⟨_, _, _, tx, len, RG_ch RGh hB ((frm_1 f2 (by omega)).trans a5) ((frm_1 f2 (by omega)).trans a6) (fun j a b => ⟨(f2.1 j b).1.trans (f1 j (by omega) b).1, (f2.1 j b).2.trans (f1 j (by omega) b).2⟩) G.1 m4 (fun i _ b => mr i b) P G.2.2 I F t2 t3,
    RI_fr RIh ((frm_1 f2 (by omega)).trans (congrFun (f1 1 (by omega) (by omega)).1 1)) ((frm_1 f2 (by omega)).trans (congrFun (f1 1 (by omega) (by omega)).1 9)) ((frm_2 f2 (by omega)).trans (f1 2 (by omega) (by omega)).2) m8 m12 mj⟩
/-- the games behind a change, on both sides -/
theorem j_change {gs : Nat → Nat → Nat} {w un : Nat} (hc : hC sh) (RGh : RG S M gs w un Bd) (d u : Nat) :
    ∃ S1 M1, xsem xT E (d + 3) kX10_change [.ref x] (wW E x sh S, n) = some (.inl (some (.ref (x + (27 + 12 * ((w + 1) % 9))))), (wW E x sh S1, n)) ∧ S1.1 0 5 = nI ((w + 1) % 9) ∧ S1.1 0 6 = nI (if un < 8 then un + 1 else 8) ∧ pG S1 (27 + 12 * ((w + 1) % 9)) (gs 0) ∧ (∀ j, j ≠ 0 → (j < 27 + 12 * ((w + 1) % 9) ∨ 27 + 12 * ((w + 1) % 9) + 12 ≤ j) → eqQ S S1 j) ∧ S1.2.2 = S.2.2 ∧
      xsem xT E (u + 2) kX11_change [.ref y] (wW E y shM (mZ M), m) = some (.inl none, (wW E y shM M1, m)) ∧ GM M1 ((w + 1) % 9) (gs 0) ∧ M1.1 0 4 = nI (if un < 8 then un + 1 else 8) ∧ (∀ k, k ≠ 0 → k ≠ 3 → k ≠ 4 → M1.1 0 k = M.1 0 k) ∧ M1.1 0 0 = nI 0 ∧ (∀ j, j ≠ 1 → M1.2.1 j = M.2.1 j) ∧ (∀ i, (i < 1100 * ((w + 1) % 9) ∨ 1100 * ((w + 1) % 9) + 1100 ≤ i) → M1.2.1 1 i = M.2.1 1 i) := by
  obtain ⟨c5, c6, c3, c4, hw, hun⟩ := RGh.1
  obtain ⟨P, G, I, F, t2, t3⟩ := RGh.2 0 (Nat.zero_le _)
  rw [ix_0 hw] at P G
  obtain ⟨S1, a1, a2, a3, a4, a5, a6⟩ := c_change (E := E) (x := x) (n := n) hc c5 c6 hw hun P I F d
  obtain ⟨M1, b1, b2, b3, b4, b5, b6⟩ := g_change (E := E) (y := y) (m := m) (M := mZ M) (w := w) (un := un) (g := gs 0) (by unfold mZ; rw [sS_n (by omega)]; exact c3) (by unfold mZ; rw [sS_n (by omega)]; exact c4) hw hun G u
  exact ⟨S1, M1, a1, a2, a3, a4, a5, a6, b1, b2, b3, fun k h0 h3 h4 => (b4 k h3 h4).trans (sS_n h0), (b4 0 (by omega) (by omega)).trans mZ_0, b5, b6⟩
theorem c_two_t (hc : hC sh) {w : Nat} {g : Nat → Nat} (h5 : S.1 0 5 = nI w) (hw : w < 9) (P : pG S (27 + 12 * w) g) (I : iG g) {p q : Nat} (hp : p < g 0) (hq : q < g 0) (hne : p ≠ q) (d : Nat) : xsem xT E (d + 3) kX10_requireTwoPlaces [.ref x, .int (nI p), .int (nI q)] (wW E x sh S, n) = some (.inl none, (wW E x sh S, n)) := by
  have b0 := hc.1
  have h8 := I.1.2.1
  rw [eX10_requireTwoPlaces, QX10_requireTwoPlaces_0]
  simp (disch := omega) only [ble_t, Bool.and_self, gO_8 b0, gR_8_0 b0, gR_8_1 b0, gR_8_2 b0, gR_8_3 b0, gR_8_4 b0, gI_8_5 b0, gP_8_5 b0, gI_8_6 b0, gP_8_6 b0, cI_s, cL_s, cF_s, cD_s, cA_s, cV_s, nI_add, cond_true, cond_false, if_true, if_false]
  rw [c_place_t hc h5 hw P I hp]
  simp (disch := omega) only [ble_t, Bool.and_self, gO_8 b0, gR_8_0 b0, gR_8_1 b0, gR_8_2 b0, gR_8_3 b0, gR_8_4 b0, gI_8_5 b0, gP_8_5 b0, gI_8_6 b0, gP_8_6 b0, cI_s, cL_s, cF_s, cD_s, cA_s, cV_s, nI_add, cond_true, cond_false, if_true, if_false]
  rw [c_place_t hc h5 hw P I hq]
  simp (disch := omega) only [iEQ_f hne, QX10_requireTwoPlaces_26, cI_s, cL_s, cF_s, cD_s, cA_s, cV_s, nI_add, cond_true, cond_false, if_true, if_false]
theorem c_two_1 (hc : hC sh) {w : Nat} {g : Nat → Nat} (h5 : S.1 0 5 = nI w) (hw : w < 9) (P : pG S (27 + 12 * w) g) {a : Int32} (h : a < 0 ∨ nI (g 0) ≤ a) (b : Int32) (d : Nat) : xsem xT E (d + 3) kX10_requireTwoPlaces [.ref x, .int a, .int b] (wW E x sh S, n) = some (.inr (xexc 1), (wW E x sh S, n)) := by
  have b0 := hc.1
  rw [eX10_requireTwoPlaces, QX10_requireTwoPlaces_0]
  simp (disch := omega) only [ble_t, Bool.and_self, gO_8 b0, gR_8_0 b0, gR_8_1 b0, gR_8_2 b0, gR_8_3 b0, gR_8_4 b0, gI_8_5 b0, gP_8_5 b0, gI_8_6 b0, gP_8_6 b0, cI_s, cL_s, cF_s, cD_s, cA_s, cV_s, nI_add, cond_true, cond_false, if_true, if_false]
  rw [c_place_f hc h5 hw P h]
  simp (disch := omega) only [cV_x, cI_s, cL_s, cF_s, cD_s, cA_s, cV_s, nI_add, cond_true, cond_false, if_true, if_false]
theorem c_two_2 (hc : hC sh) {w : Nat} {g : Nat → Nat} (h5 : S.1 0 5 = nI w) (hw : w < 9) (P : pG S (27 + 12 * w) g) (I : iG g) {p : Nat} (hp : p < g 0) {b : Int32} (h : b < 0 ∨ nI (g 0) ≤ b) (d : Nat) : xsem xT E (d + 3) kX10_requireTwoPlaces [.ref x, .int (nI p), .int b] (wW E x sh S, n) = some (.inr (xexc 1), (wW E x sh S, n)) := by
  have b0 := hc.1
  rw [eX10_requireTwoPlaces, QX10_requireTwoPlaces_0]
  simp (disch := omega) only [ble_t, Bool.and_self, gO_8 b0, gR_8_0 b0, gR_8_1 b0, gR_8_2 b0, gR_8_3 b0, gR_8_4 b0, gI_8_5 b0, gP_8_5 b0, gI_8_6 b0, gP_8_6 b0, cI_s, cL_s, cF_s, cD_s, cA_s, cV_s, nI_add, cond_true, cond_false, if_true, if_false]
  rw [c_place_t hc h5 hw P I hp]
  simp (disch := omega) only [ble_t, Bool.and_self, gO_8 b0, gR_8_0 b0, gR_8_1 b0, gR_8_2 b0, gR_8_3 b0, gR_8_4 b0, gI_8_5 b0, gP_8_5 b0, gI_8_6 b0, gP_8_6 b0, cI_s, cL_s, cF_s, cD_s, cA_s, cV_s, nI_add, cond_true, cond_false, if_true, if_false]
  rw [c_place_f hc h5 hw P h]
  simp (disch := omega) only [cV_x, cI_s, cL_s, cF_s, cD_s, cA_s, cV_s, nI_add, cond_true, cond_false, if_true, if_false]
theorem c_two_3 (hc : hC sh) {w : Nat} {g : Nat → Nat} (h5 : S.1 0 5 = nI w) (hw : w < 9) (P : pG S (27 + 12 * w) g) (I : iG g) {p : Nat} (hp : p < g 0) (d : Nat) : xsem xT E (d + 3) kX10_requireTwoPlaces [.ref x, .int (nI p), .int (nI p)] (wW E x sh S, n) = some (.inr (xexc 0), (wW E x sh S, n)) := by
  have b0 := hc.1
  rw [eX10_requireTwoPlaces, QX10_requireTwoPlaces_0]
  simp (disch := omega) only [ble_t, Bool.and_self, gO_8 b0, gR_8_0 b0, gR_8_1 b0, gR_8_2 b0, gR_8_3 b0, gR_8_4 b0, gI_8_5 b0, gP_8_5 b0, gI_8_6 b0, gP_8_6 b0, cI_s, cL_s, cF_s, cD_s, cA_s, cV_s, nI_add, cond_true, cond_false, if_true, if_false]
  rw [c_place_t hc h5 hw P I hp]
  simp (disch := omega) only [ble_t, Bool.and_self, gO_8 b0, gR_8_0 b0, gR_8_1 b0, gR_8_2 b0, gR_8_3 b0, gR_8_4 b0, gI_8_5 b0, gP_8_5 b0, gI_8_6 b0, gP_8_6 b0, cI_s, cL_s, cF_s, cD_s, cA_s, cV_s, nI_add, cond_true, cond_false, if_true, if_false]
  rw [c_place_t hc h5 hw P I hp]
  simp (disch := omega) only [iEQ_t, ble_t, Bool.and_self, cI_s, cL_s, cF_s, cD_s, cA_s, cV_s, nI_add, cond_true, cond_false, if_true, if_false]
theorem g_isPlaceF {w : Nat} {g : Nat → Nat} (G : GM M w g) (I : iG g) {a : Int32} (ha : a < 0 ∨ nI (g 0) ≤ a) (u : Nat) : xsem xT E (u + 3) kX11_isPlace [.ref y, .int a] (wW E y shM M, m) = some (.inl (some (.int (nI 0))), (wW E y shM M, m)) := by
  have e := m_isPlace_f (g := g) (E := E) (x := y) (n := m) (S := M) (T := M.2.2.2.1 3) (a := a) G.1 G.2.1 I.1.1 I.1.2.1 ha u
  rw [mS_self G] at e
  exact e
theorem g_isPlaceT {w : Nat} {g : Nat → Nat} (G : GM M w g) (I : iG g) {p : Nat} (hp : p < g 0) (u : Nat) : xsem xT E (u + 3) kX11_isPlace [.ref y, .int (nI p)] (wW E y shM M, m) = some (.inl (some (.int (nI 1))), (wW E y shM M, m)) := by
  have h8 := I.1.2.1
  rw [g_isPlace G I (by omega), if_pos hp]
/-- two places: both, one of them none, the same -/
theorem g_two {w : Nat} {g : Nat → Nat} (G : GM M w g) (I : iG g) (h0 : M.1 0 0 = nI 0) (u : Nat) :
    (∀ p q, p < g 0 → q < g 0 → p ≠ q → xsem xT E (u + 4) kX11_areTwo [.ref y, .int (nI p), .int (nI q)] (wW E y shM M, m) = some (.inl (some (.int (nI 1))), (wW E y shM M, m))) ∧
    (∀ (a b : Int32), (a < 0 ∨ nI (g 0) ≤ a) → xsem xT E (u + 4) kX11_areTwo [.ref y, .int a, .int b] (wW E y shM M, m) = some (.inl (some (.int (nI 0))), (wW E y shM (sS M 0 0 (nI 1)), m))) ∧
    (∀ p (b : Int32), p < g 0 → (b < 0 ∨ nI (g 0) ≤ b) → xsem xT E (u + 4) kX11_areTwo [.ref y, .int (nI p), .int b] (wW E y shM M, m) = some (.inl (some (.int (nI 0))), (wW E y shM (sS M 0 0 (nI 1)), m))) ∧
    (∀ p, p < g 0 → xsem xT E (u + 4) kX11_areTwo [.ref y, .int (nI p), .int (nI p)] (wW E y shM M, m) = some (.inl (some (.int (nI 0))), (wW E y shM (sS M 0 0 (nI 2)), m))) := by
  have h8 := I.1.2.1
  have h21 : ∀ (a b : Int32), qX11_areTwo_21 E (u + 3) y a b y (wW E y shM M, m) = some (.inl (some (.int (nI 0))), (wW E y shM (sS M 0 0 (nI 1)), m)) := by
    intro a b
    rw [QX11_areTwo_21, QX11_areTwo_22]
    simp (disch := omega) only [gO_9 hM0, gI_9_0 hM0, gP_9_0 hM0, gR_9_1 hM0, gR_9_2 hM0, gI_9_3 hM0, gP_9_3 hM0, gI_9_4 hM0, gP_9_4 hM0, gR_9_5 hM0, gR_9_6 hM0, gR_9_7 hM0, gI_9_8 hM0, gP_9_8 hM0, gI_9_9 hM0, gP_9_9 hM0, gI_9_10 hM0, gP_9_10 hM0, gI_9_11 hM0, gP_9_11 hM0, gI_9_12 hM0, gP_9_12 hM0, gI_9_13 hM0, gP_9_13 hM0, gI_9_14 hM0, gP_9_14 hM0, gI_9_15 hM0, gP_9_15 hM0, gI_9_16 hM0, gP_9_16 hM0, gR_9_17 hM0, gR_9_18 hM0, gR_9_19 hM0, gR_9_20 hM0, gI_9_21 hM0, gP_9_21 hM0, gI_9_22 hM0, gP_9_22 hM0, gI_9_23 hM0, gP_9_23 hM0, gI_9_24 hM0, gP_9_24 hM0, gR_9_25 hM0, gI_9_26 hM0, gP_9_26 hM0, gI_9_27 hM0, gP_9_27 hM0, gI_9_28 hM0, gP_9_28 hM0, gL_9_29 hM0, gP_9_29 hM0, gL_9_30 hM0, gP_9_30 hM0, cI_s, cL_s, cF_s, cD_s, cA_s, cV_s, nI_add, cond_true, cond_false, if_true, if_false]
    rw [m_right0 h0 (by omega) (by omega)]
    simp (disch := omega) only [iEQ_t, QX11_areTwo_51, QX11_areTwo_52, xret5_0, cI_s, cL_s, cF_s, cD_s, cA_s, cV_s, nI_add, cond_true, cond_false, if_true, if_false]
  refine ⟨fun p q hp hq hne => ?_, fun a b h => ?_, fun p b hp h => ?_, fun p hp => ?_⟩
  · rw [eX11_areTwo, QX11_areTwo_0]
    simp (disch := omega) only [gO_9 hM0, gI_9_0 hM0, gP_9_0 hM0, gR_9_1 hM0, gR_9_2 hM0, gI_9_3 hM0, gP_9_3 hM0, gI_9_4 hM0, gP_9_4 hM0, gR_9_5 hM0, gR_9_6 hM0, gR_9_7 hM0, gI_9_8 hM0, gP_9_8 hM0, gI_9_9 hM0, gP_9_9 hM0, gI_9_10 hM0, gP_9_10 hM0, gI_9_11 hM0, gP_9_11 hM0, gI_9_12 hM0, gP_9_12 hM0, gI_9_13 hM0, gP_9_13 hM0, gI_9_14 hM0, gP_9_14 hM0, gI_9_15 hM0, gP_9_15 hM0, gI_9_16 hM0, gP_9_16 hM0, gR_9_17 hM0, gR_9_18 hM0, gR_9_19 hM0, gR_9_20 hM0, gI_9_21 hM0, gP_9_21 hM0, gI_9_22 hM0, gP_9_22 hM0, gI_9_23 hM0, gP_9_23 hM0, gI_9_24 hM0, gP_9_24 hM0, gR_9_25 hM0, gI_9_26 hM0, gP_9_26 hM0, gI_9_27 hM0, gP_9_27 hM0, gI_9_28 hM0, gP_9_28 hM0, gL_9_29 hM0, gP_9_29 hM0, gL_9_30 hM0, gP_9_30 hM0, g_isPlaceT G I hp, iEQ_f, g_isPlaceT G I hq, QX11_areTwo_22, cI_s, cL_s, cF_s, cD_s, cA_s, cV_s, nI_add, cond_true, cond_false, if_true, if_false]
    rw [m_right1 h0]
    simp (disch := omega) only [iEQ_f hne, iEQ_f, QX11_areTwo_40, gO_9 hM0, gI_9_0 hM0, gP_9_0 hM0, gR_9_1 hM0, gR_9_2 hM0, gI_9_3 hM0, gP_9_3 hM0, gI_9_4 hM0, gP_9_4 hM0, gR_9_5 hM0, gR_9_6 hM0, gR_9_7 hM0, gI_9_8 hM0, gP_9_8 hM0, gI_9_9 hM0, gP_9_9 hM0, gI_9_10 hM0, gP_9_10 hM0, gI_9_11 hM0, gP_9_11 hM0, gI_9_12 hM0, gP_9_12 hM0, gI_9_13 hM0, gP_9_13 hM0, gI_9_14 hM0, gP_9_14 hM0, gI_9_15 hM0, gP_9_15 hM0, gI_9_16 hM0, gP_9_16 hM0, gR_9_17 hM0, gR_9_18 hM0, gR_9_19 hM0, gR_9_20 hM0, gI_9_21 hM0, gP_9_21 hM0, gI_9_22 hM0, gP_9_22 hM0, gI_9_23 hM0, gP_9_23 hM0, gI_9_24 hM0, gP_9_24 hM0, gR_9_25 hM0, gI_9_26 hM0, gP_9_26 hM0, gI_9_27 hM0, gP_9_27 hM0, gI_9_28 hM0, gP_9_28 hM0, gL_9_29 hM0, gP_9_29 hM0, gL_9_30 hM0, gP_9_30 hM0, cI_s, cL_s, cF_s, cD_s, cA_s, cV_s, nI_add, cond_true, cond_false, if_true, if_false]
    rw [m_right1 h0]
    simp (disch := omega) only [iEQ_f, QX11_areTwo_52, xret5_1, cI_s, cL_s, cF_s, cD_s, cA_s, cV_s, nI_add, cond_true, cond_false, if_true, if_false]
  · rw [eX11_areTwo, QX11_areTwo_0]
    simp (disch := omega) only [gO_9 hM0, gI_9_0 hM0, gP_9_0 hM0, gR_9_1 hM0, gR_9_2 hM0, gI_9_3 hM0, gP_9_3 hM0, gI_9_4 hM0, gP_9_4 hM0, gR_9_5 hM0, gR_9_6 hM0, gR_9_7 hM0, gI_9_8 hM0, gP_9_8 hM0, gI_9_9 hM0, gP_9_9 hM0, gI_9_10 hM0, gP_9_10 hM0, gI_9_11 hM0, gP_9_11 hM0, gI_9_12 hM0, gP_9_12 hM0, gI_9_13 hM0, gP_9_13 hM0, gI_9_14 hM0, gP_9_14 hM0, gI_9_15 hM0, gP_9_15 hM0, gI_9_16 hM0, gP_9_16 hM0, gR_9_17 hM0, gR_9_18 hM0, gR_9_19 hM0, gR_9_20 hM0, gI_9_21 hM0, gP_9_21 hM0, gI_9_22 hM0, gP_9_22 hM0, gI_9_23 hM0, gP_9_23 hM0, gI_9_24 hM0, gP_9_24 hM0, gR_9_25 hM0, gI_9_26 hM0, gP_9_26 hM0, gI_9_27 hM0, gP_9_27 hM0, gI_9_28 hM0, gP_9_28 hM0, gL_9_29 hM0, gP_9_29 hM0, gL_9_30 hM0, gP_9_30 hM0, g_isPlaceF G I h, iEQ_t, cI_s, cL_s, cF_s, cD_s, cA_s, cV_s, nI_add, cond_true, cond_false, if_true, if_false]
    exact h21 a b
  · rw [eX11_areTwo, QX11_areTwo_0]
    simp (disch := omega) only [gO_9 hM0, gI_9_0 hM0, gP_9_0 hM0, gR_9_1 hM0, gR_9_2 hM0, gI_9_3 hM0, gP_9_3 hM0, gI_9_4 hM0, gP_9_4 hM0, gR_9_5 hM0, gR_9_6 hM0, gR_9_7 hM0, gI_9_8 hM0, gP_9_8 hM0, gI_9_9 hM0, gP_9_9 hM0, gI_9_10 hM0, gP_9_10 hM0, gI_9_11 hM0, gP_9_11 hM0, gI_9_12 hM0, gP_9_12 hM0, gI_9_13 hM0, gP_9_13 hM0, gI_9_14 hM0, gP_9_14 hM0, gI_9_15 hM0, gP_9_15 hM0, gI_9_16 hM0, gP_9_16 hM0, gR_9_17 hM0, gR_9_18 hM0, gR_9_19 hM0, gR_9_20 hM0, gI_9_21 hM0, gP_9_21 hM0, gI_9_22 hM0, gP_9_22 hM0, gI_9_23 hM0, gP_9_23 hM0, gI_9_24 hM0, gP_9_24 hM0, gR_9_25 hM0, gI_9_26 hM0, gP_9_26 hM0, gI_9_27 hM0, gP_9_27 hM0, gI_9_28 hM0, gP_9_28 hM0, gL_9_29 hM0, gP_9_29 hM0, gL_9_30 hM0, gP_9_30 hM0, g_isPlaceT G I hp, iEQ_f, g_isPlaceF G I h, iEQ_t, cI_s, cL_s, cF_s, cD_s, cA_s, cV_s, nI_add, cond_true, cond_false, if_true, if_false]
    exact h21 _ b
  · rw [eX11_areTwo, QX11_areTwo_0]
    simp (disch := omega) only [gO_9 hM0, gI_9_0 hM0, gP_9_0 hM0, gR_9_1 hM0, gR_9_2 hM0, gI_9_3 hM0, gP_9_3 hM0, gI_9_4 hM0, gP_9_4 hM0, gR_9_5 hM0, gR_9_6 hM0, gR_9_7 hM0, gI_9_8 hM0, gP_9_8 hM0, gI_9_9 hM0, gP_9_9 hM0, gI_9_10 hM0, gP_9_10 hM0, gI_9_11 hM0, gP_9_11 hM0, gI_9_12 hM0, gP_9_12 hM0, gI_9_13 hM0, gP_9_13 hM0, gI_9_14 hM0, gP_9_14 hM0, gI_9_15 hM0, gP_9_15 hM0, gI_9_16 hM0, gP_9_16 hM0, gR_9_17 hM0, gR_9_18 hM0, gR_9_19 hM0, gR_9_20 hM0, gI_9_21 hM0, gP_9_21 hM0, gI_9_22 hM0, gP_9_22 hM0, gI_9_23 hM0, gP_9_23 hM0, gI_9_24 hM0, gP_9_24 hM0, gR_9_25 hM0, gI_9_26 hM0, gP_9_26 hM0, gI_9_27 hM0, gP_9_27 hM0, gI_9_28 hM0, gP_9_28 hM0, gL_9_29 hM0, gP_9_29 hM0, gL_9_30 hM0, gP_9_30 hM0, g_isPlaceT G I hp, iEQ_f, QX11_areTwo_22, cI_s, cL_s, cF_s, cD_s, cA_s, cV_s, nI_add, cond_true, cond_false, if_true, if_false]
    rw [m_right1 h0]
    simp (disch := omega) only [iEQ_t, iEQ_f, QX11_areTwo_39, QX11_areTwo_40, gO_9 hM0, gI_9_0 hM0, gP_9_0 hM0, gR_9_1 hM0, gR_9_2 hM0, gI_9_3 hM0, gP_9_3 hM0, gI_9_4 hM0, gP_9_4 hM0, gR_9_5 hM0, gR_9_6 hM0, gR_9_7 hM0, gI_9_8 hM0, gP_9_8 hM0, gI_9_9 hM0, gP_9_9 hM0, gI_9_10 hM0, gP_9_10 hM0, gI_9_11 hM0, gP_9_11 hM0, gI_9_12 hM0, gP_9_12 hM0, gI_9_13 hM0, gP_9_13 hM0, gI_9_14 hM0, gP_9_14 hM0, gI_9_15 hM0, gP_9_15 hM0, gI_9_16 hM0, gP_9_16 hM0, gR_9_17 hM0, gR_9_18 hM0, gR_9_19 hM0, gR_9_20 hM0, gI_9_21 hM0, gP_9_21 hM0, gI_9_22 hM0, gP_9_22 hM0, gI_9_23 hM0, gP_9_23 hM0, gI_9_24 hM0, gP_9_24 hM0, gR_9_25 hM0, gI_9_26 hM0, gP_9_26 hM0, gI_9_27 hM0, gP_9_27 hM0, gI_9_28 hM0, gP_9_28 hM0, gL_9_29 hM0, gP_9_29 hM0, gL_9_30 hM0, gP_9_30 hM0, cI_s, cL_s, cF_s, cD_s, cA_s, cV_s, nI_add, cond_true, cond_false, if_true, if_false]
    rw [m_right0 h0 (by omega) (by omega)]
    simp (disch := omega) only [iEQ_t, QX11_areTwo_51, QX11_areTwo_52, xret5_0, cI_s, cL_s, cF_s, cD_s, cA_s, cV_s, nI_add, cond_true, cond_false, if_true, if_false]
end CH
