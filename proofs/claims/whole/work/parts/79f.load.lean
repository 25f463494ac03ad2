/-! load, on both sides. -/
section LD
variable {E : xEn} {x y n m : Nat} {sh : Nat → Option xSh} {S M : xSt} {Bd : Nat}
theorem c_len_t (hc : hC sh) {k len : Nat} (h1 : S.1 1 1 = nI len) (hk : k ≤ len) (hl : len ≤ 500) (d : Nat) : xsem xT E (d + 1) kX10_requireLength [.ref x, .int (nI k)] (wW E x sh S, n) = some (.inl none, (wW E x sh S, n)) := by
  have b0 := hc.1
  have a0 : sh 1 = some (sh3 1) := hc.2.1.1
  rw [eX10_requireLength, QX10_requireLength_0, iLT_f (Nat.zero_le _) (by omega)]
  simp (disch := omega) only [gO_8 b0, gR_8_0 b0, gR_8_1 b0, gR_8_2 b0, gR_8_3 b0, gR_8_4 b0, gI_8_5 b0, gP_8_5 b0, gI_8_6 b0, gP_8_6 b0, gO_3 a0, gR_3_0 a0, gI_3_1 a0, gP_3_1 a0, gI_3_2 a0, gP_3_2 a0, gR_3_3 a0, gR_3_4 a0, gR_3_5 a0, gI_3_6 a0, gP_3_6 a0, gI_3_7 a0, gP_3_7 a0, gI_3_8 a0, gP_3_8 a0, gI_3_9 a0, gP_3_9 a0, h1, iLE_t, QX10_requireLength_26, cI_s, cL_s, cF_s, cD_s, cA_s, cV_s, nI_add, cond_true, cond_false, if_true, if_false]
theorem c_len_f (hc : hC sh) {a : Int32} {len : Nat} (h1 : S.1 1 1 = nI len) (hl : len ≤ 500) (h : a < 0 ∨ nI (len + 1) ≤ a) (d : Nat) : xsem xT E (d + 1) kX10_requireLength [.ref x, .int a] (wW E x sh S, n) = some (.inr (xexc 0), (wW E x sh S, n)) := by
  have b0 := hc.1
  have a0 : sh 1 = some (sh3 1) := hc.2.1.1
  have h9 : qX10_requireLength_15 E d 0 0 (wW E x sh S, n) = some (.inr (xexc 0), (wW E x sh S, n)) := by
    rw [QX10_requireLength_15]
    simp (disch := omega) only [ble_t, Bool.and_self, cI_s, cL_s, cF_s, cD_s, cA_s, cV_s, nI_add, cond_true, cond_false, if_true, if_false]
  rw [eX10_requireLength, QX10_requireLength_0]
  by_cases h0 : a < nI 0
  · rw [if_pos h0, h9]
  · have h2 : ¬ a ≤ nI len := fun z => nI_ge (Nat.lt_succ_self _) (by omega) (Int32.le_trans (h.resolve_left h0) z)
    rw [if_neg h0]
    simp (disch := omega) only [gO_8 b0, gR_8_0 b0, gR_8_1 b0, gR_8_2 b0, gR_8_3 b0, gR_8_4 b0, gI_8_5 b0, gP_8_5 b0, gI_8_6 b0, gP_8_6 b0, gO_3 a0, gR_3_0 a0, gI_3_1 a0, gP_3_1 a0, gI_3_2 a0, gP_3_2 a0, gR_3_3 a0, gR_3_4 a0, gR_3_5 a0, gI_3_6 a0, gP_3_6 a0, gI_3_7 a0, gP_3_7 a0, gI_3_8 a0, gP_3_8 a0, gI_3_9 a0, gP_3_9 a0, h1, if_neg h2, h9, cI_s, cL_s, cF_s, cD_s, cA_s, cV_s, nI_add, cond_true, cond_false, if_true, if_false]
/-- the reference's start -/
def mB (M : xSt) (L : Nat) : xSt := sS (sS (sS (sS (sS (mZ M) 0 9 (nI L)) 0 10 (nI 0)) 0 8 (nI 0)) 0 11 (nI 0)) 0 12 (-1)
theorem m_starts_t {k len : Nat} (h8 : M.1 0 8 = nI len) (hk : k ≤ len) (hl : len ≤ 500) (u : Nat) : xsem xT E (u + 2) kX11_starts [.ref y, .int (nI k)] (wW E y shM M, m) = some (.inl (some (.int (nI 1))), (wW E y shM (mB M k), m)) := by
  have h8 : (mZ M).1 0 8 = nI len := (frU_Z.1.2.2.1).trans h8
  rw [eX11_starts, QX11_starts_0]
  simp (disch := omega) only [gO_9 hM0, gI_9_0 hM0, gP_9_0 hM0, gR_9_1 hM0, gR_9_2 hM0, gI_9_3 hM0, gP_9_3 hM0, gI_9_4 hM0, gP_9_4 hM0, gR_9_5 hM0, gR_9_6 hM0, gR_9_7 hM0, gI_9_8 hM0, gP_9_8 hM0, gI_9_9 hM0, gP_9_9 hM0, gI_9_10 hM0, gP_9_10 hM0, gI_9_11 hM0, gP_9_11 hM0, gI_9_12 hM0, gP_9_12 hM0, gI_9_13 hM0, gP_9_13 hM0, gI_9_14 hM0, gP_9_14 hM0, gI_9_15 hM0, gP_9_15 hM0, gI_9_16 hM0, gP_9_16 hM0, gR_9_17 hM0, gR_9_18 hM0, gR_9_19 hM0, gR_9_20 hM0, gI_9_21 hM0, gP_9_21 hM0, gI_9_22 hM0, gP_9_22 hM0, gI_9_23 hM0, gP_9_23 hM0, gI_9_24 hM0, gP_9_24 hM0, gR_9_25 hM0, gI_9_26 hM0, gP_9_26 hM0, gI_9_27 hM0, gP_9_27 hM0, gI_9_28 hM0, gP_9_28 hM0, gL_9_29 hM0, gP_9_29 hM0, gL_9_30 hM0, gP_9_30 hM0, m_isIn, cI_s, cL_s, cF_s, cD_s, cA_s, cV_s, nI_add, cond_true, cond_false, if_true, if_false]
  rw [show sS M 0 0 (nI 0) = mZ M from rfl]
  simp (disch := omega) only [h8, cI_s, cL_s, cF_s, cD_s, cA_s, cV_s, nI_add, cond_true, cond_false, if_true, if_false]
  rw [isIn_t hk (by omega)]
  rw [m_right1 mZ_0]
  simp (disch := omega) only [iEQ_f, QX11_starts_24, gO_9 hM0, gI_9_0 hM0, gP_9_0 hM0, gR_9_1 hM0, gR_9_2 hM0, gI_9_3 hM0, gP_9_3 hM0, gI_9_4 hM0, gP_9_4 hM0, gR_9_5 hM0, gR_9_6 hM0, gR_9_7 hM0, gI_9_8 hM0, gP_9_8 hM0, gI_9_9 hM0, gP_9_9 hM0, gI_9_10 hM0, gP_9_10 hM0, gI_9_11 hM0, gP_9_11 hM0, gI_9_12 hM0, gP_9_12 hM0, gI_9_13 hM0, gP_9_13 hM0, gI_9_14 hM0, gP_9_14 hM0, gI_9_15 hM0, gP_9_15 hM0, gI_9_16 hM0, gP_9_16 hM0, gR_9_17 hM0, gR_9_18 hM0, gR_9_19 hM0, gR_9_20 hM0, gI_9_21 hM0, gP_9_21 hM0, gI_9_22 hM0, gP_9_22 hM0, gI_9_23 hM0, gP_9_23 hM0, gI_9_24 hM0, gP_9_24 hM0, gR_9_25 hM0, gI_9_26 hM0, gP_9_26 hM0, gI_9_27 hM0, gP_9_27 hM0, gI_9_28 hM0, gP_9_28 hM0, gL_9_29 hM0, gP_9_29 hM0, gL_9_30 hM0, gP_9_30 hM0, xret5_1, cI_s, cL_s, cF_s, cD_s, cA_s, cV_s, nI_add, cond_true, cond_false, if_true, if_false]
  rfl
theorem m_starts_f {a : Int32} {len : Nat} (h8 : M.1 0 8 = nI len) (hl : len ≤ 500) (h : a < 0 ∨ nI (len + 1) ≤ a) (u : Nat) : xsem xT E (u + 2) kX11_starts [.ref y, .int a] (wW E y shM M, m) = some (.inl (some (.int (nI 0))), (wW E y shM (sS (mZ M) 0 0 (nI 1)), m)) := by
  have h8 : (mZ M).1 0 8 = nI len := (frU_Z.1.2.2.1).trans h8
  rw [eX11_starts, QX11_starts_0]
  simp (disch := omega) only [gO_9 hM0, gI_9_0 hM0, gP_9_0 hM0, gR_9_1 hM0, gR_9_2 hM0, gI_9_3 hM0, gP_9_3 hM0, gI_9_4 hM0, gP_9_4 hM0, gR_9_5 hM0, gR_9_6 hM0, gR_9_7 hM0, gI_9_8 hM0, gP_9_8 hM0, gI_9_9 hM0, gP_9_9 hM0, gI_9_10 hM0, gP_9_10 hM0, gI_9_11 hM0, gP_9_11 hM0, gI_9_12 hM0, gP_9_12 hM0, gI_9_13 hM0, gP_9_13 hM0, gI_9_14 hM0, gP_9_14 hM0, gI_9_15 hM0, gP_9_15 hM0, gI_9_16 hM0, gP_9_16 hM0, gR_9_17 hM0, gR_9_18 hM0, gR_9_19 hM0, gR_9_20 hM0, gI_9_21 hM0, gP_9_21 hM0, gI_9_22 hM0, gP_9_22 hM0, gI_9_23 hM0, gP_9_23 hM0, gI_9_24 hM0, gP_9_24 hM0, gR_9_25 hM0, gI_9_26 hM0, gP_9_26 hM0, gI_9_27 hM0, gP_9_27 hM0, gI_9_28 hM0, gP_9_28 hM0, gL_9_29 hM0, gP_9_29 hM0, gL_9_30 hM0, gP_9_30 hM0, m_isIn, cI_s, cL_s, cF_s, cD_s, cA_s, cV_s, nI_add, cond_true, cond_false, if_true, if_false]
  rw [show sS M 0 0 (nI 0) = mZ M from rfl]
  simp (disch := omega) only [h8, cI_s, cL_s, cF_s, cD_s, cA_s, cV_s, nI_add, cond_true, cond_false, if_true, if_false]
  rw [isIn_f h (by omega)]
  rw [m_right0 mZ_0 (by omega) (by omega)]
  simp (disch := omega) only [iEQ_t, xret5_0, cI_s, cL_s, cF_s, cD_s, cA_s, cV_s, nI_add, cond_true, cond_false, if_true, if_false]
theorem mB_0 {L : Nat} : (mB M L).1 0 0 = nI 0 := by
  unfold mB
  rw [sS_n (by omega), sS_n (by omega), sS_n (by omega), sS_n (by omega), sS_n (by omega)]
  exact mZ_0
theorem mB_k {L k : Nat} (h0 : k ≠ 0) (h8 : k < 8 ∨ 12 < k) : (mB M L).1 0 k = M.1 0 k := by
  unfold mB mZ
  rw [sS_n (by omega), sS_n (by omega), sS_n (by omega), sS_n (by omega), sS_n (by omega), sS_n (by omega)]
theorem mB_8 {L : Nat} : (mB M L).1 0 8 = nI 0 := by
  unfold mB
  rw [sS_n (by omega), sS_n (by omega), sS_s]
theorem mB_2 {L : Nat} : (mB M L).2 = M.2 := rfl
theorem mB_Q {tx : Nat → Nat} {L len : Nat} (R : RI S M tx len) (h : L ≤ len) : mQ (mB M L) tx L (nx tx L 0) := by
  have hl := R.2.2.1
  refine ⟨?_, sS_s, 0, ⟨?_, by omega, ?_, Nat.zero_le _, fun i hi => (R.2.2.2.1 i (by omega)).2⟩, rfl⟩
  · unfold mB
    rw [sS_n (by omega), sS_s]
  · unfold mB
    rw [sS_n (by omega), sS_n (by omega), sS_n (by omega), sS_n (by omega), sS_s]
  · unfold mB
    rw [sS_n (by omega), sS_n (by omega), sS_n (by omega), sS_s]
/-- what beginning a text changes in the class -/
def frT (S S' : xSt) : Prop := (∀ j, j ≠ 1 → S'.1 j = S.1 j) ∧ (∀ j, j ≠ 4 → j ≠ 5 → S'.2.1 j = S.2.1 j) ∧ (∀ j, j ≠ 3 → S'.2.2.2.2 j = S.2.2.2.2 j)
theorem c_begin (hc : hC sh) (H : hEn E x) {tx : Nat → Nat} {L len : Nat} (R : RI S M tx len) (h : L ≤ len) (d : Nat) :
    ∃ S', xsem xT E (d + 8) kX3_begin [.ref (x + 1), .int (nI L)] (wW E x sh S, n) = some (.inl none, (wW E x sh S', n)) ∧ cQ S' tx L (nx tx L 0) ∧ S'.1 1 1 = nI 0 ∧ frT S S' := by
  obtain ⟨S', k, e1, e2, e3, e4, e5, e6, e7, e8⟩ := s3_begin (E := E) (x := x) (n := n) hc.2.1 H h R.2.2.1 R.1 (fun i hi => ⟨(R.2.2.2.1 i (by omega)).1, (R.2.2.2.1 i (by omega)).2.2⟩) d
  exact ⟨S', e1, ⟨⟨k, 0, e2, rfl⟩, e4, e5⟩, e3, e6, fun j a b => e7 j a b, fun j a => e8 j a⟩
/-- nothing is appended then -/
theorem RI_0 {S1 M1 : xSt} {tx : Nat → Nat} (h1 : S1.1 1 1 = nI 0) (h8 : M1.1 0 8 = nI 0) (h9 : S1.1 1 9 = M1.1 0 12) : RI S1 M1 tx 0 := ⟨h1, h8, by omega, fun i hi => absurd hi (Nat.not_lt_zero i), h9⟩
theorem lm_load {w : Nat} {g : Nat → Nat} (u : Nat) : ∀ k i M gq, i + k = 1100 → GM M w gq → (∀ j, j < i → gq j = g j) → rd M g → ∃ M', qX11_load_28 E (u + 1) y (nI i) (wW E y shM M, m) = qX11_load_52 E (u + 1) y (wW E y shM M', m) ∧ GM M' w g ∧ frS w M M' := by
  intro k
  induction k with
  | zero =>
    intro i M gq hi G hg hr
    have hi : i = 1100 := hi
    subst hi
    refine ⟨M, ?_, ⟨G.1, G.2.1, fun k hk => by rw [← hg k hk]; exact G.2.2 k hk⟩, frS_rf⟩
    rw [QX11_load_28]
    simp (disch := omega) only [iLE_t, cI_s, cL_s, cF_s, cD_s, cA_s, cV_s, nI_add, cond_true, cond_false, if_true, if_false]
  | succ k ih =>
    intro i M gq hi G hg hr
    obtain ⟨M1, e1, G1, f1⟩ := g_put (E := E) (y := y) (m := m) G (k := i) (v := g i) (by omega) u
    obtain ⟨M2, e2, G2, f2⟩ := ih (i + 1) M1 (updN gq i (g i)) (by omega) G1 (fun j hj => by
      by_cases c : j = i
      · subst c; exact updN_s
      · rw [updN_n c]; exact hg j (by omega)) (fun k hk => by rw [f1.2.1 2 (by omega)]; exact hr k hk)
    refine ⟨M2, ?_, G2, frS_tr f1 f2⟩
    rw [QX11_load_28, ← e2]
    simp (disch := omega) only [iLE_f, gO_9 hM0, gI_9_0 hM0, gP_9_0 hM0, gR_9_1 hM0, gR_9_2 hM0, gI_9_3 hM0, gP_9_3 hM0, gI_9_4 hM0, gP_9_4 hM0, gR_9_5 hM0, gR_9_6 hM0, gR_9_7 hM0, gI_9_8 hM0, gP_9_8 hM0, gI_9_9 hM0, gP_9_9 hM0, gI_9_10 hM0, gP_9_10 hM0, gI_9_11 hM0, gP_9_11 hM0, gI_9_12 hM0, gP_9_12 hM0, gI_9_13 hM0, gP_9_13 hM0, gI_9_14 hM0, gP_9_14 hM0, gI_9_15 hM0, gP_9_15 hM0, gI_9_16 hM0, gP_9_16 hM0, gR_9_17 hM0, gR_9_18 hM0, gR_9_19 hM0, gR_9_20 hM0, gI_9_21 hM0, gP_9_21 hM0, gI_9_22 hM0, gP_9_22 hM0, gI_9_23 hM0, gP_9_23 hM0, gI_9_24 hM0, gP_9_24 hM0, gR_9_25 hM0, gI_9_26 hM0, gP_9_26 hM0, gI_9_27 hM0, gP_9_27 hM0, gI_9_28 hM0, gP_9_28 hM0, gL_9_29 hM0, gP_9_29 hM0, gL_9_30 hM0, gP_9_30 hM0, aI_w hM2, cI_s, cL_s, cF_s, cD_s, cA_s, cV_s, nI_add, cond_true, cond_false, if_true, if_false]
    rw [hr i (by omega), e1]
    simp (disch := omega) only [cI_s, cL_s, cF_s, cD_s, cA_s, cV_s, nI_add, cond_true, cond_false, if_true, if_false]
theorem m_change {w un : Nat} (h3 : M.1 0 3 = nI w) (h4 : M.1 0 4 = nI un) (hw : w < 9) (hu : un ≤ 8) {g : Nat → Nat} (G : GR M w g) (u : Nat) :
    ∃ M', xsem xT E (u + 2) kX11_change [.ref y] (wW E y shM M, m) = some (.inl none, (wW E y shM M', m)) ∧ GM M' ((w + 1) % 9) g ∧ M'.1 0 4 = nI (if un < 8 then un + 1 else 8) ∧ (∀ k, k ≠ 3 → k ≠ 4 → M'.1 0 k = M.1 0 k) ∧ (∀ j, j ≠ 1 → M'.2.1 j = M.2.1 j) ∧ (∀ i, (i < 1100 * ((w + 1) % 9) ∨ 1100 * ((w + 1) % 9) + 1100 ≤ i) → M'.2.1 1 i = M.2.1 1 i) := g_change h3 h4 hw hu G u
theorem T_load (hc : hC sh) (H : hEn E x) (H' : hEn E y) (R : RR S M Bd) (a : Int32) (d u : Nat) : oT E x y n m sh [0] Bd 0 (xsem xT E (d + 21) kX10_load [.ref x, .int a] (wW E x sh S, n)) (xsem xT E (u + 25) kX11_load [.ref y, .int a] (wW E y shM M, m)) := by
  obtain ⟨gs, w, un, tx, len, RGh, RIh⟩ := R
  obtain ⟨c5, c6, c3, c4, hw, hun⟩ := RGh.1
  obtain ⟨P, G, I, F, t2, t3⟩ := RGh.2 0 (Nat.zero_le _)
  rw [ix_0 hw] at P G
  have hw' : (w + 1) % 9 < 9 := Nat.mod_lt _ (by omega)
  have b0 := hc.1
  have a0 : sh 1 = some (sh3 1) := hc.2.1.1
  have hG14 : hG sh 14 := hc.2.2.2.2.1
  have hG' := hc.2.2.2.2.2.2 _ hw'
  have b2' := hG'.1
  have b14 : sh 14 = some (sh2 14) := hG14.1
  have b15 : sh 15 = some (sh5 15) := hG14.2.1
  have hl := RIh.2.2.1
  rcases i32_c a (b := len + 1) (by omega) with ⟨k, hk, rfl⟩ | h
  · obtain ⟨S1, s1, Q1, z1, f1⟩ := c_begin (E := E) (x := x) (n := n) hc H RIh (L := k) (by omega) (d + 12)
    have K1 := mB_Q RIh (L := k) (by omega)
    have hst := m_starts_t (E := E) (y := y) (m := m) RIh.2.1 (k := k) (by omega) hl (u + 22)
    have hcl : ∀ v S', xsem xT E (d + 20) kX7_read [.ref (x + 1), .ref (x + 14)] (wW E x sh S1, n) = some (.inl (some (.int v)), (wW E x sh S', n)) → xsem xT E (d + 21) kX10_load [.ref x, .int (nI k)] (wW E x sh S, n) = if v = nI 0 then some (.inl (some (.int (S'.1 1 8))), (wW E x sh S', n)) else qX10_load_35 E (d + 20) 1 6 x (wW E x sh S', n) := by
      intro v S' hv
      rw [eX10_load, QX10_load_0]
      simp (disch := omega) only [ble_t, Bool.and_self, gO_8 b0, gR_8_0 b0, gR_8_1 b0, gR_8_2 b0, gR_8_3 b0, gR_8_4 b0, gI_8_5 b0, gP_8_5 b0, gI_8_6 b0, gP_8_6 b0, cI_s, cL_s, cF_s, cD_s, cA_s, cV_s, nI_add, cond_true, cond_false, if_true, if_false]
      rw [c_len_t hc RIh.1 (by omega) hl]
      simp (disch := omega) only [ble_t, Bool.and_self, gO_8 b0, gR_8_0 b0, gR_8_1 b0, gR_8_2 b0, gR_8_3 b0, gR_8_4 b0, gI_8_5 b0, gP_8_5 b0, gI_8_6 b0, gP_8_6 b0, gO_3 a0, gR_3_0 a0, gI_3_1 a0, gP_3_1 a0, gI_3_2 a0, gP_3_2 a0, gR_3_3 a0, gR_3_4 a0, gR_3_5 a0, gI_3_6 a0, gP_3_6 a0, gI_3_7 a0, gP_3_7 a0, gI_3_8 a0, gP_3_8 a0, gI_3_9 a0, gP_3_9 a0, cI_s, cL_s, cF_s, cD_s, cA_s, cV_s, nI_add, cond_true, cond_false, if_true, if_false]
      rw [s1]
      simp (disch := omega) only [ble_t, Bool.and_self, gO_8 b0, gR_8_0 b0, gR_8_1 b0, gR_8_2 b0, gR_8_3 b0, gR_8_4 b0, gI_8_5 b0, gP_8_5 b0, gI_8_6 b0, gP_8_6 b0, gO_3 a0, gR_3_0 a0, gI_3_1 a0, gP_3_1 a0, gI_3_2 a0, gP_3_2 a0, gR_3_3 a0, gR_3_4 a0, gR_3_5 a0, gI_3_6 a0, gP_3_6 a0, gI_3_7 a0, gP_3_7 a0, gI_3_8 a0, gP_3_8 a0, gI_3_9 a0, gP_3_9 a0, cI_s, cL_s, cF_s, cD_s, cA_s, cV_s, nI_add, cond_true, cond_false, if_true, if_false]
      rw [hv]
      simp (disch := omega) only [gO_8 b0, gR_8_0 b0, gR_8_1 b0, gR_8_2 b0, gR_8_3 b0, gR_8_4 b0, gI_8_5 b0, gP_8_5 b0, gI_8_6 b0, gP_8_6 b0, gO_3 a0, gR_3_0 a0, gI_3_1 a0, gP_3_1 a0, gI_3_2 a0, gP_3_2 a0, gR_3_3 a0, gR_3_4 a0, gR_3_5 a0, gI_3_6 a0, gP_3_6 a0, gI_3_7 a0, gP_3_7 a0, gI_3_8 a0, gP_3_8 a0, gI_3_9 a0, gP_3_9 a0, cI_s, cL_s, cF_s, cD_s, cA_s, cV_s, nI_add, cond_true, cond_false, if_true, if_false]
    have hml : ∀ v M', xsem xT E (u + 24) kX11_readsSetup [.ref y] (wW E y shM (mB M k), m) = some (.inl (some (.int v)), (wW E y shM M', m)) → xsem xT E (u + 25) kX11_load [.ref y, .int (nI k)] (wW E y shM M, m) = if v = nI 0 then some (.inl (some (.int (M'.1 0 11))), (wW E y shM M', m)) else qX11_load_22 E (u + 24) y (wW E y shM M', m) := by
      intro v M' hv
      rw [eX11_load, QX11_load_0]
      simp (disch := omega) only [gO_9 hM0, gI_9_0 hM0, gP_9_0 hM0, gR_9_1 hM0, gR_9_2 hM0, gI_9_3 hM0, gP_9_3 hM0, gI_9_4 hM0, gP_9_4 hM0, gR_9_5 hM0, gR_9_6 hM0, gR_9_7 hM0, gI_9_8 hM0, gP_9_8 hM0, gI_9_9 hM0, gP_9_9 hM0, gI_9_10 hM0, gP_9_10 hM0, gI_9_11 hM0, gP_9_11 hM0, gI_9_12 hM0, gP_9_12 hM0, gI_9_13 hM0, gP_9_13 hM0, gI_9_14 hM0, gP_9_14 hM0, gI_9_15 hM0, gP_9_15 hM0, gI_9_16 hM0, gP_9_16 hM0, gR_9_17 hM0, gR_9_18 hM0, gR_9_19 hM0, gR_9_20 hM0, gI_9_21 hM0, gP_9_21 hM0, gI_9_22 hM0, gP_9_22 hM0, gI_9_23 hM0, gP_9_23 hM0, gI_9_24 hM0, gP_9_24 hM0, gR_9_25 hM0, gI_9_26 hM0, gP_9_26 hM0, gI_9_27 hM0, gP_9_27 hM0, gI_9_28 hM0, gP_9_28 hM0, gL_9_29 hM0, gP_9_29 hM0, gL_9_30 hM0, gP_9_30 hM0, cI_s, cL_s, cF_s, cD_s, cA_s, cV_s, nI_add, cond_true, cond_false, if_true, if_false]
      rw [hst]
      simp (disch := omega) only [iEQ_f, QX11_load_10, gO_9 hM0, gI_9_0 hM0, gP_9_0 hM0, gR_9_1 hM0, gR_9_2 hM0, gI_9_3 hM0, gP_9_3 hM0, gI_9_4 hM0, gP_9_4 hM0, gR_9_5 hM0, gR_9_6 hM0, gR_9_7 hM0, gI_9_8 hM0, gP_9_8 hM0, gI_9_9 hM0, gP_9_9 hM0, gI_9_10 hM0, gP_9_10 hM0, gI_9_11 hM0, gP_9_11 hM0, gI_9_12 hM0, gP_9_12 hM0, gI_9_13 hM0, gP_9_13 hM0, gI_9_14 hM0, gP_9_14 hM0, gI_9_15 hM0, gP_9_15 hM0, gI_9_16 hM0, gP_9_16 hM0, gR_9_17 hM0, gR_9_18 hM0, gR_9_19 hM0, gR_9_20 hM0, gI_9_21 hM0, gP_9_21 hM0, gI_9_22 hM0, gP_9_22 hM0, gI_9_23 hM0, gP_9_23 hM0, gI_9_24 hM0, gP_9_24 hM0, gR_9_25 hM0, gI_9_26 hM0, gP_9_26 hM0, gI_9_27 hM0, gP_9_27 hM0, gI_9_28 hM0, gP_9_28 hM0, gL_9_29 hM0, gP_9_29 hM0, gL_9_30 hM0, gP_9_30 hM0, cI_s, cL_s, cF_s, cD_s, cA_s, cV_s, nI_add, cond_true, cond_false, if_true, if_false]
      rw [hv]
      simp (disch := omega) only [gO_9 hM0, gI_9_0 hM0, gP_9_0 hM0, gR_9_1 hM0, gR_9_2 hM0, gI_9_3 hM0, gP_9_3 hM0, gI_9_4 hM0, gP_9_4 hM0, gR_9_5 hM0, gR_9_6 hM0, gR_9_7 hM0, gI_9_8 hM0, gP_9_8 hM0, gI_9_9 hM0, gP_9_9 hM0, gI_9_10 hM0, gP_9_10 hM0, gI_9_11 hM0, gP_9_11 hM0, gI_9_12 hM0, gP_9_12 hM0, gI_9_13 hM0, gP_9_13 hM0, gI_9_14 hM0, gP_9_14 hM0, gI_9_15 hM0, gP_9_15 hM0, gI_9_16 hM0, gP_9_16 hM0, gR_9_17 hM0, gR_9_18 hM0, gR_9_19 hM0, gR_9_20 hM0, gI_9_21 hM0, gP_9_21 hM0, gI_9_22 hM0, gP_9_22 hM0, gI_9_23 hM0, gP_9_23 hM0, gI_9_24 hM0, gP_9_24 hM0, gR_9_25 hM0, gI_9_26 hM0, gP_9_26 hM0, gI_9_27 hM0, gP_9_27 hM0, gI_9_28 hM0, gP_9_28 hM0, gL_9_29 hM0, gP_9_29 hM0, gL_9_30 hM0, gP_9_30 hM0, cI_s, cL_s, cF_s, cD_s, cA_s, cV_s, nI_add, cond_true, cond_false, if_true, if_false]
    rcases j_setup (E := E) (x := x) (y := y) (n := n) (m := m) hc.2.1 hG14 H H' Q1 K1 d u with ⟨S2, M2, g2, p2, e1, e2, Q2, K2, rd2, PG2, I2, fd, fg⟩ | ⟨S2, M2, e1, e2, xf, fd, fg⟩
    · -- a game is read
      obtain ⟨IG, IF, IT⟩ := iU_fin I2
      have c52 : S2.1 0 5 = nI w := (congrFun (fd.1 0 (by omega) (by omega)) 5).trans ((congrFun (f1.1 0 (by omega)) 5).trans c5)
      have c62 : S2.1 0 6 = nI un := (congrFun (fd.1 0 (by omega) (by omega)) 6).trans ((congrFun (f1.1 0 (by omega)) 6).trans c6)
      have eq2 : ∀ j, 27 ≤ j → (j - 27) % 12 ≠ 11 → eqQ S S2 j := fun j a b => ⟨(fd.1 j (by omega) (by omega)).trans (f1.1 j (by omega)), (fd.2.2.1 j (by omega) (by omega)).trans (f1.2.1 j (by omega) (by omega))⟩
      have eqq : ∀ j, 27 ≤ j → eqQ S S2 j := fun j a => ⟨(fd.1 j (by omega) (by omega)).trans (f1.1 j (by omega)), (fd.2.2.1 j (by omega) (by omega)).trans (f1.2.1 j (by omega) (by omega))⟩
      have P2 : pG S2 (27 + 12 * w) (gs 0) := pG_eq (fun j a b => eqq j (by omega)) P
      obtain ⟨S3, h1, h2, h3, h4, h5, h6⟩ := c_change (E := E) (x := x) (n := n) hc c52 c62 hw hun P2 I F (d + 17)
      have PG3 : pG S3 14 (fin g2) := pG_eq (fun j a b => h5 j (by omega) (by omega)) PG2
      obtain ⟨S4, k1, k2, k3⟩ := s2_copyFrom (E := E) (x := x) (n := n) hG' hG14 (by omega) PG3 IG.1.2.1 IG.1.2.2.2.2.2.2.2.2.2 IF.1 (d + 18)
      have m32 : M2.1 0 3 = nI w := (fg.1 3 (by omega)).trans ((mB_k (by omega) (by omega)).trans c3)
      have m42 : M2.1 0 4 = nI un := (fg.1 4 (by omega)).trans ((mB_k (by omega) (by omega)).trans c4)
      have m02 : M2.1 0 0 = nI 0 := (fg.1 0 (by omega)).trans mB_0
      have r12 : M2.2.1 1 = M.2.1 1 := (fg.2.1 1 (by omega)).trans (by rw [mB_2])
      have r52 : M2.2.1 5 = M.2.1 5 := (fg.2.1 5 (by omega)).trans (by rw [mB_2])
      have G2 : GR M2 w (gs 0) := fun k hk => by rw [r12]; exact G k hk
      obtain ⟨M3, n1, n2, n3, n4, n5, n6⟩ := m_change (E := E) (y := y) (m := m) m32 m42 hw hun G2 (u + 22)
      obtain ⟨M4, o1, o2, o3⟩ := lm_load (E := E) (y := y) (m := m) (g := fin g2) (u + 23) 1100 0 M3 (gs 0) (by omega) n2 (fun j hj => absurd hj (Nat.not_lt_zero j)) (fun k hk => by rw [n5 2 (by omega)]; exact rd2 k hk)
      have hsh := g_shells (E := E) (y := y) (m := m) o2 (u + 22)
      have hz : fin g2 2 = 0 ∧ fin g2 3 = 0 := ⟨(fin_o (by omega)).trans I2.2.1.1, (fin_o (by omega)).trans I2.2.1.2.1⟩
      have m84 : M4.1 0 8 = nI 0 := by rw [o3.1]; exact (n4 8 (by omega) (by omega)).trans ((fg.1 8 (by omega)).trans mB_8)
      have m124 : M4.1 0 12 = -1 := by rw [o3.1]; exact (n4 12 (by omega) (by omega)).trans K2.2.1
      have s14 : S4.1 1 1 = nI 0 := (frm_1 k2 (by omega)).trans ((congrFun (h5 1 (by omega) (by omega)).1 1).trans ((fd.2.1 1 (by omega)).trans z1))
      have s94 : S4.1 1 9 = -1 := (frm_1 k2 (by omega)).trans ((congrFun (h5 1 (by omega) (by omega)).1 9).trans Q2.2.2)
      have PG4 : pG S4 14 (fin g2) := pG_eq (fun j a b => k2.1 j (by omega)) PG3
      have RG' : RG S4 M4 (cons (fin g2) gs) ((w + 1) % 9) (if un < 8 then un + 1 else 8) Bd := by
        refine RG_ch RGh (Nat.le_refl _) ((frm_1 k2 (by omega)).trans h2) ((frm_1 k2 (by omega)).trans h3) (fun j a b => ?_) o2.1 (by rw [o3.1]; exact n3) (fun i _ b => ?_) k3 o2.2.2 IG IF (by rw [hz.1]; omega) (by rw [hz.2]; omega)
        · have e4 := k2.1 j b
          have e3 := h5 j (by omega) b
          have e2 := eqq j a
          exact ⟨e4.1.trans (e3.1.trans e2.1), e4.2.trans (e3.2.trans e2.2)⟩
        · rw [o3.2.2 i b, n6 i b, r12]
      refine oT_ok (v := .int (nI (fin g2 0))) ⟨_, _, _, tx, 0, RG', RI_0 s14 m84 (s94.trans m124.symm)⟩ ?_ ?_ (by rw [o3.1]; exact (n4 0 (by omega) (by omega)).trans m02)
      · rw [hcl _ _ e1, iEQ_f (by omega) (by omega) (by omega), QX10_load_35]
        simp (disch := omega) only [ble_t, Bool.and_self, gO_8 b0, gR_8_0 b0, gR_8_1 b0, gR_8_2 b0, gR_8_3 b0, gR_8_4 b0, gI_8_5 b0, gP_8_5 b0, gI_8_6 b0, gP_8_6 b0, cI_s, cL_s, cF_s, cD_s, cA_s, cV_s, nI_add, cond_true, cond_false, if_true, if_false]
        rw [h1]
        simp (disch := omega) only [ble_t, Bool.and_self, gO_8 b0, gR_8_0 b0, gR_8_1 b0, gR_8_2 b0, gR_8_3 b0, gR_8_4 b0, gI_8_5 b0, gP_8_5 b0, gI_8_6 b0, gP_8_6 b0, gO_2 b2', gR_2_0 b2', gR_2_1 b2', gR_2_2 b2', gR_2_3 b2', gI_2_4 b2', gP_2_4 b2', gI_2_5 b2', gP_2_5 b2', gI_2_6 b2', gP_2_6 b2', gI_2_7 b2', gP_2_7 b2', gI_2_8 b2', gP_2_8 b2', cI_s, cL_s, cF_s, cD_s, cA_s, cV_s, nI_add, cond_true, cond_false, if_true, if_false]
        rw [k1]
        simp (disch := omega) only [gO_8 b0, gR_8_0 b0, gR_8_1 b0, gR_8_2 b0, gR_8_3 b0, gR_8_4 b0, gI_8_5 b0, gP_8_5 b0, gI_8_6 b0, gP_8_6 b0, gO_2 b14, gR_2_0 b14, gR_2_1 b14, gR_2_2 b14, gR_2_3 b14, gI_2_4 b14, gP_2_4 b14, gI_2_5 b14, gP_2_5 b14, gI_2_6 b14, gP_2_6 b14, gI_2_7 b14, gP_2_7 b14, gI_2_8 b14, gP_2_8 b14, gO_5 b15, gI_5_0 b15, gP_5_0 b15, gI_5_1 b15, gP_5_1 b15, gI_5_2 b15, gP_5_2 b15, gR_5_3 b15, gR_5_4 b15, PG4.1.1, cI_s, cL_s, cF_s, cD_s, cA_s, cV_s, nI_add, cond_true, cond_false, if_true, if_false]
      · rw [hml _ _ e2, iEQ_f (by omega) (by omega) (by omega), QX11_load_22]
        simp (disch := omega) only [gO_9 hM0, gI_9_0 hM0, gP_9_0 hM0, gR_9_1 hM0, gR_9_2 hM0, gI_9_3 hM0, gP_9_3 hM0, gI_9_4 hM0, gP_9_4 hM0, gR_9_5 hM0, gR_9_6 hM0, gR_9_7 hM0, gI_9_8 hM0, gP_9_8 hM0, gI_9_9 hM0, gP_9_9 hM0, gI_9_10 hM0, gP_9_10 hM0, gI_9_11 hM0, gP_9_11 hM0, gI_9_12 hM0, gP_9_12 hM0, gI_9_13 hM0, gP_9_13 hM0, gI_9_14 hM0, gP_9_14 hM0, gI_9_15 hM0, gP_9_15 hM0, gI_9_16 hM0, gP_9_16 hM0, gR_9_17 hM0, gR_9_18 hM0, gR_9_19 hM0, gR_9_20 hM0, gI_9_21 hM0, gP_9_21 hM0, gI_9_22 hM0, gP_9_22 hM0, gI_9_23 hM0, gP_9_23 hM0, gI_9_24 hM0, gP_9_24 hM0, gR_9_25 hM0, gI_9_26 hM0, gP_9_26 hM0, gI_9_27 hM0, gP_9_27 hM0, gI_9_28 hM0, gP_9_28 hM0, gL_9_29 hM0, gP_9_29 hM0, gL_9_30 hM0, gP_9_30 hM0, cI_s, cL_s, cF_s, cD_s, cA_s, cV_s, nI_add, cond_true, cond_false, if_true, if_false]
        rw [n1]
        simp (disch := omega) only [cI_s, cL_s, cF_s, cD_s, cA_s, cV_s, nI_add, cond_true, cond_false, if_true, if_false]
        rw [o1, QX11_load_52]
        simp (disch := omega) only [gO_9 hM0, gI_9_0 hM0, gP_9_0 hM0, gR_9_1 hM0, gR_9_2 hM0, gI_9_3 hM0, gP_9_3 hM0, gI_9_4 hM0, gP_9_4 hM0, gR_9_5 hM0, gR_9_6 hM0, gR_9_7 hM0, gI_9_8 hM0, gP_9_8 hM0, gI_9_9 hM0, gP_9_9 hM0, gI_9_10 hM0, gP_9_10 hM0, gI_9_11 hM0, gP_9_11 hM0, gI_9_12 hM0, gP_9_12 hM0, gI_9_13 hM0, gP_9_13 hM0, gI_9_14 hM0, gP_9_14 hM0, gI_9_15 hM0, gP_9_15 hM0, gI_9_16 hM0, gP_9_16 hM0, gR_9_17 hM0, gR_9_18 hM0, gR_9_19 hM0, gR_9_20 hM0, gI_9_21 hM0, gP_9_21 hM0, gI_9_22 hM0, gP_9_22 hM0, gI_9_23 hM0, gP_9_23 hM0, gI_9_24 hM0, gP_9_24 hM0, gR_9_25 hM0, gI_9_26 hM0, gP_9_26 hM0, gI_9_27 hM0, gP_9_27 hM0, gI_9_28 hM0, gP_9_28 hM0, gL_9_29 hM0, gP_9_29 hM0, gL_9_30 hM0, gP_9_30 hM0, cI_s, cL_s, cF_s, cD_s, cA_s, cV_s, nI_add, cond_true, cond_false, if_true, if_false]
        rw [hsh]
        simp (disch := omega) only [cI_s, cL_s, cF_s, cD_s, cA_s, cV_s, nI_add, cond_true, cond_false, if_true, if_false]
    · -- the text is wrong
      have eqq : ∀ j, 27 ≤ j → eqQ S S2 j := fun j a => ⟨(fd.1 j (by omega) (by omega)).trans (f1.1 j (by omega)), (fd.2.2.1 j (by omega) (by omega)).trans (f1.2.1 j (by omega) (by omega))⟩
      have RG' : RG S2 M2 gs w un Bd := RG_fr RGh ((congrFun (fd.1 0 (by omega) (by omega)) 5).trans (congrFun (f1.1 0 (by omega)) 5)) ((congrFun (fd.1 0 (by omega) (by omega)) 6).trans (congrFun (f1.1 0 (by omega)) 6)) (fun j a _ => eqq j a) ((fg.1 3 (by omega)).trans (mB_k (by omega) (by omega))) ((fg.1 4 (by omega)).trans (mB_k (by omega) (by omega))) (fun i _ => by rw [fg.2.1 1 (by omega), mB_2])
      refine oT_ok (v := .int (S2.1 1 8)) ⟨_, _, _, tx, 0, RG', RI_0 ((fd.2.1 1 (by omega)).trans z1) ((fg.1 8 (by omega)).trans mB_8) xf.2⟩ ?_ ?_ ((fg.1 0 (by omega)).trans mB_0)
      · rw [hcl _ _ e1, iEQ_t rfl]
      · rw [hml _ _ e2, iEQ_t rfl, xf.1]
  · refine oT_ex (k := 0) (ex := 0) (v := .int (nI 0)) (RR_ro RGh RIh frm_rf (frU_sS frU_Z (by omega))) rfl ?_ ?_ sS_s
    · rw [eX10_load, QX10_load_0]
      simp (disch := omega) only [ble_t, Bool.and_self, gO_8 b0, gR_8_0 b0, gR_8_1 b0, gR_8_2 b0, gR_8_3 b0, gR_8_4 b0, gI_8_5 b0, gP_8_5 b0, gI_8_6 b0, gP_8_6 b0, cI_s, cL_s, cF_s, cD_s, cA_s, cV_s, nI_add, cond_true, cond_false, if_true, if_false]
      rw [c_len_f hc RIh.1 hl h]
      simp (disch := omega) only [cV_x, cI_s, cL_s, cF_s, cD_s, cA_s, cV_s, nI_add, cond_true, cond_false, if_true, if_false]
    · rw [eX11_load, QX11_load_0]
      simp (disch := omega) only [gO_9 hM0, gI_9_0 hM0, gP_9_0 hM0, gR_9_1 hM0, gR_9_2 hM0, gI_9_3 hM0, gP_9_3 hM0, gI_9_4 hM0, gP_9_4 hM0, gR_9_5 hM0, gR_9_6 hM0, gR_9_7 hM0, gI_9_8 hM0, gP_9_8 hM0, gI_9_9 hM0, gP_9_9 hM0, gI_9_10 hM0, gP_9_10 hM0, gI_9_11 hM0, gP_9_11 hM0, gI_9_12 hM0, gP_9_12 hM0, gI_9_13 hM0, gP_9_13 hM0, gI_9_14 hM0, gP_9_14 hM0, gI_9_15 hM0, gP_9_15 hM0, gI_9_16 hM0, gP_9_16 hM0, gR_9_17 hM0, gR_9_18 hM0, gR_9_19 hM0, gR_9_20 hM0, gI_9_21 hM0, gP_9_21 hM0, gI_9_22 hM0, gP_9_22 hM0, gI_9_23 hM0, gP_9_23 hM0, gI_9_24 hM0, gP_9_24 hM0, gR_9_25 hM0, gI_9_26 hM0, gP_9_26 hM0, gI_9_27 hM0, gP_9_27 hM0, gI_9_28 hM0, gP_9_28 hM0, gL_9_29 hM0, gP_9_29 hM0, gL_9_30 hM0, gP_9_30 hM0, cI_s, cL_s, cF_s, cD_s, cA_s, cV_s, nI_add, cond_true, cond_false, if_true, if_false]
      rw [m_starts_f RIh.2.1 hl h]
      simp (disch := omega) only [iEQ_t, cI_s, cL_s, cF_s, cD_s, cA_s, cV_s, nI_add, cond_true, cond_false, if_true, if_false]
end LD
