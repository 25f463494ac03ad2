/-! CALLS THAT CHANGE: blinks; what would be caught. -/
section CH4
variable {E : xEn} {x y n m : Nat} {sh : Nat → Option xSh} {S M : xSt} {Bd : Nat}
def gTel (a b : Nat) (g : Nat → Nat) : Nat → Nat := updN (updN (updN g (45 + 2 * g 10) a) (45 + 2 * g 10 + 1) b) 10 (g 10 + 1)
theorem gTel_o {a b i : Nat} {g : Nat → Nat} (h10 : g 10 < 8) (h : i < 45 ∨ 61 ≤ i) (h2 : i ≠ 10) : gTel a b g i = g i := by
  unfold gTel
  rw [updN_n h2, updN_n (by omega), updN_n (by omega)]
theorem iG_tel {a b : Nat} {g : Nat → Nat} (I : iG g) (h10 : g 10 < 8) : iG (gTel a b g) :=
  iG_cg I (fun i hi _ _ _ h _ => gTel_o h10 (Or.inl hi) h) (by rw [gTel_o h10 (by omega) (by omega)]; exact I.1.2.2.2.2.2.2.2.2.1) (by unfold gTel; rw [updN_s]; omega) (fun p hp => by rw [gTel_o h10 (by omega) (by omega)]; exact I.2.2.2.2.1 p hp)
theorem pG_tel {S S' : xSt} {q a b : Nat} {g : Nat → Nat} (I : iG g) (h10 : g 10 < 8) (P : pG S q g) (f : frm (q + 6) (q + 9) S S') (hB : pBk S' (q + 6) (gTel a b g)) : pG S' q (gTel a b g) := by
  obtain ⟨P1, P2, P3b, P4, e1, e2, e3, e4, e5⟩ := P
  have o : ∀ i, i < 45 ∨ 61 ≤ i → i ≠ 10 → gTel a b g i = g i := fun i h h2 => gTel_o h10 h h2
  obtain ⟨m1, m2, m3, m4, m5⟩ := pMd_fr f (by omega) P2
  have h8 := I.1.2.1
  refine ⟨pRw_cg (o 0 (by omega) (by omega)) (o 1 (by omega) (by omega)) (fun i a b => o i (by omega) (by omega)) I.2.1 I.1.2.1 (pRw_fr f (by omega) P1), ⟨?_, ?_, ?_, ?_, fun p hp => ?_⟩, hB, pFo_cg (o 11 (by omega) (by omega)) (fun i a => o i (by omega) (by omega)) (pFo_fr f (by omega) P4), ?_, ?_, ?_, ?_, ?_⟩
  · rw [o 0 (by omega) (by omega)]; exact m1
  · rw [o 4 (by omega) (by omega)]; exact m2
  · rw [o 5 (by omega) (by omega)]; exact m3
  · rw [o 6 (by omega) (by omega)]; exact m4
  · rw [o 0 (by omega) (by omega)] at hp
    rw [o (36 + p) (by omega) (by omega)]; exact m5 p hp
  · rw [frm_1 f (by omega), o 2 (by omega) (by omega)]; exact e1
  · rw [frm_1 f (by omega), o 3 (by omega) (by omega)]; exact e2
  · rw [frm_1 f (by omega), o 7 (by omega) (by omega)]; exact e3
  · rw [frm_1 f (by omega), o 8 (by omega) (by omega)]; exact e4
  · rw [frm_1 f (by omega), o 9 (by omega) (by omega)]; exact e5
theorem T_blink (hc : hC sh) (R : RR S M Bd) (a b : Int32) (d u : Nat) : oT E x y n m sh [0, 2] (Bd + 1) 0 (xsem xT E (d + 4) kX10_blink [.ref x, .int a, .int b] (wW E x sh S, n)) (xsem xT E (u + 3) kX11_blink [.ref y, .int a, .int b] (wW E y shM M, m)) := by
  obtain ⟨gs, w, un, tx, len, RGh, RIh⟩ := R
  obtain ⟨c5, c6, c3, c4, hw, hun⟩ := RGh.1
  obtain ⟨P, G, I, F, t2, t3⟩ := RGh.2 0 (Nat.zero_le _)
  rw [ix_0 hw] at P G
  have hw' : (w + 1) % 9 < 9 := Nat.mod_lt _ (by omega)
  have b0 := hc.1
  have hG := hc.2.2.2.2.2.2 w hw
  have hG' := hc.2.2.2.2.2.2 _ hw'
  have b2 := hG.1
  have b2' := hG'.1
  have h2 := I.1.1
  have h8 := I.1.2.1
  have hgm := fun d => c_game (E := E) (x := x) (n := n) hc c5 hw d
  have GZ := GM_Z c3 hw G
  have b6 : sh (27 + 12 * w + 6) = some (sh0 (27 + 12 * w + 6)) := hG.2.2.2.2.2.2.1
  have b6' : sh (27 + 12 * ((w + 1) % 9) + 6) = some (sh0 (27 + 12 * ((w + 1) % 9) + 6)) := hG'.2.2.2.2.2.2.1
  have b61' : sh (27 + 12 * ((w + 1) % 9) + 6 + 1) = some (1, 8, []) := hG'.2.2.2.2.2.2.2.1
  have b62' : sh (27 + 12 * ((w + 1) % 9) + 6 + 2) = some (1, 8, []) := hG'.2.2.2.2.2.2.2.2.1
  have c10 := I.1.2.2.2.2.2.2.2.2.2
  have h23 : qX10_blink_23 E (d + 3) 0 0 (wW E x sh S, n) = some (.inr (xexc 0), (wW E x sh S, n)) := by
    rw [QX10_blink_23]
    simp (disch := omega) only [ble_t, Bool.and_self, cI_s, cL_s, cF_s, cD_s, cA_s, cV_s, nI_add, cond_true, cond_false, if_true, if_false]
  have h33 : qX11_blink_33 E (u + 2) y a b y (nI 0) (wW E y shM (mZ M), m) = some (.inl (some (.int (nI 0))), (wW E y shM (sS (mZ M) 0 0 (nI 1)), m)) := by
    rw [QX11_blink_33]
    simp (disch := omega) only [gO_9 hM0, gI_9_0 hM0, gP_9_0 hM0, gR_9_1 hM0, gR_9_2 hM0, gI_9_3 hM0, gP_9_3 hM0, gI_9_4 hM0, gP_9_4 hM0, gR_9_5 hM0, gR_9_6 hM0, gR_9_7 hM0, gI_9_8 hM0, gP_9_8 hM0, gI_9_9 hM0, gP_9_9 hM0, gI_9_10 hM0, gP_9_10 hM0, gI_9_11 hM0, gP_9_11 hM0, gI_9_12 hM0, gP_9_12 hM0, gI_9_13 hM0, gP_9_13 hM0, gI_9_14 hM0, gP_9_14 hM0, gI_9_15 hM0, gP_9_15 hM0, gI_9_16 hM0, gP_9_16 hM0, gR_9_17 hM0, gR_9_18 hM0, gR_9_19 hM0, gR_9_20 hM0, gI_9_21 hM0, gP_9_21 hM0, gI_9_22 hM0, gP_9_22 hM0, gI_9_23 hM0, gP_9_23 hM0, gI_9_24 hM0, gP_9_24 hM0, gR_9_25 hM0, gI_9_26 hM0, gP_9_26 hM0, gI_9_27 hM0, gP_9_27 hM0, gI_9_28 hM0, gP_9_28 hM0, gL_9_29 hM0, gP_9_29 hM0, gL_9_30 hM0, gP_9_30 hM0, cI_s, cL_s, cF_s, cD_s, cA_s, cV_s, nI_add, cond_true, cond_false, if_true, if_false]
    rw [m_right0 mZ_0 (by omega) (by omega)]
    simp (disch := omega) only [iEQ_t, QX11_blink_64, cI_s, cL_s, cF_s, cD_s, cA_s, cV_s, nI_add, cond_true, cond_false, if_true, if_false]
  have hml : xsem xT E (u + 3) kX11_blink [.ref y, .int a, .int b] (wW E y shM M, m) = if nI 0 ≤ a ∧ a ≤ nI 9999 then (if a ≤ b ∧ b ≤ nI 9999 then qX11_blink_33 E (u + 2) y a b y (nI 1) (wW E y shM (mZ M), m) else some (.inl (some (.int (nI 0))), (wW E y shM (sS (mZ M) 0 0 (nI 1)), m))) else some (.inl (some (.int (nI 0))), (wW E y shM (sS (mZ M) 0 0 (nI 1)), m)) := by
    rw [eX11_blink, QX11_blink_0]
    simp (disch := omega) only [gO_9 hM0, gI_9_0 hM0, gP_9_0 hM0, gR_9_1 hM0, gR_9_2 hM0, gI_9_3 hM0, gP_9_3 hM0, gI_9_4 hM0, gP_9_4 hM0, gR_9_5 hM0, gR_9_6 hM0, gR_9_7 hM0, gI_9_8 hM0, gP_9_8 hM0, gI_9_9 hM0, gP_9_9 hM0, gI_9_10 hM0, gP_9_10 hM0, gI_9_11 hM0, gP_9_11 hM0, gI_9_12 hM0, gP_9_12 hM0, gI_9_13 hM0, gP_9_13 hM0, gI_9_14 hM0, gP_9_14 hM0, gI_9_15 hM0, gP_9_15 hM0, gI_9_16 hM0, gP_9_16 hM0, gR_9_17 hM0, gR_9_18 hM0, gR_9_19 hM0, gR_9_20 hM0, gI_9_21 hM0, gP_9_21 hM0, gI_9_22 hM0, gP_9_22 hM0, gI_9_23 hM0, gP_9_23 hM0, gI_9_24 hM0, gP_9_24 hM0, gR_9_25 hM0, gI_9_26 hM0, gP_9_26 hM0, gI_9_27 hM0, gP_9_27 hM0, gI_9_28 hM0, gP_9_28 hM0, gL_9_29 hM0, gP_9_29 hM0, gL_9_30 hM0, gP_9_30 hM0, m_isIn, cI_s, cL_s, cF_s, cD_s, cA_s, cV_s, nI_add, cond_true, cond_false, if_true, if_false]
    rw [show sS M 0 0 (nI 0) = mZ M from rfl]
    by_cases c1 : nI 0 ≤ a ∧ a ≤ nI 9999
    · rw [if_pos c1, if_pos c1]
      simp (disch := omega) only [iEQ_f, m_isIn, cI_s, cL_s, cF_s, cD_s, cA_s, cV_s, nI_add, cond_true, cond_false, if_true, if_false]
      by_cases c2 : a ≤ b ∧ b ≤ nI 9999
      · rw [if_pos c2, if_pos c2]
        simp (disch := omega) only [iEQ_f, cI_s, cL_s, cF_s, cD_s, cA_s, cV_s, nI_add, cond_true, cond_false, if_true, if_false]
      · rw [if_neg c2, if_neg c2]
        simp (disch := omega) only [iEQ_t, QX11_blink_32, cI_s, cL_s, cF_s, cD_s, cA_s, cV_s, nI_add, cond_true, cond_false, if_true, if_false]
        exact h33
    · rw [if_neg c1, if_neg c1]
      simp (disch := omega) only [iEQ_t, QX11_blink_32, cI_s, cL_s, cF_s, cD_s, cA_s, cV_s, nI_add, cond_true, cond_false, if_true, if_false]
      exact h33
  have hcl : xsem xT E (d + 4) kX10_blink [.ref x, .int a, .int b] (wW E x sh S, n) = if nI 0 ≤ a ∧ a ≤ nI 9999 then (if a ≤ b ∧ b ≤ nI 9999 then qX10_blink_33 E (d + 3) 0 0 x a b (wW E x sh S, n) else some (.inr (xexc 0), (wW E x sh S, n))) else some (.inr (xexc 0), (wW E x sh S, n)) := by
    rw [eX10_blink, QX10_blink_0]
    by_cases z1 : a < nI 0
    · rw [if_pos z1, if_neg (fun z => Int32.not_le.2 z1 z.1)]; exact h23
    · rw [if_neg z1]
      by_cases z2 : nI 9999 < a
      · rw [if_pos z2, if_neg (fun z => Int32.not_le.2 z2 z.2)]; exact h23
      · rw [if_neg z2, if_pos (show nI 0 ≤ a ∧ a ≤ nI 9999 from ⟨Int32.not_lt.1 z1, Int32.not_lt.1 z2⟩)]
        by_cases z3 : b < a
        · rw [if_pos z3, if_neg (fun z : a ≤ b ∧ b ≤ nI 9999 => Int32.not_le.2 z3 z.1)]; exact h23
        · rw [if_neg z3]
          by_cases z4 : b ≤ nI 9999
          · rw [if_pos z4, if_pos (show a ≤ b ∧ b ≤ nI 9999 from ⟨Int32.not_lt.1 z3, z4⟩)]
          · rw [if_neg z4, if_neg (fun z => z4 z.2)]; exact h23
  have hbad : xsem xT E (d + 4) kX10_blink [.ref x, .int a, .int b] (wW E x sh S, n) = some (.inr (xexc 0), (wW E x sh S, n)) → xsem xT E (u + 3) kX11_blink [.ref y, .int a, .int b] (wW E y shM M, m) = some (.inl (some (.int (nI 0))), (wW E y shM (sS (mZ M) 0 0 (nI 1)), m)) → oT E x y n m sh [0, 2] (Bd + 1) 0 (xsem xT E (d + 4) kX10_blink [.ref x, .int a, .int b] (wW E x sh S, n)) (xsem xT E (u + 3) kX11_blink [.ref y, .int a, .int b] (wW E y shM M, m)) :=
    fun z1 z2 => oT_ex (k := 0) (ex := 0) (v := .int (nI 0)) (RR_mo (RR_ro RGh RIh frm_rf (frU_sS frU_Z (by omega))) (by omega)) rfl z1 z2 sS_s
  by_cases c1 : nI 0 ≤ a ∧ a ≤ nI 9999
  · by_cases c2 : a ≤ b ∧ b ≤ nI 9999
    · rw [if_pos c1, if_pos c2] at hcl hml
      rw [hcl, hml]
      obtain ⟨p, hp, rfl⟩ := (i32_c a (b := 10000) (by omega)).resolve_right (fun z => by
        rcases z with z | z
        · exact absurd (Int32.lt_of_le_of_lt c1.1 z) (by decide)
        · exact nI_ge (show 9999 < 10000 by omega) (by omega) (Int32.le_trans z c1.2))
      obtain ⟨q, hq, rfl⟩ := (i32_c b (b := 10000) (by omega)).resolve_right (fun z => by
        rcases z with z | z
        · exact absurd (Int32.lt_of_le_of_lt (Int32.le_trans c1.1 c2.1) z) (by decide)
        · exact nI_ge (show 9999 < 10000 by omega) (by omega) (Int32.le_trans z c2.2))
      have hfull := s0_isFull (E := E) (x := x) (n := n) b6 P.2.2.1 c10 (d + 2)
      by_cases hf : 8 ≤ gs 0 10
      · rw [if_pos hf] at hfull
        refine oT_ex (k := 1) (ex := 2) (v := .int (nI 0)) (RR_mo (RR_ro RGh RIh frm_rf (frU_sS frU_Z (by omega))) (by omega)) rfl ?_ ?_ sS_s
        · rw [QX10_blink_33]
          simp (disch := omega) only [ble_t, Bool.and_self, gO_8 b0, gR_8_0 b0, gR_8_1 b0, gR_8_2 b0, gR_8_3 b0, gR_8_4 b0, gI_8_5 b0, gP_8_5 b0, gI_8_6 b0, gP_8_6 b0, hgm, gO_2 b2, gR_2_0 b2, gR_2_1 b2, gR_2_2 b2, gR_2_3 b2, gI_2_4 b2, gP_2_4 b2, gI_2_5 b2, gP_2_5 b2, gI_2_6 b2, gP_2_6 b2, gI_2_7 b2, gP_2_7 b2, gI_2_8 b2, gP_2_8 b2, gO_0 b6, gR_0_0 b6, gR_0_1 b6, gI_0_2 b6, gP_0_2 b6, cI_s, cL_s, cF_s, cD_s, cA_s, cV_s, nI_add, cond_true, cond_false, if_true, if_false]
          rw [hfull]
          simp (disch := omega) only [iEQ_f, cI_s, cL_s, cF_s, cD_s, cA_s, cV_s, nI_add, cond_true, cond_false, if_true, if_false]
        · rw [QX11_blink_33]
          simp (disch := omega) only [gO_9 hM0, gI_9_0 hM0, gP_9_0 hM0, gR_9_1 hM0, gR_9_2 hM0, gI_9_3 hM0, gP_9_3 hM0, gI_9_4 hM0, gP_9_4 hM0, gR_9_5 hM0, gR_9_6 hM0, gR_9_7 hM0, gI_9_8 hM0, gP_9_8 hM0, gI_9_9 hM0, gP_9_9 hM0, gI_9_10 hM0, gP_9_10 hM0, gI_9_11 hM0, gP_9_11 hM0, gI_9_12 hM0, gP_9_12 hM0, gI_9_13 hM0, gP_9_13 hM0, gI_9_14 hM0, gP_9_14 hM0, gI_9_15 hM0, gP_9_15 hM0, gI_9_16 hM0, gP_9_16 hM0, gR_9_17 hM0, gR_9_18 hM0, gR_9_19 hM0, gR_9_20 hM0, gI_9_21 hM0, gP_9_21 hM0, gI_9_22 hM0, gP_9_22 hM0, gI_9_23 hM0, gP_9_23 hM0, gI_9_24 hM0, gP_9_24 hM0, gR_9_25 hM0, gI_9_26 hM0, gP_9_26 hM0, gI_9_27 hM0, gP_9_27 hM0, gI_9_28 hM0, gP_9_28 hM0, gL_9_29 hM0, gP_9_29 hM0, gL_9_30 hM0, gP_9_30 hM0, cI_s, cL_s, cF_s, cD_s, cA_s, cV_s, nI_add, cond_true, cond_false, if_true, if_false]
          rw [m_right1 mZ_0]
          simp (disch := omega) only [iEQ_f, gO_9 hM0, gI_9_0 hM0, gP_9_0 hM0, gR_9_1 hM0, gR_9_2 hM0, gI_9_3 hM0, gP_9_3 hM0, gI_9_4 hM0, gP_9_4 hM0, gR_9_5 hM0, gR_9_6 hM0, gR_9_7 hM0, gI_9_8 hM0, gP_9_8 hM0, gI_9_9 hM0, gP_9_9 hM0, gI_9_10 hM0, gP_9_10 hM0, gI_9_11 hM0, gP_9_11 hM0, gI_9_12 hM0, gP_9_12 hM0, gI_9_13 hM0, gP_9_13 hM0, gI_9_14 hM0, gP_9_14 hM0, gI_9_15 hM0, gP_9_15 hM0, gI_9_16 hM0, gP_9_16 hM0, gR_9_17 hM0, gR_9_18 hM0, gR_9_19 hM0, gR_9_20 hM0, gI_9_21 hM0, gP_9_21 hM0, gI_9_22 hM0, gP_9_22 hM0, gI_9_23 hM0, gP_9_23 hM0, gI_9_24 hM0, gP_9_24 hM0, gR_9_25 hM0, gI_9_26 hM0, gP_9_26 hM0, gI_9_27 hM0, gP_9_27 hM0, gI_9_28 hM0, gP_9_28 hM0, gL_9_29 hM0, gP_9_29 hM0, gL_9_30 hM0, gP_9_30 hM0, cI_s, cL_s, cF_s, cD_s, cA_s, cV_s, nI_add, cond_true, cond_false, if_true, if_false]
          rw [g_get GZ (show 10 < 1100 by omega)]
          simp (disch := omega) only [iLE_t hf, QX11_blink_56, QX11_blink_57, gO_9 hM0, gI_9_0 hM0, gP_9_0 hM0, gR_9_1 hM0, gR_9_2 hM0, gI_9_3 hM0, gP_9_3 hM0, gI_9_4 hM0, gP_9_4 hM0, gR_9_5 hM0, gR_9_6 hM0, gR_9_7 hM0, gI_9_8 hM0, gP_9_8 hM0, gI_9_9 hM0, gP_9_9 hM0, gI_9_10 hM0, gP_9_10 hM0, gI_9_11 hM0, gP_9_11 hM0, gI_9_12 hM0, gP_9_12 hM0, gI_9_13 hM0, gP_9_13 hM0, gI_9_14 hM0, gP_9_14 hM0, gI_9_15 hM0, gP_9_15 hM0, gI_9_16 hM0, gP_9_16 hM0, gR_9_17 hM0, gR_9_18 hM0, gR_9_19 hM0, gR_9_20 hM0, gI_9_21 hM0, gP_9_21 hM0, gI_9_22 hM0, gP_9_22 hM0, gI_9_23 hM0, gP_9_23 hM0, gI_9_24 hM0, gP_9_24 hM0, gR_9_25 hM0, gI_9_26 hM0, gP_9_26 hM0, gI_9_27 hM0, gP_9_27 hM0, gI_9_28 hM0, gP_9_28 hM0, gL_9_29 hM0, gP_9_29 hM0, gL_9_30 hM0, gP_9_30 hM0, cI_s, cL_s, cF_s, cD_s, cA_s, cV_s, nI_add, cond_true, cond_false, if_true, if_false]
          rw [m_right0 mZ_0 (by omega) (by omega)]
          simp (disch := omega) only [iEQ_t, QX11_blink_64, cI_s, cL_s, cF_s, cD_s, cA_s, cV_s, nI_add, cond_true, cond_false, if_true, if_false]
      · have h10 : gs 0 10 < 8 := by omega
        rw [if_neg hf] at hfull
        obtain ⟨S1, M1, a1, a2, a3, a4, a5, a6, e1, e2, e3, e4, e5, e6, e7⟩ := j_change (E := E) (x := x) (y := y) (n := n) (m := m) hc RGh d u
        obtain ⟨S2, f1, f2, f3⟩ := s0_tell (E := E) (x := x) (n := n) b6' b61' b62' a4.2.2.1 h10 p q (d + 2)
        obtain ⟨M2, g1, G2, fs2⟩ := g_put (E := E) (y := y) (m := m) e2 (k := 45 + 2 * gs 0 10) (v := p) (by omega) (u + 1)
        obtain ⟨M3, g2, G3, fs3⟩ := g_put (E := E) (y := y) (m := m) G2 (k := 45 + 2 * gs 0 10 + 1) (v := q) (by omega) (u + 1)
        have e10 : updN (updN (gs 0) (45 + 2 * gs 0 10) p) (45 + 2 * gs 0 10 + 1) q 10 = gs 0 10 := by rw [updN_n (by omega), updN_n (by omega)]
        obtain ⟨M4, g3, G4, fs4⟩ := g_put (E := E) (y := y) (m := m) G3 (k := 10) (v := gs 0 10 + 1) (by omega) (u + 1)
        have G4 : GM M4 ((w + 1) % 9) (gTel p q (gs 0)) := G4
        have P2 := pG_tel I h10 a4 f2 f3
        have o : ∀ i, i < 45 ∨ 61 ≤ i → i ≠ 10 → gTel p q (gs 0) i = gs 0 i := fun i h h2 => gTel_o h10 h h2
        have F' : iFo (gTel p q (gs 0)) := iFo_cg (o 11 (by omega) (by omega)) (fun i hi => o i (by omega) (by omega)) F
        have k10 : S2.1 (27 + 12 * ((w + 1) % 9) + 6) 2 = nI (gs 0 10 + 1) := by
          rw [f3.1, updN_s]
        refine oT_ok (RR_st RGh RIh (by omega) a2 a3 a5 e3 e4 e6 e7 (frm_mo f2 (by omega) (by omega)) P2 G4 (frS_tr fs2 (frS_tr fs3 fs4)) (iG_tel I h10) F' (by rw [o 2 (by omega) (by omega)]; omega) (by rw [o 3 (by omega) (by omega)]; omega)) (v := .int (nI (gs 0 10 + 1))) ?_ ?_ (by rw [fs4.1, fs3.1, fs2.1]; exact e5)
        · rw [QX10_blink_33]
          simp (disch := omega) only [ble_t, Bool.and_self, gO_8 b0, gR_8_0 b0, gR_8_1 b0, gR_8_2 b0, gR_8_3 b0, gR_8_4 b0, gI_8_5 b0, gP_8_5 b0, gI_8_6 b0, gP_8_6 b0, hgm, gO_2 b2, gR_2_0 b2, gR_2_1 b2, gR_2_2 b2, gR_2_3 b2, gI_2_4 b2, gP_2_4 b2, gI_2_5 b2, gP_2_5 b2, gI_2_6 b2, gP_2_6 b2, gI_2_7 b2, gP_2_7 b2, gI_2_8 b2, gP_2_8 b2, gO_0 b6, gR_0_0 b6, gR_0_1 b6, gI_0_2 b6, gP_0_2 b6, cI_s, cL_s, cF_s, cD_s, cA_s, cV_s, nI_add, cond_true, cond_false, if_true, if_false]
          rw [hfull]
          simp (disch := omega) only [iEQ_t, QX10_blink_57, ble_t, Bool.and_self, gO_8 b0, gR_8_0 b0, gR_8_1 b0, gR_8_2 b0, gR_8_3 b0, gR_8_4 b0, gI_8_5 b0, gP_8_5 b0, gI_8_6 b0, gP_8_6 b0, cI_s, cL_s, cF_s, cD_s, cA_s, cV_s, nI_add, cond_true, cond_false, if_true, if_false]
          rw [a1]
          simp (disch := omega) only [ble_t, Bool.and_self, gO_2 b2', gR_2_0 b2', gR_2_1 b2', gR_2_2 b2', gR_2_3 b2', gI_2_4 b2', gP_2_4 b2', gI_2_5 b2', gP_2_5 b2', gI_2_6 b2', gP_2_6 b2', gI_2_7 b2', gP_2_7 b2', gI_2_8 b2', gP_2_8 b2', gO_0 b6', gR_0_0 b6', gR_0_1 b6', gI_0_2 b6', gP_0_2 b6', cI_s, cL_s, cF_s, cD_s, cA_s, cV_s, nI_add, cond_true, cond_false, if_true, if_false]
          rw [f1]
          simp (disch := omega) only [gO_0 b6', gR_0_0 b6', gR_0_1 b6', gI_0_2 b6', gP_0_2 b6', k10, cI_s, cL_s, cF_s, cD_s, cA_s, cV_s, nI_add, cond_true, cond_false, if_true, if_false]
        · have hg4 : gTel p q (gs 0) 10 = gs 0 10 + 1 := updN_s
          rw [QX11_blink_33]
          simp (disch := omega) only [gO_9 hM0, gI_9_0 hM0, gP_9_0 hM0, gR_9_1 hM0, gR_9_2 hM0, gI_9_3 hM0, gP_9_3 hM0, gI_9_4 hM0, gP_9_4 hM0, gR_9_5 hM0, gR_9_6 hM0, gR_9_7 hM0, gI_9_8 hM0, gP_9_8 hM0, gI_9_9 hM0, gP_9_9 hM0, gI_9_10 hM0, gP_9_10 hM0, gI_9_11 hM0, gP_9_11 hM0, gI_9_12 hM0, gP_9_12 hM0, gI_9_13 hM0, gP_9_13 hM0, gI_9_14 hM0, gP_9_14 hM0, gI_9_15 hM0, gP_9_15 hM0, gI_9_16 hM0, gP_9_16 hM0, gR_9_17 hM0, gR_9_18 hM0, gR_9_19 hM0, gR_9_20 hM0, gI_9_21 hM0, gP_9_21 hM0, gI_9_22 hM0, gP_9_22 hM0, gI_9_23 hM0, gP_9_23 hM0, gI_9_24 hM0, gP_9_24 hM0, gR_9_25 hM0, gI_9_26 hM0, gP_9_26 hM0, gI_9_27 hM0, gP_9_27 hM0, gI_9_28 hM0, gP_9_28 hM0, gL_9_29 hM0, gP_9_29 hM0, gL_9_30 hM0, gP_9_30 hM0, cI_s, cL_s, cF_s, cD_s, cA_s, cV_s, nI_add, cond_true, cond_false, if_true, if_false]
          rw [m_right1 mZ_0]
          simp (disch := omega) only [iEQ_f, gO_9 hM0, gI_9_0 hM0, gP_9_0 hM0, gR_9_1 hM0, gR_9_2 hM0, gI_9_3 hM0, gP_9_3 hM0, gI_9_4 hM0, gP_9_4 hM0, gR_9_5 hM0, gR_9_6 hM0, gR_9_7 hM0, gI_9_8 hM0, gP_9_8 hM0, gI_9_9 hM0, gP_9_9 hM0, gI_9_10 hM0, gP_9_10 hM0, gI_9_11 hM0, gP_9_11 hM0, gI_9_12 hM0, gP_9_12 hM0, gI_9_13 hM0, gP_9_13 hM0, gI_9_14 hM0, gP_9_14 hM0, gI_9_15 hM0, gP_9_15 hM0, gI_9_16 hM0, gP_9_16 hM0, gR_9_17 hM0, gR_9_18 hM0, gR_9_19 hM0, gR_9_20 hM0, gI_9_21 hM0, gP_9_21 hM0, gI_9_22 hM0, gP_9_22 hM0, gI_9_23 hM0, gP_9_23 hM0, gI_9_24 hM0, gP_9_24 hM0, gR_9_25 hM0, gI_9_26 hM0, gP_9_26 hM0, gI_9_27 hM0, gP_9_27 hM0, gI_9_28 hM0, gP_9_28 hM0, gL_9_29 hM0, gP_9_29 hM0, gL_9_30 hM0, gP_9_30 hM0, cI_s, cL_s, cF_s, cD_s, cA_s, cV_s, nI_add, cond_true, cond_false, if_true, if_false]
          rw [g_get GZ (show 10 < 1100 by omega)]
          simp (disch := omega) only [iLE_f, QX11_blink_57, gO_9 hM0, gI_9_0 hM0, gP_9_0 hM0, gR_9_1 hM0, gR_9_2 hM0, gI_9_3 hM0, gP_9_3 hM0, gI_9_4 hM0, gP_9_4 hM0, gR_9_5 hM0, gR_9_6 hM0, gR_9_7 hM0, gI_9_8 hM0, gP_9_8 hM0, gI_9_9 hM0, gP_9_9 hM0, gI_9_10 hM0, gP_9_10 hM0, gI_9_11 hM0, gP_9_11 hM0, gI_9_12 hM0, gP_9_12 hM0, gI_9_13 hM0, gP_9_13 hM0, gI_9_14 hM0, gP_9_14 hM0, gI_9_15 hM0, gP_9_15 hM0, gI_9_16 hM0, gP_9_16 hM0, gR_9_17 hM0, gR_9_18 hM0, gR_9_19 hM0, gR_9_20 hM0, gI_9_21 hM0, gP_9_21 hM0, gI_9_22 hM0, gP_9_22 hM0, gI_9_23 hM0, gP_9_23 hM0, gI_9_24 hM0, gP_9_24 hM0, gR_9_25 hM0, gI_9_26 hM0, gP_9_26 hM0, gI_9_27 hM0, gP_9_27 hM0, gI_9_28 hM0, gP_9_28 hM0, gL_9_29 hM0, gP_9_29 hM0, gL_9_30 hM0, gP_9_30 hM0, cI_s, cL_s, cF_s, cD_s, cA_s, cV_s, nI_add, cond_true, cond_false, if_true, if_false]
          rw [m_right1 mZ_0]
          simp (disch := omega) only [iEQ_f, QX11_blink_66, gO_9 hM0, gI_9_0 hM0, gP_9_0 hM0, gR_9_1 hM0, gR_9_2 hM0, gI_9_3 hM0, gP_9_3 hM0, gI_9_4 hM0, gP_9_4 hM0, gR_9_5 hM0, gR_9_6 hM0, gR_9_7 hM0, gI_9_8 hM0, gP_9_8 hM0, gI_9_9 hM0, gP_9_9 hM0, gI_9_10 hM0, gP_9_10 hM0, gI_9_11 hM0, gP_9_11 hM0, gI_9_12 hM0, gP_9_12 hM0, gI_9_13 hM0, gP_9_13 hM0, gI_9_14 hM0, gP_9_14 hM0, gI_9_15 hM0, gP_9_15 hM0, gI_9_16 hM0, gP_9_16 hM0, gR_9_17 hM0, gR_9_18 hM0, gR_9_19 hM0, gR_9_20 hM0, gI_9_21 hM0, gP_9_21 hM0, gI_9_22 hM0, gP_9_22 hM0, gI_9_23 hM0, gP_9_23 hM0, gI_9_24 hM0, gP_9_24 hM0, gR_9_25 hM0, gI_9_26 hM0, gP_9_26 hM0, gI_9_27 hM0, gP_9_27 hM0, gI_9_28 hM0, gP_9_28 hM0, gL_9_29 hM0, gP_9_29 hM0, gL_9_30 hM0, gP_9_30 hM0, cI_s, cL_s, cF_s, cD_s, cA_s, cV_s, nI_add, cond_true, cond_false, if_true, if_false]
          rw [e1]
          simp (disch := omega) only [gO_9 hM0, gI_9_0 hM0, gP_9_0 hM0, gR_9_1 hM0, gR_9_2 hM0, gI_9_3 hM0, gP_9_3 hM0, gI_9_4 hM0, gP_9_4 hM0, gR_9_5 hM0, gR_9_6 hM0, gR_9_7 hM0, gI_9_8 hM0, gP_9_8 hM0, gI_9_9 hM0, gP_9_9 hM0, gI_9_10 hM0, gP_9_10 hM0, gI_9_11 hM0, gP_9_11 hM0, gI_9_12 hM0, gP_9_12 hM0, gI_9_13 hM0, gP_9_13 hM0, gI_9_14 hM0, gP_9_14 hM0, gI_9_15 hM0, gP_9_15 hM0, gI_9_16 hM0, gP_9_16 hM0, gR_9_17 hM0, gR_9_18 hM0, gR_9_19 hM0, gR_9_20 hM0, gI_9_21 hM0, gP_9_21 hM0, gI_9_22 hM0, gP_9_22 hM0, gI_9_23 hM0, gP_9_23 hM0, gI_9_24 hM0, gP_9_24 hM0, gR_9_25 hM0, gI_9_26 hM0, gP_9_26 hM0, gI_9_27 hM0, gP_9_27 hM0, gI_9_28 hM0, gP_9_28 hM0, gL_9_29 hM0, gP_9_29 hM0, gL_9_30 hM0, gP_9_30 hM0, cI_s, cL_s, cF_s, cD_s, cA_s, cV_s, nI_add, cond_true, cond_false, if_true, if_false]
          rw [g_get e2 (show 10 < 1100 by omega)]
          simp (disch := omega) only [pk_mul, gO_9 hM0, gI_9_0 hM0, gP_9_0 hM0, gR_9_1 hM0, gR_9_2 hM0, gI_9_3 hM0, gP_9_3 hM0, gI_9_4 hM0, gP_9_4 hM0, gR_9_5 hM0, gR_9_6 hM0, gR_9_7 hM0, gI_9_8 hM0, gP_9_8 hM0, gI_9_9 hM0, gP_9_9 hM0, gI_9_10 hM0, gP_9_10 hM0, gI_9_11 hM0, gP_9_11 hM0, gI_9_12 hM0, gP_9_12 hM0, gI_9_13 hM0, gP_9_13 hM0, gI_9_14 hM0, gP_9_14 hM0, gI_9_15 hM0, gP_9_15 hM0, gI_9_16 hM0, gP_9_16 hM0, gR_9_17 hM0, gR_9_18 hM0, gR_9_19 hM0, gR_9_20 hM0, gI_9_21 hM0, gP_9_21 hM0, gI_9_22 hM0, gP_9_22 hM0, gI_9_23 hM0, gP_9_23 hM0, gI_9_24 hM0, gP_9_24 hM0, gR_9_25 hM0, gI_9_26 hM0, gP_9_26 hM0, gI_9_27 hM0, gP_9_27 hM0, gI_9_28 hM0, gP_9_28 hM0, gL_9_29 hM0, gP_9_29 hM0, gL_9_30 hM0, gP_9_30 hM0, cI_s, cL_s, cF_s, cD_s, cA_s, cV_s, nI_add, cond_true, cond_false, if_true, if_false]
          rw [g1]
          simp (disch := omega) only [gO_9 hM0, gI_9_0 hM0, gP_9_0 hM0, gR_9_1 hM0, gR_9_2 hM0, gI_9_3 hM0, gP_9_3 hM0, gI_9_4 hM0, gP_9_4 hM0, gR_9_5 hM0, gR_9_6 hM0, gR_9_7 hM0, gI_9_8 hM0, gP_9_8 hM0, gI_9_9 hM0, gP_9_9 hM0, gI_9_10 hM0, gP_9_10 hM0, gI_9_11 hM0, gP_9_11 hM0, gI_9_12 hM0, gP_9_12 hM0, gI_9_13 hM0, gP_9_13 hM0, gI_9_14 hM0, gP_9_14 hM0, gI_9_15 hM0, gP_9_15 hM0, gI_9_16 hM0, gP_9_16 hM0, gR_9_17 hM0, gR_9_18 hM0, gR_9_19 hM0, gR_9_20 hM0, gI_9_21 hM0, gP_9_21 hM0, gI_9_22 hM0, gP_9_22 hM0, gI_9_23 hM0, gP_9_23 hM0, gI_9_24 hM0, gP_9_24 hM0, gR_9_25 hM0, gI_9_26 hM0, gP_9_26 hM0, gI_9_27 hM0, gP_9_27 hM0, gI_9_28 hM0, gP_9_28 hM0, gL_9_29 hM0, gP_9_29 hM0, gL_9_30 hM0, gP_9_30 hM0, cI_s, cL_s, cF_s, cD_s, cA_s, cV_s, nI_add, cond_true, cond_false, if_true, if_false]
          rw [g2]
          simp (disch := omega) only [gO_9 hM0, gI_9_0 hM0, gP_9_0 hM0, gR_9_1 hM0, gR_9_2 hM0, gI_9_3 hM0, gP_9_3 hM0, gI_9_4 hM0, gP_9_4 hM0, gR_9_5 hM0, gR_9_6 hM0, gR_9_7 hM0, gI_9_8 hM0, gP_9_8 hM0, gI_9_9 hM0, gP_9_9 hM0, gI_9_10 hM0, gP_9_10 hM0, gI_9_11 hM0, gP_9_11 hM0, gI_9_12 hM0, gP_9_12 hM0, gI_9_13 hM0, gP_9_13 hM0, gI_9_14 hM0, gP_9_14 hM0, gI_9_15 hM0, gP_9_15 hM0, gI_9_16 hM0, gP_9_16 hM0, gR_9_17 hM0, gR_9_18 hM0, gR_9_19 hM0, gR_9_20 hM0, gI_9_21 hM0, gP_9_21 hM0, gI_9_22 hM0, gP_9_22 hM0, gI_9_23 hM0, gP_9_23 hM0, gI_9_24 hM0, gP_9_24 hM0, gR_9_25 hM0, gI_9_26 hM0, gP_9_26 hM0, gI_9_27 hM0, gP_9_27 hM0, gI_9_28 hM0, gP_9_28 hM0, gL_9_29 hM0, gP_9_29 hM0, gL_9_30 hM0, gP_9_30 hM0, cI_s, cL_s, cF_s, cD_s, cA_s, cV_s, nI_add, cond_true, cond_false, if_true, if_false]
          rw [g_get G3 (show 10 < 1100 by omega), e10]
          simp (disch := omega) only [gO_9 hM0, gI_9_0 hM0, gP_9_0 hM0, gR_9_1 hM0, gR_9_2 hM0, gI_9_3 hM0, gP_9_3 hM0, gI_9_4 hM0, gP_9_4 hM0, gR_9_5 hM0, gR_9_6 hM0, gR_9_7 hM0, gI_9_8 hM0, gP_9_8 hM0, gI_9_9 hM0, gP_9_9 hM0, gI_9_10 hM0, gP_9_10 hM0, gI_9_11 hM0, gP_9_11 hM0, gI_9_12 hM0, gP_9_12 hM0, gI_9_13 hM0, gP_9_13 hM0, gI_9_14 hM0, gP_9_14 hM0, gI_9_15 hM0, gP_9_15 hM0, gI_9_16 hM0, gP_9_16 hM0, gR_9_17 hM0, gR_9_18 hM0, gR_9_19 hM0, gR_9_20 hM0, gI_9_21 hM0, gP_9_21 hM0, gI_9_22 hM0, gP_9_22 hM0, gI_9_23 hM0, gP_9_23 hM0, gI_9_24 hM0, gP_9_24 hM0, gR_9_25 hM0, gI_9_26 hM0, gP_9_26 hM0, gI_9_27 hM0, gP_9_27 hM0, gI_9_28 hM0, gP_9_28 hM0, gL_9_29 hM0, gP_9_29 hM0, gL_9_30 hM0, gP_9_30 hM0, cI_s, cL_s, cF_s, cD_s, cA_s, cV_s, nI_add, cond_true, cond_false, if_true, if_false]
          rw [g3]
          simp (disch := omega) only [gO_9 hM0, gI_9_0 hM0, gP_9_0 hM0, gR_9_1 hM0, gR_9_2 hM0, gI_9_3 hM0, gP_9_3 hM0, gI_9_4 hM0, gP_9_4 hM0, gR_9_5 hM0, gR_9_6 hM0, gR_9_7 hM0, gI_9_8 hM0, gP_9_8 hM0, gI_9_9 hM0, gP_9_9 hM0, gI_9_10 hM0, gP_9_10 hM0, gI_9_11 hM0, gP_9_11 hM0, gI_9_12 hM0, gP_9_12 hM0, gI_9_13 hM0, gP_9_13 hM0, gI_9_14 hM0, gP_9_14 hM0, gI_9_15 hM0, gP_9_15 hM0, gI_9_16 hM0, gP_9_16 hM0, gR_9_17 hM0, gR_9_18 hM0, gR_9_19 hM0, gR_9_20 hM0, gI_9_21 hM0, gP_9_21 hM0, gI_9_22 hM0, gP_9_22 hM0, gI_9_23 hM0, gP_9_23 hM0, gI_9_24 hM0, gP_9_24 hM0, gR_9_25 hM0, gI_9_26 hM0, gP_9_26 hM0, gI_9_27 hM0, gP_9_27 hM0, gI_9_28 hM0, gP_9_28 hM0, gL_9_29 hM0, gP_9_29 hM0, gL_9_30 hM0, gP_9_30 hM0, cI_s, cL_s, cF_s, cD_s, cA_s, cV_s, nI_add, cond_true, cond_false, if_true, if_false]
          rw [g_get G4 (show 10 < 1100 by omega), hg4]
          simp (disch := omega) only [cI_s, cL_s, cF_s, cD_s, cA_s, cV_s, nI_add, cond_true, cond_false, if_true, if_false]
    · rw [if_pos c1, if_neg c2] at hcl hml
      exact hbad hcl hml
  · rw [if_neg c1] at hcl hml
    exact hbad hcl hml
-- caught
/-- one more step in the draft, on both sides -/
theorem j_caught (hc : hC sh) {tm : Nat} (z0 : Int32) (d u : Nat) :
    ∀ k i times (g : Nat → Nat) (S M : xSt), i + k = tm → tm ≤ 20 → times ≤ i → pG S 14 g → GM M 9 g → iG g →
      ∃ S' M' c, qX10_caught_36 E (d + 6) 0 0 x (nI tm) (nI times) (nI i) (wW E x sh S, n) = some (.inl (some (.int (nI c))), (wW E x sh S', n)) ∧ qX11_caught_68 E (u + 7) y (nI tm) z0 (nI times) (nI i) (wW E y shM M, m) = qX11_caught_122 E (u + 7) y z0 (nI c) (wW E y shM M', m) ∧ frm 11 26 S S' ∧ (∀ k, k < 26 → M'.1 0 k = M.1 0 k) ∧ (∀ i, i < 9900 → M'.2.1 1 i = M.2.1 1 i) ∧ M'.2.1 5 = M.2.1 5 := by
  have b0 := hc.1
  have hT11 := hc.2.2.2.1
  have t0 : sh 11 = some (sh7 11) := hT11.1
  have hG := hc.2.2.2.2.1
  have b2 := hG.1
  have b5 : sh (14 + 1) = some (sh5 (14 + 1)) := hG.2.1
  have b4 : sh (14 + 4) = some (sh4 (14 + 4)) := hG.2.2.2.2.1
  have b41 : sh (14 + 4 + 1) = some (1, 9, []) := hG.2.2.2.2.2.1
  intro k
  induction k with
  | zero =>
    intro i times g S M hi htm htl P G I
    have hi : i = tm := hi
    subst hi
    refine ⟨S, M, times, ?_, ?_, frm_rf, fun _ _ => rfl, fun _ _ => rfl, rfl⟩
    · rw [QX10_caught_36]
      simp (disch := omega) only [iLE_t, QX10_caught_113, cI_s, cL_s, cF_s, cD_s, cA_s, cV_s, nI_add, cond_true, cond_false, if_true, if_false]
    · rw [QX11_caught_68]
      simp (disch := omega) only [iLE_t, cI_s, cL_s, cF_s, cD_s, cA_s, cV_s, nI_add, cond_true, cond_false, if_true, if_false]
  | succ k ih =>
    intro i times g S M hi htm htl P G I
    have h8 := I.1.2.1
    obtain ⟨okb, hz⟩ := gFool_ok I
    obtain ⟨o1, o2, o3, o4⟩ := okb.2.2.2 hz
    obtain ⟨S1, a1, a2, a3⟩ := s9_find (E := E) (x := x) (n := n) hT11 hG (by omega) P I d
    obtain ⟨M1, m1, G1, m3, m4, m5⟩ := g_fools (E := E) (y := y) (m := m) G I u
    obtain ⟨q1, q2, q3⟩ := a3.2.2 hz
    obtain ⟨w1, w2, w3, _, _⟩ := m5.2 hz
    have P1 := pG_fr a2 (by omega) P
    have hok : okS (gBl g) (gFool g).1 (gFool g).2.1 (gFool g).2.2.1 g := ⟨by omega, fun _ => ⟨o2, o3, o4⟩, fun z => absurd z (by omega), fun z => absurd z (by omega)⟩
    obtain ⟨I2, _, _, _⟩ := step_ok I hok
    obtain ⟨S2, e1, e2, P2⟩ : ∃ S2, xsem xT E (d + 6) kX2_makeMove [.ref (x + 14), .int (nI (if (gFool g).1 = 0 then 1 else 0)), .int (nI (gFool g).2.1), .int (nI (gFool g).2.2.1)] (wW E x sh S1, n) = some (.inl (some (.int (nI (gBl g).toNat))), (wW E x sh S2, n)) ∧ frm 14 (14 + 12) S1 S2 ∧ pG S2 14 (gStep (gBl g) (gFool g).1 (gFool g).2.1 (gFool g).2.2.1 g) := by
      by_cases z : (gFool g).1 = 0
      · obtain ⟨S2, y1, y2, y3⟩ := s2_makeMove (E := E) (x := x) (n := n) hG P1 I true o2 o3 o4 (d + 1)
        rw [if_pos z, z]
        exact ⟨S2, y1, y2, y3⟩
      · obtain ⟨S2, y1, y2, y3⟩ := s2_makeMove (E := E) (x := x) (n := n) hG P1 I false o2 o3 o4 (d + 1)
        rw [if_neg z, show (gFool g).1 = 1 by omega]
        exact ⟨S2, y1, y2, y3⟩
    obtain ⟨M2, n1, G2, fs2⟩ := g_steps (E := E) (y := y) (m := m) G1 I hok (by omega) (by omega) (u + 1)
    generalize hg2 : gStep (gBl g) (gFool g).1 (gFool g).2.1 (gFool g).2.2.1 g = g2 at *
    have h82 := I2.1.2.1
    have h12 := I2.1.2.2.1
    have hlk := s4_best (E := E) (x := x) (n := n) (S := S2) (f := gF g2) (pl := g2 0) b4 b41 P2.2.1.1 h82 (by have := I2.1.1; omega) (fun p hp => P2.2.1.2.2.2.2 p (by omega)) (fun p hp => by have := I2.2.2.2.2.2.1 p (by omega); show g2 (36 + p) < _; omega) (d + 5)
    have hgd := g_guessed (E := E) (y := y) (m := m) G2 I2 (u + 4)
    have hbl := mBest_lt (gF g2) (g2 0) (by have := I2.1.1; omega)
    have r1 : S2.1 (14 + 1) 1 = nI (g2 1) := P2.1.2.1
    have hcl : ∀ r, (if nI (g2 1) = nI (mBest (gF g2) (g2 0)) then qX10_caught_107 E (d + 6) 0 0 x (nI tm) (nI times + nI 1) (nI i) (wW E x sh S2, n) else qX10_caught_107 E (d + 6) 0 0 x (nI tm) (nI times) (nI i) (wW E x sh S2, n)) = r → qX10_caught_36 E (d + 6) 0 0 x (nI tm) (nI times) (nI i) (wW E x sh S, n) = r := by
      intro r hr
      rw [QX10_caught_36]
      simp (disch := omega) only [iLE_f, gO_8 b0, gR_8_0 b0, gR_8_1 b0, gR_8_2 b0, gR_8_3 b0, gR_8_4 b0, gI_8_5 b0, gP_8_5 b0, gI_8_6 b0, gP_8_6 b0, ble_t, Bool.and_self, gO_7 t0, gR_7_0 t0, gI_7_1 t0, gP_7_1 t0, gI_7_2 t0, gP_7_2 t0, gI_7_3 t0, gP_7_3 t0, gI_7_4 t0, gP_7_4 t0, gI_7_5 t0, gP_7_5 t0, cI_s, cL_s, cF_s, cD_s, cA_s, cV_s, nI_add, cond_true, cond_false, if_true, if_false]
      rw [a1]
      simp (disch := omega) only [gO_8 b0, gR_8_0 b0, gR_8_1 b0, gR_8_2 b0, gR_8_3 b0, gR_8_4 b0, gI_8_5 b0, gP_8_5 b0, gI_8_6 b0, gP_8_6 b0, ble_t, Bool.and_self, gO_7 t0, gR_7_0 t0, gI_7_1 t0, gP_7_1 t0, gI_7_2 t0, gP_7_2 t0, gI_7_3 t0, gP_7_3 t0, gI_7_4 t0, gP_7_4 t0, gI_7_5 t0, gP_7_5 t0, q1, q2, q3, gO_2 b2, gR_2_0 b2, gR_2_1 b2, gR_2_2 b2, gR_2_3 b2, gI_2_4 b2, gP_2_4 b2, gI_2_5 b2, gP_2_5 b2, gI_2_6 b2, gP_2_6 b2, gI_2_7 b2, gP_2_7 b2, gI_2_8 b2, gP_2_8 b2, cI_s, cL_s, cF_s, cD_s, cA_s, cV_s, nI_add, cond_true, cond_false, if_true, if_false]
      rw [e1]
      simp (disch := omega) only [gO_8 b0, gR_8_0 b0, gR_8_1 b0, gR_8_2 b0, gR_8_3 b0, gR_8_4 b0, gI_8_5 b0, gP_8_5 b0, gI_8_6 b0, gP_8_6 b0, ble_t, Bool.and_self, gO_2 b2, gR_2_0 b2, gR_2_1 b2, gR_2_2 b2, gR_2_3 b2, gI_2_4 b2, gP_2_4 b2, gI_2_5 b2, gP_2_5 b2, gI_2_6 b2, gP_2_6 b2, gI_2_7 b2, gP_2_7 b2, gI_2_8 b2, gP_2_8 b2, gO_5 b5, gI_5_0 b5, gP_5_0 b5, gI_5_1 b5, gP_5_1 b5, gI_5_2 b5, gP_5_2 b5, gR_5_3 b5, gR_5_4 b5, r1, gO_4 b4, gR_4_0 b4, gI_4_1 b4, gP_4_1 b4, gI_4_2 b4, gP_4_2 b4, gI_4_3 b4, gP_4_3 b4, gI_4_4 b4, gP_4_4 b4, cI_s, cL_s, cF_s, cD_s, cA_s, cV_s, nI_add, cond_true, cond_false, if_true, if_false]
      rw [hlk]
      simp (disch := omega) only [nI_add] at hr
      simp (disch := omega) only [cI_s, cL_s, cF_s, cD_s, cA_s, cV_s, nI_add, cond_true, cond_false, if_true, if_false]
      exact hr
    have hml : ∀ r, (if nI (g2 1) = nI (mBest (gF g2) (g2 0)) then qX11_caught_114 E (u + 7) y (nI tm) z0 (nI i) (nI times) (nI 1) (wW E y shM M2, m) else qX11_caught_113 E (u + 7) y (nI tm) z0 (nI i) (nI times) (wW E y shM M2, m)) = r → qX11_caught_68 E (u + 7) y (nI tm) z0 (nI times) (nI i) (wW E y shM M, m) = r := by
      intro r hr
      rw [QX11_caught_68]
      simp (disch := omega) only [iLE_f, gO_9 hM0, gI_9_0 hM0, gP_9_0 hM0, gR_9_1 hM0, gR_9_2 hM0, gI_9_3 hM0, gP_9_3 hM0, gI_9_4 hM0, gP_9_4 hM0, gR_9_5 hM0, gR_9_6 hM0, gR_9_7 hM0, gI_9_8 hM0, gP_9_8 hM0, gI_9_9 hM0, gP_9_9 hM0, gI_9_10 hM0, gP_9_10 hM0, gI_9_11 hM0, gP_9_11 hM0, gI_9_12 hM0, gP_9_12 hM0, gI_9_13 hM0, gP_9_13 hM0, gI_9_14 hM0, gP_9_14 hM0, gI_9_15 hM0, gP_9_15 hM0, gI_9_16 hM0, gP_9_16 hM0, gR_9_17 hM0, gR_9_18 hM0, gR_9_19 hM0, gR_9_20 hM0, gI_9_21 hM0, gP_9_21 hM0, gI_9_22 hM0, gP_9_22 hM0, gI_9_23 hM0, gP_9_23 hM0, gI_9_24 hM0, gP_9_24 hM0, gR_9_25 hM0, gI_9_26 hM0, gP_9_26 hM0, gI_9_27 hM0, gP_9_27 hM0, gI_9_28 hM0, gP_9_28 hM0, gL_9_29 hM0, gP_9_29 hM0, gL_9_30 hM0, gP_9_30 hM0, cI_s, cL_s, cF_s, cD_s, cA_s, cV_s, nI_add, cond_true, cond_false, if_true, if_false]
      rw [m1]
      simp (disch := omega) only [gO_9 hM0, gI_9_0 hM0, gP_9_0 hM0, gR_9_1 hM0, gR_9_2 hM0, gI_9_3 hM0, gP_9_3 hM0, gI_9_4 hM0, gP_9_4 hM0, gR_9_5 hM0, gR_9_6 hM0, gR_9_7 hM0, gI_9_8 hM0, gP_9_8 hM0, gI_9_9 hM0, gP_9_9 hM0, gI_9_10 hM0, gP_9_10 hM0, gI_9_11 hM0, gP_9_11 hM0, gI_9_12 hM0, gP_9_12 hM0, gI_9_13 hM0, gP_9_13 hM0, gI_9_14 hM0, gP_9_14 hM0, gI_9_15 hM0, gP_9_15 hM0, gI_9_16 hM0, gP_9_16 hM0, gR_9_17 hM0, gR_9_18 hM0, gR_9_19 hM0, gR_9_20 hM0, gI_9_21 hM0, gP_9_21 hM0, gI_9_22 hM0, gP_9_22 hM0, gI_9_23 hM0, gP_9_23 hM0, gI_9_24 hM0, gP_9_24 hM0, gR_9_25 hM0, gI_9_26 hM0, gP_9_26 hM0, gI_9_27 hM0, gP_9_27 hM0, gI_9_28 hM0, gP_9_28 hM0, gL_9_29 hM0, gP_9_29 hM0, gL_9_30 hM0, gP_9_30 hM0, w1, w2, w3, cI_s, cL_s, cF_s, cD_s, cA_s, cV_s, nI_add, cond_true, cond_false, if_true, if_false]
      rw [n1]
      simp (disch := omega) only [gO_9 hM0, gI_9_0 hM0, gP_9_0 hM0, gR_9_1 hM0, gR_9_2 hM0, gI_9_3 hM0, gP_9_3 hM0, gI_9_4 hM0, gP_9_4 hM0, gR_9_5 hM0, gR_9_6 hM0, gR_9_7 hM0, gI_9_8 hM0, gP_9_8 hM0, gI_9_9 hM0, gP_9_9 hM0, gI_9_10 hM0, gP_9_10 hM0, gI_9_11 hM0, gP_9_11 hM0, gI_9_12 hM0, gP_9_12 hM0, gI_9_13 hM0, gP_9_13 hM0, gI_9_14 hM0, gP_9_14 hM0, gI_9_15 hM0, gP_9_15 hM0, gI_9_16 hM0, gP_9_16 hM0, gR_9_17 hM0, gR_9_18 hM0, gR_9_19 hM0, gR_9_20 hM0, gI_9_21 hM0, gP_9_21 hM0, gI_9_22 hM0, gP_9_22 hM0, gI_9_23 hM0, gP_9_23 hM0, gI_9_24 hM0, gP_9_24 hM0, gR_9_25 hM0, gI_9_26 hM0, gP_9_26 hM0, gI_9_27 hM0, gP_9_27 hM0, gI_9_28 hM0, gP_9_28 hM0, gL_9_29 hM0, gP_9_29 hM0, gL_9_30 hM0, gP_9_30 hM0, cI_s, cL_s, cF_s, cD_s, cA_s, cV_s, nI_add, cond_true, cond_false, if_true, if_false]
      rw [g_get G2 (show 1 < 1100 by omega)]
      simp (disch := omega) only [gO_9 hM0, gI_9_0 hM0, gP_9_0 hM0, gR_9_1 hM0, gR_9_2 hM0, gI_9_3 hM0, gP_9_3 hM0, gI_9_4 hM0, gP_9_4 hM0, gR_9_5 hM0, gR_9_6 hM0, gR_9_7 hM0, gI_9_8 hM0, gP_9_8 hM0, gI_9_9 hM0, gP_9_9 hM0, gI_9_10 hM0, gP_9_10 hM0, gI_9_11 hM0, gP_9_11 hM0, gI_9_12 hM0, gP_9_12 hM0, gI_9_13 hM0, gP_9_13 hM0, gI_9_14 hM0, gP_9_14 hM0, gI_9_15 hM0, gP_9_15 hM0, gI_9_16 hM0, gP_9_16 hM0, gR_9_17 hM0, gR_9_18 hM0, gR_9_19 hM0, gR_9_20 hM0, gI_9_21 hM0, gP_9_21 hM0, gI_9_22 hM0, gP_9_22 hM0, gI_9_23 hM0, gP_9_23 hM0, gI_9_24 hM0, gP_9_24 hM0, gR_9_25 hM0, gI_9_26 hM0, gP_9_26 hM0, gI_9_27 hM0, gP_9_27 hM0, gI_9_28 hM0, gP_9_28 hM0, gL_9_29 hM0, gP_9_29 hM0, gL_9_30 hM0, gP_9_30 hM0, cI_s, cL_s, cF_s, cD_s, cA_s, cV_s, nI_add, cond_true, cond_false, if_true, if_false]
      rw [hgd]
      simp (disch := omega) only [cI_s, cL_s, cF_s, cD_s, cA_s, cV_s, nI_add, cond_true, cond_false, if_true, if_false]
      exact hr
    have fin : ∀ t2, t2 ≤ i + 1 → qX10_caught_36 E (d + 6) 0 0 x (nI tm) (nI times) (nI i) (wW E x sh S, n) = qX10_caught_36 E (d + 6) 0 0 x (nI tm) (nI t2) (nI (i + 1)) (wW E x sh S2, n) → qX11_caught_68 E (u + 7) y (nI tm) z0 (nI times) (nI i) (wW E y shM M, m) = qX11_caught_68 E (u + 7) y (nI tm) z0 (nI t2) (nI (i + 1)) (wW E y shM M2, m) → ∃ S' M' c, qX10_caught_36 E (d + 6) 0 0 x (nI tm) (nI times) (nI i) (wW E x sh S, n) = some (.inl (some (.int (nI c))), (wW E x sh S', n)) ∧ qX11_caught_68 E (u + 7) y (nI tm) z0 (nI times) (nI i) (wW E y shM M, m) = qX11_caught_122 E (u + 7) y z0 (nI c) (wW E y shM M', m) ∧ frm 11 26 S S' ∧ (∀ k, k < 26 → M'.1 0 k = M.1 0 k) ∧ (∀ i, i < 9900 → M'.2.1 1 i = M.2.1 1 i) ∧ M'.2.1 5 = M.2.1 5 := by
      intro t2 ht2 z1 z2
      obtain ⟨S', M', c, y1, y2, y3, y4, y5, y6⟩ := ih (i + 1) t2 g2 S2 M2 (by omega) htm ht2 P2 G2 I2
      refine ⟨S', M', c, z1.trans y1, z2.trans y2, frm_tr (frm_mo a2 (by omega) (by omega)) (frm_tr (frm_mo e2 (by omega) (by omega)) y3), fun k hk => ?_, fun i hi => ?_, ?_⟩
      · rw [y4 k hk, fs2.1]
        exact m3 k hk
      · rw [y5 i hi, fs2.2.2 i (by omega), m4]
      · rw [y6, fs2.2.1 5 (by omega), m4]
    by_cases c : g2 1 = mBest (gF g2) (g2 0)
    · refine fin (times + 1) (by omega) (hcl _ ?_) (hml _ ?_)
      · rw [iEQ_t c, QX10_caught_107, nI_add, nI_add]
      · rw [iEQ_t c, QX11_caught_114, nI_add, nI_add]
    · refine fin times (by omega) (hcl _ ?_) (hml _ ?_)
      · rw [iEQ_f c (by omega) (by omega), QX10_caught_107, nI_add]
      · rw [iEQ_f c (by omega) (by omega), QX11_caught_113, QX11_caught_114, nI_add, nI_add, Nat.add_zero times]
theorem lm_cgt {g : Nat → Nat} {w : Nat} (G : GM M w g) (hw : w < 9) (z1 z2 : Int32) (u : Nat) : ∀ k i, i + k = 1100 → qX11_caught_29 E (u + 1) y z1 z2 (nI i) (wW E y shM (sA M 1 (wrp (M.2.1 1) 9 i g)), m) = qX11_caught_57 E (u + 1) y z1 z2 (wW E y shM (sA M 1 (wrp (M.2.1 1) 9 1100 g)), m) := by
  intro k
  induction k with
  | zero =>
    intro i hi
    have hi : i = 1100 := hi
    subst hi
    rw [QX11_caught_29]
    simp (disch := omega) only [iLE_t, cI_s, cL_s, cF_s, cD_s, cA_s, cV_s, nI_add, cond_true, cond_false, if_true, if_false]
  | succ k ih =>
    intro i hi
    have hg := g_get (E := E) (y := y) (m := m) (GM_wrp G (w' := 9) (by omega) (show i ≤ 1100 by omega)) (show i < 1100 by omega) u
    rw [QX11_caught_29]
    simp (disch := omega) only [iLE_f, gO_9 hM0, gI_9_0 hM0, gP_9_0 hM0, gR_9_1 hM0, gR_9_2 hM0, gI_9_3 hM0, gP_9_3 hM0, gI_9_4 hM0, gP_9_4 hM0, gR_9_5 hM0, gR_9_6 hM0, gR_9_7 hM0, gI_9_8 hM0, gP_9_8 hM0, gI_9_9 hM0, gP_9_9 hM0, gI_9_10 hM0, gP_9_10 hM0, gI_9_11 hM0, gP_9_11 hM0, gI_9_12 hM0, gP_9_12 hM0, gI_9_13 hM0, gP_9_13 hM0, gI_9_14 hM0, gP_9_14 hM0, gI_9_15 hM0, gP_9_15 hM0, gI_9_16 hM0, gP_9_16 hM0, gR_9_17 hM0, gR_9_18 hM0, gR_9_19 hM0, gR_9_20 hM0, gI_9_21 hM0, gP_9_21 hM0, gI_9_22 hM0, gP_9_22 hM0, gI_9_23 hM0, gP_9_23 hM0, gI_9_24 hM0, gP_9_24 hM0, gR_9_25 hM0, gI_9_26 hM0, gP_9_26 hM0, gI_9_27 hM0, gP_9_27 hM0, gI_9_28 hM0, gP_9_28 hM0, gL_9_29 hM0, gP_9_29 hM0, gL_9_30 hM0, gP_9_30 hM0, cI_s, cL_s, cF_s, cD_s, cA_s, cV_s, nI_add, cond_true, cond_false, if_true, if_false]
    rw [hg]
    simp (disch := omega) only [show nI 9900 = nI (1100 * 9) from rfl, sI_w hM1, sA_s, sA_sA, cI_s, cL_s, cF_s, cD_s, cA_s, cV_s, nI_add, cond_true, cond_false, if_true, if_false]
    rw [wrp_s]
    exact ih (i + 1) (by omega)
theorem T_caught (hc : hC sh) (R : RR S M Bd) (a : Int32) (d u : Nat) : oT E x y n m sh [0] (Bd + 1) 0 (xsem xT E (d + 7) kX10_caught [.ref x, .int a] (wW E x sh S, n)) (xsem xT E (u + 8) kX11_caught [.ref y, .int a] (wW E y shM M, m)) := by
  obtain ⟨gs, w, un, tx, len, RGh, RIh⟩ := R
  obtain ⟨c5, c6, c3, c4, hw, hun⟩ := RGh.1
  obtain ⟨P, G, I, F, t2, t3⟩ := RGh.2 0 (Nat.zero_le _)
  rw [ix_0 hw] at P G
  have hw' : (w + 1) % 9 < 9 := Nat.mod_lt _ (by omega)
  have b0 := hc.1
  have hG := hc.2.2.2.2.2.2 w hw
  have hG' := hc.2.2.2.2.2.2 _ hw'
  have b2 := hG.1
  have b2' := hG'.1
  have h2 := I.1.1
  have h8 := I.1.2.1
  have hgm := fun d => c_game (E := E) (x := x) (n := n) hc c5 hw d
  have GZ := GM_Z c3 hw G
  have hG14 := hc.2.2.2.2.1
  have b14 := hG14.1
  have hcl : xsem xT E (d + 7) kX10_caught [.ref x, .int a] (wW E x sh S, n) = if nI 1 ≤ a ∧ a ≤ nI 20 then qX10_caught_21 E (d + 6) 0 0 x a (wW E x sh S, n) else some (.inr (xexc 0), (wW E x sh S, n)) := by
    have h11 : qX10_caught_11 E (d + 6) 0 0 (wW E x sh S, n) = some (.inr (xexc 0), (wW E x sh S, n)) := by
      rw [QX10_caught_11]
      simp (disch := omega) only [ble_t, Bool.and_self, cI_s, cL_s, cF_s, cD_s, cA_s, cV_s, nI_add, cond_true, cond_false, if_true, if_false]
    rw [eX10_caught, QX10_caught_0]
    by_cases z1 : a < nI 1
    · rw [if_pos z1, if_neg (fun z => Int32.not_le.2 z1 z.1)]; exact h11
    · rw [if_neg z1]
      by_cases z2 : a ≤ nI 20
      · rw [if_pos z2, if_pos ⟨Int32.not_lt.1 z1, z2⟩]
      · rw [if_neg z2, if_neg (fun z => z2 z.2)]; exact h11
  have hml : xsem xT E (u + 8) kX11_caught [.ref y, .int a] (wW E y shM M, m) = if nI 1 ≤ a ∧ a ≤ nI 20 then qX11_caught_22 E (u + 7) y a (wW E y shM (mZ M), m) else some (.inl (some (.int (nI 0))), (wW E y shM (sS (mZ M) 0 0 (nI 1)), m)) := by
    rw [eX11_caught, QX11_caught_0]
    simp (disch := omega) only [gO_9 hM0, gI_9_0 hM0, gP_9_0 hM0, gR_9_1 hM0, gR_9_2 hM0, gI_9_3 hM0, gP_9_3 hM0, gI_9_4 hM0, gP_9_4 hM0, gR_9_5 hM0, gR_9_6 hM0, gR_9_7 hM0, gI_9_8 hM0, gP_9_8 hM0, gI_9_9 hM0, gP_9_9 hM0, gI_9_10 hM0, gP_9_10 hM0, gI_9_11 hM0, gP_9_11 hM0, gI_9_12 hM0, gP_9_12 hM0, gI_9_13 hM0, gP_9_13 hM0, gI_9_14 hM0, gP_9_14 hM0, gI_9_15 hM0, gP_9_15 hM0, gI_9_16 hM0, gP_9_16 hM0, gR_9_17 hM0, gR_9_18 hM0, gR_9_19 hM0, gR_9_20 hM0, gI_9_21 hM0, gP_9_21 hM0, gI_9_22 hM0, gP_9_22 hM0, gI_9_23 hM0, gP_9_23 hM0, gI_9_24 hM0, gP_9_24 hM0, gR_9_25 hM0, gI_9_26 hM0, gP_9_26 hM0, gI_9_27 hM0, gP_9_27 hM0, gI_9_28 hM0, gP_9_28 hM0, gL_9_29 hM0, gP_9_29 hM0, gL_9_30 hM0, gP_9_30 hM0, m_isIn, cI_s, cL_s, cF_s, cD_s, cA_s, cV_s, nI_add, cond_true, cond_false, if_true, if_false]
    rw [show sS M 0 0 (nI 0) = mZ M from rfl]
    by_cases c1 : nI 1 ≤ a ∧ a ≤ nI 20
    · rw [if_pos c1, if_pos c1]
      rw [m_right1 mZ_0]
      simp (disch := omega) only [iEQ_f, cI_s, cL_s, cF_s, cD_s, cA_s, cV_s, nI_add, cond_true, cond_false, if_true, if_false]
    · rw [if_neg c1, if_neg c1]
      rw [m_right0 mZ_0 (by omega) (by omega)]
      simp (disch := omega) only [iEQ_t, cI_s, cL_s, cF_s, cD_s, cA_s, cV_s, nI_add, cond_true, cond_false, if_true, if_false]
  by_cases c1 : nI 1 ≤ a ∧ a ≤ nI 20
  · rw [if_pos c1] at hcl hml
    rw [hcl, hml]
    obtain ⟨tm, htm, rfl⟩ := (i32_c a (b := 21) (by omega)).resolve_right (fun z => by
      rcases z with z | z
      · exact absurd (Int32.lt_of_le_of_lt c1.1 z) (by decide)
      · exact nI_ge (show 20 < 21 by omega) (by omega) (Int32.le_trans z c1.2))
    obtain ⟨S1, a1, a2, P1⟩ := s2_copyFrom (E := E) (x := x) (n := n) hG14 hG (by omega) P h8 I.1.2.2.2.2.2.2.2.2.2 F.1 (d + 4)
    have hl := lm_cgt (E := E) (y := y) (m := m) GZ hw (nI tm) (nI w) (u + 6) 1100 0 (by omega)
    rw [wrp_0, sA_self] at hl
    have G9 : GM (sS (sA (mZ M) 1 (wrp ((mZ M).2.1 1) 9 1100 (gs 0))) 0 3 (nI 9)) 9 (gs 0) := ⟨sS_s, Nat.le_refl _, fun k hk => by
      rw [sS_a, sA_s]
      unfold wrp
      rw [if_pos (by omega), Nat.add_sub_cancel_left]⟩
    obtain ⟨S', M', c, y1, y2, y3, y4, y5, y6⟩ := j_caught (E := E) (x := x) (y := y) (n := n) (m := m) (tm := tm) hc (nI w) d u tm 0 0 (gs 0) S1 _ (by omega) (by omega) (Nat.le_refl _) P1 G9 I
    have frM : frU M (sS M' 0 3 (nI w)) := by
      refine ⟨⟨by rw [sS_s]; exact c3.symm, ?_, ?_, ?_⟩, fun i hi => ?_, ?_⟩
      · rw [sS_n (by omega), y4 4 (by omega), sS_n (by omega)]; exact frU_Z.1.2.1
      · rw [sS_n (by omega), y4 8 (by omega), sS_n (by omega)]; exact frU_Z.1.2.2.1
      · rw [sS_n (by omega), y4 12 (by omega), sS_n (by omega)]; exact frU_Z.1.2.2.2
      · show M'.2.1 1 i = _
        rw [y5 i hi, sS_a, sA_s, wrp_o (by omega) (by omega)]
        rfl
      · show M'.2.1 5 = _
        rw [y6, sS_a, sA_n (by omega)]
        rfl
    refine oT_ok (RR_mo (RR_ro RGh RIh (frm_tr (frm_mo a2 (by omega) (by omega)) y3) frM) (by omega)) (v := .int (nI c)) ?_ ?_ ?_
    · rw [QX10_caught_21]
      simp (disch := omega) only [gO_8 b0, gR_8_0 b0, gR_8_1 b0, gR_8_2 b0, gR_8_3 b0, gR_8_4 b0, gI_8_5 b0, gP_8_5 b0, gI_8_6 b0, gP_8_6 b0, ble_t, Bool.and_self, hgm, gO_2 b14, gR_2_0 b14, gR_2_1 b14, gR_2_2 b14, gR_2_3 b14, gI_2_4 b14, gP_2_4 b14, gI_2_5 b14, gP_2_5 b14, gI_2_6 b14, gP_2_6 b14, gI_2_7 b14, gP_2_7 b14, gI_2_8 b14, gP_2_8 b14, cI_s, cL_s, cF_s, cD_s, cA_s, cV_s, nI_add, cond_true, cond_false, if_true, if_false]
      rw [a1]
      simp (disch := omega) only [cI_s, cL_s, cF_s, cD_s, cA_s, cV_s, nI_add, cond_true, cond_false, if_true, if_false]
      exact y1
    · have hw3 : (mZ M).1 0 3 = nI w := GZ.1
      rw [QX11_caught_22]
      simp (disch := omega) only [gO_9 hM0, gI_9_0 hM0, gP_9_0 hM0, gR_9_1 hM0, gR_9_2 hM0, gI_9_3 hM0, gP_9_3 hM0, gI_9_4 hM0, gP_9_4 hM0, gR_9_5 hM0, gR_9_6 hM0, gR_9_7 hM0, gI_9_8 hM0, gP_9_8 hM0, gI_9_9 hM0, gP_9_9 hM0, gI_9_10 hM0, gP_9_10 hM0, gI_9_11 hM0, gP_9_11 hM0, gI_9_12 hM0, gP_9_12 hM0, gI_9_13 hM0, gP_9_13 hM0, gI_9_14 hM0, gP_9_14 hM0, gI_9_15 hM0, gP_9_15 hM0, gI_9_16 hM0, gP_9_16 hM0, gR_9_17 hM0, gR_9_18 hM0, gR_9_19 hM0, gR_9_20 hM0, gI_9_21 hM0, gP_9_21 hM0, gI_9_22 hM0, gP_9_22 hM0, gI_9_23 hM0, gP_9_23 hM0, gI_9_24 hM0, gP_9_24 hM0, gR_9_25 hM0, gI_9_26 hM0, gP_9_26 hM0, gI_9_27 hM0, gP_9_27 hM0, gI_9_28 hM0, gP_9_28 hM0, gL_9_29 hM0, gP_9_29 hM0, gL_9_30 hM0, gP_9_30 hM0, hw3, cI_s, cL_s, cF_s, cD_s, cA_s, cV_s, nI_add, cond_true, cond_false, if_true, if_false]
      rw [hl, QX11_caught_57]
      simp (disch := omega) only [gO_9 hM0, gI_9_0 hM0, gP_9_0 hM0, gR_9_1 hM0, gR_9_2 hM0, gI_9_3 hM0, gP_9_3 hM0, gI_9_4 hM0, gP_9_4 hM0, gR_9_5 hM0, gR_9_6 hM0, gR_9_7 hM0, gI_9_8 hM0, gP_9_8 hM0, gI_9_9 hM0, gP_9_9 hM0, gI_9_10 hM0, gP_9_10 hM0, gI_9_11 hM0, gP_9_11 hM0, gI_9_12 hM0, gP_9_12 hM0, gI_9_13 hM0, gP_9_13 hM0, gI_9_14 hM0, gP_9_14 hM0, gI_9_15 hM0, gP_9_15 hM0, gI_9_16 hM0, gP_9_16 hM0, gR_9_17 hM0, gR_9_18 hM0, gR_9_19 hM0, gR_9_20 hM0, gI_9_21 hM0, gP_9_21 hM0, gI_9_22 hM0, gP_9_22 hM0, gI_9_23 hM0, gP_9_23 hM0, gI_9_24 hM0, gP_9_24 hM0, gR_9_25 hM0, gI_9_26 hM0, gP_9_26 hM0, gI_9_27 hM0, gP_9_27 hM0, gI_9_28 hM0, gP_9_28 hM0, gL_9_29 hM0, gP_9_29 hM0, gL_9_30 hM0, gP_9_30 hM0, cI_s, cL_s, cF_s, cD_s, cA_s, cV_s, nI_add, cond_true, cond_false, if_true, if_false]
      rw [y2, QX11_caught_122]
      simp (disch := omega) only [gO_9 hM0, gI_9_0 hM0, gP_9_0 hM0, gR_9_1 hM0, gR_9_2 hM0, gI_9_3 hM0, gP_9_3 hM0, gI_9_4 hM0, gP_9_4 hM0, gR_9_5 hM0, gR_9_6 hM0, gR_9_7 hM0, gI_9_8 hM0, gP_9_8 hM0, gI_9_9 hM0, gP_9_9 hM0, gI_9_10 hM0, gP_9_10 hM0, gI_9_11 hM0, gP_9_11 hM0, gI_9_12 hM0, gP_9_12 hM0, gI_9_13 hM0, gP_9_13 hM0, gI_9_14 hM0, gP_9_14 hM0, gI_9_15 hM0, gP_9_15 hM0, gI_9_16 hM0, gP_9_16 hM0, gR_9_17 hM0, gR_9_18 hM0, gR_9_19 hM0, gR_9_20 hM0, gI_9_21 hM0, gP_9_21 hM0, gI_9_22 hM0, gP_9_22 hM0, gI_9_23 hM0, gP_9_23 hM0, gI_9_24 hM0, gP_9_24 hM0, gR_9_25 hM0, gI_9_26 hM0, gP_9_26 hM0, gI_9_27 hM0, gP_9_27 hM0, gI_9_28 hM0, gP_9_28 hM0, gL_9_29 hM0, gP_9_29 hM0, gL_9_30 hM0, gP_9_30 hM0, cI_s, cL_s, cF_s, cD_s, cA_s, cV_s, nI_add, cond_true, cond_false, if_true, if_false]
    · rw [sS_n (by omega), y4 0 (by omega), sS_n (by omega)]
      exact mZ_0 (M := M)
  · rw [if_neg c1] at hcl hml
    exact oT_ex (k := 0) (ex := 0) (v := .int (nI 0)) (RR_mo (RR_ro RGh RIh frm_rf (frU_sS frU_Z (by omega))) (by omega)) rfl hcl hml sS_s
end CH4
