/-! STATEMENTS: numbers, blinks, settings, odds; which it is. -/
section ST3
variable {E : xEn} {x y n m : Nat} {sh : Nat → Option xSh} {S M : xSt} {L p sb : Nat} {tx : Nat → Nat} {g : Nat → Nat}
theorem p_ad {M : xSt} (K : mQ M tx L p) : p ≤ ad tx L p := by
  by_cases c : p < L
  · exact Nat.le_of_lt (ad_gt (mQ_le K).2.1 c)
  · unfold ad; rw [if_neg c]; exact Nat.le_refl _
theorem j_num (h3 : hI sh 1) (H : hEn E x) (Q : cQ S tx L p) (K : mQ M tx L p) {lo hi : Nat} (hlo : lo ≤ 9999) (hhi : hi ≤ 9999) (d u : Nat) :
    (∃ S' M', xsem xT E (d + 2) kX3_takeNumber [.ref (x + 1), .int (nI lo), .int (nI hi)] (wW E x sh S, n) = some (.inl (some (.int (nI (nu tx L p)))), (wW E x sh S', n)) ∧ xsem xT E (u + 2) kX11_reads [.ref y, .int (nI lo), .int (nI hi)] (wW E y shM M, m) = some (.inl (some (.int (nI 1))), (wW E y shM M', m)) ∧ cQ S' tx L (ad tx L p) ∧ mQ M' tx L (ad tx L p) ∧ M'.1 0 13 = nI (nu tx L p) ∧ frI S S' ∧ frR M M' ∧ lo ≤ nu tx L p ∧ nu tx L p ≤ hi ∧ p < ad tx L p) ∨
    (∃ S' M', xsem xT E (d + 2) kX3_takeNumber [.ref (x + 1), .int (nI lo), .int (nI hi)] (wW E x sh S, n) = some (.inl (some (.int (-1))), (wW E x sh S', n)) ∧ xsem xT E (u + 2) kX11_reads [.ref y, .int (nI lo), .int (nI hi)] (wW E y shM M, m) = some (.inl (some (.int (nI 0))), (wW E y shM M', m)) ∧ xF S' M' ∧ frI S S' ∧ frR M M') := by
  have hL := (mQ_le K).2.1
  by_cases e1 : tk tx L p = 1
  · by_cases hr : lo ≤ nu tx L p ∧ nu tx L p ≤ hi
    · obtain ⟨S1, s1, s2, s3⟩ := c_num_t (E := E) (x := x) (n := n) h3 H Q (by omega) e1 hr.1 hr.2 d
      obtain ⟨M1, m1, K1, m13, m14, fm⟩ := t_reads_t (E := E) (x := y) (n := m) K hlo hhi e1 hr.1 hr.2 u
      exact Or.inl ⟨S1, M1, s1, m1, s2, K1, m13, s3, fm, hr.1, hr.2, ad_gt hL ((tk_1 hL).1 e1).1⟩
    · obtain ⟨S1, s1, s2, s3⟩ := c_num_r (E := E) (x := x) (n := n) h3 H Q (by omega) (by omega) e1 hr d
      obtain ⟨M1, m1, m2, fm⟩ := t_reads_r (E := E) (x := y) (n := m) K hlo hhi e1 hr u
      exact Or.inr ⟨S1, M1, s1, m1, xF_of s2 m2, s3, fm⟩
  · obtain ⟨S1, s1, s2, s3⟩ := c_num_s (E := E) (x := x) (n := n) h3 H Q lo hi e1 d
    obtain ⟨M1, m1, m2, fm⟩ := t_reads_s (E := E) (x := y) (n := m) K (nI lo) (nI hi) e1 u
    exact Or.inr ⟨S1, M1, s1, m1, xF_of s2 m2, s3, fm⟩
theorem j_sg (h3 : hI sh 1) (H : hEn E x) (Q : cQ S tx L p) (K : mQ M tx L p) {i : Nat} (hi : i < 10) (hi3 : 3 ≤ i) {c : Nat} (hc : c = sg i) (d u : Nat) :
    (∃ S' M', xsem xT E (d + 2) kX3_take [.ref (x + 1), .ref (E.1 i)] (wW E x sh S, n) = some (.inl (some (.int (nI 1))), (wW E x sh S', n)) ∧ xsem xT E (u + 2) kX11_sign [.ref y, .int (nI c)] (wW E y shM M, m) = some (.inl (some (.int (nI 1))), (wW E y shM M', m)) ∧ cQ S' tx L (ad tx L p) ∧ mQ M' tx L (ad tx L p) ∧ frI S S' ∧ frR M M' ∧ p < ad tx L p ∧ tk tx L p = i) ∨
    (∃ S' M', xsem xT E (d + 2) kX3_take [.ref (x + 1), .ref (E.1 i)] (wW E x sh S, n) = some (.inl (some (.int (nI 0))), (wW E x sh S', n)) ∧ xsem xT E (u + 2) kX11_sign [.ref y, .int (nI c)] (wW E y shM M, m) = some (.inl (some (.int (nI 0))), (wW E y shM M', m)) ∧ xF S' M' ∧ frI S S' ∧ frR M M') := by
  subst hc
  obtain ⟨_, hL, _, ht⟩ := mQ_le K
  by_cases e : tk tx L p = i
  · obtain ⟨S1, s1, s2, s3⟩ := c_take_t (E := E) (x := x) (n := n) h3 H Q (by omega) e d
    obtain ⟨M1, m1, K1, fm⟩ := t_sign_t (E := E) (x := y) (n := m) K hi hi3 e u
    exact Or.inl ⟨S1, M1, s1, m1, s2, K1, s3, fm, ad_gt hL ((tk_sg hL ht hi hi3).1 e).1, e⟩
  · obtain ⟨S1, s1, s2, s3⟩ := c_take_f (E := E) (x := x) (n := n) h3 H Q (by omega) e d
    obtain ⟨M1, m1, m2, fm⟩ := t_sign_f (E := E) (x := y) (n := m) K hi hi3 e u
    exact Or.inr ⟨S1, M1, s1, m1, xF_of s2 m2, s3, fm⟩
theorem neg1 : ¬ nI 0 ≤ (-1 : Int32) := by decide
-- blinks
theorem j_blink (h3 : hI sh 1) (hG14 : hG sh 14) (H : hEn E x) {M1 : xSt} (R : RS S M tx L g p sb) (K1 : mQ M1 tx L (ad tx L p)) (f1 : frR M M1) (d u : Nat) :
    oS E x y n m sh tx L S M p sb (xsem xT E (d + 4) kX7_readBlink [.ref (x + 1), .ref (x + (14 + 6))] (wW E x sh S, n)) (xsem xT E (u + 4) kX11_readsBlink [.ref y, .int (nI p)] (wW E y shM M1, m)) := by
  have a3 := h3.1
  have b0 : sh (14 + 6) = some (sh0 (14 + 6)) := hG14.2.2.2.2.2.2.1
  have b1 : sh (14 + 6 + 1) = some (1, 8, []) := hG14.2.2.2.2.2.2.2.1
  have b2 : sh (14 + 6 + 2) = some (1, 8, []) := hG14.2.2.2.2.2.2.2.2.1
  have hpa := p_ad R.2.1
  obtain ⟨Q, K, RR, P, I, h16, hs, h5⟩ := R
  have I' := (iU_fin I).1
  have e10 : fin g 10 = g 10 := fin_o (by omega)
  have c9 : g 10 ≤ 8 := I.1.2.2.2.2.2.2.2.2.2
  have RR1 : ∀ k, k < 1100 → M1.2.1 2 k = nI (g k) := rd_R RR f1
  have hfull := s0_isFull (E := E) (x := x) (n := n) b0 P.2.2.1 (by omega) (d + 2)
  rw [e10] at hfull
  rw [eX7_readBlink, QX7_readBlink_0, eX11_readsBlink, QX11_readsBlink_0]
  by_cases c : 8 ≤ g 10
  · obtain ⟨S', s1, s2, s3⟩ := c_fail (E := E) (x := x) (n := n) h3 Q (-5) (d + 2)
    obtain ⟨M', m1, m2, m3⟩ := t_fail (E := E) (x := y) (n := m) K1 (-5) p (u + 2)
    refine Or.inr ⟨S', M', ?_, ?_, xF_of s2 m2, frD_I s3, frG_R (frR_tr f1 m3)⟩
    · simp (disch := omega) only [gO_0 b0, gR_0_0 b0, gR_0_1 b0, gI_0_2 b0, gP_0_2 b0, cI_s, cL_s, cF_s, cD_s, cA_s, cV_s, nI_add, cond_true, cond_false, if_true, if_false]
      rw [hfull, if_pos c]
      simp (disch := omega) only [iEQ_f, gO_3 a3, gR_3_0 a3, gI_3_1 a3, gP_3_1 a3, gI_3_2 a3, gP_3_2 a3, gR_3_3 a3, gR_3_4 a3, gR_3_5 a3, gI_3_6 a3, gP_3_6 a3, gI_3_7 a3, gP_3_7 a3, gI_3_8 a3, gP_3_8 a3, gI_3_9 a3, gP_3_9 a3, cI_s, cL_s, cF_s, cD_s, cA_s, cV_s, nI_add, cond_true, cond_false, if_true, if_false]
      rw [s1]
      simp (disch := omega) only [xret5_0, cI_s, cL_s, cF_s, cD_s, cA_s, cV_s, nI_add, cond_true, cond_false, if_true, if_false]
    · simp (disch := omega) only [gO_9 hM0, gI_9_0 hM0, gP_9_0 hM0, gR_9_1 hM0, gR_9_2 hM0, gI_9_3 hM0, gP_9_3 hM0, gI_9_4 hM0, gP_9_4 hM0, gR_9_5 hM0, gR_9_6 hM0, gR_9_7 hM0, gI_9_8 hM0, gP_9_8 hM0, gI_9_9 hM0, gP_9_9 hM0, gI_9_10 hM0, gP_9_10 hM0, gI_9_11 hM0, gP_9_11 hM0, gI_9_12 hM0, gP_9_12 hM0, gI_9_13 hM0, gP_9_13 hM0, gI_9_14 hM0, gP_9_14 hM0, gI_9_15 hM0, gP_9_15 hM0, gI_9_16 hM0, gP_9_16 hM0, gR_9_17 hM0, gR_9_18 hM0, gR_9_19 hM0, gR_9_20 hM0, gI_9_21 hM0, gP_9_21 hM0, gI_9_22 hM0, gP_9_22 hM0, gI_9_23 hM0, gP_9_23 hM0, gI_9_24 hM0, gP_9_24 hM0, gR_9_25 hM0, gI_9_26 hM0, gP_9_26 hM0, gI_9_27 hM0, gP_9_27 hM0, gI_9_28 hM0, gP_9_28 hM0, gL_9_29 hM0, gP_9_29 hM0, gL_9_30 hM0, gP_9_30 hM0, aI_w hM2, RR1, iEQ_t (show g 10 = 8 by omega), cI_s, cL_s, cF_s, cD_s, cA_s, cV_s, nI_add, cond_true, cond_false, if_true, if_false]
      rw [m1]
      simp (disch := omega) only [xret5_0, cI_s, cL_s, cF_s, cD_s, cA_s, cV_s, nI_add, cond_true, cond_false, if_true, if_false]
  · obtain ⟨S1, s1, s2, s3⟩ := c_advance (E := E) (x := x) (n := n) h3 Q (d + 2)
    have hcl : ∀ r, qX7_readBlink_14 E (d + 3) (x + 1) (x + (14 + 6)) (wW E x sh S, n) = r → (gO E (wW E x sh S, n) 0 (x + (14 + 6)) (cI (xthr 1 some) (xsem xT E (d + 3) kX0_isFull [.ref (x + (14 + 6))] (wW E x sh S, n)) (fun v1 σ1 => if v1 = nI 0 then qX7_readBlink_14 E (d + 3) (x + 1) (x + (14 + 6)) σ1 else gO E σ1 3 (x + 1) (cI (xthr 1 some) (xsem xT E (d + 3) kX3_fail [.ref (x + 1), .int (-5 : Int32)] σ1) (fun v2 σ2 => xiret [5] v2 (some (.inl (some (.int v2)), σ2))))))) = r := by
      intro r hr
      rw [← hr]
      simp (disch := omega) only [gO_0 b0, gR_0_0 b0, gR_0_1 b0, gI_0_2 b0, gP_0_2 b0, cI_s, cL_s, cF_s, cD_s, cA_s, cV_s, nI_add, cond_true, cond_false, if_true, if_false]
      rw [hfull, if_neg c]
      simp (disch := omega) only [iEQ_t, cI_s, cL_s, cF_s, cD_s, cA_s, cV_s, nI_add, cond_true, cond_false, if_true, if_false]
    have hml : ∀ r, qX11_readsBlink_20 E (u + 3) y (wW E y shM M1, m) = r → (gR (wW E y shM M1, m) 9 2 y (fun v1 => aI (wW E y shM M1, m) v1 (nI 10) (fun v2 => if v2 = nI 8 then gO E (wW E y shM M1, m) 9 y (cI (xthr 1 some) (xsem xT E (u + 3) kX11_fails [.ref y, .int (-5 : Int32), .int (nI p)] (wW E y shM M1, m)) (fun v3 σ1 => xiret [5] v3 (some (.inl (some (.int v3)), σ1)))) else qX11_readsBlink_20 E (u + 3) y (wW E y shM M1, m)))) = r := by
      intro r hr
      rw [← hr]
      simp (disch := omega) only [gO_9 hM0, gI_9_0 hM0, gP_9_0 hM0, gR_9_1 hM0, gR_9_2 hM0, gI_9_3 hM0, gP_9_3 hM0, gI_9_4 hM0, gP_9_4 hM0, gR_9_5 hM0, gR_9_6 hM0, gR_9_7 hM0, gI_9_8 hM0, gP_9_8 hM0, gI_9_9 hM0, gP_9_9 hM0, gI_9_10 hM0, gP_9_10 hM0, gI_9_11 hM0, gP_9_11 hM0, gI_9_12 hM0, gP_9_12 hM0, gI_9_13 hM0, gP_9_13 hM0, gI_9_14 hM0, gP_9_14 hM0, gI_9_15 hM0, gP_9_15 hM0, gI_9_16 hM0, gP_9_16 hM0, gR_9_17 hM0, gR_9_18 hM0, gR_9_19 hM0, gR_9_20 hM0, gI_9_21 hM0, gP_9_21 hM0, gI_9_22 hM0, gP_9_22 hM0, gI_9_23 hM0, gP_9_23 hM0, gI_9_24 hM0, gP_9_24 hM0, gR_9_25 hM0, gI_9_26 hM0, gP_9_26 hM0, gI_9_27 hM0, gP_9_27 hM0, gI_9_28 hM0, gP_9_28 hM0, gL_9_29 hM0, gP_9_29 hM0, gL_9_30 hM0, gP_9_30 hM0, aI_w hM2, RR1, iEQ_f (show g 10 ≠ 8 by omega), cI_s, cL_s, cF_s, cD_s, cA_s, cV_s, nI_add, cond_true, cond_false, if_true, if_false]
    rcases j_num (E := E) (x := x) (y := y) (n := n) (m := m) h3 H s2 K1 (lo := 0) (hi := 9999) (by omega) (by omega) (d + 1) (u + 1) with ⟨S2, M2, k1, k2, Q2, K2, k13, fs2, fm2, _, hv1, hp1⟩ | ⟨S2, M2, k1, k2, k3, fs2, fm2⟩
    · generalize hv : nu tx L (ad tx L p) = v at *
      have RR2 : ∀ k, k < 1100 → M2.2.1 2 k = nI (g k) := rd_R (M := M1) RR1 fm2
      have K3 : mQ (sA M2 2 (upd (M2.2.1 2) (45 + 2 * g 10) (nI v))) tx L (ad tx L (ad tx L p)) := mQ_A K2 (by omega)
      have RR3 := rd_up (k := 45 + 2 * g 10) (v := v) RR2
      have e10b : updN g (45 + 2 * g 10) v 10 = g 10 := updN_n (by omega)
      have hc2 : ∀ r, qX7_readBlink_33 E (d + 3) (x + 1) (x + (14 + 6)) (nI v) (wW E x sh S2, n) = r → qX7_readBlink_14 E (d + 3) (x + 1) (x + (14 + 6)) (wW E x sh S, n) = r := by
        intro r hr
        rw [QX7_readBlink_14]
        simp (disch := omega) only [gO_3 a3, gR_3_0 a3, gI_3_1 a3, gP_3_1 a3, gI_3_2 a3, gP_3_2 a3, gR_3_3 a3, gR_3_4 a3, gR_3_5 a3, gI_3_6 a3, gP_3_6 a3, gI_3_7 a3, gP_3_7 a3, gI_3_8 a3, gP_3_8 a3, gI_3_9 a3, gP_3_9 a3, s1, cI_s, cL_s, cF_s, cD_s, cA_s, cV_s, nI_add, cond_true, cond_false, if_true, if_false]
        rw [k1]
        simp (disch := omega) only [iLE_t, hr, cI_s, cL_s, cF_s, cD_s, cA_s, cV_s, nI_add, cond_true, cond_false, if_true, if_false]
      have hm2 : ∀ r, xsem xT E (u + 3) kX11_reads [.ref y, .int (nI v), .int (nI 9999)] (wW E y shM (sA M2 2 (upd (M2.2.1 2) (45 + 2 * g 10) (nI v))), m) = r → qX11_readsBlink_20 E (u + 3) y (wW E y shM M1, m) = cI (xthr 1 some) r (fun v4 σ2 => if v4 = nI 0 then xiret [5] (nI 0) (some (.inl (some (.int (nI 0))), σ2)) else qX11_readsBlink_72 E (u + 3) y (nI (45 + 2 * g 10)) σ2) := by
        intro r hr
        rw [QX11_readsBlink_20]
        simp (disch := omega) only [gO_9 hM0, gI_9_0 hM0, gP_9_0 hM0, gR_9_1 hM0, gR_9_2 hM0, gI_9_3 hM0, gP_9_3 hM0, gI_9_4 hM0, gP_9_4 hM0, gR_9_5 hM0, gR_9_6 hM0, gR_9_7 hM0, gI_9_8 hM0, gP_9_8 hM0, gI_9_9 hM0, gP_9_9 hM0, gI_9_10 hM0, gP_9_10 hM0, gI_9_11 hM0, gP_9_11 hM0, gI_9_12 hM0, gP_9_12 hM0, gI_9_13 hM0, gP_9_13 hM0, gI_9_14 hM0, gP_9_14 hM0, gI_9_15 hM0, gP_9_15 hM0, gI_9_16 hM0, gP_9_16 hM0, gR_9_17 hM0, gR_9_18 hM0, gR_9_19 hM0, gR_9_20 hM0, gI_9_21 hM0, gP_9_21 hM0, gI_9_22 hM0, gP_9_22 hM0, gI_9_23 hM0, gP_9_23 hM0, gI_9_24 hM0, gP_9_24 hM0, gR_9_25 hM0, gI_9_26 hM0, gP_9_26 hM0, gI_9_27 hM0, gP_9_27 hM0, gI_9_28 hM0, gP_9_28 hM0, gL_9_29 hM0, gP_9_29 hM0, gL_9_30 hM0, gP_9_30 hM0, aI_w hM2, RR1, cI_s, cL_s, cF_s, cD_s, cA_s, cV_s, nI_add, cond_true, cond_false, if_true, if_false]
        rw [k2]
        simp (disch := omega) only [iEQ_f, QX11_readsBlink_46, gO_9 hM0, gI_9_0 hM0, gP_9_0 hM0, gR_9_1 hM0, gR_9_2 hM0, gI_9_3 hM0, gP_9_3 hM0, gI_9_4 hM0, gP_9_4 hM0, gR_9_5 hM0, gR_9_6 hM0, gR_9_7 hM0, gI_9_8 hM0, gP_9_8 hM0, gI_9_9 hM0, gP_9_9 hM0, gI_9_10 hM0, gP_9_10 hM0, gI_9_11 hM0, gP_9_11 hM0, gI_9_12 hM0, gP_9_12 hM0, gI_9_13 hM0, gP_9_13 hM0, gI_9_14 hM0, gP_9_14 hM0, gI_9_15 hM0, gP_9_15 hM0, gI_9_16 hM0, gP_9_16 hM0, gR_9_17 hM0, gR_9_18 hM0, gR_9_19 hM0, gR_9_20 hM0, gI_9_21 hM0, gP_9_21 hM0, gI_9_22 hM0, gP_9_22 hM0, gI_9_23 hM0, gP_9_23 hM0, gI_9_24 hM0, gP_9_24 hM0, gR_9_25 hM0, gI_9_26 hM0, gP_9_26 hM0, gI_9_27 hM0, gP_9_27 hM0, gI_9_28 hM0, gP_9_28 hM0, gL_9_29 hM0, gP_9_29 hM0, gL_9_30 hM0, gP_9_30 hM0, k13, pk_mul, sI_w hM2, sA_1, hr, cI_s, cL_s, cF_s, cD_s, cA_s, cV_s, nI_add, cond_true, cond_false, if_true, if_false]
      rcases j_num (E := E) (x := x) (y := y) (n := n) (m := m) h3 H Q2 K3 (lo := v) (hi := 9999) hv1 (by omega) (d + 1) (u + 1) with ⟨S3, M3, n1, n2, Q3, K4, n13, fs3, fm3, hv2, hv3, hp2⟩ | ⟨S3, M3, n1, n2, n3, fs3, fm3⟩
      · generalize hw : nu tx L (ad tx L (ad tx L p)) = w at *
        have P3 := pG_fr (frm_I fs3) (by omega) (pG_fr (frm_I fs2) (by omega) (pG_fr (frm_I s3) (by omega) P))
        obtain ⟨S4, t1, t2, t3⟩ := s0_tell (E := E) (x := x) (n := n) b0 b1 b2 P3.2.2.1 (by omega) v w (d + 2)
        have t2' : frm 14 26 S3 S4 := frm_mo t2 (by omega) (by omega)
        have RR4 : ∀ k, k < 1100 → M3.2.1 2 k = nI (updN g (45 + 2 * g 10) v k) := rd_R (M := sA M2 2 (upd (M2.2.1 2) (45 + 2 * g 10) (nI v))) (rd_sA RR3) fm3
        have RR5 := rd_up (k := 45 + 2 * g 10 + 1) (v := w) RR4
        have RR6 := rd_up (k := 10) (v := g 10 + 1) RR5
        have e10c : updN (updN g (45 + 2 * g 10) v) (45 + 2 * g 10 + 1) w 10 = g 10 := by rw [updN_n (by omega), updN_n (by omega)]
        have hg3 : fin (updN (updN (updN g (45 + 2 * g 10) v) (45 + 2 * g 10 + 1) w) 10 (g 10 + 1)) = updN (updN (updN (fin g) (45 + 2 * fin g 10) v) (45 + 2 * fin g 10 + 1) w) 10 (fin g 10 + 1) := by
          rw [fin_up (by omega) (by omega), fin_up (by omega) (by omega), fin_up (by omega) (by omega), e10]
        refine Or.inl ⟨S4, sA M3 2 (upd (upd (M3.2.1 2) (45 + 2 * g 10 + 1) (nI w)) 10 (nI (g 10 + 1))), updN (updN (updN g (45 + 2 * g 10) v) (45 + 2 * g 10 + 1) w) 10 (g 10 + 1), ad tx L (ad tx L (ad tx L p)), hcl _ (hc2 _ ?_), hml _ ((hm2 _ n2).trans ?_), ⟨cQ_m Q3 t2', mQ_A K4 (by omega), rd_sA RR6, ?_, ?_, ?_, hs, ?_⟩, by omega, frD_tr (frD_tr (frD_I s3) (frD_I fs2)) (frD_tr (frD_I fs3) (frD_m t2')), frG_tr (frG_tr (frG_R f1) (frG_R fm2)) (frG_tr frG_A (frG_tr (frG_R fm3) frG_A))⟩
        · rw [QX7_readBlink_33]
          simp (disch := omega) only [gO_3 a3, gR_3_0 a3, gI_3_1 a3, gP_3_1 a3, gI_3_2 a3, gP_3_2 a3, gR_3_3 a3, gR_3_4 a3, gR_3_5 a3, gI_3_6 a3, gP_3_6 a3, gI_3_7 a3, gP_3_7 a3, gI_3_8 a3, gP_3_8 a3, gI_3_9 a3, gP_3_9 a3, cI_s, cL_s, cF_s, cD_s, cA_s, cV_s, nI_add, cond_true, cond_false, if_true, if_false]
          rw [n1]
          simp (disch := omega) only [iLE_t, QX7_readBlink_48, gO_0 b0, gR_0_0 b0, gR_0_1 b0, gI_0_2 b0, gP_0_2 b0, cI_s, cL_s, cF_s, cD_s, cA_s, cV_s, nI_add, cond_true, cond_false, if_true, if_false]
          rw [t1]
          simp (disch := omega) only [xret5_1, cI_s, cL_s, cF_s, cD_s, cA_s, cV_s, nI_add, cond_true, cond_false, if_true, if_false]
        · simp (disch := omega) only [iEQ_f, QX11_readsBlink_72, gO_9 hM0, gI_9_0 hM0, gP_9_0 hM0, gR_9_1 hM0, gR_9_2 hM0, gI_9_3 hM0, gP_9_3 hM0, gI_9_4 hM0, gP_9_4 hM0, gR_9_5 hM0, gR_9_6 hM0, gR_9_7 hM0, gI_9_8 hM0, gP_9_8 hM0, gI_9_9 hM0, gP_9_9 hM0, gI_9_10 hM0, gP_9_10 hM0, gI_9_11 hM0, gP_9_11 hM0, gI_9_12 hM0, gP_9_12 hM0, gI_9_13 hM0, gP_9_13 hM0, gI_9_14 hM0, gP_9_14 hM0, gI_9_15 hM0, gP_9_15 hM0, gI_9_16 hM0, gP_9_16 hM0, gR_9_17 hM0, gR_9_18 hM0, gR_9_19 hM0, gR_9_20 hM0, gI_9_21 hM0, gP_9_21 hM0, gI_9_22 hM0, gP_9_22 hM0, gI_9_23 hM0, gP_9_23 hM0, gI_9_24 hM0, gP_9_24 hM0, gR_9_25 hM0, gI_9_26 hM0, gP_9_26 hM0, gI_9_27 hM0, gP_9_27 hM0, gI_9_28 hM0, gP_9_28 hM0, gL_9_29 hM0, gP_9_29 hM0, gL_9_30 hM0, gP_9_30 hM0, n13, sI_w hM2, aI_w hM2, sA_s, RR5, e10c, sA_sA, xret5_1, cI_s, cL_s, cF_s, cD_s, cA_s, cV_s, nI_add, cond_true, cond_false, if_true, if_false]
        · rw [hg3]
          obtain ⟨P1, P2, P3b, P4, e1, e2, e3, e4, e5⟩ := P3
          have o : ∀ i, i < 45 ∨ 61 ≤ i → i ≠ 10 → updN (updN (updN (fin g) (45 + 2 * fin g 10) v) (45 + 2 * fin g 10 + 1) w) 10 (fin g 10 + 1) i = fin g i := fun i a b => by rw [updN_n b, updN_n (by omega), updN_n (by omega)]
          obtain ⟨m1, m2, m3, m4, m5⟩ := pMd_fr t2 (by omega) P2
          refine ⟨pRw_cg (o 0 (by omega) (by omega)) (o 1 (by omega) (by omega)) (fun i a b => o i (by omega) (by omega)) I'.2.1 I'.1.2.1 (pRw_fr t2 (by omega) P1), ⟨?_, ?_, ?_, ?_, fun p hp => ?_⟩, t3, pFo_cg (o 11 (by omega) (by omega)) (fun i a => o i (by omega) (by omega)) (pFo_fr t2 (by omega) P4), ?_, ?_, ?_, ?_, ?_⟩
          · rw [o 0 (by omega) (by omega)]; exact m1
          · rw [o 4 (by omega) (by omega)]; exact m2
          · rw [o 5 (by omega) (by omega)]; exact m3
          · rw [o 6 (by omega) (by omega)]; exact m4
          · rw [o 0 (by omega) (by omega)] at hp
            have := I'.1.2.1
            rw [o (36 + p) (by omega) (by omega)]; exact m5 p hp
          · rw [frm_1 t2 (by omega), o 2 (by omega) (by omega)]; exact e1
          · rw [frm_1 t2 (by omega), o 3 (by omega) (by omega)]; exact e2
          · rw [frm_1 t2 (by omega), o 7 (by omega) (by omega)]; exact e3
          · rw [frm_1 t2 (by omega), o 8 (by omega) (by omega)]; exact e4
          · rw [frm_1 t2 (by omega), o 9 (by omega) (by omega)]; exact e5
        · exact iU_10 (iU_x (iU_x I (by omega)) (by omega)) (by omega)
        · exact ((fm3.1 16 (by omega)).trans ((fm2.1 16 (by omega)).trans ((f1.1 16 (by omega)).trans h16)))
        · intro z
          rw [updN_n (by omega), updN_n (by omega), updN_n (by omega)]
          exact h5 z
      · refine Or.inr ⟨S3, M3, hcl _ (hc2 _ ?_), hml _ ((hm2 _ n2).trans ?_), n3, frD_tr (frD_tr (frD_I s3) (frD_I fs2)) (frD_I fs3), frG_tr (frG_tr (frG_R f1) (frG_R fm2)) (frG_tr frG_A (frG_R fm3))⟩
        · rw [QX7_readBlink_33]
          simp (disch := omega) only [gO_3 a3, gR_3_0 a3, gI_3_1 a3, gP_3_1 a3, gI_3_2 a3, gP_3_2 a3, gR_3_3 a3, gR_3_4 a3, gR_3_5 a3, gI_3_6 a3, gP_3_6 a3, gI_3_7 a3, gP_3_7 a3, gI_3_8 a3, gP_3_8 a3, gI_3_9 a3, gP_3_9 a3, cI_s, cL_s, cF_s, cD_s, cA_s, cV_s, nI_add, cond_true, cond_false, if_true, if_false]
          rw [n1]
          simp (disch := omega) only [if_neg neg1, xret5_0, cI_s, cL_s, cF_s, cD_s, cA_s, cV_s, nI_add, cond_true, cond_false, if_true, if_false]
        · simp (disch := omega) only [iEQ_t, xret5_0, cI_s, cL_s, cF_s, cD_s, cA_s, cV_s, nI_add, cond_true, cond_false, if_true, if_false]
    · refine Or.inr ⟨S2, M2, hcl _ ?_, hml _ ?_, k3, frD_tr (frD_I s3) (frD_I fs2), frG_tr (frG_R f1) (frG_R fm2)⟩
      · rw [QX7_readBlink_14]
        simp (disch := omega) only [gO_3 a3, gR_3_0 a3, gI_3_1 a3, gP_3_1 a3, gI_3_2 a3, gP_3_2 a3, gR_3_3 a3, gR_3_4 a3, gR_3_5 a3, gI_3_6 a3, gP_3_6 a3, gI_3_7 a3, gP_3_7 a3, gI_3_8 a3, gP_3_8 a3, gI_3_9 a3, gP_3_9 a3, s1, cI_s, cL_s, cF_s, cD_s, cA_s, cV_s, nI_add, cond_true, cond_false, if_true, if_false]
        rw [k1]
        simp (disch := omega) only [if_neg neg1, xret5_0, cI_s, cL_s, cF_s, cD_s, cA_s, cV_s, nI_add, cond_true, cond_false, if_true, if_false]
      · rw [QX11_readsBlink_20]
        simp (disch := omega) only [gO_9 hM0, gI_9_0 hM0, gP_9_0 hM0, gR_9_1 hM0, gR_9_2 hM0, gI_9_3 hM0, gP_9_3 hM0, gI_9_4 hM0, gP_9_4 hM0, gR_9_5 hM0, gR_9_6 hM0, gR_9_7 hM0, gI_9_8 hM0, gP_9_8 hM0, gI_9_9 hM0, gP_9_9 hM0, gI_9_10 hM0, gP_9_10 hM0, gI_9_11 hM0, gP_9_11 hM0, gI_9_12 hM0, gP_9_12 hM0, gI_9_13 hM0, gP_9_13 hM0, gI_9_14 hM0, gP_9_14 hM0, gI_9_15 hM0, gP_9_15 hM0, gI_9_16 hM0, gP_9_16 hM0, gR_9_17 hM0, gR_9_18 hM0, gR_9_19 hM0, gR_9_20 hM0, gI_9_21 hM0, gP_9_21 hM0, gI_9_22 hM0, gP_9_22 hM0, gI_9_23 hM0, gP_9_23 hM0, gI_9_24 hM0, gP_9_24 hM0, gR_9_25 hM0, gI_9_26 hM0, gP_9_26 hM0, gI_9_27 hM0, gP_9_27 hM0, gI_9_28 hM0, gP_9_28 hM0, gL_9_29 hM0, gP_9_29 hM0, gL_9_30 hM0, gP_9_30 hM0, aI_w hM2, RR1, cI_s, cL_s, cF_s, cD_s, cA_s, cV_s, nI_add, cond_true, cond_false, if_true, if_false]
        rw [k2]
        simp (disch := omega) only [iEQ_t, xret5_0, cI_s, cL_s, cF_s, cD_s, cA_s, cV_s, nI_add, cond_true, cond_false, if_true, if_false]
-- settings
theorem sHi_fin {t : Nat} : sHi (fin g) t = sHi g t := by
  unfold sHi
  rw [fin_o (by omega)]
theorem sHi_le (I : iU g) {t : Nat} : sHi g t ≤ 9999 := by
  have := I.1.2.1
  unfold sHi
  repeat' split
  all_goals omega
theorem sLo_le {t : Nat} : sLo t ≤ 1 := by
  unfold sLo
  split <;> omega
theorem sTo_k {t : Nat} (h : isSt t) : sTo t < 11 ∧ sW t ≠ 5 := by
  rcases h with h | h | h | h | h <;> subst h <;> decide
theorem j_set (h3 : hI sh 1) (hG14 : hG sh 14) (H : hEn E x) {M1 : xSt} (R : RS S M tx L g p sb) (ht : isSt (tk tx L p)) (hb : sb.testBit (sW (tk tx L p)) = false) (K1 : mQ M1 tx L (ad tx L p)) (f1 : frR M M1) (d u : Nat) :
    oS E x y n m sh tx L S M p (sb ||| sBit (tk tx L p)) (xsem xT E (d + 4) kX7_readSetting [.ref (x + 1), .ref (x + 14)] (wW E x sh S, n)) (xsem xT E (u + 3) kX11_readsOne [.ref y, .int (nI (sTo (tk tx L p))), .int (nI (sLo (tk tx L p))), .int (nI (sHi g (tk tx L p)))] (wW E y shM (sS M1 0 16 (nI (sb ||| sBit (tk tx L p)))), m)) := by
  have a3 := h3.1
  have hpa := p_ad R.2.1
  have htl := tk_lt (tx := tx) (L := L) (p := p)
  obtain ⟨Q, K, RR, P, I, h16, hs, h5⟩ := R
  generalize htk : tk tx L p = t at *
  obtain ⟨hw1, hw2⟩ := sBit_w (Or.inl ht)
  obtain ⟨hto, hw5⟩ := sTo_k ht
  obtain ⟨_, _, ho3, ho4⟩ := sb_or sb hs (sW t) hw2
  rw [← hw1] at ho3 ho4
  have hgr := s7_greatest (E := E) (x := x) (n := n) hG14 H P (by rw [fin_o (by omega)]; exact I.1.2.1) (by rw [fin_o (by omega)]; exact I.1.1) ht (d + 2)
  rw [sHi_fin] at hgr
  have hhi := sHi_le I (t := t)
  have hlo := sLo_le (t := t)
  obtain ⟨S1, s1, s2, s3⟩ := c_advance (E := E) (x := x) (n := n) h3 Q (d + 2)
  have K2 : mQ (sS M1 0 16 (nI (sb ||| sBit t))) tx L (ad tx L p) := mQ_o K1 (by omega)
  have hc : ∀ r, qX7_readSetting_45 E (d + 3) (x + 1) (x + 14) (E.1 t) (nI (sHi g t)) (nI (sLo t)) (wW E x sh S1, n) = r → xsem xT E (d + 4) kX7_readSetting [.ref (x + 1), .ref (x + 14)] (wW E x sh S, n) = r := by
    intro r hr
    rw [eX7_readSetting, QX7_readSetting_0]
    simp (disch := omega) only [gO_3 a3, gR_3_0 a3, gI_3_1 a3, gP_3_1 a3, gI_3_2 a3, gP_3_2 a3, gR_3_3 a3, gR_3_4 a3, gR_3_5 a3, gI_3_6 a3, gP_3_6 a3, gI_3_7 a3, gP_3_7 a3, gI_3_8 a3, gP_3_8 a3, gI_3_9 a3, gP_3_9 a3, c_token h3 Q, htk, cI_s, cL_s, cF_s, cD_s, cA_s, cV_s, nI_add, cond_true, cond_false, if_true, if_false]
    rw [hgr]
    simp (disch := omega) only [iLE_t, QX7_readSetting_22, gO_3 a3, gR_3_0 a3, gI_3_1 a3, gP_3_1 a3, gI_3_2 a3, gP_3_2 a3, gR_3_3 a3, gR_3_4 a3, gR_3_5 a3, gI_3_6 a3, gP_3_6 a3, gI_3_7 a3, gP_3_7 a3, gI_3_8 a3, gP_3_8 a3, gI_3_9 a3, gP_3_9 a3, s1, cI_s, cL_s, cF_s, cD_s, cA_s, cV_s, nI_add, cond_true, cond_false, if_true, if_false]
    rw [← hr, bq_t H htl (by omega), bq_t H htl (by omega)]
    by_cases e16 : t = 16
    · rw [decide_eq_true e16, cond_true, QX7_readSetting_40, e16]
      rfl
    · by_cases e17 : t = 17
      · rw [decide_eq_false e16, cond_false, decide_eq_true e17, cond_true, QX7_readSetting_40, e17]
        rfl
      · rw [decide_eq_false e16, cond_false, decide_eq_false e17, cond_false, QX7_readSetting_44, show sLo t = 0 from if_neg (by omega)]
  rcases j_num (E := E) (x := x) (y := y) (n := n) (m := m) h3 H s2 K2 (lo := sLo t) (hi := sHi g t) (by omega) hhi (d + 1) u with ⟨S2, M2, k1, k2, Q2, K3, k13, fs2, fm2, hv1, hv2, hp1⟩ | ⟨S2, M2, k1, k2, k3, fs2, fm2⟩
  · generalize hv : nu tx L (ad tx L p) = v at *
    have P2 := pG_fr (frm_I fs2) (by omega) (pG_fr (frm_I s3) (by omega) P)
    obtain ⟨S3, t1, t2, t3⟩ := s7_set (E := E) (x := x) (n := n) hG14 H I P2 ht hv2 d
    have RR2 : ∀ k, k < 1100 → M2.2.1 2 k = nI (g k) := rd_R (M := sS M1 0 16 (nI (sb ||| sBit t))) (rd_R (M' := M1) RR f1) fm2
    have RR3 := rd_up (k := sTo t) (v := v) RR2
    refine Or.inl ⟨S3, sA M2 2 (upd (M2.2.1 2) (sTo t) (nI v)), updN g (sTo t) v, ad tx L (ad tx L p), hc _ ?_, ?_, ⟨cQ_m Q2 t3, mQ_A K3 (by omega), rd_sA RR3, t2, iU_set I ht hv1 hv2, ?_, ho3, ?_⟩, by omega, frD_tr (frD_I s3) (frD_tr (frD_I fs2) (frD_m t3)), frG_tr (frG_R f1) (frG_tr (frG_S (by omega)) (frG_tr (frG_R fm2) frG_A))⟩
    · rw [QX7_readSetting_45]
      simp (disch := omega) only [gO_3 a3, gR_3_0 a3, gI_3_1 a3, gP_3_1 a3, gI_3_2 a3, gP_3_2 a3, gR_3_3 a3, gR_3_4 a3, gR_3_5 a3, gI_3_6 a3, gP_3_6 a3, gI_3_7 a3, gP_3_7 a3, gI_3_8 a3, gP_3_8 a3, gI_3_9 a3, gP_3_9 a3, cI_s, cL_s, cF_s, cD_s, cA_s, cV_s, nI_add, cond_true, cond_false, if_true, if_false]
      rw [k1]
      simp (disch := omega) only [iLE_t, QX7_readSetting_63, t1, xret5_1, cI_s, cL_s, cF_s, cD_s, cA_s, cV_s, nI_add, cond_true, cond_false, if_true, if_false]
    · rw [eX11_readsOne, QX11_readsOne_0]
      simp (disch := omega) only [gO_9 hM0, gI_9_0 hM0, gP_9_0 hM0, gR_9_1 hM0, gR_9_2 hM0, gI_9_3 hM0, gP_9_3 hM0, gI_9_4 hM0, gP_9_4 hM0, gR_9_5 hM0, gR_9_6 hM0, gR_9_7 hM0, gI_9_8 hM0, gP_9_8 hM0, gI_9_9 hM0, gP_9_9 hM0, gI_9_10 hM0, gP_9_10 hM0, gI_9_11 hM0, gP_9_11 hM0, gI_9_12 hM0, gP_9_12 hM0, gI_9_13 hM0, gP_9_13 hM0, gI_9_14 hM0, gP_9_14 hM0, gI_9_15 hM0, gP_9_15 hM0, gI_9_16 hM0, gP_9_16 hM0, gR_9_17 hM0, gR_9_18 hM0, gR_9_19 hM0, gR_9_20 hM0, gI_9_21 hM0, gP_9_21 hM0, gI_9_22 hM0, gP_9_22 hM0, gI_9_23 hM0, gP_9_23 hM0, gI_9_24 hM0, gP_9_24 hM0, gR_9_25 hM0, gI_9_26 hM0, gP_9_26 hM0, gI_9_27 hM0, gP_9_27 hM0, gI_9_28 hM0, gP_9_28 hM0, gL_9_29 hM0, gP_9_29 hM0, gL_9_30 hM0, gP_9_30 hM0, cI_s, cL_s, cF_s, cD_s, cA_s, cV_s, nI_add, cond_true, cond_false, if_true, if_false]
      rw [k2]
      simp (disch := omega) only [iEQ_f, QX11_readsOne_11, gO_9 hM0, gI_9_0 hM0, gP_9_0 hM0, gR_9_1 hM0, gR_9_2 hM0, gI_9_3 hM0, gP_9_3 hM0, gI_9_4 hM0, gP_9_4 hM0, gR_9_5 hM0, gR_9_6 hM0, gR_9_7 hM0, gI_9_8 hM0, gP_9_8 hM0, gI_9_9 hM0, gP_9_9 hM0, gI_9_10 hM0, gP_9_10 hM0, gI_9_11 hM0, gP_9_11 hM0, gI_9_12 hM0, gP_9_12 hM0, gI_9_13 hM0, gP_9_13 hM0, gI_9_14 hM0, gP_9_14 hM0, gI_9_15 hM0, gP_9_15 hM0, gI_9_16 hM0, gP_9_16 hM0, gR_9_17 hM0, gR_9_18 hM0, gR_9_19 hM0, gR_9_20 hM0, gI_9_21 hM0, gP_9_21 hM0, gI_9_22 hM0, gP_9_22 hM0, gI_9_23 hM0, gP_9_23 hM0, gI_9_24 hM0, gP_9_24 hM0, gR_9_25 hM0, gI_9_26 hM0, gP_9_26 hM0, gI_9_27 hM0, gP_9_27 hM0, gI_9_28 hM0, gP_9_28 hM0, gL_9_29 hM0, gP_9_29 hM0, gL_9_30 hM0, gP_9_30 hM0, k13, sI_w hM2, xret5_1, cI_s, cL_s, cF_s, cD_s, cA_s, cV_s, nI_add, cond_true, cond_false, if_true, if_false]
    · exact (fm2.1 16 (by omega)).trans sS_s
    · intro z
      rw [ho4, decide_eq_false hw5, Bool.or_false] at z
      rw [updN_n (by omega)]
      exact h5 z
  · refine Or.inr ⟨S2, M2, hc _ ?_, ?_, k3, frD_tr (frD_I s3) (frD_I fs2), frG_tr (frG_R f1) (frG_tr (frG_S (by omega)) (frG_R fm2))⟩
    · rw [QX7_readSetting_45]
      simp (disch := omega) only [gO_3 a3, gR_3_0 a3, gI_3_1 a3, gP_3_1 a3, gI_3_2 a3, gP_3_2 a3, gR_3_3 a3, gR_3_4 a3, gR_3_5 a3, gI_3_6 a3, gP_3_6 a3, gI_3_7 a3, gP_3_7 a3, gI_3_8 a3, gP_3_8 a3, gI_3_9 a3, gP_3_9 a3, cI_s, cL_s, cF_s, cD_s, cA_s, cV_s, nI_add, cond_true, cond_false, if_true, if_false]
      rw [k1]
      simp (disch := omega) only [if_neg neg1, xret5_0, cI_s, cL_s, cF_s, cD_s, cA_s, cV_s, nI_add, cond_true, cond_false, if_true, if_false]
    · rw [eX11_readsOne, QX11_readsOne_0]
      simp (disch := omega) only [gO_9 hM0, gI_9_0 hM0, gP_9_0 hM0, gR_9_1 hM0, gR_9_2 hM0, gI_9_3 hM0, gP_9_3 hM0, gI_9_4 hM0, gP_9_4 hM0, gR_9_5 hM0, gR_9_6 hM0, gR_9_7 hM0, gI_9_8 hM0, gP_9_8 hM0, gI_9_9 hM0, gP_9_9 hM0, gI_9_10 hM0, gP_9_10 hM0, gI_9_11 hM0, gP_9_11 hM0, gI_9_12 hM0, gP_9_12 hM0, gI_9_13 hM0, gP_9_13 hM0, gI_9_14 hM0, gP_9_14 hM0, gI_9_15 hM0, gP_9_15 hM0, gI_9_16 hM0, gP_9_16 hM0, gR_9_17 hM0, gR_9_18 hM0, gR_9_19 hM0, gR_9_20 hM0, gI_9_21 hM0, gP_9_21 hM0, gI_9_22 hM0, gP_9_22 hM0, gI_9_23 hM0, gP_9_23 hM0, gI_9_24 hM0, gP_9_24 hM0, gR_9_25 hM0, gI_9_26 hM0, gP_9_26 hM0, gI_9_27 hM0, gP_9_27 hM0, gI_9_28 hM0, gP_9_28 hM0, gL_9_29 hM0, gP_9_29 hM0, gL_9_30 hM0, gP_9_30 hM0, cI_s, cL_s, cF_s, cD_s, cA_s, cV_s, nI_add, cond_true, cond_false, if_true, if_false]
      rw [k2]
      simp (disch := omega) only [iEQ_t, xret5_0, cI_s, cL_s, cF_s, cD_s, cA_s, cV_s, nI_add, cond_true, cond_false, if_true, if_false]
-- odds
theorem pG_e {S' : xSt} {h : Nat → Nat} (e : ∀ j, 14 ≤ j → j < 23 → eqQ S S' j) (P : pG S 14 h) : pRw S' (14 + 1) h ∧ pMd S' (14 + 4) h ∧ pBk S' (14 + 6) h ∧ S'.1 14 4 = nI (h 2) ∧ S'.1 14 5 = nI (h 3) ∧ S'.1 14 6 = nI (h 7) ∧ S'.1 14 7 = nI (h 8) ∧ S'.1 14 8 = nI (h 9) := by
  obtain ⟨⟨r1, r2, r3, r4, r5⟩, ⟨m1, m2, m3, m4, m5⟩, ⟨k1, k2⟩, _, e1, e2, e3, e4, e5⟩ := P
  have f := fun j a b k => congrFun (e j a b).1 k
  have f2 := fun j a b => (e j a b).2
  refine ⟨⟨?_, ?_, ?_, fun p hp => ?_, fun p hp => ?_⟩, ⟨?_, ?_, ?_, ?_, fun p hp => ?_⟩, ⟨?_, fun k hk => ?_⟩, ?_, ?_, ?_, ?_, ?_⟩
  · rw [f (14 + 1) (by omega) (by omega)]; exact r1
  · rw [f (14 + 1) (by omega) (by omega)]; exact r2
  · rw [f (14 + 1) (by omega) (by omega)]; exact r3
  · rw [f2 (14 + 1 + 1) (by omega) (by omega)]; exact r4 p hp
  · rw [f2 (14 + 1 + 2) (by omega) (by omega)]; exact r5 p hp
  · rw [f (14 + 4) (by omega) (by omega)]; exact m1
  · rw [f (14 + 4) (by omega) (by omega)]; exact m2
  · rw [f (14 + 4) (by omega) (by omega)]; exact m3
  · rw [f (14 + 4) (by omega) (by omega)]; exact m4
  · rw [f2 (14 + 4 + 1) (by omega) (by omega)]; exact m5 p hp
  · rw [f (14 + 6) (by omega) (by omega)]; exact k1
  · rw [f2 (14 + 6 + 1) (by omega) (by omega), f2 (14 + 6 + 2) (by omega) (by omega)]; exact k2 k hk
  · rw [f 14 (by omega) (by omega)]; exact e1
  · rw [f 14 (by omega) (by omega)]; exact e2
  · rw [f 14 (by omega) (by omega)]; exact e3
  · rw [f 14 (by omega) (by omega)]; exact e4
  · rw [f 14 (by omega) (by omega)]; exact e5
theorem j_odds (h3 : hI sh 1) (hG14 : hG sh 14) (H : hEn E x) (H' : hEn E y) {M1 : xSt} (R : RS S M tx L g p sb) (hb : sb.testBit 5 = false) (K1 : mQ M1 tx L (ad tx L p)) (f1 : frR M M1) (d u : Nat) :
    oS E x y n m sh tx L S M p (sb ||| 2 ^ 5) (gO E (wW E x sh S, n) 3 (x + 1) (cV (xthr 1 some) (xsem xT E (d + 18) kX3_advance [.ref (x + 1)] (wW E x sh S, n)) (fun σ2 => gR σ2 2 3 (x + 14) (fun v2 => gO E σ2 1 v2 (cV (xthr 1 some) (xsem xT E (d + 18) kX1_clear [.ref v2] σ2) (fun σ3 => gR σ3 2 3 (x + 14) (fun v3 => gO E σ3 1 v3 (cI (xthr 3 some) (xsem xT E (d + 18) kX1_readSum [.ref v3, .ref (x + 1), .int (nI 0)] σ3) (fun v4 σ4 => xiret [5] v4 (some (.inl (some (.int v4)), σ4)))))))))))
      (xsem xT E (u + 22) kX11_readsSum [.ref y] (wW E y shM (sS (sS M1 0 15 (nI 0)) 0 16 (nI (sb ||| 2 ^ 5))), m)) := by
  have a3 := h3.1
  have b0 : sh 14 = some (sh2 14) := hG14.1
  have b9 : sh (14 + 9) = some (sh1 (14 + 9)) := hG14.2.2.2.2.2.2.2.2.2.1
  have b10 : sh 24 = some (1, 500, []) := hG14.2.2.2.2.2.2.2.2.2.2.1
  have hpa := p_ad R.2.1
  obtain ⟨Q, K, RR, P, I, h16, hs, h5⟩ := R
  have hL := (mQ_le K).2.1
  have I' := (iU_fin I).1
  have h11 := h5 hb
  obtain ⟨_, _, ho3, ho4⟩ := sb_or sb hs 5 (by omega)
  obtain ⟨S1, s1, s2, s3⟩ := c_advance (E := E) (x := x) (n := n) h3 Q (d + 17)
  have hcl := s1_clear (E := E) (x := x) (n := n) (S := S1) b9 (d + 17)
  have fcl : frm 14 26 S1 (sS S1 (14 + 9) 1 (nI 0)) := frm_sS (by omega) (by omega)
  have hR1 : RF (sS S1 (14 + 9) 1 (nI 0)) (sS (sS M1 0 15 (nI 0)) 0 16 (nI (sb ||| 2 ^ 5))) tx L g (ad tx L p) 0 := by
    refine ⟨cQ_m s2 fcl, mQ_o (mQ_o K1 (by omega)) (by omega), rd_R (M' := M1) RR f1, ⟨?_, fun k hk => absurd hk (by omega)⟩, ?_⟩
    · rw [h11]; exact sS_s
    · rw [sS_n (by omega), sS_s]
  have hfm : frG M (sS (sS M1 0 15 (nI 0)) 0 16 (nI (sb ||| 2 ^ 5))) := frG_tr (frG_R f1) (frG_tr (frG_S (by omega)) (frG_S (by omega)))
  rcases p_all (n := n) (m := m) h3 b9 b10 H H' 4 d u _ _ g (ad tx L p) 0 0 (by omega) hR1 (by omega) with ⟨S2, M2, g2, p2, k1, k2, k3, k4, k5, k6, k7, k8⟩ | ⟨S2, M2, k1, k2, k3, k4, k5⟩
  · have k1 : xsem xT E (d + 18) kX1_readSum [.ref (x + (14 + 9)), .ref (x + 1), .int (nI 0)] (wW E x sh (sS S1 (14 + 9) 1 (nI 0)), n) = some (.inl (some (.int (nI 1))), (wW E x sh S2, n)) := k1
    obtain ⟨Q2, K2, RR2, F2, hd2⟩ := k3
    have hp2 := (mQ_le K2).1
    obtain ⟨kk, q1, q2, q3⟩ := k8
    have q3 := q3 0 (by omega)
    have hkk : kk ≠ 0 := by
      intro z
      rw [z] at q3
      have q3 : 0 + 0 = 0 + 1 := q3
      omega
    have hg11 : g2 11 = kk := by omega
    have o : ∀ i, i < 61 → i ≠ 11 → g2 i = g i := fun i a b => q2 i b (by omega)
    have of : ∀ i, i < 61 → i ≠ 11 → fin g2 i = fin g i := fun i a b => by
      unfold fin
      rw [o 1 (by omega) (by omega), o i a b]
    have hfo : iFo g2 := ⟨by omega, fun _ => by
      rw [hg11]
      rw [h11] at q3
      exact fS_ok _ _ _ q3⟩
    have P1 := pG_fr (frm_I s3) (by omega) P
    obtain ⟨P1, ⟨m1, m2, m3, m4, m5⟩, P3, e1, e2, e3, e4, e5⟩ := pG_e (S := S1) (S' := S2) (fun j a b => ⟨(k4.1 j (by omega) (by omega)).trans (by funext k; exact sS_nq (by omega)), k4.2.2.1 j (by omega) (by omega)⟩) P1
    refine Or.inl ⟨S2, M2, g2, p2, ?_, k2, ⟨Q2, K2, RR2, ⟨pRw_cg (of 0 (by omega) (by omega)) (of 1 (by omega) (by omega)) (fun i a b => of i (by omega) (by omega)) I'.2.1 I'.1.2.1 P1, ⟨?_, ?_, ?_, ?_, fun p hp => ?_⟩, pBk_cg (of 10 (by omega) (by omega)) I'.1.2.2.2.2.2.2.2.2.2 (fun i a b => of i (by omega) (by omega)) P3, ⟨fun z => ?_, fun _ => ⟨?_, fun k hk => ?_⟩⟩, ?_, ?_, ?_, ?_, ?_⟩, iU_f I o hfo, ?_, ho3, fun z => ?_⟩, by omega, frD_tr (frD_I s3) (frD_tr (frD_m fcl) (frD_C k4)), frG_tr hfm (frG_F k5)⟩
    · simp (disch := omega) only [gO_3 a3, gR_3_0 a3, gI_3_1 a3, gP_3_1 a3, gI_3_2 a3, gP_3_2 a3, gR_3_3 a3, gR_3_4 a3, gR_3_5 a3, gI_3_6 a3, gP_3_6 a3, gI_3_7 a3, gP_3_7 a3, gI_3_8 a3, gP_3_8 a3, gI_3_9 a3, gP_3_9 a3, s1, gO_2 b0, gR_2_0 b0, gR_2_1 b0, gR_2_2 b0, gR_2_3 b0, gI_2_4 b0, gP_2_4 b0, gI_2_5 b0, gP_2_5 b0, gI_2_6 b0, gP_2_6 b0, gI_2_7 b0, gP_2_7 b0, gI_2_8 b0, gP_2_8 b0, gO_1 b9, gR_1_0 b9, gI_1_1 b9, gP_1_1 b9, gR_1_2 b9, hcl, cI_s, cL_s, cF_s, cD_s, cA_s, cV_s, nI_add, cond_true, cond_false, if_true, if_false]
      rw [k1]
      simp (disch := omega) only [xret5_1, cI_s, cL_s, cF_s, cD_s, cA_s, cV_s, nI_add, cond_true, cond_false, if_true, if_false]
    · rw [of 0 (by omega) (by omega)]; exact m1
    · rw [of 4 (by omega) (by omega)]; exact m2
    · rw [of 5 (by omega) (by omega)]; exact m3
    · rw [of 6 (by omega) (by omega)]; exact m4
    · rw [of 0 (by omega) (by omega)] at hp
      have := I'.1.2.1
      rw [of (36 + p) (by omega) (by omega)]; exact m5 p hp
    · rw [fin_o (by omega)] at z; omega
    · rw [fin_o (by omega)]; exact F2.1
    · rw [fin_o (by omega)] at hk
      rw [fin_o (by omega), fin_o (by omega)]; exact F2.2 k hk
    · rw [of 2 (by omega) (by omega)]; exact e1
    · rw [of 3 (by omega) (by omega)]; exact e2
    · rw [of 7 (by omega) (by omega)]; exact e3
    · rw [of 8 (by omega) (by omega)]; exact e4
    · rw [of 9 (by omega) (by omega)]; exact e5
    · exact (k5.1 16 (by omega)).trans sS_s
    · rw [ho4] at z
      simp at z
  · have k1 : xsem xT E (d + 18) kX1_readSum [.ref (x + (14 + 9)), .ref (x + 1), .int (nI 0)] (wW E x sh (sS S1 (14 + 9) 1 (nI 0)), n) = some (.inl (some (.int (nI 0))), (wW E x sh S2, n)) := k1
    refine Or.inr ⟨S2, M2, ?_, k2, k3, frD_tr (frD_I s3) (frD_tr (frD_m fcl) (frD_C k4)), frG_tr hfm (frG_F k5)⟩
    simp (disch := omega) only [gO_3 a3, gR_3_0 a3, gI_3_1 a3, gP_3_1 a3, gI_3_2 a3, gP_3_2 a3, gR_3_3 a3, gR_3_4 a3, gR_3_5 a3, gI_3_6 a3, gP_3_6 a3, gI_3_7 a3, gP_3_7 a3, gI_3_8 a3, gP_3_8 a3, gI_3_9 a3, gP_3_9 a3, s1, gO_2 b0, gR_2_0 b0, gR_2_1 b0, gR_2_2 b0, gR_2_3 b0, gI_2_4 b0, gP_2_4 b0, gI_2_5 b0, gP_2_5 b0, gI_2_6 b0, gP_2_6 b0, gI_2_7 b0, gP_2_7 b0, gI_2_8 b0, gP_2_8 b0, gO_1 b9, gR_1_0 b9, gI_1_1 b9, gP_1_1 b9, gR_1_2 b9, hcl, cI_s, cL_s, cF_s, cD_s, cA_s, cV_s, nI_add, cond_true, cond_false, if_true, if_false]
    rw [k1]
    simp (disch := omega) only [xret5_0, cI_s, cL_s, cF_s, cD_s, cA_s, cV_s, nI_add, cond_true, cond_false, if_true, if_false]
end ST3
