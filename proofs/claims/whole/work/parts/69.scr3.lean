/-! A script's commands, one behind the other. -/
section SC3
variable {E : xEn} {x y n m : Nat} {sh : Nat → Option xSh} {L : Nat} {tx : Nat → Nat}
def oCL (E : xEn) (x y n m : Nat) (sh : Nat → Option xSh) (tx : Nat → Nat) (L : Nat) (S M : xSt) (P : Nat → Nat → Nat) (p N dep r : Nat) (cr mr : Option xR) : Prop :=
  oC1 E x y n m sh tx L S M P p N dep (fun P' N' => okE P' r N N') cr mr ∨
    ∃ S' M' p', cr = some (.inl (some (.int (nI 1))), (wW E x sh S', n)) ∧ mr = some (.inl (some (.int (nI 0))), (wW E y shM M', m)) ∧ cQ S' tx L p' ∧ tk tx L p' ≠ 9 ∧ tk tx L p' ≠ 0 ∧ mX M' (-2) p' ∧ frW S S' ∧ frV M M'
theorem j_cmds (h3 : hI sh 1) (h6 : hS6 sh) (H : hEn E x) (H' : hEn E y) {d u r dep : Nat} (ih : ∀ r', r = r' + 1 → okC E x y n m sh tx L (d + 3) (u + 5) r') (hr : dep + r = 3) :
    ∀ k i S M P N p, L ≤ p + k → i ≤ p → RC S M tx L p N dep P → oCL E x y n m sh tx L S M P p N dep r (qX6_readCommands_2 E (d + 4) (x + 6) (x + 1) (nI dep) (nI i) (wW E x sh S, n)) (qX11_readsScript_0 E (u + 7) y (wW E y shM M, m)) := by
  have a3 := h3.1
  have b0 := h6.1
  -- no command begins here
  have hno : ∀ i S M P N p, i ≤ p → RC S M tx L p N dep P → tk tx L p < 22 → oCL E x y n m sh tx L S M P p N dep r (qX6_readCommands_2 E (d + 4) (x + 6) (x + 1) (nI dep) (nI i) (wW E x sh S, n)) (qX11_readsScript_0 E (u + 7) y (wW E y shM M, m)) := by
    intro i S M P N p hi R e
    have R0 := R
    obtain ⟨Q, Km, PC, hd⟩ := R
    obtain ⟨hpL, hL, hx, ht⟩ := mQ_le Km
    have K' := mQ_P Km
    have hcl : qX6_readCommands_2 E (d + 4) (x + 6) (x + 1) (nI dep) (nI i) (wW E x sh S, n) = some (.inl (some (.int (nI 1))), (wW E x sh S, n)) := by
      rw [QX6_readCommands_2]
      by_cases c : i < 500
      · simp (disch := omega) only [iLE_f, gO_3 a3, gR_3_0 a3, gI_3_1 a3, gP_3_1 a3, gI_3_2 a3, gP_3_2 a3, gR_3_3 a3, gR_3_4 a3, gR_3_5 a3, gI_3_6 a3, gP_3_6 a3, gI_3_7 a3, gP_3_7 a3, gI_3_8 a3, gP_3_8 a3, gI_3_9 a3, gP_3_9 a3, c_token h3 Q, cI_s, cL_s, cF_s, cD_s, cA_s, cV_s, nI_add, cond_true, cond_false, if_true, if_false]
        rw [c_nb_n H e]
        simp (disch := omega) only [if_pos (show (-1 : Int32) < nI 0 by decide), QX6_readCommands_84, xret5_1, cI_s, cL_s, cF_s, cD_s, cA_s, cV_s, nI_add, cond_true, cond_false, if_true, if_false]
      · simp (disch := omega) only [iLE_t, QX6_readCommands_84, xret5_1, cI_s, cL_s, cF_s, cD_s, cA_s, cV_s, nI_add, cond_true, cond_false, if_true, if_false]
    by_cases hl : p < L ∧ kd (tx p) = 2
    · obtain ⟨M', f1, f2, f3⟩ := t_fail (E := E) (x := y) (n := m) K' (-2) p (u + 5)
      have e1 : tk tx L p ≠ 0 := fun z => (tk_0 hL).1 z hl.1
      have e9 : tk tx L p ≠ 9 := fun z => by
        have h := ((tk_sg hL ht (i := 9) (by omega) (by omega)).1 z).2
        have h2 := (sg_lt 9 (by omega)).2
        rw [← h] at h2
        omega
      refine Or.inr ⟨S, M', p, hcl, ?_, Q, e9, e1, f2, frW_rf, frV_R (frR_tr frR_P f3)⟩
      have hcmd : xsem xT E (u + 7) kX11_readsCommand [.ref y] (wW E y shM (mP M p), m) = some (.inl (some (.int (nI 0))), (wW E y shM M', m)) := by
        rw [eX11_readsCommand, QX11_readsCommand_0]
        simp (disch := omega) only [gO_9 hM0, gI_9_0 hM0, gP_9_0 hM0, gR_9_1 hM0, gR_9_2 hM0, gI_9_3 hM0, gP_9_3 hM0, gI_9_4 hM0, gP_9_4 hM0, gR_9_5 hM0, gR_9_6 hM0, gR_9_7 hM0, gI_9_8 hM0, gP_9_8 hM0, gI_9_9 hM0, gP_9_9 hM0, gI_9_10 hM0, gP_9_10 hM0, gI_9_11 hM0, gP_9_11 hM0, gI_9_12 hM0, gP_9_12 hM0, gI_9_13 hM0, gP_9_13 hM0, gI_9_14 hM0, gP_9_14 hM0, gI_9_15 hM0, gP_9_15 hM0, gI_9_16 hM0, gP_9_16 hM0, gR_9_17 hM0, gR_9_18 hM0, gR_9_19 hM0, gR_9_20 hM0, gI_9_21 hM0, gP_9_21 hM0, gI_9_22 hM0, gP_9_22 hM0, gI_9_23 hM0, gP_9_23 hM0, gI_9_24 hM0, gP_9_24 hM0, gR_9_25 hM0, gI_9_26 hM0, gP_9_26 hM0, gI_9_27 hM0, gP_9_27 hM0, gI_9_28 hM0, gP_9_28 hM0, gL_9_29 hM0, gP_9_29 hM0, gL_9_30 hM0, gP_9_30 hM0, t_here' Km, mP_10, cI_s, cL_s, cF_s, cD_s, cA_s, cV_s, nI_add, cond_true, cond_false, if_true, if_false]
        rw [m_kind_n H' Km e]
        simp (disch := omega) only [gO_9 hM0, gI_9_0 hM0, gP_9_0 hM0, gR_9_1 hM0, gR_9_2 hM0, gI_9_3 hM0, gP_9_3 hM0, gI_9_4 hM0, gP_9_4 hM0, gR_9_5 hM0, gR_9_6 hM0, gR_9_7 hM0, gI_9_8 hM0, gP_9_8 hM0, gI_9_9 hM0, gP_9_9 hM0, gI_9_10 hM0, gP_9_10 hM0, gI_9_11 hM0, gP_9_11 hM0, gI_9_12 hM0, gP_9_12 hM0, gI_9_13 hM0, gP_9_13 hM0, gI_9_14 hM0, gP_9_14 hM0, gI_9_15 hM0, gP_9_15 hM0, gI_9_16 hM0, gP_9_16 hM0, gR_9_17 hM0, gR_9_18 hM0, gR_9_19 hM0, gR_9_20 hM0, gI_9_21 hM0, gP_9_21 hM0, gI_9_22 hM0, gP_9_22 hM0, gI_9_23 hM0, gP_9_23 hM0, gI_9_24 hM0, gP_9_24 hM0, gR_9_25 hM0, gI_9_26 hM0, gP_9_26 hM0, gI_9_27 hM0, gP_9_27 hM0, gI_9_28 hM0, gP_9_28 hM0, gL_9_29 hM0, gP_9_29 hM0, gL_9_30 hM0, gP_9_30 hM0, cI_s, cL_s, cF_s, cD_s, cA_s, cV_s, nI_add, cond_true, cond_false, if_true, if_false]
        rw [f1]
        simp (disch := omega) only [xret5_0, cI_s, cL_s, cF_s, cD_s, cA_s, cV_s, nI_add, cond_true, cond_false, if_true, if_false]
      rw [QX11_readsScript_0]
      simp (disch := omega) only [gO_9 hM0, gI_9_0 hM0, gP_9_0 hM0, gR_9_1 hM0, gR_9_2 hM0, gI_9_3 hM0, gP_9_3 hM0, gI_9_4 hM0, gP_9_4 hM0, gR_9_5 hM0, gR_9_6 hM0, gR_9_7 hM0, gI_9_8 hM0, gP_9_8 hM0, gI_9_9 hM0, gP_9_9 hM0, gI_9_10 hM0, gP_9_10 hM0, gI_9_11 hM0, gP_9_11 hM0, gI_9_12 hM0, gP_9_12 hM0, gI_9_13 hM0, gP_9_13 hM0, gI_9_14 hM0, gP_9_14 hM0, gI_9_15 hM0, gP_9_15 hM0, gI_9_16 hM0, gP_9_16 hM0, gR_9_17 hM0, gR_9_18 hM0, gR_9_19 hM0, gR_9_20 hM0, gI_9_21 hM0, gP_9_21 hM0, gI_9_22 hM0, gP_9_22 hM0, gI_9_23 hM0, gP_9_23 hM0, gI_9_24 hM0, gP_9_24 hM0, gR_9_25 hM0, gI_9_26 hM0, gP_9_26 hM0, gI_9_27 hM0, gP_9_27 hM0, gI_9_28 hM0, gP_9_28 hM0, gL_9_29 hM0, gP_9_29 hM0, gL_9_30 hM0, gP_9_30 hM0, t_here Km, t_letter hL ht, if_pos hl, iEQ_f, cI_s, cL_s, cF_s, cD_s, cA_s, cV_s, nI_add, cond_true, cond_false, if_true, if_false]
      rw [hcmd]
      simp (disch := omega) only [iEQ_t, QX11_readsScript_26, xret5_0, cI_s, cL_s, cF_s, cD_s, cA_s, cV_s, nI_add, cond_true, cond_false, if_true, if_false]
    · refine Or.inl (Or.inl ⟨S, mP M p, P, N, p, hcl, ?_, RC_I R0 frI_rf frR_P Q K', Nat.le_refl _, Nat.le_refl _, fun _ _ => rfl, ⟨0, rfl⟩, frW_rf, frV_R frR_P⟩)
      rw [QX11_readsScript_0]
      simp (disch := omega) only [gO_9 hM0, gI_9_0 hM0, gP_9_0 hM0, gR_9_1 hM0, gR_9_2 hM0, gI_9_3 hM0, gP_9_3 hM0, gI_9_4 hM0, gP_9_4 hM0, gR_9_5 hM0, gR_9_6 hM0, gR_9_7 hM0, gI_9_8 hM0, gP_9_8 hM0, gI_9_9 hM0, gP_9_9 hM0, gI_9_10 hM0, gP_9_10 hM0, gI_9_11 hM0, gP_9_11 hM0, gI_9_12 hM0, gP_9_12 hM0, gI_9_13 hM0, gP_9_13 hM0, gI_9_14 hM0, gP_9_14 hM0, gI_9_15 hM0, gP_9_15 hM0, gI_9_16 hM0, gP_9_16 hM0, gR_9_17 hM0, gR_9_18 hM0, gR_9_19 hM0, gR_9_20 hM0, gI_9_21 hM0, gP_9_21 hM0, gI_9_22 hM0, gP_9_22 hM0, gI_9_23 hM0, gP_9_23 hM0, gI_9_24 hM0, gP_9_24 hM0, gR_9_25 hM0, gI_9_26 hM0, gP_9_26 hM0, gI_9_27 hM0, gP_9_27 hM0, gI_9_28 hM0, gP_9_28 hM0, gL_9_29 hM0, gP_9_29 hM0, gL_9_30 hM0, gP_9_30 hM0, t_here Km, t_letter hL ht, if_neg hl, iEQ_t, QX11_readsScript_28, xret5_1, cI_s, cL_s, cF_s, cD_s, cA_s, cV_s, nI_add, cond_true, cond_false, if_true, if_false]
  intro k
  induction k with
  | zero =>
    intro i S M P N p hk hi R
    have hL := (mQ_le R.2.1).2.1
    exact hno i S M P N p hi R (by rw [(tk_0 hL).2 (by omega)]; omega)
  | succ k ihk =>
    intro i S M P N p hk hi R
    by_cases e : tk tx L p < 22
    · exact hno i S M P N p hi R e
    · have R' := RC_I R frI_rf frR_P R.1 (mQ_P R.2.1)
      have htl := tk_lt (tx := tx) (L := L) (p := p)
      obtain ⟨K, hK, eK⟩ : ∃ K, K ≤ 6 ∧ tk tx L p = 22 + K := ⟨tk tx L p - 22, by omega, by omega⟩
      have Q := R.1
      have Km := R.2.1
      have PC := R.2.2.1
      have hd := R.2.2.2
      obtain ⟨hpL, hL, hx, ht⟩ := mQ_le Km
      have K' := mQ_P Km
      have hl := tk_22 hL hx hK eK
      have hn : S.1 6 4 = nI N := PC.1
      have hN60 := PC.2.2.1
      have hnb : nbO K ≤ 2 := by
        unfold nbO
        by_cases c : K ≤ 1
        · rw [if_pos c]; omega
        · rw [if_neg c]; split <;> omega
      -- the heads
      have hc0 : ∀ r, (if nI N < nI 60 then qX6_readCommands_35 E (d + 4) (x + 6) (x + 1) (nI dep) (nI i) (wW E x sh S, n) else gO E (wW E x sh S, n) 3 (x + 1) (cI (xthr 1 some) (xsem xT E (d + 4) kX3_fail [.ref (x + 1), .int (-5 : Int32)] (wW E x sh S, n)) (fun v4 σ3 => xiret [5] v4 (some (.inl (some (.int v4)), σ3))))) = r → qX6_readCommands_2 E (d + 4) (x + 6) (x + 1) (nI dep) (nI i) (wW E x sh S, n) = r := by
        intro r hr
        rw [QX6_readCommands_2]
        simp (disch := omega) only [iLE_f, gO_3 a3, gR_3_0 a3, gI_3_1 a3, gP_3_1 a3, gI_3_2 a3, gP_3_2 a3, gR_3_3 a3, gR_3_4 a3, gR_3_5 a3, gI_3_6 a3, gP_3_6 a3, gI_3_7 a3, gP_3_7 a3, gI_3_8 a3, gP_3_8 a3, gI_3_9 a3, gP_3_9 a3, c_token h3 Q, eK, cI_s, cL_s, cF_s, cD_s, cA_s, cV_s, nI_add, cond_true, cond_false, if_true, if_false]
        rw [c_nb H hK]
        simp (disch := omega) only [iLT_f, gO_6 b0, gR_6_0 b0, gR_6_1 b0, gR_6_2 b0, gR_6_3 b0, gI_6_4 b0, gP_6_4 b0, gI_6_5 b0, gP_6_5 b0, hn, cI_s, cL_s, cF_s, cD_s, cA_s, cV_s, nI_add, cond_true, cond_false, if_true, if_false]
        exact hr
      have hm0 : ∀ v M', xsem xT E (u + 7) kX11_readsCommand [.ref y] (wW E y shM (mP M p), m) = some (.inl (some (.int v)), (wW E y shM M', m)) → qX11_readsScript_0 E (u + 7) y (wW E y shM M, m) = if v = nI 0 then qX11_readsScript_26 E (u + 7) (wW E y shM M', m) else gO E (wW E y shM M', m) 9 y (cI (xthr 1 some) (xsem xT E (u + 7) kX11_sign [.ref y, .int (nI 59)] (wW E y shM M', m)) (fun v4 σ4 => if v4 = nI 0 then qX11_readsScript_26 E (u + 7) σ4 else qX11_readsScript_0 E (u + 7) y σ4)) := by
        intro v M' hv
        rw [QX11_readsScript_0]
        simp (disch := omega) only [gO_9 hM0, gI_9_0 hM0, gP_9_0 hM0, gR_9_1 hM0, gR_9_2 hM0, gI_9_3 hM0, gP_9_3 hM0, gI_9_4 hM0, gP_9_4 hM0, gR_9_5 hM0, gR_9_6 hM0, gR_9_7 hM0, gI_9_8 hM0, gP_9_8 hM0, gI_9_9 hM0, gP_9_9 hM0, gI_9_10 hM0, gP_9_10 hM0, gI_9_11 hM0, gP_9_11 hM0, gI_9_12 hM0, gP_9_12 hM0, gI_9_13 hM0, gP_9_13 hM0, gI_9_14 hM0, gP_9_14 hM0, gI_9_15 hM0, gP_9_15 hM0, gI_9_16 hM0, gP_9_16 hM0, gR_9_17 hM0, gR_9_18 hM0, gR_9_19 hM0, gR_9_20 hM0, gI_9_21 hM0, gP_9_21 hM0, gI_9_22 hM0, gP_9_22 hM0, gI_9_23 hM0, gP_9_23 hM0, gI_9_24 hM0, gP_9_24 hM0, gR_9_25 hM0, gI_9_26 hM0, gP_9_26 hM0, gI_9_27 hM0, gP_9_27 hM0, gI_9_28 hM0, gP_9_28 hM0, gL_9_29 hM0, gP_9_29 hM0, gL_9_30 hM0, gP_9_30 hM0, t_here Km, t_letter hL ht, if_pos hl, iEQ_f, cI_s, cL_s, cF_s, cD_s, cA_s, cV_s, nI_add, cond_true, cond_false, if_true, if_false]
        rw [hv]
        simp (disch := omega) only [gO_9 hM0, gI_9_0 hM0, gP_9_0 hM0, gR_9_1 hM0, gR_9_2 hM0, gI_9_3 hM0, gP_9_3 hM0, gI_9_4 hM0, gP_9_4 hM0, gR_9_5 hM0, gR_9_6 hM0, gR_9_7 hM0, gI_9_8 hM0, gP_9_8 hM0, gI_9_9 hM0, gP_9_9 hM0, gI_9_10 hM0, gP_9_10 hM0, gI_9_11 hM0, gP_9_11 hM0, gI_9_12 hM0, gP_9_12 hM0, gI_9_13 hM0, gP_9_13 hM0, gI_9_14 hM0, gP_9_14 hM0, gI_9_15 hM0, gP_9_15 hM0, gI_9_16 hM0, gP_9_16 hM0, gR_9_17 hM0, gR_9_18 hM0, gR_9_19 hM0, gR_9_20 hM0, gI_9_21 hM0, gP_9_21 hM0, gI_9_22 hM0, gP_9_22 hM0, gI_9_23 hM0, gP_9_23 hM0, gI_9_24 hM0, gP_9_24 hM0, gR_9_25 hM0, gI_9_26 hM0, gP_9_26 hM0, gI_9_27 hM0, gP_9_27 hM0, gI_9_28 hM0, gP_9_28 hM0, gL_9_29 hM0, gP_9_29 hM0, gL_9_30 hM0, gP_9_30 hM0, cI_s, cL_s, cF_s, cD_s, cA_s, cV_s, nI_add, cond_true, cond_false, if_true, if_false]
      have hkM : ∃ M1, xsem xT E (u + 6) kX11_kindHere [.ref y] (wW E y shM (mP M p), m) = some (.inl (some (.int (nI K))), (wW E y shM M1, m)) ∧ mQ M1 tx L (ad tx L p) ∧ frR M M1 := m_kind (E := E) (y := y) (m := m) H' Km hK eK u
      by_cases hN : N < 60
      · -- one command, then the rest
        have hgo : ∀ G, oC1 E x y n m sh tx L S (mP M p) P p N dep G (if K = 6 then xsem xT E (d + 4) kX6_readRepeat [.ref (x + 6), .ref (x + 1), .int (nI dep)] (wW E x sh S, n) else xsem xT E (d + 4) kX6_readCommand [.ref (x + 6), .ref (x + 1)] (wW E x sh S, n)) (xsem xT E (u + 7) kX11_readsCommand [.ref y] (wW E y shM (mP M p), m)) → (∀ P1 N1 P2 N2, G P1 N1 → N ≤ N1 → (∀ k, k < N1 → P2 k = P1 k) → N1 ≤ N2 → okE P2 r N1 N2 → okE P2 r N N2) → oCL E x y n m sh tx L S M P p N dep r (qX6_readCommands_2 E (d + 4) (x + 6) (x + 1) (nI dep) (nI i) (wW E x sh S, n)) (qX11_readsScript_0 E (u + 7) y (wW E y shM M, m)) := by
          intro G hone hG
          have hc59 : ∀ v S', (if K = 6 then xsem xT E (d + 4) kX6_readRepeat [.ref (x + 6), .ref (x + 1), .int (nI dep)] (wW E x sh S, n) else xsem xT E (d + 4) kX6_readCommand [.ref (x + 6), .ref (x + 1)] (wW E x sh S, n)) = some (.inl (some (.int v)), (wW E x sh S', n)) → qX6_readCommands_2 E (d + 4) (x + 6) (x + 1) (nI dep) (nI i) (wW E x sh S, n) = qX6_readCommands_59 E (d + 4) (x + 6) (x + 1) (nI dep) (nI i) v (wW E x sh S', n) := by
            intro v S' hv
            refine hc0 _ ?_
            rw [iLT_t hN (by omega), QX6_readCommands_35]
            by_cases k6 : K = 6
            · rw [if_pos k6] at hv
              simp (disch := omega) only [gO_3 a3, gR_3_0 a3, gI_3_1 a3, gP_3_1 a3, gI_3_2 a3, gP_3_2 a3, gR_3_3 a3, gR_3_4 a3, gR_3_5 a3, gI_3_6 a3, gP_3_6 a3, gI_3_7 a3, gP_3_7 a3, gI_3_8 a3, gP_3_8 a3, gI_3_9 a3, gP_3_9 a3, c_is_t h3 H Q (i := 28) (by omega) (show tk tx L p = 28 by omega), iEQ_f, gO_6 b0, gR_6_0 b0, gR_6_1 b0, gR_6_2 b0, gR_6_3 b0, gI_6_4 b0, gP_6_4 b0, gI_6_5 b0, gP_6_5 b0, cI_s, cL_s, cF_s, cD_s, cA_s, cV_s, nI_add, cond_true, cond_false, if_true, if_false]
              rw [hv]
              simp (disch := omega) only [cI_s, cL_s, cF_s, cD_s, cA_s, cV_s, nI_add, cond_true, cond_false, if_true, if_false]
            · rw [if_neg k6] at hv
              simp (disch := omega) only [gO_3 a3, gR_3_0 a3, gI_3_1 a3, gP_3_1 a3, gI_3_2 a3, gP_3_2 a3, gR_3_3 a3, gR_3_4 a3, gR_3_5 a3, gI_3_6 a3, gP_3_6 a3, gI_3_7 a3, gP_3_7 a3, gI_3_8 a3, gP_3_8 a3, gI_3_9 a3, gP_3_9 a3, c_is_f h3 H Q (i := 28) (by omega) (show tk tx L p ≠ 28 by omega), iEQ_t, QX6_readCommands_54, gO_6 b0, gR_6_0 b0, gR_6_1 b0, gR_6_2 b0, gR_6_3 b0, gI_6_4 b0, gP_6_4 b0, gI_6_5 b0, gP_6_5 b0, cI_s, cL_s, cF_s, cD_s, cA_s, cV_s, nI_add, cond_true, cond_false, if_true, if_false]
              rw [hv]
              simp (disch := omega) only [cI_s, cL_s, cF_s, cD_s, cA_s, cV_s, nI_add, cond_true, cond_false, if_true, if_false]
          rcases hone with ⟨S1, M1, P1, N1, p1, z1, z2, R1, hN1, hp1, hk1, hG1, fS1, fM1⟩ | ⟨S1, M1, z1, z2, z3, fS1, fM1⟩
          · have fM1' : frV M M1 := frV_tr (frV_R frR_P) fM1
            rcases j_sg (E := E) (x := x) (y := y) (n := n) (m := m) h3 H R1.1 R1.2.1 (i := 3) (by omega) (by omega) (c := 59) rfl (d + 2) (u + 5) with ⟨S2, M2, v1, v2, Q2, K2, fs2, fm2, hlt2, _⟩ | ⟨S2, M2, v1, v2, v3, fs2, fm2⟩
            · have ec : qX6_readCommands_2 E (d + 4) (x + 6) (x + 1) (nI dep) (nI i) (wW E x sh S, n) = qX6_readCommands_2 E (d + 4) (x + 6) (x + 1) (nI dep) (nI (i + 1)) (wW E x sh S2, n) := by
                rw [hc59 _ _ z1, QX6_readCommands_59]
                simp (disch := omega) only [iEQ_f, gO_3 a3, gR_3_0 a3, gI_3_1 a3, gP_3_1 a3, gI_3_2 a3, gP_3_2 a3, gR_3_3 a3, gR_3_4 a3, gR_3_5 a3, gI_3_6 a3, gP_3_6 a3, gI_3_7 a3, gP_3_7 a3, gI_3_8 a3, gP_3_8 a3, gI_3_9 a3, gP_3_9 a3, cI_s, cL_s, cF_s, cD_s, cA_s, cV_s, nI_add, cond_true, cond_false, if_true, if_false]
                rw [v1]
                simp (disch := omega) only [iEQ_f, QX6_readCommands_78, cI_s, cL_s, cF_s, cD_s, cA_s, cV_s, nI_add, cond_true, cond_false, if_true, if_false]
              have em : qX11_readsScript_0 E (u + 7) y (wW E y shM M, m) = qX11_readsScript_0 E (u + 7) y (wW E y shM M2, m) := by
                rw [hm0 _ _ z2, iEQ_f (by omega) (by omega) (by omega)]
                simp (disch := omega) only [gO_9 hM0, gI_9_0 hM0, gP_9_0 hM0, gR_9_1 hM0, gR_9_2 hM0, gI_9_3 hM0, gP_9_3 hM0, gI_9_4 hM0, gP_9_4 hM0, gR_9_5 hM0, gR_9_6 hM0, gR_9_7 hM0, gI_9_8 hM0, gP_9_8 hM0, gI_9_9 hM0, gP_9_9 hM0, gI_9_10 hM0, gP_9_10 hM0, gI_9_11 hM0, gP_9_11 hM0, gI_9_12 hM0, gP_9_12 hM0, gI_9_13 hM0, gP_9_13 hM0, gI_9_14 hM0, gP_9_14 hM0, gI_9_15 hM0, gP_9_15 hM0, gI_9_16 hM0, gP_9_16 hM0, gR_9_17 hM0, gR_9_18 hM0, gR_9_19 hM0, gR_9_20 hM0, gI_9_21 hM0, gP_9_21 hM0, gI_9_22 hM0, gP_9_22 hM0, gI_9_23 hM0, gP_9_23 hM0, gI_9_24 hM0, gP_9_24 hM0, gR_9_25 hM0, gI_9_26 hM0, gP_9_26 hM0, gI_9_27 hM0, gP_9_27 hM0, gI_9_28 hM0, gP_9_28 hM0, gL_9_29 hM0, gP_9_29 hM0, gL_9_30 hM0, gP_9_30 hM0, cI_s, cL_s, cF_s, cD_s, cA_s, cV_s, nI_add, cond_true, cond_false, if_true, if_false]
                rw [v2]
                simp (disch := omega) only [iEQ_f, cI_s, cL_s, cF_s, cD_s, cA_s, cV_s, nI_add, cond_true, cond_false, if_true, if_false]
              rw [ec, em]
              rcases ihk (i + 1) S2 M2 P1 N1 (ad tx L p1) (by omega) (by omega) (RC_I R1 fs2 fm2 Q2 K2) with (⟨S3, M3, P3, N3, p3, w1, w2, R3, hN3, hp3, hk3, hG3, fS3, fM3⟩ | ⟨S3, M3, w1, w2, w3, fS3, fM3⟩) | ⟨S3, M3, p3, w1, w2, Q3, w9, w0, wX, fS3, fM3⟩
              · exact Or.inl (Or.inl ⟨S3, M3, P3, N3, p3, w1, w2, R3, by omega, by omega, fun k hk => (hk3 k (by omega)).trans (hk1 k hk), hG P1 N1 P3 N3 hG1 hN1 hk3 hN3 hG3, frW_tr fS1 (frW_tr (frW_I fs2) fS3), frV_tr fM1' (frV_tr (frV_R fm2) fM3)⟩)
              · exact Or.inl (Or.inr ⟨S3, M3, w1, w2, w3, frW_tr fS1 (frW_tr (frW_I fs2) fS3), frV_tr fM1' (frV_tr (frV_R fm2) fM3)⟩)
              · exact Or.inr ⟨S3, M3, p3, w1, w2, Q3, w9, w0, wX, frW_tr fS1 (frW_tr (frW_I fs2) fS3), frV_tr fM1' (frV_tr (frV_R fm2) fM3)⟩
            · refine Or.inl (Or.inr ⟨S2, M2, ?_, ?_, v3, frW_tr fS1 (frW_I fs2), frV_tr fM1' (frV_R fm2)⟩)
              · rw [hc59 _ _ z1, QX6_readCommands_59]
                simp (disch := omega) only [iEQ_f, gO_3 a3, gR_3_0 a3, gI_3_1 a3, gP_3_1 a3, gI_3_2 a3, gP_3_2 a3, gR_3_3 a3, gR_3_4 a3, gR_3_5 a3, gI_3_6 a3, gP_3_6 a3, gI_3_7 a3, gP_3_7 a3, gI_3_8 a3, gP_3_8 a3, gI_3_9 a3, gP_3_9 a3, cI_s, cL_s, cF_s, cD_s, cA_s, cV_s, nI_add, cond_true, cond_false, if_true, if_false]
                rw [v1]
                simp (disch := omega) only [iEQ_t, QX6_readCommands_76, xret5_0, cI_s, cL_s, cF_s, cD_s, cA_s, cV_s, nI_add, cond_true, cond_false, if_true, if_false]
              · rw [hm0 _ _ z2, iEQ_f (by omega) (by omega) (by omega)]
                simp (disch := omega) only [gO_9 hM0, gI_9_0 hM0, gP_9_0 hM0, gR_9_1 hM0, gR_9_2 hM0, gI_9_3 hM0, gP_9_3 hM0, gI_9_4 hM0, gP_9_4 hM0, gR_9_5 hM0, gR_9_6 hM0, gR_9_7 hM0, gI_9_8 hM0, gP_9_8 hM0, gI_9_9 hM0, gP_9_9 hM0, gI_9_10 hM0, gP_9_10 hM0, gI_9_11 hM0, gP_9_11 hM0, gI_9_12 hM0, gP_9_12 hM0, gI_9_13 hM0, gP_9_13 hM0, gI_9_14 hM0, gP_9_14 hM0, gI_9_15 hM0, gP_9_15 hM0, gI_9_16 hM0, gP_9_16 hM0, gR_9_17 hM0, gR_9_18 hM0, gR_9_19 hM0, gR_9_20 hM0, gI_9_21 hM0, gP_9_21 hM0, gI_9_22 hM0, gP_9_22 hM0, gI_9_23 hM0, gP_9_23 hM0, gI_9_24 hM0, gP_9_24 hM0, gR_9_25 hM0, gI_9_26 hM0, gP_9_26 hM0, gI_9_27 hM0, gP_9_27 hM0, gI_9_28 hM0, gP_9_28 hM0, gL_9_29 hM0, gP_9_29 hM0, gL_9_30 hM0, gP_9_30 hM0, cI_s, cL_s, cF_s, cD_s, cA_s, cV_s, nI_add, cond_true, cond_false, if_true, if_false]
                rw [v2]
                simp (disch := omega) only [iEQ_t, QX11_readsScript_26, xret5_0, cI_s, cL_s, cF_s, cD_s, cA_s, cV_s, nI_add, cond_true, cond_false, if_true, if_false]
          · refine Or.inl (Or.inr ⟨S1, M1, ?_, ?_, z3, fS1, frV_tr (frV_R frR_P) fM1⟩)
            · rw [hc59 _ _ z1, QX6_readCommands_59]
              simp (disch := omega) only [iEQ_t, QX6_readCommands_76, xret5_0, cI_s, cL_s, cF_s, cD_s, cA_s, cV_s, nI_add, cond_true, cond_false, if_true, if_false]
            · rw [hm0 _ _ z2, iEQ_t rfl, QX11_readsScript_26]
              simp (disch := omega) only [xret5_0, cI_s, cL_s, cF_s, cD_s, cA_s, cV_s, nI_add, cond_true, cond_false, if_true, if_false]
        by_cases k6 : K = 6
        · by_cases hd3 : dep = 3
          · -- too deep
            obtain ⟨M1, m1, K1, g1⟩ := hkM
            obtain ⟨S', s1, s2, s3⟩ := c_fail (E := E) (x := x) (n := n) h3 Q (-6) (d + 2)
            obtain ⟨M', f1, f2, f3⟩ := t_fail (E := E) (x := y) (n := m) K1 (-6) p (u + 5)
            have hm1 : M1.1 0 21 = nI N := (g1.1 21 (by omega)).trans PC.2.1
            have hd1 : M1.1 0 22 = nI dep := (g1.1 22 (by omega)).trans hd
            have hcmd : xsem xT E (u + 7) kX11_readsCommand [.ref y] (wW E y shM (mP M p), m) = some (.inl (some (.int (nI 0))), (wW E y shM M', m)) := by
              have hne : ¬ nI 6 = (-1 : Int32) := by decide
              rw [k6] at m1
              rw [eX11_readsCommand, QX11_readsCommand_0]
              simp (disch := omega) only [gO_9 hM0, gI_9_0 hM0, gP_9_0 hM0, gR_9_1 hM0, gR_9_2 hM0, gI_9_3 hM0, gP_9_3 hM0, gI_9_4 hM0, gP_9_4 hM0, gR_9_5 hM0, gR_9_6 hM0, gR_9_7 hM0, gI_9_8 hM0, gP_9_8 hM0, gI_9_9 hM0, gP_9_9 hM0, gI_9_10 hM0, gP_9_10 hM0, gI_9_11 hM0, gP_9_11 hM0, gI_9_12 hM0, gP_9_12 hM0, gI_9_13 hM0, gP_9_13 hM0, gI_9_14 hM0, gP_9_14 hM0, gI_9_15 hM0, gP_9_15 hM0, gI_9_16 hM0, gP_9_16 hM0, gR_9_17 hM0, gR_9_18 hM0, gR_9_19 hM0, gR_9_20 hM0, gI_9_21 hM0, gP_9_21 hM0, gI_9_22 hM0, gP_9_22 hM0, gI_9_23 hM0, gP_9_23 hM0, gI_9_24 hM0, gP_9_24 hM0, gR_9_25 hM0, gI_9_26 hM0, gP_9_26 hM0, gI_9_27 hM0, gP_9_27 hM0, gI_9_28 hM0, gP_9_28 hM0, gL_9_29 hM0, gP_9_29 hM0, gL_9_30 hM0, gP_9_30 hM0, t_here' Km, mP_10, cI_s, cL_s, cF_s, cD_s, cA_s, cV_s, nI_add, cond_true, cond_false, if_true, if_false]
              rw [m1]
              simp (disch := omega) only [if_neg hne, QX11_readsCommand_28, gO_9 hM0, gI_9_0 hM0, gP_9_0 hM0, gR_9_1 hM0, gR_9_2 hM0, gI_9_3 hM0, gP_9_3 hM0, gI_9_4 hM0, gP_9_4 hM0, gR_9_5 hM0, gR_9_6 hM0, gR_9_7 hM0, gI_9_8 hM0, gP_9_8 hM0, gI_9_9 hM0, gP_9_9 hM0, gI_9_10 hM0, gP_9_10 hM0, gI_9_11 hM0, gP_9_11 hM0, gI_9_12 hM0, gP_9_12 hM0, gI_9_13 hM0, gP_9_13 hM0, gI_9_14 hM0, gP_9_14 hM0, gI_9_15 hM0, gP_9_15 hM0, gI_9_16 hM0, gP_9_16 hM0, gR_9_17 hM0, gR_9_18 hM0, gR_9_19 hM0, gR_9_20 hM0, gI_9_21 hM0, gP_9_21 hM0, gI_9_22 hM0, gP_9_22 hM0, gI_9_23 hM0, gP_9_23 hM0, gI_9_24 hM0, gP_9_24 hM0, gR_9_25 hM0, gI_9_26 hM0, gP_9_26 hM0, gI_9_27 hM0, gP_9_27 hM0, gI_9_28 hM0, gP_9_28 hM0, gL_9_29 hM0, gP_9_29 hM0, gL_9_30 hM0, gP_9_30 hM0, hm1, iEQ_f (show N ≠ 60 by omega), QX11_readsCommand_45, iEQ_t (show 6 = 6 from rfl), hd1, iEQ_t hd3, cI_s, cL_s, cF_s, cD_s, cA_s, cV_s, nI_add, cond_true, cond_false, if_true, if_false]
              rw [f1]
              simp (disch := omega) only [xret5_0, cI_s, cL_s, cF_s, cD_s, cA_s, cV_s, nI_add, cond_true, cond_false, if_true, if_false]
            refine Or.inl (Or.inr ⟨S', M', ?_, ?_, xF_of s2 f2, frW_I s3, frV_R (frR_tr g1 f3)⟩)
            · refine hc0 _ ?_
              have hrep : xsem xT E (d + 4) kX6_readRepeat [.ref (x + 6), .ref (x + 1), .int (nI dep)] (wW E x sh S, n) = some (.inl (some (.int (nI 0))), (wW E x sh S', n)) := by
                rw [eX6_readRepeat, QX6_readRepeat_0]
                simp (disch := omega) only [iLT_f, gO_3 a3, gR_3_0 a3, gI_3_1 a3, gP_3_1 a3, gI_3_2 a3, gP_3_2 a3, gR_3_3 a3, gR_3_4 a3, gR_3_5 a3, gI_3_6 a3, gP_3_6 a3, gI_3_7 a3, gP_3_7 a3, gI_3_8 a3, gP_3_8 a3, gI_3_9 a3, gP_3_9 a3, cI_s, cL_s, cF_s, cD_s, cA_s, cV_s, nI_add, cond_true, cond_false, if_true, if_false]
                rw [s1]
                simp (disch := omega) only [xret5_0, cI_s, cL_s, cF_s, cD_s, cA_s, cV_s, nI_add, cond_true, cond_false, if_true, if_false]
              rw [iLT_t hN (by omega), QX6_readCommands_35]
              simp (disch := omega) only [gO_3 a3, gR_3_0 a3, gI_3_1 a3, gP_3_1 a3, gI_3_2 a3, gP_3_2 a3, gR_3_3 a3, gR_3_4 a3, gR_3_5 a3, gI_3_6 a3, gP_3_6 a3, gI_3_7 a3, gP_3_7 a3, gI_3_8 a3, gP_3_8 a3, gI_3_9 a3, gP_3_9 a3, c_is_t h3 H Q (i := 28) (by omega) (show tk tx L p = 28 by omega), iEQ_f, gO_6 b0, gR_6_0 b0, gR_6_1 b0, gR_6_2 b0, gR_6_3 b0, gI_6_4 b0, gP_6_4 b0, gI_6_5 b0, gP_6_5 b0, cI_s, cL_s, cF_s, cD_s, cA_s, cV_s, nI_add, cond_true, cond_false, if_true, if_false]
              rw [hrep]
              simp (disch := omega) only [QX6_readCommands_59, iEQ_t, QX6_readCommands_76, xret5_0, cI_s, cL_s, cF_s, cD_s, cA_s, cV_s, nI_add, cond_true, cond_false, if_true, if_false]
            · rw [hm0 _ _ hcmd, iEQ_t rfl, QX11_readsScript_26]
              simp (disch := omega) only [xret5_0, cI_s, cL_s, cF_s, cD_s, cA_s, cV_s, nI_add, cond_true, cond_false, if_true, if_false]
          · obtain ⟨r', rfl⟩ : ∃ r', r = r' + 1 := ⟨r - 1, by omega⟩
            have hj := j_rep (n := n) (m := m) h3 h6 H H' (ih r' rfl) hr R' (by omega) hN
            refine hgo _ (by rw [if_pos k6]; exact hj) (fun P1 N1 P2 N2 hG1 hN1 hk hN2 hE => ?_)
            obtain ⟨g1, g2, g3, g4, g5, f1, g6⟩ := hG1
            obtain ⟨f2, h2⟩ := hE
            refine ⟨max f1 f2 + 1, Or.inr ⟨by omega, Or.inr ?_⟩⟩
            rw [hk N g1]
            refine ⟨g2, r', rfl, by omega, by omega, g4, g5, ?_, ?_⟩
            · rw [g3]
              exact okQ_mo f1 _ _ _ _ (by omega) (okQ_cg f1 r' _ _ (fun k a b => hk k b) g6)
            · rw [g3]
              exact okQ_mo f2 _ _ _ _ (by omega) h2
        · have hj := j_cmd (n := n) (m := m) h3 h6 H H' R' (show K < 6 by omega) eK hN (d + 1) u
          refine hgo _ (by rw [if_neg k6]; exact hj) (fun P1 N1 P2 N2 hG1 hN1 hk hN2 hE => ?_)
          obtain ⟨g1, g2⟩ := hG1
          obtain ⟨f2, h2⟩ := hE
          refine ⟨f2 + 1, Or.inr ⟨by omega, Or.inl ⟨?_, ?_⟩⟩⟩
          · rw [hk N (by omega), g2]
            exact k6
          · rw [← g1]
            exact h2
      · -- too many
        obtain ⟨M1, m1, K1, g1⟩ := hkM
        obtain ⟨S', s1, s2, s3⟩ := c_fail (E := E) (x := x) (n := n) h3 Q (-5) (d + 3)
        obtain ⟨M', f1, f2, f3⟩ := t_fail (E := E) (x := y) (n := m) K1 (-5) p (u + 5)
        have hm1 : M1.1 0 21 = nI N := (g1.1 21 (by omega)).trans PC.2.1
        have hcmd : xsem xT E (u + 7) kX11_readsCommand [.ref y] (wW E y shM (mP M p), m) = some (.inl (some (.int (nI 0))), (wW E y shM M', m)) := by
          have hne : ¬ nI K = (-1 : Int32) := by
            have : ∀ k : Nat, k < 7 → ¬ nI k = (-1 : Int32) := by decide
            exact this K (by omega)
          rw [eX11_readsCommand, QX11_readsCommand_0]
          simp (disch := omega) only [gO_9 hM0, gI_9_0 hM0, gP_9_0 hM0, gR_9_1 hM0, gR_9_2 hM0, gI_9_3 hM0, gP_9_3 hM0, gI_9_4 hM0, gP_9_4 hM0, gR_9_5 hM0, gR_9_6 hM0, gR_9_7 hM0, gI_9_8 hM0, gP_9_8 hM0, gI_9_9 hM0, gP_9_9 hM0, gI_9_10 hM0, gP_9_10 hM0, gI_9_11 hM0, gP_9_11 hM0, gI_9_12 hM0, gP_9_12 hM0, gI_9_13 hM0, gP_9_13 hM0, gI_9_14 hM0, gP_9_14 hM0, gI_9_15 hM0, gP_9_15 hM0, gI_9_16 hM0, gP_9_16 hM0, gR_9_17 hM0, gR_9_18 hM0, gR_9_19 hM0, gR_9_20 hM0, gI_9_21 hM0, gP_9_21 hM0, gI_9_22 hM0, gP_9_22 hM0, gI_9_23 hM0, gP_9_23 hM0, gI_9_24 hM0, gP_9_24 hM0, gR_9_25 hM0, gI_9_26 hM0, gP_9_26 hM0, gI_9_27 hM0, gP_9_27 hM0, gI_9_28 hM0, gP_9_28 hM0, gL_9_29 hM0, gP_9_29 hM0, gL_9_30 hM0, gP_9_30 hM0, t_here' Km, mP_10, cI_s, cL_s, cF_s, cD_s, cA_s, cV_s, nI_add, cond_true, cond_false, if_true, if_false]
          rw [m1]
          simp (disch := omega) only [if_neg hne, QX11_readsCommand_28, gO_9 hM0, gI_9_0 hM0, gP_9_0 hM0, gR_9_1 hM0, gR_9_2 hM0, gI_9_3 hM0, gP_9_3 hM0, gI_9_4 hM0, gP_9_4 hM0, gR_9_5 hM0, gR_9_6 hM0, gR_9_7 hM0, gI_9_8 hM0, gP_9_8 hM0, gI_9_9 hM0, gP_9_9 hM0, gI_9_10 hM0, gP_9_10 hM0, gI_9_11 hM0, gP_9_11 hM0, gI_9_12 hM0, gP_9_12 hM0, gI_9_13 hM0, gP_9_13 hM0, gI_9_14 hM0, gP_9_14 hM0, gI_9_15 hM0, gP_9_15 hM0, gI_9_16 hM0, gP_9_16 hM0, gR_9_17 hM0, gR_9_18 hM0, gR_9_19 hM0, gR_9_20 hM0, gI_9_21 hM0, gP_9_21 hM0, gI_9_22 hM0, gP_9_22 hM0, gI_9_23 hM0, gP_9_23 hM0, gI_9_24 hM0, gP_9_24 hM0, gR_9_25 hM0, gI_9_26 hM0, gP_9_26 hM0, gI_9_27 hM0, gP_9_27 hM0, gI_9_28 hM0, gP_9_28 hM0, gL_9_29 hM0, gP_9_29 hM0, gL_9_30 hM0, gP_9_30 hM0, hm1, iEQ_t (show N = 60 by omega), cI_s, cL_s, cF_s, cD_s, cA_s, cV_s, nI_add, cond_true, cond_false, if_true, if_false]
          rw [f1]
          simp (disch := omega) only [xret5_0, cI_s, cL_s, cF_s, cD_s, cA_s, cV_s, nI_add, cond_true, cond_false, if_true, if_false]
        refine Or.inl (Or.inr ⟨S', M', hc0 _ ?_, ?_, xF_of s2 f2, frW_I s3, frV_R (frR_tr g1 f3)⟩)
        · rw [iLT_f (by omega) (by omega)]
          simp (disch := omega) only [gO_3 a3, gR_3_0 a3, gI_3_1 a3, gP_3_1 a3, gI_3_2 a3, gP_3_2 a3, gR_3_3 a3, gR_3_4 a3, gR_3_5 a3, gI_3_6 a3, gP_3_6 a3, gI_3_7 a3, gP_3_7 a3, gI_3_8 a3, gP_3_8 a3, gI_3_9 a3, gP_3_9 a3, cI_s, cL_s, cF_s, cD_s, cA_s, cV_s, nI_add, cond_true, cond_false, if_true, if_false]
          rw [s1]
          simp (disch := omega) only [xret5_0, cI_s, cL_s, cF_s, cD_s, cA_s, cV_s, nI_add, cond_true, cond_false, if_true, if_false]
        · rw [hm0 _ _ hcmd, iEQ_t rfl, QX11_readsScript_26]
          simp (disch := omega) only [xret5_0, cI_s, cL_s, cF_s, cD_s, cA_s, cV_s, nI_add, cond_true, cond_false, if_true, if_false]
theorem j_script (h3 : hI sh 1) (h6 : hS6 sh) (H : hEn E x) (H' : hEn E y) : ∀ r d u, okC E x y n m sh tx L (d + 2 * r + 5) (u + 3 * r + 8) r := by
  have hone : ∀ r d u, (∀ r', r = r' + 1 → okC E x y n m sh tx L (d + 3) (u + 5) r') → okC E x y n m sh tx L (d + 5) (u + 8) r := by
    intro r d u ih S M P N p dep hr R
    have hj := j_cmds (n := n) (m := m) h3 h6 H H' ih hr 500 0 S M P N p (by have := (mQ_le R.2.1).2.1; omega) (by omega) R
    rw [eX6_readCommands, QX6_readCommands_0, eX11_readsScript]
    exact hj
  intro r
  induction r with
  | zero => exact fun d u => hone 0 d u (fun r' z => absurd z (by omega))
  | succ r ih =>
    intro d u
    have h := hone (r + 1) (d + 2 * r + 2) (u + 3 * r + 3) (fun r' z => by
      have : r' = r := by omega
      subst this
      exact ih d u)
    rw [show d + 2 * (r + 1) + 5 = d + 2 * r + 2 + 5 by omega, show u + 3 * (r + 1) + 8 = u + 3 * r + 3 + 8 by omega]
    exact h
end SC3
