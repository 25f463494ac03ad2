/-! A SETUP TEXT from its first word. -/
section BG
variable {E : xEn} {y m : Nat} {M : xSt}
theorem lm_beg1 (s : Int32) (d : Nat) : ∀ k i, i + k = 1100 → qX11_begins_2 E d y s (nI i) (wW E y shM (sA M 2 (vw i (fun _ => 0) (M.2.1 2))), m) = qX11_begins_22 E d y s (wW E y shM (sA M 2 (vw 1100 (fun _ => 0) (M.2.1 2))), m) := by
  intro k
  induction k with
  | zero =>
    intro i hi
    have hi : i = 1100 := hi
    subst hi
    rw [QX11_begins_2]
    simp (disch := omega) only [iLE_t, cI_s, cL_s, cF_s, cD_s, cA_s, cV_s, nI_add, cond_true, cond_false, if_true, if_false]
  | succ k ih =>
    intro i hi
    rw [QX11_begins_2]
    simp (disch := omega) only [iLE_f, gO_9 hM0, gI_9_0 hM0, gP_9_0 hM0, gR_9_1 hM0, gR_9_2 hM0, gI_9_3 hM0, gP_9_3 hM0, gI_9_4 hM0, gP_9_4 hM0, gR_9_5 hM0, gR_9_6 hM0, gR_9_7 hM0, gI_9_8 hM0, gP_9_8 hM0, gI_9_9 hM0, gP_9_9 hM0, gI_9_10 hM0, gP_9_10 hM0, gI_9_11 hM0, gP_9_11 hM0, gI_9_12 hM0, gP_9_12 hM0, gI_9_13 hM0, gP_9_13 hM0, gI_9_14 hM0, gP_9_14 hM0, gI_9_15 hM0, gP_9_15 hM0, gI_9_16 hM0, gP_9_16 hM0, gR_9_17 hM0, gR_9_18 hM0, gR_9_19 hM0, gR_9_20 hM0, gI_9_21 hM0, gP_9_21 hM0, gI_9_22 hM0, gP_9_22 hM0, gI_9_23 hM0, gP_9_23 hM0, gI_9_24 hM0, gP_9_24 hM0, gR_9_25 hM0, gI_9_26 hM0, gP_9_26 hM0, gI_9_27 hM0, gP_9_27 hM0, gI_9_28 hM0, gP_9_28 hM0, gL_9_29 hM0, gP_9_29 hM0, gL_9_30 hM0, gP_9_30 hM0, sI_w hM2, sA_s, sA_sA, cI_s, cL_s, cF_s, cD_s, cA_s, cV_s, nI_add, cond_true, cond_false, if_true, if_false]
    rw [show nI 0 = nI ((fun _ => 0 : Nat → Nat) i) from rfl, vw_succ]
    exact ih (i + 1) (by omega)
def gB0 (s i : Nat) : Nat → Nat := fun k => if 12 ≤ k ∧ k < 12 + i then k - 12 else updN (updN (updN (updN (fun _ => 0) 0 s) 4 80) 5 1) 7 100 k
theorem gB0_s {s i : Nat} : updN (gB0 s i) (12 + i) i = gB0 s (i + 1) := by
  funext k
  unfold gB0
  by_cases e : k = 12 + i
  · subst e
    rw [updN_s, if_pos (by omega)]
    omega
  · rw [updN_n e]
    by_cases c : 12 ≤ k ∧ k < 12 + i
    · rw [if_pos c, if_pos (by omega)]
    · rw [if_neg c, if_neg (by omega)]
theorem gB0_0 {s : Nat} : updN (updN (updN (updN (fun _ => 0) 0 s) 4 80) 5 1) 7 100 = gB0 s 0 := by
  funext k
  exact (if_neg (by omega)).symm
theorem gB0_8 {s : Nat} : updN (gB0 s 8) 36 1 = gNew s := by
  funext k
  unfold gNew
  by_cases e : k = 36
  · subst e
    rw [updN_s]
    rfl
  · rw [updN_n e]
    unfold gB0
    by_cases c : 12 ≤ k ∧ k < 20
    · rw [if_pos (by omega), if_neg (by omega), if_neg (by omega), if_neg (by omega), if_neg (by omega), if_pos c]
    · rw [if_neg (by omega)]
      by_cases e7 : k = 7
      · subst e7; rfl
      · rw [updN_n e7]
        by_cases e5 : k = 5
        · subst e5; rfl
        · rw [updN_n e5]
          by_cases e4 : k = 4
          · subst e4; rfl
          · rw [updN_n e4]
            by_cases e0 : k = 0
            · subst e0; rfl
            · rw [updN_n e0, if_neg e0, if_neg e4, if_neg e5, if_neg e7, if_neg c, if_neg e]
theorem lm_beg2 (s : Nat) (d : Nat) (r : Nat → Int32) : ∀ k i, i + k = 8 → qX11_begins_55 E d y (nI i) (wW E y shM (sA M 2 (vw 1100 (gB0 s i) r)), m) = some (.inl none, (wW E y shM (sA M 2 (vw 1100 (gNew s) r)), m)) := by
  intro k
  induction k with
  | zero =>
    intro i hi
    have hi : i = 8 := hi
    subst hi
    rw [QX11_begins_55]
    simp (disch := omega) only [iLE_t, QX11_begins_77, gO_9 hM0, gI_9_0 hM0, gP_9_0 hM0, gR_9_1 hM0, gR_9_2 hM0, gI_9_3 hM0, gP_9_3 hM0, gI_9_4 hM0, gP_9_4 hM0, gR_9_5 hM0, gR_9_6 hM0, gR_9_7 hM0, gI_9_8 hM0, gP_9_8 hM0, gI_9_9 hM0, gP_9_9 hM0, gI_9_10 hM0, gP_9_10 hM0, gI_9_11 hM0, gP_9_11 hM0, gI_9_12 hM0, gP_9_12 hM0, gI_9_13 hM0, gP_9_13 hM0, gI_9_14 hM0, gP_9_14 hM0, gI_9_15 hM0, gP_9_15 hM0, gI_9_16 hM0, gP_9_16 hM0, gR_9_17 hM0, gR_9_18 hM0, gR_9_19 hM0, gR_9_20 hM0, gI_9_21 hM0, gP_9_21 hM0, gI_9_22 hM0, gP_9_22 hM0, gI_9_23 hM0, gP_9_23 hM0, gI_9_24 hM0, gP_9_24 hM0, gR_9_25 hM0, gI_9_26 hM0, gP_9_26 hM0, gI_9_27 hM0, gP_9_27 hM0, gI_9_28 hM0, gP_9_28 hM0, gL_9_29 hM0, gP_9_29 hM0, gL_9_30 hM0, gP_9_30 hM0, sI_w hM2, sA_s, sA_sA, cI_s, cL_s, cF_s, cD_s, cA_s, cV_s, nI_add, cond_true, cond_false, if_true, if_false]
    rw [vw_upd (by omega), gB0_8]
  | succ k ih =>
    intro i hi
    rw [QX11_begins_55]
    simp (disch := omega) only [iLE_f, gO_9 hM0, gI_9_0 hM0, gP_9_0 hM0, gR_9_1 hM0, gR_9_2 hM0, gI_9_3 hM0, gP_9_3 hM0, gI_9_4 hM0, gP_9_4 hM0, gR_9_5 hM0, gR_9_6 hM0, gR_9_7 hM0, gI_9_8 hM0, gP_9_8 hM0, gI_9_9 hM0, gP_9_9 hM0, gI_9_10 hM0, gP_9_10 hM0, gI_9_11 hM0, gP_9_11 hM0, gI_9_12 hM0, gP_9_12 hM0, gI_9_13 hM0, gP_9_13 hM0, gI_9_14 hM0, gP_9_14 hM0, gI_9_15 hM0, gP_9_15 hM0, gI_9_16 hM0, gP_9_16 hM0, gR_9_17 hM0, gR_9_18 hM0, gR_9_19 hM0, gR_9_20 hM0, gI_9_21 hM0, gP_9_21 hM0, gI_9_22 hM0, gP_9_22 hM0, gI_9_23 hM0, gP_9_23 hM0, gI_9_24 hM0, gP_9_24 hM0, gR_9_25 hM0, gI_9_26 hM0, gP_9_26 hM0, gI_9_27 hM0, gP_9_27 hM0, gI_9_28 hM0, gP_9_28 hM0, gL_9_29 hM0, gP_9_29 hM0, gL_9_30 hM0, gP_9_30 hM0, sI_w hM2, sA_s, sA_sA, cI_s, cL_s, cF_s, cD_s, cA_s, cV_s, nI_add, cond_true, cond_false, if_true, if_false]
    rw [vw_upd (by omega), gB0_s]
    exact ih (i + 1) (by omega)
theorem t_begins {s : Nat} (u : Nat) : xsem xT E (u + 1) kX11_begins [.ref y, .int (nI s)] (wW E y shM M, m) = some (.inl none, (wW E y shM (sA M 2 (vw 1100 (gNew s) (M.2.1 2))), m)) := by
  have h1 := lm_beg1 (E := E) (y := y) (m := m) (M := M) (nI s) u 1100 0 (by omega)
  rw [vw_0, sA_self] at h1
  rw [eX11_begins, QX11_begins_0, h1, QX11_begins_22]
  simp (disch := omega) only [gO_9 hM0, gI_9_0 hM0, gP_9_0 hM0, gR_9_1 hM0, gR_9_2 hM0, gI_9_3 hM0, gP_9_3 hM0, gI_9_4 hM0, gP_9_4 hM0, gR_9_5 hM0, gR_9_6 hM0, gR_9_7 hM0, gI_9_8 hM0, gP_9_8 hM0, gI_9_9 hM0, gP_9_9 hM0, gI_9_10 hM0, gP_9_10 hM0, gI_9_11 hM0, gP_9_11 hM0, gI_9_12 hM0, gP_9_12 hM0, gI_9_13 hM0, gP_9_13 hM0, gI_9_14 hM0, gP_9_14 hM0, gI_9_15 hM0, gP_9_15 hM0, gI_9_16 hM0, gP_9_16 hM0, gR_9_17 hM0, gR_9_18 hM0, gR_9_19 hM0, gR_9_20 hM0, gI_9_21 hM0, gP_9_21 hM0, gI_9_22 hM0, gP_9_22 hM0, gI_9_23 hM0, gP_9_23 hM0, gI_9_24 hM0, gP_9_24 hM0, gR_9_25 hM0, gI_9_26 hM0, gP_9_26 hM0, gI_9_27 hM0, gP_9_27 hM0, gI_9_28 hM0, gP_9_28 hM0, gL_9_29 hM0, gP_9_29 hM0, gL_9_30 hM0, gP_9_30 hM0, sI_w hM2, sA_s, sA_sA, cI_s, cL_s, cF_s, cD_s, cA_s, cV_s, nI_add, cond_true, cond_false, if_true, if_false]
  rw [vw_upd (by omega), vw_upd (by omega), vw_upd (by omega), vw_upd (by omega), gB0_0]
  exact lm_beg2 s u (M.2.1 2) 8 0 (by omega)
end BG
section ST5
variable {E : xEn} {x y n m : Nat} {sh : Nat → Option xSh} {S M : xSt} {L p : Nat} {tx : Nat → Nat}
theorem j_setup (h3 : hI sh 1) (hG14 : hG sh 14) (H : hEn E x) (H' : hEn E y) (Q : cQ S tx L p) (K : mQ M tx L p) (d u : Nat) :
    oL E x y n m sh tx L S M (xsem xT E (d + 20) kX7_read [.ref (x + 1), .ref (x + 14)] (wW E x sh S, n)) (xsem xT E (u + 24) kX11_readsSetup [.ref y] (wW E y shM M, m)) := by
  have a3 := h3.1
  have b0 : sh 14 = some (sh2 14) := hG14.1
  have hL := (mQ_le K).2.1
  have K' := mQ_P K
  rw [eX7_read, QX7_read_0, eX11_readsSetup, QX11_readsSetup_0]
  by_cases e10 : tk tx L p = 10
  · obtain ⟨S1, s1, Q1, f1⟩ := c_take_t (E := E) (x := x) (n := n) h3 H Q (i := 10) (by omega) e10 (d + 17)
    obtain ⟨M1, m1, K1, g1⟩ := t_takes_t (E := E) (x := y) (n := m) (j := 8) H' K (by omega) (by omega) e10 (u + 18)
    have hc1 : ∀ r, qX7_read_12 E (d + 19) (x + 1) (x + 14) (wW E x sh S1, n) = r → (gO E (wW E x sh S, n) 3 (x + 1) (cI (xthr 1 some) (xsem xT E (d + 19) kX3_take [.ref (x + 1), .ref (E.1 10)] (wW E x sh S, n)) (fun v1 σ1 => if v1 = nI 0 then xiret [5] (nI 0) (some (.inl (some (.int (nI 0))), σ1)) else qX7_read_12 E (d + 19) (x + 1) (x + 14) σ1))) = r := by
      intro r hr
      simp (disch := omega) only [gO_3 a3, gR_3_0 a3, gI_3_1 a3, gP_3_1 a3, gI_3_2 a3, gP_3_2 a3, gR_3_3 a3, gR_3_4 a3, gR_3_5 a3, gI_3_6 a3, gP_3_6 a3, gI_3_7 a3, gP_3_7 a3, gI_3_8 a3, gP_3_8 a3, gI_3_9 a3, gP_3_9 a3, cI_s, cL_s, cF_s, cD_s, cA_s, cV_s, nI_add, cond_true, cond_false, if_true, if_false]
      rw [s1]
      simp (disch := omega) only [iEQ_f, hr, cI_s, cL_s, cF_s, cD_s, cA_s, cV_s, nI_add, cond_true, cond_false, if_true, if_false]
    have hm1 : ∀ r, qX11_readsSetup_20 E (u + 23) y (wW E y shM M1, m) = r → (gO E (wW E y shM M, m) 9 y (cI (xthr 1 some) (xsem xT E (u + 23) kX11_takes [.ref y, .ref (E.2.1 8)] (wW E y shM M, m)) (fun v1 σ1 => if v1 = nI 0 then gI σ1 9 10 y (fun v2 => gO E σ1 9 y (cI (xthr 1 some) (xsem xT E (u + 23) kX11_fails [.ref y, .int (-2 : Int32), .int v2] σ1) (fun v3 σ2 => xiret [5] v3 (some (.inl (some (.int v3)), σ2))))) else qX11_readsSetup_20 E (u + 23) y σ1))) = r := by
      intro r hr
      simp (disch := omega) only [gO_9 hM0, gI_9_0 hM0, gP_9_0 hM0, gR_9_1 hM0, gR_9_2 hM0, gI_9_3 hM0, gP_9_3 hM0, gI_9_4 hM0, gP_9_4 hM0, gR_9_5 hM0, gR_9_6 hM0, gR_9_7 hM0, gI_9_8 hM0, gP_9_8 hM0, gI_9_9 hM0, gP_9_9 hM0, gI_9_10 hM0, gP_9_10 hM0, gI_9_11 hM0, gP_9_11 hM0, gI_9_12 hM0, gP_9_12 hM0, gI_9_13 hM0, gP_9_13 hM0, gI_9_14 hM0, gP_9_14 hM0, gI_9_15 hM0, gP_9_15 hM0, gI_9_16 hM0, gP_9_16 hM0, gR_9_17 hM0, gR_9_18 hM0, gR_9_19 hM0, gR_9_20 hM0, gI_9_21 hM0, gP_9_21 hM0, gI_9_22 hM0, gP_9_22 hM0, gI_9_23 hM0, gP_9_23 hM0, gI_9_24 hM0, gP_9_24 hM0, gR_9_25 hM0, gI_9_26 hM0, gP_9_26 hM0, gI_9_27 hM0, gP_9_27 hM0, gI_9_28 hM0, gP_9_28 hM0, gL_9_29 hM0, gP_9_29 hM0, gL_9_30 hM0, gP_9_30 hM0, cI_s, cL_s, cF_s, cD_s, cA_s, cV_s, nI_add, cond_true, cond_false, if_true, if_false]
      rw [m1]
      simp (disch := omega) only [iEQ_f, hr, cI_s, cL_s, cF_s, cD_s, cA_s, cV_s, nI_add, cond_true, cond_false, if_true, if_false]
    rcases j_num (E := E) (x := x) (y := y) (n := n) (m := m) h3 H Q1 K1 (lo := 2) (hi := 8) (by omega) (by omega) (d + 17) (u + 21) with ⟨S2, M2, k1, k2, Q2, K2, k13, fs2, fm2, hv1, hv2, hp1⟩ | ⟨S2, M2, k1, k2, k3, fs2, fm2⟩
    · generalize hs : nu tx L (ad tx L p) = s at *
      have K3 : mQ (sS (sA M2 2 (vw 1100 (gNew s) (M2.2.1 2))) 0 16 (nI 0)) tx L (ad tx L (ad tx L p)) := mQ_o (mQ_A K2 (by omega)) (by omega)
      have RR3 : rd (sS (sA M2 2 (vw 1100 (gNew s) (M2.2.1 2))) 0 16 (nI 0)) (gNew s) := fun k hk => by
        rw [sS_a, sA_s, vw_in hk]
      rcases j_sg (E := E) (x := x) (y := y) (n := n) (m := m) h3 H Q2 K3 (i := 3) (by omega) (by omega) (c := 59) rfl (d + 17) (u + 21) with ⟨S3, M3, q1, q2, Q3, K4, fs, fm, hlt, _⟩ | ⟨S3, M3, q1, q2, q3, fs, fm⟩
      · obtain ⟨S4, t1, t2, t3⟩ := s2_reset (E := E) (x := x) (n := n) (S := S3) hG14 hv1 hv2 (d + 15)
        have h16 : M3.1 0 16 = nI 0 := (fm.1 16 (by omega)).trans sS_s
        have R : RS S4 M3 tx L (gNew s) (ad tx L (ad tx L (ad tx L p))) 0 := ⟨cQ_m Q3 t2, K4, rd_R RR3 fm, by rw [fin_new]; exact t3, iU_new hv1 hv2, h16, by omega, fun _ => rfl⟩
        have hl := oL_fr (frD_tr (frD_tr (frD_I f1) (frD_I fs2)) (frD_tr (frD_I fs) (frD_m t2))) (frG_tr (frG_tr (frG_R g1) (frG_R fm2)) (frG_tr (frG_tr frG_A (frG_S (by omega))) (frG_R fm))) (j_sets (y := y) (n := n) (m := m) h3 hG14 H H' d u 500 0 0 S4 M3 (gNew s) (ad tx L (ad tx L (ad tx L p))) (by omega) (by omega) R)
        have ec := hc1 (qX7_read_46 E (d + 19) (x + 1) (x + 14) (nI 0) (nI 0) (wW E x sh S4, n)) (by
          rw [QX7_read_12]
          simp (disch := omega) only [gO_3 a3, gR_3_0 a3, gI_3_1 a3, gP_3_1 a3, gI_3_2 a3, gP_3_2 a3, gR_3_3 a3, gR_3_4 a3, gR_3_5 a3, gI_3_6 a3, gP_3_6 a3, gI_3_7 a3, gP_3_7 a3, gI_3_8 a3, gP_3_8 a3, gI_3_9 a3, gP_3_9 a3, cI_s, cL_s, cF_s, cD_s, cA_s, cV_s, nI_add, cond_true, cond_false, if_true, if_false]
          rw [k1]
          simp (disch := omega) only [iLT_f, gO_3 a3, gR_3_0 a3, gI_3_1 a3, gP_3_1 a3, gI_3_2 a3, gP_3_2 a3, gR_3_3 a3, gR_3_4 a3, gR_3_5 a3, gI_3_6 a3, gP_3_6 a3, gI_3_7 a3, gP_3_7 a3, gI_3_8 a3, gP_3_8 a3, gI_3_9 a3, gP_3_9 a3, cI_s, cL_s, cF_s, cD_s, cA_s, cV_s, nI_add, cond_true, cond_false, if_true, if_false]
          rw [q1]
          simp (disch := omega) only [iEQ_f, QX7_read_36, gO_2 b0, gR_2_0 b0, gR_2_1 b0, gR_2_2 b0, gR_2_3 b0, gI_2_4 b0, gP_2_4 b0, gI_2_5 b0, gP_2_5 b0, gI_2_6 b0, gP_2_6 b0, gI_2_7 b0, gP_2_7 b0, gI_2_8 b0, gP_2_8 b0, cI_s, cL_s, cF_s, cD_s, cA_s, cV_s, nI_add, cond_true, cond_false, if_true, if_false]
          rw [t1]
          simp (disch := omega) only [cI_s, cL_s, cF_s, cD_s, cA_s, cV_s, nI_add, cond_true, cond_false, if_true, if_false])
        have em := hm1 (qX11_readsSetup_56 E (u + 23) y (wW E y shM M3, m)) (by
          rw [QX11_readsSetup_20]
          simp (disch := omega) only [gO_9 hM0, gI_9_0 hM0, gP_9_0 hM0, gR_9_1 hM0, gR_9_2 hM0, gI_9_3 hM0, gP_9_3 hM0, gI_9_4 hM0, gP_9_4 hM0, gR_9_5 hM0, gR_9_6 hM0, gR_9_7 hM0, gI_9_8 hM0, gP_9_8 hM0, gI_9_9 hM0, gP_9_9 hM0, gI_9_10 hM0, gP_9_10 hM0, gI_9_11 hM0, gP_9_11 hM0, gI_9_12 hM0, gP_9_12 hM0, gI_9_13 hM0, gP_9_13 hM0, gI_9_14 hM0, gP_9_14 hM0, gI_9_15 hM0, gP_9_15 hM0, gI_9_16 hM0, gP_9_16 hM0, gR_9_17 hM0, gR_9_18 hM0, gR_9_19 hM0, gR_9_20 hM0, gI_9_21 hM0, gP_9_21 hM0, gI_9_22 hM0, gP_9_22 hM0, gI_9_23 hM0, gP_9_23 hM0, gI_9_24 hM0, gP_9_24 hM0, gR_9_25 hM0, gI_9_26 hM0, gP_9_26 hM0, gI_9_27 hM0, gP_9_27 hM0, gI_9_28 hM0, gP_9_28 hM0, gL_9_29 hM0, gP_9_29 hM0, gL_9_30 hM0, gP_9_30 hM0, cI_s, cL_s, cF_s, cD_s, cA_s, cV_s, nI_add, cond_true, cond_false, if_true, if_false]
          rw [k2]
          simp (disch := omega) only [iEQ_f, QX11_readsSetup_32, gO_9 hM0, gI_9_0 hM0, gP_9_0 hM0, gR_9_1 hM0, gR_9_2 hM0, gI_9_3 hM0, gP_9_3 hM0, gI_9_4 hM0, gP_9_4 hM0, gR_9_5 hM0, gR_9_6 hM0, gR_9_7 hM0, gI_9_8 hM0, gP_9_8 hM0, gI_9_9 hM0, gP_9_9 hM0, gI_9_10 hM0, gP_9_10 hM0, gI_9_11 hM0, gP_9_11 hM0, gI_9_12 hM0, gP_9_12 hM0, gI_9_13 hM0, gP_9_13 hM0, gI_9_14 hM0, gP_9_14 hM0, gI_9_15 hM0, gP_9_15 hM0, gI_9_16 hM0, gP_9_16 hM0, gR_9_17 hM0, gR_9_18 hM0, gR_9_19 hM0, gR_9_20 hM0, gI_9_21 hM0, gP_9_21 hM0, gI_9_22 hM0, gP_9_22 hM0, gI_9_23 hM0, gP_9_23 hM0, gI_9_24 hM0, gP_9_24 hM0, gR_9_25 hM0, gI_9_26 hM0, gP_9_26 hM0, gI_9_27 hM0, gP_9_27 hM0, gI_9_28 hM0, gP_9_28 hM0, gL_9_29 hM0, gP_9_29 hM0, gL_9_30 hM0, gP_9_30 hM0, k13, cI_s, cL_s, cF_s, cD_s, cA_s, cV_s, nI_add, cond_true, cond_false, if_true, if_false]
          rw [t_begins]
          simp (disch := omega) only [gO_9 hM0, gI_9_0 hM0, gP_9_0 hM0, gR_9_1 hM0, gR_9_2 hM0, gI_9_3 hM0, gP_9_3 hM0, gI_9_4 hM0, gP_9_4 hM0, gR_9_5 hM0, gR_9_6 hM0, gR_9_7 hM0, gI_9_8 hM0, gP_9_8 hM0, gI_9_9 hM0, gP_9_9 hM0, gI_9_10 hM0, gP_9_10 hM0, gI_9_11 hM0, gP_9_11 hM0, gI_9_12 hM0, gP_9_12 hM0, gI_9_13 hM0, gP_9_13 hM0, gI_9_14 hM0, gP_9_14 hM0, gI_9_15 hM0, gP_9_15 hM0, gI_9_16 hM0, gP_9_16 hM0, gR_9_17 hM0, gR_9_18 hM0, gR_9_19 hM0, gR_9_20 hM0, gI_9_21 hM0, gP_9_21 hM0, gI_9_22 hM0, gP_9_22 hM0, gI_9_23 hM0, gP_9_23 hM0, gI_9_24 hM0, gP_9_24 hM0, gR_9_25 hM0, gI_9_26 hM0, gP_9_26 hM0, gI_9_27 hM0, gP_9_27 hM0, gI_9_28 hM0, gP_9_28 hM0, gL_9_29 hM0, gP_9_29 hM0, gL_9_30 hM0, gP_9_30 hM0, cI_s, cL_s, cF_s, cD_s, cA_s, cV_s, nI_add, cond_true, cond_false, if_true, if_false]
          rw [q2]
          simp (disch := omega) only [iEQ_f, cI_s, cL_s, cF_s, cD_s, cA_s, cV_s, nI_add, cond_true, cond_false, if_true, if_false])
        rw [ec, em]
        exact hl
      · refine Or.inr ⟨S3, M3, hc1 _ ?_, hm1 _ ?_, q3, frD_tr (frD_tr (frD_I f1) (frD_I fs2)) (frD_I fs), frG_tr (frG_tr (frG_R g1) (frG_R fm2)) (frG_tr (frG_tr frG_A (frG_S (by omega))) (frG_R fm))⟩
        · rw [QX7_read_12]
          simp (disch := omega) only [gO_3 a3, gR_3_0 a3, gI_3_1 a3, gP_3_1 a3, gI_3_2 a3, gP_3_2 a3, gR_3_3 a3, gR_3_4 a3, gR_3_5 a3, gI_3_6 a3, gP_3_6 a3, gI_3_7 a3, gP_3_7 a3, gI_3_8 a3, gP_3_8 a3, gI_3_9 a3, gP_3_9 a3, cI_s, cL_s, cF_s, cD_s, cA_s, cV_s, nI_add, cond_true, cond_false, if_true, if_false]
          rw [k1]
          simp (disch := omega) only [iLT_f, gO_3 a3, gR_3_0 a3, gI_3_1 a3, gP_3_1 a3, gI_3_2 a3, gP_3_2 a3, gR_3_3 a3, gR_3_4 a3, gR_3_5 a3, gI_3_6 a3, gP_3_6 a3, gI_3_7 a3, gP_3_7 a3, gI_3_8 a3, gP_3_8 a3, gI_3_9 a3, gP_3_9 a3, cI_s, cL_s, cF_s, cD_s, cA_s, cV_s, nI_add, cond_true, cond_false, if_true, if_false]
          rw [q1]
          simp (disch := omega) only [iEQ_t, QX7_read_34, xret5_0, cI_s, cL_s, cF_s, cD_s, cA_s, cV_s, nI_add, cond_true, cond_false, if_true, if_false]
        · rw [QX11_readsSetup_20]
          simp (disch := omega) only [gO_9 hM0, gI_9_0 hM0, gP_9_0 hM0, gR_9_1 hM0, gR_9_2 hM0, gI_9_3 hM0, gP_9_3 hM0, gI_9_4 hM0, gP_9_4 hM0, gR_9_5 hM0, gR_9_6 hM0, gR_9_7 hM0, gI_9_8 hM0, gP_9_8 hM0, gI_9_9 hM0, gP_9_9 hM0, gI_9_10 hM0, gP_9_10 hM0, gI_9_11 hM0, gP_9_11 hM0, gI_9_12 hM0, gP_9_12 hM0, gI_9_13 hM0, gP_9_13 hM0, gI_9_14 hM0, gP_9_14 hM0, gI_9_15 hM0, gP_9_15 hM0, gI_9_16 hM0, gP_9_16 hM0, gR_9_17 hM0, gR_9_18 hM0, gR_9_19 hM0, gR_9_20 hM0, gI_9_21 hM0, gP_9_21 hM0, gI_9_22 hM0, gP_9_22 hM0, gI_9_23 hM0, gP_9_23 hM0, gI_9_24 hM0, gP_9_24 hM0, gR_9_25 hM0, gI_9_26 hM0, gP_9_26 hM0, gI_9_27 hM0, gP_9_27 hM0, gI_9_28 hM0, gP_9_28 hM0, gL_9_29 hM0, gP_9_29 hM0, gL_9_30 hM0, gP_9_30 hM0, cI_s, cL_s, cF_s, cD_s, cA_s, cV_s, nI_add, cond_true, cond_false, if_true, if_false]
          rw [k2]
          simp (disch := omega) only [iEQ_f, QX11_readsSetup_32, gO_9 hM0, gI_9_0 hM0, gP_9_0 hM0, gR_9_1 hM0, gR_9_2 hM0, gI_9_3 hM0, gP_9_3 hM0, gI_9_4 hM0, gP_9_4 hM0, gR_9_5 hM0, gR_9_6 hM0, gR_9_7 hM0, gI_9_8 hM0, gP_9_8 hM0, gI_9_9 hM0, gP_9_9 hM0, gI_9_10 hM0, gP_9_10 hM0, gI_9_11 hM0, gP_9_11 hM0, gI_9_12 hM0, gP_9_12 hM0, gI_9_13 hM0, gP_9_13 hM0, gI_9_14 hM0, gP_9_14 hM0, gI_9_15 hM0, gP_9_15 hM0, gI_9_16 hM0, gP_9_16 hM0, gR_9_17 hM0, gR_9_18 hM0, gR_9_19 hM0, gR_9_20 hM0, gI_9_21 hM0, gP_9_21 hM0, gI_9_22 hM0, gP_9_22 hM0, gI_9_23 hM0, gP_9_23 hM0, gI_9_24 hM0, gP_9_24 hM0, gR_9_25 hM0, gI_9_26 hM0, gP_9_26 hM0, gI_9_27 hM0, gP_9_27 hM0, gI_9_28 hM0, gP_9_28 hM0, gL_9_29 hM0, gP_9_29 hM0, gL_9_30 hM0, gP_9_30 hM0, k13, cI_s, cL_s, cF_s, cD_s, cA_s, cV_s, nI_add, cond_true, cond_false, if_true, if_false]
          rw [t_begins]
          simp (disch := omega) only [gO_9 hM0, gI_9_0 hM0, gP_9_0 hM0, gR_9_1 hM0, gR_9_2 hM0, gI_9_3 hM0, gP_9_3 hM0, gI_9_4 hM0, gP_9_4 hM0, gR_9_5 hM0, gR_9_6 hM0, gR_9_7 hM0, gI_9_8 hM0, gP_9_8 hM0, gI_9_9 hM0, gP_9_9 hM0, gI_9_10 hM0, gP_9_10 hM0, gI_9_11 hM0, gP_9_11 hM0, gI_9_12 hM0, gP_9_12 hM0, gI_9_13 hM0, gP_9_13 hM0, gI_9_14 hM0, gP_9_14 hM0, gI_9_15 hM0, gP_9_15 hM0, gI_9_16 hM0, gP_9_16 hM0, gR_9_17 hM0, gR_9_18 hM0, gR_9_19 hM0, gR_9_20 hM0, gI_9_21 hM0, gP_9_21 hM0, gI_9_22 hM0, gP_9_22 hM0, gI_9_23 hM0, gP_9_23 hM0, gI_9_24 hM0, gP_9_24 hM0, gR_9_25 hM0, gI_9_26 hM0, gP_9_26 hM0, gI_9_27 hM0, gP_9_27 hM0, gI_9_28 hM0, gP_9_28 hM0, gL_9_29 hM0, gP_9_29 hM0, gL_9_30 hM0, gP_9_30 hM0, cI_s, cL_s, cF_s, cD_s, cA_s, cV_s, nI_add, cond_true, cond_false, if_true, if_false]
          rw [q2]
          simp (disch := omega) only [iEQ_t, xret5_0, cI_s, cL_s, cF_s, cD_s, cA_s, cV_s, nI_add, cond_true, cond_false, if_true, if_false]
    · refine Or.inr ⟨S2, M2, hc1 _ ?_, hm1 _ ?_, k3, frD_tr (frD_I f1) (frD_I fs2), frG_tr (frG_R g1) (frG_R fm2)⟩
      · rw [QX7_read_12]
        simp (disch := omega) only [gO_3 a3, gR_3_0 a3, gI_3_1 a3, gP_3_1 a3, gI_3_2 a3, gP_3_2 a3, gR_3_3 a3, gR_3_4 a3, gR_3_5 a3, gI_3_6 a3, gP_3_6 a3, gI_3_7 a3, gP_3_7 a3, gI_3_8 a3, gP_3_8 a3, gI_3_9 a3, gP_3_9 a3, cI_s, cL_s, cF_s, cD_s, cA_s, cV_s, nI_add, cond_true, cond_false, if_true, if_false]
        rw [k1]
        simp (disch := omega) only [if_pos (show (-1 : Int32) < nI 0 by decide), QX7_read_34, xret5_0, cI_s, cL_s, cF_s, cD_s, cA_s, cV_s, nI_add, cond_true, cond_false, if_true, if_false]
      · rw [QX11_readsSetup_20]
        simp (disch := omega) only [gO_9 hM0, gI_9_0 hM0, gP_9_0 hM0, gR_9_1 hM0, gR_9_2 hM0, gI_9_3 hM0, gP_9_3 hM0, gI_9_4 hM0, gP_9_4 hM0, gR_9_5 hM0, gR_9_6 hM0, gR_9_7 hM0, gI_9_8 hM0, gP_9_8 hM0, gI_9_9 hM0, gP_9_9 hM0, gI_9_10 hM0, gP_9_10 hM0, gI_9_11 hM0, gP_9_11 hM0, gI_9_12 hM0, gP_9_12 hM0, gI_9_13 hM0, gP_9_13 hM0, gI_9_14 hM0, gP_9_14 hM0, gI_9_15 hM0, gP_9_15 hM0, gI_9_16 hM0, gP_9_16 hM0, gR_9_17 hM0, gR_9_18 hM0, gR_9_19 hM0, gR_9_20 hM0, gI_9_21 hM0, gP_9_21 hM0, gI_9_22 hM0, gP_9_22 hM0, gI_9_23 hM0, gP_9_23 hM0, gI_9_24 hM0, gP_9_24 hM0, gR_9_25 hM0, gI_9_26 hM0, gP_9_26 hM0, gI_9_27 hM0, gP_9_27 hM0, gI_9_28 hM0, gP_9_28 hM0, gL_9_29 hM0, gP_9_29 hM0, gL_9_30 hM0, gP_9_30 hM0, cI_s, cL_s, cF_s, cD_s, cA_s, cV_s, nI_add, cond_true, cond_false, if_true, if_false]
        rw [k2]
        simp (disch := omega) only [iEQ_t, xret5_0, cI_s, cL_s, cF_s, cD_s, cA_s, cV_s, nI_add, cond_true, cond_false, if_true, if_false]
  · obtain ⟨S1, s1, s2, f1⟩ := c_take_f (E := E) (x := x) (n := n) h3 H Q (i := 10) (by omega) e10 (d + 17)
    obtain ⟨M1, m1, m2, g1⟩ := t_fail (E := E) (x := y) (n := m) K' (-2) p (u + 22)
    refine Or.inr ⟨S1, M1, ?_, ?_, xF_of s2 m2, frD_I f1, frG_tr (frG_R frR_P) (frG_R g1)⟩
    · simp (disch := omega) only [gO_3 a3, gR_3_0 a3, gI_3_1 a3, gP_3_1 a3, gI_3_2 a3, gP_3_2 a3, gR_3_3 a3, gR_3_4 a3, gR_3_5 a3, gI_3_6 a3, gP_3_6 a3, gI_3_7 a3, gP_3_7 a3, gI_3_8 a3, gP_3_8 a3, gI_3_9 a3, gP_3_9 a3, cI_s, cL_s, cF_s, cD_s, cA_s, cV_s, nI_add, cond_true, cond_false, if_true, if_false]
      rw [s1]
      simp (disch := omega) only [iEQ_t, xret5_0, cI_s, cL_s, cF_s, cD_s, cA_s, cV_s, nI_add, cond_true, cond_false, if_true, if_false]
    · simp (disch := omega) only [gO_9 hM0, gI_9_0 hM0, gP_9_0 hM0, gR_9_1 hM0, gR_9_2 hM0, gI_9_3 hM0, gP_9_3 hM0, gI_9_4 hM0, gP_9_4 hM0, gR_9_5 hM0, gR_9_6 hM0, gR_9_7 hM0, gI_9_8 hM0, gP_9_8 hM0, gI_9_9 hM0, gP_9_9 hM0, gI_9_10 hM0, gP_9_10 hM0, gI_9_11 hM0, gP_9_11 hM0, gI_9_12 hM0, gP_9_12 hM0, gI_9_13 hM0, gP_9_13 hM0, gI_9_14 hM0, gP_9_14 hM0, gI_9_15 hM0, gP_9_15 hM0, gI_9_16 hM0, gP_9_16 hM0, gR_9_17 hM0, gR_9_18 hM0, gR_9_19 hM0, gR_9_20 hM0, gI_9_21 hM0, gP_9_21 hM0, gI_9_22 hM0, gP_9_22 hM0, gI_9_23 hM0, gP_9_23 hM0, gI_9_24 hM0, gP_9_24 hM0, gR_9_25 hM0, gI_9_26 hM0, gP_9_26 hM0, gI_9_27 hM0, gP_9_27 hM0, gI_9_28 hM0, gP_9_28 hM0, gL_9_29 hM0, gP_9_29 hM0, gL_9_30 hM0, gP_9_30 hM0, cI_s, cL_s, cF_s, cD_s, cA_s, cV_s, nI_add, cond_true, cond_false, if_true, if_false]
      rw [t_takes_f (j := 8) H' K (by omega) (by omega) e10]
      simp (disch := omega) only [iEQ_t, gO_9 hM0, gI_9_0 hM0, gP_9_0 hM0, gR_9_1 hM0, gR_9_2 hM0, gI_9_3 hM0, gP_9_3 hM0, gI_9_4 hM0, gP_9_4 hM0, gR_9_5 hM0, gR_9_6 hM0, gR_9_7 hM0, gI_9_8 hM0, gP_9_8 hM0, gI_9_9 hM0, gP_9_9 hM0, gI_9_10 hM0, gP_9_10 hM0, gI_9_11 hM0, gP_9_11 hM0, gI_9_12 hM0, gP_9_12 hM0, gI_9_13 hM0, gP_9_13 hM0, gI_9_14 hM0, gP_9_14 hM0, gI_9_15 hM0, gP_9_15 hM0, gI_9_16 hM0, gP_9_16 hM0, gR_9_17 hM0, gR_9_18 hM0, gR_9_19 hM0, gR_9_20 hM0, gI_9_21 hM0, gP_9_21 hM0, gI_9_22 hM0, gP_9_22 hM0, gI_9_23 hM0, gP_9_23 hM0, gI_9_24 hM0, gP_9_24 hM0, gR_9_25 hM0, gI_9_26 hM0, gP_9_26 hM0, gI_9_27 hM0, gP_9_27 hM0, gI_9_28 hM0, gP_9_28 hM0, gL_9_29 hM0, gP_9_29 hM0, gL_9_30 hM0, gP_9_30 hM0, mP_10, cI_s, cL_s, cF_s, cD_s, cA_s, cV_s, nI_add, cond_true, cond_false, if_true, if_false]
      rw [m1]
      simp (disch := omega) only [xret5_0, cI_s, cL_s, cF_s, cD_s, cA_s, cV_s, nI_add, cond_true, cond_false, if_true, if_false]
end ST5
