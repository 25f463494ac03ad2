/-! A SCRIPT IS RUN, on both sides. -/
def frZ (w : Nat) (M M' : xSt) : Prop := (∀ k, k ≠ 23 → k ≠ 24 → M'.1 0 k = M.1 0 k) ∧ (∀ j, j ≠ 1 → M'.2.1 j = M.2.1 j) ∧ (∀ i, i < 1100 * w ∨ 1100 * w + 1100 ≤ i → M'.2.1 1 i = M.2.1 1 i)
theorem frZ_rf {w : Nat} {M : xSt} : frZ w M M := ⟨fun _ _ _ => rfl, fun _ _ => rfl, fun _ _ => rfl⟩
theorem frZ_tr {w : Nat} {M M1 M2 : xSt} (h : frZ w M M1) (h' : frZ w M1 M2) : frZ w M M2 := ⟨fun k a b => (h'.1 k a b).trans (h.1 k a b), fun j a => (h'.2.1 j a).trans (h.2.1 j a), fun i a => (h'.2.2 i a).trans (h.2.2 i a)⟩
theorem frZ_S {w : Nat} {M M' : xSt} (h : frS w M M') : frZ w M M' := ⟨fun k _ _ => by rw [h.1], h.2.1, h.2.2⟩
theorem frZ_k {w k : Nat} {M : xSt} {v : Int32} (h : k = 23 ∨ k = 24) : frZ w M (sS M 0 k v) := ⟨fun j a b => sS_n (by omega), fun _ _ => rfl, fun _ _ => rfl⟩
def PS (S M : xSt) (N : Nat) (P : Nat → Nat → Nat) (q w : Nat) (g : Nat → Nat) (dn Bd v : Nat) : Prop := pG S q g ∧ GM M w g ∧ iG g ∧ iFo g ∧ g 2 ≤ Bd + dn ∧ g 3 ≤ Bd + dn ∧ S.1 6 5 = nI dn ∧ M.1 0 23 = nI dn ∧ M.1 0 24 = nI v ∧ dn ≤ 200 ∧ pC S M N P
theorem pC_fr {S S' M M' : xSt} {N q w : Nat} {P : Nat → Nat → Nat} (h : pC S M N P) (hq : 11 ≤ q) (f : frQ q S S') (f' : frZ w M M') : pC S' M' N P := by
  obtain ⟨h1, h2, h3, h4, h5⟩ := h
  refine ⟨(f.2.1 4 (by omega)).trans h1, (f'.1 21 (by omega) (by omega)).trans h2, h3, fun k hk => ?_, fun k hk => ?_⟩
  · rw [f.2.2, (f.1 8 (by omega) (by omega)).2, (f.1 9 (by omega) (by omega)).2, f'.2.1 6 (by omega), f'.2.1 7 (by omega), f'.2.1 8 (by omega)]
    exact h4 k hk
  · rw [(f.1 10 (by omega) (by omega)).2, f'.2.1 9 (by omega)]
    exact h5 k hk
theorem nb_0 : narrow .boolean (.int (nI 0)) = Value.int (nI 0) := by decide
theorem nb_1 : narrow .boolean (.int (nI 1)) = Value.int (nI 1) := by decide
section RN
variable {E : xEn} {x y n m w q N Bd : Nat} {sh : Nat → Option xSh} {P : Nat → Nat → Nat}
def oR (E : xEn) (x n : Nat) (sh : Nat → Option xSh) (N : Nat) (P : Nat → Nat → Nat) (q w Bd : Nat) (S M : xSt) (dn : Nat) (KM : xSt → Option xR) (cr mr : Option xR) : Prop :=
  ∃ v S' M' g' dn', v ≤ 1 ∧ cr = some (.inl (some (.int (nI (1 - v)))), (wW E x sh S', n)) ∧ mr = KM M' ∧ PS S' M' N P q w g' dn' Bd v ∧ dn ≤ dn' ∧ frQ q S S' ∧ frZ w M M' ∧ (v = 0 → dn' = dn → M' = M)
theorem oR_fr {S0 M0 S M : xSt} {dn0 dn : Nat} {KM : xSt → Option xR} {cr mr : Option xR} (f1 : frQ q S0 S) (f2 : frZ w M0 M) (hd : dn0 ≤ dn) (he : dn = dn0 → M = M0) (h : oR E x n sh N P q w Bd S M dn KM cr mr) : oR E x n sh N P q w Bd S0 M0 dn0 KM cr mr := by
  obtain ⟨v, S', M', g', dn', h1, h2, h3, h4, h5, h6, h7, h8⟩ := h
  exact ⟨v, S', M', g', dn', h1, h2, h3, h4, by omega, frQ_tr f1 h6, frZ_tr f2 h7, fun a b => (h8 a (by omega)).trans (he (by omega))⟩
theorem m_over {M : xSt} (h : M.1 0 24 = nI 1) (a b : Int32) (u : Nat) : qX11_runs_2 E u y b a (wW E y shM M, m) = some (.inl none, (wW E y shM M, m)) := by
  rw [QX11_runs_2]
  by_cases c : b ≤ a
  · rw [if_pos c, QX11_runs_129]
  · rw [if_neg c]
    simp (disch := omega) only [gO_9 hM0, gI_9_0 hM0, gP_9_0 hM0, gR_9_1 hM0, gR_9_2 hM0, gI_9_3 hM0, gP_9_3 hM0, gI_9_4 hM0, gP_9_4 hM0, gR_9_5 hM0, gR_9_6 hM0, gR_9_7 hM0, gI_9_8 hM0, gP_9_8 hM0, gI_9_9 hM0, gP_9_9 hM0, gI_9_10 hM0, gP_9_10 hM0, gI_9_11 hM0, gP_9_11 hM0, gI_9_12 hM0, gP_9_12 hM0, gI_9_13 hM0, gP_9_13 hM0, gI_9_14 hM0, gP_9_14 hM0, gI_9_15 hM0, gP_9_15 hM0, gI_9_16 hM0, gP_9_16 hM0, gR_9_17 hM0, gR_9_18 hM0, gR_9_19 hM0, gR_9_20 hM0, gI_9_21 hM0, gP_9_21 hM0, gI_9_22 hM0, gP_9_22 hM0, gI_9_23 hM0, gP_9_23 hM0, gI_9_24 hM0, gP_9_24 hM0, gR_9_25 hM0, gI_9_26 hM0, gP_9_26 hM0, gI_9_27 hM0, gP_9_27 hM0, gI_9_28 hM0, gP_9_28 hM0, gL_9_29 hM0, gP_9_29 hM0, gL_9_30 hM0, gP_9_30 hM0, h, iEQ_f, QX11_runs_129, cI_s, cL_s, cF_s, cD_s, cA_s, cV_s, nI_add, cond_true, cond_false, if_true, if_false]
theorem j_run (hG : hG sh q) (h6 : hS6 sh) (hq : 11 ≤ q) (H : hEn E x) (d u : Nat) :
    ∀ f r a b i S M g dn dep, dep + r = 3 → okQ P f r a b → b ≤ N → i ≤ a → PS S M N P q w g dn Bd 0 →
      oR E x n sh N P q w Bd S M dn (fun M' => some (.inl none, (wW E y shM M', m))) (qX6_performRange_6 E (d + 2 * r + 7) (x + 6) (x + q) (nI b) (nI dep) (nI a) (nI i) (wW E x sh S, n)) (qX11_runs_2 E (u + r + 8) y (nI b) (nI a) (wW E y shM M, m)) := by
  have b0 := h6.1
  have b1 : sh (6 + 1) = some (4, 60, []) := h6.2.1
  have b2 : sh (6 + 2) = some (1, 60, []) := h6.2.2.1
  have b4 : sh (6 + 4) = some (1, 60, []) := h6.2.2.2.2
  have hend : ∀ r a i S M g dn dep, PS S M N P q w g dn Bd 0 → a < 2 ^ 31 → oR E x n sh N P q w Bd S M dn (fun M' => some (.inl none, (wW E y shM M', m))) (qX6_performRange_6 E (d + 2 * r + 7) (x + 6) (x + q) (nI a) (nI dep) (nI a) (nI i) (wW E x sh S, n)) (qX11_runs_2 E (u + r + 8) y (nI a) (nI a) (wW E y shM M, m)) := by
    intro r a i S M g dn dep PSh ha
    refine ⟨0, S, M, g, dn, by omega, ?_, ?_, PSh, Nat.le_refl _, frQ_rf, frZ_rf, fun _ _ => rfl⟩
    · rw [QX6_performRange_6, iLE_t (Nat.le_refl a) ha]
      by_cases c : nI 60 ≤ nI i
      · rw [if_pos c, QX6_performRange_99]
        rfl
      · rw [if_neg c, QX6_performRange_99]
        rfl
    · rw [QX11_runs_2, iLE_t (Nat.le_refl a) ha, QX11_runs_129]
  intro f
  induction f with
  | zero =>
    intro r a b i S M g dn dep hr hok hb hi PSh
    have hok : a = b := hok
    subst hok
    have := PSh.2.2.2.2.2.2.2.2.2.2.2.2.1
    exact hend r a i S M g dn dep PSh (by omega)
  | succ f ih =>
    intro r a b i S M g dn dep hr hok hb hi PSh
    have PS0 := PSh
    obtain ⟨PG, GMh, I, IF, t2, t3, s5, m23, m24, hdn, PC⟩ := PSh
    have hN60 := PC.2.2.1
    rcases hok with hok | ⟨hab, hok⟩
    · subst hok
      exact hend r a i S M g dn dep PS0 (by omega)
    · obtain ⟨k1, k2, k3, k4, k5, k6, k7, k8, k9⟩ := PC.2.2.2.1 a (by omega)
      have k2 : S.2.2.2.2 (6 + 1) a = some (22 + P a 0) := k2
      rcases hok with ⟨hK, hok⟩ | ⟨hK, r', hr', hz1, hz2, ha1, ha20, hin, hrest⟩
      · -- one command
        have hK5 : P a 0 ≤ 5 := by omega
        have hco := c_one (E := E) (x := x) (n := n) (d := d + 2 * r + 1) hG h6 (by omega) H PG I (show a < 60 by omega) hK5 k2 k3 k4 s5 hdn k8 k9
        have hmo := m_does (E := E) (y := y) (m := m) (u := u + r + 1) GMh I (show a < 60 by omega) hK5 k5 k6 k7 k8 k9
        have hhc : ∀ v S', xsem xT E (d + 2 * r + 7) kX6_performOne [.ref (x + 6), .ref (x + q), .int (nI a)] (wW E x sh S, n) = some (.inl (some (.int v)), (wW E x sh S', n)) → qX6_performRange_6 E (d + 2 * r + 7) (x + 6) (x + q) (nI b) (nI dep) (nI a) (nI i) (wW E x sh S, n) = qX6_performRange_63 E (d + 2 * r + 7) (x + 6) (x + q) (nI b) (nI dep) (nI a) (nI i) (nI 0) v (wW E x sh S', n) := by
          intro v S' hv
          rw [QX6_performRange_6, iLE_f (show i < 60 by omega) (by omega), iLE_f hab (by omega)]
          simp (disch := omega) only [gO_6 b0, gR_6_0 b0, gR_6_1 b0, gR_6_2 b0, gR_6_3 b0, gI_6_4 b0, gP_6_4 b0, gI_6_5 b0, gP_6_5 b0, cI_s, cL_s, cF_s, cD_s, cA_s, cV_s, nI_add, cond_true, cond_false, if_true, if_false]
          rw [aQ_w b1 (by omega) (by omega) k2, bq_t H (by omega) (by omega), decide_eq_false (by omega), cond_false, QX6_performRange_36, QX6_performRange_37, iEQ_t rfl, QX6_performRange_56]
          simp (disch := omega) only [gO_6 b0, gR_6_0 b0, gR_6_1 b0, gR_6_2 b0, gR_6_3 b0, gI_6_4 b0, gP_6_4 b0, gI_6_5 b0, gP_6_5 b0, cI_s, cL_s, cF_s, cD_s, cA_s, cV_s, nI_add, cond_true, cond_false, if_true, if_false]
          rw [hv]
          simp (disch := omega) only [cI_s, cL_s, cF_s, cD_s, cA_s, cV_s, nI_add, cond_true, cond_false, if_true, if_false]
        by_cases hgo : alw (P a 0) (P a 1) (P a 2) g ∧ dn < 200
        · obtain ⟨S1, e1, e2, e3, e4⟩ := hco.1 hgo.1 hgo.2
          obtain ⟨M1, f1, f2, f3⟩ := hmo.1 hgo.1
          obtain ⟨n1, n2, n3, n4⟩ := nxt_ok I hgo.1
          have fZ : frZ w M (sS (sS M1 0 24 (nI 0)) 0 23 (nI (dn + 1))) := frZ_tr (frZ_S f3) (frZ_tr (frZ_k (by omega)) (frZ_k (by omega)))
          have PS1 : PS S1 (sS (sS M1 0 24 (nI 0)) 0 23 (nI (dn + 1))) N P q w (nxt (P a 0) (P a 1) (P a 2) g) (dn + 1) Bd 0 :=
            ⟨e2, GM_fr f2 (by rw [sS_n (by omega), sS_n (by omega)]) rfl, n1, n2 IF, by omega, by omega, e3, sS_s, by rw [sS_n (by omega), sS_s], by omega, pC_fr PC hq e4 fZ⟩
          have hh := ih r (a + 1) b (i + 1) S1 _ _ (dn + 1) dep hr hok hb (by omega) PS1
          have ec : qX6_performRange_6 E (d + 2 * r + 7) (x + 6) (x + q) (nI b) (nI dep) (nI a) (nI i) (wW E x sh S, n) = qX6_performRange_6 E (d + 2 * r + 7) (x + 6) (x + q) (nI b) (nI dep) (nI (a + 1)) (nI (i + 1)) (wW E x sh S1, n) := by
            rw [hhc _ _ e1, QX6_performRange_63, iEQ_f (by omega) (by omega) (by omega), QX6_performRange_72, iEQ_t rfl, QX6_performRange_87, QX6_performRange_91, nI_add, nI_add]
          have em : qX11_runs_2 E (u + r + 8) y (nI b) (nI a) (wW E y shM M, m) = qX11_runs_2 E (u + r + 8) y (nI b) (nI (a + 1)) (wW E y shM (sS (sS M1 0 24 (nI 0)) 0 23 (nI (dn + 1))), m) := by
            have m23' : M1.1 0 23 = nI dn := by rw [f3.1]; exact m23
            rw [QX11_runs_2, iLE_f hab (by omega)]
            simp (disch := omega) only [gO_9 hM0, gI_9_0 hM0, gP_9_0 hM0, gR_9_1 hM0, gR_9_2 hM0, gI_9_3 hM0, gP_9_3 hM0, gI_9_4 hM0, gP_9_4 hM0, gR_9_5 hM0, gR_9_6 hM0, gR_9_7 hM0, gI_9_8 hM0, gP_9_8 hM0, gI_9_9 hM0, gP_9_9 hM0, gI_9_10 hM0, gP_9_10 hM0, gI_9_11 hM0, gP_9_11 hM0, gI_9_12 hM0, gP_9_12 hM0, gI_9_13 hM0, gP_9_13 hM0, gI_9_14 hM0, gP_9_14 hM0, gI_9_15 hM0, gP_9_15 hM0, gI_9_16 hM0, gP_9_16 hM0, gR_9_17 hM0, gR_9_18 hM0, gR_9_19 hM0, gR_9_20 hM0, gI_9_21 hM0, gP_9_21 hM0, gI_9_22 hM0, gP_9_22 hM0, gI_9_23 hM0, gP_9_23 hM0, gI_9_24 hM0, gP_9_24 hM0, gR_9_25 hM0, gI_9_26 hM0, gP_9_26 hM0, gI_9_27 hM0, gP_9_27 hM0, gI_9_28 hM0, gP_9_28 hM0, gL_9_29 hM0, gP_9_29 hM0, gL_9_30 hM0, gP_9_30 hM0, m24, iEQ_t, aI_w hM6, k5, iEQ_f hK, QX11_runs_75, m23, iEQ_f (show dn ≠ 200 by omega), cI_s, cL_s, cF_s, cD_s, cA_s, cV_s, nI_add, cond_true, cond_false, if_true, if_false]
            rw [f1]
            simp (disch := omega) only [iEQ_f, QX11_runs_98, QX11_runs_99, if_pos nb_0, gO_9 hM0, gI_9_0 hM0, gP_9_0 hM0, gR_9_1 hM0, gR_9_2 hM0, gI_9_3 hM0, gP_9_3 hM0, gI_9_4 hM0, gP_9_4 hM0, gR_9_5 hM0, gR_9_6 hM0, gR_9_7 hM0, gI_9_8 hM0, gP_9_8 hM0, gI_9_9 hM0, gP_9_9 hM0, gI_9_10 hM0, gP_9_10 hM0, gI_9_11 hM0, gP_9_11 hM0, gI_9_12 hM0, gP_9_12 hM0, gI_9_13 hM0, gP_9_13 hM0, gI_9_14 hM0, gP_9_14 hM0, gI_9_15 hM0, gP_9_15 hM0, gI_9_16 hM0, gP_9_16 hM0, gR_9_17 hM0, gR_9_18 hM0, gR_9_19 hM0, gR_9_20 hM0, gI_9_21 hM0, gP_9_21 hM0, gI_9_22 hM0, gP_9_22 hM0, gI_9_23 hM0, gP_9_23 hM0, gI_9_24 hM0, gP_9_24 hM0, gR_9_25 hM0, gI_9_26 hM0, gP_9_26 hM0, gI_9_27 hM0, gP_9_27 hM0, gI_9_28 hM0, gP_9_28 hM0, gL_9_29 hM0, gP_9_29 hM0, gL_9_30 hM0, gP_9_30 hM0, sS_n, sS_s, m23', iEQ_t, QX11_runs_118, QX11_runs_119, cI_s, cL_s, cF_s, cD_s, cA_s, cV_s, nI_add, cond_true, cond_false, if_true, if_false]
          rw [ec, em]
          exact oR_fr e4 fZ (by omega) (fun z => absurd z (by omega)) hh
        · have e1 := hco.2 hgo
          have fZ : frZ w M (sS (sS M 0 24 (nI 1)) 0 23 (nI dn)) := frZ_tr (frZ_k (by omega)) (frZ_k (by omega))
          refine ⟨1, S, sS (sS M 0 24 (nI 1)) 0 23 (nI dn), g, dn, by omega, ?_, ?_, ⟨PG, GM_fr GMh (by rw [sS_n (by omega), sS_n (by omega)]) rfl, I, IF, t2, t3, s5, sS_s, by rw [sS_n (by omega), sS_s], hdn, pC_fr PC hq frQ_rf fZ⟩, Nat.le_refl _, frQ_rf, fZ, fun z => absurd z (by omega)⟩
          · rw [hhc _ _ e1, QX6_performRange_63, iEQ_t rfl]
            rfl
          · have h99 : qX11_runs_94 E (u + r + 8) y (nI b) (nI a) y (wW E y shM M, m) = some (.inl none, (wW E y shM (sS (sS M 0 24 (nI 1)) 0 23 (nI dn)), m)) := by
              rw [QX11_runs_94, QX11_runs_99, if_pos nb_1]
              simp (disch := omega) only [gO_9 hM0, gI_9_0 hM0, gP_9_0 hM0, gR_9_1 hM0, gR_9_2 hM0, gI_9_3 hM0, gP_9_3 hM0, gI_9_4 hM0, gP_9_4 hM0, gR_9_5 hM0, gR_9_6 hM0, gR_9_7 hM0, gI_9_8 hM0, gP_9_8 hM0, gI_9_9 hM0, gP_9_9 hM0, gI_9_10 hM0, gP_9_10 hM0, gI_9_11 hM0, gP_9_11 hM0, gI_9_12 hM0, gP_9_12 hM0, gI_9_13 hM0, gP_9_13 hM0, gI_9_14 hM0, gP_9_14 hM0, gI_9_15 hM0, gP_9_15 hM0, gI_9_16 hM0, gP_9_16 hM0, gR_9_17 hM0, gR_9_18 hM0, gR_9_19 hM0, gR_9_20 hM0, gI_9_21 hM0, gP_9_21 hM0, gI_9_22 hM0, gP_9_22 hM0, gI_9_23 hM0, gP_9_23 hM0, gI_9_24 hM0, gP_9_24 hM0, gR_9_25 hM0, gI_9_26 hM0, gP_9_26 hM0, gI_9_27 hM0, gP_9_27 hM0, gI_9_28 hM0, gP_9_28 hM0, gL_9_29 hM0, gP_9_29 hM0, gL_9_30 hM0, gP_9_30 hM0, sS_n, sS_s, m23, iEQ_f, QX11_runs_119, cI_s, cL_s, cF_s, cD_s, cA_s, cV_s, nI_add, cond_true, cond_false, if_true, if_false]
              exact m_over (by rw [sS_n (by omega), sS_s]) _ _ _
            rw [QX11_runs_2, iLE_f hab (by omega)]
            simp (disch := omega) only [gO_9 hM0, gI_9_0 hM0, gP_9_0 hM0, gR_9_1 hM0, gR_9_2 hM0, gI_9_3 hM0, gP_9_3 hM0, gI_9_4 hM0, gP_9_4 hM0, gR_9_5 hM0, gR_9_6 hM0, gR_9_7 hM0, gI_9_8 hM0, gP_9_8 hM0, gI_9_9 hM0, gP_9_9 hM0, gI_9_10 hM0, gP_9_10 hM0, gI_9_11 hM0, gP_9_11 hM0, gI_9_12 hM0, gP_9_12 hM0, gI_9_13 hM0, gP_9_13 hM0, gI_9_14 hM0, gP_9_14 hM0, gI_9_15 hM0, gP_9_15 hM0, gI_9_16 hM0, gP_9_16 hM0, gR_9_17 hM0, gR_9_18 hM0, gR_9_19 hM0, gR_9_20 hM0, gI_9_21 hM0, gP_9_21 hM0, gI_9_22 hM0, gP_9_22 hM0, gI_9_23 hM0, gP_9_23 hM0, gI_9_24 hM0, gP_9_24 hM0, gR_9_25 hM0, gI_9_26 hM0, gP_9_26 hM0, gI_9_27 hM0, gP_9_27 hM0, gI_9_28 hM0, gP_9_28 hM0, gL_9_29 hM0, gP_9_29 hM0, gL_9_30 hM0, gP_9_30 hM0, m24, iEQ_t, aI_w hM6, k5, iEQ_f hK, QX11_runs_75, m23, cI_s, cL_s, cF_s, cD_s, cA_s, cV_s, nI_add, cond_true, cond_false, if_true, if_false]
            by_cases z : dn = 200
            · rw [iEQ_t z, h99]
            · rw [iEQ_f z (by omega) (by omega), hmo.2 (fun c => hgo ⟨c, by omega⟩)]
              simp (disch := omega) only [iEQ_t, cI_s, cL_s, cF_s, cD_s, cA_s, cV_s, nI_add, cond_true, cond_false, if_true, if_false]
              exact h99
      · -- a repeat
        subst hr'
        have k6 := k6 (by omega)
        obtain ⟨z1, z2⟩ := PC.2.2.2.2 a (by omega) hK (by omega)
        have z1 : S.2.1 (6 + 4) a = nI (P a 3) := z1
        have hloop : ∀ j t S M g dn, t + j = P a 1 → PS S M N P q w g dn Bd 0 → oR E x n sh N P q w Bd S M dn (fun M' => qX11_runs_65 E (u + (r' + 1) + 8) y (nI b) (nI a) (wW E y shM M', m)) (qX6_performRepeat_10 E (d + 2 * (r' + 1) + 6) (x + 6) (x + q) (nI a) (nI dep) (nI t) (wW E x sh S, n)) (qX11_runs_28 E (u + (r' + 1) + 8) y (nI b) (nI a) (nI t) (wW E y shM M, m)) := by
          intro j
          induction j with
          | zero =>
            intro t S M g dn ht PSh
            obtain ⟨k1, k2, k3, k4, k5, k6, k7, k8, k9⟩ := PSh.2.2.2.2.2.2.2.2.2.2.2.2.2.1 a (by omega)
            have k6 := k6 (by omega)
            refine ⟨0, S, M, g, dn, by omega, ?_, ?_, PSh, Nat.le_refl _, frQ_rf, frZ_rf, fun _ _ => rfl⟩
            · rw [QX6_performRepeat_10]
              simp (disch := omega) only [gO_6 b0, gR_6_0 b0, gR_6_1 b0, gR_6_2 b0, gR_6_3 b0, gI_6_4 b0, gP_6_4 b0, gI_6_5 b0, gP_6_5 b0, aI_w b2, k3, iLE_t (show P a 1 ≤ t by omega), QX6_performRepeat_66, xret5_1, cI_s, cL_s, cF_s, cD_s, cA_s, cV_s, nI_add, cond_true, cond_false, if_true, if_false]
            · rw [QX11_runs_28]
              simp (disch := omega) only [gO_9 hM0, gI_9_0 hM0, gP_9_0 hM0, gR_9_1 hM0, gR_9_2 hM0, gI_9_3 hM0, gP_9_3 hM0, gI_9_4 hM0, gP_9_4 hM0, gR_9_5 hM0, gR_9_6 hM0, gR_9_7 hM0, gI_9_8 hM0, gP_9_8 hM0, gI_9_9 hM0, gP_9_9 hM0, gI_9_10 hM0, gP_9_10 hM0, gI_9_11 hM0, gP_9_11 hM0, gI_9_12 hM0, gP_9_12 hM0, gI_9_13 hM0, gP_9_13 hM0, gI_9_14 hM0, gP_9_14 hM0, gI_9_15 hM0, gP_9_15 hM0, gI_9_16 hM0, gP_9_16 hM0, gR_9_17 hM0, gR_9_18 hM0, gR_9_19 hM0, gR_9_20 hM0, gI_9_21 hM0, gP_9_21 hM0, gI_9_22 hM0, gP_9_22 hM0, gI_9_23 hM0, gP_9_23 hM0, gI_9_24 hM0, gP_9_24 hM0, gR_9_25 hM0, gI_9_26 hM0, gP_9_26 hM0, gI_9_27 hM0, gP_9_27 hM0, gI_9_28 hM0, gP_9_28 hM0, gL_9_29 hM0, gP_9_29 hM0, gL_9_30 hM0, gP_9_30 hM0, aI_w hM7, k6, iLE_t (show P a 1 ≤ t by omega), cI_s, cL_s, cF_s, cD_s, cA_s, cV_s, nI_add, cond_true, cond_false, if_true, if_false]
          | succ j ihj =>
            intro t S M g dn ht PSh
            have PS0 := PSh
            obtain ⟨PG, GMh, I, IF, t2, t3, s5, m23, m24, hdn, PC⟩ := PSh
            obtain ⟨k1, k2, k3, k4, k5, k6, k7, k8, k9⟩ := PC.2.2.2.1 a (by omega)
            have k6 := k6 (by omega)
            obtain ⟨z1, z2⟩ := PC.2.2.2.2 a (by omega) hK (by omega)
            have z1 : S.2.1 (6 + 4) a = nI (P a 3) := z1
            obtain ⟨v, S1, M1, g1, dn1, v1, e1, e2, PS1, hd1, fq, fz, heq⟩ := ih r' (a + 1) (P a 3) 0 S M g dn (dep + 1) (by omega) hin (by omega) (by omega) PS0
            have hcr : xsem xT E (d + 2 * (r' + 1) + 6) kX6_performRange [.ref (x + 6), .ref (x + q), .int (nI (a + 1)), .int (nI (P a 3)), .int (nI (dep + 1))] (wW E x sh S, n) = some (.inl (some (.int (nI (1 - v)))), (wW E x sh S1, n)) := by
              rw [show d + 2 * (r' + 1) + 6 = (d + 2 * r' + 7) + 1 by omega, eX6_performRange, QX6_performRange_0]
              exact e1
            have hmr : xsem xT E (u + (r' + 1) + 8) kX11_runs [.ref y, .int (nI (a + 1)), .int (nI (P a 3))] (wW E y shM M, m) = some (.inl none, (wW E y shM M1, m)) := by
              rw [show u + (r' + 1) + 8 = (u + r' + 8) + 1 by omega, eX11_runs, QX11_runs_0]
              exact e2
            have hc : qX6_performRepeat_10 E (d + 2 * (r' + 1) + 6) (x + 6) (x + q) (nI a) (nI dep) (nI t) (wW E x sh S, n) = if nI (1 - v) = nI 0 then xiret [5] (nI 0) (some (.inl (some (.int (nI 0))), (wW E x sh S1, n))) else qX6_performRepeat_49 E (d + 2 * (r' + 1) + 6) (x + 6) (x + q) (nI a) (nI dep) (nI t) (nI dn) (wW E x sh S1, n) := by
              rw [QX6_performRepeat_10]
              simp (disch := omega) only [gO_6 b0, gR_6_0 b0, gR_6_1 b0, gR_6_2 b0, gR_6_3 b0, gI_6_4 b0, gP_6_4 b0, gI_6_5 b0, gP_6_5 b0, aI_w b2, k3, iLE_f (show t < P a 1 by omega), s5, aI_w b4, z1, cI_s, cL_s, cF_s, cD_s, cA_s, cV_s, nI_add, cond_true, cond_false, if_true, if_false]
              rw [hcr]
              simp (disch := omega) only [cI_s, cL_s, cF_s, cD_s, cA_s, cV_s, nI_add, cond_true, cond_false, if_true, if_false]
            have hm : qX11_runs_28 E (u + (r' + 1) + 8) y (nI b) (nI a) (nI t) (wW E y shM M, m) = qX11_runs_28 E (u + (r' + 1) + 8) y (nI b) (nI a) (nI (t + 1)) (wW E y shM M1, m) := by
              rw [QX11_runs_28]
              simp (disch := omega) only [gO_9 hM0, gI_9_0 hM0, gP_9_0 hM0, gR_9_1 hM0, gR_9_2 hM0, gI_9_3 hM0, gP_9_3 hM0, gI_9_4 hM0, gP_9_4 hM0, gR_9_5 hM0, gR_9_6 hM0, gR_9_7 hM0, gI_9_8 hM0, gP_9_8 hM0, gI_9_9 hM0, gP_9_9 hM0, gI_9_10 hM0, gP_9_10 hM0, gI_9_11 hM0, gP_9_11 hM0, gI_9_12 hM0, gP_9_12 hM0, gI_9_13 hM0, gP_9_13 hM0, gI_9_14 hM0, gP_9_14 hM0, gI_9_15 hM0, gP_9_15 hM0, gI_9_16 hM0, gP_9_16 hM0, gR_9_17 hM0, gR_9_18 hM0, gR_9_19 hM0, gR_9_20 hM0, gI_9_21 hM0, gP_9_21 hM0, gI_9_22 hM0, gP_9_22 hM0, gI_9_23 hM0, gP_9_23 hM0, gI_9_24 hM0, gP_9_24 hM0, gR_9_25 hM0, gI_9_26 hM0, gP_9_26 hM0, gI_9_27 hM0, gP_9_27 hM0, gI_9_28 hM0, gP_9_28 hM0, gL_9_29 hM0, gP_9_29 hM0, gL_9_30 hM0, gP_9_30 hM0, aI_w hM7, k6, iLE_f (show t < P a 1 by omega), m24, iEQ_t, aI_w hM9, z2, cI_s, cL_s, cF_s, cD_s, cA_s, cV_s, nI_add, cond_true, cond_false, if_true, if_false]
              rw [hmr]
              simp (disch := omega) only [cI_s, cL_s, cF_s, cD_s, cA_s, cV_s, nI_add, cond_true, cond_false, if_true, if_false]
            by_cases hv : v = 1
            · subst hv
              refine ⟨1, S1, M1, g1, dn1, by omega, ?_, ?_, PS1, hd1, fq, fz, fun z => absurd z (by omega)⟩
              · rw [hc, iEQ_t rfl, xret5_0]
              · rw [hm, QX11_runs_28]
                obtain ⟨_, _, _, _, _, k6', _, _, _⟩ := PS1.2.2.2.2.2.2.2.2.2.2.2.2.2.1 a (by omega)
                have k6' := k6' (by omega)
                have m24' := PS1.2.2.2.2.2.2.2.2.1
                simp (disch := omega) only [gO_9 hM0, gI_9_0 hM0, gP_9_0 hM0, gR_9_1 hM0, gR_9_2 hM0, gI_9_3 hM0, gP_9_3 hM0, gI_9_4 hM0, gP_9_4 hM0, gR_9_5 hM0, gR_9_6 hM0, gR_9_7 hM0, gI_9_8 hM0, gP_9_8 hM0, gI_9_9 hM0, gP_9_9 hM0, gI_9_10 hM0, gP_9_10 hM0, gI_9_11 hM0, gP_9_11 hM0, gI_9_12 hM0, gP_9_12 hM0, gI_9_13 hM0, gP_9_13 hM0, gI_9_14 hM0, gP_9_14 hM0, gI_9_15 hM0, gP_9_15 hM0, gI_9_16 hM0, gP_9_16 hM0, gR_9_17 hM0, gR_9_18 hM0, gR_9_19 hM0, gR_9_20 hM0, gI_9_21 hM0, gP_9_21 hM0, gI_9_22 hM0, gP_9_22 hM0, gI_9_23 hM0, gP_9_23 hM0, gI_9_24 hM0, gP_9_24 hM0, gR_9_25 hM0, gI_9_26 hM0, gP_9_26 hM0, gI_9_27 hM0, gP_9_27 hM0, gI_9_28 hM0, gP_9_28 hM0, gL_9_29 hM0, gP_9_29 hM0, gL_9_30 hM0, gP_9_30 hM0, aI_w hM7, k6', cI_s, cL_s, cF_s, cD_s, cA_s, cV_s, nI_add, cond_true, cond_false, if_true, if_false]
                by_cases c : P a 1 ≤ t + 1
                · rw [iLE_t c (by omega)]
                · rw [iLE_f (by omega) (by omega), m24', iEQ_f (by omega) (by omega) (by omega)]
            · have hv : v = 0 := by omega
              subst hv
              have s5' := PS1.2.2.2.2.2.2.1
              have hdn1 := PS1.2.2.2.2.2.2.2.2.2.1
              by_cases hsame : dn1 = dn
              · have hMM := heq rfl hsame
                subst hMM
                refine ⟨0, S1, M1, g1, dn1, by omega, ?_, ?_, PS1, hd1, fq, frZ_rf, fun _ _ => rfl⟩
                · rw [hc, iEQ_f (by omega) (by omega) (by omega), QX6_performRepeat_49]
                  simp (disch := omega) only [gO_6 b0, gR_6_0 b0, gR_6_1 b0, gR_6_2 b0, gR_6_3 b0, gI_6_4 b0, gP_6_4 b0, gI_6_5 b0, gP_6_5 b0, s5', iEQ_t hsame, xret5_1, cI_s, cL_s, cF_s, cD_s, cA_s, cV_s, nI_add, cond_true, cond_false, if_true, if_false]
                · have hstay : ∀ j t, t + j = P a 1 → qX11_runs_28 E (u + (r' + 1) + 8) y (nI b) (nI a) (nI t) (wW E y shM M1, m) = qX11_runs_65 E (u + (r' + 1) + 8) y (nI b) (nI a) (wW E y shM M1, m) := by
                    intro j
                    induction j with
                    | zero =>
                      intro t ht
                      rw [QX11_runs_28]
                      simp (disch := omega) only [gO_9 hM0, gI_9_0 hM0, gP_9_0 hM0, gR_9_1 hM0, gR_9_2 hM0, gI_9_3 hM0, gP_9_3 hM0, gI_9_4 hM0, gP_9_4 hM0, gR_9_5 hM0, gR_9_6 hM0, gR_9_7 hM0, gI_9_8 hM0, gP_9_8 hM0, gI_9_9 hM0, gP_9_9 hM0, gI_9_10 hM0, gP_9_10 hM0, gI_9_11 hM0, gP_9_11 hM0, gI_9_12 hM0, gP_9_12 hM0, gI_9_13 hM0, gP_9_13 hM0, gI_9_14 hM0, gP_9_14 hM0, gI_9_15 hM0, gP_9_15 hM0, gI_9_16 hM0, gP_9_16 hM0, gR_9_17 hM0, gR_9_18 hM0, gR_9_19 hM0, gR_9_20 hM0, gI_9_21 hM0, gP_9_21 hM0, gI_9_22 hM0, gP_9_22 hM0, gI_9_23 hM0, gP_9_23 hM0, gI_9_24 hM0, gP_9_24 hM0, gR_9_25 hM0, gI_9_26 hM0, gP_9_26 hM0, gI_9_27 hM0, gP_9_27 hM0, gI_9_28 hM0, gP_9_28 hM0, gL_9_29 hM0, gP_9_29 hM0, gL_9_30 hM0, gP_9_30 hM0, aI_w hM7, k6, iLE_t (show P a 1 ≤ t by omega), cI_s, cL_s, cF_s, cD_s, cA_s, cV_s, nI_add, cond_true, cond_false, if_true, if_false]
                    | succ j ihj =>
                      intro t ht
                      rw [QX11_runs_28]
                      simp (disch := omega) only [gO_9 hM0, gI_9_0 hM0, gP_9_0 hM0, gR_9_1 hM0, gR_9_2 hM0, gI_9_3 hM0, gP_9_3 hM0, gI_9_4 hM0, gP_9_4 hM0, gR_9_5 hM0, gR_9_6 hM0, gR_9_7 hM0, gI_9_8 hM0, gP_9_8 hM0, gI_9_9 hM0, gP_9_9 hM0, gI_9_10 hM0, gP_9_10 hM0, gI_9_11 hM0, gP_9_11 hM0, gI_9_12 hM0, gP_9_12 hM0, gI_9_13 hM0, gP_9_13 hM0, gI_9_14 hM0, gP_9_14 hM0, gI_9_15 hM0, gP_9_15 hM0, gI_9_16 hM0, gP_9_16 hM0, gR_9_17 hM0, gR_9_18 hM0, gR_9_19 hM0, gR_9_20 hM0, gI_9_21 hM0, gP_9_21 hM0, gI_9_22 hM0, gP_9_22 hM0, gI_9_23 hM0, gP_9_23 hM0, gI_9_24 hM0, gP_9_24 hM0, gR_9_25 hM0, gI_9_26 hM0, gP_9_26 hM0, gI_9_27 hM0, gP_9_27 hM0, gI_9_28 hM0, gP_9_28 hM0, gL_9_29 hM0, gP_9_29 hM0, gL_9_30 hM0, gP_9_30 hM0, aI_w hM7, k6, iLE_f (show t < P a 1 by omega), m24, iEQ_t, aI_w hM9, z2, cI_s, cL_s, cF_s, cD_s, cA_s, cV_s, nI_add, cond_true, cond_false, if_true, if_false]
                      rw [hmr]
                      simp (disch := omega) only [cI_s, cL_s, cF_s, cD_s, cA_s, cV_s, nI_add, cond_true, cond_false, if_true, if_false]
                      exact ihj (t + 1) (by omega)
                  exact hstay (j + 1) t ht
              · have hh := oR_fr fq fz hd1 (fun z => absurd z hsame) (ihj (t + 1) S1 M1 g1 dn1 (by omega) PS1)
                have ec : qX6_performRepeat_10 E (d + 2 * (r' + 1) + 6) (x + 6) (x + q) (nI a) (nI dep) (nI t) (wW E x sh S, n) = qX6_performRepeat_10 E (d + 2 * (r' + 1) + 6) (x + 6) (x + q) (nI a) (nI dep) (nI (t + 1)) (wW E x sh S1, n) := by
                  rw [hc, iEQ_f (by omega) (by omega) (by omega), QX6_performRepeat_49]
                  simp (disch := omega) only [gO_6 b0, gR_6_0 b0, gR_6_1 b0, gR_6_2 b0, gR_6_3 b0, gI_6_4 b0, gP_6_4 b0, gI_6_5 b0, gP_6_5 b0, s5', iEQ_f hsame, QX6_performRepeat_60, cI_s, cL_s, cF_s, cD_s, cA_s, cV_s, nI_add, cond_true, cond_false, if_true, if_false]
                rw [ec, hm]
                exact hh
        obtain ⟨v, S1, M1, g1, dn1, v1, e1, e2, PS1, hd1, fq, fz, heq⟩ := hloop (P a 1) 0 S M g dn (by omega) PS0
        obtain ⟨_, k2', _, _, k5', _, _, _, _⟩ := PS1.2.2.2.2.2.2.2.2.2.2.2.2.2.1 a (by omega)
        obtain ⟨z1', z2'⟩ := PS1.2.2.2.2.2.2.2.2.2.2.2.2.2.2 a (by omega) hK (by omega)
        have z1' : S1.2.1 (6 + 4) a = nI (P a 3) := z1'
        have hcr : xsem xT E (d + 2 * (r' + 1) + 7) kX6_performRepeat [.ref (x + 6), .ref (x + q), .int (nI a), .int (nI dep)] (wW E x sh S, n) = some (.inl (some (.int (nI (1 - v)))), (wW E x sh S1, n)) := by
          rw [eX6_performRepeat, QX6_performRepeat_0, iLT_t (show dep < 3 by omega) (by omega), QX6_performRepeat_7]
          exact e1
        have hcl : qX6_performRange_6 E (d + 2 * (r' + 1) + 7) (x + 6) (x + q) (nI b) (nI dep) (nI a) (nI i) (wW E x sh S, n) = qX6_performRange_63 E (d + 2 * (r' + 1) + 7) (x + 6) (x + q) (nI b) (nI dep) (nI a) (nI i) (nI 1) (nI (1 - v)) (wW E x sh S1, n) := by
          rw [QX6_performRange_6, iLE_f (show i < 60 by omega) (by omega), iLE_f hab (by omega)]
          simp (disch := omega) only [gO_6 b0, gR_6_0 b0, gR_6_1 b0, gR_6_2 b0, gR_6_3 b0, gI_6_4 b0, gP_6_4 b0, gI_6_5 b0, gP_6_5 b0, cI_s, cL_s, cF_s, cD_s, cA_s, cV_s, nI_add, cond_true, cond_false, if_true, if_false]
          rw [aQ_w b1 (by omega) (by omega) k2, bq_t H (by omega) (by omega), decide_eq_true (by omega), cond_true, QX6_performRange_37, iEQ_f (by omega) (by omega) (by omega)]
          simp (disch := omega) only [gO_6 b0, gR_6_0 b0, gR_6_1 b0, gR_6_2 b0, gR_6_3 b0, gI_6_4 b0, gP_6_4 b0, gI_6_5 b0, gP_6_5 b0, cI_s, cL_s, cF_s, cD_s, cA_s, cV_s, nI_add, cond_true, cond_false, if_true, if_false]
          rw [hcr]
          simp (disch := omega) only [cI_s, cL_s, cF_s, cD_s, cA_s, cV_s, nI_add, cond_true, cond_false, if_true, if_false]
        have hml : qX11_runs_2 E (u + (r' + 1) + 8) y (nI b) (nI a) (wW E y shM M, m) = qX11_runs_2 E (u + (r' + 1) + 8) y (nI b) (nI (P a 3)) (wW E y shM M1, m) := by
          rw [QX11_runs_2, iLE_f hab (by omega)]
          simp (disch := omega) only [gO_9 hM0, gI_9_0 hM0, gP_9_0 hM0, gR_9_1 hM0, gR_9_2 hM0, gI_9_3 hM0, gP_9_3 hM0, gI_9_4 hM0, gP_9_4 hM0, gR_9_5 hM0, gR_9_6 hM0, gR_9_7 hM0, gI_9_8 hM0, gP_9_8 hM0, gI_9_9 hM0, gP_9_9 hM0, gI_9_10 hM0, gP_9_10 hM0, gI_9_11 hM0, gP_9_11 hM0, gI_9_12 hM0, gP_9_12 hM0, gI_9_13 hM0, gP_9_13 hM0, gI_9_14 hM0, gP_9_14 hM0, gI_9_15 hM0, gP_9_15 hM0, gI_9_16 hM0, gP_9_16 hM0, gR_9_17 hM0, gR_9_18 hM0, gR_9_19 hM0, gR_9_20 hM0, gI_9_21 hM0, gP_9_21 hM0, gI_9_22 hM0, gP_9_22 hM0, gI_9_23 hM0, gP_9_23 hM0, gI_9_24 hM0, gP_9_24 hM0, gR_9_25 hM0, gI_9_26 hM0, gP_9_26 hM0, gI_9_27 hM0, gP_9_27 hM0, gI_9_28 hM0, gP_9_28 hM0, gL_9_29 hM0, gP_9_29 hM0, gL_9_30 hM0, gP_9_30 hM0, m24, iEQ_t, aI_w hM6, k5, iEQ_t hK, cI_s, cL_s, cF_s, cD_s, cA_s, cV_s, nI_add, cond_true, cond_false, if_true, if_false]
          rw [e2]
          dsimp only
          rw [QX11_runs_65]
          simp (disch := omega) only [gO_9 hM0, gI_9_0 hM0, gP_9_0 hM0, gR_9_1 hM0, gR_9_2 hM0, gI_9_3 hM0, gP_9_3 hM0, gI_9_4 hM0, gP_9_4 hM0, gR_9_5 hM0, gR_9_6 hM0, gR_9_7 hM0, gI_9_8 hM0, gP_9_8 hM0, gI_9_9 hM0, gP_9_9 hM0, gI_9_10 hM0, gP_9_10 hM0, gI_9_11 hM0, gP_9_11 hM0, gI_9_12 hM0, gP_9_12 hM0, gI_9_13 hM0, gP_9_13 hM0, gI_9_14 hM0, gP_9_14 hM0, gI_9_15 hM0, gP_9_15 hM0, gI_9_16 hM0, gP_9_16 hM0, gR_9_17 hM0, gR_9_18 hM0, gR_9_19 hM0, gR_9_20 hM0, gI_9_21 hM0, gP_9_21 hM0, gI_9_22 hM0, gP_9_22 hM0, gI_9_23 hM0, gP_9_23 hM0, gI_9_24 hM0, gP_9_24 hM0, gR_9_25 hM0, gI_9_26 hM0, gP_9_26 hM0, gI_9_27 hM0, gP_9_27 hM0, gI_9_28 hM0, gP_9_28 hM0, gL_9_29 hM0, gP_9_29 hM0, gL_9_30 hM0, gP_9_30 hM0, aI_w hM9, z2', cI_s, cL_s, cF_s, cD_s, cA_s, cV_s, nI_add, cond_true, cond_false, if_true, if_false]
        by_cases hv : v = 1
        · subst hv
          refine ⟨1, S1, M1, g1, dn1, by omega, ?_, ?_, PS1, hd1, fq, fz, fun z => absurd z (by omega)⟩
          · rw [hcl, QX6_performRange_63, iEQ_t rfl]
            rfl
          · rw [hml]
            exact m_over PS1.2.2.2.2.2.2.2.2.1 _ _ _
        · have hv : v = 0 := by omega
          subst hv
          have hh := oR_fr fq fz hd1 (fun z => heq rfl z) (ih (r' + 1) (P a 3) b (i + 1) S1 M1 g1 dn1 dep hr hrest hb (by omega) PS1)
          have ec : qX6_performRange_63 E (d + 2 * (r' + 1) + 7) (x + 6) (x + q) (nI b) (nI dep) (nI a) (nI i) (nI 1) (nI (1 - 0)) (wW E x sh S1, n) = qX6_performRange_6 E (d + 2 * (r' + 1) + 7) (x + 6) (x + q) (nI b) (nI dep) (nI (P a 3)) (nI (i + 1)) (wW E x sh S1, n) := by
            rw [QX6_performRange_63, iEQ_f (by omega) (by omega) (by omega), QX6_performRange_72, iEQ_f (by omega) (by omega) (by omega)]
            simp (disch := omega) only [gO_6 b0, gR_6_0 b0, gR_6_1 b0, gR_6_2 b0, gR_6_3 b0, gI_6_4 b0, gP_6_4 b0, gI_6_5 b0, gP_6_5 b0, aI_w b4, z1', QX6_performRange_91, cI_s, cL_s, cF_s, cD_s, cA_s, cV_s, nI_add, cond_true, cond_false, if_true, if_false]
          rw [hcl, ec, hml]
          exact hh
end RN
