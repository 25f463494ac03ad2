/-! THE REFERENCE AT A TOKEN. -/
def mQ (M : xSt) (tx : Nat → Nat) (L p : Nat) : Prop := M.1 0 11 = nI 0 ∧ M.1 0 12 = -1 ∧ ∃ a, mT M tx L a ∧ nx tx L a = p
def mX (M : xSt) (c : Int32) (p : Nat) : Prop := M.1 0 11 = c ∧ M.1 0 12 = nI p
def mP (M : xSt) (p : Nat) : xSt := sS M 0 10 (nI p)
/-- what reading one token changes -/
def frR (M M' : xSt) : Prop := (∀ k, k < 10 ∨ 15 ≤ k → M'.1 0 k = M.1 0 k) ∧ M'.2 = M.2
theorem frR_rf {M : xSt} : frR M M := ⟨fun _ _ => rfl, rfl⟩
theorem frR_tr {M M' M'' : xSt} (h : frR M M') (h' : frR M' M'') : frR M M'' := ⟨fun k hk => (h'.1 k hk).trans (h.1 k hk), h'.2.trans h.2⟩
theorem frR_S {M : xSt} {k : Nat} {v : Int32} (h : 10 ≤ k ∧ k < 15) : frR M (sS M 0 k v) := ⟨fun j hj => sS_n (by omega), rfl⟩
section MR
variable {E : xEn} {x n : Nat} {M : xSt} {L p : Nat} {tx : Nat → Nat}
theorem mQ_le (Q : mQ M tx L p) : p ≤ L ∧ L ≤ 500 ∧ nx tx L p = p ∧ ∀ i, i < L → tx i < 256 := by
  obtain ⟨_, _, a, h, rfl⟩ := Q
  exact ⟨nx_le h.2.2.2.1, h.2.1, nx_nx h.2.1 a, fun i hi => (h.2.2.2.2 i hi).2⟩
theorem mQ_o {k : Nat} {v : Int32} (Q : mQ M tx L p) (hk : k < 9 ∨ 13 ≤ k) : mQ (sS M 0 k v) tx L p := by
  obtain ⟨h1, h2, a, h3, h4⟩ := Q
  exact ⟨by rw [sS_n (by omega)]; exact h1, by rw [sS_n (by omega)]; exact h2, a, mT_o h3 (by omega) (by omega), h4⟩
theorem mQ_A {j : Nat} {f : Nat → Int32} (Q : mQ M tx L p) (hj : j ≠ 5) : mQ (sA M j f) tx L p := by
  obtain ⟨h1, h2, a, h3, h4⟩ := Q
  exact ⟨h1, h2, a, mT_A h3 hj, h4⟩
theorem mQ_at {b : Nat} (Q : mQ M tx L p) (hb : b ≤ L) : mQ (sS M 0 10 (nI b)) tx L (nx tx L b) := by
  obtain ⟨h1, h2, a, h3, h4⟩ := Q
  exact ⟨by rw [sS_n (by omega)]; exact h1, by rw [sS_n (by omega)]; exact h2, b, mT_at h3 hb, rfl⟩
theorem mQ_P (Q : mQ M tx L p) : mQ (mP M p) tx L p := by
  have h := mQ_le Q
  have := mQ_at (b := p) Q h.1
  rw [h.2.2.1] at this
  exact this
theorem mT_P (Q : mQ M tx L p) : mT (mP M p) tx L p := by
  have h := mQ_le Q
  obtain ⟨_, _, a, h3, _⟩ := Q
  exact mT_at h3 h.1
theorem mP_P : mP (mP M p) p = mP M p := sS_sS
theorem mP_10 : (mP M p).1 0 10 = nI p := sS_s
theorem frR_P : frR M (mP M p) := frR_S (by omega)
theorem t_here (Q : mQ M tx L p) (d : Nat) : xsem xT E (d + 1) kX11_here [.ref x] (wW E x shM M, n) = some (.inl (some (.int (hc tx L p))), (wW E x shM (mP M p), n)) := by
  obtain ⟨_, _, a, h3, rfl⟩ := Q
  exact m_here h3 d
theorem t_here' (Q : mQ M tx L p) (d : Nat) : xsem xT E (d + 1) kX11_here [.ref x] (wW E x shM (mP M p), n) = some (.inl (some (.int (hc tx L p))), (wW E x shM (mP M p), n)) := by
  rw [t_here (mQ_P Q), mP_P]
theorem t_fail (Q : mQ M tx L p) (c : Int32) (b d : Nat) : ∃ M', xsem xT E (d + 1) kX11_fails [.ref x, .int c, .int (nI b)] (wW E x shM M, n) = some (.inl (some (.int (nI 0))), (wW E x shM M', n)) ∧ mX M' c b ∧ frR M M' := by
  refine ⟨_, m_fails Q.1 c (nI b) d, ⟨?_, sS_s⟩, frR_tr (frR_S (by omega)) (frR_S (by omega))⟩
  rw [sS_n (by omega), sS_s]
theorem t_sign_t (Q : mQ M tx L p) {i : Nat} (hi : i < 10) (h3 : 3 ≤ i) (e : tk tx L p = i) (d : Nat) : ∃ M', xsem xT E (d + 2) kX11_sign [.ref x, .int (nI (sg i))] (wW E x shM M, n) = some (.inl (some (.int (nI 1))), (wW E x shM M', n)) ∧ mQ M' tx L (ad tx L p) ∧ frR M M' := by
  obtain ⟨_, hL, hx, ht⟩ := mQ_le Q
  obtain ⟨hp, hc⟩ := (tk_sg hL ht hi h3).1 e
  have hq := mQ_at (b := p + 1) Q (by omega)
  rw [sg_ad hp hi hc] at hq
  obtain ⟨_, _, a, hT, rfl⟩ := Q
  exact ⟨_, m_sign_t hT hp hc d, hq, frR_S (by omega)⟩
theorem t_sign_f (Q : mQ M tx L p) {i : Nat} (hi : i < 10) (h3 : 3 ≤ i) (e : tk tx L p ≠ i) (d : Nat) : ∃ M', xsem xT E (d + 2) kX11_sign [.ref x, .int (nI (sg i))] (wW E x shM M, n) = some (.inl (some (.int (nI 0))), (wW E x shM M', n)) ∧ mX M' (-2) p ∧ frR M M' := by
  obtain ⟨_, hL, hx, ht⟩ := mQ_le Q
  have hn : ¬ (p < L ∧ tx p = sg i) := fun z => e ((tk_sg hL ht hi h3).2 z)
  obtain ⟨h0, _, a, hT, rfl⟩ := Q
  exact ⟨_, m_sign_f hT h0 (sg_lt i hi).1 hn d, ⟨by rw [sS_n (by omega), sS_s], sS_s⟩, frR_tr (frR_tr (frR_S (by omega)) (frR_S (by omega))) (frR_S (by omega))⟩
theorem t_takes_t (H : hEn E x) (Q : mQ M tx L p) {j : Nat} (hj : j < 27) (h8 : 8 ≤ j) (e : tk tx L p = j + 2) (d : Nat) : ∃ M', xsem xT E (d + 5) kX11_takes [.ref x, .ref (E.2.1 j)] (wW E x shM M, n) = some (.inl (some (.int (nI 1))), (wW E x shM M', n)) ∧ mQ M' tx L (ad tx L p) ∧ frR M M' := by
  obtain ⟨_, hL, hx, ht⟩ := mQ_le Q
  obtain ⟨hp, hk, ha⟩ := wd_ad hL hx hj h8 e
  have hw := (tk_wd hL hx hj h8).1 e
  have hq := mQ_at (b := ru tx L 2 500 p) Q (ru_le 500 p (by omega))
  rw [ha] at hq
  obtain ⟨_, _, a, hT, rfl⟩ := Q
  exact ⟨_, (lm_takes hT H hj d).1 hw, hq, frR_S (by omega)⟩
theorem t_takes_f (H : hEn E x) (Q : mQ M tx L p) {j : Nat} (hj : j < 27) (h8 : 8 ≤ j) (e : tk tx L p ≠ j + 2) (d : Nat) : xsem xT E (d + 5) kX11_takes [.ref x, .ref (E.2.1 j)] (wW E x shM M, n) = some (.inl (some (.int (nI 0))), (wW E x shM (mP M p), n)) := by
  obtain ⟨_, hL, hx, ht⟩ := mQ_le Q
  have hw := fun z => e ((tk_wd hL hx hj h8).2 z)
  obtain ⟨_, _, a, hT, rfl⟩ := Q
  exact (lm_takes hT H hj d).2 hw
theorem t_digit {σ : xH} (hL : L ≤ 500) (ht : ∀ i, i < L → tx i < 256) (d : Nat) : xsem xT E (d + 1) kX11_isDigit [.int (hc tx L p)] σ = some (.inl (some (.int (nI (if tk tx L p = 1 then 1 else 0)))), σ) := by
  rw [m_isDigit ht]
  by_cases c : tk tx L p = 1
  · rw [if_pos c, if_pos ((tk_1 hL).1 c)]
  · rw [if_neg c, if_neg (fun z => c ((tk_1 hL).2 z))]
theorem t_reads_s (Q : mQ M tx L p) (lo hi : Int32) (e : tk tx L p ≠ 1) (d : Nat) : ∃ M', xsem xT E (d + 2) kX11_reads [.ref x, .int lo, .int hi] (wW E x shM M, n) = some (.inl (some (.int (nI 0))), (wW E x shM M', n)) ∧ mX M' (-2) p ∧ frR M M' := by
  obtain ⟨_, hL, hx, ht⟩ := mQ_le Q
  have hn : ¬ (p < L ∧ kd (tx p) = 1) := fun z => e ((tk_1 hL).2 z)
  obtain ⟨h0, _, a, hT, rfl⟩ := Q
  exact ⟨_, m_reads_s hT h0 lo hi hn d, ⟨by rw [sS_n (by omega), sS_s], sS_s⟩, frR_tr (frR_tr (frR_S (by omega)) (frR_S (by omega))) (frR_S (by omega))⟩
theorem t_reads_g (Q : mQ M tx L p) (lo hi : Int32) (e : tk tx L p = 1) (d : Nat) : ∃ M' v, xsem xT E (d + 2) kX11_reads [.ref x, .int lo, .int hi] (wW E x shM M, n) = qX11_reads_113 E (d + 1) x lo hi (wW E x shM M', n) ∧ mQ M' tx L (ad tx L p) ∧ M'.1 0 13 = nI v ∧ M'.1 0 14 = nI p ∧ frR M M' ∧ v ≤ 1000009 ∧ (nu tx L p < 10000 → v = nu tx L p) ∧ (nu tx L p = 10000 → 10000 ≤ v) := by
  obtain ⟨_, hL, hx, ht⟩ := mQ_le Q
  obtain ⟨hp, hk⟩ := (tk_1 hL).1 e
  obtain ⟨h0, h1, a, hT, rfl⟩ := Q
  obtain ⟨M', e1, e2, e3, e4, e5, e6, e7⟩ := m_reads_g (E := E) (x := x) (n := n) hT lo hi hp hk d
  refine ⟨M', _, e1, ⟨by rw [e5 11 (by omega) (by omega) (by omega)]; exact h0, by rw [e5 12 (by omega) (by omega) (by omega)]; exact h1, _, e2, ?_⟩, e3, e4, ⟨fun k hk => e5 k (by omega) (by omega) (by omega), e7⟩, nM_nu hT hp hk⟩
  unfold ad
  rw [if_pos hp]
theorem t_reads_r (Q : mQ M tx L p) {lo hi : Nat} (hlo : lo ≤ 9999) (hhi : hi ≤ 9999) (e : tk tx L p = 1) (hr : ¬ (lo ≤ nu tx L p ∧ nu tx L p ≤ hi)) (d : Nat) : ∃ M', xsem xT E (d + 2) kX11_reads [.ref x, .int (nI lo), .int (nI hi)] (wW E x shM M, n) = some (.inl (some (.int (nI 0))), (wW E x shM M', n)) ∧ mX M' (-3) p ∧ frR M M' := by
  obtain ⟨M1, v, e1, Q1, e3, e4, f1, v1, v2, v3⟩ := t_reads_g (E := E) (x := x) (n := n) Q (nI lo) (nI hi) e d
  obtain ⟨M2, e5, X2, f2⟩ := t_fail (E := E) (x := x) (n := n) Q1 (-3) p d
  refine ⟨M2, ?_, X2, frR_tr f1 f2⟩
  have hn := nu_lt (tx := tx) (L := L) (p := p)
  have hv : ¬ (nI lo ≤ nI v ∧ nI v ≤ nI hi) := by
    rintro ⟨a, b⟩
    by_cases c : v < lo
    · exact nI_ge c (by omega) a
    · by_cases c2 : hi < v
      · exact nI_ge c2 (by omega) b
      · omega
  rw [e1, QX11_reads_113]
  simp (disch := omega) only [gO_9 hM0, gI_9_0 hM0, gP_9_0 hM0, gR_9_1 hM0, gR_9_2 hM0, gI_9_3 hM0, gP_9_3 hM0, gI_9_4 hM0, gP_9_4 hM0, gR_9_5 hM0, gR_9_6 hM0, gR_9_7 hM0, gI_9_8 hM0, gP_9_8 hM0, gI_9_9 hM0, gP_9_9 hM0, gI_9_10 hM0, gP_9_10 hM0, gI_9_11 hM0, gP_9_11 hM0, gI_9_12 hM0, gP_9_12 hM0, gI_9_13 hM0, gP_9_13 hM0, gI_9_14 hM0, gP_9_14 hM0, gI_9_15 hM0, gP_9_15 hM0, gI_9_16 hM0, gP_9_16 hM0, gR_9_17 hM0, gR_9_18 hM0, gR_9_19 hM0, gR_9_20 hM0, gI_9_21 hM0, gP_9_21 hM0, gI_9_22 hM0, gP_9_22 hM0, gI_9_23 hM0, gP_9_23 hM0, gI_9_24 hM0, gP_9_24 hM0, gR_9_25 hM0, gI_9_26 hM0, gP_9_26 hM0, gI_9_27 hM0, gP_9_27 hM0, gI_9_28 hM0, gP_9_28 hM0, gL_9_29 hM0, gP_9_29 hM0, gL_9_30 hM0, gP_9_30 hM0, e3, m_isIn, if_neg hv, iEQ_t, e4, cI_s, cL_s, cF_s, cD_s, cA_s, cV_s, nI_add, cond_true, cond_false, if_true, if_false]
  rw [e5]
  simp (disch := omega) only [iEQ_t, QX11_reads_142, QX11_reads_143, xret5_0, cI_s, cL_s, cF_s, cD_s, cA_s, cV_s, nI_add, cond_true, cond_false, if_true, if_false]
theorem t_reads_t (Q : mQ M tx L p) {lo hi : Nat} (hlo : lo ≤ 9999) (hhi : hi ≤ 9999) (e : tk tx L p = 1) (h1 : lo ≤ nu tx L p) (h2 : nu tx L p ≤ hi) (d : Nat) : ∃ M', xsem xT E (d + 2) kX11_reads [.ref x, .int (nI lo), .int (nI hi)] (wW E x shM M, n) = some (.inl (some (.int (nI 1))), (wW E x shM M', n)) ∧ mQ M' tx L (ad tx L p) ∧ M'.1 0 13 = nI (nu tx L p) ∧ M'.1 0 14 = nI p ∧ frR M M' := by
  obtain ⟨M1, v, e1, Q1, e3, e4, f1, v1, v2, v3⟩ := t_reads_g (E := E) (x := x) (n := n) Q (nI lo) (nI hi) e d
  have v2 := v2 (by omega)
  subst v2
  refine ⟨M1, ?_, Q1, e3, e4, f1⟩
  have hv : nI lo ≤ nI (nu tx L p) ∧ nI (nu tx L p) ≤ nI hi := ⟨nI_le h1 (by omega), nI_le h2 (by omega)⟩
  rw [e1, QX11_reads_113]
  simp (disch := omega) only [gO_9 hM0, gI_9_0 hM0, gP_9_0 hM0, gR_9_1 hM0, gR_9_2 hM0, gI_9_3 hM0, gP_9_3 hM0, gI_9_4 hM0, gP_9_4 hM0, gR_9_5 hM0, gR_9_6 hM0, gR_9_7 hM0, gI_9_8 hM0, gP_9_8 hM0, gI_9_9 hM0, gP_9_9 hM0, gI_9_10 hM0, gP_9_10 hM0, gI_9_11 hM0, gP_9_11 hM0, gI_9_12 hM0, gP_9_12 hM0, gI_9_13 hM0, gP_9_13 hM0, gI_9_14 hM0, gP_9_14 hM0, gI_9_15 hM0, gP_9_15 hM0, gI_9_16 hM0, gP_9_16 hM0, gR_9_17 hM0, gR_9_18 hM0, gR_9_19 hM0, gR_9_20 hM0, gI_9_21 hM0, gP_9_21 hM0, gI_9_22 hM0, gP_9_22 hM0, gI_9_23 hM0, gP_9_23 hM0, gI_9_24 hM0, gP_9_24 hM0, gR_9_25 hM0, gI_9_26 hM0, gP_9_26 hM0, gI_9_27 hM0, gP_9_27 hM0, gI_9_28 hM0, gP_9_28 hM0, gL_9_29 hM0, gP_9_29 hM0, gL_9_30 hM0, gP_9_30 hM0, e3, m_isIn, if_pos hv, iEQ_f, QX11_reads_138, QX11_reads_143, xret5_1, cI_s, cL_s, cF_s, cD_s, cA_s, cV_s, nI_add, cond_true, cond_false, if_true, if_false]
/-- the reference's codes -/
def rd (M : xSt) (g : Nat → Nat) : Prop := ∀ k, k < 1100 → M.2.1 2 k = nI (g k)
theorem rd_up {g : Nat → Nat} {k v : Nat} {f : Nat → Int32} (h : ∀ k, k < 1100 → f k = nI (g k)) : ∀ j, j < 1100 → upd f k (nI v) j = nI (updN g k v j) := by
  intro j hj
  unfold upd updN
  by_cases e : j = k
  · simp [e]
  · simp [e, h j hj]
def gEm (g : Nat → Nat) (op v : Nat) : Nat → Nat := updN (updN (updN g (61 + 2 * g 11) op) (61 + 2 * g 11 + 1) v) 11 (g 11 + 1)
theorem t_emits {g : Nat → Nat} (R : rd M g) (h11 : g 11 < 500) (op v d : Nat) : ∃ f, xsem xT E (d + 1) kX11_emits [.ref x, .int (nI op), .int (nI v)] (wW E x shM M, n) = some (.inl none, (wW E x shM (sA M 2 f), n)) ∧ ∀ k, k < 1100 → f k = nI (gEm g op v k) := by
  have R1 : ∀ k, k < 1100 → M.2.1 2 k = nI (g k) := R
  have R2 := rd_up (k := 61 + 2 * g 11) (v := op) R1
  have R3 := rd_up (k := 61 + 2 * g 11 + 1) (v := v) R2
  have e11 : updN (updN g (61 + 2 * g 11) op) (61 + 2 * g 11 + 1) v 11 = g 11 := by
    rw [updN_n (by omega), updN_n (by omega)]
  refine ⟨upd (upd (upd (M.2.1 2) (61 + 2 * g 11) (nI op)) (61 + 2 * g 11 + 1) (nI v)) 11 (nI (g 11 + 1)), ?_, rd_up R3⟩
  rw [eX11_emits, QX11_emits_0]
  simp (disch := omega) only [gO_9 hM0, gI_9_0 hM0, gP_9_0 hM0, gR_9_1 hM0, gR_9_2 hM0, gI_9_3 hM0, gP_9_3 hM0, gI_9_4 hM0, gP_9_4 hM0, gR_9_5 hM0, gR_9_6 hM0, gR_9_7 hM0, gI_9_8 hM0, gP_9_8 hM0, gI_9_9 hM0, gP_9_9 hM0, gI_9_10 hM0, gP_9_10 hM0, gI_9_11 hM0, gP_9_11 hM0, gI_9_12 hM0, gP_9_12 hM0, gI_9_13 hM0, gP_9_13 hM0, gI_9_14 hM0, gP_9_14 hM0, gI_9_15 hM0, gP_9_15 hM0, gI_9_16 hM0, gP_9_16 hM0, gR_9_17 hM0, gR_9_18 hM0, gR_9_19 hM0, gR_9_20 hM0, gI_9_21 hM0, gP_9_21 hM0, gI_9_22 hM0, gP_9_22 hM0, gI_9_23 hM0, gP_9_23 hM0, gI_9_24 hM0, gP_9_24 hM0, gR_9_25 hM0, gI_9_26 hM0, gP_9_26 hM0, gI_9_27 hM0, gP_9_27 hM0, gI_9_28 hM0, gP_9_28 hM0, gL_9_29 hM0, gP_9_29 hM0, gL_9_30 hM0, gP_9_30 hM0, aI_w hM2, R1, pk_mul, sI_w hM2, sA_s, sA_sA, R3, e11, cI_s, cL_s, cF_s, cD_s, cA_s, cV_s, nI_add, cond_true, cond_false, if_true, if_false]
end MR
