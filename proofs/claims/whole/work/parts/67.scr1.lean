/-! A SCRIPT'S COMMANDS, read on both sides. -/
def updP (P : Nat → Nat → Nat) (k : Nat) (v : Nat → Nat) : Nat → Nat → Nat := fun j => if j = k then v else P j
def ent (K a b z : Nat) : Nat → Nat := fun i => if i = 0 then K else if i = 1 then a else if i = 2 then b else z
theorem updP_s {P : Nat → Nat → Nat} {k : Nat} {v : Nat → Nat} : updP P k v k = v := if_pos rfl
theorem updP_n {P : Nat → Nat → Nat} {k j : Nat} {v : Nat → Nat} (h : j ≠ k) : updP P k v j = P j := if_neg h
/-- the program as far as it is read: kind, first, second number, and where a repeat ends (0: not yet told) -/
def pC (S M : xSt) (N : Nat) (P : Nat → Nat → Nat) : Prop := S.1 6 4 = nI N ∧ M.1 0 21 = nI N ∧ N ≤ 60 ∧ (∀ k, k < N → P k 0 ≤ 6 ∧ S.2.2.2.2 7 k = some (22 + P k 0) ∧ S.2.1 8 k = nI (P k 1) ∧ S.2.1 9 k = nI (P k 2) ∧ M.2.1 6 k = nI (P k 0) ∧ (P k 0 ≠ 2 → M.2.1 7 k = nI (P k 1)) ∧ (P k 0 ≤ 1 → M.2.1 8 k = nI (P k 2)) ∧ P k 1 ≤ 9999 ∧ P k 2 ≤ 9999) ∧ (∀ k, k < N → P k 0 = 6 → P k 3 ≠ 0 → S.2.1 10 k = nI (P k 3) ∧ M.2.1 9 k = nI (P k 3))
def RC (S M : xSt) (tx : Nat → Nat) (L p N dep : Nat) (P : Nat → Nat → Nat) : Prop := cQ S tx L p ∧ mQ M tx L p ∧ pC S M N P ∧ M.1 0 22 = nI dep
def frW (S S' : xSt) : Prop := (∀ j, j ≠ 1 → j ≠ 6 → S'.1 j = S.1 j) ∧ (∀ k, k < 7 ∨ 9 < k → S'.1 1 k = S.1 1 k) ∧ S'.1 6 5 = S.1 6 5 ∧ (∀ j, j ≠ 1 → (j < 8 ∨ 10 < j) → S'.2.1 j = S.2.1 j) ∧ (∀ j, j ≠ 7 → S'.2.2.2.2 j = S.2.2.2.2 j)
def frV (M M' : xSt) : Prop := (∀ k, k < 10 ∨ (15 ≤ k ∧ k ≠ 21 ∧ k ≠ 22) → M'.1 0 k = M.1 0 k) ∧ (∀ j, (j < 6 ∨ 9 < j) → M'.2.1 j = M.2.1 j) ∧ M'.2.2 = M.2.2
theorem frW_rf {S : xSt} : frW S S := ⟨fun _ _ _ => rfl, fun _ _ => rfl, rfl, fun _ _ _ => rfl, fun _ _ => rfl⟩
theorem frW_tr {S S1 S2 : xSt} (h : frW S S1) (h' : frW S1 S2) : frW S S2 := ⟨fun j a b => (h'.1 j a b).trans (h.1 j a b), fun j hj => (h'.2.1 j hj).trans (h.2.1 j hj), h'.2.2.1.trans h.2.2.1, fun j a b => (h'.2.2.2.1 j a b).trans (h.2.2.2.1 j a b), fun j a => (h'.2.2.2.2 j a).trans (h.2.2.2.2 j a)⟩
theorem frW_I {S S' : xSt} (h : frI S S') : frW S S' := ⟨fun j a _ => h.1 j a, h.2.1, congrFun (h.1 6 (by omega)) 5, fun j a _ => h.2.2.1 j a, fun j _ => by rw [h.2.2.2]⟩
theorem frV_rf {M : xSt} : frV M M := ⟨fun _ _ => rfl, fun _ _ => rfl, rfl⟩
theorem frV_tr {M M1 M2 : xSt} (h : frV M M1) (h' : frV M1 M2) : frV M M2 := ⟨fun j a => (h'.1 j a).trans (h.1 j a), fun j hj => (h'.2.1 j hj).trans (h.2.1 j hj), h'.2.2.trans h.2.2⟩
theorem frV_R {M M' : xSt} (h : frR M M') : frV M M' := ⟨fun k hk => h.1 k (by omega), fun j _ => by rw [h.2], by rw [h.2]⟩
theorem frV_S {M : xSt} {k : Nat} {v : Int32} (h : (10 ≤ k ∧ k < 15) ∨ k = 21 ∨ k = 22) : frV M (sS M 0 k v) := ⟨fun j hj => sS_n (by omega), fun _ _ => rfl, rfl⟩
theorem frV_A {M : xSt} {j : Nat} {f : Nat → Int32} (h : 6 ≤ j ∧ j ≤ 9) : frV M (sA M j f) := ⟨fun _ _ => rfl, fun i hi => sA_n (by omega), rfl⟩
theorem pC_I {S S' M M' : xSt} {N : Nat} {P : Nat → Nat → Nat} (h : pC S M N P) (f : frI S S') (f' : frR M M') : pC S' M' N P := by
  obtain ⟨h1, h2, h3, h4, h5⟩ := h
  have e1 : S'.1 6 = S.1 6 := f.1 6 (by omega)
  refine ⟨by rw [e1]; exact h1, (f'.1 21 (by omega)).trans h2, h3, fun k hk => ?_, fun k hk => ?_⟩
  · rw [f.2.2.2, f.2.2.1 8 (by omega), f.2.2.1 9 (by omega), f'.2]
    exact h4 k hk
  · rw [f.2.2.1 10 (by omega), f'.2]
    exact h5 k hk
theorem RC_I {S S' M M' : xSt} {tx : Nat → Nat} {L p p' N dep : Nat} {P : Nat → Nat → Nat} (R : RC S M tx L p N dep P) (f : frI S S') (f' : frR M M') (Q : cQ S' tx L p') (K : mQ M' tx L p') : RC S' M' tx L p' N dep P :=
  ⟨Q, K, pC_I R.2.2.1 f f', (f'.1 22 (by omega)).trans R.2.2.2⟩
/-- one more command -/
theorem pC_put {S S' M M' : xSt} {N K a b : Nat} {P : Nat → Nat → Nat} (h : pC S M N P) (hN : N < 60) (hK : K ≤ 6) (ha : a ≤ 9999) (hb : b ≤ 9999) (s4 : S'.1 6 4 = nI (N + 1)) (s7 : S'.2.2.2.2 7 = fun j => if j = N then some (22 + K) else S.2.2.2.2 7 j) (s8 : S'.2.1 8 = upd (S.2.1 8) N (nI a)) (s9 : S'.2.1 9 = upd (S.2.1 9) N (nI b)) (s10 : S'.2.1 10 = S.2.1 10) (m21 : M'.1 0 21 = nI (N + 1)) (m6 : M'.2.1 6 = upd (M.2.1 6) N (nI K)) (m7 : ∀ k, k ≠ N → M'.2.1 7 k = M.2.1 7 k) (m7' : K ≠ 2 → M'.2.1 7 N = nI a) (m8 : ∀ k, k ≠ N → M'.2.1 8 k = M.2.1 8 k) (m8' : K ≤ 1 → M'.2.1 8 N = nI b) (m9 : M'.2.1 9 = M.2.1 9) : pC S' M' (N + 1) (updP P N (ent K a b 0)) := by
  obtain ⟨h1, h2, h3, h4, h5⟩ := h
  refine ⟨s4, m21, by omega, fun k hk => ?_, fun k hk => ?_⟩
  · rw [s7, s8, s9, m6]
    by_cases e : k = N
    · subst e
      rw [updP_s, pk_us, pk_us, pk_us]
      exact ⟨hK, if_pos rfl, rfl, rfl, rfl, m7', m8', ha, hb⟩
    · rw [updP_n e, pk_un e, pk_un e, pk_un e, m7 k e, m8 k e]
      have := h4 k (by omega)
      exact ⟨this.1, (if_neg e).trans this.2.1, this.2.2⟩
  · rw [s10, m9]
    by_cases e : k = N
    · subst e
      rw [updP_s]
      exact fun _ z => absurd rfl z
    · rw [updP_n e]
      exact h5 k (by omega)
def hS6 (sh : Nat → Option xSh) : Prop := sh 6 = some (sh6 6) ∧ sh 7 = some (4, 60, []) ∧ sh 8 = some (1, 60, []) ∧ sh 9 = some (1, 60, []) ∧ sh 10 = some (1, 60, [])
def nbO (K : Nat) : Nat := if K ≤ 1 then 2 else if K = 2 then 0 else 1
section SC1
variable {E : xEn} {x y n m : Nat} {sh : Nat → Option xSh} {S M : xSt} {L p N dep : Nat} {tx : Nat → Nat} {P : Nat → Nat → Nat}
theorem c_nb (H : hEn E x) {K : Nat} (hK : K ≤ 6) {σ : xH} (d : Nat) : xsem xT E (d + 1) kX6_numbersOf [.ref (E.1 (22 + K))] σ = some (.inl (some (.int (nI (nbO K)))), σ) := by
  have hc : K = 0 ∨ K = 1 ∨ K = 2 ∨ K = 3 ∨ K = 4 ∨ K = 5 ∨ K = 6 := by omega
  rw [eX6_numbersOf, QX6_numbersOf_0, bq_t H (by omega) (by omega), bq_t H (by omega) (by omega), QX6_numbersOf_16, bq_t H (by omega) (by omega), bq_t H (by omega) (by omega), bq_t H (by omega) (by omega), bq_t H (by omega) (by omega), QX6_numbersOf_46, bq_t H (by omega) (by omega), QX6_numbersOf_58, QX6_numbersOf_14, QX6_numbersOf_44]
  rcases hc with h | h | h | h | h | h | h <;> subst h <;> rfl
theorem c_nb_n (H : hEn E x) {t : Nat} (ht : t < 22) {σ : xH} (d : Nat) : xsem xT E (d + 1) kX6_numbersOf [.ref (E.1 t)] σ = some (.inl (some (.int (-1))), σ) := by
  rw [eX6_numbersOf, QX6_numbersOf_0, bq_t H (by omega) (by omega), bq_t H (by omega) (by omega), QX6_numbersOf_16, bq_t H (by omega) (by omega), bq_t H (by omega) (by omega), bq_t H (by omega) (by omega), bq_t H (by omega) (by omega), QX6_numbersOf_46, bq_t H (by omega) (by omega), QX6_numbersOf_57, QX6_numbersOf_58]
  rw [decide_eq_false (show ¬ t = 22 by omega), decide_eq_false (show ¬ t = 23 by omega), decide_eq_false (show ¬ t = 24 by omega), decide_eq_false (show ¬ t = 25 by omega), decide_eq_false (show ¬ t = 26 by omega), decide_eq_false (show ¬ t = 27 by omega), decide_eq_false (show ¬ t = 28 by omega)]
  simp (disch := omega) only [QX6_numbersOf_58, cI_s, cL_s, cF_s, cD_s, cA_s, cV_s, nI_add, cond_true, cond_false, if_true, if_false]
/-- behind a put of the class -/
def cP (S : xSt) (N t a b : Nat) : xSt := sS (sA (sA (sT S 7 (fun j => if j = N then some t else S.2.2.2.2 7 j)) 8 (upd (S.2.1 8) N (nI a))) 9 (upd (S.2.1 9) N (nI b))) 6 4 (nI (N + 1))
theorem c_put (h6 : hS6 sh) (hn : S.1 6 4 = nI N) (hN : N < 60) {t : Nat} (ht : t < 29) (a b d : Nat) : xsem xT E (d + 1) kX6_put [.ref (x + 6), .ref (E.1 t), .int (nI a), .int (nI b)] (wW E x sh S, n) = some (.inl none, (wW E x sh (cP S N t a b), n)) := by
  obtain ⟨b0, b1, b2, b3, b4⟩ := h6
  have b1 : sh (6 + 1) = some (4, 60, []) := b1
  have b2 : sh (6 + 2) = some (1, 60, []) := b2
  have b3 : sh (6 + 3) = some (1, 60, []) := b3
  have e1 : ∀ f, (sT S (6 + 1) f).1 = S.1 := fun _ => rfl
  have e2 : ∀ f, (sT S (6 + 1) f).2.1 = S.2.1 := fun _ => rfl
  rw [eX6_put, QX6_put_0]
  simp (disch := omega) only [gO_6 b0, gR_6_0 b0, gR_6_1 b0, gR_6_2 b0, gR_6_3 b0, gI_6_4 b0, gP_6_4 b0, gI_6_5 b0, gP_6_5 b0, hn, aN_w b1, iLE_f, sQ_w b1, e1, e2, sI_w b2, sI_w b3, sA_1, sA_n, QX6_put_52, cI_s, cL_s, cF_s, cD_s, cA_s, cV_s, nI_add, cond_true, cond_false, if_true, if_false]
  rfl
theorem frW_P {t a b : Nat} : frW S (cP S N t a b) := by
  unfold cP
  refine ⟨fun j a b => funext fun k => sS_nq b, fun k hk => sS_nq (by omega), sS_n (by omega), fun j a b => ?_, fun j hj => ?_⟩
  · rw [sS_a, sA_n (by omega), sA_n (by omega)]; rfl
  · exact if_neg hj
theorem cQ_P {t a b : Nat} (Q : cQ S tx L p) : cQ (cP S N t a b) tx L p :=
  cQ_fr Q (by unfold cP; funext k; exact sS_nq (by omega)) (frW_P.2.2.2.1 4 (by omega) (by omega)) (frW_P.2.2.2.1 5 (by omega) (by omega)) (frW_P.2.2.2.2 3 (by omega))
theorem cP_4 {t a b : Nat} : (cP S N t a b).1 6 4 = nI (N + 1) := sS_s
theorem cP_7 {t a b : Nat} : (cP S N t a b).2.2.2.2 7 = fun j => if j = N then some t else S.2.2.2.2 7 j := by
  unfold cP
  exact sT_s _
theorem cP_8 {t a b : Nat} : (cP S N t a b).2.1 8 = upd (S.2.1 8) N (nI a) := by
  unfold cP
  rw [sS_a, sA_n (by omega), sA_s]
theorem cP_9 {t a b : Nat} : (cP S N t a b).2.1 9 = upd (S.2.1 9) N (nI b) := by
  unfold cP
  rw [sS_a, sA_s]
theorem cP_10 {t a b : Nat} : (cP S N t a b).2.1 10 = S.2.1 10 := by
  unfold cP
  rw [sS_a, sA_n (by omega), sA_n (by omega)]
  rfl
theorem m_kind (H : hEn E y) (K : mQ M tx L p) {k : Nat} (hk : k ≤ 6) (e : tk tx L p = 22 + k) (u : Nat) : ∃ M1, xsem xT E (u + 6) kX11_kindHere [.ref y] (wW E y shM (mP M p), m) = some (.inl (some (.int (nI k))), (wW E y shM M1, m)) ∧ mQ M1 tx L (ad tx L p) ∧ frR M M1 := by
  have K' := mQ_P K
  have f20 : tk tx L p ≠ 20 + 2 → xsem xT E (u + 5) kX11_takes [.ref y, .ref (E.2.1 20)] (wW E y shM (mP M p), m) = some (.inl (some (.int (nI 0))), (wW E y shM (mP M p), m)) := fun z => by rw [t_takes_f H K' (by omega) (by omega) z u, mP_P]
  have f21 : tk tx L p ≠ 21 + 2 → xsem xT E (u + 5) kX11_takes [.ref y, .ref (E.2.1 21)] (wW E y shM (mP M p), m) = some (.inl (some (.int (nI 0))), (wW E y shM (mP M p), m)) := fun z => by rw [t_takes_f H K' (by omega) (by omega) z u, mP_P]
  have f22 : tk tx L p ≠ 22 + 2 → xsem xT E (u + 5) kX11_takes [.ref y, .ref (E.2.1 22)] (wW E y shM (mP M p), m) = some (.inl (some (.int (nI 0))), (wW E y shM (mP M p), m)) := fun z => by rw [t_takes_f H K' (by omega) (by omega) z u, mP_P]
  have f23 : tk tx L p ≠ 23 + 2 → xsem xT E (u + 5) kX11_takes [.ref y, .ref (E.2.1 23)] (wW E y shM (mP M p), m) = some (.inl (some (.int (nI 0))), (wW E y shM (mP M p), m)) := fun z => by rw [t_takes_f H K' (by omega) (by omega) z u, mP_P]
  have f24 : tk tx L p ≠ 24 + 2 → xsem xT E (u + 5) kX11_takes [.ref y, .ref (E.2.1 24)] (wW E y shM (mP M p), m) = some (.inl (some (.int (nI 0))), (wW E y shM (mP M p), m)) := fun z => by rw [t_takes_f H K' (by omega) (by omega) z u, mP_P]
  have f25 : tk tx L p ≠ 25 + 2 → xsem xT E (u + 5) kX11_takes [.ref y, .ref (E.2.1 25)] (wW E y shM (mP M p), m) = some (.inl (some (.int (nI 0))), (wW E y shM (mP M p), m)) := fun z => by rw [t_takes_f H K' (by omega) (by omega) z u, mP_P]
  have hc : k = 0 ∨ k = 1 ∨ k = 2 ∨ k = 3 ∨ k = 4 ∨ k = 5 ∨ k = 6 := by omega
  rcases hc with h | h | h | h | h | h | h <;> subst h
  · obtain ⟨M1, e1, e2, e3⟩ := t_takes_t (E := E) (x := y) (n := m) (j := 20) H K' (by omega) (by omega) (by omega) u
    refine ⟨M1, ?_, e2, frR_tr frR_P e3⟩
    rw [eX11_kindHere, QX11_kindHere_0]
    simp (disch := omega) only [gO_9 hM0, gI_9_0 hM0, gP_9_0 hM0, gR_9_1 hM0, gR_9_2 hM0, gI_9_3 hM0, gP_9_3 hM0, gI_9_4 hM0, gP_9_4 hM0, gR_9_5 hM0, gR_9_6 hM0, gR_9_7 hM0, gI_9_8 hM0, gP_9_8 hM0, gI_9_9 hM0, gP_9_9 hM0, gI_9_10 hM0, gP_9_10 hM0, gI_9_11 hM0, gP_9_11 hM0, gI_9_12 hM0, gP_9_12 hM0, gI_9_13 hM0, gP_9_13 hM0, gI_9_14 hM0, gP_9_14 hM0, gI_9_15 hM0, gP_9_15 hM0, gI_9_16 hM0, gP_9_16 hM0, gR_9_17 hM0, gR_9_18 hM0, gR_9_19 hM0, gR_9_20 hM0, gI_9_21 hM0, gP_9_21 hM0, gI_9_22 hM0, gP_9_22 hM0, gI_9_23 hM0, gP_9_23 hM0, gI_9_24 hM0, gP_9_24 hM0, gR_9_25 hM0, gI_9_26 hM0, gP_9_26 hM0, gI_9_27 hM0, gP_9_27 hM0, gI_9_28 hM0, gP_9_28 hM0, gL_9_29 hM0, gP_9_29 hM0, gL_9_30 hM0, gP_9_30 hM0, cI_s, cL_s, cF_s, cD_s, cA_s, cV_s, nI_add, cond_true, cond_false, if_true, if_false]
    rw [e1]
    simp (disch := omega) only [iEQ_f, QX11_kindHere_100, cI_s, cL_s, cF_s, cD_s, cA_s, cV_s, nI_add, cond_true, cond_false, if_true, if_false]
  · obtain ⟨M1, e1, e2, e3⟩ := t_takes_t (E := E) (x := y) (n := m) (j := 21) H K' (by omega) (by omega) (by omega) u
    refine ⟨M1, ?_, e2, frR_tr frR_P e3⟩
    rw [eX11_kindHere, QX11_kindHere_0]
    simp (disch := omega) only [gO_9 hM0, gI_9_0 hM0, gP_9_0 hM0, gR_9_1 hM0, gR_9_2 hM0, gI_9_3 hM0, gP_9_3 hM0, gI_9_4 hM0, gP_9_4 hM0, gR_9_5 hM0, gR_9_6 hM0, gR_9_7 hM0, gI_9_8 hM0, gP_9_8 hM0, gI_9_9 hM0, gP_9_9 hM0, gI_9_10 hM0, gP_9_10 hM0, gI_9_11 hM0, gP_9_11 hM0, gI_9_12 hM0, gP_9_12 hM0, gI_9_13 hM0, gP_9_13 hM0, gI_9_14 hM0, gP_9_14 hM0, gI_9_15 hM0, gP_9_15 hM0, gI_9_16 hM0, gP_9_16 hM0, gR_9_17 hM0, gR_9_18 hM0, gR_9_19 hM0, gR_9_20 hM0, gI_9_21 hM0, gP_9_21 hM0, gI_9_22 hM0, gP_9_22 hM0, gI_9_23 hM0, gP_9_23 hM0, gI_9_24 hM0, gP_9_24 hM0, gR_9_25 hM0, gI_9_26 hM0, gP_9_26 hM0, gI_9_27 hM0, gP_9_27 hM0, gI_9_28 hM0, gP_9_28 hM0, gL_9_29 hM0, gP_9_29 hM0, gL_9_30 hM0, gP_9_30 hM0, cI_s, cL_s, cF_s, cD_s, cA_s, cV_s, nI_add, cond_true, cond_false, if_true, if_false]
    rw [f20 (by omega)]
    simp (disch := omega) only [iEQ_t, QX11_kindHere_14, gO_9 hM0, gI_9_0 hM0, gP_9_0 hM0, gR_9_1 hM0, gR_9_2 hM0, gI_9_3 hM0, gP_9_3 hM0, gI_9_4 hM0, gP_9_4 hM0, gR_9_5 hM0, gR_9_6 hM0, gR_9_7 hM0, gI_9_8 hM0, gP_9_8 hM0, gI_9_9 hM0, gP_9_9 hM0, gI_9_10 hM0, gP_9_10 hM0, gI_9_11 hM0, gP_9_11 hM0, gI_9_12 hM0, gP_9_12 hM0, gI_9_13 hM0, gP_9_13 hM0, gI_9_14 hM0, gP_9_14 hM0, gI_9_15 hM0, gP_9_15 hM0, gI_9_16 hM0, gP_9_16 hM0, gR_9_17 hM0, gR_9_18 hM0, gR_9_19 hM0, gR_9_20 hM0, gI_9_21 hM0, gP_9_21 hM0, gI_9_22 hM0, gP_9_22 hM0, gI_9_23 hM0, gP_9_23 hM0, gI_9_24 hM0, gP_9_24 hM0, gR_9_25 hM0, gI_9_26 hM0, gP_9_26 hM0, gI_9_27 hM0, gP_9_27 hM0, gI_9_28 hM0, gP_9_28 hM0, gL_9_29 hM0, gP_9_29 hM0, gL_9_30 hM0, gP_9_30 hM0, cI_s, cL_s, cF_s, cD_s, cA_s, cV_s, nI_add, cond_true, cond_false, if_true, if_false]
    rw [e1]
    simp (disch := omega) only [iEQ_f, QX11_kindHere_100, cI_s, cL_s, cF_s, cD_s, cA_s, cV_s, nI_add, cond_true, cond_false, if_true, if_false]
  · obtain ⟨M1, e1, e2, e3⟩ := t_takes_t (E := E) (x := y) (n := m) (j := 22) H K' (by omega) (by omega) (by omega) u
    refine ⟨M1, ?_, e2, frR_tr frR_P e3⟩
    rw [eX11_kindHere, QX11_kindHere_0]
    simp (disch := omega) only [gO_9 hM0, gI_9_0 hM0, gP_9_0 hM0, gR_9_1 hM0, gR_9_2 hM0, gI_9_3 hM0, gP_9_3 hM0, gI_9_4 hM0, gP_9_4 hM0, gR_9_5 hM0, gR_9_6 hM0, gR_9_7 hM0, gI_9_8 hM0, gP_9_8 hM0, gI_9_9 hM0, gP_9_9 hM0, gI_9_10 hM0, gP_9_10 hM0, gI_9_11 hM0, gP_9_11 hM0, gI_9_12 hM0, gP_9_12 hM0, gI_9_13 hM0, gP_9_13 hM0, gI_9_14 hM0, gP_9_14 hM0, gI_9_15 hM0, gP_9_15 hM0, gI_9_16 hM0, gP_9_16 hM0, gR_9_17 hM0, gR_9_18 hM0, gR_9_19 hM0, gR_9_20 hM0, gI_9_21 hM0, gP_9_21 hM0, gI_9_22 hM0, gP_9_22 hM0, gI_9_23 hM0, gP_9_23 hM0, gI_9_24 hM0, gP_9_24 hM0, gR_9_25 hM0, gI_9_26 hM0, gP_9_26 hM0, gI_9_27 hM0, gP_9_27 hM0, gI_9_28 hM0, gP_9_28 hM0, gL_9_29 hM0, gP_9_29 hM0, gL_9_30 hM0, gP_9_30 hM0, cI_s, cL_s, cF_s, cD_s, cA_s, cV_s, nI_add, cond_true, cond_false, if_true, if_false]
    rw [f20 (by omega)]
    simp (disch := omega) only [iEQ_t, QX11_kindHere_14, gO_9 hM0, gI_9_0 hM0, gP_9_0 hM0, gR_9_1 hM0, gR_9_2 hM0, gI_9_3 hM0, gP_9_3 hM0, gI_9_4 hM0, gP_9_4 hM0, gR_9_5 hM0, gR_9_6 hM0, gR_9_7 hM0, gI_9_8 hM0, gP_9_8 hM0, gI_9_9 hM0, gP_9_9 hM0, gI_9_10 hM0, gP_9_10 hM0, gI_9_11 hM0, gP_9_11 hM0, gI_9_12 hM0, gP_9_12 hM0, gI_9_13 hM0, gP_9_13 hM0, gI_9_14 hM0, gP_9_14 hM0, gI_9_15 hM0, gP_9_15 hM0, gI_9_16 hM0, gP_9_16 hM0, gR_9_17 hM0, gR_9_18 hM0, gR_9_19 hM0, gR_9_20 hM0, gI_9_21 hM0, gP_9_21 hM0, gI_9_22 hM0, gP_9_22 hM0, gI_9_23 hM0, gP_9_23 hM0, gI_9_24 hM0, gP_9_24 hM0, gR_9_25 hM0, gI_9_26 hM0, gP_9_26 hM0, gI_9_27 hM0, gP_9_27 hM0, gI_9_28 hM0, gP_9_28 hM0, gL_9_29 hM0, gP_9_29 hM0, gL_9_30 hM0, gP_9_30 hM0, cI_s, cL_s, cF_s, cD_s, cA_s, cV_s, nI_add, cond_true, cond_false, if_true, if_false]
    rw [f21 (by omega)]
    simp (disch := omega) only [iEQ_t, QX11_kindHere_28, gO_9 hM0, gI_9_0 hM0, gP_9_0 hM0, gR_9_1 hM0, gR_9_2 hM0, gI_9_3 hM0, gP_9_3 hM0, gI_9_4 hM0, gP_9_4 hM0, gR_9_5 hM0, gR_9_6 hM0, gR_9_7 hM0, gI_9_8 hM0, gP_9_8 hM0, gI_9_9 hM0, gP_9_9 hM0, gI_9_10 hM0, gP_9_10 hM0, gI_9_11 hM0, gP_9_11 hM0, gI_9_12 hM0, gP_9_12 hM0, gI_9_13 hM0, gP_9_13 hM0, gI_9_14 hM0, gP_9_14 hM0, gI_9_15 hM0, gP_9_15 hM0, gI_9_16 hM0, gP_9_16 hM0, gR_9_17 hM0, gR_9_18 hM0, gR_9_19 hM0, gR_9_20 hM0, gI_9_21 hM0, gP_9_21 hM0, gI_9_22 hM0, gP_9_22 hM0, gI_9_23 hM0, gP_9_23 hM0, gI_9_24 hM0, gP_9_24 hM0, gR_9_25 hM0, gI_9_26 hM0, gP_9_26 hM0, gI_9_27 hM0, gP_9_27 hM0, gI_9_28 hM0, gP_9_28 hM0, gL_9_29 hM0, gP_9_29 hM0, gL_9_30 hM0, gP_9_30 hM0, cI_s, cL_s, cF_s, cD_s, cA_s, cV_s, nI_add, cond_true, cond_false, if_true, if_false]
    rw [e1]
    simp (disch := omega) only [iEQ_f, QX11_kindHere_100, cI_s, cL_s, cF_s, cD_s, cA_s, cV_s, nI_add, cond_true, cond_false, if_true, if_false]
  · obtain ⟨M1, e1, e2, e3⟩ := t_takes_t (E := E) (x := y) (n := m) (j := 23) H K' (by omega) (by omega) (by omega) u
    refine ⟨M1, ?_, e2, frR_tr frR_P e3⟩
    rw [eX11_kindHere, QX11_kindHere_0]
    simp (disch := omega) only [gO_9 hM0, gI_9_0 hM0, gP_9_0 hM0, gR_9_1 hM0, gR_9_2 hM0, gI_9_3 hM0, gP_9_3 hM0, gI_9_4 hM0, gP_9_4 hM0, gR_9_5 hM0, gR_9_6 hM0, gR_9_7 hM0, gI_9_8 hM0, gP_9_8 hM0, gI_9_9 hM0, gP_9_9 hM0, gI_9_10 hM0, gP_9_10 hM0, gI_9_11 hM0, gP_9_11 hM0, gI_9_12 hM0, gP_9_12 hM0, gI_9_13 hM0, gP_9_13 hM0, gI_9_14 hM0, gP_9_14 hM0, gI_9_15 hM0, gP_9_15 hM0, gI_9_16 hM0, gP_9_16 hM0, gR_9_17 hM0, gR_9_18 hM0, gR_9_19 hM0, gR_9_20 hM0, gI_9_21 hM0, gP_9_21 hM0, gI_9_22 hM0, gP_9_22 hM0, gI_9_23 hM0, gP_9_23 hM0, gI_9_24 hM0, gP_9_24 hM0, gR_9_25 hM0, gI_9_26 hM0, gP_9_26 hM0, gI_9_27 hM0, gP_9_27 hM0, gI_9_28 hM0, gP_9_28 hM0, gL_9_29 hM0, gP_9_29 hM0, gL_9_30 hM0, gP_9_30 hM0, cI_s, cL_s, cF_s, cD_s, cA_s, cV_s, nI_add, cond_true, cond_false, if_true, if_false]
    rw [f20 (by omega)]
    simp (disch := omega) only [iEQ_t, QX11_kindHere_14, gO_9 hM0, gI_9_0 hM0, gP_9_0 hM0, gR_9_1 hM0, gR_9_2 hM0, gI_9_3 hM0, gP_9_3 hM0, gI_9_4 hM0, gP_9_4 hM0, gR_9_5 hM0, gR_9_6 hM0, gR_9_7 hM0, gI_9_8 hM0, gP_9_8 hM0, gI_9_9 hM0, gP_9_9 hM0, gI_9_10 hM0, gP_9_10 hM0, gI_9_11 hM0, gP_9_11 hM0, gI_9_12 hM0, gP_9_12 hM0, gI_9_13 hM0, gP_9_13 hM0, gI_9_14 hM0, gP_9_14 hM0, gI_9_15 hM0, gP_9_15 hM0, gI_9_16 hM0, gP_9_16 hM0, gR_9_17 hM0, gR_9_18 hM0, gR_9_19 hM0, gR_9_20 hM0, gI_9_21 hM0, gP_9_21 hM0, gI_9_22 hM0, gP_9_22 hM0, gI_9_23 hM0, gP_9_23 hM0, gI_9_24 hM0, gP_9_24 hM0, gR_9_25 hM0, gI_9_26 hM0, gP_9_26 hM0, gI_9_27 hM0, gP_9_27 hM0, gI_9_28 hM0, gP_9_28 hM0, gL_9_29 hM0, gP_9_29 hM0, gL_9_30 hM0, gP_9_30 hM0, cI_s, cL_s, cF_s, cD_s, cA_s, cV_s, nI_add, cond_true, cond_false, if_true, if_false]
    rw [f21 (by omega)]
    simp (disch := omega) only [iEQ_t, QX11_kindHere_28, gO_9 hM0, gI_9_0 hM0, gP_9_0 hM0, gR_9_1 hM0, gR_9_2 hM0, gI_9_3 hM0, gP_9_3 hM0, gI_9_4 hM0, gP_9_4 hM0, gR_9_5 hM0, gR_9_6 hM0, gR_9_7 hM0, gI_9_8 hM0, gP_9_8 hM0, gI_9_9 hM0, gP_9_9 hM0, gI_9_10 hM0, gP_9_10 hM0, gI_9_11 hM0, gP_9_11 hM0, gI_9_12 hM0, gP_9_12 hM0, gI_9_13 hM0, gP_9_13 hM0, gI_9_14 hM0, gP_9_14 hM0, gI_9_15 hM0, gP_9_15 hM0, gI_9_16 hM0, gP_9_16 hM0, gR_9_17 hM0, gR_9_18 hM0, gR_9_19 hM0, gR_9_20 hM0, gI_9_21 hM0, gP_9_21 hM0, gI_9_22 hM0, gP_9_22 hM0, gI_9_23 hM0, gP_9_23 hM0, gI_9_24 hM0, gP_9_24 hM0, gR_9_25 hM0, gI_9_26 hM0, gP_9_26 hM0, gI_9_27 hM0, gP_9_27 hM0, gI_9_28 hM0, gP_9_28 hM0, gL_9_29 hM0, gP_9_29 hM0, gL_9_30 hM0, gP_9_30 hM0, cI_s, cL_s, cF_s, cD_s, cA_s, cV_s, nI_add, cond_true, cond_false, if_true, if_false]
    rw [f22 (by omega)]
    simp (disch := omega) only [iEQ_t, QX11_kindHere_42, gO_9 hM0, gI_9_0 hM0, gP_9_0 hM0, gR_9_1 hM0, gR_9_2 hM0, gI_9_3 hM0, gP_9_3 hM0, gI_9_4 hM0, gP_9_4 hM0, gR_9_5 hM0, gR_9_6 hM0, gR_9_7 hM0, gI_9_8 hM0, gP_9_8 hM0, gI_9_9 hM0, gP_9_9 hM0, gI_9_10 hM0, gP_9_10 hM0, gI_9_11 hM0, gP_9_11 hM0, gI_9_12 hM0, gP_9_12 hM0, gI_9_13 hM0, gP_9_13 hM0, gI_9_14 hM0, gP_9_14 hM0, gI_9_15 hM0, gP_9_15 hM0, gI_9_16 hM0, gP_9_16 hM0, gR_9_17 hM0, gR_9_18 hM0, gR_9_19 hM0, gR_9_20 hM0, gI_9_21 hM0, gP_9_21 hM0, gI_9_22 hM0, gP_9_22 hM0, gI_9_23 hM0, gP_9_23 hM0, gI_9_24 hM0, gP_9_24 hM0, gR_9_25 hM0, gI_9_26 hM0, gP_9_26 hM0, gI_9_27 hM0, gP_9_27 hM0, gI_9_28 hM0, gP_9_28 hM0, gL_9_29 hM0, gP_9_29 hM0, gL_9_30 hM0, gP_9_30 hM0, cI_s, cL_s, cF_s, cD_s, cA_s, cV_s, nI_add, cond_true, cond_false, if_true, if_false]
    rw [e1]
    simp (disch := omega) only [iEQ_f, QX11_kindHere_100, cI_s, cL_s, cF_s, cD_s, cA_s, cV_s, nI_add, cond_true, cond_false, if_true, if_false]
  · obtain ⟨M1, e1, e2, e3⟩ := t_takes_t (E := E) (x := y) (n := m) (j := 24) H K' (by omega) (by omega) (by omega) u
    refine ⟨M1, ?_, e2, frR_tr frR_P e3⟩
    rw [eX11_kindHere, QX11_kindHere_0]
    simp (disch := omega) only [gO_9 hM0, gI_9_0 hM0, gP_9_0 hM0, gR_9_1 hM0, gR_9_2 hM0, gI_9_3 hM0, gP_9_3 hM0, gI_9_4 hM0, gP_9_4 hM0, gR_9_5 hM0, gR_9_6 hM0, gR_9_7 hM0, gI_9_8 hM0, gP_9_8 hM0, gI_9_9 hM0, gP_9_9 hM0, gI_9_10 hM0, gP_9_10 hM0, gI_9_11 hM0, gP_9_11 hM0, gI_9_12 hM0, gP_9_12 hM0, gI_9_13 hM0, gP_9_13 hM0, gI_9_14 hM0, gP_9_14 hM0, gI_9_15 hM0, gP_9_15 hM0, gI_9_16 hM0, gP_9_16 hM0, gR_9_17 hM0, gR_9_18 hM0, gR_9_19 hM0, gR_9_20 hM0, gI_9_21 hM0, gP_9_21 hM0, gI_9_22 hM0, gP_9_22 hM0, gI_9_23 hM0, gP_9_23 hM0, gI_9_24 hM0, gP_9_24 hM0, gR_9_25 hM0, gI_9_26 hM0, gP_9_26 hM0, gI_9_27 hM0, gP_9_27 hM0, gI_9_28 hM0, gP_9_28 hM0, gL_9_29 hM0, gP_9_29 hM0, gL_9_30 hM0, gP_9_30 hM0, cI_s, cL_s, cF_s, cD_s, cA_s, cV_s, nI_add, cond_true, cond_false, if_true, if_false]
    rw [f20 (by omega)]
    simp (disch := omega) only [iEQ_t, QX11_kindHere_14, gO_9 hM0, gI_9_0 hM0, gP_9_0 hM0, gR_9_1 hM0, gR_9_2 hM0, gI_9_3 hM0, gP_9_3 hM0, gI_9_4 hM0, gP_9_4 hM0, gR_9_5 hM0, gR_9_6 hM0, gR_9_7 hM0, gI_9_8 hM0, gP_9_8 hM0, gI_9_9 hM0, gP_9_9 hM0, gI_9_10 hM0, gP_9_10 hM0, gI_9_11 hM0, gP_9_11 hM0, gI_9_12 hM0, gP_9_12 hM0, gI_9_13 hM0, gP_9_13 hM0, gI_9_14 hM0, gP_9_14 hM0, gI_9_15 hM0, gP_9_15 hM0, gI_9_16 hM0, gP_9_16 hM0, gR_9_17 hM0, gR_9_18 hM0, gR_9_19 hM0, gR_9_20 hM0, gI_9_21 hM0, gP_9_21 hM0, gI_9_22 hM0, gP_9_22 hM0, gI_9_23 hM0, gP_9_23 hM0, gI_9_24 hM0, gP_9_24 hM0, gR_9_25 hM0, gI_9_26 hM0, gP_9_26 hM0, gI_9_27 hM0, gP_9_27 hM0, gI_9_28 hM0, gP_9_28 hM0, gL_9_29 hM0, gP_9_29 hM0, gL_9_30 hM0, gP_9_30 hM0, cI_s, cL_s, cF_s, cD_s, cA_s, cV_s, nI_add, cond_true, cond_false, if_true, if_false]
    rw [f21 (by omega)]
    simp (disch := omega) only [iEQ_t, QX11_kindHere_28, gO_9 hM0, gI_9_0 hM0, gP_9_0 hM0, gR_9_1 hM0, gR_9_2 hM0, gI_9_3 hM0, gP_9_3 hM0, gI_9_4 hM0, gP_9_4 hM0, gR_9_5 hM0, gR_9_6 hM0, gR_9_7 hM0, gI_9_8 hM0, gP_9_8 hM0, gI_9_9 hM0, gP_9_9 hM0, gI_9_10 hM0, gP_9_10 hM0, gI_9_11 hM0, gP_9_11 hM0, gI_9_12 hM0, gP_9_12 hM0, gI_9_13 hM0, gP_9_13 hM0, gI_9_14 hM0, gP_9_14 hM0, gI_9_15 hM0, gP_9_15 hM0, gI_9_16 hM0, gP_9_16 hM0, gR_9_17 hM0, gR_9_18 hM0, gR_9_19 hM0, gR_9_20 hM0, gI_9_21 hM0, gP_9_21 hM0, gI_9_22 hM0, gP_9_22 hM0, gI_9_23 hM0, gP_9_23 hM0, gI_9_24 hM0, gP_9_24 hM0, gR_9_25 hM0, gI_9_26 hM0, gP_9_26 hM0, gI_9_27 hM0, gP_9_27 hM0, gI_9_28 hM0, gP_9_28 hM0, gL_9_29 hM0, gP_9_29 hM0, gL_9_30 hM0, gP_9_30 hM0, cI_s, cL_s, cF_s, cD_s, cA_s, cV_s, nI_add, cond_true, cond_false, if_true, if_false]
    rw [f22 (by omega)]
    simp (disch := omega) only [iEQ_t, QX11_kindHere_42, gO_9 hM0, gI_9_0 hM0, gP_9_0 hM0, gR_9_1 hM0, gR_9_2 hM0, gI_9_3 hM0, gP_9_3 hM0, gI_9_4 hM0, gP_9_4 hM0, gR_9_5 hM0, gR_9_6 hM0, gR_9_7 hM0, gI_9_8 hM0, gP_9_8 hM0, gI_9_9 hM0, gP_9_9 hM0, gI_9_10 hM0, gP_9_10 hM0, gI_9_11 hM0, gP_9_11 hM0, gI_9_12 hM0, gP_9_12 hM0, gI_9_13 hM0, gP_9_13 hM0, gI_9_14 hM0, gP_9_14 hM0, gI_9_15 hM0, gP_9_15 hM0, gI_9_16 hM0, gP_9_16 hM0, gR_9_17 hM0, gR_9_18 hM0, gR_9_19 hM0, gR_9_20 hM0, gI_9_21 hM0, gP_9_21 hM0, gI_9_22 hM0, gP_9_22 hM0, gI_9_23 hM0, gP_9_23 hM0, gI_9_24 hM0, gP_9_24 hM0, gR_9_25 hM0, gI_9_26 hM0, gP_9_26 hM0, gI_9_27 hM0, gP_9_27 hM0, gI_9_28 hM0, gP_9_28 hM0, gL_9_29 hM0, gP_9_29 hM0, gL_9_30 hM0, gP_9_30 hM0, cI_s, cL_s, cF_s, cD_s, cA_s, cV_s, nI_add, cond_true, cond_false, if_true, if_false]
    rw [f23 (by omega)]
    simp (disch := omega) only [iEQ_t, QX11_kindHere_56, gO_9 hM0, gI_9_0 hM0, gP_9_0 hM0, gR_9_1 hM0, gR_9_2 hM0, gI_9_3 hM0, gP_9_3 hM0, gI_9_4 hM0, gP_9_4 hM0, gR_9_5 hM0, gR_9_6 hM0, gR_9_7 hM0, gI_9_8 hM0, gP_9_8 hM0, gI_9_9 hM0, gP_9_9 hM0, gI_9_10 hM0, gP_9_10 hM0, gI_9_11 hM0, gP_9_11 hM0, gI_9_12 hM0, gP_9_12 hM0, gI_9_13 hM0, gP_9_13 hM0, gI_9_14 hM0, gP_9_14 hM0, gI_9_15 hM0, gP_9_15 hM0, gI_9_16 hM0, gP_9_16 hM0, gR_9_17 hM0, gR_9_18 hM0, gR_9_19 hM0, gR_9_20 hM0, gI_9_21 hM0, gP_9_21 hM0, gI_9_22 hM0, gP_9_22 hM0, gI_9_23 hM0, gP_9_23 hM0, gI_9_24 hM0, gP_9_24 hM0, gR_9_25 hM0, gI_9_26 hM0, gP_9_26 hM0, gI_9_27 hM0, gP_9_27 hM0, gI_9_28 hM0, gP_9_28 hM0, gL_9_29 hM0, gP_9_29 hM0, gL_9_30 hM0, gP_9_30 hM0, cI_s, cL_s, cF_s, cD_s, cA_s, cV_s, nI_add, cond_true, cond_false, if_true, if_false]
    rw [e1]
    simp (disch := omega) only [iEQ_f, QX11_kindHere_100, cI_s, cL_s, cF_s, cD_s, cA_s, cV_s, nI_add, cond_true, cond_false, if_true, if_false]
  · obtain ⟨M1, e1, e2, e3⟩ := t_takes_t (E := E) (x := y) (n := m) (j := 25) H K' (by omega) (by omega) (by omega) u
    refine ⟨M1, ?_, e2, frR_tr frR_P e3⟩
    rw [eX11_kindHere, QX11_kindHere_0]
    simp (disch := omega) only [gO_9 hM0, gI_9_0 hM0, gP_9_0 hM0, gR_9_1 hM0, gR_9_2 hM0, gI_9_3 hM0, gP_9_3 hM0, gI_9_4 hM0, gP_9_4 hM0, gR_9_5 hM0, gR_9_6 hM0, gR_9_7 hM0, gI_9_8 hM0, gP_9_8 hM0, gI_9_9 hM0, gP_9_9 hM0, gI_9_10 hM0, gP_9_10 hM0, gI_9_11 hM0, gP_9_11 hM0, gI_9_12 hM0, gP_9_12 hM0, gI_9_13 hM0, gP_9_13 hM0, gI_9_14 hM0, gP_9_14 hM0, gI_9_15 hM0, gP_9_15 hM0, gI_9_16 hM0, gP_9_16 hM0, gR_9_17 hM0, gR_9_18 hM0, gR_9_19 hM0, gR_9_20 hM0, gI_9_21 hM0, gP_9_21 hM0, gI_9_22 hM0, gP_9_22 hM0, gI_9_23 hM0, gP_9_23 hM0, gI_9_24 hM0, gP_9_24 hM0, gR_9_25 hM0, gI_9_26 hM0, gP_9_26 hM0, gI_9_27 hM0, gP_9_27 hM0, gI_9_28 hM0, gP_9_28 hM0, gL_9_29 hM0, gP_9_29 hM0, gL_9_30 hM0, gP_9_30 hM0, cI_s, cL_s, cF_s, cD_s, cA_s, cV_s, nI_add, cond_true, cond_false, if_true, if_false]
    rw [f20 (by omega)]
    simp (disch := omega) only [iEQ_t, QX11_kindHere_14, gO_9 hM0, gI_9_0 hM0, gP_9_0 hM0, gR_9_1 hM0, gR_9_2 hM0, gI_9_3 hM0, gP_9_3 hM0, gI_9_4 hM0, gP_9_4 hM0, gR_9_5 hM0, gR_9_6 hM0, gR_9_7 hM0, gI_9_8 hM0, gP_9_8 hM0, gI_9_9 hM0, gP_9_9 hM0, gI_9_10 hM0, gP_9_10 hM0, gI_9_11 hM0, gP_9_11 hM0, gI_9_12 hM0, gP_9_12 hM0, gI_9_13 hM0, gP_9_13 hM0, gI_9_14 hM0, gP_9_14 hM0, gI_9_15 hM0, gP_9_15 hM0, gI_9_16 hM0, gP_9_16 hM0, gR_9_17 hM0, gR_9_18 hM0, gR_9_19 hM0, gR_9_20 hM0, gI_9_21 hM0, gP_9_21 hM0, gI_9_22 hM0, gP_9_22 hM0, gI_9_23 hM0, gP_9_23 hM0, gI_9_24 hM0, gP_9_24 hM0, gR_9_25 hM0, gI_9_26 hM0, gP_9_26 hM0, gI_9_27 hM0, gP_9_27 hM0, gI_9_28 hM0, gP_9_28 hM0, gL_9_29 hM0, gP_9_29 hM0, gL_9_30 hM0, gP_9_30 hM0, cI_s, cL_s, cF_s, cD_s, cA_s, cV_s, nI_add, cond_true, cond_false, if_true, if_false]
    rw [f21 (by omega)]
    simp (disch := omega) only [iEQ_t, QX11_kindHere_28, gO_9 hM0, gI_9_0 hM0, gP_9_0 hM0, gR_9_1 hM0, gR_9_2 hM0, gI_9_3 hM0, gP_9_3 hM0, gI_9_4 hM0, gP_9_4 hM0, gR_9_5 hM0, gR_9_6 hM0, gR_9_7 hM0, gI_9_8 hM0, gP_9_8 hM0, gI_9_9 hM0, gP_9_9 hM0, gI_9_10 hM0, gP_9_10 hM0, gI_9_11 hM0, gP_9_11 hM0, gI_9_12 hM0, gP_9_12 hM0, gI_9_13 hM0, gP_9_13 hM0, gI_9_14 hM0, gP_9_14 hM0, gI_9_15 hM0, gP_9_15 hM0, gI_9_16 hM0, gP_9_16 hM0, gR_9_17 hM0, gR_9_18 hM0, gR_9_19 hM0, gR_9_20 hM0, gI_9_21 hM0, gP_9_21 hM0, gI_9_22 hM0, gP_9_22 hM0, gI_9_23 hM0, gP_9_23 hM0, gI_9_24 hM0, gP_9_24 hM0, gR_9_25 hM0, gI_9_26 hM0, gP_9_26 hM0, gI_9_27 hM0, gP_9_27 hM0, gI_9_28 hM0, gP_9_28 hM0, gL_9_29 hM0, gP_9_29 hM0, gL_9_30 hM0, gP_9_30 hM0, cI_s, cL_s, cF_s, cD_s, cA_s, cV_s, nI_add, cond_true, cond_false, if_true, if_false]
    rw [f22 (by omega)]
    simp (disch := omega) only [iEQ_t, QX11_kindHere_42, gO_9 hM0, gI_9_0 hM0, gP_9_0 hM0, gR_9_1 hM0, gR_9_2 hM0, gI_9_3 hM0, gP_9_3 hM0, gI_9_4 hM0, gP_9_4 hM0, gR_9_5 hM0, gR_9_6 hM0, gR_9_7 hM0, gI_9_8 hM0, gP_9_8 hM0, gI_9_9 hM0, gP_9_9 hM0, gI_9_10 hM0, gP_9_10 hM0, gI_9_11 hM0, gP_9_11 hM0, gI_9_12 hM0, gP_9_12 hM0, gI_9_13 hM0, gP_9_13 hM0, gI_9_14 hM0, gP_9_14 hM0, gI_9_15 hM0, gP_9_15 hM0, gI_9_16 hM0, gP_9_16 hM0, gR_9_17 hM0, gR_9_18 hM0, gR_9_19 hM0, gR_9_20 hM0, gI_9_21 hM0, gP_9_21 hM0, gI_9_22 hM0, gP_9_22 hM0, gI_9_23 hM0, gP_9_23 hM0, gI_9_24 hM0, gP_9_24 hM0, gR_9_25 hM0, gI_9_26 hM0, gP_9_26 hM0, gI_9_27 hM0, gP_9_27 hM0, gI_9_28 hM0, gP_9_28 hM0, gL_9_29 hM0, gP_9_29 hM0, gL_9_30 hM0, gP_9_30 hM0, cI_s, cL_s, cF_s, cD_s, cA_s, cV_s, nI_add, cond_true, cond_false, if_true, if_false]
    rw [f23 (by omega)]
    simp (disch := omega) only [iEQ_t, QX11_kindHere_56, gO_9 hM0, gI_9_0 hM0, gP_9_0 hM0, gR_9_1 hM0, gR_9_2 hM0, gI_9_3 hM0, gP_9_3 hM0, gI_9_4 hM0, gP_9_4 hM0, gR_9_5 hM0, gR_9_6 hM0, gR_9_7 hM0, gI_9_8 hM0, gP_9_8 hM0, gI_9_9 hM0, gP_9_9 hM0, gI_9_10 hM0, gP_9_10 hM0, gI_9_11 hM0, gP_9_11 hM0, gI_9_12 hM0, gP_9_12 hM0, gI_9_13 hM0, gP_9_13 hM0, gI_9_14 hM0, gP_9_14 hM0, gI_9_15 hM0, gP_9_15 hM0, gI_9_16 hM0, gP_9_16 hM0, gR_9_17 hM0, gR_9_18 hM0, gR_9_19 hM0, gR_9_20 hM0, gI_9_21 hM0, gP_9_21 hM0, gI_9_22 hM0, gP_9_22 hM0, gI_9_23 hM0, gP_9_23 hM0, gI_9_24 hM0, gP_9_24 hM0, gR_9_25 hM0, gI_9_26 hM0, gP_9_26 hM0, gI_9_27 hM0, gP_9_27 hM0, gI_9_28 hM0, gP_9_28 hM0, gL_9_29 hM0, gP_9_29 hM0, gL_9_30 hM0, gP_9_30 hM0, cI_s, cL_s, cF_s, cD_s, cA_s, cV_s, nI_add, cond_true, cond_false, if_true, if_false]
    rw [f24 (by omega)]
    simp (disch := omega) only [iEQ_t, QX11_kindHere_70, gO_9 hM0, gI_9_0 hM0, gP_9_0 hM0, gR_9_1 hM0, gR_9_2 hM0, gI_9_3 hM0, gP_9_3 hM0, gI_9_4 hM0, gP_9_4 hM0, gR_9_5 hM0, gR_9_6 hM0, gR_9_7 hM0, gI_9_8 hM0, gP_9_8 hM0, gI_9_9 hM0, gP_9_9 hM0, gI_9_10 hM0, gP_9_10 hM0, gI_9_11 hM0, gP_9_11 hM0, gI_9_12 hM0, gP_9_12 hM0, gI_9_13 hM0, gP_9_13 hM0, gI_9_14 hM0, gP_9_14 hM0, gI_9_15 hM0, gP_9_15 hM0, gI_9_16 hM0, gP_9_16 hM0, gR_9_17 hM0, gR_9_18 hM0, gR_9_19 hM0, gR_9_20 hM0, gI_9_21 hM0, gP_9_21 hM0, gI_9_22 hM0, gP_9_22 hM0, gI_9_23 hM0, gP_9_23 hM0, gI_9_24 hM0, gP_9_24 hM0, gR_9_25 hM0, gI_9_26 hM0, gP_9_26 hM0, gI_9_27 hM0, gP_9_27 hM0, gI_9_28 hM0, gP_9_28 hM0, gL_9_29 hM0, gP_9_29 hM0, gL_9_30 hM0, gP_9_30 hM0, cI_s, cL_s, cF_s, cD_s, cA_s, cV_s, nI_add, cond_true, cond_false, if_true, if_false]
    rw [e1]
    simp (disch := omega) only [iEQ_f, QX11_kindHere_100, cI_s, cL_s, cF_s, cD_s, cA_s, cV_s, nI_add, cond_true, cond_false, if_true, if_false]
  · obtain ⟨M1, e1, e2, e3⟩ := t_takes_t (E := E) (x := y) (n := m) (j := 26) H K' (by omega) (by omega) (by omega) u
    refine ⟨M1, ?_, e2, frR_tr frR_P e3⟩
    rw [eX11_kindHere, QX11_kindHere_0]
    simp (disch := omega) only [gO_9 hM0, gI_9_0 hM0, gP_9_0 hM0, gR_9_1 hM0, gR_9_2 hM0, gI_9_3 hM0, gP_9_3 hM0, gI_9_4 hM0, gP_9_4 hM0, gR_9_5 hM0, gR_9_6 hM0, gR_9_7 hM0, gI_9_8 hM0, gP_9_8 hM0, gI_9_9 hM0, gP_9_9 hM0, gI_9_10 hM0, gP_9_10 hM0, gI_9_11 hM0, gP_9_11 hM0, gI_9_12 hM0, gP_9_12 hM0, gI_9_13 hM0, gP_9_13 hM0, gI_9_14 hM0, gP_9_14 hM0, gI_9_15 hM0, gP_9_15 hM0, gI_9_16 hM0, gP_9_16 hM0, gR_9_17 hM0, gR_9_18 hM0, gR_9_19 hM0, gR_9_20 hM0, gI_9_21 hM0, gP_9_21 hM0, gI_9_22 hM0, gP_9_22 hM0, gI_9_23 hM0, gP_9_23 hM0, gI_9_24 hM0, gP_9_24 hM0, gR_9_25 hM0, gI_9_26 hM0, gP_9_26 hM0, gI_9_27 hM0, gP_9_27 hM0, gI_9_28 hM0, gP_9_28 hM0, gL_9_29 hM0, gP_9_29 hM0, gL_9_30 hM0, gP_9_30 hM0, cI_s, cL_s, cF_s, cD_s, cA_s, cV_s, nI_add, cond_true, cond_false, if_true, if_false]
    rw [f20 (by omega)]
    simp (disch := omega) only [iEQ_t, QX11_kindHere_14, gO_9 hM0, gI_9_0 hM0, gP_9_0 hM0, gR_9_1 hM0, gR_9_2 hM0, gI_9_3 hM0, gP_9_3 hM0, gI_9_4 hM0, gP_9_4 hM0, gR_9_5 hM0, gR_9_6 hM0, gR_9_7 hM0, gI_9_8 hM0, gP_9_8 hM0, gI_9_9 hM0, gP_9_9 hM0, gI_9_10 hM0, gP_9_10 hM0, gI_9_11 hM0, gP_9_11 hM0, gI_9_12 hM0, gP_9_12 hM0, gI_9_13 hM0, gP_9_13 hM0, gI_9_14 hM0, gP_9_14 hM0, gI_9_15 hM0, gP_9_15 hM0, gI_9_16 hM0, gP_9_16 hM0, gR_9_17 hM0, gR_9_18 hM0, gR_9_19 hM0, gR_9_20 hM0, gI_9_21 hM0, gP_9_21 hM0, gI_9_22 hM0, gP_9_22 hM0, gI_9_23 hM0, gP_9_23 hM0, gI_9_24 hM0, gP_9_24 hM0, gR_9_25 hM0, gI_9_26 hM0, gP_9_26 hM0, gI_9_27 hM0, gP_9_27 hM0, gI_9_28 hM0, gP_9_28 hM0, gL_9_29 hM0, gP_9_29 hM0, gL_9_30 hM0, gP_9_30 hM0, cI_s, cL_s, cF_s, cD_s, cA_s, cV_s, nI_add, cond_true, cond_false, if_true, if_false]
    rw [f21 (by omega)]
    simp (disch := omega) only [iEQ_t, QX11_kindHere_28, gO_9 hM0, gI_9_0 hM0, gP_9_0 hM0, gR_9_1 hM0, gR_9_2 hM0, gI_9_3 hM0, gP_9_3 hM0, gI_9_4 hM0, gP_9_4 hM0, gR_9_5 hM0, gR_9_6 hM0, gR_9_7 hM0, gI_9_8 hM0, gP_9_8 hM0, gI_9_9 hM0, gP_9_9 hM0, gI_9_10 hM0, gP_9_10 hM0, gI_9_11 hM0, gP_9_11 hM0, gI_9_12 hM0, gP_9_12 hM0, gI_9_13 hM0, gP_9_13 hM0, gI_9_14 hM0, gP_9_14 hM0, gI_9_15 hM0, gP_9_15 hM0, gI_9_16 hM0, gP_9_16 hM0, gR_9_17 hM0, gR_9_18 hM0, gR_9_19 hM0, gR_9_20 hM0, gI_9_21 hM0, gP_9_21 hM0, gI_9_22 hM0, gP_9_22 hM0, gI_9_23 hM0, gP_9_23 hM0, gI_9_24 hM0, gP_9_24 hM0, gR_9_25 hM0, gI_9_26 hM0, gP_9_26 hM0, gI_9_27 hM0, gP_9_27 hM0, gI_9_28 hM0, gP_9_28 hM0, gL_9_29 hM0, gP_9_29 hM0, gL_9_30 hM0, gP_9_30 hM0, cI_s, cL_s, cF_s, cD_s, cA_s, cV_s, nI_add, cond_true, cond_false, if_true, if_false]
    rw [f22 (by omega)]
    simp (disch := omega) only [iEQ_t, QX11_kindHere_42, gO_9 hM0, gI_9_0 hM0, gP_9_0 hM0, gR_9_1 hM0, gR_9_2 hM0, gI_9_3 hM0, gP_9_3 hM0, gI_9_4 hM0, gP_9_4 hM0, gR_9_5 hM0, gR_9_6 hM0, gR_9_7 hM0, gI_9_8 hM0, gP_9_8 hM0, gI_9_9 hM0, gP_9_9 hM0, gI_9_10 hM0, gP_9_10 hM0, gI_9_11 hM0, gP_9_11 hM0, gI_9_12 hM0, gP_9_12 hM0, gI_9_13 hM0, gP_9_13 hM0, gI_9_14 hM0, gP_9_14 hM0, gI_9_15 hM0, gP_9_15 hM0, gI_9_16 hM0, gP_9_16 hM0, gR_9_17 hM0, gR_9_18 hM0, gR_9_19 hM0, gR_9_20 hM0, gI_9_21 hM0, gP_9_21 hM0, gI_9_22 hM0, gP_9_22 hM0, gI_9_23 hM0, gP_9_23 hM0, gI_9_24 hM0, gP_9_24 hM0, gR_9_25 hM0, gI_9_26 hM0, gP_9_26 hM0, gI_9_27 hM0, gP_9_27 hM0, gI_9_28 hM0, gP_9_28 hM0, gL_9_29 hM0, gP_9_29 hM0, gL_9_30 hM0, gP_9_30 hM0, cI_s, cL_s, cF_s, cD_s, cA_s, cV_s, nI_add, cond_true, cond_false, if_true, if_false]
    rw [f23 (by omega)]
    simp (disch := omega) only [iEQ_t, QX11_kindHere_56, gO_9 hM0, gI_9_0 hM0, gP_9_0 hM0, gR_9_1 hM0, gR_9_2 hM0, gI_9_3 hM0, gP_9_3 hM0, gI_9_4 hM0, gP_9_4 hM0, gR_9_5 hM0, gR_9_6 hM0, gR_9_7 hM0, gI_9_8 hM0, gP_9_8 hM0, gI_9_9 hM0, gP_9_9 hM0, gI_9_10 hM0, gP_9_10 hM0, gI_9_11 hM0, gP_9_11 hM0, gI_9_12 hM0, gP_9_12 hM0, gI_9_13 hM0, gP_9_13 hM0, gI_9_14 hM0, gP_9_14 hM0, gI_9_15 hM0, gP_9_15 hM0, gI_9_16 hM0, gP_9_16 hM0, gR_9_17 hM0, gR_9_18 hM0, gR_9_19 hM0, gR_9_20 hM0, gI_9_21 hM0, gP_9_21 hM0, gI_9_22 hM0, gP_9_22 hM0, gI_9_23 hM0, gP_9_23 hM0, gI_9_24 hM0, gP_9_24 hM0, gR_9_25 hM0, gI_9_26 hM0, gP_9_26 hM0, gI_9_27 hM0, gP_9_27 hM0, gI_9_28 hM0, gP_9_28 hM0, gL_9_29 hM0, gP_9_29 hM0, gL_9_30 hM0, gP_9_30 hM0, cI_s, cL_s, cF_s, cD_s, cA_s, cV_s, nI_add, cond_true, cond_false, if_true, if_false]
    rw [f24 (by omega)]
    simp (disch := omega) only [iEQ_t, QX11_kindHere_70, gO_9 hM0, gI_9_0 hM0, gP_9_0 hM0, gR_9_1 hM0, gR_9_2 hM0, gI_9_3 hM0, gP_9_3 hM0, gI_9_4 hM0, gP_9_4 hM0, gR_9_5 hM0, gR_9_6 hM0, gR_9_7 hM0, gI_9_8 hM0, gP_9_8 hM0, gI_9_9 hM0, gP_9_9 hM0, gI_9_10 hM0, gP_9_10 hM0, gI_9_11 hM0, gP_9_11 hM0, gI_9_12 hM0, gP_9_12 hM0, gI_9_13 hM0, gP_9_13 hM0, gI_9_14 hM0, gP_9_14 hM0, gI_9_15 hM0, gP_9_15 hM0, gI_9_16 hM0, gP_9_16 hM0, gR_9_17 hM0, gR_9_18 hM0, gR_9_19 hM0, gR_9_20 hM0, gI_9_21 hM0, gP_9_21 hM0, gI_9_22 hM0, gP_9_22 hM0, gI_9_23 hM0, gP_9_23 hM0, gI_9_24 hM0, gP_9_24 hM0, gR_9_25 hM0, gI_9_26 hM0, gP_9_26 hM0, gI_9_27 hM0, gP_9_27 hM0, gI_9_28 hM0, gP_9_28 hM0, gL_9_29 hM0, gP_9_29 hM0, gL_9_30 hM0, gP_9_30 hM0, cI_s, cL_s, cF_s, cD_s, cA_s, cV_s, nI_add, cond_true, cond_false, if_true, if_false]
    rw [f25 (by omega)]
    simp (disch := omega) only [iEQ_t, QX11_kindHere_84, gO_9 hM0, gI_9_0 hM0, gP_9_0 hM0, gR_9_1 hM0, gR_9_2 hM0, gI_9_3 hM0, gP_9_3 hM0, gI_9_4 hM0, gP_9_4 hM0, gR_9_5 hM0, gR_9_6 hM0, gR_9_7 hM0, gI_9_8 hM0, gP_9_8 hM0, gI_9_9 hM0, gP_9_9 hM0, gI_9_10 hM0, gP_9_10 hM0, gI_9_11 hM0, gP_9_11 hM0, gI_9_12 hM0, gP_9_12 hM0, gI_9_13 hM0, gP_9_13 hM0, gI_9_14 hM0, gP_9_14 hM0, gI_9_15 hM0, gP_9_15 hM0, gI_9_16 hM0, gP_9_16 hM0, gR_9_17 hM0, gR_9_18 hM0, gR_9_19 hM0, gR_9_20 hM0, gI_9_21 hM0, gP_9_21 hM0, gI_9_22 hM0, gP_9_22 hM0, gI_9_23 hM0, gP_9_23 hM0, gI_9_24 hM0, gP_9_24 hM0, gR_9_25 hM0, gI_9_26 hM0, gP_9_26 hM0, gI_9_27 hM0, gP_9_27 hM0, gI_9_28 hM0, gP_9_28 hM0, gL_9_29 hM0, gP_9_29 hM0, gL_9_30 hM0, gP_9_30 hM0, cI_s, cL_s, cF_s, cD_s, cA_s, cV_s, nI_add, cond_true, cond_false, if_true, if_false]
    rw [e1]
    simp (disch := omega) only [iEQ_f, QX11_kindHere_100, cI_s, cL_s, cF_s, cD_s, cA_s, cV_s, nI_add, cond_true, cond_false, if_true, if_false]
theorem m_kind_n (H : hEn E y) (K : mQ M tx L p) (e : tk tx L p < 22) (u : Nat) : xsem xT E (u + 6) kX11_kindHere [.ref y] (wW E y shM (mP M p), m) = some (.inl (some (.int (-1))), (wW E y shM (mP M p), m)) := by
  have K' := mQ_P K
  have f20 : tk tx L p ≠ 20 + 2 → xsem xT E (u + 5) kX11_takes [.ref y, .ref (E.2.1 20)] (wW E y shM (mP M p), m) = some (.inl (some (.int (nI 0))), (wW E y shM (mP M p), m)) := fun z => by rw [t_takes_f H K' (by omega) (by omega) z u, mP_P]
  have f21 : tk tx L p ≠ 21 + 2 → xsem xT E (u + 5) kX11_takes [.ref y, .ref (E.2.1 21)] (wW E y shM (mP M p), m) = some (.inl (some (.int (nI 0))), (wW E y shM (mP M p), m)) := fun z => by rw [t_takes_f H K' (by omega) (by omega) z u, mP_P]
  have f22 : tk tx L p ≠ 22 + 2 → xsem xT E (u + 5) kX11_takes [.ref y, .ref (E.2.1 22)] (wW E y shM (mP M p), m) = some (.inl (some (.int (nI 0))), (wW E y shM (mP M p), m)) := fun z => by rw [t_takes_f H K' (by omega) (by omega) z u, mP_P]
  have f23 : tk tx L p ≠ 23 + 2 → xsem xT E (u + 5) kX11_takes [.ref y, .ref (E.2.1 23)] (wW E y shM (mP M p), m) = some (.inl (some (.int (nI 0))), (wW E y shM (mP M p), m)) := fun z => by rw [t_takes_f H K' (by omega) (by omega) z u, mP_P]
  have f24 : tk tx L p ≠ 24 + 2 → xsem xT E (u + 5) kX11_takes [.ref y, .ref (E.2.1 24)] (wW E y shM (mP M p), m) = some (.inl (some (.int (nI 0))), (wW E y shM (mP M p), m)) := fun z => by rw [t_takes_f H K' (by omega) (by omega) z u, mP_P]
  have f25 : tk tx L p ≠ 25 + 2 → xsem xT E (u + 5) kX11_takes [.ref y, .ref (E.2.1 25)] (wW E y shM (mP M p), m) = some (.inl (some (.int (nI 0))), (wW E y shM (mP M p), m)) := fun z => by rw [t_takes_f H K' (by omega) (by omega) z u, mP_P]
  have f26 : tk tx L p ≠ 26 + 2 → xsem xT E (u + 5) kX11_takes [.ref y, .ref (E.2.1 26)] (wW E y shM (mP M p), m) = some (.inl (some (.int (nI 0))), (wW E y shM (mP M p), m)) := fun z => by rw [t_takes_f H K' (by omega) (by omega) z u, mP_P]
  rw [eX11_kindHere, QX11_kindHere_0]
  simp (disch := omega) only [gO_9 hM0, gI_9_0 hM0, gP_9_0 hM0, gR_9_1 hM0, gR_9_2 hM0, gI_9_3 hM0, gP_9_3 hM0, gI_9_4 hM0, gP_9_4 hM0, gR_9_5 hM0, gR_9_6 hM0, gR_9_7 hM0, gI_9_8 hM0, gP_9_8 hM0, gI_9_9 hM0, gP_9_9 hM0, gI_9_10 hM0, gP_9_10 hM0, gI_9_11 hM0, gP_9_11 hM0, gI_9_12 hM0, gP_9_12 hM0, gI_9_13 hM0, gP_9_13 hM0, gI_9_14 hM0, gP_9_14 hM0, gI_9_15 hM0, gP_9_15 hM0, gI_9_16 hM0, gP_9_16 hM0, gR_9_17 hM0, gR_9_18 hM0, gR_9_19 hM0, gR_9_20 hM0, gI_9_21 hM0, gP_9_21 hM0, gI_9_22 hM0, gP_9_22 hM0, gI_9_23 hM0, gP_9_23 hM0, gI_9_24 hM0, gP_9_24 hM0, gR_9_25 hM0, gI_9_26 hM0, gP_9_26 hM0, gI_9_27 hM0, gP_9_27 hM0, gI_9_28 hM0, gP_9_28 hM0, gL_9_29 hM0, gP_9_29 hM0, gL_9_30 hM0, gP_9_30 hM0, cI_s, cL_s, cF_s, cD_s, cA_s, cV_s, nI_add, cond_true, cond_false, if_true, if_false]
  rw [f20 (by omega)]
  simp (disch := omega) only [iEQ_t, QX11_kindHere_14, gO_9 hM0, gI_9_0 hM0, gP_9_0 hM0, gR_9_1 hM0, gR_9_2 hM0, gI_9_3 hM0, gP_9_3 hM0, gI_9_4 hM0, gP_9_4 hM0, gR_9_5 hM0, gR_9_6 hM0, gR_9_7 hM0, gI_9_8 hM0, gP_9_8 hM0, gI_9_9 hM0, gP_9_9 hM0, gI_9_10 hM0, gP_9_10 hM0, gI_9_11 hM0, gP_9_11 hM0, gI_9_12 hM0, gP_9_12 hM0, gI_9_13 hM0, gP_9_13 hM0, gI_9_14 hM0, gP_9_14 hM0, gI_9_15 hM0, gP_9_15 hM0, gI_9_16 hM0, gP_9_16 hM0, gR_9_17 hM0, gR_9_18 hM0, gR_9_19 hM0, gR_9_20 hM0, gI_9_21 hM0, gP_9_21 hM0, gI_9_22 hM0, gP_9_22 hM0, gI_9_23 hM0, gP_9_23 hM0, gI_9_24 hM0, gP_9_24 hM0, gR_9_25 hM0, gI_9_26 hM0, gP_9_26 hM0, gI_9_27 hM0, gP_9_27 hM0, gI_9_28 hM0, gP_9_28 hM0, gL_9_29 hM0, gP_9_29 hM0, gL_9_30 hM0, gP_9_30 hM0, cI_s, cL_s, cF_s, cD_s, cA_s, cV_s, nI_add, cond_true, cond_false, if_true, if_false]
  rw [f21 (by omega)]
  simp (disch := omega) only [iEQ_t, QX11_kindHere_28, gO_9 hM0, gI_9_0 hM0, gP_9_0 hM0, gR_9_1 hM0, gR_9_2 hM0, gI_9_3 hM0, gP_9_3 hM0, gI_9_4 hM0, gP_9_4 hM0, gR_9_5 hM0, gR_9_6 hM0, gR_9_7 hM0, gI_9_8 hM0, gP_9_8 hM0, gI_9_9 hM0, gP_9_9 hM0, gI_9_10 hM0, gP_9_10 hM0, gI_9_11 hM0, gP_9_11 hM0, gI_9_12 hM0, gP_9_12 hM0, gI_9_13 hM0, gP_9_13 hM0, gI_9_14 hM0, gP_9_14 hM0, gI_9_15 hM0, gP_9_15 hM0, gI_9_16 hM0, gP_9_16 hM0, gR_9_17 hM0, gR_9_18 hM0, gR_9_19 hM0, gR_9_20 hM0, gI_9_21 hM0, gP_9_21 hM0, gI_9_22 hM0, gP_9_22 hM0, gI_9_23 hM0, gP_9_23 hM0, gI_9_24 hM0, gP_9_24 hM0, gR_9_25 hM0, gI_9_26 hM0, gP_9_26 hM0, gI_9_27 hM0, gP_9_27 hM0, gI_9_28 hM0, gP_9_28 hM0, gL_9_29 hM0, gP_9_29 hM0, gL_9_30 hM0, gP_9_30 hM0, cI_s, cL_s, cF_s, cD_s, cA_s, cV_s, nI_add, cond_true, cond_false, if_true, if_false]
  rw [f22 (by omega)]
  simp (disch := omega) only [iEQ_t, QX11_kindHere_42, gO_9 hM0, gI_9_0 hM0, gP_9_0 hM0, gR_9_1 hM0, gR_9_2 hM0, gI_9_3 hM0, gP_9_3 hM0, gI_9_4 hM0, gP_9_4 hM0, gR_9_5 hM0, gR_9_6 hM0, gR_9_7 hM0, gI_9_8 hM0, gP_9_8 hM0, gI_9_9 hM0, gP_9_9 hM0, gI_9_10 hM0, gP_9_10 hM0, gI_9_11 hM0, gP_9_11 hM0, gI_9_12 hM0, gP_9_12 hM0, gI_9_13 hM0, gP_9_13 hM0, gI_9_14 hM0, gP_9_14 hM0, gI_9_15 hM0, gP_9_15 hM0, gI_9_16 hM0, gP_9_16 hM0, gR_9_17 hM0, gR_9_18 hM0, gR_9_19 hM0, gR_9_20 hM0, gI_9_21 hM0, gP_9_21 hM0, gI_9_22 hM0, gP_9_22 hM0, gI_9_23 hM0, gP_9_23 hM0, gI_9_24 hM0, gP_9_24 hM0, gR_9_25 hM0, gI_9_26 hM0, gP_9_26 hM0, gI_9_27 hM0, gP_9_27 hM0, gI_9_28 hM0, gP_9_28 hM0, gL_9_29 hM0, gP_9_29 hM0, gL_9_30 hM0, gP_9_30 hM0, cI_s, cL_s, cF_s, cD_s, cA_s, cV_s, nI_add, cond_true, cond_false, if_true, if_false]
  rw [f23 (by omega)]
  simp (disch := omega) only [iEQ_t, QX11_kindHere_56, gO_9 hM0, gI_9_0 hM0, gP_9_0 hM0, gR_9_1 hM0, gR_9_2 hM0, gI_9_3 hM0, gP_9_3 hM0, gI_9_4 hM0, gP_9_4 hM0, gR_9_5 hM0, gR_9_6 hM0, gR_9_7 hM0, gI_9_8 hM0, gP_9_8 hM0, gI_9_9 hM0, gP_9_9 hM0, gI_9_10 hM0, gP_9_10 hM0, gI_9_11 hM0, gP_9_11 hM0, gI_9_12 hM0, gP_9_12 hM0, gI_9_13 hM0, gP_9_13 hM0, gI_9_14 hM0, gP_9_14 hM0, gI_9_15 hM0, gP_9_15 hM0, gI_9_16 hM0, gP_9_16 hM0, gR_9_17 hM0, gR_9_18 hM0, gR_9_19 hM0, gR_9_20 hM0, gI_9_21 hM0, gP_9_21 hM0, gI_9_22 hM0, gP_9_22 hM0, gI_9_23 hM0, gP_9_23 hM0, gI_9_24 hM0, gP_9_24 hM0, gR_9_25 hM0, gI_9_26 hM0, gP_9_26 hM0, gI_9_27 hM0, gP_9_27 hM0, gI_9_28 hM0, gP_9_28 hM0, gL_9_29 hM0, gP_9_29 hM0, gL_9_30 hM0, gP_9_30 hM0, cI_s, cL_s, cF_s, cD_s, cA_s, cV_s, nI_add, cond_true, cond_false, if_true, if_false]
  rw [f24 (by omega)]
  simp (disch := omega) only [iEQ_t, QX11_kindHere_70, gO_9 hM0, gI_9_0 hM0, gP_9_0 hM0, gR_9_1 hM0, gR_9_2 hM0, gI_9_3 hM0, gP_9_3 hM0, gI_9_4 hM0, gP_9_4 hM0, gR_9_5 hM0, gR_9_6 hM0, gR_9_7 hM0, gI_9_8 hM0, gP_9_8 hM0, gI_9_9 hM0, gP_9_9 hM0, gI_9_10 hM0, gP_9_10 hM0, gI_9_11 hM0, gP_9_11 hM0, gI_9_12 hM0, gP_9_12 hM0, gI_9_13 hM0, gP_9_13 hM0, gI_9_14 hM0, gP_9_14 hM0, gI_9_15 hM0, gP_9_15 hM0, gI_9_16 hM0, gP_9_16 hM0, gR_9_17 hM0, gR_9_18 hM0, gR_9_19 hM0, gR_9_20 hM0, gI_9_21 hM0, gP_9_21 hM0, gI_9_22 hM0, gP_9_22 hM0, gI_9_23 hM0, gP_9_23 hM0, gI_9_24 hM0, gP_9_24 hM0, gR_9_25 hM0, gI_9_26 hM0, gP_9_26 hM0, gI_9_27 hM0, gP_9_27 hM0, gI_9_28 hM0, gP_9_28 hM0, gL_9_29 hM0, gP_9_29 hM0, gL_9_30 hM0, gP_9_30 hM0, cI_s, cL_s, cF_s, cD_s, cA_s, cV_s, nI_add, cond_true, cond_false, if_true, if_false]
  rw [f25 (by omega)]
  simp (disch := omega) only [iEQ_t, QX11_kindHere_84, gO_9 hM0, gI_9_0 hM0, gP_9_0 hM0, gR_9_1 hM0, gR_9_2 hM0, gI_9_3 hM0, gP_9_3 hM0, gI_9_4 hM0, gP_9_4 hM0, gR_9_5 hM0, gR_9_6 hM0, gR_9_7 hM0, gI_9_8 hM0, gP_9_8 hM0, gI_9_9 hM0, gP_9_9 hM0, gI_9_10 hM0, gP_9_10 hM0, gI_9_11 hM0, gP_9_11 hM0, gI_9_12 hM0, gP_9_12 hM0, gI_9_13 hM0, gP_9_13 hM0, gI_9_14 hM0, gP_9_14 hM0, gI_9_15 hM0, gP_9_15 hM0, gI_9_16 hM0, gP_9_16 hM0, gR_9_17 hM0, gR_9_18 hM0, gR_9_19 hM0, gR_9_20 hM0, gI_9_21 hM0, gP_9_21 hM0, gI_9_22 hM0, gP_9_22 hM0, gI_9_23 hM0, gP_9_23 hM0, gI_9_24 hM0, gP_9_24 hM0, gR_9_25 hM0, gI_9_26 hM0, gP_9_26 hM0, gI_9_27 hM0, gP_9_27 hM0, gI_9_28 hM0, gP_9_28 hM0, gL_9_29 hM0, gP_9_29 hM0, gL_9_30 hM0, gP_9_30 hM0, cI_s, cL_s, cF_s, cD_s, cA_s, cV_s, nI_add, cond_true, cond_false, if_true, if_false]
  rw [f26 (by omega)]
  simp (disch := omega) only [iEQ_t, QX11_kindHere_99, QX11_kindHere_100, cI_s, cL_s, cF_s, cD_s, cA_s, cV_s, nI_add, cond_true, cond_false, if_true, if_false]
theorem t_letter {σ : xH} (hL : L ≤ 500) (ht : ∀ i, i < L → tx i < 256) (d : Nat) : xsem xT E (d + 1) kX11_isLetter [.int (hc tx L p)] σ = some (.inl (some (.int (nI (if p < L ∧ kd (tx p) = 2 then 1 else 0)))), σ) := m_isLetter ht d
theorem tk_22 (hL : L ≤ 500) (hx : nx tx L p = p) {k : Nat} (hk : k ≤ 6) (e : tk tx L p = 22 + k) : p < L ∧ kd (tx p) = 2 := by
  obtain ⟨a, b, _⟩ := wd_ad hL hx (j := 20 + k) (by omega) (by omega) (by omega)
  exact ⟨a, b⟩
/-- a piece is read on both sides alike: n1 is what the program then has -/
def oC1 (E : xEn) (x y n m : Nat) (sh : Nat → Option xSh) (tx : Nat → Nat) (L : Nat) (S M : xSt) (P : Nat → Nat → Nat) (p N dep : Nat) (G : (Nat → Nat → Nat) → Nat → Prop) (cr mr : Option xR) : Prop :=
  (∃ S' M' P' N' p', cr = some (.inl (some (.int (nI 1))), (wW E x sh S', n)) ∧ mr = some (.inl (some (.int (nI 1))), (wW E y shM M', m)) ∧ RC S' M' tx L p' N' dep P' ∧ N ≤ N' ∧ p ≤ p' ∧ (∀ k, k < N → P' k = P k) ∧ G P' N' ∧ frW S S' ∧ frV M M') ∨
  (∃ S' M', cr = some (.inl (some (.int (nI 0))), (wW E x sh S', n)) ∧ mr = some (.inl (some (.int (nI 0))), (wW E y shM M', m)) ∧ xF S' M' ∧ frW S S' ∧ frV M M')
theorem j_cmd (h3 : hI sh 1) (h6 : hS6 sh) (H : hEn E x) (H' : hEn E y) (R : RC S M tx L p N dep P) {K : Nat} (hK : K < 6) (e : tk tx L p = 22 + K) (hN : N < 60) (d u : Nat) :
    oC1 E x y n m sh tx L S M P p N dep (fun P' N' => N' = N + 1 ∧ P' N 0 = K) (xsem xT E (d + 3) kX6_readCommand [.ref (x + 6), .ref (x + 1)] (wW E x sh S, n)) (xsem xT E (u + 7) kX11_readsCommand [.ref y] (wW E y shM M, m)) := by
  have a3 := h3.1
  have b0 := h6.1
  obtain ⟨Q, Km, PC, hd⟩ := R
  obtain ⟨hpL, hL, hx, ht⟩ := mQ_le Km
  obtain ⟨hp, hk2⟩ := tk_22 hL hx (by omega) e
  have hgt := ad_gt (tx := tx) hL hp
  obtain ⟨S1, s1, Q1, f1⟩ := c_advance (E := E) (x := x) (n := n) h3 Q (d + 1)
  obtain ⟨M1, m1, K1, g1⟩ := m_kind (E := E) (y := y) (m := m) H' Km (by omega) e u
  have PC1 := pC_I PC f1 g1
  have hn1 : S1.1 6 4 = nI N := PC1.1
  have hm1 : M1.1 0 21 = nI N := PC1.2.1
  have hd1 : M1.1 0 22 = nI dep := (g1.1 22 (by omega)).trans hd
  have hne : ¬ nI K = (-1 : Int32) := by
    have : ∀ k : Nat, k < 6 → ¬ nI k = (-1 : Int32) := by decide
    exact this K hK
  have ha6 : ∀ v : Nat → Nat, updP P N v N = v := fun v => updP_s
  have keep : ∀ v : Nat → Nat, ∀ k, k < N → updP P N v k = P k := fun v k hk => updP_n (by omega)
  have hc0 : ∀ r, (if nI (nbO K) ≤ nI 0 then qX6_readCommand_29 E (d + 2) (x + 6) (x + 1) (E.1 (22 + K)) (nI (nbO K)) (wW E x sh S1, n) else gO E (wW E x sh S1, n) 3 (x + 1) (cI (xthr 1 some) (xsem xT E (d + 2) kX3_takeNumber [.ref (x + 1), .int (nI 0), .int (nI 9999)] (wW E x sh S1, n)) (fun v3 σ4 => qX6_readCommand_30 E (d + 2) (x + 6) (x + 1) (E.1 (22 + K)) (nI (nbO K)) v3 σ4))) = r → xsem xT E (d + 3) kX6_readCommand [.ref (x + 6), .ref (x + 1)] (wW E x sh S, n) = r := by
    intro r hr
    rw [eX6_readCommand, QX6_readCommand_0]
    simp (disch := omega) only [gO_3 a3, gR_3_0 a3, gI_3_1 a3, gP_3_1 a3, gI_3_2 a3, gP_3_2 a3, gR_3_3 a3, gR_3_4 a3, gR_3_5 a3, gI_3_6 a3, gP_3_6 a3, gI_3_7 a3, gP_3_7 a3, gI_3_8 a3, gP_3_8 a3, gI_3_9 a3, gP_3_9 a3, c_token h3 Q, e, cI_s, cL_s, cF_s, cD_s, cA_s, cV_s, nI_add, cond_true, cond_false, if_true, if_false]
    rw [c_nb H (by omega)]
    simp (disch := omega) only [gO_3 a3, gR_3_0 a3, gI_3_1 a3, gP_3_1 a3, gI_3_2 a3, gP_3_2 a3, gR_3_3 a3, gR_3_4 a3, gR_3_5 a3, gI_3_6 a3, gP_3_6 a3, gI_3_7 a3, gP_3_7 a3, gI_3_8 a3, gP_3_8 a3, gI_3_9 a3, gP_3_9 a3, s1, cI_s, cL_s, cF_s, cD_s, cA_s, cV_s, nI_add, cond_true, cond_false, if_true, if_false]
    simp (disch := omega) only [gO_3 a3, gR_3_0 a3, gI_3_1 a3, gP_3_1 a3, gI_3_2 a3, gP_3_2 a3, gR_3_3 a3, gR_3_4 a3, gR_3_5 a3, gI_3_6 a3, gP_3_6 a3, gI_3_7 a3, gP_3_7 a3, gI_3_8 a3, gP_3_8 a3, gI_3_9 a3, gP_3_9 a3] at hr
    exact hr
  -- the reference has the command's kind
  have hMw : mQ (sA (sS M1 0 21 (nI (N + 1))) 6 (upd (M1.2.1 6) N (nI K))) tx L (ad tx L p) := mQ_A (mQ_o K1 (by omega)) (by omega)
  generalize hM2 : sA (sS M1 0 21 (nI (N + 1))) 6 (upd (M1.2.1 6) N (nI K)) = M2 at hMw
  have f2 : frV M M2 := by rw [← hM2]; exact frV_tr (frV_R g1) (frV_tr (frV_S (by omega)) (frV_A (by omega)))
  have m21 : M2.1 0 21 = nI (N + 1) := by rw [← hM2, sA_1, sS_s]
  have m22 : M2.1 0 22 = nI dep := by rw [← hM2, sA_1, sS_n (by omega)]; exact hd1
  have m6 : M2.2.1 6 = upd (M1.2.1 6) N (nI K) := by rw [← hM2, sA_s]
  have m7 : M2.2.1 7 = M1.2.1 7 := by rw [← hM2, sA_n (by omega)]; rfl
  have m8 : M2.2.1 8 = M1.2.1 8 := by rw [← hM2, sA_n (by omega)]; rfl
  have m9 : M2.2.1 9 = M1.2.1 9 := by rw [← hM2, sA_n (by omega)]; rfl
  have hm0 : ∀ r, qX11_readsCommand_101 E (u + 6) y (nI K) (nI N) (wW E y shM M2, m) = r → xsem xT E (u + 7) kX11_readsCommand [.ref y] (wW E y shM M, m) = r := by
    intro r hr
    rw [← hr, ← hM2, eX11_readsCommand, QX11_readsCommand_0]
    simp (disch := omega) only [gO_9 hM0, gI_9_0 hM0, gP_9_0 hM0, gR_9_1 hM0, gR_9_2 hM0, gI_9_3 hM0, gP_9_3 hM0, gI_9_4 hM0, gP_9_4 hM0, gR_9_5 hM0, gR_9_6 hM0, gR_9_7 hM0, gI_9_8 hM0, gP_9_8 hM0, gI_9_9 hM0, gP_9_9 hM0, gI_9_10 hM0, gP_9_10 hM0, gI_9_11 hM0, gP_9_11 hM0, gI_9_12 hM0, gP_9_12 hM0, gI_9_13 hM0, gP_9_13 hM0, gI_9_14 hM0, gP_9_14 hM0, gI_9_15 hM0, gP_9_15 hM0, gI_9_16 hM0, gP_9_16 hM0, gR_9_17 hM0, gR_9_18 hM0, gR_9_19 hM0, gR_9_20 hM0, gI_9_21 hM0, gP_9_21 hM0, gI_9_22 hM0, gP_9_22 hM0, gI_9_23 hM0, gP_9_23 hM0, gI_9_24 hM0, gP_9_24 hM0, gR_9_25 hM0, gI_9_26 hM0, gP_9_26 hM0, gI_9_27 hM0, gP_9_27 hM0, gI_9_28 hM0, gP_9_28 hM0, gL_9_29 hM0, gP_9_29 hM0, gL_9_30 hM0, gP_9_30 hM0, t_here Km, mP_10, cI_s, cL_s, cF_s, cD_s, cA_s, cV_s, nI_add, cond_true, cond_false, if_true, if_false]
    rw [m1]
    simp (disch := omega) only [if_neg hne, QX11_readsCommand_28, gO_9 hM0, gI_9_0 hM0, gP_9_0 hM0, gR_9_1 hM0, gR_9_2 hM0, gI_9_3 hM0, gP_9_3 hM0, gI_9_4 hM0, gP_9_4 hM0, gR_9_5 hM0, gR_9_6 hM0, gR_9_7 hM0, gI_9_8 hM0, gP_9_8 hM0, gI_9_9 hM0, gP_9_9 hM0, gI_9_10 hM0, gP_9_10 hM0, gI_9_11 hM0, gP_9_11 hM0, gI_9_12 hM0, gP_9_12 hM0, gI_9_13 hM0, gP_9_13 hM0, gI_9_14 hM0, gP_9_14 hM0, gI_9_15 hM0, gP_9_15 hM0, gI_9_16 hM0, gP_9_16 hM0, gR_9_17 hM0, gR_9_18 hM0, gR_9_19 hM0, gR_9_20 hM0, gI_9_21 hM0, gP_9_21 hM0, gI_9_22 hM0, gP_9_22 hM0, gI_9_23 hM0, gP_9_23 hM0, gI_9_24 hM0, gP_9_24 hM0, gR_9_25 hM0, gI_9_26 hM0, gP_9_26 hM0, gI_9_27 hM0, gP_9_27 hM0, gI_9_28 hM0, gP_9_28 hM0, gL_9_29 hM0, gP_9_29 hM0, gL_9_30 hM0, gP_9_30 hM0, hm1, iEQ_f (show N ≠ 60 by omega), QX11_readsCommand_45, iEQ_f (show K ≠ 6 by omega), QX11_readsCommand_67, sI_w hM6, sS_a, cI_s, cL_s, cF_s, cD_s, cA_s, cV_s, nI_add, cond_true, cond_false, if_true, if_false]
  by_cases k2 : K = 2
  · subst k2
    have hput := c_put (E := E) (x := x) (n := n) h6 hn1 hN (t := 24) (by omega) 0 0 (d + 1)
    refine Or.inl ⟨cP S1 N 24 0 0, M2, updP P N (ent 2 0 0 0), N + 1, ad tx L p, hc0 _ ?_, hm0 _ ?_, ⟨cQ_P Q1, hMw, ?_, m22⟩, by omega, by omega, keep _, ⟨rfl, by rw [ha6]; rfl⟩, frW_tr (frW_I f1) frW_P, f2⟩
    · rw [show nI (nbO 2) = nI 0 from rfl]
      simp (disch := omega) only [iLE_t, QX6_readCommand_29, QX6_readCommand_30, QX6_readCommand_39, QX6_readCommand_55, QX6_readCommand_56, QX6_readCommand_65, gO_6 b0, gR_6_0 b0, gR_6_1 b0, gR_6_2 b0, gR_6_3 b0, gI_6_4 b0, gP_6_4 b0, gI_6_5 b0, gP_6_5 b0, cI_s, cL_s, cF_s, cD_s, cA_s, cV_s, nI_add, cond_true, cond_false, if_true, if_false]
      rw [hput]
      simp (disch := omega) only [xret5_1, cI_s, cL_s, cF_s, cD_s, cA_s, cV_s, nI_add, cond_true, cond_false, if_true, if_false]
    · rw [QX11_readsCommand_101]
      simp (disch := omega) only [iEQ_t, xret5_1, cI_s, cL_s, cF_s, cD_s, cA_s, cV_s, nI_add, cond_true, cond_false, if_true, if_false]
    · exact pC_put PC1 hN (by omega) (by omega) (by omega) cP_4 cP_7 cP_8 cP_9 cP_10 m21 m6 (fun k _ => by rw [m7]) (fun z => absurd rfl z) (fun k _ => by rw [m8]) (fun z => absurd z (by omega)) m9
  · have hnb : nbO K = 1 ∨ nbO K = 2 := by
      unfold nbO
      by_cases c : K ≤ 1
      · exact Or.inr (if_pos c)
      · rw [if_neg c, if_neg k2]; exact Or.inl rfl
    have hm1 : ∀ r, qX11_readsCommand_108 E (u + 6) y (nI K) (nI N) (wW E y shM M2, m) = r → xsem xT E (u + 7) kX11_readsCommand [.ref y] (wW E y shM M, m) = r := by
      intro r hr
      refine hm0 r ?_
      rw [QX11_readsCommand_101]
      simp (disch := omega) only [iEQ_f k2, hr, cI_s, cL_s, cF_s, cD_s, cA_s, cV_s, nI_add, cond_true, cond_false, if_true, if_false]
    have hc1 : ∀ r, (gO E (wW E x sh S1, n) 3 (x + 1) (cI (xthr 1 some) (xsem xT E (d + 2) kX3_takeNumber [.ref (x + 1), .int (nI 0), .int (nI 9999)] (wW E x sh S1, n)) (fun v3 σ4 => qX6_readCommand_30 E (d + 2) (x + 6) (x + 1) (E.1 (22 + K)) (nI (nbO K)) v3 σ4))) = r → xsem xT E (d + 3) kX6_readCommand [.ref (x + 6), .ref (x + 1)] (wW E x sh S, n) = r := by
      intro r hr
      refine hc0 r ?_
      rw [iLE_f (by omega) (by omega)]
      exact hr
    rcases j_num (E := E) (x := x) (y := y) (n := n) (m := m) h3 H Q1 hMw (lo := 0) (hi := 9999) (by omega) (by omega) d (u + 4) with ⟨S3, M3, q1, q2, Q3, K3, q13, fs3, fm3, _, hv, hp2⟩ | ⟨S3, M3, q1, q2, q3, fs3, fm3⟩
    · generalize hav : nu tx L (ad tx L p) = a at *
      have K4 : mQ (sA M3 7 (upd (M3.2.1 7) N (nI a))) tx L (ad tx L (ad tx L p)) := mQ_A K3 (by omega)
      have hn3 : S3.1 6 4 = nI N := (congrFun (fs3.1 6 (by omega)) 4).trans hn1
      have S37 : S3.2.2.2.2 7 = S1.2.2.2.2 7 := by rw [fs3.2.2.2]
      have S38 : S3.2.1 8 = S1.2.1 8 := fs3.2.2.1 8 (by omega)
      have S39 : S3.2.1 9 = S1.2.1 9 := fs3.2.2.1 9 (by omega)
      have S310 : S3.2.1 10 = S1.2.1 10 := fs3.2.2.1 10 (by omega)
      have M3' : ∀ j, M3.2.1 j = M2.2.1 j := fun j => by rw [fm3.2]
      by_cases k1 : K ≤ 1
      · have hnb2 : nbO K = 2 := if_pos k1
        have hc2 : ∀ r, (gO E (wW E x sh S3, n) 3 (x + 1) (cI (xthr 1 some) (xsem xT E (d + 2) kX3_takeNumber [.ref (x + 1), .int (nI 0), .int (nI 9999)] (wW E x sh S3, n)) (fun v1 σ1 => qX6_readCommand_56 E (d + 2) (x + 6) (E.1 (22 + K)) (nI a) v1 σ1))) = r → xsem xT E (d + 3) kX6_readCommand [.ref (x + 6), .ref (x + 1)] (wW E x sh S, n) = r := by
          intro r hr
          refine hc1 r ?_
          simp (disch := omega) only [gO_3 a3, gR_3_0 a3, gI_3_1 a3, gP_3_1 a3, gI_3_2 a3, gP_3_2 a3, gR_3_3 a3, gR_3_4 a3, gR_3_5 a3, gI_3_6 a3, gP_3_6 a3, gI_3_7 a3, gP_3_7 a3, gI_3_8 a3, gP_3_8 a3, gI_3_9 a3, gP_3_9 a3, cI_s, cL_s, cF_s, cD_s, cA_s, cV_s, nI_add, cond_true, cond_false, if_true, if_false]
          rw [q1]
          simp (disch := omega) only [QX6_readCommand_30, iLE_t, QX6_readCommand_39, hnb2, iLE_f, cI_s, cL_s, cF_s, cD_s, cA_s, cV_s, nI_add, cond_true, cond_false, if_true, if_false]
          exact hr
        have hm2 : ∀ r, (gO E (wW E y shM (sA M3 7 (upd (M3.2.1 7) N (nI a))), m) 9 y (cI (xthr 1 some) (xsem xT E (u + 6) kX11_reads [.ref y, .int (nI 0), .int (nI 9999)] (wW E y shM (sA M3 7 (upd (M3.2.1 7) N (nI a))), m)) (fun v1 σ1 => if v1 = nI 0 then xiret [5] (nI 0) (some (.inl (some (.int (nI 0))), σ1)) else qX11_readsCommand_151 E (u + 6) y (nI N) σ1))) = r → xsem xT E (u + 7) kX11_readsCommand [.ref y] (wW E y shM M, m) = r := by
          intro r hr
          refine hm1 r ?_
          rw [QX11_readsCommand_108]
          simp (disch := omega) only [gO_9 hM0, gI_9_0 hM0, gP_9_0 hM0, gR_9_1 hM0, gR_9_2 hM0, gI_9_3 hM0, gP_9_3 hM0, gI_9_4 hM0, gP_9_4 hM0, gR_9_5 hM0, gR_9_6 hM0, gR_9_7 hM0, gI_9_8 hM0, gP_9_8 hM0, gI_9_9 hM0, gP_9_9 hM0, gI_9_10 hM0, gP_9_10 hM0, gI_9_11 hM0, gP_9_11 hM0, gI_9_12 hM0, gP_9_12 hM0, gI_9_13 hM0, gP_9_13 hM0, gI_9_14 hM0, gP_9_14 hM0, gI_9_15 hM0, gP_9_15 hM0, gI_9_16 hM0, gP_9_16 hM0, gR_9_17 hM0, gR_9_18 hM0, gR_9_19 hM0, gR_9_20 hM0, gI_9_21 hM0, gP_9_21 hM0, gI_9_22 hM0, gP_9_22 hM0, gI_9_23 hM0, gP_9_23 hM0, gI_9_24 hM0, gP_9_24 hM0, gR_9_25 hM0, gI_9_26 hM0, gP_9_26 hM0, gI_9_27 hM0, gP_9_27 hM0, gI_9_28 hM0, gP_9_28 hM0, gL_9_29 hM0, gP_9_29 hM0, gL_9_30 hM0, gP_9_30 hM0, cI_s, cL_s, cF_s, cD_s, cA_s, cV_s, nI_add, cond_true, cond_false, if_true, if_false]
          rw [q2]
          simp (disch := omega) only [iEQ_f, QX11_readsCommand_121, gO_9 hM0, gI_9_0 hM0, gP_9_0 hM0, gR_9_1 hM0, gR_9_2 hM0, gI_9_3 hM0, gP_9_3 hM0, gI_9_4 hM0, gP_9_4 hM0, gR_9_5 hM0, gR_9_6 hM0, gR_9_7 hM0, gI_9_8 hM0, gP_9_8 hM0, gI_9_9 hM0, gP_9_9 hM0, gI_9_10 hM0, gP_9_10 hM0, gI_9_11 hM0, gP_9_11 hM0, gI_9_12 hM0, gP_9_12 hM0, gI_9_13 hM0, gP_9_13 hM0, gI_9_14 hM0, gP_9_14 hM0, gI_9_15 hM0, gP_9_15 hM0, gI_9_16 hM0, gP_9_16 hM0, gR_9_17 hM0, gR_9_18 hM0, gR_9_19 hM0, gR_9_20 hM0, gI_9_21 hM0, gP_9_21 hM0, gI_9_22 hM0, gP_9_22 hM0, gI_9_23 hM0, gP_9_23 hM0, gI_9_24 hM0, gP_9_24 hM0, gR_9_25 hM0, gI_9_26 hM0, gP_9_26 hM0, gI_9_27 hM0, gP_9_27 hM0, gI_9_28 hM0, gP_9_28 hM0, gL_9_29 hM0, gP_9_29 hM0, gL_9_30 hM0, gP_9_30 hM0, q13, sI_w hM7, iLE_t, QX11_readsCommand_138, cI_s, cL_s, cF_s, cD_s, cA_s, cV_s, nI_add, cond_true, cond_false, if_true, if_false]
          simp (disch := omega) only [gO_9 hM0, gI_9_0 hM0, gP_9_0 hM0, gR_9_1 hM0, gR_9_2 hM0, gI_9_3 hM0, gP_9_3 hM0, gI_9_4 hM0, gP_9_4 hM0, gR_9_5 hM0, gR_9_6 hM0, gR_9_7 hM0, gI_9_8 hM0, gP_9_8 hM0, gI_9_9 hM0, gP_9_9 hM0, gI_9_10 hM0, gP_9_10 hM0, gI_9_11 hM0, gP_9_11 hM0, gI_9_12 hM0, gP_9_12 hM0, gI_9_13 hM0, gP_9_13 hM0, gI_9_14 hM0, gP_9_14 hM0, gI_9_15 hM0, gP_9_15 hM0, gI_9_16 hM0, gP_9_16 hM0, gR_9_17 hM0, gR_9_18 hM0, gR_9_19 hM0, gR_9_20 hM0, gI_9_21 hM0, gP_9_21 hM0, gI_9_22 hM0, gP_9_22 hM0, gI_9_23 hM0, gP_9_23 hM0, gI_9_24 hM0, gP_9_24 hM0, gR_9_25 hM0, gI_9_26 hM0, gP_9_26 hM0, gI_9_27 hM0, gP_9_27 hM0, gI_9_28 hM0, gP_9_28 hM0, gL_9_29 hM0, gP_9_29 hM0, gL_9_30 hM0, gP_9_30 hM0] at hr
          exact hr
        rcases j_num (E := E) (x := x) (y := y) (n := n) (m := m) h3 H Q3 K4 (lo := 0) (hi := 9999) (by omega) (by omega) d (u + 4) with ⟨S5, M5, w1, w2, Q5, K5, w13, fs5, fm5, _, hv5, hp5⟩ | ⟨S5, M5, w1, w2, w3, fs5, fm5⟩
        · generalize hbv : nu tx L (ad tx L (ad tx L p)) = b at *
          have hn5 : S5.1 6 4 = nI N := (congrFun (fs5.1 6 (by omega)) 4).trans hn3
          have hput := c_put (E := E) (x := x) (n := n) h6 hn5 hN (t := 22 + K) (by omega) a b (d + 1)
          have M5' : ∀ j, M5.2.1 j = (sA M3 7 (upd (M3.2.1 7) N (nI a))).2.1 j := fun j => by rw [fm5.2]
          have frM : frV M (sA M5 8 (upd (M5.2.1 8) N (nI b))) := frV_tr f2 (frV_tr (frV_R fm3) (frV_tr (frV_A (by omega)) (frV_tr (frV_R fm5) (frV_A (by omega)))))
          refine Or.inl ⟨cP S5 N (22 + K) a b, sA M5 8 (upd (M5.2.1 8) N (nI b)), updP P N (ent K a b 0), N + 1, ad tx L (ad tx L (ad tx L p)), hc2 _ ?_, hm2 _ ?_, ⟨cQ_P Q5, mQ_A K5 (by omega), ?_, ?_⟩, by omega, by omega, keep _, ⟨rfl, by rw [ha6]; rfl⟩, frW_tr (frW_tr (frW_I f1) (frW_I fs3)) (frW_tr (frW_I fs5) frW_P), frM⟩
          · simp (disch := omega) only [gO_3 a3, gR_3_0 a3, gI_3_1 a3, gP_3_1 a3, gI_3_2 a3, gP_3_2 a3, gR_3_3 a3, gR_3_4 a3, gR_3_5 a3, gI_3_6 a3, gP_3_6 a3, gI_3_7 a3, gP_3_7 a3, gI_3_8 a3, gP_3_8 a3, gI_3_9 a3, gP_3_9 a3, cI_s, cL_s, cF_s, cD_s, cA_s, cV_s, nI_add, cond_true, cond_false, if_true, if_false]
            rw [w1]
            simp (disch := omega) only [QX6_readCommand_56, iLE_t, QX6_readCommand_65, gO_6 b0, gR_6_0 b0, gR_6_1 b0, gR_6_2 b0, gR_6_3 b0, gI_6_4 b0, gP_6_4 b0, gI_6_5 b0, gP_6_5 b0, cI_s, cL_s, cF_s, cD_s, cA_s, cV_s, nI_add, cond_true, cond_false, if_true, if_false]
            rw [hput]
            simp (disch := omega) only [xret5_1, cI_s, cL_s, cF_s, cD_s, cA_s, cV_s, nI_add, cond_true, cond_false, if_true, if_false]
          · simp (disch := omega) only [gO_9 hM0, gI_9_0 hM0, gP_9_0 hM0, gR_9_1 hM0, gR_9_2 hM0, gI_9_3 hM0, gP_9_3 hM0, gI_9_4 hM0, gP_9_4 hM0, gR_9_5 hM0, gR_9_6 hM0, gR_9_7 hM0, gI_9_8 hM0, gP_9_8 hM0, gI_9_9 hM0, gP_9_9 hM0, gI_9_10 hM0, gP_9_10 hM0, gI_9_11 hM0, gP_9_11 hM0, gI_9_12 hM0, gP_9_12 hM0, gI_9_13 hM0, gP_9_13 hM0, gI_9_14 hM0, gP_9_14 hM0, gI_9_15 hM0, gP_9_15 hM0, gI_9_16 hM0, gP_9_16 hM0, gR_9_17 hM0, gR_9_18 hM0, gR_9_19 hM0, gR_9_20 hM0, gI_9_21 hM0, gP_9_21 hM0, gI_9_22 hM0, gP_9_22 hM0, gI_9_23 hM0, gP_9_23 hM0, gI_9_24 hM0, gP_9_24 hM0, gR_9_25 hM0, gI_9_26 hM0, gP_9_26 hM0, gI_9_27 hM0, gP_9_27 hM0, gI_9_28 hM0, gP_9_28 hM0, gL_9_29 hM0, gP_9_29 hM0, gL_9_30 hM0, gP_9_30 hM0, cI_s, cL_s, cF_s, cD_s, cA_s, cV_s, nI_add, cond_true, cond_false, if_true, if_false]
            rw [w2]
            simp (disch := omega) only [iEQ_f, QX11_readsCommand_151, gO_9 hM0, gI_9_0 hM0, gP_9_0 hM0, gR_9_1 hM0, gR_9_2 hM0, gI_9_3 hM0, gP_9_3 hM0, gI_9_4 hM0, gP_9_4 hM0, gR_9_5 hM0, gR_9_6 hM0, gR_9_7 hM0, gI_9_8 hM0, gP_9_8 hM0, gI_9_9 hM0, gP_9_9 hM0, gI_9_10 hM0, gP_9_10 hM0, gI_9_11 hM0, gP_9_11 hM0, gI_9_12 hM0, gP_9_12 hM0, gI_9_13 hM0, gP_9_13 hM0, gI_9_14 hM0, gP_9_14 hM0, gI_9_15 hM0, gP_9_15 hM0, gI_9_16 hM0, gP_9_16 hM0, gR_9_17 hM0, gR_9_18 hM0, gR_9_19 hM0, gR_9_20 hM0, gI_9_21 hM0, gP_9_21 hM0, gI_9_22 hM0, gP_9_22 hM0, gI_9_23 hM0, gP_9_23 hM0, gI_9_24 hM0, gP_9_24 hM0, gR_9_25 hM0, gI_9_26 hM0, gP_9_26 hM0, gI_9_27 hM0, gP_9_27 hM0, gI_9_28 hM0, gP_9_28 hM0, gL_9_29 hM0, gP_9_29 hM0, gL_9_30 hM0, gP_9_30 hM0, w13, sI_w hM8, xret5_1, cI_s, cL_s, cF_s, cD_s, cA_s, cV_s, nI_add, cond_true, cond_false, if_true, if_false]
          · refine pC_put PC1 hN (by omega) hv hv5 cP_4 ?_ ?_ ?_ ?_ ?_ ?_ (fun k hk => ?_) (fun _ => ?_) (fun k hk => ?_) (fun _ => ?_) ?_
            · rw [cP_7, fs5.2.2.2, S37]
            · rw [cP_8, fs5.2.2.1 8 (by omega), S38]
            · rw [cP_9, fs5.2.2.1 9 (by omega), S39]
            · rw [cP_10, fs5.2.2.1 10 (by omega), S310]
            · exact ((fm5.1 21 (by omega)).trans (fm3.1 21 (by omega))).trans m21
            · rw [sA_n (by omega), M5', sA_n (by omega), M3', m6]
            · rw [sA_n (by omega), M5', sA_s, pk_un hk, M3', m7]
            · rw [sA_n (by omega), M5', sA_s, pk_us]
            · rw [sA_s, pk_un hk, M5', sA_n (by omega), M3', m8]
            · rw [sA_s, pk_us]
            · rw [sA_n (by omega), M5', sA_n (by omega), M3', m9]
          · exact ((fm5.1 22 (by omega)).trans (fm3.1 22 (by omega))).trans m22
        · refine Or.inr ⟨S5, M5, hc2 _ ?_, hm2 _ ?_, w3, frW_tr (frW_tr (frW_I f1) (frW_I fs3)) (frW_I fs5), frV_tr f2 (frV_tr (frV_R fm3) (frV_tr (frV_A (by omega)) (frV_R fm5)))⟩
          · simp (disch := omega) only [gO_3 a3, gR_3_0 a3, gI_3_1 a3, gP_3_1 a3, gI_3_2 a3, gP_3_2 a3, gR_3_3 a3, gR_3_4 a3, gR_3_5 a3, gI_3_6 a3, gP_3_6 a3, gI_3_7 a3, gP_3_7 a3, gI_3_8 a3, gP_3_8 a3, gI_3_9 a3, gP_3_9 a3, cI_s, cL_s, cF_s, cD_s, cA_s, cV_s, nI_add, cond_true, cond_false, if_true, if_false]
            rw [w1]
            simp (disch := omega) only [QX6_readCommand_56, if_neg neg1, xret5_0, cI_s, cL_s, cF_s, cD_s, cA_s, cV_s, nI_add, cond_true, cond_false, if_true, if_false]
          · simp (disch := omega) only [gO_9 hM0, gI_9_0 hM0, gP_9_0 hM0, gR_9_1 hM0, gR_9_2 hM0, gI_9_3 hM0, gP_9_3 hM0, gI_9_4 hM0, gP_9_4 hM0, gR_9_5 hM0, gR_9_6 hM0, gR_9_7 hM0, gI_9_8 hM0, gP_9_8 hM0, gI_9_9 hM0, gP_9_9 hM0, gI_9_10 hM0, gP_9_10 hM0, gI_9_11 hM0, gP_9_11 hM0, gI_9_12 hM0, gP_9_12 hM0, gI_9_13 hM0, gP_9_13 hM0, gI_9_14 hM0, gP_9_14 hM0, gI_9_15 hM0, gP_9_15 hM0, gI_9_16 hM0, gP_9_16 hM0, gR_9_17 hM0, gR_9_18 hM0, gR_9_19 hM0, gR_9_20 hM0, gI_9_21 hM0, gP_9_21 hM0, gI_9_22 hM0, gP_9_22 hM0, gI_9_23 hM0, gP_9_23 hM0, gI_9_24 hM0, gP_9_24 hM0, gR_9_25 hM0, gI_9_26 hM0, gP_9_26 hM0, gI_9_27 hM0, gP_9_27 hM0, gI_9_28 hM0, gP_9_28 hM0, gL_9_29 hM0, gP_9_29 hM0, gL_9_30 hM0, gP_9_30 hM0, cI_s, cL_s, cF_s, cD_s, cA_s, cV_s, nI_add, cond_true, cond_false, if_true, if_false]
            rw [w2]
            simp (disch := omega) only [iEQ_t, xret5_0, cI_s, cL_s, cF_s, cD_s, cA_s, cV_s, nI_add, cond_true, cond_false, if_true, if_false]
      · have hnb1 : nbO K = 1 := by unfold nbO; rw [if_neg k1, if_neg k2]
        have hput := c_put (E := E) (x := x) (n := n) h6 hn3 hN (t := 22 + K) (by omega) a 0 (d + 1)
        have frM : frV M (sA M3 7 (upd (M3.2.1 7) N (nI a))) := frV_tr f2 (frV_tr (frV_R fm3) (frV_A (by omega)))
        refine Or.inl ⟨cP S3 N (22 + K) a 0, sA M3 7 (upd (M3.2.1 7) N (nI a)), updP P N (ent K a 0 0), N + 1, ad tx L (ad tx L p), hc1 _ ?_, hm1 _ ?_, ⟨cQ_P Q3, K4, ?_, ?_⟩, by omega, by omega, keep _, ⟨rfl, by rw [ha6]; rfl⟩, frW_tr (frW_tr (frW_I f1) (frW_I fs3)) frW_P, frM⟩
        · simp (disch := omega) only [gO_3 a3, gR_3_0 a3, gI_3_1 a3, gP_3_1 a3, gI_3_2 a3, gP_3_2 a3, gR_3_3 a3, gR_3_4 a3, gR_3_5 a3, gI_3_6 a3, gP_3_6 a3, gI_3_7 a3, gP_3_7 a3, gI_3_8 a3, gP_3_8 a3, gI_3_9 a3, gP_3_9 a3, cI_s, cL_s, cF_s, cD_s, cA_s, cV_s, nI_add, cond_true, cond_false, if_true, if_false]
          rw [q1]
          simp (disch := omega) only [QX6_readCommand_30, iLE_t, QX6_readCommand_39, hnb1, QX6_readCommand_55, QX6_readCommand_56, QX6_readCommand_65, gO_6 b0, gR_6_0 b0, gR_6_1 b0, gR_6_2 b0, gR_6_3 b0, gI_6_4 b0, gP_6_4 b0, gI_6_5 b0, gP_6_5 b0, cI_s, cL_s, cF_s, cD_s, cA_s, cV_s, nI_add, cond_true, cond_false, if_true, if_false]
          rw [hput]
          simp (disch := omega) only [xret5_1, cI_s, cL_s, cF_s, cD_s, cA_s, cV_s, nI_add, cond_true, cond_false, if_true, if_false]
        · rw [QX11_readsCommand_108]
          simp (disch := omega) only [gO_9 hM0, gI_9_0 hM0, gP_9_0 hM0, gR_9_1 hM0, gR_9_2 hM0, gI_9_3 hM0, gP_9_3 hM0, gI_9_4 hM0, gP_9_4 hM0, gR_9_5 hM0, gR_9_6 hM0, gR_9_7 hM0, gI_9_8 hM0, gP_9_8 hM0, gI_9_9 hM0, gP_9_9 hM0, gI_9_10 hM0, gP_9_10 hM0, gI_9_11 hM0, gP_9_11 hM0, gI_9_12 hM0, gP_9_12 hM0, gI_9_13 hM0, gP_9_13 hM0, gI_9_14 hM0, gP_9_14 hM0, gI_9_15 hM0, gP_9_15 hM0, gI_9_16 hM0, gP_9_16 hM0, gR_9_17 hM0, gR_9_18 hM0, gR_9_19 hM0, gR_9_20 hM0, gI_9_21 hM0, gP_9_21 hM0, gI_9_22 hM0, gP_9_22 hM0, gI_9_23 hM0, gP_9_23 hM0, gI_9_24 hM0, gP_9_24 hM0, gR_9_25 hM0, gI_9_26 hM0, gP_9_26 hM0, gI_9_27 hM0, gP_9_27 hM0, gI_9_28 hM0, gP_9_28 hM0, gL_9_29 hM0, gP_9_29 hM0, gL_9_30 hM0, gP_9_30 hM0, cI_s, cL_s, cF_s, cD_s, cA_s, cV_s, nI_add, cond_true, cond_false, if_true, if_false]
          rw [q2]
          simp (disch := omega) only [iEQ_f, QX11_readsCommand_121, gO_9 hM0, gI_9_0 hM0, gP_9_0 hM0, gR_9_1 hM0, gR_9_2 hM0, gI_9_3 hM0, gP_9_3 hM0, gI_9_4 hM0, gP_9_4 hM0, gR_9_5 hM0, gR_9_6 hM0, gR_9_7 hM0, gI_9_8 hM0, gP_9_8 hM0, gI_9_9 hM0, gP_9_9 hM0, gI_9_10 hM0, gP_9_10 hM0, gI_9_11 hM0, gP_9_11 hM0, gI_9_12 hM0, gP_9_12 hM0, gI_9_13 hM0, gP_9_13 hM0, gI_9_14 hM0, gP_9_14 hM0, gI_9_15 hM0, gP_9_15 hM0, gI_9_16 hM0, gP_9_16 hM0, gR_9_17 hM0, gR_9_18 hM0, gR_9_19 hM0, gR_9_20 hM0, gI_9_21 hM0, gP_9_21 hM0, gI_9_22 hM0, gP_9_22 hM0, gI_9_23 hM0, gP_9_23 hM0, gI_9_24 hM0, gP_9_24 hM0, gR_9_25 hM0, gI_9_26 hM0, gP_9_26 hM0, gI_9_27 hM0, gP_9_27 hM0, gI_9_28 hM0, gP_9_28 hM0, gL_9_29 hM0, gP_9_29 hM0, gL_9_30 hM0, gP_9_30 hM0, q13, sI_w hM7, iLE_f, xret5_1, cI_s, cL_s, cF_s, cD_s, cA_s, cV_s, nI_add, cond_true, cond_false, if_true, if_false]
        · refine pC_put PC1 hN (by omega) hv (by omega) cP_4 ?_ ?_ ?_ ?_ ?_ ?_ (fun k hk => ?_) (fun _ => ?_) (fun k hk => ?_) (fun z => absurd z k1) ?_
          · rw [cP_7, S37]
          · rw [cP_8, S38]
          · rw [cP_9, S39]
          · rw [cP_10, S310]
          · exact (fm3.1 21 (by omega)).trans m21
          · rw [sA_n (by omega), M3', m6]
          · rw [sA_s, pk_un hk, M3', m7]
          · rw [sA_s, pk_us]
          · rw [sA_n (by omega), M3', m8]
          · rw [sA_n (by omega), M3', m9]
        · exact (fm3.1 22 (by omega)).trans m22
    · refine Or.inr ⟨S3, M3, hc1 _ ?_, hm1 _ ?_, q3, frW_tr (frW_I f1) (frW_I fs3), frV_tr f2 (frV_R fm3)⟩
      · simp (disch := omega) only [gO_3 a3, gR_3_0 a3, gI_3_1 a3, gP_3_1 a3, gI_3_2 a3, gP_3_2 a3, gR_3_3 a3, gR_3_4 a3, gR_3_5 a3, gI_3_6 a3, gP_3_6 a3, gI_3_7 a3, gP_3_7 a3, gI_3_8 a3, gP_3_8 a3, gI_3_9 a3, gP_3_9 a3, cI_s, cL_s, cF_s, cD_s, cA_s, cV_s, nI_add, cond_true, cond_false, if_true, if_false]
        rw [q1]
        simp (disch := omega) only [QX6_readCommand_30, if_neg neg1, xret5_0, cI_s, cL_s, cF_s, cD_s, cA_s, cV_s, nI_add, cond_true, cond_false, if_true, if_false]
      · rw [QX11_readsCommand_108]
        simp (disch := omega) only [gO_9 hM0, gI_9_0 hM0, gP_9_0 hM0, gR_9_1 hM0, gR_9_2 hM0, gI_9_3 hM0, gP_9_3 hM0, gI_9_4 hM0, gP_9_4 hM0, gR_9_5 hM0, gR_9_6 hM0, gR_9_7 hM0, gI_9_8 hM0, gP_9_8 hM0, gI_9_9 hM0, gP_9_9 hM0, gI_9_10 hM0, gP_9_10 hM0, gI_9_11 hM0, gP_9_11 hM0, gI_9_12 hM0, gP_9_12 hM0, gI_9_13 hM0, gP_9_13 hM0, gI_9_14 hM0, gP_9_14 hM0, gI_9_15 hM0, gP_9_15 hM0, gI_9_16 hM0, gP_9_16 hM0, gR_9_17 hM0, gR_9_18 hM0, gR_9_19 hM0, gR_9_20 hM0, gI_9_21 hM0, gP_9_21 hM0, gI_9_22 hM0, gP_9_22 hM0, gI_9_23 hM0, gP_9_23 hM0, gI_9_24 hM0, gP_9_24 hM0, gR_9_25 hM0, gI_9_26 hM0, gP_9_26 hM0, gI_9_27 hM0, gP_9_27 hM0, gI_9_28 hM0, gP_9_28 hM0, gL_9_29 hM0, gP_9_29 hM0, gL_9_30 hM0, gP_9_30 hM0, cI_s, cL_s, cF_s, cD_s, cA_s, cV_s, nI_add, cond_true, cond_false, if_true, if_false]
        rw [q2]
        simp (disch := omega) only [iEQ_t, xret5_0, cI_s, cL_s, cF_s, cD_s, cA_s, cV_s, nI_add, cond_true, cond_false, if_true, if_false]
end SC1
