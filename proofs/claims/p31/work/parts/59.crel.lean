/-! THE CLASS AT A TOKEN. -/
def cQ (S : xSt) (tx : Nat → Nat) (L p : Nat) : Prop := QI S 1 tx L p ∧ S.1 1 8 = nI 0 ∧ S.1 1 9 = -1
def cX (S : xSt) (c : Int32) (p : Nat) : Prop := S.1 1 8 = c ∧ S.1 1 9 = nI p
/-- what reading one token changes -/
def frI (S S' : xSt) : Prop := (∀ j, j ≠ 1 → S'.1 j = S.1 j) ∧ (∀ k, k < 7 ∨ 9 < k → S'.1 1 k = S.1 1 k) ∧ (∀ j, j ≠ 1 → S'.2.1 j = S.2.1 j) ∧ S'.2.2 = S.2.2
theorem frI_rf {S : xSt} : frI S S := ⟨fun _ _ => rfl, fun _ _ => rfl, fun _ _ => rfl, rfl⟩
theorem frI_tr {S S1 S2 : xSt} (h : frI S S1) (h' : frI S1 S2) : frI S S2 := ⟨fun j hj => (h'.1 j hj).trans (h.1 j hj), fun j hj => (h'.2.1 j hj).trans (h.2.1 j hj), fun j hj => (h'.2.2.1 j hj).trans (h.2.2.1 j hj), h'.2.2.2.trans h.2.2.2⟩
theorem frI_of {S S' : xSt} (f : frm 1 2 S S') (h : ∀ k, k ≠ 7 → S'.1 1 k = S.1 1 k) : frI S S' :=
  ⟨fun j hj => (f.1 j (by omega)).1, fun k hk => h k (by omega), fun j hj => (f.1 j (by omega)).2, f.2⟩
theorem frI_x {S : xSt} {c v : Int32} : frI S (sS (sS S 1 8 c) 1 9 v) :=
  ⟨fun j hj => by funext k; rw [sS_nq hj, sS_nq hj], fun k hk => by rw [sS_n (by omega), sS_n (by omega)], fun _ _ => rfl, rfl⟩
section CR
variable {E : xEn} {z : Nat → Option va_E} {x n : Nat} {sh : Nat → Option xSh} {S : xSt} {L p : Nat} {tx : Nat → Nat}
theorem cQ_fr {S' : xSt} (Q : cQ S tx L p) (h1 : S'.1 1 = S.1 1) (h3 : S'.2.1 4 = S.2.1 4) (h4 : S'.2.1 5 = S.2.1 5) (h5 : S'.2.2.2.2 3 = S.2.2.2.2 3) : cQ S' tx L p :=
  ⟨QI_cg Q.1 (congrFun h1 6) (congrFun h1 7) h3 h4 h5, (congrFun h1 8).trans Q.2.1, (congrFun h1 9).trans Q.2.2⟩
theorem c_advance (h : hI sh 1) (Q : cQ S tx L p) (d : Nat) : ∃ S', xsem xT E (d + 1) kX3_advance [.ref (x + 1)] (wW E z x sh S, n) = some (.inl none, (wW E z x sh S', n)) ∧ cQ S' tx L (ad tx L p) ∧ frI S S' := by
  obtain ⟨S', e1, e2, e3, e4⟩ := s3_advance (E := E) (z := z) (x := x) (n := n) h Q.1 d
  exact ⟨S', e1, ⟨e2, (e4 8 (by omega)).trans Q.2.1, (e4 9 (by omega)).trans Q.2.2⟩, frI_of e3 e4⟩
theorem c_fail (h : hI sh 1) (Q : cQ S tx L p) (c : Int32) (d : Nat) : ∃ S', xsem xT E (d + 1) kX3_fail [.ref (x + 1), .int c] (wW E z x sh S, n) = some (.inl (some (.int (nI 0))), (wW E z x sh S', n)) ∧ cX S' c p ∧ frI S S' :=
  ⟨_, s3_fail h Q.1 c d, ⟨by rw [sS_n (by omega), sS_s], sS_s⟩, frI_x⟩
theorem c_is (h : hI sh 1) (H : hEn E z x) (Q : cQ S tx L p) {i : Nat} (hi : i < 29) (d : Nat) : xsem xT E (d + 1) kX3_is [.ref (x + 1), .ref (E.1 i)] (wW E z x sh S, n) = some (.inl (some (.int (nI (if tk tx L p = i then 1 else 0)))), (wW E z x sh S, n)) := s3_is h H Q.1 hi d
theorem c_is_t (h : hI sh 1) (H : hEn E z x) (Q : cQ S tx L p) {i : Nat} (hi : i < 29) (e : tk tx L p = i) (d : Nat) : xsem xT E (d + 1) kX3_is [.ref (x + 1), .ref (E.1 i)] (wW E z x sh S, n) = some (.inl (some (.int (nI 1))), (wW E z x sh S, n)) := by
  rw [c_is h H Q hi, if_pos e]
theorem c_is_f (h : hI sh 1) (H : hEn E z x) (Q : cQ S tx L p) {i : Nat} (hi : i < 29) (e : tk tx L p ≠ i) (d : Nat) : xsem xT E (d + 1) kX3_is [.ref (x + 1), .ref (E.1 i)] (wW E z x sh S, n) = some (.inl (some (.int (nI 0))), (wW E z x sh S, n)) := by
  rw [c_is h H Q hi, if_neg e]
theorem c_token (h : hI sh 1) (Q : cQ S tx L p) (d : Nat) : xsem xT E (d + 1) kX3_token [.ref (x + 1)] (wW E z x sh S, n) = some (.inl (some (.ref (E.1 (tk tx L p)))), (wW E z x sh S, n)) := s3_token h Q.1 d
theorem c_number (h : hI sh 1) (Q : cQ S tx L p) (d : Nat) : xsem xT E (d + 1) kX3_number [.ref (x + 1)] (wW E z x sh S, n) = some (.inl (some (.int (nI (nu tx L p)))), (wW E z x sh S, n)) := s3_number h Q.1 d
theorem c_take_t (h : hI sh 1) (H : hEn E z x) (Q : cQ S tx L p) {i : Nat} (hi : i < 29) (e : tk tx L p = i) (d : Nat) : ∃ S', xsem xT E (d + 2) kX3_take [.ref (x + 1), .ref (E.1 i)] (wW E z x sh S, n) = some (.inl (some (.int (nI 1))), (wW E z x sh S', n)) ∧ cQ S' tx L (ad tx L p) ∧ frI S S' := by
  obtain ⟨S', e1, e2, e3, e4⟩ := s3_take_t (E := E) (z := z) (x := x) (n := n) h H Q.1 hi e d
  exact ⟨S', e1, ⟨e2, (e4 8 (by omega)).trans Q.2.1, (e4 9 (by omega)).trans Q.2.2⟩, frI_of e3 e4⟩
theorem c_take_f (h : hI sh 1) (H : hEn E z x) (Q : cQ S tx L p) {i : Nat} (hi : i < 29) (e : tk tx L p ≠ i) (d : Nat) : ∃ S', xsem xT E (d + 2) kX3_take [.ref (x + 1), .ref (E.1 i)] (wW E z x sh S, n) = some (.inl (some (.int (nI 0))), (wW E z x sh S', n)) ∧ cX S' (-2) p ∧ frI S S' :=
  ⟨_, s3_take_f h H Q.1 hi e d, ⟨by rw [sS_n (by omega), sS_s], sS_s⟩, frI_x⟩
theorem c_num_s (h : hI sh 1) (H : hEn E z x) (Q : cQ S tx L p) (lo hi : Nat) (e : tk tx L p ≠ 1) (d : Nat) : ∃ S', xsem xT E (d + 2) kX3_takeNumber [.ref (x + 1), .int (nI lo), .int (nI hi)] (wW E z x sh S, n) = some (.inl (some (.int (-1))), (wW E z x sh S', n)) ∧ cX S' (-2) p ∧ frI S S' :=
  ⟨_, s3_num_s h H Q.1 lo hi e d, ⟨by rw [sS_n (by omega), sS_s], sS_s⟩, frI_x⟩
theorem c_num_r (h : hI sh 1) (H : hEn E z x) (Q : cQ S tx L p) {lo hi : Nat} (hlo : lo < 2 ^ 31) (hhi : hi < 2 ^ 31) (e : tk tx L p = 1) (hr : ¬ (lo ≤ nu tx L p ∧ nu tx L p ≤ hi)) (d : Nat) : ∃ S', xsem xT E (d + 2) kX3_takeNumber [.ref (x + 1), .int (nI lo), .int (nI hi)] (wW E z x sh S, n) = some (.inl (some (.int (-1))), (wW E z x sh S', n)) ∧ cX S' (-3) p ∧ frI S S' :=
  ⟨_, s3_num_r h H Q.1 hlo hhi e hr d, ⟨by rw [sS_n (by omega), sS_s], sS_s⟩, frI_x⟩
theorem c_num_t (h : hI sh 1) (H : hEn E z x) (Q : cQ S tx L p) {lo hi : Nat} (hhi : hi < 2 ^ 31) (e : tk tx L p = 1) (h1 : lo ≤ nu tx L p) (h2 : nu tx L p ≤ hi) (d : Nat) : ∃ S', xsem xT E (d + 2) kX3_takeNumber [.ref (x + 1), .int (nI lo), .int (nI hi)] (wW E z x sh S, n) = some (.inl (some (.int (nI (nu tx L p)))), (wW E z x sh S', n)) ∧ cQ S' tx L (ad tx L p) ∧ frI S S' := by
  obtain ⟨S', e1, e2, e3, e4⟩ := s3_num_t (E := E) (z := z) (x := x) (n := n) h H Q.1 hhi e h1 h2 d
  exact ⟨S', e1, ⟨e2, (e4 8 (by omega)).trans Q.2.1, (e4 9 (by omega)).trans Q.2.2⟩, frI_of e3 e4⟩
-- the class's bytecode asks a token's identity
theorem c_var (H : hEn E z x) {i : Nat} (hi : i < 29) {σ : xH} (d : Nat) : xsem xT E (d + 1) kX1_variableOf [.ref (E.1 i)] σ = some (.inl (some (.int (if i = 10 then -5 else if i = 11 then -6 else if i = 12 then -7 else if i = 13 then -8 else nI 0))), σ) := by
  rw [eX1_variableOf, QX1_variableOf_0, bq_t H hi (by omega), QX1_variableOf_10, bq_t H hi (by omega), QX1_variableOf_20, bq_t H hi (by omega), QX1_variableOf_30, bq_t H hi (by omega)]
  by_cases a : i = 10
  · rw [decide_eq_true a, cond_true, if_pos a]
  · rw [decide_eq_false a, cond_false, if_neg a]
    by_cases b : i = 11
    · rw [decide_eq_true b, cond_true, if_pos b]
    · rw [decide_eq_false b, cond_false, if_neg b]
      by_cases c : i = 12
      · rw [decide_eq_true c, cond_true, if_pos c]
      · rw [decide_eq_false c, cond_false, if_neg c]
        by_cases e : i = 13
        · rw [decide_eq_true e, cond_true, if_pos e, QX1_variableOf_43]
        · rw [decide_eq_false e, cond_false, if_neg e, QX1_variableOf_42, QX1_variableOf_43]
end CR
