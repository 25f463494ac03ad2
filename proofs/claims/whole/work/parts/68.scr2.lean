/-! REPEATS; a script as a whole. -/
def okQ (P : Nat → Nat → Nat) : Nat → Nat → Nat → Nat → Prop
  | 0, _, a, b => a = b
  | f + 1, r, a, b => a = b ∨ (a < b ∧ ((P a 0 ≠ 6 ∧ okQ P f r (a + 1) b) ∨ (P a 0 = 6 ∧ ∃ r', r = r' + 1 ∧ a < P a 3 ∧ P a 3 ≤ b ∧ 1 ≤ P a 1 ∧ P a 1 ≤ 20 ∧ okQ P f r' (a + 1) (P a 3) ∧ okQ P f r (P a 3) b)))
theorem okQ_rf {P : Nat → Nat → Nat} {f r a : Nat} : okQ P f r a a := by
  cases f with
  | zero => exact rfl
  | succ f => exact Or.inl rfl
theorem okQ_mo {P : Nat → Nat → Nat} : ∀ f f' r a b, f ≤ f' → okQ P f r a b → okQ P f' r a b := by
  intro f
  induction f with
  | zero =>
    intro f' r a b _ h
    have h : a = b := h
    subst h
    exact okQ_rf
  | succ f ih =>
    intro f' r a b hf h
    obtain ⟨f', rfl⟩ : ∃ k, f' = k + 1 := ⟨f' - 1, by omega⟩
    rcases h with h | ⟨h1, ⟨h2, h3⟩ | ⟨h2, r', h3, h4, h5, h6, h7, h8, h9⟩⟩
    · exact Or.inl h
    · exact Or.inr ⟨h1, Or.inl ⟨h2, ih f' r _ _ (by omega) h3⟩⟩
    · exact Or.inr ⟨h1, Or.inr ⟨h2, r', h3, h4, h5, h6, h7, ih f' r' _ _ (by omega) h8, ih f' r _ _ (by omega) h9⟩⟩
theorem okQ_cg {P P' : Nat → Nat → Nat} : ∀ f r a b, (∀ k, a ≤ k → k < b → P' k = P k) → okQ P f r a b → okQ P' f r a b := by
  intro f
  induction f with
  | zero => exact fun r a b _ h => h
  | succ f ih =>
    intro r a b e h
    rcases h with h | ⟨h1, ⟨h2, h3⟩ | ⟨h2, r', h3, h4, h5, h6, h7, h8, h9⟩⟩
    · exact Or.inl h
    · refine Or.inr ⟨h1, Or.inl ⟨?_, ih r _ _ (fun k a1 b1 => e k (by omega) b1) h3⟩⟩
      rw [e a (Nat.le_refl _) h1]
      exact h2
    · refine Or.inr ⟨h1, Or.inr ?_⟩
      rw [e a (Nat.le_refl _) h1]
      exact ⟨h2, r', h3, h4, h5, h6, h7, ih r' _ _ (fun k a1 b1 => e k (by omega) (by omega)) h8, ih r _ _ (fun k a1 b1 => e k (by omega) b1) h9⟩
def okE (P : Nat → Nat → Nat) (r a b : Nat) : Prop := ∃ f, okQ P f r a b
/-- what a repeat that is read gives -/
def okRp (r N : Nat) (P' : Nat → Nat → Nat) (N' : Nat) : Prop := N < N' ∧ P' N 0 = 6 ∧ P' N 3 = N' ∧ 1 ≤ P' N 1 ∧ P' N 1 ≤ 20 ∧ okE P' r (N + 1) N'
section SC2
variable {E : xEn} {x y n m : Nat} {sh : Nat → Option xSh} {L : Nat} {tx : Nat → Nat}
def okC (E : xEn) (x y n m : Nat) (sh : Nat → Option xSh) (tx : Nat → Nat) (L D D' r : Nat) : Prop :=
  ∀ S M P N p dep, dep + r = 3 → RC S M tx L p N dep P →
    oC1 E x y n m sh tx L S M P p N dep (fun P' N' => okE P' r N N') (xsem xT E D kX6_readCommands [.ref (x + 6), .ref (x + 1), .int (nI dep)] (wW E x sh S, n)) (xsem xT E D' kX11_readsScript [.ref y] (wW E y shM M, m)) ∨
    ∃ S' M' p', xsem xT E D kX6_readCommands [.ref (x + 6), .ref (x + 1), .int (nI dep)] (wW E x sh S, n) = some (.inl (some (.int (nI 1))), (wW E x sh S', n)) ∧ xsem xT E D' kX11_readsScript [.ref y] (wW E y shM M, m) = some (.inl (some (.int (nI 0))), (wW E y shM M', m)) ∧ cQ S' tx L p' ∧ tk tx L p' ≠ 9 ∧ tk tx L p' ≠ 0 ∧ mX M' (-2) p' ∧ frW S S' ∧ frV M M'
theorem xF_I {S S' M : xSt} {p : Nat} (h : cX S' (-2) p) (h' : mX M (-2) p) : xF S' M := xF_of h h'
theorem j_rep (h3 : hI sh 1) (h6 : hS6 sh) (H : hEn E x) (H' : hEn E y) {d u r dep N p : Nat} {S M : xSt} {P : Nat → Nat → Nat} (ih : okC E x y n m sh tx L (d + 3) (u + 5) r) (hr : dep + (r + 1) = 3) (R : RC S M tx L p N dep P) (e : tk tx L p = 28) (hN : N < 60) :
    oC1 E x y n m sh tx L S M P p N dep (okRp r N) (xsem xT E (d + 4) kX6_readRepeat [.ref (x + 6), .ref (x + 1), .int (nI dep)] (wW E x sh S, n)) (xsem xT E (u + 7) kX11_readsCommand [.ref y] (wW E y shM M, m)) := by
  have a3 := h3.1
  have b0 := h6.1
  have b4 : sh (6 + 4) = some (1, 60, []) := h6.2.2.2.2
  obtain ⟨Q, Km, PC, hd⟩ := R
  obtain ⟨hpL, hL, hx, ht⟩ := mQ_le Km
  obtain ⟨hp, hk2⟩ := tk_22 hL hx (k := 6) (by omega) e
  have hgt := ad_gt (tx := tx) hL hp
  obtain ⟨S1, s1, Q1, f1⟩ := c_advance (E := E) (x := x) (n := n) h3 Q (d + 2)
  obtain ⟨M1, m1, K1, g1⟩ := m_kind (E := E) (y := y) (m := m) H' Km (k := 6) (by omega) e u
  have PC1 := pC_I PC f1 g1
  have hn1 : S1.1 6 4 = nI N := PC1.1
  have hm1 : M1.1 0 21 = nI N := PC1.2.1
  have hd1 : M1.1 0 22 = nI dep := (g1.1 22 (by omega)).trans hd
  have keep : ∀ v : Nat → Nat, ∀ k, k < N → updP P N v k = P k := fun v k hk => updP_n (by omega)
  have hMw : mQ (sS (sA (sS M1 0 21 (nI (N + 1))) 6 (upd (M1.2.1 6) N (nI 6))) 0 22 (nI (dep + 1))) tx L (ad tx L p) := mQ_o (mQ_A (mQ_o K1 (by omega)) (by omega)) (by omega)
  generalize hM2 : sS (sA (sS M1 0 21 (nI (N + 1))) 6 (upd (M1.2.1 6) N (nI 6))) 0 22 (nI (dep + 1)) = M2 at hMw
  have f2 : frV M M2 := by rw [← hM2]; exact frV_tr (frV_R g1) (frV_tr (frV_S (by omega)) (frV_tr (frV_A (by omega)) (frV_S (by omega))))
  have m21 : M2.1 0 21 = nI (N + 1) := by rw [← hM2, sS_n (by omega), sA_1, sS_s]
  have m22 : M2.1 0 22 = nI (dep + 1) := by rw [← hM2, sS_s]
  have m6 : M2.2.1 6 = upd (M1.2.1 6) N (nI 6) := by rw [← hM2, sS_a, sA_s]
  have m7 : M2.2.1 7 = M1.2.1 7 := by rw [← hM2, sS_a, sA_n (by omega)]; rfl
  have m8 : M2.2.1 8 = M1.2.1 8 := by rw [← hM2, sS_a, sA_n (by omega)]; rfl
  have m9 : M2.2.1 9 = M1.2.1 9 := by rw [← hM2, sS_a, sA_n (by omega)]; rfl
  have hc0 : ∀ v σ r, xsem xT E (d + 3) kX3_takeNumber [.ref (x + 1), .int (nI 1), .int (nI 20)] (wW E x sh S1, n) = some (.inl (some (.int v)), σ) → (if nI 0 ≤ v then qX6_readRepeat_30 E (d + 3) (x + 6) (x + 1) (nI dep) v σ else xiret [5] (nI 0) (some (.inl (some (.int (nI 0))), σ))) = r → xsem xT E (d + 4) kX6_readRepeat [.ref (x + 6), .ref (x + 1), .int (nI dep)] (wW E x sh S, n) = r := by
    intro v σ r hv hr
    rw [eX6_readRepeat, QX6_readRepeat_0]
    simp (disch := omega) only [iLT_t, QX6_readRepeat_12, gO_3 a3, gR_3_0 a3, gI_3_1 a3, gP_3_1 a3, gI_3_2 a3, gP_3_2 a3, gR_3_3 a3, gR_3_4 a3, gR_3_5 a3, gI_3_6 a3, gP_3_6 a3, gI_3_7 a3, gP_3_7 a3, gI_3_8 a3, gP_3_8 a3, gI_3_9 a3, gP_3_9 a3, s1, cI_s, cL_s, cF_s, cD_s, cA_s, cV_s, nI_add, cond_true, cond_false, if_true, if_false]
    rw [hv]
    simp (disch := omega) only [cI_s, cL_s, cF_s, cD_s, cA_s, cV_s, nI_add, cond_true, cond_false, if_true, if_false]
    exact hr
  have hm0 : ∀ v σ (w : Int32) σ', xsem xT E (u + 5) kX11_reads [.ref y, .int (nI 1), .int (nI 20)] (wW E y shM M2, m) = some (.inl (some (.int v)), σ) → (w = nI 0 ∨ w = nI 1) → (if v = nI 0 then xiret [5] (nI 0) (some (.inl (some (.int (nI 0))), σ)) else qX11_readsRepeat_22 E (u + 5) y (nI N) σ) = some (.inl (some (.int w)), σ') → xsem xT E (u + 7) kX11_readsCommand [.ref y] (wW E y shM M, m) = some (.inl (some (.int w)), σ') := by
    intro v σ w σ' hv hw hr
    rw [← hM2] at hv
    have hrr : xsem xT E (u + 6) kX11_readsRepeat [.ref y, .int (nI N)] (wW E y shM (sA (sS M1 0 21 (nI (N + 1))) 6 (upd (M1.2.1 6) N (nI 6))), m) = some (.inl (some (.int w)), σ') := by
      rw [eX11_readsRepeat, QX11_readsRepeat_0]
      simp (disch := omega) only [gO_9 hM0, gI_9_0 hM0, gP_9_0 hM0, gR_9_1 hM0, gR_9_2 hM0, gI_9_3 hM0, gP_9_3 hM0, gI_9_4 hM0, gP_9_4 hM0, gR_9_5 hM0, gR_9_6 hM0, gR_9_7 hM0, gI_9_8 hM0, gP_9_8 hM0, gI_9_9 hM0, gP_9_9 hM0, gI_9_10 hM0, gP_9_10 hM0, gI_9_11 hM0, gP_9_11 hM0, gI_9_12 hM0, gP_9_12 hM0, gI_9_13 hM0, gP_9_13 hM0, gI_9_14 hM0, gP_9_14 hM0, gI_9_15 hM0, gP_9_15 hM0, gI_9_16 hM0, gP_9_16 hM0, gR_9_17 hM0, gR_9_18 hM0, gR_9_19 hM0, gR_9_20 hM0, gI_9_21 hM0, gP_9_21 hM0, gI_9_22 hM0, gP_9_22 hM0, gI_9_23 hM0, gP_9_23 hM0, gI_9_24 hM0, gP_9_24 hM0, gR_9_25 hM0, gI_9_26 hM0, gP_9_26 hM0, gI_9_27 hM0, gP_9_27 hM0, gI_9_28 hM0, gP_9_28 hM0, gL_9_29 hM0, gP_9_29 hM0, gL_9_30 hM0, gP_9_30 hM0, sA_1, sS_n, hd1, cI_s, cL_s, cF_s, cD_s, cA_s, cV_s, nI_add, cond_true, cond_false, if_true, if_false]
      rw [hv]
      simp (disch := omega) only [cI_s, cL_s, cF_s, cD_s, cA_s, cV_s, nI_add, cond_true, cond_false, if_true, if_false]
      exact hr
    have hne : ¬ nI 6 = (-1 : Int32) := by decide
    rw [eX11_readsCommand, QX11_readsCommand_0]
    simp (disch := omega) only [gO_9 hM0, gI_9_0 hM0, gP_9_0 hM0, gR_9_1 hM0, gR_9_2 hM0, gI_9_3 hM0, gP_9_3 hM0, gI_9_4 hM0, gP_9_4 hM0, gR_9_5 hM0, gR_9_6 hM0, gR_9_7 hM0, gI_9_8 hM0, gP_9_8 hM0, gI_9_9 hM0, gP_9_9 hM0, gI_9_10 hM0, gP_9_10 hM0, gI_9_11 hM0, gP_9_11 hM0, gI_9_12 hM0, gP_9_12 hM0, gI_9_13 hM0, gP_9_13 hM0, gI_9_14 hM0, gP_9_14 hM0, gI_9_15 hM0, gP_9_15 hM0, gI_9_16 hM0, gP_9_16 hM0, gR_9_17 hM0, gR_9_18 hM0, gR_9_19 hM0, gR_9_20 hM0, gI_9_21 hM0, gP_9_21 hM0, gI_9_22 hM0, gP_9_22 hM0, gI_9_23 hM0, gP_9_23 hM0, gI_9_24 hM0, gP_9_24 hM0, gR_9_25 hM0, gI_9_26 hM0, gP_9_26 hM0, gI_9_27 hM0, gP_9_27 hM0, gI_9_28 hM0, gP_9_28 hM0, gL_9_29 hM0, gP_9_29 hM0, gL_9_30 hM0, gP_9_30 hM0, t_here Km, mP_10, cI_s, cL_s, cF_s, cD_s, cA_s, cV_s, nI_add, cond_true, cond_false, if_true, if_false]
    rw [m1]
    simp (disch := omega) only [if_neg hne, QX11_readsCommand_28, gO_9 hM0, gI_9_0 hM0, gP_9_0 hM0, gR_9_1 hM0, gR_9_2 hM0, gI_9_3 hM0, gP_9_3 hM0, gI_9_4 hM0, gP_9_4 hM0, gR_9_5 hM0, gR_9_6 hM0, gR_9_7 hM0, gI_9_8 hM0, gP_9_8 hM0, gI_9_9 hM0, gP_9_9 hM0, gI_9_10 hM0, gP_9_10 hM0, gI_9_11 hM0, gP_9_11 hM0, gI_9_12 hM0, gP_9_12 hM0, gI_9_13 hM0, gP_9_13 hM0, gI_9_14 hM0, gP_9_14 hM0, gI_9_15 hM0, gP_9_15 hM0, gI_9_16 hM0, gP_9_16 hM0, gR_9_17 hM0, gR_9_18 hM0, gR_9_19 hM0, gR_9_20 hM0, gI_9_21 hM0, gP_9_21 hM0, gI_9_22 hM0, gP_9_22 hM0, gI_9_23 hM0, gP_9_23 hM0, gI_9_24 hM0, gP_9_24 hM0, gR_9_25 hM0, gI_9_26 hM0, gP_9_26 hM0, gI_9_27 hM0, gP_9_27 hM0, gI_9_28 hM0, gP_9_28 hM0, gL_9_29 hM0, gP_9_29 hM0, gL_9_30 hM0, gP_9_30 hM0, hm1, iEQ_f (show N ≠ 60 by omega), QX11_readsCommand_45, iEQ_t (show 6 = 6 from rfl), hd1, iEQ_f (show dep ≠ 3 by omega), QX11_readsCommand_67, sI_w hM6, sS_a, cI_s, cL_s, cF_s, cD_s, cA_s, cV_s, nI_add, cond_true, cond_false, if_true, if_false]
    rw [hrr]
    rcases hw with rfl | rfl
    · simp (disch := omega) only [xret5_0, cI_s, cL_s, cF_s, cD_s, cA_s, cV_s, nI_add, cond_true, cond_false, if_true, if_false]
    · simp (disch := omega) only [xret5_1, cI_s, cL_s, cF_s, cD_s, cA_s, cV_s, nI_add, cond_true, cond_false, if_true, if_false]
  rcases j_num (E := E) (x := x) (y := y) (n := n) (m := m) h3 H Q1 hMw (lo := 1) (hi := 20) (by omega) (by omega) (d + 1) (u + 3) with ⟨S3, M3, q1, q2, Q3, K3, q13, fs3, fm3, hv1, hv, hp2⟩ | ⟨S3, M3, q1, q2, q3, fs3, fm3⟩
  · generalize hav : nu tx L (ad tx L p) = a at *
    have K4 : mQ (sA M3 7 (upd (M3.2.1 7) N (nI a))) tx L (ad tx L (ad tx L p)) := mQ_A K3 (by omega)
    have hn3 : S3.1 6 4 = nI N := (congrFun (fs3.1 6 (by omega)) 4).trans hn1
    have M3' : ∀ j, M3.2.1 j = M2.2.1 j := fun j => by rw [fm3.2]
    have hput := c_put (E := E) (x := x) (n := n) h6 hn3 hN (t := 28) (by omega) a 0 (d + 2)
    have fM4 : frV M (sA M3 7 (upd (M3.2.1 7) N (nI a))) := frV_tr f2 (frV_tr (frV_R fm3) (frV_A (by omega)))
    have fS4 : frW S (cP S3 N 28 a 0) := frW_tr (frW_tr (frW_I f1) (frW_I fs3)) frW_P
    have PC4 : pC (cP S3 N 28 a 0) (sA M3 7 (upd (M3.2.1 7) N (nI a))) (N + 1) (updP P N (ent 6 a 0 0)) := by
      refine pC_put PC1 hN (by omega) (by omega) (by omega) cP_4 ?_ ?_ ?_ ?_ ?_ ?_ (fun k hk => ?_) (fun _ => ?_) (fun k hk => ?_) (fun z => absurd z (by omega)) ?_
      · rw [cP_7, fs3.2.2.2]
      · rw [cP_8, fs3.2.2.1 8 (by omega)]
      · rw [cP_9, fs3.2.2.1 9 (by omega)]
      · rw [cP_10, fs3.2.2.1 10 (by omega)]
      · exact (fm3.1 21 (by omega)).trans m21
      · rw [sA_n (by omega), M3', m6]
      · rw [sA_s, pk_un hk, M3', m7]
      · rw [sA_s, pk_us]
      · rw [sA_n (by omega), M3', m8]
      · rw [sA_n (by omega), M3', m9]
    have hd4 : (sA M3 7 (upd (M3.2.1 7) N (nI a))).1 0 22 = nI (dep + 1) := (fm3.1 22 (by omega)).trans m22
    have Q4 : cQ (cP S3 N 28 a 0) tx L (ad tx L (ad tx L p)) := cQ_P Q3
    have hc1 : ∀ v σ r, xsem xT E (d + 3) kX3_take [.ref (x + 1), .ref (E.1 8)] (wW E x sh (cP S3 N 28 a 0), n) = some (.inl (some (.int v)), σ) → (if v = nI 0 then qX6_readRepeat_76 E (d + 3) σ else gO E σ 6 (x + 6) (cI (xthr 1 some) (xsem xT E (d + 3) kX6_readCommands [.ref (x + 6), .ref (x + 1), .int (nI dep + nI 1)] σ) (fun v3 σ3 => if v3 = nI 0 then qX6_readRepeat_76 E (d + 3) σ3 else gO E σ3 3 (x + 1) (cI (xthr 1 some) (xsem xT E (d + 3) kX3_take [.ref (x + 1), .ref (E.1 9)] σ3) (fun v4 σ4 => if v4 = nI 0 then qX6_readRepeat_76 E (d + 3) σ4 else qX6_readRepeat_78 E (d + 3) (x + 6) (nI N) σ4))))) = r → xsem xT E (d + 4) kX6_readRepeat [.ref (x + 6), .ref (x + 1), .int (nI dep)] (wW E x sh S, n) = r := by
      intro v σ r hv hr
      refine hc0 _ _ _ q1 ?_
      rw [iLE_t (Nat.zero_le _) (by omega), QX6_readRepeat_30]
      simp (disch := omega) only [gO_6 b0, gR_6_0 b0, gR_6_1 b0, gR_6_2 b0, gR_6_3 b0, gI_6_4 b0, gP_6_4 b0, gI_6_5 b0, gP_6_5 b0, hn3, cI_s, cL_s, cF_s, cD_s, cA_s, cV_s, nI_add, cond_true, cond_false, if_true, if_false]
      rw [hput]
      simp (disch := omega) only [gO_3 a3, gR_3_0 a3, gI_3_1 a3, gP_3_1 a3, gI_3_2 a3, gP_3_2 a3, gR_3_3 a3, gR_3_4 a3, gR_3_5 a3, gI_3_6 a3, gP_3_6 a3, gI_3_7 a3, gP_3_7 a3, gI_3_8 a3, gP_3_8 a3, gI_3_9 a3, gP_3_9 a3, cI_s, cL_s, cF_s, cD_s, cA_s, cV_s, nI_add, cond_true, cond_false, if_true, if_false]
      rw [hv]
      simp (disch := omega) only [cI_s, cL_s, cF_s, cD_s, cA_s, cV_s, nI_add, cond_true, cond_false, if_true, if_false]
      simp (disch := omega) only [nI_add] at hr
      exact hr
    have hm1 : ∀ v σ (w : Int32) σ', xsem xT E (u + 5) kX11_sign [.ref y, .int (nI 40)] (wW E y shM (sA M3 7 (upd (M3.2.1 7) N (nI a))), m) = some (.inl (some (.int v)), σ) → (w = nI 0 ∨ w = nI 1) → (if v = nI 0 then qX11_readsRepeat_57 E (u + 5) σ else gO E σ 9 y (cI (xthr 1 some) (xsem xT E (u + 5) kX11_readsScript [.ref y] σ) (fun v4 σ3 => if v4 = nI 0 then qX11_readsRepeat_57 E (u + 5) σ3 else gO E σ3 9 y (cI (xthr 1 some) (xsem xT E (u + 5) kX11_sign [.ref y, .int (nI 41)] σ3) (fun v5 σ4 => if v5 = nI 0 then qX11_readsRepeat_57 E (u + 5) σ4 else qX11_readsRepeat_59 E (u + 5) y (nI N) σ4))))) = some (.inl (some (.int w)), σ') → xsem xT E (u + 7) kX11_readsCommand [.ref y] (wW E y shM M, m) = some (.inl (some (.int w)), σ') := by
      intro v σ w σ' hv hw hr
      refine hm0 _ _ w σ' q2 hw ?_
      rw [iEQ_f (by omega) (by omega) (by omega), QX11_readsRepeat_22]
      simp (disch := omega) only [gO_9 hM0, gI_9_0 hM0, gP_9_0 hM0, gR_9_1 hM0, gR_9_2 hM0, gI_9_3 hM0, gP_9_3 hM0, gI_9_4 hM0, gP_9_4 hM0, gR_9_5 hM0, gR_9_6 hM0, gR_9_7 hM0, gI_9_8 hM0, gP_9_8 hM0, gI_9_9 hM0, gP_9_9 hM0, gI_9_10 hM0, gP_9_10 hM0, gI_9_11 hM0, gP_9_11 hM0, gI_9_12 hM0, gP_9_12 hM0, gI_9_13 hM0, gP_9_13 hM0, gI_9_14 hM0, gP_9_14 hM0, gI_9_15 hM0, gP_9_15 hM0, gI_9_16 hM0, gP_9_16 hM0, gR_9_17 hM0, gR_9_18 hM0, gR_9_19 hM0, gR_9_20 hM0, gI_9_21 hM0, gP_9_21 hM0, gI_9_22 hM0, gP_9_22 hM0, gI_9_23 hM0, gP_9_23 hM0, gI_9_24 hM0, gP_9_24 hM0, gR_9_25 hM0, gI_9_26 hM0, gP_9_26 hM0, gI_9_27 hM0, gP_9_27 hM0, gI_9_28 hM0, gP_9_28 hM0, gL_9_29 hM0, gP_9_29 hM0, gL_9_30 hM0, gP_9_30 hM0, q13, sI_w hM7, cI_s, cL_s, cF_s, cD_s, cA_s, cV_s, nI_add, cond_true, cond_false, if_true, if_false]
      rw [hv]
      simp (disch := omega) only [cI_s, cL_s, cF_s, cD_s, cA_s, cV_s, nI_add, cond_true, cond_false, if_true, if_false]
      exact hr
    rcases j_sg (E := E) (x := x) (y := y) (n := n) (m := m) h3 H Q4 K4 (i := 8) (by omega) (by omega) (c := 40) rfl (d + 1) (u + 3) with ⟨S5, M5, w1, w2, Q5, K5, fs5, fm5, hlt5, _⟩ | ⟨S5, M5, w1, w2, w3, fs5, fm5⟩
    · have R5 : RC S5 M5 tx L (ad tx L (ad tx L (ad tx L p))) (N + 1) (dep + 1) (updP P N (ent 6 a 0 0)) := ⟨Q5, K5, pC_I PC4 fs5 fm5, (fm5.1 22 (by omega)).trans hd4⟩
      rcases ih S5 M5 _ (N + 1) _ (dep + 1) (by omega) R5 with (⟨S6, M6, P6, N6, p6, z1, z2, R6, hN6, hp6, hk6, hG6, fS6, fM6⟩ | ⟨S6, M6, z1, z2, z3, fS6, fM6⟩) | ⟨S6, M6, p6, z1, z2, Q6, z9, z0, zX, fS6, fM6⟩
      · rcases j_sg (E := E) (x := x) (y := y) (n := n) (m := m) h3 H R6.1 R6.2.1 (i := 9) (by omega) (by omega) (c := 41) rfl (d + 1) (u + 3) with ⟨S7, M7, v1, v2, Q7, K7, fs7, fm7, hlt7, _⟩ | ⟨S7, M7, v1, v2, v3, fs7, fm7⟩
        · have PC7 := pC_I R6.2.2.1 fs7 fm7
          have hPN : P6 N = ent 6 a 0 0 := by rw [hk6 N (by omega), updP_s]
          have hn7 : S7.1 6 4 = nI N6 := PC7.1
          have hm7 : M7.1 0 21 = nI N6 := PC7.2.1
          have hd7 : M7.1 0 22 = nI (dep + 1) := (fm7.1 22 (by omega)).trans R6.2.2.2
          have fS8 : frW S7 (sA S7 10 (upd (S7.2.1 10) N (nI N6))) := ⟨fun _ _ _ => rfl, fun _ _ => rfl, rfl, fun j a b => sA_n (by omega), fun _ _ => rfl⟩
          have Q8 : cQ (sA S7 10 (upd (S7.2.1 10) N (nI N6))) tx L (ad tx L p6) := cQ_fr Q7 rfl (sA_n (by omega)) (sA_n (by omega)) rfl
          have hok : okE P6 r (N + 1) N6 := hG6
          refine Or.inl ⟨sA S7 10 (upd (S7.2.1 10) N (nI N6)), sS (sA M7 9 (upd (M7.2.1 9) N (nI N6))) 0 22 (nI dep), updP P6 N (ent 6 a 0 N6), N6, ad tx L p6, hc1 _ _ _ w1 ?_, hm1 _ _ _ _ w2 (Or.inr rfl) ?_, ⟨Q8, mQ_o (mQ_A K7 (by omega)) (by omega), ?_, sS_s⟩, by omega, by omega, fun k hk => ?_, ⟨by omega, by rw [updP_s]; rfl, by rw [updP_s]; rfl, by rw [updP_s]; exact hv1, by rw [updP_s]; exact hv, ?_⟩, ?_, ?_⟩
          · rw [iEQ_f (by omega) (by omega) (by omega)]
            simp (disch := omega) only [gO_6 b0, gR_6_0 b0, gR_6_1 b0, gR_6_2 b0, gR_6_3 b0, gI_6_4 b0, gP_6_4 b0, gI_6_5 b0, gP_6_5 b0, cI_s, cL_s, cF_s, cD_s, cA_s, cV_s, nI_add, cond_true, cond_false, if_true, if_false]
            rw [z1]
            simp (disch := omega) only [iEQ_f, gO_3 a3, gR_3_0 a3, gI_3_1 a3, gP_3_1 a3, gI_3_2 a3, gP_3_2 a3, gR_3_3 a3, gR_3_4 a3, gR_3_5 a3, gI_3_6 a3, gP_3_6 a3, gI_3_7 a3, gP_3_7 a3, gI_3_8 a3, gP_3_8 a3, gI_3_9 a3, gP_3_9 a3, cI_s, cL_s, cF_s, cD_s, cA_s, cV_s, nI_add, cond_true, cond_false, if_true, if_false]
            rw [v1]
            simp (disch := omega) only [iEQ_f, QX6_readRepeat_78, gO_6 b0, gR_6_0 b0, gR_6_1 b0, gR_6_2 b0, gR_6_3 b0, gI_6_4 b0, gP_6_4 b0, gI_6_5 b0, gP_6_5 b0, hn7, sI_w b4, xret5_1, cI_s, cL_s, cF_s, cD_s, cA_s, cV_s, nI_add, cond_true, cond_false, if_true, if_false]
          · rw [iEQ_f (by omega) (by omega) (by omega)]
            simp (disch := omega) only [gO_9 hM0, gI_9_0 hM0, gP_9_0 hM0, gR_9_1 hM0, gR_9_2 hM0, gI_9_3 hM0, gP_9_3 hM0, gI_9_4 hM0, gP_9_4 hM0, gR_9_5 hM0, gR_9_6 hM0, gR_9_7 hM0, gI_9_8 hM0, gP_9_8 hM0, gI_9_9 hM0, gP_9_9 hM0, gI_9_10 hM0, gP_9_10 hM0, gI_9_11 hM0, gP_9_11 hM0, gI_9_12 hM0, gP_9_12 hM0, gI_9_13 hM0, gP_9_13 hM0, gI_9_14 hM0, gP_9_14 hM0, gI_9_15 hM0, gP_9_15 hM0, gI_9_16 hM0, gP_9_16 hM0, gR_9_17 hM0, gR_9_18 hM0, gR_9_19 hM0, gR_9_20 hM0, gI_9_21 hM0, gP_9_21 hM0, gI_9_22 hM0, gP_9_22 hM0, gI_9_23 hM0, gP_9_23 hM0, gI_9_24 hM0, gP_9_24 hM0, gR_9_25 hM0, gI_9_26 hM0, gP_9_26 hM0, gI_9_27 hM0, gP_9_27 hM0, gI_9_28 hM0, gP_9_28 hM0, gL_9_29 hM0, gP_9_29 hM0, gL_9_30 hM0, gP_9_30 hM0, cI_s, cL_s, cF_s, cD_s, cA_s, cV_s, nI_add, cond_true, cond_false, if_true, if_false]
            rw [z2]
            simp (disch := omega) only [iEQ_f, gO_9 hM0, gI_9_0 hM0, gP_9_0 hM0, gR_9_1 hM0, gR_9_2 hM0, gI_9_3 hM0, gP_9_3 hM0, gI_9_4 hM0, gP_9_4 hM0, gR_9_5 hM0, gR_9_6 hM0, gR_9_7 hM0, gI_9_8 hM0, gP_9_8 hM0, gI_9_9 hM0, gP_9_9 hM0, gI_9_10 hM0, gP_9_10 hM0, gI_9_11 hM0, gP_9_11 hM0, gI_9_12 hM0, gP_9_12 hM0, gI_9_13 hM0, gP_9_13 hM0, gI_9_14 hM0, gP_9_14 hM0, gI_9_15 hM0, gP_9_15 hM0, gI_9_16 hM0, gP_9_16 hM0, gR_9_17 hM0, gR_9_18 hM0, gR_9_19 hM0, gR_9_20 hM0, gI_9_21 hM0, gP_9_21 hM0, gI_9_22 hM0, gP_9_22 hM0, gI_9_23 hM0, gP_9_23 hM0, gI_9_24 hM0, gP_9_24 hM0, gR_9_25 hM0, gI_9_26 hM0, gP_9_26 hM0, gI_9_27 hM0, gP_9_27 hM0, gI_9_28 hM0, gP_9_28 hM0, gL_9_29 hM0, gP_9_29 hM0, gL_9_30 hM0, gP_9_30 hM0, cI_s, cL_s, cF_s, cD_s, cA_s, cV_s, nI_add, cond_true, cond_false, if_true, if_false]
            rw [v2]
            simp (disch := omega) only [iEQ_f, QX11_readsRepeat_59, gO_9 hM0, gI_9_0 hM0, gP_9_0 hM0, gR_9_1 hM0, gR_9_2 hM0, gI_9_3 hM0, gP_9_3 hM0, gI_9_4 hM0, gP_9_4 hM0, gR_9_5 hM0, gR_9_6 hM0, gR_9_7 hM0, gI_9_8 hM0, gP_9_8 hM0, gI_9_9 hM0, gP_9_9 hM0, gI_9_10 hM0, gP_9_10 hM0, gI_9_11 hM0, gP_9_11 hM0, gI_9_12 hM0, gP_9_12 hM0, gI_9_13 hM0, gP_9_13 hM0, gI_9_14 hM0, gP_9_14 hM0, gI_9_15 hM0, gP_9_15 hM0, gI_9_16 hM0, gP_9_16 hM0, gR_9_17 hM0, gR_9_18 hM0, gR_9_19 hM0, gR_9_20 hM0, gI_9_21 hM0, gP_9_21 hM0, gI_9_22 hM0, gP_9_22 hM0, gI_9_23 hM0, gP_9_23 hM0, gI_9_24 hM0, gP_9_24 hM0, gR_9_25 hM0, gI_9_26 hM0, gP_9_26 hM0, gI_9_27 hM0, gP_9_27 hM0, gI_9_28 hM0, gP_9_28 hM0, gL_9_29 hM0, gP_9_29 hM0, gL_9_30 hM0, gP_9_30 hM0, hm7, sI_w hM9, sA_1, hd7, pk_sub, Nat.add_sub_cancel, xret5_1, cI_s, cL_s, cF_s, cD_s, cA_s, cV_s, nI_add, cond_true, cond_false, if_true, if_false]
          · obtain ⟨c1, c2, c3, c4, c5⟩ := PC7
            refine ⟨c1, by rw [sS_n (by omega)]; exact c2, c3, fun k hk => ?_, fun k hk => ?_⟩
            · have c4 := c4 k hk
              rw [sA_n (by omega), sA_n (by omega), sS_a, sA_n (by omega), sA_n (by omega), sA_n (by omega)]
              by_cases ek : k = N
              · subst ek
                rw [hPN] at c4
                rw [updP_s]
                exact c4
              · rw [updP_n ek]
                exact c4
            · rw [sA_s, sS_a, sA_s]
              by_cases ek : k = N
              · subst ek
                rw [updP_s, pk_us, pk_us]
                exact fun _ _ => ⟨rfl, rfl⟩
              · rw [updP_n ek, pk_un ek, pk_un ek]
                exact c5 k hk
          · rw [updP_n (by omega), hk6 k (by omega), updP_n (by omega)]
          · obtain ⟨f, hf⟩ := hok
            exact ⟨f, okQ_cg f r _ _ (fun k a1 b1 => updP_n (by omega)) hf⟩
          · exact frW_tr fS4 (frW_tr (frW_I fs5) (frW_tr fS6 (frW_tr (frW_I fs7) fS8)))
          · exact frV_tr fM4 (frV_tr (frV_R fm5) (frV_tr fM6 (frV_tr (frV_R fm7) (frV_tr (frV_A (by omega)) (frV_S (by omega))))))
        · refine Or.inr ⟨S7, M7, hc1 _ _ _ w1 ?_, hm1 _ _ _ _ w2 (Or.inl rfl) ?_, v3, frW_tr fS4 (frW_tr (frW_I fs5) (frW_tr fS6 (frW_I fs7))), frV_tr fM4 (frV_tr (frV_R fm5) (frV_tr fM6 (frV_R fm7)))⟩
          · rw [iEQ_f (by omega) (by omega) (by omega)]
            simp (disch := omega) only [gO_6 b0, gR_6_0 b0, gR_6_1 b0, gR_6_2 b0, gR_6_3 b0, gI_6_4 b0, gP_6_4 b0, gI_6_5 b0, gP_6_5 b0, cI_s, cL_s, cF_s, cD_s, cA_s, cV_s, nI_add, cond_true, cond_false, if_true, if_false]
            rw [z1]
            simp (disch := omega) only [iEQ_f, gO_3 a3, gR_3_0 a3, gI_3_1 a3, gP_3_1 a3, gI_3_2 a3, gP_3_2 a3, gR_3_3 a3, gR_3_4 a3, gR_3_5 a3, gI_3_6 a3, gP_3_6 a3, gI_3_7 a3, gP_3_7 a3, gI_3_8 a3, gP_3_8 a3, gI_3_9 a3, gP_3_9 a3, cI_s, cL_s, cF_s, cD_s, cA_s, cV_s, nI_add, cond_true, cond_false, if_true, if_false]
            rw [v1]
            simp (disch := omega) only [iEQ_t, QX6_readRepeat_76, xret5_0, cI_s, cL_s, cF_s, cD_s, cA_s, cV_s, nI_add, cond_true, cond_false, if_true, if_false]
          · rw [iEQ_f (by omega) (by omega) (by omega)]
            simp (disch := omega) only [gO_9 hM0, gI_9_0 hM0, gP_9_0 hM0, gR_9_1 hM0, gR_9_2 hM0, gI_9_3 hM0, gP_9_3 hM0, gI_9_4 hM0, gP_9_4 hM0, gR_9_5 hM0, gR_9_6 hM0, gR_9_7 hM0, gI_9_8 hM0, gP_9_8 hM0, gI_9_9 hM0, gP_9_9 hM0, gI_9_10 hM0, gP_9_10 hM0, gI_9_11 hM0, gP_9_11 hM0, gI_9_12 hM0, gP_9_12 hM0, gI_9_13 hM0, gP_9_13 hM0, gI_9_14 hM0, gP_9_14 hM0, gI_9_15 hM0, gP_9_15 hM0, gI_9_16 hM0, gP_9_16 hM0, gR_9_17 hM0, gR_9_18 hM0, gR_9_19 hM0, gR_9_20 hM0, gI_9_21 hM0, gP_9_21 hM0, gI_9_22 hM0, gP_9_22 hM0, gI_9_23 hM0, gP_9_23 hM0, gI_9_24 hM0, gP_9_24 hM0, gR_9_25 hM0, gI_9_26 hM0, gP_9_26 hM0, gI_9_27 hM0, gP_9_27 hM0, gI_9_28 hM0, gP_9_28 hM0, gL_9_29 hM0, gP_9_29 hM0, gL_9_30 hM0, gP_9_30 hM0, cI_s, cL_s, cF_s, cD_s, cA_s, cV_s, nI_add, cond_true, cond_false, if_true, if_false]
            rw [z2]
            simp (disch := omega) only [iEQ_f, gO_9 hM0, gI_9_0 hM0, gP_9_0 hM0, gR_9_1 hM0, gR_9_2 hM0, gI_9_3 hM0, gP_9_3 hM0, gI_9_4 hM0, gP_9_4 hM0, gR_9_5 hM0, gR_9_6 hM0, gR_9_7 hM0, gI_9_8 hM0, gP_9_8 hM0, gI_9_9 hM0, gP_9_9 hM0, gI_9_10 hM0, gP_9_10 hM0, gI_9_11 hM0, gP_9_11 hM0, gI_9_12 hM0, gP_9_12 hM0, gI_9_13 hM0, gP_9_13 hM0, gI_9_14 hM0, gP_9_14 hM0, gI_9_15 hM0, gP_9_15 hM0, gI_9_16 hM0, gP_9_16 hM0, gR_9_17 hM0, gR_9_18 hM0, gR_9_19 hM0, gR_9_20 hM0, gI_9_21 hM0, gP_9_21 hM0, gI_9_22 hM0, gP_9_22 hM0, gI_9_23 hM0, gP_9_23 hM0, gI_9_24 hM0, gP_9_24 hM0, gR_9_25 hM0, gI_9_26 hM0, gP_9_26 hM0, gI_9_27 hM0, gP_9_27 hM0, gI_9_28 hM0, gP_9_28 hM0, gL_9_29 hM0, gP_9_29 hM0, gL_9_30 hM0, gP_9_30 hM0, cI_s, cL_s, cF_s, cD_s, cA_s, cV_s, nI_add, cond_true, cond_false, if_true, if_false]
            rw [v2]
            simp (disch := omega) only [iEQ_t, QX11_readsRepeat_57, xret5_0, cI_s, cL_s, cF_s, cD_s, cA_s, cV_s, nI_add, cond_true, cond_false, if_true, if_false]
      · refine Or.inr ⟨S6, M6, hc1 _ _ _ w1 ?_, hm1 _ _ _ _ w2 (Or.inl rfl) ?_, z3, frW_tr fS4 (frW_tr (frW_I fs5) fS6), frV_tr fM4 (frV_tr (frV_R fm5) fM6)⟩
        · rw [iEQ_f (by omega) (by omega) (by omega)]
          simp (disch := omega) only [gO_6 b0, gR_6_0 b0, gR_6_1 b0, gR_6_2 b0, gR_6_3 b0, gI_6_4 b0, gP_6_4 b0, gI_6_5 b0, gP_6_5 b0, cI_s, cL_s, cF_s, cD_s, cA_s, cV_s, nI_add, cond_true, cond_false, if_true, if_false]
          rw [z1]
          simp (disch := omega) only [iEQ_t, QX6_readRepeat_76, xret5_0, cI_s, cL_s, cF_s, cD_s, cA_s, cV_s, nI_add, cond_true, cond_false, if_true, if_false]
        · rw [iEQ_f (by omega) (by omega) (by omega)]
          simp (disch := omega) only [gO_9 hM0, gI_9_0 hM0, gP_9_0 hM0, gR_9_1 hM0, gR_9_2 hM0, gI_9_3 hM0, gP_9_3 hM0, gI_9_4 hM0, gP_9_4 hM0, gR_9_5 hM0, gR_9_6 hM0, gR_9_7 hM0, gI_9_8 hM0, gP_9_8 hM0, gI_9_9 hM0, gP_9_9 hM0, gI_9_10 hM0, gP_9_10 hM0, gI_9_11 hM0, gP_9_11 hM0, gI_9_12 hM0, gP_9_12 hM0, gI_9_13 hM0, gP_9_13 hM0, gI_9_14 hM0, gP_9_14 hM0, gI_9_15 hM0, gP_9_15 hM0, gI_9_16 hM0, gP_9_16 hM0, gR_9_17 hM0, gR_9_18 hM0, gR_9_19 hM0, gR_9_20 hM0, gI_9_21 hM0, gP_9_21 hM0, gI_9_22 hM0, gP_9_22 hM0, gI_9_23 hM0, gP_9_23 hM0, gI_9_24 hM0, gP_9_24 hM0, gR_9_25 hM0, gI_9_26 hM0, gP_9_26 hM0, gI_9_27 hM0, gP_9_27 hM0, gI_9_28 hM0, gP_9_28 hM0, gL_9_29 hM0, gP_9_29 hM0, gL_9_30 hM0, gP_9_30 hM0, cI_s, cL_s, cF_s, cD_s, cA_s, cV_s, nI_add, cond_true, cond_false, if_true, if_false]
          rw [z2]
          simp (disch := omega) only [iEQ_t, QX11_readsRepeat_57, xret5_0, cI_s, cL_s, cF_s, cD_s, cA_s, cV_s, nI_add, cond_true, cond_false, if_true, if_false]
      · obtain ⟨S7, v1, v2, fs7⟩ := c_take_f (E := E) (x := x) (n := n) h3 H Q6 (i := 9) (by omega) z9 (d + 1)
        refine Or.inr ⟨S7, M6, hc1 _ _ _ w1 ?_, hm1 _ _ _ _ w2 (Or.inl rfl) ?_, xF_of v2 zX, frW_tr fS4 (frW_tr (frW_I fs5) (frW_tr fS6 (frW_I fs7))), frV_tr fM4 (frV_tr (frV_R fm5) fM6)⟩
        · rw [iEQ_f (by omega) (by omega) (by omega)]
          simp (disch := omega) only [gO_6 b0, gR_6_0 b0, gR_6_1 b0, gR_6_2 b0, gR_6_3 b0, gI_6_4 b0, gP_6_4 b0, gI_6_5 b0, gP_6_5 b0, cI_s, cL_s, cF_s, cD_s, cA_s, cV_s, nI_add, cond_true, cond_false, if_true, if_false]
          rw [z1]
          simp (disch := omega) only [iEQ_f, gO_3 a3, gR_3_0 a3, gI_3_1 a3, gP_3_1 a3, gI_3_2 a3, gP_3_2 a3, gR_3_3 a3, gR_3_4 a3, gR_3_5 a3, gI_3_6 a3, gP_3_6 a3, gI_3_7 a3, gP_3_7 a3, gI_3_8 a3, gP_3_8 a3, gI_3_9 a3, gP_3_9 a3, cI_s, cL_s, cF_s, cD_s, cA_s, cV_s, nI_add, cond_true, cond_false, if_true, if_false]
          rw [v1]
          simp (disch := omega) only [iEQ_t, QX6_readRepeat_76, xret5_0, cI_s, cL_s, cF_s, cD_s, cA_s, cV_s, nI_add, cond_true, cond_false, if_true, if_false]
        · rw [iEQ_f (by omega) (by omega) (by omega)]
          simp (disch := omega) only [gO_9 hM0, gI_9_0 hM0, gP_9_0 hM0, gR_9_1 hM0, gR_9_2 hM0, gI_9_3 hM0, gP_9_3 hM0, gI_9_4 hM0, gP_9_4 hM0, gR_9_5 hM0, gR_9_6 hM0, gR_9_7 hM0, gI_9_8 hM0, gP_9_8 hM0, gI_9_9 hM0, gP_9_9 hM0, gI_9_10 hM0, gP_9_10 hM0, gI_9_11 hM0, gP_9_11 hM0, gI_9_12 hM0, gP_9_12 hM0, gI_9_13 hM0, gP_9_13 hM0, gI_9_14 hM0, gP_9_14 hM0, gI_9_15 hM0, gP_9_15 hM0, gI_9_16 hM0, gP_9_16 hM0, gR_9_17 hM0, gR_9_18 hM0, gR_9_19 hM0, gR_9_20 hM0, gI_9_21 hM0, gP_9_21 hM0, gI_9_22 hM0, gP_9_22 hM0, gI_9_23 hM0, gP_9_23 hM0, gI_9_24 hM0, gP_9_24 hM0, gR_9_25 hM0, gI_9_26 hM0, gP_9_26 hM0, gI_9_27 hM0, gP_9_27 hM0, gI_9_28 hM0, gP_9_28 hM0, gL_9_29 hM0, gP_9_29 hM0, gL_9_30 hM0, gP_9_30 hM0, cI_s, cL_s, cF_s, cD_s, cA_s, cV_s, nI_add, cond_true, cond_false, if_true, if_false]
          rw [z2]
          simp (disch := omega) only [iEQ_t, QX11_readsRepeat_57, xret5_0, cI_s, cL_s, cF_s, cD_s, cA_s, cV_s, nI_add, cond_true, cond_false, if_true, if_false]
    · refine Or.inr ⟨S5, M5, hc1 _ _ _ w1 ?_, hm1 _ _ _ _ w2 (Or.inl rfl) ?_, w3, frW_tr fS4 (frW_I fs5), frV_tr fM4 (frV_R fm5)⟩
      · simp (disch := omega) only [iEQ_t, QX6_readRepeat_76, xret5_0, cI_s, cL_s, cF_s, cD_s, cA_s, cV_s, nI_add, cond_true, cond_false, if_true, if_false]
      · simp (disch := omega) only [iEQ_t, QX11_readsRepeat_57, xret5_0, cI_s, cL_s, cF_s, cD_s, cA_s, cV_s, nI_add, cond_true, cond_false, if_true, if_false]
  · refine Or.inr ⟨S3, M3, hc0 _ _ _ q1 ?_, hm0 _ _ _ _ q2 (Or.inl rfl) ?_, q3, frW_tr (frW_I f1) (frW_I fs3), frV_tr f2 (frV_R fm3)⟩
    · simp (disch := omega) only [if_neg neg1, xret5_0, cI_s, cL_s, cF_s, cD_s, cA_s, cV_s, nI_add, cond_true, cond_false, if_true, if_false]
    · simp (disch := omega) only [iEQ_t, xret5_0, cI_s, cL_s, cF_s, cD_s, cA_s, cV_s, nI_add, cond_true, cond_false, if_true, if_false]
end SC2
