/-! ROUNDS OF SHELLS: the fewest swaps. -/
def un (v : Nat) : Nat → Nat
  | 0 => 0
  | i + 1 => un v i + if v.testBit i then 0 else 1
def fwV (s : Nat → Nat) : Nat → Nat → Nat → Nat
  | 0, v, _ => v
  | m + 1, v, q => if v.testBit q then v else fwV s m (bset v q true) (s q)
def fwC (s : Nat → Nat) (p : Nat) : Nat → Nat → Nat → Nat → Nat
  | 0, _, _, c => c
  | m + 1, v, q, c => if v.testBit q then c else fwC s p m (bset v q true) (s q) (c + if s q = p then 0 else 1)
theorem bs_bit {v q r : Nat} (hv : v < 256) (hq : q < 8) (hr : r < 8) : (bset v q true).testBit r = if r = q then true else v.testBit r := bset_bit true v hv q hq r hr
theorem un_set {v q : Nat} (hv : v < 256) (hq : q < 8) (hb : v.testBit q = false) : ∀ n, n ≤ 8 → un (bset v q true) n + (if q < n then 1 else 0) = un v n := by
  intro n
  induction n with
  | zero => exact fun _ => rfl
  | succ n ih =>
    intro hn
    have ih := ih (by omega)
    rw [show un (bset v q true) (n + 1) = un (bset v q true) n + if (bset v q true).testBit n then 0 else 1 from rfl, show un v (n + 1) = un v n + if v.testBit n then 0 else 1 from rfl, bs_bit hv hq (by omega)]
    by_cases e : n = q
    · subst e
      rw [if_neg (Nat.lt_irrefl _)] at ih
      rw [if_pos rfl, if_pos rfl, if_pos (Nat.lt_succ_self _), hb, if_neg (by decide)]
      omega
    · rw [if_neg e]
      by_cases l : q < n
      · rw [if_pos l] at ih
        rw [if_pos (show q < n + 1 by omega)]
        omega
      · rw [if_neg l] at ih
        rw [if_neg (show ¬ q < n + 1 by omega)]
        omega
theorem un_pos {v q : Nat} (hb : v.testBit q = false) : ∀ n, q < n → 0 < un v n := by
  intro n
  induction n with
  | zero => exact fun h => absurd h (Nat.not_lt_zero _)
  | succ n ih =>
    intro h
    rw [show un v (n + 1) = un v n + if v.testBit n then 0 else 1 from rfl]
    by_cases e : q = n
    · subst e
      rw [hb, if_neg (by decide)]
      omega
    · have := ih (by omega)
      omega
theorem un_zero {v : Nat} : ∀ n, (∀ q, q < n → v.testBit q = true) → un v n = 0 := by
  intro n
  induction n with
  | zero => exact fun _ => rfl
  | succ n ih =>
    intro h
    rw [show un v (n + 1) = un v n + if v.testBit n then 0 else 1 from rfl, ih (fun q hq => h q (by omega)), h n (by omega)]
    rfl
theorem un_le {v : Nat} : ∀ n, un v n ≤ n := by
  intro n
  induction n with
  | zero => exact Nat.le_refl _
  | succ n ih =>
    rw [show un v (n + 1) = un v n + if v.testBit n then 0 else 1 from rfl]
    split <;> omega
theorem un_none : ∀ n, un 0 n = n := by
  intro n
  induction n with
  | zero => rfl
  | succ n ih =>
    rw [show un 0 (n + 1) = un 0 n + if (0 : Nat).testBit n then 0 else 1 from rfl, ih, Nat.zero_testBit]
    rfl
section CY
variable {s : Nat → Nat} {n p : Nat}
/-- a walk that has begun: what is behind it -/
theorem fw_in (hn : n ≤ 8) (hs : ∀ q, q < n → s q < n) (hi : ∀ a b, a < n → b < n → s a = s b → a = b) (hp : p < n) :
    ∀ m v q c, v < 256 → q < n → un v n ≤ m → v.testBit p = true → (v.testBit q = true → q = p) → (∀ u, u < n → v.testBit (s u) = true → s u ≠ p → v.testBit u = true) → (∃ u, u < n ∧ v.testBit u = true ∧ s u = q) →
      fwV s m v q < 256 ∧ (∀ u, u < n → v.testBit u = true → (fwV s m v q).testBit u = true) ∧ (∀ u, u < n → (fwV s m v q).testBit (s u) = true → (fwV s m v q).testBit u = true) ∧ fwC s p m v q c + un (fwV s m v q) n + 1 = c + un v n + (if q = p then 1 else 0) := by
  intro m
  have stop : ∀ v q c, v < 256 → q < n → v.testBit q = true → (v.testBit q = true → q = p) → (∀ u, u < n → v.testBit (s u) = true → s u ≠ p → v.testBit u = true) → (∃ u, u < n ∧ v.testBit u = true ∧ s u = q) →
      v < 256 ∧ (∀ u, u < n → v.testBit u = true → v.testBit u = true) ∧ (∀ u, u < n → v.testBit (s u) = true → v.testBit u = true) ∧ c + un v n + 1 = c + un v n + (if q = p then 1 else 0) := by
    intro v q c hv hq hb hE hB hC
    have e := hE hb
    refine ⟨hv, fun _ _ h => h, fun u hu h => ?_, by rw [if_pos e]⟩
    by_cases e2 : s u = p
    · obtain ⟨u', h1, h2, h3⟩ := hC
      rw [hi u u' hu h1 (by rw [e2, h3, e])]
      exact h2
    · exact hB u hu h e2
  induction m with
  | zero =>
    intro v q c hv hq hm hD hE hB hC
    have hb : v.testBit q = true := by
      cases h : v.testBit q with
      | true => rfl
      | false => have := un_pos h n hq; omega
    exact stop v q c hv hq hb hE hB hC
  | succ m ih =>
    intro v q c hv hq hm hD hE hB hC
    cases hb : v.testBit q with
    | true =>
      have h := stop v q c hv hq hb hE hB hC
      rw [show fwV s (m + 1) v q = if v.testBit q then v else fwV s m (bset v q true) (s q) from rfl, show fwC s p (m + 1) v q c = if v.testBit q then c else fwC s p m (bset v q true) (s q) (c + if s q = p then 0 else 1) from rfl, hb, if_pos rfl, if_pos rfl]
      exact h
    | false =>
      have hqp : q ≠ p := fun e => by rw [e, hD] at hb; cases hb
      have hu := un_set hv (show q < 8 by omega) hb n hn
      rw [if_pos hq] at hu
      have hbit : ∀ r, r < n → (bset v q true).testBit r = if r = q then true else v.testBit r := fun r hr => bs_bit hv (by omega) (by omega)
      have h := ih (bset v q true) (s q) (c + if s q = p then 0 else 1) (bset_lt true v hv q (by omega)) (hs q hq) (by omega)
        (by rw [hbit p hp, if_neg hqp.symm]; exact hD)
        (fun h => by
          rw [hbit _ (hs q hq)] at h
          by_cases e : s q = q
          · obtain ⟨u, h1, h2, h3⟩ := hC
            rw [hi u q h1 hq (by rw [h3, e])] at h2
            rw [h2] at hb
            cases hb
          · rw [if_neg e] at h
            refine Classical.byContradiction (fun hne => ?_)
            rw [hB q hq h hne] at hb
            cases hb)
        (fun u hu h hne => by
          rw [hbit _ (hs u hu)] at h
          rw [hbit u hu]
          by_cases e : u = q
          · rw [if_pos e]
          · rw [if_neg e]
            by_cases e2 : s u = q
            · obtain ⟨u', h1, h2, h3⟩ := hC
              rw [hi u u' hu h1 (by rw [e2, h3])]
              exact h2
            · rw [if_neg e2] at h
              exact hB u hu h hne)
        ⟨q, hq, by rw [hbit q hq, if_pos rfl], rfl⟩
      rw [show fwV s (m + 1) v q = if v.testBit q then v else fwV s m (bset v q true) (s q) from rfl, show fwC s p (m + 1) v q c = if v.testBit q then c else fwC s p m (bset v q true) (s q) (c + if s q = p then 0 else 1) from rfl, hb, if_neg (by decide), if_neg (by decide)]
      obtain ⟨h1, h2, h3, h4⟩ := h
      refine ⟨h1, fun u hu h => h2 u hu (by rw [hbit u hu]; split <;> first | rfl | exact h), h3, ?_⟩
      rw [if_neg hqp]
      by_cases e : s q = p
      · rw [if_pos e] at h4 ⊢
        rw [if_pos e] at h4
        omega
      · rw [if_neg e] at h4 ⊢
        rw [if_neg e] at h4
        omega
/-- one place's walk -/
theorem fw_out (hn : n ≤ 8) (hs : ∀ q, q < n → s q < n) (hi : ∀ a b, a < n → b < n → s a = s b → a = b) (hp : p < n) {v : Nat} (hv : v < 256) (hB : ∀ u, u < n → v.testBit (s u) = true → v.testBit u = true) (c : Nat) :
    fwV s n v p < 256 ∧ (∀ u, u < n → v.testBit u = true → (fwV s n v p).testBit u = true) ∧ (fwV s n v p).testBit p = true ∧ (∀ u, u < n → (fwV s n v p).testBit (s u) = true → (fwV s n v p).testBit u = true) ∧ fwC s p n v p c + un (fwV s n v p) n + (if v.testBit p then 0 else 1) = c + un v n := by
  obtain ⟨m, rfl⟩ : ∃ m, n = m + 1 := ⟨n - 1, by omega⟩
  rw [show fwV s (m + 1) v p = if v.testBit p then v else fwV s m (bset v p true) (s p) from rfl, show fwC s p (m + 1) v p c = if v.testBit p then c else fwC s p m (bset v p true) (s p) (c + if s p = p then 0 else 1) from rfl]
  cases hb : v.testBit p with
  | true =>
    rw [if_pos rfl, if_pos rfl, if_pos rfl]
    exact ⟨hv, fun _ _ h => h, hb, hB, rfl⟩
  | false =>
    have hu := un_set hv (show p < 8 by omega) hb (m + 1) hn
    rw [if_pos hp] at hu
    have hle := un_le (v := v) (m + 1)
    have hbit : ∀ r, r < m + 1 → (bset v p true).testBit r = if r = p then true else v.testBit r := fun r hr => bs_bit hv (by omega) (by omega)
    have hpt : (bset v p true).testBit p = true := by rw [hbit p hp, if_pos rfl]
    have h := fw_in hn hs hi hp m (bset v p true) (s p) (c + if s p = p then 0 else 1) (bset_lt true v hv p (by omega)) (hs p hp) (by omega) hpt
      (fun h => by
        rw [hbit _ (hs p hp)] at h
        by_cases e : s p = p
        · exact e
        · rw [if_neg e] at h
          rw [hB p hp h] at hb
          cases hb)
      (fun u hu h hne => by
        rw [hbit _ (hs u hu), if_neg hne] at h
        rw [hbit u hu]
        split
        · rfl
        · exact hB u hu h)
      ⟨p, hp, hpt, rfl⟩
    simp only [Bool.false_eq_true, if_false]
    obtain ⟨h1, h2, h3, h4⟩ := h
    refine ⟨h1, fun u hu h => h2 u hu (by rw [hbit u hu]; split <;> first | rfl | exact h), h2 p hp hpt, h3, ?_⟩
    by_cases e : s p = p
    · rw [if_pos e] at h4 ⊢
      rw [if_pos e] at h4
      omega
    · rw [if_neg e] at h4 ⊢
      rw [if_neg e] at h4
      omega
end CY
/-- all places' walks: visited, swaps, rounds -/
def cyV (s : Nat → Nat) (n : Nat) : Nat → Nat
  | 0 => 0
  | p + 1 => fwV s n (cyV s n p) p
def cyC (s : Nat → Nat) (n : Nat) : Nat → Nat
  | 0 => 0
  | p + 1 => fwC s p n (cyV s n p) p (cyC s n p)
def cyR (s : Nat → Nat) (n : Nat) : Nat → Nat
  | 0 => 0
  | p + 1 => if (cyV s n p).testBit p then cyR s n p else cyR s n p + 1
theorem cy_all {s : Nat → Nat} {n : Nat} (hn : n ≤ 8) (hs : ∀ q, q < n → s q < n) (hi : ∀ a b, a < n → b < n → s a = s b → a = b) :
    ∀ p, p ≤ n → cyV s n p < 256 ∧ (∀ u, u < p → (cyV s n p).testBit u = true) ∧ (∀ u, u < n → (cyV s n p).testBit (s u) = true → (cyV s n p).testBit u = true) ∧ cyC s n p + un (cyV s n p) n + cyR s n p = n ∧ cyR s n p ≤ p := by
  intro p
  induction p with
  | zero =>
    intro _
    refine ⟨by show 0 < 256; omega, fun u hu => absurd hu (Nat.not_lt_zero u), fun u _ h => ?_, ?_, Nat.le_refl _⟩
    · rw [show cyV s n 0 = 0 from rfl, Nat.zero_testBit] at h
      cases h
    · rw [show cyV s n 0 = 0 from rfl, un_none, show cyC s n 0 = 0 from rfl, show cyR s n 0 = 0 from rfl]
      omega
  | succ p ih =>
    intro hp
    obtain ⟨h1, h2, h3, h4, h5⟩ := ih (by omega)
    obtain ⟨k1, k2, k3, k4, k5⟩ := fw_out hn hs hi (show p < n by omega) h1 h3 (cyC s n p)
    rw [show cyV s n (p + 1) = fwV s n (cyV s n p) p from rfl, show cyC s n (p + 1) = fwC s p n (cyV s n p) p (cyC s n p) from rfl, show cyR s n (p + 1) = if (cyV s n p).testBit p then cyR s n p else cyR s n p + 1 from rfl]
    refine ⟨k1, fun u hu => ?_, k4, ?_, ?_⟩
    · by_cases e : u = p
      · rw [e]; exact k3
      · exact k2 u (by omega) (h2 u (by omega))
    · split
      · next e => rw [e, if_pos rfl] at k5; omega
      · next e => rw [if_neg e] at k5; omega
    · split <;> omega
theorem cy_eq {s : Nat → Nat} {n : Nat} (hn : n ≤ 8) (hs : ∀ q, q < n → s q < n) (hi : ∀ a b, a < n → b < n → s a = s b → a = b) : cyC s n n = n - cyR s n n ∧ cyR s n n ≤ n := by
  obtain ⟨_, h2, _, h4, h5⟩ := cy_all hn hs hi n (Nat.le_refl n)
  rw [un_zero n h2] at h4
  omega
def gSh (g : Nat → Nat) : Nat → Nat := fun p => g (12 + p)
section FEW
variable {E : xEn} {x n w : Nat} {S : xSt} {g : Nat → Nat} {T : Nat → Int64}
theorem bbit_f {v p : Nat} (h : v.testBit p = false) : bbit v p = 0 := by unfold bbit; rw [h]; rfl
theorem bbit_tt {v p : Nat} (h : v.testBit p = true) : bbit v p = 1 := by unfold bbit; rw [h]; rfl
theorem lm_few1 (hw : S.1 0 3 = nI w) (h9 : w ≤ 9) (H : iG g) {p : Nat} (hp : p < g 0) (d : Nat) :
    ∀ m v q c, v < 256 → q < g 0 → un v (g 0) ≤ m → qX11_fewest_22 E (d + 2) x (nI v) (nI c) (nI p) (nI q) (wW E x shM (mS S w g T), n) = qX11_fewest_73 E (d + 2) x (nI (fwV (gSh g) m v q)) (nI (fwC (gSh g) p m v q c)) (nI p) (wW E x shM (mS S w g T), n) := by
  have h8 := H.1.2.1
  have hs2 := H.2.2.1
  intro m
  have stop : ∀ v q c, v < 256 → q < g 0 → v.testBit q = true → qX11_fewest_22 E (d + 2) x (nI v) (nI c) (nI p) (nI q) (wW E x shM (mS S w g T), n) = qX11_fewest_73 E (d + 2) x (nI v) (nI c) (nI p) (wW E x shM (mS S w g T), n) := by
    intro v q c hv hq hb
    rw [QX11_fewest_22, bb_get v hv q (by omega), bbit_tt hb]
    simp (disch := omega) only [iEQ_f, cI_s, cL_s, cF_s, cD_s, cA_s, cV_s, nI_add, cond_true, cond_false, if_true, if_false]
  induction m with
  | zero =>
    intro v q c hv hq hm
    have hb : v.testBit q = true := by
      cases h : v.testBit q with
      | true => rfl
      | false => have := un_pos h (g 0) hq; omega
    exact stop v q c hv hq hb
  | succ m ih =>
    intro v q c hv hq hm
    rw [show fwV (gSh g) (m + 1) v q = if v.testBit q then v else fwV (gSh g) m (bset v q true) (gSh g q) from rfl, show fwC (gSh g) p (m + 1) v q c = if v.testBit q then c else fwC (gSh g) p m (bset v q true) (gSh g q) (c + if gSh g q = p then 0 else 1) from rfl]
    cases hb : v.testBit q with
    | true =>
      rw [if_pos rfl, if_pos rfl]
      exact stop v q c hv hq hb
    | false =>
      have hu := un_set hv (show q < 8 by omega) hb (g 0) h8
      rw [if_pos hq] at hu
      rw [if_neg (by decide), if_neg (by decide)]
      have h := ih (bset v q true) (gSh g q) (c + if gSh g q = p then 0 else 1) (bset_lt true v hv q (by omega)) (hs2 q hq) (by omega)
      have hsq := hs2 q hq
      rw [← h, QX11_fewest_22, bb_get v hv q (by omega), bbit_f hb, bb_or v hv q (by omega)]
      unfold gSh
      by_cases e : g (12 + q) = p
      · simp (disch := omega) only [iEQ_t, gO_9 hM0, gI_9_0 hM0, gP_9_0 hM0, gR_9_1 hM0, gR_9_2 hM0, gI_9_3 hM0, gP_9_3 hM0, gI_9_4 hM0, gP_9_4 hM0, gR_9_5 hM0, gR_9_6 hM0, gR_9_7 hM0, gI_9_8 hM0, gP_9_8 hM0, gI_9_9 hM0, gP_9_9 hM0, gI_9_10 hM0, gP_9_10 hM0, gI_9_11 hM0, gP_9_11 hM0, gI_9_12 hM0, gP_9_12 hM0, gI_9_13 hM0, gP_9_13 hM0, gI_9_14 hM0, gP_9_14 hM0, gI_9_15 hM0, gP_9_15 hM0, gI_9_16 hM0, gP_9_16 hM0, gR_9_17 hM0, gR_9_18 hM0, gR_9_19 hM0, gR_9_20 hM0, gI_9_21 hM0, gP_9_21 hM0, gI_9_22 hM0, gP_9_22 hM0, gI_9_23 hM0, gP_9_23 hM0, gI_9_24 hM0, gP_9_24 hM0, gR_9_25 hM0, gI_9_26 hM0, gP_9_26 hM0, gI_9_27 hM0, gP_9_27 hM0, gI_9_28 hM0, gP_9_28 hM0, gL_9_29 hM0, gP_9_29 hM0, gL_9_30 hM0, gP_9_30 hM0, m_get hw h9, QX11_fewest_57, cI_s, cL_s, cF_s, cD_s, cA_s, cV_s, nI_add, cond_true, cond_false, if_true, if_false]
        rw [if_pos e]
      · simp (disch := omega) only [iEQ_t, gO_9 hM0, gI_9_0 hM0, gP_9_0 hM0, gR_9_1 hM0, gR_9_2 hM0, gI_9_3 hM0, gP_9_3 hM0, gI_9_4 hM0, gP_9_4 hM0, gR_9_5 hM0, gR_9_6 hM0, gR_9_7 hM0, gI_9_8 hM0, gP_9_8 hM0, gI_9_9 hM0, gP_9_9 hM0, gI_9_10 hM0, gP_9_10 hM0, gI_9_11 hM0, gP_9_11 hM0, gI_9_12 hM0, gP_9_12 hM0, gI_9_13 hM0, gP_9_13 hM0, gI_9_14 hM0, gP_9_14 hM0, gI_9_15 hM0, gP_9_15 hM0, gI_9_16 hM0, gP_9_16 hM0, gR_9_17 hM0, gR_9_18 hM0, gR_9_19 hM0, gR_9_20 hM0, gI_9_21 hM0, gP_9_21 hM0, gI_9_22 hM0, gP_9_22 hM0, gI_9_23 hM0, gP_9_23 hM0, gI_9_24 hM0, gP_9_24 hM0, gR_9_25 hM0, gI_9_26 hM0, gP_9_26 hM0, gI_9_27 hM0, gP_9_27 hM0, gI_9_28 hM0, gP_9_28 hM0, gL_9_29 hM0, gP_9_29 hM0, gL_9_30 hM0, gP_9_30 hM0, m_get hw h9, QX11_fewest_56, QX11_fewest_57, cI_s, cL_s, cF_s, cD_s, cA_s, cV_s, nI_add, cond_true, cond_false, if_true, if_false]
        rw [iEQ_f e (by omega) (by omega), if_neg e]
theorem lm_few2 (hw : S.1 0 3 = nI w) (h9 : w ≤ 9) (H : iG g) (d : Nat) :
    ∀ k p, p + k = g 0 → qX11_fewest_11 E (d + 2) x (nI (cyV (gSh g) (g 0) p)) (nI (cyC (gSh g) (g 0) p)) (nI p) (wW E x shM (mS S w g T), n) = some (.inl (some (.int (nI (cyC (gSh g) (g 0) (g 0))))), (wW E x shM (mS S w g T), n)) := by
  have h8 := H.1.2.1
  intro k
  induction k with
  | zero =>
    intro p hp
    have hp : p = g 0 := hp
    rw [QX11_fewest_11]
    simp (disch := omega) only [gO_9 hM0, gI_9_0 hM0, gP_9_0 hM0, gR_9_1 hM0, gR_9_2 hM0, gI_9_3 hM0, gP_9_3 hM0, gI_9_4 hM0, gP_9_4 hM0, gR_9_5 hM0, gR_9_6 hM0, gR_9_7 hM0, gI_9_8 hM0, gP_9_8 hM0, gI_9_9 hM0, gP_9_9 hM0, gI_9_10 hM0, gP_9_10 hM0, gI_9_11 hM0, gP_9_11 hM0, gI_9_12 hM0, gP_9_12 hM0, gI_9_13 hM0, gP_9_13 hM0, gI_9_14 hM0, gP_9_14 hM0, gI_9_15 hM0, gP_9_15 hM0, gI_9_16 hM0, gP_9_16 hM0, gR_9_17 hM0, gR_9_18 hM0, gR_9_19 hM0, gR_9_20 hM0, gI_9_21 hM0, gP_9_21 hM0, gI_9_22 hM0, gP_9_22 hM0, gI_9_23 hM0, gP_9_23 hM0, gI_9_24 hM0, gP_9_24 hM0, gR_9_25 hM0, gI_9_26 hM0, gP_9_26 hM0, gI_9_27 hM0, gP_9_27 hM0, gI_9_28 hM0, gP_9_28 hM0, gL_9_29 hM0, gP_9_29 hM0, gL_9_30 hM0, gP_9_30 hM0, m_shells hw h9, iLE_t, QX11_fewest_79, cI_s, cL_s, cF_s, cD_s, cA_s, cV_s, nI_add, cond_true, cond_false, if_true, if_false]
    rw [hp]
  | succ k ih =>
    intro p hp
    have hv := (cy_all h8 (s := gSh g) (fun q hq => H.2.2.1 q hq) (fun a b ha hb h => H.2.2.2.1 a b ha hb h) p (by omega)).1
    rw [QX11_fewest_11]
    simp (disch := omega) only [gO_9 hM0, gI_9_0 hM0, gP_9_0 hM0, gR_9_1 hM0, gR_9_2 hM0, gI_9_3 hM0, gP_9_3 hM0, gI_9_4 hM0, gP_9_4 hM0, gR_9_5 hM0, gR_9_6 hM0, gR_9_7 hM0, gI_9_8 hM0, gP_9_8 hM0, gI_9_9 hM0, gP_9_9 hM0, gI_9_10 hM0, gP_9_10 hM0, gI_9_11 hM0, gP_9_11 hM0, gI_9_12 hM0, gP_9_12 hM0, gI_9_13 hM0, gP_9_13 hM0, gI_9_14 hM0, gP_9_14 hM0, gI_9_15 hM0, gP_9_15 hM0, gI_9_16 hM0, gP_9_16 hM0, gR_9_17 hM0, gR_9_18 hM0, gR_9_19 hM0, gR_9_20 hM0, gI_9_21 hM0, gP_9_21 hM0, gI_9_22 hM0, gP_9_22 hM0, gI_9_23 hM0, gP_9_23 hM0, gI_9_24 hM0, gP_9_24 hM0, gR_9_25 hM0, gI_9_26 hM0, gP_9_26 hM0, gI_9_27 hM0, gP_9_27 hM0, gI_9_28 hM0, gP_9_28 hM0, gL_9_29 hM0, gP_9_29 hM0, gL_9_30 hM0, gP_9_30 hM0, m_shells hw h9, iLE_f, cI_s, cL_s, cF_s, cD_s, cA_s, cV_s, nI_add, cond_true, cond_false, if_true, if_false]
    rw [lm_few1 hw h9 H (by omega) d (g 0) _ p _ hv (by omega) (un_le _), QX11_fewest_73]
    simp (disch := omega) only [cI_s, cL_s, cF_s, cD_s, cA_s, cV_s, nI_add, cond_true, cond_false, if_true, if_false]
    exact ih (p + 1) (by omega)
theorem m_fewest (hw : S.1 0 3 = nI w) (h9 : w ≤ 9) (H : iG g) (d : Nat) :
    xsem xT E (d + 3) kX11_fewest [.ref x] (wW E x shM (mS S w g T), n) = some (.inl (some (.int (nI (cyC (gSh g) (g 0) (g 0))))), (wW E x shM (mS (sS S 0 0 (nI 0)) w g T), n)) := by
  rw [eX11_fewest, QX11_fewest_0]
  simp (disch := omega) only [gO_9 hM0, gI_9_0 hM0, gP_9_0 hM0, gR_9_1 hM0, gR_9_2 hM0, gI_9_3 hM0, gP_9_3 hM0, gI_9_4 hM0, gP_9_4 hM0, gR_9_5 hM0, gR_9_6 hM0, gR_9_7 hM0, gI_9_8 hM0, gP_9_8 hM0, gI_9_9 hM0, gP_9_9 hM0, gI_9_10 hM0, gP_9_10 hM0, gI_9_11 hM0, gP_9_11 hM0, gI_9_12 hM0, gP_9_12 hM0, gI_9_13 hM0, gP_9_13 hM0, gI_9_14 hM0, gP_9_14 hM0, gI_9_15 hM0, gP_9_15 hM0, gI_9_16 hM0, gP_9_16 hM0, gR_9_17 hM0, gR_9_18 hM0, gR_9_19 hM0, gR_9_20 hM0, gI_9_21 hM0, gP_9_21 hM0, gI_9_22 hM0, gP_9_22 hM0, gI_9_23 hM0, gP_9_23 hM0, gI_9_24 hM0, gP_9_24 hM0, gR_9_25 hM0, gI_9_26 hM0, gP_9_26 hM0, gI_9_27 hM0, gP_9_27 hM0, gI_9_28 hM0, gP_9_28 hM0, gL_9_29 hM0, gP_9_29 hM0, gL_9_30 hM0, gP_9_30 hM0, mS_sS, cI_s, cL_s, cF_s, cD_s, cA_s, cV_s, nI_add, cond_true, cond_false, if_true, if_false]
  exact lm_few2 (S := sS S 0 0 (nI 0)) (by rw [sS_n (by omega)]; exact hw) h9 H d (g 0) 0 (by omega)
end FEW
