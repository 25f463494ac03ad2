/-! THE CLASS'S INPUT: tokens of a text. -/
def hEn (E : xEn) (z : Nat → Option va_E) (x : Nat) : Prop := hW E z ∧ ∀ a, isSA E a → a < x
theorem bq_t {E : xEn} {z : Nat → Option va_E} {x i j : Nat} (H : hEn E z x) (hi : i < 29) (hj : j < 29) : Nat.beq (E.1 i) (E.1 j) = decide (i = j) := by
  rw [beq_iff']
  by_cases e : i = j
  · rw [decide_eq_true e, decide_eq_true (by rw [e])]
  · rw [decide_eq_false e, decide_eq_false (fun z => e (H.1.1.1 i j hi hj z))]
theorem xt_shr : ∀ k, k ≤ 8 → nI k >>> (nI 0 &&& 31) = nI k := by decide +kernel
section JD
variable {E : xEn} {z : Nat → Option va_E} {x n : Nat} {sh : Nat → Option xSh} {S : xSt} {ρ : Type}
theorem hE_w (H : hEn E z x) : hW E (wW E z x sh S) := ⟨H.1.1, fun a ha => by
  unfold wW
  rw [Bool.eq_false_iff.2 (fun y => absurd (Nat.le_of_ble_eq_true y) (by have := H.2 a ha; omega))]
  exact H.1.2 a ha⟩
theorem gO_str (H : hEn E z x) {j : Nat} (hj : j < 27) {K : Option ρ} : gO E (wW E z x sh S, n) 99 (E.2.1 j) K = K := gO_s (isStr_lit (hE_w H) (by omega)) H.1.1
theorem sJ_length (H : hEn E z x) {j : Nat} (hj : j < 27) (d : Nat) : xsem xT E (d + 2) kJ0_length_8abf5 [.ref (E.2.1 j)] (wW E z x sh S, n) = some (.inl (some (.int (nI (xtx j).length))), (wW E z x sh S, n)) := z_length (isStr_lit (hE_w H) (by omega)) H.1.1 d
theorem sJ_charAt (H : hEn E z x) {j : Nat} (hj : j < 27) {i : Nat} (hi : i < (xtx j).length) (d : Nat) : xsem xT E (d + 4) kJ0_charAt_5068e [.ref (E.2.1 j), .int (nI i)] (wW E z x sh S, n) = some (.inl (some (.int ((xtx j).getD i 0))), (wW E z x sh S, n)) := by
  have hl := xt_len j (by omega)
  obtain ⟨c, hc, he⟩ := xt_c j (by omega) i hi
  rw [he]
  exact z_charAt (isStr_lit (hE_w H) (by omega)) H.1.1 (by omega) hi hc he d
theorem gT_tok (H : hEn E z x) {i : Nat} (hi : i < 29) {K : Nat → Option ρ} : gT E (E.1 i) K = K (E.2.1 (xtt i)) := by
  unfold gT
  rw [xfind_in 29 i H.1.1.1 hi]
theorem aN_all (H : hEn E z x) {K : Int32 → Option ρ} : aN E (wW E z x sh S, n) E.2.2.2.1 K = K 29 := by
  unfold aN
  rw [show (wW E z x sh S, n).1 E.2.2.2.1 = none from (hE_w H).2 _ isSA_A]
  dsimp only
  rw [Nat.beq_refl, cond_true]
theorem aQ_all (H : hEn E z x) {i : Nat} (hi : i < 29) {K : Nat → Option ρ} : aQ E (wW E z x sh S, n) E.2.2.2.1 (nI i) K = K (E.1 i) := by
  unfold aQ
  rw [show (wW E z x sh S, n).1 E.2.2.2.1 = none from (hE_w H).2 _ isSA_A]
  dsimp only
  rw [Nat.beq_refl, xin_nI hi (by omega), nI_clamp (by omega)]
  rfl
end JD
def hI (sh : Nat → Option xSh) (q : Nat) : Prop := sh q = some (sh3 q) ∧ sh (q + 1) = some (2, 500, []) ∧ sh (q + 2) = some (4, 501, []) ∧ sh (q + 3) = some (1, 501, []) ∧ sh (q + 4) = some (1, 501, [])
/-- what is read lies in the buffer -/
def pBy (S : xSt) (q : Nat) (tx : Nat → Nat) (L : Nat) : Prop := L ≤ 500 ∧ S.1 q 2 = nI L ∧ ∀ i, i < L → S.2.1 (q + 1) i = sx (tx i) ∧ tx i < 256
section LX
variable {E : xEn} {z : Nat → Option va_E} {x n : Nat} {sh : Nat → Option xSh} {S : xSt} {q L : Nat} {tx : Nat → Nat}
theorem kd_le (c : Nat) : kd c ≤ 3 := by
  unfold kd
  split
  · omega
  · split
    · omega
    · split <;> omega
theorem s3_kindAt (h : hI sh q) (B : pBy S q tx L) {p : Nat} (hp : p < L) (d : Nat) : xsem xT E (d + 1) kX3_kindAt [.ref (x + q), .int (nI p)] (wW E z x sh S, n) = some (.inl (some (.int (nI (kd (tx p))))), (wW E z x sh S, n)) := by
  obtain ⟨a0, a1, a2, a3, a4⟩ := h
  obtain ⟨b1, b2, b3⟩ := B
  obtain ⟨e1, e2⟩ := b3 p hp
  rw [eX3_kindAt, QX3_kindAt_0]
  simp (disch := omega) only [gO_3 a0, gR_3_0 a0, gI_3_1 a0, gP_3_1 a0, gI_3_2 a0, gP_3_2 a0, gR_3_3 a0, gR_3_4 a0, gR_3_5 a0, gI_3_6 a0, gP_3_6 a0, gI_3_7 a0, gP_3_7 a0, gI_3_8 a0, gP_3_8 a0, gI_3_9 a0, gP_3_9 a0, aB_w a1, e1, cI_s, cL_s, cF_s, cD_s, cA_s, cV_s, nI_add, cond_true, cond_false, if_true, if_false]
  unfold kd
  by_cases c0 : tx p = 32
  · rw [if_pos ((sx_eq e2 (by omega)).2 c0), if_pos c0]
  · rw [if_neg (fun z => c0 ((sx_eq e2 (by omega)).1 z)), if_neg c0, QX3_kindAt_15]
    by_cases c1 : 48 ≤ tx p ∧ tx p ≤ 57
    · rw [if_neg (fun z => by have := (sx_lt e2 (by omega)).1 z; omega), if_neg (fun z => by have := (sx_gt e2 (by omega)).1 z; omega), if_pos c1]
    · have hgo : (if sx (tx p) < nI 48 then qX3_kindAt_29 E d (sx (tx p)) (wW E z x sh S, n) else if nI 57 < sx (tx p) then qX3_kindAt_29 E d (sx (tx p)) (wW E z x sh S, n) else some (.inl (some (.int (nI 1))), (wW E z x sh S, n))) = qX3_kindAt_29 E d (sx (tx p)) (wW E z x sh S, n) := by
        by_cases c2 : tx p < 48 ∨ 128 ≤ tx p
        · rw [if_pos ((sx_lt e2 (by omega)).2 c2)]
        · rw [if_neg (fun z => c2 ((sx_lt e2 (by omega)).1 z)), if_pos ((sx_gt e2 (by omega)).2 (by omega))]
      rw [hgo, if_neg c1, QX3_kindAt_29]
      by_cases c3 : 97 ≤ tx p ∧ tx p ≤ 122
      · rw [if_neg (fun z => by have := (sx_lt e2 (by omega)).1 z; omega), if_neg (fun z => by have := (sx_gt e2 (by omega)).1 z; omega), if_pos c3, QX3_kindAt_46]
      · rw [if_neg c3]
        by_cases c4 : tx p < 97 ∨ 128 ≤ tx p
        · rw [if_pos ((sx_lt e2 (by omega)).2 c4), QX3_kindAt_45, QX3_kindAt_46]
        · rw [if_neg (fun z => c4 ((sx_lt e2 (by omega)).1 z)), if_pos ((sx_gt e2 (by omega)).2 (by omega)), QX3_kindAt_45, QX3_kindAt_46]
theorem l3_num (h : hI sh q) (B : pBy S q tx L) (d : Nat) :
    ∀ m p v, p + m ≤ L → (∀ j, j < m → kd (tx (p + j)) = 1) → v ≤ 10000 → qX3_numberIn_5 E d (x + q) (nI (p + m)) (nI v) (nI p) (wW E z x sh S, n) = some (.inl (some (.int (nI (nC tx m p v)))), (wW E z x sh S, n)) := by
  obtain ⟨a0, a1, a2, a3, a4⟩ := h
  obtain ⟨b1, b2, b3⟩ := B
  intro m
  induction m with
  | zero =>
    intro p v hp _ hv
    rw [QX3_numberIn_5]
    simp (disch := omega) only [iLE_t, QX3_numberIn_39, cI_s, cL_s, cF_s, cD_s, cA_s, cV_s, nI_add, cond_true, cond_false, if_true, if_false]
    rfl
  | succ m ih =>
    intro p v hp hk hv
    obtain ⟨e1, e2⟩ := b3 p (by omega)
    have hk0 := hk 0 (by omega)
    have hd : 48 ≤ tx p ∧ tx p ≤ 57 := by
      unfold kd at hk0
      rw [Nat.add_zero] at hk0
      split at hk0
      · omega
      · split at hk0
        · assumption
        · split at hk0 <;> omega
    have hs : sx (tx p) = nI (tx p) := if_pos (by omega)
    have ih := ih (p + 1) (if 10000 < v * 10 + (tx p - 48) then 10000 else v * 10 + (tx p - 48)) (by omega) (fun j hj => by
      have := hk (j + 1) (by omega)
      rw [show p + 1 + j = p + (j + 1) by omega]
      exact this) (by split <;> omega)
    rw [show p + 1 + m = p + (m + 1) by omega] at ih
    rw [show nC tx (m + 1) p v = nC tx m (p + 1) (if 10000 < v * 10 + (tx p - 48) then 10000 else v * 10 + (tx p - 48)) from rfl, ← ih, QX3_numberIn_5]
    simp (disch := omega) only [iLE_f, gO_3 a0, gR_3_0 a0, gI_3_1 a0, gP_3_1 a0, gI_3_2 a0, gP_3_2 a0, gR_3_3 a0, gR_3_4 a0, gR_3_5 a0, gI_3_6 a0, gP_3_6 a0, gI_3_7 a0, gP_3_7 a0, gI_3_8 a0, gP_3_8 a0, gI_3_9 a0, gP_3_9 a0, aB_w a1, e1, hs, pk_mul, pk_sub, cI_s, cL_s, cF_s, cD_s, cA_s, cV_s, nI_add, cond_true, cond_false, if_true, if_false]
    rw [mnI_n (by omega) (by omega)]
theorem s3_numberIn (h : hI sh q) (B : pBy S q tx L) {p e : Nat} (hpe : p ≤ e) (he : e ≤ L) (hk : ∀ j, p ≤ j → j < e → kd (tx j) = 1) (d : Nat) :
    xsem xT E (d + 1) kX3_numberIn [.ref (x + q), .int (nI p), .int (nI e)] (wW E z x sh S, n) = some (.inl (some (.int (nI (nC tx (e - p) p 0)))), (wW E z x sh S, n)) := by
  have hl := l3_num (E := E) (z := z) (x := x) (n := n) h B d (e - p) p 0 (by omega) (fun j hj => hk _ (by omega) (by omega)) (by omega)
  rw [show p + (e - p) = e by omega] at hl
  rw [eX3_numberIn, QX3_numberIn_0]
  exact hl
theorem l3_spell (h : hI sh q) (H : hEn E z x) (B : pBy S q tx L) {j p : Nat} (hj : j < 27) (hp : p + (xtx j).length ≤ L) (d : Nat) :
    ∀ k i, i + k = (xtx j).length → (∀ r, r < i → sx (tx (p + r)) = (xtx j).getD r 0) → ((sp tx p (xtx j) → qX3_isSpelled_15 E (d + 4) (x + q) (E.2.1 j) (nI p) (nI i) (wW E z x sh S, n) = some (.inl (some (.int (nI 1))), (wW E z x sh S, n))) ∧ (¬ sp tx p (xtx j) → qX3_isSpelled_15 E (d + 4) (x + q) (E.2.1 j) (nI p) (nI i) (wW E z x sh S, n) = some (.inl (some (.int (nI 0))), (wW E z x sh S, n)))) := by
  obtain ⟨a0, a1, a2, a3, a4⟩ := h
  obtain ⟨b1, b2, b3⟩ := B
  have hl := xt_len j (by omega)
  intro k
  induction k with
  | zero =>
    intro i hi hr
    have hi : i = (xtx j).length := hi
    have hs : sp tx p (xtx j) := (sp_at _ _).2 (fun r hr2 => hr r (by omega))
    refine ⟨fun _ => ?_, fun z => absurd hs z⟩
    rw [QX3_isSpelled_15, gO_str H hj, sJ_length H hj]
    simp (disch := omega) only [iLE_t, QX3_isSpelled_50, xret5_1, cI_s, cL_s, cF_s, cD_s, cA_s, cV_s, nI_add, cond_true, cond_false, if_true, if_false]
  | succ k ih =>
    intro i hi hr
    obtain ⟨e1, e2⟩ := b3 (p + i) (by omega)
    have hgo : qX3_isSpelled_15 E (d + 4) (x + q) (E.2.1 j) (nI p) (nI i) (wW E z x sh S, n) = if sx (tx (p + i)) = (xtx j).getD i 0 then qX3_isSpelled_44 E (d + 4) (x + q) (E.2.1 j) (nI p) (nI i) (wW E z x sh S, n) else some (.inl (some (.int (nI 0))), (wW E z x sh S, n)) := by
      rw [QX3_isSpelled_15, gO_str H hj, sJ_length H hj]
      simp (disch := omega) only [iLE_f, gO_3 a0, gR_3_0 a0, gI_3_1 a0, gP_3_1 a0, gI_3_2 a0, gP_3_2 a0, gR_3_3 a0, gR_3_4 a0, gR_3_5 a0, gI_3_6 a0, gP_3_6 a0, gI_3_7 a0, gP_3_7 a0, gI_3_8 a0, gP_3_8 a0, gI_3_9 a0, gP_3_9 a0, aB_w a1, e1, cI_s, cL_s, cF_s, cD_s, cA_s, cV_s, nI_add, cond_true, cond_false, if_true, if_false]
      rw [gO_str H hj, sJ_charAt H hj (show i < (xtx j).length by omega)]
      simp (disch := omega) only [xret5_0, cI_s, cL_s, cF_s, cD_s, cA_s, cV_s, nI_add, cond_true, cond_false, if_true, if_false]
    rw [hgo]
    by_cases c : sx (tx (p + i)) = (xtx j).getD i 0
    · rw [if_pos c, QX3_isSpelled_44]
      simp (disch := omega) only [cI_s, cL_s, cF_s, cD_s, cA_s, cV_s, nI_add, cond_true, cond_false, if_true, if_false]
      exact ih (i + 1) (by omega) (fun r hr2 => by
        by_cases e : r = i
        · rw [e]; exact c
        · exact hr r (by omega))
    · rw [if_neg c]
      exact ⟨fun z => absurd ((sp_at _ _).1 z i (by omega)) c, fun _ => rfl⟩
theorem s3_isSpelled (h : hI sh q) (H : hEn E z x) (B : pBy S q tx L) {i p e : Nat} (hi : i < 29) (hpe : p ≤ e) (he : e ≤ L) (d : Nat) :
    xsem xT E (d + 5) kX3_isSpelled [.ref (x + q), .ref (E.2.1 (xtt i)), .int (nI p), .int (nI e)] (wW E z x sh S, n) = some (.inl (some (.int (nI (isWb tx p e i).toNat))), (wW E z x sh S, n)) := by
  have hj : xtt i < 27 := (show ∀ i, i < 29 → xtt i < 27 by decide) i hi
  have hl := xt_len (xtt i) (by omega)
  obtain ⟨b1, b2, b3⟩ := B
  rw [eX3_isSpelled, QX3_isSpelled_0, gO_str H hj, sJ_length H hj]
  simp (disch := omega) only [pk_sub, cI_s, cL_s, cF_s, cD_s, cA_s, cV_s, nI_add, cond_true, cond_false, if_true, if_false]
  unfold isWb isW
  by_cases c : (xtx (xtt i)).length = e - p
  · rw [iEQ_t c, QX3_isSpelled_12]
    have hx := l3_spell (E := E) (z := z) (x := x) (n := n) h H ⟨b1, b2, b3⟩ hj (p := p) (by omega) d (xtx (xtt i)).length 0 (by omega) (fun r hr => absurd hr (Nat.not_lt_zero r))
    by_cases s : sp tx p (xtx (xtt i))
    · rw [hx.1 s, @decide_eq_true _ (Classical.propDecidable _) ⟨c, s⟩]
      rfl
    · rw [hx.2 s, @decide_eq_false _ (Classical.propDecidable _) (fun z => s z.2)]
      rfl
  · rw [iEQ_f c (by omega) (by omega), @decide_eq_false _ (Classical.propDecidable _) (fun z => c z.1)]
    simp (disch := omega) only [xret5_0, cI_s, cL_s, cF_s, cD_s, cA_s, cV_s, nI_add, cond_true, cond_false, if_true, if_false]
    rfl
theorem fdW_lt {p e : Nat} : ∀ m i, i + m ≤ 29 → fdW tx p e m i < 29 := by
  intro m
  induction m with
  | zero => intro i _; show 2 < 29; omega
  | succ m ih =>
    intro i hi
    rw [show fdW tx p e (m + 1) i = bif isWb tx p e i then i else fdW tx p e m (i + 1) from rfl]
    cases isWb tx p e i
    · exact ih _ (by omega)
    · show i < 29; omega
theorem l3_tokenIn (h : hI sh q) (H : hEn E z x) (B : pBy S q tx L) {p e : Nat} (hpe : p ≤ e) (he : e ≤ L) (d : Nat) :
    ∀ m i, i + m = 29 → qX3_tokenIn_11 E (d + 5) (x + q) (nI p) (nI e) E.2.2.2.1 29 (nI i) (wW E z x sh S, n) = some (.inl (some (.ref (E.1 (fdW tx p e m i)))), (wW E z x sh S, n)) := by
  have a0 := h.1
  intro m
  induction m with
  | zero =>
    intro i hi
    have hi : i = 29 := hi
    subst hi
    rw [QX3_tokenIn_11, show (29 : Int32) = nI 29 from rfl]
    simp (disch := omega) only [iLE_t, QX3_tokenIn_47, cI_s, cL_s, cF_s, cD_s, cA_s, cV_s, nI_add, cond_true, cond_false, if_true, if_false]
    rfl
  | succ m ih =>
    intro i hi
    rw [QX3_tokenIn_11, show (29 : Int32) = nI 29 from rfl, iLE_f (by omega) (by omega), aQ_all H (by omega), gT_tok H (by omega)]
    simp (disch := omega) only [gO_3 a0, gR_3_0 a0, gI_3_1 a0, gP_3_1 a0, gI_3_2 a0, gP_3_2 a0, gR_3_3 a0, gR_3_4 a0, gR_3_5 a0, gI_3_6 a0, gP_3_6 a0, gI_3_7 a0, gP_3_7 a0, gI_3_8 a0, gP_3_8 a0, gI_3_9 a0, gP_3_9 a0, cI_s, cL_s, cF_s, cD_s, cA_s, cV_s, nI_add, cond_true, cond_false, if_true, if_false]
    rw [s3_isSpelled h H B (by omega) hpe he, show fdW tx p e (m + 1) i = bif isWb tx p e i then i else fdW tx p e m (i + 1) from rfl]
    cases isWb tx p e i
    · simp (disch := omega) only [Bool.toNat_false, iEQ_t, QX3_tokenIn_41, cI_s, cL_s, cF_s, cD_s, cA_s, cV_s, nI_add, cond_true, cond_false, if_true, if_false]
      exact ih (i + 1) (by omega)
    · simp (disch := omega) only [Bool.toNat_true, iEQ_f, cI_s, cL_s, cF_s, cD_s, cA_s, cV_s, nI_add, cond_true, cond_false, if_true, if_false]
theorem s3_tokenIn (h : hI sh q) (H : hEn E z x) (B : pBy S q tx L) {p e : Nat} (hpe : p ≤ e) (he : e ≤ L) (d : Nat) :
    xsem xT E (d + 6) kX3_tokenIn [.ref (x + q), .int (nI p), .int (nI e)] (wW E z x sh S, n) = some (.inl (some (.ref (E.1 (fdW tx p e 29 0)))), (wW E z x sh S, n)) := by
  rw [eX3_tokenIn, QX3_tokenIn_0, aN_all H]
  exact l3_tokenIn h H B hpe he d 29 0 (by omega)
end LX
