/-! THE CLASS'S INPUT: the chain of tokens. -/
def ch (tx : Nat → Nat) (L : Nat) : Nat → Nat
  | 0 => nx tx L 0
  | i + 1 => ad tx L (ch tx L i)
theorem ch_le {tx : Nat → Nat} {L : Nat} : ∀ i, ch tx L i ≤ L := by
  intro i
  induction i with
  | zero => exact nx_le (Nat.zero_le _)
  | succ i ih => exact ad_le ih
theorem ch_nx {tx : Nat → Nat} {L : Nat} (hL : L ≤ 500) : ∀ i, nx tx L (ch tx L i) = ch tx L i := by
  intro i
  induction i with
  | zero => exact nx_nx hL 0
  | succ i ih => exact ad_nx hL ih
/-- where the next token begins, behind a byte of kind b -/
def nb (tx : Nat → Nat) (L p b : Nat) : Nat := if b = 1 ∨ b = 2 then nx tx L (ru tx L b 500 p) else nx tx L p
theorem tk_lt {tx : Nat → Nat} {L p : Nat} : tk tx L p < 29 := by
  unfold tk
  split
  · split
    · omega
    · exact fdW_lt 29 0 (by omega)
  · omega
theorem nu_le {tx : Nat → Nat} {L p : Nat} : ∀ m v, v ≤ 10000 → nC tx m p v ≤ 10000 := by
  have : ∀ m p v, v ≤ 10000 → nC tx m p v ≤ 10000 := by
    intro m
    induction m with
    | zero => exact fun _ _ h => h
    | succ m ih => exact fun p v _ => ih _ _ (by split <;> omega)
  exact fun m v h => this m p v h
theorem nu_lt {tx : Nat → Nat} {L p : Nat} : nu tx L p ≤ 10000 := by
  unfold nu
  split
  · split
    · exact nu_le (L := L) _ _ (by omega)
    · omega
  · omega
section LX2
variable {E : xEn} {z : Nat → Option va_E} {x n : Nat} {sh : Nat → Option xSh} {S : xSt} {q L : Nat} {tx : Nat → Nat}
/-- the first m tokens stand -/
def pTk (S : xSt) (q : Nat) (tx : Nat → Nat) (L m : Nat) : Prop := S.1 q 6 = nI m ∧ ∀ i, i < m → S.2.2.2.2 (q + 2) i = some (tk tx L (ch tx L i)) ∧ S.2.1 (q + 3) i = nI (ch tx L i) ∧ S.2.1 (q + 4) i = nI (nu tx L (ch tx L i))
def tkS (S : xSt) (q m t p v : Nat) : xSt := sS (sA (sA (sT S (q + 2) (fun j => if j = m then some t else S.2.2.2.2 (q + 2) j)) (q + 3) (upd (S.2.1 (q + 3)) m (nI p))) (q + 4) (upd (S.2.1 (q + 4)) m (nI v))) q 6 (nI (m + 1))
theorem s3_put (h : hI sh q) {m t p v : Nat} (h6 : S.1 q 6 = nI m) (hm : m < 501) (ht : t < 29) (d : Nat) :
    xsem xT E (d + 1) kX3_put [.ref (x + q), .ref (E.1 t), .int (nI p), .int (nI v)] (wW E z x sh S, n) = some (.inl none, (wW E z x sh (tkS S q m t p v), n)) := by
  obtain ⟨a0, a1, a2, a3, a4⟩ := h
  have e1 : ∀ f, (sT S (q + 2) f).1 = S.1 := fun _ => rfl
  have e2 : ∀ f, (sT S (q + 2) f).2.1 = S.2.1 := fun _ => rfl
  rw [eX3_put, QX3_put_0]
  simp (disch := omega) only [gO_3 a0, gR_3_0 a0, gI_3_1 a0, gP_3_1 a0, gI_3_2 a0, gP_3_2 a0, gR_3_3 a0, gR_3_4 a0, gR_3_5 a0, gI_3_6 a0, gP_3_6 a0, gI_3_7 a0, gP_3_7 a0, gI_3_8 a0, gP_3_8 a0, gI_3_9 a0, gP_3_9 a0, h6, aN_w a2, iLE_f, sQ_w a2, e1, e2, sI_w a3, sI_w a4, sA_1, sA_n, QX3_put_52, cI_s, cL_s, cF_s, cD_s, cA_s, cV_s, nI_add, cond_true, cond_false, if_true, if_false]
  rfl
theorem pTk_put {m : Nat} (P : pTk S q tx L m) : pTk (tkS S q m (tk tx L (ch tx L m)) (ch tx L m) (nu tx L (ch tx L m))) q tx L (m + 1) := by
  refine ⟨sS_s, fun i hi => ?_⟩
  have e5 : (tkS S q m (tk tx L (ch tx L m)) (ch tx L m) (nu tx L (ch tx L m))).2.2.2.2 (q + 2) = fun j => if j = m then some (tk tx L (ch tx L m)) else S.2.2.2.2 (q + 2) j := sT_s _
  have e3 : (tkS S q m (tk tx L (ch tx L m)) (ch tx L m) (nu tx L (ch tx L m))).2.1 (q + 3) = upd (S.2.1 (q + 3)) m (nI (ch tx L m)) := by
    unfold tkS
    rw [sS_a, sA_n (by omega), sA_s]
  have e4 : (tkS S q m (tk tx L (ch tx L m)) (ch tx L m) (nu tx L (ch tx L m))).2.1 (q + 4) = upd (S.2.1 (q + 4)) m (nI (nu tx L (ch tx L m))) := by
    unfold tkS
    rw [sS_a, sA_s]
  rw [e5, e3, e4]
  by_cases e : i = m
  · subst e
    rw [pk_us, pk_us]
    exact ⟨if_pos rfl, rfl, rfl⟩
  · rw [pk_un e, pk_un e]
    have := P.2 i (by omega)
    exact ⟨(if_neg e).trans this.1, this.2⟩
theorem pBy_put {m t p v : Nat} (B : pBy S q tx L) : pBy (tkS S q m t p v) q tx L := by
  obtain ⟨b1, b2, b3⟩ := B
  refine ⟨b1, ?_, fun i hi => ?_⟩
  · unfold tkS
    rw [sS_n (by omega)]
    exact b2
  · unfold tkS
    rw [sS_a, sA_n (by omega), sA_n (by omega)]
    exact b3 i hi
/-- what reading a text may change of the class's cells -/
def frL (q : Nat) (S S' : xSt) : Prop := (∀ j, j ≠ q → S'.1 j = S.1 j) ∧ (∀ k, k < 6 → S'.1 q k = S.1 q k) ∧ (∀ k, 6 < k → S'.1 q k = S.1 q k) ∧ (∀ j, j ≠ q + 3 → j ≠ q + 4 → S'.2.1 j = S.2.1 j) ∧ (∀ j, j ≠ q + 2 → S'.2.2.2.2 j = S.2.2.2.2 j)
theorem frL_rf : frL q S S := ⟨fun _ _ => rfl, fun _ _ => rfl, fun _ _ => rfl, fun _ _ _ => rfl, fun _ _ => rfl⟩
theorem frL_tr {S1 S2 : xSt} (h : frL q S S1) (h2 : frL q S1 S2) : frL q S S2 :=
  ⟨fun j hj => (h2.1 j hj).trans (h.1 j hj), fun k hk => (h2.2.1 k hk).trans (h.2.1 k hk), fun k hk => (h2.2.2.1 k hk).trans (h.2.2.1 k hk), fun j a b => (h2.2.2.2.1 j a b).trans (h.2.2.2.1 j a b), fun j hj => (h2.2.2.2.2 j hj).trans (h.2.2.2.2 j hj)⟩
theorem frL_put {m t p v : Nat} : frL q S (tkS S q m t p v) := by
  unfold tkS
  refine ⟨fun j hj => funext fun k => ?_, fun k hk => ?_, fun k hk => ?_, fun j a b => ?_, fun j hj => ?_⟩
  · rw [sS_nq hj]; rfl
  · rw [sS_n (by omega)]; rfl
  · rw [sS_n (by omega)]; rfl
  · rw [sS_a, sA_n b, sA_n a]; rfl
  · exact if_neg hj
theorem l3_end (h : hI sh q) (B : pBy S q tx L) {p k : Nat} (hk : k < 3) (d : Nat) :
    ∀ m e, L ≤ e + m → e ≤ L → qX3_addToken_4 E (d + 1) (x + q) (nI p) (nI k) (nI e) (wW E z x sh S, n) = qX3_addToken_32 E (d + 1) (x + q) (nI p) (nI k) (nI (ru tx L k m e)) (wW E z x sh S, n) := by
  have a0 := h.1
  have b1 := B.1
  have b2 := B.2.1
  have hx : ∀ e, qX3_addToken_4 E (d + 1) (x + q) (nI p) (nI k) (nI e) (wW E z x sh S, n) = if nI L ≤ nI e then qX3_addToken_32 E (d + 1) (x + q) (nI p) (nI k) (nI e) (wW E z x sh S, n) else gO E (wW E z x sh S, n) 3 (x + q) (cI (xthr 1 some) (xsem xT E (d + 1) kX3_kindAt [.ref (x + q), .int (nI e)] (wW E z x sh S, n)) (fun v2 σ1 => if v2 = nI k then qX3_addToken_4 E (d + 1) (x + q) (nI p) (nI k) (nI e + nI 1) σ1 else qX3_addToken_32 E (d + 1) (x + q) (nI p) (nI k) (nI e) σ1)) := by
    intro e
    rw [QX3_addToken_4]
    simp (disch := omega) only [iEQ_f, gO_3 a0, gR_3_0 a0, gI_3_1 a0, gP_3_1 a0, gI_3_2 a0, gP_3_2 a0, gR_3_3 a0, gR_3_4 a0, gR_3_5 a0, gI_3_6 a0, gP_3_6 a0, gI_3_7 a0, gP_3_7 a0, gI_3_8 a0, gP_3_8 a0, gI_3_9 a0, gP_3_9 a0, b2, cI_s, cL_s, cF_s, cD_s, cA_s, cV_s, nI_add, cond_true, cond_false, if_true, if_false]
  intro m
  induction m with
  | zero =>
    intro e h1 h2
    rw [hx, iLE_t (by omega) (by omega)]
    rfl
  | succ m ih =>
    intro e h1 h2
    unfold ru
    rw [hx]
    by_cases c : e < L ∧ kd (tx e) = k
    · rw [if_pos c, iLE_f c.1 (by omega)]
      simp (disch := omega) only [gO_3 a0, gR_3_0 a0, gI_3_1 a0, gP_3_1 a0, gI_3_2 a0, gP_3_2 a0, gR_3_3 a0, gR_3_4 a0, gR_3_5 a0, gI_3_6 a0, gP_3_6 a0, gI_3_7 a0, gP_3_7 a0, gI_3_8 a0, gP_3_8 a0, gI_3_9 a0, gP_3_9 a0, cI_s, cL_s, cF_s, cD_s, cA_s, cV_s, nI_add, cond_true, cond_false, if_true, if_false]
      rw [s3_kindAt h B c.1, c.2]
      simp (disch := omega) only [cI_s, cL_s, cF_s, cD_s, cA_s, cV_s, nI_add, cond_true, cond_false, if_true, if_false]
      exact ih (e + 1) (by omega) (by omega)
    · rw [if_neg c]
      by_cases c2 : e < L
      · have := kd_le (tx e)
        rw [iLE_f c2 (by omega)]
        simp (disch := omega) only [gO_3 a0, gR_3_0 a0, gI_3_1 a0, gP_3_1 a0, gI_3_2 a0, gP_3_2 a0, gR_3_3 a0, gR_3_4 a0, gR_3_5 a0, gI_3_6 a0, gP_3_6 a0, gI_3_7 a0, gP_3_7 a0, gI_3_8 a0, gP_3_8 a0, gI_3_9 a0, gP_3_9 a0, cI_s, cL_s, cF_s, cD_s, cA_s, cV_s, nI_add, cond_true, cond_false, if_true, if_false]
        rw [s3_kindAt h B c2]
        simp (disch := omega) only [cI_s, cL_s, cF_s, cD_s, cA_s, cV_s, nI_add, cond_true, cond_false, if_true, if_false]
        rw [iEQ_f (fun z => c ⟨c2, z⟩) (by omega) (by omega)]
      · rw [iLE_t (by omega) (by omega)]
theorem en_in {p j : Nat} (hL : L ≤ 500) (hp : p < L) (hk : kd (tx p) ≠ 3) (h1 : p ≤ j) (h2 : j < en tx L p) : kd (tx j) = kd (tx p) := by
  unfold en at h2
  rw [if_neg hk] at h2
  exact (ru_in 500 p j h1 h2).2
theorem s3_addToken (h : hI sh q) (H : hEn E z x) (B : pBy S q tx L) {m : Nat} (P : pTk S q tx L m) (hm : m < 501) (hc : ch tx L m < L) (hk0 : kd (tx (ch tx L m)) ≠ 0) (d : Nat) :
    xsem xT E (d + 7) kX3_addToken [.ref (x + q), .int (nI (ch tx L m)), .int (nI (kd (tx (ch tx L m))))] (wW E z x sh S, n) = some (.inl none, (wW E z x sh (tkS S q m (tk tx L (ch tx L m)) (ch tx L m) (nu tx L (ch tx L m))), n)) := by
  have a0 := h.1
  have b1 := B.1
  have hk := kd_le (tx (ch tx L m))
  have e1 := en_gt (tx := tx) b1 hc
  have e2 := en_le (tx := tx) hc
  have htk := tk_lt (tx := tx) (L := L) (p := ch tx L m)
  have hend : xsem xT E (d + 7) kX3_addToken [.ref (x + q), .int (nI (ch tx L m)), .int (nI (kd (tx (ch tx L m))))] (wW E z x sh S, n) = qX3_addToken_32 E (d + 6) (x + q) (nI (ch tx L m)) (nI (kd (tx (ch tx L m)))) (nI (en tx L (ch tx L m))) (wW E z x sh S, n) := by
    rw [eX3_addToken, QX3_addToken_0]
    simp (disch := omega) only [cI_s, cL_s, cF_s, cD_s, cA_s, cV_s, nI_add, cond_true, cond_false, if_true, if_false]
    by_cases e : kd (tx (ch tx L m)) = 3
    · rw [QX3_addToken_4, iEQ_t e]
      unfold en
      rw [if_pos e]
    · rw [l3_end h B (by omega) (d + 5) 500 _ (by omega) (by omega)]
      unfold en
      rw [if_neg e, ru_step b1 ⟨hc, rfl⟩]
  rw [hend, QX3_addToken_32]
  unfold tk at htk ⊢
  unfold nu
  rw [if_pos hc] at htk ⊢
  rw [if_pos hc]
  by_cases e : kd (tx (ch tx L m)) = 1
  · rw [if_pos e, if_pos e, iEQ_t e]
    simp (disch := omega) only [gO_3 a0, gR_3_0 a0, gI_3_1 a0, gP_3_1 a0, gI_3_2 a0, gP_3_2 a0, gR_3_3 a0, gR_3_4 a0, gR_3_5 a0, gI_3_6 a0, gP_3_6 a0, gI_3_7 a0, gP_3_7 a0, gI_3_8 a0, gP_3_8 a0, gI_3_9 a0, gP_3_9 a0, cI_s, cL_s, cF_s, cD_s, cA_s, cV_s, nI_add, cond_true, cond_false, if_true, if_false]
    rw [s3_numberIn h B (by omega) e2 (fun j h1 h2 => by rw [en_in b1 hc (by omega) h1 h2, e])]
    simp (disch := omega) only [gO_3 a0, gR_3_0 a0, gI_3_1 a0, gP_3_1 a0, gI_3_2 a0, gP_3_2 a0, gR_3_3 a0, gR_3_4 a0, gR_3_5 a0, gI_3_6 a0, gP_3_6 a0, gI_3_7 a0, gP_3_7 a0, gI_3_8 a0, gP_3_8 a0, gI_3_9 a0, gP_3_9 a0, cI_s, cL_s, cF_s, cD_s, cA_s, cV_s, nI_add, cond_true, cond_false, if_true, if_false]
    rw [s3_put h P.1 hm (by omega)]
    simp (disch := omega) only [QX3_addToken_66, cI_s, cL_s, cF_s, cD_s, cA_s, cV_s, nI_add, cond_true, cond_false, if_true, if_false]
  · rw [if_neg e] at htk ⊢
    rw [if_neg e, iEQ_f e (by omega) (by omega), QX3_addToken_54]
    simp (disch := omega) only [gO_3 a0, gR_3_0 a0, gI_3_1 a0, gP_3_1 a0, gI_3_2 a0, gP_3_2 a0, gR_3_3 a0, gR_3_4 a0, gR_3_5 a0, gI_3_6 a0, gP_3_6 a0, gI_3_7 a0, gP_3_7 a0, gI_3_8 a0, gP_3_8 a0, gI_3_9 a0, gP_3_9 a0, cI_s, cL_s, cF_s, cD_s, cA_s, cV_s, nI_add, cond_true, cond_false, if_true, if_false]
    rw [s3_tokenIn h H B (by omega) e2]
    simp (disch := omega) only [gO_3 a0, gR_3_0 a0, gI_3_1 a0, gP_3_1 a0, gI_3_2 a0, gP_3_2 a0, gR_3_3 a0, gR_3_4 a0, gR_3_5 a0, gI_3_6 a0, gP_3_6 a0, gI_3_7 a0, gP_3_7 a0, gI_3_8 a0, gP_3_8 a0, gI_3_9 a0, gP_3_9 a0, cI_s, cL_s, cF_s, cD_s, cA_s, cV_s, nI_add, cond_true, cond_false, if_true, if_false]
    rw [s3_put h P.1 hm htk]
    simp (disch := omega) only [QX3_addToken_66, cI_s, cL_s, cF_s, cD_s, cA_s, cV_s, nI_add, cond_true, cond_false, if_true, if_false]
theorem nb_new {p b : Nat} (hL : L ≤ 500) (hp : p < L) (hk : kd (tx p) = 3 ∨ (kd (tx p) ≠ 0 ∧ kd (tx p) ≠ b)) (hb : b ≤ 3) : nb tx L p b = p ∧ nb tx L (p + 1) (kd (tx p)) = ad tx L p := by
  have hk0 : kd (tx p) ≠ 0 := by omega
  have hkl := kd_le (tx p)
  have hnx : nx tx L p = p := ru_fix (fun z => hk0 z.2)
  constructor
  · unfold nb
    split
    · rw [ru_fix (fun z => by omega), hnx]
    · exact hnx
  · unfold nb ad
    rw [if_pos hp]
    unfold en
    by_cases e : kd (tx p) = 3
    · rw [if_neg (by omega), if_pos e]
    · rw [if_pos (by omega), if_neg e, ru_step hL ⟨hp, rfl⟩]
theorem nb_old {p b : Nat} (hL : L ≤ 500) (hp : p < L) (hk : kd (tx p) = 0 ∨ (kd (tx p) ≠ 3 ∧ kd (tx p) = b)) : nb tx L p b = nb tx L (p + 1) (kd (tx p)) := by
  unfold nb
  rcases hk with e | ⟨e1, e2⟩
  · rw [e, if_neg (show ¬ (0 = 1 ∨ 0 = 2) by omega)]
    have hn : nx tx L p = nx tx L (p + 1) := ru_step hL ⟨hp, e⟩
    split
    · rw [ru_fix (fun z => by omega), hn]
    · exact hn
  · have hkl := kd_le (tx p)
    by_cases e0 : b = 0
    · rw [e2, e0, if_neg (show ¬ (0 = 1 ∨ 0 = 2) by omega)]
      exact ru_step hL ⟨hp, by omega⟩
    · rw [e2, if_pos (by omega), if_pos (by omega), ru_step hL ⟨hp, e2⟩]
theorem l3_beg (h : hI sh q) (H : hEn E z x) (d : Nat) :
    ∀ k p m b (S : xSt), p + k = L → b ≤ 3 → m ≤ p → pBy S q tx L → pTk S q tx L m → ch tx L m = nb tx L p b →
      ∃ S' m', qX3_begin_40 E (d + 7) (x + q) (nI b) (nI p) (wW E z x sh S, n) = qX3_begin_88 E (d + 7) (x + q) (wW E z x sh S', n) ∧ pBy S' q tx L ∧ pTk S' q tx L m' ∧ ch tx L m' = L ∧ m' ≤ L ∧ frL q S S' := by
  have a0 := h.1
  intro k
  induction k with
  | zero =>
    intro p m b S hp hb hm B P hc
    have b1 := B.1
    have b2 := B.2.1
    have hp : p = L := hp
    subst hp
    refine ⟨S, m, ?_, B, P, ?_, hm, frL_rf⟩
    · rw [QX3_begin_40]
      simp (disch := omega) only [gO_3 a0, gR_3_0 a0, gI_3_1 a0, gP_3_1 a0, gI_3_2 a0, gP_3_2 a0, gR_3_3 a0, gR_3_4 a0, gR_3_5 a0, gI_3_6 a0, gP_3_6 a0, gI_3_7 a0, gP_3_7 a0, gI_3_8 a0, gP_3_8 a0, gI_3_9 a0, gP_3_9 a0, b2, iLE_t, cI_s, cL_s, cF_s, cD_s, cA_s, cV_s, nI_add, cond_true, cond_false, if_true, if_false]
    · rw [hc]
      have hn : nx tx p p = p := ru_fix (fun z => by omega)
      unfold nb
      split
      · rw [ru_fix (fun z => by omega), hn]
      · exact hn
  | succ k ih =>
    intro p m b S hp hb hm B P hc
    have b1 := B.1
    have b2 := B.2.1
    have hpl : p < L := by omega
    have hkl := kd_le (tx p)
    by_cases hk : kd (tx p) = 3 ∨ (kd (tx p) ≠ 0 ∧ kd (tx p) ≠ b)
    · obtain ⟨n1, n2⟩ := nb_new b1 hpl hk hb
      have hcp : ch tx L m = p := hc.trans n1
      have hadd := s3_addToken (E := E) (z := z) (x := x) (n := n) h H B P (by omega) (by omega) (by rw [hcp]; omega) d
      rw [hcp] at hadd
      have B' := pBy_put (m := m) (t := tk tx L p) (p := p) (v := nu tx L p) B
      have P' := pTk_put P
      rw [hcp] at P'
      obtain ⟨S', m', e1, e2, e3, e4, e5, e6⟩ := ih (p + 1) (m + 1) (kd (tx p)) _ (by omega) hkl (by omega) B' P' (by
        rw [show ch tx L (m + 1) = ad tx L (ch tx L m) from rfl, hcp, n2])
      refine ⟨S', m', ?_, e2, e3, e4, e5, frL_tr frL_put e6⟩
      rw [← e1]
      have hgo : qX3_begin_72 E (d + 7) (x + q) (nI p) (nI (kd (tx p))) (wW E z x sh S, n) = qX3_begin_40 E (d + 7) (x + q) (nI (kd (tx p))) (nI (p + 1)) (wW E z x sh (tkS S q m (tk tx L p) p (nu tx L p)), n) := by
        rw [QX3_begin_72]
        simp (disch := omega) only [gO_3 a0, gR_3_0 a0, gI_3_1 a0, gP_3_1 a0, gI_3_2 a0, gP_3_2 a0, gR_3_3 a0, gR_3_4 a0, gR_3_5 a0, gI_3_6 a0, gP_3_6 a0, gI_3_7 a0, gP_3_7 a0, gI_3_8 a0, gP_3_8 a0, gI_3_9 a0, gP_3_9 a0, cI_s, cL_s, cF_s, cD_s, cA_s, cV_s, nI_add, cond_true, cond_false, if_true, if_false]
        rw [hadd]
        simp (disch := omega) only [QX3_begin_79, cI_s, cL_s, cF_s, cD_s, cA_s, cV_s, nI_add, cond_true, cond_false, if_true, if_false]
      rw [← hgo, QX3_begin_40]
      simp (disch := omega) only [gO_3 a0, gR_3_0 a0, gI_3_1 a0, gP_3_1 a0, gI_3_2 a0, gP_3_2 a0, gR_3_3 a0, gR_3_4 a0, gR_3_5 a0, gI_3_6 a0, gP_3_6 a0, gI_3_7 a0, gP_3_7 a0, gI_3_8 a0, gP_3_8 a0, gI_3_9 a0, gP_3_9 a0, b2, iLE_f, cI_s, cL_s, cF_s, cD_s, cA_s, cV_s, nI_add, cond_true, cond_false, if_true, if_false]
      rw [s3_kindAt h B hpl]
      simp (disch := omega) only [cI_s, cL_s, cF_s, cD_s, cA_s, cV_s, nI_add, cond_true, cond_false, if_true, if_false]
      by_cases c3 : kd (tx p) = 3
      · rw [iEQ_t c3]
      · rw [iEQ_f c3 (by omega) (by omega), iEQ_f (by omega) (by omega) (by omega), iEQ_f (show kd (tx p) ≠ b by omega) (by omega) (by omega)]
    · have hk' : kd (tx p) = 0 ∨ (kd (tx p) ≠ 3 ∧ kd (tx p) = b) := by omega
      obtain ⟨S', m', e1, e2, e3, e4, e5, e6⟩ := ih (p + 1) m (kd (tx p)) S (by omega) hkl (by omega) B P (by rw [hc, nb_old b1 hpl hk'])
      refine ⟨S', m', ?_, e2, e3, e4, e5, e6⟩
      have hgo : qX3_begin_79 E (d + 7) (x + q) (nI p) (nI (kd (tx p))) (wW E z x sh S, n) = qX3_begin_40 E (d + 7) (x + q) (nI (kd (tx p))) (nI (p + 1)) (wW E z x sh S, n) := by
        rw [QX3_begin_79]
        simp (disch := omega) only [cI_s, cL_s, cF_s, cD_s, cA_s, cV_s, nI_add, cond_true, cond_false, if_true, if_false]
      rw [← e1, ← hgo, QX3_begin_40]
      simp (disch := omega) only [gO_3 a0, gR_3_0 a0, gI_3_1 a0, gP_3_1 a0, gI_3_2 a0, gP_3_2 a0, gR_3_3 a0, gR_3_4 a0, gR_3_5 a0, gI_3_6 a0, gP_3_6 a0, gI_3_7 a0, gP_3_7 a0, gI_3_8 a0, gP_3_8 a0, gI_3_9 a0, gP_3_9 a0, b2, iLE_f, cI_s, cL_s, cF_s, cD_s, cA_s, cV_s, nI_add, cond_true, cond_false, if_true, if_false]
      rw [s3_kindAt h B hpl]
      simp (disch := omega) only [cI_s, cL_s, cF_s, cD_s, cA_s, cV_s, nI_add, cond_true, cond_false, if_true, if_false]
      by_cases c0 : kd (tx p) = 0
      · rw [iEQ_f (by omega) (by omega) (by omega), iEQ_t c0]
      · rw [iEQ_f (by omega) (by omega) (by omega), iEQ_f c0 (by omega) (by omega), iEQ_t (by omega)]
/-- the tokens of a text lie in the input, the present one is the k-th -/
def PI (S : xSt) (q : Nat) (tx : Nat → Nat) (L m k : Nat) : Prop := pTk S q tx L (m + 1) ∧ S.1 q 7 = nI k ∧ k ≤ m ∧ ch tx L m = L ∧ m ≤ 500 ∧ L ≤ 500
theorem s3_begin (h : hI sh q) (H : hEn E z x) {len : Nat} (hL : L ≤ len) (hlen : len ≤ 500) (h1 : S.1 q 1 = nI len) (hB : ∀ i, i < L → S.2.1 (q + 1) i = sx (tx i) ∧ tx i < 256) (d : Nat) :
    ∃ S' m, xsem xT E (d + 8) kX3_begin [.ref (x + q), .int (nI L)] (wW E z x sh S, n) = some (.inl none, (wW E z x sh S', n)) ∧ PI S' q tx L m 0 ∧ S'.1 q 1 = nI 0 ∧ S'.1 q 8 = nI 0 ∧ S'.1 q 9 = -1 ∧ (∀ j, j ≠ q → S'.1 j = S.1 j) ∧ (∀ j, j ≠ q + 3 → j ≠ q + 4 → S'.2.1 j = S.2.1 j) ∧ (∀ j, j ≠ q + 2 → S'.2.2.2.2 j = S.2.2.2.2 j) := by
  have a0 := h.1
  generalize hS0 : sS (sS (sS (sS (sS S q 2 (nI L)) q 6 (nI 0)) q 7 (nI 0)) q 8 (nI 0)) q 9 (-1) = S0
  have B0 : pBy S0 q tx L := by
    rw [← hS0]
    exact ⟨by omega, by rw [sS_n (by omega), sS_n (by omega), sS_n (by omega), sS_n (by omega), sS_s], hB⟩
  have P0 : pTk S0 q tx L 0 := by
    rw [← hS0]
    exact ⟨by rw [sS_n (by omega), sS_n (by omega), sS_n (by omega), sS_s], fun i hi => absurd hi (Nat.not_lt_zero i)⟩
  obtain ⟨S1, m, e1, e2, e3, e4, e5, e6⟩ := l3_beg (E := E) (z := z) (x := x) (n := n) h H d L 0 0 0 S0 (by omega) (by omega) (Nat.le_refl _) B0 P0 (by
    unfold nb
    rw [if_neg (by omega)]
    rfl)
  have tk0 : tk tx L (ch tx L m) = 0 := by
    unfold tk
    rw [e4, if_neg (Nat.lt_irrefl _)]
  have nu0 : nu tx L (ch tx L m) = 0 := by
    unfold nu
    rw [e4, if_neg (Nat.lt_irrefl _)]
  have P2 := pTk_put e3
  rw [tk0, nu0, e4] at P2
  have hput := s3_put (E := E) (z := z) (x := x) (n := n) (t := 0) (p := L) (v := 0) h e3.1 (by omega) (by omega) (d + 6)
  have f7 : ∀ k, k ≠ 1 → k ≠ 6 → (sS (tkS S1 q m 0 L 0) q 1 (nI 0)).1 q k = S0.1 q k := by
    intro k k1 k6
    rw [sS_n k1]
    show (sS (sA (sA (sT S1 (q + 2) _) (q + 3) _) (q + 4) _) q 6 _).1 q k = _
    rw [sS_n k6]
    by_cases c : k < 6
    · exact e6.2.1 k c
    · exact e6.2.2.1 k (by omega)
  refine ⟨sS (tkS S1 q m 0 L 0) q 1 (nI 0), m, ?_, ⟨⟨?_, ?_⟩, ?_, Nat.zero_le _, e4, by omega, by omega⟩, sS_s, ?_, ?_, fun j hj => ?_, fun j a b => ?_, fun j hj => ?_⟩
  · rw [eX3_begin, QX3_begin_0]
    simp (disch := omega) only [gO_3 a0, gR_3_0 a0, gI_3_1 a0, gP_3_1 a0, gI_3_2 a0, gP_3_2 a0, gR_3_3 a0, gR_3_4 a0, gR_3_5 a0, gI_3_6 a0, gP_3_6 a0, gI_3_7 a0, gP_3_7 a0, gI_3_8 a0, gP_3_8 a0, gI_3_9 a0, gP_3_9 a0, h1, cI_s, cL_s, cF_s, cD_s, cA_s, cV_s, nI_add, cond_true, cond_false, if_true, if_false]
    rw [mnI_n (by omega) (by omega), mxI_n (by omega) (by split <;> omega)]
    rw [show (if 0 < (if len < L then len else L) then (if len < L then len else L) else 0) = L by
      rw [if_neg (show ¬ len < L by omega)]
      split <;> omega, hS0, e1, QX3_begin_88]
    simp (disch := omega) only [gO_3 a0, gR_3_0 a0, gI_3_1 a0, gP_3_1 a0, gI_3_2 a0, gP_3_2 a0, gR_3_3 a0, gR_3_4 a0, gR_3_5 a0, gI_3_6 a0, gP_3_6 a0, gI_3_7 a0, gP_3_7 a0, gI_3_8 a0, gP_3_8 a0, gI_3_9 a0, gP_3_9 a0, e2.2.1, cI_s, cL_s, cF_s, cD_s, cA_s, cV_s, nI_add, cond_true, cond_false, if_true, if_false]
    rw [hput]
    simp (disch := omega) only [gO_3 a0, gR_3_0 a0, gI_3_1 a0, gP_3_1 a0, gI_3_2 a0, gP_3_2 a0, gR_3_3 a0, gR_3_4 a0, gR_3_5 a0, gI_3_6 a0, gP_3_6 a0, gI_3_7 a0, gP_3_7 a0, gI_3_8 a0, gP_3_8 a0, gI_3_9 a0, gP_3_9 a0, cI_s, cL_s, cF_s, cD_s, cA_s, cV_s, nI_add, cond_true, cond_false, if_true, if_false]
  · rw [sS_n (by omega)]; exact P2.1
  · exact P2.2
  · rw [f7 7 (by omega) (by omega), ← hS0, sS_n (by omega), sS_n (by omega), sS_s]
  · rw [f7 8 (by omega) (by omega), ← hS0, sS_n (by omega), sS_s]
  · rw [f7 9 (by omega) (by omega), ← hS0, sS_s]
  · have h1 : (sS (tkS S1 q m 0 L 0) q 1 (nI 0)).1 j = S1.1 j := funext fun k => by
      rw [sS_nq hj]
      show (sS (sA (sA (sT S1 (q + 2) _) (q + 3) _) (q + 4) _) q 6 _).1 j k = _
      rw [sS_nq hj]
      rfl
    rw [h1, e6.1 j hj, ← hS0]
    funext k
    rw [sS_nq hj, sS_nq hj, sS_nq hj, sS_nq hj, sS_nq hj]
  · have h1 : (sS (tkS S1 q m 0 L 0) q 1 (nI 0)).2.1 j = S1.2.1 j := by
      show (sA (sA (sT S1 (q + 2) _) (q + 3) _) (q + 4) _).2.1 j = _
      rw [sA_n b, sA_n a]
      rfl
    rw [h1, e6.2.2.2.1 j a b, ← hS0]
    rfl
  · have h1 : (sS (tkS S1 q m 0 L 0) q 1 (nI 0)).2.2.2.2 j = S1.2.2.2.2 j := if_neg hj
    rw [h1, e6.2.2.2.2 j hj, ← hS0]
    rfl
end LX2
