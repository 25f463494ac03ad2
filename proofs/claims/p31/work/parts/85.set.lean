/-! SETUP TEXTS: what the class reads out of them. -/
def PS (S : xSt) (tx : Nat → Nat) (L p : Nat) (g : Nat → Nat) : Prop := cQ S tx L p ∧ pG S 14 (fin g) ∧ iU g
theorem sTo_k {t : Nat} (h : isSt t) : sTo t < 8 := by
  rcases h with h | h | h | h | h <;> subst h <;> decide
theorem sHi_fin {g : Nat → Nat} {t : Nat} : sHi (fin g) t = sHi g t := by
  unfold sHi
  rw [fin_o (by omega)]
theorem sHi_le {g : Nat → Nat} (I : iU g) {t : Nat} : sHi g t ≤ 9999 := by
  have := I.1.2.1
  unfold sHi
  repeat' split
  all_goals omega
theorem sLo_le {t : Nat} : sLo t ≤ 1 := by
  unfold sLo
  split <;> omega
theorem tk_lt29 {tx : Nat → Nat} {L p : Nat} : tk tx L p < 29 := by
  unfold tk
  split
  · split
    · omega
    · exact fdW_lt _ _ (by omega)
  · omega
/-- one more blink -/
def gBk (g : Nat → Nat) (v w : Nat) : Nat → Nat := updN (updN (updN g (45 + 2 * g 10) v) (45 + 2 * g 10 + 1) w) 10 (g 10 + 1)
section PRS
variable {E : xEn} {z : Nat → Option va_E} {x n : Nat} {sh : Nat → Option xSh} {S : xSt} {L p sb : Nat} {tx : Nat → Nat} {g : Nat → Nat}
theorem u_set (h3 : hI sh 1) (hG14 : hG sh 14) (H : hEn E z x) (R : PS S tx L p g) (ht : isSt (tk tx L p)) (e1 : tk tx L (ad tx L p) = 1) (lo : sLo (tk tx L p) ≤ nu tx L (ad tx L p)) (hi : nu tx L (ad tx L p) ≤ sHi g (tk tx L p)) (d : Nat) :
    ∃ S', xsem xT E (d + 4) kX7_readSetting [.ref (x + 1), .ref (x + 14)] (wW E z x sh S, n) = some (.inl (some (.int (nI 1))), (wW E z x sh S', n)) ∧ PS S' tx L (ad tx L (ad tx L p)) (updN g (sTo (tk tx L p)) (nu tx L (ad tx L p))) ∧ frD S S' := by
  have a3 := h3.1
  have htl := tk_lt29 (tx := tx) (L := L) (p := p)
  obtain ⟨Q, P, I⟩ := R
  generalize htk : tk tx L p = t at *
  have hgr := s7_greatest (E := E) (z := z) (x := x) (n := n) hG14 H P (by rw [fin_o (by omega)]; exact I.1.2.1) (by rw [fin_o (by omega)]; exact I.1.1) ht (d + 2)
  rw [sHi_fin] at hgr
  have hhi := sHi_le I (t := t)
  have hlo := sLo_le (t := t)
  obtain ⟨S1, s1, s2, s3⟩ := c_advance (E := E) (z := z) (x := x) (n := n) h3 Q (d + 2)
  obtain ⟨S2, k1, Q2, fs2⟩ := c_num_t (E := E) (z := z) (x := x) (n := n) (lo := sLo t) (hi := sHi g t) h3 H s2 (by omega) e1 lo hi (d + 1)
  have P2 := pG_fr (frm_I fs2) (by omega) (pG_fr (frm_I s3) (by omega) P)
  obtain ⟨S3, t1, t2, t3⟩ := s7_set (E := E) (z := z) (x := x) (n := n) hG14 H I P2 ht hi d
  refine ⟨S3, ?_, ⟨cQ_m Q2 t3, t2, iU_set I ht lo hi⟩, frD_tr (frD_I s3) (frD_tr (frD_I fs2) (frD_m t3))⟩
  have h45 : qX7_readSetting_45 E (d + 3) (x + 1) (x + 14) (E.1 t) (nI (sHi g t)) (nI (sLo t)) (wW E z x sh S1, n) = some (.inl (some (.int (nI 1))), (wW E z x sh S3, n)) := by
    rw [QX7_readSetting_45]
    simp (disch := omega) only [gO_3 a3, gR_3_0 a3, gI_3_1 a3, gP_3_1 a3, gI_3_2 a3, gP_3_2 a3, gR_3_3 a3, gR_3_4 a3, gR_3_5 a3, gI_3_6 a3, gP_3_6 a3, gI_3_7 a3, gP_3_7 a3, gI_3_8 a3, gP_3_8 a3, gI_3_9 a3, gP_3_9 a3, cI_s, cL_s, cF_s, cD_s, cA_s, cV_s, nI_add, cond_true, cond_false, if_true, if_false]
    rw [k1]
    simp (disch := omega) only [iLE_t, QX7_readSetting_63, t1, xret5_1, cI_s, cL_s, cF_s, cD_s, cA_s, cV_s, nI_add, cond_true, cond_false, if_true, if_false]
  rw [eX7_readSetting, QX7_readSetting_0]
  simp (disch := omega) only [gO_3 a3, gR_3_0 a3, gI_3_1 a3, gP_3_1 a3, gI_3_2 a3, gP_3_2 a3, gR_3_3 a3, gR_3_4 a3, gR_3_5 a3, gI_3_6 a3, gP_3_6 a3, gI_3_7 a3, gP_3_7 a3, gI_3_8 a3, gP_3_8 a3, gI_3_9 a3, gP_3_9 a3, c_token h3 Q, htk, cI_s, cL_s, cF_s, cD_s, cA_s, cV_s, nI_add, cond_true, cond_false, if_true, if_false]
  rw [hgr]
  simp (disch := omega) only [iLE_t, QX7_readSetting_22, gO_3 a3, gR_3_0 a3, gI_3_1 a3, gP_3_1 a3, gI_3_2 a3, gP_3_2 a3, gR_3_3 a3, gR_3_4 a3, gR_3_5 a3, gI_3_6 a3, gP_3_6 a3, gI_3_7 a3, gP_3_7 a3, gI_3_8 a3, gP_3_8 a3, gI_3_9 a3, gP_3_9 a3, s1, cI_s, cL_s, cF_s, cD_s, cA_s, cV_s, nI_add, cond_true, cond_false, if_true, if_false]
  rw [← h45, bq_t H htl (by omega), bq_t H htl (by omega)]
  by_cases e16 : t = 16
  · rw [decide_eq_true e16, cond_true, QX7_readSetting_40, e16]
    rfl
  · by_cases e17 : t = 17
    · rw [decide_eq_false e16, cond_false, decide_eq_true e17, cond_true, QX7_readSetting_40, e17]
      rfl
    · rw [decide_eq_false e16, cond_false, decide_eq_false e17, cond_false, QX7_readSetting_44, show sLo t = 0 from if_neg (by omega)]
theorem u_scr1 (h3 : hI sh 1) (hG14 : hG sh 14) (H : hEn E z x) (R : PS S tx L p g) (e1 : tk tx L p = 1) (hlt : nu tx L p < g 0) (hb0 : g (28 + nu tx L p) = 0) (d : Nat) :
    ∃ S', xsem xT E (d + 4) kX7_readScratch [.ref (x + 1), .ref (x + (14 + 1))] (wW E z x sh S, n) = some (.inl (some (.int (nI 1))), (wW E z x sh S', n)) ∧ PS S' tx L (ad tx L p) (updN g (28 + nu tx L p) 1) ∧ frD S S' := by
  obtain ⟨Q, P, I⟩ := R
  have a3 := h3.1
  have b1 : sh (14 + 1) = some (sh5 (14 + 1)) := hG14.2.1
  have I' := (iU_fin I).1
  have e0 : fin g 0 = g 0 := fin_o (by omega)
  have c0 := I.1.1
  have c1 := I.1.2.1
  have r0 : S.1 (14 + 1) 0 = nI (g 0) := by rw [P.1.1, e0]
  have hst : S.1 (14 + 1) 2 = nI (gSet (fin g) (fin g 0)) := P.1.2.2.1
  have hsl : gSet (fin g) (fin g 0) < 256 := gSet_lt _ _ (by omega)
  have hrg : rg (fin g) (nu tx L p) = g (28 + nu tx L p) := by
    unfold rg
    rw [fin_o (k := 12 + nu tx L p) (by omega), (I.2.2.1 _ (by omega)).1, fin_o (by omega)]
  have hbit : bbit (gSet (fin g) (fin g 0)) (nu tx L p) = g (28 + nu tx L p) := by
    rw [gSet_bit _ (iG_rg I') _ (by omega) _ (by omega), if_pos (by omega), hrg]
  obtain ⟨S1, s1, s2, s3⟩ := c_num_t (E := E) (z := z) (x := x) (n := n) (lo := 0) (hi := g 0 - 1) h3 H Q (by omega) e1 (Nat.zero_le _) (by omega) (d + 1)
  have P1 := pG_fr (frm_I s3) (by omega) P
  have r01 : S1.1 (14 + 1) 0 = nI (g 0) := by rw [P1.1.1, e0]
  have hst1 : S1.1 (14 + 1) 2 = nI (gSet (fin g) (fin g 0)) := P1.1.2.2.1
  have P2 := pG_28 I' P1 (p := nu tx L p) (by omega) true
  have fS : frm 14 26 S1 (sS S1 (14 + 1) 2 (nI (bset (gSet (fin g) (fin g 0)) (nu tx L p) true))) := frm_sS (by omega) (by omega)
  rw [fin_o (k := 12 + nu tx L p) (by omega), (I.2.2.1 _ (show nu tx L p < 8 by omega)).1, ← fin_up (by omega) (by omega)] at P2
  have hset := s5_setScratched (E := E) (z := z) (x := x) (n := n) b1 r01 (by omega) hst1 hsl hlt true (d + 1)
  refine ⟨_, ?_, ⟨cQ_m s2 fS, P2, iU_28 I (by omega) (by omega)⟩, frD_tr (frD_I s3) (frD_m fS)⟩
  rw [eX7_readScratch, QX7_readScratch_0]
  simp (disch := omega) only [gO_3 a3, gR_3_0 a3, gI_3_1 a3, gP_3_1 a3, gI_3_2 a3, gP_3_2 a3, gR_3_3 a3, gR_3_4 a3, gR_3_5 a3, gI_3_6 a3, gP_3_6 a3, gI_3_7 a3, gP_3_7 a3, gI_3_8 a3, gP_3_8 a3, gI_3_9 a3, gP_3_9 a3, c_is_t h3 H Q _ e1, iEQ_f, c_number h3 Q, gO_5 b1, gI_5_0 b1, gP_5_0 b1, gI_5_1 b1, gP_5_1 b1, gI_5_2 b1, gP_5_2 b1, gR_5_3 b1, gR_5_4 b1, cI_s, cL_s, cF_s, cD_s, cA_s, cV_s, nI_add, cond_true, cond_false, if_true, if_false]
  rw [s5_isScratched b1 r0 (by omega) hst hsl hlt, hbit, hb0]
  simp (disch := omega) only [iEQ_t, QX7_readScratch_28, gO_3 a3, gR_3_0 a3, gI_3_1 a3, gP_3_1 a3, gI_3_2 a3, gP_3_2 a3, gR_3_3 a3, gR_3_4 a3, gR_3_5 a3, gI_3_6 a3, gP_3_6 a3, gI_3_7 a3, gP_3_7 a3, gI_3_8 a3, gP_3_8 a3, gI_3_9 a3, gP_3_9 a3, gO_5 b1, gI_5_0 b1, gP_5_0 b1, gI_5_1 b1, gP_5_1 b1, gI_5_2 b1, gP_5_2 b1, gR_5_3 b1, gR_5_4 b1, r0, pk_sub, cI_s, cL_s, cF_s, cD_s, cA_s, cV_s, nI_add, cond_true, cond_false, if_true, if_false]
  rw [s1]
  simp (disch := omega) only [iLE_t, QX7_readScratch_46, gO_5 b1, gI_5_0 b1, gP_5_0 b1, gI_5_1 b1, gP_5_1 b1, gI_5_2 b1, gP_5_2 b1, gR_5_3 b1, gR_5_4 b1, cI_s, cL_s, cF_s, cD_s, cA_s, cV_s, nI_add, cond_true, cond_false, if_true, if_false]
  rw [show nI 1 = nI true.toNat from rfl, hset]
  simp (disch := omega) only [Bool.toNat_true, xret5_1, cI_s, cL_s, cF_s, cD_s, cA_s, cV_s, nI_add, cond_true, cond_false, if_true, if_false]
theorem u_scratches (h3 : hI sh 1) (hG14 : hG sh 14) (H : hEn E z x) (R : PS S tx L p g) (e1 : tk tx L (ad tx L p) = 1) (hlt : nu tx L (ad tx L p) < g 0) (hb0 : g (28 + nu tx L (ad tx L p)) = 0) (e2 : tk tx L (ad tx L (ad tx L p)) ≠ 1) (d : Nat) :
    ∃ S', xsem xT E (d + 5) kX7_readScratches [.ref (x + 1), .ref (x + (14 + 1))] (wW E z x sh S, n) = some (.inl (some (.int (nI 1))), (wW E z x sh S', n)) ∧ PS S' tx L (ad tx L (ad tx L p)) (updN g (28 + nu tx L (ad tx L p)) 1) ∧ frD S S' := by
  obtain ⟨Q, P, I⟩ := R
  have a3 := h3.1
  obtain ⟨S1, s1, s2, s3⟩ := c_advance (E := E) (z := z) (x := x) (n := n) h3 Q (d + 3)
  obtain ⟨S2, k1, R2, f2⟩ := u_scr1 (E := E) (z := z) (x := x) (n := n) h3 hG14 H ⟨s2, pG_fr (frm_I s3) (by omega) P, I⟩ e1 hlt hb0 d
  refine ⟨S2, ?_, R2, frD_tr (frD_I s3) f2⟩
  rw [eX7_readScratches, QX7_readScratches_0]
  simp (disch := omega) only [gO_3 a3, gR_3_0 a3, gI_3_1 a3, gP_3_1 a3, gI_3_2 a3, gP_3_2 a3, gR_3_3 a3, gR_3_4 a3, gR_3_5 a3, gI_3_6 a3, gP_3_6 a3, gI_3_7 a3, gP_3_7 a3, gI_3_8 a3, gP_3_8 a3, gI_3_9 a3, gP_3_9 a3, s1, k1, iEQ_f, QX7_readScratches_14, QX7_readScratches_16, iLE_f, c_is_f h3 H R2.1 _ e2, iEQ_t, QX7_readScratches_49, xret5_1, cI_s, cL_s, cF_s, cD_s, cA_s, cV_s, nI_add, cond_true, cond_false, if_true, if_false]
theorem u_blink (h3 : hI sh 1) (hG14 : hG sh 14) (H : hEn E z x) (R : PS S tx L p g) (h10 : g 10 < 8) (e1 : tk tx L (ad tx L p) = 1) (e2 : tk tx L (ad tx L (ad tx L p)) = 1) {v w : Nat} (hv : nu tx L (ad tx L p) = v) (hw : nu tx L (ad tx L (ad tx L p)) = w) (hvw : v ≤ w) (hw9 : w ≤ 9999) (d : Nat) :
    ∃ S', xsem xT E (d + 4) kX7_readBlink [.ref (x + 1), .ref (x + (14 + 6))] (wW E z x sh S, n) = some (.inl (some (.int (nI 1))), (wW E z x sh S', n)) ∧ PS S' tx L (ad tx L (ad tx L (ad tx L p))) (gBk g v w) ∧ frD S S' := by
  obtain ⟨Q, P, I⟩ := R
  have a3 := h3.1
  have b0 : sh (14 + 6) = some (sh0 (14 + 6)) := hG14.2.2.2.2.2.2.1
  have b1 : sh (14 + 6 + 1) = some (1, 8, []) := hG14.2.2.2.2.2.2.2.1
  have b2 : sh (14 + 6 + 2) = some (1, 8, []) := hG14.2.2.2.2.2.2.2.2.1
  have I' := (iU_fin I).1
  have e10 : fin g 10 = g 10 := fin_o (by omega)
  have hfull := s0_isFull (E := E) (z := z) (x := x) (n := n) b0 P.2.2.1 (by omega) (d + 2)
  rw [e10, if_neg (by omega)] at hfull
  obtain ⟨S1, s1, s2, s3⟩ := c_advance (E := E) (z := z) (x := x) (n := n) h3 Q (d + 2)
  obtain ⟨S2, k1, Q2, fs2⟩ := c_num_t (E := E) (z := z) (x := x) (n := n) (lo := 0) (hi := 9999) h3 H s2 (by omega) e1 (Nat.zero_le _) (by omega) (d + 1)
  obtain ⟨S3, n1, Q3, fs3⟩ := c_num_t (E := E) (z := z) (x := x) (n := n) (lo := v) (hi := 9999) h3 H Q2 (by omega) e2 (by omega) (by omega) (d + 1)
  rw [hv] at k1
  rw [hw] at n1
  have P3 := pG_fr (frm_I fs3) (by omega) (pG_fr (frm_I fs2) (by omega) (pG_fr (frm_I s3) (by omega) P))
  obtain ⟨S4, t1, t2, t3⟩ := s0_tell (E := E) (z := z) (x := x) (n := n) b0 b1 b2 P3.2.2.1 (by omega) v w (d + 2)
  have t2' : frm 14 26 S3 S4 := frm_mo t2 (by omega) (by omega)
  have hg3 : fin (updN (updN (updN g (45 + 2 * g 10) v) (45 + 2 * g 10 + 1) w) 10 (g 10 + 1)) = updN (updN (updN (fin g) (45 + 2 * fin g 10) v) (45 + 2 * fin g 10 + 1) w) 10 (fin g 10 + 1) := by
    rw [fin_up (by omega) (by omega), fin_up (by omega) (by omega), fin_up (by omega) (by omega), e10]
  refine ⟨S4, ?_, ⟨cQ_m Q3 t2', ?_, iU_10 (iU_x (iU_x I (by omega)) (by omega)) (by omega)⟩, frD_tr (frD_tr (frD_I s3) (frD_I fs2)) (frD_tr (frD_I fs3) (frD_m t2'))⟩
  · rw [eX7_readBlink, QX7_readBlink_0]
    simp (disch := omega) only [gO_0 b0, gR_0_0 b0, gR_0_1 b0, gI_0_2 b0, gP_0_2 b0, cI_s, cL_s, cF_s, cD_s, cA_s, cV_s, nI_add, cond_true, cond_false, if_true, if_false]
    rw [hfull]
    simp (disch := omega) only [iEQ_t, QX7_readBlink_14, gO_3 a3, gR_3_0 a3, gI_3_1 a3, gP_3_1 a3, gI_3_2 a3, gP_3_2 a3, gR_3_3 a3, gR_3_4 a3, gR_3_5 a3, gI_3_6 a3, gP_3_6 a3, gI_3_7 a3, gP_3_7 a3, gI_3_8 a3, gP_3_8 a3, gI_3_9 a3, gP_3_9 a3, s1, cI_s, cL_s, cF_s, cD_s, cA_s, cV_s, nI_add, cond_true, cond_false, if_true, if_false]
    rw [k1]
    simp (disch := omega) only [iLE_t, QX7_readBlink_33, gO_3 a3, gR_3_0 a3, gI_3_1 a3, gP_3_1 a3, gI_3_2 a3, gP_3_2 a3, gR_3_3 a3, gR_3_4 a3, gR_3_5 a3, gI_3_6 a3, gP_3_6 a3, gI_3_7 a3, gP_3_7 a3, gI_3_8 a3, gP_3_8 a3, gI_3_9 a3, gP_3_9 a3, cI_s, cL_s, cF_s, cD_s, cA_s, cV_s, nI_add, cond_true, cond_false, if_true, if_false]
    rw [n1]
    simp (disch := omega) only [iLE_t, QX7_readBlink_48, gO_0 b0, gR_0_0 b0, gR_0_1 b0, gI_0_2 b0, gP_0_2 b0, cI_s, cL_s, cF_s, cD_s, cA_s, cV_s, nI_add, cond_true, cond_false, if_true, if_false]
    rw [t1]
    simp (disch := omega) only [xret5_1, cI_s, cL_s, cF_s, cD_s, cA_s, cV_s, nI_add, cond_true, cond_false, if_true, if_false]
  · unfold gBk
    rw [hg3]
    obtain ⟨P1, P2, P3b, P4, e1, e2, e3, e4, e5⟩ := P3
    have o : ∀ i, i < 45 ∨ 61 ≤ i → i ≠ 10 → updN (updN (updN (fin g) (45 + 2 * fin g 10) v) (45 + 2 * fin g 10 + 1) w) 10 (fin g 10 + 1) i = fin g i := fun i a b => by rw [updN_n b, updN_n (by omega), updN_n (by omega)]
    obtain ⟨m1, m2, m3, m4, m5⟩ := pMd_fr t2 (by omega) P2
    refine ⟨pRw_cg (o 0 (by omega) (by omega)) (o 1 (by omega) (by omega)) (fun i a b => o i (by omega) (by omega)) I'.2.1 I'.1.2.1 (pRw_fr t2 (by omega) P1), ⟨?_, ?_, ?_, ?_, fun p hp => ?_⟩, t3, pFo_cg (o 11 (by omega) (by omega)) (fun i a => o i (by omega) (by omega)) (pFo_fr t2 (by omega) P4), ?_, ?_, ?_, ?_, ?_⟩
    · rw [o 0 (by omega) (by omega)]; exact m1
    · rw [o 4 (by omega) (by omega)]; exact m2
    · rw [o 5 (by omega) (by omega)]; exact m3
    · rw [o 6 (by omega) (by omega)]; exact m4
    · rw [o 0 (by omega) (by omega)] at hp
      have := I'.1.2.1
      rw [o (36 + p) (by omega) (by omega)]; exact m5 p hp
    · rw [frm_1 t2 (by omega), o 2 (by omega) (by omega)]; exact e1
    · rw [frm_1 t2 (by omega), o 3 (by omega) (by omega)]; exact e2
    · rw [frm_1 t2 (by omega), o 7 (by omega) (by omega)]; exact e3
    · rw [frm_1 t2 (by omega), o 8 (by omega) (by omega)]; exact e4
    · rw [frm_1 t2 (by omega), o 9 (by omega) (by omega)]; exact e5
-- statements
theorem u_stmt15 (h3 : hI sh 1) (hG14 : hG sh 14) (H : hEn E z x) (Q : cQ S tx L p) (e : tk tx L p = 15) {d : Nat} {S' : xSt} (h : xsem xT E (d + 5) kX7_readScratches [.ref (x + 1), .ref (x + (14 + 1))] (wW E z x sh S, n) = some (.inl (some (.int (nI 1))), (wW E z x sh S', n))) :
    xsem xT E (d + 6) kX7_readStatement [.ref (x + 1), .ref (x + 14)] (wW E z x sh S, n) = some (.inl (some (.int (nI 1))), (wW E z x sh S', n)) := by
  have a3 := h3.1
  have b0 : sh 14 = some (sh2 14) := hG14.1
  rw [eX7_readStatement, QX7_readStatement_0]
  simp (disch := omega) only [gO_3 a3, gR_3_0 a3, gI_3_1 a3, gP_3_1 a3, gI_3_2 a3, gP_3_2 a3, gR_3_3 a3, gR_3_4 a3, gR_3_5 a3, gI_3_6 a3, gP_3_6 a3, gI_3_7 a3, gP_3_7 a3, gI_3_8 a3, gP_3_8 a3, gI_3_9 a3, gP_3_9 a3, c_is_t h3 H Q _ e, iEQ_f, gO_2 b0, gR_2_0 b0, gR_2_1 b0, gR_2_2 b0, gR_2_3 b0, gI_2_4 b0, gP_2_4 b0, gI_2_5 b0, gP_2_5 b0, gI_2_6 b0, gP_2_6 b0, gI_2_7 b0, gP_2_7 b0, gI_2_8 b0, gP_2_8 b0, cI_s, cL_s, cF_s, cD_s, cA_s, cV_s, nI_add, cond_true, cond_false, if_true, if_false]
  rw [h]
  simp (disch := omega) only [xret5_1, cI_s, cL_s, cF_s, cD_s, cA_s, cV_s, nI_add, cond_true, cond_false, if_true, if_false]
theorem u_stmt20 (h3 : hI sh 1) (hG14 : hG sh 14) (H : hEn E z x) (Q : cQ S tx L p) (e : tk tx L p = 20) {d : Nat} {S' : xSt} (h : xsem xT E (d + 5) kX7_readBlink [.ref (x + 1), .ref (x + (14 + 6))] (wW E z x sh S, n) = some (.inl (some (.int (nI 1))), (wW E z x sh S', n))) :
    xsem xT E (d + 6) kX7_readStatement [.ref (x + 1), .ref (x + 14)] (wW E z x sh S, n) = some (.inl (some (.int (nI 1))), (wW E z x sh S', n)) := by
  have a3 := h3.1
  have b0 : sh 14 = some (sh2 14) := hG14.1
  have e15 : tk tx L p ≠ 15 := by omega
  rw [eX7_readStatement, QX7_readStatement_0]
  simp (disch := omega) only [gO_3 a3, gR_3_0 a3, gI_3_1 a3, gP_3_1 a3, gI_3_2 a3, gP_3_2 a3, gR_3_3 a3, gR_3_4 a3, gR_3_5 a3, gI_3_6 a3, gP_3_6 a3, gI_3_7 a3, gP_3_7 a3, gI_3_8 a3, gP_3_8 a3, gI_3_9 a3, gP_3_9 a3, c_is_f h3 H Q _ e15, iEQ_t, QX7_readStatement_19, c_is_t h3 H Q _ e, iEQ_f, gO_2 b0, gR_2_0 b0, gR_2_1 b0, gR_2_2 b0, gR_2_3 b0, gI_2_4 b0, gP_2_4 b0, gI_2_5 b0, gP_2_5 b0, gI_2_6 b0, gP_2_6 b0, gI_2_7 b0, gP_2_7 b0, gI_2_8 b0, gP_2_8 b0, cI_s, cL_s, cF_s, cD_s, cA_s, cV_s, nI_add, cond_true, cond_false, if_true, if_false]
  rw [h]
  simp (disch := omega) only [xret5_1, cI_s, cL_s, cF_s, cD_s, cA_s, cV_s, nI_add, cond_true, cond_false, if_true, if_false]
theorem u_stmtS (h3 : hI sh 1) (H : hEn E z x) (Q : cQ S tx L p) (e : isSt (tk tx L p)) {d : Nat} {S' : xSt} (h : xsem xT E (d + 5) kX7_readSetting [.ref (x + 1), .ref (x + 14)] (wW E z x sh S, n) = some (.inl (some (.int (nI 1))), (wW E z x sh S', n))) :
    xsem xT E (d + 6) kX7_readStatement [.ref (x + 1), .ref (x + 14)] (wW E z x sh S, n) = some (.inl (some (.int (nI 1))), (wW E z x sh S', n)) := by
  have a3 := h3.1
  have e15 : tk tx L p ≠ 15 := by unfold isSt at e; omega
  have e20 : tk tx L p ≠ 20 := by unfold isSt at e; omega
  have e21 : tk tx L p ≠ 21 := by unfold isSt at e; omega
  rw [eX7_readStatement, QX7_readStatement_0]
  simp (disch := omega) only [gO_3 a3, gR_3_0 a3, gI_3_1 a3, gP_3_1 a3, gI_3_2 a3, gP_3_2 a3, gR_3_3 a3, gR_3_4 a3, gR_3_5 a3, gI_3_6 a3, gP_3_6 a3, gI_3_7 a3, gP_3_7 a3, gI_3_8 a3, gP_3_8 a3, gI_3_9 a3, gP_3_9 a3, c_is_f h3 H Q _ e15, iEQ_t, QX7_readStatement_19, c_is_f h3 H Q _ e20, QX7_readStatement_38, c_is_f h3 H Q _ e21, QX7_readStatement_69, h, xret5_1, cI_s, cL_s, cF_s, cD_s, cA_s, cV_s, nI_add, cond_true, cond_false, if_true, if_false]
theorem u_step (h3 : hI sh 1) (H : hEn E z x) (Q : cQ S tx L p) {i q : Nat} (hi : i < 500) (hs : sb < 64) (e0 : tk tx L p ≠ 0) (hb : isSb (tk tx L p) → sb.testBit (sW (tk tx L p)) = false) {S1 : xSt} {d : Nat} (h : xsem xT E (d + 6) kX7_readStatement [.ref (x + 1), .ref (x + 14)] (wW E z x sh S, n) = some (.inl (some (.int (nI 1))), (wW E z x sh S1, n))) (Q1 : cQ S1 tx L q) (e3 : tk tx L q = 3) :
    ∃ S2, qX7_read_46 E (d + 6) (x + 1) (x + 14) (nI sb) (nI i) (wW E z x sh S, n) = qX7_read_46 E (d + 6) (x + 1) (x + 14) (nI (sb ||| sBit (tk tx L p))) (nI (i + 1)) (wW E z x sh S2, n) ∧ cQ S2 tx L (ad tx L q) ∧ frI S1 S2 ∧ (sb ||| sBit (tk tx L p)) < 64 := by
  have a3 := h3.1
  have htl := tk_lt29 (tx := tx) (L := L) (p := p)
  have hz : nI sb &&& nI (sBit (tk tx L p)) = nI 0 ∧ nI sb ||| nI (sBit (tk tx L p)) = nI (sb ||| sBit (tk tx L p)) ∧ (sb ||| sBit (tk tx L p)) < 64 := by
    by_cases c : isSb (tk tx L p)
    · obtain ⟨hw1, hw2⟩ := sBit_w c
      rw [hw1]
      refine ⟨?_, (sb_or sb hs _ hw2).1, (sb_or sb hs _ hw2).2.2.1⟩
      rw [sb_and sb hs _ hw2]
      exact hb c
    · rw [sBit_0 c, Nat.or_zero]
      exact ⟨(sb_0 sb hs).1, (sb_0 sb hs).2, hs⟩
  obtain ⟨S2, q1, Q2, fs⟩ := c_take_t (E := E) (z := z) (x := x) (n := n) h3 H Q1 (i := 3) (by omega) e3 (d + 4)
  refine ⟨S2, ?_, Q2, fs, hz.2.2⟩
  rw [QX7_read_46]
  simp (disch := omega) only [iLE_f, gO_3 a3, gR_3_0 a3, gI_3_1 a3, gP_3_1 a3, gI_3_2 a3, gP_3_2 a3, gR_3_3 a3, gR_3_4 a3, gR_3_5 a3, gI_3_6 a3, gP_3_6 a3, gI_3_7 a3, gP_3_7 a3, gI_3_8 a3, gP_3_8 a3, gI_3_9 a3, gP_3_9 a3, c_is_f h3 H Q _ e0, iEQ_t, c_token h3 Q, cI_s, cL_s, cF_s, cD_s, cA_s, cV_s, nI_add, cond_true, cond_false, if_true, if_false]
  rw [s7_bit H htl]
  simp (disch := omega) only [if_pos hz.1, QX7_read_87, h, iEQ_f, gO_3 a3, gR_3_0 a3, gI_3_1 a3, gP_3_1 a3, gI_3_2 a3, gP_3_2 a3, gR_3_3 a3, gR_3_4 a3, gR_3_5 a3, gI_3_6 a3, gP_3_6 a3, gI_3_7 a3, gP_3_7 a3, gI_3_8 a3, gP_3_8 a3, gI_3_9 a3, gP_3_9 a3, cI_s, cL_s, cF_s, cD_s, cA_s, cV_s, nI_add, cond_true, cond_false, if_true, if_false]
  rw [q1]
  simp (disch := omega) only [iEQ_f, QX7_read_112, hz.2.1, cI_s, cL_s, cF_s, cD_s, cA_s, cV_s, nI_add, cond_true, cond_false, if_true, if_false]
theorem u_end (h3 : hI sh 1) (H : hEn E z x) (Q : cQ S tx L p) (e : tk tx L p = 0) {i : Nat} (hi : i < 500) (v : Int32) (d : Nat) : qX7_read_46 E (d + 6) (x + 1) (x + 14) v (nI i) (wW E z x sh S, n) = some (.inl (some (.int (nI 1))), (wW E z x sh S, n)) := by
  have a3 := h3.1
  rw [QX7_read_46]
  simp (disch := omega) only [iLE_f, gO_3 a3, gR_3_0 a3, gI_3_1 a3, gP_3_1 a3, gI_3_2 a3, gP_3_2 a3, gR_3_3 a3, gR_3_4 a3, gR_3_5 a3, gI_3_6 a3, gP_3_6 a3, gI_3_7 a3, gP_3_7 a3, gI_3_8 a3, gP_3_8 a3, gI_3_9 a3, gP_3_9 a3, c_is_t h3 H Q _ e, iEQ_f, QX7_read_118, xret5_1, cI_s, cL_s, cF_s, cD_s, cA_s, cV_s, nI_add, cond_true, cond_false, if_true, if_false]
/-- the head of a setup: how many shells -/
theorem u_head (h3 : hI sh 1) (hG14 : hG sh 14) (H : hEn E z x) (Q : cQ S tx L p) (e10 : tk tx L p = 10) (e1 : tk tx L (ad tx L p) = 1) {s : Nat} (hs : nu tx L (ad tx L p) = s) (h2 : 2 ≤ s) (h8 : s ≤ 8) (e3 : tk tx L (ad tx L (ad tx L p)) = 3) (d : Nat) :
    ∃ S', xsem xT E (d + 7) kX7_read [.ref (x + 1), .ref (x + 14)] (wW E z x sh S, n) = qX7_read_46 E (d + 6) (x + 1) (x + 14) (nI 0) (nI 0) (wW E z x sh S', n) ∧ PS S' tx L (ad tx L (ad tx L (ad tx L p))) (gNew s) ∧ frD S S' := by
  have a3 := h3.1
  have b0 : sh 14 = some (sh2 14) := hG14.1
  obtain ⟨S1, s1, Q1, f1⟩ := c_take_t (E := E) (z := z) (x := x) (n := n) h3 H Q (i := 10) (by omega) e10 (d + 4)
  obtain ⟨S2, k1, Q2, f2⟩ := c_num_t (E := E) (z := z) (x := x) (n := n) (lo := 2) (hi := 8) h3 H Q1 (by omega) e1 (by omega) (by omega) (d + 4)
  obtain ⟨S3, q1, Q3, f3⟩ := c_take_t (E := E) (z := z) (x := x) (n := n) h3 H Q2 (i := 3) (by omega) e3 (d + 4)
  rw [hs] at k1
  obtain ⟨S4, t1, t2, t3⟩ := s2_reset (E := E) (z := z) (x := x) (n := n) (S := S3) hG14 h2 h8 (d + 2)
  refine ⟨S4, ?_, ⟨cQ_m Q3 t2, by rw [fin_new]; exact t3, iU_new h2 h8⟩, frD_tr (frD_tr (frD_I f1) (frD_I f2)) (frD_tr (frD_I f3) (frD_m t2))⟩
  rw [eX7_read, QX7_read_0]
  simp (disch := omega) only [gO_3 a3, gR_3_0 a3, gI_3_1 a3, gP_3_1 a3, gI_3_2 a3, gP_3_2 a3, gR_3_3 a3, gR_3_4 a3, gR_3_5 a3, gI_3_6 a3, gP_3_6 a3, gI_3_7 a3, gP_3_7 a3, gI_3_8 a3, gP_3_8 a3, gI_3_9 a3, gP_3_9 a3, cI_s, cL_s, cF_s, cD_s, cA_s, cV_s, nI_add, cond_true, cond_false, if_true, if_false]
  rw [s1]
  simp (disch := omega) only [iEQ_f, QX7_read_12, gO_3 a3, gR_3_0 a3, gI_3_1 a3, gP_3_1 a3, gI_3_2 a3, gP_3_2 a3, gR_3_3 a3, gR_3_4 a3, gR_3_5 a3, gI_3_6 a3, gP_3_6 a3, gI_3_7 a3, gP_3_7 a3, gI_3_8 a3, gP_3_8 a3, gI_3_9 a3, gP_3_9 a3, cI_s, cL_s, cF_s, cD_s, cA_s, cV_s, nI_add, cond_true, cond_false, if_true, if_false]
  rw [k1]
  simp (disch := omega) only [iLT_f, gO_3 a3, gR_3_0 a3, gI_3_1 a3, gP_3_1 a3, gI_3_2 a3, gP_3_2 a3, gR_3_3 a3, gR_3_4 a3, gR_3_5 a3, gI_3_6 a3, gP_3_6 a3, gI_3_7 a3, gP_3_7 a3, gI_3_8 a3, gP_3_8 a3, gI_3_9 a3, gP_3_9 a3, cI_s, cL_s, cF_s, cD_s, cA_s, cV_s, nI_add, cond_true, cond_false, if_true, if_false]
  rw [q1]
  simp (disch := omega) only [iEQ_f, QX7_read_36, gO_2 b0, gR_2_0 b0, gR_2_1 b0, gR_2_2 b0, gR_2_3 b0, gI_2_4 b0, gP_2_4 b0, gI_2_5 b0, gP_2_5 b0, gI_2_6 b0, gP_2_6 b0, gI_2_7 b0, gP_2_7 b0, gI_2_8 b0, gP_2_8 b0, cI_s, cL_s, cF_s, cD_s, cA_s, cV_s, nI_add, cond_true, cond_false, if_true, if_false]
  rw [t1]
  simp (disch := omega) only [cI_s, cL_s, cF_s, cD_s, cA_s, cV_s, nI_add, cond_true, cond_false, if_true, if_false]
end PRS
