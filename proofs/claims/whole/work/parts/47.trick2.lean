/-! THE MOVE THAT FOOLS MOST: the class's Trick. -/
def pT (S : xSt) (q : Nat) (B : tB) : Prop := S.1 q 4 = nI B.2.2.2.1 ∧ S.1 q 5 = nI B.2.2.2.2 ∧ (B.2.2.2.2 ≠ 0 → S.1 q 1 = nI (if B.1 = 0 then 1 else 0) ∧ S.1 q 2 = nI B.2.1 ∧ S.1 q 3 = nI B.2.2.1)
def hT (sh : Nat → Option xSh) (q : Nat) : Prop := sh q = some (sh7 q) ∧ sh (q + 1) = some (sh4 (q + 1)) ∧ sh (q + 2) = some (1, 9, [])
section TR2
variable {E : xEn} {x n : Nat} {sh : Nat → Option xSh} {S : xSt} {q o : Nat} {g : Nat → Nat}
theorem pT_fr {lo hi : Nat} {S S' : xSt} {B : tB} (h : frm lo hi S S') (ho : q + 1 ≤ lo ∨ hi ≤ q) (H : pT S q B) : pT S' q B := by
  obtain ⟨h1, h2, h3⟩ := H
  refine ⟨?_, ?_, fun z => ?_⟩
  · rw [frm_1 h (by omega)]; exact h1
  · rw [frm_1 h (by omega)]; exact h2
  · rw [frm_1 h (by omega), frm_1 h (by omega), frm_1 h (by omega)]; exact h3 z
theorem narrow_b {b : Bool} {α : Sort _} {A C : α} : (if narrow .boolean (.int (nI b.toNat)) = Value.int (nI b.toNat) then A else C) = A := by
  cases b <;> exact if_pos rfl
theorem s9_take (h : hT sh q) (I : iG g) (sw bl : Bool) {a b : Nat} (ha : a < g 0) (hb : b < g 0) (hne : a ≠ b) {B : tB} (hB : okB g B) (P : pT S q B) (hp : S.1 (q + 1) 1 = nI (g 0 + 1)) (hf : ∀ p, p < g 0 + 1 → S.2.1 (q + 1 + 1) p = nI (gThk bl (if sw then 0 else 1) a b g p)) (d : Nat) :
    ∃ S', xsem xT E (d + 2) kX9_takeIfLess [.ref (x + q), .int (nI sw.toNat), .int (nI a), .int (nI b), .int (nI (tIts bl g (if sw then 0 else 1) a b))] (wW E x sh S, n) = some (.inl none, (wW E x sh S', n)) ∧ frm q (q + 1) S S' ∧ pT S' q (tU bl g (if sw then 0 else 1) a b B) := by
  obtain ⟨a0, a1, a2⟩ := h
  have h8 := I.1.2.1
  obtain ⟨t1, t2, t3, t4⟩ := tAll_b (bl := bl) I (k := if sw then 0 else 1) (by split <;> omega) ha hb hne
  obtain ⟨b1, b2, b3, b4⟩ := hB
  obtain ⟨p4, p5, p6⟩ := P
  have m1 : tIts bl g (if sw then 0 else 1) a b * B.2.2.2.2 ≤ 1000000 * 9000000 := Nat.mul_le_mul t3 b2
  have m2 : B.2.2.2.1 * tAll bl g (if sw then 0 else 1) a b ≤ 1000000 * 9000000 := Nat.mul_le_mul b1 t2
  have hx : xsem xT E (d + 2) kX9_takeIfLess [.ref (x + q), .int (nI sw.toNat), .int (nI a), .int (nI b), .int (nI (tIts bl g (if sw then 0 else 1) a b))] (wW E x sh S, n) = if nI 0 ≤ lg_cmp (lN (tIts bl g (if sw then 0 else 1) a b * B.2.2.2.2)) (lN (B.2.2.2.1 * tAll bl g (if sw then 0 else 1) a b)) then some (.inl none, (wW E x sh S, n)) else some (.inl none, (wW E x sh (sS (sS (sS (sS (sS S q 1 (nI sw.toNat)) q 2 (nI a)) q 3 (nI b)) q 4 (nI (tIts bl g (if sw then 0 else 1) a b))) q 5 (nI (tAll bl g (if sw then 0 else 1) a b))), n)) := by
    rw [eX9_takeIfLess, QX9_takeIfLess_0]
    simp (disch := omega) only [gO_7 a0, gR_7_0 a0, gI_7_1 a0, gP_7_1 a0, gI_7_2 a0, gP_7_2 a0, gI_7_3 a0, gP_7_3 a0, gI_7_4 a0, gP_7_4 a0, gI_7_5 a0, gP_7_5 a0, gO_4 a1, gR_4_0 a1, gI_4_1 a1, gP_4_1 a1, gI_4_2 a1, gP_4_2 a1, gI_4_3 a1, gP_4_3 a1, gI_4_4 a1, gP_4_4 a1, cI_s, cL_s, cF_s, cD_s, cA_s, cV_s, nI_add, cond_true, cond_false, if_true, if_false]
    rw [s4_sum a1 a2 hp (by omega) hf, show mSum (gThk bl (if sw then 0 else 1) a b g) (g 0 + 1) = tAll bl g (if sw then 0 else 1) a b from rfl]
    simp (disch := omega) only [gO_7 a0, gR_7_0 a0, gI_7_1 a0, gP_7_1 a0, gI_7_2 a0, gP_7_2 a0, gI_7_3 a0, gP_7_3 a0, gI_7_4 a0, gP_7_4 a0, gI_7_5 a0, gP_7_5 a0, p4, p5, nI_l, lN_mul, QX9_takeIfLess_58, narrow_b, cI_s, cL_s, cF_s, cD_s, cA_s, cV_s, nI_add, cond_true, cond_false, if_true, if_false]
  unfold tU
  by_cases c : tIts bl g (if sw then 0 else 1) a b * B.2.2.2.2 < B.2.2.2.1 * tAll bl g (if sw then 0 else 1) a b
  · refine ⟨_, hx.trans (lcG_f c (by omega)), frm_tr (frm_tr (frm_tr (frm_tr (frm_sS (by omega) (by omega)) (frm_sS (by omega) (by omega))) (frm_sS (by omega) (by omega))) (frm_sS (by omega) (by omega))) (frm_sS (by omega) (by omega)), ?_⟩
    rw [if_pos c]
    refine ⟨?_, sS_s, fun _ => ⟨?_, ?_, ?_⟩⟩
    · rw [sS_n (by omega), sS_s]
    · rw [sS_n (by omega), sS_n (by omega), sS_n (by omega), sS_n (by omega), sS_s]
      cases sw <;> rfl
    · rw [sS_n (by omega), sS_n (by omega), sS_n (by omega), sS_s]
    · rw [sS_n (by omega), sS_n (by omega), sS_s]
  · refine ⟨S, hx.trans (lcG_t (by omega) (by omega)), frm_rf, ?_⟩
    rw [if_neg c]
    exact ⟨p4, p5, p6⟩
theorem l9_in (h : hT sh q) (hg : hG sh o) (ho : o + 12 ≤ q ∨ q + 3 ≤ o) (I : iG g) (sw bl : Bool) {a : Nat} (ha : a < g 0) (d : Nat) :
    ∀ m b (S : xSt) (B : tB), b + m = g 0 → a < b → pG S o g → okB g B → pT S q B →
      ∃ S', qX9_tryAll_25 E (d + 4) (x + q) (x + o) (nI sw.toNat) (nI bl.toNat) (nI (g 0)) (nI a) (nI b) (wW E x sh S, n) = qX9_tryAll_115 E (d + 4) (x + q) (x + o) (nI sw.toNat) (nI bl.toNat) (nI (g 0)) (nI a) (wW E x sh S', n) ∧ frm q (q + 3) S S' ∧ pT S' q (tIn bl g (if sw then 0 else 1) a m b B) := by
  have h8 := I.1.2.1
  have g1 := I.1.2.2.1
  have hT' := h
  have hG' := hg
  obtain ⟨t0, t1, t2⟩ := h
  obtain ⟨a0, a1, a2, a3, a4, a5, a6, a7, a8, a9, a10, a11⟩ := hg
  intro m
  induction m with
  | zero =>
    intro b S B hm _ _ _ hP
    refine ⟨S, ?_, frm_rf, hP⟩
    rw [QX9_tryAll_25]
    simp (disch := omega) only [iLE_t, cI_s, cL_s, cF_s, cD_s, cA_s, cV_s, nI_add, cond_true, cond_false, if_true, if_false]
  | succ m ih =>
    intro b S B hm hab hG1 hB hP
    have hb : b < g 0 := by omega
    obtain ⟨k1, k2, k3, k4⟩ := tAll_b (bl := bl) I (k := if sw then 0 else 1) (by split <;> omega) ha hb (by omega)
    have f1 : frm (q + 1) (q + 3) S (mdC S (q + 1) (o + 4)) := frm_mc
    have P1 := pMd_cp (q := q + 1) hG1.2.1 h8
    have G1 := pG_fr f1 (by omega) hG1
    have T1 := pT_fr f1 (by omega) hP
    generalize hS1 : mdC S (q + 1) (o + 4) = S1 at f1 P1 G1 T1
    obtain ⟨r0, r1, r2, r3, r4⟩ := G1.1
    have e2 := s4_followMove (E := E) (x := x) (n := n) t1 t2 a1 r0 r2 I P1 sw bl ha hb d
    have f2 : frm (q + 1) (q + 3) S1 (sA S1 (q + 1 + 1) (vw (g 0 + 1) (gThk bl (if sw then 0 else 1) a b g) (S1.2.1 (q + 1 + 1)))) := frm_sA (by omega) (by omega)
    have G2 := pG_fr f2 (by omega) G1
    have T2 := pT_fr f2 (by omega) T1
    have hp2 : (sA S1 (q + 1 + 1) (vw (g 0 + 1) (gThk bl (if sw then 0 else 1) a b g) (S1.2.1 (q + 1 + 1)))).1 (q + 1) 1 = nI (g 0 + 1) := P1.1
    have hf2 : ∀ p, p < g 0 + 1 → (sA S1 (q + 1 + 1) (vw (g 0 + 1) (gThk bl (if sw then 0 else 1) a b g) (S1.2.1 (q + 1 + 1)))).2.1 (q + 1 + 1) p = nI (gThk bl (if sw then 0 else 1) a b g p) := fun p hp => by rw [sA_s, vw_in hp]
    generalize hS2 : sA S1 (q + 1 + 1) (vw (g 0 + 1) (gThk bl (if sw then 0 else 1) a b g) (S1.2.1 (q + 1 + 1))) = S2 at e2 f2 G2 T2 hp2 hf2
    obtain ⟨S3, e3, f3, T3⟩ := s9_take (E := E) (x := x) (n := n) hT' I sw bl ha hb (by omega) hB T2 hp2 hf2 (d + 2)
    have f23 : frm q (q + 3) S S3 := frm_tr (frm_tr (frm_mo f1 (by omega) (by omega)) (frm_mo f2 (by omega) (by omega))) (frm_mo f3 (by omega) (by omega))
    obtain ⟨S4, e4, f4, T4⟩ := ih (b + 1) S3 _ (by omega) (by omega) (pG_fr f23 (by omega) hG1) (okB_U (bl := bl) I (by split <;> omega) ha hb (by omega) hB).1 T3
    refine ⟨S4, ?_, frm_tr f23 f4, T4⟩
    have hball : ∃ bb, gBall (if sw then 0 else 1) a b g = bb ∧ bb ≤ g 0 := ⟨_, rfl, k4⟩
    obtain ⟨r0', r1', r2', r3', r4'⟩ := G2.1
    rw [QX9_tryAll_25]
    simp (disch := omega) only [iLE_f, gO_7 t0, gR_7_0 t0, gI_7_1 t0, gP_7_1 t0, gI_7_2 t0, gP_7_2 t0, gI_7_3 t0, gP_7_3 t0, gI_7_4 t0, gP_7_4 t0, gI_7_5 t0, gP_7_5 t0, gO_2 a0, gR_2_0 a0, gR_2_1 a0, gR_2_2 a0, gR_2_3 a0, gI_2_4 a0, gP_2_4 a0, gI_2_5 a0, gP_2_5 a0, gI_2_6 a0, gP_2_6 a0, gI_2_7 a0, gP_2_7 a0, gI_2_8 a0, gP_2_8 a0, gO_4 t1, gR_4_0 t1, gI_4_1 t1, gP_4_1 t1, gI_4_2 t1, gP_4_2 t1, gI_4_3 t1, gP_4_3 t1, gI_4_4 t1, gP_4_4 t1, cI_s, cL_s, cF_s, cD_s, cA_s, cV_s, nI_add, cond_true, cond_false, if_true, if_false]
    rw [s4_copyFrom t1 t2 a4 a5 (by omega), hS1]
    simp (disch := omega) only [gO_7 t0, gR_7_0 t0, gI_7_1 t0, gP_7_1 t0, gI_7_2 t0, gP_7_2 t0, gI_7_3 t0, gP_7_3 t0, gI_7_4 t0, gP_7_4 t0, gI_7_5 t0, gP_7_5 t0, gO_2 a0, gR_2_0 a0, gR_2_1 a0, gR_2_2 a0, gR_2_3 a0, gI_2_4 a0, gP_2_4 a0, gI_2_5 a0, gP_2_5 a0, gI_2_6 a0, gP_2_6 a0, gI_2_7 a0, gP_2_7 a0, gI_2_8 a0, gP_2_8 a0, gO_4 t1, gR_4_0 t1, gI_4_1 t1, gP_4_1 t1, gI_4_2 t1, gP_4_2 t1, gI_4_3 t1, gP_4_3 t1, gI_4_4 t1, gP_4_4 t1, cI_s, cL_s, cF_s, cD_s, cA_s, cV_s, nI_add, cond_true, cond_false, if_true, if_false]
    rw [e2]
    have hend : qX9_tryAll_88 E (d + 4) (x + q) (x + o) (nI sw.toNat) (nI bl.toNat) (nI (g 0)) (nI a) (nI b) (nI (gBall (if sw then 0 else 1) a b g)) (wW E x sh S2, n) = qX9_tryAll_115 E (d + 4) (x + q) (x + o) (nI sw.toNat) (nI bl.toNat) (nI (g 0)) (nI a) (wW E x sh S4, n) := by
      rw [QX9_tryAll_88]
      simp (disch := omega) only [gO_7 t0, gR_7_0 t0, gI_7_1 t0, gP_7_1 t0, gI_7_2 t0, gP_7_2 t0, gI_7_3 t0, gP_7_3 t0, gI_7_4 t0, gP_7_4 t0, gI_7_5 t0, gP_7_5 t0, gO_4 t1, gR_4_0 t1, gI_4_1 t1, gP_4_1 t1, gI_4_2 t1, gP_4_2 t1, gI_4_3 t1, gP_4_3 t1, gI_4_4 t1, gP_4_4 t1, aI_w t2, hf2 _ (show gBall (if sw then 0 else 1) a b g < g 0 + 1 by omega), cI_s, cL_s, cF_s, cD_s, cA_s, cV_s, nI_add, cond_true, cond_false, if_true, if_false]
      rw [show nI (gThk bl (if sw then 0 else 1) a b g (gBall (if sw then 0 else 1) a b g)) = nI (tIts bl g (if sw then 0 else 1) a b) from rfl, e3]
      simp (disch := omega) only [cI_s, cL_s, cF_s, cD_s, cA_s, cV_s, nI_add, cond_true, cond_false, if_true, if_false]
      exact e4
    rw [← hend]
    cases sw with
    | true =>
      simp (disch := omega) only [Bool.toNat_true, iEQ_f, gO_2 a0, gR_2_0 a0, gR_2_1 a0, gR_2_2 a0, gR_2_3 a0, gI_2_4 a0, gP_2_4 a0, gI_2_5 a0, gP_2_5 a0, gI_2_6 a0, gP_2_6 a0, gI_2_7 a0, gP_2_7 a0, gI_2_8 a0, gP_2_8 a0, gO_5 a1, gI_5_0 a1, gP_5_0 a1, gI_5_1 a1, gP_5_1 a1, gI_5_2 a1, gP_5_2 a1, gR_5_3 a1, gR_5_4 a1, r1', cI_s, cL_s, cF_s, cD_s, cA_s, cV_s, nI_add, cond_true, cond_false, if_true, if_false]
      rw [s5_placeBehind (by omega) (by omega) (by omega)]
      simp (disch := omega) only [cI_s, cL_s, cF_s, cD_s, cA_s, cV_s, nI_add, cond_true, cond_false, if_true, if_false]
      rfl
    | false =>
      simp (disch := omega) only [Bool.toNat_false, iEQ_t, QX9_tryAll_81, gO_2 a0, gR_2_0 a0, gR_2_1 a0, gR_2_2 a0, gR_2_3 a0, gI_2_4 a0, gP_2_4 a0, gI_2_5 a0, gP_2_5 a0, gI_2_6 a0, gP_2_6 a0, gI_2_7 a0, gP_2_7 a0, gI_2_8 a0, gP_2_8 a0, gO_5 a1, gI_5_0 a1, gP_5_0 a1, gI_5_1 a1, gP_5_1 a1, gI_5_2 a1, gP_5_2 a1, gR_5_3 a1, gR_5_4 a1, r1', cI_s, cL_s, cF_s, cD_s, cA_s, cV_s, nI_add, cond_true, cond_false, if_true, if_false]
      rfl
theorem l9_out (h : hT sh q) (hg : hG sh o) (ho : o + 12 ≤ q ∨ q + 3 ≤ o) (I : iG g) (sw bl : Bool) (d : Nat) :
    ∀ m a (S : xSt) (B : tB), a + m = g 0 → pG S o g → okB g B → pT S q B →
      ∃ S', qX9_tryAll_12 E (d + 4) (x + q) (x + o) (nI sw.toNat) (nI bl.toNat) (nI (g 0)) (nI a) (wW E x sh S, n) = some (.inl none, (wW E x sh S', n)) ∧ frm q (q + 3) S S' ∧ pT S' q (tOut bl g (if sw then 0 else 1) m a B) := by
  have h8 := I.1.2.1
  intro m
  induction m with
  | zero =>
    intro a S B hm _ _ hP
    refine ⟨S, ?_, frm_rf, hP⟩
    rw [QX9_tryAll_12]
    simp (disch := omega) only [iLE_t, QX9_tryAll_121, cI_s, cL_s, cF_s, cD_s, cA_s, cV_s, nI_add, cond_true, cond_false, if_true, if_false]
  | succ m ih =>
    intro a S B hm hG1 hB hP
    have ha : a < g 0 := by omega
    obtain ⟨S1, e1, f1, T1⟩ := l9_in (E := E) (x := x) (n := n) h hg ho I sw bl ha d m (a + 1) S B (by omega) (by omega) hG1 hB hP
    obtain ⟨S2, e2, f2, T2⟩ := ih (a + 1) S1 _ (by omega) (pG_fr f1 (by omega) hG1) (okB_In (bl := bl) I (by split <;> omega) ha m (a + 1) B (by omega) (by omega) hB).1 T1
    refine ⟨S2, ?_, frm_tr f1 f2, T2⟩
    rw [QX9_tryAll_12]
    simp (disch := omega) only [iLE_f, cI_s, cL_s, cF_s, cD_s, cA_s, cV_s, nI_add, cond_true, cond_false, if_true, if_false]
    rw [e1, QX9_tryAll_115]
    simp (disch := omega) only [cI_s, cL_s, cF_s, cD_s, cA_s, cV_s, nI_add, cond_true, cond_false, if_true, if_false]
    exact e2
theorem s9_find (h : hT sh q) (hg : hG sh o) (ho : o + 12 ≤ q ∨ q + 3 ≤ o) (hG1 : pG S o g) (I : iG g) (d : Nat) :
    ∃ S', xsem xT E (d + 6) kX9_find [.ref (x + q), .ref (x + o)] (wW E x sh S, n) = some (.inl none, (wW E x sh S', n)) ∧ frm q (q + 3) S S' ∧ pT S' q (gFool g) := by
  have h8 := I.1.2.1
  have h10 := I.1.2.2.2.2.2.2.2.2.2
  have hB0 : okB g (0, 0, 0, 1, 0) := ⟨by show 1 ≤ 1000000; omega, Nat.zero_le _, fun _ => rfl, fun z => absurd rfl z⟩
  obtain ⟨t0, t1, t2⟩ := h
  have f0 : frm q (q + 3) S (sS (sS S q 4 (nI 1)) q 5 (nI 0)) := frm_tr (frm_sS (by omega) (by omega)) (frm_sS (by omega) (by omega))
  have G0 := pG_fr f0 (by omega) hG1
  have T0 : pT (sS (sS S q 4 (nI 1)) q 5 (nI 0)) q (0, 0, 0, 1, 0) := ⟨by rw [sS_n (by omega), sS_s], sS_s, fun z => absurd rfl z⟩
  generalize hS0 : sS (sS S q 4 (nI 1)) q 5 (nI 0) = S0 at f0 G0 T0
  obtain ⟨S1, e1, f1, T1⟩ := l9_out (E := E) (x := x) (n := n) ⟨t0, t1, t2⟩ hg ho I true (gBl g) d (g 0) 0 S0 _ (by omega) G0 hB0 T0
  have G1 := pG_fr f1 (by omega) G0
  obtain ⟨S2, e2, f2, T2⟩ := l9_out (E := E) (x := x) (n := n) ⟨t0, t1, t2⟩ hg ho I false (gBl g) d (g 0) 0 S1 _ (by omega) G1 (okB_Out (bl := gBl g) I (k := if true = true then 0 else 1) (by decide) (g 0) 0 _ (by omega) hB0).1 T1
  refine ⟨S2, ?_, frm_tr f0 (frm_tr f1 f2), T2⟩
  have r0 := G0.1.1
  have r1 := G1.1.1
  have hb0 := s2_isBlinkNext (E := E) (x := x) (n := n) hg G0 h10 (d + 3)
  obtain ⟨a0, a1, a2, a3, a4, a5, a6, a7, a8, a9, a10, a11⟩ := hg
  rw [eX9_find, QX9_find_0]
  simp (disch := omega) only [gO_7 t0, gR_7_0 t0, gI_7_1 t0, gP_7_1 t0, gI_7_2 t0, gP_7_2 t0, gI_7_3 t0, gP_7_3 t0, gI_7_4 t0, gP_7_4 t0, gI_7_5 t0, gP_7_5 t0, hS0, gO_2 a0, gR_2_0 a0, gR_2_1 a0, gR_2_2 a0, gR_2_3 a0, gI_2_4 a0, gP_2_4 a0, gI_2_5 a0, gP_2_5 a0, gI_2_6 a0, gP_2_6 a0, gI_2_7 a0, gP_2_7 a0, gI_2_8 a0, gP_2_8 a0, cI_s, cL_s, cF_s, cD_s, cA_s, cV_s, nI_add, cond_true, cond_false, if_true, if_false]
  rw [hb0]
  simp (disch := omega) only [gO_7 t0, gR_7_0 t0, gI_7_1 t0, gP_7_1 t0, gI_7_2 t0, gP_7_2 t0, gI_7_3 t0, gP_7_3 t0, gI_7_4 t0, gP_7_4 t0, gI_7_5 t0, gP_7_5 t0, cI_s, cL_s, cF_s, cD_s, cA_s, cV_s, nI_add, cond_true, cond_false, if_true, if_false]
  rw [eX9_tryAll, QX9_tryAll_0]
  simp (disch := omega) only [gO_2 a0, gR_2_0 a0, gR_2_1 a0, gR_2_2 a0, gR_2_3 a0, gI_2_4 a0, gP_2_4 a0, gI_2_5 a0, gP_2_5 a0, gI_2_6 a0, gP_2_6 a0, gI_2_7 a0, gP_2_7 a0, gI_2_8 a0, gP_2_8 a0, gO_5 a1, gI_5_0 a1, gP_5_0 a1, gI_5_1 a1, gP_5_1 a1, gI_5_2 a1, gP_5_2 a1, gR_5_3 a1, gR_5_4 a1, r0, cI_s, cL_s, cF_s, cD_s, cA_s, cV_s, nI_add, cond_true, cond_false, if_true, if_false]
  rw [show nI 1 = nI true.toNat from rfl, e1]
  simp (disch := omega) only [gO_7 t0, gR_7_0 t0, gI_7_1 t0, gP_7_1 t0, gI_7_2 t0, gP_7_2 t0, gI_7_3 t0, gP_7_3 t0, gI_7_4 t0, gP_7_4 t0, gI_7_5 t0, gP_7_5 t0, cI_s, cL_s, cF_s, cD_s, cA_s, cV_s, nI_add, cond_true, cond_false, if_true, if_false]
  rw [eX9_tryAll, QX9_tryAll_0]
  simp (disch := omega) only [gO_2 a0, gR_2_0 a0, gR_2_1 a0, gR_2_2 a0, gR_2_3 a0, gI_2_4 a0, gP_2_4 a0, gI_2_5 a0, gP_2_5 a0, gI_2_6 a0, gP_2_6 a0, gI_2_7 a0, gP_2_7 a0, gI_2_8 a0, gP_2_8 a0, gO_5 a1, gI_5_0 a1, gP_5_0 a1, gI_5_1 a1, gP_5_1 a1, gI_5_2 a1, gP_5_2 a1, gR_5_3 a1, gR_5_4 a1, r1, cI_s, cL_s, cF_s, cD_s, cA_s, cV_s, nI_add, cond_true, cond_false, if_true, if_false]
  rw [show ∀ y, qX9_tryAll_12 E (d + 4) (x + q) (x + o) (nI 0) (nI (gBl g).toNat) (nI (g 0)) (nI 0) y = qX9_tryAll_12 E (d + 4) (x + q) (x + o) (nI false.toNat) (nI (gBl g).toNat) (nI (g 0)) (nI 0) y from fun _ => rfl, e2]
  simp (disch := omega) only [cI_s, cL_s, cF_s, cD_s, cA_s, cV_s, nI_add, cond_true, cond_false, if_true, if_false]
def tNum (B : tB) (k : Nat) : Nat := if k = 0 then B.1 else if k = 1 then B.2.1 else if k = 2 then B.2.2.1 else if k = 3 then B.2.2.2.1 else B.2.2.2.2
theorem s9_number (t0 : sh q = some (sh7 q)) {B : tB} (hB : okB g B) (h0 : B.2.2.2.2 ≠ 0) (P : pT S q B) {k : Nat} (hk : k ≤ 4) (d : Nat) :
    xsem xT E (d + 1) kX9_number [.ref (x + q), .int (nI k)] (wW E x sh S, n) = some (.inl (some (.int (nI (tNum B k)))), (wW E x sh S, n)) := by
  obtain ⟨p4, p5, p6⟩ := P
  obtain ⟨p1, p2, p3⟩ := p6 h0
  have b1 := (hB.2.2.2 h0).1
  rw [eX9_number, QX9_number_0]
  have hc : k = 0 ∨ k = 1 ∨ k = 2 ∨ k = 3 ∨ k = 4 := by omega
  rcases hc with h | h | h | h | h <;> subst h
  · rw [iEQ_t rfl, QX9_number_32]
    unfold tNum
    rw [if_pos rfl]
    by_cases e : B.1 = 0
    · rw [if_pos e] at p1
      simp (disch := omega) only [gO_7 t0, gR_7_0 t0, gI_7_1 t0, gP_7_1 t0, gI_7_2 t0, gP_7_2 t0, gI_7_3 t0, gP_7_3 t0, gI_7_4 t0, gP_7_4 t0, gI_7_5 t0, gP_7_5 t0, p1, iEQ_f, QX9_number_44, cI_s, cL_s, cF_s, cD_s, cA_s, cV_s, nI_add, cond_true, cond_false, if_true, if_false]
      rw [e]
    · rw [if_neg e] at p1
      simp (disch := omega) only [gO_7 t0, gR_7_0 t0, gI_7_1 t0, gP_7_1 t0, gI_7_2 t0, gP_7_2 t0, gI_7_3 t0, gP_7_3 t0, gI_7_4 t0, gP_7_4 t0, gI_7_5 t0, gP_7_5 t0, p1, iEQ_t, QX9_number_43, QX9_number_44, cI_s, cL_s, cF_s, cD_s, cA_s, cV_s, nI_add, cond_true, cond_false, if_true, if_false]
      rw [show B.1 = 1 by omega]
  · simp (disch := omega) only [iEQ_t, iEQ_f, QX9_number_45, gO_7 t0, gR_7_0 t0, gI_7_1 t0, gP_7_1 t0, gI_7_2 t0, gP_7_2 t0, gI_7_3 t0, gP_7_3 t0, gI_7_4 t0, gP_7_4 t0, gI_7_5 t0, gP_7_5 t0, p2, cI_s, cL_s, cF_s, cD_s, cA_s, cV_s, nI_add, cond_true, cond_false, if_true, if_false]; rfl
  · simp (disch := omega) only [iEQ_t, iEQ_f, QX9_number_50, gO_7 t0, gR_7_0 t0, gI_7_1 t0, gP_7_1 t0, gI_7_2 t0, gP_7_2 t0, gI_7_3 t0, gP_7_3 t0, gI_7_4 t0, gP_7_4 t0, gI_7_5 t0, gP_7_5 t0, p3, cI_s, cL_s, cF_s, cD_s, cA_s, cV_s, nI_add, cond_true, cond_false, if_true, if_false]; rfl
  · simp (disch := omega) only [iEQ_t, iEQ_f, QX9_number_55, gO_7 t0, gR_7_0 t0, gI_7_1 t0, gP_7_1 t0, gI_7_2 t0, gP_7_2 t0, gI_7_3 t0, gP_7_3 t0, gI_7_4 t0, gP_7_4 t0, gI_7_5 t0, gP_7_5 t0, p4, cI_s, cL_s, cF_s, cD_s, cA_s, cV_s, nI_add, cond_true, cond_false, if_true, if_false]; rfl
  · simp (disch := omega) only [iEQ_f, QX9_number_60, gO_7 t0, gR_7_0 t0, gI_7_1 t0, gP_7_1 t0, gI_7_2 t0, gP_7_2 t0, gI_7_3 t0, gP_7_3 t0, gI_7_4 t0, gP_7_4 t0, gI_7_5 t0, gP_7_5 t0, p5, cI_s, cL_s, cF_s, cD_s, cA_s, cV_s, nI_add, cond_true, cond_false, if_true, if_false]; rfl
end TR2
