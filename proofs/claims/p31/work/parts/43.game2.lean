/-! A GAME'S METHODS OVER PICTURES. -/
theorem bb_ext {u v : Nat} (hu : u < 256) (hv : v < 256) (h : ∀ p, p < 8 → bbit u p = bbit v p) : u = v := by
  refine Nat.eq_of_testBit_eq (fun i => ?_)
  by_cases c : i < 8
  · have := h i c
    unfold bbit at this
    cases e1 : u.testBit i <;> cases e2 : v.testBit i <;> simp [e1, e2] at this <;> rfl
  · have h1 : 256 ≤ 2 ^ i := Nat.le_trans (by decide) (Nat.pow_le_pow_right (by omega) (show 8 ≤ i by omega))
    rw [Nat.testBit_lt_two_pow (by omega), Nat.testBit_lt_two_pow (by omega)]
theorem bbit_t {c p : Nat} : (bbit c p = 1) = (c.testBit p = true) := by
  unfold bbit
  cases c.testBit p <;> simp
def gNew (s : Nat) : Nat → Nat := fun i => if i = 0 then s else if i = 4 then 80 else if i = 5 then 1 else if i = 7 then 100 else if 12 ≤ i ∧ i < 20 then i - 12 else if i = 36 then 1 else 0
theorem gNew_12 {s p : Nat} (hp : p < 8) : gNew s (12 + p) = p := by
  unfold gNew
  rw [if_neg (by omega), if_neg (by omega), if_neg (by omega), if_neg (by omega), if_pos (by omega), Nat.add_sub_cancel_left]
theorem gNew_z {s i : Nat} (h : i ≠ 0 ∧ i ≠ 4 ∧ i ≠ 5 ∧ i ≠ 7 ∧ i ≠ 36 ∧ (i < 12 ∨ 20 ≤ i)) : gNew s i = 0 := by
  unfold gNew
  rw [if_neg (by omega), if_neg (by omega), if_neg (by omega), if_neg (by omega), if_neg (by omega), if_neg (by omega)]
theorem gNew_rg {s p : Nat} (hp : p < 8) : rg (gNew s) p = 0 := by
  unfold rg
  rw [gNew_12 hp, gNew_z (by omega)]
theorem gNew_set {s : Nat} : ∀ i, i ≤ 8 → gSet (gNew s) i = 0 := by
  intro i
  induction i with
  | zero => exact fun _ => rfl
  | succ i ih =>
    intro h
    rw [show gSet (gNew s) (i + 1) = if rg (gNew s) i = 1 then gSet (gNew s) i ||| 2 ^ i else gSet (gNew s) i from rfl, gNew_rg (by omega), if_neg (by omega), ih (by omega)]
theorem iG_new {s : Nat} (h2 : 2 ≤ s) (h8 : s ≤ 8) : iG (gNew s) := by
  refine ⟨⟨h2, h8, Nat.zero_le _, (show 1 ≤ 80 by decide), (show 80 ≤ 99 by decide), (show 1 ≤ 1 by decide), (show 1 ≤ 9 by decide), Nat.zero_le _, (show 100 ≤ 1000000 by decide), Nat.zero_le _⟩, fun p hp => by rw [gNew_12 hp]; exact hp, fun p hp => ?_, fun p q hp hq => ?_, fun p hp => by rw [gNew_z (by omega)]; omega, fun p hp => ?_, ?_⟩
  · have hp : p < s := hp
    rw [gNew_12 (by omega)]; exact hp
  · have hp : p < s := hp
    have hq : q < s := hq
    rw [gNew_12 (by omega), gNew_12 (by omega)]; exact id
  · by_cases e : p = 0
    · subst e; exact (show 1 ≤ 1000000 by decide)
    · rw [gNew_z (by omega)]; omega
  · exact (show 0 < 1 by decide)
section G2
variable {E : xEn} {z : Nat → Option va_E} {x : Nat} {sh : Nat → Option xSh} {S : xSt} {n q o : Nat} {g : Nat → Nat}
theorem gSet_sw {a b : Nat} (H : iG g) (ha : a < g 0) (hb : b < g 0) (hne : a ≠ b) : gSet (gSwp a b (updN g 1 (mBall (g 1) a b))) (g 0) = bset (bset (gSet g (g 0)) a ((gSet g (g 0)).testBit b)) b ((gSet g (g 0)).testBit a) := by
  have h8 := H.1.2.1
  have hs := H.2.1
  have hc := gSet_lt g _ h8
  have hc1 := bset_lt ((gSet g (g 0)).testBit b) _ hc a (by omega)
  have hr := iG_rg H
  have e12 : ∀ p, p < 8 → gSwp a b (updN g 1 (mBall (g 1) a b)) (12 + p) = if p = b then g (12 + a) else if p = a then g (12 + b) else g (12 + p) := fun p hp => by rw [gSwp_12 hp, updN_12, updN_12, updN_12]
  have e28 : ∀ i, 28 ≤ i → gSwp a b (updN g 1 (mBall (g 1) a b)) i = g i := fun i hi => by
    rw [gSwp_o (by omega) (by omega) (by rw [updN_12]; exact hs a (by omega)) (by rw [updN_12]; exact hs b (by omega)) (by omega), updN_n (by omega)]
  have er : ∀ p, p < 8 → rg (gSwp a b (updN g 1 (mBall (g 1) a b))) p = if p = b then rg g a else if p = a then rg g b else rg g p := fun p hp => by
    unfold rg
    rw [e12 p hp, e28 _ (by omega)]
    split
    · rfl
    · split <;> rfl
  have hr' : ∀ p, p < 8 → rg (gSwp a b (updN g 1 (mBall (g 1) a b))) p ≤ 1 := fun p hp => by
    rw [er p hp]
    split
    · exact hr a (by omega)
    · split
      · exact hr b (by omega)
      · exact hr p hp
  refine bb_ext (gSet_lt _ _ h8) (bset_lt _ _ hc1 b (by omega)) (fun p hp => ?_)
  rw [gSet_bit _ hr' _ h8 p hp, er p hp]
  have h1 := bset_bit ((gSet g (g 0)).testBit a) _ hc1 b (by omega) p hp
  have h2 := bset_bit ((gSet g (g 0)).testBit b) _ hc a (by omega) p hp
  have t : ∀ p, p < 8 → bbit (gSet g (g 0)) p = if p < g 0 then rg g p else 0 := fun p hp => gSet_bit g hr _ h8 p hp
  have tb : ∀ r, bbit (gSet g (g 0)) r = ((gSet g (g 0)).testBit r).toNat := fun r => bbit_b _ _
  rw [bbit_b, h1, h2]
  by_cases e1 : p = b
  · rw [if_pos (by omega), if_pos e1, if_pos e1, ← tb, t a (by omega), if_pos ha]
  · rw [if_neg e1, if_neg e1]
    by_cases e2 : p = a
    · rw [if_pos (by omega), if_pos e2, if_pos e2, ← tb, t b (by omega), if_pos hb]
    · rw [if_neg e2, if_neg e2, ← tb, t p hp]
theorem frm_rx {a b c ball : Nat} : frm o (o + 3) S (rwX S o a b c ball) :=
  frm_tr (frm_tr (frm_tr (frm_sA (by omega) (by omega)) (frm_sA (by omega) (by omega))) (frm_sS (by omega) (by omega))) (frm_sS (by omega) (by omega))
theorem pRw_sw {a b : Nat} (H : iG g) (P : pRw S o g) (ha : a < g 0) (hb : b < g 0) (hne : a ≠ b) : pRw (rwX S o a b (gSet g (g 0)) (g 1)) o (gSwp a b (updN g 1 (mBall (g 1) a b))) := by
  have h8 := H.1.2.1
  have hs := H.2.1
  have hinj := H.2.2.2.1
  obtain ⟨h1, h2, h3, h4, h5⟩ := P
  have hx := hs a (by omega)
  have hy := hs b (by omega)
  have e0 : gSwp a b (updN g 1 (mBall (g 1) a b)) 0 = g 0 := by
    rw [gSwp_o (by omega) (by omega) (by rw [updN_12]; exact hx) (by rw [updN_12]; exact hy) (by omega), updN_n (by omega)]
  have e1 : gSwp a b (updN g 1 (mBall (g 1) a b)) 1 = mBall (g 1) a b := by
    rw [gSwp_o (by omega) (by omega) (by rw [updN_12]; exact hx) (by rw [updN_12]; exact hy) (by omega), updN_s]
  have e12 : ∀ p, p < 8 → gSwp a b (updN g 1 (mBall (g 1) a b)) (12 + p) = if p = b then g (12 + a) else if p = a then g (12 + b) else g (12 + p) := fun p hp => by rw [gSwp_12 hp, updN_12, updN_12, updN_12]
  have hxy : g (12 + a) ≠ g (12 + b) := fun z => hne (hinj a b ha hb z)
  have e20 : ∀ s, gSwp a b (updN g 1 (mBall (g 1) a b)) (20 + s) = if s = g (12 + a) ∨ s = g (12 + b) then g (20 + s) + 1 else g (20 + s) := fun s => by
    rw [gSwp_20 (by omega) (by omega) (by rw [updN_12, updN_12]; exact hxy), updN_12, updN_12, updN_n (by omega)]
  unfold rwX
  refine ⟨?_, ?_, ?_, fun p hp => ?_, fun p hp => ?_⟩
  · rw [sS_n (by omega), sS_n (by omega), sA_1, sA_1, e0]; exact h1
  · rw [sS_s, e1]
  · rw [sS_n (by omega), sS_s, e0, gSet_sw H ha hb hne]
  · rw [sS_a, sS_a, sA_n (by omega), sA_s, e12 p hp]
    by_cases c1 : p = b
    · rw [c1, pk_us, if_pos rfl]; exact h4 a (by omega)
    · rw [pk_un c1, if_neg c1]
      by_cases c2 : p = a
      · rw [c2, pk_us, if_pos rfl]; exact h4 b (by omega)
      · rw [pk_un c2, if_neg c2]; exact h4 p hp
  · rw [e0] at hp
    rw [sS_a, sS_a, sA_s, e12 p (by omega), e20]
    by_cases c1 : p = b
    · rw [c1, pk_us, if_pos rfl, if_pos (Or.inl rfl), h5 a ha]
      exact nI_add _ _
    · rw [pk_un c1, if_neg c1]
      by_cases c2 : p = a
      · rw [c2, pk_us, if_pos rfl, if_pos (Or.inr rfl), h5 b hb]
        exact nI_add _ _
      · rw [pk_un c2, if_neg c2, if_neg (fun z => z.elim (fun z => c2 (hinj p a hp ha z)) (fun z => c1 (hinj p b hp hb z)))]
        exact h5 p hp
theorem s2_isBlinkNext (h : hG sh q) (H : pG S q g) (h10 : g 10 ≤ 8) (d : Nat) :
    xsem xT E (d + 2) kX2_isBlinkNext [.ref (x + q)] (wW E z x sh S, n) = some (.inl (some (.int (nI (gBl g).toNat))), (wW E z x sh S, n)) := by
  obtain ⟨a0, a1, a2, a3, a4, a5, a6, a7, a8, a9, a10, a11⟩ := h
  obtain ⟨_, _, P3, _, g4, _⟩ := H
  rw [eX2_isBlinkNext, QX2_isBlinkNext_0]
  simp (disch := omega) only [gO_2 a0, gR_2_0 a0, gR_2_1 a0, gR_2_2 a0, gR_2_3 a0, gI_2_4 a0, gP_2_4 a0, gI_2_5 a0, gP_2_5 a0, gI_2_6 a0, gP_2_6 a0, gI_2_7 a0, gP_2_7 a0, gI_2_8 a0, gP_2_8 a0, gO_0 a6, gR_0_0 a6, gR_0_1 a6, gI_0_2 a6, gP_0_2 a6, g4, cI_s, cL_s, cF_s, cD_s, cA_s, cV_s, nI_add, cond_true, cond_false, if_true, if_false]
  rw [s0_has a6 a7 a8 P3 h10]
  simp (disch := omega) only [xret5_b, cI_s, cL_s, cF_s, cD_s, cA_s, cV_s, nI_add, cond_true, cond_false, if_true, if_false]
  rfl
theorem s2_canSteal (h : hG sh q) (H : pG S q g) (I : iG g) {p : Nat} (hp : p < g 0) (d : Nat) :
    xsem xT E (d + 3) kX2_canSteal [.ref (x + q), .int (nI p)] (wW E z x sh S, n) = some (.inl (some (.int (nI (gCanS p g).toNat))), (wW E z x sh S, n)) := by
  have hbn := s2_isBlinkNext (E := E) (z := z) (x := x) (n := n) h H I.1.2.2.2.2.2.2.2.2.2 d
  obtain ⟨a0, a1, a2, a3, a4, a5, a6, a7, a8, a9, a10, a11⟩ := h
  obtain ⟨⟨r0, r1, _⟩, ⟨_, _, _, m4, _⟩, _⟩ := H
  obtain ⟨⟨_, h8, h1, _, _, _, _, h6, _, _⟩, _⟩ := I
  rw [eX2_canSteal, QX2_canSteal_0]
  simp (disch := omega) only [gO_2 a0, gR_2_0 a0, gR_2_1 a0, gR_2_2 a0, gR_2_3 a0, gI_2_4 a0, gP_2_4 a0, gI_2_5 a0, gP_2_5 a0, gI_2_6 a0, gP_2_6 a0, gI_2_7 a0, gP_2_7 a0, gI_2_8 a0, gP_2_8 a0, hbn, cI_s, cL_s, cF_s, cD_s, cA_s, cV_s, nI_add, cond_true, cond_false, if_true, if_false]
  unfold gCanS
  rw [blt_iff', beq_iff']
  cases hb : gBl g
  · simp (disch := omega) only [Bool.toNat_false, iEQ_t, QX2_canSteal_32, QX2_canSteal_33, xret5_0, cI_s, cL_s, cF_s, cD_s, cA_s, cV_s, nI_add, cond_true, cond_false, if_true, if_false]
    rfl
  · simp (disch := omega) only [Bool.toNat_true, iEQ_f, gO_2 a0, gR_2_0 a0, gR_2_1 a0, gR_2_2 a0, gR_2_3 a0, gI_2_4 a0, gP_2_4 a0, gI_2_5 a0, gP_2_5 a0, gI_2_6 a0, gP_2_6 a0, gI_2_7 a0, gP_2_7 a0, gI_2_8 a0, gP_2_8 a0, gO_4 a4, gR_4_0 a4, gI_4_1 a4, gP_4_1 a4, gI_4_2 a4, gP_4_2 a4, gI_4_3 a4, gP_4_3 a4, gI_4_4 a4, gP_4_4 a4, gO_5 a1, gI_5_0 a1, gP_5_0 a1, gI_5_1 a1, gP_5_1 a1, gI_5_2 a1, gP_5_2 a1, gR_5_3 a1, gR_5_4 a1, m4, r1, cI_s, cL_s, cF_s, cD_s, cA_s, cV_s, nI_add, cond_true, cond_false, if_true, if_false]
    by_cases c : 0 < g 6
    · by_cases e : g 1 = p
      · simp (disch := omega) only [iLE_f c, iEQ_t e, QX2_canSteal_33, xret5_1, decide_eq_true c, decide_eq_true e, cI_s, cL_s, cF_s, cD_s, cA_s, cV_s, nI_add, cond_true, cond_false, if_true, if_false]
        rfl
      · simp (disch := omega) only [iLE_f c, iEQ_f e, QX2_canSteal_32, QX2_canSteal_33, xret5_0, decide_eq_true c, decide_eq_false e, cI_s, cL_s, cF_s, cD_s, cA_s, cV_s, nI_add, cond_true, cond_false, if_true, if_false]
        rfl
    · simp (disch := omega) only [iLE_t, QX2_canSteal_32, QX2_canSteal_33, xret5_0, decide_eq_false c, cI_s, cL_s, cF_s, cD_s, cA_s, cV_s, nI_add, cond_true, cond_false, if_true, if_false]
      rfl
theorem s2_canPlant (h : hG sh q) (H : pG S q g) (I : iG g) (d : Nat) :
    xsem xT E (d + 3) kX2_canPlant [.ref (x + q)] (wW E z x sh S, n) = some (.inl (some (.int (nI (gCanS (g 0) g).toNat))), (wW E z x sh S, n)) := by
  have hbn := s2_isBlinkNext (E := E) (z := z) (x := x) (n := n) h H I.1.2.2.2.2.2.2.2.2.2 d
  obtain ⟨a0, a1, a2, a3, a4, a5, a6, a7, a8, a9, a10, a11⟩ := h
  obtain ⟨⟨r0, r1, _⟩, ⟨_, _, _, m4, _⟩, _⟩ := H
  obtain ⟨⟨_, h8, h1, _, _, _, _, h6, _, _⟩, _⟩ := I
  rw [eX2_canPlant, QX2_canPlant_0]
  simp (disch := omega) only [gO_2 a0, gR_2_0 a0, gR_2_1 a0, gR_2_2 a0, gR_2_3 a0, gI_2_4 a0, gP_2_4 a0, gI_2_5 a0, gP_2_5 a0, gI_2_6 a0, gP_2_6 a0, gI_2_7 a0, gP_2_7 a0, gI_2_8 a0, gP_2_8 a0, hbn, cI_s, cL_s, cF_s, cD_s, cA_s, cV_s, nI_add, cond_true, cond_false, if_true, if_false]
  unfold gCanS
  rw [blt_iff', beq_iff']
  cases hb : gBl g
  · simp (disch := omega) only [Bool.toNat_false, iEQ_t, QX2_canPlant_38, QX2_canPlant_39, xret5_0, cI_s, cL_s, cF_s, cD_s, cA_s, cV_s, nI_add, cond_true, cond_false, if_true, if_false]
    rfl
  · simp (disch := omega) only [Bool.toNat_true, iEQ_f, gO_2 a0, gR_2_0 a0, gR_2_1 a0, gR_2_2 a0, gR_2_3 a0, gI_2_4 a0, gP_2_4 a0, gI_2_5 a0, gP_2_5 a0, gI_2_6 a0, gP_2_6 a0, gI_2_7 a0, gP_2_7 a0, gI_2_8 a0, gP_2_8 a0, gO_4 a4, gR_4_0 a4, gI_4_1 a4, gP_4_1 a4, gI_4_2 a4, gP_4_2 a4, gI_4_3 a4, gP_4_3 a4, gI_4_4 a4, gP_4_4 a4, gO_5 a1, gI_5_0 a1, gP_5_0 a1, gI_5_1 a1, gP_5_1 a1, gI_5_2 a1, gP_5_2 a1, gR_5_3 a1, gR_5_4 a1, m4, r1, r0, cI_s, cL_s, cF_s, cD_s, cA_s, cV_s, nI_add, cond_true, cond_false, if_true, if_false]
    by_cases c : 0 < g 6
    · by_cases e : g 1 = g 0
      · simp (disch := omega) only [iLE_f c, iEQ_t e, QX2_canPlant_39, xret5_1, decide_eq_true c, decide_eq_true e, cI_s, cL_s, cF_s, cD_s, cA_s, cV_s, nI_add, cond_true, cond_false, if_true, if_false]
        rfl
      · simp (disch := omega) only [iLE_f c, iEQ_f e, QX2_canPlant_38, QX2_canPlant_39, xret5_0, decide_eq_true c, decide_eq_false e, cI_s, cL_s, cF_s, cD_s, cA_s, cV_s, nI_add, cond_true, cond_false, if_true, if_false]
        rfl
    · simp (disch := omega) only [iLE_t, QX2_canPlant_38, QX2_canPlant_39, xret5_0, decide_eq_false c, cI_s, cL_s, cF_s, cD_s, cA_s, cV_s, nI_add, cond_true, cond_false, if_true, if_false]
      rfl
theorem s2_countStep (a0 : sh q = some (sh2 q)) {s k : Nat} (h4 : S.1 q 4 = nI s) (h5 : S.1 q 5 = nI k) (bl : Bool) (d : Nat) :
    ∃ S', xsem xT E (d + 1) kX2_countStep [.ref (x + q), .int (nI bl.toNat)] (wW E z x sh S, n) = some (.inl none, (wW E z x sh S', n)) ∧ frm q (q + 1) S S' ∧ S'.1 q 4 = nI (s + 1) ∧ S'.1 q 5 = nI (k + bl.toNat) ∧ ∀ j, j ≠ 4 → j ≠ 5 → S'.1 q j = S.1 q j := by
  cases bl with
  | true =>
    refine ⟨sS (sS S q 4 (nI (s + 1))) q 5 (nI (k + 1)), ?_, frm_tr (frm_sS (by omega) (by omega)) (frm_sS (by omega) (by omega)), by rw [sS_n (by omega), sS_s], by rw [sS_s]; rfl, fun j j1 j2 => by rw [sS_n j2, sS_n j1]⟩
    rw [eX2_countStep, QX2_countStep_0]
    simp (disch := omega) only [gO_2 a0, gR_2_0 a0, gR_2_1 a0, gR_2_2 a0, gR_2_3 a0, gI_2_4 a0, gP_2_4 a0, gI_2_5 a0, gP_2_5 a0, gI_2_6 a0, gP_2_6 a0, gI_2_7 a0, gP_2_7 a0, gI_2_8 a0, gP_2_8 a0, h4, Bool.toNat_true, iEQ_f, cI_s, cL_s, cF_s, cD_s, cA_s, cV_s, nI_add, cond_true, cond_false, if_true, if_false]
    rw [sS_n (by omega), h5, QX2_countStep_24]
    simp (disch := omega) only [cI_s, cL_s, cF_s, cD_s, cA_s, cV_s, nI_add, cond_true, cond_false, if_true, if_false]
  | false =>
    refine ⟨sS S q 4 (nI (s + 1)), ?_, frm_sS (by omega) (by omega), sS_s, by rw [sS_n (by omega)]; exact h5, fun j j1 j2 => by rw [sS_n j1]⟩
    rw [eX2_countStep, QX2_countStep_0]
    simp (disch := omega) only [gO_2 a0, gR_2_0 a0, gR_2_1 a0, gR_2_2 a0, gR_2_3 a0, gI_2_4 a0, gP_2_4 a0, gI_2_5 a0, gP_2_5 a0, gI_2_6 a0, gP_2_6 a0, gI_2_7 a0, gP_2_7 a0, gI_2_8 a0, gP_2_8 a0, h4, Bool.toNat_false, iEQ_t, QX2_countStep_24, cI_s, cL_s, cF_s, cD_s, cA_s, cV_s, nI_add, cond_true, cond_false, if_true, if_false]
theorem pMd_step {bl : Bool} {k a b : Nat} {R : Nat → Int32} (I : iG g) (hab : k = 0 → a < 8 ∧ b < 8) (P : pMd S o g) : pMd (sA S (o + 1) (vw (g 0 + 1) (gThk bl k a b g) R)) o (gStep bl k a b g) := by
  have hs := I.2.1
  have e0 : gStep bl k a b g 0 = g 0 := gStep_o hs hab (by omega) (by omega) (by omega) (by omega)
  obtain ⟨h1, h2, h3, h4, h5⟩ := P
  refine ⟨?_, ?_, ?_, ?_, fun p hp => ?_⟩
  · rw [sA_1, e0]; exact h1
  · rw [sA_1, gStep_o hs hab (by omega) (by omega) (by omega) (by omega)]; exact h2
  · rw [sA_1, gStep_o hs hab (by omega) (by omega) (by omega) (by omega)]; exact h3
  · rw [sA_1, gStep_o hs hab (by omega) (by omega) (by omega) (by omega)]; exact h4
  · rw [e0] at hp
    rw [sA_s, vw_in (by omega), gStep_b hp]
theorem pG_step {bl : Bool} {k a b : Nat} {S3 : xSt} (I : iG g) (hab : k = 0 → a < 8 ∧ b < 8) (P1 : pRw S3 (q + 1) (gSt1 k a b g)) (P2 : pMd S3 (q + 4) (gStep bl k a b g)) (P3 : pBk S3 (q + 6) g) (P4 : pFo S3 (q + 9) g) (h4 : S3.1 q 4 = nI (g 2 + 1)) (h5 : S3.1 q 5 = nI (g 3 + bl.toNat)) (h6 : S3.1 q 6 = nI (g 7)) (h7 : S3.1 q 7 = nI (g 8)) (h8 : S3.1 q 8 = nI (g 9)) : pG S3 q (gStep bl k a b g) := by
  have hs := I.2.1
  have g8 := I.1.2.1
  refine ⟨pRw_cg ?_ ?_ (fun i h1 h2 => ?_) (fun p hp => ?_) ?_ P1, P2, pBk_cg ?_ I.1.2.2.2.2.2.2.2.2.2 (fun i h1 h2 => ?_) P3, pFo_cg ?_ (fun i h1 => ?_) P4, ?_, ?_, ?_, ?_, ?_⟩
  · rw [gStep_o hs hab (by omega) (by omega) (by omega) (by omega), gSt1_0]
  · rw [gStep_1 hs hab, gSt1_o hs hab (by omega), if_pos rfl]
  · rw [gStep_n (by omega) (by omega) (by omega)]
  · rw [gSt1_12 hp]
    split
    · next z => exact hs a (hab z.1).1
    · split
      · next z => exact hs b (hab z.1).2
      · exact hs p hp
  · rw [gSt1_0]; exact g8
  · rw [gStep_o hs hab (by omega) (by omega) (by omega) (by omega)]
  · rw [gStep_o hs hab (by omega) (by omega) (by omega) (by omega)]
  · rw [gStep_o hs hab (by omega) (by omega) (by omega) (by omega)]
  · rw [gStep_o hs hab (by omega) (by omega) (by omega) (by omega)]
  · rw [gStep_2 hs hab]; exact h4
  · rw [gStep_3 hs hab]; exact h5
  · rw [gStep_o hs hab (by omega) (by omega) (by omega) (by omega)]; exact h6
  · rw [gStep_o hs hab (by omega) (by omega) (by omega) (by omega)]; exact h7
  · rw [gStep_o hs hab (by omega) (by omega) (by omega) (by omega)]; exact h8
theorem s2_makeMove (h : hG sh q) (H : pG S q g) (I : iG g) (sw : Bool) {a b : Nat} (ha : a < g 0) (hb : b < g 0) (hne : a ≠ b) (d : Nat) :
    ∃ S', xsem xT E (d + 5) kX2_makeMove [.ref (x + q), .int (nI sw.toNat), .int (nI a), .int (nI b)] (wW E z x sh S, n) = some (.inl (some (.int (nI (gBl g).toNat))), (wW E z x sh S', n)) ∧ frm q (q + 12) S S' ∧ pG S' q (gStep (gBl g) (if sw then 0 else 1) a b g) := by
  have hbn := s2_isBlinkNext (E := E) (z := z) (x := x) (n := n) h H I.1.2.2.2.2.2.2.2.2.2 (d + 2)
  have h8 := I.1.2.1
  have hab : (if sw = true then 0 else 1) = 0 → a < 8 ∧ b < 8 := fun _ => by omega
  obtain ⟨a0, a1, a2, a3, a4, a5, a6, a7, a8, a9, a10, a11⟩ := h
  have H' := H
  obtain ⟨⟨r0, r1, r2, r3, r4⟩, P2, P3, P4, _⟩ := H'
  have e1 := s4_followMove (E := E) (z := z) (x := x) (n := n) a4 a5 a1 r0 r2 I P2 sw (gBl g) ha hb d
  have P2' := pMd_step (bl := gBl g) (R := S.2.1 (q + 4 + 1)) I hab P2
  have f1 : frm (q + 4) (q + 6) S (sA S (q + 4 + 1) (vw (g 0 + 1) (gThk (gBl g) (if sw then 0 else 1) a b g) (S.2.1 (q + 4 + 1)))) := frm_sA (by omega) (by omega)
  have H1 := pRw_fr f1 (by omega) H.1
  have P3 := pBk_fr f1 (by omega) P3
  have P4 := pFo_fr f1 (by omega) P4
  obtain ⟨_, _, _, _, g4, g5, g6, g7, g8⟩ := H
  generalize hS1 : sA S (q + 4 + 1) (vw (g 0 + 1) (gThk (gBl g) (if sw then 0 else 1) a b g) (S.2.1 (q + 4 + 1))) = S1 at e1 P2' f1 H1 P3 P4
  have hx : ∃ S2, qX2_makeMove_0 E (d + 4) (x + q) (nI sw.toNat) (nI a) (nI b) (wW E z x sh S, n) = qX2_makeMove_35 E (d + 4) (x + q) (nI (gBl g).toNat) (wW E z x sh S2, n) ∧ frm (q + 1) (q + 4) S1 S2 ∧ pRw S2 (q + 1) (gSt1 (if sw then 0 else 1) a b g) := by
    cases sw with
    | true =>
      refine ⟨rwX S1 (q + 1) a b (gSet g (g 0)) (g 1), ?_, frm_rx, pRw_sw I H1 ha hb hne⟩
      obtain ⟨r0, r1, r2, r3, r4⟩ := H1
      rw [QX2_makeMove_0]
      simp (disch := omega) only [gO_2 a0, gR_2_0 a0, gR_2_1 a0, gR_2_2 a0, gR_2_3 a0, gI_2_4 a0, gP_2_4 a0, gI_2_5 a0, gP_2_5 a0, gI_2_6 a0, gP_2_6 a0, gI_2_7 a0, gP_2_7 a0, gI_2_8 a0, gP_2_8 a0, hbn, gO_4 a4, gR_4_0 a4, gI_4_1 a4, gP_4_1 a4, gI_4_2 a4, gP_4_2 a4, gI_4_3 a4, gP_4_3 a4, gI_4_4 a4, gP_4_4 a4, cI_s, cL_s, cF_s, cD_s, cA_s, cV_s, nI_add, cond_true, cond_false, if_true, if_false]
      rw [e1]
      simp (disch := omega) only [Bool.toNat_true, iEQ_f, gO_2 a0, gR_2_0 a0, gR_2_1 a0, gR_2_2 a0, gR_2_3 a0, gI_2_4 a0, gP_2_4 a0, gI_2_5 a0, gP_2_5 a0, gI_2_6 a0, gP_2_6 a0, gI_2_7 a0, gP_2_7 a0, gI_2_8 a0, gP_2_8 a0, gO_5 a1, gI_5_0 a1, gP_5_0 a1, gI_5_1 a1, gP_5_1 a1, gI_5_2 a1, gP_5_2 a1, gR_5_3 a1, gR_5_4 a1, cI_s, cL_s, cF_s, cD_s, cA_s, cV_s, nI_add, cond_true, cond_false, if_true, if_false]
      rw [s5_exchange a1 a2 a3 r0 h8 r2 (gSet_lt g _ h8) r1 (by have := I.1.2.2.1; omega) ha hb hne]
      simp (disch := omega) only [cI_s, cL_s, cF_s, cD_s, cA_s, cV_s, nI_add, cond_true, cond_false, if_true, if_false]
    | false =>
      refine ⟨S1, ?_, frm_rf, ?_⟩
      · rw [QX2_makeMove_0]
        simp (disch := omega) only [gO_2 a0, gR_2_0 a0, gR_2_1 a0, gR_2_2 a0, gR_2_3 a0, gI_2_4 a0, gP_2_4 a0, gI_2_5 a0, gP_2_5 a0, gI_2_6 a0, gP_2_6 a0, gI_2_7 a0, gP_2_7 a0, gI_2_8 a0, gP_2_8 a0, hbn, gO_4 a4, gR_4_0 a4, gI_4_1 a4, gP_4_1 a4, gI_4_2 a4, gP_4_2 a4, gI_4_3 a4, gP_4_3 a4, gI_4_4 a4, gP_4_4 a4, cI_s, cL_s, cF_s, cD_s, cA_s, cV_s, nI_add, cond_true, cond_false, if_true, if_false]
        rw [e1]
        simp (disch := omega) only [Bool.toNat_false, iEQ_t, cI_s, cL_s, cF_s, cD_s, cA_s, cV_s, nI_add, cond_true, cond_false, if_true, if_false]
      · refine pRw_cg ?_ ?_ (fun i h1 h2 => ?_) I.2.1 h8 H1
        · rfl
        · rfl
        · show updN g 1 _ i = g i
          exact updN_n (by omega)
  obtain ⟨S2, e2, f2, P1⟩ := hx
  have P2' := pMd_fr f2 (by omega) P2'
  have P3 := pBk_fr f2 (by omega) P3
  have P4 := pFo_fr f2 (by omega) P4
  have k : ∀ j, S2.1 q j = S.1 q j := fun j => by rw [frm_1 f2 (by omega), frm_1 f1 (by omega)]
  obtain ⟨S3, e3, f3, c4, c5, c⟩ := s2_countStep (E := E) (z := z) (x := x) (n := n) (S := S2) a0 (s := g 2) (k := g 3) (by rw [k]; exact g4) (by rw [k]; exact g5) (gBl g) (d + 3)
  refine ⟨S3, ?_, frm_tr (frm_tr (frm_mo f1 (by omega) (by omega)) (frm_mo f2 (by omega) (by omega))) (frm_mo f3 (by omega) (by omega)), pG_step I hab (pRw_fr f3 (by omega) P1) (pMd_fr f3 (by omega) P2') (pBk_fr f3 (by omega) P3) (pFo_fr f3 (by omega) P4) c4 c5 ?_ ?_ ?_⟩
  · rw [eX2_makeMove, e2, QX2_makeMove_35]
    simp (disch := omega) only [gO_2 a0, gR_2_0 a0, gR_2_1 a0, gR_2_2 a0, gR_2_3 a0, gI_2_4 a0, gP_2_4 a0, gI_2_5 a0, gP_2_5 a0, gI_2_6 a0, gP_2_6 a0, gI_2_7 a0, gP_2_7 a0, gI_2_8 a0, gP_2_8 a0, cI_s, cL_s, cF_s, cD_s, cA_s, cV_s, nI_add, cond_true, cond_false, if_true, if_false]
    rw [e3]
    simp (disch := omega) only [xret5_b, cI_s, cL_s, cF_s, cD_s, cA_s, cV_s, nI_add, cond_true, cond_false, if_true, if_false]
  · rw [c 6 (by omega) (by omega), k]; exact g6
  · rw [c 7 (by omega) (by omega), k]; exact g7
  · rw [c 8 (by omega) (by omega), k]; exact g8
theorem s2_makeStill (h : hG sh q) (H : pG S q g) (I : iG g) {k a b : Nat} (hk : 2 ≤ k) {to : Nat} (hto : to = gBall k a b g) (d : Nat) :
    ∃ S', xsem xT E (d + 5) kX2_makeStill [.ref (x + q), .int (nI to)] (wW E z x sh S, n) = some (.inl (some (.int (nI (gBl g).toNat))), (wW E z x sh S', n)) ∧ frm q (q + 12) S S' ∧ pG S' q (gStep (gBl g) k a b g) := by
  have hbn := s2_isBlinkNext (E := E) (z := z) (x := x) (n := n) h H I.1.2.2.2.2.2.2.2.2.2 (d + 2)
  have h8 := I.1.2.1
  have hab : k = 0 → a < 8 ∧ b < 8 := fun _ => by omega
  obtain ⟨a0, a1, a2, a3, a4, a5, a6, a7, a8, a9, a10, a11⟩ := h
  have H' := H
  obtain ⟨⟨r0, r1, r2, r3, r4⟩, P2, P3, P4, _⟩ := H'
  have e1 := s4_followStill (E := E) (z := z) (x := x) (n := n) (a := a) (b := b) a4 a5 a1 r0 r2 I P2 (gBl g) hk d
  have P2' := pMd_step (bl := gBl g) (k := k) (a := a) (b := b) (R := S.2.1 (q + 4 + 1)) I hab P2
  have f1 : frm (q + 4) (q + 6) S (sA S (q + 4 + 1) (vw (g 0 + 1) (gThk (gBl g) k a b g) (S.2.1 (q + 4 + 1)))) := frm_sA (by omega) (by omega)
  have H1 := pRw_fr f1 (by omega) H.1
  have P3 := pBk_fr f1 (by omega) P3
  have P4 := pFo_fr f1 (by omega) P4
  obtain ⟨_, _, _, _, g4, g5, g6, g7, g8⟩ := H
  generalize hS1 : sA S (q + 4 + 1) (vw (g 0 + 1) (gThk (gBl g) k a b g) (S.2.1 (q + 4 + 1))) = S1 at e1 P2' f1 H1 P3 P4
  have f2 : frm (q + 1) (q + 4) S1 (sS S1 (q + 1) 1 (nI to)) := frm_sS (by omega) (by omega)
  have P1 : pRw (sS S1 (q + 1) 1 (nI to)) (q + 1) (gSt1 k a b g) := by
    obtain ⟨t0, t1, t2, t3, t4⟩ := H1
    have hb : pRw (sS S1 (q + 1) 1 (nI to)) (q + 1) (updN g 1 to) := by
      have hz : ∀ i, gSet (updN g 1 to) i = gSet g i := by
        intro i
        induction i with
        | zero => rfl
        | succ i ih =>
          rw [show gSet (updN g 1 to) (i + 1) = if rg (updN g 1 to) i = 1 then gSet (updN g 1 to) i ||| 2 ^ i else gSet (updN g 1 to) i from rfl, show rg (updN g 1 to) i = rg g i by unfold rg; rw [updN_12, updN_n (by omega)], ih]
          rfl
      refine ⟨?_, ?_, ?_, fun p hp => ?_, fun p hp => ?_⟩
      · rw [sS_n (by omega), updN_n (by omega)]; exact t0
      · rw [sS_s, updN_s]
      · rw [sS_n (by omega), updN_n (by omega), hz]; exact t2
      · rw [sS_a, updN_12]; exact t3 p hp
      · rw [updN_n (by omega)] at hp
        rw [sS_a, updN_12, updN_n (by omega)]; exact t4 p hp
    have : gSt1 k a b g = updN g 1 to := by
      unfold gSt1
      rw [if_neg (by omega), hto]
    rw [this]
    exact hb
  have P2' := pMd_fr f2 (by omega) P2'
  have P3 := pBk_fr f2 (by omega) P3
  have P4 := pFo_fr f2 (by omega) P4
  generalize hS2 : sS S1 (q + 1) 1 (nI to) = S2 at f2 P1 P2' P3 P4
  have kk : ∀ j, S2.1 q j = S.1 q j := fun j => by rw [frm_1 f2 (by omega), frm_1 f1 (by omega)]
  obtain ⟨S3, e3, f3, c4, c5, c⟩ := s2_countStep (E := E) (z := z) (x := x) (n := n) (S := S2) a0 (s := g 2) (k := g 3) (by rw [kk]; exact g4) (by rw [kk]; exact g5) (gBl g) (d + 3)
  refine ⟨S3, ?_, frm_tr (frm_tr (frm_mo f1 (by omega) (by omega)) (frm_mo f2 (by omega) (by omega))) (frm_mo f3 (by omega) (by omega)), pG_step I hab (pRw_fr f3 (by omega) P1) (pMd_fr f3 (by omega) P2') (pBk_fr f3 (by omega) P3) (pFo_fr f3 (by omega) P4) c4 c5 ?_ ?_ ?_⟩
  · rw [eX2_makeStill, QX2_makeStill_0]
    simp (disch := omega) only [gO_2 a0, gR_2_0 a0, gR_2_1 a0, gR_2_2 a0, gR_2_3 a0, gI_2_4 a0, gP_2_4 a0, gI_2_5 a0, gP_2_5 a0, gI_2_6 a0, gP_2_6 a0, gI_2_7 a0, gP_2_7 a0, gI_2_8 a0, gP_2_8 a0, hbn, gO_4 a4, gR_4_0 a4, gI_4_1 a4, gP_4_1 a4, gI_4_2 a4, gP_4_2 a4, gI_4_3 a4, gP_4_3 a4, gI_4_4 a4, gP_4_4 a4, cI_s, cL_s, cF_s, cD_s, cA_s, cV_s, nI_add, cond_true, cond_false, if_true, if_false]
    rw [e1]
    simp (disch := omega) only [gO_2 a0, gR_2_0 a0, gR_2_1 a0, gR_2_2 a0, gR_2_3 a0, gI_2_4 a0, gP_2_4 a0, gI_2_5 a0, gP_2_5 a0, gI_2_6 a0, gP_2_6 a0, gI_2_7 a0, gP_2_7 a0, gI_2_8 a0, gP_2_8 a0, gO_5 a1, gI_5_0 a1, gP_5_0 a1, gI_5_1 a1, gP_5_1 a1, gI_5_2 a1, gP_5_2 a1, gR_5_3 a1, gR_5_4 a1, hS2, cI_s, cL_s, cF_s, cD_s, cA_s, cV_s, nI_add, cond_true, cond_false, if_true, if_false]
    rw [e3]
    simp (disch := omega) only [xret5_b, cI_s, cL_s, cF_s, cD_s, cA_s, cV_s, nI_add, cond_true, cond_false, if_true, if_false]
  · rw [c 6 (by omega) (by omega), kk]; exact g6
  · rw [c 7 (by omega) (by omega), kk]; exact g7
  · rw [c 8 (by omega) (by omega), kk]; exact g8
theorem mDiv_one {p pl : Nat} (hp : p < pl) : mDiv pl (mOne p) = mOne p := by
  have h1 : mGcd (mOne p) pl = 1 := by
    have h2 := mGcd_dvd (f := mOne p) hp
    rw [show mOne p p = 1 from updN_s] at h2
    exact Nat.dvd_one.1 h2
  funext q
  unfold mDiv
  rw [h1, Nat.div_one]
theorem s2_lookUnder (h : hG sh q) (H : pG S q g) (I : iG g) {p : Nat} (hp : p < g 0) (d : Nat) :
    ∃ S', xsem xT E (d + 4) kX2_lookUnder [.ref (x + q), .int (nI p)] (wW E z x sh S, n) = some (.inl (some (.int (nI (if g 1 = p then 1 else 0)))), (wW E z x sh S', n)) ∧ frm (q + 4) (q + 6) S S' ∧ pG S' q (gLook p g) := by
  obtain ⟨a0, a1, a2, a3, a4, a5, a6, a7, a8, a9, a10, a11⟩ := h
  have H' := H
  obtain ⟨⟨r0, r1, _⟩, ⟨m1, m2, m3, m4, mf⟩, _⟩ := H'
  have I' := I
  obtain ⟨⟨_, h8, h1, _⟩, _, _, _, _, hB, _⟩ := I'
  have hx : ∃ R : Nat → Int32, xsem xT E (d + 4) kX2_lookUnder [.ref (x + q), .int (nI p)] (wW E z x sh S, n) = some (.inl (some (.int (nI (if g 1 = p then 1 else 0)))), (wW E z x sh (sA S (q + 4 + 1) R), n)) ∧ ∀ r, r ≤ g 0 → R r = nI (gLk p g r) := by
    rw [eX2_lookUnder, QX2_lookUnder_0]
    by_cases e : g 1 = p
    · refine ⟨vw 9 (mOne p) (S.2.1 (q + 4 + 1)), ?_, fun r hr => ?_⟩
      · simp (disch := omega) only [gO_2 a0, gR_2_0 a0, gR_2_1 a0, gR_2_2 a0, gR_2_3 a0, gI_2_4 a0, gP_2_4 a0, gI_2_5 a0, gP_2_5 a0, gI_2_6 a0, gP_2_6 a0, gI_2_7 a0, gP_2_7 a0, gI_2_8 a0, gP_2_8 a0, gO_5 a1, gI_5_0 a1, gP_5_0 a1, gI_5_1 a1, gP_5_1 a1, gI_5_2 a1, gP_5_2 a1, gR_5_3 a1, gR_5_4 a1, r1, cI_s, cL_s, cF_s, cD_s, cA_s, cV_s, nI_add, cond_true, cond_false, if_true, if_false]
        simp (disch := omega) only [iEQ_t e, QX2_lookUnder_16, iEQ_f, gO_2 a0, gR_2_0 a0, gR_2_1 a0, gR_2_2 a0, gR_2_3 a0, gI_2_4 a0, gP_2_4 a0, gI_2_5 a0, gP_2_5 a0, gI_2_6 a0, gP_2_6 a0, gI_2_7 a0, gP_2_7 a0, gI_2_8 a0, gP_2_8 a0, gO_4 a4, gR_4_0 a4, gI_4_1 a4, gP_4_1 a4, gI_4_2 a4, gP_4_2 a4, gI_4_3 a4, gP_4_3 a4, gI_4_4 a4, gP_4_4 a4, cI_s, cL_s, cF_s, cD_s, cA_s, cV_s, nI_add, cond_true, cond_false, if_true, if_false]
        rw [s4_know a4 a5 (by omega), if_pos e]
        simp (disch := omega) only [QX2_lookUnder_40, xret5_1, cI_s, cL_s, cF_s, cD_s, cA_s, cV_s, nI_add, cond_true, cond_false, if_true, if_false]
      · rw [vw_in (by omega)]
        unfold gLk
        rw [if_pos e, mDiv_one (by omega)]
    · refine ⟨vw (g 0 + 1) (mDiv (g 0 + 1) (updN (gF g) p 0)) (S.2.1 (q + 4 + 1)), ?_, fun r hr => ?_⟩
      · simp (disch := omega) only [gO_2 a0, gR_2_0 a0, gR_2_1 a0, gR_2_2 a0, gR_2_3 a0, gI_2_4 a0, gP_2_4 a0, gI_2_5 a0, gP_2_5 a0, gI_2_6 a0, gP_2_6 a0, gI_2_7 a0, gP_2_7 a0, gI_2_8 a0, gP_2_8 a0, gO_5 a1, gI_5_0 a1, gP_5_0 a1, gI_5_1 a1, gP_5_1 a1, gI_5_2 a1, gP_5_2 a1, gR_5_3 a1, gR_5_4 a1, r1, cI_s, cL_s, cF_s, cD_s, cA_s, cV_s, nI_add, cond_true, cond_false, if_true, if_false]
        simp (disch := omega) only [iEQ_f e, iEQ_t, QX2_lookUnder_15, QX2_lookUnder_16, QX2_lookUnder_32, gO_2 a0, gR_2_0 a0, gR_2_1 a0, gR_2_2 a0, gR_2_3 a0, gI_2_4 a0, gP_2_4 a0, gI_2_5 a0, gP_2_5 a0, gI_2_6 a0, gP_2_6 a0, gI_2_7 a0, gP_2_7 a0, gI_2_8 a0, gP_2_8 a0, gO_4 a4, gR_4_0 a4, gI_4_1 a4, gP_4_1 a4, gI_4_2 a4, gP_4_2 a4, gI_4_3 a4, gP_4_3 a4, gI_4_4 a4, gP_4_4 a4, cI_s, cL_s, cF_s, cD_s, cA_s, cV_s, nI_add, cond_true, cond_false, if_true, if_false]
        rw [s4_ruleOut a4 a5 m1 (by omega) (f := gF g) (fun p hp => mf p (by omega)) (fun p hp => by have := hB p (by omega); show g (36 + p) < _; omega) (by omega), if_neg e]
        simp (disch := omega) only [QX2_lookUnder_40, xret5_0, cI_s, cL_s, cF_s, cD_s, cA_s, cV_s, nI_add, cond_true, cond_false, if_true, if_false]
      · rw [vw_in (by omega)]
        unfold gLk
        rw [if_neg e]
  obtain ⟨R, e1, hR⟩ := hx
  have f1 : frm (q + 4) (q + 6) S (sA S (q + 4 + 1) R) := frm_sA (by omega) (by omega)
  refine ⟨_, e1, f1, ?_⟩
  obtain ⟨P1, P2, P3, P4, g4, g5, g6, g7, g8⟩ := H
  refine ⟨pRw_cg ?_ ?_ (fun i _ _ => ?_) I.2.1 h8 (pRw_fr f1 (by omega) P1), ⟨?_, ?_, ?_, ?_, fun r hr => ?_⟩, pBk_cg ?_ I.1.2.2.2.2.2.2.2.2.2 (fun i _ _ => ?_) (pBk_fr f1 (by omega) P3), pFo_cg ?_ (fun i _ => ?_) (pFo_fr f1 (by omega) P4), ?_, ?_, ?_, ?_, ?_⟩
  · exact gLook_n (by omega)
  · exact gLook_n (by omega)
  · exact gLook_n (by omega)
  · rw [sA_1, gLook_n (by omega)]; exact m1
  · rw [sA_1, gLook_n (by omega)]; exact m2
  · rw [sA_1, gLook_n (by omega)]; exact m3
  · rw [sA_1, gLook_n (by omega)]; exact m4
  · rw [gLook_n (by omega)] at hr
    rw [sA_s, gLook_b hr]; exact hR r hr
  · exact gLook_n (by omega)
  · exact gLook_n (by omega)
  · exact gLook_n (by omega)
  · exact gLook_n (by omega)
  · rw [sA_1, gLook_n (by omega)]; exact g4
  · rw [sA_1, gLook_n (by omega)]; exact g5
  · rw [sA_1, gLook_n (by omega)]; exact g6
  · rw [sA_1, gLook_n (by omega)]; exact g7
  · rw [sA_1, gLook_n (by omega)]; exact g8
theorem s2_number (h : hG sh q) (H : pG S q g) (I : iG g) {k : Nat} (hk : k ≤ 12) (d : Nat) :
    xsem xT E (d + 2) kX2_number [.ref (x + q), .int (nI k)] (wW E z x sh S, n) = some (.inl (some (.int (nI (gTold g k)))), (wW E z x sh S, n)) := by
  obtain ⟨a0, a1, a2, a3, a4, a5, a6, a7, a8, a9, a10, a11⟩ := h
  obtain ⟨⟨r0, r1, _⟩, ⟨m1, m2, m3, m4, mf⟩, P3, _, g4, g5, g6, g7, g8⟩ := H
  obtain ⟨⟨_, h8, h1, _⟩, _, _, _, _, hB, _⟩ := I
  have hf : ∀ p, p < g 0 + 1 → S.2.1 (q + 4 + 1) p = nI (gF g p) := fun p hp => mf p (by omega)
  have hB2 : ∀ p, p < g 0 + 1 → gF g p < 2 ^ 31 := fun p hp => by have := hB p (by omega); show g (36 + p) < _; omega
  rw [eX2_number, QX2_number_0]
  have hc : k = 0 ∨ k = 1 ∨ k = 2 ∨ k = 3 ∨ k = 4 ∨ k = 5 ∨ k = 6 ∨ k = 7 ∨ k = 8 ∨ k = 9 ∨ k = 10 ∨ k = 11 ∨ k = 12 := by omega
  rcases hc with h | h | h | h | h | h | h | h | h | h | h | h | h <;> subst h
  · rw [iEQ_t rfl, QX2_number_64]
    simp (disch := omega) only [gO_2 a0, gR_2_0 a0, gR_2_1 a0, gR_2_2 a0, gR_2_3 a0, gI_2_4 a0, gP_2_4 a0, gI_2_5 a0, gP_2_5 a0, gI_2_6 a0, gP_2_6 a0, gI_2_7 a0, gP_2_7 a0, gI_2_8 a0, gP_2_8 a0, gO_5 a1, gI_5_0 a1, gP_5_0 a1, gI_5_1 a1, gP_5_1 a1, gI_5_2 a1, gP_5_2 a1, gR_5_3 a1, gR_5_4 a1, r0, cI_s, cL_s, cF_s, cD_s, cA_s, cV_s, nI_add, cond_true, cond_false, if_true, if_false]
    rfl
  · simp (disch := omega) only [iEQ_t, iEQ_f, QX2_number_72, gO_2 a0, gR_2_0 a0, gR_2_1 a0, gR_2_2 a0, gR_2_3 a0, gI_2_4 a0, gP_2_4 a0, gI_2_5 a0, gP_2_5 a0, gI_2_6 a0, gP_2_6 a0, gI_2_7 a0, gP_2_7 a0, gI_2_8 a0, gP_2_8 a0, g4, cI_s, cL_s, cF_s, cD_s, cA_s, cV_s, nI_add, cond_true, cond_false, if_true, if_false]; rfl
  · simp (disch := omega) only [iEQ_t, iEQ_f, QX2_number_77, gO_2 a0, gR_2_0 a0, gR_2_1 a0, gR_2_2 a0, gR_2_3 a0, gI_2_4 a0, gP_2_4 a0, gI_2_5 a0, gP_2_5 a0, gI_2_6 a0, gP_2_6 a0, gI_2_7 a0, gP_2_7 a0, gI_2_8 a0, gP_2_8 a0, gO_5 a1, gI_5_0 a1, gP_5_0 a1, gI_5_1 a1, gP_5_1 a1, gI_5_2 a1, gP_5_2 a1, gR_5_3 a1, gR_5_4 a1, r1, cI_s, cL_s, cF_s, cD_s, cA_s, cV_s, nI_add, cond_true, cond_false, if_true, if_false]; rfl
  · simp (disch := omega) only [iEQ_t, iEQ_f, QX2_number_85, gO_2 a0, gR_2_0 a0, gR_2_1 a0, gR_2_2 a0, gR_2_3 a0, gI_2_4 a0, gP_2_4 a0, gI_2_5 a0, gP_2_5 a0, gI_2_6 a0, gP_2_6 a0, gI_2_7 a0, gP_2_7 a0, gI_2_8 a0, gP_2_8 a0, g5, cI_s, cL_s, cF_s, cD_s, cA_s, cV_s, nI_add, cond_true, cond_false, if_true, if_false]; rfl
  · simp (disch := omega) only [iEQ_t, iEQ_f, QX2_number_90, gO_2 a0, gR_2_0 a0, gR_2_1 a0, gR_2_2 a0, gR_2_3 a0, gI_2_4 a0, gP_2_4 a0, gI_2_5 a0, gP_2_5 a0, gI_2_6 a0, gP_2_6 a0, gI_2_7 a0, gP_2_7 a0, gI_2_8 a0, gP_2_8 a0, gO_4 a4, gR_4_0 a4, gI_4_1 a4, gP_4_1 a4, gI_4_2 a4, gP_4_2 a4, gI_4_3 a4, gP_4_3 a4, gI_4_4 a4, gP_4_4 a4, m2, cI_s, cL_s, cF_s, cD_s, cA_s, cV_s, nI_add, cond_true, cond_false, if_true, if_false]; rfl
  · simp (disch := omega) only [iEQ_t, iEQ_f, QX2_number_98, gO_2 a0, gR_2_0 a0, gR_2_1 a0, gR_2_2 a0, gR_2_3 a0, gI_2_4 a0, gP_2_4 a0, gI_2_5 a0, gP_2_5 a0, gI_2_6 a0, gP_2_6 a0, gI_2_7 a0, gP_2_7 a0, gI_2_8 a0, gP_2_8 a0, gO_4 a4, gR_4_0 a4, gI_4_1 a4, gP_4_1 a4, gI_4_2 a4, gP_4_2 a4, gI_4_3 a4, gP_4_3 a4, gI_4_4 a4, gP_4_4 a4, m3, cI_s, cL_s, cF_s, cD_s, cA_s, cV_s, nI_add, cond_true, cond_false, if_true, if_false]; rfl
  · simp (disch := omega) only [iEQ_t, iEQ_f, QX2_number_106, gO_2 a0, gR_2_0 a0, gR_2_1 a0, gR_2_2 a0, gR_2_3 a0, gI_2_4 a0, gP_2_4 a0, gI_2_5 a0, gP_2_5 a0, gI_2_6 a0, gP_2_6 a0, gI_2_7 a0, gP_2_7 a0, gI_2_8 a0, gP_2_8 a0, gO_4 a4, gR_4_0 a4, gI_4_1 a4, gP_4_1 a4, gI_4_2 a4, gP_4_2 a4, gI_4_3 a4, gP_4_3 a4, gI_4_4 a4, gP_4_4 a4, m4, cI_s, cL_s, cF_s, cD_s, cA_s, cV_s, nI_add, cond_true, cond_false, if_true, if_false]; rfl
  · simp (disch := omega) only [iEQ_t, iEQ_f, QX2_number_114, gO_2 a0, gR_2_0 a0, gR_2_1 a0, gR_2_2 a0, gR_2_3 a0, gI_2_4 a0, gP_2_4 a0, gI_2_5 a0, gP_2_5 a0, gI_2_6 a0, gP_2_6 a0, gI_2_7 a0, gP_2_7 a0, gI_2_8 a0, gP_2_8 a0, g6, cI_s, cL_s, cF_s, cD_s, cA_s, cV_s, nI_add, cond_true, cond_false, if_true, if_false]; rfl
  · simp (disch := omega) only [iEQ_t, iEQ_f, QX2_number_119, gO_2 a0, gR_2_0 a0, gR_2_1 a0, gR_2_2 a0, gR_2_3 a0, gI_2_4 a0, gP_2_4 a0, gI_2_5 a0, gP_2_5 a0, gI_2_6 a0, gP_2_6 a0, gI_2_7 a0, gP_2_7 a0, gI_2_8 a0, gP_2_8 a0, g7, cI_s, cL_s, cF_s, cD_s, cA_s, cV_s, nI_add, cond_true, cond_false, if_true, if_false]; rfl
  · simp (disch := omega) only [iEQ_t, iEQ_f, QX2_number_124, gO_2 a0, gR_2_0 a0, gR_2_1 a0, gR_2_2 a0, gR_2_3 a0, gI_2_4 a0, gP_2_4 a0, gI_2_5 a0, gP_2_5 a0, gI_2_6 a0, gP_2_6 a0, gI_2_7 a0, gP_2_7 a0, gI_2_8 a0, gP_2_8 a0, g8, cI_s, cL_s, cF_s, cD_s, cA_s, cV_s, nI_add, cond_true, cond_false, if_true, if_false]; rfl
  · simp (disch := omega) only [iEQ_t, iEQ_f, QX2_number_129, gO_2 a0, gR_2_0 a0, gR_2_1 a0, gR_2_2 a0, gR_2_3 a0, gI_2_4 a0, gP_2_4 a0, gI_2_5 a0, gP_2_5 a0, gI_2_6 a0, gP_2_6 a0, gI_2_7 a0, gP_2_7 a0, gI_2_8 a0, gP_2_8 a0, gO_4 a4, gR_4_0 a4, gI_4_1 a4, gP_4_1 a4, gI_4_2 a4, gP_4_2 a4, gI_4_3 a4, gP_4_3 a4, gI_4_4 a4, gP_4_4 a4, cI_s, cL_s, cF_s, cD_s, cA_s, cV_s, nI_add, cond_true, cond_false, if_true, if_false]
    rw [s4_sum a4 a5 m1 (by omega) hf]
    simp (disch := omega) only [cI_s, cL_s, cF_s, cD_s, cA_s, cV_s, nI_add, cond_true, cond_false, if_true, if_false]
    rfl
  · simp (disch := omega) only [iEQ_t, iEQ_f, QX2_number_137, gO_2 a0, gR_2_0 a0, gR_2_1 a0, gR_2_2 a0, gR_2_3 a0, gI_2_4 a0, gP_2_4 a0, gI_2_5 a0, gP_2_5 a0, gI_2_6 a0, gP_2_6 a0, gI_2_7 a0, gP_2_7 a0, gI_2_8 a0, gP_2_8 a0, gO_4 a4, gR_4_0 a4, gI_4_1 a4, gP_4_1 a4, gI_4_2 a4, gP_4_2 a4, gI_4_3 a4, gP_4_3 a4, gI_4_4 a4, gP_4_4 a4, cI_s, cL_s, cF_s, cD_s, cA_s, cV_s, nI_add, cond_true, cond_false, if_true, if_false]
    rw [s4_count a4 a5 m1 (by omega) hf hB2]
    simp (disch := omega) only [cI_s, cL_s, cF_s, cD_s, cA_s, cV_s, nI_add, cond_true, cond_false, if_true, if_false]
    rfl
  · simp (disch := omega) only [iEQ_f, QX2_number_145, gO_2 a0, gR_2_0 a0, gR_2_1 a0, gR_2_2 a0, gR_2_3 a0, gI_2_4 a0, gP_2_4 a0, gI_2_5 a0, gP_2_5 a0, gI_2_6 a0, gP_2_6 a0, gI_2_7 a0, gP_2_7 a0, gI_2_8 a0, gP_2_8 a0, gO_0 a6, gR_0_0 a6, gR_0_1 a6, gI_0_2 a6, gP_0_2 a6, P3.1, cI_s, cL_s, cF_s, cD_s, cA_s, cV_s, nI_add, cond_true, cond_false, if_true, if_false]; rfl
theorem s2_reset (h : hG sh q) {s : Nat} (hs2 : 2 ≤ s) (hs8 : s ≤ 8) (d : Nat) :
    ∃ S', xsem xT E (d + 4) kX2_reset [.ref (x + q), .int (nI s)] (wW E z x sh S, n) = some (.inl none, (wW E z x sh S', n)) ∧ frm q (q + 12) S S' ∧ pG S' q (gNew s) := by
  obtain ⟨a0, a1, a2, a3, a4, a5, a6, a7, a8, a9, a10, a11⟩ := h
  have f1 : frm (q + 1) (q + 4) S (rwR S (q + 1) s) := frm_tr (frm_tr (frm_tr (frm_tr (frm_sS (by omega) (by omega)) (frm_sS (by omega) (by omega))) (frm_sS (by omega) (by omega))) (frm_sA (by omega) (by omega))) (frm_sA (by omega) (by omega))
  have P1 : pRw (rwR S (q + 1) s) (q + 1) (gNew s) := by
    unfold rwR
    refine ⟨?_, ?_, ?_, fun p hp => ?_, fun p hp => ?_⟩
    · rw [sA_1, sA_1, sS_n (by omega), sS_n (by omega), sS_s]; rfl
    · rw [sA_1, sA_1, sS_n (by omega), sS_s]; rfl
    · rw [sA_1, sA_1, sS_s, show gNew s 0 = s from rfl, gNew_set _ hs8]
    · rw [sA_n (by omega), sA_s, vw_in hp, gNew_12 hp]
    · have hp : p < s := hp
      rw [sA_s, vw_in (by omega), gNew_12 (by omega), gNew_z (by omega)]
  generalize hS1 : rwR S (q + 1) s = S1 at f1 P1
  have f2 : frm (q + 4) (q + 6) S1 (mdR S1 (q + 4) s) := frm_tr (frm_tr (frm_tr (frm_tr (frm_sS (by omega) (by omega)) (frm_sS (by omega) (by omega))) (frm_sS (by omega) (by omega))) (frm_sS (by omega) (by omega))) (frm_sA (by omega) (by omega))
  have P2 : pMd (mdR S1 (q + 4) s) (q + 4) (gNew s) := by
    unfold mdR
    refine ⟨?_, ?_, ?_, ?_, fun p hp => ?_⟩
    · rw [sA_1, sS_n (by omega), sS_n (by omega), sS_n (by omega), sS_s]; rfl
    · rw [sA_1, sS_n (by omega), sS_n (by omega), sS_s]; rfl
    · rw [sA_1, sS_n (by omega), sS_s]; rfl
    · rw [sA_1, sS_s]; rfl
    · have hp : p ≤ s := hp
      rw [sA_s, vw_in (by omega)]
      unfold mOne updN
      by_cases e : p = 0
      · subst e; rfl
      · rw [if_neg e, gNew_z (by omega)]
  have P1 := pRw_fr f2 (by omega) P1
  generalize hS2 : mdR S1 (q + 4) s = S2 at f2 P2 P1
  have f3 : frm (q + 6) (q + 9) S2 (sS S2 (q + 6) 2 (nI 0)) := frm_sS (by omega) (by omega)
  have P3 : pBk (sS S2 (q + 6) 2 (nI 0)) (q + 6) (gNew s) := ⟨sS_s, fun k hk => absurd hk (Nat.not_lt_zero k)⟩
  have P1 := pRw_fr f3 (by omega) P1
  have P2 := pMd_fr f3 (by omega) P2
  generalize hS3 : sS S2 (q + 6) 2 (nI 0) = S3 at f3 P3 P1 P2
  obtain ⟨S4, e4, f4, P4⟩ := s1_reset (E := E) (z := z) (x := x) (n := n) (S := S3) (g := gNew s) a9 a10 rfl (d + 1)
  have P1 := pRw_fr f4 (by omega) P1
  have P2 := pMd_fr f4 (by omega) P2
  have P3 := pBk_fr f4 (by omega) P3
  have F5 : frm q (q + 1) S4 (sS (sS (sS (sS (sS S4 q 4 (nI 0)) q 5 (nI 0)) q 6 (nI 100)) q 7 (nI 0)) q 8 (nI 0)) := frm_tr (frm_tr (frm_tr (frm_tr (frm_sS (by omega) (by omega)) (frm_sS (by omega) (by omega))) (frm_sS (by omega) (by omega))) (frm_sS (by omega) (by omega))) (frm_sS (by omega) (by omega))
  have F : frm q (q + 12) S S4 := frm_tr (frm_tr (frm_tr (frm_mo f1 (by omega) (by omega)) (frm_mo f2 (by omega) (by omega))) (frm_mo f3 (by omega) (by omega))) (frm_mo f4 (by omega) (by omega))
  refine ⟨_, ?_, frm_tr F (frm_mo F5 (by omega) (by omega)), pRw_fr F5 (by omega) P1, pMd_fr F5 (by omega) P2, pBk_fr F5 (by omega) P3, pFo_fr F5 (by omega) P4, ?_, ?_, ?_, ?_, ?_⟩
  · rw [eX2_reset, QX2_reset_0]
    simp (disch := omega) only [gO_2 a0, gR_2_0 a0, gR_2_1 a0, gR_2_2 a0, gR_2_3 a0, gI_2_4 a0, gP_2_4 a0, gI_2_5 a0, gP_2_5 a0, gI_2_6 a0, gP_2_6 a0, gI_2_7 a0, gP_2_7 a0, gI_2_8 a0, gP_2_8 a0, gO_5 a1, gI_5_0 a1, gP_5_0 a1, gI_5_1 a1, gP_5_1 a1, gI_5_2 a1, gP_5_2 a1, gR_5_3 a1, gR_5_4 a1, cI_s, cL_s, cF_s, cD_s, cA_s, cV_s, nI_add, cond_true, cond_false, if_true, if_false]
    rw [s5_reset a1 a2 a3, hS1]
    simp (disch := omega) only [gO_2 a0, gR_2_0 a0, gR_2_1 a0, gR_2_2 a0, gR_2_3 a0, gI_2_4 a0, gP_2_4 a0, gI_2_5 a0, gP_2_5 a0, gI_2_6 a0, gP_2_6 a0, gI_2_7 a0, gP_2_7 a0, gI_2_8 a0, gP_2_8 a0, gO_4 a4, gR_4_0 a4, gI_4_1 a4, gP_4_1 a4, gI_4_2 a4, gP_4_2 a4, gI_4_3 a4, gP_4_3 a4, gI_4_4 a4, gP_4_4 a4, cI_s, cL_s, cF_s, cD_s, cA_s, cV_s, nI_add, cond_true, cond_false, if_true, if_false]
    rw [s4_reset a4 a5, hS2]
    simp (disch := omega) only [gO_2 a0, gR_2_0 a0, gR_2_1 a0, gR_2_2 a0, gR_2_3 a0, gI_2_4 a0, gP_2_4 a0, gI_2_5 a0, gP_2_5 a0, gI_2_6 a0, gP_2_6 a0, gI_2_7 a0, gP_2_7 a0, gI_2_8 a0, gP_2_8 a0, gO_0 a6, gR_0_0 a6, gR_0_1 a6, gI_0_2 a6, gP_0_2 a6, s0_clear a6, hS3, gO_1 a9, gR_1_0 a9, gI_1_1 a9, gP_1_1 a9, gR_1_2 a9, cI_s, cL_s, cF_s, cD_s, cA_s, cV_s, nI_add, cond_true, cond_false, if_true, if_false]
    rw [e4]
    simp (disch := omega) only [gO_2 a0, gR_2_0 a0, gR_2_1 a0, gR_2_2 a0, gR_2_3 a0, gI_2_4 a0, gP_2_4 a0, gI_2_5 a0, gP_2_5 a0, gI_2_6 a0, gP_2_6 a0, gI_2_7 a0, gP_2_7 a0, gI_2_8 a0, gP_2_8 a0, cI_s, cL_s, cF_s, cD_s, cA_s, cV_s, nI_add, cond_true, cond_false, if_true, if_false]
  · rw [sS_n (by omega), sS_n (by omega), sS_n (by omega), sS_n (by omega), sS_s]; rfl
  · rw [sS_n (by omega), sS_n (by omega), sS_n (by omega), sS_s]; rfl
  · rw [sS_n (by omega), sS_n (by omega), sS_s]; rfl
  · rw [sS_n (by omega), sS_s]; rfl
  · rw [sS_s]; rfl
end G2
