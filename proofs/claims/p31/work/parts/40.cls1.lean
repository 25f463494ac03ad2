/-! MIND: wondering, following; over pictures. -/
theorem tri_8 : ∀ k, k ≤ 8 → nz (decide (¬ (nI 2) = 0)) (some ((nI k * (nI k - nI 1)) / nI 2)) = some (nI (tri k)) := by decide +kernel
theorem vw_s2 {i v : Nat} {g : Nat → Nat} {r : Nat → Int32} (h : v = g i) : upd (vw i g r) i (nI v) = vw (i + 1) g r := by rw [h]; exact vw_succ
section CLS1
variable {E : xEn} {z : Nat → Option va_E} {x : Nat} {sh : Nat → Option xSh} {S : xSt} {n q o : Nat} {g : Nat → Nat}
theorem c_scr (h : sh o = some (sh5 o)) (hs : S.1 o 0 = nI (g 0)) (hc : S.1 o 2 = nI (gSet g (g 0))) (H : iG g) {p : Nat} (hp : p < g 0) (d : Nat) :
    xsem xT E (d + 2) kX5_isScratched [.ref (x + o), .int (nI p)] (wW E z x sh S, n) = some (.inl (some (.int (nI (rg g p)))), (wW E z x sh S, n)) := by
  have hr := iG_rg H
  have h8 := H.1.2.1
  rw [s5_isScratched h hs h8 hc (gSet_lt g _ h8) hp, gSet_bit g hr _ h8 p (by omega), if_pos hp]
theorem c_scrA {q' : Nat} {R : Nat → Int32} (h : sh o = some (sh5 o)) (hs : S.1 o 0 = nI (g 0)) (hc : S.1 o 2 = nI (gSet g (g 0))) (H : iG g) {p : Nat} (hp : p < g 0) (d : Nat) :
    xsem xT E (d + 2) kX5_isScratched [.ref (x + o), .int (nI p)] (wW E z x sh (sA S q' R), n) = some (.inl (some (.int (nI (rg g p)))), (wW E z x sh (sA S q' R), n)) := c_scr (S := sA S q' R) h hs hc H hp d
theorem s4_pairsOf {σ : xH} {k : Nat} (hk : k ≤ 8) (d : Nat) : xsem xT E (d + 1) kX4_pairsOf [.int (nI k)] σ = some (.inl (some (.int (nI (tri k)))), σ) := by
  have h : (nI k * (nI k - nI 1)) / nI 2 = nI (tri k) := Option.some.inj (tri_8 k hk)
  rw [eX4_pairsOf, QX4_pairsOf_0, h]
  rfl
theorem l4_won1 (h : sh q = some (sh4 q)) (hb : sh (q + 1) = some (1, 9, [])) (ho : sh o = some (sh5 o)) (hs : S.1 o 0 = nI (g 0)) (hc : S.1 o 2 = nI (gSet g (g 0))) (H : iG g) (hf : ∀ p, p ≤ g 0 → S.2.1 (q + 1) p = nI (g (36 + p))) (d : Nat) :
    ∀ k i, i + k = g 0 → qX4_wonder_18 E (d + 2) (x + q) (x + o) (nI (g 0)) (nI (wC (rg g) i)) (nI (wS (rg g) (gF g) i)) (nI (mSum (gF g) i)) (nI i) (wW E z x sh S, n) =
      qX4_wonder_66 E (d + 2) (x + q) (x + o) (nI (g 0)) (nI (wC (rg g) (g 0))) (nI (wS (rg g) (gF g) (g 0))) (nI (mSum (gF g) (g 0))) (wW E z x sh S, n) := by
  intro k
  have h8 := H.1.2.1
  induction k with
  | zero =>
    intro i hi
    have hi : i = g 0 := hi
    rw [QX4_wonder_18]
    simp (disch := omega) only [iLE_t, cI_s, cL_s, cF_s, cD_s, cA_s, cV_s, nI_add, cond_true, cond_false, if_true, if_false]
    rw [hi]
  | succ k ih =>
    intro i hi
    have ih := ih (i + 1) (by omega)
    have hr := iG_rg H i (by omega)
    rw [wC_s, wS_s, mSum_s] at ih
    rw [QX4_wonder_18]
    by_cases e : rg g i = 1
    · rw [if_pos e, if_pos e] at ih
      simp (disch := omega) only [iLE_f, gO_4 h, gR_4_0 h, gI_4_1 h, gP_4_1 h, gI_4_2 h, gP_4_2 h, gI_4_3 h, gP_4_3 h, gI_4_4 h, gP_4_4 h, aI_w hb, gO_5 ho, gI_5_0 ho, gP_5_0 ho, gI_5_1 ho, gP_5_1 ho, gI_5_2 ho, gP_5_2 ho, gR_5_3 ho, gR_5_4 ho, c_scr ho hs hc H, hf i (by omega), e, cI_s, cL_s, cF_s, cD_s, cA_s, cV_s, nI_add, cond_true, cond_false, if_true, if_false]
      simp (disch := omega) only [iEQ_f, QX4_wonder_60, cI_s, cL_s, cF_s, cD_s, cA_s, cV_s, nI_add, cond_true, cond_false, if_true, if_false]
      exact ih
    · rw [if_neg e, if_neg e] at ih
      have e : rg g i = 0 := by omega
      simp (disch := omega) only [iLE_f, gO_4 h, gR_4_0 h, gI_4_1 h, gP_4_1 h, gI_4_2 h, gP_4_2 h, gI_4_3 h, gP_4_3 h, gI_4_4 h, gP_4_4 h, aI_w hb, gO_5 ho, gI_5_0 ho, gP_5_0 ho, gI_5_1 ho, gP_5_1 ho, gI_5_2 ho, gP_5_2 ho, gR_5_3 ho, gR_5_4 ho, c_scr ho hs hc H, hf i (by omega), e, cI_s, cL_s, cF_s, cD_s, cA_s, cV_s, nI_add, cond_true, cond_false, if_true, if_false]
      simp (disch := omega) only [iEQ_t, QX4_wonder_60, cI_s, cL_s, cF_s, cD_s, cA_s, cV_s, nI_add, cond_true, cond_false, if_true, if_false]
      exact ih
theorem l4_won2 (h : sh q = some (sh4 q)) (hb : sh (q + 1) = some (1, 9, [])) (ho : sh o = some (sh5 o)) (hs : S.1 o 0 = nI (g 0)) (hc : S.1 o 2 = nI (gSet g (g 0))) (H : iG g) (h3 : S.1 q 3 = nI (g 5)) (h4 : S.1 q 4 = nI (g 6)) (hf : ∀ p, p ≤ g 0 → S.2.1 (q + 1) p = nI (g (36 + p))) (d : Nat) :
    ∀ k i, i + k = g 0 → qX4_wonder_94 E (d + 2) (x + q) (x + o) (nI (g 0)) (nI (wC (rg g) (g 0))) (nI (wS (rg g) (gF g) (g 0))) (nI (mSum (gF g) (g 0))) (nI (g 0 - wC (rg g) (g 0))) (nI (wSw (rg g) (g 0))) (nI (g (36 + g 0))) (nI i) (wW E z x sh (sA S (q + 1) (vw i (gWon (g 0) (rg g) (gF g) (g 5) (g 6)) (S.2.1 (q + 1)))), n) =
      some (.inl none, (wW E z x sh (sA S (q + 1) (vw (g 0 + 1) (gWon (g 0) (rg g) (gF g) (g 5) (g 6)) (S.2.1 (q + 1)))), n)) := by
  intro k
  have h8 := H.1.2.1
  have h2 := H.1.1
  have hwS := wS_le (rg g) (gF g) (g 0)
  induction k with
  | zero =>
    intro i hi
    have hi : i = g 0 := hi
    subst hi
    rw [QX4_wonder_94]
    simp (disch := omega) only [iLE_t, QX4_wonder_210, gO_4 h, gR_4_0 h, gI_4_1 h, gP_4_1 h, gI_4_2 h, gP_4_2 h, gI_4_3 h, gP_4_3 h, gI_4_4 h, gP_4_4 h, sA_1, h3, h4, sI_w hb, pk_mul, sA_s, sA_sA, cI_s, cL_s, cF_s, cD_s, cA_s, cV_s, nI_add, cond_true, cond_false, if_true, if_false]
    rw [vw_s2]
    unfold gWon
    rw [if_neg (Nat.lt_irrefl _)]
    rfl
  | succ k ih =>
    intro i hi
    have hi2 : i < g 0 := by omega
    have ih := ih (i + 1) (by omega)
    have hr := iG_rg H i (by omega)
    obtain ⟨hk1, hk2, hk3⟩ := wK_in (r := rg g) hi2
    obtain ⟨hl1, hl2⟩ := wL_in (r := rg g) (f := gF g) hi2
    have hW : gWon (g 0) (rg g) (gF g) (g 5) (g 6) i = gF g i * (wSw (rg g) (g 0) - (wK (rg g) i (g 0) - 1) + g 5 + g 6 * (g 0 - 1) + g 6 * g 0) + (wL (rg g) (gF g) i (g 0) - gF g i) + gF g (g 0) * g 6 := if_pos hi2
    have hL1 : gF g i = g (36 + i) := rfl
    have hL2 : gF g (g 0) = g (36 + g 0) := rfl
    rw [hL1, hL2] at hW
    rw [hL1] at hl1
    rw [QX4_wonder_94]
    by_cases e : rg g i = 1
    · have hK : wK (rg g) i (g 0) = wC (rg g) (g 0) := if_pos e
      have hL : wL (rg g) (gF g) i (g 0) = wS (rg g) (gF g) (g 0) := if_pos e
      rw [hK] at hk1 hk2 hW
      rw [hL] at hl1 hl2 hW
      simp (disch := omega) only [iLE_f, gO_5 ho, gI_5_0 ho, gP_5_0 ho, gI_5_1 ho, gP_5_1 ho, gI_5_2 ho, gP_5_2 ho, gR_5_3 ho, gR_5_4 ho, c_scrA ho hs hc H, e, cI_s, cL_s, cF_s, cD_s, cA_s, cV_s, nI_add, cond_true, cond_false, if_true, if_false]
      simp (disch := omega) only [iEQ_f, QX4_wonder_119, QX4_wonder_138, gO_4 h, gR_4_0 h, gI_4_1 h, gP_4_1 h, gI_4_2 h, gP_4_2 h, gI_4_3 h, gP_4_3 h, gI_4_4 h, gP_4_4 h, sA_1, h3, h4, aI_w hb, sI_w hb, sA_s, sA_sA, vw_out (Nat.le_refl i), hf i (by omega), pk_sub, pk_mul, cI_s, cL_s, cF_s, cD_s, cA_s, cV_s, nI_add, cond_true, cond_false, if_true, if_false]
      rw [vw_s2 hW.symm]
      exact ih
    · have hK : wK (rg g) i (g 0) = g 0 - wC (rg g) (g 0) := if_neg e
      have hL : wL (rg g) (gF g) i (g 0) = mSum (gF g) (g 0) - wS (rg g) (gF g) (g 0) := if_neg e
      have e : rg g i = 0 := by omega
      rw [hK] at hk1 hk2 hW
      rw [hL] at hl1 hl2 hW
      simp (disch := omega) only [iLE_f, gO_5 ho, gI_5_0 ho, gP_5_0 ho, gI_5_1 ho, gP_5_1 ho, gI_5_2 ho, gP_5_2 ho, gR_5_3 ho, gR_5_4 ho, c_scrA ho hs hc H, e, cI_s, cL_s, cF_s, cD_s, cA_s, cV_s, nI_add, cond_true, cond_false, if_true, if_false]
      simp (disch := omega) only [iEQ_t, QX4_wonder_117, QX4_wonder_119, QX4_wonder_133, QX4_wonder_138, gO_4 h, gR_4_0 h, gI_4_1 h, gP_4_1 h, gI_4_2 h, gP_4_2 h, gI_4_3 h, gP_4_3 h, gI_4_4 h, gP_4_4 h, sA_1, h3, h4, aI_w hb, sI_w hb, sA_s, sA_sA, vw_out (Nat.le_refl i), hf i (by omega), pk_sub, pk_mul, cI_s, cL_s, cF_s, cD_s, cA_s, cV_s, nI_add, cond_true, cond_false, if_true, if_false]
      rw [vw_s2 hW.symm]
      exact ih
theorem s4_wonder (h : sh q = some (sh4 q)) (hb : sh (q + 1) = some (1, 9, [])) (ho : sh o = some (sh5 o)) (hs : S.1 o 0 = nI (g 0)) (hc : S.1 o 2 = nI (gSet g (g 0))) (H : iG g) (h1 : S.1 q 1 = nI (g 0 + 1)) (h3 : S.1 q 3 = nI (g 5)) (h4 : S.1 q 4 = nI (g 6)) (hf : ∀ p, p ≤ g 0 → S.2.1 (q + 1) p = nI (g (36 + p))) (d : Nat) :
    xsem xT E (d + 3) kX4_wonder [.ref (x + q), .ref (x + o)] (wW E z x sh S, n) = some (.inl none, (wW E z x sh (sA S (q + 1) (vw (g 0 + 1) (gWon (g 0) (rg g) (gF g) (g 5) (g 6)) (S.2.1 (q + 1)))), n)) := by
  have h8 := H.1.2.1
  have hwC := wC_le (rg g) (g 0)
  rw [eX4_wonder, QX4_wonder_0]
  simp (disch := omega) only [gO_4 h, gR_4_0 h, gI_4_1 h, gP_4_1 h, gI_4_2 h, gP_4_2 h, gI_4_3 h, gP_4_3 h, gI_4_4 h, gP_4_4 h, h1, pk_sub, Nat.add_sub_cancel, cI_s, cL_s, cF_s, cD_s, cA_s, cV_s, nI_add, cond_true, cond_false, if_true, if_false]
  refine (l4_won1 (E := E) (z := z) (x := x) (n := n) h hb ho hs hc H hf d (g 0) 0 (by omega)).trans ?_
  rw [QX4_wonder_66]
  simp (disch := omega) only [pk_sub, s4_pairsOf, gO_4 h, gR_4_0 h, gI_4_1 h, gP_4_1 h, gI_4_2 h, gP_4_2 h, gI_4_3 h, gP_4_3 h, gI_4_4 h, gP_4_4 h, aI_w hb, hf (g 0) (Nat.le_refl _), cI_s, cL_s, cF_s, cD_s, cA_s, cV_s, nI_add, cond_true, cond_false, if_true, if_false]
  refine Eq.trans ?_ (l4_won2 (E := E) (z := z) (x := x) (n := n) h hb ho hs hc H h3 h4 hf d (g 0) 0 (by omega))
  rw [vw_0, sA_self]
  rfl
def pMd (S : xSt) (q : Nat) (g : Nat → Nat) : Prop := S.1 q 1 = nI (g 0 + 1) ∧ S.1 q 2 = nI (g 4) ∧ S.1 q 3 = nI (g 5) ∧ S.1 q 4 = nI (g 6) ∧ ∀ p, p ≤ g 0 → S.2.1 (q + 1) p = nI (g (36 + p))
theorem c_tail (h : sh q = some (sh4 q)) (hb : sh (q + 1) = some (1, 9, [])) (H : iG g) (h1 : S.1 q 1 = nI (g 0 + 1)) {F : Nat → Nat} (hF : ∀ p, p ≤ g 0 → F p < 2 ^ 31 - 1) (d : Nat) :
    qX4_followMove_65 E (d + 3) (x + q) (wW E z x sh (sA S (q + 1) (vw (g 0 + 1) F (S.2.1 (q + 1)))), n) = some (.inl none, (wW E z x sh (sA S (q + 1) (vw (g 0 + 1) (mSettle (g 0 + 1) F) (S.2.1 (q + 1)))), n)) := by
  have h8 := H.1.2.1
  rw [QX4_followMove_65]
  simp (disch := omega) only [gO_4 h, gR_4_0 h, gI_4_1 h, gP_4_1 h, gI_4_2 h, gP_4_2 h, gI_4_3 h, gP_4_3 h, gI_4_4 h, gP_4_4 h, cI_s, cL_s, cF_s, cD_s, cA_s, cV_s, nI_add, cond_true, cond_false, if_true, if_false]
  rw [s4_settle (S := sA S (q + 1) (vw (g 0 + 1) F (S.2.1 (q + 1)))) h hb (pl := g 0 + 1) h1 (by omega) (f := F) (fun p hp => by rw [sA_s, vw_in hp]) (fun p hp => hF p (by omega)), sA_sA, sA_s, vw_vw]
  rfl
theorem c_tailS (h : sh q = some (sh4 q)) (hb : sh (q + 1) = some (1, 9, [])) (H : iG g) (h1 : S.1 q 1 = nI (g 0 + 1)) {F : Nat → Nat} (hF : ∀ p, p ≤ g 0 → F p < 2 ^ 31 - 1) (d : Nat) :
    qX4_followStill_9 E (d + 3) (x + q) (wW E z x sh (sA S (q + 1) (vw (g 0 + 1) F (S.2.1 (q + 1)))), n) = some (.inl none, (wW E z x sh (sA S (q + 1) (vw (g 0 + 1) (mSettle (g 0 + 1) F) (S.2.1 (q + 1)))), n)) := by
  have h8 := H.1.2.1
  rw [QX4_followStill_9]
  simp (disch := omega) only [gO_4 h, gR_4_0 h, gI_4_1 h, gP_4_1 h, gI_4_2 h, gP_4_2 h, gI_4_3 h, gP_4_3 h, gI_4_4 h, gP_4_4 h, cI_s, cL_s, cF_s, cD_s, cA_s, cV_s, nI_add, cond_true, cond_false, if_true, if_false]
  rw [s4_settle (S := sA S (q + 1) (vw (g 0 + 1) F (S.2.1 (q + 1)))) h hb (pl := g 0 + 1) h1 (by omega) (f := F) (fun p hp => by rw [sA_s, vw_in hp]) (fun p hp => hF p (by omega)), sA_sA, sA_s, vw_vw]
  rfl
theorem gRaw_ex {bl : Bool} {a b : Nat} (h : rg g a ≠ rg g b) : gRaw bl 0 a b g = updN (updN (gF g) a (gF g b)) b (gF g a) := if_pos ⟨rfl, h⟩
theorem gRaw_bl {k a b : Nat} (h : ¬ (k = 0 ∧ rg g a ≠ rg g b)) : gRaw true k a b g = gWon (g 0) (rg g) (gF g) (g 5) (g 6) := by
  unfold gRaw
  rw [if_neg h, if_pos rfl]
theorem gRaw_mix {k a b : Nat} (hk : k < 2) (h : rg g a = rg g b) : gRaw false k a b g = mMix a b (g 4) (gF g) := by
  unfold gRaw
  rw [if_neg (fun z => z.2 h), if_neg (by decide), if_pos ⟨hk, h⟩]
theorem gRaw_no {k a b : Nat} (h : ¬ (k = 0 ∧ rg g a ≠ rg g b)) (h2 : ¬ (k < 2 ∧ rg g a = rg g b)) : gRaw false k a b g = gF g := by
  unfold gRaw
  rw [if_neg h, if_neg (by decide), if_neg h2]
theorem c_same (H : iG g) (hf : ∀ p, p ≤ g 0 → S.2.1 (q + 1) p = nI (g (36 + p))) : sA S (q + 1) (vw (g 0 + 1) (gF g) (S.2.1 (q + 1))) = S := by
  rw [vw_self (g := gF g) (fun p hp => hf p (by omega)), sA_self]
theorem s4_followMove (h : sh q = some (sh4 q)) (hb : sh (q + 1) = some (1, 9, [])) (ho : sh o = some (sh5 o)) (hs : S.1 o 0 = nI (g 0)) (hc : S.1 o 2 = nI (gSet g (g 0))) (H : iG g) (hm : pMd S q g) (sw bl : Bool) {a b : Nat} (ha : a < g 0) (hb2 : b < g 0) (d : Nat) :
    xsem xT E (d + 4) kX4_followMove [.ref (x + q), .ref (x + o), .int (nI sw.toNat), .int (nI a), .int (nI b), .int (nI bl.toNat)] (wW E z x sh S, n) = some (.inl none, (wW E z x sh (sA S (q + 1) (vw (g 0 + 1) (gThk bl (if sw then 0 else 1) a b g) (S.2.1 (q + 1)))), n)) := by
  obtain ⟨h1, h2, h3, h4, hf⟩ := hm
  have h8 := H.1.2.1
  have ht := H.1.2.2.2.2.1
  have hra := iG_rg H a (by omega)
  have hrb := iG_rg H b (by omega)
  have hF := gRaw_lt (bl := bl) (k := if sw then 0 else 1) (a := a) (b := b) H (fun _ => ⟨ha, hb2⟩)
  have htl := c_tail (E := E) (z := z) (x := x) (n := n) h hb H h1 hF d
  unfold gThk
  have hf' : ∀ p, p < g 0 + 1 → S.2.1 (q + 1) p = nI (gF g p) := fun p hp => hf p (by omega)
  rw [← htl, eX4_followMove, QX4_followMove_0]
  simp (disch := omega) only [gO_5 ho, gI_5_0 ho, gP_5_0 ho, gI_5_1 ho, gP_5_1 ho, gI_5_2 ho, gP_5_2 ho, gR_5_3 ho, gR_5_4 ho, c_scr ho hs hc H, cI_s, cL_s, cF_s, cD_s, cA_s, cV_s, nI_add, cond_true, cond_false, if_true, if_false]
  by_cases hn : rg g a = rg g b
  · simp (disch := omega) only [iEQ_t hn, QX4_followMove_18, QX4_followMove_19, QX4_followMove_40, cI_s, cL_s, cF_s, cD_s, cA_s, cV_s, nI_add, cond_true, cond_false, if_true, if_false]
    cases bl with
    | true =>
      rw [gRaw_bl (fun z => z.2 hn)]
      simp (disch := omega) only [Bool.toNat_true, iEQ_f, gO_4 h, gR_4_0 h, gI_4_1 h, gP_4_1 h, gI_4_2 h, gP_4_2 h, gI_4_3 h, gP_4_3 h, gI_4_4 h, gP_4_4 h, cI_s, cL_s, cF_s, cD_s, cA_s, cV_s, nI_add, cond_true, cond_false, if_true, if_false]
      rw [s4_wonder h hb ho hs hc H h1 h3 h4 hf]
      simp (disch := omega) only [cI_s, cL_s, cF_s, cD_s, cA_s, cV_s, nI_add, cond_true, cond_false, if_true, if_false]
    | false =>
      rw [gRaw_mix (by split <;> omega) hn]
      simp (disch := omega) only [Bool.toNat_false, iEQ_t, QX4_followMove_53, gO_4 h, gR_4_0 h, gI_4_1 h, gP_4_1 h, gI_4_2 h, gP_4_2 h, gI_4_3 h, gP_4_3 h, gI_4_4 h, gP_4_4 h, cI_s, cL_s, cF_s, cD_s, cA_s, cV_s, nI_add, cond_true, cond_false, if_true, if_false]
      rw [s4_mix h hb h1 (by omega) hf' h2 (by omega) (by omega) (by omega)]
      simp (disch := omega) only [cI_s, cL_s, cF_s, cD_s, cA_s, cV_s, nI_add, cond_true, cond_false, if_true, if_false]
  · simp (disch := omega) only [iEQ_f hn, QX4_followMove_19, cI_s, cL_s, cF_s, cD_s, cA_s, cV_s, nI_add, cond_true, cond_false, if_true, if_false]
    cases sw with
    | true =>
      rw [show (if true = true then 0 else 1) = 0 from rfl, gRaw_ex hn]
      simp (disch := omega) only [iEQ_f, Bool.toNat_true, gO_4 h, gR_4_0 h, gI_4_1 h, gP_4_1 h, gI_4_2 h, gP_4_2 h, gI_4_3 h, gP_4_3 h, gI_4_4 h, gP_4_4 h, cI_s, cL_s, cF_s, cD_s, cA_s, cV_s, nI_add, cond_true, cond_false, if_true, if_false]
      rw [s4_exchange h hb (by omega) hf' (show a < g 0 + 1 by omega) (by omega)]
      simp (disch := omega) only [cI_s, cL_s, cF_s, cD_s, cA_s, cV_s, nI_add, cond_true, cond_false, if_true, if_false]
    | false =>
      rw [show (if false = true then 0 else 1) = 1 from rfl]
      simp (disch := omega) only [iEQ_f, iEQ_t, Bool.toNat_false, QX4_followMove_40, cI_s, cL_s, cF_s, cD_s, cA_s, cV_s, nI_add, cond_true, cond_false, if_true, if_false]
      cases bl with
      | true =>
        rw [gRaw_bl (fun z => absurd z.1 (by omega))]
        simp (disch := omega) only [Bool.toNat_true, iEQ_f, gO_4 h, gR_4_0 h, gI_4_1 h, gP_4_1 h, gI_4_2 h, gP_4_2 h, gI_4_3 h, gP_4_3 h, gI_4_4 h, gP_4_4 h, cI_s, cL_s, cF_s, cD_s, cA_s, cV_s, nI_add, cond_true, cond_false, if_true, if_false]
        rw [s4_wonder h hb ho hs hc H h1 h3 h4 hf]
        simp (disch := omega) only [cI_s, cL_s, cF_s, cD_s, cA_s, cV_s, nI_add, cond_true, cond_false, if_true, if_false]
      | false =>
        rw [gRaw_no (fun z => absurd z.1 (by omega)) (fun z => hn z.2), c_same H hf]
        simp (disch := omega) only [Bool.toNat_false, iEQ_t, iEQ_f, QX4_followMove_53, cI_s, cL_s, cF_s, cD_s, cA_s, cV_s, nI_add, cond_true, cond_false, if_true, if_false]
theorem s4_followStill (h : sh q = some (sh4 q)) (hb : sh (q + 1) = some (1, 9, [])) (ho : sh o = some (sh5 o)) (hs : S.1 o 0 = nI (g 0)) (hc : S.1 o 2 = nI (gSet g (g 0))) (H : iG g) (hm : pMd S q g) (bl : Bool) {k a b : Nat} (hk : 2 ≤ k) (d : Nat) :
    xsem xT E (d + 4) kX4_followStill [.ref (x + q), .ref (x + o), .int (nI bl.toNat)] (wW E z x sh S, n) = some (.inl none, (wW E z x sh (sA S (q + 1) (vw (g 0 + 1) (gThk bl k a b g) (S.2.1 (q + 1)))), n)) := by
  obtain ⟨h1, h2, h3, h4, hf⟩ := hm
  have hF := gRaw_lt (bl := bl) (k := k) (a := a) (b := b) H (fun z => absurd z (by omega))
  have htl := c_tailS (E := E) (z := z) (x := x) (n := n) h hb H h1 hF d
  unfold gThk
  rw [← htl, eX4_followStill, QX4_followStill_0]
  cases bl with
  | true =>
    rw [gRaw_bl (fun z => absurd z.1 (by omega))]
    simp (disch := omega) only [Bool.toNat_true, iEQ_f, gO_4 h, gR_4_0 h, gI_4_1 h, gP_4_1 h, gI_4_2 h, gP_4_2 h, gI_4_3 h, gP_4_3 h, gI_4_4 h, gP_4_4 h, cI_s, cL_s, cF_s, cD_s, cA_s, cV_s, nI_add, cond_true, cond_false, if_true, if_false]
    rw [s4_wonder h hb ho hs hc H h1 h3 h4 hf]
    simp (disch := omega) only [cI_s, cL_s, cF_s, cD_s, cA_s, cV_s, nI_add, cond_true, cond_false, if_true, if_false]
  | false =>
    rw [gRaw_no (fun z => absurd z.1 (by omega)) (fun z => absurd z.1 (by omega)), c_same H hf]
    simp (disch := omega) only [Bool.toNat_false, iEQ_t, cI_s, cL_s, cF_s, cD_s, cA_s, cV_s, nI_add, cond_true, cond_false, if_true, if_false]
end CLS1
