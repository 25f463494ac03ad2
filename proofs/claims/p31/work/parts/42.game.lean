/-! FRAMES; PICTURES OF A GAME'S PARTS. -/
def eqQ (S S' : xSt) (j : Nat) : Prop := S'.1 j = S.1 j ∧ S'.2.1 j = S.2.1 j
def frm (lo hi : Nat) (S S' : xSt) : Prop := (∀ j, (j < lo ∨ hi ≤ j) → eqQ S S' j) ∧ S'.2.2 = S.2.2
theorem frm_rf {lo hi : Nat} {S : xSt} : frm lo hi S S := ⟨fun _ _ => ⟨rfl, rfl⟩, rfl⟩
theorem frm_tr {lo hi : Nat} {S S1 S2 : xSt} (h : frm lo hi S S1) (h2 : frm lo hi S1 S2) : frm lo hi S S2 :=
  ⟨fun j hj => ⟨(h2.1 j hj).1.trans (h.1 j hj).1, (h2.1 j hj).2.trans (h.1 j hj).2⟩, h2.2.trans h.2⟩
theorem frm_mo {lo hi lo' hi' : Nat} {S S' : xSt} (h : frm lo' hi' S S') (h1 : lo ≤ lo') (h2 : hi' ≤ hi) : frm lo hi S S' := ⟨fun j hj => h.1 j (by omega), h.2⟩
theorem frm_sS {lo hi q k : Nat} {v : Int32} {S : xSt} (h1 : lo ≤ q) (h2 : q < hi) : frm lo hi S (sS S q k v) :=
  ⟨fun j hj => ⟨funext fun k' => if_neg (fun z => by omega), rfl⟩, rfl⟩
theorem frm_sA {lo hi q : Nat} {f : Nat → Int32} {S : xSt} (h1 : lo ≤ q) (h2 : q < hi) : frm lo hi S (sA S q f) :=
  ⟨fun j hj => ⟨rfl, if_neg (by omega)⟩, rfl⟩
theorem frm_1 {lo hi q k : Nat} {S S' : xSt} (h : frm lo hi S S') (hq : q < lo ∨ hi ≤ q) : S'.1 q k = S.1 q k := congrFun (h.1 q hq).1 k
theorem frm_2 {lo hi q : Nat} {S S' : xSt} (h : frm lo hi S S') (hq : q < lo ∨ hi ≤ q) : S'.2.1 q = S.2.1 q := (h.1 q hq).2
def pRw (S : xSt) (o : Nat) (g : Nat → Nat) : Prop := S.1 o 0 = nI (g 0) ∧ S.1 o 1 = nI (g 1) ∧ S.1 o 2 = nI (gSet g (g 0)) ∧ (∀ p, p < 8 → S.2.1 (o + 1) p = nI (g (12 + p))) ∧ (∀ p, p < g 0 → S.2.1 (o + 2) p = nI (g (20 + g (12 + p))))
def pBk (S : xSt) (q : Nat) (g : Nat → Nat) : Prop := S.1 q 2 = nI (g 10) ∧ ∀ k, k < g 10 → S.2.1 (q + 1) k = nI (g (45 + 2 * k)) ∧ S.2.1 (q + 2) k = nI (g (45 + 2 * k + 1))
def pEnc (op v : Nat) : Int32 := if op = 0 then nI v else if op = 1 then (if v = 0 then -5 else if v = 1 then -6 else if v = 2 then -7 else -8) else if op = 2 then -1 else if op = 3 then -2 else if op = 4 then -3 else -4
def pFo (S : xSt) (q : Nat) (g : Nat → Nat) : Prop := (g 11 = 0 → S.1 q 1 = nI 3 ∧ S.2.1 (q + 1) 0 = -5 ∧ S.2.1 (q + 1) 1 = nI 1 ∧ S.2.1 (q + 1) 2 = -2) ∧ (g 11 ≠ 0 → S.1 q 1 = nI (g 11) ∧ ∀ k, k < g 11 → S.2.1 (q + 1) k = pEnc (g (61 + 2 * k)) (g (61 + 2 * k + 1)))
def pG (S : xSt) (q : Nat) (g : Nat → Nat) : Prop := pRw S (q + 1) g ∧ pMd S (q + 4) g ∧ pBk S (q + 6) g ∧ pFo S (q + 9) g ∧ S.1 q 4 = nI (g 2) ∧ S.1 q 5 = nI (g 3) ∧ S.1 q 6 = nI (g 7) ∧ S.1 q 7 = nI (g 8) ∧ S.1 q 8 = nI (g 9)
theorem pRw_fr {lo hi o : Nat} {S S' : xSt} {g : Nat → Nat} (h : frm lo hi S S') (ho : o + 3 ≤ lo ∨ hi ≤ o) (H : pRw S o g) : pRw S' o g := by
  obtain ⟨h1, h2, h3, h4, h5⟩ := H
  refine ⟨?_, ?_, ?_, fun p hp => ?_, fun p hp => ?_⟩
  · rw [frm_1 h (by omega)]; exact h1
  · rw [frm_1 h (by omega)]; exact h2
  · rw [frm_1 h (by omega)]; exact h3
  · rw [frm_2 h (by omega)]; exact h4 p hp
  · rw [frm_2 h (by omega)]; exact h5 p hp
theorem pMd_fr {lo hi o : Nat} {S S' : xSt} {g : Nat → Nat} (h : frm lo hi S S') (ho : o + 2 ≤ lo ∨ hi ≤ o) (H : pMd S o g) : pMd S' o g := by
  obtain ⟨h1, h2, h3, h4, h5⟩ := H
  refine ⟨?_, ?_, ?_, ?_, fun p hp => ?_⟩
  · rw [frm_1 h (by omega)]; exact h1
  · rw [frm_1 h (by omega)]; exact h2
  · rw [frm_1 h (by omega)]; exact h3
  · rw [frm_1 h (by omega)]; exact h4
  · rw [frm_2 h (by omega)]; exact h5 p hp
theorem pBk_fr {lo hi o : Nat} {S S' : xSt} {g : Nat → Nat} (h : frm lo hi S S') (ho : o + 3 ≤ lo ∨ hi ≤ o) (H : pBk S o g) : pBk S' o g := by
  obtain ⟨h1, h2⟩ := H
  refine ⟨?_, fun k hk => ?_⟩
  · rw [frm_1 h (by omega)]; exact h1
  · rw [frm_2 h (by omega), frm_2 h (by omega)]; exact h2 k hk
theorem pFo_fr {lo hi o : Nat} {S S' : xSt} {g : Nat → Nat} (h : frm lo hi S S') (ho : o + 2 ≤ lo ∨ hi ≤ o) (H : pFo S o g) : pFo S' o g := by
  refine ⟨fun z => ?_, fun z => ?_⟩
  · rw [frm_1 h (by omega), frm_2 h (by omega)]; exact H.1 z
  · rw [frm_1 h (by omega), frm_2 h (by omega)]; exact H.2 z
theorem pG_fr {lo hi q : Nat} {S S' : xSt} {g : Nat → Nat} (h : frm lo hi S S') (ho : q + 12 ≤ lo ∨ hi ≤ q) (H : pG S q g) : pG S' q g := by
  obtain ⟨h1, h2, h3, h4, h5, h6, h7, h8, h9⟩ := H
  refine ⟨pRw_fr h (by omega) h1, pMd_fr h (by omega) h2, pBk_fr h (by omega) h3, pFo_fr h (by omega) h4, ?_, ?_, ?_, ?_, ?_⟩
  · rw [frm_1 h (by omega)]; exact h5
  · rw [frm_1 h (by omega)]; exact h6
  · rw [frm_1 h (by omega)]; exact h7
  · rw [frm_1 h (by omega)]; exact h8
  · rw [frm_1 h (by omega)]; exact h9
theorem pRw_cg {S : xSt} {o : Nat} {g g' : Nat → Nat} (e0 : g' 0 = g 0) (e1 : g' 1 = g 1) (e : ∀ i, 12 ≤ i → i < 36 → g' i = g i) (hs : ∀ p, p < 8 → g (12 + p) < 8) (h8 : g 0 ≤ 8) (H : pRw S o g) : pRw S o g' := by
  obtain ⟨h1, h2, h3, h4, h5⟩ := H
  have hr : ∀ p, p < 8 → rg g' p = rg g p := fun p hp => by
    have := hs p hp
    unfold rg
    rw [e (12 + p) (by omega) (by omega), e (28 + g (12 + p)) (by omega) (by omega)]
  have hset : ∀ i, i ≤ 8 → gSet g' i = gSet g i := by
    intro i
    induction i with
    | zero => exact fun _ => rfl
    | succ i ih =>
      intro hi
      rw [show gSet g' (i + 1) = if rg g' i = 1 then gSet g' i ||| 2 ^ i else gSet g' i from rfl, show gSet g (i + 1) = if rg g i = 1 then gSet g i ||| 2 ^ i else gSet g i from rfl, hr i (by omega), ih (by omega)]
  refine ⟨by rw [e0]; exact h1, by rw [e1]; exact h2, by rw [e0, hset _ h8]; exact h3, fun p hp => ?_, fun p hp => ?_⟩
  · rw [e (12 + p) (by omega) (by omega)]; exact h4 p hp
  · rw [e0] at hp
    have := hs p (by omega)
    rw [e (12 + p) (by omega) (by omega), e (20 + g (12 + p)) (by omega) (by omega)]; exact h5 p hp
theorem pBk_cg {S : xSt} {o : Nat} {g g' : Nat → Nat} (e0 : g' 10 = g 10) (h10 : g 10 ≤ 8) (e : ∀ i, 45 ≤ i → i < 61 → g' i = g i) (H : pBk S o g) : pBk S o g' := by
  refine ⟨by rw [e0]; exact H.1, fun k hk => ?_⟩
  rw [e0] at hk
  rw [e (45 + 2 * k) (by omega) (by omega), e (45 + 2 * k + 1) (by omega) (by omega)]
  exact H.2 k hk
theorem pFo_cg {S : xSt} {o : Nat} {g g' : Nat → Nat} (e0 : g' 11 = g 11) (e : ∀ i, 61 ≤ i → g' i = g i) (H : pFo S o g) : pFo S o g' := by
  refine ⟨fun z => H.1 (by rw [← e0]; exact z), fun z => ?_⟩
  rw [e0] at z ⊢
  refine ⟨(H.2 z).1, fun k hk => ?_⟩
  rw [e (61 + 2 * k) (by omega), e (61 + 2 * k + 1) (by omega)]
  exact (H.2 z).2 k hk
/-- shapes of a game's cells -/
def hG (sh : Nat → Option xSh) (q : Nat) : Prop := sh q = some (sh2 q) ∧ sh (q + 1) = some (sh5 (q + 1)) ∧ sh (q + 2) = some (1, 8, []) ∧ sh (q + 3) = some (1, 8, []) ∧ sh (q + 4) = some (sh4 (q + 4)) ∧ sh (q + 5) = some (1, 9, []) ∧ sh (q + 6) = some (sh0 (q + 6)) ∧ sh (q + 7) = some (1, 8, []) ∧ sh (q + 8) = some (1, 8, []) ∧ sh (q + 9) = some (sh1 (q + 9)) ∧ sh (q + 10) = some (1, 500, []) ∧ sh (q + 11) = some (1, 11, [])
section BLK
variable {E : xEn} {z : Nat → Option va_E} {x : Nat} {sh : Nat → Option xSh} {S : xSt} {n q o : Nat} {g : Nat → Nat}
theorem s0_clear (h : sh q = some (sh0 q)) (d : Nat) : xsem xT E (d + 1) kX0_clear [.ref (x + q)] (wW E z x sh S, n) = some (.inl none, (wW E z x sh (sS S q 2 (nI 0)), n)) := by
  rw [eX0_clear, QX0_clear_0]
  simp (disch := omega) only [gO_0 h, gR_0_0 h, gR_0_1 h, gI_0_2 h, gP_0_2 h, cI_s, cL_s, cF_s, cD_s, cA_s, cV_s, nI_add, cond_true, cond_false, if_true, if_false]
theorem s0_isFull (h : sh q = some (sh0 q)) (H : pBk S q g) (h10 : g 10 ≤ 8) (d : Nat) : xsem xT E (d + 1) kX0_isFull [.ref (x + q)] (wW E z x sh S, n) = some (.inl (some (.int (nI (if 8 ≤ g 10 then 1 else 0)))), (wW E z x sh S, n)) := by
  rw [eX0_isFull, QX0_isFull_0]
  by_cases c : 8 ≤ g 10
  · simp (disch := omega) only [gO_0 h, gR_0_0 h, gR_0_1 h, gI_0_2 h, gP_0_2 h, H.1, iLT_f c, if_pos c, QX0_isFull_14, xret5_1, cI_s, cL_s, cF_s, cD_s, cA_s, cV_s, nI_add, cond_true, cond_false, if_true, if_false]
  · simp (disch := omega) only [gO_0 h, gR_0_0 h, gR_0_1 h, gI_0_2 h, gP_0_2 h, H.1, iLT_t, if_neg c, QX0_isFull_13, QX0_isFull_14, xret5_0, cI_s, cL_s, cF_s, cD_s, cA_s, cV_s, nI_add, cond_true, cond_false, if_true, if_false]
theorem s0_tell (h : sh q = some (sh0 q)) (h1 : sh (q + 1) = some (1, 8, [])) (h2 : sh (q + 2) = some (1, 8, [])) (H : pBk S q g) (h10 : g 10 < 8) (a b : Nat) (d : Nat) :
    ∃ S', xsem xT E (d + 1) kX0_tell [.ref (x + q), .int (nI a), .int (nI b)] (wW E z x sh S, n) = some (.inl none, (wW E z x sh S', n)) ∧ frm q (q + 3) S S' ∧ pBk S' q (updN (updN (updN g (45 + 2 * g 10) a) (45 + 2 * g 10 + 1) b) 10 (g 10 + 1)) := by
  refine ⟨sS (sA (sA S (q + 1) (upd (S.2.1 (q + 1)) (g 10) (nI a))) (q + 2) (upd (S.2.1 (q + 2)) (g 10) (nI b))) q 2 (nI (g 10 + 1)), ?_, ?_, ?_, fun k hk => ?_⟩
  · rw [eX0_tell, QX0_tell_0]
    simp (disch := omega) only [gO_0 h, gR_0_0 h, gR_0_1 h, gI_0_2 h, gP_0_2 h, H.1, aN_w h1, iLE_f, sI_w h1, sI_w h2, sA_1, sA_n, QX0_tell_42, cI_s, cL_s, cF_s, cD_s, cA_s, cV_s, nI_add, cond_true, cond_false, if_true, if_false]
  · exact frm_tr (frm_tr (frm_sA (by omega) (by omega)) (frm_sA (by omega) (by omega))) (frm_sS (by omega) (by omega))
  · rw [sS_s, updN_s]
  · rw [updN_s] at hk
    rw [updN_n (by omega), updN_n (by omega)]
    show (sA (sA S (q + 1) (upd (S.2.1 (q + 1)) (g 10) (nI a))) (q + 2) (upd (S.2.1 (q + 2)) (g 10) (nI b))).2.1 (q + 1) k = _ ∧ (sA (sA S (q + 1) (upd (S.2.1 (q + 1)) (g 10) (nI a))) (q + 2) (upd (S.2.1 (q + 2)) (g 10) (nI b))).2.1 (q + 2) k = _
    rw [sA_s, sA_n (by omega), sA_s]
    by_cases e : k = g 10
    · subst e
      rw [pk_us, pk_us]
      refine ⟨?_, ?_⟩
      · rw [updN_s]
      · rw [updN_n (by omega), updN_s]
    · rw [pk_un e, pk_un e, updN_n (by omega), updN_n (by omega), updN_n (by omega), updN_n (by omega)]
      exact H.2 k (by omega)
theorem l0_has (h : sh q = some (sh0 q)) (h1 : sh (q + 1) = some (1, 8, [])) (h2 : sh (q + 2) = some (1, 8, [])) (H : pBk S q g) (h10 : g 10 ≤ 8) (st : Int32) (d : Nat) :
    ∀ k i, i + k = g 10 → qX0_has_2 E d (x + q) st (nI i) (wW E z x sh S, n) = some (.inl (some (.int (nI (gHas g st k i).toNat))), (wW E z x sh S, n)) := by
  intro k
  induction k with
  | zero =>
    intro i hi
    rw [QX0_has_2]
    simp (disch := omega) only [gO_0 h, gR_0_0 h, gR_0_1 h, gI_0_2 h, gP_0_2 h, H.1, iLE_t, QX0_has_38, xret5_0, cI_s, cL_s, cF_s, cD_s, cA_s, cV_s, nI_add, cond_true, cond_false, if_true, if_false]
    rfl
  | succ k ih =>
    intro i hi
    have ih := ih (i + 1) (by omega)
    obtain ⟨e1, e2⟩ := H.2 i (by omega)
    rw [QX0_has_2]
    rw [show gHas g st (k + 1) i = if nI (g (45 + 2 * i)) ≤ st ∧ st ≤ nI (g (45 + 2 * i + 1)) then true else gHas g st k (i + 1) from rfl]
    by_cases c1 : st < nI (g (45 + 2 * i))
    · rw [if_neg (fun z => Int32.not_le.2 c1 z.1)]
      simp (disch := omega) only [gO_0 h, gR_0_0 h, gR_0_1 h, gI_0_2 h, gP_0_2 h, H.1, iLE_f, aI_w h1, e1, if_pos c1, QX0_has_32, cI_s, cL_s, cF_s, cD_s, cA_s, cV_s, nI_add, cond_true, cond_false, if_true, if_false]
      exact ih
    · by_cases c2 : nI (g (45 + 2 * i + 1)) < st
      · rw [if_neg (fun z => Int32.not_le.2 c2 z.2)]
        simp (disch := omega) only [gO_0 h, gR_0_0 h, gR_0_1 h, gI_0_2 h, gP_0_2 h, H.1, iLE_f, aI_w h1, aI_w h2, e1, e2, if_neg c1, if_pos c2, QX0_has_32, cI_s, cL_s, cF_s, cD_s, cA_s, cV_s, nI_add, cond_true, cond_false, if_true, if_false]
        exact ih
      · rw [if_pos ⟨Int32.not_lt.1 c1, Int32.not_lt.1 c2⟩]
        simp (disch := omega) only [gO_0 h, gR_0_0 h, gR_0_1 h, gI_0_2 h, gP_0_2 h, H.1, iLE_f, aI_w h1, aI_w h2, e1, e2, if_neg c1, if_neg c2, xret5_1, cI_s, cL_s, cF_s, cD_s, cA_s, cV_s, nI_add, cond_true, cond_false, if_true, if_false]
        rfl
theorem s0_has (h : sh q = some (sh0 q)) (h1 : sh (q + 1) = some (1, 8, [])) (h2 : sh (q + 2) = some (1, 8, [])) (H : pBk S q g) (h10 : g 10 ≤ 8) (st : Int32) (d : Nat) :
    xsem xT E (d + 1) kX0_has [.ref (x + q), .int st] (wW E z x sh S, n) = some (.inl (some (.int (nI (gHas g st (g 10) 0).toNat))), (wW E z x sh S, n)) := by
  rw [eX0_has, QX0_has_0]
  exact l0_has h h1 h2 H h10 st d (g 10) 0 (Nat.zero_add _)
theorem s0_copyFrom (h : sh q = some (sh0 q)) (h1 : sh (q + 1) = some (1, 8, [])) (h2 : sh (q + 2) = some (1, 8, [])) (k : sh o = some (sh0 o)) (k1 : sh (o + 1) = some (1, 8, [])) (k2 : sh (o + 2) = some (1, 8, [])) (ho : o + 3 ≤ q ∨ q + 3 ≤ o) (H : pBk S o g) (h10 : g 10 ≤ 8) (d : Nat) :
    ∃ S', xsem xT E (d + 1) kX0_copyFrom [.ref (x + q), .ref (x + o)] (wW E z x sh S, n) = some (.inl none, (wW E z x sh S', n)) ∧ frm q (q + 3) S S' ∧ pBk S' q g := by
  refine ⟨sA (sA (sS S q 2 (nI (g 10))) (q + 1) (va_cpy (S.2.1 (o + 1)) (S.2.1 (q + 1)) 0 0 (g 10))) (q + 2) (va_cpy (S.2.1 (o + 2)) (S.2.1 (q + 2)) 0 0 (g 10)), ?_, ?_, ?_, fun j hj => ?_⟩
  · rw [eX0_copyFrom, QX0_copyFrom_0]
    simp (disch := omega) only [gO_0 h, gR_0_0 h, gR_0_1 h, gI_0_2 h, gP_0_2 h, gO_0 k, gR_0_0 k, gR_0_1 k, gI_0_2 k, gP_0_2 k, H.1, sS_s, cpI_w k1 h1, cpI_w k2 h2, sS_a, sA_1, sA_n, cI_s, cL_s, cF_s, cD_s, cA_s, cV_s, nI_add, cond_true, cond_false, if_true, if_false]
  · exact frm_tr (frm_tr (frm_sS (by omega) (by omega)) (frm_sA (by omega) (by omega))) (frm_sA (by omega) (by omega))
  · rw [sA_1, sA_1, sS_s]
  · rw [sA_n (by omega), sA_s, sA_s, pk_cpy_in (by omega) (by omega), pk_cpy_in (by omega) (by omega)]
    have := H.2 j hj
    rw [show 0 + (j - 0) = j by omega]
    exact this
-- formula
theorem s1_clear (h : sh q = some (sh1 q)) (d : Nat) : xsem xT E (d + 1) kX1_clear [.ref (x + q)] (wW E z x sh S, n) = some (.inl none, (wW E z x sh (sS S q 1 (nI 0)), n)) := by
  rw [eX1_clear, QX1_clear_0]
  simp (disch := omega) only [gO_1 h, gR_1_0 h, gI_1_1 h, gP_1_1 h, gR_1_2 h, cI_s, cL_s, cF_s, cD_s, cA_s, cV_s, nI_add, cond_true, cond_false, if_true, if_false]
theorem s1_put (h : sh q = some (sh1 q)) (h1 : sh (q + 1) = some (1, 500, [])) {k : Nat} (hk : S.1 q 1 = nI k) (hk2 : k < 500) (v : Int32) (d : Nat) : xsem xT E (d + 1) kX1_put [.ref (x + q), .int v] (wW E z x sh S, n) = some (.inl none, (wW E z x sh (sS (sA S (q + 1) (upd (S.2.1 (q + 1)) k v)) q 1 (nI (k + 1))), n)) := by
  rw [eX1_put, QX1_put_0]
  simp (disch := omega) only [gO_1 h, gR_1_0 h, gI_1_1 h, gP_1_1 h, gR_1_2 h, hk, aN_w h1, iLE_f, sI_w h1, sA_1, QX1_put_32, cI_s, cL_s, cF_s, cD_s, cA_s, cV_s, nI_add, cond_true, cond_false, if_true, if_false]
theorem s1_reset (h : sh q = some (sh1 q)) (h1 : sh (q + 1) = some (1, 500, [])) (h0 : g 11 = 0) (d : Nat) :
    ∃ S', xsem xT E (d + 2) kX1_reset [.ref (x + q)] (wW E z x sh S, n) = some (.inl none, (wW E z x sh S', n)) ∧ frm q (q + 2) S S' ∧ pFo S' q g := by
  refine ⟨sS (sA (sS (sA (sS (sA (sS S q 1 (nI 0)) (q + 1) (upd ((sS S q 1 (nI 0)).2.1 (q + 1)) 0 (-5))) q 1 (nI 1)) (q + 1) (upd ((sS (sA (sS S q 1 (nI 0)) (q + 1) (upd ((sS S q 1 (nI 0)).2.1 (q + 1)) 0 (-5))) q 1 (nI 1)).2.1 (q + 1)) 1 (nI 1))) q 1 (nI 2)) (q + 1) (upd ((sS (sA (sS (sA (sS S q 1 (nI 0)) (q + 1) (upd ((sS S q 1 (nI 0)).2.1 (q + 1)) 0 (-5))) q 1 (nI 1)) (q + 1) (upd ((sS (sA (sS S q 1 (nI 0)) (q + 1) (upd ((sS S q 1 (nI 0)).2.1 (q + 1)) 0 (-5))) q 1 (nI 1)).2.1 (q + 1)) 1 (nI 1))) q 1 (nI 2)).2.1 (q + 1)) 2 (-2))) q 1 (nI 3), ?_, ?_, ?_⟩
  · rw [eX1_reset, QX1_reset_0]
    simp (disch := omega) only [gO_1 h, gR_1_0 h, gI_1_1 h, gP_1_1 h, gR_1_2 h, s1_clear h, cI_s, cL_s, cF_s, cD_s, cA_s, cV_s, nI_add, cond_true, cond_false, if_true, if_false]
    rw [s1_put h h1 sS_s (by omega)]
    simp (disch := omega) only [gO_1 h, gR_1_0 h, gI_1_1 h, gP_1_1 h, gR_1_2 h, cI_s, cL_s, cF_s, cD_s, cA_s, cV_s, nI_add, cond_true, cond_false, if_true, if_false]
    rw [s1_put h h1 sS_s (by omega)]
    simp (disch := omega) only [gO_1 h, gR_1_0 h, gI_1_1 h, gP_1_1 h, gR_1_2 h, cI_s, cL_s, cF_s, cD_s, cA_s, cV_s, nI_add, cond_true, cond_false, if_true, if_false]
    rw [s1_put h h1 sS_s (by omega)]
    simp (disch := omega) only [cI_s, cL_s, cF_s, cD_s, cA_s, cV_s, nI_add, cond_true, cond_false, if_true, if_false]
  · exact frm_tr (frm_tr (frm_tr (frm_tr (frm_tr (frm_tr (frm_sS (by omega) (by omega)) (frm_sA (by omega) (by omega))) (frm_sS (by omega) (by omega))) (frm_sA (by omega) (by omega))) (frm_sS (by omega) (by omega))) (frm_sA (by omega) (by omega))) (frm_sS (by omega) (by omega))
  · refine ⟨fun _ => ⟨sS_s, ?_, ?_, ?_⟩, fun z => absurd h0 z⟩
    · simp only [sS_a, sA_s, pk_us, pk_un, ne_eq, not_false_eq_true, show ¬ ((0 : Nat) = 1) by omega, show ¬ ((0 : Nat) = 2) by omega]
    · simp only [sS_a, sA_s, pk_us, pk_un, ne_eq, not_false_eq_true, show ¬ ((1 : Nat) = 2) by omega]
    · simp only [sS_a, sA_s, pk_us]
theorem s1_copyFrom (h : sh q = some (sh1 q)) (h1 : sh (q + 1) = some (1, 500, [])) (k : sh o = some (sh1 o)) (k1 : sh (o + 1) = some (1, 500, [])) (ho : o + 2 ≤ q ∨ q + 2 ≤ o) (H : pFo S o g) (h11 : g 11 ≤ 500) (d : Nat) :
    ∃ S', xsem xT E (d + 1) kX1_copyFrom [.ref (x + q), .ref (x + o)] (wW E z x sh S, n) = some (.inl none, (wW E z x sh S', n)) ∧ frm q (q + 2) S S' ∧ pFo S' q g := by
  obtain ⟨L, hL, hL2, hL3⟩ : ∃ L, S.1 o 1 = nI L ∧ L ≤ 500 ∧ ((g 11 = 0 → L = 3) ∧ (g 11 ≠ 0 → L = g 11)) := by
    by_cases z : g 11 = 0
    · exact ⟨3, (H.1 z).1, by omega, fun _ => rfl, fun e => absurd z e⟩
    · exact ⟨g 11, (H.2 z).1, h11, fun e => absurd e z, fun _ => rfl⟩
  refine ⟨sA (sS S q 1 (nI L)) (q + 1) (va_cpy (S.2.1 (o + 1)) (S.2.1 (q + 1)) 0 0 L), ?_, ?_, fun z => ?_, fun z => ?_⟩
  · rw [eX1_copyFrom, QX1_copyFrom_0]
    simp (disch := omega) only [gO_1 h, gR_1_0 h, gI_1_1 h, gP_1_1 h, gR_1_2 h, gO_1 k, gR_1_0 k, gI_1_1 k, gP_1_1 k, gR_1_2 k, hL, sS_s, cpI_w k1 h1, sS_a, cI_s, cL_s, cF_s, cD_s, cA_s, cV_s, nI_add, cond_true, cond_false, if_true, if_false]
  · exact frm_tr (frm_sS (by omega) (by omega)) (frm_sA (by omega) (by omega))
  · obtain ⟨e1, e2, e3, e4⟩ := H.1 z
    have hL4 := hL3.1 z
    subst hL4
    refine ⟨sS_s, ?_, ?_, ?_⟩
    · rw [sA_s, pk_cpy_in (by omega) (by omega)]; exact e2
    · rw [sA_s, pk_cpy_in (by omega) (by omega)]; exact e3
    · rw [sA_s, pk_cpy_in (by omega) (by omega)]; exact e4
  · obtain ⟨e1, e2⟩ := H.2 z
    have hL4 := hL3.2 z
    subst hL4
    refine ⟨sS_s, fun j hj => ?_⟩
    rw [sA_s, pk_cpy_in (by omega) (by omega), show 0 + (j - 0) = j by omega]
    exact e2 j hj
-- row
theorem frm_cp {S : xSt} : frm q (q + 3) S (rwC S q o) :=
  frm_tr (frm_tr (frm_tr (frm_tr (frm_sS (by omega) (by omega)) (frm_sS (by omega) (by omega))) (frm_sS (by omega) (by omega))) (frm_sA (by omega) (by omega))) (frm_sA (by omega) (by omega))
theorem pRw_cp (H : pRw S o g) (h8 : g 0 ≤ 8) : pRw (rwC S q o) q g := by
  obtain ⟨h1, h2, h3, h4, h5⟩ := H
  unfold rwC
  refine ⟨?_, ?_, ?_, fun p hp => ?_, fun p hp => ?_⟩
  · rw [sA_1, sA_1, sS_n (by omega), sS_n (by omega), sS_s]; exact h1
  · rw [sA_1, sA_1, sS_n (by omega), sS_s]; exact h2
  · rw [sA_1, sA_1, sS_s]; exact h3
  · rw [sA_n (by omega), sA_s, pk_cpy_in (by omega) (by omega), show 0 + (p - 0) = p by omega]; exact h4 p hp
  · rw [sA_s, pk_cpy_in (by omega) (by omega), show 0 + (p - 0) = p by omega]; exact h5 p hp
theorem frm_mc {S : xSt} : frm q (q + 2) S (mdC S q o) :=
  frm_tr (frm_tr (frm_tr (frm_tr (frm_sA (by omega) (by omega)) (frm_sS (by omega) (by omega))) (frm_sS (by omega) (by omega))) (frm_sS (by omega) (by omega))) (frm_sS (by omega) (by omega))
theorem pMd_cp (H : pMd S o g) (h8 : g 0 ≤ 8) : pMd (mdC S q o) q g := by
  obtain ⟨h1, h2, h3, h4, h5⟩ := H
  unfold mdC
  refine ⟨?_, ?_, ?_, ?_, fun p hp => ?_⟩
  · rw [sS_n (by omega), sS_n (by omega), sS_n (by omega), sS_s]; exact h1
  · rw [sS_n (by omega), sS_n (by omega), sS_s]; exact h2
  · rw [sS_n (by omega), sS_s]; exact h3
  · rw [sS_s]; exact h4
  · rw [sS_a, sS_a, sS_a, sS_a, sA_s, pk_cpy_in (by omega) (by omega), show 0 + (p - 0) = p by omega]; exact h5 p hp
theorem s2_copyFrom (h : hG sh q) (k : hG sh o) (ho : o + 12 ≤ q ∨ q + 12 ≤ o) (H : pG S o g) (h8 : g 0 ≤ 8) (h10 : g 10 ≤ 8) (h11 : g 11 ≤ 500) (d : Nat) :
    ∃ S', xsem xT E (d + 2) kX2_copyFrom [.ref (x + q), .ref (x + o)] (wW E z x sh S, n) = some (.inl none, (wW E z x sh S', n)) ∧ frm q (q + 12) S S' ∧ pG S' q g := by
  obtain ⟨a0, a1, a2, a3, a4, a5, a6, a7, a8, a9, a10, a11⟩ := h
  obtain ⟨b0, b1, b2, b3, b4, b5, b6, b7, b8, b9, b10, b11⟩ := k
  have f1 : frm (q + 1) (q + 4) S (rwC S (q + 1) (o + 1)) := frm_cp
  have P1 := pRw_cp (q := q + 1) H.1 h8
  have H1 := pG_fr f1 (by omega) H
  generalize hS1 : rwC S (q + 1) (o + 1) = S1 at f1 P1 H1
  have f2 : frm (q + 4) (q + 6) S1 (mdC S1 (q + 4) (o + 4)) := frm_mc
  have P2 := pMd_cp (q := q + 4) H1.2.1 h8
  have H2 := pG_fr f2 (by omega) H1
  have P1 := pRw_fr f2 (by omega) P1
  generalize hS2 : mdC S1 (q + 4) (o + 4) = S2 at f2 P2 H2 P1
  obtain ⟨S3, e3, f3, P3⟩ := s0_copyFrom (E := E) (z := z) (x := x) (n := n) a6 a7 a8 b6 b7 b8 (by omega) H2.2.2.1 h10 d
  have H3 := pG_fr f3 (by omega) H2
  obtain ⟨S4, e4, f4, P4⟩ := s1_copyFrom (E := E) (z := z) (x := x) (n := n) a9 a10 b9 b10 (by omega) H3.2.2.2.1 h11 d
  have H4 := pG_fr f4 (by omega) H3
  have P1 := pRw_fr f4 (by omega) (pRw_fr f3 (by omega) P1)
  have P2 := pMd_fr f4 (by omega) (pMd_fr f3 (by omega) P2)
  have P3 := pBk_fr f4 (by omega) P3
  obtain ⟨_, _, _, _, g4, g5, g6, g7, g8⟩ := H4
  have F : frm q (q + 12) S S4 := frm_tr (frm_tr (frm_tr (frm_mo f1 (by omega) (by omega)) (frm_mo f2 (by omega) (by omega))) (frm_mo f3 (by omega) (by omega))) (frm_mo f4 (by omega) (by omega))
  have F5 : frm q (q + 1) S4 (sS (sS (sS (sS (sS S4 q 4 (nI (g 2))) q 5 (nI (g 3))) q 6 (nI (g 7))) q 7 (nI (g 8))) q 8 (nI (g 9))) := frm_tr (frm_tr (frm_tr (frm_tr (frm_sS (by omega) (by omega)) (frm_sS (by omega) (by omega))) (frm_sS (by omega) (by omega))) (frm_sS (by omega) (by omega))) (frm_sS (by omega) (by omega))
  refine ⟨sS (sS (sS (sS (sS S4 q 4 (nI (g 2))) q 5 (nI (g 3))) q 6 (nI (g 7))) q 7 (nI (g 8))) q 8 (nI (g 9)), ?_, frm_tr F (frm_mo F5 (by omega) (by omega)), pRw_fr F5 (by omega) P1, pMd_fr F5 (by omega) P2, pBk_fr F5 (by omega) P3, pFo_fr F5 (by omega) P4, ?_, ?_, ?_, ?_, ?_⟩
  · rw [eX2_copyFrom, QX2_copyFrom_0]
    simp (disch := omega) only [gO_2 a0, gR_2_0 a0, gR_2_1 a0, gR_2_2 a0, gR_2_3 a0, gI_2_4 a0, gP_2_4 a0, gI_2_5 a0, gP_2_5 a0, gI_2_6 a0, gP_2_6 a0, gI_2_7 a0, gP_2_7 a0, gI_2_8 a0, gP_2_8 a0, gO_2 b0, gR_2_0 b0, gR_2_1 b0, gR_2_2 b0, gR_2_3 b0, gI_2_4 b0, gP_2_4 b0, gI_2_5 b0, gP_2_5 b0, gI_2_6 b0, gP_2_6 b0, gI_2_7 b0, gP_2_7 b0, gI_2_8 b0, gP_2_8 b0, gO_5 a1, gI_5_0 a1, gP_5_0 a1, gI_5_1 a1, gP_5_1 a1, gI_5_2 a1, gP_5_2 a1, gR_5_3 a1, gR_5_4 a1, cI_s, cL_s, cF_s, cD_s, cA_s, cV_s, nI_add, cond_true, cond_false, if_true, if_false]
    rw [s5_copyFrom a1 a2 a3 b1 b2 b3 (by omega), hS1]
    simp (disch := omega) only [gO_2 a0, gR_2_0 a0, gR_2_1 a0, gR_2_2 a0, gR_2_3 a0, gI_2_4 a0, gP_2_4 a0, gI_2_5 a0, gP_2_5 a0, gI_2_6 a0, gP_2_6 a0, gI_2_7 a0, gP_2_7 a0, gI_2_8 a0, gP_2_8 a0, gO_2 b0, gR_2_0 b0, gR_2_1 b0, gR_2_2 b0, gR_2_3 b0, gI_2_4 b0, gP_2_4 b0, gI_2_5 b0, gP_2_5 b0, gI_2_6 b0, gP_2_6 b0, gI_2_7 b0, gP_2_7 b0, gI_2_8 b0, gP_2_8 b0, gO_4 a4, gR_4_0 a4, gI_4_1 a4, gP_4_1 a4, gI_4_2 a4, gP_4_2 a4, gI_4_3 a4, gP_4_3 a4, gI_4_4 a4, gP_4_4 a4, cI_s, cL_s, cF_s, cD_s, cA_s, cV_s, nI_add, cond_true, cond_false, if_true, if_false]
    rw [s4_copyFrom a4 a5 b4 b5 (by omega), hS2]
    simp (disch := omega) only [gO_2 a0, gR_2_0 a0, gR_2_1 a0, gR_2_2 a0, gR_2_3 a0, gI_2_4 a0, gP_2_4 a0, gI_2_5 a0, gP_2_5 a0, gI_2_6 a0, gP_2_6 a0, gI_2_7 a0, gP_2_7 a0, gI_2_8 a0, gP_2_8 a0, gO_2 b0, gR_2_0 b0, gR_2_1 b0, gR_2_2 b0, gR_2_3 b0, gI_2_4 b0, gP_2_4 b0, gI_2_5 b0, gP_2_5 b0, gI_2_6 b0, gP_2_6 b0, gI_2_7 b0, gP_2_7 b0, gI_2_8 b0, gP_2_8 b0, gO_0 a6, gR_0_0 a6, gR_0_1 a6, gI_0_2 a6, gP_0_2 a6, cI_s, cL_s, cF_s, cD_s, cA_s, cV_s, nI_add, cond_true, cond_false, if_true, if_false]
    rw [e3]
    simp (disch := omega) only [gO_2 a0, gR_2_0 a0, gR_2_1 a0, gR_2_2 a0, gR_2_3 a0, gI_2_4 a0, gP_2_4 a0, gI_2_5 a0, gP_2_5 a0, gI_2_6 a0, gP_2_6 a0, gI_2_7 a0, gP_2_7 a0, gI_2_8 a0, gP_2_8 a0, gO_2 b0, gR_2_0 b0, gR_2_1 b0, gR_2_2 b0, gR_2_3 b0, gI_2_4 b0, gP_2_4 b0, gI_2_5 b0, gP_2_5 b0, gI_2_6 b0, gP_2_6 b0, gI_2_7 b0, gP_2_7 b0, gI_2_8 b0, gP_2_8 b0, gO_1 a9, gR_1_0 a9, gI_1_1 a9, gP_1_1 a9, gR_1_2 a9, cI_s, cL_s, cF_s, cD_s, cA_s, cV_s, nI_add, cond_true, cond_false, if_true, if_false]
    rw [e4]
    simp (disch := omega) only [gO_2 a0, gR_2_0 a0, gR_2_1 a0, gR_2_2 a0, gR_2_3 a0, gI_2_4 a0, gP_2_4 a0, gI_2_5 a0, gP_2_5 a0, gI_2_6 a0, gP_2_6 a0, gI_2_7 a0, gP_2_7 a0, gI_2_8 a0, gP_2_8 a0, gO_2 b0, gR_2_0 b0, gR_2_1 b0, gR_2_2 b0, gR_2_3 b0, gI_2_4 b0, gP_2_4 b0, gI_2_5 b0, gP_2_5 b0, gI_2_6 b0, gP_2_6 b0, gI_2_7 b0, gP_2_7 b0, gI_2_8 b0, gP_2_8 b0, g4, g5, g6, g7, g8, sS_nq, cI_s, cL_s, cF_s, cD_s, cA_s, cV_s, nI_add, cond_true, cond_false, if_true, if_false]
  · rw [sS_n (by omega), sS_n (by omega), sS_n (by omega), sS_n (by omega), sS_s]
  · rw [sS_n (by omega), sS_n (by omega), sS_n (by omega), sS_s]
  · rw [sS_n (by omega), sS_n (by omega), sS_s]
  · rw [sS_n (by omega), sS_s]
  · rw [sS_s]
end BLK
