/-! MIND: what it tells; knowing, ruling out, mixing, copies. -/
def mBest (f : Nat → Nat) : Nat → Nat
  | 0 => 0
  | i + 1 => if f (mBest f i) < f i then i else mBest f i
theorem mBest_lt (f : Nat → Nat) : ∀ i, 0 < i → mBest f i < i := by
  intro i
  induction i with
  | zero => exact fun h => absurd h (Nat.lt_irrefl _)
  | succ i ih =>
    intro _
    unfold mBest
    split
    · exact Nat.lt_succ_self i
    · rcases Nat.eq_zero_or_pos i with h | h
      · subst h; exact Nat.lt_succ_self 0
      · exact Nat.lt_succ_of_lt (ih h)
def mAhead (f : Nat → Nat) (p : Nat) : Nat → Nat
  | 0 => 0
  | i + 1 => if f p < f i ∨ (f i = f p ∧ i < p) then mAhead f p i + 1 else mAhead f p i
def mRank (f : Nat → Nat) (pl : Nat) (r : Int32) : Nat → Nat → Int32
  | 0, _ => -1
  | k + 1, i => if 0 < f i ∧ nI (mAhead f i pl) = r then nI i else mRank f pl r k (i + 1)
def mMix (a c t : Nat) (f : Nat → Nat) : Nat → Nat := updN (updN (fun p => f p * 100) a (f a * (100 - t) + f c * t)) c (f c * (100 - t) + f a * t)
def mOne (a : Nat) : Nat → Nat := updN (fun _ => 0) a 1
section MIND3
variable {E : xEn} {z : Nat → Option va_E} {x : Nat} {sh : Nat → Option xSh} {S : xSt} {n q pl : Nat} {f : Nat → Nat}
theorem l4_count (h : sh q = some (sh4 q)) (hb : sh (q + 1) = some (1, 9, [])) (hp : S.1 q 1 = nI pl) (hpl : pl ≤ 9) (hf : ∀ p, p < pl → S.2.1 (q + 1) p = nI (f p)) (hB : ∀ p, p < pl → f p < 2 ^ 31) (d : Nat) :
    ∀ k i, i + k = pl → qX4_countBelieved_4 E d (x + q) (nI (mCnt f i)) (nI i) (wW E z x sh S, n) = some (.inl (some (.int (nI (mCnt f pl)))), (wW E z x sh S, n)) := by
  intro k
  induction k with
  | zero =>
    intro i hi
    have hi : i = pl := hi
    subst hi
    rw [QX4_countBelieved_4]
    simp (disch := omega) only [gO_4 h, gR_4_0 h, gI_4_1 h, gP_4_1 h, gI_4_2 h, gP_4_2 h, gI_4_3 h, gP_4_3 h, gI_4_4 h, gP_4_4 h, hp, iLE_t, QX4_countBelieved_30, cI_s, cL_s, cF_s, cD_s, cA_s, cV_s, nI_add, cond_true, cond_false, if_true, if_false]
  | succ k ih =>
    intro i hi
    have hi2 := hB i (by omega)
    have ih := ih (i + 1) (by omega)
    rw [show mCnt f (i + 1) = if 0 < f i then mCnt f i + 1 else mCnt f i from rfl] at ih
    rw [QX4_countBelieved_4]
    by_cases h0 : 0 < f i
    · rw [if_pos h0] at ih
      simp (disch := omega) only [gO_4 h, gR_4_0 h, gI_4_1 h, gP_4_1 h, gI_4_2 h, gP_4_2 h, gI_4_3 h, gP_4_3 h, gI_4_4 h, gP_4_4 h, hp, iLE_f, aI_w hb, hf i (by omega), QX4_countBelieved_24, cI_s, cL_s, cF_s, cD_s, cA_s, cV_s, nI_add, cond_true, cond_false, if_true, if_false]
      exact ih
    · rw [if_neg h0] at ih
      simp (disch := omega) only [gO_4 h, gR_4_0 h, gI_4_1 h, gP_4_1 h, gI_4_2 h, gP_4_2 h, gI_4_3 h, gP_4_3 h, gI_4_4 h, gP_4_4 h, hp, iLE_f, iLE_t, aI_w hb, hf i (by omega), QX4_countBelieved_24, cI_s, cL_s, cF_s, cD_s, cA_s, cV_s, nI_add, cond_true, cond_false, if_true, if_false]
      exact ih
theorem s4_count (h : sh q = some (sh4 q)) (hb : sh (q + 1) = some (1, 9, [])) (hp : S.1 q 1 = nI pl) (hpl : pl ≤ 9) (hf : ∀ p, p < pl → S.2.1 (q + 1) p = nI (f p)) (hB : ∀ p, p < pl → f p < 2 ^ 31) (d : Nat) :
    xsem xT E (d + 1) kX4_countBelieved [.ref (x + q)] (wW E z x sh S, n) = some (.inl (some (.int (nI (mCnt f pl)))), (wW E z x sh S, n)) := by
  rw [eX4_countBelieved, QX4_countBelieved_0]
  exact l4_count h hb hp hpl hf hB d pl 0 (Nat.zero_add _)
theorem l4_best (h : sh q = some (sh4 q)) (hb : sh (q + 1) = some (1, 9, [])) (hp : S.1 q 1 = nI (pl + 1)) (hpl : pl ≤ 8) (hf : ∀ p, p < pl → S.2.1 (q + 1) p = nI (f p)) (hB : ∀ p, p < pl → f p < 2 ^ 31) (d : Nat) :
    ∀ k i, i + k = pl → 0 < i → qX4_likeliestShell_4 E d (x + q) (nI (mBest f i)) (nI i) (wW E z x sh S, n) = some (.inl (some (.int (nI (mBest f pl)))), (wW E z x sh S, n)) := by
  intro k
  induction k with
  | zero =>
    intro i hi _
    have hi : i = pl := hi
    subst hi
    rw [QX4_likeliestShell_4]
    simp (disch := omega) only [gO_4 h, gR_4_0 h, gI_4_1 h, gP_4_1 h, gI_4_2 h, gP_4_2 h, gI_4_3 h, gP_4_3 h, gI_4_4 h, gP_4_4 h, hp, pk_sub, Nat.add_sub_cancel, iLE_t, QX4_likeliestShell_37, cI_s, cL_s, cF_s, cD_s, cA_s, cV_s, nI_add, cond_true, cond_false, if_true, if_false]
  | succ k ih =>
    intro i hi h0
    have hi2 := hB i (by omega)
    have hm := mBest_lt f i h0
    have hm2 := hB (mBest f i) (by omega)
    have ih := ih (i + 1) (by omega) (by omega)
    rw [show mBest f (i + 1) = if f (mBest f i) < f i then i else mBest f i from rfl] at ih
    rw [QX4_likeliestShell_4]
    by_cases hc : f (mBest f i) < f i
    · rw [if_pos hc] at ih
      simp (disch := omega) only [gO_4 h, gR_4_0 h, gI_4_1 h, gP_4_1 h, gI_4_2 h, gP_4_2 h, gI_4_3 h, gP_4_3 h, gI_4_4 h, gP_4_4 h, hp, pk_sub, Nat.add_sub_cancel, iLE_f, aI_w hb, hf i (by omega), hf (mBest f i) (by omega), QX4_likeliestShell_31, cI_s, cL_s, cF_s, cD_s, cA_s, cV_s, nI_add, cond_true, cond_false, if_true, if_false]
      exact ih
    · rw [if_neg hc] at ih
      simp (disch := omega) only [gO_4 h, gR_4_0 h, gI_4_1 h, gP_4_1 h, gI_4_2 h, gP_4_2 h, gI_4_3 h, gP_4_3 h, gI_4_4 h, gP_4_4 h, hp, pk_sub, Nat.add_sub_cancel, iLE_f, iLE_t, aI_w hb, hf i (by omega), hf (mBest f i) (by omega), QX4_likeliestShell_31, cI_s, cL_s, cF_s, cD_s, cA_s, cV_s, nI_add, cond_true, cond_false, if_true, if_false]
      exact ih
theorem s4_best (h : sh q = some (sh4 q)) (hb : sh (q + 1) = some (1, 9, [])) (hp : S.1 q 1 = nI (pl + 1)) (hpl : pl ≤ 8) (h0 : 0 < pl) (hf : ∀ p, p < pl → S.2.1 (q + 1) p = nI (f p)) (hB : ∀ p, p < pl → f p < 2 ^ 31) (d : Nat) :
    xsem xT E (d + 1) kX4_likeliestShell [.ref (x + q)] (wW E z x sh S, n) = some (.inl (some (.int (nI (mBest f pl)))), (wW E z x sh S, n)) := by
  rw [eX4_likeliestShell, QX4_likeliestShell_0]
  refine Eq.trans ?_ (l4_best h hb hp hpl hf hB d (pl - 1) 1 (by omega) (by omega))
  rw [show mBest f 1 = 0 by unfold mBest; rw [show mBest f 0 = 0 from rfl, if_neg (Nat.lt_irrefl _)]]
theorem lJ_fill {N : Nat} (hb : sh q = some (1, N, [])) (hN : N < 2 ^ 31) (v : Nat) (d : Nat) :
    ∀ k i, i + k = N → qJ7_fill_53178_5 E d (x + q) (nI v) (nI i) (nI N) (wW E z x sh (sA S q (vw i (fun _ => v) (S.2.1 q))), n) = some (.inl none, (wW E z x sh (sA S q (vw N (fun _ => v) (S.2.1 q))), n)) := by
  intro k
  induction k with
  | zero =>
    intro i hi
    have hi : i = N := hi
    subst hi
    rw [QJ7_fill_53178_5]
    simp (disch := omega) only [iLE_t, QJ7_fill_53178_20, cI_s, cL_s, cF_s, cD_s, cA_s, cV_s, nI_add, cond_true, cond_false, if_true, if_false]
  | succ k ih =>
    intro i hi
    rw [QJ7_fill_53178_5]
    simp (disch := omega) only [iLE_f, sI_w hb, sA_s, sA_sA, cI_s, cL_s, cF_s, cD_s, cA_s, cV_s, nI_add, cond_true, cond_false, if_true, if_false]
    rw [show nI v = nI ((fun _ => v) i) from rfl, vw_succ]
    exact ih (i + 1) (by omega)
theorem sJ_fill {N : Nat} (hb : sh q = some (1, N, [])) (hN : N < 2 ^ 31) (v : Nat) (d : Nat) :
    xsem xT E (d + 1) kJ7_fill_53178 [.ref (x + q), .int (nI v)] (wW E z x sh S, n) = some (.inl none, (wW E z x sh (sA S q (vw N (fun _ => v) (S.2.1 q))), n)) := by
  rw [eJ7_fill_53178, QJ7_fill_53178_0]
  simp (disch := omega) only [aN_w hb, cI_s, cL_s, cF_s, cD_s, cA_s, cV_s, nI_add, cond_true, cond_false, if_true, if_false]
  refine Eq.trans ?_ (lJ_fill hb hN v d N 0 (Nat.zero_add _))
  rw [vw_0, sA_self]
theorem s4_know (h : sh q = some (sh4 q)) (hb : sh (q + 1) = some (1, 9, [])) {a : Nat} (ha : a < 9) (d : Nat) :
    xsem xT E (d + 2) kX4_know [.ref (x + q), .int (nI a)] (wW E z x sh S, n) = some (.inl none, (wW E z x sh (sA S (q + 1) (vw 9 (mOne a) (S.2.1 (q + 1)))), n)) := by
  rw [eX4_know, QX4_know_0]
  simp (disch := omega) only [gO_4 h, gR_4_0 h, gI_4_1 h, gP_4_1 h, gI_4_2 h, gP_4_2 h, gI_4_3 h, gP_4_3 h, gI_4_4 h, gP_4_4 h, cI_s, cL_s, cF_s, cD_s, cA_s, cV_s, nI_add, cond_true, cond_false, if_true, if_false]
  rw [sJ_fill hb (by omega)]
  simp (disch := omega) only [gO_4 h, gR_4_0 h, gI_4_1 h, gP_4_1 h, gI_4_2 h, gP_4_2 h, gI_4_3 h, gP_4_3 h, gI_4_4 h, gP_4_4 h, sI_w hb, sA_s, sA_sA, cI_s, cL_s, cF_s, cD_s, cA_s, cV_s, nI_add, cond_true, cond_false, if_true, if_false]
  rw [vw_upd ha]
  rfl
theorem s4_ruleOut (h : sh q = some (sh4 q)) (hb : sh (q + 1) = some (1, 9, [])) (hp : S.1 q 1 = nI pl) (hpl : pl ≤ 9) (hf : ∀ p, p < pl → S.2.1 (q + 1) p = nI (f p)) (hB : ∀ p, p < pl → f p < 2 ^ 31) {a : Nat} (ha : a < pl) (d : Nat) :
    xsem xT E (d + 3) kX4_ruleOut [.ref (x + q), .int (nI a)] (wW E z x sh S, n) = some (.inl none, (wW E z x sh (sA S (q + 1) (vw pl (mDiv pl (updN f a 0)) (S.2.1 (q + 1)))), n)) := by
  have hv : S.2.1 (q + 1) = vw pl f (S.2.1 (q + 1)) := (vw_self hf).symm
  have hu : upd (S.2.1 (q + 1)) a (nI 0) = vw pl (updN f a 0) (S.2.1 (q + 1)) := by
    conv => lhs; rw [hv]
    rw [vw_upd ha]
  rw [eX4_ruleOut, QX4_ruleOut_0]
  simp (disch := omega) only [gO_4 h, gR_4_0 h, gI_4_1 h, gP_4_1 h, gI_4_2 h, gP_4_2 h, gI_4_3 h, gP_4_3 h, gI_4_4 h, gP_4_4 h, sI_w hb, hu, cI_s, cL_s, cF_s, cD_s, cA_s, cV_s, nI_add, cond_true, cond_false, if_true, if_false]
  rw [s4_divide h hb (by exact hp) hpl (f := updN f a 0) (fun p hp => by rw [sA_s, vw_in hp]) (fun p hp => by
    unfold updN
    split
    · omega
    · exact hB p hp)]
  simp (disch := omega) only [sA_s, sA_sA, vw_vw, cI_s, cL_s, cF_s, cD_s, cA_s, cV_s, nI_add, cond_true, cond_false, if_true, if_false]
/-- a mind's copy -/
def mdC (S : xSt) (q o : Nat) : xSt :=
  sS (sS (sS (sS (sA S (q + 1) (va_cpy (S.2.1 (o + 1)) (S.2.1 (q + 1)) 0 0 9)) q 1 (S.1 o 1)) q 2 (S.1 o 2)) q 3 (S.1 o 3)) q 4 (S.1 o 4)
theorem s4_copyFrom {o : Nat} (h : sh q = some (sh4 q)) (hb : sh (q + 1) = some (1, 9, [])) (g : sh o = some (sh4 o)) (gb : sh (o + 1) = some (1, 9, [])) (ho : o + 1 < q ∨ q + 1 < o) (d : Nat) :
    xsem xT E (d + 1) kX4_copyFrom [.ref (x + q), .ref (x + o)] (wW E z x sh S, n) = some (.inl none, (wW E z x sh (mdC S q o), n)) := by
  rw [eX4_copyFrom, QX4_copyFrom_0]
  simp (disch := omega) only [gO_4 h, gR_4_0 h, gI_4_1 h, gP_4_1 h, gI_4_2 h, gP_4_2 h, gI_4_3 h, gP_4_3 h, gI_4_4 h, gP_4_4 h, gO_4 g, gR_4_0 g, gI_4_1 g, gP_4_1 g, gI_4_2 g, gP_4_2 g, gI_4_3 g, gP_4_3 g, gI_4_4 g, gP_4_4 g, aN_w hb, cpI_w gb hb, sS_nq, sS_a, sA_1, cI_s, cL_s, cF_s, cD_s, cA_s, cV_s, nI_add, cond_true, cond_false, if_true, if_false]
  rfl
def mdR (S : xSt) (q s : Nat) : xSt :=
  sA (sS (sS (sS (sS S q 1 (nI (s + 1))) q 2 (nI 80)) q 3 (nI 1)) q 4 (nI 0)) (q + 1) (vw 9 (mOne 0) (S.2.1 (q + 1)))
theorem s4_reset {s : Nat} (h : sh q = some (sh4 q)) (hb : sh (q + 1) = some (1, 9, [])) (d : Nat) :
    xsem xT E (d + 3) kX4_reset [.ref (x + q), .int (nI s)] (wW E z x sh S, n) = some (.inl none, (wW E z x sh (mdR S q s), n)) := by
  rw [eX4_reset, QX4_reset_0]
  simp (disch := omega) only [gO_4 h, gR_4_0 h, gI_4_1 h, gP_4_1 h, gI_4_2 h, gP_4_2 h, gI_4_3 h, gP_4_3 h, gI_4_4 h, gP_4_4 h, cI_s, cL_s, cF_s, cD_s, cA_s, cV_s, nI_add, cond_true, cond_false, if_true, if_false]
  rw [s4_know h hb (by omega)]
  simp (disch := omega) only [cI_s, cL_s, cF_s, cD_s, cA_s, cV_s, nI_add, cond_true, cond_false, if_true, if_false]
  rfl
theorem l4_mix (h : sh q = some (sh4 q)) (hb : sh (q + 1) = some (1, 9, [])) (hp : S.1 q 1 = nI pl) (hpl : pl ≤ 9) (hf : ∀ p, p < pl → S.2.1 (q + 1) p = nI (f p)) (a c va vc : Int32) (d : Nat) :
    ∀ k i, i + k = pl → qX4_mix_18 E d (x + q) a c va vc (nI i) (wW E z x sh (sA S (q + 1) (vw i (fun p => f p * 100) (S.2.1 (q + 1)))), n) = qX4_mix_45 E d (x + q) a c va vc (wW E z x sh (sA S (q + 1) (vw pl (fun p => f p * 100) (S.2.1 (q + 1)))), n) := by
  intro k
  induction k with
  | zero =>
    intro i hi
    have hi : i = pl := hi
    subst hi
    rw [QX4_mix_18]
    simp (disch := omega) only [gO_4 h, gR_4_0 h, gI_4_1 h, gP_4_1 h, gI_4_2 h, gP_4_2 h, gI_4_3 h, gP_4_3 h, gI_4_4 h, gP_4_4 h, sA_1, hp, iLE_t, cI_s, cL_s, cF_s, cD_s, cA_s, cV_s, nI_add, cond_true, cond_false, if_true, if_false]
  | succ k ih =>
    intro i hi
    rw [QX4_mix_18]
    simp (disch := omega) only [gO_4 h, gR_4_0 h, gI_4_1 h, gP_4_1 h, gI_4_2 h, gP_4_2 h, gI_4_3 h, gP_4_3 h, gI_4_4 h, gP_4_4 h, sA_1, hp, iLE_f, aI_w hb, sI_w hb, sA_s, sA_sA, vw_out (Nat.le_refl i), hf i (by omega), pk_mul, cI_s, cL_s, cF_s, cD_s, cA_s, cV_s, nI_add, cond_true, cond_false, if_true, if_false]
    rw [show nI (f i * 100) = nI ((fun p => f p * 100) i) from rfl, vw_succ]
    exact ih (i + 1) (by omega)
theorem s4_mix (h : sh q = some (sh4 q)) (hb : sh (q + 1) = some (1, 9, [])) (hp : S.1 q 1 = nI pl) (hpl : pl ≤ 9) (hf : ∀ p, p < pl → S.2.1 (q + 1) p = nI (f p)) {a c t : Nat} (ht : S.1 q 2 = nI t) (ht2 : t ≤ 100) (ha : a < pl) (hc : c < pl) (d : Nat) :
    xsem xT E (d + 1) kX4_mix [.ref (x + q), .int (nI a), .int (nI c)] (wW E z x sh S, n) = some (.inl none, (wW E z x sh (sA S (q + 1) (vw pl (mMix a c t f) (S.2.1 (q + 1)))), n)) := by
  rw [eX4_mix, QX4_mix_0]
  simp (disch := omega) only [gO_4 h, gR_4_0 h, gI_4_1 h, gP_4_1 h, gI_4_2 h, gP_4_2 h, gI_4_3 h, gP_4_3 h, gI_4_4 h, gP_4_4 h, aI_w hb, hf a ha, hf c hc, cI_s, cL_s, cF_s, cD_s, cA_s, cV_s, nI_add, cond_true, cond_false, if_true, if_false]
  have hl := l4_mix (E := E) (z := z) (x := x) (n := n) h hb hp hpl hf (nI a) (nI c) (nI (f a)) (nI (f c)) d pl 0 (Nat.zero_add _)
  rw [vw_0, sA_self] at hl
  rw [hl, QX4_mix_45]
  simp (disch := omega) only [gO_4 h, gR_4_0 h, gI_4_1 h, gP_4_1 h, gI_4_2 h, gP_4_2 h, gI_4_3 h, gP_4_3 h, gI_4_4 h, gP_4_4 h, sA_1, sI_w hb, sA_s, sA_sA, ht, pk_sub, pk_mul, cI_s, cL_s, cF_s, cD_s, cA_s, cV_s, nI_add, cond_true, cond_false, if_true, if_false]
  rw [vw_upd ha, vw_upd hc]
  rfl
end MIND3
