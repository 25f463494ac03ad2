/-! ROW: exchanging, copies, what it tells. -/
theorem bbit_b (c p : Nat) : bbit c p = (c.testBit p).toNat := by
  unfold bbit
  cases c.testBit p <;> rfl
theorem sS_sS {S : xSt} {q k : Nat} {v w : Int32} : sS (sS S q k v) q k w = sS S q k w := by
  unfold sS
  congr 1
  funext q' k'
  dsimp only
  split <;> rfl
def rwX (S : xSt) (q a b c ball : Nat) : xSt :=
  sS (sS (sA (sA S (q + 1) (upd (upd (S.2.1 (q + 1)) a (S.2.1 (q + 1) b)) b (S.2.1 (q + 1) a))) (q + 2) (upd (upd (S.2.1 (q + 2)) a (S.2.1 (q + 2) b + nI 1)) b (S.2.1 (q + 2) a + nI 1)))
    q 2 (nI (bset (bset c a (c.testBit b)) b (c.testBit a)))) q 1 (nI (mBall ball a b))
theorem sA_comm {S : xSt} {q q' : Nat} {f g : Nat → Int32} (h : q ≠ q') : sA (sA S q f) q' g = sA (sA S q' g) q f := by
  unfold sA
  congr 2
  funext r
  dsimp only
  by_cases h1 : r = q
  · subst h1
    rw [if_neg h, if_pos rfl, if_pos rfl]
  · by_cases h2 : r = q'
    · subst h2
      rw [if_pos rfl, if_neg h1, if_pos rfl]
    · rw [if_neg h2, if_neg h1, if_neg h1, if_neg h2]
section ROW2
variable {E : xEn} {z : Nat → Option va_E} {x : Nat} {sh : Nat → Option xSh} {S : xSt} {n q s : Nat}
theorem s5_exchange (h : sh q = some (sh5 q)) (h1 : sh (q + 1) = some (1, 8, [])) (h2 : sh (q + 2) = some (1, 8, [])) (hs : S.1 q 0 = nI s) (hs8 : s ≤ 8) {c : Nat} (hc : S.1 q 2 = nI c) (hc8 : c < 256) {ball : Nat} (hbl : S.1 q 1 = nI ball) (hb2 : ball < 2 ^ 31) {a b : Nat} (ha : a < s) (hb : b < s) (hab : a ≠ b) (d : Nat) :
    xsem xT E (d + 3) kX5_exchange [.ref (x + q), .int (nI a), .int (nI b)] (wW E z x sh S, n) = some (.inl none, (wW E z x sh (rwX S q a b c ball), n)) := by
  have hz : ∀ (S : xSt) (q : Nat) (f : Nat → Int32), (sA S q f).1 = S.1 := fun _ _ _ => rfl
  have hc1 := bset_lt (c.testBit b) c hc8 a (by omega)
  rw [eX5_exchange, QX5_exchange_0]
  simp (disch := omega) only [gO_5 h, gI_5_0 h, gP_5_0 h, gI_5_1 h, gP_5_1 h, gI_5_2 h, gP_5_2 h, gR_5_3 h, gR_5_4 h, aI_w h1, aI_w h2, sI_w h1, sI_w h2, sA_s, sA_sA, sA_n, cI_s, cL_s, cF_s, cD_s, cA_s, cV_s, nI_add, cond_true, cond_false, if_true, if_false]
  rw [s5_isScratched h (s := s) (by simpa only [hz] using hs) hs8 (c := c) (by simpa only [hz] using hc) hc8 ha]
  simp (disch := omega) only [gO_5 h, gI_5_0 h, gP_5_0 h, gI_5_1 h, gP_5_1 h, gI_5_2 h, gP_5_2 h, gR_5_3 h, gR_5_4 h, cI_s, cL_s, cF_s, cD_s, cA_s, cV_s, nI_add, cond_true, cond_false, if_true, if_false]
  rw [s5_isScratched h (s := s) (by simpa only [hz] using hs) hs8 (c := c) (by simpa only [hz] using hc) hc8 hb]
  simp (disch := omega) only [gO_5 h, gI_5_0 h, gP_5_0 h, gI_5_1 h, gP_5_1 h, gI_5_2 h, gP_5_2 h, gR_5_3 h, gR_5_4 h, bbit_b, cI_s, cL_s, cF_s, cD_s, cA_s, cV_s, nI_add, cond_true, cond_false, if_true, if_false]
  rw [s5_setScratched h (s := s) (by simpa only [hz] using hs) hs8 (c := c) (by simpa only [hz] using hc) hc8 ha]
  simp (disch := omega) only [gO_5 h, gI_5_0 h, gP_5_0 h, gI_5_1 h, gP_5_1 h, gI_5_2 h, gP_5_2 h, gR_5_3 h, gR_5_4 h, cI_s, cL_s, cF_s, cD_s, cA_s, cV_s, nI_add, cond_true, cond_false, if_true, if_false]
  rw [s5_setScratched h (s := s) (by simpa only [hz, sS_n, ne_eq, show ¬ (0 = 2) by omega, not_false_iff, sS_n (show 0 ≠ 2 by omega)] using hs) hs8 (c := bset c a (c.testBit b)) sS_s hc1 hb]
  simp (disch := omega) only [gO_5 h, gI_5_0 h, gP_5_0 h, gI_5_1 h, gP_5_1 h, gI_5_2 h, gP_5_2 h, gR_5_3 h, gR_5_4 h, sS_sS, sS_n (show 1 ≠ 2 by omega), hz, hbl, cI_s, cL_s, cF_s, cD_s, cA_s, cV_s, nI_add, cond_true, cond_false, if_true, if_false]
  rw [s5_placeBehind hb2 (by omega) (by omega)]
  simp (disch := omega) only [gO_5 h, gI_5_0 h, gP_5_0 h, gI_5_1 h, gP_5_1 h, gI_5_2 h, gP_5_2 h, gR_5_3 h, gR_5_4 h, cI_s, cL_s, cF_s, cD_s, cA_s, cV_s, nI_add, cond_true, cond_false, if_true, if_false]
  rfl
/-- a copy of a row -/
def rwC (S : xSt) (q o : Nat) : xSt :=
  sA (sA (sS (sS (sS S q 0 (S.1 o 0)) q 1 (S.1 o 1)) q 2 (S.1 o 2)) (q + 1) (va_cpy (S.2.1 (o + 1)) (S.2.1 (q + 1)) 0 0 8)) (q + 2) (va_cpy (S.2.1 (o + 2)) (S.2.1 (q + 2)) 0 0 8)
theorem s5_copyFrom {o : Nat} (h : sh q = some (sh5 q)) (h1 : sh (q + 1) = some (1, 8, [])) (h2 : sh (q + 2) = some (1, 8, [])) (g : sh o = some (sh5 o)) (g1 : sh (o + 1) = some (1, 8, [])) (g2 : sh (o + 2) = some (1, 8, [])) (ho : o + 2 < q ∨ q + 2 < o) (d : Nat) :
    xsem xT E (d + 1) kX5_copyFrom [.ref (x + q), .ref (x + o)] (wW E z x sh S, n) = some (.inl none, (wW E z x sh (rwC S q o), n)) := by
  rw [eX5_copyFrom, QX5_copyFrom_0]
  simp (disch := omega) only [gO_5 h, gI_5_0 h, gP_5_0 h, gI_5_1 h, gP_5_1 h, gI_5_2 h, gP_5_2 h, gR_5_3 h, gR_5_4 h, gO_5 g, gI_5_0 g, gP_5_0 g, gI_5_1 g, gP_5_1 g, gI_5_2 g, gP_5_2 g, gR_5_3 g, gR_5_4 g, cpI_w g1 h1, cpI_w g2 h2, sS_nq, sS_a, sA_1, sA_n, cI_s, cL_s, cF_s, cD_s, cA_s, cV_s, nI_add, cond_true, cond_false, if_true, if_false]
  rfl
/-- a new row of s shells -/
def rwR (S : xSt) (q s : Nat) : xSt :=
  sA (sA (sS (sS (sS S q 0 (nI s)) q 1 (nI 0)) q 2 (nI 0)) (q + 1) (vw 8 (fun p => p) (S.2.1 (q + 1)))) (q + 2) (vw 8 (fun _ => 0) (S.2.1 (q + 2)))
theorem l5_reset (h : sh q = some (sh5 q)) (h1 : sh (q + 1) = some (1, 8, [])) (h2 : sh (q + 2) = some (1, 8, [])) (d : Nat) :
    ∀ k i, i + k = 8 → qX5_reset_17 E d (x + q) (nI i) (wW E z x sh (sA (sA S (q + 1) (vw i (fun p => p) (S.2.1 (q + 1)))) (q + 2) (vw i (fun _ => 0) (S.2.1 (q + 2)))), n) = some (.inl none, (wW E z x sh (sA (sA S (q + 1) (vw 8 (fun p => p) (S.2.1 (q + 1)))) (q + 2) (vw 8 (fun _ => 0) (S.2.1 (q + 2)))), n)) := by
  intro k
  induction k with
  | zero =>
    intro i hi
    have hi : i = 8 := hi
    subst hi
    rw [QX5_reset_17]
    simp (disch := omega) only [gO_5 h, gI_5_0 h, gP_5_0 h, gI_5_1 h, gP_5_1 h, gI_5_2 h, gP_5_2 h, gR_5_3 h, gR_5_4 h, aN_w h1, iLE_t, QX5_reset_46, cI_s, cL_s, cF_s, cD_s, cA_s, cV_s, nI_add, cond_true, cond_false, if_true, if_false]
  | succ k ih =>
    intro i hi
    rw [QX5_reset_17]
    simp (disch := omega) only [gO_5 h, gI_5_0 h, gP_5_0 h, gI_5_1 h, gP_5_1 h, gI_5_2 h, gP_5_2 h, gR_5_3 h, gR_5_4 h, aN_w h1, iLE_f, sI_w h1, sI_w h2, sA_n, sA_s, cI_s, cL_s, cF_s, cD_s, cA_s, cV_s, nI_add, cond_true, cond_false, if_true, if_false]
    rw [show ∀ f g, sA (sA (sA (sA S (q + 1) f) (q + 2) g) (q + 1) (upd f i (nI i))) (q + 2) (upd g i (nI 0)) = sA (sA S (q + 1) (upd f i (nI i))) (q + 2) (upd g i (nI 0)) from fun f g => by rw [sA_comm (by omega), sA_sA, sA_comm (by omega), sA_sA]]
    rw [show nI i = nI ((fun p => p) i) from rfl, vw_succ, show nI 0 = nI ((fun _ => 0) i) from rfl, vw_succ]
    exact ih (i + 1) (by omega)
theorem s5_reset (h : sh q = some (sh5 q)) (h1 : sh (q + 1) = some (1, 8, [])) (h2 : sh (q + 2) = some (1, 8, [])) (d : Nat) :
    xsem xT E (d + 1) kX5_reset [.ref (x + q), .int (nI s)] (wW E z x sh S, n) = some (.inl none, (wW E z x sh (rwR S q s), n)) := by
  rw [eX5_reset, QX5_reset_0]
  simp (disch := omega) only [gO_5 h, gI_5_0 h, gP_5_0 h, gI_5_1 h, gP_5_1 h, gI_5_2 h, gP_5_2 h, gR_5_3 h, gR_5_4 h, cI_s, cL_s, cF_s, cD_s, cA_s, cV_s, nI_add, cond_true, cond_false, if_true, if_false]
  refine Eq.trans ?_ (l5_reset h h1 h2 d 8 0 (by omega))
  rw [vw_0, vw_0, sA_self, sA_self]
end ROW2
