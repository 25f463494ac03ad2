/-! THE REFERENCE: the reduction of beliefs; a step, a look. -/
def gBel (m : Nat) (F g : Nat → Nat) : Nat → Nat := fun k => if 36 ≤ k ∧ k < 36 + m then F (k - 36) else g k
theorem gBel_0 {F g : Nat → Nat} : gBel 0 F g = g := by
  funext k
  exact if_neg (by omega)
theorem gBel_n {m k : Nat} {F g : Nat → Nat} (h : k < 36 ∨ 36 + m ≤ k) : gBel m F g k = g k := if_neg (by omega)
theorem gBel_i {m p : Nat} {F g : Nat → Nat} (h : p < m) : gBel m F g (36 + p) = F p := by
  unfold gBel
  rw [if_pos ⟨by omega, by omega⟩, Nat.add_sub_cancel_left]
theorem gBel_s {m : Nat} {F g : Nat → Nat} : updN (gBel m F g) (36 + m) (F m) = gBel (m + 1) F g := by
  funext k
  unfold updN gBel
  by_cases e : k = 36 + m
  · rw [if_pos e, if_pos ⟨by omega, by omega⟩, e, Nat.add_sub_cancel_left]
  · rw [if_neg e]
    by_cases c : 36 ≤ k ∧ k < 36 + m
    · rw [if_pos c, if_pos ⟨by omega, by omega⟩]
    · rw [if_neg c, if_neg (by omega)]
def gThk (bl : Bool) (k a b : Nat) (g : Nat → Nat) : Nat → Nat := mSettle (g 0 + 1) (gRaw bl k a b g)
def gBall (k a b : Nat) (g : Nat → Nat) : Nat := if k = 3 then g 0 else if k = 4 then a else if k = 0 then mBall (g 1) a b else g 1
def gSw1 (a b : Nat) (g : Nat → Nat) : Nat → Nat := updN (updN g (12 + a) (g (12 + b))) (12 + b) (g (12 + a))
def gInc (k : Nat) (g : Nat → Nat) : Nat → Nat := updN g k (g k + 1)
def gSwp (a b : Nat) (g : Nat → Nat) : Nat → Nat := gInc (20 + g (12 + b)) (gInc (20 + g (12 + a)) (gSw1 a b g))
def gSt1 (k a b : Nat) (g : Nat → Nat) : Nat → Nat := if k = 0 then gSwp a b (updN g 1 (gBall k a b g)) else updN g 1 (gBall k a b g)
def gSt2 (bl : Bool) (k a b : Nat) (g : Nat → Nat) : Nat → Nat := gInc 2 (gBel (g 0 + 1) (gThk bl k a b g) (gSt1 k a b g))
def gStep (bl : Bool) (k a b : Nat) (g : Nat → Nat) : Nat → Nat := updN (gSt2 bl k a b g) 3 (gSt2 bl k a b g 3 + bl.toNat)
def gLk (p : Nat) (g : Nat → Nat) : Nat → Nat := mDiv (g 0 + 1) (if g 1 = p then mOne p else updN (gF g) p 0)
def gLook (p : Nat) (g : Nat → Nat) : Nat → Nat := gBel (g 0 + 1) (gLk p g) g
theorem mGcd_comm {f : Nat → Nat} {i : Nat} : Nat.gcd (mGcd f i) (f i) = mGcd f (i + 1) := Nat.gcd_comm _ _
theorem mMax_s {f : Nat → Nat} {i : Nat} : (if mMax f i < f i then f i else mMax f i) = mMax f (i + 1) := rfl
section M4
variable {E : xEn} {x n w : Nat} {S : xSt} {g : Nat → Nat} {T : Nat → Int64}
theorem m_common {σ : xH} (d : Nat) : ∀ N a b, b ≤ N → a < 2 ^ 62 → b < 2 ^ 62 → qX11_common_6 E d (lN a) (lN b) σ = some (.inl (some (.long (lN (Nat.gcd a b)))), σ) := by
  intro N
  induction N with
  | zero =>
    intro a b hb ha _
    have hb : b = 0 := by omega
    subst hb
    rw [QX11_common_6]
    simp (disch := omega) only [lcE_t, QX11_common_31, Nat.gcd_zero_right, cI_s, cL_s, cF_s, cD_s, cA_s, cV_s, nI_add, cond_true, cond_false, if_true, if_false]
  | succ N ih =>
    intro a b hb ha hb2
    by_cases h0 : b = 0
    · subst h0
      rw [QX11_common_6]
      simp (disch := omega) only [lcE_t, QX11_common_31, Nat.gcd_zero_right, cI_s, cL_s, cF_s, cD_s, cA_s, cV_s, nI_add, cond_true, cond_false, if_true, if_false]
    · have hm := Nat.mod_lt a (Nat.pos_of_ne_zero h0)
      rw [QX11_common_6, lcE_f h0 (by omega) (by omega), lz_N h0 (by omega), pk_lRem (by omega) (by omega) (by omega), ih b (a % b) (by omega) hb2 (by omega), Nat.gcd_comm b, ← Nat.gcd_rec, Nat.gcd_comm]
theorem m_common0 {σ : xH} {a b : Nat} (ha : a < 2 ^ 62) (hb : b < 2 ^ 62) (d : Nat) : xsem xT E (d + 1) kX11_common [.long (lN a), .long (lN b)] σ = some (.inl (some (.long (lN (Nat.gcd a b)))), σ) := by
  rw [eX11_common, QX11_common_0]
  exact m_common d b a b (Nat.le_refl _) ha hb
theorem lm_red1 (hw : S.1 0 3 = nI w) (h9 : w ≤ 9) (h8 : g 0 ≤ 8) {F : Nat → Nat} (hF : ∀ p, p ≤ g 0 → F p < 2 ^ 31 - 1) (hT : ∀ p, p ≤ g 0 → T p = lN (F p)) (d : Nat) :
    ∀ k i, i + k = g 0 + 1 → qX11_reduces_4 E (d + 2) x (lN (mGcd F i)) (nI i) (wW E x shM (mS S w g T), n) = qX11_reduces_29 E (d + 2) x (lN (mGcd F (g 0 + 1))) (wW E x shM (mS S w g T), n) := by
  intro k
  induction k with
  | zero =>
    intro i hi
    have hi : i = g 0 + 1 := hi
    subst hi
    rw [QX11_reduces_4]
    simp (disch := omega) only [gO_9 hM0, gI_9_0 hM0, gP_9_0 hM0, gR_9_1 hM0, gR_9_2 hM0, gI_9_3 hM0, gP_9_3 hM0, gI_9_4 hM0, gP_9_4 hM0, gR_9_5 hM0, gR_9_6 hM0, gR_9_7 hM0, gI_9_8 hM0, gP_9_8 hM0, gI_9_9 hM0, gP_9_9 hM0, gI_9_10 hM0, gP_9_10 hM0, gI_9_11 hM0, gP_9_11 hM0, gI_9_12 hM0, gP_9_12 hM0, gI_9_13 hM0, gP_9_13 hM0, gI_9_14 hM0, gP_9_14 hM0, gI_9_15 hM0, gP_9_15 hM0, gI_9_16 hM0, gP_9_16 hM0, gR_9_17 hM0, gR_9_18 hM0, gR_9_19 hM0, gR_9_20 hM0, gI_9_21 hM0, gP_9_21 hM0, gI_9_22 hM0, gP_9_22 hM0, gI_9_23 hM0, gP_9_23 hM0, gI_9_24 hM0, gP_9_24 hM0, gR_9_25 hM0, gI_9_26 hM0, gP_9_26 hM0, gI_9_27 hM0, gP_9_27 hM0, gI_9_28 hM0, gP_9_28 hM0, gL_9_29 hM0, gP_9_29 hM0, gL_9_30 hM0, gP_9_30 hM0, m_shells hw h9, iLT_t, cI_s, cL_s, cF_s, cD_s, cA_s, cV_s, nI_add, cond_true, cond_false, if_true, if_false]
  | succ k ih =>
    intro i hi
    have h1 := hF i (by omega)
    have h2 := mGcd_lt (f := F) (B := 2 ^ 31) (by omega) i (fun p hp => by have := hF p (by omega); omega)
    rw [QX11_reduces_4]
    simp (disch := omega) only [gO_9 hM0, gI_9_0 hM0, gP_9_0 hM0, gR_9_1 hM0, gR_9_2 hM0, gI_9_3 hM0, gP_9_3 hM0, gI_9_4 hM0, gP_9_4 hM0, gR_9_5 hM0, gR_9_6 hM0, gR_9_7 hM0, gI_9_8 hM0, gP_9_8 hM0, gI_9_9 hM0, gP_9_9 hM0, gI_9_10 hM0, gP_9_10 hM0, gI_9_11 hM0, gP_9_11 hM0, gI_9_12 hM0, gP_9_12 hM0, gI_9_13 hM0, gP_9_13 hM0, gI_9_14 hM0, gP_9_14 hM0, gI_9_15 hM0, gP_9_15 hM0, gI_9_16 hM0, gP_9_16 hM0, gR_9_17 hM0, gR_9_18 hM0, gR_9_19 hM0, gR_9_20 hM0, gI_9_21 hM0, gP_9_21 hM0, gI_9_22 hM0, gP_9_22 hM0, gI_9_23 hM0, gP_9_23 hM0, gI_9_24 hM0, gP_9_24 hM0, gR_9_25 hM0, gI_9_26 hM0, gP_9_26 hM0, gI_9_27 hM0, gP_9_27 hM0, gI_9_28 hM0, gP_9_28 hM0, gL_9_29 hM0, gP_9_29 hM0, gL_9_30 hM0, gP_9_30 hM0, m_shells hw h9, iLT_f, aL_w hM3, mS_t, hT i (by omega), m_common0, mGcd_comm, cI_s, cL_s, cF_s, cD_s, cA_s, cV_s, nI_add, cond_true, cond_false, if_true, if_false]
    exact ih (i + 1) (by omega)
theorem lm_red2 (hw : S.1 0 3 = nI w) (h9 : w ≤ 9) (h8 : g 0 ≤ 8) {F : Nat → Nat} (hF : ∀ p, p ≤ g 0 → F p < 2 ^ 31 - 1) {G : Nat} (hG : G < 2 ^ 31) (d : Nat) :
    ∀ k i (T : Nat → Int64), i + k = g 0 + 1 → (∀ p, p ≤ g 0 → T p = lN (if i ≤ p then F p else F p / G)) →
      ∃ T', qX11_reduces_34 E (d + 2) x (lN G) (lN (mMax (fun p => F p / G) i)) (nI i) (wW E x shM (mS S w g T), n) = qX11_reduces_87 E (d + 2) x (lN (mMax (fun p => F p / G) (g 0 + 1))) (wW E x shM (mS S w g T'), n) ∧ ∀ p, p ≤ g 0 → T' p = lN (F p / G) := by
  intro k
  induction k with
  | zero =>
    intro i T hi hT
    have hi : i = g 0 + 1 := hi
    subst hi
    refine ⟨T, ?_, fun p hp => ?_⟩
    · rw [QX11_reduces_34]
      simp (disch := omega) only [gO_9 hM0, gI_9_0 hM0, gP_9_0 hM0, gR_9_1 hM0, gR_9_2 hM0, gI_9_3 hM0, gP_9_3 hM0, gI_9_4 hM0, gP_9_4 hM0, gR_9_5 hM0, gR_9_6 hM0, gR_9_7 hM0, gI_9_8 hM0, gP_9_8 hM0, gI_9_9 hM0, gP_9_9 hM0, gI_9_10 hM0, gP_9_10 hM0, gI_9_11 hM0, gP_9_11 hM0, gI_9_12 hM0, gP_9_12 hM0, gI_9_13 hM0, gP_9_13 hM0, gI_9_14 hM0, gP_9_14 hM0, gI_9_15 hM0, gP_9_15 hM0, gI_9_16 hM0, gP_9_16 hM0, gR_9_17 hM0, gR_9_18 hM0, gR_9_19 hM0, gR_9_20 hM0, gI_9_21 hM0, gP_9_21 hM0, gI_9_22 hM0, gP_9_22 hM0, gI_9_23 hM0, gP_9_23 hM0, gI_9_24 hM0, gP_9_24 hM0, gR_9_25 hM0, gI_9_26 hM0, gP_9_26 hM0, gI_9_27 hM0, gP_9_27 hM0, gI_9_28 hM0, gP_9_28 hM0, gL_9_29 hM0, gP_9_29 hM0, gL_9_30 hM0, gP_9_30 hM0, m_shells hw h9, iLT_t, cI_s, cL_s, cF_s, cD_s, cA_s, cV_s, nI_add, cond_true, cond_false, if_true, if_false]
    · rw [hT p hp, if_neg (by omega)]
  | succ k ih =>
    intro i T hi hT
    have h1 := hF i (by omega)
    have h3 : F i / G ≤ F i := Nat.div_le_self _ _
    have h2 := mMax_lt (f := fun p => F p / G) (B := 2 ^ 31) i (fun p hp => by have := hF p (by omega); have : F p / G ≤ F p := Nat.div_le_self _ _; omega) (by omega)
    obtain ⟨T', h4, h5⟩ := ih (i + 1) (vp_updL T i (lN (F i / G))) (by omega) (fun p hp => by
      unfold vp_updL
      by_cases e : p = i
      · subst e
        rw [if_pos rfl, if_neg (by omega)]
      · rw [if_neg e, hT p hp]
        by_cases l : i ≤ p
        · rw [if_pos l, if_pos (by omega)]
        · rw [if_neg l, if_neg (by omega)])
    refine ⟨T', ?_, h5⟩
    have hi2 := hT i (by omega)
    rw [if_pos (Nat.le_refl i)] at hi2
    rw [QX11_reduces_34]
    by_cases h0 : G = 0
    · simp (disch := omega) only [gO_9 hM0, gI_9_0 hM0, gP_9_0 hM0, gR_9_1 hM0, gR_9_2 hM0, gI_9_3 hM0, gP_9_3 hM0, gI_9_4 hM0, gP_9_4 hM0, gR_9_5 hM0, gR_9_6 hM0, gR_9_7 hM0, gI_9_8 hM0, gP_9_8 hM0, gI_9_9 hM0, gP_9_9 hM0, gI_9_10 hM0, gP_9_10 hM0, gI_9_11 hM0, gP_9_11 hM0, gI_9_12 hM0, gP_9_12 hM0, gI_9_13 hM0, gP_9_13 hM0, gI_9_14 hM0, gP_9_14 hM0, gI_9_15 hM0, gP_9_15 hM0, gI_9_16 hM0, gP_9_16 hM0, gR_9_17 hM0, gR_9_18 hM0, gR_9_19 hM0, gR_9_20 hM0, gI_9_21 hM0, gP_9_21 hM0, gI_9_22 hM0, gP_9_22 hM0, gI_9_23 hM0, gP_9_23 hM0, gI_9_24 hM0, gP_9_24 hM0, gR_9_25 hM0, gI_9_26 hM0, gP_9_26 hM0, gI_9_27 hM0, gP_9_27 hM0, gI_9_28 hM0, gP_9_28 hM0, gL_9_29 hM0, gP_9_29 hM0, gL_9_30 hM0, gP_9_30 hM0, m_shells hw h9, iLT_f, lcE_t h0, QX11_reduces_68, sL_w hM3, aL_w hM3, mS_t, mS_then, vp_updL_s, cI_s, cL_s, cF_s, cD_s, cA_s, cV_s, nI_add, cond_true, cond_false, if_true, if_false]
      rw [h0, Nat.div_zero] at h4
      rw [h0]
      rw [mxL_n (by rw [h0] at h2; omega) (by omega)]
      rw [show (if mMax (fun p => F p / 0) i < 0 then 0 else mMax (fun p => F p / 0) i) = mMax (fun p => F p / 0) (i + 1) by
        rw [show mMax (fun p => F p / 0) (i + 1) = if mMax (fun p => F p / 0) i < F i / 0 then F i / 0 else mMax (fun p => F p / 0) i from rfl, Nat.div_zero]]
      exact h4
    · simp (disch := omega) only [gO_9 hM0, gI_9_0 hM0, gP_9_0 hM0, gR_9_1 hM0, gR_9_2 hM0, gI_9_3 hM0, gP_9_3 hM0, gI_9_4 hM0, gP_9_4 hM0, gR_9_5 hM0, gR_9_6 hM0, gR_9_7 hM0, gI_9_8 hM0, gP_9_8 hM0, gI_9_9 hM0, gP_9_9 hM0, gI_9_10 hM0, gP_9_10 hM0, gI_9_11 hM0, gP_9_11 hM0, gI_9_12 hM0, gP_9_12 hM0, gI_9_13 hM0, gP_9_13 hM0, gI_9_14 hM0, gP_9_14 hM0, gI_9_15 hM0, gP_9_15 hM0, gI_9_16 hM0, gP_9_16 hM0, gR_9_17 hM0, gR_9_18 hM0, gR_9_19 hM0, gR_9_20 hM0, gI_9_21 hM0, gP_9_21 hM0, gI_9_22 hM0, gP_9_22 hM0, gI_9_23 hM0, gP_9_23 hM0, gI_9_24 hM0, gP_9_24 hM0, gR_9_25 hM0, gI_9_26 hM0, gP_9_26 hM0, gI_9_27 hM0, gP_9_27 hM0, gI_9_28 hM0, gP_9_28 hM0, gL_9_29 hM0, gP_9_29 hM0, gL_9_30 hM0, gP_9_30 hM0, m_shells hw h9, iLT_f, lcE_f h0, QX11_reduces_59, QX11_reduces_68, sL_w hM3, aL_w hM3, mS_t, mS_then, vp_updL_s, hi2, lz_N h0, pk_lDiv, mxL_n, cI_s, cL_s, cF_s, cD_s, cA_s, cV_s, nI_add, cond_true, cond_false, if_true, if_false]
      exact h4
theorem lm_red3 (hw : S.1 0 3 = nI w) (h9 : w ≤ 9) (h8 : g 0 ≤ 8) {F : Nat → Nat} (hF : ∀ p, p ≤ g 0 → F p < 2 ^ 31 - 1) (m : Int64) (d : Nat) :
    ∀ k i (T : Nat → Int64), i + k = g 0 + 1 → (∀ p, p ≤ g 0 → T p = lN (if i ≤ p then F p else mHalf F p)) →
      ∃ T', qX11_reduces_106 E (d + 2) x m (nI i) (wW E x shM (mS S w g T), n) = qX11_reduces_87 E (d + 2) x m (wW E x shM (mS S w g T'), n) ∧ ∀ p, p ≤ g 0 → T' p = lN (mHalf F p) := by
  intro k
  induction k with
  | zero =>
    intro i T hi hT
    have hi : i = g 0 + 1 := hi
    subst hi
    refine ⟨T, ?_, fun p hp => ?_⟩
    · rw [QX11_reduces_106]
      simp (disch := omega) only [gO_9 hM0, gI_9_0 hM0, gP_9_0 hM0, gR_9_1 hM0, gR_9_2 hM0, gI_9_3 hM0, gP_9_3 hM0, gI_9_4 hM0, gP_9_4 hM0, gR_9_5 hM0, gR_9_6 hM0, gR_9_7 hM0, gI_9_8 hM0, gP_9_8 hM0, gI_9_9 hM0, gP_9_9 hM0, gI_9_10 hM0, gP_9_10 hM0, gI_9_11 hM0, gP_9_11 hM0, gI_9_12 hM0, gP_9_12 hM0, gI_9_13 hM0, gP_9_13 hM0, gI_9_14 hM0, gP_9_14 hM0, gI_9_15 hM0, gP_9_15 hM0, gI_9_16 hM0, gP_9_16 hM0, gR_9_17 hM0, gR_9_18 hM0, gR_9_19 hM0, gR_9_20 hM0, gI_9_21 hM0, gP_9_21 hM0, gI_9_22 hM0, gP_9_22 hM0, gI_9_23 hM0, gP_9_23 hM0, gI_9_24 hM0, gP_9_24 hM0, gR_9_25 hM0, gI_9_26 hM0, gP_9_26 hM0, gI_9_27 hM0, gP_9_27 hM0, gI_9_28 hM0, gP_9_28 hM0, gL_9_29 hM0, gP_9_29 hM0, gL_9_30 hM0, gP_9_30 hM0, m_shells hw h9, iLT_t, QX11_reduces_141, cI_s, cL_s, cF_s, cD_s, cA_s, cV_s, nI_add, cond_true, cond_false, if_true, if_false]
    · rw [hT p hp, if_neg (by omega)]
  | succ k ih =>
    intro i T hi hT
    have h1 := hF i (by omega)
    obtain ⟨T', h4, h5⟩ := ih (i + 1) (vp_updL T i (lN (mHalf F i))) (by omega) (fun p hp => by
      unfold vp_updL
      by_cases e : p = i
      · subst e
        rw [if_pos rfl, if_neg (by omega)]
      · rw [if_neg e, hT p hp]
        by_cases l : i ≤ p
        · rw [if_pos l, if_pos (by omega)]
        · rw [if_neg l, if_neg (by omega)])
    refine ⟨T', ?_, h5⟩
    have hi2 := hT i (by omega)
    rw [if_pos (Nat.le_refl i)] at hi2
    rw [QX11_reduces_106]
    simp (disch := omega) only [gO_9 hM0, gI_9_0 hM0, gP_9_0 hM0, gR_9_1 hM0, gR_9_2 hM0, gI_9_3 hM0, gP_9_3 hM0, gI_9_4 hM0, gP_9_4 hM0, gR_9_5 hM0, gR_9_6 hM0, gR_9_7 hM0, gI_9_8 hM0, gP_9_8 hM0, gI_9_9 hM0, gP_9_9 hM0, gI_9_10 hM0, gP_9_10 hM0, gI_9_11 hM0, gP_9_11 hM0, gI_9_12 hM0, gP_9_12 hM0, gI_9_13 hM0, gP_9_13 hM0, gI_9_14 hM0, gP_9_14 hM0, gI_9_15 hM0, gP_9_15 hM0, gI_9_16 hM0, gP_9_16 hM0, gR_9_17 hM0, gR_9_18 hM0, gR_9_19 hM0, gR_9_20 hM0, gI_9_21 hM0, gP_9_21 hM0, gI_9_22 hM0, gP_9_22 hM0, gI_9_23 hM0, gP_9_23 hM0, gI_9_24 hM0, gP_9_24 hM0, gR_9_25 hM0, gI_9_26 hM0, gP_9_26 hM0, gI_9_27 hM0, gP_9_27 hM0, gI_9_28 hM0, gP_9_28 hM0, gL_9_29 hM0, gP_9_29 hM0, gL_9_30 hM0, gP_9_30 hM0, m_shells hw h9, iLT_f, sL_w hM3, aL_w hM3, mS_t, mS_then, hi2, lz_2, lN_add, pk_lDiv, cI_s, cL_s, cF_s, cD_s, cA_s, cV_s, nI_add, cond_true, cond_false, if_true, if_false]
    exact h4
theorem lm_red4 (hw : S.1 0 3 = nI w) (h9 : w ≤ 9) (h8 : g 0 ≤ 8) (d : Nat) :
    ∀ t (F : Nat → Nat) (T : Nat → Int64), mMax F (g 0 + 1) ≤ 1000000 * 2 ^ t → (∀ p, p ≤ g 0 → F p < 2 ^ 31 - 1) → (∀ p, p ≤ g 0 → T p = lN (F p)) →
      ∃ T', qX11_reduces_87 E (d + 2) x (lN (mMax F (g 0 + 1))) (wW E x shM (mS S w g T), n) = some (.inl none, (wW E x shM (mS S w g T'), n)) ∧ ∀ p, p ≤ g 0 → T' p = lN (mHv (g 0 + 1) t F p) := by
  intro t
  induction t with
  | zero =>
    intro F T hm hF hT
    have hm : mMax F (g 0 + 1) ≤ 1000000 := by simpa using hm
    refine ⟨T, ?_, hT⟩
    rw [QX11_reduces_87]
    simp (disch := omega) only [lcL_t hm, QX11_reduces_144, cI_s, cL_s, cF_s, cD_s, cA_s, cV_s, nI_add, cond_true, cond_false, if_true, if_false]
  | succ t ih =>
    intro F T hm hF hT
    have hb := mMax_lt (f := F) (B := 2 ^ 31 - 1) (g 0 + 1) (fun p hp => hF p (by omega)) (by omega)
    by_cases hc : mMax F (g 0 + 1) ≤ 1000000
    · refine ⟨T, ?_, fun p hp => ?_⟩
      · rw [QX11_reduces_87]
        simp (disch := omega) only [lcL_t hc, QX11_reduces_144, cI_s, cL_s, cF_s, cD_s, cA_s, cV_s, nI_add, cond_true, cond_false, if_true, if_false]
      · rw [hT p hp]
        unfold mHv
        rw [if_pos hc]
    · have hx := mMax_half F (g 0 + 1)
      rw [if_neg (Nat.succ_ne_zero _)] at hx
      obtain ⟨T1, h1, h2⟩ := lm_red3 (E := E) (x := x) (n := n) hw h9 h8 hF (lN (mMax (mHalf F) (g 0 + 1))) d (g 0 + 1) 0 T (by omega) (fun p hp => by rw [if_pos (Nat.zero_le p)]; exact hT p hp)
      obtain ⟨T2, h3, h4⟩ := ih (mHalf F) T1 (by rw [hx, Nat.pow_succ] at *; omega) (fun p hp => mHalf_lt (hF p hp)) h2
      refine ⟨T2, ?_, fun p hp => ?_⟩
      · rw [QX11_reduces_87]
        simp (disch := omega) only [lcL_f (show 1000000 < mMax F (g 0 + 1) by omega), lz_2, lN_add, pk_lDiv, cI_s, cL_s, cF_s, cD_s, cA_s, cV_s, nI_add, cond_true, cond_false, if_true, if_false]
        rw [← hx, h1]
        exact h3
      · rw [h4 p hp]
        conv => rhs; unfold mHv
        rw [if_neg hc]
theorem m_reduces (hw : S.1 0 3 = nI w) (h9 : w ≤ 9) (h8 : g 0 ≤ 8) {F : Nat → Nat} (hF : ∀ p, p ≤ g 0 → F p < 2 ^ 31 - 1) (hT : ∀ p, p ≤ g 0 → T p = lN (F p)) (d : Nat) :
    ∃ T', xsem xT E (d + 3) kX11_reduces [.ref x] (wW E x shM (mS S w g T), n) = some (.inl none, (wW E x shM (mS S w g T'), n)) ∧ ∀ p, p ≤ g 0 → T' p = lN (mSettle (g 0 + 1) F p) := by
  have hG := mGcd_lt (f := F) (B := 2 ^ 31) (by omega) (g 0 + 1) (fun p hp => by have := hF p (by omega); omega)
  have hd : ∀ p, p ≤ g 0 → mDiv (g 0 + 1) F p < 2 ^ 31 - 1 := fun p hp => Nat.lt_of_le_of_lt (Nat.div_le_self _ _) (hF p hp)
  obtain ⟨T1, h1, h2⟩ := lm_red2 (E := E) (x := x) (n := n) hw h9 h8 hF hG d (g 0 + 1) 0 T (by omega) (fun p hp => by rw [if_pos (Nat.zero_le p)]; exact hT p hp)
  obtain ⟨T2, h3, h4⟩ := lm_red4 (E := E) (x := x) (n := n) hw h9 h8 d 32 (mDiv (g 0 + 1) F) T1 (by
    have := mMax_lt (f := mDiv (g 0 + 1) F) (B := 2 ^ 31) (g 0 + 1) (fun p hp => by have := hd p (by omega); omega) (by omega)
    omega) hd h2
  refine ⟨T2, ?_, h4⟩
  rw [eX11_reduces, QX11_reduces_0]
  refine (lm_red1 hw h9 h8 hF hT d (g 0 + 1) 0 (by omega)).trans ?_
  rw [QX11_reduces_29]
  exact h1.trans h3
theorem lm_zero (hw : S.1 0 3 = nI w) (s1 s2 s3 : Int32) (d : Nat) :
    ∀ k i (T : Nat → Int64), i + k = 9 → (∀ p, p < i → T p = lI 0) →
      ∃ T', qX11_thinks_3 E d x s1 s2 s3 (nI i) (wW E x shM (mS S w g T), n) = qX11_thinks_24 E d x s1 s2 s3 (wW E x shM (mS S w g T'), n) ∧ ∀ p, p < 9 → T' p = lI 0 := by
  intro k
  induction k with
  | zero =>
    intro i T hi hT
    have hi : i = 9 := hi
    subst hi
    refine ⟨T, ?_, hT⟩
    rw [QX11_thinks_3]
    simp (disch := omega) only [iLE_t, cI_s, cL_s, cF_s, cD_s, cA_s, cV_s, nI_add, cond_true, cond_false, if_true, if_false]
  | succ k ih =>
    intro i T hi hT
    obtain ⟨T', h1, h2⟩ := ih (i + 1) (vp_updL T i (lN 0)) (by omega) (fun p hp => by
      unfold vp_updL
      by_cases e : p = i
      · rw [if_pos e]; rfl
      · rw [if_neg e]; exact hT p (by omega))
    refine ⟨T', ?_, h2⟩
    rw [QX11_thinks_3]
    simp (disch := omega) only [iLE_f, gO_9 hM0, gI_9_0 hM0, gP_9_0 hM0, gR_9_1 hM0, gR_9_2 hM0, gI_9_3 hM0, gP_9_3 hM0, gI_9_4 hM0, gP_9_4 hM0, gR_9_5 hM0, gR_9_6 hM0, gR_9_7 hM0, gI_9_8 hM0, gP_9_8 hM0, gI_9_9 hM0, gP_9_9 hM0, gI_9_10 hM0, gP_9_10 hM0, gI_9_11 hM0, gP_9_11 hM0, gI_9_12 hM0, gP_9_12 hM0, gI_9_13 hM0, gP_9_13 hM0, gI_9_14 hM0, gP_9_14 hM0, gI_9_15 hM0, gP_9_15 hM0, gI_9_16 hM0, gP_9_16 hM0, gR_9_17 hM0, gR_9_18 hM0, gR_9_19 hM0, gR_9_20 hM0, gI_9_21 hM0, gP_9_21 hM0, gI_9_22 hM0, gP_9_22 hM0, gI_9_23 hM0, gP_9_23 hM0, gI_9_24 hM0, gP_9_24 hM0, gR_9_25 hM0, gI_9_26 hM0, gP_9_26 hM0, gI_9_27 hM0, gP_9_27 hM0, gI_9_28 hM0, gP_9_28 hM0, gL_9_29 hM0, gP_9_29 hM0, gL_9_30 hM0, gP_9_30 hM0, sL_w hM3, mS_t, mS_then, cI_s, cL_s, cF_s, cD_s, cA_s, cV_s, nI_add, cond_true, cond_false, if_true, if_false]
    exact h1
end M4
