/-! THE REFERENCE: beliefs behind a step, ahead of their reduction. -/
def gRaw (bl : Bool) (k a b : Nat) (g : Nat → Nat) : Nat → Nat :=
  if k = 0 ∧ rg g a ≠ rg g b then updN (updN (gF g) a (gF g b)) b (gF g a)
  else if bl = true then gWon (g 0) (rg g) (gF g) (g 5) (g 6)
  else if k < 2 ∧ rg g a = rg g b then mMix a b (g 4) (gF g)
  else gF g
theorem nI_100 : nI 100 = 100 := rfl
section M2
variable {E : xEn} {x n w : Nat} {S : xSt} {g : Nat → Nat} {T : Nat → Int64}
theorem m_bit (h8 : g 0 ≤ 8) (hr : ∀ p, p < 8 → rg g p ≤ 1) {p : Nat} (hp : p < g 0) : (nI (gSet g (g 0)) >>> (nI p &&& 31)) &&& nI 1 = nI (rg g p) := by
  rw [bb_get _ (gSet_lt g _ h8) p (by omega), gSet_bit g hr _ h8 p (by omega), if_pos hp]
theorem lm_seen (hw : S.1 0 3 = nI w) (h9 : w ≤ 9) (h8 : g 0 ≤ 8) (hB : ∀ p, p ≤ 8 → g (36 + p) ≤ 1000000) {a b o t c : Nat} (ha : a < g 0) (hb : b < g 0) (hT : ∀ p, p ≤ g 0 → T p = lI 0) (d : Nat) :
    ∃ T', qX11_seen_100 E (d + 3) x (nI a) (nI b) (lN o) (lN t) x (lN c) (wW E x shM (mS S w g T), n) = some (.inl none, (wW E x shM (mS S w g T'), n)) ∧ ∀ p, p ≤ g 0 → T' p = lN (updN (updN (fun p => c * gF g p) a (o * gF g a + t * gF g b)) b (o * gF g b + t * gF g a) p) := by
  obtain ⟨T1, h1, h2⟩ := m_stays (E := E) (x := x) (n := n) hw h9 h8 hB (c : Int) (Z := fun _ => 0) hT d
  refine ⟨vp_updL (vp_updL T1 a (lN (o * gF g a + t * gF g b))) b (lN (o * gF g b + t * gF g a)), ?_, fun p hp => ?_⟩
  · rw [QX11_seen_100, lI_N c]
    simp (disch := omega) only [gO_9 hM0, gI_9_0 hM0, gP_9_0 hM0, gR_9_1 hM0, gR_9_2 hM0, gI_9_3 hM0, gP_9_3 hM0, gI_9_4 hM0, gP_9_4 hM0, gR_9_5 hM0, gR_9_6 hM0, gR_9_7 hM0, gI_9_8 hM0, gP_9_8 hM0, gI_9_9 hM0, gP_9_9 hM0, gI_9_10 hM0, gP_9_10 hM0, gI_9_11 hM0, gP_9_11 hM0, gI_9_12 hM0, gP_9_12 hM0, gI_9_13 hM0, gP_9_13 hM0, gI_9_14 hM0, gP_9_14 hM0, gI_9_15 hM0, gP_9_15 hM0, gI_9_16 hM0, gP_9_16 hM0, gR_9_17 hM0, gR_9_18 hM0, gR_9_19 hM0, gR_9_20 hM0, gI_9_21 hM0, gP_9_21 hM0, gI_9_22 hM0, gP_9_22 hM0, gI_9_23 hM0, gP_9_23 hM0, gI_9_24 hM0, gP_9_24 hM0, gR_9_25 hM0, gI_9_26 hM0, gP_9_26 hM0, gI_9_27 hM0, gP_9_27 hM0, gI_9_28 hM0, gP_9_28 hM0, gL_9_29 hM0, gP_9_29 hM0, gL_9_30 hM0, gP_9_30 hM0, cI_s, cL_s, cF_s, cD_s, cA_s, cV_s, nI_add, cond_true, cond_false, if_true, if_false]
    rw [h1]
    simp (disch := omega) only [gO_9 hM0, gI_9_0 hM0, gP_9_0 hM0, gR_9_1 hM0, gR_9_2 hM0, gI_9_3 hM0, gP_9_3 hM0, gI_9_4 hM0, gP_9_4 hM0, gR_9_5 hM0, gR_9_6 hM0, gR_9_7 hM0, gI_9_8 hM0, gP_9_8 hM0, gI_9_9 hM0, gP_9_9 hM0, gI_9_10 hM0, gP_9_10 hM0, gI_9_11 hM0, gP_9_11 hM0, gI_9_12 hM0, gP_9_12 hM0, gI_9_13 hM0, gP_9_13 hM0, gI_9_14 hM0, gP_9_14 hM0, gI_9_15 hM0, gP_9_15 hM0, gI_9_16 hM0, gP_9_16 hM0, gR_9_17 hM0, gR_9_18 hM0, gR_9_19 hM0, gR_9_20 hM0, gI_9_21 hM0, gP_9_21 hM0, gI_9_22 hM0, gP_9_22 hM0, gI_9_23 hM0, gP_9_23 hM0, gI_9_24 hM0, gP_9_24 hM0, gR_9_25 hM0, gI_9_26 hM0, gP_9_26 hM0, gI_9_27 hM0, gP_9_27 hM0, gI_9_28 hM0, gP_9_28 hM0, gL_9_29 hM0, gP_9_29 hM0, gL_9_30 hM0, gP_9_30 hM0, m_had hw h9 hB, sL_w hM3, mS_t, mS_then, lN_mul, lN_add, cI_s, cL_s, cF_s, cD_s, cA_s, cV_s, nI_add, cond_true, cond_false, if_true, if_false]
    rfl
  · unfold vp_updL updN
    by_cases e1 : p = b
    · rw [if_pos e1, if_pos e1]
    · rw [if_neg e1, if_neg e1]
      by_cases e2 : p = a
      · rw [if_pos e2, if_pos e2]
      · rw [if_neg e2, if_neg e2, h2 p hp, lI_N, Int.zero_add]
        push_cast
        rfl
theorem m_seen (hw : S.1 0 3 = nI w) (h9 : w ≤ 9) (h8 : g 0 ≤ 8) (hs : ∀ p, p < 8 → g (12 + p) < 8) (hr : ∀ p, p < 8 → rg g p ≤ 1) (hB : ∀ p, p ≤ 8 → g (36 + p) ≤ 1000000) (h4 : g 4 ≤ 99) {k a b : Nat} (hk : k ≤ 2) (hab : k < 2 → a < g 0 ∧ b < g 0) (hT : ∀ p, p ≤ g 0 → T p = lI 0) (d : Nat) :
    ∃ T', xsem xT E (d + 4) kX11_seen [.ref x, .int (nI k), .int (nI a), .int (nI b)] (wW E x shM (mS S w g T), n) = some (.inl none, (wW E x shM (mS S w g T'), n)) ∧ ∀ p, p ≤ g 0 → T' p = lN (gRaw false k a b g p) := by
  by_cases hk2 : k = 2
  · subst hk2
    obtain ⟨T1, h1, h2⟩ := m_stays (E := E) (x := x) (n := n) hw h9 h8 hB 1 (Z := fun _ => 0) hT d
    refine ⟨T1, ?_, fun p hp => ?_⟩
    · rw [eX11_seen, QX11_seen_0, show lN 1 = lI 1 from lI_N 1]
      simp (disch := omega) only [gO_9 hM0, gI_9_0 hM0, gP_9_0 hM0, gR_9_1 hM0, gR_9_2 hM0, gI_9_3 hM0, gP_9_3 hM0, gI_9_4 hM0, gP_9_4 hM0, gR_9_5 hM0, gR_9_6 hM0, gR_9_7 hM0, gI_9_8 hM0, gP_9_8 hM0, gI_9_9 hM0, gP_9_9 hM0, gI_9_10 hM0, gP_9_10 hM0, gI_9_11 hM0, gP_9_11 hM0, gI_9_12 hM0, gP_9_12 hM0, gI_9_13 hM0, gP_9_13 hM0, gI_9_14 hM0, gP_9_14 hM0, gI_9_15 hM0, gP_9_15 hM0, gI_9_16 hM0, gP_9_16 hM0, gR_9_17 hM0, gR_9_18 hM0, gR_9_19 hM0, gR_9_20 hM0, gI_9_21 hM0, gP_9_21 hM0, gI_9_22 hM0, gP_9_22 hM0, gI_9_23 hM0, gP_9_23 hM0, gI_9_24 hM0, gP_9_24 hM0, gR_9_25 hM0, gI_9_26 hM0, gP_9_26 hM0, gI_9_27 hM0, gP_9_27 hM0, gI_9_28 hM0, gP_9_28 hM0, gL_9_29 hM0, gP_9_29 hM0, gL_9_30 hM0, gP_9_30 hM0, iEQ_t, cI_s, cL_s, cF_s, cD_s, cA_s, cV_s, nI_add, cond_true, cond_false, if_true, if_false]
      rw [h1]
      rfl
    · unfold gRaw
      rw [if_neg (fun z => by omega), if_neg (by decide), if_neg (fun z => by omega), h2 p hp, lI_N, Int.zero_add, Int.one_mul]
  · obtain ⟨ha, hb⟩ := hab (by omega)
    have hra := hr a (by omega)
    have hrb := hr b (by omega)
    by_cases hn : rg g a = rg g b
    · obtain ⟨T1, h1, h2⟩ := lm_seen (E := E) (x := x) (n := n) (o := 100 - g 4) (t := g 4) (c := 100) hw h9 h8 hB ha hb hT d
      refine ⟨T1, ?_, fun p hp => ?_⟩
      · rw [eX11_seen, QX11_seen_0, ← h1]
        simp (disch := omega) only [gO_9 hM0, gI_9_0 hM0, gP_9_0 hM0, gR_9_1 hM0, gR_9_2 hM0, gI_9_3 hM0, gP_9_3 hM0, gI_9_4 hM0, gP_9_4 hM0, gR_9_5 hM0, gR_9_6 hM0, gR_9_7 hM0, gI_9_8 hM0, gP_9_8 hM0, gI_9_9 hM0, gP_9_9 hM0, gI_9_10 hM0, gP_9_10 hM0, gI_9_11 hM0, gP_9_11 hM0, gI_9_12 hM0, gP_9_12 hM0, gI_9_13 hM0, gP_9_13 hM0, gI_9_14 hM0, gP_9_14 hM0, gI_9_15 hM0, gP_9_15 hM0, gI_9_16 hM0, gP_9_16 hM0, gR_9_17 hM0, gR_9_18 hM0, gR_9_19 hM0, gR_9_20 hM0, gI_9_21 hM0, gP_9_21 hM0, gI_9_22 hM0, gP_9_22 hM0, gI_9_23 hM0, gP_9_23 hM0, gI_9_24 hM0, gP_9_24 hM0, gR_9_25 hM0, gI_9_26 hM0, gP_9_26 hM0, gI_9_27 hM0, gP_9_27 hM0, gI_9_28 hM0, gP_9_28 hM0, gL_9_29 hM0, gP_9_29 hM0, gL_9_30 hM0, gP_9_30 hM0, iEQ_f, QX11_seen_11, m_rough hw h9 h8 hs hr, m_bit h8 hr, cI_s, cL_s, cF_s, cD_s, cA_s, cV_s, nI_add, cond_true, cond_false, if_true, if_false]
        simp (disch := omega) only [gO_9 hM0, gI_9_0 hM0, gP_9_0 hM0, gR_9_1 hM0, gR_9_2 hM0, gI_9_3 hM0, gP_9_3 hM0, gI_9_4 hM0, gP_9_4 hM0, gR_9_5 hM0, gR_9_6 hM0, gR_9_7 hM0, gI_9_8 hM0, gP_9_8 hM0, gI_9_9 hM0, gP_9_9 hM0, gI_9_10 hM0, gP_9_10 hM0, gI_9_11 hM0, gP_9_11 hM0, gI_9_12 hM0, gP_9_12 hM0, gI_9_13 hM0, gP_9_13 hM0, gI_9_14 hM0, gP_9_14 hM0, gI_9_15 hM0, gP_9_15 hM0, gI_9_16 hM0, gP_9_16 hM0, gR_9_17 hM0, gR_9_18 hM0, gR_9_19 hM0, gR_9_20 hM0, gI_9_21 hM0, gP_9_21 hM0, gI_9_22 hM0, gP_9_22 hM0, gI_9_23 hM0, gP_9_23 hM0, gI_9_24 hM0, gP_9_24 hM0, gR_9_25 hM0, gI_9_26 hM0, gP_9_26 hM0, gI_9_27 hM0, gP_9_27 hM0, gI_9_28 hM0, gP_9_28 hM0, gL_9_29 hM0, gP_9_29 hM0, gL_9_30 hM0, gP_9_30 hM0, iEQ_t, hn, QX11_seen_36, QX11_seen_37, QX11_seen_56, QX11_seen_65, QX11_seen_79, QX11_seen_85, QX11_seen_97, m_get hw h9, pk_sub, nI_l, cI_s, cL_s, cF_s, cD_s, cA_s, cV_s, nI_add, cond_true, cond_false, if_true, if_false]
      · rw [h2 p hp]
        unfold gRaw mMix
        rw [if_neg (fun z => z.2 hn), if_neg (by decide), if_pos ⟨by omega, hn⟩]
        congr 1
        unfold updN
        split
        · rw [Nat.mul_comm, Nat.mul_comm (g 4)]
        · split
          · rw [Nat.mul_comm, Nat.mul_comm (g 4)]
          · exact Nat.mul_comm _ _
    · by_cases h0 : k = 0
      · subst h0
        obtain ⟨T1, h1, h2⟩ := lm_seen (E := E) (x := x) (n := n) (o := 0) (t := 1) (c := 1) hw h9 h8 hB ha hb hT d
        refine ⟨T1, ?_, fun p hp => ?_⟩
        · rw [eX11_seen, QX11_seen_0, ← h1]
          simp (disch := omega) only [gO_9 hM0, gI_9_0 hM0, gP_9_0 hM0, gR_9_1 hM0, gR_9_2 hM0, gI_9_3 hM0, gP_9_3 hM0, gI_9_4 hM0, gP_9_4 hM0, gR_9_5 hM0, gR_9_6 hM0, gR_9_7 hM0, gI_9_8 hM0, gP_9_8 hM0, gI_9_9 hM0, gP_9_9 hM0, gI_9_10 hM0, gP_9_10 hM0, gI_9_11 hM0, gP_9_11 hM0, gI_9_12 hM0, gP_9_12 hM0, gI_9_13 hM0, gP_9_13 hM0, gI_9_14 hM0, gP_9_14 hM0, gI_9_15 hM0, gP_9_15 hM0, gI_9_16 hM0, gP_9_16 hM0, gR_9_17 hM0, gR_9_18 hM0, gR_9_19 hM0, gR_9_20 hM0, gI_9_21 hM0, gP_9_21 hM0, gI_9_22 hM0, gP_9_22 hM0, gI_9_23 hM0, gP_9_23 hM0, gI_9_24 hM0, gP_9_24 hM0, gR_9_25 hM0, gI_9_26 hM0, gP_9_26 hM0, gI_9_27 hM0, gP_9_27 hM0, gI_9_28 hM0, gP_9_28 hM0, gL_9_29 hM0, gP_9_29 hM0, gL_9_30 hM0, gP_9_30 hM0, iEQ_f, QX11_seen_11, m_rough hw h9 h8 hs hr, m_bit h8 hr, cI_s, cL_s, cF_s, cD_s, cA_s, cV_s, nI_add, cond_true, cond_false, if_true, if_false]
          simp (disch := omega) only [gO_9 hM0, gI_9_0 hM0, gP_9_0 hM0, gR_9_1 hM0, gR_9_2 hM0, gI_9_3 hM0, gP_9_3 hM0, gI_9_4 hM0, gP_9_4 hM0, gR_9_5 hM0, gR_9_6 hM0, gR_9_7 hM0, gI_9_8 hM0, gP_9_8 hM0, gI_9_9 hM0, gP_9_9 hM0, gI_9_10 hM0, gP_9_10 hM0, gI_9_11 hM0, gP_9_11 hM0, gI_9_12 hM0, gP_9_12 hM0, gI_9_13 hM0, gP_9_13 hM0, gI_9_14 hM0, gP_9_14 hM0, gI_9_15 hM0, gP_9_15 hM0, gI_9_16 hM0, gP_9_16 hM0, gR_9_17 hM0, gR_9_18 hM0, gR_9_19 hM0, gR_9_20 hM0, gI_9_21 hM0, gP_9_21 hM0, gI_9_22 hM0, gP_9_22 hM0, gI_9_23 hM0, gP_9_23 hM0, gI_9_24 hM0, gP_9_24 hM0, gR_9_25 hM0, gI_9_26 hM0, gP_9_26 hM0, gI_9_27 hM0, gP_9_27 hM0, gI_9_28 hM0, gP_9_28 hM0, gL_9_29 hM0, gP_9_29 hM0, gL_9_30 hM0, gP_9_30 hM0, iEQ_f, iEQ_t, QX11_seen_37, QX11_seen_65, QX11_seen_85, cI_s, cL_s, cF_s, cD_s, cA_s, cV_s, nI_add, cond_true, cond_false, if_true, if_false]
          rfl
        · rw [h2 p hp]
          unfold gRaw
          rw [if_pos ⟨rfl, hn⟩]
          simp only [Nat.zero_mul, Nat.one_mul, Nat.zero_add]
      · have h0 : k = 1 := by omega
        subst h0
        obtain ⟨T1, h1, h2⟩ := lm_seen (E := E) (x := x) (n := n) (o := 1) (t := 0) (c := 1) hw h9 h8 hB ha hb hT d
        refine ⟨T1, ?_, fun p hp => ?_⟩
        · rw [eX11_seen, QX11_seen_0, ← h1]
          simp (disch := omega) only [gO_9 hM0, gI_9_0 hM0, gP_9_0 hM0, gR_9_1 hM0, gR_9_2 hM0, gI_9_3 hM0, gP_9_3 hM0, gI_9_4 hM0, gP_9_4 hM0, gR_9_5 hM0, gR_9_6 hM0, gR_9_7 hM0, gI_9_8 hM0, gP_9_8 hM0, gI_9_9 hM0, gP_9_9 hM0, gI_9_10 hM0, gP_9_10 hM0, gI_9_11 hM0, gP_9_11 hM0, gI_9_12 hM0, gP_9_12 hM0, gI_9_13 hM0, gP_9_13 hM0, gI_9_14 hM0, gP_9_14 hM0, gI_9_15 hM0, gP_9_15 hM0, gI_9_16 hM0, gP_9_16 hM0, gR_9_17 hM0, gR_9_18 hM0, gR_9_19 hM0, gR_9_20 hM0, gI_9_21 hM0, gP_9_21 hM0, gI_9_22 hM0, gP_9_22 hM0, gI_9_23 hM0, gP_9_23 hM0, gI_9_24 hM0, gP_9_24 hM0, gR_9_25 hM0, gI_9_26 hM0, gP_9_26 hM0, gI_9_27 hM0, gP_9_27 hM0, gI_9_28 hM0, gP_9_28 hM0, gL_9_29 hM0, gP_9_29 hM0, gL_9_30 hM0, gP_9_30 hM0, iEQ_f, QX11_seen_11, m_rough hw h9 h8 hs hr, m_bit h8 hr, cI_s, cL_s, cF_s, cD_s, cA_s, cV_s, nI_add, cond_true, cond_false, if_true, if_false]
          simp (disch := omega) only [gO_9 hM0, gI_9_0 hM0, gP_9_0 hM0, gR_9_1 hM0, gR_9_2 hM0, gI_9_3 hM0, gP_9_3 hM0, gI_9_4 hM0, gP_9_4 hM0, gR_9_5 hM0, gR_9_6 hM0, gR_9_7 hM0, gI_9_8 hM0, gP_9_8 hM0, gI_9_9 hM0, gP_9_9 hM0, gI_9_10 hM0, gP_9_10 hM0, gI_9_11 hM0, gP_9_11 hM0, gI_9_12 hM0, gP_9_12 hM0, gI_9_13 hM0, gP_9_13 hM0, gI_9_14 hM0, gP_9_14 hM0, gI_9_15 hM0, gP_9_15 hM0, gI_9_16 hM0, gP_9_16 hM0, gR_9_17 hM0, gR_9_18 hM0, gR_9_19 hM0, gR_9_20 hM0, gI_9_21 hM0, gP_9_21 hM0, gI_9_22 hM0, gP_9_22 hM0, gI_9_23 hM0, gP_9_23 hM0, gI_9_24 hM0, gP_9_24 hM0, gR_9_25 hM0, gI_9_26 hM0, gP_9_26 hM0, gI_9_27 hM0, gP_9_27 hM0, gI_9_28 hM0, gP_9_28 hM0, gL_9_29 hM0, gP_9_29 hM0, gL_9_30 hM0, gP_9_30 hM0, iEQ_f, iEQ_t, QX11_seen_37, QX11_seen_52, QX11_seen_65, QX11_seen_85, cI_s, cL_s, cF_s, cD_s, cA_s, cV_s, nI_add, cond_true, cond_false, if_true, if_false]
          rfl
        · rw [h2 p hp]
          unfold gRaw
          rw [if_neg (fun z => by omega), if_neg (by decide), if_neg (fun z => hn z.2)]
          congr 1
          unfold updN
          by_cases e1 : p = b
          · rw [if_pos e1, e1]; omega
          · rw [if_neg e1]
            by_cases e2 : p = a
            · rw [if_pos e2, e2]; omega
            · rw [if_neg e2]; exact Nat.one_mul _
def pE (f : Nat → Nat) (i j p : Nat) : Int := (f p : Int) + (if p = i then (f j : Int) - f i else 0) + (if p = j then (f i : Int) - f j else 0)
theorem lm_pair (hw : S.1 0 3 = nI w) (h9 : w ≤ 9) (h8 : g 0 ≤ 8) (hB : ∀ p, p ≤ 8 → g (36 + p) ≤ 1000000) (s1 s2 s3 : Int32) {i j : Nat} (hi : i < g 0) (hj : j < g 0) (hij : i < j) {Z : Nat → Int} (hT : ∀ p, p ≤ g 0 → T p = lI (Z p)) (d : Nat) :
    ∃ T', qX11_unseen_70 E (d + 3) x s1 s2 s3 (nI i) (nI j) (wW E x shM (mS S w g T), n) = qX11_unseen_121 E (d + 3) x s1 s2 s3 (nI i) (nI j) (wW E x shM (mS S w g T'), n) ∧ ∀ p, p ≤ g 0 → T' p = lI (Z p + pE (gF g) i j p) := by
  obtain ⟨T1, h1, h2⟩ := m_stays (E := E) (x := x) (n := n) hw h9 h8 hB 1 hT d
  refine ⟨vp_updL (vp_updL T1 i (T1 i + (lI (gF g j) - lI (gF g i)))) j (T1 j + (lI (gF g i) - lI (gF g j))), ?_, fun p hp => ?_⟩
  · rw [QX11_unseen_70, show lN 1 = lI 1 from lI_N 1]
    simp (disch := omega) only [gO_9 hM0, gI_9_0 hM0, gP_9_0 hM0, gR_9_1 hM0, gR_9_2 hM0, gI_9_3 hM0, gP_9_3 hM0, gI_9_4 hM0, gP_9_4 hM0, gR_9_5 hM0, gR_9_6 hM0, gR_9_7 hM0, gI_9_8 hM0, gP_9_8 hM0, gI_9_9 hM0, gP_9_9 hM0, gI_9_10 hM0, gP_9_10 hM0, gI_9_11 hM0, gP_9_11 hM0, gI_9_12 hM0, gP_9_12 hM0, gI_9_13 hM0, gP_9_13 hM0, gI_9_14 hM0, gP_9_14 hM0, gI_9_15 hM0, gP_9_15 hM0, gI_9_16 hM0, gP_9_16 hM0, gR_9_17 hM0, gR_9_18 hM0, gR_9_19 hM0, gR_9_20 hM0, gI_9_21 hM0, gP_9_21 hM0, gI_9_22 hM0, gP_9_22 hM0, gI_9_23 hM0, gP_9_23 hM0, gI_9_24 hM0, gP_9_24 hM0, gR_9_25 hM0, gI_9_26 hM0, gP_9_26 hM0, gI_9_27 hM0, gP_9_27 hM0, gI_9_28 hM0, gP_9_28 hM0, gL_9_29 hM0, gP_9_29 hM0, gL_9_30 hM0, gP_9_30 hM0, cI_s, cL_s, cF_s, cD_s, cA_s, cV_s, nI_add, cond_true, cond_false, if_true, if_false]
    rw [h1]
    simp (disch := omega) only [gO_9 hM0, gI_9_0 hM0, gP_9_0 hM0, gR_9_1 hM0, gR_9_2 hM0, gI_9_3 hM0, gP_9_3 hM0, gI_9_4 hM0, gP_9_4 hM0, gR_9_5 hM0, gR_9_6 hM0, gR_9_7 hM0, gI_9_8 hM0, gP_9_8 hM0, gI_9_9 hM0, gP_9_9 hM0, gI_9_10 hM0, gP_9_10 hM0, gI_9_11 hM0, gP_9_11 hM0, gI_9_12 hM0, gP_9_12 hM0, gI_9_13 hM0, gP_9_13 hM0, gI_9_14 hM0, gP_9_14 hM0, gI_9_15 hM0, gP_9_15 hM0, gI_9_16 hM0, gP_9_16 hM0, gR_9_17 hM0, gR_9_18 hM0, gR_9_19 hM0, gR_9_20 hM0, gI_9_21 hM0, gP_9_21 hM0, gI_9_22 hM0, gP_9_22 hM0, gI_9_23 hM0, gP_9_23 hM0, gI_9_24 hM0, gP_9_24 hM0, gR_9_25 hM0, gI_9_26 hM0, gP_9_26 hM0, gI_9_27 hM0, gP_9_27 hM0, gI_9_28 hM0, gP_9_28 hM0, gL_9_29 hM0, gP_9_29 hM0, gL_9_30 hM0, gP_9_30 hM0, m_had hw h9 hB, aL_w hM3, sL_w hM3, mS_t, mS_then, lI_N, vp_updL_n, cI_s, cL_s, cF_s, cD_s, cA_s, cV_s, nI_add, cond_true, cond_false, if_true, if_false]
    rfl
  · unfold vp_updL pE
    have hp2 := h2 p hp
    by_cases e1 : p = j
    · subst e1
      rw [if_pos rfl, hp2, lI_sub, lI_add, if_neg (show ¬ p = i by omega), if_pos rfl]
      congr 1
      omega
    · rw [if_neg e1, if_neg e1]
      by_cases e2 : p = i
      · subst e2
        rw [if_pos rfl, if_pos rfl, hp2, lI_sub, lI_add]
        refine congrArg lI ?_
        omega
      · rw [if_neg e2, if_neg e2, hp2]
        refine congrArg lI ?_
        omega
theorem lm_un_in (hw : S.1 0 3 = nI w) (h9 : w ≤ 9) (h8 : g 0 ≤ 8) (hB : ∀ p, p ≤ 8 → g (36 + p) ≤ 1000000) {v u : Nat} (hv : v < 256) (hu : u < 256) {i : Nat} (hi : i < g 0) (d : Nat) :
    ∀ k j (T : Nat → Int64) (Z : Nat → Int), j + k = g 0 → i < j → (∀ p, p ≤ g 0 → T p = lI (Z p)) →
      ∃ T', qX11_unseen_46 E (d + 3) x (nI v) (nI u) (nI (g 0)) (nI i) (nI j) (wW E x shM (mS S w g T), n) = qX11_unseen_127 E (d + 3) x (nI v) (nI u) (nI (g 0)) (nI i) (wW E x shM (mS S w g T'), n) ∧
        ∀ p, p ≤ g 0 → T' p = lI (Z p + (iS (fun q => if xc v i q = u then pE (gF g) i q p else 0) (g 0) - iS (fun q => if xc v i q = u then pE (gF g) i q p else 0) j)) := by
  intro k
  induction k with
  | zero =>
    intro j T Z hj _ hT
    have hj : j = g 0 := hj
    refine ⟨T, ?_, fun p hp => ?_⟩
    · rw [QX11_unseen_46]
      simp (disch := omega) only [iLE_t, cI_s, cL_s, cF_s, cD_s, cA_s, cV_s, nI_add, cond_true, cond_false, if_true, if_false]
    · rw [hT p hp, hj, Int.sub_self, Int.add_zero]
  | succ k ih =>
    intro j T Z hj hij hT
    by_cases hc : xc v i j = u
    · obtain ⟨T1, h1, h2⟩ := lm_pair (E := E) (x := x) (n := n) hw h9 h8 hB (nI v) (nI u) (nI (g 0)) hi (show j < g 0 by omega) hij hT d
      obtain ⟨T2, h3, h4⟩ := ih (j + 1) T1 (fun p => Z p + pE (gF g) i j p) (by omega) (by omega) h2
      refine ⟨T2, ?_, fun p hp => ?_⟩
      · have hx := xc_lt (j := j) hv (show i < 8 by omega) (by omega)
        rw [QX11_unseen_46]
        simp (disch := omega) only [iLE_f, m_exchanged hv, cI_s, cL_s, cF_s, cD_s, cA_s, cV_s, nI_add, cond_true, cond_false, if_true, if_false]
        rw [hc]
        simp (disch := omega) only [iEQ_t, cI_s, cL_s, cF_s, cD_s, cA_s, cV_s, nI_add, cond_true, cond_false, if_true, if_false]
        rw [h1, QX11_unseen_121]
        simp (disch := omega) only [cI_s, cL_s, cF_s, cD_s, cA_s, cV_s, nI_add, cond_true, cond_false, if_true, if_false]
        exact h3
      · rw [h4 p hp]
        congr 1
        rw [show ∀ F : Nat → Int, iS F (j + 1) = iS F j + F j from fun _ => rfl, if_pos hc]
        omega
    · obtain ⟨T2, h3, h4⟩ := ih (j + 1) T Z (by omega) (by omega) hT
      refine ⟨T2, ?_, fun p hp => ?_⟩
      · have hx := xc_lt (j := j) hv (show i < 8 by omega) (by omega)
        rw [QX11_unseen_46]
        simp (disch := omega) only [iLE_f, m_exchanged hv, iEQ_f, QX11_unseen_121, cI_s, cL_s, cF_s, cD_s, cA_s, cV_s, nI_add, cond_true, cond_false, if_true, if_false]
        exact h3
      · rw [h4 p hp]
        congr 1
        rw [show ∀ F : Nat → Int, iS F (j + 1) = iS F j + F j from fun _ => rfl, if_neg hc]
        omega
def pH (g : Nat → Nat) (v u p i : Nat) : Int := iS (fun q => if xc v i q = u then pE (gF g) i q p else 0) (g 0) - iS (fun q => if xc v i q = u then pE (gF g) i q p else 0) (i + 1)
theorem lm_un_out (hw : S.1 0 3 = nI w) (h9 : w ≤ 9) (h8 : g 0 ≤ 8) (hB : ∀ p, p ≤ 8 → g (36 + p) ≤ 1000000) {v u : Nat} (hv : v < 256) (hu : u < 256) (d : Nat) :
    ∀ k i (T : Nat → Int64) (Z : Nat → Int), i + k = g 0 → (∀ p, p ≤ g 0 → T p = lI (Z p)) →
      ∃ T', qX11_unseen_33 E (d + 3) x (nI v) (nI u) (nI (g 0)) (nI i) (wW E x shM (mS S w g T), n) = qX11_unseen_133 E (d + 3) x (nI v) (nI u) (nI (g 0)) (wW E x shM (mS S w g T'), n) ∧
        ∀ p, p ≤ g 0 → T' p = lI (Z p + (iS (pH g v u p) (g 0) - iS (pH g v u p) i)) := by
  intro k
  induction k with
  | zero =>
    intro i T Z hi hT
    have hi : i = g 0 := hi
    refine ⟨T, ?_, fun p hp => ?_⟩
    · rw [QX11_unseen_33]
      simp (disch := omega) only [iLE_t, cI_s, cL_s, cF_s, cD_s, cA_s, cV_s, nI_add, cond_true, cond_false, if_true, if_false]
    · rw [hT p hp, hi, Int.sub_self, Int.add_zero]
  | succ k ih =>
    intro i T Z hi hT
    obtain ⟨T1, h1, h2⟩ := lm_un_in (E := E) (x := x) (n := n) hw h9 h8 hB hv hu (show i < g 0 by omega) d k (i + 1) T Z (by omega) (Nat.lt_succ_self i) hT
    obtain ⟨T2, h3, h4⟩ := ih (i + 1) T1 (fun p => Z p + pH g v u p i) (by omega) h2
    refine ⟨T2, ?_, fun p hp => ?_⟩
    · rw [QX11_unseen_33]
      simp (disch := omega) only [iLE_f, cI_s, cL_s, cF_s, cD_s, cA_s, cV_s, nI_add, cond_true, cond_false, if_true, if_false]
      rw [h1, QX11_unseen_127]
      simp (disch := omega) only [cI_s, cL_s, cF_s, cD_s, cA_s, cV_s, nI_add, cond_true, cond_false, if_true, if_false]
      exact h3
    · rw [h4 p hp]
      congr 1
      rw [show ∀ F : Nat → Int, iS F (i + 1) = iS F i + F i from fun _ => rfl]
      omega
def pK (f : Nat → Nat) (n s p q : Nat) : Int := 2 * (s : Int) * f p + (if p = n then (s : Int) * ((f q : Int) - f n) else 0) + (if p = q then (s : Int) * ((f n : Int) - f q) else 0)
theorem lm_sly (hw : S.1 0 3 = nI w) (h9 : w ≤ 9) (h8 : g 0 ≤ 8) (h6 : g 6 ≤ 9) (hB : ∀ p, p ≤ 8 → g (36 + p) ≤ 1000000) (d : Nat) :
    ∀ k i (T : Nat → Int64) (Z : Nat → Int), i + k = g 0 → (∀ p, p ≤ g 0 → T p = lI (Z p)) →
      ∃ T', qX11_unseen_154 E (d + 3) x (nI (g 0)) (nI i) (wW E x shM (mS S w g T), n) = some (.inl none, (wW E x shM (mS S w g T'), n)) ∧
        ∀ p, p ≤ g 0 → T' p = lI (Z p + (iS (pK (gF g) (g 0) (g 6) p) (g 0) - iS (pK (gF g) (g 0) (g 6) p) i)) := by
  intro k
  induction k with
  | zero =>
    intro i T Z hi hT
    have hi : i = g 0 := hi
    refine ⟨T, ?_, fun p hp => ?_⟩
    · rw [QX11_unseen_154]
      simp (disch := omega) only [iLE_t, QX11_unseen_244, cI_s, cL_s, cF_s, cD_s, cA_s, cV_s, nI_add, cond_true, cond_false, if_true, if_false]
    · rw [hT p hp, hi, Int.sub_self, Int.add_zero]
  | succ k ih =>
    intro i T Z hi hT
    obtain ⟨T1, h1, h2⟩ := m_stays (E := E) (x := x) (n := n) hw h9 h8 hB (((2 : Nat) : Int) * (g 6 : Int)) hT d
    have h2 : ∀ p, p ≤ g 0 → T1 p = lI (Z p + 2 * (g 6 : Int) * gF g p) := fun p hp => h2 p hp
    obtain ⟨T2, h3, h4⟩ := ih (i + 1) (vp_updL (vp_updL T1 (g 0) (T1 (g 0) + lI (g 6) * (lI (gF g i) - lI (gF g (g 0))))) i (T1 i + lI (g 6) * (lI (gF g (g 0)) - lI (gF g i)))) (fun p => Z p + pK (gF g) (g 0) (g 6) p i) (by omega) (fun p hp => by
      have hp2 := h2 p hp
      unfold vp_updL pK
      by_cases e1 : p = i
      · subst e1
        rw [if_pos rfl, hp2, lI_sub, lI_mul, lI_add, if_neg (show ¬ p = g 0 by omega), if_pos rfl]
        refine congrArg lI ?_
        omega
      · rw [if_neg e1, if_neg e1]
        by_cases e2 : p = g 0
        · rw [if_pos e2, if_pos e2, ← e2, hp2, lI_sub, lI_mul, lI_add]
          refine congrArg lI ?_
          omega
        · rw [if_neg e2, if_neg e2, hp2]
          refine congrArg lI ?_
          omega)
    refine ⟨T2, ?_, fun p hp => ?_⟩
    · rw [QX11_unseen_154]
      simp (disch := omega) only [gO_9 hM0, gI_9_0 hM0, gP_9_0 hM0, gR_9_1 hM0, gR_9_2 hM0, gI_9_3 hM0, gP_9_3 hM0, gI_9_4 hM0, gP_9_4 hM0, gR_9_5 hM0, gR_9_6 hM0, gR_9_7 hM0, gI_9_8 hM0, gP_9_8 hM0, gI_9_9 hM0, gP_9_9 hM0, gI_9_10 hM0, gP_9_10 hM0, gI_9_11 hM0, gP_9_11 hM0, gI_9_12 hM0, gP_9_12 hM0, gI_9_13 hM0, gP_9_13 hM0, gI_9_14 hM0, gP_9_14 hM0, gI_9_15 hM0, gP_9_15 hM0, gI_9_16 hM0, gP_9_16 hM0, gR_9_17 hM0, gR_9_18 hM0, gR_9_19 hM0, gR_9_20 hM0, gI_9_21 hM0, gP_9_21 hM0, gI_9_22 hM0, gP_9_22 hM0, gI_9_23 hM0, gP_9_23 hM0, gI_9_24 hM0, gP_9_24 hM0, gR_9_25 hM0, gI_9_26 hM0, gP_9_26 hM0, gI_9_27 hM0, gP_9_27 hM0, gI_9_28 hM0, gP_9_28 hM0, gL_9_29 hM0, gP_9_29 hM0, gL_9_30 hM0, gP_9_30 hM0, iLE_f, m_get hw h9, nI_l, lI_N, lI_mul, cI_s, cL_s, cF_s, cD_s, cA_s, cV_s, nI_add, cond_true, cond_false, if_true, if_false]
      rw [h1]
      simp (disch := omega) only [gO_9 hM0, gI_9_0 hM0, gP_9_0 hM0, gR_9_1 hM0, gR_9_2 hM0, gI_9_3 hM0, gP_9_3 hM0, gI_9_4 hM0, gP_9_4 hM0, gR_9_5 hM0, gR_9_6 hM0, gR_9_7 hM0, gI_9_8 hM0, gP_9_8 hM0, gI_9_9 hM0, gP_9_9 hM0, gI_9_10 hM0, gP_9_10 hM0, gI_9_11 hM0, gP_9_11 hM0, gI_9_12 hM0, gP_9_12 hM0, gI_9_13 hM0, gP_9_13 hM0, gI_9_14 hM0, gP_9_14 hM0, gI_9_15 hM0, gP_9_15 hM0, gI_9_16 hM0, gP_9_16 hM0, gR_9_17 hM0, gR_9_18 hM0, gR_9_19 hM0, gR_9_20 hM0, gI_9_21 hM0, gP_9_21 hM0, gI_9_22 hM0, gP_9_22 hM0, gI_9_23 hM0, gP_9_23 hM0, gI_9_24 hM0, gP_9_24 hM0, gR_9_25 hM0, gI_9_26 hM0, gP_9_26 hM0, gI_9_27 hM0, gP_9_27 hM0, gI_9_28 hM0, gP_9_28 hM0, gL_9_29 hM0, gP_9_29 hM0, gL_9_30 hM0, gP_9_30 hM0, m_get hw h9, m_had hw h9 hB, aL_w hM3, sL_w hM3, mS_t, mS_then, nI_l, lI_N, vp_updL_n, cI_s, cL_s, cF_s, cD_s, cA_s, cV_s, nI_add, cond_true, cond_false, if_true, if_false]
      exact h3
    · rw [h4 p hp]
      congr 1
      rw [show ∀ F : Nat → Int, iS F (i + 1) = iS F i + F i from fun _ => rfl]
      omega
end M2
