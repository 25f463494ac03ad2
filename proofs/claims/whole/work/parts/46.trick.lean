/-! THE MOVE THAT FOOLS MOST. -/
abbrev tB : Type := Nat × Nat × Nat × Nat × Nat
def tIts (bl : Bool) (g : Nat → Nat) (k a b : Nat) : Nat := gThk bl k a b g (gBall k a b g)
def tAll (bl : Bool) (g : Nat → Nat) (k a b : Nat) : Nat := mSum (gThk bl k a b g) (g 0 + 1)
def tU (bl : Bool) (g : Nat → Nat) (k a b : Nat) (B : tB) : tB := if tIts bl g k a b * B.2.2.2.2 < B.2.2.2.1 * tAll bl g k a b then (k, a, b, tIts bl g k a b, tAll bl g k a b) else B
def tIn (bl : Bool) (g : Nat → Nat) (k a : Nat) : Nat → Nat → tB → tB
  | 0, _, B => B
  | m + 1, b, B => tIn bl g k a m (b + 1) (tU bl g k a b B)
def tOut (bl : Bool) (g : Nat → Nat) (k : Nat) : Nat → Nat → tB → tB
  | 0, _, B => B
  | m + 1, a, B => tOut bl g k m (a + 1) (tIn bl g k a m (a + 1) B)
def gFool (g : Nat → Nat) : tB := tOut (gBl g) g 1 (g 0) 0 (tOut (gBl g) g 0 (g 0) 0 (0, 0, 0, 1, 0))
/-- what is found, as long as nothing is found the sum is 0 -/
def okB (g : Nat → Nat) (B : tB) : Prop := B.2.2.2.1 ≤ 1000000 ∧ B.2.2.2.2 ≤ 9000000 ∧ (B.2.2.2.2 = 0 → B.2.2.2.1 = 1) ∧ (B.2.2.2.2 ≠ 0 → B.1 ≤ 1 ∧ B.2.1 < g 0 ∧ B.2.2.1 < g 0 ∧ B.2.1 ≠ B.2.2.1)
theorem tAll_b {bl : Bool} {g : Nat → Nat} (H : iG g) {k a b : Nat} (hk : k ≤ 1) (ha : a < g 0) (hb : b < g 0) (hne : a ≠ b) : 0 < tAll bl g k a b ∧ tAll bl g k a b ≤ 9000000 ∧ tIts bl g k a b ≤ 1000000 ∧ gBall k a b g ≤ g 0 := by
  have hst : okS bl k a b g := ⟨by omega, fun _ => ⟨ha, hb, hne⟩, fun z => by omega, fun z => by omega⟩
  have hF := gRaw_lt (bl := bl) (k := k) (a := a) (b := b) H (fun _ => ⟨ha, hb⟩)
  obtain ⟨hp0, hpb⟩ := gRaw_ball H hst.1 hst.2.1 hst.2.2.1 hst.2.2.2
  have h8 := H.1.2.1
  have hle : ∀ p, p < g 0 + 1 → gThk bl k a b g p ≤ 1000000 := mSettle_le (fun p hp => hF p (by omega))
  have hs := mSum_le (f := gThk bl k a b g) (B := 1000000) (g 0 + 1) hle
  have hm : (g 0 + 1) * 1000000 ≤ 9 * 1000000 := Nat.mul_le_mul_right _ (by omega)
  have hpos : 0 < gThk bl k a b g (gBall k a b g) := mSettle_pos (by omega) hp0
  have hin := mSum_in (f := gThk bl k a b g) (p := gBall k a b g) (g 0 + 1) (by omega)
  refine ⟨?_, ?_, hle _ (by omega), hpb⟩
  · unfold tAll; omega
  · unfold tAll; omega
theorem okB_U {bl : Bool} {g : Nat → Nat} (H : iG g) {k a b : Nat} (hk : k ≤ 1) (ha : a < g 0) (hb : b < g 0) (hne : a ≠ b) {B : tB} (h : okB g B) : okB g (tU bl g k a b B) ∧ (tU bl g k a b B).2.2.2.2 ≠ 0 := by
  obtain ⟨h1, h2, h3, h4⟩ := tAll_b (bl := bl) H hk ha hb hne
  unfold tU
  by_cases c : tIts bl g k a b * B.2.2.2.2 < B.2.2.2.1 * tAll bl g k a b
  · rw [if_pos c]
    exact ⟨⟨h3, h2, fun z => by have z : tAll bl g k a b = 0 := z; omega, fun _ => ⟨hk, ha, hb, hne⟩⟩, by show tAll bl g k a b ≠ 0; omega⟩
  · rw [if_neg c]
    refine ⟨h, fun z => ?_⟩
    rw [z, h.2.2.1 z, Nat.mul_zero, Nat.one_mul] at c
    omega
theorem okB_In {bl : Bool} {g : Nat → Nat} (H : iG g) {k a : Nat} (hk : k ≤ 1) (ha : a < g 0) : ∀ m b B, b + m = g 0 → a < b → okB g B → okB g (tIn bl g k a m b B) ∧ (m ≠ 0 ∨ B.2.2.2.2 ≠ 0 → (tIn bl g k a m b B).2.2.2.2 ≠ 0) := by
  intro m
  induction m with
  | zero => exact fun b B _ _ h => ⟨h, fun z => z.elim (fun z => absurd rfl z) id⟩
  | succ m ih =>
    intro b B hm hab h
    obtain ⟨u1, u2⟩ := okB_U (bl := bl) H hk ha (show b < g 0 by omega) (by omega) h
    obtain ⟨i1, i2⟩ := ih (b + 1) _ (by omega) (by omega) u1
    exact ⟨i1, fun _ => i2 (Or.inr u2)⟩
theorem okB_Out {bl : Bool} {g : Nat → Nat} (H : iG g) {k : Nat} (hk : k ≤ 1) : ∀ m a B, a + m = g 0 → okB g B → okB g (tOut bl g k m a B) ∧ (2 ≤ m ∨ B.2.2.2.2 ≠ 0 → (tOut bl g k m a B).2.2.2.2 ≠ 0) := by
  intro m
  induction m with
  | zero => exact fun b B _ h => ⟨h, fun z => z.elim (fun z => by omega) id⟩
  | succ m ih =>
    intro a B hm h
    obtain ⟨u1, u2⟩ := okB_In (bl := bl) H hk (show a < g 0 by omega) m (a + 1) B (by omega) (by omega) h
    obtain ⟨i1, i2⟩ := ih (a + 1) _ (by omega) u1
    exact ⟨i1, fun z => i2 (Or.inr (u2 (z.elim (fun z => Or.inl (by omega)) Or.inr)))⟩
theorem gFool_ok {g : Nat → Nat} (H : iG g) : okB g (gFool g) ∧ (gFool g).2.2.2.2 ≠ 0 := by
  have h2 := H.1.1
  obtain ⟨a1, a2⟩ := okB_Out (bl := gBl g) H (k := 0) (by omega) (g 0) 0 (0, 0, 0, 1, 0) (by omega) ⟨by show 1 ≤ 1000000; omega, Nat.zero_le _, fun _ => rfl, fun z => absurd rfl z⟩
  obtain ⟨b1, b2⟩ := okB_Out (bl := gBl g) H (k := 1) (by omega) (g 0) 0 _ (by omega) a1
  exact ⟨b1, b2 (Or.inl h2)⟩
theorem lcT_t {α : Sort _} {a b : Nat} {A B : α} (h : a < b) (hb : b < 2 ^ 63) : (if lg_cmp (lN a) (lN b) < nI 0 then A else B) = A := if_pos ((lg_cmp_lt _ _).2 ((pk_lLT (Nat.lt_trans h hb) hb).2 h))
theorem lcT_f {α : Sort _} {a b : Nat} {A B : α} (h : ¬ a < b) (ha : a < 2 ^ 63) : (if lg_cmp (lN a) (lN b) < nI 0 then A else B) = B := if_neg (fun z => h ((pk_lLT ha (by omega)).1 ((lg_cmp_lt _ _).1 z)))
section TR
variable {E : xEn} {x n w : Nat} {S : xSt} {g : Nat → Nat} {T : Nat → Int64}
theorem mS_sS {k : Nat} {v : Int32} : sS (mS S w g T) 0 k v = mS (sS S 0 k v) w g T := rfl
theorem mS_sJ {k : Nat} {v : Int64} : sJ (mS S w g T) 0 k v = mS (sJ S 0 k v) w g T := rfl
theorem sJ_s {S : xSt} {q k : Nat} {v : Int64} : (sJ S q k v).2.2.1 q k = v := if_pos ⟨rfl, rfl⟩
theorem sJ_n {S : xSt} {q k k' : Nat} {v : Int64} (h : k' ≠ k) : (sJ S q k v).2.2.1 q k' = S.2.2.1 q k' := if_neg (fun c => h c.2)
theorem sJ_1 {S : xSt} {q k : Nat} {v : Int64} : (sJ S q k v).1 = S.1 := rfl
def fmF (S S' : xSt) : Prop := (∀ k, k < 26 → S'.1 0 k = S.1 0 k) ∧ S'.2.1 = S.2.1
theorem fmF_rf {S : xSt} : fmF S S := ⟨fun _ _ => rfl, rfl⟩
theorem fmF_tr {S S1 S2 : xSt} (h : fmF S S1) (h2 : fmF S1 S2) : fmF S S2 := ⟨fun k hk => (h2.1 k hk).trans (h.1 k hk), h2.2.trans h.2⟩
def pFM (S : xSt) (B : tB) : Prop := (B.2.2.2.2 = 0 → S.1 0 26 = -1) ∧ (B.2.2.2.2 ≠ 0 → S.1 0 26 = nI B.1 ∧ S.1 0 27 = nI B.2.1 ∧ S.1 0 28 = nI B.2.2.1 ∧ S.2.2.1 0 29 = lN B.2.2.2.1 ∧ S.2.2.1 0 30 = lN B.2.2.2.2)
theorem lm_triesum (hw : S.1 0 3 = nI w) (h9 : w ≤ 9) (h8 : g 0 ≤ 8) {F : Nat → Nat} (hT : ∀ p, p ≤ g 0 → T p = lN (F p)) (s1 s2 s3 : Int32) (l : Int64) (d : Nat) :
    ∀ k i, i + k = g 0 + 1 → qX11_tries_27 E (d + 2) x s1 s2 s3 l (lN (mSum F i)) (nI i) (wW E x shM (mS S w g T), n) = qX11_tries_54 E (d + 2) x s1 s2 s3 l (lN (mSum F (g 0 + 1))) (wW E x shM (mS S w g T), n) := by
  intro k
  induction k with
  | zero =>
    intro i hi
    have hi : i = g 0 + 1 := hi
    subst hi
    rw [QX11_tries_27]
    simp (disch := omega) only [gO_9 hM0, gI_9_0 hM0, gP_9_0 hM0, gR_9_1 hM0, gR_9_2 hM0, gI_9_3 hM0, gP_9_3 hM0, gI_9_4 hM0, gP_9_4 hM0, gR_9_5 hM0, gR_9_6 hM0, gR_9_7 hM0, gI_9_8 hM0, gP_9_8 hM0, gI_9_9 hM0, gP_9_9 hM0, gI_9_10 hM0, gP_9_10 hM0, gI_9_11 hM0, gP_9_11 hM0, gI_9_12 hM0, gP_9_12 hM0, gI_9_13 hM0, gP_9_13 hM0, gI_9_14 hM0, gP_9_14 hM0, gI_9_15 hM0, gP_9_15 hM0, gI_9_16 hM0, gP_9_16 hM0, gR_9_17 hM0, gR_9_18 hM0, gR_9_19 hM0, gR_9_20 hM0, gI_9_21 hM0, gP_9_21 hM0, gI_9_22 hM0, gP_9_22 hM0, gI_9_23 hM0, gP_9_23 hM0, gI_9_24 hM0, gP_9_24 hM0, gR_9_25 hM0, gI_9_26 hM0, gP_9_26 hM0, gI_9_27 hM0, gP_9_27 hM0, gI_9_28 hM0, gP_9_28 hM0, gL_9_29 hM0, gP_9_29 hM0, gL_9_30 hM0, gP_9_30 hM0, m_shells hw h9, iLT_t, cI_s, cL_s, cF_s, cD_s, cA_s, cV_s, nI_add, cond_true, cond_false, if_true, if_false]
  | succ k ih =>
    intro i hi
    rw [QX11_tries_27]
    simp (disch := omega) only [gO_9 hM0, gI_9_0 hM0, gP_9_0 hM0, gR_9_1 hM0, gR_9_2 hM0, gI_9_3 hM0, gP_9_3 hM0, gI_9_4 hM0, gP_9_4 hM0, gR_9_5 hM0, gR_9_6 hM0, gR_9_7 hM0, gI_9_8 hM0, gP_9_8 hM0, gI_9_9 hM0, gP_9_9 hM0, gI_9_10 hM0, gP_9_10 hM0, gI_9_11 hM0, gP_9_11 hM0, gI_9_12 hM0, gP_9_12 hM0, gI_9_13 hM0, gP_9_13 hM0, gI_9_14 hM0, gP_9_14 hM0, gI_9_15 hM0, gP_9_15 hM0, gI_9_16 hM0, gP_9_16 hM0, gR_9_17 hM0, gR_9_18 hM0, gR_9_19 hM0, gR_9_20 hM0, gI_9_21 hM0, gP_9_21 hM0, gI_9_22 hM0, gP_9_22 hM0, gI_9_23 hM0, gP_9_23 hM0, gI_9_24 hM0, gP_9_24 hM0, gR_9_25 hM0, gI_9_26 hM0, gP_9_26 hM0, gI_9_27 hM0, gP_9_27 hM0, gI_9_28 hM0, gP_9_28 hM0, gL_9_29 hM0, gP_9_29 hM0, gL_9_30 hM0, gP_9_30 hM0, m_shells hw h9, iLT_f, aL_w hM3, mS_t, hT i (by omega), lN_add, cI_s, cL_s, cF_s, cD_s, cA_s, cV_s, nI_add, cond_true, cond_false, if_true, if_false]
    exact ih (i + 1) (by omega)
theorem m_tries (hw : S.1 0 3 = nI w) (h9 : w ≤ 9) (H : iG g) {k a b : Nat} (hk : k ≤ 1) (ha : a < g 0) (hb : b < g 0) (hne : a ≠ b) {B : tB} (hB : okB g B) (hP : pFM S B) (d : Nat) :
    ∃ S' T', xsem xT E (d + 6) kX11_tries [.ref x, .int (nI k), .int (nI a), .int (nI b)] (wW E x shM (mS S w g T), n) = some (.inl none, (wW E x shM (mS S' w g T'), n)) ∧ fmF S S' ∧ pFM S' (tU (gBl g) g k a b B) := by
  obtain ⟨T1, h1, h2⟩ := m_thinks (E := E) (x := x) (n := n) (T := T) hw h9 H (k := k) (a := a) (b := b) (by omega) (fun _ => ⟨ha, hb, hne⟩) (fun z => by omega) d
  obtain ⟨t1, t2, t3, t4⟩ := tAll_b (bl := gBl g) H hk ha hb hne
  have h8 := H.1.2.1
  have hx : xsem xT E (d + 6) kX11_tries [.ref x, .int (nI k), .int (nI a), .int (nI b)] (wW E x shM (mS S w g T), n) = qX11_tries_54 E (d + 5) x (nI k) (nI a) (nI b) (lN (tIts (gBl g) g k a b)) (lN (tAll (gBl g) g k a b)) (wW E x shM (mS S w g T1), n) := by
    rw [eX11_tries, QX11_tries_0]
    simp (disch := omega) only [gO_9 hM0, gI_9_0 hM0, gP_9_0 hM0, gR_9_1 hM0, gR_9_2 hM0, gI_9_3 hM0, gP_9_3 hM0, gI_9_4 hM0, gP_9_4 hM0, gR_9_5 hM0, gR_9_6 hM0, gR_9_7 hM0, gI_9_8 hM0, gP_9_8 hM0, gI_9_9 hM0, gP_9_9 hM0, gI_9_10 hM0, gP_9_10 hM0, gI_9_11 hM0, gP_9_11 hM0, gI_9_12 hM0, gP_9_12 hM0, gI_9_13 hM0, gP_9_13 hM0, gI_9_14 hM0, gP_9_14 hM0, gI_9_15 hM0, gP_9_15 hM0, gI_9_16 hM0, gP_9_16 hM0, gR_9_17 hM0, gR_9_18 hM0, gR_9_19 hM0, gR_9_20 hM0, gI_9_21 hM0, gP_9_21 hM0, gI_9_22 hM0, gP_9_22 hM0, gI_9_23 hM0, gP_9_23 hM0, gI_9_24 hM0, gP_9_24 hM0, gR_9_25 hM0, gI_9_26 hM0, gP_9_26 hM0, gI_9_27 hM0, gP_9_27 hM0, gI_9_28 hM0, gP_9_28 hM0, gL_9_29 hM0, gP_9_29 hM0, gL_9_30 hM0, gP_9_30 hM0, cI_s, cL_s, cF_s, cD_s, cA_s, cV_s, nI_add, cond_true, cond_false, if_true, if_false]
    rw [h1]
    simp (disch := omega) only [gO_9 hM0, gI_9_0 hM0, gP_9_0 hM0, gR_9_1 hM0, gR_9_2 hM0, gI_9_3 hM0, gP_9_3 hM0, gI_9_4 hM0, gP_9_4 hM0, gR_9_5 hM0, gR_9_6 hM0, gR_9_7 hM0, gI_9_8 hM0, gP_9_8 hM0, gI_9_9 hM0, gP_9_9 hM0, gI_9_10 hM0, gP_9_10 hM0, gI_9_11 hM0, gP_9_11 hM0, gI_9_12 hM0, gP_9_12 hM0, gI_9_13 hM0, gP_9_13 hM0, gI_9_14 hM0, gP_9_14 hM0, gI_9_15 hM0, gP_9_15 hM0, gI_9_16 hM0, gP_9_16 hM0, gR_9_17 hM0, gR_9_18 hM0, gR_9_19 hM0, gR_9_20 hM0, gI_9_21 hM0, gP_9_21 hM0, gI_9_22 hM0, gP_9_22 hM0, gI_9_23 hM0, gP_9_23 hM0, gI_9_24 hM0, gP_9_24 hM0, gR_9_25 hM0, gI_9_26 hM0, gP_9_26 hM0, gI_9_27 hM0, gP_9_27 hM0, gI_9_28 hM0, gP_9_28 hM0, gL_9_29 hM0, gP_9_29 hM0, gL_9_30 hM0, gP_9_30 hM0, m_ballBehind hw h9 H, aL_w hM3, mS_t, h2 _ t4, cI_s, cL_s, cF_s, cD_s, cA_s, cV_s, nI_add, cond_true, cond_false, if_true, if_false]
    exact lm_triesum hw h9 h8 h2 _ _ _ _ (d + 3) (g 0 + 1) 0 (by omega)
  have hy : qX11_tries_81 E (d + 5) x (nI k) (nI a) (nI b) (lN (tIts (gBl g) g k a b)) (lN (tAll (gBl g) g k a b)) (wW E x shM (mS S w g T1), n) = some (.inl none, (wW E x shM (mS (sJ (sJ (sS (sS (sS S 0 26 (nI k)) 0 27 (nI a)) 0 28 (nI b)) 0 29 (lN (tIts (gBl g) g k a b))) 0 30 (lN (tAll (gBl g) g k a b))) w g T1), n)) := by
    rw [QX11_tries_81]
    simp (disch := omega) only [gO_9 hM0, gI_9_0 hM0, gP_9_0 hM0, gR_9_1 hM0, gR_9_2 hM0, gI_9_3 hM0, gP_9_3 hM0, gI_9_4 hM0, gP_9_4 hM0, gR_9_5 hM0, gR_9_6 hM0, gR_9_7 hM0, gI_9_8 hM0, gP_9_8 hM0, gI_9_9 hM0, gP_9_9 hM0, gI_9_10 hM0, gP_9_10 hM0, gI_9_11 hM0, gP_9_11 hM0, gI_9_12 hM0, gP_9_12 hM0, gI_9_13 hM0, gP_9_13 hM0, gI_9_14 hM0, gP_9_14 hM0, gI_9_15 hM0, gP_9_15 hM0, gI_9_16 hM0, gP_9_16 hM0, gR_9_17 hM0, gR_9_18 hM0, gR_9_19 hM0, gR_9_20 hM0, gI_9_21 hM0, gP_9_21 hM0, gI_9_22 hM0, gP_9_22 hM0, gI_9_23 hM0, gP_9_23 hM0, gI_9_24 hM0, gP_9_24 hM0, gR_9_25 hM0, gI_9_26 hM0, gP_9_26 hM0, gI_9_27 hM0, gP_9_27 hM0, gI_9_28 hM0, gP_9_28 hM0, gL_9_29 hM0, gP_9_29 hM0, gL_9_30 hM0, gP_9_30 hM0, mS_sS, mS_sJ, cI_s, cL_s, cF_s, cD_s, cA_s, cV_s, nI_add, cond_true, cond_false, if_true, if_false]
  have hz : fmF S (sJ (sJ (sS (sS (sS S 0 26 (nI k)) 0 27 (nI a)) 0 28 (nI b)) 0 29 (lN (tIts (gBl g) g k a b))) 0 30 (lN (tAll (gBl g) g k a b))) ∧ pFM (sJ (sJ (sS (sS (sS S 0 26 (nI k)) 0 27 (nI a)) 0 28 (nI b)) 0 29 (lN (tIts (gBl g) g k a b))) 0 30 (lN (tAll (gBl g) g k a b))) (k, a, b, tIts (gBl g) g k a b, tAll (gBl g) g k a b) := by
    refine ⟨⟨fun j hj => ?_, rfl⟩, fun z => ?_, fun _ => ⟨?_, ?_, ?_, ?_, ?_⟩⟩
    · rw [sJ_1, sJ_1, sS_n (by omega), sS_n (by omega), sS_n (by omega)]
    · have z : tAll (gBl g) g k a b = 0 := z
      omega
    · rw [sJ_1, sJ_1, sS_n (by omega), sS_n (by omega), sS_s]
    · rw [sJ_1, sJ_1, sS_n (by omega), sS_s]
    · rw [sJ_1, sJ_1, sS_s]
    · rw [sJ_n (by omega), sJ_s]
    · rw [sJ_s]
  by_cases c0 : B.2.2.2.2 = 0
  · have hu : tU (gBl g) g k a b B = (k, a, b, tIts (gBl g) g k a b, tAll (gBl g) g k a b) := by
      unfold tU
      rw [if_pos (by rw [c0, hB.2.2.1 c0, Nat.mul_zero, Nat.one_mul]; exact t1)]
    refine ⟨_, T1, ?_, hz.1, by rw [hu]; exact hz.2⟩
    rw [hx, QX11_tries_54]
    simp (disch := omega) only [gO_9 hM0, gI_9_0 hM0, gP_9_0 hM0, gR_9_1 hM0, gR_9_2 hM0, gI_9_3 hM0, gP_9_3 hM0, gI_9_4 hM0, gP_9_4 hM0, gR_9_5 hM0, gR_9_6 hM0, gR_9_7 hM0, gI_9_8 hM0, gP_9_8 hM0, gI_9_9 hM0, gP_9_9 hM0, gI_9_10 hM0, gP_9_10 hM0, gI_9_11 hM0, gP_9_11 hM0, gI_9_12 hM0, gP_9_12 hM0, gI_9_13 hM0, gP_9_13 hM0, gI_9_14 hM0, gP_9_14 hM0, gI_9_15 hM0, gP_9_15 hM0, gI_9_16 hM0, gP_9_16 hM0, gR_9_17 hM0, gR_9_18 hM0, gR_9_19 hM0, gR_9_20 hM0, gI_9_21 hM0, gP_9_21 hM0, gI_9_22 hM0, gP_9_22 hM0, gI_9_23 hM0, gP_9_23 hM0, gI_9_24 hM0, gP_9_24 hM0, gR_9_25 hM0, gI_9_26 hM0, gP_9_26 hM0, gI_9_27 hM0, gP_9_27 hM0, gI_9_28 hM0, gP_9_28 hM0, gL_9_29 hM0, gP_9_29 hM0, gL_9_30 hM0, gP_9_30 hM0, mS_1, hP.1 c0, cI_s, cL_s, cF_s, cD_s, cA_s, cV_s, nI_add, cond_true, cond_false, if_true, if_false]
    exact hy
  · obtain ⟨p1, p2, p3, p4, p5⟩ := hP.2 c0
    obtain ⟨b1, b2, _, b4⟩ := hB
    have b5 := (b4 c0).1
    have hne1 : ¬ nI B.1 = (-1 : Int32) := by
      have : B.1 = 0 ∨ B.1 = 1 := by omega
      rcases this with e | e <;> rw [e] <;> decide
    have m1 : tIts (gBl g) g k a b * B.2.2.2.2 ≤ 1000000 * 9000000 := Nat.mul_le_mul t3 b2
    have m2 : B.2.2.2.1 * tAll (gBl g) g k a b ≤ 1000000 * 9000000 := Nat.mul_le_mul b1 t2
    have hw1 : qX11_tries_54 E (d + 5) x (nI k) (nI a) (nI b) (lN (tIts (gBl g) g k a b)) (lN (tAll (gBl g) g k a b)) (wW E x shM (mS S w g T1), n) = if lg_cmp (lN (tIts (gBl g) g k a b * B.2.2.2.2)) (lN (B.2.2.2.1 * tAll (gBl g) g k a b)) < nI 0 then qX11_tries_81 E (d + 5) x (nI k) (nI a) (nI b) (lN (tIts (gBl g) g k a b)) (lN (tAll (gBl g) g k a b)) (wW E x shM (mS S w g T1), n) else some (.inl none, (wW E x shM (mS S w g T1), n)) := by
      rw [QX11_tries_54]
      simp (disch := omega) only [gO_9 hM0, gI_9_0 hM0, gP_9_0 hM0, gR_9_1 hM0, gR_9_2 hM0, gI_9_3 hM0, gP_9_3 hM0, gI_9_4 hM0, gP_9_4 hM0, gR_9_5 hM0, gR_9_6 hM0, gR_9_7 hM0, gI_9_8 hM0, gP_9_8 hM0, gI_9_9 hM0, gP_9_9 hM0, gI_9_10 hM0, gP_9_10 hM0, gI_9_11 hM0, gP_9_11 hM0, gI_9_12 hM0, gP_9_12 hM0, gI_9_13 hM0, gP_9_13 hM0, gI_9_14 hM0, gP_9_14 hM0, gI_9_15 hM0, gP_9_15 hM0, gI_9_16 hM0, gP_9_16 hM0, gR_9_17 hM0, gR_9_18 hM0, gR_9_19 hM0, gR_9_20 hM0, gI_9_21 hM0, gP_9_21 hM0, gI_9_22 hM0, gP_9_22 hM0, gI_9_23 hM0, gP_9_23 hM0, gI_9_24 hM0, gP_9_24 hM0, gR_9_25 hM0, gI_9_26 hM0, gP_9_26 hM0, gI_9_27 hM0, gP_9_27 hM0, gI_9_28 hM0, gP_9_28 hM0, gL_9_29 hM0, gP_9_29 hM0, gL_9_30 hM0, gP_9_30 hM0, mS_1, mS_l, p1, p4, p5, if_neg hne1, lN_mul, cI_s, cL_s, cF_s, cD_s, cA_s, cV_s, nI_add, cond_true, cond_false, if_true, if_false]
    unfold tU
    by_cases c : tIts (gBl g) g k a b * B.2.2.2.2 < B.2.2.2.1 * tAll (gBl g) g k a b
    · refine ⟨_, T1, ?_, hz.1, by rw [if_pos c]; exact hz.2⟩
      rw [hx, hw1, lcT_t c (by omega)]
      exact hy
    · refine ⟨S, T1, ?_, fmF_rf, by rw [if_neg c]; exact hP⟩
      rw [hx, hw1, lcT_f c (by omega)]
theorem lm_fin (h9 : w ≤ 9) (H : iG g) {k a : Nat} (hk : k ≤ 1) (ha : a < g 0) (d : Nat) :
    ∀ m b (S : xSt) (T : Nat → Int64) (B : tB), b + m = g 0 → a < b → S.1 0 3 = nI w → okB g B → pFM S B →
      ∃ S' T', qX11_fools_26 E (d + 6) x (nI k) (nI a) (nI b) (wW E x shM (mS S w g T), n) = qX11_fools_47 E (d + 6) x (nI k) (nI a) (wW E x shM (mS S' w g T'), n) ∧ fmF S S' ∧ pFM S' (tIn (gBl g) g k a m b B) := by
  intro m
  induction m with
  | zero =>
    intro b S T B hm _ hw _ hP
    have h8 := H.1.2.1
    refine ⟨S, T, ?_, fmF_rf, hP⟩
    rw [QX11_fools_26]
    simp (disch := omega) only [gO_9 hM0, gI_9_0 hM0, gP_9_0 hM0, gR_9_1 hM0, gR_9_2 hM0, gI_9_3 hM0, gP_9_3 hM0, gI_9_4 hM0, gP_9_4 hM0, gR_9_5 hM0, gR_9_6 hM0, gR_9_7 hM0, gI_9_8 hM0, gP_9_8 hM0, gI_9_9 hM0, gP_9_9 hM0, gI_9_10 hM0, gP_9_10 hM0, gI_9_11 hM0, gP_9_11 hM0, gI_9_12 hM0, gP_9_12 hM0, gI_9_13 hM0, gP_9_13 hM0, gI_9_14 hM0, gP_9_14 hM0, gI_9_15 hM0, gP_9_15 hM0, gI_9_16 hM0, gP_9_16 hM0, gR_9_17 hM0, gR_9_18 hM0, gR_9_19 hM0, gR_9_20 hM0, gI_9_21 hM0, gP_9_21 hM0, gI_9_22 hM0, gP_9_22 hM0, gI_9_23 hM0, gP_9_23 hM0, gI_9_24 hM0, gP_9_24 hM0, gR_9_25 hM0, gI_9_26 hM0, gP_9_26 hM0, gI_9_27 hM0, gP_9_27 hM0, gI_9_28 hM0, gP_9_28 hM0, gL_9_29 hM0, gP_9_29 hM0, gL_9_30 hM0, gP_9_30 hM0, m_shells hw h9, iLE_t, cI_s, cL_s, cF_s, cD_s, cA_s, cV_s, nI_add, cond_true, cond_false, if_true, if_false]
  | succ m ih =>
    intro b S T B hm hab hw hB hP
    have h8 := H.1.2.1
    obtain ⟨S1, T1, h1, h2, h3⟩ := m_tries (E := E) (x := x) (n := n) (T := T) hw h9 H hk ha (show b < g 0 by omega) (by omega) hB hP d
    obtain ⟨S2, T2, h4, h5, h6⟩ := ih (b + 1) S1 T1 _ (by omega) (by omega) (by rw [h2.1 3 (by omega)]; exact hw) (okB_U (bl := gBl g) H hk ha (show b < g 0 by omega) (by omega) hB).1 h3
    refine ⟨S2, T2, ?_, fmF_tr h2 h5, h6⟩
    rw [QX11_fools_26]
    simp (disch := omega) only [gO_9 hM0, gI_9_0 hM0, gP_9_0 hM0, gR_9_1 hM0, gR_9_2 hM0, gI_9_3 hM0, gP_9_3 hM0, gI_9_4 hM0, gP_9_4 hM0, gR_9_5 hM0, gR_9_6 hM0, gR_9_7 hM0, gI_9_8 hM0, gP_9_8 hM0, gI_9_9 hM0, gP_9_9 hM0, gI_9_10 hM0, gP_9_10 hM0, gI_9_11 hM0, gP_9_11 hM0, gI_9_12 hM0, gP_9_12 hM0, gI_9_13 hM0, gP_9_13 hM0, gI_9_14 hM0, gP_9_14 hM0, gI_9_15 hM0, gP_9_15 hM0, gI_9_16 hM0, gP_9_16 hM0, gR_9_17 hM0, gR_9_18 hM0, gR_9_19 hM0, gR_9_20 hM0, gI_9_21 hM0, gP_9_21 hM0, gI_9_22 hM0, gP_9_22 hM0, gI_9_23 hM0, gP_9_23 hM0, gI_9_24 hM0, gP_9_24 hM0, gR_9_25 hM0, gI_9_26 hM0, gP_9_26 hM0, gI_9_27 hM0, gP_9_27 hM0, gI_9_28 hM0, gP_9_28 hM0, gL_9_29 hM0, gP_9_29 hM0, gL_9_30 hM0, gP_9_30 hM0, m_shells hw h9, iLE_f, cI_s, cL_s, cF_s, cD_s, cA_s, cV_s, nI_add, cond_true, cond_false, if_true, if_false]
    rw [h1]
    simp (disch := omega) only [cI_s, cL_s, cF_s, cD_s, cA_s, cV_s, nI_add, cond_true, cond_false, if_true, if_false]
    exact h4
theorem lm_fout (h9 : w ≤ 9) (H : iG g) {k : Nat} (hk : k ≤ 1) (d : Nat) :
    ∀ m a (S : xSt) (T : Nat → Int64) (B : tB), a + m = g 0 → S.1 0 3 = nI w → okB g B → pFM S B →
      ∃ S' T', qX11_fools_14 E (d + 6) x (nI k) (nI a) (wW E x shM (mS S w g T), n) = qX11_fools_53 E (d + 6) x (nI k) (wW E x shM (mS S' w g T'), n) ∧ fmF S S' ∧ pFM S' (tOut (gBl g) g k m a B) := by
  intro m
  induction m with
  | zero =>
    intro a S T B hm hw _ hP
    have h8 := H.1.2.1
    refine ⟨S, T, ?_, fmF_rf, hP⟩
    rw [QX11_fools_14]
    simp (disch := omega) only [gO_9 hM0, gI_9_0 hM0, gP_9_0 hM0, gR_9_1 hM0, gR_9_2 hM0, gI_9_3 hM0, gP_9_3 hM0, gI_9_4 hM0, gP_9_4 hM0, gR_9_5 hM0, gR_9_6 hM0, gR_9_7 hM0, gI_9_8 hM0, gP_9_8 hM0, gI_9_9 hM0, gP_9_9 hM0, gI_9_10 hM0, gP_9_10 hM0, gI_9_11 hM0, gP_9_11 hM0, gI_9_12 hM0, gP_9_12 hM0, gI_9_13 hM0, gP_9_13 hM0, gI_9_14 hM0, gP_9_14 hM0, gI_9_15 hM0, gP_9_15 hM0, gI_9_16 hM0, gP_9_16 hM0, gR_9_17 hM0, gR_9_18 hM0, gR_9_19 hM0, gR_9_20 hM0, gI_9_21 hM0, gP_9_21 hM0, gI_9_22 hM0, gP_9_22 hM0, gI_9_23 hM0, gP_9_23 hM0, gI_9_24 hM0, gP_9_24 hM0, gR_9_25 hM0, gI_9_26 hM0, gP_9_26 hM0, gI_9_27 hM0, gP_9_27 hM0, gI_9_28 hM0, gP_9_28 hM0, gL_9_29 hM0, gP_9_29 hM0, gL_9_30 hM0, gP_9_30 hM0, m_shells hw h9, iLE_t, cI_s, cL_s, cF_s, cD_s, cA_s, cV_s, nI_add, cond_true, cond_false, if_true, if_false]
  | succ m ih =>
    intro a S T B hm hw hB hP
    have h8 := H.1.2.1
    obtain ⟨S1, T1, h1, h2, h3⟩ := lm_fin (E := E) (x := x) (n := n) h9 H hk (show a < g 0 by omega) d m (a + 1) S T B (by omega) (by omega) hw hB hP
    obtain ⟨S2, T2, h4, h5, h6⟩ := ih (a + 1) S1 T1 _ (by omega) (by rw [h2.1 3 (by omega)]; exact hw) (okB_In (bl := gBl g) H hk (show a < g 0 by omega) m (a + 1) B (by omega) (by omega) hB).1 h3
    refine ⟨S2, T2, ?_, fmF_tr h2 h5, h6⟩
    rw [QX11_fools_14]
    simp (disch := omega) only [gO_9 hM0, gI_9_0 hM0, gP_9_0 hM0, gR_9_1 hM0, gR_9_2 hM0, gI_9_3 hM0, gP_9_3 hM0, gI_9_4 hM0, gP_9_4 hM0, gR_9_5 hM0, gR_9_6 hM0, gR_9_7 hM0, gI_9_8 hM0, gP_9_8 hM0, gI_9_9 hM0, gP_9_9 hM0, gI_9_10 hM0, gP_9_10 hM0, gI_9_11 hM0, gP_9_11 hM0, gI_9_12 hM0, gP_9_12 hM0, gI_9_13 hM0, gP_9_13 hM0, gI_9_14 hM0, gP_9_14 hM0, gI_9_15 hM0, gP_9_15 hM0, gI_9_16 hM0, gP_9_16 hM0, gR_9_17 hM0, gR_9_18 hM0, gR_9_19 hM0, gR_9_20 hM0, gI_9_21 hM0, gP_9_21 hM0, gI_9_22 hM0, gP_9_22 hM0, gI_9_23 hM0, gP_9_23 hM0, gI_9_24 hM0, gP_9_24 hM0, gR_9_25 hM0, gI_9_26 hM0, gP_9_26 hM0, gI_9_27 hM0, gP_9_27 hM0, gI_9_28 hM0, gP_9_28 hM0, gL_9_29 hM0, gP_9_29 hM0, gL_9_30 hM0, gP_9_30 hM0, m_shells hw h9, iLE_f, cI_s, cL_s, cF_s, cD_s, cA_s, cV_s, nI_add, cond_true, cond_false, if_true, if_false]
    rw [h1, QX11_fools_47]
    simp (disch := omega) only [cI_s, cL_s, cF_s, cD_s, cA_s, cV_s, nI_add, cond_true, cond_false, if_true, if_false]
    exact h4
theorem m_fools (hw : S.1 0 3 = nI w) (h9 : w ≤ 9) (H : iG g) (d : Nat) :
    ∃ S' T', xsem xT E (d + 7) kX11_fools [.ref x] (wW E x shM (mS S w g T), n) = some (.inl none, (wW E x shM (mS S' w g T'), n)) ∧ fmF S S' ∧ pFM S' (gFool g) := by
  have hB0 : okB g (0, 0, 0, 1, 0) := ⟨by show 1 ≤ 1000000; omega, Nat.zero_le _, fun _ => rfl, fun z => absurd rfl z⟩
  have f0 : fmF S (sS S 0 26 (-1)) := ⟨fun j hj => by rw [sS_n (by omega)], rfl⟩
  obtain ⟨S1, T1, h1, h2, h3⟩ := lm_fout (E := E) (x := x) (n := n) h9 H (k := 0) (by omega) d (g 0) 0 (sS S 0 26 (-1)) T (0, 0, 0, 1, 0) (by omega) (by rw [sS_n (by omega)]; exact hw) hB0 ⟨fun _ => sS_s, fun z => absurd rfl z⟩
  obtain ⟨S2, T2, h4, h5, h6⟩ := lm_fout (E := E) (x := x) (n := n) h9 H (k := 1) (by omega) d (g 0) 0 S1 T1 _ (by omega) (by rw [h2.1 3 (by omega), sS_n (by omega)]; exact hw) (okB_Out (bl := gBl g) H (by omega) (g 0) 0 _ (by omega) hB0).1 h3
  refine ⟨S2, T2, ?_, fmF_tr f0 (fmF_tr h2 h5), h6⟩
  rw [eX11_fools, QX11_fools_0]
  simp (disch := omega) only [gO_9 hM0, gI_9_0 hM0, gP_9_0 hM0, gR_9_1 hM0, gR_9_2 hM0, gI_9_3 hM0, gP_9_3 hM0, gI_9_4 hM0, gP_9_4 hM0, gR_9_5 hM0, gR_9_6 hM0, gR_9_7 hM0, gI_9_8 hM0, gP_9_8 hM0, gI_9_9 hM0, gP_9_9 hM0, gI_9_10 hM0, gP_9_10 hM0, gI_9_11 hM0, gP_9_11 hM0, gI_9_12 hM0, gP_9_12 hM0, gI_9_13 hM0, gP_9_13 hM0, gI_9_14 hM0, gP_9_14 hM0, gI_9_15 hM0, gP_9_15 hM0, gI_9_16 hM0, gP_9_16 hM0, gR_9_17 hM0, gR_9_18 hM0, gR_9_19 hM0, gR_9_20 hM0, gI_9_21 hM0, gP_9_21 hM0, gI_9_22 hM0, gP_9_22 hM0, gI_9_23 hM0, gP_9_23 hM0, gI_9_24 hM0, gP_9_24 hM0, gR_9_25 hM0, gI_9_26 hM0, gP_9_26 hM0, gI_9_27 hM0, gP_9_27 hM0, gI_9_28 hM0, gP_9_28 hM0, gL_9_29 hM0, gP_9_29 hM0, gL_9_30 hM0, gP_9_30 hM0, mS_sS, cI_s, cL_s, cF_s, cD_s, cA_s, cV_s, nI_add, cond_true, cond_false, if_true, if_false]
  rw [QX11_fools_7]
  simp (disch := omega) only [iLT_f, cI_s, cL_s, cF_s, cD_s, cA_s, cV_s, nI_add, cond_true, cond_false, if_true, if_false]
  rw [h1, QX11_fools_53]
  simp (disch := omega) only [cI_s, cL_s, cF_s, cD_s, cA_s, cV_s, nI_add, cond_true, cond_false, if_true, if_false]
  rw [QX11_fools_7]
  simp (disch := omega) only [iLT_f, cI_s, cL_s, cF_s, cD_s, cA_s, cV_s, nI_add, cond_true, cond_false, if_true, if_false]
  rw [h4, QX11_fools_53]
  simp (disch := omega) only [cI_s, cL_s, cF_s, cD_s, cA_s, cV_s, nI_add, cond_true, cond_false, if_true, if_false]
  rw [QX11_fools_7]
  simp (disch := omega) only [iLT_t, QX11_fools_59, cI_s, cL_s, cF_s, cD_s, cA_s, cV_s, nI_add, cond_true, cond_false, if_true, if_false]
end TR
