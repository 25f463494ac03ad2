/-! MIND: what its methods do to a row of beliefs. -/
/-- a raw row that is g ahead of pl -/
def vw (pl : Nat) (g : Nat → Nat) (r : Nat → Int32) : Nat → Int32 := fun p => if p < pl then nI (g p) else r p
def updN (g : Nat → Nat) (a v : Nat) : Nat → Nat := fun p => if p = a then v else g p
theorem vw_in {pl p : Nat} {g : Nat → Nat} {r : Nat → Int32} (h : p < pl) : vw pl g r p = nI (g p) := if_pos h
theorem vw_out {pl p : Nat} {g : Nat → Nat} {r : Nat → Int32} (h : pl ≤ p) : vw pl g r p = r p := if_neg (Nat.not_lt.2 h)
theorem vw_0 {g : Nat → Nat} {r : Nat → Int32} : vw 0 g r = r := by
  funext p
  exact if_neg (Nat.not_lt_zero p)
theorem vw_succ {i : Nat} {g : Nat → Nat} {r : Nat → Int32} : upd (vw i g r) i (nI (g i)) = vw (i + 1) g r := by
  funext p
  unfold upd vw
  by_cases h : p = i
  · subst h
    simp
  · have h2 : (p < i + 1) = (p < i) := by simp; omega
    simp only [h, if_false, h2]
theorem vw_upd {pl a v : Nat} {g : Nat → Nat} {r : Nat → Int32} (h : a < pl) : upd (vw pl g r) a (nI v) = vw pl (updN g a v) r := by
  funext p
  unfold upd vw updN
  by_cases hp : p = a
  · subst hp
    simp [h]
  · simp [hp]
theorem vw_vw {pl : Nat} {g g' : Nat → Nat} {r : Nat → Int32} : vw pl g (vw pl g' r) = vw pl g r := by
  funext p
  unfold vw
  split <;> rfl
theorem vw_self {pl : Nat} {g : Nat → Nat} {r : Nat → Int32} (h : ∀ p, p < pl → r p = nI (g p)) : vw pl g r = r := by
  funext p
  unfold vw
  split
  · next hp => exact (h p hp).symm
  · rfl
theorem vw_congr {pl : Nat} {g g' : Nat → Nat} {r : Nat → Int32} (h : ∀ p, p < pl → g p = g' p) : vw pl g r = vw pl g' r := by
  funext p
  unfold vw
  split
  · next hp => rw [h p hp]
  · rfl
theorem sA_sA {S : xSt} {q : Nat} {f g : Nat → Int32} : sA (sA S q f) q g = sA S q g := by
  unfold sA
  congr 2
  funext q'
  dsimp only
  split <;> rfl
theorem sA_self {S : xSt} {q : Nat} : sA S q (S.2.1 q) = S := by
  unfold sA
  obtain ⟨a, b, c⟩ := S
  dsimp only
  congr 2
  funext q'
  split
  · next h => rw [h]
  · rfl
def mSum (f : Nat → Nat) : Nat → Nat
  | 0 => 0
  | i + 1 => mSum f i + f i
def mMax (f : Nat → Nat) : Nat → Nat
  | 0 => 0
  | i + 1 => if mMax f i < f i then f i else mMax f i
def mCnt (f : Nat → Nat) : Nat → Nat
  | 0 => 0
  | i + 1 => if 0 < f i then mCnt f i + 1 else mCnt f i
theorem mxI_n {a b : Nat} (ha : a < 2 ^ 31) (hb : b < 2 ^ 31) : mxI (nI a) (nI b) = nI (if a < b then b else a) := by
  unfold mxI
  by_cases h : a < b
  · rw [iLT_t h hb, if_pos h]
  · rw [iLT_f (Nat.not_lt.1 h) ha, if_neg h]
theorem mnI_n {a b : Nat} (ha : a < 2 ^ 31) (hb : b < 2 ^ 31) : mnI (nI a) (nI b) = nI (if b < a then b else a) := by
  unfold mnI
  by_cases h : b < a
  · rw [iLT_t h ha, if_pos h]
  · rw [iLT_f (Nat.not_lt.1 h) hb, if_neg h]
theorem mMax_lt {f : Nat → Nat} {B : Nat} : ∀ i, (∀ p, p < i → f p < B) → 0 < B → mMax f i < B := by
  intro i
  induction i with
  | zero => exact fun _ h => h
  | succ i ih =>
    intro h hB
    unfold mMax
    split
    · exact h i (Nat.lt_succ_self i)
    · exact ih (fun p hp => h p (Nat.lt_succ_of_lt hp)) hB
section MIND
variable {E : xEn} {z : Nat → Option va_E} {x : Nat} {sh : Nat → Option xSh} {S : xSt} {n q pl : Nat} {f : Nat → Nat}
theorem l4_sum (h : sh q = some (sh4 q)) (hb : sh (q + 1) = some (1, 9, [])) (hp : S.1 q 1 = nI pl) (hpl : pl ≤ 9) (hf : ∀ p, p < pl → S.2.1 (q + 1) p = nI (f p)) (d : Nat) :
    ∀ k i, i + k = pl → qX4_sum_4 E d (x + q) (nI (mSum f i)) (nI i) (wW E z x sh S, n) = some (.inl (some (.int (nI (mSum f pl)))), (wW E z x sh S, n)) := by
  intro k
  induction k with
  | zero =>
    intro i hi
    have hi : i = pl := hi
    subst hi
    rw [QX4_sum_4]
    simp (disch := omega) only [gO_4 h, gR_4_0 h, gI_4_1 h, gP_4_1 h, gI_4_2 h, gP_4_2 h, gI_4_3 h, gP_4_3 h, gI_4_4 h, gP_4_4 h, hp, iLE_t, QX4_sum_27, cI_s, cL_s, cF_s, cD_s, cA_s, cV_s, nI_add, cond_true, cond_false]
  | succ k ih =>
    intro i hi
    rw [QX4_sum_4]
    simp (disch := omega) only [gO_4 h, gR_4_0 h, gI_4_1 h, gP_4_1 h, gI_4_2 h, gP_4_2 h, gI_4_3 h, gP_4_3 h, gI_4_4 h, gP_4_4 h, hp, iLE_f, aI_w hb, hf i (by omega), cI_s, cL_s, cF_s, cD_s, cA_s, cV_s, nI_add, cond_true, cond_false]
    exact ih (i + 1) (by omega)
theorem s4_sum (h : sh q = some (sh4 q)) (hb : sh (q + 1) = some (1, 9, [])) (hp : S.1 q 1 = nI pl) (hpl : pl ≤ 9) (hf : ∀ p, p < pl → S.2.1 (q + 1) p = nI (f p)) (d : Nat) :
    xsem xT E (d + 1) kX4_sum [.ref (x + q)] (wW E z x sh S, n) = some (.inl (some (.int (nI (mSum f pl)))), (wW E z x sh S, n)) := by
  rw [eX4_sum, QX4_sum_0]
  exact l4_sum h hb hp hpl hf d pl 0 (Nat.zero_add _)
theorem l4_greatest (h : sh q = some (sh4 q)) (hb : sh (q + 1) = some (1, 9, [])) (hp : S.1 q 1 = nI pl) (hpl : pl ≤ 9) (hf : ∀ p, p < pl → S.2.1 (q + 1) p = nI (f p)) (hB : ∀ p, p < pl → f p < 2 ^ 31) (d : Nat) :
    ∀ k i, i + k = pl → qX4_greatest_4 E d (x + q) (nI (mMax f i)) (nI i) (wW E z x sh S, n) = some (.inl (some (.int (nI (mMax f pl)))), (wW E z x sh S, n)) := by
  intro k
  induction k with
  | zero =>
    intro i hi
    have hi : i = pl := hi
    subst hi
    rw [QX4_greatest_4]
    simp (disch := omega) only [gO_4 h, gR_4_0 h, gI_4_1 h, gP_4_1 h, gI_4_2 h, gP_4_2 h, gI_4_3 h, gP_4_3 h, gI_4_4 h, gP_4_4 h, hp, iLE_t, QX4_greatest_29, cI_s, cL_s, cF_s, cD_s, cA_s, cV_s, nI_add, cond_true, cond_false]
  | succ k ih =>
    intro i hi
    rw [QX4_greatest_4]
    simp (disch := omega) only [gO_4 h, gR_4_0 h, gI_4_1 h, gP_4_1 h, gI_4_2 h, gP_4_2 h, gI_4_3 h, gP_4_3 h, gI_4_4 h, gP_4_4 h, hp, iLE_f, aI_w hb, hf i (by omega), cI_s, cL_s, cF_s, cD_s, cA_s, cV_s, nI_add, cond_true, cond_false]
    rw [mxI_n (mMax_lt i (fun p hp => hB p (by omega)) (by omega)) (hB i (by omega))]
    exact ih (i + 1) (by omega)
theorem s4_greatest (h : sh q = some (sh4 q)) (hb : sh (q + 1) = some (1, 9, [])) (hp : S.1 q 1 = nI pl) (hpl : pl ≤ 9) (hf : ∀ p, p < pl → S.2.1 (q + 1) p = nI (f p)) (hB : ∀ p, p < pl → f p < 2 ^ 31) (d : Nat) :
    xsem xT E (d + 1) kX4_greatest [.ref (x + q)] (wW E z x sh S, n) = some (.inl (some (.int (nI (mMax f pl)))), (wW E z x sh S, n)) := by
  rw [eX4_greatest, QX4_greatest_0]
  exact l4_greatest h hb hp hpl hf hB d pl 0 (Nat.zero_add _)
theorem s4_exchange (h : sh q = some (sh4 q)) (hb : sh (q + 1) = some (1, 9, [])) (hpl : pl ≤ 9) (hf : ∀ p, p < pl → S.2.1 (q + 1) p = nI (f p)) {a c : Nat} (ha : a < pl) (hc : c < pl) (d : Nat) :
    xsem xT E (d + 1) kX4_exchange [.ref (x + q), .int (nI a), .int (nI c)] (wW E z x sh S, n) = some (.inl none, (wW E z x sh (sA S (q + 1) (vw pl (updN (updN f a (f c)) c (f a)) (S.2.1 (q + 1)))), n)) := by
  have hv : S.2.1 (q + 1) = vw pl f (S.2.1 (q + 1)) := (vw_self hf).symm
  rw [eX4_exchange, QX4_exchange_0]
  simp (disch := omega) only [gO_4 h, gR_4_0 h, gI_4_1 h, gP_4_1 h, gI_4_2 h, gP_4_2 h, gI_4_3 h, gP_4_3 h, gI_4_4 h, gP_4_4 h, aI_w hb, sI_w hb, hf a ha, hf c hc, sA_s, sA_sA, cI_s, cL_s, cF_s, cD_s, cA_s, cV_s, nI_add, cond_true, cond_false]
  rw [hv, vw_upd ha, vw_upd hc, vw_vw]
end MIND
