/-! ROW: places, scratches, exchanging. -/
def bbit (v p : Nat) : Nat := if v.testBit p then 1 else 0
def bset (v p : Nat) (b : Bool) : Nat := if b then v ||| 2 ^ p else v &&& (255 ^^^ 2 ^ p)
set_option maxRecDepth 100000 in
theorem bb_get : ∀ v, v < 256 → ∀ p, p < 8 → (nI v >>> (nI p &&& 31)) &&& nI 1 = nI (bbit v p) := by decide +kernel
set_option maxRecDepth 100000 in
theorem bb_or : ∀ v, v < 256 → ∀ p, p < 8 → nI v ||| (nI 1 <<< (nI p &&& 31)) = nI (bset v p true) := by decide +kernel
set_option maxRecDepth 100000 in
theorem bb_and : ∀ v, v < 256 → ∀ p, p < 8 → nI v &&& ((nI 1 <<< (nI p &&& 31)) ^^^ (-1 : Int32)) = nI (bset v p false) := by decide +kernel
set_option maxRecDepth 100000 in
theorem bset_lt : ∀ b, ∀ v, v < 256 → ∀ p, p < 8 → bset v p b < 256 := by decide +kernel
set_option maxRecDepth 100000 in
theorem bset_bit : ∀ b, ∀ v, v < 256 → ∀ p, p < 8 → ∀ r, r < 8 → (bset v p b).testBit r = if r = p then b else v.testBit r := by decide +kernel
theorem bbit_le (v p : Nat) : bbit v p ≤ 1 := by
  unfold bbit
  split <;> omega
theorem sS_s {S : xSt} {q k : Nat} {v : Int32} : (sS S q k v).1 q k = v := if_pos ⟨rfl, rfl⟩
theorem sS_n {S : xSt} {q k k' : Nat} {v : Int32} (h : k' ≠ k) : (sS S q k v).1 q k' = S.1 q k' := if_neg (fun c => h c.2)
theorem sS_nq {S : xSt} {q k q' k' : Nat} {v : Int32} (h : q' ≠ q) : (sS S q k v).1 q' k' = S.1 q' k' := if_neg (fun c => h c.1)
theorem sS_a {S : xSt} {q k : Nat} {v : Int32} : (sS S q k v).2 = S.2 := rfl
theorem sA_1 {S : xSt} {q : Nat} {f : Nat → Int32} : (sA S q f).1 = S.1 := rfl
theorem sA_n {S : xSt} {q q' : Nat} {f : Nat → Int32} (h : q' ≠ q) : (sA S q f).2.1 q' = S.2.1 q' := if_neg h
section ROW
variable {E : xEn} {z : Nat → Option va_E} {x : Nat} {sh : Nat → Option xSh} {S : xSt} {n q s : Nat}
theorem s5_hasPlace_f (h : sh q = some (sh5 q)) (hs : S.1 q 0 = nI s) {p : Int32} (hp : p < 0 ∨ nI s ≤ p) (d : Nat) :
    xsem xT E (d + 1) kX5_hasPlace [.ref (x + q), .int p] (wW E z x sh S, n) = some (.inl (some (.int (nI 0))), (wW E z x sh S, n)) := by
  rw [eX5_hasPlace, QX5_hasPlace_0]
  by_cases h0 : p < nI 0
  · simp (disch := omega) only [if_pos h0, QX5_hasPlace_16, QX5_hasPlace_17, xret5_0, cI_s, cL_s, cF_s, cD_s, cA_s, cV_s, nI_add, cond_true, cond_false, if_true, if_false]
  · have h1 : nI s ≤ p := hp.resolve_left h0
    simp (disch := omega) only [if_neg h0, gO_5 h, gI_5_0 h, gP_5_0 h, gI_5_1 h, gP_5_1 h, gI_5_2 h, gP_5_2 h, gR_5_3 h, gR_5_4 h, hs, if_pos h1, QX5_hasPlace_16, QX5_hasPlace_17, xret5_0, cI_s, cL_s, cF_s, cD_s, cA_s, cV_s, nI_add, cond_true, cond_false, if_true, if_false]
theorem s5_hasPlace_t (h : sh q = some (sh5 q)) (hs : S.1 q 0 = nI s) (hs2 : s < 2 ^ 31) {p : Nat} (hp : p < s) (d : Nat) :
    xsem xT E (d + 1) kX5_hasPlace [.ref (x + q), .int (nI p)] (wW E z x sh S, n) = some (.inl (some (.int (nI 1))), (wW E z x sh S, n)) := by
  rw [eX5_hasPlace, QX5_hasPlace_0]
  simp (disch := omega) only [iLT_f, gO_5 h, gI_5_0 h, gP_5_0 h, gI_5_1 h, gP_5_1 h, gI_5_2 h, gP_5_2 h, gR_5_3 h, gR_5_4 h, hs, iLE_f, QX5_hasPlace_17, xret5_1, cI_s, cL_s, cF_s, cD_s, cA_s, cV_s, nI_add, cond_true, cond_false, if_true, if_false]
theorem s5_hasPlace (h : sh q = some (sh5 q)) (hs : S.1 q 0 = nI s) (hs2 : s < 2 ^ 31) {p : Nat} (hp : p < 2 ^ 31) (d : Nat) :
    xsem xT E (d + 1) kX5_hasPlace [.ref (x + q), .int (nI p)] (wW E z x sh S, n) = some (.inl (some (.int (nI (if p < s then 1 else 0)))), (wW E z x sh S, n)) := by
  by_cases c : p < s
  · rw [if_pos c, s5_hasPlace_t h hs hs2 c]
  · rw [if_neg c, s5_hasPlace_f h hs (Or.inr (nI_le (Nat.not_lt.1 c) hp))]
theorem s5_isScratched_f (h : sh q = some (sh5 q)) (hs : S.1 q 0 = nI s) {p : Int32} (hp : p < 0 ∨ nI s ≤ p) (d : Nat) :
    xsem xT E (d + 2) kX5_isScratched [.ref (x + q), .int p] (wW E z x sh S, n) = some (.inl (some (.int (nI 0))), (wW E z x sh S, n)) := by
  rw [eX5_isScratched, QX5_isScratched_0]
  simp (disch := omega) only [gO_5 h, gI_5_0 h, gP_5_0 h, gI_5_1 h, gP_5_1 h, gI_5_2 h, gP_5_2 h, gR_5_3 h, gR_5_4 h, cI_s, cL_s, cF_s, cD_s, cA_s, cV_s, nI_add, cond_true, cond_false, if_true, if_false]
  rw [s5_hasPlace_f h hs hp]
  simp (disch := omega) only [iEQ_t, QX5_isScratched_24, QX5_isScratched_25, xret5_0, cI_s, cL_s, cF_s, cD_s, cA_s, cV_s, nI_add, cond_true, cond_false, if_true, if_false]
theorem s5_isScratched (h : sh q = some (sh5 q)) (hs : S.1 q 0 = nI s) (hs8 : s ≤ 8) {c : Nat} (hc : S.1 q 2 = nI c) (hc8 : c < 256) {p : Nat} (hp : p < s) (d : Nat) :
    xsem xT E (d + 2) kX5_isScratched [.ref (x + q), .int (nI p)] (wW E z x sh S, n) = some (.inl (some (.int (nI (bbit c p)))), (wW E z x sh S, n)) := by
  rw [eX5_isScratched, QX5_isScratched_0]
  simp (disch := omega) only [gO_5 h, gI_5_0 h, gP_5_0 h, gI_5_1 h, gP_5_1 h, gI_5_2 h, gP_5_2 h, gR_5_3 h, gR_5_4 h, cI_s, cL_s, cF_s, cD_s, cA_s, cV_s, nI_add, cond_true, cond_false, if_true, if_false]
  rw [s5_hasPlace_t h hs (by omega) hp]
  simp (disch := omega) only [iEQ_f, gO_5 h, gI_5_0 h, gP_5_0 h, gI_5_1 h, gP_5_1 h, gI_5_2 h, gP_5_2 h, gR_5_3 h, gR_5_4 h, hc, bb_get c hc8 p (by omega), cI_s, cL_s, cF_s, cD_s, cA_s, cV_s, nI_add, cond_true, cond_false, if_true, if_false]
  unfold bbit
  split
  · simp (disch := omega) only [iEQ_t, QX5_isScratched_25, xret5_1, cI_s, cL_s, cF_s, cD_s, cA_s, cV_s, nI_add, cond_true, cond_false, if_true, if_false]
  · simp (disch := omega) only [iEQ_f, QX5_isScratched_24, QX5_isScratched_25, xret5_0, cI_s, cL_s, cF_s, cD_s, cA_s, cV_s, nI_add, cond_true, cond_false, if_true, if_false]
theorem s5_setScratched (h : sh q = some (sh5 q)) (hs : S.1 q 0 = nI s) (hs8 : s ≤ 8) {c : Nat} (hc : S.1 q 2 = nI c) (hc8 : c < 256) {p : Nat} (hp : p < s) (b : Bool) (d : Nat) :
    xsem xT E (d + 2) kX5_setScratched [.ref (x + q), .int (nI p), .int (nI b.toNat)] (wW E z x sh S, n) = some (.inl none, (wW E z x sh (sS S q 2 (nI (bset c p b))), n)) := by
  rw [eX5_setScratched, QX5_setScratched_0]
  simp (disch := omega) only [gO_5 h, gI_5_0 h, gP_5_0 h, gI_5_1 h, gP_5_1 h, gI_5_2 h, gP_5_2 h, gR_5_3 h, gR_5_4 h, cI_s, cL_s, cF_s, cD_s, cA_s, cV_s, nI_add, cond_true, cond_false, if_true, if_false]
  rw [s5_hasPlace_t h hs (by omega) hp]
  cases b
  · simp (disch := omega) only [iEQ_f, iEQ_t, Bool.toNat_false, gO_5 h, gI_5_0 h, gP_5_0 h, gI_5_1 h, gP_5_1 h, gI_5_2 h, gP_5_2 h, gR_5_3 h, gR_5_4 h, hc, QX5_setScratched_24, QX5_setScratched_34, QX5_setScratched_37, bb_and c hc8 p (by omega), cI_s, cL_s, cF_s, cD_s, cA_s, cV_s, nI_add, cond_true, cond_false, if_true, if_false]
  · simp (disch := omega) only [iEQ_f, Bool.toNat_true, gO_5 h, gI_5_0 h, gP_5_0 h, gI_5_1 h, gP_5_1 h, gI_5_2 h, gP_5_2 h, gR_5_3 h, gR_5_4 h, hc, QX5_setScratched_34, QX5_setScratched_37, bb_or c hc8 p (by omega), cI_s, cL_s, cF_s, cD_s, cA_s, cV_s, nI_add, cond_true, cond_false, if_true, if_false]
def mBall (p a b : Nat) : Nat := if p = a then b else if p = b then a else p
theorem s5_placeBehind {σ : xH} {p a b : Nat} (hp : p < 2 ^ 31) (ha : a < 2 ^ 31) (hb : b < 2 ^ 31) (d : Nat) :
    xsem xT E (d + 1) kX5_placeBehind [.int (nI p), .int (nI a), .int (nI b)] σ = some (.inl (some (.int (nI (mBall p a b)))), σ) := by
  rw [eX5_placeBehind, QX5_placeBehind_0]
  unfold mBall
  by_cases c : p = a
  · simp (disch := omega) only [iEQ_t, if_pos c, cI_s, cL_s, cF_s, cD_s, cA_s, cV_s, nI_add, cond_true, cond_false, if_true, if_false]
  · by_cases c2 : p = b
    · simp (disch := omega) only [iEQ_f, iEQ_t, if_neg c, if_pos c2, QX5_placeBehind_7, QX5_placeBehind_17, cI_s, cL_s, cF_s, cD_s, cA_s, cV_s, nI_add, cond_true, cond_false, if_true, if_false]
    · simp (disch := omega) only [iEQ_f, if_neg c, if_neg c2, QX5_placeBehind_7, QX5_placeBehind_16, QX5_placeBehind_17, cI_s, cL_s, cF_s, cD_s, cA_s, cV_s, nI_add, cond_true, cond_false, if_true, if_false]
end ROW
