/-! THE REFERENCE: its present row as a picture of numbers; what it reads there. -/
def shM : Nat → Option xSh := fun q => match q with
  | 0 => some sh9
  | 1 => some (1, 11000, [])
  | 2 => some (1, 1100, [])
  | 3 => some (3, 9, [])
  | 4 => some (3, 501, [])
  | 5 => some (1, 500, [])
  | 6 => some (1, 60, [])
  | 7 => some (1, 60, [])
  | 8 => some (1, 60, [])
  | 9 => some (1, 60, [])
  | 10 => some (1, 8, [])
  | _ => none
theorem hM0 : shM 0 = some sh9 := rfl
theorem hM1 : shM 1 = some (1, 11000, []) := rfl
theorem hM2 : shM 2 = some (1, 1100, []) := rfl
theorem hM3 : shM 3 = some (3, 9, []) := rfl
theorem hM4 : shM 4 = some (3, 501, []) := rfl
theorem hM5 : shM 5 = some (1, 500, []) := rfl
theorem hM6 : shM 6 = some (1, 60, []) := rfl
theorem hM7 : shM 7 = some (1, 60, []) := rfl
theorem hM8 : shM 8 = some (1, 60, []) := rfl
theorem hM9 : shM 9 = some (1, 60, []) := rfl
theorem hM10 : shM 10 = some (1, 8, []) := rfl
def wr (r : Nat → Int32) (w : Nat) (g : Nat → Nat) : Nat → Int32 := fun j => if 1100 * w ≤ j ∧ j < 1100 * w + 1100 then nI (g (j - 1100 * w)) else r j
def mS (S : xSt) (w : Nat) (g : Nat → Nat) (T : Nat → Int64) : xSt := sG (sA S 1 (wr (S.2.1 1) w g)) 3 T
theorem wr_at {r : Nat → Int32} {w k : Nat} {g : Nat → Nat} (hk : k < 1100) : wr r w g (1100 * w + k) = nI (g k) := by
  unfold wr
  rw [if_pos ⟨by omega, by omega⟩, Nat.add_sub_cancel_left]
theorem wr_upd {r : Nat → Int32} {w k v : Nat} {g : Nat → Nat} (hk : k < 1100) : upd (wr r w g) (1100 * w + k) (nI v) = wr r w (updN g k v) := by
  funext j
  unfold upd wr updN
  by_cases h : j = 1100 * w + k
  · rw [if_pos h, if_pos ⟨by omega, by omega⟩, if_pos (by omega)]
  · rw [if_neg h]
    by_cases h2 : 1100 * w ≤ j ∧ j < 1100 * w + 1100
    · rw [if_pos h2, if_pos h2, if_neg (by omega)]
    · rw [if_neg h2, if_neg h2]
theorem updN_s {g : Nat → Nat} {a v : Nat} : updN g a v a = v := if_pos rfl
theorem updN_n {g : Nat → Nat} {a v p : Nat} (h : p ≠ a) : updN g a v p = g p := if_neg h
theorem vp_updL_s {f : Nat → Int64} {k : Nat} {v : Int64} : vp_updL f k v k = v := if_pos rfl
theorem vp_updL_n {f : Nat → Int64} {k j : Nat} {v : Int64} (h : j ≠ k) : vp_updL f k v j = f j := if_neg h
section MS
variable {S : xSt} {w : Nat} {g g' : Nat → Nat} {T T' : Nat → Int64}
theorem mS_1 : (mS S w g T).1 = S.1 := rfl
theorem mS_r : (mS S w g T).2.1 1 = wr (S.2.1 1) w g := rfl
theorem mS_o {q : Nat} (h : q ≠ 1) : (mS S w g T).2.1 q = S.2.1 q := if_neg h
theorem mS_l : (mS S w g T).2.2.1 = S.2.2.1 := rfl
theorem mS_t : (mS S w g T).2.2.2.1 3 = T := rfl
theorem mS_p : (mS S w g T).2.2.2.1 4 = S.2.2.2.1 4 := rfl
theorem mS_put : sA (mS S w g T) 1 (wr (S.2.1 1) w g') = mS S w g' T := by
  unfold mS sG sA
  dsimp only
  congr 2
  funext q'
  split <;> rfl
theorem mS_then : sG (mS S w g T) 3 T' = mS S w g T' := by
  unfold mS sG sA
  dsimp only
  congr 4
  funext q'
  split <;> rfl
end MS
def lI (z : Int) : Int64 := Int64.ofInt z
theorem lI_add (a b : Int) : lI a + lI b = lI (a + b) := (Int64.ofInt_add a b).symm
theorem lI_sub (a b : Int) : lI a - lI b = lI (a - b) := (Int64.ofInt_sub a b).symm
theorem lI_mul (a b : Int) : lI a * lI b = lI (a * b) := (Int64.ofInt_mul a b).symm
theorem lI_N (k : Nat) : lN k = lI (k : Int) := Int64.ofInt_eq_ofNat.symm
def gF (g : Nat → Nat) : Nat → Nat := fun p => g (36 + p)
def rg (g : Nat → Nat) (p : Nat) : Nat := g (28 + g (12 + p))
def gHas (g : Nat → Nat) (st : Int32) : Nat → Nat → Bool
  | 0, _ => false
  | k + 1, i => if nI (g (45 + 2 * i)) ≤ st ∧ st ≤ nI (g (45 + 2 * i + 1)) then true else gHas g st k (i + 1)
def gBl (g : Nat → Nat) : Bool := gHas g (nI (g 2)) (g 10) 0
def gSet (g : Nat → Nat) : Nat → Nat
  | 0 => 0
  | i + 1 => if rg g i = 1 then gSet g i ||| 2 ^ i else gSet g i
set_option maxRecDepth 100000 in
theorem bb_or0 : ∀ v, v < 256 → ∀ p, p < 8 → nI v ||| (nI 0 <<< (nI p &&& 31)) = nI v := by decide +kernel
set_option maxRecDepth 100000 in
theorem bb_xor : ∀ v, v < 256 → ∀ p, p < 8 → nI v ^^^ (nI 1 <<< (nI p &&& 31)) = nI (v ^^^ 2 ^ p) := by decide +kernel
set_option maxRecDepth 100000 in
theorem bb_xlt : ∀ v, v < 256 → ∀ p, p < 8 → v ^^^ 2 ^ p < 256 := by decide +kernel
theorem gSet_lt (g : Nat → Nat) : ∀ i, i ≤ 8 → gSet g i < 256 := by
  intro i
  induction i with
  | zero => exact fun _ => by unfold gSet; omega
  | succ i ih =>
    intro hi
    unfold gSet
    split
    · exact bset_lt true _ (ih (by omega)) i (by omega)
    · exact ih (by omega)
theorem gSet_bit (g : Nat → Nat) (hr : ∀ p, p < 8 → rg g p ≤ 1) : ∀ i, i ≤ 8 → ∀ p, p < 8 → bbit (gSet g i) p = if p < i then rg g p else 0 := by
  intro i
  induction i with
  | zero =>
    intro _ p _
    rw [if_neg (Nat.not_lt_zero p)]
    show bbit 0 p = 0
    unfold bbit
    rw [Nat.zero_testBit]
    rfl
  | succ i ih =>
    intro hi p hp
    have hl := gSet_lt g i (by omega)
    have ih := ih (by omega) p hp
    have h1 := hr i (by omega)
    unfold gSet
    by_cases h : rg g i = 1
    · rw [if_pos h]
      have hb := bset_bit true (gSet g i) hl i (by omega) p hp
      have hb : (gSet g i ||| 2 ^ i).testBit p = if p = i then true else (gSet g i).testBit p := hb
      unfold bbit at ih ⊢
      rw [hb]
      by_cases e : p = i
      · subst e
        rw [if_pos rfl, if_pos rfl, if_pos (Nat.lt_succ_self _), h]
      · rw [if_neg e, ih]
        by_cases c : p < i
        · rw [if_pos c, if_pos (by omega)]
        · rw [if_neg c, if_neg (by omega)]
    · rw [if_neg h, ih]
      by_cases e : p = i
      · subst e
        rw [if_neg (Nat.lt_irrefl _), if_pos (Nat.lt_succ_self _)]
        omega
      · by_cases c : p < i
        · rw [if_pos c, if_pos (by omega)]
        · rw [if_neg c, if_neg (by omega)]
section M1
variable {E : xEn} {x n w : Nat} {S : xSt} {g : Nat → Nat} {T : Nat → Int64}
theorem m_isIn {σ : xH} (a b c : Int32) (d : Nat) : xsem xT E (d + 1) kX11_isIn [.int a, .int b, .int c] σ = some (.inl (some (.int (nI (if b ≤ a ∧ a ≤ c then 1 else 0)))), σ) := by
  rw [eX11_isIn, QX11_isIn_0]
  by_cases h1 : a < b
  · rw [if_pos h1, if_neg (fun z => Int32.not_le.2 h1 z.1), QX11_isIn_14, QX11_isIn_15]
    rfl
  · by_cases h2 : c < a
    · rw [if_neg h1, if_pos h2, if_neg (fun z => Int32.not_le.2 h2 z.2), QX11_isIn_14, QX11_isIn_15]
      rfl
    · rw [if_neg h1, if_neg h2, if_pos ⟨Int32.not_lt.1 h1, Int32.not_lt.1 h2⟩, QX11_isIn_15]
      rfl
theorem m_get (hw : S.1 0 3 = nI w) (h9 : w ≤ 9) {k : Nat} (hk : k < 1100) (d : Nat) :
    xsem xT E (d + 1) kX11_get [.ref x, .int (nI k)] (wW E x shM (mS S w g T), n) = some (.inl (some (.int (nI (g k)))), (wW E x shM (mS S w g T), n)) := by
  rw [eX11_get, QX11_get_0]
  simp (disch := omega) only [gO_9 hM0, gI_9_0 hM0, gP_9_0 hM0, gR_9_1 hM0, gR_9_2 hM0, gI_9_3 hM0, gP_9_3 hM0, gI_9_4 hM0, gP_9_4 hM0, gR_9_5 hM0, gR_9_6 hM0, gR_9_7 hM0, gI_9_8 hM0, gP_9_8 hM0, gI_9_9 hM0, gP_9_9 hM0, gI_9_10 hM0, gP_9_10 hM0, gI_9_11 hM0, gP_9_11 hM0, gI_9_12 hM0, gP_9_12 hM0, gI_9_13 hM0, gP_9_13 hM0, gI_9_14 hM0, gP_9_14 hM0, gI_9_15 hM0, gP_9_15 hM0, gI_9_16 hM0, gP_9_16 hM0, gR_9_17 hM0, gR_9_18 hM0, gR_9_19 hM0, gR_9_20 hM0, gI_9_21 hM0, gP_9_21 hM0, gI_9_22 hM0, gP_9_22 hM0, gI_9_23 hM0, gP_9_23 hM0, gI_9_24 hM0, gP_9_24 hM0, gR_9_25 hM0, gI_9_26 hM0, gP_9_26 hM0, gI_9_27 hM0, gP_9_27 hM0, gI_9_28 hM0, gP_9_28 hM0, gL_9_29 hM0, gP_9_29 hM0, gL_9_30 hM0, gP_9_30 hM0, mS_1, hw, pk_mul, aI_w hM1, mS_r, wr_at, cI_s, cL_s, cF_s, cD_s, cA_s, cV_s, nI_add, cond_true, cond_false, if_true, if_false]
theorem m_put (hw : S.1 0 3 = nI w) (h9 : w ≤ 9) {k v : Nat} (hk : k < 1100) (d : Nat) :
    xsem xT E (d + 1) kX11_put [.ref x, .int (nI k), .int (nI v)] (wW E x shM (mS S w g T), n) = some (.inl none, (wW E x shM (mS S w (updN g k v) T), n)) := by
  rw [eX11_put, QX11_put_0]
  simp (disch := omega) only [gO_9 hM0, gI_9_0 hM0, gP_9_0 hM0, gR_9_1 hM0, gR_9_2 hM0, gI_9_3 hM0, gP_9_3 hM0, gI_9_4 hM0, gP_9_4 hM0, gR_9_5 hM0, gR_9_6 hM0, gR_9_7 hM0, gI_9_8 hM0, gP_9_8 hM0, gI_9_9 hM0, gP_9_9 hM0, gI_9_10 hM0, gP_9_10 hM0, gI_9_11 hM0, gP_9_11 hM0, gI_9_12 hM0, gP_9_12 hM0, gI_9_13 hM0, gP_9_13 hM0, gI_9_14 hM0, gP_9_14 hM0, gI_9_15 hM0, gP_9_15 hM0, gI_9_16 hM0, gP_9_16 hM0, gR_9_17 hM0, gR_9_18 hM0, gR_9_19 hM0, gR_9_20 hM0, gI_9_21 hM0, gP_9_21 hM0, gI_9_22 hM0, gP_9_22 hM0, gI_9_23 hM0, gP_9_23 hM0, gI_9_24 hM0, gP_9_24 hM0, gR_9_25 hM0, gI_9_26 hM0, gP_9_26 hM0, gI_9_27 hM0, gP_9_27 hM0, gI_9_28 hM0, gP_9_28 hM0, gL_9_29 hM0, gP_9_29 hM0, gL_9_30 hM0, gP_9_30 hM0, mS_1, hw, pk_mul, sI_w hM1, mS_r, wr_upd, mS_put, cI_s, cL_s, cF_s, cD_s, cA_s, cV_s, nI_add, cond_true, cond_false, if_true, if_false]
theorem m_shells (hw : S.1 0 3 = nI w) (h9 : w ≤ 9) (d : Nat) :
    xsem xT E (d + 2) kX11_shells [.ref x] (wW E x shM (mS S w g T), n) = some (.inl (some (.int (nI (g 0)))), (wW E x shM (mS S w g T), n)) := by
  rw [eX11_shells, QX11_shells_0]
  simp (disch := omega) only [gO_9 hM0, gI_9_0 hM0, gP_9_0 hM0, gR_9_1 hM0, gR_9_2 hM0, gI_9_3 hM0, gP_9_3 hM0, gI_9_4 hM0, gP_9_4 hM0, gR_9_5 hM0, gR_9_6 hM0, gR_9_7 hM0, gI_9_8 hM0, gP_9_8 hM0, gI_9_9 hM0, gP_9_9 hM0, gI_9_10 hM0, gP_9_10 hM0, gI_9_11 hM0, gP_9_11 hM0, gI_9_12 hM0, gP_9_12 hM0, gI_9_13 hM0, gP_9_13 hM0, gI_9_14 hM0, gP_9_14 hM0, gI_9_15 hM0, gP_9_15 hM0, gI_9_16 hM0, gP_9_16 hM0, gR_9_17 hM0, gR_9_18 hM0, gR_9_19 hM0, gR_9_20 hM0, gI_9_21 hM0, gP_9_21 hM0, gI_9_22 hM0, gP_9_22 hM0, gI_9_23 hM0, gP_9_23 hM0, gI_9_24 hM0, gP_9_24 hM0, gR_9_25 hM0, gI_9_26 hM0, gP_9_26 hM0, gI_9_27 hM0, gP_9_27 hM0, gI_9_28 hM0, gP_9_28 hM0, gL_9_29 hM0, gP_9_29 hM0, gL_9_30 hM0, gP_9_30 hM0, m_get hw h9, cI_s, cL_s, cF_s, cD_s, cA_s, cV_s, nI_add, cond_true, cond_false, if_true, if_false]
theorem m_had (hw : S.1 0 3 = nI w) (h9 : w ≤ 9) (hB : ∀ p, p ≤ 8 → g (36 + p) ≤ 1000000) {p : Nat} (hp : p ≤ 8) (d : Nat) :
    xsem xT E (d + 2) kX11_had [.ref x, .int (nI p)] (wW E x shM (mS S w g T), n) = some (.inl (some (.long (lN (g (36 + p))))), (wW E x shM (mS S w g T), n)) := by
  have := hB p hp
  rw [eX11_had, QX11_had_0]
  simp (disch := omega) only [gO_9 hM0, gI_9_0 hM0, gP_9_0 hM0, gR_9_1 hM0, gR_9_2 hM0, gI_9_3 hM0, gP_9_3 hM0, gI_9_4 hM0, gP_9_4 hM0, gR_9_5 hM0, gR_9_6 hM0, gR_9_7 hM0, gI_9_8 hM0, gP_9_8 hM0, gI_9_9 hM0, gP_9_9 hM0, gI_9_10 hM0, gP_9_10 hM0, gI_9_11 hM0, gP_9_11 hM0, gI_9_12 hM0, gP_9_12 hM0, gI_9_13 hM0, gP_9_13 hM0, gI_9_14 hM0, gP_9_14 hM0, gI_9_15 hM0, gP_9_15 hM0, gI_9_16 hM0, gP_9_16 hM0, gR_9_17 hM0, gR_9_18 hM0, gR_9_19 hM0, gR_9_20 hM0, gI_9_21 hM0, gP_9_21 hM0, gI_9_22 hM0, gP_9_22 hM0, gI_9_23 hM0, gP_9_23 hM0, gI_9_24 hM0, gP_9_24 hM0, gR_9_25 hM0, gI_9_26 hM0, gP_9_26 hM0, gI_9_27 hM0, gP_9_27 hM0, gI_9_28 hM0, gP_9_28 hM0, gL_9_29 hM0, gP_9_29 hM0, gL_9_30 hM0, gP_9_30 hM0, m_get hw h9, nI_l, cI_s, cL_s, cF_s, cD_s, cA_s, cV_s, nI_add, cond_true, cond_false, if_true, if_false]
theorem lm_has (hw : S.1 0 3 = nI w) (h9 : w ≤ 9) (h10 : g 10 ≤ 8) (st : Int32) (d : Nat) :
    ∀ k i, i + k = g 10 → qX11_blinksAt_2 E (d + 1) x st (nI i) (wW E x shM (mS S w g T), n) = some (.inl (some (.int (nI (gHas g st k i).toNat))), (wW E x shM (mS S w g T), n)) := by
  intro k
  induction k with
  | zero =>
    intro i hi
    rw [QX11_blinksAt_2]
    simp (disch := omega) only [gO_9 hM0, gI_9_0 hM0, gP_9_0 hM0, gR_9_1 hM0, gR_9_2 hM0, gI_9_3 hM0, gP_9_3 hM0, gI_9_4 hM0, gP_9_4 hM0, gR_9_5 hM0, gR_9_6 hM0, gR_9_7 hM0, gI_9_8 hM0, gP_9_8 hM0, gI_9_9 hM0, gP_9_9 hM0, gI_9_10 hM0, gP_9_10 hM0, gI_9_11 hM0, gP_9_11 hM0, gI_9_12 hM0, gP_9_12 hM0, gI_9_13 hM0, gP_9_13 hM0, gI_9_14 hM0, gP_9_14 hM0, gI_9_15 hM0, gP_9_15 hM0, gI_9_16 hM0, gP_9_16 hM0, gR_9_17 hM0, gR_9_18 hM0, gR_9_19 hM0, gR_9_20 hM0, gI_9_21 hM0, gP_9_21 hM0, gI_9_22 hM0, gP_9_22 hM0, gI_9_23 hM0, gP_9_23 hM0, gI_9_24 hM0, gP_9_24 hM0, gR_9_25 hM0, gI_9_26 hM0, gP_9_26 hM0, gI_9_27 hM0, gP_9_27 hM0, gI_9_28 hM0, gP_9_28 hM0, gL_9_29 hM0, gP_9_29 hM0, gL_9_30 hM0, gP_9_30 hM0, m_get hw h9, iLE_t, QX11_blinksAt_49, xret5_0, cI_s, cL_s, cF_s, cD_s, cA_s, cV_s, nI_add, cond_true, cond_false, if_true, if_false]
    rfl
  | succ k ih =>
    intro i hi
    rw [QX11_blinksAt_2]
    simp (disch := omega) only [gO_9 hM0, gI_9_0 hM0, gP_9_0 hM0, gR_9_1 hM0, gR_9_2 hM0, gI_9_3 hM0, gP_9_3 hM0, gI_9_4 hM0, gP_9_4 hM0, gR_9_5 hM0, gR_9_6 hM0, gR_9_7 hM0, gI_9_8 hM0, gP_9_8 hM0, gI_9_9 hM0, gP_9_9 hM0, gI_9_10 hM0, gP_9_10 hM0, gI_9_11 hM0, gP_9_11 hM0, gI_9_12 hM0, gP_9_12 hM0, gI_9_13 hM0, gP_9_13 hM0, gI_9_14 hM0, gP_9_14 hM0, gI_9_15 hM0, gP_9_15 hM0, gI_9_16 hM0, gP_9_16 hM0, gR_9_17 hM0, gR_9_18 hM0, gR_9_19 hM0, gR_9_20 hM0, gI_9_21 hM0, gP_9_21 hM0, gI_9_22 hM0, gP_9_22 hM0, gI_9_23 hM0, gP_9_23 hM0, gI_9_24 hM0, gP_9_24 hM0, gR_9_25 hM0, gI_9_26 hM0, gP_9_26 hM0, gI_9_27 hM0, gP_9_27 hM0, gI_9_28 hM0, gP_9_28 hM0, gL_9_29 hM0, gP_9_29 hM0, gL_9_30 hM0, gP_9_30 hM0, m_get hw h9, iLE_f, pk_mul, m_isIn, cI_s, cL_s, cF_s, cD_s, cA_s, cV_s, nI_add, cond_true, cond_false, if_true, if_false]
    unfold gHas
    by_cases h : nI (g (45 + 2 * i)) ≤ st ∧ st ≤ nI (g (45 + 2 * i + 1))
    · simp (disch := omega) only [if_pos h, iEQ_f, xret5_1, cI_s, cL_s, cF_s, cD_s, cA_s, cV_s, nI_add, cond_true, cond_false, if_true, if_false]
      rfl
    · simp (disch := omega) only [if_neg h, iEQ_t, QX11_blinksAt_43, cI_s, cL_s, cF_s, cD_s, cA_s, cV_s, nI_add, cond_true, cond_false, if_true, if_false]
      exact ih (i + 1) (by omega)
theorem m_blinksAt (hw : S.1 0 3 = nI w) (h9 : w ≤ 9) (h10 : g 10 ≤ 8) (st : Int32) (d : Nat) :
    xsem xT E (d + 2) kX11_blinksAt [.ref x, .int st] (wW E x shM (mS S w g T), n) = some (.inl (some (.int (nI (gHas g st (g 10) 0).toNat))), (wW E x shM (mS S w g T), n)) := by
  rw [eX11_blinksAt, QX11_blinksAt_0]
  exact lm_has hw h9 h10 st d (g 10) 0 (Nat.zero_add _)
theorem xret5_b {ρ : Type} {b : Bool} {k : Option ρ} : xiret [5] (nI b.toNat) k = k := by cases b <;> rfl
theorem m_blinksNow (hw : S.1 0 3 = nI w) (h9 : w ≤ 9) (h10 : g 10 ≤ 8) (d : Nat) :
    xsem xT E (d + 3) kX11_blinksNow [.ref x] (wW E x shM (mS S w g T), n) = some (.inl (some (.int (nI (gBl g).toNat))), (wW E x shM (mS S w g T), n)) := by
  rw [eX11_blinksNow, QX11_blinksNow_0]
  simp (disch := omega) only [gO_9 hM0, gI_9_0 hM0, gP_9_0 hM0, gR_9_1 hM0, gR_9_2 hM0, gI_9_3 hM0, gP_9_3 hM0, gI_9_4 hM0, gP_9_4 hM0, gR_9_5 hM0, gR_9_6 hM0, gR_9_7 hM0, gI_9_8 hM0, gP_9_8 hM0, gI_9_9 hM0, gP_9_9 hM0, gI_9_10 hM0, gP_9_10 hM0, gI_9_11 hM0, gP_9_11 hM0, gI_9_12 hM0, gP_9_12 hM0, gI_9_13 hM0, gP_9_13 hM0, gI_9_14 hM0, gP_9_14 hM0, gI_9_15 hM0, gP_9_15 hM0, gI_9_16 hM0, gP_9_16 hM0, gR_9_17 hM0, gR_9_18 hM0, gR_9_19 hM0, gR_9_20 hM0, gI_9_21 hM0, gP_9_21 hM0, gI_9_22 hM0, gP_9_22 hM0, gI_9_23 hM0, gP_9_23 hM0, gI_9_24 hM0, gP_9_24 hM0, gR_9_25 hM0, gI_9_26 hM0, gP_9_26 hM0, gI_9_27 hM0, gP_9_27 hM0, gI_9_28 hM0, gP_9_28 hM0, gL_9_29 hM0, gP_9_29 hM0, gL_9_30 hM0, gP_9_30 hM0, m_get hw h9, m_blinksAt hw h9 h10, xret5_b, cI_s, cL_s, cF_s, cD_s, cA_s, cV_s, nI_add, cond_true, cond_false, if_true, if_false]
  rfl
theorem lm_rough (hw : S.1 0 3 = nI w) (h9 : w ≤ 9) (h8 : g 0 ≤ 8) (hs : ∀ p, p < 8 → g (12 + p) < 8) (hr : ∀ p, p < 8 → rg g p ≤ 1) (d : Nat) :
    ∀ k i, i + k = g 0 → qX11_rough_4 E (d + 2) x (nI (gSet g i)) (nI i) (wW E x shM (mS S w g T), n) = some (.inl (some (.int (nI (gSet g (g 0))))), (wW E x shM (mS S w g T), n)) := by
  intro k
  induction k with
  | zero =>
    intro i hi
    have hi : i = g 0 := hi
    rw [QX11_rough_4]
    simp (disch := omega) only [gO_9 hM0, gI_9_0 hM0, gP_9_0 hM0, gR_9_1 hM0, gR_9_2 hM0, gI_9_3 hM0, gP_9_3 hM0, gI_9_4 hM0, gP_9_4 hM0, gR_9_5 hM0, gR_9_6 hM0, gR_9_7 hM0, gI_9_8 hM0, gP_9_8 hM0, gI_9_9 hM0, gP_9_9 hM0, gI_9_10 hM0, gP_9_10 hM0, gI_9_11 hM0, gP_9_11 hM0, gI_9_12 hM0, gP_9_12 hM0, gI_9_13 hM0, gP_9_13 hM0, gI_9_14 hM0, gP_9_14 hM0, gI_9_15 hM0, gP_9_15 hM0, gI_9_16 hM0, gP_9_16 hM0, gR_9_17 hM0, gR_9_18 hM0, gR_9_19 hM0, gR_9_20 hM0, gI_9_21 hM0, gP_9_21 hM0, gI_9_22 hM0, gP_9_22 hM0, gI_9_23 hM0, gP_9_23 hM0, gI_9_24 hM0, gP_9_24 hM0, gR_9_25 hM0, gI_9_26 hM0, gP_9_26 hM0, gI_9_27 hM0, gP_9_27 hM0, gI_9_28 hM0, gP_9_28 hM0, gL_9_29 hM0, gP_9_29 hM0, gL_9_30 hM0, gP_9_30 hM0, m_shells hw h9, iLE_t, QX11_rough_38, cI_s, cL_s, cF_s, cD_s, cA_s, cV_s, nI_add, cond_true, cond_false, if_true, if_false]
    rw [hi]
  | succ k ih =>
    intro i hi
    have ih := ih (i + 1) (by omega)
    have h1 := hs i (by omega)
    have h2 := hr i (by omega)
    have h3 := gSet_lt g i (by omega)
    rw [show gSet g (i + 1) = if rg g i = 1 then gSet g i ||| 2 ^ i else gSet g i from rfl] at ih
    rw [QX11_rough_4]
    simp (disch := omega) only [gO_9 hM0, gI_9_0 hM0, gP_9_0 hM0, gR_9_1 hM0, gR_9_2 hM0, gI_9_3 hM0, gP_9_3 hM0, gI_9_4 hM0, gP_9_4 hM0, gR_9_5 hM0, gR_9_6 hM0, gR_9_7 hM0, gI_9_8 hM0, gP_9_8 hM0, gI_9_9 hM0, gP_9_9 hM0, gI_9_10 hM0, gP_9_10 hM0, gI_9_11 hM0, gP_9_11 hM0, gI_9_12 hM0, gP_9_12 hM0, gI_9_13 hM0, gP_9_13 hM0, gI_9_14 hM0, gP_9_14 hM0, gI_9_15 hM0, gP_9_15 hM0, gI_9_16 hM0, gP_9_16 hM0, gR_9_17 hM0, gR_9_18 hM0, gR_9_19 hM0, gR_9_20 hM0, gI_9_21 hM0, gP_9_21 hM0, gI_9_22 hM0, gP_9_22 hM0, gI_9_23 hM0, gP_9_23 hM0, gI_9_24 hM0, gP_9_24 hM0, gR_9_25 hM0, gI_9_26 hM0, gP_9_26 hM0, gI_9_27 hM0, gP_9_27 hM0, gI_9_28 hM0, gP_9_28 hM0, gL_9_29 hM0, gP_9_29 hM0, gL_9_30 hM0, gP_9_30 hM0, m_shells hw h9, iLE_f, m_get hw h9, cI_s, cL_s, cF_s, cD_s, cA_s, cV_s, nI_add, cond_true, cond_false, if_true, if_false]
    unfold rg at ih h2
    by_cases h : g (28 + g (12 + i)) = 1
    · rw [if_pos h] at ih
      rw [h, bb_or (gSet g i) h3 i (by omega)]
      exact ih
    · rw [if_neg h] at ih
      rw [show g (28 + g (12 + i)) = 0 by omega, bb_or0 (gSet g i) h3 i (by omega)]
      exact ih
theorem m_rough (hw : S.1 0 3 = nI w) (h9 : w ≤ 9) (h8 : g 0 ≤ 8) (hs : ∀ p, p < 8 → g (12 + p) < 8) (hr : ∀ p, p < 8 → rg g p ≤ 1) (d : Nat) :
    xsem xT E (d + 3) kX11_rough [.ref x] (wW E x shM (mS S w g T), n) = some (.inl (some (.int (nI (gSet g (g 0))))), (wW E x shM (mS S w g T), n)) := by
  rw [eX11_rough, QX11_rough_0]
  exact lm_rough hw h9 h8 hs hr d (g 0) 0 (Nat.zero_add _)
def xc (v i j : Nat) : Nat := if bbit v i = bbit v j then v else v ^^^ 2 ^ i ^^^ 2 ^ j
theorem xc_lt {v i j : Nat} (hv : v < 256) (hi : i < 8) (hj : j < 8) : xc v i j < 256 := by
  unfold xc
  split
  · exact hv
  · exact bb_xlt _ (bb_xlt _ hv _ hi) _ hj
theorem m_exchanged {σ : xH} {v i j : Nat} (hv : v < 256) (hi : i < 8) (hj : j < 8) (d : Nat) :
    xsem xT E (d + 1) kX11_exchanged [.int (nI v), .int (nI i), .int (nI j)] σ = some (.inl (some (.int (nI (xc v i j)))), σ) := by
  have h1 := bbit_le v i
  have h2 := bbit_le v j
  rw [eX11_exchanged, QX11_exchanged_0, bb_get v hv i hi, bb_get v hv j hj]
  unfold xc
  by_cases h : bbit v i = bbit v j
  · simp (disch := omega) only [iEQ_t, if_pos h, QX11_exchanged_26, cI_s, cL_s, cF_s, cD_s, cA_s, cV_s, nI_add, cond_true, cond_false, if_true, if_false]
  · simp (disch := omega) only [iEQ_f, if_neg h, QX11_exchanged_17, QX11_exchanged_26, cI_s, cL_s, cF_s, cD_s, cA_s, cV_s, nI_add, cond_true, cond_false, if_true, if_false]
    rw [bb_xor v hv i hi, bb_xor _ (bb_xlt v hv i hi) j hj]
theorem lm_stays (hw : S.1 0 3 = nI w) (h9 : w ≤ 9) (h8 : g 0 ≤ 8) (hB : ∀ p, p ≤ 8 → g (36 + p) ≤ 1000000) (c : Int) (d : Nat) :
    ∀ k i (T : Nat → Int64) (Z : Nat → Int), i + k = g 0 + 1 → (∀ p, p ≤ g 0 → T p = lI (Z p)) →
      ∃ T', qX11_stays_2 E (d + 2) x (lI c) (nI i) (wW E x shM (mS S w g T), n) = some (.inl none, (wW E x shM (mS S w g T'), n)) ∧ ∀ p, p ≤ g 0 → T' p = lI (Z p + if i ≤ p then c * gF g p else 0) := by
  intro k
  induction k with
  | zero =>
    intro i T Z hi hT
    refine ⟨T, ?_, fun p hp => ?_⟩
    · rw [QX11_stays_2]
      simp (disch := omega) only [gO_9 hM0, gI_9_0 hM0, gP_9_0 hM0, gR_9_1 hM0, gR_9_2 hM0, gI_9_3 hM0, gP_9_3 hM0, gI_9_4 hM0, gP_9_4 hM0, gR_9_5 hM0, gR_9_6 hM0, gR_9_7 hM0, gI_9_8 hM0, gP_9_8 hM0, gI_9_9 hM0, gP_9_9 hM0, gI_9_10 hM0, gP_9_10 hM0, gI_9_11 hM0, gP_9_11 hM0, gI_9_12 hM0, gP_9_12 hM0, gI_9_13 hM0, gP_9_13 hM0, gI_9_14 hM0, gP_9_14 hM0, gI_9_15 hM0, gP_9_15 hM0, gI_9_16 hM0, gP_9_16 hM0, gR_9_17 hM0, gR_9_18 hM0, gR_9_19 hM0, gR_9_20 hM0, gI_9_21 hM0, gP_9_21 hM0, gI_9_22 hM0, gP_9_22 hM0, gI_9_23 hM0, gP_9_23 hM0, gI_9_24 hM0, gP_9_24 hM0, gR_9_25 hM0, gI_9_26 hM0, gP_9_26 hM0, gI_9_27 hM0, gP_9_27 hM0, gI_9_28 hM0, gP_9_28 hM0, gL_9_29 hM0, gP_9_29 hM0, gL_9_30 hM0, gP_9_30 hM0, m_shells hw h9, iLT_t, QX11_stays_32, cI_s, cL_s, cF_s, cD_s, cA_s, cV_s, nI_add, cond_true, cond_false, if_true, if_false]
    · rw [if_neg (by omega), Int.add_zero, hT p hp]
  | succ k ih =>
    intro i T Z hi hT
    obtain ⟨T', h1, h2⟩ := ih (i + 1) (vp_updL T i (lI (Z i + c * gF g i))) (fun p => if p = i then Z i + c * gF g i else Z p) (by omega) (fun p hp => by
      unfold vp_updL
      split
      · rfl
      · exact hT p hp)
    refine ⟨T', ?_, fun p hp => ?_⟩
    · rw [QX11_stays_2]
      simp (disch := omega) only [gO_9 hM0, gI_9_0 hM0, gP_9_0 hM0, gR_9_1 hM0, gR_9_2 hM0, gI_9_3 hM0, gP_9_3 hM0, gI_9_4 hM0, gP_9_4 hM0, gR_9_5 hM0, gR_9_6 hM0, gR_9_7 hM0, gI_9_8 hM0, gP_9_8 hM0, gI_9_9 hM0, gP_9_9 hM0, gI_9_10 hM0, gP_9_10 hM0, gI_9_11 hM0, gP_9_11 hM0, gI_9_12 hM0, gP_9_12 hM0, gI_9_13 hM0, gP_9_13 hM0, gI_9_14 hM0, gP_9_14 hM0, gI_9_15 hM0, gP_9_15 hM0, gI_9_16 hM0, gP_9_16 hM0, gR_9_17 hM0, gR_9_18 hM0, gR_9_19 hM0, gR_9_20 hM0, gI_9_21 hM0, gP_9_21 hM0, gI_9_22 hM0, gP_9_22 hM0, gI_9_23 hM0, gP_9_23 hM0, gI_9_24 hM0, gP_9_24 hM0, gR_9_25 hM0, gI_9_26 hM0, gP_9_26 hM0, gI_9_27 hM0, gP_9_27 hM0, gI_9_28 hM0, gP_9_28 hM0, gL_9_29 hM0, gP_9_29 hM0, gL_9_30 hM0, gP_9_30 hM0, m_shells hw h9, iLT_f, aL_w hM3, mS_t, m_had hw h9 hB, sL_w hM3, lI_N, lI_mul, hT i (by omega), lI_add, mS_then, cI_s, cL_s, cF_s, cD_s, cA_s, cV_s, nI_add, cond_true, cond_false, if_true, if_false]
      exact h1
    · rw [h2 p hp]
      congr 1
      by_cases e : p = i
      · subst e
        rw [if_pos rfl, if_neg (by omega), if_pos (Nat.le_refl _)]
        omega
      · rw [if_neg e]
        by_cases l : i ≤ p
        · rw [if_pos l, if_pos (by omega)]
        · rw [if_neg l, if_neg (by omega)]
theorem m_stays (hw : S.1 0 3 = nI w) (h9 : w ≤ 9) (h8 : g 0 ≤ 8) (hB : ∀ p, p ≤ 8 → g (36 + p) ≤ 1000000) (c : Int) {Z : Nat → Int} (hT : ∀ p, p ≤ g 0 → T p = lI (Z p)) (d : Nat) :
    ∃ T', xsem xT E (d + 3) kX11_stays [.ref x, .long (lI c)] (wW E x shM (mS S w g T), n) = some (.inl none, (wW E x shM (mS S w g T'), n)) ∧ ∀ p, p ≤ g 0 → T' p = lI (Z p + c * gF g p) := by
  obtain ⟨T', h1, h2⟩ := lm_stays (E := E) (x := x) (n := n) hw h9 h8 hB c d (g 0 + 1) 0 T Z (by omega) hT
  exact ⟨T', by rw [eX11_stays, QX11_stays_0]; exact h1, fun p hp => by rw [h2 p hp, if_pos (Nat.zero_le p)]⟩
end M1
