/-! THE REFERENCE: its present row as a picture of numbers; what it reads there. -/
def wr (r : Nat → Int32) (w : Nat) (g : Nat → Nat) : Nat → Int32 := fun j => if 1100 * w ≤ j ∧ j < 1100 * w + 1100 then nI (g (j - 1100 * w)) else r j
def mS (S : xSt) (w : Nat) (g : Nat → Nat) (T : Nat → Int64) : xSt := sG (sA S 1 (wr (S.2.1 1) w g)) 3 T
theorem wr_at {r : Nat → Int32} {w k : Nat} {g : Nat → Nat} (hk : k < 1100) : wr r w g (1100 * w + k) = nI (g k) := by
  unfold wr
  rw [if_pos ⟨by omega, by omega⟩, Nat.add_sub_cancel_left]
theorem wr_upd {r : Nat → Int32} {w k v : Nat} {g : Nat → Nat} (hk : k < 1100) : upd (wr r w g) (1100 * w + k) (nI v) = wr r w (updN g k v) := by
  funext j
  unfold upd wr updN
  by_cases h : j = 1100 * w + k
  · rw [if_pos h, if_pos ⟨by omega, by omega⟩, if_pos (by omega)]
  · rw [if_neg h]
    by_cases h2 : 1100 * w ≤ j ∧ j < 1100 * w + 1100
    · rw [if_pos h2, if_pos h2, if_neg (by omega)]
    · rw [if_neg h2, if_neg h2]
theorem updN_s {g : Nat → Nat} {a v : Nat} : updN g a v a = v := if_pos rfl
theorem updN_n {g : Nat → Nat} {a v p : Nat} (h : p ≠ a) : updN g a v p = g p := if_neg h
theorem vp_updL_s {f : Nat → Int64} {k : Nat} {v : Int64} : vp_updL f k v k = v := if_pos rfl
theorem vp_updL_n {f : Nat → Int64} {k j : Nat} {v : Int64} (h : j ≠ k) : vp_updL f k v j = f j := if_neg h
section MS
variable {S : xSt} {w : Nat} {g g' : Nat → Nat} {T T' : Nat → Int64}
theorem mS_1 : (mS S w g T).1 = S.1 := rfl
theorem mS_r : (mS S w g T).2.1 1 = wr (S.2.1 1) w g := rfl
theorem mS_o {q : Nat} (h : q ≠ 1) : (mS S w g T).2.1 q = S.2.1 q := if_neg h
theorem mS_l : (mS S w g T).2.2.1 = S.2.2.1 := rfl
theorem mS_t : (mS S w g T).2.2.2.1 3 = T := rfl
theorem mS_p : (mS S w g T).2.2.2.1 4 = S.2.2.2.1 4 := rfl
theorem mS_put : sA (mS S w g T) 1 (wr (S.2.1 1) w g') = mS S w g' T := by
  unfold mS sG sA
  dsimp only
  congr 2
  funext q'
  split <;> rfl
theorem mS_then : sG (mS S w g T) 3 T' = mS S w g T' := by
  unfold mS sG sA
  dsimp only
  congr 4
  funext q'
  split <;> rfl
end MS
def lI (z : Int) : Int64 := Int64.ofInt z
theorem lI_add (a b : Int) : lI a + lI b = lI (a + b) := (Int64.ofInt_add a b).symm
theorem lI_sub (a b : Int) : lI a - lI b = lI (a - b) := (Int64.ofInt_sub a b).symm
theorem lI_mul (a b : Int) : lI a * lI b = lI (a * b) := (Int64.ofInt_mul a b).symm
theorem lI_N (k : Nat) : lN k = lI (k : Int) := Int64.ofInt_eq_ofNat.symm
def gF (g : Nat → Nat) : Nat → Nat := fun p => g (36 + p)
def rg (g : Nat → Nat) (p : Nat) : Nat := g (28 + g (12 + p))
def gHas (g : Nat → Nat) (st : Int32) : Nat → Nat → Bool
  | 0, _ => false
  | k + 1, i => if nI (g (45 + 2 * i)) ≤ st ∧ st ≤ nI (g (45 + 2 * i + 1)) then true else gHas g st k (i + 1)
def gBl (g : Nat → Nat) : Bool := gHas g (nI (g 2)) (g 10) 0
def gSet (g : Nat → Nat) : Nat → Nat
  | 0 => 0
  | i + 1 => if rg g i = 1 then gSet g i ||| 2 ^ i else gSet g i
set_option maxRecDepth 100000 in
theorem bb_or0 : ∀ v, v < 256 → ∀ p, p < 8 → nI v ||| (nI 0 <<< (nI p &&& 31)) = nI v := by decide +kernel
set_option maxRecDepth 100000 in
theorem bb_xor : ∀ v, v < 256 → ∀ p, p < 8 → nI v ^^^ (nI 1 <<< (nI p &&& 31)) = nI (v ^^^ 2 ^ p) := by decide +kernel
set_option maxRecDepth 100000 in
theorem bb_xlt : ∀ v, v < 256 → ∀ p, p < 8 → v ^^^ 2 ^ p < 256 := by decide +kernel
theorem gSet_lt (g : Nat → Nat) : ∀ i, i ≤ 8 → gSet g i < 256 := by
  intro i
  induction i with
  | zero => exact fun _ => by unfold gSet; omega
  | succ i ih =>
    intro hi
    unfold gSet
    split
    · exact bset_lt true _ (ih (by omega)) i (by omega)
    · exact ih (by omega)
theorem gSet_bit (g : Nat → Nat) (hr : ∀ p, p < 8 → rg g p ≤ 1) : ∀ i, i ≤ 8 → ∀ p, p < 8 → bbit (gSet g i) p = if p < i then rg g p else 0 := by
  intro i
  induction i with
  | zero =>
    intro _ p _
    rw [if_neg (Nat.not_lt_zero p)]
    show bbit 0 p = 0
    unfold bbit
    rw [Nat.zero_testBit]
    rfl
  | succ i ih =>
    intro hi p hp
    have hl := gSet_lt g i (by omega)
    have ih := ih (by omega) p hp
    have h1 := hr i (by omega)
    unfold gSet
    by_cases h : rg g i = 1
    · rw [if_pos h]
      have hb := bset_bit true (gSet g i) hl i (by omega) p hp
      have hb : (gSet g i ||| 2 ^ i).testBit p = if p = i then true else (gSet g i).testBit p := hb
      unfold bbit at ih ⊢
      rw [hb]
      by_cases e : p = i
      · subst e
        rw [if_pos rfl, if_pos rfl, if_pos (Nat.lt_succ_self _), h]
      · rw [if_neg e, ih]
        by_cases c : p < i
        · rw [if_pos c, if_pos (by omega)]
        · rw [if_neg c, if_neg (by omega)]
    · rw [if_neg h, ih]
      by_cases e : p = i
      · subst e
        rw [if_neg (Nat.lt_irrefl _), if_pos (Nat.lt_succ_self _)]
        omega
      · by_cases c : p < i
        · rw [if_pos c, if_pos (by omega)]
        · rw [if_neg c, if_neg (by omega)]
section M1
variable {E : xEn} {z : Nat → Option va_E} {x n w : Nat} {S : xSt} {g : Nat → Nat} {T : Nat → Int64}
theorem xret5_b {ρ : Type} {b : Bool} {k : Option ρ} : xiret [5] (nI b.toNat) k = k := by cases b <;> rfl
def xc (v i j : Nat) : Nat := if bbit v i = bbit v j then v else v ^^^ 2 ^ i ^^^ 2 ^ j
theorem xc_lt {v i j : Nat} (hv : v < 256) (hi : i < 8) (hj : j < 8) : xc v i j < 256 := by
  unfold xc
  split
  · exact hv
  · exact bb_xlt _ (bb_xlt _ hv _ hi) _ hj
end M1
