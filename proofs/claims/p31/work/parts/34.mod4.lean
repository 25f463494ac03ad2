/-! THE REFERENCE: the reduction of beliefs; a step, a look. -/
def gBel (m : Nat) (F g : Nat → Nat) : Nat → Nat := fun k => if 36 ≤ k ∧ k < 36 + m then F (k - 36) else g k
theorem gBel_0 {F g : Nat → Nat} : gBel 0 F g = g := by
  funext k
  exact if_neg (by omega)
theorem gBel_n {m k : Nat} {F g : Nat → Nat} (h : k < 36 ∨ 36 + m ≤ k) : gBel m F g k = g k := if_neg (by omega)
theorem gBel_i {m p : Nat} {F g : Nat → Nat} (h : p < m) : gBel m F g (36 + p) = F p := by
  unfold gBel
  rw [if_pos ⟨by omega, by omega⟩, Nat.add_sub_cancel_left]
theorem gBel_s {m : Nat} {F g : Nat → Nat} : updN (gBel m F g) (36 + m) (F m) = gBel (m + 1) F g := by
  funext k
  unfold updN gBel
  by_cases e : k = 36 + m
  · rw [if_pos e, if_pos ⟨by omega, by omega⟩, e, Nat.add_sub_cancel_left]
  · rw [if_neg e]
    by_cases c : 36 ≤ k ∧ k < 36 + m
    · rw [if_pos c, if_pos ⟨by omega, by omega⟩]
    · rw [if_neg c, if_neg (by omega)]
def gThk (bl : Bool) (k a b : Nat) (g : Nat → Nat) : Nat → Nat := mSettle (g 0 + 1) (gRaw bl k a b g)
def gBall (k a b : Nat) (g : Nat → Nat) : Nat := if k = 3 then g 0 else if k = 4 then a else if k = 0 then mBall (g 1) a b else g 1
def gSw1 (a b : Nat) (g : Nat → Nat) : Nat → Nat := updN (updN g (12 + a) (g (12 + b))) (12 + b) (g (12 + a))
def gInc (k : Nat) (g : Nat → Nat) : Nat → Nat := updN g k (g k + 1)
def gSwp (a b : Nat) (g : Nat → Nat) : Nat → Nat := gInc (20 + g (12 + b)) (gInc (20 + g (12 + a)) (gSw1 a b g))
def gSt1 (k a b : Nat) (g : Nat → Nat) : Nat → Nat := if k = 0 then gSwp a b (updN g 1 (gBall k a b g)) else updN g 1 (gBall k a b g)
def gSt2 (bl : Bool) (k a b : Nat) (g : Nat → Nat) : Nat → Nat := gInc 2 (gBel (g 0 + 1) (gThk bl k a b g) (gSt1 k a b g))
def gStep (bl : Bool) (k a b : Nat) (g : Nat → Nat) : Nat → Nat := updN (gSt2 bl k a b g) 3 (gSt2 bl k a b g 3 + bl.toNat)
def gLk (p : Nat) (g : Nat → Nat) : Nat → Nat := mDiv (g 0 + 1) (if g 1 = p then mOne p else updN (gF g) p 0)
def gLook (p : Nat) (g : Nat → Nat) : Nat → Nat := gBel (g 0 + 1) (gLk p g) g
theorem mGcd_comm {f : Nat → Nat} {i : Nat} : Nat.gcd (mGcd f i) (f i) = mGcd f (i + 1) := Nat.gcd_comm _ _
theorem mMax_s {f : Nat → Nat} {i : Nat} : (if mMax f i < f i then f i else mMax f i) = mMax f (i + 1) := rfl
section M4
variable {E : xEn} {z : Nat → Option va_E} {x n w : Nat} {S : xSt} {g : Nat → Nat} {T : Nat → Int64}
end M4
