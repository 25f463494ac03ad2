/-! THE REFERENCE: beliefs behind a step, ahead of their reduction. -/
def gRaw (bl : Bool) (k a b : Nat) (g : Nat → Nat) : Nat → Nat :=
  if k = 0 ∧ rg g a ≠ rg g b then updN (updN (gF g) a (gF g b)) b (gF g a)
  else if bl = true then gWon (g 0) (rg g) (gF g) (g 5) (g 6)
  else if k < 2 ∧ rg g a = rg g b then mMix a b (g 4) (gF g)
  else gF g
theorem nI_100 : nI 100 = 100 := rfl
section M2
variable {E : xEn} {z : Nat → Option va_E} {x n w : Nat} {S : xSt} {g : Nat → Nat} {T : Nat → Int64}
theorem m_bit (h8 : g 0 ≤ 8) (hr : ∀ p, p < 8 → rg g p ≤ 1) {p : Nat} (hp : p < g 0) : (nI (gSet g (g 0)) >>> (nI p &&& 31)) &&& nI 1 = nI (rg g p) := by
  rw [bb_get _ (gSet_lt g _ h8) p (by omega), gSet_bit g hr _ h8 p (by omega), if_pos hp]
def pE (f : Nat → Nat) (i j p : Nat) : Int := (f p : Int) + (if p = i then (f j : Int) - f i else 0) + (if p = j then (f i : Int) - f j else 0)
def pH (g : Nat → Nat) (v u p i : Nat) : Int := iS (fun q => if xc v i q = u then pE (gF g) i q p else 0) (g 0) - iS (fun q => if xc v i q = u then pE (gF g) i q p else 0) (i + 1)
def pK (f : Nat → Nat) (n s p q : Nat) : Int := 2 * (s : Int) * f p + (if p = n then (s : Int) * ((f q : Int) - f n) else 0) + (if p = q then (s : Int) * ((f n : Int) - f q) else 0)
end M2
