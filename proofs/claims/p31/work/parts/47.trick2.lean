/-! THE MOVE THAT FOOLS MOST: the class's Trick. -/
def hT (sh : Nat → Option xSh) (q : Nat) : Prop := sh q = some (sh7 q) ∧ sh (q + 1) = some (sh4 (q + 1)) ∧ sh (q + 2) = some (1, 9, [])
section TR2
variable {E : xEn} {z : Nat → Option va_E} {x n : Nat} {sh : Nat → Option xSh} {S : xSt} {q o : Nat} {g : Nat → Nat}
end TR2
