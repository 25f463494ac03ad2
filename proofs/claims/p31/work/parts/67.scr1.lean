/-! A SCRIPT'S COMMANDS, read on both sides. -/
def hS6 (sh : Nat → Option xSh) : Prop := sh 6 = some (sh6 6) ∧ sh 7 = some (4, 60, []) ∧ sh 8 = some (1, 60, []) ∧ sh 9 = some (1, 60, []) ∧ sh 10 = some (1, 60, [])
section SC1
variable {E : xEn} {z : Nat → Option va_E} {x y n m : Nat} {sh : Nat → Option xSh} {S M : xSt} {L p N dep : Nat} {tx : Nat → Nat} {P : Nat → Nat → Nat}
end SC1
