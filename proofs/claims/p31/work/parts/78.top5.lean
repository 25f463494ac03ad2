/-! CALLS THAT ONLY ASK: rows. -/
theorem xup_xup {w : Nat → Option va_E} {a : Nat} {e e' : va_E} : xup (xup w a e) a e' = xup w a e' := by
  funext b
  by_cases h : b = a
  · subst h
    rw [xup_same, xup_same]
  · rw [xup_ne h, xup_ne h, xup_ne h]
section T5
variable {E : xEn} {z : Nat → Option va_E} {x y n m : Nat} {sh : Nat → Option xSh} {S M : xSt} {Bd : Nat}
end T5
