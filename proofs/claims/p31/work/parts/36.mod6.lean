/-! THE REFERENCE: a look; what it tells of its row. -/
def gTold (g : Nat → Nat) (k : Nat) : Nat := if k = 0 then g 0 else if k = 1 then g 2 else if k = 2 then g 1 else if k = 3 then g 3 else if k = 4 then g 4 else if k = 5 then g 5 else if k = 6 then g 6 else if k = 7 then g 7 else if k = 8 then g 8 else if k = 9 then g 9 else if k = 10 then mSum (gF g) (g 0 + 1) else if k = 11 then mCnt (gF g) (g 0 + 1) else g 10
def gShell (g : Nat → Nat) (p k : Nat) : Nat := if k = 0 then g (12 + p) else if k = 1 then rg g p else if k = 2 then g (20 + g (12 + p)) else if g 1 = p then 1 else 0
theorem isIn_t {p m : Nat} (hp : p ≤ m) (hm : m < 2 ^ 31) : (if nI 0 ≤ nI p ∧ nI p ≤ nI m then 1 else 0) = 1 := if_pos ⟨nI_le (Nat.zero_le _) (by omega), nI_le hp hm⟩
theorem isIn_f {a : Int32} {m : Nat} (h : a < 0 ∨ nI (m + 1) ≤ a) (hm : m + 1 < 2 ^ 31) : (if nI 0 ≤ a ∧ a ≤ nI m then 1 else 0) = 0 := by
  refine if_neg (fun z => ?_)
  rcases h with h | h
  · exact Int32.not_le.2 h z.1
  · exact nI_ge (Nat.lt_succ_self m) hm (Int32.le_trans h z.2)
section M6
variable {E : xEn} {z : Nat → Option va_E} {x n w : Nat} {S : xSt} {g : Nat → Nat} {T : Nat → Int64}
def gCanS (p : Nat) (g : Nat → Nat) : Bool := gBl g && (Nat.blt 0 (g 6) && Nat.beq (g 1) p)
theorem beq_iff' {a b : Nat} : Nat.beq a b = decide (a = b) := by
  by_cases h : a = b
  · rw [h, Nat.beq_refl, decide_eq_true rfl]
  · rw [decide_eq_false h]
    exact Bool.eq_false_iff.2 (fun z => h (Nat.eq_of_beq_eq_true z))
theorem blt_iff' {a b : Nat} : Nat.blt a b = decide (a < b) := by
  by_cases h : a < b
  · rw [decide_eq_true h]; exact Nat.blt_eq.mpr h
  · rw [decide_eq_false h]
    exact Bool.eq_false_iff.2 (fun z => h (Nat.blt_eq.mp z))
-- a look
def gRl (p : Nat) (g : Nat → Nat) : Nat → Nat := if g 1 = p then mOne p else updN (gF g) p 0
theorem gRl_le {p : Nat} {g : Nat → Nat} (hB : ∀ p, p ≤ 8 → g (36 + p) ≤ 1000000) : ∀ q, q ≤ 8 → gRl p g q ≤ 1000000 := by
  intro q hq
  have := hB q hq
  unfold gRl mOne updN gF
  split
  · dsimp only
    split <;> omega
  · dsimp only
    split <;> omega
theorem mGcd_pos {f : Nat → Nat} {p i : Nat} (hp : p < i) (h : 0 < f p) : 0 < mGcd f i := Nat.pos_of_ne_zero (fun z => by have := mGcd_zero z hp; omega)
theorem gRl_pos {p : Nat} {g : Nat → Nat} (H : iG g) (hp : p < g 0) : ∃ q, q < g 0 + 1 ∧ 0 < gRl p g q := by
  obtain ⟨⟨_, h8, h1, _⟩, _, _, _, _, hB, h0⟩ := H
  unfold gRl mOne
  by_cases e : g 1 = p
  · exact ⟨p, by omega, by rw [if_pos e, updN_s]; omega⟩
  · exact ⟨g 1, by omega, by rw [if_neg e, updN_n e]; exact h0⟩
end M6
