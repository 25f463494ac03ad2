/-! TEXTS: kinds of bytes, where tokens begin and end, words and numbers. -/
def kd (c : Nat) : Nat := if c = 32 then 0 else if 48 ≤ c ∧ c ≤ 57 then 1 else if 97 ≤ c ∧ c ≤ 122 then 2 else 3
/-- from p on, past what is of kind k, at most m bytes -/
def ru (tx : Nat → Nat) (L k : Nat) : Nat → Nat → Nat
  | 0, p => p
  | m + 1, p => if p < L ∧ kd (tx p) = k then ru tx L k m (p + 1) else p
def nx (tx : Nat → Nat) (L p : Nat) : Nat := ru tx L 0 500 p
def en (tx : Nat → Nat) (L p : Nat) : Nat := if kd (tx p) = 3 then p + 1 else ru tx L (kd (tx p)) 500 p
/-- the class's number, and the reference's -/
def nC (tx : Nat → Nat) : Nat → Nat → Nat → Nat
  | 0, _, v => v
  | m + 1, p, v => nC tx m (p + 1) (if 10000 < v * 10 + (tx p - 48) then 10000 else v * 10 + (tx p - 48))
def nM (tx : Nat → Nat) : Nat → Nat → Nat → Nat
  | 0, _, v => v
  | m + 1, p, v => nM tx m (p + 1) (if v ≤ 100000 then 10 * v + tx p - 48 else v)
theorem nCM {tx : Nat → Nat} : ∀ m p v v', (∀ j, j < m → 48 ≤ tx (p + j) ∧ tx (p + j) ≤ 57) → v ≤ 10000 → v' ≤ 1000009 → (v < 10000 → v' = v) → (v = 10000 → 10000 ≤ v') →
    nC tx m p v ≤ 10000 ∧ nM tx m p v' ≤ 1000009 ∧ (nC tx m p v < 10000 → nM tx m p v' = nC tx m p v) ∧ (nC tx m p v = 10000 → 10000 ≤ nM tx m p v') := by
  intro m
  induction m with
  | zero => exact fun p v v' _ h1 h2 h3 h4 => ⟨h1, h2, h3, h4⟩
  | succ m ih =>
    intro p v v' hd h1 h2 h3 h4
    have hp := hd 0 (by omega)
    rw [Nat.add_zero] at hp
    refine ih (p + 1) _ _ (fun j hj => ?_) ?_ ?_ ?_ ?_
    · have := hd (j + 1) (by omega)
      rw [show p + 1 + j = p + (j + 1) by omega]
      exact this
    · split <;> omega
    · split <;> omega
    · intro h
      by_cases c : 10000 < v * 10 + (tx p - 48)
      · rw [if_pos c] at h
        omega
      · rw [if_neg c] at h ⊢
        have := h3 (by omega)
        rw [if_pos (by omega)]
        omega
    · intro h
      by_cases c : v < 10000
      · have := h3 c
        rw [if_pos (by omega)]
        split at h <;> omega
      · have := h4 (by omega)
        split <;> omega
theorem ru_le {tx : Nat → Nat} {L k : Nat} : ∀ m p, p ≤ L → ru tx L k m p ≤ L := by
  intro m
  induction m with
  | zero => exact fun _ h => h
  | succ m ih =>
    intro p h
    unfold ru
    split
    · exact ih _ (by omega)
    · exact h
theorem ru_ge {tx : Nat → Nat} {L k : Nat} : ∀ m p, p ≤ ru tx L k m p := by
  intro m
  induction m with
  | zero => exact fun _ => Nat.le_refl _
  | succ m ih =>
    intro p
    unfold ru
    split
    · have := ih (p + 1)
      omega
    · exact Nat.le_refl _
theorem ru_fix {tx : Nat → Nat} {L k m p : Nat} (h : ¬ (p < L ∧ kd (tx p) = k)) : ru tx L k m p = p := by
  cases m with
  | zero => rfl
  | succ m => unfold ru; rw [if_neg h]
theorem ru_stop {tx : Nat → Nat} {L k : Nat} : ∀ m p, L ≤ p + m → ¬ (ru tx L k m p < L ∧ kd (tx (ru tx L k m p)) = k) := by
  intro m
  induction m with
  | zero => intro p h z; have : p < L := z.1; omega
  | succ m ih =>
    intro p h
    unfold ru
    split
    · exact ih _ (by omega)
    · next c => exact c
theorem ru_in {tx : Nat → Nat} {L k : Nat} : ∀ m p q, p ≤ q → q < ru tx L k m p → q < L ∧ kd (tx q) = k := by
  intro m
  induction m with
  | zero => intro p q h1 h2; have : q < p := h2; omega
  | succ m ih =>
    intro p q h1 h2
    unfold ru at h2
    split at h2
    · next c =>
      by_cases e : p = q
      · rw [← e]; exact c
      · exact ih _ _ (by omega) h2
    · omega
theorem ru_more {tx : Nat → Nat} {L k : Nat} : ∀ m m' p, L ≤ p + m → L ≤ p + m' → ru tx L k m p = ru tx L k m' p := by
  intro m
  induction m with
  | zero =>
    intro m' p h _
    rw [ru_fix (m := m') (fun z => by omega)]
    rfl
  | succ m ih =>
    intro m' p h h'
    by_cases c : p < L ∧ kd (tx p) = k
    · cases m' with
      | zero => omega
      | succ m' =>
        unfold ru
        rw [if_pos c, if_pos c]
        exact ih m' _ (by omega) (by omega)
    · rw [ru_fix c, ru_fix c]
section TX
variable {tx : Nat → Nat} {L : Nat}
theorem ru_step {k p : Nat} (hL : L ≤ 500) (h : p < L ∧ kd (tx p) = k) : ru tx L k 500 p = ru tx L k 500 (p + 1) := by
  rw [ru_more 500 501 p (by omega) (by omega)]
  conv => lhs; unfold ru
  rw [if_pos h]
theorem nx_nx (hL : L ≤ 500) (p : Nat) : nx tx L (nx tx L p) = nx tx L p := ru_fix (ru_stop 500 p (by omega))
theorem nx_le {p : Nat} (h : p ≤ L) : nx tx L p ≤ L := ru_le 500 p h
theorem nx_ge (p : Nat) : p ≤ nx tx L p := ru_ge 500 p
theorem en_gt {p : Nat} (hL : L ≤ 500) (h : p < L) : p < en tx L p := by
  unfold en
  split
  · omega
  · rw [ru_step hL ⟨h, rfl⟩]
    exact ru_ge 500 (p + 1)
theorem en_le {p : Nat} (h : p < L) : en tx L p ≤ L := by
  unfold en
  split
  · omega
  · exact ru_le 500 p (by omega)
/-- the next token's beginning -/
def ad (tx : Nat → Nat) (L p : Nat) : Nat := if p < L then nx tx L (en tx L p) else p
theorem ad_gt {p : Nat} (hL : L ≤ 500) (h : p < L) : p < ad tx L p := by
  unfold ad
  rw [if_pos h]
  have := en_gt (tx := tx) hL h
  have := nx_ge (tx := tx) (L := L) (en tx L p)
  omega
theorem ad_le {p : Nat} (h : p ≤ L) : ad tx L p ≤ L := by
  unfold ad
  split
  · next c => exact nx_le (en_le c)
  · exact h
theorem ad_nx {p : Nat} (hL : L ≤ 500) (hp : nx tx L p = p) : nx tx L (ad tx L p) = ad tx L p := by
  unfold ad
  split
  · exact nx_nx hL _
  · exact hp
end TX
/-- the byte as the class has it -/
def sx (c : Nat) : Int32 := if c < 128 then nI c else jI ((c : Int) - 256)
theorem sx_T {c : Nat} (h : c < 256) : (sx c).toInt = if c < 128 then (c : Int) else (c : Int) - 256 := by
  unfold sx
  split
  · exact nI_toInt (by omega)
  · exact jI_T (by omega) (by omega)
theorem sx_eq {c v : Nat} (h : c < 256) (hv : v < 128) : sx c = nI v ↔ c = v := by
  rw [← Int32.toInt_inj, sx_T h, nI_toInt (by omega)]
  split <;> omega
theorem sx_lt {c v : Nat} (h : c < 256) (hv : v < 128) : sx c < nI v ↔ (c < v ∨ 128 ≤ c) := by
  rw [Int32.lt_iff_toInt_lt, sx_T h, nI_toInt (by omega)]
  split <;> omega
theorem sx_gt {c v : Nat} (h : c < 256) (hv : v < 128) : nI v < sx c ↔ (v < c ∧ c < 128) := by
  rw [Int32.lt_iff_toInt_lt, sx_T h, nI_toInt (by omega)]
  split <;> omega
/-- does a literal's text lie at p? -/
def sp (tx : Nat → Nat) (p : Nat) : List Int32 → Prop
  | [] => True
  | c :: cs => sx (tx p) = c ∧ sp tx (p + 1) cs
theorem sp_at {tx : Nat → Nat} : ∀ (l : List Int32) (p : Nat), sp tx p l ↔ ∀ i, i < l.length → sx (tx (p + i)) = l.getD i 0 := by
  intro l
  induction l with
  | nil => exact fun p => ⟨fun _ i hi => absurd hi (Nat.not_lt_zero i), fun _ => trivial⟩
  | cons c cs ih =>
    intro p
    show (sx (tx p) = c ∧ sp tx (p + 1) cs) ↔ _
    rw [ih (p + 1)]
    constructor
    · rintro ⟨h1, h2⟩ i hi
      cases i with
      | zero => exact h1
      | succ i =>
        have := h2 i (by simpa using hi)
        rw [show p + (i + 1) = p + 1 + i by omega]
        simpa using this
    · intro h
      refine ⟨h 0 (by simp), fun i hi => ?_⟩
      have := h (i + 1) (by simpa using hi)
      rw [show p + (i + 1) = p + 1 + i by omega] at this
      simpa using this
/-- the word or sign that lies from p to e is the text of token i -/
def isW (tx : Nat → Nat) (p e i : Nat) : Prop := (xtx (xtt i)).length = e - p ∧ sp tx p (xtx (xtt i))
noncomputable def isWb (tx : Nat → Nat) (p e i : Nat) : Bool := @decide (isW tx p e i) (Classical.propDecidable _)
noncomputable def fdW (tx : Nat → Nat) (p e : Nat) : Nat → Nat → Nat
  | 0, _ => 2
  | m + 1, i => bif isWb tx p e i then i else fdW tx p e m (i + 1)
noncomputable def tk (tx : Nat → Nat) (L p : Nat) : Nat := if p < L then (if kd (tx p) = 1 then 1 else fdW tx p (en tx L p) 29 0) else 0
def nu (tx : Nat → Nat) (L p : Nat) : Nat := if p < L then (if kd (tx p) = 1 then nC tx (en tx L p - p) p 0 else 0) else 0
