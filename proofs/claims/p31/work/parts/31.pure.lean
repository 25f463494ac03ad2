/-! SUMS OVER PAIRS OF LIKE SHELLS. -/
def iS (F : Nat → Int) : Nat → Int
  | 0 => 0
  | i + 1 => iS F i + F i
theorem iS_congr {F G : Nat → Int} : ∀ m, (∀ i, i < m → F i = G i) → iS F m = iS G m := by
  intro m
  induction m with
  | zero => exact fun _ => rfl
  | succ m ih =>
    intro h
    unfold iS
    rw [ih (fun i hi => h i (Nat.lt_succ_of_lt hi)), h m (Nat.lt_succ_self m)]
theorem iS_add (F G : Nat → Int) : ∀ m, iS (fun i => F i + G i) m = iS F m + iS G m := by
  intro m
  induction m with
  | zero => rfl
  | succ m ih =>
    unfold iS
    rw [ih]
    omega
theorem iS_zero : ∀ m, iS (fun _ => 0) m = 0 := by
  intro m
  induction m with
  | zero => rfl
  | succ m ih =>
    unfold iS
    rw [ih]
    rfl
theorem iS_mul (F : Nat → Int) (c : Int) : ∀ m, iS (fun i => F i * c) m = iS F m * c := by
  intro m
  induction m with
  | zero => exact (Int.zero_mul c).symm
  | succ m ih =>
    unfold iS
    rw [ih, Int.add_mul]
theorem iS_one (p : Nat) (H : Nat → Int) : ∀ m, iS (fun i => if p = i then H i else 0) m = if p < m then H p else 0 := by
  intro m
  induction m with
  | zero => rw [if_neg (Nat.not_lt_zero p)]; rfl
  | succ m ih =>
    unfold iS
    rw [ih]
    by_cases e : p = m
    · subst e
      rw [if_neg (Nat.lt_irrefl _), if_pos rfl, if_pos (Nat.lt_succ_self _), Int.zero_add]
    · rw [if_neg e, Int.add_zero]
      by_cases l : p < m
      · rw [if_pos l, if_pos (by omega)]
      · rw [if_neg l, if_neg (by omega)]
def wC (r : Nat → Nat) : Nat → Nat
  | 0 => 0
  | i + 1 => if r i = 1 then wC r i + 1 else wC r i
def wS (r f : Nat → Nat) : Nat → Nat
  | 0 => 0
  | i + 1 => if r i = 1 then wS r f i + f i else wS r f i
def tri : Nat → Nat
  | 0 => 0
  | k + 1 => tri k + k
theorem wC_s (r : Nat → Nat) (m : Nat) : wC r (m + 1) = if r m = 1 then wC r m + 1 else wC r m := rfl
theorem wS_s (r f : Nat → Nat) (m : Nat) : wS r f (m + 1) = if r m = 1 then wS r f m + f m else wS r f m := rfl
theorem mSum_s (f : Nat → Nat) (m : Nat) : mSum f (m + 1) = mSum f m + f m := rfl
theorem wC_le (r : Nat → Nat) : ∀ m, wC r m ≤ m := by
  intro m
  induction m with
  | zero => exact Nat.le_refl _
  | succ m ih =>
    unfold wC
    split <;> omega
theorem wS_le (r f : Nat → Nat) : ∀ m, wS r f m ≤ mSum f m := by
  intro m
  induction m with
  | zero => exact Nat.le_refl _
  | succ m ih =>
    unfold wS mSum
    split <;> omega
theorem tri_ge : ∀ k, k - 1 ≤ tri k := by
  intro k
  induction k with
  | zero => exact Nat.le_refl _
  | succ k ih =>
    unfold tri
    omega
theorem wC_in {r : Nat → Nat} {p : Nat} : ∀ m, p < m → (r p = 1 → 1 ≤ wC r m) ∧ (r p ≠ 1 → 1 ≤ m - wC r m) := by
  intro m
  induction m with
  | zero => exact fun h => absurd h (Nat.not_lt_zero _)
  | succ m ih =>
    intro h
    have := wC_le r m
    unfold wC
    by_cases e : p = m
    · subst e
      constructor
      · intro h1; rw [if_pos h1]; omega
      · intro h1; rw [if_neg h1]; omega
    · have ih := ih (by omega)
      constructor
      · intro h1; have := ih.1 h1; split <;> omega
      · intro h1; have := ih.2 h1; split <;> omega
theorem wS_in {r f : Nat → Nat} {p : Nat} : ∀ m, p < m → (r p = 1 → f p ≤ wS r f m) ∧ (r p ≠ 1 → f p ≤ mSum f m - wS r f m) := by
  intro m
  induction m with
  | zero => exact fun h => absurd h (Nat.not_lt_zero _)
  | succ m ih =>
    intro h
    have := wS_le r f m
    unfold wS mSum
    by_cases e : p = m
    · subst e
      constructor
      · intro h1; rw [if_pos h1]; omega
      · intro h1; rw [if_neg h1]; omega
    · have ih := ih (by omega)
      constructor
      · intro h1; have := ih.1 h1; split <;> omega
      · intro h1; have := ih.2 h1; split <;> omega
def wK (r : Nat → Nat) (p m : Nat) : Nat := if r p = 1 then wC r m else m - wC r m
def wL (r f : Nat → Nat) (p m : Nat) : Nat := if r p = 1 then wS r f m else mSum f m - wS r f m
theorem like_sum {r f : Nat → Nat} {p : Nat} (hp : r p ≤ 1) : ∀ m, (∀ q, q < m → r q ≤ 1) → iS (fun q => if r q = r p then (f q : Int) - (f p : Int) else 0) m = (wL r f p m : Int) - (wK r p m : Int) * (f p : Int) := by
  intro m
  induction m with
  | zero =>
    intro _
    show (0 : Int) = _
    have h1 : wL r f p 0 = 0 := by unfold wL wS mSum; split <;> rfl
    have h2 : wK r p 0 = 0 := by unfold wK wC; split <;> rfl
    rw [h1, h2]
    simp
  | succ m ih =>
    intro h
    have hm := h m (Nat.lt_succ_self m)
    have h1 := wC_le r m
    have h2 := wS_le r f m
    unfold iS
    rw [ih (fun q hq => h q (Nat.lt_succ_of_lt hq))]
    have hL : wL r f p (m + 1) = wL r f p m + if r m = r p then f m else 0 := by
      simp only [wL, wS_s, mSum_s]
      by_cases e1 : r p = 1
      · by_cases e2 : r m = 1
        · simp [e1, e2]
        · simp [e1, e2]
      · have e1' : r p = 0 := by omega
        by_cases e2 : r m = 1
        · simp [e1', e2] <;> omega
        · have e2' : r m = 0 := by omega
          simp [e1', e2'] <;> omega
    have hK : wK r p (m + 1) = wK r p m + if r m = r p then 1 else 0 := by
      simp only [wK, wC_s]
      by_cases e1 : r p = 1
      · by_cases e2 : r m = 1
        · simp [e1, e2]
        · simp [e1, e2]
      · have e1' : r p = 0 := by omega
        by_cases e2 : r m = 1
        · simp [e1', e2] <;> omega
        · have e2' : r m = 0 := by omega
          simp [e1', e2'] <;> omega
    rw [hL, hK]
    by_cases e : r m = r p
    · simp only [if_pos e, Int.natCast_add, Int.add_mul]
      omega
    · simp only [if_neg e, Nat.add_zero, Int.add_zero]
def pA (r : Nat → Nat) (i j : Nat) : Int := if i < j ∧ r i = r j then 1 else 0
def pD (r f : Nat → Nat) (i j p : Nat) : Int := if i < j ∧ r i = r j then (f p : Int) + (if p = i then (f j : Int) - f i else 0) + (if p = j then (f i : Int) - f j else 0) else 0
theorem pA_row {r : Nat → Nat} {m : Nat} (hm : r m ≤ 1) : ∀ k, k ≤ m → (∀ q, q < k → r q ≤ 1) → iS (fun i => pA r i m) k = (wK r m k : Int) := by
  intro k
  induction k with
  | zero =>
    intro _ _
    unfold wK wC iS
    split <;> rfl
  | succ k ih =>
    intro hk h
    have h1 := wC_le r k
    have h2 := h k (Nat.lt_succ_self k)
    unfold iS
    rw [ih (by omega) (fun q hq => h q (Nat.lt_succ_of_lt hq))]
    simp only [pA, wK, wC_s]
    by_cases e1 : r m = 1
    · by_cases e2 : r k = 1
      · simp [e1, e2, show k < m by omega]
      · simp [e1, e2]
    · have e1' : r m = 0 := by omega
      by_cases e2 : r k = 1
      · simp [e1', e2] <;> omega
      · have e2' : r k = 0 := by omega
        simp [e1', e2', show k < m by omega] <;> omega
theorem pA_sum {r : Nat → Nat} : ∀ m, (∀ q, q < m → r q ≤ 1) → iS (fun i => iS (fun j => pA r i j) m) m = ((tri (wC r m) + tri (m - wC r m) : Nat) : Int) := by
  intro m
  induction m with
  | zero => exact fun _ => rfl
  | succ m ih =>
    intro h
    have hm := h m (Nat.lt_succ_self m)
    have h1 := wC_le r m
    have hr : iS (fun j => pA r m j) (m + 1) = 0 := by
      exact (iS_congr (F := fun j => pA r m j) (G := fun _ => 0) (m + 1) (fun i hi => if_neg (fun z => by omega))).trans (iS_zero _)
    have hs : iS (fun i => iS (fun j => pA r i j) (m + 1)) m = iS (fun i => iS (fun j => pA r i j) m) m + iS (fun i => pA r i m) m := by
      rw [← iS_add]
      rfl
    have h0 : iS (fun i => iS (fun j => pA r i j) (m + 1)) (m + 1) = iS (fun i => iS (fun j => pA r i j) (m + 1)) m + iS (fun j => pA r m j) (m + 1) := rfl
    rw [h0, hr, hs, ih (fun q hq => h q (Nat.lt_succ_of_lt hq)), pA_row hm m (Nat.le_refl _) (fun q hq => h q (Nat.lt_succ_of_lt hq))]
    unfold wK
    by_cases e : r m = 1
    · rw [if_pos e, show wC r (m + 1) = wC r m + 1 from if_pos e, show m + 1 - (wC r m + 1) = m - wC r m by omega, show tri (wC r m + 1) = tri (wC r m) + wC r m from rfl]
      omega
    · rw [if_neg e, show wC r (m + 1) = wC r m from if_neg e, show m + 1 - wC r m = (m - wC r m) + 1 by omega, show tri ((m - wC r m) + 1) = tri (m - wC r m) + (m - wC r m) from rfl]
      omega
theorem pD_sum {r f : Nat → Nat} {n p : Nat} (hr : ∀ q, q < n → r q ≤ 1) : iS (fun i => iS (fun j => pD r f i j p) n) n = (f p : Int) * ((tri (wC r n) + tri (n - wC r n) : Nat) : Int) + if p < n then (wL r f p n : Int) - (wK r p n : Int) * (f p : Int) else 0 := by
  have h1 : ∀ i j, pD r f i j p = (pA r i j * (f p : Int) + (if p = i then (if i < j ∧ r i = r j then (f j : Int) - f i else 0) else 0)) + (if p = j then (if i < j ∧ r i = r j then (f i : Int) - f j else 0) else 0) := by
    intro i j
    unfold pD pA
    by_cases c : i < j ∧ r i = r j
    · simp only [if_pos c, Int.one_mul]
    · simp only [if_neg c, Int.zero_mul, ite_self, Int.add_zero]
  have h2 : ∀ i, iS (fun j => pD r f i j p) n = (iS (fun j => pA r i j) n * (f p : Int) + (if p = i then iS (fun j => if i < j ∧ r i = r j then (f j : Int) - f i else 0) n else 0)) + (if p < n then (if i < p ∧ r i = r p then (f i : Int) - f p else 0) else 0) := by
    intro i
    rw [show (fun j => pD r f i j p) = _ from funext (h1 i), iS_add, iS_add, iS_mul, iS_one]
    congr 2
    by_cases e : p = i
    · simp only [if_pos e]
    · simp only [if_neg e]
      exact iS_zero n
  rw [show (fun i => iS (fun j => pD r f i j p) n) = _ from funext h2, iS_add, iS_add, iS_mul, iS_one, pA_sum n hr]
  by_cases l : p < n
  · simp only [if_pos l]
    rw [← like_sum (hr p l) n hr]
    have h3 : iS (fun q => if r q = r p then (f q : Int) - f p else 0) n = iS (fun q => (if p < q ∧ r p = r q then (f q : Int) - f p else 0) + (if q < p ∧ r q = r p then (f q : Int) - f p else 0)) n := by
      refine iS_congr n (fun q _ => ?_)
      by_cases e : r q = r p
      · rcases Nat.lt_trichotomy p q with c | c | c
        · rw [if_pos e, if_pos ⟨c, e.symm⟩, if_neg (fun z => by omega), Int.add_zero]
        · subst c
          rw [if_pos rfl, if_neg (fun z => by omega)]
          omega
        · rw [if_pos e, if_neg (fun z => by omega), if_pos ⟨c, e⟩, Int.zero_add]
      · rw [if_neg e, if_neg (fun z => e z.2.symm), if_neg (fun z => e z.2)]
        rfl
    rw [h3, iS_add, Int.mul_comm]
    omega
  · simp only [if_neg l]
    rw [iS_zero, Int.mul_comm]
    omega
/-- the beliefs behind a blink at which nothing is betrayed -/
def wSw (r : Nat → Nat) (n : Nat) : Nat := tri (wC r n) + tri (n - wC r n)
def gWon (n : Nat) (r f : Nat → Nat) (c s : Nat) : Nat → Nat := fun p =>
  if p < n then f p * (wSw r n - (wK r p n - 1) + c + s * (n - 1) + s * n) + (wL r f p n - f p) + f n * s
  else f n * (wSw r n + c + s * n) + mSum f n * s
theorem wK_in {r : Nat → Nat} {n p : Nat} (hp : p < n) : 1 ≤ wK r p n ∧ wK r p n - 1 ≤ wSw r n ∧ wK r p n ≤ n := by
  have h := wC_in (r := r) n hp
  have h1 := tri_ge (wC r n)
  have h2 := tri_ge (n - wC r n)
  have h3 := wC_le r n
  unfold wK wSw
  split
  · next e => have := h.1 e; omega
  · next e => have := h.2 e; omega
theorem wL_in {r f : Nat → Nat} {n p : Nat} (hp : p < n) : f p ≤ wL r f p n ∧ wL r f p n ≤ mSum f n := by
  have h := wS_in (r := r) (f := f) n hp
  have h3 := wS_le r f n
  unfold wL
  split
  · next e => have := h.1 e; omega
  · next e => have := h.2 e; omega
theorem gWon_in {n p : Nat} {r f : Nat → Nat} {c s : Nat} (hp : p < n) : (gWon n r f c s p : Int) = (f p : Int) * (wSw r n : Int) + ((wL r f p n : Int) - (wK r p n : Int) * (f p : Int)) + (c : Int) * f p + (n : Int) * (2 * (s : Int) * f p) + (s : Int) * ((f n : Int) - f p) := by
  obtain ⟨h1, h2, h3⟩ := wK_in (r := r) hp
  obtain ⟨h4, h5⟩ := wL_in (r := r) (f := f) hp
  unfold gWon
  rw [if_pos hp]
  obtain ⟨a, ha⟩ : ∃ a, wSw r n = a + (wK r p n - 1) := ⟨wSw r n - (wK r p n - 1), by omega⟩
  obtain ⟨b, hb⟩ : ∃ b, wK r p n = b + 1 := ⟨wK r p n - 1, by omega⟩
  obtain ⟨m, hm⟩ : ∃ m, n = m + 1 := ⟨n - 1, by omega⟩
  obtain ⟨e, he⟩ : ∃ e, wL r f p n = e + f p := ⟨wL r f p n - f p, by omega⟩
  rw [ha, he, hb, hm, Nat.add_sub_cancel, Nat.add_sub_cancel, Nat.add_sub_cancel, Nat.add_sub_cancel]
  push_cast
  grind
theorem gWon_out {n : Nat} {r f : Nat → Nat} {c s : Nat} : (gWon n r f c s n : Int) = (f n : Int) * (wSw r n : Int) + (c : Int) * f n + (n : Int) * (2 * (s : Int) * f n) + (s : Int) * ((mSum f n : Int) - (n : Int) * f n) := by
  unfold gWon
  rw [if_neg (Nat.lt_irrefl n)]
  push_cast
  grind
