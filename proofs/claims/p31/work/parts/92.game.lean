/-! THE GAME THAT THE TEXT TELLS. -/
theorem sts_app {l l' : List (Nat × Nat)} : ∀ {g : Nat → Nat}, sts g (l ++ l') = sts (sts g l) l' := by
  induction l with
  | nil => intro g; rfl
  | cons s l ih => intro g; exact ih (g := stp g s)
theorem stOk_app {l l' : List (Nat × Nat)} : ∀ {g : Nat → Nat} {sb : Nat}, stOk g sb l → (∀ sb', stOk (sts g l) sb' l') → stOk g sb (l ++ l') := by
  induction l with
  | nil => intro g sb _ h; exact h sb
  | cons s l ih => intro g sb k h; exact ⟨k.1, ih k.2 h⟩
theorem ss_o {rr : Nat} : ∀ r p (g : Nat → Nat) (i : Nat), p + r ≤ 8 → (i < 28 ∨ 36 ≤ i) → sts g (ssL rr p r) i = g i := by
  intro r
  induction r with
  | zero => exact fun _ _ _ _ _ => rfl
  | succ r ih =>
    intro p g i hp hi
    by_cases e : bbit rr p = 1
    · rw [show ssL rr p (r + 1) = (15, p) :: ssL rr (p + 1) r from if_pos e]
      exact (ih (p + 1) _ i (by omega) hi).trans (updN_n (show i ≠ 28 + p by omega))
    · rw [show ssL rr p (r + 1) = ssL rr (p + 1) r from if_neg e]
      exact ih (p + 1) g i (by omega) hi
theorem ss_b {rr : Nat} : ∀ r p (g : Nat → Nat) (q : Nat), p + r ≤ 8 → sts g (ssL rr p r) (28 + q) = if p ≤ q ∧ q < p + r ∧ bbit rr q = 1 then 1 else g (28 + q) := by
  intro r
  induction r with
  | zero =>
    intro p g q _
    exact (if_neg (by omega)).symm
  | succ r ih =>
    intro p g q hp
    by_cases e : bbit rr p = 1
    · rw [show ssL rr p (r + 1) = (15, p) :: ssL rr (p + 1) r from if_pos e]
      refine (ih (p + 1) _ q (by omega)).trans ?_
      by_cases c : q = p
      · subst c
        rw [if_neg (by omega), if_pos ⟨Nat.le_refl _, by omega, e⟩]
        exact updN_s
      · rw [show stp g (15, p) (28 + q) = g (28 + q) from updN_n (by omega)]
        by_cases c2 : p + 1 ≤ q ∧ q < p + 1 + r ∧ bbit rr q = 1
        · rw [if_pos c2, if_pos ⟨by omega, by omega, c2.2.2⟩]
        · rw [if_neg c2, if_neg (fun z => c2 ⟨by omega, by omega, z.2.2⟩)]
    · rw [show ssL rr p (r + 1) = ssL rr (p + 1) r from if_neg e]
      rw [ih (p + 1) g q (by omega)]
      by_cases c2 : p + 1 ≤ q ∧ q < p + 1 + r ∧ bbit rr q = 1
      · rw [if_pos c2, if_pos ⟨by omega, by omega, c2.2.2⟩]
      · rw [if_neg c2, if_neg (fun z => c2 ⟨by
          by_cases c : q = p
          · subst c; exact absurd z.2.2 e
          · omega, by omega, z.2.2⟩)]
theorem ss_ok {rr : Nat} : ∀ r p (g : Nat → Nat) (sb : Nat), p + r ≤ g 0 → g 0 ≤ 8 → (∀ q, p ≤ q → q < 8 → g (28 + q) = 0) → stOk g sb (ssL rr p r) := by
  intro r
  induction r with
  | zero => exact fun _ _ _ _ _ _ => trivial
  | succ r ih =>
    intro p g sb hp h8 h0
    by_cases e : bbit rr p = 1
    · rw [show ssL rr p (r + 1) = (15, p) :: ssL rr (p + 1) r from if_pos e]
      refine ⟨⟨by show p < 100; omega, Or.inl ⟨rfl, by show p < g 0; omega, h0 p (Nat.le_refl _) (by omega)⟩⟩, ih (p + 1) _ _ ?_ ?_ (fun q hq hq8 => ?_)⟩
      · rw [show stp g (15, p) 0 = g 0 from updN_n (by omega)]; omega
      · rw [show stp g (15, p) 0 = g 0 from updN_n (by omega)]; omega
      · rw [show stp g (15, p) (28 + q) = g (28 + q) from updN_n (by omega)]
        exact h0 q (by omega) hq8
    · rw [show ssL rr p (r + 1) = ssL rr (p + 1) r from if_neg e]
      exact ih (p + 1) g sb (by omega) h8 (fun q hq => h0 q (by omega))
theorem gBk_o {g : Nat → Nat} {v i : Nat} (hi : i < 45 ∨ 61 ≤ i) (h : i ≠ 10) (h10 : g 10 < 8) : gBk g v v i = g i := by
  unfold gBk
  rw [updN_n h, updN_n (by omega), updN_n (by omega)]
theorem gBk_10 {g : Nat → Nat} {v : Nat} : gBk g v v 10 = g 10 + 1 := updN_s
theorem gHas_s {g : Nat → Nat} {st : Int32} : ∀ k i, gHas g st (k + 1) i = (gHas g st k i || decide (nI (g (45 + 2 * (i + k))) ≤ st ∧ st ≤ nI (g (45 + 2 * (i + k) + 1)))) := by
  intro k
  induction k with
  | zero =>
    intro i
    show (if nI (g (45 + 2 * i)) ≤ st ∧ st ≤ nI (g (45 + 2 * i + 1)) then true else false) = (false || decide (nI (g (45 + 2 * i)) ≤ st ∧ st ≤ nI (g (45 + 2 * i + 1))))
    by_cases c : nI (g (45 + 2 * i)) ≤ st ∧ st ≤ nI (g (45 + 2 * i + 1))
    · rw [if_pos c, decide_eq_true c]; rfl
    · rw [if_neg c, decide_eq_false c]; rfl
  | succ k ih =>
    intro i
    show (if nI (g (45 + 2 * i)) ≤ st ∧ st ≤ nI (g (45 + 2 * i + 1)) then true else gHas g st (k + 1) (i + 1)) = ((if nI (g (45 + 2 * i)) ≤ st ∧ st ≤ nI (g (45 + 2 * i + 1)) then true else gHas g st k (i + 1)) || decide (nI (g (45 + 2 * (i + (k + 1)))) ≤ st ∧ st ≤ nI (g (45 + 2 * (i + (k + 1)) + 1))))
    by_cases c : nI (g (45 + 2 * i)) ≤ st ∧ st ≤ nI (g (45 + 2 * i + 1))
    · rw [if_pos c, if_pos c]; rfl
    · rw [if_neg c, if_neg c, ih (i + 1), show i + 1 + k = i + (k + 1) by omega]
theorem gHas_cg {g g' : Nat → Nat} {st : Int32} : ∀ k i, (∀ j, i ≤ j → j < i + k → g' (45 + 2 * j) = g (45 + 2 * j) ∧ g' (45 + 2 * j + 1) = g (45 + 2 * j + 1)) → gHas g' st k i = gHas g st k i := by
  intro k
  induction k with
  | zero => exact fun _ _ => rfl
  | succ k ih =>
    intro i h
    obtain ⟨h1, h2⟩ := h i (Nat.le_refl _) (by omega)
    show (if nI (g' (45 + 2 * i)) ≤ st ∧ st ≤ nI (g' (45 + 2 * i + 1)) then true else gHas g' st k (i + 1)) = (if nI (g (45 + 2 * i)) ≤ st ∧ st ≤ nI (g (45 + 2 * i + 1)) then true else gHas g st k (i + 1))
    rw [h1, h2, ih (i + 1) (fun j a b => h j (by omega) (by omega))]
theorem gBk_has {g : Nat → Nat} {v k : Nat} (hv : v < 100) (hk : k < 100) (h10 : g 10 < 8) : gHas (gBk g v v) (nI k) (gBk g v v 10) 0 = (gHas g (nI k) (g 10) 0 || decide (k = v)) := by
  rw [gBk_10, gHas_s, Nat.zero_add]
  have e1 : gBk g v v (45 + 2 * g 10) = v := by
    unfold gBk
    rw [updN_n (by omega), updN_n (by omega), updN_s]
  have e2 : gBk g v v (45 + 2 * g 10 + 1) = v := by
    unfold gBk
    rw [updN_n (by omega), updN_s]
  rw [e1, e2, gHas_cg (g := g) (g 10) 0 (fun j _ hj => by
    unfold gBk
    rw [updN_n (by omega), updN_n (by omega), updN_n (by omega), updN_n (by omega), updN_n (by omega), updN_n (by omega)]
    exact ⟨rfl, rfl⟩)]
  congr 1
  by_cases c : k = v
  · subst c
    rw [decide_eq_true rfl]
    exact decide_eq_true ⟨nI_le (Nat.le_refl _) (by omega), nI_le (Nat.le_refl _) (by omega)⟩
  · rw [decide_eq_false c]
    refine decide_eq_false (fun z => ?_)
    by_cases c2 : v < k
    · exact nI_ge c2 (by omega) z.2
    · exact nI_ge (show k < v by omega) (by omega) z.1
theorem bs_o {X : Int32} : ∀ r p (g : Nat → Nat) (i : Nat), g 10 + r ≤ 8 → (i < 45 ∨ 61 ≤ i) → i ≠ 10 → sts g (bsL X p r) i = g i := by
  intro r
  induction r with
  | zero => exact fun _ _ _ _ _ _ => rfl
  | succ r ih =>
    intro p g i hp hi h10
    by_cases e : bkb X p = true
    · rw [show bsL X p (r + 1) = (20, p) :: bsL X (p + 1) r from if_pos e]
      have e10 : stp g (20, p) 10 = g 10 + 1 := gBk_10 (v := p)
      exact (ih (p + 1) (stp g (20, p)) i (by omega) hi h10).trans (gBk_o hi h10 (by omega))
    · rw [show bsL X p (r + 1) = bsL X (p + 1) r from if_neg e]
      exact ih (p + 1) g i (by omega) hi h10
theorem bs_h {X : Int32} {k : Nat} (hk : k < 100) : ∀ r p (g : Nat → Nat), g 10 + r ≤ 8 → p + r < 100 → gHas (sts g (bsL X p r)) (nI k) (sts g (bsL X p r) 10) 0 = (gHas g (nI k) (g 10) 0 || decide (p ≤ k ∧ k < p + r ∧ bkb X k = true)) := by
  intro r
  induction r with
  | zero =>
    intro p g _ _
    rw [decide_eq_false (by omega), Bool.or_false]
    rfl
  | succ r ih =>
    intro p g hg hp
    by_cases e : bkb X p = true
    · rw [show bsL X p (r + 1) = (20, p) :: bsL X (p + 1) r from if_pos e]
      have e10 : stp g (20, p) 10 = g 10 + 1 := gBk_10 (v := p)
      refine (ih (p + 1) (stp g (20, p)) (by omega) (by omega)).trans ?_
      rw [show gHas (stp g (20, p)) (nI k) (stp g (20, p) 10) 0 = _ from gBk_has (show p < 100 by omega) hk (by omega), Bool.or_assoc]
      congr 1
      by_cases c : k = p
      · subst c
        rw [decide_eq_true rfl, Bool.true_or, decide_eq_true ⟨Nat.le_refl _, by omega, e⟩]
      · rw [decide_eq_false c, Bool.false_or]
        exact decide_eq_decide.2 ⟨fun z => ⟨by omega, by omega, z.2.2⟩, fun z => ⟨by omega, by omega, z.2.2⟩⟩
    · rw [show bsL X p (r + 1) = bsL X (p + 1) r from if_neg e]
      rw [ih (p + 1) g (by omega) (by omega)]
      congr 1
      refine decide_eq_decide.2 ⟨fun z => ⟨by omega, by omega, z.2.2⟩, fun z => ⟨?_, by omega, z.2.2⟩⟩
      by_cases c : k = p
      · subst c; exact absurd z.2.2 e
      · omega
theorem bs_ok {X : Int32} : ∀ r p (g : Nat → Nat) (sb : Nat), g 10 + r ≤ 8 → p + r < 100 → stOk g sb (bsL X p r) := by
  intro r
  induction r with
  | zero => exact fun _ _ _ _ _ => trivial
  | succ r ih =>
    intro p g sb hg hp
    by_cases e : bkb X p = true
    · rw [show bsL X p (r + 1) = (20, p) :: bsL X (p + 1) r from if_pos e]
      have e10 : stp g (20, p) 10 = g 10 + 1 := gBk_10 (v := p)
      exact ⟨⟨by show p < 100; omega, Or.inr (Or.inl ⟨rfl, by omega⟩)⟩, ih (p + 1) _ _ (by omega) (by omega)⟩
    · rw [show bsL X p (r + 1) = bsL X (p + 1) r from if_neg e]
      exact ih (p + 1) g sb (by omega) (by omega)
section GL
variable (n t c y b rr : Nat) (X : Int32)
def gA : Nat → Nat := updN (updN (updN (updN (gNew n) 1 b) 4 t) 5 c) 6 y
def stA : List (Nat × Nat) := (14, b) :: (16, t) :: (17, c) :: (18, y) :: (ssL rr 0 n ++ bsL X 0 3)
/-- the game at the law's beginning -/
def gLw : Nat → Nat := fin (sts (gNew n) (stA n t c y b rr X))
end GL
section GLF
variable {n t c y b rr : Nat} {X : Int32}
theorem gLw_s : sts (gNew n) (stA n t c y b rr X) = sts (sts (gA n t c y b) (ssL rr 0 n)) (bsL X 0 3) := (sts_app (g := gA n t c y b))
theorem gA_o {i : Nat} (h1 : i ≠ 1) (h4 : i ≠ 4) (h5 : i ≠ 5) (h6 : i ≠ 6) : gA n t c y b i = gNew n i := by
  unfold gA
  rw [updN_n h6, updN_n h5, updN_n h4, updN_n h1]
theorem stA_ok (hn : 2 ≤ n ∧ n ≤ 4) (ht : 1 ≤ t ∧ t ≤ 99) (hc : 1 ≤ c ∧ c ≤ 9) (hy : y ≤ 9) (hb : b < n) : stOk (gNew n) 0 (stA n t c y b rr X) := by
  have h0 : gNew n 0 = n := rfl
  have hA0 : gA n t c y b 0 = n := gA_o (by omega) (by omega) (by omega) (by omega)
  refine ⟨⟨by show b < 100; omega, Or.inr (Or.inr ⟨Or.inl rfl, (show (14 : Nat) ≠ 19 by omega), (show Nat.testBit (0) (sW 14) = false by decide), Nat.zero_le _, by show b ≤ n - 1; omega⟩)⟩, ⟨by show t < 100; omega, Or.inr (Or.inr ⟨Or.inr (Or.inl rfl), (show (16 : Nat) ≠ 19 by omega), (show Nat.testBit (0 ||| sBit 14) (sW 16) = false by decide), ht.1, ht.2⟩)⟩, ⟨by show c < 100; omega, Or.inr (Or.inr ⟨Or.inr (Or.inr (Or.inl rfl)), (show (17 : Nat) ≠ 19 by omega), (show Nat.testBit (0 ||| sBit 14 ||| sBit 16) (sW 17) = false by decide), hc.1, hc.2⟩)⟩, ⟨by show y < 100; omega, Or.inr (Or.inr ⟨Or.inr (Or.inr (Or.inr (Or.inl rfl))), (show (18 : Nat) ≠ 19 by omega), (show Nat.testBit (0 ||| sBit 14 ||| sBit 16 ||| sBit 17) (sW 18) = false by decide), Nat.zero_le _, hy⟩)⟩, ?_⟩
  refine stOk_app (g := gA n t c y b) (ss_ok n 0 _ _ (by omega) (by omega) (fun q _ hq => ?_)) (fun sb' => bs_ok 3 0 _ _ ?_ (by omega))
  · rw [gA_o (by omega) (by omega) (by omega) (by omega)]
    exact gNew_z (by omega)
  · rw [ss_o n 0 _ 10 (by omega) (by omega), gA_o (by omega) (by omega) (by omega) (by omega), gNew_z (by omega)]
    omega
theorem gLw_o (hn : n ≤ 4) {i : Nat} (hi : i < 28 ∨ 61 ≤ i) (h10 : i ≠ 10) : gLw n t c y b rr X i = gA n t c y b i := by
  unfold gLw
  rw [fin_o (by omega), gLw_s, bs_o 3 0 _ i ?_ (by omega) h10, ss_o n 0 _ i (by omega) (by omega)]
  rw [ss_o n 0 _ 10 (by omega) (by omega), gA_o (by omega) (by omega) (by omega) (by omega), gNew_z (by omega)]
  omega
theorem gLw_0 (hn : n ≤ 4) : gLw n t c y b rr X 0 = n ∧ gLw n t c y b rr X 1 = b ∧ gLw n t c y b rr X 2 = 0 ∧ gLw n t c y b rr X 4 = t ∧ gLw n t c y b rr X 5 = c ∧ gLw n t c y b rr X 6 = y := by
  refine ⟨?_, ?_, ?_, ?_, ?_, ?_⟩
  · rw [gLw_o hn (by omega) (by omega), gA_o (by omega) (by omega) (by omega) (by omega)]; rfl
  · rw [gLw_o hn (by omega) (by omega)]
    unfold gA
    rw [updN_n (by omega), updN_n (by omega), updN_n (by omega), updN_s]
  · rw [gLw_o hn (by omega) (by omega), gA_o (by omega) (by omega) (by omega) (by omega)]; exact gNew_z (by omega)
  · rw [gLw_o hn (by omega) (by omega)]
    unfold gA
    rw [updN_n (by omega), updN_n (by omega), updN_s]
  · rw [gLw_o hn (by omega) (by omega)]
    unfold gA
    rw [updN_n (by omega), updN_s]
  · rw [gLw_o hn (by omega) (by omega)]
    exact updN_s
theorem gLw_12 (hn : n ≤ 4) {p : Nat} (hp : p < 8) : gLw n t c y b rr X (12 + p) = p := by
  rw [gLw_o hn (by omega) (by omega), gA_o (by omega) (by omega) (by omega) (by omega)]
  exact gNew_12 hp
theorem gLw_rg (hn : n ≤ 4) {p : Nat} (hp : p < n) : rg (gLw n t c y b rr X) p = bbit rr p := by
  unfold rg
  rw [gLw_12 hn (by omega)]
  unfold gLw
  rw [fin_o (by omega), gLw_s, bs_o 3 0 _ (28 + p) ?_ (by omega) (by omega), ss_b n 0 _ p (by omega)]
  · have hb := bbit_le rr p
    by_cases e : bbit rr p = 1
    · rw [if_pos ⟨Nat.zero_le _, by omega, e⟩, e]
    · rw [if_neg (fun z => e z.2.2), gA_o (by omega) (by omega) (by omega) (by omega), gNew_z (by omega)]
      omega
  · rw [ss_o n 0 _ 10 (by omega) (by omega), gA_o (by omega) (by omega) (by omega) (by omega), gNew_z (by omega)]
    omega
theorem gHas_fin {g : Nat → Nat} {st : Int32} : gHas (fin g) st (fin g 10) 0 = gHas g st (g 10) 0 := by
  rw [fin_o (by omega)]
  exact gHas_cg _ _ (fun j _ _ => ⟨fin_o (by omega), fin_o (by omega)⟩)
theorem gLw_bk (hn : n ≤ 4) {k : Nat} (hk : k < 3) : gHas (gLw n t c y b rr X) (nI k) (gLw n t c y b rr X 10) 0 = bkb X k := by
  have h10 : sts (gA n t c y b) (ssL rr 0 n) 10 = 0 := by rw [ss_o n 0 _ 10 (by omega) (by omega), gA_o (by omega) (by omega) (by omega) (by omega), gNew_z (by omega)]
  unfold gLw
  rw [gHas_fin, gLw_s, bs_h (by omega) 3 0 _ (by omega) (by omega), h10]
  show (false || _) = _
  rw [Bool.false_or]
  cases h : bkb X k with
  | true => exact decide_eq_true ⟨Nat.zero_le _, by omega, rfl⟩
  | false => exact decide_eq_false (fun z => by cases z.2.2)
theorem gLw_F (hn : n ≤ 4) {p : Nat} (hp : p ≤ n) : gF (gLw n t c y b rr X) p = if p = b then 1 else 0 := by
  have h1 : sts (gNew n) (stA n t c y b rr X) 1 = b := by
    have := (gLw_0 (n := n) (t := t) (c := c) (y := y) (b := b) (rr := rr) (X := X) hn).2.1
    unfold gLw at this
    rw [fin_o (by omega)] at this
    exact this
  unfold gF gLw
  rw [fin_b (by omega), h1]
end GLF
