/-! PICTURES BEHIND A STEP AND A LOOK. -/
theorem gSwp_o {a b k : Nat} {h : Nat → Nat} (ha : a < 8) (hb : b < 8) (hx : h (12 + a) < 8) (hy : h (12 + b) < 8) (hk : k < 12 ∨ 28 ≤ k) : gSwp a b h k = h k := by
  unfold gSwp
  rw [gInc_n (by omega), gInc_n (by omega), gSw1_n (by omega) (by omega)]
theorem gSw1_12 {a b p : Nat} {h : Nat → Nat} : gSw1 a b h (12 + p) = if p = b then h (12 + a) else if p = a then h (12 + b) else h (12 + p) := by
  unfold gSw1 updN
  by_cases e1 : p = b
  · rw [if_pos (by omega), if_pos e1]
  · rw [if_neg (by omega), if_neg e1]
    by_cases e2 : p = a
    · rw [if_pos (by omega), if_pos e2]
    · rw [if_neg (by omega), if_neg e2]
theorem gSwp_12 {a b p : Nat} {h : Nat → Nat} (hp : p < 8) : gSwp a b h (12 + p) = if p = b then h (12 + a) else if p = a then h (12 + b) else h (12 + p) := by
  unfold gSwp
  rw [gInc_n (by omega), gInc_n (by omega), gSw1_12]
theorem gSwp_20 {a b s : Nat} {h : Nat → Nat} (ha : a < 8) (hb : b < 8) (hxy : h (12 + a) ≠ h (12 + b)) : gSwp a b h (20 + s) = if s = h (12 + a) ∨ s = h (12 + b) then h (20 + s) + 1 else h (20 + s) := by
  unfold gSwp
  by_cases e2 : s = h (12 + b)
  · rw [if_pos (Or.inr e2), e2]
    unfold gInc
    rw [updN_s, updN_n (by omega), gSw1_n (by omega) (by omega)]
  · rw [gInc_n (by omega)]
    by_cases e1 : s = h (12 + a)
    · rw [if_pos (Or.inl e1), e1]
      unfold gInc
      rw [updN_s, gSw1_n (by omega) (by omega)]
    · rw [if_neg (fun z => z.elim e1 e2), gInc_n (by omega), gSw1_n (by omega) (by omega)]
theorem gSt1_o {k a b i : Nat} {g : Nat → Nat} (hs : ∀ p, p < 8 → g (12 + p) < 8) (hab : k = 0 → a < 8 ∧ b < 8) (hi : i < 12 ∨ 28 ≤ i) : gSt1 k a b g i = if i = 1 then gBall k a b g else g i := by
  unfold gSt1
  by_cases h0 : k = 0
  · obtain ⟨ha, hb⟩ := hab h0
    rw [if_pos h0, gSwp_o ha hb (by rw [updN_12]; exact hs a ha) (by rw [updN_12]; exact hs b hb) hi]
    rfl
  · rw [if_neg h0]
    rfl
theorem gSt2_n {bl : Bool} {k a b i : Nat} {g : Nat → Nat} (hi : i ≠ 2) (hb : i < 36 ∨ 37 + g 0 ≤ i) : gSt2 bl k a b g i = gSt1 k a b g i := by
  unfold gSt2
  rw [gInc_n hi, gBel_n (by omega)]
theorem gStep_n {bl : Bool} {k a b i : Nat} {g : Nat → Nat} (hi : i ≠ 2) (hi3 : i ≠ 3) (hb : i < 36 ∨ 37 + g 0 ≤ i) : gStep bl k a b g i = gSt1 k a b g i := by
  unfold gStep
  rw [updN_n hi3, gSt2_n hi hb]
theorem gStep_b {bl : Bool} {k a b p : Nat} {g : Nat → Nat} (hp : p ≤ g 0) : gStep bl k a b g (36 + p) = gThk bl k a b g p := by
  unfold gStep gSt2
  rw [updN_n (by omega), gInc_n (by omega), gBel_i (by omega)]
section ST
variable {bl : Bool} {k a b : Nat} {g : Nat → Nat}
theorem gStep_o {i : Nat} (hs : ∀ p, p < 8 → g (12 + p) < 8) (hab : k = 0 → a < 8 ∧ b < 8) (h1 : i ≠ 1) (h2 : i ≠ 2) (h3 : i ≠ 3) (hi : i < 12 ∨ (28 ≤ i ∧ (i < 36 ∨ 37 + g 0 ≤ i))) : gStep bl k a b g i = g i := by
  rw [gStep_n h2 h3 (by omega), gSt1_o hs hab (by omega), if_neg h1]
theorem gStep_1 (hs : ∀ p, p < 8 → g (12 + p) < 8) (hab : k = 0 → a < 8 ∧ b < 8) : gStep bl k a b g 1 = gBall k a b g := by
  rw [gStep_n (by omega) (by omega) (by omega), gSt1_o hs hab (by omega), if_pos rfl]
theorem gStep_2 (hs : ∀ p, p < 8 → g (12 + p) < 8) (hab : k = 0 → a < 8 ∧ b < 8) : gStep bl k a b g 2 = g 2 + 1 := by
  unfold gStep gSt2 gInc
  rw [updN_n (by omega), updN_s, gBel_n (by omega), gSt1_o hs hab (by omega), if_neg (by omega)]
theorem gStep_3 (hs : ∀ p, p < 8 → g (12 + p) < 8) (hab : k = 0 → a < 8 ∧ b < 8) : gStep bl k a b g 3 = g 3 + bl.toNat := by
  unfold gStep
  rw [updN_s, gSt2_n (by omega) (by omega), gSt1_o hs hab (by omega), if_neg (by omega)]
theorem gSt1_12 {p : Nat} (hp : p < 8) : gSt1 k a b g (12 + p) = if k = 0 ∧ p = b then g (12 + a) else if k = 0 ∧ p = a then g (12 + b) else g (12 + p) := by
  unfold gSt1
  by_cases h0 : k = 0
  · subst h0
    rw [if_pos rfl, gSwp_12 hp, updN_12, updN_12, updN_12]
    simp only [true_and]
  · rw [if_neg h0, if_neg (fun z => h0 z.1), if_neg (fun z => h0 z.1), updN_12]
theorem gStep_12 {p : Nat} (hp : p < 8) : gStep bl k a b g (12 + p) = if k = 0 ∧ p = b then g (12 + a) else if k = 0 ∧ p = a then g (12 + b) else g (12 + p) := by
  rw [gStep_n (by omega) (by omega) (by omega), gSt1_12 hp]
end ST
-- values stay small, and the ball's place is believed in
theorem mMax_le {f : Nat → Nat} {p : Nat} : ∀ i, p < i → f p ≤ mMax f i := by
  intro i
  induction i with
  | zero => exact fun h => absurd h (Nat.not_lt_zero _)
  | succ i ih =>
    intro h
    rw [show mMax f (i + 1) = if mMax f i < f i then f i else mMax f i from rfl]
    by_cases e : p = i
    · subst e
      split <;> omega
    · have := ih (by omega)
      split <;> omega
theorem mHv_le {pl : Nat} : ∀ t (f : Nat → Nat), mMax f pl ≤ 1000000 * 2 ^ t → ∀ p, p < pl → mHv pl t f p ≤ 1000000 := by
  intro t
  induction t with
  | zero =>
    intro f hm p hp
    have h1 := mMax_le (f := f) pl hp
    have : mMax f pl ≤ 1000000 := by simpa using hm
    show f p ≤ _
    omega
  | succ t ih =>
    intro f hm p hp
    rw [show mHv pl (t + 1) f = if mMax f pl ≤ 1000000 then f else mHv pl t (mHalf f) from rfl]
    by_cases hc : mMax f pl ≤ 1000000
    · rw [if_pos hc]
      have h1 := mMax_le (f := f) pl hp
      omega
    · rw [if_neg hc]
      refine ih _ ?_ p hp
      rw [mMax_half, if_neg (by omega)]
      rw [Nat.pow_succ] at hm
      omega
theorem mHv_pos {pl p : Nat} : ∀ t (f : Nat → Nat), 0 < f p → 0 < mHv pl t f p := by
  intro t
  induction t with
  | zero => exact fun f h => h
  | succ t ih =>
    intro f h
    rw [show mHv pl (t + 1) f = if mMax f pl ≤ 1000000 then f else mHv pl t (mHalf f) from rfl]
    split
    · exact h
    · refine ih _ ?_
      unfold mHalf
      omega
theorem mDiv_pos {pl p : Nat} {f : Nat → Nat} (hp : p < pl) (h : 0 < f p) : 0 < mDiv pl f p :=
  Nat.div_pos (Nat.le_of_dvd h (mGcd_dvd hp)) (mGcd_pos hp h)
theorem mSettle_le {pl : Nat} {f : Nat → Nat} (hf : ∀ p, p < pl → f p < 2 ^ 31 - 1) : ∀ p, p < pl → mSettle pl f p ≤ 1000000 := by
  refine mHv_le 32 _ ?_
  have := mMax_lt (f := mDiv pl f) (B := 2 ^ 31) pl (fun p hp => by have := hf p hp; have : mDiv pl f p ≤ f p := Nat.div_le_self _ _; omega) (by omega)
  omega
theorem mSettle_pos {pl p : Nat} {f : Nat → Nat} (hp : p < pl) (h : 0 < f p) : 0 < mSettle pl f p := mHv_pos 32 _ (mDiv_pos hp h)
theorem gWon_ge {n p : Nat} {r f : Nat → Nat} {c s : Nat} (hc : 1 ≤ c) (hp : p ≤ n) : f p ≤ gWon n r f c s p := by
  unfold gWon
  by_cases e : p < n
  · rw [if_pos e]
    have h8 : f p * 1 ≤ f p * (wSw r n - (wK r p n - 1) + c + s * (n - 1) + s * n) := Nat.mul_le_mul_left _ (by omega)
    omega
  · rw [if_neg e, show p = n by omega]
    have h8 : f n * 1 ≤ f n * (wSw r n + c + s * n) := Nat.mul_le_mul_left _ (by omega)
    omega
theorem wL_two {r f : Nat → Nat} {p q : Nat} (hpq : p ≠ q) (e : r p = r q) : ∀ m, p < m → q < m → f p + f q ≤ wL r f p m := by
  intro m
  induction m with
  | zero => exact fun h => absurd h (Nat.not_lt_zero _)
  | succ m ih =>
    intro hp hq
    have hle := wS_le r f m
    by_cases e1 : p = m
    · subst e1
      have h1 := (wL_in (r := r) (f := f) (n := p) (p := q) (by omega)).1
      have h2 : wL r f q p = wL r f p p := by unfold wL; rw [e]
      rw [h2] at h1
      unfold wL at h1 ⊢
      rw [wS_s, mSum_s]
      by_cases c : r p = 1
      · rw [if_pos c] at h1 ⊢; rw [if_pos c]; omega
      · rw [if_neg c] at h1 ⊢; rw [if_neg c]; omega
    · by_cases e2 : q = m
      · subst e2
        have h1 := (wL_in (r := r) (f := f) (n := q) (p := p) (by omega)).1
        unfold wL at h1 ⊢
        rw [wS_s, mSum_s, ← e]
        by_cases c : r p = 1
        · rw [if_pos c] at h1 ⊢; rw [if_pos c]; omega
        · rw [if_neg c] at h1 ⊢; rw [if_neg c]; omega
      · have ih := ih (by omega) (by omega)
        unfold wL at ih ⊢
        rw [wS_s, mSum_s]
        split
        · next c => rw [if_pos c] at ih; split <;> omega
        · next c => rw [if_neg c] at ih; split <;> omega
theorem mSum_in {f : Nat → Nat} {p : Nat} : ∀ m, p < m → f p ≤ mSum f m := by
  intro m
  induction m with
  | zero => exact fun h => absurd h (Nat.not_lt_zero _)
  | succ m ih =>
    intro h
    rw [mSum_s]
    by_cases e : p = m
    · rw [e]; omega
    · have := ih (by omega)
      omega
theorem gWon_pos {n b c s p q : Nat} {r f : Nat → Nat} (hq : q < n) (hp : p < n) (hpq : q ≠ p) (e : r q = r p) (h : 0 < f q) : 0 < gWon n r f c s p := by
  have := wL_two (r := r) (f := f) (p := p) (q := q) hpq.symm e.symm n hp hq
  unfold gWon
  rw [if_pos hp]
  omega
theorem gWon_hand {n c s p : Nat} {r f : Nat → Nat} (hs : 1 ≤ s) (hp : p < n) (h : 0 < f p) : 0 < gWon n r f c s n := by
  have h1 := mSum_in (f := f) n hp
  have h2 : 1 * 1 ≤ mSum f n * s := Nat.mul_le_mul (by omega) hs
  unfold gWon
  rw [if_neg (Nat.lt_irrefl n)]
  omega
theorem gWon_plant {n c s p : Nat} {r f : Nat → Nat} (hs : 1 ≤ s) (hp : p < n) (h : 0 < f n) : 0 < gWon n r f c s p := by
  have h2 : 1 * 1 ≤ f n * s := Nat.mul_le_mul h hs
  unfold gWon
  rw [if_pos hp]
  omega
/-- the ball's place behind a step is believed in -/
theorem gRaw_ball {bl : Bool} {k a b : Nat} {g : Nat → Nat} (H : iG g) (hk : k ≤ 4) (hab : k < 2 → a < g 0 ∧ b < g 0 ∧ a ≠ b) (h3 : k = 3 → bl = true ∧ 0 < g 6 ∧ g 1 < g 0) (h4 : k = 4 → bl = true ∧ 0 < g 6 ∧ g 1 = g 0 ∧ a < g 0) : 0 < gRaw bl k a b g (gBall k a b g) ∧ gBall k a b g ≤ g 0 := by
  obtain ⟨⟨_, h8, h1, ht1, ht2, hc1, _, _, _, _⟩, _, _, _, _, hB, h0⟩ := H
  have h0 : 0 < gF g (g 1) := h0
  unfold gBall
  by_cases k3 : k = 3
  · obtain ⟨e1, e2, e3⟩ := h3 k3
    rw [if_pos k3, e1, gRaw_bl (fun z => by omega)]
    exact ⟨gWon_hand e2 e3 h0, Nat.le_refl _⟩
  · rw [if_neg k3]
    by_cases k4 : k = 4
    · obtain ⟨e1, e2, e3, e4⟩ := h4 k4
      rw [if_pos k4, e1, gRaw_bl (fun z => by omega)]
      rw [e3] at h0
      exact ⟨gWon_plant e2 e4 h0, Nat.le_of_lt e4⟩
    · rw [if_neg k4]
      by_cases k0 : k = 0
      · subst k0
        obtain ⟨ha, hb, hne⟩ := hab (by omega)
        rw [if_pos rfl]
        by_cases hn : rg g a = rg g b
        · cases bl with
          | true =>
            rw [gRaw_bl (fun z => z.2 hn)]
            unfold mBall
            by_cases e1 : g 1 = a
            · rw [if_pos e1]
              exact ⟨gWon_pos (b := 0) ha hb hne hn (by rw [← e1]; exact h0), by omega⟩
            · rw [if_neg e1]
              by_cases e2 : g 1 = b
              · rw [if_pos e2]
                exact ⟨gWon_pos (b := 0) hb ha hne.symm hn.symm (by rw [← e2]; exact h0), by omega⟩
              · rw [if_neg e2]
                exact ⟨Nat.lt_of_lt_of_le h0 (gWon_ge hc1 h1), h1⟩
          | false =>
            rw [gRaw_mix (by omega) hn]
            unfold mBall mMix
            have hq : 1 ≤ 100 - g 4 := by omega
            by_cases e1 : g 1 = a
            · rw [if_pos e1, updN_s]
              rw [e1] at h0
              have h2 : 1 * 1 ≤ gF g a * g 4 := Nat.mul_le_mul h0 ht1
              exact ⟨by omega, by omega⟩
            · rw [if_neg e1]
              by_cases e2 : g 1 = b
              · rw [if_pos e2, updN_n hne, updN_s]
                rw [e2] at h0
                have h2 : 1 * 1 ≤ gF g b * g 4 := Nat.mul_le_mul h0 ht1
                exact ⟨by omega, by omega⟩
              · rw [if_neg e2, updN_n e2, updN_n e1]
                exact ⟨by omega, h1⟩
        · rw [gRaw_ex hn]
          unfold mBall
          by_cases e1 : g 1 = a
          · rw [if_pos e1, updN_s]
            exact ⟨by rw [← e1]; exact h0, by omega⟩
          · rw [if_neg e1]
            by_cases e2 : g 1 = b
            · rw [if_pos e2, updN_n hne, updN_s]
              exact ⟨by rw [← e2]; exact h0, by omega⟩
            · rw [if_neg e2, updN_n e2, updN_n e1]
              exact ⟨h0, h1⟩
      · rw [if_neg k0]
        refine ⟨?_, h1⟩
        cases bl with
        | true =>
          rw [gRaw_bl (fun z => k0 z.1)]
          exact Nat.lt_of_lt_of_le h0 (gWon_ge hc1 h1)
        | false =>
          by_cases hm : k < 2 ∧ rg g a = rg g b
          · rw [gRaw_mix hm.1 hm.2]
            have hq : 1 ≤ 100 - g 4 := by omega
            have h2 : 1 * 1 ≤ gF g (g 1) * (100 - g 4) := Nat.mul_le_mul h0 hq
            unfold mMix updN
            by_cases e1 : g 1 = b
            · rw [if_pos e1, ← e1]; omega
            · rw [if_neg e1]
              by_cases e2 : g 1 = a
              · rw [if_pos e2, ← e2]; omega
              · rw [if_neg e2]
                show 0 < gF g (g 1) * 100
                omega
          · rw [gRaw_no (fun z => k0 z.1) hm]
            exact h0
/-- what a step may be -/
def okS (bl : Bool) (k a b : Nat) (g : Nat → Nat) : Prop := k ≤ 4 ∧ (k < 2 → a < g 0 ∧ b < g 0 ∧ a ≠ b) ∧ (k = 3 → bl = true ∧ 0 < g 6 ∧ g 1 < g 0) ∧ (k = 4 → bl = true ∧ 0 < g 6 ∧ g 1 = g 0 ∧ a < g 0)
theorem iG_step {bl : Bool} {k a b : Nat} {g : Nat → Nat} (H : iG g) (hk : okS bl k a b g) : iG (gStep bl k a b g) := by
  obtain ⟨hk4, hab, h3, h4⟩ := hk
  obtain ⟨hp0, hpb⟩ := gRaw_ball H hk4 hab h3 h4
  have hF := gRaw_lt (bl := bl) (k := k) (a := a) (b := b) H (fun z => ⟨(hab z).1, (hab z).2.1⟩)
  obtain ⟨⟨c1, h8, c3, c4, c5, c6, c7, c8, c9, c10⟩, hs, hs2, hinj, hr, hB, h0⟩ := H
  have hab' : k = 0 → a < 8 ∧ b < 8 := fun z => by have := hab (by omega); omega
  have o : ∀ i, i ≠ 1 → i ≠ 2 → i ≠ 3 → (i < 12 ∨ (28 ≤ i ∧ (i < 36 ∨ 37 + g 0 ≤ i))) → gStep bl k a b g i = g i := fun i e1 e2 e3 e4 => gStep_o hs hab' e1 e2 e3 e4
  have e0 := o 0 (by omega) (by omega) (by omega) (by omega)
  have h12 : ∀ p, p < 8 → gStep bl k a b g (12 + p) = if k = 0 ∧ p = b then g (12 + a) else if k = 0 ∧ p = a then g (12 + b) else g (12 + p) := fun p hp => gStep_12 hp
  refine ⟨⟨?_, ?_, ?_, ?_, ?_, ?_, ?_, ?_, ?_, ?_⟩, fun p hp => ?_, fun p hp => ?_, fun p q hp hq => ?_, fun p hp => ?_, fun p hp => ?_, ?_⟩
  · rw [e0]; exact c1
  · rw [e0]; exact h8
  · rw [e0, gStep_1 hs hab']; exact hpb
  · rw [o 4 (by omega) (by omega) (by omega) (by omega)]; exact c4
  · rw [o 4 (by omega) (by omega) (by omega) (by omega)]; exact c5
  · rw [o 5 (by omega) (by omega) (by omega) (by omega)]; exact c6
  · rw [o 5 (by omega) (by omega) (by omega) (by omega)]; exact c7
  · rw [o 6 (by omega) (by omega) (by omega) (by omega)]; exact c8
  · rw [o 7 (by omega) (by omega) (by omega) (by omega)]; exact c9
  · rw [o 10 (by omega) (by omega) (by omega) (by omega)]; exact c10
  · rw [h12 p hp]
    split
    · next z => exact hs a (hab' z.1).1
    · split
      · next z => exact hs b (hab' z.1).2
      · exact hs p hp
  · rw [e0] at hp ⊢
    rw [h12 p (by omega)]
    split
    · next z => exact hs2 a (hab (by omega)).1
    · split
      · next z => exact hs2 b (hab (by omega)).2.1
      · exact hs2 p hp
  · rw [e0] at hp hq
    rw [h12 p (by omega), h12 q (by omega)]
    by_cases k0 : k = 0
    · obtain ⟨ha, hb, hne⟩ := hab (by omega)
      intro h
      by_cases p1 : p = b
      · rw [if_pos ⟨k0, p1⟩] at h
        by_cases q1 : q = b
        · omega
        · rw [if_neg (fun z => q1 z.2)] at h
          by_cases q2 : q = a
          · rw [if_pos ⟨k0, q2⟩] at h
            exact absurd (hinj a b ha hb h) hne
          · rw [if_neg (fun z => q2 z.2)] at h
            exact absurd (hinj a q ha hq h).symm q2
      · rw [if_neg (fun z => p1 z.2)] at h
        by_cases p2 : p = a
        · rw [if_pos ⟨k0, p2⟩] at h
          by_cases q1 : q = b
          · rw [if_pos ⟨k0, q1⟩] at h
            exact absurd (hinj b a hb ha h).symm hne
          · rw [if_neg (fun z => q1 z.2)] at h
            by_cases q2 : q = a
            · omega
            · rw [if_neg (fun z => q2 z.2)] at h
              exact absurd (hinj b q hb hq h).symm q1
        · rw [if_neg (fun z => p2 z.2)] at h
          by_cases q1 : q = b
          · rw [if_pos ⟨k0, q1⟩] at h
            exact absurd (hinj p a hp ha h) p2
          · rw [if_neg (fun z => q1 z.2)] at h
            by_cases q2 : q = a
            · rw [if_pos ⟨k0, q2⟩] at h
              exact absurd (hinj p b hp hb h) p1
            · rw [if_neg (fun z => q2 z.2)] at h
              exact hinj p q hp hq h
    · rw [if_neg (fun z => k0 z.1), if_neg (fun z => k0 z.1), if_neg (fun z => k0 z.1), if_neg (fun z => k0 z.1)]
      exact hinj p q hp hq
  · rw [o (28 + p) (by omega) (by omega) (by omega) (by omega)]; exact hr p hp
  · by_cases c : p ≤ g 0
    · rw [gStep_b c]
      exact mSettle_le (fun p hp => hF p (by omega)) p (by omega)
    · rw [o (36 + p) (by omega) (by omega) (by omega) (by omega)]; exact hB p hp
  · rw [gStep_1 hs hab', gStep_b hpb]
    exact mSettle_pos (by omega) hp0
theorem gLook_n {p i : Nat} {g : Nat → Nat} (h : i < 36 ∨ 37 + g 0 ≤ i) : gLook p g i = g i := gBel_n (by omega)
theorem gLook_b {p q : Nat} {g : Nat → Nat} (h : q ≤ g 0) : gLook p g (36 + q) = gLk p g q := gBel_i (by omega)
theorem iG_look {p : Nat} {g : Nat → Nat} (H : iG g) (hp : p < g 0) : iG (gLook p g) := by
  obtain ⟨⟨c1, h8, c3, c4, c5, c6, c7, c8, c9, c10⟩, hs, hs2, hinj, hr, hB, h0⟩ := H
  have e0 : gLook p g 0 = g 0 := gLook_n (by omega)
  refine ⟨⟨?_, ?_, ?_, ?_, ?_, ?_, ?_, ?_, ?_, ?_⟩, fun r hr => ?_, fun r hr => ?_, fun r q hr hq => ?_, fun r hr => ?_, fun r hr => ?_, ?_⟩
  · rw [e0]; exact c1
  · rw [e0]; exact h8
  · rw [e0, gLook_n (by omega)]; exact c3
  · rw [gLook_n (by omega)]; exact c4
  · rw [gLook_n (by omega)]; exact c5
  · rw [gLook_n (by omega)]; exact c6
  · rw [gLook_n (by omega)]; exact c7
  · rw [gLook_n (by omega)]; exact c8
  · rw [gLook_n (by omega)]; exact c9
  · rw [gLook_n (by omega)]; exact c10
  · rw [gLook_n (by omega)]; exact hs r hr
  · rw [e0] at hr ⊢; rw [gLook_n (by omega)]; exact hs2 r hr
  · rw [e0] at hr hq; rw [gLook_n (by omega), gLook_n (by omega)]; exact hinj r q hr hq
  · rw [gLook_n (by omega)]; next hr' => exact hr' r (by assumption)
  · by_cases c : r ≤ g 0
    · rw [gLook_b c]
      exact Nat.le_trans (Nat.div_le_self _ _) (gRl_le (p := p) hB r (by omega))
    · rw [gLook_n (by omega)]; exact hB r hr
  · rw [show gLook p g 1 = g 1 from gLook_n (by omega), gLook_b c3]
    refine mDiv_pos (by omega) ?_
    unfold mOne
    by_cases e : g 1 = p
    · rw [if_pos e, e, updN_s]; omega
    · rw [if_neg e, updN_n e]; exact h0
