/-! SETTINGS: the picture of a game that is being set up. -/
/-- the reference says where the ball is believed to be only at the end -/
def fin (g : Nat → Nat) : Nat → Nat := fun k => if 36 ≤ k ∧ k < 45 then (if k = 36 + g 1 then 1 else 0) else g k
theorem fin_o {g : Nat → Nat} {k : Nat} (h : k < 36 ∨ 45 ≤ k) : fin g k = g k := if_neg (by omega)
theorem fin_b {g : Nat → Nat} {p : Nat} (h : p < 9) : fin g (36 + p) = if p = g 1 then 1 else 0 := by
  unfold fin
  rw [if_pos (by omega)]
  by_cases c : p = g 1
  · rw [if_pos c, if_pos (by omega)]
  · rw [if_neg c, if_neg (by omega)]
def iU (g : Nat → Nat) : Prop := (2 ≤ g 0 ∧ g 0 ≤ 8 ∧ g 1 < g 0 ∧ 1 ≤ g 4 ∧ g 4 ≤ 99 ∧ 1 ≤ g 5 ∧ g 5 ≤ 9 ∧ g 6 ≤ 9 ∧ g 7 ≤ 9999 ∧ g 10 ≤ 8) ∧ (g 2 = 0 ∧ g 3 = 0 ∧ g 8 = 0 ∧ g 9 = 0) ∧ (∀ p, p < 8 → g (12 + p) = p ∧ g (20 + p) = 0 ∧ g (28 + p) ≤ 1 ∧ g (36 + (p + 1)) = 0) ∧ g 36 = 1 ∧ iFo g
theorem fOk_cg {g g' : Nat → Nat} (e : ∀ i, 61 ≤ i → g' i = g i) : ∀ k i a, fOk g k i a → fOk g' k i a := by
  intro k
  induction k with
  | zero => exact fun i a h => h
  | succ k ih =>
    intro i a h
    show (g' (61 + 2 * i) ≤ 1 ∧ a < 11 ∧ (g' (61 + 2 * i) = 0 → g' (61 + 2 * i + 1) ≤ 9999) ∧ (g' (61 + 2 * i) = 1 → g' (61 + 2 * i + 1) ≤ 3) ∧ fOk g' k (i + 1) (a + 1)) ∨ (2 ≤ g' (61 + 2 * i) ∧ g' (61 + 2 * i) ≤ 5 ∧ 2 ≤ a ∧ fOk g' k (i + 1) (a - 1))
    rw [e (61 + 2 * i) (by omega), e (61 + 2 * i + 1) (by omega)]
    rcases h with ⟨h1, h3, h4, h5, h6⟩ | ⟨h1, h3, h4, h5⟩
    · exact Or.inl ⟨h1, h3, h4, h5, ih _ _ h6⟩
    · exact Or.inr ⟨h1, h3, h4, ih _ _ h5⟩
theorem iFo_cg {g g' : Nat → Nat} (e0 : g' 11 = g 11) (e : ∀ i, 61 ≤ i → g' i = g i) (h : iFo g) : iFo g' := by
  unfold iFo
  rw [e0]
  exact ⟨h.1, fun z => fOk_cg e _ _ _ (h.2 z)⟩
theorem iU_fin {g : Nat → Nat} (H : iU g) : iG (fin g) ∧ iFo (fin g) ∧ iT (fin g) := by
  obtain ⟨⟨c0, c1, c2, c3, c4, c5, c6, c7, c8, c9⟩, ⟨z2, z3, z8, z9⟩, hp, hb, hf⟩ := H
  have o : ∀ k, k < 36 → fin g k = g k := fun k hk => fin_o (Or.inl hk)
  refine ⟨⟨⟨?_, ?_, ?_, ?_, ?_, ?_, ?_, ?_, ?_, ?_⟩, fun p h => ?_, fun p h => ?_, fun p q h h' e => ?_, fun p h => ?_, fun p h => ?_, ?_⟩, iFo_cg (fin_o (by omega)) (fun i hi => fin_o (by omega)) hf, ?_, ?_⟩
  · rw [o 0 (by omega)]; exact c0
  · rw [o 0 (by omega)]; exact c1
  · rw [o 0 (by omega), o 1 (by omega)]; omega
  · rw [o 4 (by omega)]; exact c3
  · rw [o 4 (by omega)]; exact c4
  · rw [o 5 (by omega)]; exact c5
  · rw [o 5 (by omega)]; exact c6
  · rw [o 6 (by omega)]; exact c7
  · rw [o 7 (by omega)]; omega
  · rw [o 10 (by omega)]; exact c9
  · rw [o (12 + p) (by omega), (hp p h).1]; exact h
  · rw [o 0 (by omega)] at h ⊢
    rw [o (12 + p) (by omega), (hp p (by omega)).1]; exact h
  · rw [o 0 (by omega)] at h h'
    rw [o (12 + p) (by omega), o (12 + q) (by omega), (hp p (by omega)).1, (hp q (by omega)).1] at e
    exact e
  · rw [o (28 + p) (by omega)]; exact (hp p h).2.2.1
  · rw [fin_b (by omega)]; split <;> omega
  · rw [o 1 (by omega), fin_b (by omega), if_pos rfl]; omega
  · rw [o 2 (by omega), z2]; omega
  · rw [o 3 (by omega), z3]; omega
theorem iU_new {s : Nat} (h2 : 2 ≤ s) (h8 : s ≤ 8) : iU (gNew s) := by
  have e0 : gNew s 0 = s := rfl
  refine ⟨⟨h2, h8, ?_, ?_, ?_, ?_, ?_, ?_, ?_, ?_⟩, ⟨rfl, rfl, rfl, rfl⟩, fun p hp => ⟨gNew_12 hp, gNew_z (by omega), by rw [gNew_z (by omega)]; omega, gNew_z (by omega)⟩, rfl, ?_, fun z => absurd rfl z⟩
  · rw [e0]; show 0 < s; omega
  · show 1 ≤ 80; omega
  · show 80 ≤ 99; omega
  · show 1 ≤ 1; omega
  · show 1 ≤ 9; omega
  · show 0 ≤ 9; omega
  · show 100 ≤ 9999; omega
  · show 0 ≤ 8; omega
  · show 0 ≤ 500; omega
theorem fin_new {s : Nat} : fin (gNew s) = gNew s := by
  funext k
  by_cases c : 36 ≤ k ∧ k < 45
  · obtain ⟨p, rfl⟩ : ∃ p, k = 36 + p := ⟨k - 36, by omega⟩
    rw [fin_b (by omega), show gNew s 1 = 0 from rfl]
    by_cases e : p = 0
    · rw [if_pos e, e]; rfl
    · rw [if_neg e, gNew_z (by omega)]
  · exact if_neg c
theorem iU_1 {g : Nat → Nat} {v : Nat} (H : iU g) (hv : v < g 0) : iU (updN g 1 v) := by
  obtain ⟨⟨c0, c1, c2, c3, c4, c5, c6, c7, c8, c9⟩, ⟨z2, z3, z8, z9⟩, hp, hb, hf⟩ := H
  have o : ∀ i, i ≠ 1 → updN g 1 v i = g i := fun i hi => updN_n hi
  have s : updN g 1 v 1 = v := updN_s
  refine ⟨⟨?_, ?_, ?_, ?_, ?_, ?_, ?_, ?_, ?_, ?_⟩, ⟨?_, ?_, ?_, ?_⟩, fun p h => ⟨?_, ?_, ?_, ?_⟩, ?_, iFo_cg (o 11 (by omega)) (fun i hi => o i (by omega)) hf⟩
  · rw [o 0 (by omega)]; omega
  · rw [o 0 (by omega)]; omega
  · rw [s, o 0 (by omega)]; omega
  · rw [o 4 (by omega)]; omega
  · rw [o 4 (by omega)]; omega
  · rw [o 5 (by omega)]; omega
  · rw [o 5 (by omega)]; omega
  · rw [o 6 (by omega)]; omega
  · rw [o 7 (by omega)]; omega
  · rw [o 10 (by omega)]; omega
  · rw [o 2 (by omega)]; omega
  · rw [o 3 (by omega)]; omega
  · rw [o 8 (by omega)]; omega
  · rw [o 9 (by omega)]; omega
  · rw [o (12 + p) (by omega)]; exact (hp p h).1
  · rw [o (20 + p) (by omega)]; exact (hp p h).2.1
  · rw [o (28 + p) (by omega)]; exact (hp p h).2.2.1
  · rw [o (36 + (p + 1)) (by omega)]; exact (hp p h).2.2.2
  · rw [o 36 (by omega)]; exact hb
theorem iU_4 {g : Nat → Nat} {v : Nat} (H : iU g) (hv : 1 ≤ v ∧ v ≤ 99) : iU (updN g 4 v) := by
  obtain ⟨⟨c0, c1, c2, c3, c4, c5, c6, c7, c8, c9⟩, ⟨z2, z3, z8, z9⟩, hp, hb, hf⟩ := H
  have o : ∀ i, i ≠ 4 → updN g 4 v i = g i := fun i hi => updN_n hi
  have s : updN g 4 v 4 = v := updN_s
  refine ⟨⟨?_, ?_, ?_, ?_, ?_, ?_, ?_, ?_, ?_, ?_⟩, ⟨?_, ?_, ?_, ?_⟩, fun p h => ⟨?_, ?_, ?_, ?_⟩, ?_, iFo_cg (o 11 (by omega)) (fun i hi => o i (by omega)) hf⟩
  · rw [o 0 (by omega)]; omega
  · rw [o 0 (by omega)]; omega
  · rw [o 1 (by omega), o 0 (by omega)]; omega
  · rw [s]; omega
  · rw [s]; omega
  · rw [o 5 (by omega)]; omega
  · rw [o 5 (by omega)]; omega
  · rw [o 6 (by omega)]; omega
  · rw [o 7 (by omega)]; omega
  · rw [o 10 (by omega)]; omega
  · rw [o 2 (by omega)]; omega
  · rw [o 3 (by omega)]; omega
  · rw [o 8 (by omega)]; omega
  · rw [o 9 (by omega)]; omega
  · rw [o (12 + p) (by omega)]; exact (hp p h).1
  · rw [o (20 + p) (by omega)]; exact (hp p h).2.1
  · rw [o (28 + p) (by omega)]; exact (hp p h).2.2.1
  · rw [o (36 + (p + 1)) (by omega)]; exact (hp p h).2.2.2
  · rw [o 36 (by omega)]; exact hb
theorem iU_5 {g : Nat → Nat} {v : Nat} (H : iU g) (hv : 1 ≤ v ∧ v ≤ 9) : iU (updN g 5 v) := by
  obtain ⟨⟨c0, c1, c2, c3, c4, c5, c6, c7, c8, c9⟩, ⟨z2, z3, z8, z9⟩, hp, hb, hf⟩ := H
  have o : ∀ i, i ≠ 5 → updN g 5 v i = g i := fun i hi => updN_n hi
  have s : updN g 5 v 5 = v := updN_s
  refine ⟨⟨?_, ?_, ?_, ?_, ?_, ?_, ?_, ?_, ?_, ?_⟩, ⟨?_, ?_, ?_, ?_⟩, fun p h => ⟨?_, ?_, ?_, ?_⟩, ?_, iFo_cg (o 11 (by omega)) (fun i hi => o i (by omega)) hf⟩
  · rw [o 0 (by omega)]; omega
  · rw [o 0 (by omega)]; omega
  · rw [o 1 (by omega), o 0 (by omega)]; omega
  · rw [o 4 (by omega)]; omega
  · rw [o 4 (by omega)]; omega
  · rw [s]; omega
  · rw [s]; omega
  · rw [o 6 (by omega)]; omega
  · rw [o 7 (by omega)]; omega
  · rw [o 10 (by omega)]; omega
  · rw [o 2 (by omega)]; omega
  · rw [o 3 (by omega)]; omega
  · rw [o 8 (by omega)]; omega
  · rw [o 9 (by omega)]; omega
  · rw [o (12 + p) (by omega)]; exact (hp p h).1
  · rw [o (20 + p) (by omega)]; exact (hp p h).2.1
  · rw [o (28 + p) (by omega)]; exact (hp p h).2.2.1
  · rw [o (36 + (p + 1)) (by omega)]; exact (hp p h).2.2.2
  · rw [o 36 (by omega)]; exact hb
theorem iU_6 {g : Nat → Nat} {v : Nat} (H : iU g) (hv : v ≤ 9) : iU (updN g 6 v) := by
  obtain ⟨⟨c0, c1, c2, c3, c4, c5, c6, c7, c8, c9⟩, ⟨z2, z3, z8, z9⟩, hp, hb, hf⟩ := H
  have o : ∀ i, i ≠ 6 → updN g 6 v i = g i := fun i hi => updN_n hi
  have s : updN g 6 v 6 = v := updN_s
  refine ⟨⟨?_, ?_, ?_, ?_, ?_, ?_, ?_, ?_, ?_, ?_⟩, ⟨?_, ?_, ?_, ?_⟩, fun p h => ⟨?_, ?_, ?_, ?_⟩, ?_, iFo_cg (o 11 (by omega)) (fun i hi => o i (by omega)) hf⟩
  · rw [o 0 (by omega)]; omega
  · rw [o 0 (by omega)]; omega
  · rw [o 1 (by omega), o 0 (by omega)]; omega
  · rw [o 4 (by omega)]; omega
  · rw [o 4 (by omega)]; omega
  · rw [o 5 (by omega)]; omega
  · rw [o 5 (by omega)]; omega
  · rw [s]; omega
  · rw [o 7 (by omega)]; omega
  · rw [o 10 (by omega)]; omega
  · rw [o 2 (by omega)]; omega
  · rw [o 3 (by omega)]; omega
  · rw [o 8 (by omega)]; omega
  · rw [o 9 (by omega)]; omega
  · rw [o (12 + p) (by omega)]; exact (hp p h).1
  · rw [o (20 + p) (by omega)]; exact (hp p h).2.1
  · rw [o (28 + p) (by omega)]; exact (hp p h).2.2.1
  · rw [o (36 + (p + 1)) (by omega)]; exact (hp p h).2.2.2
  · rw [o 36 (by omega)]; exact hb
theorem iU_7 {g : Nat → Nat} {v : Nat} (H : iU g) (hv : v ≤ 9999) : iU (updN g 7 v) := by
  obtain ⟨⟨c0, c1, c2, c3, c4, c5, c6, c7, c8, c9⟩, ⟨z2, z3, z8, z9⟩, hp, hb, hf⟩ := H
  have o : ∀ i, i ≠ 7 → updN g 7 v i = g i := fun i hi => updN_n hi
  have s : updN g 7 v 7 = v := updN_s
  refine ⟨⟨?_, ?_, ?_, ?_, ?_, ?_, ?_, ?_, ?_, ?_⟩, ⟨?_, ?_, ?_, ?_⟩, fun p h => ⟨?_, ?_, ?_, ?_⟩, ?_, iFo_cg (o 11 (by omega)) (fun i hi => o i (by omega)) hf⟩
  · rw [o 0 (by omega)]; omega
  · rw [o 0 (by omega)]; omega
  · rw [o 1 (by omega), o 0 (by omega)]; omega
  · rw [o 4 (by omega)]; omega
  · rw [o 4 (by omega)]; omega
  · rw [o 5 (by omega)]; omega
  · rw [o 5 (by omega)]; omega
  · rw [o 6 (by omega)]; omega
  · rw [s]; omega
  · rw [o 10 (by omega)]; omega
  · rw [o 2 (by omega)]; omega
  · rw [o 3 (by omega)]; omega
  · rw [o 8 (by omega)]; omega
  · rw [o 9 (by omega)]; omega
  · rw [o (12 + p) (by omega)]; exact (hp p h).1
  · rw [o (20 + p) (by omega)]; exact (hp p h).2.1
  · rw [o (28 + p) (by omega)]; exact (hp p h).2.2.1
  · rw [o (36 + (p + 1)) (by omega)]; exact (hp p h).2.2.2
  · rw [o 36 (by omega)]; exact hb
theorem iU_10 {g : Nat → Nat} {v : Nat} (H : iU g) (hv : v ≤ 8) : iU (updN g 10 v) := by
  obtain ⟨⟨c0, c1, c2, c3, c4, c5, c6, c7, c8, c9⟩, ⟨z2, z3, z8, z9⟩, hp, hb, hf⟩ := H
  have o : ∀ i, i ≠ 10 → updN g 10 v i = g i := fun i hi => updN_n hi
  have s : updN g 10 v 10 = v := updN_s
  refine ⟨⟨?_, ?_, ?_, ?_, ?_, ?_, ?_, ?_, ?_, ?_⟩, ⟨?_, ?_, ?_, ?_⟩, fun p h => ⟨?_, ?_, ?_, ?_⟩, ?_, iFo_cg (o 11 (by omega)) (fun i hi => o i (by omega)) hf⟩
  · rw [o 0 (by omega)]; omega
  · rw [o 0 (by omega)]; omega
  · rw [o 1 (by omega), o 0 (by omega)]; omega
  · rw [o 4 (by omega)]; omega
  · rw [o 4 (by omega)]; omega
  · rw [o 5 (by omega)]; omega
  · rw [o 5 (by omega)]; omega
  · rw [o 6 (by omega)]; omega
  · rw [o 7 (by omega)]; omega
  · rw [s]; omega
  · rw [o 2 (by omega)]; omega
  · rw [o 3 (by omega)]; omega
  · rw [o 8 (by omega)]; omega
  · rw [o 9 (by omega)]; omega
  · rw [o (12 + p) (by omega)]; exact (hp p h).1
  · rw [o (20 + p) (by omega)]; exact (hp p h).2.1
  · rw [o (28 + p) (by omega)]; exact (hp p h).2.2.1
  · rw [o (36 + (p + 1)) (by omega)]; exact (hp p h).2.2.2
  · rw [o 36 (by omega)]; exact hb
theorem iU_x {g : Nat → Nat} {k v : Nat} (H : iU g) (hk : 45 ≤ k ∧ k < 61) : iU (updN g k v) := by
  obtain ⟨hc, hz, hp, hb, hf⟩ := H
  have o : ∀ i, i < 45 ∨ 61 ≤ i → updN g k v i = g i := fun i hi => updN_n (by omega)
  refine ⟨?_, ?_, fun p h => ⟨?_, ?_, ?_, ?_⟩, ?_, iFo_cg (o 11 (by omega)) (fun i hi => o i (by omega)) hf⟩
  · rw [o 0 (by omega), o 1 (by omega), o 4 (by omega), o 5 (by omega), o 6 (by omega), o 7 (by omega), o 10 (by omega)]; exact hc
  · rw [o 2 (by omega), o 3 (by omega), o 8 (by omega), o 9 (by omega)]; exact hz
  · rw [o (12 + p) (by omega)]; exact (hp p h).1
  · rw [o (20 + p) (by omega)]; exact (hp p h).2.1
  · rw [o (28 + p) (by omega)]; exact (hp p h).2.2.1
  · rw [o (36 + (p + 1)) (by omega)]; exact (hp p h).2.2.2
  · rw [o 36 (by omega)]; exact hb
theorem iU_28 {g : Nat → Nat} {q v : Nat} (H : iU g) (hq : q < 8) (hv : v ≤ 1) : iU (updN g (28 + q) v) := by
  obtain ⟨hc, hz, hp, hb, hf⟩ := H
  have o : ∀ i, i < 28 ∨ 36 ≤ i → updN g (28 + q) v i = g i := fun i hi => updN_n (by omega)
  refine ⟨?_, ?_, fun p h => ⟨?_, ?_, ?_, ?_⟩, ?_, iFo_cg (o 11 (by omega)) (fun i hi => o i (by omega)) hf⟩
  · rw [o 0 (by omega), o 1 (by omega), o 4 (by omega), o 5 (by omega), o 6 (by omega), o 7 (by omega), o 10 (by omega)]; exact hc
  · rw [o 2 (by omega), o 3 (by omega), o 8 (by omega), o 9 (by omega)]; exact hz
  · rw [o (12 + p) (by omega)]; exact (hp p h).1
  · rw [o (20 + p) (by omega)]; exact (hp p h).2.1
  · by_cases e : p = q
    · rw [e, updN_s]; exact hv
    · rw [updN_n (by omega)]; exact (hp p h).2.2.1
  · rw [o (36 + (p + 1)) (by omega)]; exact (hp p h).2.2.2
  · rw [o 36 (by omega)]; exact hb
theorem iU_f {g g' : Nat → Nat} (H : iU g) (e : ∀ i, i < 61 → i ≠ 11 → g' i = g i) (hf : iFo g') : iU g' := by
  obtain ⟨hc, hz, hp, hb, _⟩ := H
  refine ⟨?_, ?_, fun p h => ⟨?_, ?_, ?_, ?_⟩, ?_, hf⟩
  · rw [e 0 (by omega) (by omega), e 1 (by omega) (by omega), e 4 (by omega) (by omega), e 5 (by omega) (by omega), e 6 (by omega) (by omega), e 7 (by omega) (by omega), e 10 (by omega) (by omega)]; exact hc
  · rw [e 2 (by omega) (by omega), e 3 (by omega) (by omega), e 8 (by omega) (by omega), e 9 (by omega) (by omega)]; exact hz
  · rw [e (12 + p) (by omega) (by omega)]; exact (hp p h).1
  · rw [e (20 + p) (by omega) (by omega)]; exact (hp p h).2.1
  · rw [e (28 + p) (by omega) (by omega)]; exact (hp p h).2.2.1
  · rw [e (36 + (p + 1)) (by omega) (by omega)]; exact (hp p h).2.2.2
  · rw [e 36 (by omega) (by omega)]; exact hb
/-- a setting's word: its bit, its place, its range -/
def sW (t : Nat) : Nat := if t = 14 then 0 else if t = 16 then 1 else if t = 17 then 2 else if t = 18 then 3 else if t = 19 then 4 else 5
def sTo (t : Nat) : Nat := if t = 14 then 1 else if t = 16 then 4 else if t = 17 then 5 else if t = 18 then 6 else 7
def sLo (t : Nat) : Nat := if t = 16 ∨ t = 17 then 1 else 0
def sHi (g : Nat → Nat) (t : Nat) : Nat := if t = 14 then g 0 - 1 else if t = 16 then 99 else if t = 17 then 9 else if t = 18 then 9 else 9999
def isSt (t : Nat) : Prop := t = 14 ∨ t = 16 ∨ t = 17 ∨ t = 18 ∨ t = 19
def isSb (t : Nat) : Prop := isSt t ∨ t = 21
def sBit (t : Nat) : Nat := if t = 14 then 1 else if t = 16 then 2 else if t = 17 then 4 else if t = 18 then 8 else if t = 19 then 16 else if t = 21 then 32 else 0
theorem sBit_w {t : Nat} (h : isSb t) : sBit t = 2 ^ sW t ∧ sW t < 6 := by
  rcases h with (h | h | h | h | h) | h <;> subst h <;> exact ⟨rfl, by decide⟩
theorem sBit_0 {t : Nat} (h : ¬ isSb t) : sBit t = 0 := by
  unfold sBit
  rw [if_neg (fun z => h (Or.inl (Or.inl z))), if_neg (fun z => h (Or.inl (Or.inr (Or.inl z)))), if_neg (fun z => h (Or.inl (Or.inr (Or.inr (Or.inl z))))), if_neg (fun z => h (Or.inl (Or.inr (Or.inr (Or.inr (Or.inl z)))))), if_neg (fun z => h (Or.inl (Or.inr (Or.inr (Or.inr (Or.inr z)))))), if_neg (fun z => h (Or.inr z))]
set_option maxRecDepth 100000 in
theorem sb_and : ∀ b, b < 64 → ∀ w, w < 6 → (nI b &&& nI (2 ^ w) = nI 0) = (b.testBit w = false) := by decide +kernel
set_option maxRecDepth 100000 in
theorem sb_get : ∀ b, b < 64 → ∀ w, w < 6 → ((nI b >>> (nI w &&& 31)) &&& nI 1 = nI 1) = (b.testBit w = true) := by decide +kernel
set_option maxRecDepth 100000 in
theorem sb_or : ∀ b, b < 64 → ∀ w, w < 6 → nI b ||| nI (2 ^ w) = nI (b ||| 2 ^ w) ∧ nI b ||| (nI 1 <<< (nI w &&& 31)) = nI (b ||| 2 ^ w) ∧ b ||| 2 ^ w < 64 ∧ ((b ||| 2 ^ w).testBit 5 = (b.testBit 5 || decide (w = 5))) := by decide +kernel
set_option maxRecDepth 100000 in
theorem sb_0 : ∀ b, b < 64 → nI b &&& nI 0 = nI 0 ∧ nI b ||| nI 0 = nI b := by decide +kernel
theorem iU_set {g : Nat → Nat} {t v : Nat} (H : iU g) (ht : isSt t) (h1 : sLo t ≤ v) (h2 : v ≤ sHi g t) : iU (updN g (sTo t) v) := by
  have := H.1.1
  rcases ht with h | h | h | h | h <;> subst h
  · have h2 : v ≤ g 0 - 1 := h2
    exact iU_1 H (by omega)
  · exact iU_4 H ⟨h1, h2⟩
  · exact iU_5 H ⟨h1, h2⟩
  · exact iU_6 H h2
  · exact iU_7 H h2
section S7
variable {E : xEn} {z : Nat → Option va_E} {x n : Nat} {sh : Nat → Option xSh} {S : xSt} {g : Nat → Nat}
theorem s7_bit (H : hEn E z x) {t : Nat} (ht : t < 29) {σ : xH} (d : Nat) : xsem xT E (d + 1) kX7_bitOfSingle [.ref (E.1 t)] σ = some (.inl (some (.int (nI (sBit t)))), σ) := by
  unfold sBit
  rw [eX7_bitOfSingle, QX7_bitOfSingle_0, bq_t H ht (by omega), QX7_bitOfSingle_9, bq_t H ht (by omega), QX7_bitOfSingle_18, bq_t H ht (by omega), QX7_bitOfSingle_27, bq_t H ht (by omega), QX7_bitOfSingle_37, bq_t H ht (by omega), QX7_bitOfSingle_47, bq_t H ht (by omega)]
  by_cases a0 : t = 14
  · rw [decide_eq_true a0, cond_true, if_pos a0]
  · rw [decide_eq_false a0, cond_false, if_neg a0]
    by_cases a1 : t = 16
    · rw [decide_eq_true a1, cond_true, if_pos a1]
    · rw [decide_eq_false a1, cond_false, if_neg a1]
      by_cases a2 : t = 17
      · rw [decide_eq_true a2, cond_true, if_pos a2]
      · rw [decide_eq_false a2, cond_false, if_neg a2]
        by_cases a3 : t = 18
        · rw [decide_eq_true a3, cond_true, if_pos a3]
        · rw [decide_eq_false a3, cond_false, if_neg a3]
          by_cases a4 : t = 19
          · rw [decide_eq_true a4, cond_true, if_pos a4]
          · rw [decide_eq_false a4, cond_false, if_neg a4]
            by_cases a5 : t = 21
            · rw [decide_eq_true a5, cond_true, if_pos a5, QX7_bitOfSingle_60]
            · rw [decide_eq_false a5, cond_false, if_neg a5]
              rw [QX7_bitOfSingle_59, QX7_bitOfSingle_60]
theorem s7_greatest (h : hG sh 14) (H : hEn E z x) (P : pG S 14 g) (h8 : g 0 ≤ 8) (h2 : 2 ≤ g 0) {t : Nat} (ht : isSt t) (d : Nat) : xsem xT E (d + 1) kX7_greatestOf [.ref (E.1 t), .ref (x + 14)] (wW E z x sh S, n) = some (.inl (some (.int (nI (sHi g t)))), (wW E z x sh S, n)) := by
  have b0 : sh 14 = some (sh2 14) := h.1
  have b1 : sh (14 + 1) = some (sh5 (14 + 1)) := h.2.1
  have e0 : S.1 (14 + 1) 0 = nI (g 0) := P.1.1
  rcases ht with h | h | h | h | h <;> subst h
  · rw [eX7_greatestOf, QX7_greatestOf_0, bq_t H (by omega) (by omega), decide_eq_true rfl, cond_true]
    simp (disch := omega) only [gO_2 b0, gR_2_0 b0, gR_2_1 b0, gR_2_2 b0, gR_2_3 b0, gI_2_4 b0, gP_2_4 b0, gI_2_5 b0, gP_2_5 b0, gI_2_6 b0, gP_2_6 b0, gI_2_7 b0, gP_2_7 b0, gI_2_8 b0, gP_2_8 b0, gO_5 b1, gI_5_0 b1, gP_5_0 b1, gI_5_1 b1, gP_5_1 b1, gI_5_2 b1, gP_5_2 b1, gR_5_3 b1, gR_5_4 b1, e0, pk_sub, cI_s, cL_s, cF_s, cD_s, cA_s, cV_s, nI_add, cond_true, cond_false, if_true, if_false]
    rfl
  · rw [eX7_greatestOf, QX7_greatestOf_0, bq_t H (by omega) (by omega), QX7_greatestOf_17, bq_t H (by omega) (by omega)]
    rfl
  · rw [eX7_greatestOf, QX7_greatestOf_0, bq_t H (by omega) (by omega), QX7_greatestOf_17, bq_t H (by omega) (by omega), QX7_greatestOf_27, bq_t H (by omega) (by omega)]
    rfl
  · rw [eX7_greatestOf, QX7_greatestOf_0, bq_t H (by omega) (by omega), QX7_greatestOf_17, bq_t H (by omega) (by omega), QX7_greatestOf_27, bq_t H (by omega) (by omega), QX7_greatestOf_37, bq_t H (by omega) (by omega)]
    rfl
  · rw [eX7_greatestOf, QX7_greatestOf_0, bq_t H (by omega) (by omega), QX7_greatestOf_17, bq_t H (by omega) (by omega), QX7_greatestOf_27, bq_t H (by omega) (by omega), QX7_greatestOf_37, bq_t H (by omega) (by omega), QX7_greatestOf_47, bq_t H (by omega) (by omega), QX7_greatestOf_61]
    rfl
theorem s7_greatest_n (H : hEn E z x) {t : Nat} (ht : t < 29) (hn : ¬ isSt t) {σ : xH} (d : Nat) : xsem xT E (d + 1) kX7_greatestOf [.ref (E.1 t), .ref (x + 14)] σ = some (.inl (some (.int (-1))), σ) := by
  have a1 : t ≠ 14 := fun z => hn (Or.inl z)
  have a2 : t ≠ 16 := fun z => hn (Or.inr (Or.inl z))
  have a3 : t ≠ 17 := fun z => hn (Or.inr (Or.inr (Or.inl z)))
  have a4 : t ≠ 18 := fun z => hn (Or.inr (Or.inr (Or.inr (Or.inl z))))
  have a5 : t ≠ 19 := fun z => hn (Or.inr (Or.inr (Or.inr (Or.inr z))))
  rw [eX7_greatestOf, QX7_greatestOf_0, bq_t H ht (by omega), decide_eq_false a1, cond_false, QX7_greatestOf_17, bq_t H ht (by omega), decide_eq_false a2, cond_false, QX7_greatestOf_27, bq_t H ht (by omega), decide_eq_false a3, cond_false, QX7_greatestOf_37, bq_t H ht (by omega), decide_eq_false a4, cond_false, QX7_greatestOf_47, bq_t H ht (by omega), decide_eq_false a5, cond_false, QX7_greatestOf_60, QX7_greatestOf_61]
theorem fin_up {k v : Nat} (hk : k < 36 ∨ 45 ≤ k) (h1 : k ≠ 1) : fin (updN g k v) = updN (fin g) k v := by
  funext i
  unfold fin
  rw [updN_n (show 1 ≠ k by omega)]
  by_cases e : i = k
  · subst e
    rw [updN_s, updN_s, if_neg (by omega)]
  · rw [updN_n e, updN_n e]
theorem pG_up {S' : xSt} {k v : Nat} {h : Nat → Nat} (I : iG h) (hk : k = 4 ∨ k = 5 ∨ k = 6 ∨ k = 7) (P : pG S 14 h) (hM : pMd S' 18 (updN h k v)) (f : frm 14 15 S S' ∨ frm 18 20 S S') (h4 : S'.1 14 4 = S.1 14 4) (h5 : S'.1 14 5 = S.1 14 5) (h6 : S'.1 14 6 = nI (updN h k v 7)) (h7 : S'.1 14 7 = S.1 14 7) (h8 : S'.1 14 8 = S.1 14 8) : pG S' 14 (updN h k v) := by
  obtain ⟨P1, P2, P3, P4, e1, e2, e3, e4, e5⟩ := P
  have o : ∀ i, i < 4 ∨ 7 < i → updN h k v i = h i := fun i hi => updN_n (by omega)
  have P1 : pRw S' (14 + 1) h := by
    rcases f with f | f
    · exact pRw_fr f (by omega) P1
    · exact pRw_fr f (by omega) P1
  have P3 : pBk S' (14 + 6) h := by
    rcases f with f | f
    · exact pBk_fr f (by omega) P3
    · exact pBk_fr f (by omega) P3
  have P4 : pFo S' (14 + 9) h := by
    rcases f with f | f
    · exact pFo_fr f (by omega) P4
    · exact pFo_fr f (by omega) P4
  refine ⟨pRw_cg (o 0 (by omega)) (o 1 (by omega)) (fun i a b => o i (by omega)) I.2.1 I.1.2.1 P1, hM, pBk_cg (o 10 (by omega)) I.1.2.2.2.2.2.2.2.2.2 (fun i a b => o i (by omega)) P3, pFo_cg (o 11 (by omega)) (fun i a => o i (by omega)) P4, ?_, ?_, h6, ?_, ?_⟩
  · rw [h4, o 2 (by omega)]; exact e1
  · rw [h5, o 3 (by omega)]; exact e2
  · rw [h7, o 8 (by omega)]; exact e4
  · rw [h8, o 9 (by omega)]; exact e5
theorem s7_set (h : hG sh 14) (H : hEn E z x) (I : iU g) (P : pG S 14 (fin g)) {t v : Nat} (ht : isSt t) (hv : v ≤ sHi g t) (d : Nat) : ∃ S', xsem xT E (d + 3) kX7_set [.ref (x + 14), .ref (E.1 t), .int (nI v)] (wW E z x sh S, n) = some (.inl none, (wW E z x sh S', n)) ∧ pG S' 14 (fin (updN g (sTo t) v)) ∧ frm 14 26 S S' := by
  have b0 : sh 14 = some (sh2 14) := h.1
  have b1 : sh (14 + 1) = some (sh5 (14 + 1)) := h.2.1
  have b4 : sh (14 + 4) = some (sh4 (14 + 4)) := h.2.2.2.2.1
  have b5 : sh (14 + 4 + 1) = some (1, 9, []) := h.2.2.2.2.2.1
  have I' := (iU_fin I).1
  have h8 := I.1.2.1
  have P0 := P
  obtain ⟨P1, ⟨m1, m2, m3, m4, m5⟩, P3, P4, e1, e2, e3, e4, e5⟩ := P
  have u : ∀ {k i v : Nat}, i ≠ k → nI (fin g i) = nI (updN (fin g) k v i) := fun hi => by rw [updN_n hi]
  rcases ht with h | h | h | h | h <;> subst h
  · have hv : v ≤ g 0 - 1 := hv
    have hv9 : v < 9 := by omega
    have h2 := I.1.1
    have o : ∀ i, i < 36 ∨ 45 ≤ i → i ≠ 1 → fin (updN g 1 v) i = fin g i := fun i a b => by rw [fin_o a, fin_o a, updN_n b]
    have f1 : frm 15 16 S (sS S (14 + 1) 1 (nI v)) := frm_sS (by omega) (by omega)
    have f2 : frm 19 20 (sS S (14 + 1) 1 (nI v)) (sA (sS S (14 + 1) 1 (nI v)) (14 + 4 + 1) (vw 9 (mOne v) (S.2.1 (14 + 4 + 1)))) := frm_sA (by omega) (by omega)
    obtain ⟨r1, r2, r3, r4, r5⟩ := P1
    have Q1 : pRw (sS S (14 + 1) 1 (nI v)) (14 + 1) (updN (fin g) 1 v) := by
      have hc := pRw_cg (S := S) (o := 14 + 1) (g := fin g) (g' := updN (fin g) 1 (fin g 1)) (updN_n (by omega)) updN_s (fun i a b => updN_n (by omega)) I'.2.1 I'.1.2.1 ⟨r1, r2, r3, r4, r5⟩
      have hrg : ∀ v, rg (updN (fin g) 1 v) = rg (fin g) := fun v => by
        funext p
        unfold rg
        rw [updN_n (show 12 + p ≠ 1 by omega), updN_n (by omega)]
      have hset : ∀ v i, gSet (updN (fin g) 1 v) i = gSet (fin g) i := by
        intro v i
        induction i with
        | zero => rfl
        | succ i ih => rw [show gSet (updN (fin g) 1 v) (i + 1) = if rg (updN (fin g) 1 v) i = 1 then gSet (updN (fin g) 1 v) i ||| 2 ^ i else gSet (updN (fin g) 1 v) i from rfl, hrg, ih]; rfl
      refine ⟨?_, ?_, ?_, fun p hp => ?_, fun p hp => ?_⟩
      · rw [sS_n (by omega), updN_n (by omega)]; exact r1
      · rw [sS_s, updN_s]
      · rw [sS_n (by omega), hset, updN_n (by omega)]; exact r3
      · rw [updN_n (by omega)]; exact r4 p hp
      · rw [updN_n (by omega)] at hp
        rw [updN_n (show 12 + p ≠ 1 by omega), updN_n (by omega)]; exact r5 p hp
    refine ⟨_, ?_, ⟨pRw_fr f2 (by omega) (pRw_cg (g := updN (fin g) 1 v) ?_ ?_ (fun i a b => ?_) (fun p hp => ?_) ?_ Q1), ⟨?_, ?_, ?_, ?_, fun p hp => ?_⟩, pBk_cg (g := fin g) (o 10 (by omega) (by omega)) I'.1.2.2.2.2.2.2.2.2.2 (fun i a b => o i (by omega) (by omega)) (pBk_fr f2 (by omega) (pBk_fr f1 (by omega) P3)), pFo_cg (g := fin g) (o 11 (by omega) (by omega)) (fun i a => o i (by omega) (by omega)) (pFo_fr f2 (by omega) (pFo_fr f1 (by omega) P4)), ?_, ?_, ?_, ?_, ?_⟩, frm_tr (frm_mo f1 (by omega) (by omega)) (frm_mo f2 (by omega) (by omega))⟩
    · rw [eX7_set, QX7_set_0, bq_t H (by omega) (by omega), decide_eq_true rfl, cond_true]
      simp (disch := omega) only [gO_2 b0, gR_2_0 b0, gR_2_1 b0, gR_2_2 b0, gR_2_3 b0, gI_2_4 b0, gP_2_4 b0, gI_2_5 b0, gP_2_5 b0, gI_2_6 b0, gP_2_6 b0, gI_2_7 b0, gP_2_7 b0, gI_2_8 b0, gP_2_8 b0, gO_5 b1, gI_5_0 b1, gP_5_0 b1, gI_5_1 b1, gP_5_1 b1, gI_5_2 b1, gP_5_2 b1, gR_5_3 b1, gR_5_4 b1, gO_4 b4, gR_4_0 b4, gI_4_1 b4, gP_4_1 b4, gI_4_2 b4, gP_4_2 b4, gI_4_3 b4, gP_4_3 b4, gI_4_4 b4, gP_4_4 b4, cI_s, cL_s, cF_s, cD_s, cA_s, cV_s, nI_add, cond_true, cond_false, if_true, if_false]
      rw [s4_know b4 b5 hv9]
      simp (disch := omega) only [QX7_set_92, sS_a, cI_s, cL_s, cF_s, cD_s, cA_s, cV_s, nI_add, cond_true, cond_false, if_true, if_false]
    · rw [show sTo 14 = 1 from rfl, o 0 (by omega) (by omega), updN_n (by omega)]
    · rw [show sTo 14 = 1 from rfl, fin_o (by omega), updN_s, updN_s]
    · rw [show sTo 14 = 1 from rfl, o i (by omega) (by omega), updN_n (by omega)]
    · rw [updN_n (by omega)]; exact I'.2.1 p hp
    · rw [updN_n (by omega)]; exact I'.1.2.1
    · rw [show sTo 14 = 1 from rfl, o 0 (by omega) (by omega)]; exact m1
    · rw [show sTo 14 = 1 from rfl, o 4 (by omega) (by omega)]; exact m2
    · rw [show sTo 14 = 1 from rfl, o 5 (by omega) (by omega)]; exact m3
    · rw [show sTo 14 = 1 from rfl, o 6 (by omega) (by omega)]; exact m4
    · rw [show sTo 14 = 1 from rfl, o 0 (by omega) (by omega)] at hp
      have := I'.1.2.1
      rw [show sTo 14 = 1 from rfl, fin_b (by omega), updN_s]
      show vw 9 (mOne v) _ p = _
      rw [vw_in (by omega)]
      rfl
    · rw [show sTo 14 = 1 from rfl, o 2 (by omega) (by omega)]; exact e1
    · rw [show sTo 14 = 1 from rfl, o 3 (by omega) (by omega)]; exact e2
    · rw [show sTo 14 = 1 from rfl, o 7 (by omega) (by omega)]; exact e3
    · rw [show sTo 14 = 1 from rfl, o 8 (by omega) (by omega)]; exact e4
    · rw [show sTo 14 = 1 from rfl, o 9 (by omega) (by omega)]; exact e5
  · refine ⟨sS S (14 + 4) 2 (nI v), ?_, ?_, frm_sS (by omega) (by omega)⟩
    · rw [eX7_set, QX7_set_0, bq_t H (by omega) (by omega), decide_eq_false (by omega), cond_false, QX7_set_26, bq_t H (by omega) (by omega), decide_eq_true rfl, cond_true]
      simp (disch := omega) only [gO_2 b0, gR_2_0 b0, gR_2_1 b0, gR_2_2 b0, gR_2_3 b0, gI_2_4 b0, gP_2_4 b0, gI_2_5 b0, gP_2_5 b0, gI_2_6 b0, gP_2_6 b0, gI_2_7 b0, gP_2_7 b0, gI_2_8 b0, gP_2_8 b0, gO_4 b4, gR_4_0 b4, gI_4_1 b4, gP_4_1 b4, gI_4_2 b4, gP_4_2 b4, gI_4_3 b4, gP_4_3 b4, gI_4_4 b4, gP_4_4 b4, QX7_set_92, cI_s, cL_s, cF_s, cD_s, cA_s, cV_s, nI_add, cond_true, cond_false, if_true, if_false]
    · rw [show sTo 16 = 4 from rfl, fin_up (by omega) (by omega)]
      refine pG_up I' (by omega) P0 ⟨?_, ?_, ?_, ?_, fun p hp => ?_⟩ (Or.inr (frm_sS (by omega) (by omega))) (sS_nq (by omega)) (sS_nq (by omega)) (by rw [sS_nq (by omega), updN_n (by omega)]; exact e3) (sS_nq (by omega)) (sS_nq (by omega))
      · rw [sS_n (by omega), updN_n (by omega)]; exact m1
      · rw [sS_s, updN_s]
      · rw [sS_n (by omega), updN_n (by omega)]; exact m3
      · rw [sS_n (by omega), updN_n (by omega)]; exact m4
      · rw [updN_n (by omega)] at hp
        rw [updN_n (by omega)]; exact m5 p hp
  · refine ⟨sS S (14 + 4) 3 (nI v), ?_, ?_, frm_sS (by omega) (by omega)⟩
    · rw [eX7_set, QX7_set_0, bq_t H (by omega) (by omega), decide_eq_false (by omega), cond_false, QX7_set_26, bq_t H (by omega) (by omega), decide_eq_false (by omega), cond_false, QX7_set_44, bq_t H (by omega) (by omega), decide_eq_true rfl, cond_true]
      simp (disch := omega) only [gO_2 b0, gR_2_0 b0, gR_2_1 b0, gR_2_2 b0, gR_2_3 b0, gI_2_4 b0, gP_2_4 b0, gI_2_5 b0, gP_2_5 b0, gI_2_6 b0, gP_2_6 b0, gI_2_7 b0, gP_2_7 b0, gI_2_8 b0, gP_2_8 b0, gO_4 b4, gR_4_0 b4, gI_4_1 b4, gP_4_1 b4, gI_4_2 b4, gP_4_2 b4, gI_4_3 b4, gP_4_3 b4, gI_4_4 b4, gP_4_4 b4, QX7_set_92, cI_s, cL_s, cF_s, cD_s, cA_s, cV_s, nI_add, cond_true, cond_false, if_true, if_false]
    · rw [show sTo 17 = 5 from rfl, fin_up (by omega) (by omega)]
      refine pG_up I' (by omega) P0 ⟨?_, ?_, ?_, ?_, fun p hp => ?_⟩ (Or.inr (frm_sS (by omega) (by omega))) (sS_nq (by omega)) (sS_nq (by omega)) (by rw [sS_nq (by omega), updN_n (by omega)]; exact e3) (sS_nq (by omega)) (sS_nq (by omega))
      · rw [sS_n (by omega), updN_n (by omega)]; exact m1
      · rw [sS_n (by omega), updN_n (by omega)]; exact m2
      · rw [sS_s, updN_s]
      · rw [sS_n (by omega), updN_n (by omega)]; exact m4
      · rw [updN_n (by omega)] at hp
        rw [updN_n (by omega)]; exact m5 p hp
  · refine ⟨sS S (14 + 4) 4 (nI v), ?_, ?_, frm_sS (by omega) (by omega)⟩
    · rw [eX7_set, QX7_set_0, bq_t H (by omega) (by omega), decide_eq_false (by omega), cond_false, QX7_set_26, bq_t H (by omega) (by omega), decide_eq_false (by omega), cond_false, QX7_set_44, bq_t H (by omega) (by omega), decide_eq_false (by omega), cond_false, QX7_set_62, bq_t H (by omega) (by omega), decide_eq_true rfl, cond_true]
      simp (disch := omega) only [gO_2 b0, gR_2_0 b0, gR_2_1 b0, gR_2_2 b0, gR_2_3 b0, gI_2_4 b0, gP_2_4 b0, gI_2_5 b0, gP_2_5 b0, gI_2_6 b0, gP_2_6 b0, gI_2_7 b0, gP_2_7 b0, gI_2_8 b0, gP_2_8 b0, gO_4 b4, gR_4_0 b4, gI_4_1 b4, gP_4_1 b4, gI_4_2 b4, gP_4_2 b4, gI_4_3 b4, gP_4_3 b4, gI_4_4 b4, gP_4_4 b4, QX7_set_92, cI_s, cL_s, cF_s, cD_s, cA_s, cV_s, nI_add, cond_true, cond_false, if_true, if_false]
    · rw [show sTo 18 = 6 from rfl, fin_up (by omega) (by omega)]
      refine pG_up I' (by omega) P0 ⟨?_, ?_, ?_, ?_, fun p hp => ?_⟩ (Or.inr (frm_sS (by omega) (by omega))) (sS_nq (by omega)) (sS_nq (by omega)) (by rw [sS_nq (by omega), updN_n (by omega)]; exact e3) (sS_nq (by omega)) (sS_nq (by omega))
      · rw [sS_n (by omega), updN_n (by omega)]; exact m1
      · rw [sS_n (by omega), updN_n (by omega)]; exact m2
      · rw [sS_n (by omega), updN_n (by omega)]; exact m3
      · rw [sS_s, updN_s]
      · rw [updN_n (by omega)] at hp
        rw [updN_n (by omega)]; exact m5 p hp
  · refine ⟨sS S 14 6 (nI v), ?_, ?_, frm_sS (by omega) (by omega)⟩
    · rw [eX7_set, QX7_set_0, bq_t H (by omega) (by omega), decide_eq_false (by omega), cond_false, QX7_set_26, bq_t H (by omega) (by omega), decide_eq_false (by omega), cond_false, QX7_set_44, bq_t H (by omega) (by omega), decide_eq_false (by omega), cond_false, QX7_set_62, bq_t H (by omega) (by omega), decide_eq_false (by omega), cond_false, QX7_set_80, bq_t H (by omega) (by omega), decide_eq_true rfl, cond_true]
      simp (disch := omega) only [gO_2 b0, gR_2_0 b0, gR_2_1 b0, gR_2_2 b0, gR_2_3 b0, gI_2_4 b0, gP_2_4 b0, gI_2_5 b0, gP_2_5 b0, gI_2_6 b0, gP_2_6 b0, gI_2_7 b0, gP_2_7 b0, gI_2_8 b0, gP_2_8 b0, QX7_set_92, cI_s, cL_s, cF_s, cD_s, cA_s, cV_s, nI_add, cond_true, cond_false, if_true, if_false]
    · rw [show sTo 19 = 7 from rfl, fin_up (by omega) (by omega)]
      refine pG_up I' (by omega) P0 ⟨?_, ?_, ?_, ?_, fun p hp => ?_⟩ (Or.inl (frm_sS (by omega) (by omega))) (sS_n (by omega)) (sS_n (by omega)) (by rw [sS_s, updN_s]) (sS_n (by omega)) (sS_n (by omega))
      · rw [sS_nq (by omega), updN_n (by omega)]; exact m1
      · rw [sS_nq (by omega), updN_n (by omega)]; exact m2
      · rw [sS_nq (by omega), updN_n (by omega)]; exact m3
      · rw [sS_nq (by omega), updN_n (by omega)]; exact m4
      · rw [updN_n (by omega)] at hp
        rw [updN_n (by omega)]; exact m5 p hp
end S7
