/-! TOKENS of a text as the reference sees them. -/
def sg (i : Nat) : Nat := if i = 3 then 59 else if i = 4 then 43 else if i = 5 then 45 else if i = 6 then 42 else if i = 7 then 47 else if i = 8 then 40 else 41
theorem sg_xt : ∀ i, i < 10 → 3 ≤ i → xtx (xtt i) = [nI (sg i)] := by decide +kernel
theorem sg_lt : ∀ i, i < 10 → sg i < 128 ∧ kd (sg i) = 3 := by decide +kernel
theorem sg_ij : ∀ i, i < 10 → ∀ j, j < 10 → 3 ≤ i → 3 ≤ j → sg i = sg j → i = j := by decide +kernel
theorem wd_xt : ∀ j, j < 27 → 8 ≤ j → 3 ≤ (xtx j).length ∧ xtt (j + 2) = j := by decide +kernel
set_option maxRecDepth 100000 in
theorem xt_ij : ∀ i, i < 29 → ∀ j, j < 29 → 3 ≤ i → 3 ≤ j → xtx (xtt i) = xtx (xtt j) → i = j := by decide +kernel
theorem xt_0 : ∀ i, i < 3 → (xtx (xtt i)).length = 0 := by decide +kernel
section TK
variable {tx : Nat → Nat} {L p e : Nat}
theorem W_ij {i j : Nat} (hi : i < 29) (hj : j < 29) (h3 : 3 ≤ i) (h3' : 3 ≤ j) (h : isW tx p e i) (h' : isW tx p e j) : i = j := by
  obtain ⟨l1, s1⟩ := h
  obtain ⟨l2, s2⟩ := h'
  refine xt_ij i hi j hj h3 h3' (List.ext_getElem (l1.trans l2.symm) (fun k h1 h2 => ?_))
  have a := (sp_at _ _).1 s1 k h1
  have b := (sp_at _ _).1 s2 k h2
  have hg : ∀ (l : List Int32) (k : Nat) (h : k < l.length), l.getD k 0 = l[k] := fun l k h => by simp [List.getD, h]
  rw [← hg _ k h1, ← hg _ k h2, ← a, ← b]
theorem W_3 {i : Nat} (he : p < e) (h : isW tx p e i) (hi : i < 29) : 3 ≤ i := by
  by_cases c : i < 3
  · have := xt_0 i c
    have := h.1
    omega
  · omega
theorem fdW_r : ∀ m i, (i ≤ fdW tx p e m i ∧ fdW tx p e m i < i + m ∧ isW tx p e (fdW tx p e m i)) ∨ (fdW tx p e m i = 2 ∧ ∀ j, i ≤ j → j < i + m → ¬ isW tx p e j) := by
  intro m
  induction m with
  | zero => exact fun i => Or.inr ⟨rfl, fun j a b => by omega⟩
  | succ m ih =>
    intro i
    rw [show fdW tx p e (m + 1) i = bif isWb tx p e i then i else fdW tx p e m (i + 1) from rfl]
    by_cases c : isW tx p e i
    · have hb : isWb tx p e i = true := by unfold isWb; exact @decide_eq_true _ (Classical.propDecidable _) c
      rw [hb, cond_true]
      exact Or.inl ⟨Nat.le_refl _, by omega, c⟩
    · have hb : isWb tx p e i = false := by unfold isWb; exact @decide_eq_false _ (Classical.propDecidable _) c
      rw [hb, cond_false]
      rcases ih (i + 1) with ⟨a, b, d⟩ | ⟨a, b⟩
      · exact Or.inl ⟨by omega, by omega, d⟩
      · refine Or.inr ⟨a, fun j h1 h2 => ?_⟩
        by_cases z : j = i
        · rw [z]; exact c
        · exact b j (by omega) (by omega)
theorem tk_W (hL : L ≤ 500) (hp : p < L) (hk : kd (tx p) ≠ 1) {i : Nat} (hi : i < 29) (h3 : 3 ≤ i) : tk tx L p = i ↔ isW tx p (en tx L p) i := by
  have he := en_gt (tx := tx) hL hp
  unfold tk
  rw [if_pos hp, if_neg hk]
  rcases fdW_r (tx := tx) (p := p) (e := en tx L p) 29 0 with ⟨_, b, c⟩ | ⟨b, c⟩
  · refine ⟨fun z => by rw [← z]; exact c, fun z => W_ij (by omega) hi (W_3 he c (by omega)) h3 c z⟩
  · rw [b]
    exact ⟨fun z => by omega, fun z => absurd z (c i (by omega) (by omega))⟩
theorem tk_1 (hL : L ≤ 500) : tk tx L p = 1 ↔ p < L ∧ kd (tx p) = 1 := by
  unfold tk
  by_cases hp : p < L
  · rw [if_pos hp]
    by_cases hk : kd (tx p) = 1
    · rw [if_pos hk]; exact ⟨fun _ => ⟨hp, hk⟩, fun _ => rfl⟩
    · rw [if_neg hk]
      refine ⟨fun z => ?_, fun z => absurd z.2 hk⟩
      rcases fdW_r (tx := tx) (p := p) (e := en tx L p) 29 0 with ⟨_, b, c⟩ | ⟨b, c⟩
      · rw [z] at c
        have h1 := c.1
        rw [xt_0 1 (by omega)] at h1
        have := en_gt (tx := tx) hL hp
        omega
      · omega
  · rw [if_neg hp]
    exact ⟨fun z => by omega, fun z => absurd z.1 hp⟩
theorem tk_0 (hL : L ≤ 500) : tk tx L p = 0 ↔ ¬ p < L := by
  by_cases hp : p < L
  · refine ⟨fun z => ?_, fun z => absurd hp z⟩
    have he := en_gt (tx := tx) hL hp
    by_cases hk : kd (tx p) = 1
    · have := (tk_1 hL).2 ⟨hp, hk⟩
      omega
    · unfold tk at z
      rw [if_pos hp, if_neg hk] at z
      rcases fdW_r (tx := tx) (p := p) (e := en tx L p) 29 0 with ⟨_, b, c⟩ | ⟨b, c⟩
      · have := W_3 he c (by omega)
        omega
      · omega
  · refine ⟨fun _ => hp, fun _ => ?_⟩
    unfold tk
    rw [if_neg hp]
theorem kd_nx (hL : L ≤ 500) (hx : nx tx L p = p) (hp : p < L) : kd (tx p) ≠ 0 := by
  have := ru_stop (tx := tx) (L := L) (k := 0) 500 p (by omega)
  have hx : ru tx L 0 500 p = p := hx
  rw [hx] at this
  exact fun z => this ⟨hp, z⟩
theorem tk_sg (hL : L ≤ 500) (ht : ∀ i, i < L → tx i < 256) {i : Nat} (hi : i < 10) (h3 : 3 ≤ i) : tk tx L p = i ↔ p < L ∧ tx p = sg i := by
  have hs := sg_lt i hi
  by_cases hp : p < L
  · by_cases hk : kd (tx p) = 1
    · have h1 := (tk_1 hL).2 ⟨hp, hk⟩
      refine ⟨fun z => by omega, fun z => ?_⟩
      rw [z.2] at hk
      omega
    · rw [tk_W hL hp hk (by omega) h3]
      unfold isW
      rw [sg_xt i hi h3]
      constructor
      · rintro ⟨a, b⟩
        exact ⟨hp, (sx_eq (ht p hp) hs.1).1 b.1⟩
      · rintro ⟨_, b⟩
        have hk3 : kd (tx p) = 3 := by rw [b]; exact hs.2
        unfold en
        rw [if_pos hk3]
        exact ⟨by show 1 = _; omega, (sx_eq (ht p hp) hs.1).2 b, trivial⟩
  · rw [(tk_0 hL).2 hp]
    exact ⟨fun z => by omega, fun z => absurd z.1 hp⟩
theorem sg_ad (hp : p < L) {i : Nat} (hi : i < 10) (h : tx p = sg i) : nx tx L (p + 1) = ad tx L p := by
  have hk3 : kd (tx p) = 3 := by rw [h]; exact (sg_lt i hi).2
  unfold ad en
  rw [if_pos hp, if_pos hk3]
end TK
