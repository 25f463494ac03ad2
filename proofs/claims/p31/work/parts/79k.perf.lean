/-! STEPS AND LOOKS keep what holds. -/
theorem gCanS_t {p : Nat} {g : Nat → Nat} (h : gCanS p g = true) : gBl g = true ∧ 0 < g 6 ∧ g 1 = p := by
  unfold gCanS at h
  have h1 := Bool.and_eq_true_iff.1 h
  have h2 := Bool.and_eq_true_iff.1 h1.2
  exact ⟨h1.1, by have := Nat.le_of_ble_eq_true h2.1; omega, Nat.eq_of_beq_eq_true h2.2⟩
theorem step_ok {bl : Bool} {k a b : Nat} {g : Nat → Nat} (I : iG g) (h : okS bl k a b g) : iG (gStep bl k a b g) ∧ (iFo g → iFo (gStep bl k a b g)) ∧ gStep bl k a b g 2 = g 2 + 1 ∧ gStep bl k a b g 3 ≤ g 3 + 1 := by
  have h8 := I.1.2.1
  have hab : k = 0 → a < 8 ∧ b < 8 := fun z => by have := h.2.1 (by omega); omega
  refine ⟨iG_step I h, iFo_cg (gStep_o I.2.1 hab (by omega) (by omega) (by omega) (by omega)) (fun i hi => gStep_o I.2.1 hab (by omega) (by omega) (by omega) (by omega)), gStep_2 I.2.1 hab, ?_⟩
  rw [gStep_3 I.2.1 hab]
  cases bl
  · show g 3 + 0 ≤ _; omega
  · show g 3 + 1 ≤ _; omega
theorem look_ok {p : Nat} {g : Nat → Nat} (I : iG g) (h : p < g 0) : iG (gLook p g) ∧ (iFo g → iFo (gLook p g)) ∧ gLook p g 2 = g 2 ∧ gLook p g 3 = g 3 := by
  have h8 := I.1.2.1
  exact ⟨iG_look I h, iFo_cg (gLook_n (by omega)) (fun i hi => gLook_n (by omega)), gLook_n (by omega), gLook_n (by omega)⟩
