/-! A COMMAND IS DONE, on both sides. -/
def GM (M : xSt) (w : Nat) (g : Nat → Nat) : Prop := M.1 0 3 = nI w ∧ w ≤ 9 ∧ ∀ k, k < 1100 → M.2.1 1 (1100 * w + k) = nI (g k)
/-- what the reference's step changes -/
def frS (w : Nat) (M M' : xSt) : Prop := M'.1 = M.1 ∧ (∀ j, j ≠ 1 → M'.2.1 j = M.2.1 j) ∧ (∀ i, i < 1100 * w ∨ 1100 * w + 1100 ≤ i → M'.2.1 1 i = M.2.1 1 i)
theorem frS_rf {w : Nat} {M : xSt} : frS w M M := ⟨rfl, fun _ _ => rfl, fun _ _ => rfl⟩
theorem frS_tr {w : Nat} {M M1 M2 : xSt} (h : frS w M M1) (h' : frS w M1 M2) : frS w M M2 := ⟨h'.1.trans h.1, fun j a => (h'.2.1 j a).trans (h.2.1 j a), fun i a => (h'.2.2 i a).trans (h.2.2 i a)⟩
theorem mS_self {M : xSt} {w : Nat} {g : Nat → Nat} (G : GM M w g) : mS M w g (M.2.2.2.1 3) = M := by
  have e : wr (M.2.1 1) w g = M.2.1 1 := by
    funext j
    unfold wr
    split
    · next c =>
      have := G.2.2 (j - 1100 * w) (by omega)
      rw [show 1100 * w + (j - 1100 * w) = j by omega] at this
      exact this.symm
    · rfl
  unfold mS
  rw [e, sA_self]
  unfold sG
  obtain ⟨a, b, c, e, f⟩ := M
  dsimp only
  congr 4
  funext q'
  split
  · next h => rw [h]
  · rfl
theorem GM_mS {M : xSt} {w : Nat} {g g' : Nat → Nat} {T : Nat → Int64} (G : GM M w g) : GM (mS M w g' T) w g' := by
  refine ⟨G.1, G.2.1, fun k hk => ?_⟩
  rw [mS_r, wr_at hk]
theorem frS_mS {M : xSt} {w : Nat} {g' : Nat → Nat} {T : Nat → Int64} : frS w M (mS M w g' T) := by
  refine ⟨rfl, fun j hj => mS_o hj, fun i hi => ?_⟩
  rw [mS_r]
  unfold wr
  rw [if_neg (by omega)]
theorem GM_fr {M M' : xSt} {w : Nat} {g : Nat → Nat} (G : GM M w g) (h3 : M'.1 0 3 = M.1 0 3) (h1 : M'.2.1 1 = M.2.1 1) : GM M' w g := ⟨h3.trans G.1, G.2.1, fun k hk => by rw [h1]; exact G.2.2 k hk⟩
def alw (K a b : Nat) (g : Nat → Nat) : Prop := (K ≤ 1 ∧ a < g 0 ∧ b < g 0 ∧ a ≠ b) ∨ K = 2 ∨ (K = 3 ∧ a < g 0 ∧ gCanS a g = true) ∨ (K = 4 ∧ a < g 0 ∧ gCanS (g 0) g = true) ∨ (K = 5 ∧ a < g 0)
def nxt (K a b : Nat) (g : Nat → Nat) : Nat → Nat := if K = 5 then gLook a g else if K ≤ 1 then gStep (gBl g) K a b g else if K = 2 then gStep (gBl g) 2 0 0 g else gStep (gBl g) K a 0 g
theorem gCanS_t {p : Nat} {g : Nat → Nat} (h : gCanS p g = true) : gBl g = true ∧ 0 < g 6 ∧ g 1 = p := by
  unfold gCanS at h
  have h1 := Bool.and_eq_true_iff.1 h
  have h2 := Bool.and_eq_true_iff.1 h1.2
  exact ⟨h1.1, by have := Nat.le_of_ble_eq_true h2.1; omega, Nat.eq_of_beq_eq_true h2.2⟩
theorem okS_alw {K a b : Nat} {g : Nat → Nat} (h : alw K a b g) (hK : K ≠ 5) : K ≤ 4 ∧ nxt K a b g = gStep (gBl g) K (if K = 2 then 0 else a) (if K ≤ 1 then b else 0) g ∧ okS (gBl g) K (if K = 2 then 0 else a) (if K ≤ 1 then b else 0) g := by
  unfold nxt okS
  rcases h with ⟨h1, h2, h3, h4⟩ | h | ⟨h1, h2, h3⟩ | ⟨h1, h2, h3⟩ | ⟨h1, h2⟩
  · rw [if_neg hK, if_pos h1, if_neg (show ¬ K = 2 by omega), if_pos h1]
    exact ⟨by omega, rfl, by omega, fun _ => ⟨h2, h3, h4⟩, fun z => absurd z (by omega), fun z => absurd z (by omega)⟩
  · subst h
    exact ⟨by omega, rfl, by omega, fun z => absurd z (by omega), fun z => absurd z (by omega), fun z => absurd z (by omega)⟩
  · subst h1
    obtain ⟨c1, c2, c3⟩ := gCanS_t h3
    exact ⟨by omega, rfl, by omega, fun z => absurd z (by omega), fun _ => ⟨c1, c2, by omega⟩, fun z => absurd z (by omega)⟩
  · subst h1
    obtain ⟨c1, c2, c3⟩ := gCanS_t h3
    exact ⟨by omega, rfl, by omega, fun z => absurd z (by omega), fun z => absurd z (by omega), fun _ => ⟨c1, c2, c3, h2⟩⟩
  · exact absurd h1 hK
theorem step_ok {bl : Bool} {k a b : Nat} {g : Nat → Nat} (I : iG g) (h : okS bl k a b g) : iG (gStep bl k a b g) ∧ (iFo g → iFo (gStep bl k a b g)) ∧ gStep bl k a b g 2 = g 2 + 1 ∧ gStep bl k a b g 3 ≤ g 3 + 1 := by
  have h8 := I.1.2.1
  have hab : k = 0 → a < 8 ∧ b < 8 := fun z => by have := h.2.1 (by omega); omega
  refine ⟨iG_step I h, iFo_cg (gStep_o I.2.1 hab (by omega) (by omega) (by omega) (by omega)) (fun i hi => gStep_o I.2.1 hab (by omega) (by omega) (by omega) (by omega)), gStep_2 I.2.1 hab, ?_⟩
  rw [gStep_3 I.2.1 hab]
  cases bl
  · show g 3 + 0 ≤ _; omega
  · show g 3 + 1 ≤ _; omega
theorem look_ok {p : Nat} {g : Nat → Nat} (I : iG g) (h : p < g 0) : iG (gLook p g) ∧ (iFo g → iFo (gLook p g)) ∧ gLook p g 2 = g 2 ∧ gLook p g 3 = g 3 := by
  have h8 := I.1.2.1
  exact ⟨iG_look I h, iFo_cg (gLook_n (by omega)) (fun i hi => gLook_n (by omega)), gLook_n (by omega), gLook_n (by omega)⟩
theorem nxt_ok {K a b : Nat} {g : Nat → Nat} (I : iG g) (h : alw K a b g) : iG (nxt K a b g) ∧ (iFo g → iFo (nxt K a b g)) ∧ nxt K a b g 2 ≤ g 2 + 1 ∧ nxt K a b g 3 ≤ g 3 + 1 := by
  by_cases hK : K = 5
  · have ha : a < g 0 := by
      rcases h with ⟨h1, h2, h3, h4⟩ | h | ⟨h1, h2, h3⟩ | ⟨h1, h2, h3⟩ | ⟨h1, h2⟩ <;> omega
    obtain ⟨a1, a2, a3, a4⟩ := look_ok I ha
    unfold nxt
    rw [if_pos hK]
    exact ⟨a1, a2, by omega, by omega⟩
  · obtain ⟨_, e, hok⟩ := okS_alw h hK
    obtain ⟨a1, a2, a3, a4⟩ := step_ok I hok
    rw [e]
    exact ⟨a1, a2, by omega, a4⟩
section PF
variable {E : xEn} {x y n m w : Nat} {sh : Nat → Option xSh} {S M : xSt} {g : Nat → Nat}
theorem g_steps (G : GM M w g) (I : iG g) {k a b : Nat} (h : okS (gBl g) k a b g) (ha : a < 2 ^ 31) (hb : b < 2 ^ 31) (u : Nat) : ∃ M', xsem xT E (u + 6) kX11_steps [.ref y, .int (nI k), .int (nI a), .int (nI b)] (wW E y shM M, m) = some (.inl (some (.int (nI (gBl g).toNat))), (wW E y shM M', m)) ∧ GM M' w (gStep (gBl g) k a b g) ∧ frS w M M' := by
  obtain ⟨T', e⟩ := m_steps (E := E) (x := y) (n := m) (S := M) (T := M.2.2.2.1 3) G.1 G.2.1 I h.1 ha hb h.2.1 (fun z => by
    by_cases c : k = 3
    · exact (h.2.2.1 c).1
    · exact (h.2.2.2 (by have := h.1; omega)).1) u
  rw [mS_self G] at e
  exact ⟨_, e, GM_mS G, frS_mS⟩
theorem g_looks (G : GM M w g) (I : iG g) {p : Nat} (hp : p < g 0) (u : Nat) : ∃ M', xsem xT E (u + 4) kX11_looks [.ref y, .int (nI p)] (wW E y shM M, m) = some (.inl (some (.int (nI (if g 1 = p then 1 else 0)))), (wW E y shM M', m)) ∧ GM M' w (gLook p g) ∧ frS w M M' := by
  obtain ⟨T', e⟩ := m_looks (E := E) (x := y) (n := m) (S := M) (T := M.2.2.2.1 3) G.1 G.2.1 I hp u
  rw [mS_self G] at e
  exact ⟨_, e, GM_mS G, frS_mS⟩
theorem g_isPlace (G : GM M w g) (I : iG g) {a : Nat} (ha : a < 2 ^ 31) (u : Nat) : xsem xT E (u + 3) kX11_isPlace [.ref y, .int (nI a)] (wW E y shM M, m) = some (.inl (some (.int (nI (if a < g 0 then 1 else 0)))), (wW E y shM M, m)) := by
  by_cases c : a < g 0
  · have e := m_isPlace_t (E := E) (x := y) (n := m) (S := M) (T := M.2.2.2.1 3) G.1 G.2.1 I.1.2.1 c u
    rw [mS_self G] at e
    rw [e, if_pos c]
  · have e := m_isPlace_f (E := E) (x := y) (n := m) (S := M) (T := M.2.2.2.1 3) (a := nI a) G.1 G.2.1 I.1.1 I.1.2.1 (Or.inr (nI_le (by omega) ha)) u
    rw [mS_self G] at e
    rw [e, if_neg c]
theorem g_canSteal (G : GM M w g) (I : iG g) {p : Nat} (hp : p < g 0) (u : Nat) : xsem xT E (u + 4) kX11_canSteal [.ref y, .int (nI p)] (wW E y shM M, m) = some (.inl (some (.int (nI (gCanS p g).toNat))), (wW E y shM M, m)) := by
  have e := m_canSteal (E := E) (x := y) (n := m) (S := M) (T := M.2.2.2.1 3) G.1 G.2.1 I hp u
  rw [mS_self G] at e
  exact e
theorem g_canPlant (G : GM M w g) (I : iG g) (u : Nat) : xsem xT E (u + 4) kX11_canPlant [.ref y] (wW E y shM M, m) = some (.inl (some (.int (nI (gCanS (g 0) g).toNat))), (wW E y shM M, m)) := by
  have e := m_canPlant (E := E) (x := y) (n := m) (S := M) (T := M.2.2.2.1 3) G.1 G.2.1 I u
  rw [mS_self G] at e
  exact e
theorem if_same {α : Sort _} {c : Prop} [Decidable c] {a : α} : (if c then a else a) = a := by split <;> rfl
theorem m_does (G : GM M w g) (I : iG g) {k K a b : Nat} (hk : k < 60) (hK : K ≤ 5) (h6 : M.2.1 6 k = nI K) (h7 : K ≠ 2 → M.2.1 7 k = nI a) (h8 : K ≤ 1 → M.2.1 8 k = nI b) (ha : a ≤ 9999) (hb : b ≤ 9999) (u : Nat) :
    (alw K a b g → ∃ M', xsem xT E (u + 7) kX11_does [.ref y, .int (nI k)] (wW E y shM M, m) = some (.inl (some (.int (nI 1))), (wW E y shM M', m)) ∧ GM M' w (nxt K a b g) ∧ frS w M M') ∧ (¬ alw K a b g → xsem xT E (u + 7) kX11_does [.ref y, .int (nI k)] (wW E y shM M, m) = some (.inl (some (.int (nI 0))), (wW E y shM M, m))) := by
  have hpl := fun (v : Nat) (hv : v ≤ 9999) => g_isPlace (E := E) (y := y) (m := m) G I (a := v) (by omega) (u + 3)
  have hst : alw K a b g → K ≠ 5 → ∃ M', xsem xT E (u + 6) kX11_steps [.ref y, .int (nI K), .int (nI (if K = 2 then 0 else a)), .int (nI (if K ≤ 1 then b else 0))] (wW E y shM M, m) = some (.inl (some (.int (nI (gBl g).toNat))), (wW E y shM M', m)) ∧ GM M' w (nxt K a b g) ∧ frS w M M' := by
    intro h h5
    obtain ⟨_, e, hok⟩ := okS_alw h h5
    rw [e]
    exact g_steps G I hok (by split <;> omega) (by split <;> omega) u
  have hc : K ≤ 1 ∨ K = 2 ∨ K = 3 ∨ K = 4 ∨ K = 5 := by omega
  rw [eX11_does, QX11_does_0]
  rcases hc with c | c | c | c | c
  · have h7 := h7 (by omega)
    have h8 := h8 c
    have hhead : ∀ r, qX11_does_48 E (u + 6) y (nI k) (nI a) (wW E y shM M, m) = r → (gR (wW E y shM M, m) 9 18 y (fun v1 => aI (wW E y shM M, m) v1 (nI k) (fun v2 => gR (wW E y shM M, m) 9 17 y (fun v3 => aI (wW E y shM M, m) v3 (nI k) (fun v4 => if v4 = nI 0 then qX11_does_48 E (u + 6) y (nI k) v2 (wW E y shM M, m) else if v4 = nI 1 then qX11_does_48 E (u + 6) y (nI k) v2 (wW E y shM M, m) else if v4 = nI 2 then qX11_does_103 E (u + 6) y (wW E y shM M, m) else if v4 = nI 3 then qX11_does_115 E (u + 6) y v2 (wW E y shM M, m) else if v4 = nI 4 then qX11_does_145 E (u + 6) y v2 (wW E y shM M, m) else qX11_does_174 E (u + 6) y v2 (wW E y shM M, m)))))) = r := by
      intro r hr
      rw [← hr]
      simp (disch := omega) only [gO_9 hM0, gI_9_0 hM0, gP_9_0 hM0, gR_9_1 hM0, gR_9_2 hM0, gI_9_3 hM0, gP_9_3 hM0, gI_9_4 hM0, gP_9_4 hM0, gR_9_5 hM0, gR_9_6 hM0, gR_9_7 hM0, gI_9_8 hM0, gP_9_8 hM0, gI_9_9 hM0, gP_9_9 hM0, gI_9_10 hM0, gP_9_10 hM0, gI_9_11 hM0, gP_9_11 hM0, gI_9_12 hM0, gP_9_12 hM0, gI_9_13 hM0, gP_9_13 hM0, gI_9_14 hM0, gP_9_14 hM0, gI_9_15 hM0, gP_9_15 hM0, gI_9_16 hM0, gP_9_16 hM0, gR_9_17 hM0, gR_9_18 hM0, gR_9_19 hM0, gR_9_20 hM0, gI_9_21 hM0, gP_9_21 hM0, gI_9_22 hM0, gP_9_22 hM0, gI_9_23 hM0, gP_9_23 hM0, gI_9_24 hM0, gP_9_24 hM0, gR_9_25 hM0, gI_9_26 hM0, gP_9_26 hM0, gI_9_27 hM0, gP_9_27 hM0, gI_9_28 hM0, gP_9_28 hM0, gL_9_29 hM0, gP_9_29 hM0, gL_9_30 hM0, gP_9_30 hM0, aI_w hM7, h7, aI_w hM6, h6, cI_s, cL_s, cF_s, cD_s, cA_s, cV_s, nI_add, cond_true, cond_false, if_true, if_false]
      by_cases z : K = 0
      · rw [iEQ_t z]
      · rw [iEQ_f z (by omega) (by omega), iEQ_t (show K = 1 by omega)]
    refine ⟨fun h => ?_, fun h => ?_⟩
    · have hx : a < g 0 ∧ b < g 0 ∧ a ≠ b := by
        rcases h with h | h | h | h | h <;> omega
      obtain ⟨M', e1, e2, e3⟩ := hst h (by omega)
      rw [if_neg (show ¬ K = 2 by omega), if_pos c] at e1
      refine ⟨M', hhead _ ?_, e2, e3⟩
      rw [QX11_does_48]
      simp (disch := omega) only [gO_9 hM0, gI_9_0 hM0, gP_9_0 hM0, gR_9_1 hM0, gR_9_2 hM0, gI_9_3 hM0, gP_9_3 hM0, gI_9_4 hM0, gP_9_4 hM0, gR_9_5 hM0, gR_9_6 hM0, gR_9_7 hM0, gI_9_8 hM0, gP_9_8 hM0, gI_9_9 hM0, gP_9_9 hM0, gI_9_10 hM0, gP_9_10 hM0, gI_9_11 hM0, gP_9_11 hM0, gI_9_12 hM0, gP_9_12 hM0, gI_9_13 hM0, gP_9_13 hM0, gI_9_14 hM0, gP_9_14 hM0, gI_9_15 hM0, gP_9_15 hM0, gI_9_16 hM0, gP_9_16 hM0, gR_9_17 hM0, gR_9_18 hM0, gR_9_19 hM0, gR_9_20 hM0, gI_9_21 hM0, gP_9_21 hM0, gI_9_22 hM0, gP_9_22 hM0, gI_9_23 hM0, gP_9_23 hM0, gI_9_24 hM0, gP_9_24 hM0, gR_9_25 hM0, gI_9_26 hM0, gP_9_26 hM0, gI_9_27 hM0, gP_9_27 hM0, gI_9_28 hM0, gP_9_28 hM0, gL_9_29 hM0, gP_9_29 hM0, gL_9_30 hM0, gP_9_30 hM0, hpl a ha, if_pos hx.1, iEQ_f, aI_w hM8, h8, hpl b hb, if_pos hx.2.1, iEQ_f hx.2.2, QX11_does_81, aI_w hM6, h6, cI_s, cL_s, cF_s, cD_s, cA_s, cV_s, nI_add, cond_true, cond_false, if_true, if_false]
      rw [e1]
      simp (disch := omega) only [if_same, QX11_does_101, xret5_1, cI_s, cL_s, cF_s, cD_s, cA_s, cV_s, nI_add, cond_true, cond_false, if_true, if_false]
    · refine hhead _ ?_
      rw [QX11_does_48]
      by_cases c1 : a < g 0
      · by_cases c2 : b < g 0
        · have c3 : a = b := by
            by_cases z : a = b
            · exact z
            · exact absurd (Or.inl ⟨c, c1, c2, z⟩) h
          simp (disch := omega) only [gO_9 hM0, gI_9_0 hM0, gP_9_0 hM0, gR_9_1 hM0, gR_9_2 hM0, gI_9_3 hM0, gP_9_3 hM0, gI_9_4 hM0, gP_9_4 hM0, gR_9_5 hM0, gR_9_6 hM0, gR_9_7 hM0, gI_9_8 hM0, gP_9_8 hM0, gI_9_9 hM0, gP_9_9 hM0, gI_9_10 hM0, gP_9_10 hM0, gI_9_11 hM0, gP_9_11 hM0, gI_9_12 hM0, gP_9_12 hM0, gI_9_13 hM0, gP_9_13 hM0, gI_9_14 hM0, gP_9_14 hM0, gI_9_15 hM0, gP_9_15 hM0, gI_9_16 hM0, gP_9_16 hM0, gR_9_17 hM0, gR_9_18 hM0, gR_9_19 hM0, gR_9_20 hM0, gI_9_21 hM0, gP_9_21 hM0, gI_9_22 hM0, gP_9_22 hM0, gI_9_23 hM0, gP_9_23 hM0, gI_9_24 hM0, gP_9_24 hM0, gR_9_25 hM0, gI_9_26 hM0, gP_9_26 hM0, gI_9_27 hM0, gP_9_27 hM0, gI_9_28 hM0, gP_9_28 hM0, gL_9_29 hM0, gP_9_29 hM0, gL_9_30 hM0, gP_9_30 hM0, hpl a ha, if_pos c1, iEQ_f, aI_w hM8, h8, hpl b hb, if_pos c2, iEQ_t c3, QX11_does_79, xret5_0, cI_s, cL_s, cF_s, cD_s, cA_s, cV_s, nI_add, cond_true, cond_false, if_true, if_false]
        · simp (disch := omega) only [gO_9 hM0, gI_9_0 hM0, gP_9_0 hM0, gR_9_1 hM0, gR_9_2 hM0, gI_9_3 hM0, gP_9_3 hM0, gI_9_4 hM0, gP_9_4 hM0, gR_9_5 hM0, gR_9_6 hM0, gR_9_7 hM0, gI_9_8 hM0, gP_9_8 hM0, gI_9_9 hM0, gP_9_9 hM0, gI_9_10 hM0, gP_9_10 hM0, gI_9_11 hM0, gP_9_11 hM0, gI_9_12 hM0, gP_9_12 hM0, gI_9_13 hM0, gP_9_13 hM0, gI_9_14 hM0, gP_9_14 hM0, gI_9_15 hM0, gP_9_15 hM0, gI_9_16 hM0, gP_9_16 hM0, gR_9_17 hM0, gR_9_18 hM0, gR_9_19 hM0, gR_9_20 hM0, gI_9_21 hM0, gP_9_21 hM0, gI_9_22 hM0, gP_9_22 hM0, gI_9_23 hM0, gP_9_23 hM0, gI_9_24 hM0, gP_9_24 hM0, gR_9_25 hM0, gI_9_26 hM0, gP_9_26 hM0, gI_9_27 hM0, gP_9_27 hM0, gI_9_28 hM0, gP_9_28 hM0, gL_9_29 hM0, gP_9_29 hM0, gL_9_30 hM0, gP_9_30 hM0, hpl a ha, if_pos c1, iEQ_f, aI_w hM8, h8, hpl b hb, if_neg c2, iEQ_t, QX11_does_79, xret5_0, cI_s, cL_s, cF_s, cD_s, cA_s, cV_s, nI_add, cond_true, cond_false, if_true, if_false]
      · simp (disch := omega) only [gO_9 hM0, gI_9_0 hM0, gP_9_0 hM0, gR_9_1 hM0, gR_9_2 hM0, gI_9_3 hM0, gP_9_3 hM0, gI_9_4 hM0, gP_9_4 hM0, gR_9_5 hM0, gR_9_6 hM0, gR_9_7 hM0, gI_9_8 hM0, gP_9_8 hM0, gI_9_9 hM0, gP_9_9 hM0, gI_9_10 hM0, gP_9_10 hM0, gI_9_11 hM0, gP_9_11 hM0, gI_9_12 hM0, gP_9_12 hM0, gI_9_13 hM0, gP_9_13 hM0, gI_9_14 hM0, gP_9_14 hM0, gI_9_15 hM0, gP_9_15 hM0, gI_9_16 hM0, gP_9_16 hM0, gR_9_17 hM0, gR_9_18 hM0, gR_9_19 hM0, gR_9_20 hM0, gI_9_21 hM0, gP_9_21 hM0, gI_9_22 hM0, gP_9_22 hM0, gI_9_23 hM0, gP_9_23 hM0, gI_9_24 hM0, gP_9_24 hM0, gR_9_25 hM0, gI_9_26 hM0, gP_9_26 hM0, gI_9_27 hM0, gP_9_27 hM0, gI_9_28 hM0, gP_9_28 hM0, gL_9_29 hM0, gP_9_29 hM0, gL_9_30 hM0, gP_9_30 hM0, hpl a ha, if_neg c1, iEQ_t, QX11_does_79, xret5_0, cI_s, cL_s, cF_s, cD_s, cA_s, cV_s, nI_add, cond_true, cond_false, if_true, if_false]
  · subst c
    refine ⟨fun h => ?_, fun h => absurd (Or.inr (Or.inl rfl)) h⟩
    obtain ⟨M', e1, e2, e3⟩ := hst h (by omega)
    refine ⟨M', ?_, e2, e3⟩
    simp (disch := omega) only [gO_9 hM0, gI_9_0 hM0, gP_9_0 hM0, gR_9_1 hM0, gR_9_2 hM0, gI_9_3 hM0, gP_9_3 hM0, gI_9_4 hM0, gP_9_4 hM0, gR_9_5 hM0, gR_9_6 hM0, gR_9_7 hM0, gI_9_8 hM0, gP_9_8 hM0, gI_9_9 hM0, gP_9_9 hM0, gI_9_10 hM0, gP_9_10 hM0, gI_9_11 hM0, gP_9_11 hM0, gI_9_12 hM0, gP_9_12 hM0, gI_9_13 hM0, gP_9_13 hM0, gI_9_14 hM0, gP_9_14 hM0, gI_9_15 hM0, gP_9_15 hM0, gI_9_16 hM0, gP_9_16 hM0, gR_9_17 hM0, gR_9_18 hM0, gR_9_19 hM0, gR_9_20 hM0, gI_9_21 hM0, gP_9_21 hM0, gI_9_22 hM0, gP_9_22 hM0, gI_9_23 hM0, gP_9_23 hM0, gI_9_24 hM0, gP_9_24 hM0, gR_9_25 hM0, gI_9_26 hM0, gP_9_26 hM0, gI_9_27 hM0, gP_9_27 hM0, gI_9_28 hM0, gP_9_28 hM0, gL_9_29 hM0, gP_9_29 hM0, gL_9_30 hM0, gP_9_30 hM0, aI_w hM7, aI_w hM6, h6, iEQ_f, QX11_does_103, cI_s, cL_s, cF_s, cD_s, cA_s, cV_s, nI_add, cond_true, cond_false, if_true, if_false]
    rw [show (if 2 = 2 then 0 else a) = 0 from rfl, show (if 2 ≤ 1 then b else 0) = 0 from rfl] at e1
    rw [e1]
    simp (disch := omega) only [if_same, QX11_does_113, xret5_1, cI_s, cL_s, cF_s, cD_s, cA_s, cV_s, nI_add, cond_true, cond_false, if_true, if_false]
  · subst c
    have h7 := h7 (by omega)
    refine ⟨fun h => ?_, fun h => ?_⟩
    · have hx : a < g 0 ∧ gCanS a g = true := by
        rcases h with h | h | h | h | h
        · omega
        · omega
        · exact h.2
        · omega
        · omega
      obtain ⟨M', e1, e2, e3⟩ := hst h (by omega)
      refine ⟨M', ?_, e2, e3⟩
      have hcs := g_canSteal (E := E) (y := y) (m := m) G I hx.1 (u + 2)
      rw [hx.2] at hcs
      simp (disch := omega) only [gO_9 hM0, gI_9_0 hM0, gP_9_0 hM0, gR_9_1 hM0, gR_9_2 hM0, gI_9_3 hM0, gP_9_3 hM0, gI_9_4 hM0, gP_9_4 hM0, gR_9_5 hM0, gR_9_6 hM0, gR_9_7 hM0, gI_9_8 hM0, gP_9_8 hM0, gI_9_9 hM0, gP_9_9 hM0, gI_9_10 hM0, gP_9_10 hM0, gI_9_11 hM0, gP_9_11 hM0, gI_9_12 hM0, gP_9_12 hM0, gI_9_13 hM0, gP_9_13 hM0, gI_9_14 hM0, gP_9_14 hM0, gI_9_15 hM0, gP_9_15 hM0, gI_9_16 hM0, gP_9_16 hM0, gR_9_17 hM0, gR_9_18 hM0, gR_9_19 hM0, gR_9_20 hM0, gI_9_21 hM0, gP_9_21 hM0, gI_9_22 hM0, gP_9_22 hM0, gI_9_23 hM0, gP_9_23 hM0, gI_9_24 hM0, gP_9_24 hM0, gR_9_25 hM0, gI_9_26 hM0, gP_9_26 hM0, gI_9_27 hM0, gP_9_27 hM0, gI_9_28 hM0, gP_9_28 hM0, gL_9_29 hM0, gP_9_29 hM0, gL_9_30 hM0, gP_9_30 hM0, aI_w hM7, aI_w hM6, h6, iEQ_f, h7, QX11_does_115, hpl a ha, if_pos hx.1, cI_s, cL_s, cF_s, cD_s, cA_s, cV_s, nI_add, cond_true, cond_false, if_true, if_false]
      rw [hcs]
      simp (disch := omega) only [Bool.toNat_true, iEQ_f, QX11_does_133, gO_9 hM0, gI_9_0 hM0, gP_9_0 hM0, gR_9_1 hM0, gR_9_2 hM0, gI_9_3 hM0, gP_9_3 hM0, gI_9_4 hM0, gP_9_4 hM0, gR_9_5 hM0, gR_9_6 hM0, gR_9_7 hM0, gI_9_8 hM0, gP_9_8 hM0, gI_9_9 hM0, gP_9_9 hM0, gI_9_10 hM0, gP_9_10 hM0, gI_9_11 hM0, gP_9_11 hM0, gI_9_12 hM0, gP_9_12 hM0, gI_9_13 hM0, gP_9_13 hM0, gI_9_14 hM0, gP_9_14 hM0, gI_9_15 hM0, gP_9_15 hM0, gI_9_16 hM0, gP_9_16 hM0, gR_9_17 hM0, gR_9_18 hM0, gR_9_19 hM0, gR_9_20 hM0, gI_9_21 hM0, gP_9_21 hM0, gI_9_22 hM0, gP_9_22 hM0, gI_9_23 hM0, gP_9_23 hM0, gI_9_24 hM0, gP_9_24 hM0, gR_9_25 hM0, gI_9_26 hM0, gP_9_26 hM0, gI_9_27 hM0, gP_9_27 hM0, gI_9_28 hM0, gP_9_28 hM0, gL_9_29 hM0, gP_9_29 hM0, gL_9_30 hM0, gP_9_30 hM0, cI_s, cL_s, cF_s, cD_s, cA_s, cV_s, nI_add, cond_true, cond_false, if_true, if_false]
      rw [show (if 3 = 2 then 0 else a) = a from rfl, show (if 3 ≤ 1 then b else 0) = 0 from rfl] at e1
      rw [e1]
      simp (disch := omega) only [if_same, QX11_does_143, xret5_1, cI_s, cL_s, cF_s, cD_s, cA_s, cV_s, nI_add, cond_true, cond_false, if_true, if_false]
    · by_cases c1 : a < g 0
      · have c2 : gCanS a g = false := by
          cases z : gCanS a g with
          | true => exact absurd (Or.inr (Or.inr (Or.inl ⟨rfl, c1, z⟩))) h
          | false => rfl
        have hcs := g_canSteal (E := E) (y := y) (m := m) G I c1 (u + 2)
        rw [c2] at hcs
        simp (disch := omega) only [gO_9 hM0, gI_9_0 hM0, gP_9_0 hM0, gR_9_1 hM0, gR_9_2 hM0, gI_9_3 hM0, gP_9_3 hM0, gI_9_4 hM0, gP_9_4 hM0, gR_9_5 hM0, gR_9_6 hM0, gR_9_7 hM0, gI_9_8 hM0, gP_9_8 hM0, gI_9_9 hM0, gP_9_9 hM0, gI_9_10 hM0, gP_9_10 hM0, gI_9_11 hM0, gP_9_11 hM0, gI_9_12 hM0, gP_9_12 hM0, gI_9_13 hM0, gP_9_13 hM0, gI_9_14 hM0, gP_9_14 hM0, gI_9_15 hM0, gP_9_15 hM0, gI_9_16 hM0, gP_9_16 hM0, gR_9_17 hM0, gR_9_18 hM0, gR_9_19 hM0, gR_9_20 hM0, gI_9_21 hM0, gP_9_21 hM0, gI_9_22 hM0, gP_9_22 hM0, gI_9_23 hM0, gP_9_23 hM0, gI_9_24 hM0, gP_9_24 hM0, gR_9_25 hM0, gI_9_26 hM0, gP_9_26 hM0, gI_9_27 hM0, gP_9_27 hM0, gI_9_28 hM0, gP_9_28 hM0, gL_9_29 hM0, gP_9_29 hM0, gL_9_30 hM0, gP_9_30 hM0, aI_w hM7, aI_w hM6, h6, iEQ_f, h7, QX11_does_115, hpl a ha, if_pos c1, cI_s, cL_s, cF_s, cD_s, cA_s, cV_s, nI_add, cond_true, cond_false, if_true, if_false]
        rw [hcs]
        simp (disch := omega) only [Bool.toNat_false, iEQ_t, QX11_does_131, xret5_0, cI_s, cL_s, cF_s, cD_s, cA_s, cV_s, nI_add, cond_true, cond_false, if_true, if_false]
      · simp (disch := omega) only [gO_9 hM0, gI_9_0 hM0, gP_9_0 hM0, gR_9_1 hM0, gR_9_2 hM0, gI_9_3 hM0, gP_9_3 hM0, gI_9_4 hM0, gP_9_4 hM0, gR_9_5 hM0, gR_9_6 hM0, gR_9_7 hM0, gI_9_8 hM0, gP_9_8 hM0, gI_9_9 hM0, gP_9_9 hM0, gI_9_10 hM0, gP_9_10 hM0, gI_9_11 hM0, gP_9_11 hM0, gI_9_12 hM0, gP_9_12 hM0, gI_9_13 hM0, gP_9_13 hM0, gI_9_14 hM0, gP_9_14 hM0, gI_9_15 hM0, gP_9_15 hM0, gI_9_16 hM0, gP_9_16 hM0, gR_9_17 hM0, gR_9_18 hM0, gR_9_19 hM0, gR_9_20 hM0, gI_9_21 hM0, gP_9_21 hM0, gI_9_22 hM0, gP_9_22 hM0, gI_9_23 hM0, gP_9_23 hM0, gI_9_24 hM0, gP_9_24 hM0, gR_9_25 hM0, gI_9_26 hM0, gP_9_26 hM0, gI_9_27 hM0, gP_9_27 hM0, gI_9_28 hM0, gP_9_28 hM0, gL_9_29 hM0, gP_9_29 hM0, gL_9_30 hM0, gP_9_30 hM0, aI_w hM7, aI_w hM6, h6, iEQ_f, h7, QX11_does_115, hpl a ha, if_neg c1, iEQ_t, QX11_does_131, xret5_0, cI_s, cL_s, cF_s, cD_s, cA_s, cV_s, nI_add, cond_true, cond_false, if_true, if_false]
  · subst c
    have h7 := h7 (by omega)
    have hcs := g_canPlant (E := E) (y := y) (m := m) G I (u + 2)
    refine ⟨fun h => ?_, fun h => ?_⟩
    · have hx : a < g 0 ∧ gCanS (g 0) g = true := by
        rcases h with h | h | h | h | h
        · omega
        · omega
        · omega
        · exact h.2
        · omega
      obtain ⟨M', e1, e2, e3⟩ := hst h (by omega)
      refine ⟨M', ?_, e2, e3⟩
      rw [hx.2] at hcs
      simp (disch := omega) only [gO_9 hM0, gI_9_0 hM0, gP_9_0 hM0, gR_9_1 hM0, gR_9_2 hM0, gI_9_3 hM0, gP_9_3 hM0, gI_9_4 hM0, gP_9_4 hM0, gR_9_5 hM0, gR_9_6 hM0, gR_9_7 hM0, gI_9_8 hM0, gP_9_8 hM0, gI_9_9 hM0, gP_9_9 hM0, gI_9_10 hM0, gP_9_10 hM0, gI_9_11 hM0, gP_9_11 hM0, gI_9_12 hM0, gP_9_12 hM0, gI_9_13 hM0, gP_9_13 hM0, gI_9_14 hM0, gP_9_14 hM0, gI_9_15 hM0, gP_9_15 hM0, gI_9_16 hM0, gP_9_16 hM0, gR_9_17 hM0, gR_9_18 hM0, gR_9_19 hM0, gR_9_20 hM0, gI_9_21 hM0, gP_9_21 hM0, gI_9_22 hM0, gP_9_22 hM0, gI_9_23 hM0, gP_9_23 hM0, gI_9_24 hM0, gP_9_24 hM0, gR_9_25 hM0, gI_9_26 hM0, gP_9_26 hM0, gI_9_27 hM0, gP_9_27 hM0, gI_9_28 hM0, gP_9_28 hM0, gL_9_29 hM0, gP_9_29 hM0, gL_9_30 hM0, gP_9_30 hM0, aI_w hM7, aI_w hM6, h6, iEQ_f, h7, QX11_does_145, hpl a ha, if_pos hx.1, cI_s, cL_s, cF_s, cD_s, cA_s, cV_s, nI_add, cond_true, cond_false, if_true, if_false]
      rw [hcs]
      simp (disch := omega) only [Bool.toNat_true, iEQ_f, QX11_does_162, gO_9 hM0, gI_9_0 hM0, gP_9_0 hM0, gR_9_1 hM0, gR_9_2 hM0, gI_9_3 hM0, gP_9_3 hM0, gI_9_4 hM0, gP_9_4 hM0, gR_9_5 hM0, gR_9_6 hM0, gR_9_7 hM0, gI_9_8 hM0, gP_9_8 hM0, gI_9_9 hM0, gP_9_9 hM0, gI_9_10 hM0, gP_9_10 hM0, gI_9_11 hM0, gP_9_11 hM0, gI_9_12 hM0, gP_9_12 hM0, gI_9_13 hM0, gP_9_13 hM0, gI_9_14 hM0, gP_9_14 hM0, gI_9_15 hM0, gP_9_15 hM0, gI_9_16 hM0, gP_9_16 hM0, gR_9_17 hM0, gR_9_18 hM0, gR_9_19 hM0, gR_9_20 hM0, gI_9_21 hM0, gP_9_21 hM0, gI_9_22 hM0, gP_9_22 hM0, gI_9_23 hM0, gP_9_23 hM0, gI_9_24 hM0, gP_9_24 hM0, gR_9_25 hM0, gI_9_26 hM0, gP_9_26 hM0, gI_9_27 hM0, gP_9_27 hM0, gI_9_28 hM0, gP_9_28 hM0, gL_9_29 hM0, gP_9_29 hM0, gL_9_30 hM0, gP_9_30 hM0, cI_s, cL_s, cF_s, cD_s, cA_s, cV_s, nI_add, cond_true, cond_false, if_true, if_false]
      rw [show (if 4 = 2 then 0 else a) = a from rfl, show (if 4 ≤ 1 then b else 0) = 0 from rfl] at e1
      rw [e1]
      simp (disch := omega) only [if_same, QX11_does_172, xret5_1, cI_s, cL_s, cF_s, cD_s, cA_s, cV_s, nI_add, cond_true, cond_false, if_true, if_false]
    · by_cases c1 : a < g 0
      · have c2 : gCanS (g 0) g = false := by
          cases z : gCanS (g 0) g with
          | true => exact absurd (Or.inr (Or.inr (Or.inr (Or.inl ⟨rfl, c1, z⟩)))) h
          | false => rfl
        rw [c2] at hcs
        simp (disch := omega) only [gO_9 hM0, gI_9_0 hM0, gP_9_0 hM0, gR_9_1 hM0, gR_9_2 hM0, gI_9_3 hM0, gP_9_3 hM0, gI_9_4 hM0, gP_9_4 hM0, gR_9_5 hM0, gR_9_6 hM0, gR_9_7 hM0, gI_9_8 hM0, gP_9_8 hM0, gI_9_9 hM0, gP_9_9 hM0, gI_9_10 hM0, gP_9_10 hM0, gI_9_11 hM0, gP_9_11 hM0, gI_9_12 hM0, gP_9_12 hM0, gI_9_13 hM0, gP_9_13 hM0, gI_9_14 hM0, gP_9_14 hM0, gI_9_15 hM0, gP_9_15 hM0, gI_9_16 hM0, gP_9_16 hM0, gR_9_17 hM0, gR_9_18 hM0, gR_9_19 hM0, gR_9_20 hM0, gI_9_21 hM0, gP_9_21 hM0, gI_9_22 hM0, gP_9_22 hM0, gI_9_23 hM0, gP_9_23 hM0, gI_9_24 hM0, gP_9_24 hM0, gR_9_25 hM0, gI_9_26 hM0, gP_9_26 hM0, gI_9_27 hM0, gP_9_27 hM0, gI_9_28 hM0, gP_9_28 hM0, gL_9_29 hM0, gP_9_29 hM0, gL_9_30 hM0, gP_9_30 hM0, aI_w hM7, aI_w hM6, h6, iEQ_f, h7, QX11_does_145, hpl a ha, if_pos c1, cI_s, cL_s, cF_s, cD_s, cA_s, cV_s, nI_add, cond_true, cond_false, if_true, if_false]
        rw [hcs]
        simp (disch := omega) only [Bool.toNat_false, iEQ_t, QX11_does_160, xret5_0, cI_s, cL_s, cF_s, cD_s, cA_s, cV_s, nI_add, cond_true, cond_false, if_true, if_false]
      · simp (disch := omega) only [gO_9 hM0, gI_9_0 hM0, gP_9_0 hM0, gR_9_1 hM0, gR_9_2 hM0, gI_9_3 hM0, gP_9_3 hM0, gI_9_4 hM0, gP_9_4 hM0, gR_9_5 hM0, gR_9_6 hM0, gR_9_7 hM0, gI_9_8 hM0, gP_9_8 hM0, gI_9_9 hM0, gP_9_9 hM0, gI_9_10 hM0, gP_9_10 hM0, gI_9_11 hM0, gP_9_11 hM0, gI_9_12 hM0, gP_9_12 hM0, gI_9_13 hM0, gP_9_13 hM0, gI_9_14 hM0, gP_9_14 hM0, gI_9_15 hM0, gP_9_15 hM0, gI_9_16 hM0, gP_9_16 hM0, gR_9_17 hM0, gR_9_18 hM0, gR_9_19 hM0, gR_9_20 hM0, gI_9_21 hM0, gP_9_21 hM0, gI_9_22 hM0, gP_9_22 hM0, gI_9_23 hM0, gP_9_23 hM0, gI_9_24 hM0, gP_9_24 hM0, gR_9_25 hM0, gI_9_26 hM0, gP_9_26 hM0, gI_9_27 hM0, gP_9_27 hM0, gI_9_28 hM0, gP_9_28 hM0, gL_9_29 hM0, gP_9_29 hM0, gL_9_30 hM0, gP_9_30 hM0, aI_w hM7, aI_w hM6, h6, iEQ_f, h7, QX11_does_145, hpl a ha, if_neg c1, iEQ_t, QX11_does_160, xret5_0, cI_s, cL_s, cF_s, cD_s, cA_s, cV_s, nI_add, cond_true, cond_false, if_true, if_false]
  · subst c
    have h7 := h7 (by omega)
    refine ⟨fun h => ?_, fun h => ?_⟩
    · have hx : a < g 0 := by
        rcases h with h | h | h | h | h <;> omega
      obtain ⟨M', e1, e2, e3⟩ := g_looks (E := E) (y := y) (m := m) G I hx (u + 2)
      refine ⟨M', ?_, e2, e3⟩
      simp (disch := omega) only [gO_9 hM0, gI_9_0 hM0, gP_9_0 hM0, gR_9_1 hM0, gR_9_2 hM0, gI_9_3 hM0, gP_9_3 hM0, gI_9_4 hM0, gP_9_4 hM0, gR_9_5 hM0, gR_9_6 hM0, gR_9_7 hM0, gI_9_8 hM0, gP_9_8 hM0, gI_9_9 hM0, gP_9_9 hM0, gI_9_10 hM0, gP_9_10 hM0, gI_9_11 hM0, gP_9_11 hM0, gI_9_12 hM0, gP_9_12 hM0, gI_9_13 hM0, gP_9_13 hM0, gI_9_14 hM0, gP_9_14 hM0, gI_9_15 hM0, gP_9_15 hM0, gI_9_16 hM0, gP_9_16 hM0, gR_9_17 hM0, gR_9_18 hM0, gR_9_19 hM0, gR_9_20 hM0, gI_9_21 hM0, gP_9_21 hM0, gI_9_22 hM0, gP_9_22 hM0, gI_9_23 hM0, gP_9_23 hM0, gI_9_24 hM0, gP_9_24 hM0, gR_9_25 hM0, gI_9_26 hM0, gP_9_26 hM0, gI_9_27 hM0, gP_9_27 hM0, gI_9_28 hM0, gP_9_28 hM0, gL_9_29 hM0, gP_9_29 hM0, gL_9_30 hM0, gP_9_30 hM0, aI_w hM7, aI_w hM6, h6, iEQ_f, h7, QX11_does_174, hpl a ha, if_pos hx, cI_s, cL_s, cF_s, cD_s, cA_s, cV_s, nI_add, cond_true, cond_false, if_true, if_false]
      rw [e1]
      simp (disch := omega) only [if_same, QX11_does_190, QX11_does_195, xret5_1, cI_s, cL_s, cF_s, cD_s, cA_s, cV_s, nI_add, cond_true, cond_false, if_true, if_false]
    · have c1 : ¬ a < g 0 := fun z => h (Or.inr (Or.inr (Or.inr (Or.inr ⟨rfl, z⟩))))
      simp (disch := omega) only [gO_9 hM0, gI_9_0 hM0, gP_9_0 hM0, gR_9_1 hM0, gR_9_2 hM0, gI_9_3 hM0, gP_9_3 hM0, gI_9_4 hM0, gP_9_4 hM0, gR_9_5 hM0, gR_9_6 hM0, gR_9_7 hM0, gI_9_8 hM0, gP_9_8 hM0, gI_9_9 hM0, gP_9_9 hM0, gI_9_10 hM0, gP_9_10 hM0, gI_9_11 hM0, gP_9_11 hM0, gI_9_12 hM0, gP_9_12 hM0, gI_9_13 hM0, gP_9_13 hM0, gI_9_14 hM0, gP_9_14 hM0, gI_9_15 hM0, gP_9_15 hM0, gI_9_16 hM0, gP_9_16 hM0, gR_9_17 hM0, gR_9_18 hM0, gR_9_19 hM0, gR_9_20 hM0, gI_9_21 hM0, gP_9_21 hM0, gI_9_22 hM0, gP_9_22 hM0, gI_9_23 hM0, gP_9_23 hM0, gI_9_24 hM0, gP_9_24 hM0, gR_9_25 hM0, gI_9_26 hM0, gP_9_26 hM0, gI_9_27 hM0, gP_9_27 hM0, gI_9_28 hM0, gP_9_28 hM0, gL_9_29 hM0, gP_9_29 hM0, gL_9_30 hM0, gP_9_30 hM0, aI_w hM7, aI_w hM6, h6, iEQ_f, h7, QX11_does_174, hpl a ha, if_neg c1, iEQ_t, QX11_does_194, QX11_does_195, xret5_0, cI_s, cL_s, cF_s, cD_s, cA_s, cV_s, nI_add, cond_true, cond_false, if_true, if_false]
end PF
