/-! THE GAME AT HAND: what the class's calls come to. -/
def CG (S : xSt) (g : Nat → Nat) (w un : Nat) : Prop := S.1 0 5 = nI w ∧ S.1 0 6 = nI un ∧ w < 9 ∧ un ≤ 8 ∧ pG S (27 + 12 * w) g ∧ iG g ∧ iFo g
theorem CG_st {S1 S2 : xSt} {g' : Nat → Nat} {w un lo hi : Nat} (a2 : S1.1 0 5 = nI ((w + 1) % 9)) (a3 : S1.1 0 6 = nI (if un < 8 then un + 1 else 8)) (f2 : frm lo hi S1 S2) (hlo : 0 < lo) (f3 : pG S2 (27 + 12 * ((w + 1) % 9)) g') (o1 : iG g') (o2 : iFo g') : CG S2 g' ((w + 1) % 9) (if un < 8 then un + 1 else 8) :=
  ⟨(frm_1 f2 (Or.inl hlo)).trans a2, (frm_1 f2 (Or.inl hlo)).trans a3, Nat.mod_lt _ (by omega), by split <;> omega, f3, o1, o2⟩
theorem gCanS_f {p : Nat} {g : Nat → Nat} (h : gCanS p g = false) : ¬ (gBl g = true ∧ 0 < g 6 ∧ g 1 = p) := by
  rintro ⟨h1, h2, h3⟩
  unfold gCanS at h
  rw [h1, show Nat.blt 0 (g 6) = true from Nat.ble_eq.mpr h2, show Nat.beq (g 1) p = true by rw [h3]; exact Nat.beq_refl _] at h
  cases h
section CGS
variable {E : xEn} {z : Nat → Option va_E} {x n : Nat} {sh : Nat → Option xSh} {S : xSt} {g : Nat → Nat} {w un : Nat}
theorem k_state (hc : hC sh) (C : CG S g w un) {k : Nat} (hk : k ≤ 12) (d : Nat) : xsem xT E (d + 3) kX10_state [.ref x, .int (nI k)] (wW E z x sh S, n) = some (.inl (some (.int (nI (gTold g k)))), (wW E z x sh S, n)) := by
  obtain ⟨c5, c6, hw, hun, P, I, F⟩ := C
  have b0 := hc.1
  have hG := hc.2.2.2.2.2.2 w hw
  have b2 := hG.1
  have h2 := I.1.1
  have h8 := I.1.2.1
  have hgm := fun d => c_game (E := E) (z := z) (x := x) (n := n) hc c5 hw d
  rw [eX10_state, QX10_state_0]
  simp (disch := omega) only [ble_t, Bool.and_self, gO_8 b0, gR_8_0 b0, gR_8_1 b0, gR_8_2 b0, gR_8_3 b0, gR_8_4 b0, gI_8_5 b0, gP_8_5 b0, gI_8_6 b0, gP_8_6 b0, cI_s, cL_s, cF_s, cD_s, cA_s, cV_s, nI_add, cond_true, cond_false, if_true, if_false]
  rw [c_what_t hk (by omega)]
  simp (disch := omega) only [ble_t, Bool.and_self, gO_8 b0, gR_8_0 b0, gR_8_1 b0, gR_8_2 b0, gR_8_3 b0, gR_8_4 b0, gI_8_5 b0, gP_8_5 b0, gI_8_6 b0, gP_8_6 b0, hgm, gO_2 b2, gR_2_0 b2, gR_2_1 b2, gR_2_2 b2, gR_2_3 b2, gI_2_4 b2, gP_2_4 b2, gI_2_5 b2, gP_2_5 b2, gI_2_6 b2, gP_2_6 b2, gI_2_7 b2, gP_2_7 b2, gI_2_8 b2, gP_2_8 b2, s2_number hG P I hk, cI_s, cL_s, cF_s, cD_s, cA_s, cV_s, nI_add, cond_true, cond_false, if_true, if_false]
theorem k_belief (hc : hC sh) (C : CG S g w un) {p : Nat} (hp : p ≤ g 0) (d : Nat) : xsem xT E (d + 3) kX10_belief [.ref x, .int (nI p)] (wW E z x sh S, n) = some (.inl (some (.int (nI (g (36 + p))))), (wW E z x sh S, n)) := by
  obtain ⟨c5, c6, hw, hun, P, I, F⟩ := C
  have b0 := hc.1
  have hG := hc.2.2.2.2.2.2 w hw
  have b2 := hG.1
  have h2 := I.1.1
  have h8 := I.1.2.1
  have hgm := fun d => c_game (E := E) (z := z) (x := x) (n := n) hc c5 hw d
  have b4 := hG.2.2.2.2.1
  have hb : S.2.1 (27 + 12 * w + 4 + 1) p = nI (g (36 + p)) := P.2.1.2.2.2.2 p (by omega)
  have b41 : sh (27 + 12 * w + 4 + 1) = some (1, 9, []) := hG.2.2.2.2.2.1
  rw [eX10_belief, QX10_belief_0]
  simp (disch := omega) only [ble_t, Bool.and_self, gO_8 b0, gR_8_0 b0, gR_8_1 b0, gR_8_2 b0, gR_8_3 b0, gR_8_4 b0, gI_8_5 b0, gP_8_5 b0, gI_8_6 b0, gP_8_6 b0, cI_s, cL_s, cF_s, cD_s, cA_s, cV_s, nI_add, cond_true, cond_false, if_true, if_false]
  rw [c_hand_t hc c5 hw P I hp]
  simp (disch := omega) only [ble_t, Bool.and_self, gO_8 b0, gR_8_0 b0, gR_8_1 b0, gR_8_2 b0, gR_8_3 b0, gR_8_4 b0, gI_8_5 b0, gP_8_5 b0, gI_8_6 b0, gP_8_6 b0, hgm, gO_2 b2, gR_2_0 b2, gR_2_1 b2, gR_2_2 b2, gR_2_3 b2, gI_2_4 b2, gP_2_4 b2, gI_2_5 b2, gP_2_5 b2, gI_2_6 b2, gP_2_6 b2, gI_2_7 b2, gP_2_7 b2, gI_2_8 b2, gP_2_8 b2, gO_4 b4, gR_4_0 b4, gI_4_1 b4, gP_4_1 b4, gI_4_2 b4, gP_4_2 b4, gI_4_3 b4, gP_4_3 b4, gI_4_4 b4, gP_4_4 b4, aI_w b41, hb, cI_s, cL_s, cF_s, cD_s, cA_s, cV_s, nI_add, cond_true, cond_false, if_true, if_false]
theorem k_guess (hc : hC sh) (C : CG S g w un) (d : Nat) : xsem xT E (d + 3) kX10_guess [.ref x] (wW E z x sh S, n) = some (.inl (some (.int (nI (mBest (gF g) (g 0))))), (wW E z x sh S, n)) := by
  obtain ⟨c5, c6, hw, hun, P, I, F⟩ := C
  have b0 := hc.1
  have hG := hc.2.2.2.2.2.2 w hw
  have b2 := hG.1
  have h2 := I.1.1
  have h8 := I.1.2.1
  have hgm := fun d => c_game (E := E) (z := z) (x := x) (n := n) hc c5 hw d
  have b4 := hG.2.2.2.2.1
  have b41 : sh (27 + 12 * w + 4 + 1) = some (1, 9, []) := hG.2.2.2.2.2.1
  have hlk := s4_best (E := E) (z := z) (x := x) (n := n) (S := S) (f := gF g) (pl := g 0) b4 b41 P.2.1.1 h8 (by omega) (fun p hp => P.2.1.2.2.2.2 p (by omega)) (fun p hp => by have := I.2.2.2.2.2.1 p (by omega); show g (36 + p) < _; omega) (d + 1)
  rw [eX10_guess, QX10_guess_0]
  simp (disch := omega) only [gO_8 b0, gR_8_0 b0, gR_8_1 b0, gR_8_2 b0, gR_8_3 b0, gR_8_4 b0, gI_8_5 b0, gP_8_5 b0, gI_8_6 b0, gP_8_6 b0, hgm, gO_2 b2, gR_2_0 b2, gR_2_1 b2, gR_2_2 b2, gR_2_3 b2, gI_2_4 b2, gP_2_4 b2, gI_2_5 b2, gP_2_5 b2, gI_2_6 b2, gP_2_6 b2, gI_2_7 b2, gP_2_7 b2, gI_2_8 b2, gP_2_8 b2, gO_4 b4, gR_4_0 b4, gI_4_1 b4, gP_4_1 b4, gI_4_2 b4, gP_4_2 b4, gI_4_3 b4, gP_4_3 b4, gI_4_4 b4, gP_4_4 b4, cI_s, cL_s, cF_s, cD_s, cA_s, cV_s, nI_add, cond_true, cond_false, if_true, if_false]
  rw [hlk]
  simp (disch := omega) only [cI_s, cL_s, cF_s, cD_s, cA_s, cV_s, nI_add, cond_true, cond_false, if_true, if_false]
theorem k_blinks (hc : hC sh) (C : CG S g w un) {k : Nat} (hk : k ≤ 20000) (d : Nat) : xsem xT E (d + 3) kX10_blinks [.ref x, .int (nI k)] (wW E z x sh S, n) = some (.inl (some (.int (nI (gHas g (nI k) (g 10) 0).toNat))), (wW E z x sh S, n)) := by
  obtain ⟨c5, c6, hw, hun, P, I, F⟩ := C
  have b0 := hc.1
  have hG := hc.2.2.2.2.2.2 w hw
  have b2 := hG.1
  have h2 := I.1.1
  have h8 := I.1.2.1
  have hgm := fun d => c_game (E := E) (z := z) (x := x) (n := n) hc c5 hw d
  have b6 := hG.2.2.2.2.2.2.1
  have b61 : sh (27 + 12 * w + 6 + 1) = some (1, 8, []) := hG.2.2.2.2.2.2.2.1
  have b62 : sh (27 + 12 * w + 6 + 2) = some (1, 8, []) := hG.2.2.2.2.2.2.2.2.1
  have hhs := s0_has (E := E) (z := z) (x := x) (n := n) b6 b61 b62 P.2.2.1 I.1.2.2.2.2.2.2.2.2.2 (nI k) (d + 1)
  rw [eX10_blinks, QX10_blinks_0, iLT_f (Nat.zero_le _) (by omega), iLE_t hk (by omega), QX10_blinks_21]
  simp (disch := omega) only [ble_t, Bool.and_self, gO_8 b0, gR_8_0 b0, gR_8_1 b0, gR_8_2 b0, gR_8_3 b0, gR_8_4 b0, gI_8_5 b0, gP_8_5 b0, gI_8_6 b0, gP_8_6 b0, hgm, gO_2 b2, gR_2_0 b2, gR_2_1 b2, gR_2_2 b2, gR_2_3 b2, gI_2_4 b2, gP_2_4 b2, gI_2_5 b2, gP_2_5 b2, gI_2_6 b2, gP_2_6 b2, gI_2_7 b2, gP_2_7 b2, gI_2_8 b2, gP_2_8 b2, gO_0 b6, gR_0_0 b6, gR_0_1 b6, gI_0_2 b6, gP_0_2 b6, cI_s, cL_s, cF_s, cD_s, cA_s, cV_s, nI_add, cond_true, cond_false, if_true, if_false]
  rw [hhs]
  simp (disch := omega) only [xret5_b, cI_s, cL_s, cF_s, cD_s, cA_s, cV_s, nI_add, cond_true, cond_false, if_true, if_false]
theorem k_swap (hc : hC sh) (C : CG S g w un) {p q : Nat} (hp : p < g 0) (hq : q < g 0) (hne : p ≠ q) (d : Nat) : ∃ S' w' un', xsem xT E (d + 6) kX10_swap [.ref x, .int (nI p), .int (nI q)] (wW E z x sh S, n) = some (.inl (some (.int (nI (gBl g).toNat))), (wW E z x sh S', n)) ∧ CG S' (gStep (gBl g) 0 p q g) w' un' := by
  obtain ⟨c5, c6, hw, hun, P, I, F⟩ := C
  have b0 := hc.1
  have hG := hc.2.2.2.2.2.2 w hw
  have b2 := hG.1
  have h2 := I.1.1
  have h8 := I.1.2.1
  have hw' : (w + 1) % 9 < 9 := Nat.mod_lt _ (by omega)
  have hG' := hc.2.2.2.2.2.2 _ hw'
  have b2' := hG'.1
  obtain ⟨S1, a1, a2, a3, a4, a5, a6⟩ := c_change (E := E) (z := z) (x := x) (n := n) hc c5 c6 hw hun P I F (d + 2)
  have hok : okS (gBl g) 0 p q g := ⟨by omega, fun _ => ⟨hp, hq, hne⟩, fun z => absurd z (by omega), fun z => absurd z (by omega)⟩
  obtain ⟨o1, o2, o3, o4⟩ := step_ok I hok
  obtain ⟨S2, f1, f2, f3⟩ := s2_makeMove (E := E) (z := z) (x := x) (n := n) hG' a4 I true hp hq hne d
  refine ⟨S2, _, _, ?_, CG_st a2 a3 f2 (by omega) f3 o1 (o2 F)⟩
  rw [eX10_swap, QX10_swap_0]
  simp (disch := omega) only [ble_t, Bool.and_self, gO_8 b0, gR_8_0 b0, gR_8_1 b0, gR_8_2 b0, gR_8_3 b0, gR_8_4 b0, gI_8_5 b0, gP_8_5 b0, gI_8_6 b0, gP_8_6 b0, cI_s, cL_s, cF_s, cD_s, cA_s, cV_s, nI_add, cond_true, cond_false, if_true, if_false]
  rw [c_two_t hc c5 hw P I hp hq hne]
  simp (disch := omega) only [ble_t, Bool.and_self, gO_8 b0, gR_8_0 b0, gR_8_1 b0, gR_8_2 b0, gR_8_3 b0, gR_8_4 b0, gI_8_5 b0, gP_8_5 b0, gI_8_6 b0, gP_8_6 b0, cI_s, cL_s, cF_s, cD_s, cA_s, cV_s, nI_add, cond_true, cond_false, if_true, if_false]
  rw [a1]
  simp (disch := omega) only [ble_t, Bool.and_self, gO_2 b2', gR_2_0 b2', gR_2_1 b2', gR_2_2 b2', gR_2_3 b2', gI_2_4 b2', gP_2_4 b2', gI_2_5 b2', gP_2_5 b2', gI_2_6 b2', gP_2_6 b2', gI_2_7 b2', gP_2_7 b2', gI_2_8 b2', gP_2_8 b2', cI_s, cL_s, cF_s, cD_s, cA_s, cV_s, nI_add, cond_true, cond_false, if_true, if_false]
  rw [show nI 1 = nI (true : Bool).toNat from rfl, f1]
  simp (disch := omega) only [xret5_b, cI_s, cL_s, cF_s, cD_s, cA_s, cV_s, nI_add, cond_true, cond_false, if_true, if_false]
theorem k_feint (hc : hC sh) (C : CG S g w un) {p q : Nat} (hp : p < g 0) (hq : q < g 0) (hne : p ≠ q) (d : Nat) : ∃ S' w' un', xsem xT E (d + 6) kX10_feint [.ref x, .int (nI p), .int (nI q)] (wW E z x sh S, n) = some (.inl (some (.int (nI (gBl g).toNat))), (wW E z x sh S', n)) ∧ CG S' (gStep (gBl g) 1 p q g) w' un' := by
  obtain ⟨c5, c6, hw, hun, P, I, F⟩ := C
  have b0 := hc.1
  have hG := hc.2.2.2.2.2.2 w hw
  have b2 := hG.1
  have h2 := I.1.1
  have h8 := I.1.2.1
  have hw' : (w + 1) % 9 < 9 := Nat.mod_lt _ (by omega)
  have hG' := hc.2.2.2.2.2.2 _ hw'
  have b2' := hG'.1
  obtain ⟨S1, a1, a2, a3, a4, a5, a6⟩ := c_change (E := E) (z := z) (x := x) (n := n) hc c5 c6 hw hun P I F (d + 2)
  have hok : okS (gBl g) 1 p q g := ⟨by omega, fun _ => ⟨hp, hq, hne⟩, fun z => absurd z (by omega), fun z => absurd z (by omega)⟩
  obtain ⟨o1, o2, o3, o4⟩ := step_ok I hok
  obtain ⟨S2, f1, f2, f3⟩ := s2_makeMove (E := E) (z := z) (x := x) (n := n) hG' a4 I false hp hq hne d
  refine ⟨S2, _, _, ?_, CG_st a2 a3 f2 (by omega) f3 o1 (o2 F)⟩
  rw [eX10_feint, QX10_feint_0]
  simp (disch := omega) only [ble_t, Bool.and_self, gO_8 b0, gR_8_0 b0, gR_8_1 b0, gR_8_2 b0, gR_8_3 b0, gR_8_4 b0, gI_8_5 b0, gP_8_5 b0, gI_8_6 b0, gP_8_6 b0, cI_s, cL_s, cF_s, cD_s, cA_s, cV_s, nI_add, cond_true, cond_false, if_true, if_false]
  rw [c_two_t hc c5 hw P I hp hq hne]
  simp (disch := omega) only [ble_t, Bool.and_self, gO_8 b0, gR_8_0 b0, gR_8_1 b0, gR_8_2 b0, gR_8_3 b0, gR_8_4 b0, gI_8_5 b0, gP_8_5 b0, gI_8_6 b0, gP_8_6 b0, cI_s, cL_s, cF_s, cD_s, cA_s, cV_s, nI_add, cond_true, cond_false, if_true, if_false]
  rw [a1]
  simp (disch := omega) only [ble_t, Bool.and_self, gO_2 b2', gR_2_0 b2', gR_2_1 b2', gR_2_2 b2', gR_2_3 b2', gI_2_4 b2', gP_2_4 b2', gI_2_5 b2', gP_2_5 b2', gI_2_6 b2', gP_2_6 b2', gI_2_7 b2', gP_2_7 b2', gI_2_8 b2', gP_2_8 b2', cI_s, cL_s, cF_s, cD_s, cA_s, cV_s, nI_add, cond_true, cond_false, if_true, if_false]
  rw [show nI 0 = nI (false : Bool).toNat from rfl, f1]
  simp (disch := omega) only [xret5_b, cI_s, cL_s, cF_s, cD_s, cA_s, cV_s, nI_add, cond_true, cond_false, if_true, if_false]
theorem k_rest (hc : hC sh) (C : CG S g w un) (d : Nat) : ∃ S' w' un', xsem xT E (d + 6) kX10_rest [.ref x] (wW E z x sh S, n) = some (.inl (some (.int (nI (gBl g).toNat))), (wW E z x sh S', n)) ∧ CG S' (gStep (gBl g) 2 0 0 g) w' un' := by
  obtain ⟨c5, c6, hw, hun, P, I, F⟩ := C
  have b0 := hc.1
  have hG := hc.2.2.2.2.2.2 w hw
  have b2 := hG.1
  have h2 := I.1.1
  have h8 := I.1.2.1
  have hw' : (w + 1) % 9 < 9 := Nat.mod_lt _ (by omega)
  have hG' := hc.2.2.2.2.2.2 _ hw'
  have b2' := hG'.1
  obtain ⟨S1, a1, a2, a3, a4, a5, a6⟩ := c_change (E := E) (z := z) (x := x) (n := n) hc c5 c6 hw hun P I F (d + 2)
  have hok : okS (gBl g) 2 0 0 g := ⟨by omega, fun z => absurd z (by omega), fun z => absurd z (by omega), fun z => absurd z (by omega)⟩
  obtain ⟨o1, o2, o3, o4⟩ := step_ok I hok
  have b5' := hG'.2.1
  have r1 : S1.1 (27 + 12 * ((w + 1) % 9) + 1) 1 = nI (g 1) := a4.1.2.1
  have hgm' := c_game (E := E) (z := z) (x := x) (n := n) (S := S1) hc a2 hw' (d + 4)
  obtain ⟨S2, f1, f2, f3⟩ := s2_makeStill (E := E) (z := z) (x := x) (n := n) hG' a4 I (k := 2) (a := 0) (b := 0) (by omega) (to := g 1) rfl d
  refine ⟨S2, _, _, ?_, CG_st a2 a3 f2 (by omega) f3 o1 (o2 F)⟩
  rw [eX10_rest, QX10_rest_0]
  simp (disch := omega) only [gO_8 b0, gR_8_0 b0, gR_8_1 b0, gR_8_2 b0, gR_8_3 b0, gR_8_4 b0, gI_8_5 b0, gP_8_5 b0, gI_8_6 b0, gP_8_6 b0, cI_s, cL_s, cF_s, cD_s, cA_s, cV_s, nI_add, cond_true, cond_false, if_true, if_false]
  rw [a1]
  simp (disch := omega) only [gO_8 b0, gR_8_0 b0, gR_8_1 b0, gR_8_2 b0, gR_8_3 b0, gR_8_4 b0, gI_8_5 b0, gP_8_5 b0, gI_8_6 b0, gP_8_6 b0, cI_s, cL_s, cF_s, cD_s, cA_s, cV_s, nI_add, cond_true, cond_false, if_true, if_false]
  rw [hgm']
  simp (disch := omega) only [gO_2 b2', gR_2_0 b2', gR_2_1 b2', gR_2_2 b2', gR_2_3 b2', gI_2_4 b2', gP_2_4 b2', gI_2_5 b2', gP_2_5 b2', gI_2_6 b2', gP_2_6 b2', gI_2_7 b2', gP_2_7 b2', gI_2_8 b2', gP_2_8 b2', gO_5 b5', gI_5_0 b5', gP_5_0 b5', gI_5_1 b5', gP_5_1 b5', gI_5_2 b5', gP_5_2 b5', gR_5_3 b5', gR_5_4 b5', r1, cI_s, cL_s, cF_s, cD_s, cA_s, cV_s, nI_add, cond_true, cond_false, if_true, if_false]
  rw [f1]
  simp (disch := omega) only [xret5_b, cI_s, cL_s, cF_s, cD_s, cA_s, cV_s, nI_add, cond_true, cond_false, if_true, if_false]
theorem k_steal (hc : hC sh) (C : CG S g w un) {p : Nat} (hp : p < g 0) (hcan : gCanS p g = true) (d : Nat) : ∃ S' w' un' v, xsem xT E (d + 8) kX10_steal [.ref x, .int (nI p)] (wW E z x sh S, n) = some (.inl (some (.int (nI v))), (wW E z x sh S', n)) ∧ v < 2 ^ 31 ∧ CG S' (gStep (gBl g) 3 p 0 g) w' un' := by
  obtain ⟨c5, c6, hw, hun, P, I, F⟩ := C
  have b0 := hc.1
  have hG := hc.2.2.2.2.2.2 w hw
  have b2 := hG.1
  have h2 := I.1.1
  have h8 := I.1.2.1
  have hw' : (w + 1) % 9 < 9 := Nat.mod_lt _ (by omega)
  have hG' := hc.2.2.2.2.2.2 _ hw'
  have b2' := hG'.1
  have hgm := fun d => c_game (E := E) (z := z) (x := x) (n := n) hc c5 hw d
  have hcs := s2_canSteal (E := E) (z := z) (x := x) (n := n) hG P I hp (d + 4)
  rw [hcan] at hcs
  obtain ⟨z1, z2, z3⟩ := gCanS_t hcan
  obtain ⟨S1, a1, a2, a3, a4, a5, a6⟩ := c_change (E := E) (z := z) (x := x) (n := n) hc c5 c6 hw hun P I F (d + 3)
  have hok : okS (gBl g) 3 p 0 g := ⟨by omega, fun z => absurd z (by omega), fun _ => ⟨z1, z2, by omega⟩, fun z => absurd z (by omega)⟩
  obtain ⟨o1, o2, o3, o4⟩ := step_ok I hok
  obtain ⟨S2, f1, f2, f3⟩ := s2_makeStill (E := E) (z := z) (x := x) (n := n) hG' a4 I (k := 3) (a := p) (b := 0) (by omega) (to := g 0) rfl (d + 1)
  have hmv := c_moveBall (E := E) (z := z) (x := x) (n := n) (d0 := d + 1) hc hw a1 f1 f3 o1
  have hs1 := (mSum_pos o1).2
  refine ⟨S2, _, _, mSum (gF (gStep (gBl g) 3 p 0 g)) (gStep (gBl g) 3 p 0 g 0 + 1), ?_, by omega, CG_st a2 a3 f2 (by omega) f3 o1 (o2 F)⟩
  rw [eX10_steal, QX10_steal_0]
  simp (disch := omega) only [ble_t, Bool.and_self, gO_8 b0, gR_8_0 b0, gR_8_1 b0, gR_8_2 b0, gR_8_3 b0, gR_8_4 b0, gI_8_5 b0, gP_8_5 b0, gI_8_6 b0, gP_8_6 b0, cI_s, cL_s, cF_s, cD_s, cA_s, cV_s, nI_add, cond_true, cond_false, if_true, if_false]
  rw [c_place_t hc c5 hw P I hp]
  simp (disch := omega) only [ble_t, Bool.and_self, gO_8 b0, gR_8_0 b0, gR_8_1 b0, gR_8_2 b0, gR_8_3 b0, gR_8_4 b0, gI_8_5 b0, gP_8_5 b0, gI_8_6 b0, gP_8_6 b0, hgm, gO_2 b2, gR_2_0 b2, gR_2_1 b2, gR_2_2 b2, gR_2_3 b2, gI_2_4 b2, gP_2_4 b2, gI_2_5 b2, gP_2_5 b2, gI_2_6 b2, gP_2_6 b2, gI_2_7 b2, gP_2_7 b2, gI_2_8 b2, gP_2_8 b2, cI_s, cL_s, cF_s, cD_s, cA_s, cV_s, nI_add, cond_true, cond_false, if_true, if_false]
  rw [hcs]
  simp (disch := omega) only [Bool.toNat_true, iEQ_f, QX10_steal_26, ble_t, Bool.and_self, gO_8 b0, gR_8_0 b0, gR_8_1 b0, gR_8_2 b0, gR_8_3 b0, gR_8_4 b0, gI_8_5 b0, gP_8_5 b0, gI_8_6 b0, gP_8_6 b0, hgm, gO_2 b2, gR_2_0 b2, gR_2_1 b2, gR_2_2 b2, gR_2_3 b2, gI_2_4 b2, gP_2_4 b2, gI_2_5 b2, gP_2_5 b2, gI_2_6 b2, gP_2_6 b2, gI_2_7 b2, gP_2_7 b2, gI_2_8 b2, gP_2_8 b2, gO_5 hG.2.1, gI_5_0 hG.2.1, gP_5_0 hG.2.1, gI_5_1 hG.2.1, gP_5_1 hG.2.1, gI_5_2 hG.2.1, gP_5_2 hG.2.1, gR_5_3 hG.2.1, gR_5_4 hG.2.1, show S.1 (27 + 12 * w + 1) 0 = nI (g 0) from P.1.1, cI_s, cL_s, cF_s, cD_s, cA_s, cV_s, nI_add, cond_true, cond_false, if_true, if_false]
  rw [hmv]
  simp (disch := omega) only [cI_s, cL_s, cF_s, cD_s, cA_s, cV_s, nI_add, cond_true, cond_false, if_true, if_false]
theorem k_steal_x (hc : hC sh) (C : CG S g w un) {p : Nat} (hp : p < g 0) (hcan : gCanS p g = false) (d : Nat) : xsem xT E (d + 8) kX10_steal [.ref x, .int (nI p)] (wW E z x sh S, n) = some (.inr (xexc 2), (wW E z x sh S, n)) := by
  obtain ⟨c5, c6, hw, hun, P, I, F⟩ := C
  have b0 := hc.1
  have hG := hc.2.2.2.2.2.2 w hw
  have b2 := hG.1
  have h2 := I.1.1
  have h8 := I.1.2.1
  have hgm := fun d => c_game (E := E) (z := z) (x := x) (n := n) hc c5 hw d
  have hcs := s2_canSteal (E := E) (z := z) (x := x) (n := n) hG P I hp (d + 4)
  rw [hcan] at hcs
  rw [eX10_steal, QX10_steal_0]
  simp (disch := omega) only [ble_t, Bool.and_self, gO_8 b0, gR_8_0 b0, gR_8_1 b0, gR_8_2 b0, gR_8_3 b0, gR_8_4 b0, gI_8_5 b0, gP_8_5 b0, gI_8_6 b0, gP_8_6 b0, cI_s, cL_s, cF_s, cD_s, cA_s, cV_s, nI_add, cond_true, cond_false, if_true, if_false]
  rw [c_place_t hc c5 hw P I hp]
  simp (disch := omega) only [ble_t, Bool.and_self, gO_8 b0, gR_8_0 b0, gR_8_1 b0, gR_8_2 b0, gR_8_3 b0, gR_8_4 b0, gI_8_5 b0, gP_8_5 b0, gI_8_6 b0, gP_8_6 b0, hgm, gO_2 b2, gR_2_0 b2, gR_2_1 b2, gR_2_2 b2, gR_2_3 b2, gI_2_4 b2, gP_2_4 b2, gI_2_5 b2, gP_2_5 b2, gI_2_6 b2, gP_2_6 b2, gI_2_7 b2, gP_2_7 b2, gI_2_8 b2, gP_2_8 b2, cI_s, cL_s, cF_s, cD_s, cA_s, cV_s, nI_add, cond_true, cond_false, if_true, if_false]
  rw [hcs]
  simp (disch := omega) only [Bool.toNat_false, iEQ_t, ble_t, Bool.and_self, cI_s, cL_s, cF_s, cD_s, cA_s, cV_s, nI_add, cond_true, cond_false, if_true, if_false]
theorem k_plant (hc : hC sh) (C : CG S g w un) {p : Nat} (hp : p < g 0) (hcan : gCanS (g 0) g = true) (d : Nat) : ∃ S' w' un' v, xsem xT E (d + 8) kX10_plant [.ref x, .int (nI p)] (wW E z x sh S, n) = some (.inl (some (.int (nI v))), (wW E z x sh S', n)) ∧ v < 2 ^ 31 ∧ CG S' (gStep (gBl g) 4 p 0 g) w' un' := by
  obtain ⟨c5, c6, hw, hun, P, I, F⟩ := C
  have b0 := hc.1
  have hG := hc.2.2.2.2.2.2 w hw
  have b2 := hG.1
  have h2 := I.1.1
  have h8 := I.1.2.1
  have hw' : (w + 1) % 9 < 9 := Nat.mod_lt _ (by omega)
  have hG' := hc.2.2.2.2.2.2 _ hw'
  have b2' := hG'.1
  have hgm := fun d => c_game (E := E) (z := z) (x := x) (n := n) hc c5 hw d
  have hcs := s2_canPlant (E := E) (z := z) (x := x) (n := n) hG P I (d + 4)
  rw [hcan] at hcs
  obtain ⟨z1, z2, z3⟩ := gCanS_t hcan
  obtain ⟨S1, a1, a2, a3, a4, a5, a6⟩ := c_change (E := E) (z := z) (x := x) (n := n) hc c5 c6 hw hun P I F (d + 3)
  have hok : okS (gBl g) 4 p 0 g := ⟨by omega, fun z => absurd z (by omega), fun z => absurd z (by omega), fun _ => ⟨z1, z2, z3, hp⟩⟩
  obtain ⟨o1, o2, o3, o4⟩ := step_ok I hok
  obtain ⟨S2, f1, f2, f3⟩ := s2_makeStill (E := E) (z := z) (x := x) (n := n) hG' a4 I (k := 4) (a := p) (b := 0) (by omega) (to := p) rfl (d + 1)
  have hmv := c_moveBall (E := E) (z := z) (x := x) (n := n) (d0 := d + 1) hc hw a1 f1 f3 o1
  have hs1 := (mSum_pos o1).2
  refine ⟨S2, _, _, mSum (gF (gStep (gBl g) 4 p 0 g)) (gStep (gBl g) 4 p 0 g 0 + 1), ?_, by omega, CG_st a2 a3 f2 (by omega) f3 o1 (o2 F)⟩
  rw [eX10_plant, QX10_plant_0]
  simp (disch := omega) only [ble_t, Bool.and_self, gO_8 b0, gR_8_0 b0, gR_8_1 b0, gR_8_2 b0, gR_8_3 b0, gR_8_4 b0, gI_8_5 b0, gP_8_5 b0, gI_8_6 b0, gP_8_6 b0, cI_s, cL_s, cF_s, cD_s, cA_s, cV_s, nI_add, cond_true, cond_false, if_true, if_false]
  rw [c_place_t hc c5 hw P I hp]
  simp (disch := omega) only [ble_t, Bool.and_self, gO_8 b0, gR_8_0 b0, gR_8_1 b0, gR_8_2 b0, gR_8_3 b0, gR_8_4 b0, gI_8_5 b0, gP_8_5 b0, gI_8_6 b0, gP_8_6 b0, hgm, gO_2 b2, gR_2_0 b2, gR_2_1 b2, gR_2_2 b2, gR_2_3 b2, gI_2_4 b2, gP_2_4 b2, gI_2_5 b2, gP_2_5 b2, gI_2_6 b2, gP_2_6 b2, gI_2_7 b2, gP_2_7 b2, gI_2_8 b2, gP_2_8 b2, cI_s, cL_s, cF_s, cD_s, cA_s, cV_s, nI_add, cond_true, cond_false, if_true, if_false]
  rw [hcs]
  simp (disch := omega) only [Bool.toNat_true, iEQ_f, QX10_plant_25, ble_t, Bool.and_self, gO_8 b0, gR_8_0 b0, gR_8_1 b0, gR_8_2 b0, gR_8_3 b0, gR_8_4 b0, gI_8_5 b0, gP_8_5 b0, gI_8_6 b0, gP_8_6 b0, cI_s, cL_s, cF_s, cD_s, cA_s, cV_s, nI_add, cond_true, cond_false, if_true, if_false]
  rw [hmv]
  simp (disch := omega) only [cI_s, cL_s, cF_s, cD_s, cA_s, cV_s, nI_add, cond_true, cond_false, if_true, if_false]
theorem k_plant_x (hc : hC sh) (C : CG S g w un) {p : Nat} (hp : p < g 0) (hcan : gCanS (g 0) g = false) (d : Nat) : xsem xT E (d + 8) kX10_plant [.ref x, .int (nI p)] (wW E z x sh S, n) = some (.inr (xexc 2), (wW E z x sh S, n)) := by
  obtain ⟨c5, c6, hw, hun, P, I, F⟩ := C
  have b0 := hc.1
  have hG := hc.2.2.2.2.2.2 w hw
  have b2 := hG.1
  have h2 := I.1.1
  have h8 := I.1.2.1
  have hgm := fun d => c_game (E := E) (z := z) (x := x) (n := n) hc c5 hw d
  have hcs := s2_canPlant (E := E) (z := z) (x := x) (n := n) hG P I (d + 4)
  rw [hcan] at hcs
  rw [eX10_plant, QX10_plant_0]
  simp (disch := omega) only [ble_t, Bool.and_self, gO_8 b0, gR_8_0 b0, gR_8_1 b0, gR_8_2 b0, gR_8_3 b0, gR_8_4 b0, gI_8_5 b0, gP_8_5 b0, gI_8_6 b0, gP_8_6 b0, cI_s, cL_s, cF_s, cD_s, cA_s, cV_s, nI_add, cond_true, cond_false, if_true, if_false]
  rw [c_place_t hc c5 hw P I hp]
  simp (disch := omega) only [ble_t, Bool.and_self, gO_8 b0, gR_8_0 b0, gR_8_1 b0, gR_8_2 b0, gR_8_3 b0, gR_8_4 b0, gI_8_5 b0, gP_8_5 b0, gI_8_6 b0, gP_8_6 b0, hgm, gO_2 b2, gR_2_0 b2, gR_2_1 b2, gR_2_2 b2, gR_2_3 b2, gI_2_4 b2, gP_2_4 b2, gI_2_5 b2, gP_2_5 b2, gI_2_6 b2, gP_2_6 b2, gI_2_7 b2, gP_2_7 b2, gI_2_8 b2, gP_2_8 b2, cI_s, cL_s, cF_s, cD_s, cA_s, cV_s, nI_add, cond_true, cond_false, if_true, if_false]
  rw [hcs]
  simp (disch := omega) only [Bool.toNat_false, iEQ_t, ble_t, Bool.and_self, cI_s, cL_s, cF_s, cD_s, cA_s, cV_s, nI_add, cond_true, cond_false, if_true, if_false]
theorem k_peek (hc : hC sh) (C : CG S g w un) {p : Nat} (hp : p < g 0) (d : Nat) : ∃ S' w' un', xsem xT E (d + 5) kX10_peek [.ref x, .int (nI p)] (wW E z x sh S, n) = some (.inl (some (.int (nI (if g 1 = p then 1 else 0)))), (wW E z x sh S', n)) ∧ CG S' (gLook p g) w' un' := by
  obtain ⟨c5, c6, hw, hun, P, I, F⟩ := C
  have b0 := hc.1
  have hG := hc.2.2.2.2.2.2 w hw
  have b2 := hG.1
  have h2 := I.1.1
  have h8 := I.1.2.1
  have hw' : (w + 1) % 9 < 9 := Nat.mod_lt _ (by omega)
  have hG' := hc.2.2.2.2.2.2 _ hw'
  have b2' := hG'.1
  obtain ⟨S1, a1, a2, a3, a4, a5, a6⟩ := c_change (E := E) (z := z) (x := x) (n := n) hc c5 c6 hw hun P I F (d + 1)
  obtain ⟨o1, o2, o3, o4⟩ := look_ok I hp
  obtain ⟨S2, f1, f2, f3⟩ := s2_lookUnder (E := E) (z := z) (x := x) (n := n) hG' a4 I hp d
  refine ⟨S2, _, _, ?_, CG_st a2 a3 f2 (by omega) f3 o1 (o2 F)⟩
  rw [eX10_peek, QX10_peek_0]
  simp (disch := omega) only [ble_t, Bool.and_self, gO_8 b0, gR_8_0 b0, gR_8_1 b0, gR_8_2 b0, gR_8_3 b0, gR_8_4 b0, gI_8_5 b0, gP_8_5 b0, gI_8_6 b0, gP_8_6 b0, cI_s, cL_s, cF_s, cD_s, cA_s, cV_s, nI_add, cond_true, cond_false, if_true, if_false]
  rw [c_place_t hc c5 hw P I hp]
  simp (disch := omega) only [ble_t, Bool.and_self, gO_8 b0, gR_8_0 b0, gR_8_1 b0, gR_8_2 b0, gR_8_3 b0, gR_8_4 b0, gI_8_5 b0, gP_8_5 b0, gI_8_6 b0, gP_8_6 b0, cI_s, cL_s, cF_s, cD_s, cA_s, cV_s, nI_add, cond_true, cond_false, if_true, if_false]
  rw [a1]
  simp (disch := omega) only [ble_t, Bool.and_self, gO_2 b2', gR_2_0 b2', gR_2_1 b2', gR_2_2 b2', gR_2_3 b2', gI_2_4 b2', gP_2_4 b2', gI_2_5 b2', gP_2_5 b2', gI_2_6 b2', gP_2_6 b2', gI_2_7 b2', gP_2_7 b2', gI_2_8 b2', gP_2_8 b2', cI_s, cL_s, cF_s, cD_s, cA_s, cV_s, nI_add, cond_true, cond_false, if_true, if_false]
  rw [f1]
  by_cases c : g 1 = p
  · simp (disch := omega) only [if_pos c, xret5_1, cI_s, cL_s, cF_s, cD_s, cA_s, cV_s, nI_add, cond_true, cond_false, if_true, if_false]
  · simp (disch := omega) only [if_neg c, xret5_0, cI_s, cL_s, cF_s, cD_s, cA_s, cV_s, nI_add, cond_true, cond_false, if_true, if_false]
end CGS
