/-! CALLS THAT CHANGE: steps and looks. -/
section CH2
variable {E : xEn} {x y n m : Nat} {sh : Nat → Option xSh} {S M : xSt} {Bd : Nat}
theorem RR_mo {Bd' : Nat} (R : RR S M Bd) (h : Bd ≤ Bd') : RR S M Bd' := by
  obtain ⟨gs, w, un, tx, len, R1, R2⟩ := R
  exact ⟨gs, w, un, tx, len, RG_mo R1 h, R2⟩
theorem RR_st {S1 S2 M1 M2 : xSt} {gs : Nat → Nat → Nat} {w un len Bd' : Nat} {tx : Nat → Nat} {g' : Nat → Nat} (RGh : RG S M gs w un Bd) (RIh : RI S M tx len) (hB : Bd ≤ Bd')
    (a2 : S1.1 0 5 = nI ((w + 1) % 9)) (a3 : S1.1 0 6 = nI (if un < 8 then un + 1 else 8)) (a5 : ∀ j, j ≠ 0 → (j < 27 + 12 * ((w + 1) % 9) ∨ 27 + 12 * ((w + 1) % 9) + 12 ≤ j) → eqQ S S1 j)
    (e3 : M1.1 0 4 = nI (if un < 8 then un + 1 else 8)) (e4 : ∀ k, k ≠ 0 → k ≠ 3 → k ≠ 4 → M1.1 0 k = M.1 0 k) (e6 : ∀ j, j ≠ 1 → M1.2.1 j = M.2.1 j) (e7 : ∀ i, (i < 1100 * ((w + 1) % 9) ∨ 1100 * ((w + 1) % 9) + 1100 ≤ i) → M1.2.1 1 i = M.2.1 1 i)
    (f2 : frm (27 + 12 * ((w + 1) % 9)) (27 + 12 * ((w + 1) % 9) + 12) S1 S2) (P : pG S2 (27 + 12 * ((w + 1) % 9)) g') (G : GM M2 ((w + 1) % 9) g') (fs : frS ((w + 1) % 9) M1 M2) (I : iG g') (F : iFo g') (t2 : g' 2 ≤ Bd') (t3 : g' 3 ≤ Bd') : RR S2 M2 Bd' :=
  RR_ch RGh RIh hB a2 a3 a5 f2 P G (by rw [fs.1]; exact e3) (by rw [fs.1]; exact e4 8 (by omega) (by omega) (by omega)) (by rw [fs.1]; exact e4 12 (by omega) (by omega) (by omega)) ((fs.2.1 5 (by omega)).trans (e6 5 (by omega))) (fun i hi => (fs.2.2 i hi).trans (e7 i hi)) I F t2 t3
theorem T_swap (hc : hC sh) (R : RR S M Bd) (a b : Int32) (d u : Nat) : oT E x y n m sh [1, 0] (Bd + 1) 0 (xsem xT E (d + 6) kX10_swap [.ref x, .int a, .int b] (wW E x sh S, n)) (xsem xT E (u + 7) kX11_swap [.ref y, .int a, .int b] (wW E y shM M, m)) := by
  obtain ⟨gs, w, un, tx, len, RGh, RIh⟩ := R
  obtain ⟨c5, c6, c3, c4, hw, hun⟩ := RGh.1
  obtain ⟨P, G, I, F, t2, t3⟩ := RGh.2 0 (Nat.zero_le _)
  rw [ix_0 hw] at P G
  have hw' : (w + 1) % 9 < 9 := Nat.mod_lt _ (by omega)
  have b0 := hc.1
  have hG := hc.2.2.2.2.2.2 w hw
  have hG' := hc.2.2.2.2.2.2 _ hw'
  have b2 := hG.1
  have b2' := hG'.1
  have h2 := I.1.1
  have h8 := I.1.2.1
  have hgm := fun d => c_game (E := E) (x := x) (n := n) hc c5 hw d
  have GZ := GM_Z c3 hw G
  obtain ⟨q1, q2, q3, q4⟩ := g_two (E := E) (y := y) (m := m) GZ I mZ_0 (u + 2)
  have hm0 : ∀ (a b : Int32) k, xsem xT E (u + 6) kX11_areTwo [.ref y, .int a, .int b] (wW E y shM (mZ M), m) = some (.inl (some (.int (nI 0))), (wW E y shM (sS (mZ M) 0 0 (nI k)), m)) → xsem xT E (u + 7) kX11_swap [.ref y, .int a, .int b] (wW E y shM M, m) = some (.inl (some (.int (nI 0))), (wW E y shM (sS (mZ M) 0 0 (nI k)), m)) := by
    intro a b k hh
    rw [eX11_swap, QX11_swap_0]
    simp (disch := omega) only [gO_9 hM0, gI_9_0 hM0, gP_9_0 hM0, gR_9_1 hM0, gR_9_2 hM0, gI_9_3 hM0, gP_9_3 hM0, gI_9_4 hM0, gP_9_4 hM0, gR_9_5 hM0, gR_9_6 hM0, gR_9_7 hM0, gI_9_8 hM0, gP_9_8 hM0, gI_9_9 hM0, gP_9_9 hM0, gI_9_10 hM0, gP_9_10 hM0, gI_9_11 hM0, gP_9_11 hM0, gI_9_12 hM0, gP_9_12 hM0, gI_9_13 hM0, gP_9_13 hM0, gI_9_14 hM0, gP_9_14 hM0, gI_9_15 hM0, gP_9_15 hM0, gI_9_16 hM0, gP_9_16 hM0, gR_9_17 hM0, gR_9_18 hM0, gR_9_19 hM0, gR_9_20 hM0, gI_9_21 hM0, gP_9_21 hM0, gI_9_22 hM0, gP_9_22 hM0, gI_9_23 hM0, gP_9_23 hM0, gI_9_24 hM0, gP_9_24 hM0, gR_9_25 hM0, gI_9_26 hM0, gP_9_26 hM0, gI_9_27 hM0, gP_9_27 hM0, gI_9_28 hM0, gP_9_28 hM0, gL_9_29 hM0, gP_9_29 hM0, gL_9_30 hM0, gP_9_30 hM0, cI_s, cL_s, cF_s, cD_s, cA_s, cV_s, nI_add, cond_true, cond_false, if_true, if_false]
    rw [show sS M 0 0 (nI 0) = mZ M from rfl, hh]
    simp (disch := omega) only [iEQ_t, xret5_0, cI_s, cL_s, cF_s, cD_s, cA_s, cV_s, nI_add, cond_true, cond_false, if_true, if_false]
  have hc0 : ∀ (a b : Int32) e, xsem xT E (d + 5) kX10_requireTwoPlaces [.ref x, .int a, .int b] (wW E x sh S, n) = some (.inr e, (wW E x sh S, n)) → xsem xT E (d + 6) kX10_swap [.ref x, .int a, .int b] (wW E x sh S, n) = some (.inr e, (wW E x sh S, n)) := by
    intro a b e hh
    rw [eX10_swap, QX10_swap_0]
    simp (disch := omega) only [ble_t, Bool.and_self, gO_8 b0, gR_8_0 b0, gR_8_1 b0, gR_8_2 b0, gR_8_3 b0, gR_8_4 b0, gI_8_5 b0, gP_8_5 b0, gI_8_6 b0, gP_8_6 b0, cI_s, cL_s, cF_s, cD_s, cA_s, cV_s, nI_add, cond_true, cond_false, if_true, if_false]
    rw [hh]
    simp (disch := omega) only [cV_x, cI_s, cL_s, cF_s, cD_s, cA_s, cV_s, nI_add, cond_true, cond_false, if_true, if_false]
  rcases i32_c a (b := gs 0 0) (by omega) with ⟨p, hp, rfl⟩ | h
  · rcases i32_c b (b := gs 0 0) (by omega) with ⟨q, hq, rfl⟩ | h'
    · by_cases hne : p = q
      · subst hne
        exact oT_ex (k := 1) (ex := 0) (v := .int (nI 0)) (RR_mo (RR_ro RGh RIh frm_rf (frU_sS frU_Z (by omega))) (by omega)) rfl (hc0 _ _ _ (c_two_3 hc c5 hw P I hp (d + 2))) (hm0 _ _ _ (q4 p hp)) sS_s
      · obtain ⟨S1, M1, a1, a2, a3, a4, a5, a6, e1, e2, e3, e4, e5, e6, e7⟩ := j_change (E := E) (x := x) (y := y) (n := n) (m := m) hc RGh (d + 2) (u + 4)
        have hok : okS (gBl (gs 0)) 0 p q (gs 0) := ⟨by omega, fun _ => ⟨hp, hq, hne⟩, fun z => absurd z (by omega), fun z => absurd z (by omega)⟩
        obtain ⟨o1, o2, o3, o4⟩ := step_ok I hok
        obtain ⟨S2, f1, f2, f3⟩ := s2_makeMove (E := E) (x := x) (n := n) hG' a4 I true hp hq hne d
        obtain ⟨M2, g1, g2, g3⟩ := g_steps (E := E) (y := y) (m := m) e2 I hok (by omega) (by omega) u
        refine oT_ok (RR_st RGh RIh (by omega) a2 a3 a5 e3 e4 e6 e7 f2 f3 g2 g3 o1 (o2 F) (by rw [show gStep (gBl (gs 0)) (if true = true then 0 else 1) p q (gs 0) = gStep (gBl (gs 0)) 0 p q (gs 0) from rfl]; omega) (by rw [show gStep (gBl (gs 0)) (if true = true then 0 else 1) p q (gs 0) = gStep (gBl (gs 0)) 0 p q (gs 0) from rfl]; omega)) (v := .int (nI (gBl (gs 0)).toNat)) ?_ ?_ (by rw [g3.1]; exact e5)
        · rw [eX10_swap, QX10_swap_0]
          simp (disch := omega) only [ble_t, Bool.and_self, gO_8 b0, gR_8_0 b0, gR_8_1 b0, gR_8_2 b0, gR_8_3 b0, gR_8_4 b0, gI_8_5 b0, gP_8_5 b0, gI_8_6 b0, gP_8_6 b0, cI_s, cL_s, cF_s, cD_s, cA_s, cV_s, nI_add, cond_true, cond_false, if_true, if_false]
          rw [c_two_t hc c5 hw P I hp hq hne]
          simp (disch := omega) only [ble_t, Bool.and_self, gO_8 b0, gR_8_0 b0, gR_8_1 b0, gR_8_2 b0, gR_8_3 b0, gR_8_4 b0, gI_8_5 b0, gP_8_5 b0, gI_8_6 b0, gP_8_6 b0, cI_s, cL_s, cF_s, cD_s, cA_s, cV_s, nI_add, cond_true, cond_false, if_true, if_false]
          rw [a1]
          simp (disch := omega) only [ble_t, Bool.and_self, gO_2 b2', gR_2_0 b2', gR_2_1 b2', gR_2_2 b2', gR_2_3 b2', gI_2_4 b2', gP_2_4 b2', gI_2_5 b2', gP_2_5 b2', gI_2_6 b2', gP_2_6 b2', gI_2_7 b2', gP_2_7 b2', gI_2_8 b2', gP_2_8 b2', cI_s, cL_s, cF_s, cD_s, cA_s, cV_s, nI_add, cond_true, cond_false, if_true, if_false]
          rw [show nI 1 = nI (true).toNat from rfl, f1]
          simp (disch := omega) only [xret5_b, cI_s, cL_s, cF_s, cD_s, cA_s, cV_s, nI_add, cond_true, cond_false, if_true, if_false]
        · rw [eX11_swap, QX11_swap_0]
          simp (disch := omega) only [gO_9 hM0, gI_9_0 hM0, gP_9_0 hM0, gR_9_1 hM0, gR_9_2 hM0, gI_9_3 hM0, gP_9_3 hM0, gI_9_4 hM0, gP_9_4 hM0, gR_9_5 hM0, gR_9_6 hM0, gR_9_7 hM0, gI_9_8 hM0, gP_9_8 hM0, gI_9_9 hM0, gP_9_9 hM0, gI_9_10 hM0, gP_9_10 hM0, gI_9_11 hM0, gP_9_11 hM0, gI_9_12 hM0, gP_9_12 hM0, gI_9_13 hM0, gP_9_13 hM0, gI_9_14 hM0, gP_9_14 hM0, gI_9_15 hM0, gP_9_15 hM0, gI_9_16 hM0, gP_9_16 hM0, gR_9_17 hM0, gR_9_18 hM0, gR_9_19 hM0, gR_9_20 hM0, gI_9_21 hM0, gP_9_21 hM0, gI_9_22 hM0, gP_9_22 hM0, gI_9_23 hM0, gP_9_23 hM0, gI_9_24 hM0, gP_9_24 hM0, gR_9_25 hM0, gI_9_26 hM0, gP_9_26 hM0, gI_9_27 hM0, gP_9_27 hM0, gI_9_28 hM0, gP_9_28 hM0, gL_9_29 hM0, gP_9_29 hM0, gL_9_30 hM0, gP_9_30 hM0, cI_s, cL_s, cF_s, cD_s, cA_s, cV_s, nI_add, cond_true, cond_false, if_true, if_false]
          rw [show sS M 0 0 (nI 0) = mZ M from rfl, q1 p q hp hq hne]
          simp (disch := omega) only [iEQ_f, QX11_swap_16, gO_9 hM0, gI_9_0 hM0, gP_9_0 hM0, gR_9_1 hM0, gR_9_2 hM0, gI_9_3 hM0, gP_9_3 hM0, gI_9_4 hM0, gP_9_4 hM0, gR_9_5 hM0, gR_9_6 hM0, gR_9_7 hM0, gI_9_8 hM0, gP_9_8 hM0, gI_9_9 hM0, gP_9_9 hM0, gI_9_10 hM0, gP_9_10 hM0, gI_9_11 hM0, gP_9_11 hM0, gI_9_12 hM0, gP_9_12 hM0, gI_9_13 hM0, gP_9_13 hM0, gI_9_14 hM0, gP_9_14 hM0, gI_9_15 hM0, gP_9_15 hM0, gI_9_16 hM0, gP_9_16 hM0, gR_9_17 hM0, gR_9_18 hM0, gR_9_19 hM0, gR_9_20 hM0, gI_9_21 hM0, gP_9_21 hM0, gI_9_22 hM0, gP_9_22 hM0, gI_9_23 hM0, gP_9_23 hM0, gI_9_24 hM0, gP_9_24 hM0, gR_9_25 hM0, gI_9_26 hM0, gP_9_26 hM0, gI_9_27 hM0, gP_9_27 hM0, gI_9_28 hM0, gP_9_28 hM0, gL_9_29 hM0, gP_9_29 hM0, gL_9_30 hM0, gP_9_30 hM0, cI_s, cL_s, cF_s, cD_s, cA_s, cV_s, nI_add, cond_true, cond_false, if_true, if_false]
          rw [e1]
          simp (disch := omega) only [gO_9 hM0, gI_9_0 hM0, gP_9_0 hM0, gR_9_1 hM0, gR_9_2 hM0, gI_9_3 hM0, gP_9_3 hM0, gI_9_4 hM0, gP_9_4 hM0, gR_9_5 hM0, gR_9_6 hM0, gR_9_7 hM0, gI_9_8 hM0, gP_9_8 hM0, gI_9_9 hM0, gP_9_9 hM0, gI_9_10 hM0, gP_9_10 hM0, gI_9_11 hM0, gP_9_11 hM0, gI_9_12 hM0, gP_9_12 hM0, gI_9_13 hM0, gP_9_13 hM0, gI_9_14 hM0, gP_9_14 hM0, gI_9_15 hM0, gP_9_15 hM0, gI_9_16 hM0, gP_9_16 hM0, gR_9_17 hM0, gR_9_18 hM0, gR_9_19 hM0, gR_9_20 hM0, gI_9_21 hM0, gP_9_21 hM0, gI_9_22 hM0, gP_9_22 hM0, gI_9_23 hM0, gP_9_23 hM0, gI_9_24 hM0, gP_9_24 hM0, gR_9_25 hM0, gI_9_26 hM0, gP_9_26 hM0, gI_9_27 hM0, gP_9_27 hM0, gI_9_28 hM0, gP_9_28 hM0, gL_9_29 hM0, gP_9_29 hM0, gL_9_30 hM0, gP_9_30 hM0, cI_s, cL_s, cF_s, cD_s, cA_s, cV_s, nI_add, cond_true, cond_false, if_true, if_false]
          rw [g1]
          simp (disch := omega) only [xret5_b, cI_s, cL_s, cF_s, cD_s, cA_s, cV_s, nI_add, cond_true, cond_false, if_true, if_false]
    · exact oT_ex (k := 0) (ex := 1) (v := .int (nI 0)) (RR_mo (RR_ro RGh RIh frm_rf (frU_sS frU_Z (by omega))) (by omega)) rfl (hc0 _ _ _ (c_two_2 hc c5 hw P I hp h' (d + 2))) (hm0 _ _ _ (q3 p b hp h')) sS_s
  · exact oT_ex (k := 0) (ex := 1) (v := .int (nI 0)) (RR_mo (RR_ro RGh RIh frm_rf (frU_sS frU_Z (by omega))) (by omega)) rfl (hc0 _ _ _ (c_two_1 hc c5 hw P h b (d + 2))) (hm0 _ _ _ (q2 a b h)) sS_s
theorem T_feint (hc : hC sh) (R : RR S M Bd) (a b : Int32) (d u : Nat) : oT E x y n m sh [1, 0] (Bd + 1) 0 (xsem xT E (d + 6) kX10_feint [.ref x, .int a, .int b] (wW E x sh S, n)) (xsem xT E (u + 7) kX11_feint [.ref y, .int a, .int b] (wW E y shM M, m)) := by
  obtain ⟨gs, w, un, tx, len, RGh, RIh⟩ := R
  obtain ⟨c5, c6, c3, c4, hw, hun⟩ := RGh.1
  obtain ⟨P, G, I, F, t2, t3⟩ := RGh.2 0 (Nat.zero_le _)
  rw [ix_0 hw] at P G
  have hw' : (w + 1) % 9 < 9 := Nat.mod_lt _ (by omega)
  have b0 := hc.1
  have hG := hc.2.2.2.2.2.2 w hw
  have hG' := hc.2.2.2.2.2.2 _ hw'
  have b2 := hG.1
  have b2' := hG'.1
  have h2 := I.1.1
  have h8 := I.1.2.1
  have hgm := fun d => c_game (E := E) (x := x) (n := n) hc c5 hw d
  have GZ := GM_Z c3 hw G
  obtain ⟨q1, q2, q3, q4⟩ := g_two (E := E) (y := y) (m := m) GZ I mZ_0 (u + 2)
  have hm0 : ∀ (a b : Int32) k, xsem xT E (u + 6) kX11_areTwo [.ref y, .int a, .int b] (wW E y shM (mZ M), m) = some (.inl (some (.int (nI 0))), (wW E y shM (sS (mZ M) 0 0 (nI k)), m)) → xsem xT E (u + 7) kX11_feint [.ref y, .int a, .int b] (wW E y shM M, m) = some (.inl (some (.int (nI 0))), (wW E y shM (sS (mZ M) 0 0 (nI k)), m)) := by
    intro a b k hh
    rw [eX11_feint, QX11_feint_0]
    simp (disch := omega) only [gO_9 hM0, gI_9_0 hM0, gP_9_0 hM0, gR_9_1 hM0, gR_9_2 hM0, gI_9_3 hM0, gP_9_3 hM0, gI_9_4 hM0, gP_9_4 hM0, gR_9_5 hM0, gR_9_6 hM0, gR_9_7 hM0, gI_9_8 hM0, gP_9_8 hM0, gI_9_9 hM0, gP_9_9 hM0, gI_9_10 hM0, gP_9_10 hM0, gI_9_11 hM0, gP_9_11 hM0, gI_9_12 hM0, gP_9_12 hM0, gI_9_13 hM0, gP_9_13 hM0, gI_9_14 hM0, gP_9_14 hM0, gI_9_15 hM0, gP_9_15 hM0, gI_9_16 hM0, gP_9_16 hM0, gR_9_17 hM0, gR_9_18 hM0, gR_9_19 hM0, gR_9_20 hM0, gI_9_21 hM0, gP_9_21 hM0, gI_9_22 hM0, gP_9_22 hM0, gI_9_23 hM0, gP_9_23 hM0, gI_9_24 hM0, gP_9_24 hM0, gR_9_25 hM0, gI_9_26 hM0, gP_9_26 hM0, gI_9_27 hM0, gP_9_27 hM0, gI_9_28 hM0, gP_9_28 hM0, gL_9_29 hM0, gP_9_29 hM0, gL_9_30 hM0, gP_9_30 hM0, cI_s, cL_s, cF_s, cD_s, cA_s, cV_s, nI_add, cond_true, cond_false, if_true, if_false]
    rw [show sS M 0 0 (nI 0) = mZ M from rfl, hh]
    simp (disch := omega) only [iEQ_t, xret5_0, cI_s, cL_s, cF_s, cD_s, cA_s, cV_s, nI_add, cond_true, cond_false, if_true, if_false]
  have hc0 : ∀ (a b : Int32) e, xsem xT E (d + 5) kX10_requireTwoPlaces [.ref x, .int a, .int b] (wW E x sh S, n) = some (.inr e, (wW E x sh S, n)) → xsem xT E (d + 6) kX10_feint [.ref x, .int a, .int b] (wW E x sh S, n) = some (.inr e, (wW E x sh S, n)) := by
    intro a b e hh
    rw [eX10_feint, QX10_feint_0]
    simp (disch := omega) only [ble_t, Bool.and_self, gO_8 b0, gR_8_0 b0, gR_8_1 b0, gR_8_2 b0, gR_8_3 b0, gR_8_4 b0, gI_8_5 b0, gP_8_5 b0, gI_8_6 b0, gP_8_6 b0, cI_s, cL_s, cF_s, cD_s, cA_s, cV_s, nI_add, cond_true, cond_false, if_true, if_false]
    rw [hh]
    simp (disch := omega) only [cV_x, cI_s, cL_s, cF_s, cD_s, cA_s, cV_s, nI_add, cond_true, cond_false, if_true, if_false]
  rcases i32_c a (b := gs 0 0) (by omega) with ⟨p, hp, rfl⟩ | h
  · rcases i32_c b (b := gs 0 0) (by omega) with ⟨q, hq, rfl⟩ | h'
    · by_cases hne : p = q
      · subst hne
        exact oT_ex (k := 1) (ex := 0) (v := .int (nI 0)) (RR_mo (RR_ro RGh RIh frm_rf (frU_sS frU_Z (by omega))) (by omega)) rfl (hc0 _ _ _ (c_two_3 hc c5 hw P I hp (d + 2))) (hm0 _ _ _ (q4 p hp)) sS_s
      · obtain ⟨S1, M1, a1, a2, a3, a4, a5, a6, e1, e2, e3, e4, e5, e6, e7⟩ := j_change (E := E) (x := x) (y := y) (n := n) (m := m) hc RGh (d + 2) (u + 4)
        have hok : okS (gBl (gs 0)) 1 p q (gs 0) := ⟨by omega, fun _ => ⟨hp, hq, hne⟩, fun z => absurd z (by omega), fun z => absurd z (by omega)⟩
        obtain ⟨o1, o2, o3, o4⟩ := step_ok I hok
        obtain ⟨S2, f1, f2, f3⟩ := s2_makeMove (E := E) (x := x) (n := n) hG' a4 I false hp hq hne d
        obtain ⟨M2, g1, g2, g3⟩ := g_steps (E := E) (y := y) (m := m) e2 I hok (by omega) (by omega) u
        refine oT_ok (RR_st RGh RIh (by omega) a2 a3 a5 e3 e4 e6 e7 f2 f3 g2 g3 o1 (o2 F) (by rw [show gStep (gBl (gs 0)) (if false = true then 0 else 1) p q (gs 0) = gStep (gBl (gs 0)) 1 p q (gs 0) from rfl]; omega) (by rw [show gStep (gBl (gs 0)) (if false = true then 0 else 1) p q (gs 0) = gStep (gBl (gs 0)) 1 p q (gs 0) from rfl]; omega)) (v := .int (nI (gBl (gs 0)).toNat)) ?_ ?_ (by rw [g3.1]; exact e5)
        · rw [eX10_feint, QX10_feint_0]
          simp (disch := omega) only [ble_t, Bool.and_self, gO_8 b0, gR_8_0 b0, gR_8_1 b0, gR_8_2 b0, gR_8_3 b0, gR_8_4 b0, gI_8_5 b0, gP_8_5 b0, gI_8_6 b0, gP_8_6 b0, cI_s, cL_s, cF_s, cD_s, cA_s, cV_s, nI_add, cond_true, cond_false, if_true, if_false]
          rw [c_two_t hc c5 hw P I hp hq hne]
          simp (disch := omega) only [ble_t, Bool.and_self, gO_8 b0, gR_8_0 b0, gR_8_1 b0, gR_8_2 b0, gR_8_3 b0, gR_8_4 b0, gI_8_5 b0, gP_8_5 b0, gI_8_6 b0, gP_8_6 b0, cI_s, cL_s, cF_s, cD_s, cA_s, cV_s, nI_add, cond_true, cond_false, if_true, if_false]
          rw [a1]
          simp (disch := omega) only [ble_t, Bool.and_self, gO_2 b2', gR_2_0 b2', gR_2_1 b2', gR_2_2 b2', gR_2_3 b2', gI_2_4 b2', gP_2_4 b2', gI_2_5 b2', gP_2_5 b2', gI_2_6 b2', gP_2_6 b2', gI_2_7 b2', gP_2_7 b2', gI_2_8 b2', gP_2_8 b2', cI_s, cL_s, cF_s, cD_s, cA_s, cV_s, nI_add, cond_true, cond_false, if_true, if_false]
          rw [show nI 0 = nI (false).toNat from rfl, f1]
          simp (disch := omega) only [xret5_b, cI_s, cL_s, cF_s, cD_s, cA_s, cV_s, nI_add, cond_true, cond_false, if_true, if_false]
        · rw [eX11_feint, QX11_feint_0]
          simp (disch := omega) only [gO_9 hM0, gI_9_0 hM0, gP_9_0 hM0, gR_9_1 hM0, gR_9_2 hM0, gI_9_3 hM0, gP_9_3 hM0, gI_9_4 hM0, gP_9_4 hM0, gR_9_5 hM0, gR_9_6 hM0, gR_9_7 hM0, gI_9_8 hM0, gP_9_8 hM0, gI_9_9 hM0, gP_9_9 hM0, gI_9_10 hM0, gP_9_10 hM0, gI_9_11 hM0, gP_9_11 hM0, gI_9_12 hM0, gP_9_12 hM0, gI_9_13 hM0, gP_9_13 hM0, gI_9_14 hM0, gP_9_14 hM0, gI_9_15 hM0, gP_9_15 hM0, gI_9_16 hM0, gP_9_16 hM0, gR_9_17 hM0, gR_9_18 hM0, gR_9_19 hM0, gR_9_20 hM0, gI_9_21 hM0, gP_9_21 hM0, gI_9_22 hM0, gP_9_22 hM0, gI_9_23 hM0, gP_9_23 hM0, gI_9_24 hM0, gP_9_24 hM0, gR_9_25 hM0, gI_9_26 hM0, gP_9_26 hM0, gI_9_27 hM0, gP_9_27 hM0, gI_9_28 hM0, gP_9_28 hM0, gL_9_29 hM0, gP_9_29 hM0, gL_9_30 hM0, gP_9_30 hM0, cI_s, cL_s, cF_s, cD_s, cA_s, cV_s, nI_add, cond_true, cond_false, if_true, if_false]
          rw [show sS M 0 0 (nI 0) = mZ M from rfl, q1 p q hp hq hne]
          simp (disch := omega) only [iEQ_f, QX11_feint_16, gO_9 hM0, gI_9_0 hM0, gP_9_0 hM0, gR_9_1 hM0, gR_9_2 hM0, gI_9_3 hM0, gP_9_3 hM0, gI_9_4 hM0, gP_9_4 hM0, gR_9_5 hM0, gR_9_6 hM0, gR_9_7 hM0, gI_9_8 hM0, gP_9_8 hM0, gI_9_9 hM0, gP_9_9 hM0, gI_9_10 hM0, gP_9_10 hM0, gI_9_11 hM0, gP_9_11 hM0, gI_9_12 hM0, gP_9_12 hM0, gI_9_13 hM0, gP_9_13 hM0, gI_9_14 hM0, gP_9_14 hM0, gI_9_15 hM0, gP_9_15 hM0, gI_9_16 hM0, gP_9_16 hM0, gR_9_17 hM0, gR_9_18 hM0, gR_9_19 hM0, gR_9_20 hM0, gI_9_21 hM0, gP_9_21 hM0, gI_9_22 hM0, gP_9_22 hM0, gI_9_23 hM0, gP_9_23 hM0, gI_9_24 hM0, gP_9_24 hM0, gR_9_25 hM0, gI_9_26 hM0, gP_9_26 hM0, gI_9_27 hM0, gP_9_27 hM0, gI_9_28 hM0, gP_9_28 hM0, gL_9_29 hM0, gP_9_29 hM0, gL_9_30 hM0, gP_9_30 hM0, cI_s, cL_s, cF_s, cD_s, cA_s, cV_s, nI_add, cond_true, cond_false, if_true, if_false]
          rw [e1]
          simp (disch := omega) only [gO_9 hM0, gI_9_0 hM0, gP_9_0 hM0, gR_9_1 hM0, gR_9_2 hM0, gI_9_3 hM0, gP_9_3 hM0, gI_9_4 hM0, gP_9_4 hM0, gR_9_5 hM0, gR_9_6 hM0, gR_9_7 hM0, gI_9_8 hM0, gP_9_8 hM0, gI_9_9 hM0, gP_9_9 hM0, gI_9_10 hM0, gP_9_10 hM0, gI_9_11 hM0, gP_9_11 hM0, gI_9_12 hM0, gP_9_12 hM0, gI_9_13 hM0, gP_9_13 hM0, gI_9_14 hM0, gP_9_14 hM0, gI_9_15 hM0, gP_9_15 hM0, gI_9_16 hM0, gP_9_16 hM0, gR_9_17 hM0, gR_9_18 hM0, gR_9_19 hM0, gR_9_20 hM0, gI_9_21 hM0, gP_9_21 hM0, gI_9_22 hM0, gP_9_22 hM0, gI_9_23 hM0, gP_9_23 hM0, gI_9_24 hM0, gP_9_24 hM0, gR_9_25 hM0, gI_9_26 hM0, gP_9_26 hM0, gI_9_27 hM0, gP_9_27 hM0, gI_9_28 hM0, gP_9_28 hM0, gL_9_29 hM0, gP_9_29 hM0, gL_9_30 hM0, gP_9_30 hM0, cI_s, cL_s, cF_s, cD_s, cA_s, cV_s, nI_add, cond_true, cond_false, if_true, if_false]
          rw [g1]
          simp (disch := omega) only [xret5_b, cI_s, cL_s, cF_s, cD_s, cA_s, cV_s, nI_add, cond_true, cond_false, if_true, if_false]
    · exact oT_ex (k := 0) (ex := 1) (v := .int (nI 0)) (RR_mo (RR_ro RGh RIh frm_rf (frU_sS frU_Z (by omega))) (by omega)) rfl (hc0 _ _ _ (c_two_2 hc c5 hw P I hp h' (d + 2))) (hm0 _ _ _ (q3 p b hp h')) sS_s
  · exact oT_ex (k := 0) (ex := 1) (v := .int (nI 0)) (RR_mo (RR_ro RGh RIh frm_rf (frU_sS frU_Z (by omega))) (by omega)) rfl (hc0 _ _ _ (c_two_1 hc c5 hw P h b (d + 2))) (hm0 _ _ _ (q2 a b h)) sS_s
theorem T_rest (hc : hC sh) (R : RR S M Bd) (d u : Nat) : oT E x y n m sh [] (Bd + 1) 0 (xsem xT E (d + 6) kX10_rest [.ref x] (wW E x sh S, n)) (xsem xT E (u + 7) kX11_rest [.ref y] (wW E y shM M, m)) := by
  obtain ⟨gs, w, un, tx, len, RGh, RIh⟩ := R
  obtain ⟨c5, c6, c3, c4, hw, hun⟩ := RGh.1
  obtain ⟨P, G, I, F, t2, t3⟩ := RGh.2 0 (Nat.zero_le _)
  rw [ix_0 hw] at P G
  have hw' : (w + 1) % 9 < 9 := Nat.mod_lt _ (by omega)
  have b0 := hc.1
  have hG := hc.2.2.2.2.2.2 w hw
  have hG' := hc.2.2.2.2.2.2 _ hw'
  have b2 := hG.1
  have b2' := hG'.1
  have h2 := I.1.1
  have h8 := I.1.2.1
  have hgm := fun d => c_game (E := E) (x := x) (n := n) hc c5 hw d
  have GZ := GM_Z c3 hw G
  obtain ⟨S1, M1, a1, a2, a3, a4, a5, a6, e1, e2, e3, e4, e5, e6, e7⟩ := j_change (E := E) (x := x) (y := y) (n := n) (m := m) hc RGh (d + 2) (u + 4)
  have hok : okS (gBl (gs 0)) 2 0 0 (gs 0) := ⟨by omega, fun z => absurd z (by omega), fun z => absurd z (by omega), fun z => absurd z (by omega)⟩
  obtain ⟨o1, o2, o3, o4⟩ := step_ok I hok
  have b5' := hG'.2.1
  have r1 : S1.1 (27 + 12 * ((w + 1) % 9) + 1) 1 = nI (gs 0 1) := a4.1.2.1
  have hgm' := c_game (E := E) (x := x) (n := n) (S := S1) hc a2 hw' (d + 4)
  obtain ⟨S2, f1, f2, f3⟩ := s2_makeStill (E := E) (x := x) (n := n) hG' a4 I (k := 2) (a := 0) (b := 0) (by omega) (to := gs 0 1) rfl d
  obtain ⟨M2, g1, g2, g3⟩ := g_steps (E := E) (y := y) (m := m) e2 I hok (by omega) (by omega) u
  refine oT_ok (RR_st RGh RIh (by omega) a2 a3 a5 e3 e4 e6 e7 f2 f3 g2 g3 o1 (o2 F) (by omega) (by omega)) (v := .int (nI (gBl (gs 0)).toNat)) ?_ ?_ (by rw [g3.1]; exact e5)
  · rw [eX10_rest, QX10_rest_0]
    simp (disch := omega) only [gO_8 b0, gR_8_0 b0, gR_8_1 b0, gR_8_2 b0, gR_8_3 b0, gR_8_4 b0, gI_8_5 b0, gP_8_5 b0, gI_8_6 b0, gP_8_6 b0, cI_s, cL_s, cF_s, cD_s, cA_s, cV_s, nI_add, cond_true, cond_false, if_true, if_false]
    rw [a1]
    simp (disch := omega) only [gO_8 b0, gR_8_0 b0, gR_8_1 b0, gR_8_2 b0, gR_8_3 b0, gR_8_4 b0, gI_8_5 b0, gP_8_5 b0, gI_8_6 b0, gP_8_6 b0, cI_s, cL_s, cF_s, cD_s, cA_s, cV_s, nI_add, cond_true, cond_false, if_true, if_false]
    rw [hgm']
    simp (disch := omega) only [gO_2 b2', gR_2_0 b2', gR_2_1 b2', gR_2_2 b2', gR_2_3 b2', gI_2_4 b2', gP_2_4 b2', gI_2_5 b2', gP_2_5 b2', gI_2_6 b2', gP_2_6 b2', gI_2_7 b2', gP_2_7 b2', gI_2_8 b2', gP_2_8 b2', gO_5 b5', gI_5_0 b5', gP_5_0 b5', gI_5_1 b5', gP_5_1 b5', gI_5_2 b5', gP_5_2 b5', gR_5_3 b5', gR_5_4 b5', r1, cI_s, cL_s, cF_s, cD_s, cA_s, cV_s, nI_add, cond_true, cond_false, if_true, if_false]
    rw [f1]
    simp (disch := omega) only [xret5_b, cI_s, cL_s, cF_s, cD_s, cA_s, cV_s, nI_add, cond_true, cond_false, if_true, if_false]
  · rw [eX11_rest, QX11_rest_0]
    simp (disch := omega) only [gO_9 hM0, gI_9_0 hM0, gP_9_0 hM0, gR_9_1 hM0, gR_9_2 hM0, gI_9_3 hM0, gP_9_3 hM0, gI_9_4 hM0, gP_9_4 hM0, gR_9_5 hM0, gR_9_6 hM0, gR_9_7 hM0, gI_9_8 hM0, gP_9_8 hM0, gI_9_9 hM0, gP_9_9 hM0, gI_9_10 hM0, gP_9_10 hM0, gI_9_11 hM0, gP_9_11 hM0, gI_9_12 hM0, gP_9_12 hM0, gI_9_13 hM0, gP_9_13 hM0, gI_9_14 hM0, gP_9_14 hM0, gI_9_15 hM0, gP_9_15 hM0, gI_9_16 hM0, gP_9_16 hM0, gR_9_17 hM0, gR_9_18 hM0, gR_9_19 hM0, gR_9_20 hM0, gI_9_21 hM0, gP_9_21 hM0, gI_9_22 hM0, gP_9_22 hM0, gI_9_23 hM0, gP_9_23 hM0, gI_9_24 hM0, gP_9_24 hM0, gR_9_25 hM0, gI_9_26 hM0, gP_9_26 hM0, gI_9_27 hM0, gP_9_27 hM0, gI_9_28 hM0, gP_9_28 hM0, gL_9_29 hM0, gP_9_29 hM0, gL_9_30 hM0, gP_9_30 hM0, cI_s, cL_s, cF_s, cD_s, cA_s, cV_s, nI_add, cond_true, cond_false, if_true, if_false]
    rw [show sS M 0 0 (nI 0) = mZ M from rfl, e1]
    simp (disch := omega) only [gO_9 hM0, gI_9_0 hM0, gP_9_0 hM0, gR_9_1 hM0, gR_9_2 hM0, gI_9_3 hM0, gP_9_3 hM0, gI_9_4 hM0, gP_9_4 hM0, gR_9_5 hM0, gR_9_6 hM0, gR_9_7 hM0, gI_9_8 hM0, gP_9_8 hM0, gI_9_9 hM0, gP_9_9 hM0, gI_9_10 hM0, gP_9_10 hM0, gI_9_11 hM0, gP_9_11 hM0, gI_9_12 hM0, gP_9_12 hM0, gI_9_13 hM0, gP_9_13 hM0, gI_9_14 hM0, gP_9_14 hM0, gI_9_15 hM0, gP_9_15 hM0, gI_9_16 hM0, gP_9_16 hM0, gR_9_17 hM0, gR_9_18 hM0, gR_9_19 hM0, gR_9_20 hM0, gI_9_21 hM0, gP_9_21 hM0, gI_9_22 hM0, gP_9_22 hM0, gI_9_23 hM0, gP_9_23 hM0, gI_9_24 hM0, gP_9_24 hM0, gR_9_25 hM0, gI_9_26 hM0, gP_9_26 hM0, gI_9_27 hM0, gP_9_27 hM0, gI_9_28 hM0, gP_9_28 hM0, gL_9_29 hM0, gP_9_29 hM0, gL_9_30 hM0, gP_9_30 hM0, cI_s, cL_s, cF_s, cD_s, cA_s, cV_s, nI_add, cond_true, cond_false, if_true, if_false]
    rw [g1]
    simp (disch := omega) only [xret5_b, cI_s, cL_s, cF_s, cD_s, cA_s, cV_s, nI_add, cond_true, cond_false, if_true, if_false]
theorem c_moveBall {w d0 k0 : Nat} (hc : hC sh) (hw : w < 9) {S1 S2 : xSt} {to : Nat} {g' : Nat → Nat} (a1 : xsem xT E (d0 + 5) kX10_change [.ref x] (wW E x sh S, n) = some (.inl (some (.ref (x + (27 + 12 * ((w + 1) % 9))))), (wW E x sh S1, n))) (f1 : xsem xT E (d0 + 5) kX2_makeStill [.ref (x + (27 + 12 * ((w + 1) % 9))), .int (nI to)] (wW E x sh S1, n) = some (.inl (some (.int (nI k0))), (wW E x sh S2, n))) (P2 : pG S2 (27 + 12 * ((w + 1) % 9)) g') (I' : iG g') : xsem xT E (d0 + 6) kX10_moveBall [.ref x, .int (nI to)] (wW E x sh S, n) = some (.inl (some (.int (nI (mSum (gF g') (g' 0 + 1))))), (wW E x sh S2, n)) := by
  have hw' : (w + 1) % 9 < 9 := Nat.mod_lt _ (by omega)
  have b0 := hc.1
  have hG' := hc.2.2.2.2.2.2 _ hw'
  have b2' := hG'.1
  have b4' := hG'.2.2.2.2.1
  have b41' : sh (27 + 12 * ((w + 1) % 9) + 4 + 1) = some (1, 9, []) := hG'.2.2.2.2.2.1
  have h8 := I'.1.2.1
  have hsm := s4_sum (E := E) (x := x) (n := n) (S := S2) (f := gF g') (pl := g' 0 + 1) b4' b41' P2.2.1.1 (by omega) (fun p hp => P2.2.1.2.2.2.2 p (by omega)) (d0 + 4)
  rw [eX10_moveBall, QX10_moveBall_0]
  simp (disch := omega) only [gO_8 b0, gR_8_0 b0, gR_8_1 b0, gR_8_2 b0, gR_8_3 b0, gR_8_4 b0, gI_8_5 b0, gP_8_5 b0, gI_8_6 b0, gP_8_6 b0, cI_s, cL_s, cF_s, cD_s, cA_s, cV_s, nI_add, cond_true, cond_false, if_true, if_false]
  rw [a1]
  simp (disch := omega) only [gO_2 b2', gR_2_0 b2', gR_2_1 b2', gR_2_2 b2', gR_2_3 b2', gI_2_4 b2', gP_2_4 b2', gI_2_5 b2', gP_2_5 b2', gI_2_6 b2', gP_2_6 b2', gI_2_7 b2', gP_2_7 b2', gI_2_8 b2', gP_2_8 b2', cI_s, cL_s, cF_s, cD_s, cA_s, cV_s, nI_add, cond_true, cond_false, if_true, if_false]
  rw [f1]
  simp (disch := omega) only [gO_2 b2', gR_2_0 b2', gR_2_1 b2', gR_2_2 b2', gR_2_3 b2', gI_2_4 b2', gP_2_4 b2', gI_2_5 b2', gP_2_5 b2', gI_2_6 b2', gP_2_6 b2', gI_2_7 b2', gP_2_7 b2', gI_2_8 b2', gP_2_8 b2', gO_4 b4', gR_4_0 b4', gI_4_1 b4', gP_4_1 b4', gI_4_2 b4', gP_4_2 b4', gI_4_3 b4', gP_4_3 b4', gI_4_4 b4', gP_4_4 b4', cI_s, cL_s, cF_s, cD_s, cA_s, cV_s, nI_add, cond_true, cond_false, if_true, if_false]
  rw [hsm]
  simp (disch := omega) only [cI_s, cL_s, cF_s, cD_s, cA_s, cV_s, nI_add, cond_true, cond_false, if_true, if_false]
theorem T_steal (hc : hC sh) (R : RR S M Bd) (a : Int32) (d u : Nat) : oT E x y n m sh [1, 2] (Bd + 1) 0 (xsem xT E (d + 8) kX10_steal [.ref x, .int a] (wW E x sh S, n)) (xsem xT E (u + 7) kX11_steal [.ref y, .int a] (wW E y shM M, m)) := by
  obtain ⟨gs, w, un, tx, len, RGh, RIh⟩ := R
  obtain ⟨c5, c6, c3, c4, hw, hun⟩ := RGh.1
  obtain ⟨P, G, I, F, t2, t3⟩ := RGh.2 0 (Nat.zero_le _)
  rw [ix_0 hw] at P G
  have hw' : (w + 1) % 9 < 9 := Nat.mod_lt _ (by omega)
  have b0 := hc.1
  have hG := hc.2.2.2.2.2.2 w hw
  have hG' := hc.2.2.2.2.2.2 _ hw'
  have b2 := hG.1
  have b2' := hG'.1
  have h2 := I.1.1
  have h8 := I.1.2.1
  have hgm := fun d => c_game (E := E) (x := x) (n := n) hc c5 hw d
  have GZ := GM_Z c3 hw G
  rcases i32_c a (b := gs 0 0) (by omega) with ⟨p, hp, rfl⟩ | h
  · have hcs := s2_canSteal (E := E) (x := x) (n := n) hG P I hp (d + 4)
    have hms := g_canSteal (E := E) (y := y) (m := m) GZ I hp (u + 2)
    cases hcan : gCanS p (gs 0) with
    | true =>
      rw [hcan] at hcs hms
      obtain ⟨z1, z2, z3⟩ := gCanS_t hcan
      obtain ⟨S1, M1, a1, a2, a3, a4, a5, a6, e1, e2, e3, e4, e5, e6, e7⟩ := j_change (E := E) (x := x) (y := y) (n := n) (m := m) hc RGh (d + 3) (u + 4)
      have hok : okS (gBl (gs 0)) 3 p 0 (gs 0) := ⟨by omega, fun z => absurd z (by omega), fun _ => ⟨z1, z2, by omega⟩, fun z => absurd z (by omega)⟩
      obtain ⟨o1, o2, o3, o4⟩ := step_ok I hok
      obtain ⟨S2, f1, f2, f3⟩ := s2_makeStill (E := E) (x := x) (n := n) hG' a4 I (k := 3) (a := p) (b := 0) (by omega) (to := gs 0 0) rfl (d + 1)
      obtain ⟨M2, g1, g2, g3⟩ := g_steps (E := E) (y := y) (m := m) e2 I hok (by omega) (by omega) u
      have hmv := c_moveBall (E := E) (x := x) (n := n) (d0 := d + 1) hc hw a1 f1 f3 o1
      have hsm := g_sum (E := E) (y := y) (m := m) g2 o1 (u + 3)
      have hs1 := (mSum_pos o1).2
      refine oT_ok (RR_st RGh RIh (by omega) a2 a3 a5 e3 e4 e6 e7 f2 f3 g2 g3 o1 (o2 F) (by omega) (by omega)) (v := .int (nI (mSum (gF (gStep (gBl (gs 0)) 3 p 0 (gs 0))) (gStep (gBl (gs 0)) 3 p 0 (gs 0) 0 + 1)))) ?_ ?_ (by rw [g3.1]; exact e5)
      · rw [eX10_steal, QX10_steal_0]
        simp (disch := omega) only [ble_t, Bool.and_self, gO_8 b0, gR_8_0 b0, gR_8_1 b0, gR_8_2 b0, gR_8_3 b0, gR_8_4 b0, gI_8_5 b0, gP_8_5 b0, gI_8_6 b0, gP_8_6 b0, cI_s, cL_s, cF_s, cD_s, cA_s, cV_s, nI_add, cond_true, cond_false, if_true, if_false]
        rw [c_place_t hc c5 hw P I hp]
        simp (disch := omega) only [ble_t, Bool.and_self, gO_8 b0, gR_8_0 b0, gR_8_1 b0, gR_8_2 b0, gR_8_3 b0, gR_8_4 b0, gI_8_5 b0, gP_8_5 b0, gI_8_6 b0, gP_8_6 b0, hgm, gO_2 b2, gR_2_0 b2, gR_2_1 b2, gR_2_2 b2, gR_2_3 b2, gI_2_4 b2, gP_2_4 b2, gI_2_5 b2, gP_2_5 b2, gI_2_6 b2, gP_2_6 b2, gI_2_7 b2, gP_2_7 b2, gI_2_8 b2, gP_2_8 b2, cI_s, cL_s, cF_s, cD_s, cA_s, cV_s, nI_add, cond_true, cond_false, if_true, if_false]
        rw [hcs]
        simp (disch := omega) only [Bool.toNat_true, iEQ_f, QX10_steal_26, ble_t, Bool.and_self, gO_8 b0, gR_8_0 b0, gR_8_1 b0, gR_8_2 b0, gR_8_3 b0, gR_8_4 b0, gI_8_5 b0, gP_8_5 b0, gI_8_6 b0, gP_8_6 b0, hgm, gO_2 b2, gR_2_0 b2, gR_2_1 b2, gR_2_2 b2, gR_2_3 b2, gI_2_4 b2, gP_2_4 b2, gI_2_5 b2, gP_2_5 b2, gI_2_6 b2, gP_2_6 b2, gI_2_7 b2, gP_2_7 b2, gI_2_8 b2, gP_2_8 b2, gO_5 hG.2.1, gI_5_0 hG.2.1, gP_5_0 hG.2.1, gI_5_1 hG.2.1, gP_5_1 hG.2.1, gI_5_2 hG.2.1, gP_5_2 hG.2.1, gR_5_3 hG.2.1, gR_5_4 hG.2.1, show S.1 (27 + 12 * w + 1) 0 = nI (gs 0 0) from P.1.1, cI_s, cL_s, cF_s, cD_s, cA_s, cV_s, nI_add, cond_true, cond_false, if_true, if_false]
        rw [hmv]
        simp (disch := omega) only [cI_s, cL_s, cF_s, cD_s, cA_s, cV_s, nI_add, cond_true, cond_false, if_true, if_false]
      · rw [eX11_steal, QX11_steal_0]
        simp (disch := omega) only [gO_9 hM0, gI_9_0 hM0, gP_9_0 hM0, gR_9_1 hM0, gR_9_2 hM0, gI_9_3 hM0, gP_9_3 hM0, gI_9_4 hM0, gP_9_4 hM0, gR_9_5 hM0, gR_9_6 hM0, gR_9_7 hM0, gI_9_8 hM0, gP_9_8 hM0, gI_9_9 hM0, gP_9_9 hM0, gI_9_10 hM0, gP_9_10 hM0, gI_9_11 hM0, gP_9_11 hM0, gI_9_12 hM0, gP_9_12 hM0, gI_9_13 hM0, gP_9_13 hM0, gI_9_14 hM0, gP_9_14 hM0, gI_9_15 hM0, gP_9_15 hM0, gI_9_16 hM0, gP_9_16 hM0, gR_9_17 hM0, gR_9_18 hM0, gR_9_19 hM0, gR_9_20 hM0, gI_9_21 hM0, gP_9_21 hM0, gI_9_22 hM0, gP_9_22 hM0, gI_9_23 hM0, gP_9_23 hM0, gI_9_24 hM0, gP_9_24 hM0, gR_9_25 hM0, gI_9_26 hM0, gP_9_26 hM0, gI_9_27 hM0, gP_9_27 hM0, gI_9_28 hM0, gP_9_28 hM0, gL_9_29 hM0, gP_9_29 hM0, gL_9_30 hM0, gP_9_30 hM0, cI_s, cL_s, cF_s, cD_s, cA_s, cV_s, nI_add, cond_true, cond_false, if_true, if_false]
        rw [show sS M 0 0 (nI 0) = mZ M from rfl, g_isPlaceT GZ I hp]
        simp (disch := omega) only [gO_9 hM0, gI_9_0 hM0, gP_9_0 hM0, gR_9_1 hM0, gR_9_2 hM0, gI_9_3 hM0, gP_9_3 hM0, gI_9_4 hM0, gP_9_4 hM0, gR_9_5 hM0, gR_9_6 hM0, gR_9_7 hM0, gI_9_8 hM0, gP_9_8 hM0, gI_9_9 hM0, gP_9_9 hM0, gI_9_10 hM0, gP_9_10 hM0, gI_9_11 hM0, gP_9_11 hM0, gI_9_12 hM0, gP_9_12 hM0, gI_9_13 hM0, gP_9_13 hM0, gI_9_14 hM0, gP_9_14 hM0, gI_9_15 hM0, gP_9_15 hM0, gI_9_16 hM0, gP_9_16 hM0, gR_9_17 hM0, gR_9_18 hM0, gR_9_19 hM0, gR_9_20 hM0, gI_9_21 hM0, gP_9_21 hM0, gI_9_22 hM0, gP_9_22 hM0, gI_9_23 hM0, gP_9_23 hM0, gI_9_24 hM0, gP_9_24 hM0, gR_9_25 hM0, gI_9_26 hM0, gP_9_26 hM0, gI_9_27 hM0, gP_9_27 hM0, gI_9_28 hM0, gP_9_28 hM0, gL_9_29 hM0, gP_9_29 hM0, gL_9_30 hM0, gP_9_30 hM0, cI_s, cL_s, cF_s, cD_s, cA_s, cV_s, nI_add, cond_true, cond_false, if_true, if_false]
        rw [m_right1 mZ_0]
        simp (disch := omega) only [iEQ_f, gO_9 hM0, gI_9_0 hM0, gP_9_0 hM0, gR_9_1 hM0, gR_9_2 hM0, gI_9_3 hM0, gP_9_3 hM0, gI_9_4 hM0, gP_9_4 hM0, gR_9_5 hM0, gR_9_6 hM0, gR_9_7 hM0, gI_9_8 hM0, gP_9_8 hM0, gI_9_9 hM0, gP_9_9 hM0, gI_9_10 hM0, gP_9_10 hM0, gI_9_11 hM0, gP_9_11 hM0, gI_9_12 hM0, gP_9_12 hM0, gI_9_13 hM0, gP_9_13 hM0, gI_9_14 hM0, gP_9_14 hM0, gI_9_15 hM0, gP_9_15 hM0, gI_9_16 hM0, gP_9_16 hM0, gR_9_17 hM0, gR_9_18 hM0, gR_9_19 hM0, gR_9_20 hM0, gI_9_21 hM0, gP_9_21 hM0, gI_9_22 hM0, gP_9_22 hM0, gI_9_23 hM0, gP_9_23 hM0, gI_9_24 hM0, gP_9_24 hM0, gR_9_25 hM0, gI_9_26 hM0, gP_9_26 hM0, gI_9_27 hM0, gP_9_27 hM0, gI_9_28 hM0, gP_9_28 hM0, gL_9_29 hM0, gP_9_29 hM0, gL_9_30 hM0, gP_9_30 hM0, cI_s, cL_s, cF_s, cD_s, cA_s, cV_s, nI_add, cond_true, cond_false, if_true, if_false]
        rw [hms]
        simp (disch := omega) only [Bool.toNat_true, gO_9 hM0, gI_9_0 hM0, gP_9_0 hM0, gR_9_1 hM0, gR_9_2 hM0, gI_9_3 hM0, gP_9_3 hM0, gI_9_4 hM0, gP_9_4 hM0, gR_9_5 hM0, gR_9_6 hM0, gR_9_7 hM0, gI_9_8 hM0, gP_9_8 hM0, gI_9_9 hM0, gP_9_9 hM0, gI_9_10 hM0, gP_9_10 hM0, gI_9_11 hM0, gP_9_11 hM0, gI_9_12 hM0, gP_9_12 hM0, gI_9_13 hM0, gP_9_13 hM0, gI_9_14 hM0, gP_9_14 hM0, gI_9_15 hM0, gP_9_15 hM0, gI_9_16 hM0, gP_9_16 hM0, gR_9_17 hM0, gR_9_18 hM0, gR_9_19 hM0, gR_9_20 hM0, gI_9_21 hM0, gP_9_21 hM0, gI_9_22 hM0, gP_9_22 hM0, gI_9_23 hM0, gP_9_23 hM0, gI_9_24 hM0, gP_9_24 hM0, gR_9_25 hM0, gI_9_26 hM0, gP_9_26 hM0, gI_9_27 hM0, gP_9_27 hM0, gI_9_28 hM0, gP_9_28 hM0, gL_9_29 hM0, gP_9_29 hM0, gL_9_30 hM0, gP_9_30 hM0, cI_s, cL_s, cF_s, cD_s, cA_s, cV_s, nI_add, cond_true, cond_false, if_true, if_false]
        rw [m_right1 mZ_0]
        simp (disch := omega) only [iEQ_f, QX11_steal_33, gO_9 hM0, gI_9_0 hM0, gP_9_0 hM0, gR_9_1 hM0, gR_9_2 hM0, gI_9_3 hM0, gP_9_3 hM0, gI_9_4 hM0, gP_9_4 hM0, gR_9_5 hM0, gR_9_6 hM0, gR_9_7 hM0, gI_9_8 hM0, gP_9_8 hM0, gI_9_9 hM0, gP_9_9 hM0, gI_9_10 hM0, gP_9_10 hM0, gI_9_11 hM0, gP_9_11 hM0, gI_9_12 hM0, gP_9_12 hM0, gI_9_13 hM0, gP_9_13 hM0, gI_9_14 hM0, gP_9_14 hM0, gI_9_15 hM0, gP_9_15 hM0, gI_9_16 hM0, gP_9_16 hM0, gR_9_17 hM0, gR_9_18 hM0, gR_9_19 hM0, gR_9_20 hM0, gI_9_21 hM0, gP_9_21 hM0, gI_9_22 hM0, gP_9_22 hM0, gI_9_23 hM0, gP_9_23 hM0, gI_9_24 hM0, gP_9_24 hM0, gR_9_25 hM0, gI_9_26 hM0, gP_9_26 hM0, gI_9_27 hM0, gP_9_27 hM0, gI_9_28 hM0, gP_9_28 hM0, gL_9_29 hM0, gP_9_29 hM0, gL_9_30 hM0, gP_9_30 hM0, cI_s, cL_s, cF_s, cD_s, cA_s, cV_s, nI_add, cond_true, cond_false, if_true, if_false]
        rw [e1]
        simp (disch := omega) only [gO_9 hM0, gI_9_0 hM0, gP_9_0 hM0, gR_9_1 hM0, gR_9_2 hM0, gI_9_3 hM0, gP_9_3 hM0, gI_9_4 hM0, gP_9_4 hM0, gR_9_5 hM0, gR_9_6 hM0, gR_9_7 hM0, gI_9_8 hM0, gP_9_8 hM0, gI_9_9 hM0, gP_9_9 hM0, gI_9_10 hM0, gP_9_10 hM0, gI_9_11 hM0, gP_9_11 hM0, gI_9_12 hM0, gP_9_12 hM0, gI_9_13 hM0, gP_9_13 hM0, gI_9_14 hM0, gP_9_14 hM0, gI_9_15 hM0, gP_9_15 hM0, gI_9_16 hM0, gP_9_16 hM0, gR_9_17 hM0, gR_9_18 hM0, gR_9_19 hM0, gR_9_20 hM0, gI_9_21 hM0, gP_9_21 hM0, gI_9_22 hM0, gP_9_22 hM0, gI_9_23 hM0, gP_9_23 hM0, gI_9_24 hM0, gP_9_24 hM0, gR_9_25 hM0, gI_9_26 hM0, gP_9_26 hM0, gI_9_27 hM0, gP_9_27 hM0, gI_9_28 hM0, gP_9_28 hM0, gL_9_29 hM0, gP_9_29 hM0, gL_9_30 hM0, gP_9_30 hM0, cI_s, cL_s, cF_s, cD_s, cA_s, cV_s, nI_add, cond_true, cond_false, if_true, if_false]
        rw [g1]
        simp (disch := omega) only [gO_9 hM0, gI_9_0 hM0, gP_9_0 hM0, gR_9_1 hM0, gR_9_2 hM0, gI_9_3 hM0, gP_9_3 hM0, gI_9_4 hM0, gP_9_4 hM0, gR_9_5 hM0, gR_9_6 hM0, gR_9_7 hM0, gI_9_8 hM0, gP_9_8 hM0, gI_9_9 hM0, gP_9_9 hM0, gI_9_10 hM0, gP_9_10 hM0, gI_9_11 hM0, gP_9_11 hM0, gI_9_12 hM0, gP_9_12 hM0, gI_9_13 hM0, gP_9_13 hM0, gI_9_14 hM0, gP_9_14 hM0, gI_9_15 hM0, gP_9_15 hM0, gI_9_16 hM0, gP_9_16 hM0, gR_9_17 hM0, gR_9_18 hM0, gR_9_19 hM0, gR_9_20 hM0, gI_9_21 hM0, gP_9_21 hM0, gI_9_22 hM0, gP_9_22 hM0, gI_9_23 hM0, gP_9_23 hM0, gI_9_24 hM0, gP_9_24 hM0, gR_9_25 hM0, gI_9_26 hM0, gP_9_26 hM0, gI_9_27 hM0, gP_9_27 hM0, gI_9_28 hM0, gP_9_28 hM0, gL_9_29 hM0, gP_9_29 hM0, gL_9_30 hM0, gP_9_30 hM0, cI_s, cL_s, cF_s, cD_s, cA_s, cV_s, nI_add, cond_true, cond_false, if_true, if_false]
        rw [hsm]
        simp (disch := omega) only [cI_s, cL_s, cF_s, cD_s, cA_s, cV_s, nI_add, cond_true, cond_false, if_true, if_false]
        rw [lN_i32 (by omega)]
    | false =>
      rw [hcan] at hcs hms
      refine oT_ex (k := 1) (ex := 2) (v := .int (nI 0)) (RR_mo (RR_ro RGh RIh frm_rf (frU_sS frU_Z (by omega))) (by omega)) rfl ?_ ?_ sS_s
      · rw [eX10_steal, QX10_steal_0]
        simp (disch := omega) only [ble_t, Bool.and_self, gO_8 b0, gR_8_0 b0, gR_8_1 b0, gR_8_2 b0, gR_8_3 b0, gR_8_4 b0, gI_8_5 b0, gP_8_5 b0, gI_8_6 b0, gP_8_6 b0, cI_s, cL_s, cF_s, cD_s, cA_s, cV_s, nI_add, cond_true, cond_false, if_true, if_false]
        rw [c_place_t hc c5 hw P I hp]
        simp (disch := omega) only [ble_t, Bool.and_self, gO_8 b0, gR_8_0 b0, gR_8_1 b0, gR_8_2 b0, gR_8_3 b0, gR_8_4 b0, gI_8_5 b0, gP_8_5 b0, gI_8_6 b0, gP_8_6 b0, hgm, gO_2 b2, gR_2_0 b2, gR_2_1 b2, gR_2_2 b2, gR_2_3 b2, gI_2_4 b2, gP_2_4 b2, gI_2_5 b2, gP_2_5 b2, gI_2_6 b2, gP_2_6 b2, gI_2_7 b2, gP_2_7 b2, gI_2_8 b2, gP_2_8 b2, cI_s, cL_s, cF_s, cD_s, cA_s, cV_s, nI_add, cond_true, cond_false, if_true, if_false]
        rw [hcs]
        simp (disch := omega) only [Bool.toNat_false, iEQ_t, ble_t, Bool.and_self, cI_s, cL_s, cF_s, cD_s, cA_s, cV_s, nI_add, cond_true, cond_false, if_true, if_false]
      · rw [eX11_steal, QX11_steal_0]
        simp (disch := omega) only [gO_9 hM0, gI_9_0 hM0, gP_9_0 hM0, gR_9_1 hM0, gR_9_2 hM0, gI_9_3 hM0, gP_9_3 hM0, gI_9_4 hM0, gP_9_4 hM0, gR_9_5 hM0, gR_9_6 hM0, gR_9_7 hM0, gI_9_8 hM0, gP_9_8 hM0, gI_9_9 hM0, gP_9_9 hM0, gI_9_10 hM0, gP_9_10 hM0, gI_9_11 hM0, gP_9_11 hM0, gI_9_12 hM0, gP_9_12 hM0, gI_9_13 hM0, gP_9_13 hM0, gI_9_14 hM0, gP_9_14 hM0, gI_9_15 hM0, gP_9_15 hM0, gI_9_16 hM0, gP_9_16 hM0, gR_9_17 hM0, gR_9_18 hM0, gR_9_19 hM0, gR_9_20 hM0, gI_9_21 hM0, gP_9_21 hM0, gI_9_22 hM0, gP_9_22 hM0, gI_9_23 hM0, gP_9_23 hM0, gI_9_24 hM0, gP_9_24 hM0, gR_9_25 hM0, gI_9_26 hM0, gP_9_26 hM0, gI_9_27 hM0, gP_9_27 hM0, gI_9_28 hM0, gP_9_28 hM0, gL_9_29 hM0, gP_9_29 hM0, gL_9_30 hM0, gP_9_30 hM0, cI_s, cL_s, cF_s, cD_s, cA_s, cV_s, nI_add, cond_true, cond_false, if_true, if_false]
        rw [show sS M 0 0 (nI 0) = mZ M from rfl, g_isPlaceT GZ I hp]
        simp (disch := omega) only [gO_9 hM0, gI_9_0 hM0, gP_9_0 hM0, gR_9_1 hM0, gR_9_2 hM0, gI_9_3 hM0, gP_9_3 hM0, gI_9_4 hM0, gP_9_4 hM0, gR_9_5 hM0, gR_9_6 hM0, gR_9_7 hM0, gI_9_8 hM0, gP_9_8 hM0, gI_9_9 hM0, gP_9_9 hM0, gI_9_10 hM0, gP_9_10 hM0, gI_9_11 hM0, gP_9_11 hM0, gI_9_12 hM0, gP_9_12 hM0, gI_9_13 hM0, gP_9_13 hM0, gI_9_14 hM0, gP_9_14 hM0, gI_9_15 hM0, gP_9_15 hM0, gI_9_16 hM0, gP_9_16 hM0, gR_9_17 hM0, gR_9_18 hM0, gR_9_19 hM0, gR_9_20 hM0, gI_9_21 hM0, gP_9_21 hM0, gI_9_22 hM0, gP_9_22 hM0, gI_9_23 hM0, gP_9_23 hM0, gI_9_24 hM0, gP_9_24 hM0, gR_9_25 hM0, gI_9_26 hM0, gP_9_26 hM0, gI_9_27 hM0, gP_9_27 hM0, gI_9_28 hM0, gP_9_28 hM0, gL_9_29 hM0, gP_9_29 hM0, gL_9_30 hM0, gP_9_30 hM0, cI_s, cL_s, cF_s, cD_s, cA_s, cV_s, nI_add, cond_true, cond_false, if_true, if_false]
        rw [m_right1 mZ_0]
        simp (disch := omega) only [iEQ_f, gO_9 hM0, gI_9_0 hM0, gP_9_0 hM0, gR_9_1 hM0, gR_9_2 hM0, gI_9_3 hM0, gP_9_3 hM0, gI_9_4 hM0, gP_9_4 hM0, gR_9_5 hM0, gR_9_6 hM0, gR_9_7 hM0, gI_9_8 hM0, gP_9_8 hM0, gI_9_9 hM0, gP_9_9 hM0, gI_9_10 hM0, gP_9_10 hM0, gI_9_11 hM0, gP_9_11 hM0, gI_9_12 hM0, gP_9_12 hM0, gI_9_13 hM0, gP_9_13 hM0, gI_9_14 hM0, gP_9_14 hM0, gI_9_15 hM0, gP_9_15 hM0, gI_9_16 hM0, gP_9_16 hM0, gR_9_17 hM0, gR_9_18 hM0, gR_9_19 hM0, gR_9_20 hM0, gI_9_21 hM0, gP_9_21 hM0, gI_9_22 hM0, gP_9_22 hM0, gI_9_23 hM0, gP_9_23 hM0, gI_9_24 hM0, gP_9_24 hM0, gR_9_25 hM0, gI_9_26 hM0, gP_9_26 hM0, gI_9_27 hM0, gP_9_27 hM0, gI_9_28 hM0, gP_9_28 hM0, gL_9_29 hM0, gP_9_29 hM0, gL_9_30 hM0, gP_9_30 hM0, cI_s, cL_s, cF_s, cD_s, cA_s, cV_s, nI_add, cond_true, cond_false, if_true, if_false]
        rw [hms]
        simp (disch := omega) only [Bool.toNat_false, gO_9 hM0, gI_9_0 hM0, gP_9_0 hM0, gR_9_1 hM0, gR_9_2 hM0, gI_9_3 hM0, gP_9_3 hM0, gI_9_4 hM0, gP_9_4 hM0, gR_9_5 hM0, gR_9_6 hM0, gR_9_7 hM0, gI_9_8 hM0, gP_9_8 hM0, gI_9_9 hM0, gP_9_9 hM0, gI_9_10 hM0, gP_9_10 hM0, gI_9_11 hM0, gP_9_11 hM0, gI_9_12 hM0, gP_9_12 hM0, gI_9_13 hM0, gP_9_13 hM0, gI_9_14 hM0, gP_9_14 hM0, gI_9_15 hM0, gP_9_15 hM0, gI_9_16 hM0, gP_9_16 hM0, gR_9_17 hM0, gR_9_18 hM0, gR_9_19 hM0, gR_9_20 hM0, gI_9_21 hM0, gP_9_21 hM0, gI_9_22 hM0, gP_9_22 hM0, gI_9_23 hM0, gP_9_23 hM0, gI_9_24 hM0, gP_9_24 hM0, gR_9_25 hM0, gI_9_26 hM0, gP_9_26 hM0, gI_9_27 hM0, gP_9_27 hM0, gI_9_28 hM0, gP_9_28 hM0, gL_9_29 hM0, gP_9_29 hM0, gL_9_30 hM0, gP_9_30 hM0, cI_s, cL_s, cF_s, cD_s, cA_s, cV_s, nI_add, cond_true, cond_false, if_true, if_false]
        rw [m_right0 mZ_0 (by omega) (by omega)]
        simp (disch := omega) only [iEQ_t, QX11_steal_31, cI_s, cL_s, cF_s, cD_s, cA_s, cV_s, nI_add, cond_true, cond_false, if_true, if_false]
  · refine oT_ex (k := 0) (ex := 1) (v := .int (nI 0)) (RR_mo (RR_ro RGh RIh frm_rf (frU_sS frU_Z (by omega))) (by omega)) rfl ?_ ?_ sS_s
    · rw [eX10_steal, QX10_steal_0]
      simp (disch := omega) only [ble_t, Bool.and_self, gO_8 b0, gR_8_0 b0, gR_8_1 b0, gR_8_2 b0, gR_8_3 b0, gR_8_4 b0, gI_8_5 b0, gP_8_5 b0, gI_8_6 b0, gP_8_6 b0, cI_s, cL_s, cF_s, cD_s, cA_s, cV_s, nI_add, cond_true, cond_false, if_true, if_false]
      rw [c_place_f hc c5 hw P h]
      simp (disch := omega) only [cV_x, cI_s, cL_s, cF_s, cD_s, cA_s, cV_s, nI_add, cond_true, cond_false, if_true, if_false]
    · rw [eX11_steal, QX11_steal_0]
      simp (disch := omega) only [gO_9 hM0, gI_9_0 hM0, gP_9_0 hM0, gR_9_1 hM0, gR_9_2 hM0, gI_9_3 hM0, gP_9_3 hM0, gI_9_4 hM0, gP_9_4 hM0, gR_9_5 hM0, gR_9_6 hM0, gR_9_7 hM0, gI_9_8 hM0, gP_9_8 hM0, gI_9_9 hM0, gP_9_9 hM0, gI_9_10 hM0, gP_9_10 hM0, gI_9_11 hM0, gP_9_11 hM0, gI_9_12 hM0, gP_9_12 hM0, gI_9_13 hM0, gP_9_13 hM0, gI_9_14 hM0, gP_9_14 hM0, gI_9_15 hM0, gP_9_15 hM0, gI_9_16 hM0, gP_9_16 hM0, gR_9_17 hM0, gR_9_18 hM0, gR_9_19 hM0, gR_9_20 hM0, gI_9_21 hM0, gP_9_21 hM0, gI_9_22 hM0, gP_9_22 hM0, gI_9_23 hM0, gP_9_23 hM0, gI_9_24 hM0, gP_9_24 hM0, gR_9_25 hM0, gI_9_26 hM0, gP_9_26 hM0, gI_9_27 hM0, gP_9_27 hM0, gI_9_28 hM0, gP_9_28 hM0, gL_9_29 hM0, gP_9_29 hM0, gL_9_30 hM0, gP_9_30 hM0, cI_s, cL_s, cF_s, cD_s, cA_s, cV_s, nI_add, cond_true, cond_false, if_true, if_false]
      rw [show sS M 0 0 (nI 0) = mZ M from rfl, g_isPlaceF GZ I h]
      simp (disch := omega) only [gO_9 hM0, gI_9_0 hM0, gP_9_0 hM0, gR_9_1 hM0, gR_9_2 hM0, gI_9_3 hM0, gP_9_3 hM0, gI_9_4 hM0, gP_9_4 hM0, gR_9_5 hM0, gR_9_6 hM0, gR_9_7 hM0, gI_9_8 hM0, gP_9_8 hM0, gI_9_9 hM0, gP_9_9 hM0, gI_9_10 hM0, gP_9_10 hM0, gI_9_11 hM0, gP_9_11 hM0, gI_9_12 hM0, gP_9_12 hM0, gI_9_13 hM0, gP_9_13 hM0, gI_9_14 hM0, gP_9_14 hM0, gI_9_15 hM0, gP_9_15 hM0, gI_9_16 hM0, gP_9_16 hM0, gR_9_17 hM0, gR_9_18 hM0, gR_9_19 hM0, gR_9_20 hM0, gI_9_21 hM0, gP_9_21 hM0, gI_9_22 hM0, gP_9_22 hM0, gI_9_23 hM0, gP_9_23 hM0, gI_9_24 hM0, gP_9_24 hM0, gR_9_25 hM0, gI_9_26 hM0, gP_9_26 hM0, gI_9_27 hM0, gP_9_27 hM0, gI_9_28 hM0, gP_9_28 hM0, gL_9_29 hM0, gP_9_29 hM0, gL_9_30 hM0, gP_9_30 hM0, cI_s, cL_s, cF_s, cD_s, cA_s, cV_s, nI_add, cond_true, cond_false, if_true, if_false]
      rw [m_right0 mZ_0 (by omega) (by omega)]
      simp (disch := omega) only [iEQ_t, QX11_steal_31, cI_s, cL_s, cF_s, cD_s, cA_s, cV_s, nI_add, cond_true, cond_false, if_true, if_false]
theorem T_plant (hc : hC sh) (R : RR S M Bd) (a : Int32) (d u : Nat) : oT E x y n m sh [1, 2] (Bd + 1) 0 (xsem xT E (d + 8) kX10_plant [.ref x, .int a] (wW E x sh S, n)) (xsem xT E (u + 7) kX11_plant [.ref y, .int a] (wW E y shM M, m)) := by
  obtain ⟨gs, w, un, tx, len, RGh, RIh⟩ := R
  obtain ⟨c5, c6, c3, c4, hw, hun⟩ := RGh.1
  obtain ⟨P, G, I, F, t2, t3⟩ := RGh.2 0 (Nat.zero_le _)
  rw [ix_0 hw] at P G
  have hw' : (w + 1) % 9 < 9 := Nat.mod_lt _ (by omega)
  have b0 := hc.1
  have hG := hc.2.2.2.2.2.2 w hw
  have hG' := hc.2.2.2.2.2.2 _ hw'
  have b2 := hG.1
  have b2' := hG'.1
  have h2 := I.1.1
  have h8 := I.1.2.1
  have hgm := fun d => c_game (E := E) (x := x) (n := n) hc c5 hw d
  have GZ := GM_Z c3 hw G
  rcases i32_c a (b := gs 0 0) (by omega) with ⟨p, hp, rfl⟩ | h
  · have hcs := s2_canPlant (E := E) (x := x) (n := n) hG P I (d + 4)
    have hms := g_canPlant (E := E) (y := y) (m := m) GZ I (u + 2)
    cases hcan : gCanS (gs 0 0) (gs 0) with
    | true =>
      rw [hcan] at hcs hms
      obtain ⟨z1, z2, z3⟩ := gCanS_t hcan
      obtain ⟨S1, M1, a1, a2, a3, a4, a5, a6, e1, e2, e3, e4, e5, e6, e7⟩ := j_change (E := E) (x := x) (y := y) (n := n) (m := m) hc RGh (d + 3) (u + 4)
      have hok : okS (gBl (gs 0)) 4 p 0 (gs 0) := ⟨by omega, fun z => absurd z (by omega), fun z => absurd z (by omega), fun _ => ⟨z1, z2, z3, hp⟩⟩
      obtain ⟨o1, o2, o3, o4⟩ := step_ok I hok
      obtain ⟨S2, f1, f2, f3⟩ := s2_makeStill (E := E) (x := x) (n := n) hG' a4 I (k := 4) (a := p) (b := 0) (by omega) (to := p) rfl (d + 1)
      obtain ⟨M2, g1, g2, g3⟩ := g_steps (E := E) (y := y) (m := m) e2 I hok (by omega) (by omega) u
      have hmv := c_moveBall (E := E) (x := x) (n := n) (d0 := d + 1) hc hw a1 f1 f3 o1
      have hsm := g_sum (E := E) (y := y) (m := m) g2 o1 (u + 3)
      have hs1 := (mSum_pos o1).2
      refine oT_ok (RR_st RGh RIh (by omega) a2 a3 a5 e3 e4 e6 e7 f2 f3 g2 g3 o1 (o2 F) (by omega) (by omega)) (v := .int (nI (mSum (gF (gStep (gBl (gs 0)) 4 p 0 (gs 0))) (gStep (gBl (gs 0)) 4 p 0 (gs 0) 0 + 1)))) ?_ ?_ (by rw [g3.1]; exact e5)
      · rw [eX10_plant, QX10_plant_0]
        simp (disch := omega) only [ble_t, Bool.and_self, gO_8 b0, gR_8_0 b0, gR_8_1 b0, gR_8_2 b0, gR_8_3 b0, gR_8_4 b0, gI_8_5 b0, gP_8_5 b0, gI_8_6 b0, gP_8_6 b0, cI_s, cL_s, cF_s, cD_s, cA_s, cV_s, nI_add, cond_true, cond_false, if_true, if_false]
        rw [c_place_t hc c5 hw P I hp]
        simp (disch := omega) only [ble_t, Bool.and_self, gO_8 b0, gR_8_0 b0, gR_8_1 b0, gR_8_2 b0, gR_8_3 b0, gR_8_4 b0, gI_8_5 b0, gP_8_5 b0, gI_8_6 b0, gP_8_6 b0, hgm, gO_2 b2, gR_2_0 b2, gR_2_1 b2, gR_2_2 b2, gR_2_3 b2, gI_2_4 b2, gP_2_4 b2, gI_2_5 b2, gP_2_5 b2, gI_2_6 b2, gP_2_6 b2, gI_2_7 b2, gP_2_7 b2, gI_2_8 b2, gP_2_8 b2, cI_s, cL_s, cF_s, cD_s, cA_s, cV_s, nI_add, cond_true, cond_false, if_true, if_false]
        rw [hcs]
        simp (disch := omega) only [Bool.toNat_true, iEQ_f, QX10_plant_25, ble_t, Bool.and_self, gO_8 b0, gR_8_0 b0, gR_8_1 b0, gR_8_2 b0, gR_8_3 b0, gR_8_4 b0, gI_8_5 b0, gP_8_5 b0, gI_8_6 b0, gP_8_6 b0, cI_s, cL_s, cF_s, cD_s, cA_s, cV_s, nI_add, cond_true, cond_false, if_true, if_false]
        rw [hmv]
        simp (disch := omega) only [cI_s, cL_s, cF_s, cD_s, cA_s, cV_s, nI_add, cond_true, cond_false, if_true, if_false]
      · rw [eX11_plant, QX11_plant_0]
        simp (disch := omega) only [gO_9 hM0, gI_9_0 hM0, gP_9_0 hM0, gR_9_1 hM0, gR_9_2 hM0, gI_9_3 hM0, gP_9_3 hM0, gI_9_4 hM0, gP_9_4 hM0, gR_9_5 hM0, gR_9_6 hM0, gR_9_7 hM0, gI_9_8 hM0, gP_9_8 hM0, gI_9_9 hM0, gP_9_9 hM0, gI_9_10 hM0, gP_9_10 hM0, gI_9_11 hM0, gP_9_11 hM0, gI_9_12 hM0, gP_9_12 hM0, gI_9_13 hM0, gP_9_13 hM0, gI_9_14 hM0, gP_9_14 hM0, gI_9_15 hM0, gP_9_15 hM0, gI_9_16 hM0, gP_9_16 hM0, gR_9_17 hM0, gR_9_18 hM0, gR_9_19 hM0, gR_9_20 hM0, gI_9_21 hM0, gP_9_21 hM0, gI_9_22 hM0, gP_9_22 hM0, gI_9_23 hM0, gP_9_23 hM0, gI_9_24 hM0, gP_9_24 hM0, gR_9_25 hM0, gI_9_26 hM0, gP_9_26 hM0, gI_9_27 hM0, gP_9_27 hM0, gI_9_28 hM0, gP_9_28 hM0, gL_9_29 hM0, gP_9_29 hM0, gL_9_30 hM0, gP_9_30 hM0, cI_s, cL_s, cF_s, cD_s, cA_s, cV_s, nI_add, cond_true, cond_false, if_true, if_false]
        rw [show sS M 0 0 (nI 0) = mZ M from rfl, g_isPlaceT GZ I hp]
        simp (disch := omega) only [gO_9 hM0, gI_9_0 hM0, gP_9_0 hM0, gR_9_1 hM0, gR_9_2 hM0, gI_9_3 hM0, gP_9_3 hM0, gI_9_4 hM0, gP_9_4 hM0, gR_9_5 hM0, gR_9_6 hM0, gR_9_7 hM0, gI_9_8 hM0, gP_9_8 hM0, gI_9_9 hM0, gP_9_9 hM0, gI_9_10 hM0, gP_9_10 hM0, gI_9_11 hM0, gP_9_11 hM0, gI_9_12 hM0, gP_9_12 hM0, gI_9_13 hM0, gP_9_13 hM0, gI_9_14 hM0, gP_9_14 hM0, gI_9_15 hM0, gP_9_15 hM0, gI_9_16 hM0, gP_9_16 hM0, gR_9_17 hM0, gR_9_18 hM0, gR_9_19 hM0, gR_9_20 hM0, gI_9_21 hM0, gP_9_21 hM0, gI_9_22 hM0, gP_9_22 hM0, gI_9_23 hM0, gP_9_23 hM0, gI_9_24 hM0, gP_9_24 hM0, gR_9_25 hM0, gI_9_26 hM0, gP_9_26 hM0, gI_9_27 hM0, gP_9_27 hM0, gI_9_28 hM0, gP_9_28 hM0, gL_9_29 hM0, gP_9_29 hM0, gL_9_30 hM0, gP_9_30 hM0, cI_s, cL_s, cF_s, cD_s, cA_s, cV_s, nI_add, cond_true, cond_false, if_true, if_false]
        rw [m_right1 mZ_0]
        simp (disch := omega) only [iEQ_f, gO_9 hM0, gI_9_0 hM0, gP_9_0 hM0, gR_9_1 hM0, gR_9_2 hM0, gI_9_3 hM0, gP_9_3 hM0, gI_9_4 hM0, gP_9_4 hM0, gR_9_5 hM0, gR_9_6 hM0, gR_9_7 hM0, gI_9_8 hM0, gP_9_8 hM0, gI_9_9 hM0, gP_9_9 hM0, gI_9_10 hM0, gP_9_10 hM0, gI_9_11 hM0, gP_9_11 hM0, gI_9_12 hM0, gP_9_12 hM0, gI_9_13 hM0, gP_9_13 hM0, gI_9_14 hM0, gP_9_14 hM0, gI_9_15 hM0, gP_9_15 hM0, gI_9_16 hM0, gP_9_16 hM0, gR_9_17 hM0, gR_9_18 hM0, gR_9_19 hM0, gR_9_20 hM0, gI_9_21 hM0, gP_9_21 hM0, gI_9_22 hM0, gP_9_22 hM0, gI_9_23 hM0, gP_9_23 hM0, gI_9_24 hM0, gP_9_24 hM0, gR_9_25 hM0, gI_9_26 hM0, gP_9_26 hM0, gI_9_27 hM0, gP_9_27 hM0, gI_9_28 hM0, gP_9_28 hM0, gL_9_29 hM0, gP_9_29 hM0, gL_9_30 hM0, gP_9_30 hM0, cI_s, cL_s, cF_s, cD_s, cA_s, cV_s, nI_add, cond_true, cond_false, if_true, if_false]
        rw [hms]
        simp (disch := omega) only [Bool.toNat_true, gO_9 hM0, gI_9_0 hM0, gP_9_0 hM0, gR_9_1 hM0, gR_9_2 hM0, gI_9_3 hM0, gP_9_3 hM0, gI_9_4 hM0, gP_9_4 hM0, gR_9_5 hM0, gR_9_6 hM0, gR_9_7 hM0, gI_9_8 hM0, gP_9_8 hM0, gI_9_9 hM0, gP_9_9 hM0, gI_9_10 hM0, gP_9_10 hM0, gI_9_11 hM0, gP_9_11 hM0, gI_9_12 hM0, gP_9_12 hM0, gI_9_13 hM0, gP_9_13 hM0, gI_9_14 hM0, gP_9_14 hM0, gI_9_15 hM0, gP_9_15 hM0, gI_9_16 hM0, gP_9_16 hM0, gR_9_17 hM0, gR_9_18 hM0, gR_9_19 hM0, gR_9_20 hM0, gI_9_21 hM0, gP_9_21 hM0, gI_9_22 hM0, gP_9_22 hM0, gI_9_23 hM0, gP_9_23 hM0, gI_9_24 hM0, gP_9_24 hM0, gR_9_25 hM0, gI_9_26 hM0, gP_9_26 hM0, gI_9_27 hM0, gP_9_27 hM0, gI_9_28 hM0, gP_9_28 hM0, gL_9_29 hM0, gP_9_29 hM0, gL_9_30 hM0, gP_9_30 hM0, cI_s, cL_s, cF_s, cD_s, cA_s, cV_s, nI_add, cond_true, cond_false, if_true, if_false]
        rw [m_right1 mZ_0]
        simp (disch := omega) only [iEQ_f, QX11_plant_32, gO_9 hM0, gI_9_0 hM0, gP_9_0 hM0, gR_9_1 hM0, gR_9_2 hM0, gI_9_3 hM0, gP_9_3 hM0, gI_9_4 hM0, gP_9_4 hM0, gR_9_5 hM0, gR_9_6 hM0, gR_9_7 hM0, gI_9_8 hM0, gP_9_8 hM0, gI_9_9 hM0, gP_9_9 hM0, gI_9_10 hM0, gP_9_10 hM0, gI_9_11 hM0, gP_9_11 hM0, gI_9_12 hM0, gP_9_12 hM0, gI_9_13 hM0, gP_9_13 hM0, gI_9_14 hM0, gP_9_14 hM0, gI_9_15 hM0, gP_9_15 hM0, gI_9_16 hM0, gP_9_16 hM0, gR_9_17 hM0, gR_9_18 hM0, gR_9_19 hM0, gR_9_20 hM0, gI_9_21 hM0, gP_9_21 hM0, gI_9_22 hM0, gP_9_22 hM0, gI_9_23 hM0, gP_9_23 hM0, gI_9_24 hM0, gP_9_24 hM0, gR_9_25 hM0, gI_9_26 hM0, gP_9_26 hM0, gI_9_27 hM0, gP_9_27 hM0, gI_9_28 hM0, gP_9_28 hM0, gL_9_29 hM0, gP_9_29 hM0, gL_9_30 hM0, gP_9_30 hM0, cI_s, cL_s, cF_s, cD_s, cA_s, cV_s, nI_add, cond_true, cond_false, if_true, if_false]
        rw [e1]
        simp (disch := omega) only [gO_9 hM0, gI_9_0 hM0, gP_9_0 hM0, gR_9_1 hM0, gR_9_2 hM0, gI_9_3 hM0, gP_9_3 hM0, gI_9_4 hM0, gP_9_4 hM0, gR_9_5 hM0, gR_9_6 hM0, gR_9_7 hM0, gI_9_8 hM0, gP_9_8 hM0, gI_9_9 hM0, gP_9_9 hM0, gI_9_10 hM0, gP_9_10 hM0, gI_9_11 hM0, gP_9_11 hM0, gI_9_12 hM0, gP_9_12 hM0, gI_9_13 hM0, gP_9_13 hM0, gI_9_14 hM0, gP_9_14 hM0, gI_9_15 hM0, gP_9_15 hM0, gI_9_16 hM0, gP_9_16 hM0, gR_9_17 hM0, gR_9_18 hM0, gR_9_19 hM0, gR_9_20 hM0, gI_9_21 hM0, gP_9_21 hM0, gI_9_22 hM0, gP_9_22 hM0, gI_9_23 hM0, gP_9_23 hM0, gI_9_24 hM0, gP_9_24 hM0, gR_9_25 hM0, gI_9_26 hM0, gP_9_26 hM0, gI_9_27 hM0, gP_9_27 hM0, gI_9_28 hM0, gP_9_28 hM0, gL_9_29 hM0, gP_9_29 hM0, gL_9_30 hM0, gP_9_30 hM0, cI_s, cL_s, cF_s, cD_s, cA_s, cV_s, nI_add, cond_true, cond_false, if_true, if_false]
        rw [g1]
        simp (disch := omega) only [gO_9 hM0, gI_9_0 hM0, gP_9_0 hM0, gR_9_1 hM0, gR_9_2 hM0, gI_9_3 hM0, gP_9_3 hM0, gI_9_4 hM0, gP_9_4 hM0, gR_9_5 hM0, gR_9_6 hM0, gR_9_7 hM0, gI_9_8 hM0, gP_9_8 hM0, gI_9_9 hM0, gP_9_9 hM0, gI_9_10 hM0, gP_9_10 hM0, gI_9_11 hM0, gP_9_11 hM0, gI_9_12 hM0, gP_9_12 hM0, gI_9_13 hM0, gP_9_13 hM0, gI_9_14 hM0, gP_9_14 hM0, gI_9_15 hM0, gP_9_15 hM0, gI_9_16 hM0, gP_9_16 hM0, gR_9_17 hM0, gR_9_18 hM0, gR_9_19 hM0, gR_9_20 hM0, gI_9_21 hM0, gP_9_21 hM0, gI_9_22 hM0, gP_9_22 hM0, gI_9_23 hM0, gP_9_23 hM0, gI_9_24 hM0, gP_9_24 hM0, gR_9_25 hM0, gI_9_26 hM0, gP_9_26 hM0, gI_9_27 hM0, gP_9_27 hM0, gI_9_28 hM0, gP_9_28 hM0, gL_9_29 hM0, gP_9_29 hM0, gL_9_30 hM0, gP_9_30 hM0, cI_s, cL_s, cF_s, cD_s, cA_s, cV_s, nI_add, cond_true, cond_false, if_true, if_false]
        rw [hsm]
        simp (disch := omega) only [cI_s, cL_s, cF_s, cD_s, cA_s, cV_s, nI_add, cond_true, cond_false, if_true, if_false]
        rw [lN_i32 (by omega)]
    | false =>
      rw [hcan] at hcs hms
      refine oT_ex (k := 1) (ex := 2) (v := .int (nI 0)) (RR_mo (RR_ro RGh RIh frm_rf (frU_sS frU_Z (by omega))) (by omega)) rfl ?_ ?_ sS_s
      · rw [eX10_plant, QX10_plant_0]
        simp (disch := omega) only [ble_t, Bool.and_self, gO_8 b0, gR_8_0 b0, gR_8_1 b0, gR_8_2 b0, gR_8_3 b0, gR_8_4 b0, gI_8_5 b0, gP_8_5 b0, gI_8_6 b0, gP_8_6 b0, cI_s, cL_s, cF_s, cD_s, cA_s, cV_s, nI_add, cond_true, cond_false, if_true, if_false]
        rw [c_place_t hc c5 hw P I hp]
        simp (disch := omega) only [ble_t, Bool.and_self, gO_8 b0, gR_8_0 b0, gR_8_1 b0, gR_8_2 b0, gR_8_3 b0, gR_8_4 b0, gI_8_5 b0, gP_8_5 b0, gI_8_6 b0, gP_8_6 b0, hgm, gO_2 b2, gR_2_0 b2, gR_2_1 b2, gR_2_2 b2, gR_2_3 b2, gI_2_4 b2, gP_2_4 b2, gI_2_5 b2, gP_2_5 b2, gI_2_6 b2, gP_2_6 b2, gI_2_7 b2, gP_2_7 b2, gI_2_8 b2, gP_2_8 b2, cI_s, cL_s, cF_s, cD_s, cA_s, cV_s, nI_add, cond_true, cond_false, if_true, if_false]
        rw [hcs]
        simp (disch := omega) only [Bool.toNat_false, iEQ_t, ble_t, Bool.and_self, cI_s, cL_s, cF_s, cD_s, cA_s, cV_s, nI_add, cond_true, cond_false, if_true, if_false]
      · rw [eX11_plant, QX11_plant_0]
        simp (disch := omega) only [gO_9 hM0, gI_9_0 hM0, gP_9_0 hM0, gR_9_1 hM0, gR_9_2 hM0, gI_9_3 hM0, gP_9_3 hM0, gI_9_4 hM0, gP_9_4 hM0, gR_9_5 hM0, gR_9_6 hM0, gR_9_7 hM0, gI_9_8 hM0, gP_9_8 hM0, gI_9_9 hM0, gP_9_9 hM0, gI_9_10 hM0, gP_9_10 hM0, gI_9_11 hM0, gP_9_11 hM0, gI_9_12 hM0, gP_9_12 hM0, gI_9_13 hM0, gP_9_13 hM0, gI_9_14 hM0, gP_9_14 hM0, gI_9_15 hM0, gP_9_15 hM0, gI_9_16 hM0, gP_9_16 hM0, gR_9_17 hM0, gR_9_18 hM0, gR_9_19 hM0, gR_9_20 hM0, gI_9_21 hM0, gP_9_21 hM0, gI_9_22 hM0, gP_9_22 hM0, gI_9_23 hM0, gP_9_23 hM0, gI_9_24 hM0, gP_9_24 hM0, gR_9_25 hM0, gI_9_26 hM0, gP_9_26 hM0, gI_9_27 hM0, gP_9_27 hM0, gI_9_28 hM0, gP_9_28 hM0, gL_9_29 hM0, gP_9_29 hM0, gL_9_30 hM0, gP_9_30 hM0, cI_s, cL_s, cF_s, cD_s, cA_s, cV_s, nI_add, cond_true, cond_false, if_true, if_false]
        rw [show sS M 0 0 (nI 0) = mZ M from rfl, g_isPlaceT GZ I hp]
        simp (disch := omega) only [gO_9 hM0, gI_9_0 hM0, gP_9_0 hM0, gR_9_1 hM0, gR_9_2 hM0, gI_9_3 hM0, gP_9_3 hM0, gI_9_4 hM0, gP_9_4 hM0, gR_9_5 hM0, gR_9_6 hM0, gR_9_7 hM0, gI_9_8 hM0, gP_9_8 hM0, gI_9_9 hM0, gP_9_9 hM0, gI_9_10 hM0, gP_9_10 hM0, gI_9_11 hM0, gP_9_11 hM0, gI_9_12 hM0, gP_9_12 hM0, gI_9_13 hM0, gP_9_13 hM0, gI_9_14 hM0, gP_9_14 hM0, gI_9_15 hM0, gP_9_15 hM0, gI_9_16 hM0, gP_9_16 hM0, gR_9_17 hM0, gR_9_18 hM0, gR_9_19 hM0, gR_9_20 hM0, gI_9_21 hM0, gP_9_21 hM0, gI_9_22 hM0, gP_9_22 hM0, gI_9_23 hM0, gP_9_23 hM0, gI_9_24 hM0, gP_9_24 hM0, gR_9_25 hM0, gI_9_26 hM0, gP_9_26 hM0, gI_9_27 hM0, gP_9_27 hM0, gI_9_28 hM0, gP_9_28 hM0, gL_9_29 hM0, gP_9_29 hM0, gL_9_30 hM0, gP_9_30 hM0, cI_s, cL_s, cF_s, cD_s, cA_s, cV_s, nI_add, cond_true, cond_false, if_true, if_false]
        rw [m_right1 mZ_0]
        simp (disch := omega) only [iEQ_f, gO_9 hM0, gI_9_0 hM0, gP_9_0 hM0, gR_9_1 hM0, gR_9_2 hM0, gI_9_3 hM0, gP_9_3 hM0, gI_9_4 hM0, gP_9_4 hM0, gR_9_5 hM0, gR_9_6 hM0, gR_9_7 hM0, gI_9_8 hM0, gP_9_8 hM0, gI_9_9 hM0, gP_9_9 hM0, gI_9_10 hM0, gP_9_10 hM0, gI_9_11 hM0, gP_9_11 hM0, gI_9_12 hM0, gP_9_12 hM0, gI_9_13 hM0, gP_9_13 hM0, gI_9_14 hM0, gP_9_14 hM0, gI_9_15 hM0, gP_9_15 hM0, gI_9_16 hM0, gP_9_16 hM0, gR_9_17 hM0, gR_9_18 hM0, gR_9_19 hM0, gR_9_20 hM0, gI_9_21 hM0, gP_9_21 hM0, gI_9_22 hM0, gP_9_22 hM0, gI_9_23 hM0, gP_9_23 hM0, gI_9_24 hM0, gP_9_24 hM0, gR_9_25 hM0, gI_9_26 hM0, gP_9_26 hM0, gI_9_27 hM0, gP_9_27 hM0, gI_9_28 hM0, gP_9_28 hM0, gL_9_29 hM0, gP_9_29 hM0, gL_9_30 hM0, gP_9_30 hM0, cI_s, cL_s, cF_s, cD_s, cA_s, cV_s, nI_add, cond_true, cond_false, if_true, if_false]
        rw [hms]
        simp (disch := omega) only [Bool.toNat_false, gO_9 hM0, gI_9_0 hM0, gP_9_0 hM0, gR_9_1 hM0, gR_9_2 hM0, gI_9_3 hM0, gP_9_3 hM0, gI_9_4 hM0, gP_9_4 hM0, gR_9_5 hM0, gR_9_6 hM0, gR_9_7 hM0, gI_9_8 hM0, gP_9_8 hM0, gI_9_9 hM0, gP_9_9 hM0, gI_9_10 hM0, gP_9_10 hM0, gI_9_11 hM0, gP_9_11 hM0, gI_9_12 hM0, gP_9_12 hM0, gI_9_13 hM0, gP_9_13 hM0, gI_9_14 hM0, gP_9_14 hM0, gI_9_15 hM0, gP_9_15 hM0, gI_9_16 hM0, gP_9_16 hM0, gR_9_17 hM0, gR_9_18 hM0, gR_9_19 hM0, gR_9_20 hM0, gI_9_21 hM0, gP_9_21 hM0, gI_9_22 hM0, gP_9_22 hM0, gI_9_23 hM0, gP_9_23 hM0, gI_9_24 hM0, gP_9_24 hM0, gR_9_25 hM0, gI_9_26 hM0, gP_9_26 hM0, gI_9_27 hM0, gP_9_27 hM0, gI_9_28 hM0, gP_9_28 hM0, gL_9_29 hM0, gP_9_29 hM0, gL_9_30 hM0, gP_9_30 hM0, cI_s, cL_s, cF_s, cD_s, cA_s, cV_s, nI_add, cond_true, cond_false, if_true, if_false]
        rw [m_right0 mZ_0 (by omega) (by omega)]
        simp (disch := omega) only [iEQ_t, QX11_plant_30, cI_s, cL_s, cF_s, cD_s, cA_s, cV_s, nI_add, cond_true, cond_false, if_true, if_false]
  · refine oT_ex (k := 0) (ex := 1) (v := .int (nI 0)) (RR_mo (RR_ro RGh RIh frm_rf (frU_sS frU_Z (by omega))) (by omega)) rfl ?_ ?_ sS_s
    · rw [eX10_plant, QX10_plant_0]
      simp (disch := omega) only [ble_t, Bool.and_self, gO_8 b0, gR_8_0 b0, gR_8_1 b0, gR_8_2 b0, gR_8_3 b0, gR_8_4 b0, gI_8_5 b0, gP_8_5 b0, gI_8_6 b0, gP_8_6 b0, cI_s, cL_s, cF_s, cD_s, cA_s, cV_s, nI_add, cond_true, cond_false, if_true, if_false]
      rw [c_place_f hc c5 hw P h]
      simp (disch := omega) only [cV_x, cI_s, cL_s, cF_s, cD_s, cA_s, cV_s, nI_add, cond_true, cond_false, if_true, if_false]
    · rw [eX11_plant, QX11_plant_0]
      simp (disch := omega) only [gO_9 hM0, gI_9_0 hM0, gP_9_0 hM0, gR_9_1 hM0, gR_9_2 hM0, gI_9_3 hM0, gP_9_3 hM0, gI_9_4 hM0, gP_9_4 hM0, gR_9_5 hM0, gR_9_6 hM0, gR_9_7 hM0, gI_9_8 hM0, gP_9_8 hM0, gI_9_9 hM0, gP_9_9 hM0, gI_9_10 hM0, gP_9_10 hM0, gI_9_11 hM0, gP_9_11 hM0, gI_9_12 hM0, gP_9_12 hM0, gI_9_13 hM0, gP_9_13 hM0, gI_9_14 hM0, gP_9_14 hM0, gI_9_15 hM0, gP_9_15 hM0, gI_9_16 hM0, gP_9_16 hM0, gR_9_17 hM0, gR_9_18 hM0, gR_9_19 hM0, gR_9_20 hM0, gI_9_21 hM0, gP_9_21 hM0, gI_9_22 hM0, gP_9_22 hM0, gI_9_23 hM0, gP_9_23 hM0, gI_9_24 hM0, gP_9_24 hM0, gR_9_25 hM0, gI_9_26 hM0, gP_9_26 hM0, gI_9_27 hM0, gP_9_27 hM0, gI_9_28 hM0, gP_9_28 hM0, gL_9_29 hM0, gP_9_29 hM0, gL_9_30 hM0, gP_9_30 hM0, cI_s, cL_s, cF_s, cD_s, cA_s, cV_s, nI_add, cond_true, cond_false, if_true, if_false]
      rw [show sS M 0 0 (nI 0) = mZ M from rfl, g_isPlaceF GZ I h]
      simp (disch := omega) only [gO_9 hM0, gI_9_0 hM0, gP_9_0 hM0, gR_9_1 hM0, gR_9_2 hM0, gI_9_3 hM0, gP_9_3 hM0, gI_9_4 hM0, gP_9_4 hM0, gR_9_5 hM0, gR_9_6 hM0, gR_9_7 hM0, gI_9_8 hM0, gP_9_8 hM0, gI_9_9 hM0, gP_9_9 hM0, gI_9_10 hM0, gP_9_10 hM0, gI_9_11 hM0, gP_9_11 hM0, gI_9_12 hM0, gP_9_12 hM0, gI_9_13 hM0, gP_9_13 hM0, gI_9_14 hM0, gP_9_14 hM0, gI_9_15 hM0, gP_9_15 hM0, gI_9_16 hM0, gP_9_16 hM0, gR_9_17 hM0, gR_9_18 hM0, gR_9_19 hM0, gR_9_20 hM0, gI_9_21 hM0, gP_9_21 hM0, gI_9_22 hM0, gP_9_22 hM0, gI_9_23 hM0, gP_9_23 hM0, gI_9_24 hM0, gP_9_24 hM0, gR_9_25 hM0, gI_9_26 hM0, gP_9_26 hM0, gI_9_27 hM0, gP_9_27 hM0, gI_9_28 hM0, gP_9_28 hM0, gL_9_29 hM0, gP_9_29 hM0, gL_9_30 hM0, gP_9_30 hM0, cI_s, cL_s, cF_s, cD_s, cA_s, cV_s, nI_add, cond_true, cond_false, if_true, if_false]
      rw [m_right0 mZ_0 (by omega) (by omega)]
      simp (disch := omega) only [iEQ_t, QX11_plant_30, cI_s, cL_s, cF_s, cD_s, cA_s, cV_s, nI_add, cond_true, cond_false, if_true, if_false]
theorem T_peek (hc : hC sh) (R : RR S M Bd) (a : Int32) (d u : Nat) : oT E x y n m sh [1] (Bd + 1) 0 (xsem xT E (d + 5) kX10_peek [.ref x, .int a] (wW E x sh S, n)) (xsem xT E (u + 5) kX11_peek [.ref y, .int a] (wW E y shM M, m)) := by
  obtain ⟨gs, w, un, tx, len, RGh, RIh⟩ := R
  obtain ⟨c5, c6, c3, c4, hw, hun⟩ := RGh.1
  obtain ⟨P, G, I, F, t2, t3⟩ := RGh.2 0 (Nat.zero_le _)
  rw [ix_0 hw] at P G
  have hw' : (w + 1) % 9 < 9 := Nat.mod_lt _ (by omega)
  have b0 := hc.1
  have hG := hc.2.2.2.2.2.2 w hw
  have hG' := hc.2.2.2.2.2.2 _ hw'
  have b2 := hG.1
  have b2' := hG'.1
  have h2 := I.1.1
  have h8 := I.1.2.1
  have hgm := fun d => c_game (E := E) (x := x) (n := n) hc c5 hw d
  have GZ := GM_Z c3 hw G
  rcases i32_c a (b := gs 0 0) (by omega) with ⟨p, hp, rfl⟩ | h
  · obtain ⟨S1, M1, a1, a2, a3, a4, a5, a6, e1, e2, e3, e4, e5, e6, e7⟩ := j_change (E := E) (x := x) (y := y) (n := n) (m := m) hc RGh (d + 1) (u + 2)
    obtain ⟨o1, o2, o3, o4⟩ := look_ok I hp
    obtain ⟨S2, f1, f2, f3⟩ := s2_lookUnder (E := E) (x := x) (n := n) hG' a4 I hp d
    obtain ⟨M2, g1, g2, g3⟩ := g_looks (E := E) (y := y) (m := m) e2 I hp u
    refine oT_ok (RR_st RGh RIh (by omega) a2 a3 a5 e3 e4 e6 e7 (frm_mo f2 (by omega) (by omega)) f3 g2 g3 o1 (o2 F) (by omega) (by omega)) (v := .int (nI (if gs 0 1 = p then 1 else 0))) ?_ ?_ (by rw [g3.1]; exact e5)
    · rw [eX10_peek, QX10_peek_0]
      simp (disch := omega) only [ble_t, Bool.and_self, gO_8 b0, gR_8_0 b0, gR_8_1 b0, gR_8_2 b0, gR_8_3 b0, gR_8_4 b0, gI_8_5 b0, gP_8_5 b0, gI_8_6 b0, gP_8_6 b0, cI_s, cL_s, cF_s, cD_s, cA_s, cV_s, nI_add, cond_true, cond_false, if_true, if_false]
      rw [c_place_t hc c5 hw P I hp]
      simp (disch := omega) only [ble_t, Bool.and_self, gO_8 b0, gR_8_0 b0, gR_8_1 b0, gR_8_2 b0, gR_8_3 b0, gR_8_4 b0, gI_8_5 b0, gP_8_5 b0, gI_8_6 b0, gP_8_6 b0, cI_s, cL_s, cF_s, cD_s, cA_s, cV_s, nI_add, cond_true, cond_false, if_true, if_false]
      rw [a1]
      simp (disch := omega) only [ble_t, Bool.and_self, gO_2 b2', gR_2_0 b2', gR_2_1 b2', gR_2_2 b2', gR_2_3 b2', gI_2_4 b2', gP_2_4 b2', gI_2_5 b2', gP_2_5 b2', gI_2_6 b2', gP_2_6 b2', gI_2_7 b2', gP_2_7 b2', gI_2_8 b2', gP_2_8 b2', cI_s, cL_s, cF_s, cD_s, cA_s, cV_s, nI_add, cond_true, cond_false, if_true, if_false]
      rw [f1]
      by_cases c : gs 0 1 = p
      · simp (disch := omega) only [if_pos c, xret5_1, cI_s, cL_s, cF_s, cD_s, cA_s, cV_s, nI_add, cond_true, cond_false, if_true, if_false]
      · simp (disch := omega) only [if_neg c, xret5_0, cI_s, cL_s, cF_s, cD_s, cA_s, cV_s, nI_add, cond_true, cond_false, if_true, if_false]
    · rw [eX11_peek, QX11_peek_0]
      simp (disch := omega) only [gO_9 hM0, gI_9_0 hM0, gP_9_0 hM0, gR_9_1 hM0, gR_9_2 hM0, gI_9_3 hM0, gP_9_3 hM0, gI_9_4 hM0, gP_9_4 hM0, gR_9_5 hM0, gR_9_6 hM0, gR_9_7 hM0, gI_9_8 hM0, gP_9_8 hM0, gI_9_9 hM0, gP_9_9 hM0, gI_9_10 hM0, gP_9_10 hM0, gI_9_11 hM0, gP_9_11 hM0, gI_9_12 hM0, gP_9_12 hM0, gI_9_13 hM0, gP_9_13 hM0, gI_9_14 hM0, gP_9_14 hM0, gI_9_15 hM0, gP_9_15 hM0, gI_9_16 hM0, gP_9_16 hM0, gR_9_17 hM0, gR_9_18 hM0, gR_9_19 hM0, gR_9_20 hM0, gI_9_21 hM0, gP_9_21 hM0, gI_9_22 hM0, gP_9_22 hM0, gI_9_23 hM0, gP_9_23 hM0, gI_9_24 hM0, gP_9_24 hM0, gR_9_25 hM0, gI_9_26 hM0, gP_9_26 hM0, gI_9_27 hM0, gP_9_27 hM0, gI_9_28 hM0, gP_9_28 hM0, gL_9_29 hM0, gP_9_29 hM0, gL_9_30 hM0, gP_9_30 hM0, cI_s, cL_s, cF_s, cD_s, cA_s, cV_s, nI_add, cond_true, cond_false, if_true, if_false]
      rw [show sS M 0 0 (nI 0) = mZ M from rfl, g_isPlaceT GZ I hp]
      simp (disch := omega) only [gO_9 hM0, gI_9_0 hM0, gP_9_0 hM0, gR_9_1 hM0, gR_9_2 hM0, gI_9_3 hM0, gP_9_3 hM0, gI_9_4 hM0, gP_9_4 hM0, gR_9_5 hM0, gR_9_6 hM0, gR_9_7 hM0, gI_9_8 hM0, gP_9_8 hM0, gI_9_9 hM0, gP_9_9 hM0, gI_9_10 hM0, gP_9_10 hM0, gI_9_11 hM0, gP_9_11 hM0, gI_9_12 hM0, gP_9_12 hM0, gI_9_13 hM0, gP_9_13 hM0, gI_9_14 hM0, gP_9_14 hM0, gI_9_15 hM0, gP_9_15 hM0, gI_9_16 hM0, gP_9_16 hM0, gR_9_17 hM0, gR_9_18 hM0, gR_9_19 hM0, gR_9_20 hM0, gI_9_21 hM0, gP_9_21 hM0, gI_9_22 hM0, gP_9_22 hM0, gI_9_23 hM0, gP_9_23 hM0, gI_9_24 hM0, gP_9_24 hM0, gR_9_25 hM0, gI_9_26 hM0, gP_9_26 hM0, gI_9_27 hM0, gP_9_27 hM0, gI_9_28 hM0, gP_9_28 hM0, gL_9_29 hM0, gP_9_29 hM0, gL_9_30 hM0, gP_9_30 hM0, cI_s, cL_s, cF_s, cD_s, cA_s, cV_s, nI_add, cond_true, cond_false, if_true, if_false]
      rw [m_right1 mZ_0]
      simp (disch := omega) only [iEQ_f, QX11_peek_20, gO_9 hM0, gI_9_0 hM0, gP_9_0 hM0, gR_9_1 hM0, gR_9_2 hM0, gI_9_3 hM0, gP_9_3 hM0, gI_9_4 hM0, gP_9_4 hM0, gR_9_5 hM0, gR_9_6 hM0, gR_9_7 hM0, gI_9_8 hM0, gP_9_8 hM0, gI_9_9 hM0, gP_9_9 hM0, gI_9_10 hM0, gP_9_10 hM0, gI_9_11 hM0, gP_9_11 hM0, gI_9_12 hM0, gP_9_12 hM0, gI_9_13 hM0, gP_9_13 hM0, gI_9_14 hM0, gP_9_14 hM0, gI_9_15 hM0, gP_9_15 hM0, gI_9_16 hM0, gP_9_16 hM0, gR_9_17 hM0, gR_9_18 hM0, gR_9_19 hM0, gR_9_20 hM0, gI_9_21 hM0, gP_9_21 hM0, gI_9_22 hM0, gP_9_22 hM0, gI_9_23 hM0, gP_9_23 hM0, gI_9_24 hM0, gP_9_24 hM0, gR_9_25 hM0, gI_9_26 hM0, gP_9_26 hM0, gI_9_27 hM0, gP_9_27 hM0, gI_9_28 hM0, gP_9_28 hM0, gL_9_29 hM0, gP_9_29 hM0, gL_9_30 hM0, gP_9_30 hM0, cI_s, cL_s, cF_s, cD_s, cA_s, cV_s, nI_add, cond_true, cond_false, if_true, if_false]
      rw [e1]
      simp (disch := omega) only [gO_9 hM0, gI_9_0 hM0, gP_9_0 hM0, gR_9_1 hM0, gR_9_2 hM0, gI_9_3 hM0, gP_9_3 hM0, gI_9_4 hM0, gP_9_4 hM0, gR_9_5 hM0, gR_9_6 hM0, gR_9_7 hM0, gI_9_8 hM0, gP_9_8 hM0, gI_9_9 hM0, gP_9_9 hM0, gI_9_10 hM0, gP_9_10 hM0, gI_9_11 hM0, gP_9_11 hM0, gI_9_12 hM0, gP_9_12 hM0, gI_9_13 hM0, gP_9_13 hM0, gI_9_14 hM0, gP_9_14 hM0, gI_9_15 hM0, gP_9_15 hM0, gI_9_16 hM0, gP_9_16 hM0, gR_9_17 hM0, gR_9_18 hM0, gR_9_19 hM0, gR_9_20 hM0, gI_9_21 hM0, gP_9_21 hM0, gI_9_22 hM0, gP_9_22 hM0, gI_9_23 hM0, gP_9_23 hM0, gI_9_24 hM0, gP_9_24 hM0, gR_9_25 hM0, gI_9_26 hM0, gP_9_26 hM0, gI_9_27 hM0, gP_9_27 hM0, gI_9_28 hM0, gP_9_28 hM0, gL_9_29 hM0, gP_9_29 hM0, gL_9_30 hM0, gP_9_30 hM0, cI_s, cL_s, cF_s, cD_s, cA_s, cV_s, nI_add, cond_true, cond_false, if_true, if_false]
      rw [g1]
      by_cases c : gs 0 1 = p
      · simp (disch := omega) only [if_pos c, xret5_1, cI_s, cL_s, cF_s, cD_s, cA_s, cV_s, nI_add, cond_true, cond_false, if_true, if_false]
      · simp (disch := omega) only [if_neg c, xret5_0, cI_s, cL_s, cF_s, cD_s, cA_s, cV_s, nI_add, cond_true, cond_false, if_true, if_false]
  · refine oT_ex (k := 0) (ex := 1) (v := .int (nI 0)) (RR_mo (RR_ro RGh RIh frm_rf (frU_sS frU_Z (by omega))) (by omega)) rfl ?_ ?_ sS_s
    · rw [eX10_peek, QX10_peek_0]
      simp (disch := omega) only [ble_t, Bool.and_self, gO_8 b0, gR_8_0 b0, gR_8_1 b0, gR_8_2 b0, gR_8_3 b0, gR_8_4 b0, gI_8_5 b0, gP_8_5 b0, gI_8_6 b0, gP_8_6 b0, cI_s, cL_s, cF_s, cD_s, cA_s, cV_s, nI_add, cond_true, cond_false, if_true, if_false]
      rw [c_place_f hc c5 hw P h]
      simp (disch := omega) only [cV_x, cI_s, cL_s, cF_s, cD_s, cA_s, cV_s, nI_add, cond_true, cond_false, if_true, if_false]
    · rw [eX11_peek, QX11_peek_0]
      simp (disch := omega) only [gO_9 hM0, gI_9_0 hM0, gP_9_0 hM0, gR_9_1 hM0, gR_9_2 hM0, gI_9_3 hM0, gP_9_3 hM0, gI_9_4 hM0, gP_9_4 hM0, gR_9_5 hM0, gR_9_6 hM0, gR_9_7 hM0, gI_9_8 hM0, gP_9_8 hM0, gI_9_9 hM0, gP_9_9 hM0, gI_9_10 hM0, gP_9_10 hM0, gI_9_11 hM0, gP_9_11 hM0, gI_9_12 hM0, gP_9_12 hM0, gI_9_13 hM0, gP_9_13 hM0, gI_9_14 hM0, gP_9_14 hM0, gI_9_15 hM0, gP_9_15 hM0, gI_9_16 hM0, gP_9_16 hM0, gR_9_17 hM0, gR_9_18 hM0, gR_9_19 hM0, gR_9_20 hM0, gI_9_21 hM0, gP_9_21 hM0, gI_9_22 hM0, gP_9_22 hM0, gI_9_23 hM0, gP_9_23 hM0, gI_9_24 hM0, gP_9_24 hM0, gR_9_25 hM0, gI_9_26 hM0, gP_9_26 hM0, gI_9_27 hM0, gP_9_27 hM0, gI_9_28 hM0, gP_9_28 hM0, gL_9_29 hM0, gP_9_29 hM0, gL_9_30 hM0, gP_9_30 hM0, cI_s, cL_s, cF_s, cD_s, cA_s, cV_s, nI_add, cond_true, cond_false, if_true, if_false]
      rw [show sS M 0 0 (nI 0) = mZ M from rfl, g_isPlaceF GZ I h]
      simp (disch := omega) only [gO_9 hM0, gI_9_0 hM0, gP_9_0 hM0, gR_9_1 hM0, gR_9_2 hM0, gI_9_3 hM0, gP_9_3 hM0, gI_9_4 hM0, gP_9_4 hM0, gR_9_5 hM0, gR_9_6 hM0, gR_9_7 hM0, gI_9_8 hM0, gP_9_8 hM0, gI_9_9 hM0, gP_9_9 hM0, gI_9_10 hM0, gP_9_10 hM0, gI_9_11 hM0, gP_9_11 hM0, gI_9_12 hM0, gP_9_12 hM0, gI_9_13 hM0, gP_9_13 hM0, gI_9_14 hM0, gP_9_14 hM0, gI_9_15 hM0, gP_9_15 hM0, gI_9_16 hM0, gP_9_16 hM0, gR_9_17 hM0, gR_9_18 hM0, gR_9_19 hM0, gR_9_20 hM0, gI_9_21 hM0, gP_9_21 hM0, gI_9_22 hM0, gP_9_22 hM0, gI_9_23 hM0, gP_9_23 hM0, gI_9_24 hM0, gP_9_24 hM0, gR_9_25 hM0, gI_9_26 hM0, gP_9_26 hM0, gI_9_27 hM0, gP_9_27 hM0, gI_9_28 hM0, gP_9_28 hM0, gL_9_29 hM0, gP_9_29 hM0, gL_9_30 hM0, gP_9_30 hM0, cI_s, cL_s, cF_s, cD_s, cA_s, cV_s, nI_add, cond_true, cond_false, if_true, if_false]
      rw [m_right0 mZ_0 (by omega) (by omega)]
      simp (disch := omega) only [iEQ_t, xret5_0, cI_s, cL_s, cF_s, cD_s, cA_s, cV_s, nI_add, cond_true, cond_false, if_true, if_false]
end CH2
