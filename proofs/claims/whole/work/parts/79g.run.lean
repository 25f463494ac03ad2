/-! run, on both sides. -/
section RU
variable {E : xEn} {x y n m : Nat} {sh : Nat → Option xSh} {S M : xSt} {Bd : Nat}
theorem pC_cg {S' M' : xSt} {N : Nat} {P : Nat → Nat → Nat} (h : pC S M N P) (a : S'.1 6 4 = S.1 6 4) (b : M'.1 0 21 = M.1 0 21) (c : S'.2.2.2.2 7 = S.2.2.2.2 7) (s : ∀ j, 8 ≤ j → j ≤ 10 → S'.2.1 j = S.2.1 j) (t : ∀ j, 6 ≤ j → j ≤ 9 → M'.2.1 j = M.2.1 j) : pC S' M' N P := by
  obtain ⟨h1, h2, h3, h4, h5⟩ := h
  refine ⟨a.trans h1, b.trans h2, h3, fun k hk => ?_, fun k hk => ?_⟩
  · rw [c, s 8 (by omega) (by omega), s 9 (by omega) (by omega), t 6 (by omega) (by omega), t 7 (by omega) (by omega), t 8 (by omega) (by omega)]
    exact h4 k hk
  · rw [s 10 (by omega) (by omega), t 9 (by omega) (by omega)]
    exact h5 k hk
theorem T_run (hc : hC sh) (H : hEn E x) (H' : hEn E y) (R : RR S M Bd) (a : Int32) (d u : Nat) : oT E x y n m sh [0] (Bd + 200) 0 (xsem xT E (d + 15) kX10_run [.ref x, .int a] (wW E x sh S, n)) (xsem xT E (u + 18) kX11_run [.ref y, .int a] (wW E y shM M, m)) := by
  obtain ⟨gs, w, un, tx, len, RGh, RIh⟩ := R
  obtain ⟨c5, c6, c3, c4, hw, hun⟩ := RGh.1
  obtain ⟨P, G, I, F, t2, t3⟩ := RGh.2 0 (Nat.zero_le _)
  rw [ix_0 hw] at P G
  have hw' : (w + 1) % 9 < 9 := Nat.mod_lt _ (by omega)
  have b0 := hc.1
  have h3 := hc.2.1
  have h6 : hS6 sh := hc.2.2.1
  have a0 : sh 1 = some (sh3 1) := h3.1
  have b6 : sh 6 = some (sh6 6) := h6.1
  have hG' := hc.2.2.2.2.2.2 _ hw'
  have b2' := hG'.1
  have hl := RIh.2.2.1
  rcases i32_c a (b := len + 1) (by omega) with ⟨k, hk, rfl⟩ | h
  · obtain ⟨S1, s1, Q1, z1, f1⟩ := c_begin (E := E) (x := x) (n := n) hc H RIh (L := k) (by omega) (d + 6)
    have hst := m_starts_t (E := E) (y := y) (m := m) RIh.2.1 (k := k) (by omega) hl (u + 15)
    have K1 := mB_Q RIh (L := k) (by omega)
    generalize hS2 : sS (sS S1 6 4 (nI 0)) 6 5 (nI 0) = S2
    generalize hM2 : sS (sS (mB M k) 0 21 (nI 0)) 0 22 (nI 0) = M2
    have e21 : S2.1 1 = S1.1 1 := by rw [← hS2]; exact funext fun j => by rw [sS_nq (by omega), sS_nq (by omega)]
    have e2j : ∀ j, j ≠ 6 → S2.1 j = S1.1 j := fun j hj => by rw [← hS2]; exact funext fun i => by rw [sS_nq hj, sS_nq hj]
    have e22 : S2.2 = S1.2 := by rw [← hS2]; rfl
    have e64 : S2.1 6 4 = nI 0 := by rw [← hS2, sS_n (by omega), sS_s]
    have e65 : S2.1 6 5 = nI 0 := by rw [← hS2, sS_s]
    have m2k : ∀ j, j ≠ 21 → j ≠ 22 → M2.1 0 j = (mB M k).1 0 j := fun j a b => by rw [← hM2, sS_n b, sS_n a]
    have m22 : M2.2 = M.2 := by rw [← hM2]; rfl
    have m221 : M2.1 0 21 = nI 0 := by rw [← hM2, sS_n (by omega), sS_s]
    have m222 : M2.1 0 22 = nI 0 := by rw [← hM2, sS_s]
    have Q2 : cQ S2 tx k (nx tx k 0) := cQ_fr Q1 e21 (by rw [e22]) (by rw [e22]) (by rw [e22])
    have K2 : mQ M2 tx k (nx tx k 0) := by rw [← hM2]; exact mQ_o (mQ_o K1 (by omega)) (by omega)
    have RC2 : RC S2 M2 tx k (nx tx k 0) 0 0 (fun _ _ => 0) := ⟨Q2, K2, ⟨e64, m221, by omega, fun j hj => absurd hj (Nat.not_lt_zero j), fun j hj => absurd hj (Nat.not_lt_zero j)⟩, m222⟩
    have hj := j_script (E := E) (x := x) (y := y) (n := n) (m := m) (sh := sh) (L := k) (tx := tx) h3 h6 H H' 3 (d + 3) u
    rw [show d + 3 + 2 * 3 + 5 = d + 14 by omega, show u + 3 * 3 + 8 = u + 17 by omega] at hj
    have hj := hj S2 M2 (fun _ _ => 0) 0 (nx tx k 0) 0 (by omega) RC2
    -- the class
    have hcl : ∀ v S', xsem xT E (d + 14) kX6_readCommands [.ref (x + 6), .ref (x + 1), .int (nI 0)] (wW E x sh S2, n) = some (.inl (some (.int v)), (wW E x sh S', n)) → xsem xT E (d + 15) kX10_run [.ref x, .int (nI k)] (wW E x sh S, n) = if v = nI 0 then some (.inl (some (.int (S'.1 1 8))), (wW E x sh S', n)) else cI (xthr 1 some) (xsem xT E (d + 14) kX3_take [.ref (x + 1), .ref (E.1 0)] (wW E x sh S', n)) (fun v7 σ5 => if v7 = (nI 0) then qX10_run_48 E (d + 14) 1 6 x σ5 else qX10_run_56 E (d + 14) 1 6 x σ5) := by
      intro v S' hv
      rw [eX10_run, QX10_run_0]
      simp (disch := omega) only [ble_t, Bool.and_self, gO_8 b0, gR_8_0 b0, gR_8_1 b0, gR_8_2 b0, gR_8_3 b0, gR_8_4 b0, gI_8_5 b0, gP_8_5 b0, gI_8_6 b0, gP_8_6 b0, cI_s, cL_s, cF_s, cD_s, cA_s, cV_s, nI_add, cond_true, cond_false, if_true, if_false]
      rw [c_len_t hc RIh.1 (by omega) hl]
      simp (disch := omega) only [ble_t, Bool.and_self, gO_8 b0, gR_8_0 b0, gR_8_1 b0, gR_8_2 b0, gR_8_3 b0, gR_8_4 b0, gI_8_5 b0, gP_8_5 b0, gI_8_6 b0, gP_8_6 b0, gO_3 a0, gR_3_0 a0, gI_3_1 a0, gP_3_1 a0, gI_3_2 a0, gP_3_2 a0, gR_3_3 a0, gR_3_4 a0, gR_3_5 a0, gI_3_6 a0, gP_3_6 a0, gI_3_7 a0, gP_3_7 a0, gI_3_8 a0, gP_3_8 a0, gI_3_9 a0, gP_3_9 a0, cI_s, cL_s, cF_s, cD_s, cA_s, cV_s, nI_add, cond_true, cond_false, if_true, if_false]
      rw [s1]
      simp (disch := omega) only [ble_t, Bool.and_self, gO_8 b0, gR_8_0 b0, gR_8_1 b0, gR_8_2 b0, gR_8_3 b0, gR_8_4 b0, gI_8_5 b0, gP_8_5 b0, gI_8_6 b0, gP_8_6 b0, gO_3 a0, gR_3_0 a0, gI_3_1 a0, gP_3_1 a0, gI_3_2 a0, gP_3_2 a0, gR_3_3 a0, gR_3_4 a0, gR_3_5 a0, gI_3_6 a0, gP_3_6 a0, gI_3_7 a0, gP_3_7 a0, gI_3_8 a0, gP_3_8 a0, gI_3_9 a0, gP_3_9 a0, gO_6 b6, gR_6_0 b6, gR_6_1 b6, gR_6_2 b6, gR_6_3 b6, gI_6_4 b6, gP_6_4 b6, gI_6_5 b6, gP_6_5 b6, eX6_clear, QX6_clear_0, cI_s, cL_s, cF_s, cD_s, cA_s, cV_s, nI_add, cond_true, cond_false, if_true, if_false]
      rw [hS2, hv]
      simp (disch := omega) only [ble_t, Bool.and_self, gO_8 b0, gR_8_0 b0, gR_8_1 b0, gR_8_2 b0, gR_8_3 b0, gR_8_4 b0, gI_8_5 b0, gP_8_5 b0, gI_8_6 b0, gP_8_6 b0, gO_3 a0, gR_3_0 a0, gI_3_1 a0, gP_3_1 a0, gI_3_2 a0, gP_3_2 a0, gR_3_3 a0, gR_3_4 a0, gR_3_5 a0, gI_3_6 a0, gP_3_6 a0, gI_3_7 a0, gP_3_7 a0, gI_3_8 a0, gP_3_8 a0, gI_3_9 a0, gP_3_9 a0, QX10_run_48, cI_s, cL_s, cF_s, cD_s, cA_s, cV_s, nI_add, cond_true, cond_false, if_true, if_false]
    have hcl0 : ∀ S' S'', xsem xT E (d + 14) kX6_readCommands [.ref (x + 6), .ref (x + 1), .int (nI 0)] (wW E x sh S2, n) = some (.inl (some (.int (nI 1))), (wW E x sh S', n)) → xsem xT E (d + 14) kX3_take [.ref (x + 1), .ref (E.1 0)] (wW E x sh S', n) = some (.inl (some (.int (nI 0))), (wW E x sh S'', n)) → xsem xT E (d + 15) kX10_run [.ref x, .int (nI k)] (wW E x sh S, n) = some (.inl (some (.int (S''.1 1 8))), (wW E x sh S'', n)) := by
      intro S' S'' hv ht
      rw [hcl _ _ hv, iEQ_f (by omega) (by omega) (by omega), ht]
      simp (disch := omega) only [iEQ_t, QX10_run_48, gO_8 b0, gR_8_0 b0, gR_8_1 b0, gR_8_2 b0, gR_8_3 b0, gR_8_4 b0, gI_8_5 b0, gP_8_5 b0, gI_8_6 b0, gP_8_6 b0, gO_3 a0, gR_3_0 a0, gI_3_1 a0, gP_3_1 a0, gI_3_2 a0, gP_3_2 a0, gR_3_3 a0, gR_3_4 a0, gR_3_5 a0, gI_3_6 a0, gP_3_6 a0, gI_3_7 a0, gP_3_7 a0, gI_3_8 a0, gP_3_8 a0, gI_3_9 a0, gP_3_9 a0, cI_s, cL_s, cF_s, cD_s, cA_s, cV_s, nI_add, cond_true, cond_false, if_true, if_false]
    -- the reference
    have hml : ∀ v M', xsem xT E (u + 17) kX11_readsScript [.ref y] (wW E y shM M2, m) = some (.inl (some (.int v)), (wW E y shM M', m)) → xsem xT E (u + 18) kX11_run [.ref y, .int (nI k)] (wW E y shM M, m) = if v = nI 0 then some (.inl (some (.int (M'.1 0 11))), (wW E y shM M', m)) else qX11_run_32 E (u + 17) y (wW E y shM M', m) := by
      intro v M' hv
      rw [eX11_run, QX11_run_0]
      simp (disch := omega) only [gO_9 hM0, gI_9_0 hM0, gP_9_0 hM0, gR_9_1 hM0, gR_9_2 hM0, gI_9_3 hM0, gP_9_3 hM0, gI_9_4 hM0, gP_9_4 hM0, gR_9_5 hM0, gR_9_6 hM0, gR_9_7 hM0, gI_9_8 hM0, gP_9_8 hM0, gI_9_9 hM0, gP_9_9 hM0, gI_9_10 hM0, gP_9_10 hM0, gI_9_11 hM0, gP_9_11 hM0, gI_9_12 hM0, gP_9_12 hM0, gI_9_13 hM0, gP_9_13 hM0, gI_9_14 hM0, gP_9_14 hM0, gI_9_15 hM0, gP_9_15 hM0, gI_9_16 hM0, gP_9_16 hM0, gR_9_17 hM0, gR_9_18 hM0, gR_9_19 hM0, gR_9_20 hM0, gI_9_21 hM0, gP_9_21 hM0, gI_9_22 hM0, gP_9_22 hM0, gI_9_23 hM0, gP_9_23 hM0, gI_9_24 hM0, gP_9_24 hM0, gR_9_25 hM0, gI_9_26 hM0, gP_9_26 hM0, gI_9_27 hM0, gP_9_27 hM0, gI_9_28 hM0, gP_9_28 hM0, gL_9_29 hM0, gP_9_29 hM0, gL_9_30 hM0, gP_9_30 hM0, cI_s, cL_s, cF_s, cD_s, cA_s, cV_s, nI_add, cond_true, cond_false, if_true, if_false]
      rw [hst]
      simp (disch := omega) only [iEQ_f, QX11_run_10, gO_9 hM0, gI_9_0 hM0, gP_9_0 hM0, gR_9_1 hM0, gR_9_2 hM0, gI_9_3 hM0, gP_9_3 hM0, gI_9_4 hM0, gP_9_4 hM0, gR_9_5 hM0, gR_9_6 hM0, gR_9_7 hM0, gI_9_8 hM0, gP_9_8 hM0, gI_9_9 hM0, gP_9_9 hM0, gI_9_10 hM0, gP_9_10 hM0, gI_9_11 hM0, gP_9_11 hM0, gI_9_12 hM0, gP_9_12 hM0, gI_9_13 hM0, gP_9_13 hM0, gI_9_14 hM0, gP_9_14 hM0, gI_9_15 hM0, gP_9_15 hM0, gI_9_16 hM0, gP_9_16 hM0, gR_9_17 hM0, gR_9_18 hM0, gR_9_19 hM0, gR_9_20 hM0, gI_9_21 hM0, gP_9_21 hM0, gI_9_22 hM0, gP_9_22 hM0, gI_9_23 hM0, gP_9_23 hM0, gI_9_24 hM0, gP_9_24 hM0, gR_9_25 hM0, gI_9_26 hM0, gP_9_26 hM0, gI_9_27 hM0, gP_9_27 hM0, gI_9_28 hM0, gP_9_28 hM0, gL_9_29 hM0, gP_9_29 hM0, gL_9_30 hM0, gP_9_30 hM0, cI_s, cL_s, cF_s, cD_s, cA_s, cV_s, nI_add, cond_true, cond_false, if_true, if_false]
      rw [hM2, hv]
      simp (disch := omega) only [gO_9 hM0, gI_9_0 hM0, gP_9_0 hM0, gR_9_1 hM0, gR_9_2 hM0, gI_9_3 hM0, gP_9_3 hM0, gI_9_4 hM0, gP_9_4 hM0, gR_9_5 hM0, gR_9_6 hM0, gR_9_7 hM0, gI_9_8 hM0, gP_9_8 hM0, gI_9_9 hM0, gP_9_9 hM0, gI_9_10 hM0, gP_9_10 hM0, gI_9_11 hM0, gP_9_11 hM0, gI_9_12 hM0, gP_9_12 hM0, gI_9_13 hM0, gP_9_13 hM0, gI_9_14 hM0, gP_9_14 hM0, gI_9_15 hM0, gP_9_15 hM0, gI_9_16 hM0, gP_9_16 hM0, gR_9_17 hM0, gR_9_18 hM0, gR_9_19 hM0, gR_9_20 hM0, gI_9_21 hM0, gP_9_21 hM0, gI_9_22 hM0, gP_9_22 hM0, gI_9_23 hM0, gP_9_23 hM0, gI_9_24 hM0, gP_9_24 hM0, gR_9_25 hM0, gI_9_26 hM0, gP_9_26 hM0, gI_9_27 hM0, gP_9_27 hM0, gI_9_28 hM0, gP_9_28 hM0, gL_9_29 hM0, gP_9_29 hM0, gL_9_30 hM0, gP_9_30 hM0, cI_s, cL_s, cF_s, cD_s, cA_s, cV_s, nI_add, cond_true, cond_false, if_true, if_false]
    -- what both sides leave alone until a change
    have hrr : ∀ S' M', frT S S1 → frW S2 S' → frV M2 M' → S'.1 1 9 = M'.1 0 12 → RG S' M' gs w un Bd ∧ RI S' M' tx 0 := by
      intro S' M' _ fw fv h9
      refine ⟨RG_fr RGh ?_ ?_ (fun j a _ => ⟨?_, ?_⟩) ?_ ?_ (fun i _ => ?_), RI_0 ?_ ?_ h9⟩
      · rw [fw.1 0 (by omega) (by omega), e2j 0 (by omega), f1.1 0 (by omega)]
      · rw [fw.1 0 (by omega) (by omega), e2j 0 (by omega), f1.1 0 (by omega)]
      · rw [fw.1 j (by omega) (by omega), e2j j (by omega), f1.1 j (by omega)]
      · rw [fw.2.2.2.1 j (by omega) (by omega), e22, f1.2.1 j (by omega) (by omega)]
      · rw [fv.1 3 (by omega), m2k 3 (by omega) (by omega), mB_k (by omega) (by omega)]
      · rw [fv.1 4 (by omega), m2k 4 (by omega) (by omega), mB_k (by omega) (by omega)]
      · rw [fv.2.1 1 (by omega), m22]
      · rw [fw.2.1 1 (by omega), e21]; exact z1
      · rw [fv.1 8 (by omega), m2k 8 (by omega) (by omega)]; exact mB_8
    have hm0 : ∀ M', frV M2 M' → M'.1 0 0 = nI 0 := fun M' fv => by rw [fv.1 0 (by omega), m2k 0 (by omega) (by omega)]; exact mB_0
    have hmo : ∀ {S' M' : xSt}, RG S' M' gs w un Bd → RI S' M' tx 0 → RR S' M' (Bd + 200) := fun R1 R2 => ⟨gs, w, un, tx, 0, RG_mo R1 (by omega), R2⟩
    rcases hj with (⟨S3, M3, P', N', p', e1, e2, RC3, hN, hp, hP, hk3, fw, fv⟩ | ⟨S3, M3, e1, e2, xf, fw, fv⟩) | ⟨S3, M3, p', e1, e2, Q3, ht9, ht0, mx, fw, fv⟩
    · obtain ⟨Q3, K3, PC3, hd3⟩ := RC3
      obtain ⟨hpL, hL, hx, htx⟩ := mQ_le K3
      have hhere := t_here (E := E) (x := y) (n := m) K3 (u + 16)
      by_cases et : tk tx k p' = 0
      · -- a whole script
        obtain ⟨S4, s4, Q4, f4⟩ := c_take_t (E := E) (x := x) (n := n) h3 H Q3 (i := 0) (by omega) et (d + 12)
        have K4 := mQ_P K3
        have PC4 : pC S4 (mP M3 p') N' P' := pC_I PC3 f4 frR_P
        obtain ⟨R4, I4⟩ := hrr S4 (mP M3 p') f1 (frW_tr fw (frW_I f4)) (frV_tr fv (frV_R frR_P)) (by rw [Q4.2.2, K4.2.1])
        have c54 : S4.1 0 5 = nI w := R4.1.1
        have c64 : S4.1 0 6 = nI un := R4.1.2.1
        have P4 : pG S4 (27 + 12 * w) (gs 0) := by
          have := (R4.2 0 (Nat.zero_le _)).1
          rw [ix_0 hw] at this
          exact this
        have G4 : GR (mP M3 p') w (gs 0) := by
          have := (R4.2 0 (Nat.zero_le _)).2.1
          rw [ix_0 hw] at this
          exact this
        obtain ⟨S5, h1, h2, h3', h4, h5, h6'⟩ := c_change (E := E) (x := x) (n := n) hc c54 c64 hw hun P4 I F (d + 11)
        obtain ⟨M5, n1, n2, n3, n4, n5, n6⟩ := m_change (E := E) (y := y) (m := m) R4.1.2.2.1 R4.1.2.2.2.1 hw hun G4 (u + 15)
        generalize hM6 : sS (sS M5 0 23 (nI 0)) 0 24 (nI 0) = M6
        have k6 : ∀ j, j ≠ 23 → j ≠ 24 → M6.1 0 j = M5.1 0 j := fun j a b => by rw [← hM6, sS_n b, sS_n a]
        have r6 : M6.2 = M5.2 := by rw [← hM6]; rfl
        have PC6 : pC S5 M6 N' P' := pC_cg PC4 (congrFun (h5 6 (by omega) (by omega)).1 4) ((k6 21 (by omega) (by omega)).trans (n4 21 (by omega) (by omega))) (by rw [h6']) (fun j a b => (h5 j (by omega) (by omega)).2) (fun j a b => by rw [r6]; exact n5 j (by omega))
        have d5 : S5.1 6 5 = nI 0 := (congrFun (h5 6 (by omega) (by omega)).1 5).trans ((congrFun (f4.1 6 (by omega)) 5).trans (fw.2.2.1.trans e65))
        have PS6 : PS S5 M6 N' P' (27 + 12 * ((w + 1) % 9)) ((w + 1) % 9) (gs 0) 0 Bd 0 := ⟨h4, GM_fr n2 (k6 3 (by omega) (by omega)) (by rw [r6]), I, F, by omega, by omega, d5, by rw [← hM6, sS_n (by omega), sS_s], by rw [← hM6, sS_s], by omega, PC6⟩
        obtain ⟨fu, hok⟩ := hk3
        have hjr := j_run (E := E) (x := x) (y := y) (n := n) (m := m) (N := N') (Bd := Bd) hG' h6 (by omega) H d (u + 5) fu 3 0 N' 0 S5 M6 (gs 0) 0 0 (by omega) hok (Nat.le_refl _) (Nat.le_refl _) PS6
        obtain ⟨v, S7, M7, g7, dn, hv1, o1, o2, PS7, hdn, fq, fz, _⟩ := hjr
        obtain ⟨p1, p2, p3, p4, p5, p6, p7, p8, p9, p10, p11⟩ := PS7
        have hsz : S5.1 6 4 = nI N' := PC6.1
        have hsm : M6.1 0 21 = nI N' := PC6.2.1
        have RG' : RG S7 M7 (cons g7 gs) ((w + 1) % 9) (if un < 8 then un + 1 else 8) (Bd + 200) := by
          refine RG_ch R4 (by omega) ((congrFun (fq.1 0 (by omega) (by omega)).1 5).trans h2) ((congrFun (fq.1 0 (by omega) (by omega)).1 6).trans h3') (fun j a b => ?_) p2.1 ?_ (fun i _ b => ?_) p1 p2.2.2 p3 p4 (by omega) (by omega)
          · have q1 := fq.1 j (by omega) b
            have q2 := h5 j (by omega) b
            exact ⟨q1.1.trans q2.1, q1.2.trans q2.2⟩
          · rw [fz.1 4 (by omega) (by omega), k6 4 (by omega) (by omega)]; exact n3
          · rw [fz.2.2 i b, r6, n6 i b]
        have s17 : S7.1 1 1 = nI 0 := (congrFun (fq.1 1 (by omega) (by omega)).1 1).trans ((congrFun (h5 1 (by omega) (by omega)).1 1).trans I4.1)
        have s97 : S7.1 1 9 = -1 := (congrFun (fq.1 1 (by omega) (by omega)).1 9).trans ((congrFun (h5 1 (by omega) (by omega)).1 9).trans Q4.2.2)
        have m87 : M7.1 0 8 = nI 0 := (fz.1 8 (by omega) (by omega)).trans ((k6 8 (by omega) (by omega)).trans ((n4 8 (by omega) (by omega)).trans I4.2.1))
        have m127 : M7.1 0 12 = -1 := (fz.1 12 (by omega) (by omega)).trans ((k6 12 (by omega) (by omega)).trans ((n4 12 (by omega) (by omega)).trans K4.2.1))
        refine oT_ok (v := .int (nI dn)) ⟨_, _, _, tx, 0, RG', RI_0 s17 m87 (s97.trans m127.symm)⟩ ?_ ?_ ((fz.1 0 (by omega) (by omega)).trans ((k6 0 (by omega) (by omega)).trans ((n4 0 (by omega) (by omega)).trans (hm0 _ (frV_tr fv (frV_R frR_P))))))
        · have hpr : xsem xT E (d + 14) kX6_performRange [.ref (x + 6), .ref (x + (27 + 12 * ((w + 1) % 9))), .int (nI 0), .int (nI N'), .int (nI 0)] (wW E x sh S5, n) = some (.inl (some (.int (nI (1 - v)))), (wW E x sh S7, n)) := by
            rw [eX6_performRange, QX6_performRange_0]
            exact o1
          rw [hcl _ _ e1, iEQ_f (by omega) (by omega) (by omega), s4]
          simp (disch := omega) only [iEQ_f, QX10_run_56, ble_t, Bool.and_self, gO_8 b0, gR_8_0 b0, gR_8_1 b0, gR_8_2 b0, gR_8_3 b0, gR_8_4 b0, gI_8_5 b0, gP_8_5 b0, gI_8_6 b0, gP_8_6 b0, cI_s, cL_s, cF_s, cD_s, cA_s, cV_s, nI_add, cond_true, cond_false, if_true, if_false]
          rw [h1]
          simp (disch := omega) only [ble_t, Bool.and_self, gO_8 b0, gR_8_0 b0, gR_8_1 b0, gR_8_2 b0, gR_8_3 b0, gR_8_4 b0, gI_8_5 b0, gP_8_5 b0, gI_8_6 b0, gP_8_6 b0, gO_6 b6, gR_6_0 b6, gR_6_1 b6, gR_6_2 b6, gR_6_3 b6, gI_6_4 b6, gP_6_4 b6, gI_6_5 b6, gP_6_5 b6, hsz, cI_s, cL_s, cF_s, cD_s, cA_s, cV_s, nI_add, cond_true, cond_false, if_true, if_false]
          rw [hpr]
          simp (disch := omega) only [gO_8 b0, gR_8_0 b0, gR_8_1 b0, gR_8_2 b0, gR_8_3 b0, gR_8_4 b0, gI_8_5 b0, gP_8_5 b0, gI_8_6 b0, gP_8_6 b0, gO_6 b6, gR_6_0 b6, gR_6_1 b6, gR_6_2 b6, gR_6_3 b6, gI_6_4 b6, gP_6_4 b6, gI_6_5 b6, gP_6_5 b6, p7, cI_s, cL_s, cF_s, cD_s, cA_s, cV_s, nI_add, cond_true, cond_false, if_true, if_false]
        · have hrn : xsem xT E (u + 17) kX11_runs [.ref y, .int (nI 0), .int (nI N')] (wW E y shM M6, m) = some (.inl none, (wW E y shM M7, m)) := by
            rw [eX11_runs, QX11_runs_0]
            exact o2
          rw [hml _ _ e2, iEQ_f (by omega) (by omega) (by omega), QX11_run_32]
          simp (disch := omega) only [gO_9 hM0, gI_9_0 hM0, gP_9_0 hM0, gR_9_1 hM0, gR_9_2 hM0, gI_9_3 hM0, gP_9_3 hM0, gI_9_4 hM0, gP_9_4 hM0, gR_9_5 hM0, gR_9_6 hM0, gR_9_7 hM0, gI_9_8 hM0, gP_9_8 hM0, gI_9_9 hM0, gP_9_9 hM0, gI_9_10 hM0, gP_9_10 hM0, gI_9_11 hM0, gP_9_11 hM0, gI_9_12 hM0, gP_9_12 hM0, gI_9_13 hM0, gP_9_13 hM0, gI_9_14 hM0, gP_9_14 hM0, gI_9_15 hM0, gP_9_15 hM0, gI_9_16 hM0, gP_9_16 hM0, gR_9_17 hM0, gR_9_18 hM0, gR_9_19 hM0, gR_9_20 hM0, gI_9_21 hM0, gP_9_21 hM0, gI_9_22 hM0, gP_9_22 hM0, gI_9_23 hM0, gP_9_23 hM0, gI_9_24 hM0, gP_9_24 hM0, gR_9_25 hM0, gI_9_26 hM0, gP_9_26 hM0, gI_9_27 hM0, gP_9_27 hM0, gI_9_28 hM0, gP_9_28 hM0, gL_9_29 hM0, gP_9_29 hM0, gL_9_30 hM0, gP_9_30 hM0, cI_s, cL_s, cF_s, cD_s, cA_s, cV_s, nI_add, cond_true, cond_false, if_true, if_false]
          rw [hhere, (hc_end hL htx).2 et]
          simp (disch := omega) only [QX11_run_56, gO_9 hM0, gI_9_0 hM0, gP_9_0 hM0, gR_9_1 hM0, gR_9_2 hM0, gI_9_3 hM0, gP_9_3 hM0, gI_9_4 hM0, gP_9_4 hM0, gR_9_5 hM0, gR_9_6 hM0, gR_9_7 hM0, gI_9_8 hM0, gP_9_8 hM0, gI_9_9 hM0, gP_9_9 hM0, gI_9_10 hM0, gP_9_10 hM0, gI_9_11 hM0, gP_9_11 hM0, gI_9_12 hM0, gP_9_12 hM0, gI_9_13 hM0, gP_9_13 hM0, gI_9_14 hM0, gP_9_14 hM0, gI_9_15 hM0, gP_9_15 hM0, gI_9_16 hM0, gP_9_16 hM0, gR_9_17 hM0, gR_9_18 hM0, gR_9_19 hM0, gR_9_20 hM0, gI_9_21 hM0, gP_9_21 hM0, gI_9_22 hM0, gP_9_22 hM0, gI_9_23 hM0, gP_9_23 hM0, gI_9_24 hM0, gP_9_24 hM0, gR_9_25 hM0, gI_9_26 hM0, gP_9_26 hM0, gI_9_27 hM0, gP_9_27 hM0, gI_9_28 hM0, gP_9_28 hM0, gL_9_29 hM0, gP_9_29 hM0, gL_9_30 hM0, gP_9_30 hM0, cI_s, cL_s, cF_s, cD_s, cA_s, cV_s, nI_add, cond_true, cond_false, if_true, if_false]
          rw [n1]
          simp (disch := omega) only [gO_9 hM0, gI_9_0 hM0, gP_9_0 hM0, gR_9_1 hM0, gR_9_2 hM0, gI_9_3 hM0, gP_9_3 hM0, gI_9_4 hM0, gP_9_4 hM0, gR_9_5 hM0, gR_9_6 hM0, gR_9_7 hM0, gI_9_8 hM0, gP_9_8 hM0, gI_9_9 hM0, gP_9_9 hM0, gI_9_10 hM0, gP_9_10 hM0, gI_9_11 hM0, gP_9_11 hM0, gI_9_12 hM0, gP_9_12 hM0, gI_9_13 hM0, gP_9_13 hM0, gI_9_14 hM0, gP_9_14 hM0, gI_9_15 hM0, gP_9_15 hM0, gI_9_16 hM0, gP_9_16 hM0, gR_9_17 hM0, gR_9_18 hM0, gR_9_19 hM0, gR_9_20 hM0, gI_9_21 hM0, gP_9_21 hM0, gI_9_22 hM0, gP_9_22 hM0, gI_9_23 hM0, gP_9_23 hM0, gI_9_24 hM0, gP_9_24 hM0, gR_9_25 hM0, gI_9_26 hM0, gP_9_26 hM0, gI_9_27 hM0, gP_9_27 hM0, gI_9_28 hM0, gP_9_28 hM0, gL_9_29 hM0, gP_9_29 hM0, gL_9_30 hM0, gP_9_30 hM0, if_pos nb_0, cI_s, cL_s, cF_s, cD_s, cA_s, cV_s, nI_add, cond_true, cond_false, if_true, if_false]
          rw [hM6]
          simp (disch := omega) only [hsm, cI_s, cL_s, cF_s, cD_s, cA_s, cV_s, nI_add, cond_true, cond_false, if_true, if_false]
          rw [hrn]
          simp (disch := omega) only [gO_9 hM0, gI_9_0 hM0, gP_9_0 hM0, gR_9_1 hM0, gR_9_2 hM0, gI_9_3 hM0, gP_9_3 hM0, gI_9_4 hM0, gP_9_4 hM0, gR_9_5 hM0, gR_9_6 hM0, gR_9_7 hM0, gI_9_8 hM0, gP_9_8 hM0, gI_9_9 hM0, gP_9_9 hM0, gI_9_10 hM0, gP_9_10 hM0, gI_9_11 hM0, gP_9_11 hM0, gI_9_12 hM0, gP_9_12 hM0, gI_9_13 hM0, gP_9_13 hM0, gI_9_14 hM0, gP_9_14 hM0, gI_9_15 hM0, gP_9_15 hM0, gI_9_16 hM0, gP_9_16 hM0, gR_9_17 hM0, gR_9_18 hM0, gR_9_19 hM0, gR_9_20 hM0, gI_9_21 hM0, gP_9_21 hM0, gI_9_22 hM0, gP_9_22 hM0, gI_9_23 hM0, gP_9_23 hM0, gI_9_24 hM0, gP_9_24 hM0, gR_9_25 hM0, gI_9_26 hM0, gP_9_26 hM0, gI_9_27 hM0, gP_9_27 hM0, gI_9_28 hM0, gP_9_28 hM0, gL_9_29 hM0, gP_9_29 hM0, gL_9_30 hM0, gP_9_30 hM0, p8, cI_s, cL_s, cF_s, cD_s, cA_s, cV_s, nI_add, cond_true, cond_false, if_true, if_false]
      · -- something stands behind it
        obtain ⟨S4, s4, X4, f4⟩ := c_take_f (E := E) (x := x) (n := n) h3 H Q3 (i := 0) (by omega) et (d + 12)
        obtain ⟨M4, m4, Y4, g4⟩ := t_fail (E := E) (x := y) (n := m) (mQ_P K3) (-2) p' (u + 16)
        obtain ⟨R4, I4⟩ := hrr S4 M4 f1 (frW_tr fw (frW_I f4)) (frV_tr fv (frV_R (frR_tr frR_P g4))) (X4.2.trans Y4.2.symm)
        refine oT_ok (v := .int (-2)) (hmo R4 I4) ?_ ?_ (hm0 _ (frV_tr fv (frV_R (frR_tr frR_P g4))))
        · rw [hcl0 _ _ e1 s4, X4.1]
        · rw [hml _ _ e2, iEQ_f (by omega) (by omega) (by omega), QX11_run_32]
          simp (disch := omega) only [gO_9 hM0, gI_9_0 hM0, gP_9_0 hM0, gR_9_1 hM0, gR_9_2 hM0, gI_9_3 hM0, gP_9_3 hM0, gI_9_4 hM0, gP_9_4 hM0, gR_9_5 hM0, gR_9_6 hM0, gR_9_7 hM0, gI_9_8 hM0, gP_9_8 hM0, gI_9_9 hM0, gP_9_9 hM0, gI_9_10 hM0, gP_9_10 hM0, gI_9_11 hM0, gP_9_11 hM0, gI_9_12 hM0, gP_9_12 hM0, gI_9_13 hM0, gP_9_13 hM0, gI_9_14 hM0, gP_9_14 hM0, gI_9_15 hM0, gP_9_15 hM0, gI_9_16 hM0, gP_9_16 hM0, gR_9_17 hM0, gR_9_18 hM0, gR_9_19 hM0, gR_9_20 hM0, gI_9_21 hM0, gP_9_21 hM0, gI_9_22 hM0, gP_9_22 hM0, gI_9_23 hM0, gP_9_23 hM0, gI_9_24 hM0, gP_9_24 hM0, gR_9_25 hM0, gI_9_26 hM0, gP_9_26 hM0, gI_9_27 hM0, gP_9_27 hM0, gI_9_28 hM0, gP_9_28 hM0, gL_9_29 hM0, gP_9_29 hM0, gL_9_30 hM0, gP_9_30 hM0, cI_s, cL_s, cF_s, cD_s, cA_s, cV_s, nI_add, cond_true, cond_false, if_true, if_false]
          rw [hhere]
          simp (disch := omega) only [if_neg (fun z => et ((hc_end hL htx).1 z)), gO_9 hM0, gI_9_0 hM0, gP_9_0 hM0, gR_9_1 hM0, gR_9_2 hM0, gI_9_3 hM0, gP_9_3 hM0, gI_9_4 hM0, gP_9_4 hM0, gR_9_5 hM0, gR_9_6 hM0, gR_9_7 hM0, gI_9_8 hM0, gP_9_8 hM0, gI_9_9 hM0, gP_9_9 hM0, gI_9_10 hM0, gP_9_10 hM0, gI_9_11 hM0, gP_9_11 hM0, gI_9_12 hM0, gP_9_12 hM0, gI_9_13 hM0, gP_9_13 hM0, gI_9_14 hM0, gP_9_14 hM0, gI_9_15 hM0, gP_9_15 hM0, gI_9_16 hM0, gP_9_16 hM0, gR_9_17 hM0, gR_9_18 hM0, gR_9_19 hM0, gR_9_20 hM0, gI_9_21 hM0, gP_9_21 hM0, gI_9_22 hM0, gP_9_22 hM0, gI_9_23 hM0, gP_9_23 hM0, gI_9_24 hM0, gP_9_24 hM0, gR_9_25 hM0, gI_9_26 hM0, gP_9_26 hM0, gI_9_27 hM0, gP_9_27 hM0, gI_9_28 hM0, gP_9_28 hM0, gL_9_29 hM0, gP_9_29 hM0, gL_9_30 hM0, gP_9_30 hM0, mP_10, cI_s, cL_s, cF_s, cD_s, cA_s, cV_s, nI_add, cond_true, cond_false, if_true, if_false]
          rw [m4]
          simp (disch := omega) only [gO_9 hM0, gI_9_0 hM0, gP_9_0 hM0, gR_9_1 hM0, gR_9_2 hM0, gI_9_3 hM0, gP_9_3 hM0, gI_9_4 hM0, gP_9_4 hM0, gR_9_5 hM0, gR_9_6 hM0, gR_9_7 hM0, gI_9_8 hM0, gP_9_8 hM0, gI_9_9 hM0, gP_9_9 hM0, gI_9_10 hM0, gP_9_10 hM0, gI_9_11 hM0, gP_9_11 hM0, gI_9_12 hM0, gP_9_12 hM0, gI_9_13 hM0, gP_9_13 hM0, gI_9_14 hM0, gP_9_14 hM0, gI_9_15 hM0, gP_9_15 hM0, gI_9_16 hM0, gP_9_16 hM0, gR_9_17 hM0, gR_9_18 hM0, gR_9_19 hM0, gR_9_20 hM0, gI_9_21 hM0, gP_9_21 hM0, gI_9_22 hM0, gP_9_22 hM0, gI_9_23 hM0, gP_9_23 hM0, gI_9_24 hM0, gP_9_24 hM0, gR_9_25 hM0, gI_9_26 hM0, gP_9_26 hM0, gI_9_27 hM0, gP_9_27 hM0, gI_9_28 hM0, gP_9_28 hM0, gL_9_29 hM0, gP_9_29 hM0, gL_9_30 hM0, gP_9_30 hM0, Y4.1, cI_s, cL_s, cF_s, cD_s, cA_s, cV_s, nI_add, cond_true, cond_false, if_true, if_false]
    · obtain ⟨R4, I4⟩ := hrr S3 M3 f1 fw fv xf.2
      refine oT_ok (v := .int (S3.1 1 8)) (hmo R4 I4) ?_ ?_ (hm0 _ fv)
      · rw [hcl _ _ e1, iEQ_t rfl]
      · rw [hml _ _ e2, iEQ_t rfl, xf.1]
    · obtain ⟨S4, s4, X4, f4⟩ := c_take_f (E := E) (x := x) (n := n) h3 H Q3 (i := 0) (by omega) ht0 (d + 12)
      obtain ⟨R4, I4⟩ := hrr S4 M3 f1 (frW_tr fw (frW_I f4)) fv (X4.2.trans mx.2.symm)
      refine oT_ok (v := .int (-2)) (hmo R4 I4) ?_ ?_ (hm0 _ fv)
      · rw [hcl0 _ _ e1 s4, X4.1]
      · rw [hml _ _ e2, iEQ_t rfl, mx.1]
  · refine oT_ex (k := 0) (ex := 0) (v := .int (nI 0)) (RR_mo (RR_ro RGh RIh frm_rf (frU_sS frU_Z (by omega))) (by omega)) rfl ?_ ?_ sS_s
    · rw [eX10_run, QX10_run_0]
      simp (disch := omega) only [ble_t, Bool.and_self, gO_8 b0, gR_8_0 b0, gR_8_1 b0, gR_8_2 b0, gR_8_3 b0, gR_8_4 b0, gI_8_5 b0, gP_8_5 b0, gI_8_6 b0, gP_8_6 b0, cI_s, cL_s, cF_s, cD_s, cA_s, cV_s, nI_add, cond_true, cond_false, if_true, if_false]
      rw [c_len_f hc RIh.1 hl h]
      simp (disch := omega) only [cV_x, cI_s, cL_s, cF_s, cD_s, cA_s, cV_s, nI_add, cond_true, cond_false, if_true, if_false]
    · rw [eX11_run, QX11_run_0]
      simp (disch := omega) only [gO_9 hM0, gI_9_0 hM0, gP_9_0 hM0, gR_9_1 hM0, gR_9_2 hM0, gI_9_3 hM0, gP_9_3 hM0, gI_9_4 hM0, gP_9_4 hM0, gR_9_5 hM0, gR_9_6 hM0, gR_9_7 hM0, gI_9_8 hM0, gP_9_8 hM0, gI_9_9 hM0, gP_9_9 hM0, gI_9_10 hM0, gP_9_10 hM0, gI_9_11 hM0, gP_9_11 hM0, gI_9_12 hM0, gP_9_12 hM0, gI_9_13 hM0, gP_9_13 hM0, gI_9_14 hM0, gP_9_14 hM0, gI_9_15 hM0, gP_9_15 hM0, gI_9_16 hM0, gP_9_16 hM0, gR_9_17 hM0, gR_9_18 hM0, gR_9_19 hM0, gR_9_20 hM0, gI_9_21 hM0, gP_9_21 hM0, gI_9_22 hM0, gP_9_22 hM0, gI_9_23 hM0, gP_9_23 hM0, gI_9_24 hM0, gP_9_24 hM0, gR_9_25 hM0, gI_9_26 hM0, gP_9_26 hM0, gI_9_27 hM0, gP_9_27 hM0, gI_9_28 hM0, gP_9_28 hM0, gL_9_29 hM0, gP_9_29 hM0, gL_9_30 hM0, gP_9_30 hM0, cI_s, cL_s, cF_s, cD_s, cA_s, cV_s, nI_add, cond_true, cond_false, if_true, if_false]
      rw [m_starts_f RIh.2.1 hl h]
      simp (disch := omega) only [iEQ_t, cI_s, cL_s, cF_s, cD_s, cA_s, cV_s, nI_add, cond_true, cond_false, if_true, if_false]
end RU
