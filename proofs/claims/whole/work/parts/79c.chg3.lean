/-! CALLS THAT CHANGE: bets, scratches, blinks. -/
theorem lim9_le (z : Int) : lim9 z ≤ 9 := by
  unfold lim9
  split
  · split <;> omega
  · omega
theorem gOdds_le {g : Nat → Nat} {p : Nat} (h8 : g 0 ≤ 8) : gOdds g p ≤ 9 := by
  unfold gOdds
  split
  · omega
  · exact lim9_le _
theorem iG_cg {g g' : Nat → Nat} (I : iG g) (e : ∀ i, i < 45 → i ≠ 7 → i ≠ 8 → i ≠ 9 → i ≠ 10 → (i < 28 ∨ 36 ≤ i) → g' i = g i) (h7 : g' 7 ≤ 1000000) (h10 : g' 10 ≤ 8) (h28 : ∀ p, p < 8 → g' (28 + p) ≤ 1) : iG g' := by
  obtain ⟨⟨c0, c1, c2, c3, c4, c5, c6, c7, c8, c9⟩, hs, hs2, hinj, hr, hB, h0⟩ := I
  have e0 := e 0 (by omega) (by omega) (by omega) (by omega) (by omega) (by omega)
  have e1 := e 1 (by omega) (by omega) (by omega) (by omega) (by omega) (by omega)
  have e4 := e 4 (by omega) (by omega) (by omega) (by omega) (by omega) (by omega)
  have e5 := e 5 (by omega) (by omega) (by omega) (by omega) (by omega) (by omega)
  have e6 := e 6 (by omega) (by omega) (by omega) (by omega) (by omega) (by omega)
  have e12 : ∀ p, p < 8 → g' (12 + p) = g (12 + p) := fun p hp => e (12 + p) (by omega) (by omega) (by omega) (by omega) (by omega) (by omega)
  have e36 : ∀ p, p ≤ 8 → g' (36 + p) = g (36 + p) := fun p hp => e (36 + p) (by omega) (by omega) (by omega) (by omega) (by omega) (by omega)
  refine ⟨⟨by rw [e0]; exact c0, by rw [e0]; exact c1, by rw [e0, e1]; exact c2, by rw [e4]; exact c3, by rw [e4]; exact c4, by rw [e5]; exact c5, by rw [e5]; exact c6, by rw [e6]; exact c7, h7, h10⟩, fun p hp => by rw [e12 p hp]; exact hs p hp, fun p hp => ?_, fun p q hp hq h => ?_, h28, fun p hp => by rw [e36 p hp]; exact hB p hp, ?_⟩
  · rw [e0] at hp ⊢
    rw [e12 p (by omega)]; exact hs2 p hp
  · rw [e0] at hp hq
    rw [e12 p (by omega), e12 q (by omega)] at h
    exact hinj p q hp hq h
  · rw [e1, e36 (g 1) (by omega)]; exact h0
theorem pG_789 {S S' : xSt} {q : Nat} {h h' : Nat → Nat} (I : iG h) (P : pG S q h) (f : frm q (q + 1) S S') (e : ∀ i, i ≠ 7 → i ≠ 8 → i ≠ 9 → h' i = h i) (a4 : S'.1 q 4 = S.1 q 4) (a5 : S'.1 q 5 = S.1 q 5) (a6 : S'.1 q 6 = nI (h' 7)) (a7 : S'.1 q 7 = nI (h' 8)) (a8 : S'.1 q 8 = nI (h' 9)) : pG S' q h' := by
  obtain ⟨P1, P2, P3, P4, e1, e2, e3, e4, e5⟩ := P
  obtain ⟨m1, m2, m3, m4, m5⟩ := pMd_fr f (by omega) P2
  refine ⟨pRw_cg (e 0 (by omega) (by omega) (by omega)) (e 1 (by omega) (by omega) (by omega)) (fun i _ _ => e i (by omega) (by omega) (by omega)) I.2.1 I.1.2.1 (pRw_fr f (by omega) P1), ⟨?_, ?_, ?_, ?_, fun p hp => ?_⟩, pBk_cg (e 10 (by omega) (by omega) (by omega)) I.1.2.2.2.2.2.2.2.2.2 (fun i _ _ => e i (by omega) (by omega) (by omega)) (pBk_fr f (by omega) P3), pFo_cg (e 11 (by omega) (by omega) (by omega)) (fun i _ => e i (by omega) (by omega) (by omega)) (pFo_fr f (by omega) P4), ?_, ?_, a6, a7, a8⟩
  · rw [e 0 (by omega) (by omega) (by omega)]; exact m1
  · rw [e 4 (by omega) (by omega) (by omega)]; exact m2
  · rw [e 5 (by omega) (by omega) (by omega)]; exact m3
  · rw [e 6 (by omega) (by omega) (by omega)]; exact m4
  · rw [e 0 (by omega) (by omega) (by omega)] at hp
    rw [e (36 + p) (by omega) (by omega) (by omega)]; exact m5 p hp
  · rw [a4, e 2 (by omega) (by omega) (by omega)]; exact e1
  · rw [a5, e 3 (by omega) (by omega) (by omega)]; exact e2
def gBet (p st : Nat) (g : Nat → Nat) : Nat → Nat := if g 1 = p then updN (updN (gLook p g) 7 (if 1000000 < g 7 + st * gOdds g p then 1000000 else g 7 + st * gOdds g p)) 8 (g 8 + 1) else updN (updN (gLook p g) 7 (g 7 - st)) 9 (g 9 + 1)
theorem gBet_o {p st i : Nat} {g : Nat → Nat} (h7 : i ≠ 7) (h8 : i ≠ 8) (h9 : i ≠ 9) : gBet p st g i = gLook p g i := by
  unfold gBet
  split
  · rw [updN_n h8, updN_n h7]
  · rw [updN_n h9, updN_n h7]
section CH3
variable {E : xEn} {x y n m : Nat} {sh : Nat → Option xSh} {S M : xSt} {Bd : Nat}
theorem c_playBet {q : Nat} {g : Nat → Nat} (hG : hG sh q) (P : pG S q g) (I : iG g) (ht : iT g) (F : iFo g) {p st : Nat} (hp : p < g 0) (h1 : st ≤ 999) (hst : st ≤ g 7) (d : Nat) : ∃ S', xsem xT E (d + 5) kX2_playBet [.ref (x + q), .int (nI p), .int (nI st)] (wW E x sh S, n) = some (.inl (some (.int (nI (gBet p st g 7)))), (wW E x sh S', n)) ∧ frm q (q + 12) S S' ∧ pG S' q (gBet p st g) := by
  have b2 := hG.1
  have b9 : sh (q + 9) = some (sh1 (q + 9)) := hG.2.2.2.2.2.2.2.2.2.1
  have h8 := I.1.2.1
  have h7 := I.1.2.2.2.2.2.2.2.2.1
  have ho := gOdds_le (p := p) h8
  have hmul : st * gOdds g p ≤ 999 * 9 := Nat.mul_le_mul h1 ho
  obtain ⟨Rv, hv⟩ := s1_value (E := E) (x := x) (n := n) hG P I ht F hp (d + 1)
  have f1 : frm (q + 9 + 2) (q + 9 + 3) S (sA S (q + 9 + 2) Rv) := frm_sA (Nat.le_refl _) (by omega)
  have P1 : pG (sA S (q + 9 + 2) Rv) q g := pG_eq (fun j a b => f1.1 j (by omega)) P
  obtain ⟨S2, e1, f2, P2⟩ := s2_lookUnder (E := E) (x := x) (n := n) hG P1 I hp d
  obtain ⟨I2, _, _, _⟩ := look_ok I hp
  have g6 : S2.1 q 6 = nI (g 7) := by
    have := P2.2.2.2.2.2.2.1
    rw [gLook_n (by omega)] at this
    exact this
  have g7 : S2.1 q 7 = nI (g 8) := by
    have := P2.2.2.2.2.2.2.2.1
    rw [gLook_n (by omega)] at this
    exact this
  have g8 : S2.1 q 8 = nI (g 9) := by
    have := P2.2.2.2.2.2.2.2.2
    rw [gLook_n (by omega)] at this
    exact this
  have F12 : frm q (q + 12) S S2 := frm_tr (frm_mo f1 (by omega) (by omega)) (frm_mo f2 (by omega) (by omega))
  by_cases c : g 1 = p
  · have hb : gBet p st g = updN (updN (gLook p g) 7 (if 1000000 < g 7 + st * gOdds g p then 1000000 else g 7 + st * gOdds g p)) 8 (g 8 + 1) := if_pos c
    have fS : frm q (q + 1) S2 (sS (sS S2 q 6 (nI (if 1000000 < g 7 + st * gOdds g p then 1000000 else g 7 + st * gOdds g p))) q 7 (nI (g 8 + 1))) := frm_tr (frm_sS (by omega) (by omega)) (frm_sS (by omega) (by omega))
    refine ⟨_, ?_, frm_tr F12 (frm_mo fS (by omega) (by omega)), pG_789 I2 P2 fS (fun i a b c => gBet_o a b c) (by rw [sS_n (by omega), sS_n (by omega)]) (by rw [sS_n (by omega), sS_n (by omega)]) (by rw [sS_n (by omega), sS_s, hb, updN_n (by omega), updN_s]) (by rw [sS_s, hb, updN_s]) (by rw [sS_n (by omega), sS_n (by omega), hb, updN_n (by omega), updN_n (by omega), gLook_n (by omega)]; exact g8)⟩
    have hmn : mnI (nI (g 7 + st * gOdds g p)) (nI 1000000) = nI (if 1000000 < g 7 + st * gOdds g p then 1000000 else g 7 + st * gOdds g p) := mnI_n (by omega) (by omega)
    rw [eX2_playBet, QX2_playBet_0]
    simp (disch := omega) only [gO_2 b2, gR_2_0 b2, gR_2_1 b2, gR_2_2 b2, gR_2_3 b2, gI_2_4 b2, gP_2_4 b2, gI_2_5 b2, gP_2_5 b2, gI_2_6 b2, gP_2_6 b2, gI_2_7 b2, gP_2_7 b2, gI_2_8 b2, gP_2_8 b2, gO_1 b9, gR_1_0 b9, gI_1_1 b9, gP_1_1 b9, gR_1_2 b9, cI_s, cL_s, cF_s, cD_s, cA_s, cV_s, nI_add, cond_true, cond_false, if_true, if_false]
    rw [hv]
    simp (disch := omega) only [gO_2 b2, gR_2_0 b2, gR_2_1 b2, gR_2_2 b2, gR_2_3 b2, gI_2_4 b2, gP_2_4 b2, gI_2_5 b2, gP_2_5 b2, gI_2_6 b2, gP_2_6 b2, gI_2_7 b2, gP_2_7 b2, gI_2_8 b2, gP_2_8 b2, cI_s, cL_s, cF_s, cD_s, cA_s, cV_s, nI_add, cond_true, cond_false, if_true, if_false]
    rw [e1]
    simp (disch := omega) only [if_pos c, iEQ_f, gO_2 b2, gR_2_0 b2, gR_2_1 b2, gR_2_2 b2, gR_2_3 b2, gI_2_4 b2, gP_2_4 b2, gI_2_5 b2, gP_2_5 b2, gI_2_6 b2, gP_2_6 b2, gI_2_7 b2, gP_2_7 b2, gI_2_8 b2, gP_2_8 b2, g6, pk_mul, hmn, sS_n, g7, QX2_playBet_68, sS_s, cI_s, cL_s, cF_s, cD_s, cA_s, cV_s, nI_add, cond_true, cond_false, if_true, if_false]
    rw [hb, updN_n (by omega), updN_s]
  · have hb : gBet p st g = updN (updN (gLook p g) 7 (g 7 - st)) 9 (g 9 + 1) := if_neg c
    have fS : frm q (q + 1) S2 (sS (sS S2 q 6 (nI (g 7 - st))) q 8 (nI (g 9 + 1))) := frm_tr (frm_sS (by omega) (by omega)) (frm_sS (by omega) (by omega))
    refine ⟨_, ?_, frm_tr F12 (frm_mo fS (by omega) (by omega)), pG_789 I2 P2 fS (fun i a b c => gBet_o a b c) (by rw [sS_n (by omega), sS_n (by omega)]) (by rw [sS_n (by omega), sS_n (by omega)]) (by rw [sS_n (by omega), sS_s, hb, updN_n (by omega), updN_s]) (by rw [sS_n (by omega), sS_n (by omega), hb, updN_n (by omega), updN_n (by omega), gLook_n (by omega)]; exact g7) (by rw [sS_s, hb, updN_s])⟩
    rw [eX2_playBet, QX2_playBet_0]
    simp (disch := omega) only [gO_2 b2, gR_2_0 b2, gR_2_1 b2, gR_2_2 b2, gR_2_3 b2, gI_2_4 b2, gP_2_4 b2, gI_2_5 b2, gP_2_5 b2, gI_2_6 b2, gP_2_6 b2, gI_2_7 b2, gP_2_7 b2, gI_2_8 b2, gP_2_8 b2, gO_1 b9, gR_1_0 b9, gI_1_1 b9, gP_1_1 b9, gR_1_2 b9, cI_s, cL_s, cF_s, cD_s, cA_s, cV_s, nI_add, cond_true, cond_false, if_true, if_false]
    rw [hv]
    simp (disch := omega) only [gO_2 b2, gR_2_0 b2, gR_2_1 b2, gR_2_2 b2, gR_2_3 b2, gI_2_4 b2, gP_2_4 b2, gI_2_5 b2, gP_2_5 b2, gI_2_6 b2, gP_2_6 b2, gI_2_7 b2, gP_2_7 b2, gI_2_8 b2, gP_2_8 b2, cI_s, cL_s, cF_s, cD_s, cA_s, cV_s, nI_add, cond_true, cond_false, if_true, if_false]
    rw [e1]
    simp (disch := omega) only [if_neg c, iEQ_t, QX2_playBet_48, gO_2 b2, gR_2_0 b2, gR_2_1 b2, gR_2_2 b2, gR_2_3 b2, gI_2_4 b2, gP_2_4 b2, gI_2_5 b2, gP_2_5 b2, gI_2_6 b2, gP_2_6 b2, gI_2_7 b2, gP_2_7 b2, gI_2_8 b2, gP_2_8 b2, g6, pk_sub, sS_n, g8, QX2_playBet_68, sS_s, cI_s, cL_s, cF_s, cD_s, cA_s, cV_s, nI_add, cond_true, cond_false, if_true, if_false]
    rw [hb, updN_n (by omega), updN_s]
theorem g_bet {w : Nat} {g : Nat → Nat} (G : GM M w g) (I : iG g) (ht : iT g) (F : iFo g) {p st : Nat} (hp : p < g 0) (h1 : st ≤ 999) (hst : st ≤ g 7) (u : Nat) : ∃ M1 M', xsem xT E (u + 5) kX11_oddsOf [.ref y, .int (nI p)] (wW E y shM M, m) = some (.inl (some (.int (nI (gOdds g p)))), (wW E y shM M1, m)) ∧ M1.1 = M.1 ∧ M1.2.1 = M.2.1 ∧ frS w M M' ∧ GM M' w (gBet p st g) ∧
    (∃ M2, xsem xT E (u + 5) kX11_looks [.ref y, .int (nI p)] (wW E y shM M1, m) = some (.inl (some (.int (nI (if g 1 = p then 1 else 0)))), (wW E y shM M2, m)) ∧ (if g 1 = p then gO E (wW E y shM M2, m) 9 y (cI (xthr 1 some) (xsem xT E (u + 5) kX11_get [.ref y, .int (nI 7)] (wW E y shM M2, m)) (fun v3 σ4 => qX11_bet_111 E (u + 5) y (nI 1) y (nI 7) (mnI (nI 1000000) (v3 + (nI st * nI (gOdds g p)))) σ4)) else qX11_bet_103 E (u + 5) y (nI st) (nI 0) y (nI 7) (wW E y shM M2, m)) = some (.inl (some (.int (nI (gBet p st g 7)))), (wW E y shM M', m))) := by
  have h8 := I.1.2.1
  have h7 := I.1.2.2.2.2.2.2.2.2.1
  have ho := gOdds_le (p := p) h8
  have hmul : st * gOdds g p ≤ 999 * 9 := Nat.mul_le_mul h1 ho
  obtain ⟨M1, e1, G1, e2, e3⟩ := g_odds (E := E) (y := y) (m := m) G I ht F hp u
  obtain ⟨M2, f1, G2, fs2⟩ := g_looks (E := E) (y := y) (m := m) G1 I hp (u + 1)
  have fs1 : frS w M M1 := ⟨e2, fun j _ => by rw [e3], fun i _ => by rw [e3]⟩
  have l7 : gLook p g 7 = g 7 := gLook_n (by omega)
  have l8 : gLook p g 8 = g 8 := gLook_n (by omega)
  have l9 : gLook p g 9 = g 9 := gLook_n (by omega)
  by_cases c : g 1 = p
  · obtain ⟨M3, k1, G3, fs3⟩ := g_put (E := E) (y := y) (m := m) G2 (k := 7) (v := if 1000000 < g 7 + st * gOdds g p then 1000000 else g 7 + st * gOdds g p) (by omega) (u + 4)
    have hg8 : updN (gLook p g) 7 (if 1000000 < g 7 + st * gOdds g p then 1000000 else g 7 + st * gOdds g p) 8 = g 8 := by rw [updN_n (by omega), l8]
    obtain ⟨M4, k2, G4, fs4⟩ := g_put (E := E) (y := y) (m := m) G3 (k := 8) (v := g 8 + 1) (by omega) (u + 4)
    have hb : gBet p st g = updN (updN (gLook p g) 7 (if 1000000 < g 7 + st * gOdds g p then 1000000 else g 7 + st * gOdds g p)) 8 (g 8 + 1) := if_pos c
    rw [← hb] at G4
    have hmn : mnI (nI 1000000) (nI (g 7 + st * gOdds g p)) = nI (if 1000000 < g 7 + st * gOdds g p then 1000000 else g 7 + st * gOdds g p) := by
      rw [mnI_n (by omega) (by omega)]
      congr 1
      split <;> split <;> omega
    refine ⟨M1, M4, e1, e2, e3, frS_tr fs1 (frS_tr fs2 (frS_tr fs3 fs4)), G4, M2, f1, ?_⟩
    rw [if_pos c]
    simp (disch := omega) only [gO_9 hM0, gI_9_0 hM0, gP_9_0 hM0, gR_9_1 hM0, gR_9_2 hM0, gI_9_3 hM0, gP_9_3 hM0, gI_9_4 hM0, gP_9_4 hM0, gR_9_5 hM0, gR_9_6 hM0, gR_9_7 hM0, gI_9_8 hM0, gP_9_8 hM0, gI_9_9 hM0, gP_9_9 hM0, gI_9_10 hM0, gP_9_10 hM0, gI_9_11 hM0, gP_9_11 hM0, gI_9_12 hM0, gP_9_12 hM0, gI_9_13 hM0, gP_9_13 hM0, gI_9_14 hM0, gP_9_14 hM0, gI_9_15 hM0, gP_9_15 hM0, gI_9_16 hM0, gP_9_16 hM0, gR_9_17 hM0, gR_9_18 hM0, gR_9_19 hM0, gR_9_20 hM0, gI_9_21 hM0, gP_9_21 hM0, gI_9_22 hM0, gP_9_22 hM0, gI_9_23 hM0, gP_9_23 hM0, gI_9_24 hM0, gP_9_24 hM0, gR_9_25 hM0, gI_9_26 hM0, gP_9_26 hM0, gI_9_27 hM0, gP_9_27 hM0, gI_9_28 hM0, gP_9_28 hM0, gL_9_29 hM0, gP_9_29 hM0, gL_9_30 hM0, gP_9_30 hM0, cI_s, cL_s, cF_s, cD_s, cA_s, cV_s, nI_add, cond_true, cond_false, if_true, if_false]
    rw [g_get G2 (show 7 < 1100 by omega), l7]
    simp (disch := omega) only [pk_mul, hmn, QX11_bet_111, gO_9 hM0, gI_9_0 hM0, gP_9_0 hM0, gR_9_1 hM0, gR_9_2 hM0, gI_9_3 hM0, gP_9_3 hM0, gI_9_4 hM0, gP_9_4 hM0, gR_9_5 hM0, gR_9_6 hM0, gR_9_7 hM0, gI_9_8 hM0, gP_9_8 hM0, gI_9_9 hM0, gP_9_9 hM0, gI_9_10 hM0, gP_9_10 hM0, gI_9_11 hM0, gP_9_11 hM0, gI_9_12 hM0, gP_9_12 hM0, gI_9_13 hM0, gP_9_13 hM0, gI_9_14 hM0, gP_9_14 hM0, gI_9_15 hM0, gP_9_15 hM0, gI_9_16 hM0, gP_9_16 hM0, gR_9_17 hM0, gR_9_18 hM0, gR_9_19 hM0, gR_9_20 hM0, gI_9_21 hM0, gP_9_21 hM0, gI_9_22 hM0, gP_9_22 hM0, gI_9_23 hM0, gP_9_23 hM0, gI_9_24 hM0, gP_9_24 hM0, gR_9_25 hM0, gI_9_26 hM0, gP_9_26 hM0, gI_9_27 hM0, gP_9_27 hM0, gI_9_28 hM0, gP_9_28 hM0, gL_9_29 hM0, gP_9_29 hM0, gL_9_30 hM0, gP_9_30 hM0, cI_s, cL_s, cF_s, cD_s, cA_s, cV_s, nI_add, cond_true, cond_false, if_true, if_false]
    rw [k1]
    simp (disch := omega) only [iEQ_f, QX11_bet_126, gO_9 hM0, gI_9_0 hM0, gP_9_0 hM0, gR_9_1 hM0, gR_9_2 hM0, gI_9_3 hM0, gP_9_3 hM0, gI_9_4 hM0, gP_9_4 hM0, gR_9_5 hM0, gR_9_6 hM0, gR_9_7 hM0, gI_9_8 hM0, gP_9_8 hM0, gI_9_9 hM0, gP_9_9 hM0, gI_9_10 hM0, gP_9_10 hM0, gI_9_11 hM0, gP_9_11 hM0, gI_9_12 hM0, gP_9_12 hM0, gI_9_13 hM0, gP_9_13 hM0, gI_9_14 hM0, gP_9_14 hM0, gI_9_15 hM0, gP_9_15 hM0, gI_9_16 hM0, gP_9_16 hM0, gR_9_17 hM0, gR_9_18 hM0, gR_9_19 hM0, gR_9_20 hM0, gI_9_21 hM0, gP_9_21 hM0, gI_9_22 hM0, gP_9_22 hM0, gI_9_23 hM0, gP_9_23 hM0, gI_9_24 hM0, gP_9_24 hM0, gR_9_25 hM0, gI_9_26 hM0, gP_9_26 hM0, gI_9_27 hM0, gP_9_27 hM0, gI_9_28 hM0, gP_9_28 hM0, gL_9_29 hM0, gP_9_29 hM0, gL_9_30 hM0, gP_9_30 hM0, cI_s, cL_s, cF_s, cD_s, cA_s, cV_s, nI_add, cond_true, cond_false, if_true, if_false]
    rw [g_get G3 (show 8 < 1100 by omega), hg8]
    simp (disch := omega) only [gO_9 hM0, gI_9_0 hM0, gP_9_0 hM0, gR_9_1 hM0, gR_9_2 hM0, gI_9_3 hM0, gP_9_3 hM0, gI_9_4 hM0, gP_9_4 hM0, gR_9_5 hM0, gR_9_6 hM0, gR_9_7 hM0, gI_9_8 hM0, gP_9_8 hM0, gI_9_9 hM0, gP_9_9 hM0, gI_9_10 hM0, gP_9_10 hM0, gI_9_11 hM0, gP_9_11 hM0, gI_9_12 hM0, gP_9_12 hM0, gI_9_13 hM0, gP_9_13 hM0, gI_9_14 hM0, gP_9_14 hM0, gI_9_15 hM0, gP_9_15 hM0, gI_9_16 hM0, gP_9_16 hM0, gR_9_17 hM0, gR_9_18 hM0, gR_9_19 hM0, gR_9_20 hM0, gI_9_21 hM0, gP_9_21 hM0, gI_9_22 hM0, gP_9_22 hM0, gI_9_23 hM0, gP_9_23 hM0, gI_9_24 hM0, gP_9_24 hM0, gR_9_25 hM0, gI_9_26 hM0, gP_9_26 hM0, gI_9_27 hM0, gP_9_27 hM0, gI_9_28 hM0, gP_9_28 hM0, gL_9_29 hM0, gP_9_29 hM0, gL_9_30 hM0, gP_9_30 hM0, cI_s, cL_s, cF_s, cD_s, cA_s, cV_s, nI_add, cond_true, cond_false, if_true, if_false]
    rw [k2]
    simp (disch := omega) only [gO_9 hM0, gI_9_0 hM0, gP_9_0 hM0, gR_9_1 hM0, gR_9_2 hM0, gI_9_3 hM0, gP_9_3 hM0, gI_9_4 hM0, gP_9_4 hM0, gR_9_5 hM0, gR_9_6 hM0, gR_9_7 hM0, gI_9_8 hM0, gP_9_8 hM0, gI_9_9 hM0, gP_9_9 hM0, gI_9_10 hM0, gP_9_10 hM0, gI_9_11 hM0, gP_9_11 hM0, gI_9_12 hM0, gP_9_12 hM0, gI_9_13 hM0, gP_9_13 hM0, gI_9_14 hM0, gP_9_14 hM0, gI_9_15 hM0, gP_9_15 hM0, gI_9_16 hM0, gP_9_16 hM0, gR_9_17 hM0, gR_9_18 hM0, gR_9_19 hM0, gR_9_20 hM0, gI_9_21 hM0, gP_9_21 hM0, gI_9_22 hM0, gP_9_22 hM0, gI_9_23 hM0, gP_9_23 hM0, gI_9_24 hM0, gP_9_24 hM0, gR_9_25 hM0, gI_9_26 hM0, gP_9_26 hM0, gI_9_27 hM0, gP_9_27 hM0, gI_9_28 hM0, gP_9_28 hM0, gL_9_29 hM0, gP_9_29 hM0, gL_9_30 hM0, gP_9_30 hM0, cI_s, cL_s, cF_s, cD_s, cA_s, cV_s, nI_add, cond_true, cond_false, if_true, if_false]
    rw [g_get G4 (show 7 < 1100 by omega)]
    simp (disch := omega) only [cI_s, cL_s, cF_s, cD_s, cA_s, cV_s, nI_add, cond_true, cond_false, if_true, if_false]
  · obtain ⟨M3, k1, G3, fs3⟩ := g_put (E := E) (y := y) (m := m) G2 (k := 7) (v := g 7 - st) (by omega) (u + 4)
    have hg9 : updN (gLook p g) 7 (g 7 - st) 9 = g 9 := by rw [updN_n (by omega), l9]
    obtain ⟨M4, k2, G4, fs4⟩ := g_put (E := E) (y := y) (m := m) G3 (k := 9) (v := g 9 + 1) (by omega) (u + 4)
    have hb : gBet p st g = updN (updN (gLook p g) 7 (g 7 - st)) 9 (g 9 + 1) := if_neg c
    rw [← hb] at G4
    refine ⟨M1, M4, e1, e2, e3, frS_tr fs1 (frS_tr fs2 (frS_tr fs3 fs4)), G4, M2, f1, ?_⟩
    rw [if_neg c, QX11_bet_103]
    simp (disch := omega) only [gO_9 hM0, gI_9_0 hM0, gP_9_0 hM0, gR_9_1 hM0, gR_9_2 hM0, gI_9_3 hM0, gP_9_3 hM0, gI_9_4 hM0, gP_9_4 hM0, gR_9_5 hM0, gR_9_6 hM0, gR_9_7 hM0, gI_9_8 hM0, gP_9_8 hM0, gI_9_9 hM0, gP_9_9 hM0, gI_9_10 hM0, gP_9_10 hM0, gI_9_11 hM0, gP_9_11 hM0, gI_9_12 hM0, gP_9_12 hM0, gI_9_13 hM0, gP_9_13 hM0, gI_9_14 hM0, gP_9_14 hM0, gI_9_15 hM0, gP_9_15 hM0, gI_9_16 hM0, gP_9_16 hM0, gR_9_17 hM0, gR_9_18 hM0, gR_9_19 hM0, gR_9_20 hM0, gI_9_21 hM0, gP_9_21 hM0, gI_9_22 hM0, gP_9_22 hM0, gI_9_23 hM0, gP_9_23 hM0, gI_9_24 hM0, gP_9_24 hM0, gR_9_25 hM0, gI_9_26 hM0, gP_9_26 hM0, gI_9_27 hM0, gP_9_27 hM0, gI_9_28 hM0, gP_9_28 hM0, gL_9_29 hM0, gP_9_29 hM0, gL_9_30 hM0, gP_9_30 hM0, cI_s, cL_s, cF_s, cD_s, cA_s, cV_s, nI_add, cond_true, cond_false, if_true, if_false]
    rw [g_get G2 (show 7 < 1100 by omega), l7]
    simp (disch := omega) only [pk_sub, QX11_bet_111, gO_9 hM0, gI_9_0 hM0, gP_9_0 hM0, gR_9_1 hM0, gR_9_2 hM0, gI_9_3 hM0, gP_9_3 hM0, gI_9_4 hM0, gP_9_4 hM0, gR_9_5 hM0, gR_9_6 hM0, gR_9_7 hM0, gI_9_8 hM0, gP_9_8 hM0, gI_9_9 hM0, gP_9_9 hM0, gI_9_10 hM0, gP_9_10 hM0, gI_9_11 hM0, gP_9_11 hM0, gI_9_12 hM0, gP_9_12 hM0, gI_9_13 hM0, gP_9_13 hM0, gI_9_14 hM0, gP_9_14 hM0, gI_9_15 hM0, gP_9_15 hM0, gI_9_16 hM0, gP_9_16 hM0, gR_9_17 hM0, gR_9_18 hM0, gR_9_19 hM0, gR_9_20 hM0, gI_9_21 hM0, gP_9_21 hM0, gI_9_22 hM0, gP_9_22 hM0, gI_9_23 hM0, gP_9_23 hM0, gI_9_24 hM0, gP_9_24 hM0, gR_9_25 hM0, gI_9_26 hM0, gP_9_26 hM0, gI_9_27 hM0, gP_9_27 hM0, gI_9_28 hM0, gP_9_28 hM0, gL_9_29 hM0, gP_9_29 hM0, gL_9_30 hM0, gP_9_30 hM0, cI_s, cL_s, cF_s, cD_s, cA_s, cV_s, nI_add, cond_true, cond_false, if_true, if_false]
    rw [k1]
    simp (disch := omega) only [iEQ_t, QX11_bet_124, QX11_bet_126, gO_9 hM0, gI_9_0 hM0, gP_9_0 hM0, gR_9_1 hM0, gR_9_2 hM0, gI_9_3 hM0, gP_9_3 hM0, gI_9_4 hM0, gP_9_4 hM0, gR_9_5 hM0, gR_9_6 hM0, gR_9_7 hM0, gI_9_8 hM0, gP_9_8 hM0, gI_9_9 hM0, gP_9_9 hM0, gI_9_10 hM0, gP_9_10 hM0, gI_9_11 hM0, gP_9_11 hM0, gI_9_12 hM0, gP_9_12 hM0, gI_9_13 hM0, gP_9_13 hM0, gI_9_14 hM0, gP_9_14 hM0, gI_9_15 hM0, gP_9_15 hM0, gI_9_16 hM0, gP_9_16 hM0, gR_9_17 hM0, gR_9_18 hM0, gR_9_19 hM0, gR_9_20 hM0, gI_9_21 hM0, gP_9_21 hM0, gI_9_22 hM0, gP_9_22 hM0, gI_9_23 hM0, gP_9_23 hM0, gI_9_24 hM0, gP_9_24 hM0, gR_9_25 hM0, gI_9_26 hM0, gP_9_26 hM0, gI_9_27 hM0, gP_9_27 hM0, gI_9_28 hM0, gP_9_28 hM0, gL_9_29 hM0, gP_9_29 hM0, gL_9_30 hM0, gP_9_30 hM0, cI_s, cL_s, cF_s, cD_s, cA_s, cV_s, nI_add, cond_true, cond_false, if_true, if_false]
    rw [g_get G3 (show 9 < 1100 by omega), hg9]
    simp (disch := omega) only [gO_9 hM0, gI_9_0 hM0, gP_9_0 hM0, gR_9_1 hM0, gR_9_2 hM0, gI_9_3 hM0, gP_9_3 hM0, gI_9_4 hM0, gP_9_4 hM0, gR_9_5 hM0, gR_9_6 hM0, gR_9_7 hM0, gI_9_8 hM0, gP_9_8 hM0, gI_9_9 hM0, gP_9_9 hM0, gI_9_10 hM0, gP_9_10 hM0, gI_9_11 hM0, gP_9_11 hM0, gI_9_12 hM0, gP_9_12 hM0, gI_9_13 hM0, gP_9_13 hM0, gI_9_14 hM0, gP_9_14 hM0, gI_9_15 hM0, gP_9_15 hM0, gI_9_16 hM0, gP_9_16 hM0, gR_9_17 hM0, gR_9_18 hM0, gR_9_19 hM0, gR_9_20 hM0, gI_9_21 hM0, gP_9_21 hM0, gI_9_22 hM0, gP_9_22 hM0, gI_9_23 hM0, gP_9_23 hM0, gI_9_24 hM0, gP_9_24 hM0, gR_9_25 hM0, gI_9_26 hM0, gP_9_26 hM0, gI_9_27 hM0, gP_9_27 hM0, gI_9_28 hM0, gP_9_28 hM0, gL_9_29 hM0, gP_9_29 hM0, gL_9_30 hM0, gP_9_30 hM0, cI_s, cL_s, cF_s, cD_s, cA_s, cV_s, nI_add, cond_true, cond_false, if_true, if_false]
    rw [k2]
    simp (disch := omega) only [gO_9 hM0, gI_9_0 hM0, gP_9_0 hM0, gR_9_1 hM0, gR_9_2 hM0, gI_9_3 hM0, gP_9_3 hM0, gI_9_4 hM0, gP_9_4 hM0, gR_9_5 hM0, gR_9_6 hM0, gR_9_7 hM0, gI_9_8 hM0, gP_9_8 hM0, gI_9_9 hM0, gP_9_9 hM0, gI_9_10 hM0, gP_9_10 hM0, gI_9_11 hM0, gP_9_11 hM0, gI_9_12 hM0, gP_9_12 hM0, gI_9_13 hM0, gP_9_13 hM0, gI_9_14 hM0, gP_9_14 hM0, gI_9_15 hM0, gP_9_15 hM0, gI_9_16 hM0, gP_9_16 hM0, gR_9_17 hM0, gR_9_18 hM0, gR_9_19 hM0, gR_9_20 hM0, gI_9_21 hM0, gP_9_21 hM0, gI_9_22 hM0, gP_9_22 hM0, gI_9_23 hM0, gP_9_23 hM0, gI_9_24 hM0, gP_9_24 hM0, gR_9_25 hM0, gI_9_26 hM0, gP_9_26 hM0, gI_9_27 hM0, gP_9_27 hM0, gI_9_28 hM0, gP_9_28 hM0, gL_9_29 hM0, gP_9_29 hM0, gL_9_30 hM0, gP_9_30 hM0, cI_s, cL_s, cF_s, cD_s, cA_s, cV_s, nI_add, cond_true, cond_false, if_true, if_false]
    rw [g_get G4 (show 7 < 1100 by omega)]
    simp (disch := omega) only [cI_s, cL_s, cF_s, cD_s, cA_s, cV_s, nI_add, cond_true, cond_false, if_true, if_false]
theorem T_bet (hc : hC sh) (R : RR S M Bd) (hBd : Bd < 2 ^ 31) (a b : Int32) (d u : Nat) : oT E x y n m sh [1, 0, 2] (Bd + 1) 0 (xsem xT E (d + 6) kX10_bet [.ref x, .int a, .int b] (wW E x sh S, n)) (xsem xT E (u + 6) kX11_bet [.ref y, .int a, .int b] (wW E y shM M, m)) := by
  obtain ⟨gs, w, un, tx, len, RGh, RIh⟩ := R
  obtain ⟨c5, c6, c3, c4, hw, hun⟩ := RGh.1
  obtain ⟨P, G, I, F, t2, t3⟩ := RGh.2 0 (Nat.zero_le _)
  rw [ix_0 hw] at P G
  have hw' : (w + 1) % 9 < 9 := Nat.mod_lt _ (by omega)
  have b0 := hc.1
  have hG := hc.2.2.2.2.2.2 w hw
  have hG' := hc.2.2.2.2.2.2 _ hw'
  have b2 := hG.1
  have b2' := hG'.1
  have h2 := I.1.1
  have h8 := I.1.2.1
  have hgm := fun d => c_game (E := E) (x := x) (n := n) hc c5 hw d
  have GZ := GM_Z c3 hw G
  have ht : iT (gs 0) := ⟨by omega, by omega⟩
  rcases i32_c a (b := gs 0 0) (by omega) with ⟨p, hp, rfl⟩ | h
  · have hcl : ∀ b : Int32, xsem xT E (d + 6) kX10_bet [.ref x, .int (nI p), .int b] (wW E x sh S, n) = if b < nI 1 then qX10_bet_17 E (d + 5) (0 + 1) (0 + 6) (wW E x sh S, n) else if b ≤ nI 999 then qX10_bet_27 E (d + 5) (0 + 1) (0 + 6) x (nI p) b (wW E x sh S, n) else qX10_bet_17 E (d + 5) (0 + 1) (0 + 6) (wW E x sh S, n) := by
      intro b
      rw [eX10_bet, QX10_bet_0]
      simp (disch := omega) only [ble_t, Bool.and_self, gO_8 b0, gR_8_0 b0, gR_8_1 b0, gR_8_2 b0, gR_8_3 b0, gR_8_4 b0, gI_8_5 b0, gP_8_5 b0, gI_8_6 b0, gP_8_6 b0, cI_s, cL_s, cF_s, cD_s, cA_s, cV_s, nI_add, cond_true, cond_false, if_true, if_false]
      rw [c_place_t hc c5 hw P I hp]
      simp (disch := omega) only [cI_s, cL_s, cF_s, cD_s, cA_s, cV_s, nI_add, cond_true, cond_false, if_true, if_false]
    have hml : ∀ b : Int32, xsem xT E (u + 6) kX11_bet [.ref y, .int (nI p), .int b] (wW E y shM M, m) = gO E (wW E y shM (mZ M), m) 9 y (cI (xthr 1 some) (xsem xT E (u + 5) kX11_right [.ref y, .int (nI (if nI 1 ≤ b ∧ b ≤ nI 999 then 1 else 0)), .int (nI 2)] (wW E y shM (mZ M), m)) (fun v4 σ5 => if v4 = nI 0 then qX11_bet_57 E (u + 5) σ5 else gO E σ5 9 y (cI (xthr 1 some) (xsem xT E (u + 5) kX11_get [.ref y, .int (nI 7)] σ5) (fun v5 σ6 => if v5 < b then qX11_bet_49 E (u + 5) y (nI p) b y σ6 else qX11_bet_50 E (u + 5) y (nI p) b y (nI 1) σ6)))) := by
      intro b
      rw [eX11_bet, QX11_bet_0]
      simp (disch := omega) only [gO_9 hM0, gI_9_0 hM0, gP_9_0 hM0, gR_9_1 hM0, gR_9_2 hM0, gI_9_3 hM0, gP_9_3 hM0, gI_9_4 hM0, gP_9_4 hM0, gR_9_5 hM0, gR_9_6 hM0, gR_9_7 hM0, gI_9_8 hM0, gP_9_8 hM0, gI_9_9 hM0, gP_9_9 hM0, gI_9_10 hM0, gP_9_10 hM0, gI_9_11 hM0, gP_9_11 hM0, gI_9_12 hM0, gP_9_12 hM0, gI_9_13 hM0, gP_9_13 hM0, gI_9_14 hM0, gP_9_14 hM0, gI_9_15 hM0, gP_9_15 hM0, gI_9_16 hM0, gP_9_16 hM0, gR_9_17 hM0, gR_9_18 hM0, gR_9_19 hM0, gR_9_20 hM0, gI_9_21 hM0, gP_9_21 hM0, gI_9_22 hM0, gP_9_22 hM0, gI_9_23 hM0, gP_9_23 hM0, gI_9_24 hM0, gP_9_24 hM0, gR_9_25 hM0, gI_9_26 hM0, gP_9_26 hM0, gI_9_27 hM0, gP_9_27 hM0, gI_9_28 hM0, gP_9_28 hM0, gL_9_29 hM0, gP_9_29 hM0, gL_9_30 hM0, gP_9_30 hM0, cI_s, cL_s, cF_s, cD_s, cA_s, cV_s, nI_add, cond_true, cond_false, if_true, if_false]
      rw [show sS M 0 0 (nI 0) = mZ M from rfl, g_isPlaceT GZ I hp]
      simp (disch := omega) only [gO_9 hM0, gI_9_0 hM0, gP_9_0 hM0, gR_9_1 hM0, gR_9_2 hM0, gI_9_3 hM0, gP_9_3 hM0, gI_9_4 hM0, gP_9_4 hM0, gR_9_5 hM0, gR_9_6 hM0, gR_9_7 hM0, gI_9_8 hM0, gP_9_8 hM0, gI_9_9 hM0, gP_9_9 hM0, gI_9_10 hM0, gP_9_10 hM0, gI_9_11 hM0, gP_9_11 hM0, gI_9_12 hM0, gP_9_12 hM0, gI_9_13 hM0, gP_9_13 hM0, gI_9_14 hM0, gP_9_14 hM0, gI_9_15 hM0, gP_9_15 hM0, gI_9_16 hM0, gP_9_16 hM0, gR_9_17 hM0, gR_9_18 hM0, gR_9_19 hM0, gR_9_20 hM0, gI_9_21 hM0, gP_9_21 hM0, gI_9_22 hM0, gP_9_22 hM0, gI_9_23 hM0, gP_9_23 hM0, gI_9_24 hM0, gP_9_24 hM0, gR_9_25 hM0, gI_9_26 hM0, gP_9_26 hM0, gI_9_27 hM0, gP_9_27 hM0, gI_9_28 hM0, gP_9_28 hM0, gL_9_29 hM0, gP_9_29 hM0, gL_9_30 hM0, gP_9_30 hM0, cI_s, cL_s, cF_s, cD_s, cA_s, cV_s, nI_add, cond_true, cond_false, if_true, if_false]
      rw [m_right1 mZ_0]
      simp (disch := omega) only [iEQ_f, m_isIn, gO_9 hM0, gI_9_0 hM0, gP_9_0 hM0, gR_9_1 hM0, gR_9_2 hM0, gI_9_3 hM0, gP_9_3 hM0, gI_9_4 hM0, gP_9_4 hM0, gR_9_5 hM0, gR_9_6 hM0, gR_9_7 hM0, gI_9_8 hM0, gP_9_8 hM0, gI_9_9 hM0, gP_9_9 hM0, gI_9_10 hM0, gP_9_10 hM0, gI_9_11 hM0, gP_9_11 hM0, gI_9_12 hM0, gP_9_12 hM0, gI_9_13 hM0, gP_9_13 hM0, gI_9_14 hM0, gP_9_14 hM0, gI_9_15 hM0, gP_9_15 hM0, gI_9_16 hM0, gP_9_16 hM0, gR_9_17 hM0, gR_9_18 hM0, gR_9_19 hM0, gR_9_20 hM0, gI_9_21 hM0, gP_9_21 hM0, gI_9_22 hM0, gP_9_22 hM0, gI_9_23 hM0, gP_9_23 hM0, gI_9_24 hM0, gP_9_24 hM0, gR_9_25 hM0, gI_9_26 hM0, gP_9_26 hM0, gI_9_27 hM0, gP_9_27 hM0, gI_9_28 hM0, gP_9_28 hM0, gL_9_29 hM0, gP_9_29 hM0, gL_9_30 hM0, gP_9_30 hM0, cI_s, cL_s, cF_s, cD_s, cA_s, cV_s, nI_add, cond_true, cond_false, if_true, if_false]
    have hbad : ∀ b : Int32, ¬ (nI 1 ≤ b ∧ b ≤ nI 999) → oT E x y n m sh [1, 0, 2] (Bd + 1) 0 (xsem xT E (d + 6) kX10_bet [.ref x, .int (nI p), .int b] (wW E x sh S, n)) (xsem xT E (u + 6) kX11_bet [.ref y, .int (nI p), .int b] (wW E y shM M, m)) := by
      intro b hb
      refine oT_ex (k := 1) (ex := 0) (v := .int (nI 0)) (RR_mo (RR_ro RGh RIh frm_rf (frU_sS frU_Z (by omega))) (by omega)) rfl ?_ ?_ sS_s
      · have h17 : qX10_bet_17 E (d + 5) (0 + 1) (0 + 6) (wW E x sh S, n) = some (.inr (xexc 0), (wW E x sh S, n)) := by
          rw [QX10_bet_17]
          simp (disch := omega) only [ble_t, Bool.and_self, cI_s, cL_s, cF_s, cD_s, cA_s, cV_s, nI_add, cond_true, cond_false, if_true, if_false]
        rw [hcl]
        by_cases z : b < nI 1
        · rw [if_pos z, h17]
        · rw [if_neg z, if_neg (fun z2 => hb ⟨Int32.not_lt.1 z, z2⟩), h17]
      · rw [hml, if_neg hb]
        simp (disch := omega) only [gO_9 hM0, gI_9_0 hM0, gP_9_0 hM0, gR_9_1 hM0, gR_9_2 hM0, gI_9_3 hM0, gP_9_3 hM0, gI_9_4 hM0, gP_9_4 hM0, gR_9_5 hM0, gR_9_6 hM0, gR_9_7 hM0, gI_9_8 hM0, gP_9_8 hM0, gI_9_9 hM0, gP_9_9 hM0, gI_9_10 hM0, gP_9_10 hM0, gI_9_11 hM0, gP_9_11 hM0, gI_9_12 hM0, gP_9_12 hM0, gI_9_13 hM0, gP_9_13 hM0, gI_9_14 hM0, gP_9_14 hM0, gI_9_15 hM0, gP_9_15 hM0, gI_9_16 hM0, gP_9_16 hM0, gR_9_17 hM0, gR_9_18 hM0, gR_9_19 hM0, gR_9_20 hM0, gI_9_21 hM0, gP_9_21 hM0, gI_9_22 hM0, gP_9_22 hM0, gI_9_23 hM0, gP_9_23 hM0, gI_9_24 hM0, gP_9_24 hM0, gR_9_25 hM0, gI_9_26 hM0, gP_9_26 hM0, gI_9_27 hM0, gP_9_27 hM0, gI_9_28 hM0, gP_9_28 hM0, gL_9_29 hM0, gP_9_29 hM0, gL_9_30 hM0, gP_9_30 hM0, cI_s, cL_s, cF_s, cD_s, cA_s, cV_s, nI_add, cond_true, cond_false, if_true, if_false]
        rw [m_right0 mZ_0 (by omega) (by omega)]
        simp (disch := omega) only [iEQ_t, QX11_bet_57, cI_s, cL_s, cF_s, cD_s, cA_s, cV_s, nI_add, cond_true, cond_false, if_true, if_false]
    rcases i32_c b (b := 1000) (by omega) with ⟨st, hst, rfl⟩ | h'
    · by_cases h1 : 1 ≤ st
      · have hin : nI 1 ≤ nI st ∧ nI st ≤ nI 999 := ⟨nI_le h1 (by omega), nI_le (by omega) (by omega)⟩
        have pu : S.1 (27 + 12 * w) 6 = nI (gs 0 7) := P.2.2.2.2.2.2.1
        have h7 := I.1.2.2.2.2.2.2.2.2.1
        have hc27 : xsem xT E (d + 6) kX10_bet [.ref x, .int (nI p), .int (nI st)] (wW E x sh S, n) = qX10_bet_27 E (d + 5) (0 + 1) (0 + 6) x (nI p) (nI st) (wW E x sh S, n) := by
          rw [hcl, iLT_f h1 (by omega), iLE_t (by omega) (by omega)]
        have hm50 : xsem xT E (u + 6) kX11_bet [.ref y, .int (nI p), .int (nI st)] (wW E y shM M, m) = if nI (gs 0 7) < nI st then qX11_bet_49 E (u + 5) y (nI p) (nI st) y (wW E y shM (mZ M), m) else qX11_bet_50 E (u + 5) y (nI p) (nI st) y (nI 1) (wW E y shM (mZ M), m) := by
          rw [hml, if_pos hin]
          simp (disch := omega) only [gO_9 hM0, gI_9_0 hM0, gP_9_0 hM0, gR_9_1 hM0, gR_9_2 hM0, gI_9_3 hM0, gP_9_3 hM0, gI_9_4 hM0, gP_9_4 hM0, gR_9_5 hM0, gR_9_6 hM0, gR_9_7 hM0, gI_9_8 hM0, gP_9_8 hM0, gI_9_9 hM0, gP_9_9 hM0, gI_9_10 hM0, gP_9_10 hM0, gI_9_11 hM0, gP_9_11 hM0, gI_9_12 hM0, gP_9_12 hM0, gI_9_13 hM0, gP_9_13 hM0, gI_9_14 hM0, gP_9_14 hM0, gI_9_15 hM0, gP_9_15 hM0, gI_9_16 hM0, gP_9_16 hM0, gR_9_17 hM0, gR_9_18 hM0, gR_9_19 hM0, gR_9_20 hM0, gI_9_21 hM0, gP_9_21 hM0, gI_9_22 hM0, gP_9_22 hM0, gI_9_23 hM0, gP_9_23 hM0, gI_9_24 hM0, gP_9_24 hM0, gR_9_25 hM0, gI_9_26 hM0, gP_9_26 hM0, gI_9_27 hM0, gP_9_27 hM0, gI_9_28 hM0, gP_9_28 hM0, gL_9_29 hM0, gP_9_29 hM0, gL_9_30 hM0, gP_9_30 hM0, cI_s, cL_s, cF_s, cD_s, cA_s, cV_s, nI_add, cond_true, cond_false, if_true, if_false]
          rw [m_right1 mZ_0]
          simp (disch := omega) only [iEQ_f, gO_9 hM0, gI_9_0 hM0, gP_9_0 hM0, gR_9_1 hM0, gR_9_2 hM0, gI_9_3 hM0, gP_9_3 hM0, gI_9_4 hM0, gP_9_4 hM0, gR_9_5 hM0, gR_9_6 hM0, gR_9_7 hM0, gI_9_8 hM0, gP_9_8 hM0, gI_9_9 hM0, gP_9_9 hM0, gI_9_10 hM0, gP_9_10 hM0, gI_9_11 hM0, gP_9_11 hM0, gI_9_12 hM0, gP_9_12 hM0, gI_9_13 hM0, gP_9_13 hM0, gI_9_14 hM0, gP_9_14 hM0, gI_9_15 hM0, gP_9_15 hM0, gI_9_16 hM0, gP_9_16 hM0, gR_9_17 hM0, gR_9_18 hM0, gR_9_19 hM0, gR_9_20 hM0, gI_9_21 hM0, gP_9_21 hM0, gI_9_22 hM0, gP_9_22 hM0, gI_9_23 hM0, gP_9_23 hM0, gI_9_24 hM0, gP_9_24 hM0, gR_9_25 hM0, gI_9_26 hM0, gP_9_26 hM0, gI_9_27 hM0, gP_9_27 hM0, gI_9_28 hM0, gP_9_28 hM0, gL_9_29 hM0, gP_9_29 hM0, gL_9_30 hM0, gP_9_30 hM0, cI_s, cL_s, cF_s, cD_s, cA_s, cV_s, nI_add, cond_true, cond_false, if_true, if_false]
          rw [g_get GZ (show 7 < 1100 by omega)]
          simp (disch := omega) only [cI_s, cL_s, cF_s, cD_s, cA_s, cV_s, nI_add, cond_true, cond_false, if_true, if_false]
        by_cases hps : st ≤ gs 0 7
        · obtain ⟨S1, M1, a1, a2, a3, a4, a5, a6, e1, e2, e3, e4, e5, e6, e7⟩ := j_change (E := E) (x := x) (y := y) (n := n) (m := m) hc RGh (d + 2) (u + 3)
          obtain ⟨S2, f1, f2, f3⟩ := c_playBet (E := E) (x := x) (n := n) hG' a4 I ht F hp (by omega) hps d
          obtain ⟨M2, M4, g1, g2, g3, g4, g5, M3, g6, g7⟩ := g_bet (E := E) (y := y) (m := m) e2 I ht F hp (show st ≤ 999 by omega) hps u
          obtain ⟨o1, o2, o3, o4⟩ := look_ok I hp
          have I' : iG (gBet p st (gs 0)) := iG_cg o1 (fun i _ b c e _ _ => gBet_o b c e) (by
            unfold gBet
            split
            · rw [updN_n (by omega), updN_s]; split <;> omega
            · rw [updN_n (by omega), updN_s]; omega) (by rw [gBet_o (by omega) (by omega) (by omega)]; exact o1.1.2.2.2.2.2.2.2.2.2) (fun q hq => by rw [gBet_o (by omega) (by omega) (by omega)]; exact o1.2.2.2.2.1 q hq)
          have F' : iFo (gBet p st (gs 0)) := iFo_cg (gBet_o (by omega) (by omega) (by omega)) (fun i hi => gBet_o (by omega) (by omega) (by omega)) (o2 F)
          refine oT_ok (RR_st RGh RIh (by omega) a2 a3 a5 e3 e4 e6 e7 f2 f3 g5 g4 I' F' (by rw [gBet_o (by omega) (by omega) (by omega)]; omega) (by rw [gBet_o (by omega) (by omega) (by omega)]; omega)) (v := .int (nI (gBet p st (gs 0) 7))) ?_ ?_ (by rw [g4.1]; exact e5)
          · rw [hc27, QX10_bet_27]
            simp (disch := omega) only [ble_t, Bool.and_self, gO_8 b0, gR_8_0 b0, gR_8_1 b0, gR_8_2 b0, gR_8_3 b0, gR_8_4 b0, gI_8_5 b0, gP_8_5 b0, gI_8_6 b0, gP_8_6 b0, hgm, gO_2 b2, gR_2_0 b2, gR_2_1 b2, gR_2_2 b2, gR_2_3 b2, gI_2_4 b2, gP_2_4 b2, gI_2_5 b2, gP_2_5 b2, gI_2_6 b2, gP_2_6 b2, gI_2_7 b2, gP_2_7 b2, gI_2_8 b2, gP_2_8 b2, pu, iLE_t hps, QX10_bet_48, cI_s, cL_s, cF_s, cD_s, cA_s, cV_s, nI_add, cond_true, cond_false, if_true, if_false]
            rw [a1]
            simp (disch := omega) only [ble_t, Bool.and_self, gO_2 b2', gR_2_0 b2', gR_2_1 b2', gR_2_2 b2', gR_2_3 b2', gI_2_4 b2', gP_2_4 b2', gI_2_5 b2', gP_2_5 b2', gI_2_6 b2', gP_2_6 b2', gI_2_7 b2', gP_2_7 b2', gI_2_8 b2', gP_2_8 b2', cI_s, cL_s, cF_s, cD_s, cA_s, cV_s, nI_add, cond_true, cond_false, if_true, if_false]
            rw [f1]
            simp (disch := omega) only [cI_s, cL_s, cF_s, cD_s, cA_s, cV_s, nI_add, cond_true, cond_false, if_true, if_false]
          · rw [hm50, iLT_f hps (by omega), QX11_bet_50]
            simp (disch := omega) only [gO_9 hM0, gI_9_0 hM0, gP_9_0 hM0, gR_9_1 hM0, gR_9_2 hM0, gI_9_3 hM0, gP_9_3 hM0, gI_9_4 hM0, gP_9_4 hM0, gR_9_5 hM0, gR_9_6 hM0, gR_9_7 hM0, gI_9_8 hM0, gP_9_8 hM0, gI_9_9 hM0, gP_9_9 hM0, gI_9_10 hM0, gP_9_10 hM0, gI_9_11 hM0, gP_9_11 hM0, gI_9_12 hM0, gP_9_12 hM0, gI_9_13 hM0, gP_9_13 hM0, gI_9_14 hM0, gP_9_14 hM0, gI_9_15 hM0, gP_9_15 hM0, gI_9_16 hM0, gP_9_16 hM0, gR_9_17 hM0, gR_9_18 hM0, gR_9_19 hM0, gR_9_20 hM0, gI_9_21 hM0, gP_9_21 hM0, gI_9_22 hM0, gP_9_22 hM0, gI_9_23 hM0, gP_9_23 hM0, gI_9_24 hM0, gP_9_24 hM0, gR_9_25 hM0, gI_9_26 hM0, gP_9_26 hM0, gI_9_27 hM0, gP_9_27 hM0, gI_9_28 hM0, gP_9_28 hM0, gL_9_29 hM0, gP_9_29 hM0, gL_9_30 hM0, gP_9_30 hM0, cI_s, cL_s, cF_s, cD_s, cA_s, cV_s, nI_add, cond_true, cond_false, if_true, if_false]
            rw [m_right1 mZ_0]
            simp (disch := omega) only [iEQ_f, QX11_bet_59, gO_9 hM0, gI_9_0 hM0, gP_9_0 hM0, gR_9_1 hM0, gR_9_2 hM0, gI_9_3 hM0, gP_9_3 hM0, gI_9_4 hM0, gP_9_4 hM0, gR_9_5 hM0, gR_9_6 hM0, gR_9_7 hM0, gI_9_8 hM0, gP_9_8 hM0, gI_9_9 hM0, gP_9_9 hM0, gI_9_10 hM0, gP_9_10 hM0, gI_9_11 hM0, gP_9_11 hM0, gI_9_12 hM0, gP_9_12 hM0, gI_9_13 hM0, gP_9_13 hM0, gI_9_14 hM0, gP_9_14 hM0, gI_9_15 hM0, gP_9_15 hM0, gI_9_16 hM0, gP_9_16 hM0, gR_9_17 hM0, gR_9_18 hM0, gR_9_19 hM0, gR_9_20 hM0, gI_9_21 hM0, gP_9_21 hM0, gI_9_22 hM0, gP_9_22 hM0, gI_9_23 hM0, gP_9_23 hM0, gI_9_24 hM0, gP_9_24 hM0, gR_9_25 hM0, gI_9_26 hM0, gP_9_26 hM0, gI_9_27 hM0, gP_9_27 hM0, gI_9_28 hM0, gP_9_28 hM0, gL_9_29 hM0, gP_9_29 hM0, gL_9_30 hM0, gP_9_30 hM0, cI_s, cL_s, cF_s, cD_s, cA_s, cV_s, nI_add, cond_true, cond_false, if_true, if_false]
            rw [e1]
            simp (disch := omega) only [gO_9 hM0, gI_9_0 hM0, gP_9_0 hM0, gR_9_1 hM0, gR_9_2 hM0, gI_9_3 hM0, gP_9_3 hM0, gI_9_4 hM0, gP_9_4 hM0, gR_9_5 hM0, gR_9_6 hM0, gR_9_7 hM0, gI_9_8 hM0, gP_9_8 hM0, gI_9_9 hM0, gP_9_9 hM0, gI_9_10 hM0, gP_9_10 hM0, gI_9_11 hM0, gP_9_11 hM0, gI_9_12 hM0, gP_9_12 hM0, gI_9_13 hM0, gP_9_13 hM0, gI_9_14 hM0, gP_9_14 hM0, gI_9_15 hM0, gP_9_15 hM0, gI_9_16 hM0, gP_9_16 hM0, gR_9_17 hM0, gR_9_18 hM0, gR_9_19 hM0, gR_9_20 hM0, gI_9_21 hM0, gP_9_21 hM0, gI_9_22 hM0, gP_9_22 hM0, gI_9_23 hM0, gP_9_23 hM0, gI_9_24 hM0, gP_9_24 hM0, gR_9_25 hM0, gI_9_26 hM0, gP_9_26 hM0, gI_9_27 hM0, gP_9_27 hM0, gI_9_28 hM0, gP_9_28 hM0, gL_9_29 hM0, gP_9_29 hM0, gL_9_30 hM0, gP_9_30 hM0, cI_s, cL_s, cF_s, cD_s, cA_s, cV_s, nI_add, cond_true, cond_false, if_true, if_false]
            rw [g1]
            simp (disch := omega) only [gO_9 hM0, gI_9_0 hM0, gP_9_0 hM0, gR_9_1 hM0, gR_9_2 hM0, gI_9_3 hM0, gP_9_3 hM0, gI_9_4 hM0, gP_9_4 hM0, gR_9_5 hM0, gR_9_6 hM0, gR_9_7 hM0, gI_9_8 hM0, gP_9_8 hM0, gI_9_9 hM0, gP_9_9 hM0, gI_9_10 hM0, gP_9_10 hM0, gI_9_11 hM0, gP_9_11 hM0, gI_9_12 hM0, gP_9_12 hM0, gI_9_13 hM0, gP_9_13 hM0, gI_9_14 hM0, gP_9_14 hM0, gI_9_15 hM0, gP_9_15 hM0, gI_9_16 hM0, gP_9_16 hM0, gR_9_17 hM0, gR_9_18 hM0, gR_9_19 hM0, gR_9_20 hM0, gI_9_21 hM0, gP_9_21 hM0, gI_9_22 hM0, gP_9_22 hM0, gI_9_23 hM0, gP_9_23 hM0, gI_9_24 hM0, gP_9_24 hM0, gR_9_25 hM0, gI_9_26 hM0, gP_9_26 hM0, gI_9_27 hM0, gP_9_27 hM0, gI_9_28 hM0, gP_9_28 hM0, gL_9_29 hM0, gP_9_29 hM0, gL_9_30 hM0, gP_9_30 hM0, cI_s, cL_s, cF_s, cD_s, cA_s, cV_s, nI_add, cond_true, cond_false, if_true, if_false]
            rw [g6]
            simp (disch := omega) only [cI_s, cL_s, cF_s, cD_s, cA_s, cV_s, nI_add, cond_true, cond_false, if_true, if_false]
            rw [← g7]
            by_cases c : gs 0 1 = p
            · simp (disch := omega) only [if_pos c, iEQ_f, cI_s, cL_s, cF_s, cD_s, cA_s, cV_s, nI_add, cond_true, cond_false, if_true, if_false]
            · simp (disch := omega) only [if_neg c, iEQ_t, gO_9 hM0, gI_9_0 hM0, gP_9_0 hM0, gR_9_1 hM0, gR_9_2 hM0, gI_9_3 hM0, gP_9_3 hM0, gI_9_4 hM0, gP_9_4 hM0, gR_9_5 hM0, gR_9_6 hM0, gR_9_7 hM0, gI_9_8 hM0, gP_9_8 hM0, gI_9_9 hM0, gP_9_9 hM0, gI_9_10 hM0, gP_9_10 hM0, gI_9_11 hM0, gP_9_11 hM0, gI_9_12 hM0, gP_9_12 hM0, gI_9_13 hM0, gP_9_13 hM0, gI_9_14 hM0, gP_9_14 hM0, gI_9_15 hM0, gP_9_15 hM0, gI_9_16 hM0, gP_9_16 hM0, gR_9_17 hM0, gR_9_18 hM0, gR_9_19 hM0, gR_9_20 hM0, gI_9_21 hM0, gP_9_21 hM0, gI_9_22 hM0, gP_9_22 hM0, gI_9_23 hM0, gP_9_23 hM0, gI_9_24 hM0, gP_9_24 hM0, gR_9_25 hM0, gI_9_26 hM0, gP_9_26 hM0, gI_9_27 hM0, gP_9_27 hM0, gI_9_28 hM0, gP_9_28 hM0, gL_9_29 hM0, gP_9_29 hM0, gL_9_30 hM0, gP_9_30 hM0, cI_s, cL_s, cF_s, cD_s, cA_s, cV_s, nI_add, cond_true, cond_false, if_true, if_false]
        · refine oT_ex (k := 2) (ex := 2) (v := .int (nI 0)) (RR_mo (RR_ro RGh RIh frm_rf (frU_sS frU_Z (by omega))) (by omega)) rfl ?_ ?_ sS_s
          · rw [hc27, QX10_bet_27]
            simp (disch := omega) only [ble_t, Bool.and_self, gO_8 b0, gR_8_0 b0, gR_8_1 b0, gR_8_2 b0, gR_8_3 b0, gR_8_4 b0, gI_8_5 b0, gP_8_5 b0, gI_8_6 b0, gP_8_6 b0, hgm, gO_2 b2, gR_2_0 b2, gR_2_1 b2, gR_2_2 b2, gR_2_3 b2, gI_2_4 b2, gP_2_4 b2, gI_2_5 b2, gP_2_5 b2, gI_2_6 b2, gP_2_6 b2, gI_2_7 b2, gP_2_7 b2, gI_2_8 b2, gP_2_8 b2, pu, iLE_f (show gs 0 7 < st by omega), cI_s, cL_s, cF_s, cD_s, cA_s, cV_s, nI_add, cond_true, cond_false, if_true, if_false]
          · rw [hm50, iLT_t (show gs 0 7 < st by omega) (by omega), QX11_bet_49, QX11_bet_50]
            simp (disch := omega) only [gO_9 hM0, gI_9_0 hM0, gP_9_0 hM0, gR_9_1 hM0, gR_9_2 hM0, gI_9_3 hM0, gP_9_3 hM0, gI_9_4 hM0, gP_9_4 hM0, gR_9_5 hM0, gR_9_6 hM0, gR_9_7 hM0, gI_9_8 hM0, gP_9_8 hM0, gI_9_9 hM0, gP_9_9 hM0, gI_9_10 hM0, gP_9_10 hM0, gI_9_11 hM0, gP_9_11 hM0, gI_9_12 hM0, gP_9_12 hM0, gI_9_13 hM0, gP_9_13 hM0, gI_9_14 hM0, gP_9_14 hM0, gI_9_15 hM0, gP_9_15 hM0, gI_9_16 hM0, gP_9_16 hM0, gR_9_17 hM0, gR_9_18 hM0, gR_9_19 hM0, gR_9_20 hM0, gI_9_21 hM0, gP_9_21 hM0, gI_9_22 hM0, gP_9_22 hM0, gI_9_23 hM0, gP_9_23 hM0, gI_9_24 hM0, gP_9_24 hM0, gR_9_25 hM0, gI_9_26 hM0, gP_9_26 hM0, gI_9_27 hM0, gP_9_27 hM0, gI_9_28 hM0, gP_9_28 hM0, gL_9_29 hM0, gP_9_29 hM0, gL_9_30 hM0, gP_9_30 hM0, cI_s, cL_s, cF_s, cD_s, cA_s, cV_s, nI_add, cond_true, cond_false, if_true, if_false]
            rw [m_right0 mZ_0 (by omega) (by omega)]
            simp (disch := omega) only [iEQ_t, QX11_bet_57, cI_s, cL_s, cF_s, cD_s, cA_s, cV_s, nI_add, cond_true, cond_false, if_true, if_false]
      · exact hbad _ (fun z => by
          have : st = 0 := by omega
          subst this
          exact nI_ge (by omega) (by omega) z.1)
    · exact hbad _ (fun z => by
        rcases h' with h' | h'
        · exact absurd (Int32.lt_of_le_of_lt z.1 h') (by decide)
        · exact nI_ge (show 999 < 1000 by omega) (by omega) (Int32.le_trans h' z.2))
  · refine oT_ex (k := 0) (ex := 1) (v := .int (nI 0)) (RR_mo (RR_ro RGh RIh frm_rf (frU_sS frU_Z (by omega))) (by omega)) rfl ?_ ?_ sS_s
    · rw [eX10_bet, QX10_bet_0]
      simp (disch := omega) only [ble_t, Bool.and_self, gO_8 b0, gR_8_0 b0, gR_8_1 b0, gR_8_2 b0, gR_8_3 b0, gR_8_4 b0, gI_8_5 b0, gP_8_5 b0, gI_8_6 b0, gP_8_6 b0, cI_s, cL_s, cF_s, cD_s, cA_s, cV_s, nI_add, cond_true, cond_false, if_true, if_false]
      rw [c_place_f hc c5 hw P h]
      simp (disch := omega) only [cV_x, cI_s, cL_s, cF_s, cD_s, cA_s, cV_s, nI_add, cond_true, cond_false, if_true, if_false]
    · rw [eX11_bet, QX11_bet_0]
      simp (disch := omega) only [gO_9 hM0, gI_9_0 hM0, gP_9_0 hM0, gR_9_1 hM0, gR_9_2 hM0, gI_9_3 hM0, gP_9_3 hM0, gI_9_4 hM0, gP_9_4 hM0, gR_9_5 hM0, gR_9_6 hM0, gR_9_7 hM0, gI_9_8 hM0, gP_9_8 hM0, gI_9_9 hM0, gP_9_9 hM0, gI_9_10 hM0, gP_9_10 hM0, gI_9_11 hM0, gP_9_11 hM0, gI_9_12 hM0, gP_9_12 hM0, gI_9_13 hM0, gP_9_13 hM0, gI_9_14 hM0, gP_9_14 hM0, gI_9_15 hM0, gP_9_15 hM0, gI_9_16 hM0, gP_9_16 hM0, gR_9_17 hM0, gR_9_18 hM0, gR_9_19 hM0, gR_9_20 hM0, gI_9_21 hM0, gP_9_21 hM0, gI_9_22 hM0, gP_9_22 hM0, gI_9_23 hM0, gP_9_23 hM0, gI_9_24 hM0, gP_9_24 hM0, gR_9_25 hM0, gI_9_26 hM0, gP_9_26 hM0, gI_9_27 hM0, gP_9_27 hM0, gI_9_28 hM0, gP_9_28 hM0, gL_9_29 hM0, gP_9_29 hM0, gL_9_30 hM0, gP_9_30 hM0, cI_s, cL_s, cF_s, cD_s, cA_s, cV_s, nI_add, cond_true, cond_false, if_true, if_false]
      rw [show sS M 0 0 (nI 0) = mZ M from rfl, g_isPlaceF GZ I h]
      simp (disch := omega) only [gO_9 hM0, gI_9_0 hM0, gP_9_0 hM0, gR_9_1 hM0, gR_9_2 hM0, gI_9_3 hM0, gP_9_3 hM0, gI_9_4 hM0, gP_9_4 hM0, gR_9_5 hM0, gR_9_6 hM0, gR_9_7 hM0, gI_9_8 hM0, gP_9_8 hM0, gI_9_9 hM0, gP_9_9 hM0, gI_9_10 hM0, gP_9_10 hM0, gI_9_11 hM0, gP_9_11 hM0, gI_9_12 hM0, gP_9_12 hM0, gI_9_13 hM0, gP_9_13 hM0, gI_9_14 hM0, gP_9_14 hM0, gI_9_15 hM0, gP_9_15 hM0, gI_9_16 hM0, gP_9_16 hM0, gR_9_17 hM0, gR_9_18 hM0, gR_9_19 hM0, gR_9_20 hM0, gI_9_21 hM0, gP_9_21 hM0, gI_9_22 hM0, gP_9_22 hM0, gI_9_23 hM0, gP_9_23 hM0, gI_9_24 hM0, gP_9_24 hM0, gR_9_25 hM0, gI_9_26 hM0, gP_9_26 hM0, gI_9_27 hM0, gP_9_27 hM0, gI_9_28 hM0, gP_9_28 hM0, gL_9_29 hM0, gP_9_29 hM0, gL_9_30 hM0, gP_9_30 hM0, cI_s, cL_s, cF_s, cD_s, cA_s, cV_s, nI_add, cond_true, cond_false, if_true, if_false]
      rw [m_right0 mZ_0 (by omega) (by omega)]
      simp (disch := omega) only [iEQ_t, QX11_bet_57, cI_s, cL_s, cF_s, cD_s, cA_s, cV_s, nI_add, cond_true, cond_false, if_true, if_false]
theorem T_scratch (hc : hC sh) (R : RR S M Bd) (a : Int32) (b : Bool) (d u : Nat) : oT E x y n m sh [1] (Bd + 1) 0 (xsem xT E (d + 4) kX10_scratch [.ref x, .int a, .int (nI b.toNat)] (wW E x sh S, n)) (xsem xT E (u + 4) kX11_scratch [.ref y, .int a, .int (nI b.toNat)] (wW E y shM M, m)) := by
  obtain ⟨gs, w, un, tx, len, RGh, RIh⟩ := R
  obtain ⟨c5, c6, c3, c4, hw, hun⟩ := RGh.1
  obtain ⟨P, G, I, F, t2, t3⟩ := RGh.2 0 (Nat.zero_le _)
  rw [ix_0 hw] at P G
  have hw' : (w + 1) % 9 < 9 := Nat.mod_lt _ (by omega)
  have b0 := hc.1
  have hG := hc.2.2.2.2.2.2 w hw
  have hG' := hc.2.2.2.2.2.2 _ hw'
  have b2 := hG.1
  have b2' := hG'.1
  have h2 := I.1.1
  have h8 := I.1.2.1
  have hgm := fun d => c_game (E := E) (x := x) (n := n) hc c5 hw d
  have GZ := GM_Z c3 hw G
  rcases i32_c a (b := gs 0 0) (by omega) with ⟨p, hp, rfl⟩ | h
  · obtain ⟨S1, M1, a1, a2, a3, a4, a5, a6, e1, e2, e3, e4, e5, e6, e7⟩ := j_change (E := E) (x := x) (y := y) (n := n) (m := m) hc RGh d (u + 1)
    have b5' := hG'.2.1
    have hs12 := I.2.1 p (by omega)
    have hrl := iG_rg I p (by omega)
    have hbl : b.toNat ≤ 1 := by cases b <;> decide
    have r0 : S1.1 (27 + 12 * ((w + 1) % 9) + 1) 0 = nI (gs 0 0) := a4.1.1
    have rs : S1.1 (27 + 12 * ((w + 1) % 9) + 1) 2 = nI (gSet (gs 0) (gs 0 0)) := a4.1.2.2.1
    have hsl : gSet (gs 0) (gs 0 0) < 256 := gSet_lt _ _ h8
    have hbit : bbit (gSet (gs 0) (gs 0 0)) p = rg (gs 0) p := by rw [gSet_bit _ (iG_rg I) _ h8 _ (by omega), if_pos hp]
    have P2 := pG_28 I a4 hp b
    have f2 : frm (27 + 12 * ((w + 1) % 9)) (27 + 12 * ((w + 1) % 9) + 12) S1 (sS S1 (27 + 12 * ((w + 1) % 9) + 1) 2 (nI (bset (gSet (gs 0) (gs 0 0)) p b))) := frm_sS (by omega) (by omega)
    obtain ⟨M2, k1, G2, fs2⟩ := g_put (E := E) (y := y) (m := m) e2 (k := 28 + gs 0 (12 + p)) (v := b.toNat) (by omega) (u + 2)
    have o : ∀ i, i < 28 ∨ 36 ≤ i → updN (gs 0) (28 + gs 0 (12 + p)) b.toNat i = gs 0 i := fun i hi => updN_n (by omega)
    have I' : iG (updN (gs 0) (28 + gs 0 (12 + p)) b.toNat) := iG_cg I (fun i _ _ _ _ _ h => o i h) (by rw [o 7 (by omega)]; exact I.1.2.2.2.2.2.2.2.2.1) (by rw [o 10 (by omega)]; exact I.1.2.2.2.2.2.2.2.2.2) (fun q hq => by
      unfold updN
      split
      · exact hbl
      · exact I.2.2.2.2.1 q hq)
    have F' : iFo (updN (gs 0) (28 + gs 0 (12 + p)) b.toNat) := iFo_cg (o 11 (by omega)) (fun i hi => o i (by omega)) F
    refine oT_ok (RR_st RGh RIh (by omega) a2 a3 a5 e3 e4 e6 e7 f2 P2 G2 fs2 I' F' (by rw [o 2 (by omega)]; omega) (by rw [o 3 (by omega)]; omega)) (v := .int (nI (rg (gs 0) p))) ?_ ?_ (by rw [fs2.1]; exact e5)
    · have hb01 : rg (gs 0) p = 0 ∨ rg (gs 0) p = 1 := by omega
      rw [eX10_scratch, QX10_scratch_0]
      simp (disch := omega) only [ble_t, Bool.and_self, gO_8 b0, gR_8_0 b0, gR_8_1 b0, gR_8_2 b0, gR_8_3 b0, gR_8_4 b0, gI_8_5 b0, gP_8_5 b0, gI_8_6 b0, gP_8_6 b0, cI_s, cL_s, cF_s, cD_s, cA_s, cV_s, nI_add, cond_true, cond_false, if_true, if_false]
      rw [c_place_t hc c5 hw P I hp]
      simp (disch := omega) only [ble_t, Bool.and_self, gO_8 b0, gR_8_0 b0, gR_8_1 b0, gR_8_2 b0, gR_8_3 b0, gR_8_4 b0, gI_8_5 b0, gP_8_5 b0, gI_8_6 b0, gP_8_6 b0, cI_s, cL_s, cF_s, cD_s, cA_s, cV_s, nI_add, cond_true, cond_false, if_true, if_false]
      rw [a1]
      simp (disch := omega) only [ble_t, Bool.and_self, gO_2 b2', gR_2_0 b2', gR_2_1 b2', gR_2_2 b2', gR_2_3 b2', gI_2_4 b2', gP_2_4 b2', gI_2_5 b2', gP_2_5 b2', gI_2_6 b2', gP_2_6 b2', gI_2_7 b2', gP_2_7 b2', gI_2_8 b2', gP_2_8 b2', gO_5 b5', gI_5_0 b5', gP_5_0 b5', gI_5_1 b5', gP_5_1 b5', gI_5_2 b5', gP_5_2 b5', gR_5_3 b5', gR_5_4 b5', cI_s, cL_s, cF_s, cD_s, cA_s, cV_s, nI_add, cond_true, cond_false, if_true, if_false]
      rw [s5_isScratched b5' r0 h8 rs hsl hp, hbit]
      simp (disch := omega) only [ble_t, Bool.and_self, gO_5 b5', gI_5_0 b5', gP_5_0 b5', gI_5_1 b5', gP_5_1 b5', gI_5_2 b5', gP_5_2 b5', gR_5_3 b5', gR_5_4 b5', cI_s, cL_s, cF_s, cD_s, cA_s, cV_s, nI_add, cond_true, cond_false, if_true, if_false]
      rw [s5_setScratched b5' r0 h8 rs hsl hp b]
      rcases hb01 with z | z
      · rw [z]
        simp (disch := omega) only [xret5_0, cI_s, cL_s, cF_s, cD_s, cA_s, cV_s, nI_add, cond_true, cond_false, if_true, if_false]
      · rw [z]
        simp (disch := omega) only [xret5_1, cI_s, cL_s, cF_s, cD_s, cA_s, cV_s, nI_add, cond_true, cond_false, if_true, if_false]
    · have h63 : ∀ z : Nat, z = b.toNat → ∀ v : Int32, qX11_scratch_63 E (u + 3) v y (nI (28 + gs 0 (12 + p))) (nI z) (wW E y shM M1, m) = xiret [5] v (some (.inl (some (.int v)), (wW E y shM M2, m))) := by
        intro z hz v
        subst hz
        rw [QX11_scratch_63]
        simp (disch := omega) only [gO_9 hM0, gI_9_0 hM0, gP_9_0 hM0, gR_9_1 hM0, gR_9_2 hM0, gI_9_3 hM0, gP_9_3 hM0, gI_9_4 hM0, gP_9_4 hM0, gR_9_5 hM0, gR_9_6 hM0, gR_9_7 hM0, gI_9_8 hM0, gP_9_8 hM0, gI_9_9 hM0, gP_9_9 hM0, gI_9_10 hM0, gP_9_10 hM0, gI_9_11 hM0, gP_9_11 hM0, gI_9_12 hM0, gP_9_12 hM0, gI_9_13 hM0, gP_9_13 hM0, gI_9_14 hM0, gP_9_14 hM0, gI_9_15 hM0, gP_9_15 hM0, gI_9_16 hM0, gP_9_16 hM0, gR_9_17 hM0, gR_9_18 hM0, gR_9_19 hM0, gR_9_20 hM0, gI_9_21 hM0, gP_9_21 hM0, gI_9_22 hM0, gP_9_22 hM0, gI_9_23 hM0, gP_9_23 hM0, gI_9_24 hM0, gP_9_24 hM0, gR_9_25 hM0, gI_9_26 hM0, gP_9_26 hM0, gI_9_27 hM0, gP_9_27 hM0, gI_9_28 hM0, gP_9_28 hM0, gL_9_29 hM0, gP_9_29 hM0, gL_9_30 hM0, gP_9_30 hM0, cI_s, cL_s, cF_s, cD_s, cA_s, cV_s, nI_add, cond_true, cond_false, if_true, if_false]
        rw [k1]
        simp (disch := omega) only [cI_s, cL_s, cF_s, cD_s, cA_s, cV_s, nI_add, cond_true, cond_false, if_true, if_false]
      have h50 : ∀ v : Int32, qX11_scratch_50 E (u + 3) y (nI b.toNat) (nI (28 + gs 0 (12 + p))) v (wW E y shM M1, m) = xiret [5] v (some (.inl (some (.int v)), (wW E y shM M2, m))) := by
        intro v
        rw [QX11_scratch_50]
        cases hbb : b with
        | true => rw [show nI true.toNat = nI 1 from rfl, iEQ_f (by omega) (by omega) (by omega), h63 1 (by rw [hbb]; rfl)]
        | false => rw [show nI false.toNat = nI 0 from rfl, iEQ_t rfl, QX11_scratch_62, h63 0 (by rw [hbb]; rfl)]
      rw [eX11_scratch, QX11_scratch_0]
      simp (disch := omega) only [gO_9 hM0, gI_9_0 hM0, gP_9_0 hM0, gR_9_1 hM0, gR_9_2 hM0, gI_9_3 hM0, gP_9_3 hM0, gI_9_4 hM0, gP_9_4 hM0, gR_9_5 hM0, gR_9_6 hM0, gR_9_7 hM0, gI_9_8 hM0, gP_9_8 hM0, gI_9_9 hM0, gP_9_9 hM0, gI_9_10 hM0, gP_9_10 hM0, gI_9_11 hM0, gP_9_11 hM0, gI_9_12 hM0, gP_9_12 hM0, gI_9_13 hM0, gP_9_13 hM0, gI_9_14 hM0, gP_9_14 hM0, gI_9_15 hM0, gP_9_15 hM0, gI_9_16 hM0, gP_9_16 hM0, gR_9_17 hM0, gR_9_18 hM0, gR_9_19 hM0, gR_9_20 hM0, gI_9_21 hM0, gP_9_21 hM0, gI_9_22 hM0, gP_9_22 hM0, gI_9_23 hM0, gP_9_23 hM0, gI_9_24 hM0, gP_9_24 hM0, gR_9_25 hM0, gI_9_26 hM0, gP_9_26 hM0, gI_9_27 hM0, gP_9_27 hM0, gI_9_28 hM0, gP_9_28 hM0, gL_9_29 hM0, gP_9_29 hM0, gL_9_30 hM0, gP_9_30 hM0, cI_s, cL_s, cF_s, cD_s, cA_s, cV_s, nI_add, cond_true, cond_false, if_true, if_false]
      rw [show sS M 0 0 (nI 0) = mZ M from rfl, g_isPlaceT GZ I hp]
      simp (disch := omega) only [gO_9 hM0, gI_9_0 hM0, gP_9_0 hM0, gR_9_1 hM0, gR_9_2 hM0, gI_9_3 hM0, gP_9_3 hM0, gI_9_4 hM0, gP_9_4 hM0, gR_9_5 hM0, gR_9_6 hM0, gR_9_7 hM0, gI_9_8 hM0, gP_9_8 hM0, gI_9_9 hM0, gP_9_9 hM0, gI_9_10 hM0, gP_9_10 hM0, gI_9_11 hM0, gP_9_11 hM0, gI_9_12 hM0, gP_9_12 hM0, gI_9_13 hM0, gP_9_13 hM0, gI_9_14 hM0, gP_9_14 hM0, gI_9_15 hM0, gP_9_15 hM0, gI_9_16 hM0, gP_9_16 hM0, gR_9_17 hM0, gR_9_18 hM0, gR_9_19 hM0, gR_9_20 hM0, gI_9_21 hM0, gP_9_21 hM0, gI_9_22 hM0, gP_9_22 hM0, gI_9_23 hM0, gP_9_23 hM0, gI_9_24 hM0, gP_9_24 hM0, gR_9_25 hM0, gI_9_26 hM0, gP_9_26 hM0, gI_9_27 hM0, gP_9_27 hM0, gI_9_28 hM0, gP_9_28 hM0, gL_9_29 hM0, gP_9_29 hM0, gL_9_30 hM0, gP_9_30 hM0, cI_s, cL_s, cF_s, cD_s, cA_s, cV_s, nI_add, cond_true, cond_false, if_true, if_false]
      rw [m_right1 mZ_0]
      simp (disch := omega) only [iEQ_f, QX11_scratch_20, gO_9 hM0, gI_9_0 hM0, gP_9_0 hM0, gR_9_1 hM0, gR_9_2 hM0, gI_9_3 hM0, gP_9_3 hM0, gI_9_4 hM0, gP_9_4 hM0, gR_9_5 hM0, gR_9_6 hM0, gR_9_7 hM0, gI_9_8 hM0, gP_9_8 hM0, gI_9_9 hM0, gP_9_9 hM0, gI_9_10 hM0, gP_9_10 hM0, gI_9_11 hM0, gP_9_11 hM0, gI_9_12 hM0, gP_9_12 hM0, gI_9_13 hM0, gP_9_13 hM0, gI_9_14 hM0, gP_9_14 hM0, gI_9_15 hM0, gP_9_15 hM0, gI_9_16 hM0, gP_9_16 hM0, gR_9_17 hM0, gR_9_18 hM0, gR_9_19 hM0, gR_9_20 hM0, gI_9_21 hM0, gP_9_21 hM0, gI_9_22 hM0, gP_9_22 hM0, gI_9_23 hM0, gP_9_23 hM0, gI_9_24 hM0, gP_9_24 hM0, gR_9_25 hM0, gI_9_26 hM0, gP_9_26 hM0, gI_9_27 hM0, gP_9_27 hM0, gI_9_28 hM0, gP_9_28 hM0, gL_9_29 hM0, gP_9_29 hM0, gL_9_30 hM0, gP_9_30 hM0, cI_s, cL_s, cF_s, cD_s, cA_s, cV_s, nI_add, cond_true, cond_false, if_true, if_false]
      rw [e1]
      simp (disch := omega) only [gO_9 hM0, gI_9_0 hM0, gP_9_0 hM0, gR_9_1 hM0, gR_9_2 hM0, gI_9_3 hM0, gP_9_3 hM0, gI_9_4 hM0, gP_9_4 hM0, gR_9_5 hM0, gR_9_6 hM0, gR_9_7 hM0, gI_9_8 hM0, gP_9_8 hM0, gI_9_9 hM0, gP_9_9 hM0, gI_9_10 hM0, gP_9_10 hM0, gI_9_11 hM0, gP_9_11 hM0, gI_9_12 hM0, gP_9_12 hM0, gI_9_13 hM0, gP_9_13 hM0, gI_9_14 hM0, gP_9_14 hM0, gI_9_15 hM0, gP_9_15 hM0, gI_9_16 hM0, gP_9_16 hM0, gR_9_17 hM0, gR_9_18 hM0, gR_9_19 hM0, gR_9_20 hM0, gI_9_21 hM0, gP_9_21 hM0, gI_9_22 hM0, gP_9_22 hM0, gI_9_23 hM0, gP_9_23 hM0, gI_9_24 hM0, gP_9_24 hM0, gR_9_25 hM0, gI_9_26 hM0, gP_9_26 hM0, gI_9_27 hM0, gP_9_27 hM0, gI_9_28 hM0, gP_9_28 hM0, gL_9_29 hM0, gP_9_29 hM0, gL_9_30 hM0, gP_9_30 hM0, cI_s, cL_s, cF_s, cD_s, cA_s, cV_s, nI_add, cond_true, cond_false, if_true, if_false]
      rw [g_get e2 (show 12 + p < 1100 by omega)]
      simp (disch := omega) only [gO_9 hM0, gI_9_0 hM0, gP_9_0 hM0, gR_9_1 hM0, gR_9_2 hM0, gI_9_3 hM0, gP_9_3 hM0, gI_9_4 hM0, gP_9_4 hM0, gR_9_5 hM0, gR_9_6 hM0, gR_9_7 hM0, gI_9_8 hM0, gP_9_8 hM0, gI_9_9 hM0, gP_9_9 hM0, gI_9_10 hM0, gP_9_10 hM0, gI_9_11 hM0, gP_9_11 hM0, gI_9_12 hM0, gP_9_12 hM0, gI_9_13 hM0, gP_9_13 hM0, gI_9_14 hM0, gP_9_14 hM0, gI_9_15 hM0, gP_9_15 hM0, gI_9_16 hM0, gP_9_16 hM0, gR_9_17 hM0, gR_9_18 hM0, gR_9_19 hM0, gR_9_20 hM0, gI_9_21 hM0, gP_9_21 hM0, gI_9_22 hM0, gP_9_22 hM0, gI_9_23 hM0, gP_9_23 hM0, gI_9_24 hM0, gP_9_24 hM0, gR_9_25 hM0, gI_9_26 hM0, gP_9_26 hM0, gI_9_27 hM0, gP_9_27 hM0, gI_9_28 hM0, gP_9_28 hM0, gL_9_29 hM0, gP_9_29 hM0, gL_9_30 hM0, gP_9_30 hM0, cI_s, cL_s, cF_s, cD_s, cA_s, cV_s, nI_add, cond_true, cond_false, if_true, if_false]
      rw [g_get e2 (show 28 + gs 0 (12 + p) < 1100 by omega)]
      simp (disch := omega) only [cI_s, cL_s, cF_s, cD_s, cA_s, cV_s, nI_add, cond_true, cond_false, if_true, if_false]
      have hrg : gs 0 (28 + gs 0 (12 + p)) = rg (gs 0) p := rfl
      rw [hrg]
      by_cases z : rg (gs 0) p = 1
      · rw [iEQ_t z, h50, z, xret5_1]
      · rw [iEQ_f z (by omega) (by omega), QX11_scratch_49, h50, show rg (gs 0) p = 0 by omega, xret5_0]
  · refine oT_ex (k := 0) (ex := 1) (v := .int (nI 0)) (RR_mo (RR_ro RGh RIh frm_rf (frU_sS frU_Z (by omega))) (by omega)) rfl ?_ ?_ sS_s
    · rw [eX10_scratch, QX10_scratch_0]
      simp (disch := omega) only [ble_t, Bool.and_self, gO_8 b0, gR_8_0 b0, gR_8_1 b0, gR_8_2 b0, gR_8_3 b0, gR_8_4 b0, gI_8_5 b0, gP_8_5 b0, gI_8_6 b0, gP_8_6 b0, cI_s, cL_s, cF_s, cD_s, cA_s, cV_s, nI_add, cond_true, cond_false, if_true, if_false]
      rw [c_place_f hc c5 hw P h]
      simp (disch := omega) only [cV_x, cI_s, cL_s, cF_s, cD_s, cA_s, cV_s, nI_add, cond_true, cond_false, if_true, if_false]
    · rw [eX11_scratch, QX11_scratch_0]
      simp (disch := omega) only [gO_9 hM0, gI_9_0 hM0, gP_9_0 hM0, gR_9_1 hM0, gR_9_2 hM0, gI_9_3 hM0, gP_9_3 hM0, gI_9_4 hM0, gP_9_4 hM0, gR_9_5 hM0, gR_9_6 hM0, gR_9_7 hM0, gI_9_8 hM0, gP_9_8 hM0, gI_9_9 hM0, gP_9_9 hM0, gI_9_10 hM0, gP_9_10 hM0, gI_9_11 hM0, gP_9_11 hM0, gI_9_12 hM0, gP_9_12 hM0, gI_9_13 hM0, gP_9_13 hM0, gI_9_14 hM0, gP_9_14 hM0, gI_9_15 hM0, gP_9_15 hM0, gI_9_16 hM0, gP_9_16 hM0, gR_9_17 hM0, gR_9_18 hM0, gR_9_19 hM0, gR_9_20 hM0, gI_9_21 hM0, gP_9_21 hM0, gI_9_22 hM0, gP_9_22 hM0, gI_9_23 hM0, gP_9_23 hM0, gI_9_24 hM0, gP_9_24 hM0, gR_9_25 hM0, gI_9_26 hM0, gP_9_26 hM0, gI_9_27 hM0, gP_9_27 hM0, gI_9_28 hM0, gP_9_28 hM0, gL_9_29 hM0, gP_9_29 hM0, gL_9_30 hM0, gP_9_30 hM0, cI_s, cL_s, cF_s, cD_s, cA_s, cV_s, nI_add, cond_true, cond_false, if_true, if_false]
      rw [show sS M 0 0 (nI 0) = mZ M from rfl, g_isPlaceF GZ I h]
      simp (disch := omega) only [gO_9 hM0, gI_9_0 hM0, gP_9_0 hM0, gR_9_1 hM0, gR_9_2 hM0, gI_9_3 hM0, gP_9_3 hM0, gI_9_4 hM0, gP_9_4 hM0, gR_9_5 hM0, gR_9_6 hM0, gR_9_7 hM0, gI_9_8 hM0, gP_9_8 hM0, gI_9_9 hM0, gP_9_9 hM0, gI_9_10 hM0, gP_9_10 hM0, gI_9_11 hM0, gP_9_11 hM0, gI_9_12 hM0, gP_9_12 hM0, gI_9_13 hM0, gP_9_13 hM0, gI_9_14 hM0, gP_9_14 hM0, gI_9_15 hM0, gP_9_15 hM0, gI_9_16 hM0, gP_9_16 hM0, gR_9_17 hM0, gR_9_18 hM0, gR_9_19 hM0, gR_9_20 hM0, gI_9_21 hM0, gP_9_21 hM0, gI_9_22 hM0, gP_9_22 hM0, gI_9_23 hM0, gP_9_23 hM0, gI_9_24 hM0, gP_9_24 hM0, gR_9_25 hM0, gI_9_26 hM0, gP_9_26 hM0, gI_9_27 hM0, gP_9_27 hM0, gI_9_28 hM0, gP_9_28 hM0, gL_9_29 hM0, gP_9_29 hM0, gL_9_30 hM0, gP_9_30 hM0, cI_s, cL_s, cF_s, cD_s, cA_s, cV_s, nI_add, cond_true, cond_false, if_true, if_false]
      rw [m_right0 mZ_0 (by omega) (by omega)]
      simp (disch := omega) only [iEQ_t, xret5_0, cI_s, cL_s, cF_s, cD_s, cA_s, cV_s, nI_add, cond_true, cond_false, if_true, if_false]
end CH3
