/-! ROUNDS OF SHELLS: the class; rows that so many swaps make. -/
section FEW2
variable {E : xEn} {x n : Nat} {sh : Nat → Option xSh} {S : xSt} {q o : Nat} {g : Nat → Nat}
theorem l5_few1 (a1 : sh o = some (sh5 o)) (a2 : sh (o + 1) = some (1, 8, [])) (P : pRw S o g) (H : iG g) (x2 x3 : Int32) (d : Nat) :
    ∀ m i v q, i + m = g 0 → v < 256 → q < g 0 → qX5_swapsToFirst_31 E d (x + o) (nI v) x2 x3 (nI q) (nI i) (wW E x sh S, n) = qX5_swapsToFirst_71 E d (x + o) (nI (fwV (gSh g) m v q)) x2 x3 (wW E x sh S, n) := by
  have h8 := H.1.2.1
  have hs2 := H.2.2.1
  obtain ⟨r0, r1, r2, r3, r4⟩ := P
  intro m
  induction m with
  | zero =>
    intro i v q hi hv hq
    have hi : i = g 0 := hi
    rw [QX5_swapsToFirst_31]
    simp (disch := omega) only [gO_5 a1, gI_5_0 a1, gP_5_0 a1, gI_5_1 a1, gP_5_1 a1, gI_5_2 a1, gP_5_2 a1, gR_5_3 a1, gR_5_4 a1, r0, iLE_t, cI_s, cL_s, cF_s, cD_s, cA_s, cV_s, nI_add, cond_true, cond_false, if_true, if_false]
    rfl
  | succ m ih =>
    intro i v q hi hv hq
    rw [show fwV (gSh g) (m + 1) v q = if v.testBit q then v else fwV (gSh g) m (bset v q true) (gSh g q) from rfl]
    rw [QX5_swapsToFirst_31, bb_get v hv q (by omega)]
    cases hb : v.testBit q with
    | true =>
      rw [if_pos rfl, bbit_tt hb]
      simp (disch := omega) only [gO_5 a1, gI_5_0 a1, gP_5_0 a1, gI_5_1 a1, gP_5_1 a1, gI_5_2 a1, gP_5_2 a1, gR_5_3 a1, gR_5_4 a1, r0, iLE_f, iEQ_f, cI_s, cL_s, cF_s, cD_s, cA_s, cV_s, nI_add, cond_true, cond_false, if_true, if_false]
    | false =>
      rw [bbit_f hb, bb_or v hv q (by omega)]
      simp (disch := omega) only [gO_5 a1, gI_5_0 a1, gP_5_0 a1, gI_5_1 a1, gP_5_1 a1, gI_5_2 a1, gP_5_2 a1, gR_5_3 a1, gR_5_4 a1, r0, iLE_f, iEQ_t, aI_w a2, r3 q (by omega), Bool.false_eq_true, cI_s, cL_s, cF_s, cD_s, cA_s, cV_s, nI_add, cond_true, cond_false, if_true, if_false]
      exact ih (i + 1) _ _ (by omega) (bset_lt true v hv q (by omega)) (hs2 q hq)
theorem l5_few2 (a1 : sh o = some (sh5 o)) (a2 : sh (o + 1) = some (1, 8, [])) (P : pRw S o g) (H : iG g) (d : Nat) :
    ∀ k p, p + k = g 0 → qX5_swapsToFirst_6 E d (x + o) (nI (cyV (gSh g) (g 0) p)) (nI (cyR (gSh g) (g 0) p)) (nI p) (wW E x sh S, n) = some (.inl (some (.int (nI (g 0 - cyR (gSh g) (g 0) (g 0))))), (wW E x sh S, n)) := by
  have h8 := H.1.2.1
  have P' := P
  obtain ⟨r0, r1, r2, r3, r4⟩ := P
  have hall := cy_all h8 (s := gSh g) (fun q hq => H.2.2.1 q hq) (fun a b ha hb h => H.2.2.2.1 a b ha hb h)
  intro k
  induction k with
  | zero =>
    intro p hp
    have hp : p = g 0 := hp
    have hR := (hall (g 0) (Nat.le_refl _)).2.2.2.2
    rw [QX5_swapsToFirst_6, hp]
    simp (disch := omega) only [gO_5 a1, gI_5_0 a1, gP_5_0 a1, gI_5_1 a1, gP_5_1 a1, gI_5_2 a1, gP_5_2 a1, gR_5_3 a1, gR_5_4 a1, r0, iLE_t, QX5_swapsToFirst_77, pk_sub, cI_s, cL_s, cF_s, cD_s, cA_s, cV_s, nI_add, cond_true, cond_false, if_true, if_false]
  | succ k ih =>
    intro p hp
    have hv := (hall p (by omega)).1
    have hR := (hall p (by omega)).2.2.2.2
    have ih := ih (p + 1) (by omega)
    rw [show cyV (gSh g) (g 0) (p + 1) = fwV (gSh g) (g 0) (cyV (gSh g) (g 0) p) p from rfl, show cyR (gSh g) (g 0) (p + 1) = if (cyV (gSh g) (g 0) p).testBit p then cyR (gSh g) (g 0) p else cyR (gSh g) (g 0) p + 1 from rfl] at ih
    rw [← ih, QX5_swapsToFirst_6, bb_get _ hv p (by omega)]
    cases hb : (cyV (gSh g) (g 0) p).testBit p with
    | true =>
      rw [bbit_tt hb, if_pos rfl]
      simp (disch := omega) only [gO_5 a1, gI_5_0 a1, gP_5_0 a1, gI_5_1 a1, gP_5_1 a1, gI_5_2 a1, gP_5_2 a1, gR_5_3 a1, gR_5_4 a1, r0, iLE_f, iEQ_f, cI_s, cL_s, cF_s, cD_s, cA_s, cV_s, nI_add, cond_true, cond_false, if_true, if_false]
      rw [QX5_swapsToFirst_25, l5_few1 a1 a2 P' H _ _ d (g 0) 0 _ p (by omega) hv (by omega), QX5_swapsToFirst_71]
      simp (disch := omega) only [cI_s, cL_s, cF_s, cD_s, cA_s, cV_s, nI_add, cond_true, cond_false, if_true, if_false]
    | false =>
      rw [bbit_f hb]
      simp (disch := omega) only [gO_5 a1, gI_5_0 a1, gP_5_0 a1, gI_5_1 a1, gP_5_1 a1, gI_5_2 a1, gP_5_2 a1, gR_5_3 a1, gR_5_4 a1, r0, iLE_f, iEQ_t, Bool.false_eq_true, cI_s, cL_s, cF_s, cD_s, cA_s, cV_s, nI_add, cond_true, cond_false, if_true, if_false]
      rw [QX5_swapsToFirst_25, l5_few1 a1 a2 P' H _ _ d (g 0) 0 _ p (by omega) hv (by omega), QX5_swapsToFirst_71]
      simp (disch := omega) only [cI_s, cL_s, cF_s, cD_s, cA_s, cV_s, nI_add, cond_true, cond_false, if_true, if_false]
theorem s5_swapsToFirst (a1 : sh o = some (sh5 o)) (a2 : sh (o + 1) = some (1, 8, [])) (P : pRw S o g) (H : iG g) (d : Nat) :
    xsem xT E (d + 1) kX5_swapsToFirst [.ref (x + o)] (wW E x sh S, n) = some (.inl (some (.int (nI (cyC (gSh g) (g 0) (g 0))))), (wW E x sh S, n)) := by
  have h8 := H.1.2.1
  rw [eX5_swapsToFirst, QX5_swapsToFirst_0, (cy_eq h8 (s := gSh g) (fun q hq => H.2.2.1 q hq) (fun a b ha hb h => H.2.2.2.1 a b ha hb h)).1]
  exact l5_few2 a1 a2 P H d (g 0) 0 (by omega)
end FEW2
